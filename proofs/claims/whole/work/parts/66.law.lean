def LX (p : Program) (l : Launch) (s : State) (m : MethodId) (args : Array Value) (c : Code) (b L : Nat) (xs : Nat → Int32) (D : va_G) (cI cJ : ClassId) : Prop := p.tables.exec = Jvm.exec ∧ c.code = code ∧ c.maxLocals = 7 ∧ s.vm.findClass R_L = some m.cls ∧ (∀ w ∈ wd, w.before args s = true) ∧ va_X b L xs s s.heap ∧ b < s.heap.size ∧ va_K D classes [(cI, .int), (cJ, .long)] s ∧ zTh s ∧ l.stackTraces = false
theorem zth_of {s : State} {H : Heap} {locs : List Loc} (hz : zTh s) (hS : va_S (fun q => s.heap.size ≤ q) s.heap H locs) : ∀ U : State, U.heap = H → s.WarmedH U.vm → zTh U := fun U hU hW => hz.move hW (fun q cell h => by
  have hlt : q < s.heap.size := (Array.getElem?_eq_some_iff.mp h).1
  rw [hU, hS.2.1 q hlt (Nat.not_le.mpr hlt)]
  exact h)
theorem sc_in {j L k : Nat} (hj : j + 6 ≤ L) (hL : L ≤ 3072) (hk : k ≤ 5) : vp_in (nI j + nI k) L := by
  rw [nI_add]
  exact vp_in_nI (by omega) (by omega)
theorem sc0 {j L : Nat} (hj : j + 6 ≤ L) (hL : L ≤ 3072) : vp_in (nI j) L := vp_in_nI (by omega) (by omega)
theorem sc1 {j L : Nat} (hj : j + 6 ≤ L) (hL : L ≤ 3072) : vp_in (nI j + (1 : Int32)) L := sc_in (k := 1) hj hL (by decide)
theorem sc2 {j L : Nat} (hj : j + 6 ≤ L) (hL : L ≤ 3072) : vp_in (nI j + (2 : Int32)) L := sc_in (k := 2) hj hL (by decide)
theorem sc3 {j L : Nat} (hj : j + 6 ≤ L) (hL : L ≤ 3072) : vp_in (nI j + (3 : Int32)) L := sc_in (k := 3) hj hL (by decide)
theorem sc4 {j L : Nat} (hj : j + 6 ≤ L) (hL : L ≤ 3072) : vp_in (nI j + (4 : Int32)) L := sc_in (k := 4) hj hL (by decide)
theorem sc5 {j L : Nat} (hj : j + 6 ≤ L) (hL : L ≤ 3072) : vp_in (nI j + (5 : Int32)) L := sc_in (k := 5) hj hL (by decide)
theorem zz_cmp (x : Int64) : lg_cmp x x = 0 := by
  unfold lg_cmp
  have h : ¬ x < x := by
    intro h
    rw [Int64.lt_iff_toInt_lt] at h
    omega
  simp [h]
theorem zz_updL (g : Nat → Int64) (k : Nat) (x : Int64) : vp_updL g k x k = x := by
  unfold vp_updL
  simp
theorem mw_429 : (Cond.methodLink R_L 42 y_C_put) ∈ wd := mt_1 (List.mem_of_getElem? (i := 189) (by decide +kernel)) (by decide +kernel)
theorem mw_430 : (Cond.code y_C_put b_C_put 3 (some .boolean)) ∈ wd := mt_1 (List.mem_of_getElem? (i := 192) (by decide +kernel)) (by decide +kernel)
theorem mw_431 : (Cond.instanceMethod y_C_put) ∈ wd := mt_1 (List.mem_of_getElem? (i := 190) (by decide +kernel)) (by decide +kernel)
theorem mw_432 : (Cond.selects R_C y_C_put y_C_put) ∈ wd := mt_1 (List.mem_of_getElem? (i := 191) (by decide +kernel)) (by decide +kernel)
theorem mw_433 : (Cond.methodLink R_L 46 y_X_put) ∈ wd := mt_3 (List.mem_of_getElem? (i := 180) (by decide +kernel)) (by decide +kernel)
theorem mw_434 : (Cond.code y_X_put b_X_put 3 (some .boolean)) ∈ wd := mt_3 (List.mem_of_getElem? (i := 183) (by decide +kernel)) (by decide +kernel)
theorem mw_435 : (Cond.instanceMethod y_X_put) ∈ wd := mt_3 (List.mem_of_getElem? (i := 181) (by decide +kernel)) (by decide +kernel)
theorem mw_436 : (Cond.selects R_X y_X_put y_X_put) ∈ wd := mt_3 (List.mem_of_getElem? (i := 182) (by decide +kernel)) (by decide +kernel)
theorem mw_437 : (Cond.methodLink R_L 47 y_L_pool) ∈ wd := mt_2 (List.mem_of_getElem? (i := 19) (by decide +kernel)) (by decide +kernel)
theorem mw_438 : (Cond.static y_L_pool) ∈ wd := mt_2 (List.mem_of_getElem? (i := 20) (by decide +kernel)) (by decide +kernel)
theorem mw_439 : (Cond.initialized y_L_pool.cls) ∈ wd := mt_1 (List.mem_of_getElem? (i := 0) (by decide +kernel)) (by decide +kernel)
theorem mw_440 : (Cond.codeWith y_L_pool b_L_pool 4 (some .int) hs_pool) ∈ wd := mt_2 (List.mem_of_getElem? (i := 21) (by decide +kernel)) (by decide +kernel)
theorem mw_441 : (Cond.methodLink R_L 52 y_X_pool) ∈ wd := mt_3 (List.mem_of_getElem? (i := 184) (by decide +kernel)) (by decide +kernel)
theorem mw_442 : (Cond.code y_X_pool b_X_pool 4 (none)) ∈ wd := mt_3 (List.mem_of_getElem? (i := 187) (by decide +kernel)) (by decide +kernel)
theorem mw_443 : (Cond.instanceMethod y_X_pool) ∈ wd := mt_3 (List.mem_of_getElem? (i := 185) (by decide +kernel)) (by decide +kernel)
theorem mw_444 : (Cond.selects R_X y_X_pool y_X_pool) ∈ wd := mt_3 (List.mem_of_getElem? (i := 186) (by decide +kernel)) (by decide +kernel)
theorem mw_445 : (Cond.methodLink R_L 53 y_X_thrown) ∈ wd := mt_3 (List.mem_of_getElem? (i := 176) (by decide +kernel)) (by decide +kernel)
theorem mw_446 : (Cond.code y_X_thrown b_X_thrown 1 (some .int)) ∈ wd := mt_3 (List.mem_of_getElem? (i := 179) (by decide +kernel)) (by decide +kernel)
theorem mw_447 : (Cond.instanceMethod y_X_thrown) ∈ wd := mt_3 (List.mem_of_getElem? (i := 177) (by decide +kernel)) (by decide +kernel)
theorem mw_448 : (Cond.selects R_X y_X_thrown y_X_thrown) ∈ wd := mt_3 (List.mem_of_getElem? (i := 178) (by decide +kernel)) (by decide +kernel)
theorem mw_449 : (Cond.methodLink R_L 57 y_C_tables) ∈ wd := mt_1 (List.mem_of_getElem? (i := 201) (by decide +kernel)) (by decide +kernel)
theorem mw_450 : (Cond.code y_C_tables b_C_tables 3 (none)) ∈ wd := mt_1 (List.mem_of_getElem? (i := 204) (by decide +kernel)) (by decide +kernel)
theorem mw_451 : (Cond.instanceMethod y_C_tables) ∈ wd := mt_1 (List.mem_of_getElem? (i := 202) (by decide +kernel)) (by decide +kernel)
theorem mw_452 : (Cond.selects R_C y_C_tables y_C_tables) ∈ wd := mt_1 (List.mem_of_getElem? (i := 203) (by decide +kernel)) (by decide +kernel)
theorem mw_453 : (Cond.methodLink R_L 60 y_X_tables) ∈ wd := mt_3 (List.mem_of_getElem? (i := 191) (by decide +kernel)) (by decide +kernel)
theorem mw_454 : (Cond.code y_X_tables b_X_tables 3 (none)) ∈ wd := mt_3 (List.mem_of_getElem? (i := 194) (by decide +kernel)) (by decide +kernel)
theorem mw_455 : (Cond.instanceMethod y_X_tables) ∈ wd := mt_3 (List.mem_of_getElem? (i := 192) (by decide +kernel)) (by decide +kernel)
theorem mw_456 : (Cond.selects R_X y_X_tables y_X_tables) ∈ wd := mt_3 (List.mem_of_getElem? (i := 193) (by decide +kernel)) (by decide +kernel)
theorem mw_457 : (Cond.methodLink R_L 61 y_L_range) ∈ wd := mt_2 (List.mem_of_getElem? (i := 117) (by decide +kernel)) (by decide +kernel)
theorem mw_458 : (Cond.static y_L_range) ∈ wd := mt_2 (List.mem_of_getElem? (i := 118) (by decide +kernel)) (by decide +kernel)
theorem mw_459 : (Cond.initialized y_L_range.cls) ∈ wd := mt_1 (List.mem_of_getElem? (i := 0) (by decide +kernel)) (by decide +kernel)
theorem mw_460 : (Cond.codeWith y_L_range b_L_range 7 (some .int) hs_range) ∈ wd := mt_2 (List.mem_of_getElem? (i := 119) (by decide +kernel)) (by decide +kernel)
theorem mw_461 : (Cond.methodLink R_L 64 y_X_range) ∈ wd := mt_3 (List.mem_of_getElem? (i := 195) (by decide +kernel)) (by decide +kernel)
theorem mw_462 : (Cond.code y_X_range b_X_range 6 (none)) ∈ wd := mt_3 (List.mem_of_getElem? (i := 198) (by decide +kernel)) (by decide +kernel)
theorem mw_463 : (Cond.instanceMethod y_X_range) ∈ wd := mt_3 (List.mem_of_getElem? (i := 196) (by decide +kernel)) (by decide +kernel)
theorem mw_464 : (Cond.selects R_X y_X_range y_X_range) ∈ wd := mt_3 (List.mem_of_getElem? (i := 197) (by decide +kernel)) (by decide +kernel)
theorem mw_465 : (Cond.methodLink R_L 65 y_C_guard) ∈ wd := mt_1 (List.mem_of_getElem? (i := 205) (by decide +kernel)) (by decide +kernel)
theorem mw_466 : (Cond.code y_C_guard b_C_guard 2 (none)) ∈ wd := mt_1 (List.mem_of_getElem? (i := 208) (by decide +kernel)) (by decide +kernel)
theorem mw_467 : (Cond.instanceMethod y_C_guard) ∈ wd := mt_1 (List.mem_of_getElem? (i := 206) (by decide +kernel)) (by decide +kernel)
theorem mw_468 : (Cond.selects R_C y_C_guard y_C_guard) ∈ wd := mt_1 (List.mem_of_getElem? (i := 207) (by decide +kernel)) (by decide +kernel)
theorem mw_469 : (Cond.methodLink R_L 69 y_X_guard) ∈ wd := mt_3 (List.mem_of_getElem? (i := 199) (by decide +kernel)) (by decide +kernel)
theorem mw_470 : (Cond.code y_X_guard b_X_guard 2 (none)) ∈ wd := mt_3 (List.mem_of_getElem? (i := 202) (by decide +kernel)) (by decide +kernel)
theorem mw_471 : (Cond.instanceMethod y_X_guard) ∈ wd := mt_3 (List.mem_of_getElem? (i := 200) (by decide +kernel)) (by decide +kernel)
theorem mw_472 : (Cond.selects R_X y_X_guard y_X_guard) ∈ wd := mt_3 (List.mem_of_getElem? (i := 201) (by decide +kernel)) (by decide +kernel)
theorem mw_473 : (Cond.methodLink R_L 70 y_L_timer) ∈ wd := mt_2 (List.mem_of_getElem? (i := 130) (by decide +kernel)) (by decide +kernel)
theorem mw_474 : (Cond.static y_L_timer) ∈ wd := mt_2 (List.mem_of_getElem? (i := 131) (by decide +kernel)) (by decide +kernel)
theorem mw_475 : (Cond.initialized y_L_timer.cls) ∈ wd := mt_1 (List.mem_of_getElem? (i := 0) (by decide +kernel)) (by decide +kernel)
theorem mw_476 : (Cond.codeWith y_L_timer b_L_timer 4 (some .int) hs_timer) ∈ wd := mt_2 (List.mem_of_getElem? (i := 132) (by decide +kernel)) (by decide +kernel)
theorem mw_477 : (Cond.methodLink R_L 72 y_X_timer) ∈ wd := mt_3 (List.mem_of_getElem? (i := 203) (by decide +kernel)) (by decide +kernel)
theorem mw_478 : (Cond.code y_X_timer b_X_timer 3 (none)) ∈ wd := mt_3 (List.mem_of_getElem? (i := 206) (by decide +kernel)) (by decide +kernel)
theorem mw_479 : (Cond.instanceMethod y_X_timer) ∈ wd := mt_3 (List.mem_of_getElem? (i := 204) (by decide +kernel)) (by decide +kernel)
theorem mw_480 : (Cond.selects R_X y_X_timer y_X_timer) ∈ wd := mt_3 (List.mem_of_getElem? (i := 205) (by decide +kernel)) (by decide +kernel)
theorem mw_481 : (Cond.methodLink R_L 73 y_C_request) ∈ wd := mt_1 (List.mem_of_getElem? (i := 209) (by decide +kernel)) (by decide +kernel)
theorem mw_482 : (Cond.code y_C_request b_C_request 2 (some .boolean)) ∈ wd := mt_1 (List.mem_of_getElem? (i := 212) (by decide +kernel)) (by decide +kernel)
theorem mw_483 : (Cond.instanceMethod y_C_request) ∈ wd := mt_1 (List.mem_of_getElem? (i := 210) (by decide +kernel)) (by decide +kernel)
theorem mw_484 : (Cond.selects R_C y_C_request y_C_request) ∈ wd := mt_1 (List.mem_of_getElem? (i := 211) (by decide +kernel)) (by decide +kernel)
theorem mw_485 : (Cond.methodLink R_L 77 y_X_request) ∈ wd := mt_3 (List.mem_of_getElem? (i := 207) (by decide +kernel)) (by decide +kernel)
theorem mw_486 : (Cond.code y_X_request b_X_request 3 (some .boolean)) ∈ wd := mt_3 (List.mem_of_getElem? (i := 210) (by decide +kernel)) (by decide +kernel)
theorem mw_487 : (Cond.instanceMethod y_X_request) ∈ wd := mt_3 (List.mem_of_getElem? (i := 208) (by decide +kernel)) (by decide +kernel)
theorem mw_488 : (Cond.selects R_X y_X_request y_X_request) ∈ wd := mt_3 (List.mem_of_getElem? (i := 209) (by decide +kernel)) (by decide +kernel)
theorem mw_489 : (Cond.methodLink R_L 78 y_L_start) ∈ wd := mt_2 (List.mem_of_getElem? (i := 138) (by decide +kernel)) (by decide +kernel)
theorem mw_490 : (Cond.static y_L_start) ∈ wd := mt_2 (List.mem_of_getElem? (i := 139) (by decide +kernel)) (by decide +kernel)
theorem mw_491 : (Cond.initialized y_L_start.cls) ∈ wd := mt_1 (List.mem_of_getElem? (i := 0) (by decide +kernel)) (by decide +kernel)
theorem mw_492 : (Cond.codeWith y_L_start b_L_start 5 (some .int) hs_start) ∈ wd := mt_2 (List.mem_of_getElem? (i := 140) (by decide +kernel)) (by decide +kernel)
theorem mw_493 : (Cond.methodLink R_L 81 y_X_start) ∈ wd := mt_3 (List.mem_of_getElem? (i := 211) (by decide +kernel)) (by decide +kernel)
theorem mw_494 : (Cond.code y_X_start b_X_start 4 (none)) ∈ wd := mt_3 (List.mem_of_getElem? (i := 214) (by decide +kernel)) (by decide +kernel)
theorem mw_495 : (Cond.instanceMethod y_X_start) ∈ wd := mt_3 (List.mem_of_getElem? (i := 212) (by decide +kernel)) (by decide +kernel)
theorem mw_496 : (Cond.selects R_X y_X_start y_X_start) ∈ wd := mt_3 (List.mem_of_getElem? (i := 213) (by decide +kernel)) (by decide +kernel)
theorem mw_497 : (Cond.methodLink R_L 82 y_C_halt) ∈ wd := mt_1 (List.mem_of_getElem? (i := 224) (by decide +kernel)) (by decide +kernel)
theorem mw_498 : (Cond.code y_C_halt b_C_halt 2 (some .boolean)) ∈ wd := mt_1 (List.mem_of_getElem? (i := 227) (by decide +kernel)) (by decide +kernel)
theorem mw_499 : (Cond.instanceMethod y_C_halt) ∈ wd := mt_1 (List.mem_of_getElem? (i := 225) (by decide +kernel)) (by decide +kernel)
theorem mw_500 : (Cond.selects R_C y_C_halt y_C_halt) ∈ wd := mt_1 (List.mem_of_getElem? (i := 226) (by decide +kernel)) (by decide +kernel)
theorem mw_501 : (Cond.methodLink R_L 86 y_X_halt) ∈ wd := mt_3 (List.mem_of_getElem? (i := 215) (by decide +kernel)) (by decide +kernel)
theorem mw_502 : (Cond.code y_X_halt b_X_halt 2 (some .boolean)) ∈ wd := mt_3 (List.mem_of_getElem? (i := 218) (by decide +kernel)) (by decide +kernel)
theorem mw_503 : (Cond.instanceMethod y_X_halt) ∈ wd := mt_3 (List.mem_of_getElem? (i := 216) (by decide +kernel)) (by decide +kernel)
theorem mw_504 : (Cond.selects R_X y_X_halt y_X_halt) ∈ wd := mt_3 (List.mem_of_getElem? (i := 217) (by decide +kernel)) (by decide +kernel)
theorem mw_505 : (Cond.methodLink R_L 87 y_L_run) ∈ wd := mt_2 (List.mem_of_getElem? (i := 150) (by decide +kernel)) (by decide +kernel)
theorem mw_506 : (Cond.static y_L_run) ∈ wd := mt_2 (List.mem_of_getElem? (i := 151) (by decide +kernel)) (by decide +kernel)
theorem mw_507 : (Cond.initialized y_L_run.cls) ∈ wd := mt_1 (List.mem_of_getElem? (i := 0) (by decide +kernel)) (by decide +kernel)
theorem mw_508 : (Cond.codeWith y_L_run b_L_run 4 (some .int) hs_run) ∈ wd := mt_2 (List.mem_of_getElem? (i := 152) (by decide +kernel)) (by decide +kernel)
theorem mw_509 : (Cond.methodLink R_L 90 y_X_run) ∈ wd := mt_3 (List.mem_of_getElem? (i := 219) (by decide +kernel)) (by decide +kernel)
theorem mw_510 : (Cond.code y_X_run b_X_run 3 (some .int)) ∈ wd := mt_3 (List.mem_of_getElem? (i := 222) (by decide +kernel)) (by decide +kernel)
theorem mw_511 : (Cond.instanceMethod y_X_run) ∈ wd := mt_3 (List.mem_of_getElem? (i := 220) (by decide +kernel)) (by decide +kernel)
theorem mw_512 : (Cond.selects R_X y_X_run y_X_run) ∈ wd := mt_3 (List.mem_of_getElem? (i := 221) (by decide +kernel)) (by decide +kernel)
theorem mw_513 : (Cond.methodLink R_L 91 y_L_register) ∈ wd := mt_3 (List.mem_of_getElem? (i := 64) (by decide +kernel)) (by decide +kernel)
theorem mw_514 : (Cond.static y_L_register) ∈ wd := mt_3 (List.mem_of_getElem? (i := 65) (by decide +kernel)) (by decide +kernel)
theorem mw_515 : (Cond.initialized y_L_register.cls) ∈ wd := mt_1 (List.mem_of_getElem? (i := 0) (by decide +kernel)) (by decide +kernel)
theorem mw_516 : (Cond.codeWith y_L_register b_L_register 5 (some .int) hs_register) ∈ wd := mt_3 (List.mem_of_getElem? (i := 66) (by decide +kernel)) (by decide +kernel)
theorem mw_517 : (Cond.methodLink R_L 94 y_X_register) ∈ wd := mt_4 (List.mem_of_getElem? (i := 43) (by decide +kernel)) (by decide +kernel)
theorem mw_518 : (Cond.code y_X_register b_X_register 3 (some .int)) ∈ wd := mt_4 (List.mem_of_getElem? (i := 46) (by decide +kernel)) (by decide +kernel)
theorem mw_519 : (Cond.instanceMethod y_X_register) ∈ wd := mt_4 (List.mem_of_getElem? (i := 44) (by decide +kernel)) (by decide +kernel)
theorem mw_520 : (Cond.selects R_X y_X_register y_X_register) ∈ wd := mt_4 (List.mem_of_getElem? (i := 45) (by decide +kernel)) (by decide +kernel)
theorem mw_521 : (Cond.methodLink R_L 95 y_C_word) ∈ wd := mt_1 (List.mem_of_getElem? (i := 228) (by decide +kernel)) (by decide +kernel)
theorem mw_522 : (Cond.code y_C_word b_C_word 2 (some .int)) ∈ wd := mt_1 (List.mem_of_getElem? (i := 231) (by decide +kernel)) (by decide +kernel)
theorem mw_523 : (Cond.instanceMethod y_C_word) ∈ wd := mt_1 (List.mem_of_getElem? (i := 229) (by decide +kernel)) (by decide +kernel)
theorem mw_524 : (Cond.selects R_C y_C_word y_C_word) ∈ wd := mt_1 (List.mem_of_getElem? (i := 230) (by decide +kernel)) (by decide +kernel)
theorem mw_525 : (Cond.methodLink R_L 98 y_X_word) ∈ wd := mt_4 (List.mem_of_getElem? (i := 47) (by decide +kernel)) (by decide +kernel)
theorem mw_526 : (Cond.code y_X_word b_X_word 2 (some .int)) ∈ wd := mt_4 (List.mem_of_getElem? (i := 50) (by decide +kernel)) (by decide +kernel)
theorem mw_527 : (Cond.instanceMethod y_X_word) ∈ wd := mt_4 (List.mem_of_getElem? (i := 48) (by decide +kernel)) (by decide +kernel)
theorem mw_528 : (Cond.selects R_X y_X_word y_X_word) ∈ wd := mt_4 (List.mem_of_getElem? (i := 49) (by decide +kernel)) (by decide +kernel)
theorem mw_529 : (Cond.methodLink R_L 99 y_C_look) ∈ wd := mt_1 (List.mem_of_getElem? (i := 236) (by decide +kernel)) (by decide +kernel)
theorem mw_530 : (Cond.code y_C_look b_C_look 3 (some .int)) ∈ wd := mt_1 (List.mem_of_getElem? (i := 239) (by decide +kernel)) (by decide +kernel)
theorem mw_531 : (Cond.instanceMethod y_C_look) ∈ wd := mt_1 (List.mem_of_getElem? (i := 237) (by decide +kernel)) (by decide +kernel)
theorem mw_532 : (Cond.selects R_C y_C_look y_C_look) ∈ wd := mt_1 (List.mem_of_getElem? (i := 238) (by decide +kernel)) (by decide +kernel)
theorem mw_533 : (Cond.methodLink R_L 102 y_X_look) ∈ wd := mt_4 (List.mem_of_getElem? (i := 51) (by decide +kernel)) (by decide +kernel)
theorem mw_534 : (Cond.code y_X_look b_X_look 2 (some .int)) ∈ wd := mt_4 (List.mem_of_getElem? (i := 54) (by decide +kernel)) (by decide +kernel)
theorem mw_535 : (Cond.instanceMethod y_X_look) ∈ wd := mt_4 (List.mem_of_getElem? (i := 52) (by decide +kernel)) (by decide +kernel)
theorem mw_536 : (Cond.selects R_X y_X_look y_X_look) ∈ wd := mt_4 (List.mem_of_getElem? (i := 53) (by decide +kernel)) (by decide +kernel)
theorem mw_537 : (Cond.methodLink R_L 103 y_C_list) ∈ wd := mt_2 (List.mem_of_getElem? (i := 4) (by decide +kernel)) (by decide +kernel)
theorem mw_538 : (Cond.code y_C_list b_C_list 2 (some .int)) ∈ wd := mt_2 (List.mem_of_getElem? (i := 7) (by decide +kernel)) (by decide +kernel)
theorem mw_539 : (Cond.instanceMethod y_C_list) ∈ wd := mt_2 (List.mem_of_getElem? (i := 5) (by decide +kernel)) (by decide +kernel)
theorem mw_540 : (Cond.selects R_C y_C_list y_C_list) ∈ wd := mt_2 (List.mem_of_getElem? (i := 6) (by decide +kernel)) (by decide +kernel)
theorem mw_541 : (Cond.methodLink R_L 106 y_X_list) ∈ wd := mt_4 (List.mem_of_getElem? (i := 55) (by decide +kernel)) (by decide +kernel)
theorem mw_542 : (Cond.code y_X_list b_X_list 4 (some .int)) ∈ wd := mt_4 (List.mem_of_getElem? (i := 58) (by decide +kernel)) (by decide +kernel)
theorem mw_543 : (Cond.instanceMethod y_X_list) ∈ wd := mt_4 (List.mem_of_getElem? (i := 56) (by decide +kernel)) (by decide +kernel)
theorem mw_544 : (Cond.selects R_X y_X_list y_X_list) ∈ wd := mt_4 (List.mem_of_getElem? (i := 57) (by decide +kernel)) (by decide +kernel)
theorem g_law_C_put_42 : GoodIn wd (wsV R_L 42 R_C y_C_put (.code y_C_put b_C_put 3 (some .boolean) :: wd)) := zz_goodV wd_good mw_429 mw_431 mw_432 mw_408 mw_430
theorem g_law_X_put_46 : GoodIn wd (wsV R_L 46 R_X y_X_put (.code y_X_put b_X_put 3 (some .boolean) :: wd)) := zz_goodV wd_good mw_433 mw_435 mw_436 mw_318 mw_434
theorem g_law_X_pool_52 : GoodIn wd (wsV R_L 52 R_X y_X_pool (.code y_X_pool b_X_pool 4 (none) :: wd)) := zz_goodV wd_good mw_441 mw_443 mw_444 mw_318 mw_442
theorem g_law_X_thrown_53 : GoodIn wd (wsV R_L 53 R_X y_X_thrown (.code y_X_thrown b_X_thrown 1 (some .int) :: wd)) := zz_goodV wd_good mw_445 mw_447 mw_448 mw_318 mw_446
theorem g_law_C_tables_57 : GoodIn wd (wsV R_L 57 R_C y_C_tables (.code y_C_tables b_C_tables 3 (none) :: wd)) := zz_goodV wd_good mw_449 mw_451 mw_452 mw_408 mw_450
theorem g_law_X_tables_60 : GoodIn wd (wsV R_L 60 R_X y_X_tables (.code y_X_tables b_X_tables 3 (none) :: wd)) := zz_goodV wd_good mw_453 mw_455 mw_456 mw_318 mw_454
theorem g_law_X_range_64 : GoodIn wd (wsV R_L 64 R_X y_X_range (.code y_X_range b_X_range 6 (none) :: wd)) := zz_goodV wd_good mw_461 mw_463 mw_464 mw_318 mw_462
theorem g_law_C_guard_65 : GoodIn wd (wsV R_L 65 R_C y_C_guard (.code y_C_guard b_C_guard 2 (none) :: wd)) := zz_goodV wd_good mw_465 mw_467 mw_468 mw_408 mw_466
theorem g_law_X_guard_69 : GoodIn wd (wsV R_L 69 R_X y_X_guard (.code y_X_guard b_X_guard 2 (none) :: wd)) := zz_goodV wd_good mw_469 mw_471 mw_472 mw_318 mw_470
theorem g_law_X_timer_72 : GoodIn wd (wsV R_L 72 R_X y_X_timer (.code y_X_timer b_X_timer 3 (none) :: wd)) := zz_goodV wd_good mw_477 mw_479 mw_480 mw_318 mw_478
theorem g_law_C_request_73 : GoodIn wd (wsV R_L 73 R_C y_C_request (.code y_C_request b_C_request 2 (some .boolean) :: wd)) := zz_goodV wd_good mw_481 mw_483 mw_484 mw_408 mw_482
theorem g_law_X_request_77 : GoodIn wd (wsV R_L 77 R_X y_X_request (.code y_X_request b_X_request 3 (some .boolean) :: wd)) := zz_goodV wd_good mw_485 mw_487 mw_488 mw_318 mw_486
theorem g_law_X_start_81 : GoodIn wd (wsV R_L 81 R_X y_X_start (.code y_X_start b_X_start 4 (none) :: wd)) := zz_goodV wd_good mw_493 mw_495 mw_496 mw_318 mw_494
theorem g_law_C_halt_82 : GoodIn wd (wsV R_L 82 R_C y_C_halt (.code y_C_halt b_C_halt 2 (some .boolean) :: wd)) := zz_goodV wd_good mw_497 mw_499 mw_500 mw_408 mw_498
theorem g_law_X_halt_86 : GoodIn wd (wsV R_L 86 R_X y_X_halt (.code y_X_halt b_X_halt 2 (some .boolean) :: wd)) := zz_goodV wd_good mw_501 mw_503 mw_504 mw_318 mw_502
theorem g_law_X_run_90 : GoodIn wd (wsV R_L 90 R_X y_X_run (.code y_X_run b_X_run 3 (some .int) :: wd)) := zz_goodV wd_good mw_509 mw_511 mw_512 mw_318 mw_510
theorem g_law_X_register_94 : GoodIn wd (wsV R_L 94 R_X y_X_register (.code y_X_register b_X_register 3 (some .int) :: wd)) := zz_goodV wd_good mw_517 mw_519 mw_520 mw_318 mw_518
theorem g_law_C_word_95 : GoodIn wd (wsV R_L 95 R_C y_C_word (.code y_C_word b_C_word 2 (some .int) :: wd)) := zz_goodV wd_good mw_521 mw_523 mw_524 mw_408 mw_522
theorem g_law_X_word_98 : GoodIn wd (wsV R_L 98 R_X y_X_word (.code y_X_word b_X_word 2 (some .int) :: wd)) := zz_goodV wd_good mw_525 mw_527 mw_528 mw_318 mw_526
theorem g_law_C_look_99 : GoodIn wd (wsV R_L 99 R_C y_C_look (.code y_C_look b_C_look 3 (some .int) :: wd)) := zz_goodV wd_good mw_529 mw_531 mw_532 mw_408 mw_530
theorem g_law_X_look_102 : GoodIn wd (wsV R_L 102 R_X y_X_look (.code y_X_look b_X_look 2 (some .int) :: wd)) := zz_goodV wd_good mw_533 mw_535 mw_536 mw_318 mw_534
theorem g_law_C_list_103 : GoodIn wd (wsV R_L 103 R_C y_C_list (.code y_C_list b_C_list 2 (some .int) :: wd)) := zz_goodV wd_good mw_537 mw_539 mw_540 mw_408 mw_538
theorem g_law_X_list_106 : GoodIn wd (wsV R_L 106 R_X y_X_list (.code y_X_list b_X_list 4 (some .int) :: wd)) := zz_goodV wd_good mw_541 mw_543 mw_544 mw_318 mw_542
theorem d_law_112 : decode code 112 = .ok (.aload_n 1, 1) := by decide +kernel
theorem d_law_113 : decode code 113 = .ok (.aload_n 0, 1) := by decide +kernel
theorem d_law_114 : decode code 114 = .ok (.iload 4, 2) := by decide +kernel
theorem d_law_116 : decode code 116 = .ok (.iconst 1, 1) := by decide +kernel
theorem d_law_117 : decode code 117 = .ok (.iadd, 1) := by decide +kernel
theorem d_law_118 : decode code 118 = .ok (.iaload, 1) := by decide +kernel
theorem d_law_119 : decode code 119 = .ok (.aload_n 0, 1) := by decide +kernel
theorem d_law_120 : decode code 120 = .ok (.iload 4, 2) := by decide +kernel
theorem d_law_122 : decode code 122 = .ok (.iconst 2, 1) := by decide +kernel
theorem d_law_123 : decode code 123 = .ok (.iadd, 1) := by decide +kernel
theorem d_law_124 : decode code 124 = .ok (.iaload, 1) := by decide +kernel
theorem d_law_125 : decode code 125 = .ok (.invokevirtual 42, 3) := by decide +kernel
theorem d_law_128 : decode code 128 = .ok (.aload_n 2, 1) := by decide +kernel
theorem d_law_129 : decode code 129 = .ok (.aload_n 0, 1) := by decide +kernel
theorem d_law_130 : decode code 130 = .ok (.iload 4, 2) := by decide +kernel
theorem d_law_132 : decode code 132 = .ok (.iconst 1, 1) := by decide +kernel
theorem d_law_133 : decode code 133 = .ok (.iadd, 1) := by decide +kernel
theorem d_law_134 : decode code 134 = .ok (.iaload, 1) := by decide +kernel
theorem d_law_135 : decode code 135 = .ok (.aload_n 0, 1) := by decide +kernel
theorem d_law_136 : decode code 136 = .ok (.iload 4, 2) := by decide +kernel
theorem d_law_138 : decode code 138 = .ok (.iconst 2, 1) := by decide +kernel
theorem d_law_139 : decode code 139 = .ok (.iadd, 1) := by decide +kernel
theorem d_law_140 : decode code 140 = .ok (.iaload, 1) := by decide +kernel
theorem d_law_141 : decode code 141 = .ok (.invokevirtual 46, 3) := by decide +kernel
theorem d_law_144 : decode code 144 = .ok (.if_icmp .eq 572, 3) := by decide +kernel
theorem d_law_149 : decode code 149 = .ok (.aload_n 1, 1) := by decide +kernel
theorem d_law_150 : decode code 150 = .ok (.aload_n 0, 1) := by decide +kernel
theorem d_law_151 : decode code 151 = .ok (.iload 4, 2) := by decide +kernel
theorem d_law_153 : decode code 153 = .ok (.iconst 1, 1) := by decide +kernel
theorem d_law_154 : decode code 154 = .ok (.iadd, 1) := by decide +kernel
theorem d_law_155 : decode code 155 = .ok (.iaload, 1) := by decide +kernel
theorem d_law_156 : decode code 156 = .ok (.aload_n 0, 1) := by decide +kernel
theorem d_law_157 : decode code 157 = .ok (.iload 4, 2) := by decide +kernel
theorem d_law_159 : decode code 159 = .ok (.iconst 2, 1) := by decide +kernel
theorem d_law_160 : decode code 160 = .ok (.iadd, 1) := by decide +kernel
theorem d_law_161 : decode code 161 = .ok (.iaload, 1) := by decide +kernel
theorem d_law_162 : decode code 162 = .ok (.invokestatic 47, 3) := by decide +kernel
theorem d_law_165 : decode code 165 = .ok (.istore 5, 2) := by decide +kernel
theorem d_law_167 : decode code 167 = .ok (.aload_n 2, 1) := by decide +kernel
theorem d_law_168 : decode code 168 = .ok (.aload_n 0, 1) := by decide +kernel
theorem d_law_169 : decode code 169 = .ok (.iload 4, 2) := by decide +kernel
theorem d_law_171 : decode code 171 = .ok (.iconst 1, 1) := by decide +kernel
theorem d_law_172 : decode code 172 = .ok (.iadd, 1) := by decide +kernel
theorem d_law_173 : decode code 173 = .ok (.iaload, 1) := by decide +kernel
theorem d_law_174 : decode code 174 = .ok (.aload_n 0, 1) := by decide +kernel
theorem d_law_175 : decode code 175 = .ok (.iload 4, 2) := by decide +kernel
theorem d_law_177 : decode code 177 = .ok (.iconst 2, 1) := by decide +kernel
theorem d_law_178 : decode code 178 = .ok (.iadd, 1) := by decide +kernel
theorem d_law_179 : decode code 179 = .ok (.iaload, 1) := by decide +kernel
theorem d_law_180 : decode code 180 = .ok (.invokevirtual 52, 3) := by decide +kernel
theorem d_law_183 : decode code 183 = .ok (.aload_n 2, 1) := by decide +kernel
theorem d_law_184 : decode code 184 = .ok (.invokevirtual 53, 3) := by decide +kernel
theorem d_law_187 : decode code 187 = .ok (.iload 5, 2) := by decide +kernel
theorem d_law_189 : decode code 189 = .ok (.if_icmp .eq 5, 3) := by decide +kernel
theorem d_law_194 : decode code 194 = .ok (.goto 522, 3) := by decide +kernel
theorem d_law_197 : decode code 197 = .ok (.aload_n 1, 1) := by decide +kernel
theorem d_law_198 : decode code 198 = .ok (.aload_n 0, 1) := by decide +kernel
theorem d_law_199 : decode code 199 = .ok (.iload 4, 2) := by decide +kernel
theorem d_law_201 : decode code 201 = .ok (.iconst 1, 1) := by decide +kernel
theorem d_law_202 : decode code 202 = .ok (.iadd, 1) := by decide +kernel
theorem d_law_203 : decode code 203 = .ok (.iaload, 1) := by decide +kernel
theorem d_law_204 : decode code 204 = .ok (.aload_n 0, 1) := by decide +kernel
theorem d_law_205 : decode code 205 = .ok (.iload 4, 2) := by decide +kernel
theorem d_law_207 : decode code 207 = .ok (.iconst 2, 1) := by decide +kernel
theorem d_law_208 : decode code 208 = .ok (.iadd, 1) := by decide +kernel
theorem d_law_209 : decode code 209 = .ok (.iaload, 1) := by decide +kernel
theorem d_law_210 : decode code 210 = .ok (.invokevirtual 57, 3) := by decide +kernel
theorem d_law_213 : decode code 213 = .ok (.aload_n 2, 1) := by decide +kernel
theorem d_law_214 : decode code 214 = .ok (.aload_n 0, 1) := by decide +kernel
theorem d_law_215 : decode code 215 = .ok (.iload 4, 2) := by decide +kernel
theorem d_law_217 : decode code 217 = .ok (.iconst 1, 1) := by decide +kernel
theorem d_law_218 : decode code 218 = .ok (.iadd, 1) := by decide +kernel
theorem d_law_219 : decode code 219 = .ok (.iaload, 1) := by decide +kernel
theorem d_law_220 : decode code 220 = .ok (.aload_n 0, 1) := by decide +kernel
theorem d_law_221 : decode code 221 = .ok (.iload 4, 2) := by decide +kernel
theorem d_law_223 : decode code 223 = .ok (.iconst 2, 1) := by decide +kernel
theorem d_law_224 : decode code 224 = .ok (.iadd, 1) := by decide +kernel
theorem d_law_225 : decode code 225 = .ok (.iaload, 1) := by decide +kernel
theorem d_law_226 : decode code 226 = .ok (.invokevirtual 60, 3) := by decide +kernel
theorem d_law_229 : decode code 229 = .ok (.goto 487, 3) := by decide +kernel
theorem d_law_232 : decode code 232 = .ok (.aload_n 1, 1) := by decide +kernel
theorem d_law_233 : decode code 233 = .ok (.aload_n 0, 1) := by decide +kernel
theorem d_law_234 : decode code 234 = .ok (.iload 4, 2) := by decide +kernel
theorem d_law_236 : decode code 236 = .ok (.iconst 1, 1) := by decide +kernel
theorem d_law_237 : decode code 237 = .ok (.iadd, 1) := by decide +kernel
theorem d_law_238 : decode code 238 = .ok (.iaload, 1) := by decide +kernel
theorem d_law_239 : decode code 239 = .ok (.aload_n 0, 1) := by decide +kernel
theorem d_law_240 : decode code 240 = .ok (.iload 4, 2) := by decide +kernel
theorem d_law_242 : decode code 242 = .ok (.iconst 2, 1) := by decide +kernel
theorem d_law_243 : decode code 243 = .ok (.iadd, 1) := by decide +kernel
theorem d_law_244 : decode code 244 = .ok (.iaload, 1) := by decide +kernel
theorem d_law_245 : decode code 245 = .ok (.aload_n 0, 1) := by decide +kernel
theorem d_law_246 : decode code 246 = .ok (.iload 4, 2) := by decide +kernel
theorem d_law_248 : decode code 248 = .ok (.iconst 3, 1) := by decide +kernel
theorem d_law_249 : decode code 249 = .ok (.iadd, 1) := by decide +kernel
theorem d_law_250 : decode code 250 = .ok (.iaload, 1) := by decide +kernel
theorem d_law_251 : decode code 251 = .ok (.aload_n 0, 1) := by decide +kernel
theorem d_law_252 : decode code 252 = .ok (.iload 4, 2) := by decide +kernel
theorem d_law_254 : decode code 254 = .ok (.iconst 4, 1) := by decide +kernel
theorem d_law_255 : decode code 255 = .ok (.iadd, 1) := by decide +kernel
theorem d_law_256 : decode code 256 = .ok (.iaload, 1) := by decide +kernel
theorem d_law_257 : decode code 257 = .ok (.aload_n 0, 1) := by decide +kernel
theorem d_law_258 : decode code 258 = .ok (.iload 4, 2) := by decide +kernel
theorem d_law_260 : decode code 260 = .ok (.iconst 5, 1) := by decide +kernel
theorem d_law_261 : decode code 261 = .ok (.iadd, 1) := by decide +kernel
theorem d_law_262 : decode code 262 = .ok (.iaload, 1) := by decide +kernel
theorem d_law_263 : decode code 263 = .ok (.invokestatic 61, 3) := by decide +kernel
theorem d_law_266 : decode code 266 = .ok (.istore 5, 2) := by decide +kernel
theorem d_law_268 : decode code 268 = .ok (.aload_n 2, 1) := by decide +kernel
theorem d_law_269 : decode code 269 = .ok (.aload_n 0, 1) := by decide +kernel
theorem d_law_270 : decode code 270 = .ok (.iload 4, 2) := by decide +kernel
theorem d_law_272 : decode code 272 = .ok (.iconst 1, 1) := by decide +kernel
theorem d_law_273 : decode code 273 = .ok (.iadd, 1) := by decide +kernel
theorem d_law_274 : decode code 274 = .ok (.iaload, 1) := by decide +kernel
theorem d_law_275 : decode code 275 = .ok (.aload_n 0, 1) := by decide +kernel
theorem d_law_276 : decode code 276 = .ok (.iload 4, 2) := by decide +kernel
theorem d_law_278 : decode code 278 = .ok (.iconst 2, 1) := by decide +kernel
theorem d_law_279 : decode code 279 = .ok (.iadd, 1) := by decide +kernel
theorem d_law_280 : decode code 280 = .ok (.iaload, 1) := by decide +kernel
theorem d_law_281 : decode code 281 = .ok (.aload_n 0, 1) := by decide +kernel
theorem d_law_282 : decode code 282 = .ok (.iload 4, 2) := by decide +kernel
theorem d_law_284 : decode code 284 = .ok (.iconst 3, 1) := by decide +kernel
theorem d_law_285 : decode code 285 = .ok (.iadd, 1) := by decide +kernel
theorem d_law_286 : decode code 286 = .ok (.iaload, 1) := by decide +kernel
theorem d_law_287 : decode code 287 = .ok (.aload_n 0, 1) := by decide +kernel
theorem d_law_288 : decode code 288 = .ok (.iload 4, 2) := by decide +kernel
theorem d_law_290 : decode code 290 = .ok (.iconst 4, 1) := by decide +kernel
theorem d_law_291 : decode code 291 = .ok (.iadd, 1) := by decide +kernel
theorem d_law_292 : decode code 292 = .ok (.iaload, 1) := by decide +kernel
theorem d_law_293 : decode code 293 = .ok (.aload_n 0, 1) := by decide +kernel
theorem d_law_294 : decode code 294 = .ok (.iload 4, 2) := by decide +kernel
theorem d_law_296 : decode code 296 = .ok (.iconst 5, 1) := by decide +kernel
theorem d_law_297 : decode code 297 = .ok (.iadd, 1) := by decide +kernel
theorem d_law_298 : decode code 298 = .ok (.iaload, 1) := by decide +kernel
theorem d_law_299 : decode code 299 = .ok (.invokevirtual 64, 3) := by decide +kernel
theorem d_law_302 : decode code 302 = .ok (.aload_n 2, 1) := by decide +kernel
theorem d_law_303 : decode code 303 = .ok (.invokevirtual 53, 3) := by decide +kernel
theorem d_law_306 : decode code 306 = .ok (.iload 5, 2) := by decide +kernel
theorem d_law_308 : decode code 308 = .ok (.if_icmp .eq 5, 3) := by decide +kernel
theorem d_law_313 : decode code 313 = .ok (.goto 403, 3) := by decide +kernel
theorem d_law_316 : decode code 316 = .ok (.aload_n 1, 1) := by decide +kernel
theorem d_law_317 : decode code 317 = .ok (.aload_n 0, 1) := by decide +kernel
theorem d_law_318 : decode code 318 = .ok (.iload 4, 2) := by decide +kernel
theorem d_law_320 : decode code 320 = .ok (.iconst 1, 1) := by decide +kernel
theorem d_law_321 : decode code 321 = .ok (.iadd, 1) := by decide +kernel
theorem d_law_322 : decode code 322 = .ok (.iaload, 1) := by decide +kernel
theorem d_law_323 : decode code 323 = .ok (.ifCond .eq 7, 3) := by decide +kernel
theorem d_law_326 : decode code 326 = .ok (.iconst 1, 1) := by decide +kernel
theorem d_law_327 : decode code 327 = .ok (.goto 4, 3) := by decide +kernel
theorem d_law_330 : decode code 330 = .ok (.iconst 0, 1) := by decide +kernel
theorem d_law_331 : decode code 331 = .ok (.invokevirtual 65, 3) := by decide +kernel
theorem d_law_334 : decode code 334 = .ok (.aload_n 2, 1) := by decide +kernel
theorem d_law_335 : decode code 335 = .ok (.aload_n 0, 1) := by decide +kernel
theorem d_law_336 : decode code 336 = .ok (.iload 4, 2) := by decide +kernel
theorem d_law_338 : decode code 338 = .ok (.iconst 1, 1) := by decide +kernel
theorem d_law_339 : decode code 339 = .ok (.iadd, 1) := by decide +kernel
theorem d_law_340 : decode code 340 = .ok (.iaload, 1) := by decide +kernel
theorem d_law_341 : decode code 341 = .ok (.ifCond .eq 7, 3) := by decide +kernel
theorem d_law_344 : decode code 344 = .ok (.iconst 1, 1) := by decide +kernel
theorem d_law_345 : decode code 345 = .ok (.goto 4, 3) := by decide +kernel
theorem d_law_348 : decode code 348 = .ok (.iconst 0, 1) := by decide +kernel
theorem d_law_349 : decode code 349 = .ok (.invokevirtual 69, 3) := by decide +kernel
theorem d_law_352 : decode code 352 = .ok (.goto 364, 3) := by decide +kernel
theorem d_law_355 : decode code 355 = .ok (.aload_n 1, 1) := by decide +kernel
theorem d_law_356 : decode code 356 = .ok (.aload_n 0, 1) := by decide +kernel
theorem d_law_357 : decode code 357 = .ok (.iload 4, 2) := by decide +kernel
theorem d_law_359 : decode code 359 = .ok (.iconst 1, 1) := by decide +kernel
theorem d_law_360 : decode code 360 = .ok (.iadd, 1) := by decide +kernel
theorem d_law_361 : decode code 361 = .ok (.iaload, 1) := by decide +kernel
theorem d_law_362 : decode code 362 = .ok (.aload_n 0, 1) := by decide +kernel
theorem d_law_363 : decode code 363 = .ok (.iload 4, 2) := by decide +kernel
theorem d_law_365 : decode code 365 = .ok (.iconst 2, 1) := by decide +kernel
theorem d_law_366 : decode code 366 = .ok (.iadd, 1) := by decide +kernel
theorem d_law_367 : decode code 367 = .ok (.iaload, 1) := by decide +kernel
theorem d_law_368 : decode code 368 = .ok (.invokestatic 70, 3) := by decide +kernel
theorem d_law_371 : decode code 371 = .ok (.istore 5, 2) := by decide +kernel
theorem d_law_373 : decode code 373 = .ok (.aload_n 2, 1) := by decide +kernel
theorem d_law_374 : decode code 374 = .ok (.aload_n 0, 1) := by decide +kernel
theorem d_law_375 : decode code 375 = .ok (.iload 4, 2) := by decide +kernel
theorem d_law_377 : decode code 377 = .ok (.iconst 1, 1) := by decide +kernel
theorem d_law_378 : decode code 378 = .ok (.iadd, 1) := by decide +kernel
theorem d_law_379 : decode code 379 = .ok (.iaload, 1) := by decide +kernel
theorem d_law_380 : decode code 380 = .ok (.aload_n 0, 1) := by decide +kernel
theorem d_law_381 : decode code 381 = .ok (.iload 4, 2) := by decide +kernel
theorem d_law_383 : decode code 383 = .ok (.iconst 2, 1) := by decide +kernel
theorem d_law_384 : decode code 384 = .ok (.iadd, 1) := by decide +kernel
theorem d_law_385 : decode code 385 = .ok (.iaload, 1) := by decide +kernel
theorem d_law_386 : decode code 386 = .ok (.invokevirtual 72, 3) := by decide +kernel
theorem d_law_389 : decode code 389 = .ok (.aload_n 2, 1) := by decide +kernel
theorem d_law_390 : decode code 390 = .ok (.invokevirtual 53, 3) := by decide +kernel
theorem d_law_393 : decode code 393 = .ok (.iload 5, 2) := by decide +kernel
theorem d_law_395 : decode code 395 = .ok (.if_icmp .eq 5, 3) := by decide +kernel
theorem d_law_400 : decode code 400 = .ok (.goto 316, 3) := by decide +kernel
theorem d_law_403 : decode code 403 = .ok (.aload_n 1, 1) := by decide +kernel
theorem d_law_404 : decode code 404 = .ok (.aload_n 0, 1) := by decide +kernel
theorem d_law_405 : decode code 405 = .ok (.iload 4, 2) := by decide +kernel
theorem d_law_407 : decode code 407 = .ok (.iconst 1, 1) := by decide +kernel
theorem d_law_408 : decode code 408 = .ok (.iadd, 1) := by decide +kernel
theorem d_law_409 : decode code 409 = .ok (.iaload, 1) := by decide +kernel
theorem d_law_410 : decode code 410 = .ok (.invokevirtual 73, 3) := by decide +kernel
theorem d_law_413 : decode code 413 = .ok (.aload_n 2, 1) := by decide +kernel
theorem d_law_414 : decode code 414 = .ok (.aload_n 0, 1) := by decide +kernel
theorem d_law_415 : decode code 415 = .ok (.iload 4, 2) := by decide +kernel
theorem d_law_417 : decode code 417 = .ok (.iconst 1, 1) := by decide +kernel
theorem d_law_418 : decode code 418 = .ok (.iadd, 1) := by decide +kernel
theorem d_law_419 : decode code 419 = .ok (.iaload, 1) := by decide +kernel
theorem d_law_420 : decode code 420 = .ok (.invokevirtual 77, 3) := by decide +kernel
theorem d_law_423 : decode code 423 = .ok (.if_icmp .eq 293, 3) := by decide +kernel
theorem d_law_428 : decode code 428 = .ok (.aload_n 1, 1) := by decide +kernel
theorem d_law_429 : decode code 429 = .ok (.aload_n 0, 1) := by decide +kernel
theorem d_law_430 : decode code 430 = .ok (.iload 4, 2) := by decide +kernel
theorem d_law_432 : decode code 432 = .ok (.iconst 1, 1) := by decide +kernel
theorem d_law_433 : decode code 433 = .ok (.iadd, 1) := by decide +kernel
theorem d_law_434 : decode code 434 = .ok (.iaload, 1) := by decide +kernel
theorem d_law_435 : decode code 435 = .ok (.aload_n 0, 1) := by decide +kernel
theorem d_law_436 : decode code 436 = .ok (.iload 4, 2) := by decide +kernel
theorem d_law_438 : decode code 438 = .ok (.iconst 2, 1) := by decide +kernel
theorem d_law_439 : decode code 439 = .ok (.iadd, 1) := by decide +kernel
theorem d_law_440 : decode code 440 = .ok (.iaload, 1) := by decide +kernel
theorem d_law_441 : decode code 441 = .ok (.aload_n 0, 1) := by decide +kernel
theorem d_law_442 : decode code 442 = .ok (.iload 4, 2) := by decide +kernel
theorem d_law_444 : decode code 444 = .ok (.iconst 3, 1) := by decide +kernel
theorem d_law_445 : decode code 445 = .ok (.iadd, 1) := by decide +kernel
theorem d_law_446 : decode code 446 = .ok (.iaload, 1) := by decide +kernel
theorem d_law_447 : decode code 447 = .ok (.ifCond .eq 7, 3) := by decide +kernel
theorem d_law_450 : decode code 450 = .ok (.iconst 1, 1) := by decide +kernel
theorem d_law_451 : decode code 451 = .ok (.goto 4, 3) := by decide +kernel
theorem d_law_454 : decode code 454 = .ok (.iconst 0, 1) := by decide +kernel
theorem d_law_455 : decode code 455 = .ok (.invokestatic 78, 3) := by decide +kernel
theorem d_law_458 : decode code 458 = .ok (.istore 5, 2) := by decide +kernel
theorem d_law_460 : decode code 460 = .ok (.aload_n 2, 1) := by decide +kernel
theorem d_law_461 : decode code 461 = .ok (.aload_n 0, 1) := by decide +kernel
theorem d_law_462 : decode code 462 = .ok (.iload 4, 2) := by decide +kernel
theorem d_law_464 : decode code 464 = .ok (.iconst 1, 1) := by decide +kernel
theorem d_law_465 : decode code 465 = .ok (.iadd, 1) := by decide +kernel
theorem d_law_466 : decode code 466 = .ok (.iaload, 1) := by decide +kernel
theorem d_law_467 : decode code 467 = .ok (.aload_n 0, 1) := by decide +kernel
theorem d_law_468 : decode code 468 = .ok (.iload 4, 2) := by decide +kernel
theorem d_law_470 : decode code 470 = .ok (.iconst 2, 1) := by decide +kernel
theorem d_law_471 : decode code 471 = .ok (.iadd, 1) := by decide +kernel
theorem d_law_472 : decode code 472 = .ok (.iaload, 1) := by decide +kernel
theorem d_law_473 : decode code 473 = .ok (.aload_n 0, 1) := by decide +kernel
theorem d_law_474 : decode code 474 = .ok (.iload 4, 2) := by decide +kernel
theorem d_law_476 : decode code 476 = .ok (.iconst 3, 1) := by decide +kernel
theorem d_law_477 : decode code 477 = .ok (.iadd, 1) := by decide +kernel
theorem d_law_478 : decode code 478 = .ok (.iaload, 1) := by decide +kernel
theorem d_law_479 : decode code 479 = .ok (.ifCond .eq 7, 3) := by decide +kernel
theorem d_law_482 : decode code 482 = .ok (.iconst 1, 1) := by decide +kernel
theorem d_law_483 : decode code 483 = .ok (.goto 4, 3) := by decide +kernel
theorem d_law_486 : decode code 486 = .ok (.iconst 0, 1) := by decide +kernel
theorem d_law_487 : decode code 487 = .ok (.invokevirtual 81, 3) := by decide +kernel
theorem d_law_490 : decode code 490 = .ok (.aload_n 2, 1) := by decide +kernel
theorem d_law_491 : decode code 491 = .ok (.invokevirtual 53, 3) := by decide +kernel
theorem d_law_494 : decode code 494 = .ok (.iload 5, 2) := by decide +kernel
theorem d_law_496 : decode code 496 = .ok (.if_icmp .eq 5, 3) := by decide +kernel
theorem d_law_501 : decode code 501 = .ok (.goto 215, 3) := by decide +kernel
theorem d_law_504 : decode code 504 = .ok (.aload_n 1, 1) := by decide +kernel
theorem d_law_505 : decode code 505 = .ok (.invokevirtual 82, 3) := by decide +kernel
theorem d_law_508 : decode code 508 = .ok (.aload_n 2, 1) := by decide +kernel
theorem d_law_509 : decode code 509 = .ok (.invokevirtual 86, 3) := by decide +kernel
theorem d_law_512 : decode code 512 = .ok (.if_icmp .eq 204, 3) := by decide +kernel
theorem d_law_517 : decode code 517 = .ok (.aload_n 1, 1) := by decide +kernel
theorem d_law_518 : decode code 518 = .ok (.aload_n 0, 1) := by decide +kernel
theorem d_law_519 : decode code 519 = .ok (.iload 4, 2) := by decide +kernel
theorem d_law_521 : decode code 521 = .ok (.iconst 1, 1) := by decide +kernel
theorem d_law_522 : decode code 522 = .ok (.iadd, 1) := by decide +kernel
theorem d_law_523 : decode code 523 = .ok (.iaload, 1) := by decide +kernel
theorem d_law_524 : decode code 524 = .ok (.aload_n 3, 1) := by decide +kernel
theorem d_law_525 : decode code 525 = .ok (.invokestatic 87, 3) := by decide +kernel
theorem d_law_528 : decode code 528 = .ok (.istore 5, 2) := by decide +kernel
theorem d_law_530 : decode code 530 = .ok (.aload_n 2, 1) := by decide +kernel
theorem d_law_531 : decode code 531 = .ok (.aload_n 0, 1) := by decide +kernel
theorem d_law_532 : decode code 532 = .ok (.iload 4, 2) := by decide +kernel
theorem d_law_534 : decode code 534 = .ok (.iconst 1, 1) := by decide +kernel
theorem d_law_535 : decode code 535 = .ok (.iadd, 1) := by decide +kernel
theorem d_law_536 : decode code 536 = .ok (.iaload, 1) := by decide +kernel
theorem d_law_537 : decode code 537 = .ok (.invokevirtual 90, 3) := by decide +kernel
theorem d_law_540 : decode code 540 = .ok (.istore 6, 2) := by decide +kernel
theorem d_law_542 : decode code 542 = .ok (.aload_n 2, 1) := by decide +kernel
theorem d_law_543 : decode code 543 = .ok (.invokevirtual 53, 3) := by decide +kernel
theorem d_law_546 : decode code 546 = .ok (.iload 5, 2) := by decide +kernel
theorem d_law_548 : decode code 548 = .ok (.if_icmp .eq 5, 3) := by decide +kernel
theorem d_law_553 : decode code 553 = .ok (.iload 5, 2) := by decide +kernel
theorem d_law_555 : decode code 555 = .ok (.ifCond .ne 15, 3) := by decide +kernel
theorem d_law_558 : decode code 558 = .ok (.aload_n 3, 1) := by decide +kernel
theorem d_law_559 : decode code 559 = .ok (.iconst 0, 1) := by decide +kernel
theorem d_law_560 : decode code 560 = .ok (.laload, 1) := by decide +kernel
theorem d_law_561 : decode code 561 = .ok (.iload 6, 2) := by decide +kernel
theorem d_law_563 : decode code 563 = .ok (.i2l, 1) := by decide +kernel
theorem d_law_564 : decode code 564 = .ok (.lcmp, 1) := by decide +kernel
theorem d_law_565 : decode code 565 = .ok (.ifCond .eq 5, 3) := by decide +kernel
theorem d_law_570 : decode code 570 = .ok (.goto 146, 3) := by decide +kernel
theorem d_law_573 : decode code 573 = .ok (.aload_n 1, 1) := by decide +kernel
theorem d_law_574 : decode code 574 = .ok (.aload_n 0, 1) := by decide +kernel
theorem d_law_575 : decode code 575 = .ok (.iload 4, 2) := by decide +kernel
theorem d_law_577 : decode code 577 = .ok (.iconst 1, 1) := by decide +kernel
theorem d_law_578 : decode code 578 = .ok (.iadd, 1) := by decide +kernel
theorem d_law_579 : decode code 579 = .ok (.iaload, 1) := by decide +kernel
theorem d_law_580 : decode code 580 = .ok (.aload_n 0, 1) := by decide +kernel
theorem d_law_581 : decode code 581 = .ok (.iload 4, 2) := by decide +kernel
theorem d_law_583 : decode code 583 = .ok (.iconst 2, 1) := by decide +kernel
theorem d_law_584 : decode code 584 = .ok (.iadd, 1) := by decide +kernel
theorem d_law_585 : decode code 585 = .ok (.iaload, 1) := by decide +kernel
theorem d_law_586 : decode code 586 = .ok (.aload_n 3, 1) := by decide +kernel
theorem d_law_587 : decode code 587 = .ok (.invokestatic 91, 3) := by decide +kernel
theorem d_law_590 : decode code 590 = .ok (.istore 5, 2) := by decide +kernel
theorem d_law_592 : decode code 592 = .ok (.aload_n 2, 1) := by decide +kernel
theorem d_law_593 : decode code 593 = .ok (.aload_n 0, 1) := by decide +kernel
theorem d_law_594 : decode code 594 = .ok (.iload 4, 2) := by decide +kernel
theorem d_law_596 : decode code 596 = .ok (.iconst 1, 1) := by decide +kernel
theorem d_law_597 : decode code 597 = .ok (.iadd, 1) := by decide +kernel
theorem d_law_598 : decode code 598 = .ok (.iaload, 1) := by decide +kernel
theorem d_law_599 : decode code 599 = .ok (.aload_n 0, 1) := by decide +kernel
theorem d_law_600 : decode code 600 = .ok (.iload 4, 2) := by decide +kernel
theorem d_law_602 : decode code 602 = .ok (.iconst 2, 1) := by decide +kernel
theorem d_law_603 : decode code 603 = .ok (.iadd, 1) := by decide +kernel
theorem d_law_604 : decode code 604 = .ok (.iaload, 1) := by decide +kernel
theorem d_law_605 : decode code 605 = .ok (.invokevirtual 94, 3) := by decide +kernel
theorem d_law_608 : decode code 608 = .ok (.istore 6, 2) := by decide +kernel
theorem d_law_610 : decode code 610 = .ok (.aload_n 2, 1) := by decide +kernel
theorem d_law_611 : decode code 611 = .ok (.invokevirtual 53, 3) := by decide +kernel
theorem d_law_614 : decode code 614 = .ok (.iload 5, 2) := by decide +kernel
theorem d_law_616 : decode code 616 = .ok (.if_icmp .eq 5, 3) := by decide +kernel
theorem d_law_621 : decode code 621 = .ok (.iload 5, 2) := by decide +kernel
theorem d_law_623 : decode code 623 = .ok (.ifCond .ne 15, 3) := by decide +kernel
theorem d_law_626 : decode code 626 = .ok (.aload_n 3, 1) := by decide +kernel
theorem d_law_627 : decode code 627 = .ok (.iconst 0, 1) := by decide +kernel
theorem d_law_628 : decode code 628 = .ok (.laload, 1) := by decide +kernel
theorem d_law_629 : decode code 629 = .ok (.iload 6, 2) := by decide +kernel
theorem d_law_631 : decode code 631 = .ok (.i2l, 1) := by decide +kernel
theorem d_law_632 : decode code 632 = .ok (.lcmp, 1) := by decide +kernel
theorem d_law_633 : decode code 633 = .ok (.ifCond .eq 5, 3) := by decide +kernel
theorem d_law_638 : decode code 638 = .ok (.goto 78, 3) := by decide +kernel
theorem d_law_641 : decode code 641 = .ok (.aload_n 1, 1) := by decide +kernel
theorem d_law_642 : decode code 642 = .ok (.aload_n 0, 1) := by decide +kernel
theorem d_law_643 : decode code 643 = .ok (.iload 4, 2) := by decide +kernel
theorem d_law_645 : decode code 645 = .ok (.iconst 1, 1) := by decide +kernel
theorem d_law_646 : decode code 646 = .ok (.iadd, 1) := by decide +kernel
theorem d_law_647 : decode code 647 = .ok (.iaload, 1) := by decide +kernel
theorem d_law_648 : decode code 648 = .ok (.invokevirtual 95, 3) := by decide +kernel
theorem d_law_651 : decode code 651 = .ok (.aload_n 2, 1) := by decide +kernel
theorem d_law_652 : decode code 652 = .ok (.aload_n 0, 1) := by decide +kernel
theorem d_law_653 : decode code 653 = .ok (.iload 4, 2) := by decide +kernel
theorem d_law_655 : decode code 655 = .ok (.iconst 1, 1) := by decide +kernel
theorem d_law_656 : decode code 656 = .ok (.iadd, 1) := by decide +kernel
theorem d_law_657 : decode code 657 = .ok (.iaload, 1) := by decide +kernel
theorem d_law_658 : decode code 658 = .ok (.invokevirtual 98, 3) := by decide +kernel
theorem d_law_661 : decode code 661 = .ok (.if_icmp .eq 55, 3) := by decide +kernel
theorem d_law_666 : decode code 666 = .ok (.aload_n 1, 1) := by decide +kernel
theorem d_law_667 : decode code 667 = .ok (.aload_n 0, 1) := by decide +kernel
theorem d_law_668 : decode code 668 = .ok (.iload 4, 2) := by decide +kernel
theorem d_law_670 : decode code 670 = .ok (.iconst 1, 1) := by decide +kernel
theorem d_law_671 : decode code 671 = .ok (.iadd, 1) := by decide +kernel
theorem d_law_672 : decode code 672 = .ok (.iaload, 1) := by decide +kernel
theorem d_law_673 : decode code 673 = .ok (.invokevirtual 99, 3) := by decide +kernel
theorem d_law_676 : decode code 676 = .ok (.aload_n 2, 1) := by decide +kernel
theorem d_law_677 : decode code 677 = .ok (.aload_n 0, 1) := by decide +kernel
theorem d_law_678 : decode code 678 = .ok (.iload 4, 2) := by decide +kernel
theorem d_law_680 : decode code 680 = .ok (.iconst 1, 1) := by decide +kernel
theorem d_law_681 : decode code 681 = .ok (.iadd, 1) := by decide +kernel
theorem d_law_682 : decode code 682 = .ok (.iaload, 1) := by decide +kernel
theorem d_law_683 : decode code 683 = .ok (.invokevirtual 102, 3) := by decide +kernel
theorem d_law_686 : decode code 686 = .ok (.if_icmp .eq 30, 3) := by decide +kernel
theorem d_law_691 : decode code 691 = .ok (.aload_n 1, 1) := by decide +kernel
theorem d_law_692 : decode code 692 = .ok (.aload_n 0, 1) := by decide +kernel
theorem d_law_693 : decode code 693 = .ok (.iload 4, 2) := by decide +kernel
theorem d_law_695 : decode code 695 = .ok (.iconst 1, 1) := by decide +kernel
theorem d_law_696 : decode code 696 = .ok (.iadd, 1) := by decide +kernel
theorem d_law_697 : decode code 697 = .ok (.iaload, 1) := by decide +kernel
theorem d_law_698 : decode code 698 = .ok (.invokevirtual 103, 3) := by decide +kernel
theorem d_law_701 : decode code 701 = .ok (.aload_n 2, 1) := by decide +kernel
theorem d_law_702 : decode code 702 = .ok (.aload_n 0, 1) := by decide +kernel
theorem d_law_703 : decode code 703 = .ok (.iload 4, 2) := by decide +kernel
theorem d_law_705 : decode code 705 = .ok (.iconst 1, 1) := by decide +kernel
theorem d_law_706 : decode code 706 = .ok (.iadd, 1) := by decide +kernel
theorem d_law_707 : decode code 707 = .ok (.iaload, 1) := by decide +kernel
theorem d_law_708 : decode code 708 = .ok (.invokevirtual 106, 3) := by decide +kernel
theorem d_law_711 : decode code 711 = .ok (.if_icmp .eq 5, 3) := by decide +kernel
set_option maxHeartbeats 4000000 in
set_option maxRecDepth 100000 in
theorem lc_put {p : Program} {l : Launch} {e : Env} {s : State} {m : MethodId} {below : List Frame} {meth : Method} {c : Code} {H : Heap} {locs : List Loc} {cells slots b L j xO : Nat} {cI cJ : ClassId} {xs : Nat → Int32} {D : va_G} {xC xP xM xW xR xD xA xG xL xH xI xT yX yM yD yA yO yL yH yI : Nat} {u_z u_M u_r u_d u_a u_lo u_hi u_ri u_t v_x v_o : Nat → Int32} {g : Nat → Int64} {Q : State → Prop} {args : Array Value} {ls : Array Slot} (X : LX p l s m args c b L xs D cI cJ) (hj : j + 6 ≤ L) (hL : L ≤ 3072) (hr : rl u_z u_r u_t v_x v_o) (hl : lv_has ls 7 [(0, .ref b), (1, .ref xC), (2, .ref yX), (3, .ref xO), (4, .int (nI j))]) (hP : va_P D classes [oC xC xP, oP xP xM xR xG xT u_z, oM xM xW, ar cI xW 512 u_M, oR xR xD xA u_r, ar cI xD 8 u_d, ar cI xA 8 u_a, oG xG xL xH xI, ar cI xL 6 u_lo, ar cI xH 6 u_hi, ar cI xI 6 u_ri, oT xT u_t, oX yX yM yD yA yO yL yH yI v_x, ar cI yM 512 u_M, ar cI yD 8 u_d, ar cI yA 8 u_a, ar cI yO 4 v_o, ar cI yL 6 u_lo, ar cI yH 6 u_hi, ar cI yI 6 u_ri, aj cJ xO g] H) (hD : va_D (fun q => s.heap.size ≤ q) [oC xC xP, oP xP xM xR xG xT u_z, oM xM xW, ar cI xW 512 u_M, oR xR xD xA u_r, ar cI xD 8 u_d, ar cI xA 8 u_a, oG xG xL xH xI, ar cI xL 6 u_lo, ar cI xH 6 u_hi, ar cI xI 6 u_ri, oT xT u_t, oX yX yM yD yA yO yL yH yI v_x, ar cI yM 512 u_M, ar cI yD 8 u_d, ar cI yA 8 u_a, ar cI yO 4 v_o, ar cI yL 6 u_lo, ar cI yH 6 u_hi, ar cI yI 6 u_ri, aj cJ xO g]) (hS : va_S (fun q => s.heap.size ≤ q) s.heap H locs) (hc : cells + 1 ≤ room_1.cells ∧ slots + 6 ≤ room_1.slots)
    (hN : ∀ (u_z u_M u_r u_d u_a u_lo u_hi u_ri u_t v_x v_o : Nat → Int32) (g : Nat → Int64) (H : Heap) (locs : List Loc) (ls : Array Slot), rl u_z u_r u_t v_x v_o → lv_has ls 7 [(0, .ref b), (1, .ref xC), (2, .ref yX), (3, .ref xO), (4, .int (nI j))] → va_P D classes [oC xC xP, oP xP xM xR xG xT u_z, oM xM xW, ar cI xW 512 u_M, oR xR xD xA u_r, ar cI xD 8 u_d, ar cI xA 8 u_a, oG xG xL xH xI, ar cI xL 6 u_lo, ar cI xH 6 u_hi, ar cI xI 6 u_ri, oT xT u_t, oX yX yM yD yA yO yL yH yI v_x, ar cI yM 512 u_M, ar cI yD 8 u_d, ar cI yA 8 u_a, ar cI yO 4 v_o, ar cI yL 6 u_lo, ar cI yH 6 u_hi, ar cI yI 6 u_ri, aj cJ xO g] H → va_D (fun q => s.heap.size ≤ q) [oC xC xP, oP xP xM xR xG xT u_z, oM xM xW, ar cI xW 512 u_M, oR xR xD xA u_r, ar cI xD 8 u_d, ar cI xA 8 u_a, oG xG xL xH xI, ar cI xL 6 u_lo, ar cI xH 6 u_hi, ar cI xI 6 u_ri, oT xT u_t, oX yX yM yD yA yO yL yH yI v_x, ar cI yM 512 u_M, ar cI yD 8 u_d, ar cI yA 8 u_a, ar cI yO 4 v_o, ar cI yL 6 u_lo, ar cI yH 6 u_hi, ar cI yI 6 u_ri, aj cJ xO g] → va_S (fun q => s.heap.size ≤ q) s.heap H locs → W p l e room_1 s m args below meth c H locs (cells + 1) (slots + 6) Q (F0 m 716 ls [])) : W p l e room_1 s m args below meth c H locs cells slots Q (F0 m 112 ls []) := by
  obtain ⟨hx, hb, hml, hown, hts, hX, hbl, hK, hz, htr⟩ := X
  have hf0 : cells ≤ room_1.cells ∧ slots ≤ room_1.slots := ⟨Nat.le_of_succ_le hc.1, Nat.le_trans (Nat.le_add_right _ _) hc.2⟩
  have hbA : ¬ s.heap.size ≤ b := Nat.not_le.mpr hbl
  have hA : ∀ q : Nat, s.heap.size ≤ q → s.heap.size ≤ q := fun q h => h
  refine lv_aload_n hx hb d_law_112 rfl (lv_at hl 1 rfl) ?_
  refine lv_aload_n hx hb d_law_113 rfl (lv_at hl 0 rfl) ?_
  refine lv_iload hx hb d_law_114 (lv_at hl 4 rfl) ?_
  refine lv_iconst (v := (1 : Int32)) hx hb d_law_116 rfl ?_
  refine lv_iadd hx hb d_law_117 ?_
  refine va_sld hx hb hX hbl hbA hS (sc1 hj hL) d_law_118 ?_
  refine lv_aload_n hx hb d_law_119 rfl (lv_at hl 0 rfl) ?_
  refine lv_iload hx hb d_law_120 (lv_at hl 4 rfl) ?_
  refine lv_iconst (v := (2 : Int32)) hx hb d_law_122 rfl ?_
  refine lv_iadd hx hb d_law_123 ?_
  refine va_sld hx hb hX hbl hbA hS (sc2 hj hL) d_law_124 ?_
  refine zz_cVi (rest := []) (wr := [oX yX yM yD yA yO yL yH yI v_x, ar cI yM 512 u_M, ar cI yD 8 u_d, ar cI yA 8 u_a, ar cI yO 4 v_o, ar cI yL 6 u_lo, ar cI yH 6 u_hi, ar cI yI 6 u_ri, aj cJ xO g]) (w' := [oC xC xP, oP xP xM xR xG xT u_z, oM xM xW, ar cI xW 512 ((s_C_put u_z u_M u_r u_d u_a u_lo u_hi u_ri u_t (xs (ix ((nI j) + (1 : Int32)))) (xs (ix ((nI j) + (2 : Int32))))).2), oR xR xD xA u_r, ar cI xD 8 u_d, ar cI xA 8 u_a, oG xG xL xH xI, ar cI xL 6 u_lo, ar cI xH 6 u_hi, ar cI xI 6 u_ri, oT xT u_t, oX yX yM yD yA yO yL yH yI v_x, ar cI yM 512 u_M, ar cI yD 8 u_d, ar cI yA 8 u_a, ar cI yO 4 v_o, ar cI yL 6 u_lo, ar cI yH 6 u_hi, ar cI yI 6 u_ri, aj cJ xO g]) ⟨hx, hb, hml, hown, hts⟩ (k_C_put l D cI _ xC xP xM xW xR xD xA xG xL xH xI xT u_z u_M u_r u_d u_a u_lo u_hi u_ri u_t (xs (ix ((nI j) + (1 : Int32)))) (xs (ix ((nI j) + (2 : Int32))))) g_law_C_put_42 nv_C_put ⟨⟨rfl, rfl⟩, Nat.le_of_ble_eq_true rfl, Nat.le_of_ble_eq_true rfl⟩ hK [0] rfl hP hD hS hA [0, 1, 2, 3, 4, 5, 6, 7, 8, 9, 10, 11] [12, 13, 14, 15, 16, 17, 18, 19, 20] [9, 10, 11, 12, 13, 14, 15, 16, 17, 18, 19, 20, 0, 1, 2, 3, 4, 5, 6, 7, 8] rfl rfl rfl rfl (by decide) rfl rfl 0 5 rfl rfl rfl rfl hl.1 (Nat.le_of_ble_eq_true rfl) d_law_125 hf0 (fun H locs hP hD hS => ?_)
  refine lv_aload_n hx hb d_law_128 rfl (lv_at hl 2 rfl) ?_
  refine lv_aload_n hx hb d_law_129 rfl (lv_at hl 0 rfl) ?_
  refine lv_iload hx hb d_law_130 (lv_at hl 4 rfl) ?_
  refine lv_iconst (v := (1 : Int32)) hx hb d_law_132 rfl ?_
  refine lv_iadd hx hb d_law_133 ?_
  refine va_sld hx hb hX hbl hbA hS (sc1 hj hL) d_law_134 ?_
  refine lv_aload_n hx hb d_law_135 rfl (lv_at hl 0 rfl) ?_
  refine lv_iload hx hb d_law_136 (lv_at hl 4 rfl) ?_
  refine lv_iconst (v := (2 : Int32)) hx hb d_law_138 rfl ?_
  refine lv_iadd hx hb d_law_139 ?_
  refine va_sld hx hb hX hbl hbA hS (sc2 hj hL) d_law_140 ?_
  refine zz_cVi (rest := [.int ((s_C_put u_z u_M u_r u_d u_a u_lo u_hi u_ri u_t (xs (ix ((nI j) + (1 : Int32)))) (xs (ix ((nI j) + (2 : Int32))))).1)]) (wr := [oC xC xP, oP xP xM xR xG xT u_z, oM xM xW, ar cI xW 512 ((s_C_put u_z u_M u_r u_d u_a u_lo u_hi u_ri u_t (xs (ix ((nI j) + (1 : Int32)))) (xs (ix ((nI j) + (2 : Int32))))).2), oR xR xD xA u_r, ar cI xD 8 u_d, ar cI xA 8 u_a, oG xG xL xH xI, ar cI xL 6 u_lo, ar cI xH 6 u_hi, ar cI xI 6 u_ri, oT xT u_t, aj cJ xO g]) (w' := [oC xC xP, oP xP xM xR xG xT u_z, oM xM xW, ar cI xW 512 ((s_C_put u_z u_M u_r u_d u_a u_lo u_hi u_ri u_t (xs (ix ((nI j) + (1 : Int32)))) (xs (ix ((nI j) + (2 : Int32))))).2), oR xR xD xA u_r, ar cI xD 8 u_d, ar cI xA 8 u_a, oG xG xL xH xI, ar cI xL 6 u_lo, ar cI xH 6 u_hi, ar cI xI 6 u_ri, oT xT u_t, oX yX yM yD yA yO yL yH yI ((s_X_put v_x u_M u_d u_a v_o u_lo u_hi u_ri (xs (ix ((nI j) + (1 : Int32)))) (xs (ix ((nI j) + (2 : Int32))))).2.1), ar cI yM 512 ((s_X_put v_x u_M u_d u_a v_o u_lo u_hi u_ri (xs (ix ((nI j) + (1 : Int32)))) (xs (ix ((nI j) + (2 : Int32))))).2.2), ar cI yD 8 u_d, ar cI yA 8 u_a, ar cI yO 4 v_o, ar cI yL 6 u_lo, ar cI yH 6 u_hi, ar cI yI 6 u_ri, aj cJ xO g]) ⟨hx, hb, hml, hown, hts⟩ (k_X_put l D cI _ yX yM yD yA yO yL yH yI v_x u_M u_d u_a v_o u_lo u_hi u_ri (xs (ix ((nI j) + (1 : Int32)))) (xs (ix ((nI j) + (2 : Int32))))) g_law_X_put_46 nv_X_put ⟨⟨rfl, rfl⟩, Nat.le_of_ble_eq_true rfl, Nat.le_of_ble_eq_true rfl⟩ hK [0] rfl hP hD hS hA [12, 13, 14, 15, 16, 17, 18, 19] [0, 1, 2, 3, 4, 5, 6, 7, 8, 9, 10, 11, 20] [0, 1, 2, 3, 4, 5, 6, 7, 8, 9, 10, 11, 13, 14, 15, 16, 17, 18, 19, 20, 12] rfl rfl rfl rfl (by decide) rfl rfl 12 6 rfl rfl rfl rfl hl.1 (Nat.le_of_ble_eq_true rfl) d_law_141 hf0 (fun H locs hP hD hS => ?_)
  have f := f_put (M := u_M) (d := u_d) (a := u_a) (lo := u_lo) (hi := u_hi) (ri := u_ri) (a1 := (xs (ix ((nI j) + (1 : Int32))))) (a2 := (xs (ix ((nI j) + (2 : Int32))))) hr
  refine lv_icmp_eq (tgt := 716) hx hb d_law_144 (by decide) (fun h144 => ?_) (fun h144 => ?_)
  ·
    rw [f.2.1] at hP hD
    exact W.widen (Nat.le_succ _) (Nat.le_add_right _ _) (hN _ _ _ _ _ _ _ _ _ _ _ _ _ _ _ (f.2.2) (lv_sub hl [0, 1, 2, 3, 4] rfl) hP hD hS)
  ·
    exact (h144 (f.1.symm)).elim
set_option maxHeartbeats 4000000 in
set_option maxRecDepth 100000 in
theorem lc_pool {p : Program} {l : Launch} {e : Env} {s : State} {m : MethodId} {below : List Frame} {meth : Method} {c : Code} {H : Heap} {locs : List Loc} {cells slots b L j xO : Nat} {cI cJ : ClassId} {xs : Nat → Int32} {D : va_G} {xC xP xM xW xR xD xA xG xL xH xI xT yX yM yD yA yO yL yH yI : Nat} {u_z u_M u_r u_d u_a u_lo u_hi u_ri u_t v_x v_o : Nat → Int32} {g : Nat → Int64} {Q : State → Prop} {args : Array Value} {ls : Array Slot} (X : LX p l s m args c b L xs D cI cJ) (hj : j + 6 ≤ L) (hL : L ≤ 3072) (hr : rl u_z u_r u_t v_x v_o) (hl : lv_has ls 7 [(0, .ref b), (1, .ref xC), (2, .ref yX), (3, .ref xO), (4, .int (nI j))]) (hP : va_P D classes [oC xC xP, oP xP xM xR xG xT u_z, oM xM xW, ar cI xW 512 u_M, oR xR xD xA u_r, ar cI xD 8 u_d, ar cI xA 8 u_a, oG xG xL xH xI, ar cI xL 6 u_lo, ar cI xH 6 u_hi, ar cI xI 6 u_ri, oT xT u_t, oX yX yM yD yA yO yL yH yI v_x, ar cI yM 512 u_M, ar cI yD 8 u_d, ar cI yA 8 u_a, ar cI yO 4 v_o, ar cI yL 6 u_lo, ar cI yH 6 u_hi, ar cI yI 6 u_ri, aj cJ xO g] H) (hD : va_D (fun q => s.heap.size ≤ q) [oC xC xP, oP xP xM xR xG xT u_z, oM xM xW, ar cI xW 512 u_M, oR xR xD xA u_r, ar cI xD 8 u_d, ar cI xA 8 u_a, oG xG xL xH xI, ar cI xL 6 u_lo, ar cI xH 6 u_hi, ar cI xI 6 u_ri, oT xT u_t, oX yX yM yD yA yO yL yH yI v_x, ar cI yM 512 u_M, ar cI yD 8 u_d, ar cI yA 8 u_a, ar cI yO 4 v_o, ar cI yL 6 u_lo, ar cI yH 6 u_hi, ar cI yI 6 u_ri, aj cJ xO g]) (hS : va_S (fun q => s.heap.size ≤ q) s.heap H locs) (hc : cells + 1 ≤ room_1.cells ∧ slots + 6 ≤ room_1.slots)
    (hN : ∀ (u_z u_M u_r u_d u_a u_lo u_hi u_ri u_t v_x v_o : Nat → Int32) (g : Nat → Int64) (H : Heap) (locs : List Loc) (ls : Array Slot), rl u_z u_r u_t v_x v_o → lv_has ls 7 [(0, .ref b), (1, .ref xC), (2, .ref yX), (3, .ref xO), (4, .int (nI j))] → va_P D classes [oC xC xP, oP xP xM xR xG xT u_z, oM xM xW, ar cI xW 512 u_M, oR xR xD xA u_r, ar cI xD 8 u_d, ar cI xA 8 u_a, oG xG xL xH xI, ar cI xL 6 u_lo, ar cI xH 6 u_hi, ar cI xI 6 u_ri, oT xT u_t, oX yX yM yD yA yO yL yH yI v_x, ar cI yM 512 u_M, ar cI yD 8 u_d, ar cI yA 8 u_a, ar cI yO 4 v_o, ar cI yL 6 u_lo, ar cI yH 6 u_hi, ar cI yI 6 u_ri, aj cJ xO g] H → va_D (fun q => s.heap.size ≤ q) [oC xC xP, oP xP xM xR xG xT u_z, oM xM xW, ar cI xW 512 u_M, oR xR xD xA u_r, ar cI xD 8 u_d, ar cI xA 8 u_a, oG xG xL xH xI, ar cI xL 6 u_lo, ar cI xH 6 u_hi, ar cI xI 6 u_ri, oT xT u_t, oX yX yM yD yA yO yL yH yI v_x, ar cI yM 512 u_M, ar cI yD 8 u_d, ar cI yA 8 u_a, ar cI yO 4 v_o, ar cI yL 6 u_lo, ar cI yH 6 u_hi, ar cI yI 6 u_ri, aj cJ xO g] → va_S (fun q => s.heap.size ≤ q) s.heap H locs → W p l e room_1 s m args below meth c H locs (cells + 1) (slots + 6) Q (F0 m 716 ls [])) : W p l e room_1 s m args below meth c H locs cells slots Q (F0 m 149 ls []) := by
  obtain ⟨hx, hb, hml, hown, hts, hX, hbl, hK, hz, htr⟩ := X
  have hf0 : cells ≤ room_1.cells ∧ slots ≤ room_1.slots := ⟨Nat.le_of_succ_le hc.1, Nat.le_trans (Nat.le_add_right _ _) hc.2⟩
  have hbA : ¬ s.heap.size ≤ b := Nat.not_le.mpr hbl
  have hA : ∀ q : Nat, s.heap.size ≤ q → s.heap.size ≤ q := fun q h => h
  refine lv_aload_n hx hb d_law_149 rfl (lv_at hl 1 rfl) ?_
  refine lv_aload_n hx hb d_law_150 rfl (lv_at hl 0 rfl) ?_
  refine lv_iload hx hb d_law_151 (lv_at hl 4 rfl) ?_
  refine lv_iconst (v := (1 : Int32)) hx hb d_law_153 rfl ?_
  refine lv_iadd hx hb d_law_154 ?_
  refine va_sld hx hb hX hbl hbA hS (sc1 hj hL) d_law_155 ?_
  refine lv_aload_n hx hb d_law_156 rfl (lv_at hl 0 rfl) ?_
  refine lv_iload hx hb d_law_157 (lv_at hl 4 rfl) ?_
  refine lv_iconst (v := (2 : Int32)) hx hb d_law_159 rfl ?_
  refine lv_iadd hx hb d_law_160 ?_
  refine va_sld hx hb hX hbl hbA hS (sc2 hj hL) d_law_161 ?_
  refine zz_cH (rest := []) (wr := [oX yX yM yD yA yO yL yH yI v_x, ar cI yM 512 u_M, ar cI yD 8 u_d, ar cI yA 8 u_a, ar cI yO 4 v_o, ar cI yL 6 u_lo, ar cI yH 6 u_hi, ar cI yI 6 u_ri, aj cJ xO g]) (w' := [oC xC xP, oP xP xM xR xG xT u_z, oM xM xW, ar cI xW 512 ((s_C_pool u_z u_M u_r u_d u_a u_lo u_hi u_ri u_t (xs (ix ((nI j) + (1 : Int32)))) (xs (ix ((nI j) + (2 : Int32))))).1), oR xR xD xA ((s_C_pool u_z u_M u_r u_d u_a u_lo u_hi u_ri u_t (xs (ix ((nI j) + (1 : Int32)))) (xs (ix ((nI j) + (2 : Int32))))).2), ar cI xD 8 u_d, ar cI xA 8 u_a, oG xG xL xH xI, ar cI xL 6 u_lo, ar cI xH 6 u_hi, ar cI xI 6 u_ri, oT xT u_t, oX yX yM yD yA yO yL yH yI v_x, ar cI yM 512 u_M, ar cI yD 8 u_d, ar cI yA 8 u_a, ar cI yO 4 v_o, ar cI yL 6 u_lo, ar cI yH 6 u_hi, ar cI yI 6 u_ri, aj cJ xO g]) ⟨hx, hb, hml, hown, hts⟩ (h_pool l htr D cI _ xC xP xM xW xR xD xA xG xL xH xI xT u_z u_M u_r u_d u_a u_lo u_hi u_ri u_t (xs (ix ((nI j) + (1 : Int32)))) (xs (ix ((nI j) + (2 : Int32))))) mw_437 mw_438 mw_439 mw_440 nd_L_pool ⟨⟨rfl, rfl⟩, Nat.le_of_ble_eq_true rfl, Nat.le_of_ble_eq_true rfl⟩ hK [0] rfl hP hD hS hA (zth_of hz hS) [0, 1, 2, 3, 4, 5, 6, 7, 8, 9, 10, 11] [12, 13, 14, 15, 16, 17, 18, 19, 20] [9, 10, 11, 12, 13, 14, 15, 16, 17, 18, 19, 20, 0, 1, 2, 3, 4, 5, 6, 7, 8] rfl rfl rfl rfl (by decide) rfl rfl rfl rfl hl.1 (Nat.le_of_ble_eq_true rfl) d_law_162 hc (fun H locs hP hD hS => ?_)
  refine lv_istore hx hb d_law_165 hl (by decide) rfl (fun ls hl => ?_)
  refine lv_aload_n hx hb d_law_167 rfl (lv_at hl 3 rfl) ?_
  refine lv_aload_n hx hb d_law_168 rfl (lv_at hl 1 rfl) ?_
  refine lv_iload hx hb d_law_169 (lv_at hl 5 rfl) ?_
  refine lv_iconst (v := (1 : Int32)) hx hb d_law_171 rfl ?_
  refine lv_iadd hx hb d_law_172 ?_
  refine va_sld hx hb hX hbl hbA hS (sc1 hj hL) d_law_173 ?_
  refine lv_aload_n hx hb d_law_174 rfl (lv_at hl 1 rfl) ?_
  refine lv_iload hx hb d_law_175 (lv_at hl 5 rfl) ?_
  refine lv_iconst (v := (2 : Int32)) hx hb d_law_177 rfl ?_
  refine lv_iadd hx hb d_law_178 ?_
  refine va_sld hx hb hX hbl hbA hS (sc2 hj hL) d_law_179 ?_
  refine zz_cVv (rest := []) (wr := [oC xC xP, oP xP xM xR xG xT u_z, oM xM xW, ar cI xW 512 ((s_C_pool u_z u_M u_r u_d u_a u_lo u_hi u_ri u_t (xs (ix ((nI j) + (1 : Int32)))) (xs (ix ((nI j) + (2 : Int32))))).1), oR xR xD xA ((s_C_pool u_z u_M u_r u_d u_a u_lo u_hi u_ri u_t (xs (ix ((nI j) + (1 : Int32)))) (xs (ix ((nI j) + (2 : Int32))))).2), ar cI xD 8 u_d, ar cI xA 8 u_a, oG xG xL xH xI, ar cI xL 6 u_lo, ar cI xH 6 u_hi, ar cI xI 6 u_ri, oT xT u_t, aj cJ xO g]) (w' := [oC xC xP, oP xP xM xR xG xT u_z, oM xM xW, ar cI xW 512 ((s_C_pool u_z u_M u_r u_d u_a u_lo u_hi u_ri u_t (xs (ix ((nI j) + (1 : Int32)))) (xs (ix ((nI j) + (2 : Int32))))).1), oR xR xD xA ((s_C_pool u_z u_M u_r u_d u_a u_lo u_hi u_ri u_t (xs (ix ((nI j) + (1 : Int32)))) (xs (ix ((nI j) + (2 : Int32))))).2), ar cI xD 8 u_d, ar cI xA 8 u_a, oG xG xL xH xI, ar cI xL 6 u_lo, ar cI xH 6 u_hi, ar cI xI 6 u_ri, oT xT u_t, oX yX yM yD yA yO yL yH yI ((s_X_pool v_x u_M u_d u_a v_o u_lo u_hi u_ri (xs (ix ((nI j) + (1 : Int32)))) (xs (ix ((nI j) + (2 : Int32))))).1), ar cI yM 512 ((s_X_pool v_x u_M u_d u_a v_o u_lo u_hi u_ri (xs (ix ((nI j) + (1 : Int32)))) (xs (ix ((nI j) + (2 : Int32))))).2.1), ar cI yD 8 u_d, ar cI yA 8 u_a, ar cI yO 4 ((s_X_pool v_x u_M u_d u_a v_o u_lo u_hi u_ri (xs (ix ((nI j) + (1 : Int32)))) (xs (ix ((nI j) + (2 : Int32))))).2.2), ar cI yL 6 u_lo, ar cI yH 6 u_hi, ar cI yI 6 u_ri, aj cJ xO g]) ⟨hx, hb, hml, hown, hts⟩ (k_X_pool l D cI _ yX yM yD yA yO yL yH yI v_x u_M u_d u_a v_o u_lo u_hi u_ri (xs (ix ((nI j) + (1 : Int32)))) (xs (ix ((nI j) + (2 : Int32))))) g_law_X_pool_52 nv_X_pool ⟨⟨rfl, rfl⟩, Nat.le_of_ble_eq_true rfl, Nat.le_of_ble_eq_true rfl⟩ hK [0] rfl hP hD hS hA [12, 13, 14, 15, 16, 17, 18, 19] [0, 1, 2, 3, 4, 5, 6, 7, 8, 9, 10, 11, 20] [0, 1, 2, 3, 4, 5, 6, 7, 8, 9, 10, 11, 13, 14, 15, 16, 17, 18, 19, 20, 12] rfl rfl rfl rfl (by decide) rfl rfl 12 6 rfl rfl rfl rfl hl.1 (Nat.le_of_ble_eq_true rfl) d_law_180 hc (fun H locs hP hD hS => ?_)
  have f := f_pool (M := u_M) (d := u_d) (a := u_a) (lo := u_lo) (hi := u_hi) (ri := u_ri) (a1 := (xs (ix ((nI j) + (1 : Int32))))) (a2 := (xs (ix ((nI j) + (2 : Int32))))) hr
  refine lv_aload_n hx hb d_law_183 rfl (lv_at hl 3 rfl) ?_
  refine zz_cVi (rest := []) (wr := [oC xC xP, oP xP xM xR xG xT u_z, oM xM xW, ar cI xW 512 ((s_C_pool u_z u_M u_r u_d u_a u_lo u_hi u_ri u_t (xs (ix ((nI j) + (1 : Int32)))) (xs (ix ((nI j) + (2 : Int32))))).1), oR xR xD xA ((s_C_pool u_z u_M u_r u_d u_a u_lo u_hi u_ri u_t (xs (ix ((nI j) + (1 : Int32)))) (xs (ix ((nI j) + (2 : Int32))))).2), ar cI xD 8 u_d, ar cI xA 8 u_a, oG xG xL xH xI, ar cI xL 6 u_lo, ar cI xH 6 u_hi, ar cI xI 6 u_ri, oT xT u_t, aj cJ xO g]) (w' := [oC xC xP, oP xP xM xR xG xT u_z, oM xM xW, ar cI xW 512 ((s_C_pool u_z u_M u_r u_d u_a u_lo u_hi u_ri u_t (xs (ix ((nI j) + (1 : Int32)))) (xs (ix ((nI j) + (2 : Int32))))).1), oR xR xD xA ((s_C_pool u_z u_M u_r u_d u_a u_lo u_hi u_ri u_t (xs (ix ((nI j) + (1 : Int32)))) (xs (ix ((nI j) + (2 : Int32))))).2), ar cI xD 8 u_d, ar cI xA 8 u_a, oG xG xL xH xI, ar cI xL 6 u_lo, ar cI xH 6 u_hi, ar cI xI 6 u_ri, oT xT u_t, oX yX yM yD yA yO yL yH yI ((s_X_pool v_x u_M u_d u_a v_o u_lo u_hi u_ri (xs (ix ((nI j) + (1 : Int32)))) (xs (ix ((nI j) + (2 : Int32))))).1), ar cI yM 512 ((s_X_pool v_x u_M u_d u_a v_o u_lo u_hi u_ri (xs (ix ((nI j) + (1 : Int32)))) (xs (ix ((nI j) + (2 : Int32))))).2.1), ar cI yD 8 u_d, ar cI yA 8 u_a, ar cI yO 4 ((s_X_pool v_x u_M u_d u_a v_o u_lo u_hi u_ri (xs (ix ((nI j) + (1 : Int32)))) (xs (ix ((nI j) + (2 : Int32))))).2.2), ar cI yL 6 u_lo, ar cI yH 6 u_hi, ar cI yI 6 u_ri, aj cJ xO g]) ⟨hx, hb, hml, hown, hts⟩ (k_X_thrown l D cI _ yX yM yD yA yO yL yH yI ((s_X_pool v_x u_M u_d u_a v_o u_lo u_hi u_ri (xs (ix ((nI j) + (1 : Int32)))) (xs (ix ((nI j) + (2 : Int32))))).1) ((s_X_pool v_x u_M u_d u_a v_o u_lo u_hi u_ri (xs (ix ((nI j) + (1 : Int32)))) (xs (ix ((nI j) + (2 : Int32))))).2.1) u_d u_a ((s_X_pool v_x u_M u_d u_a v_o u_lo u_hi u_ri (xs (ix ((nI j) + (1 : Int32)))) (xs (ix ((nI j) + (2 : Int32))))).2.2) u_lo u_hi u_ri) g_law_X_thrown_53 nv_X_thrown ⟨⟨rfl, rfl⟩, Nat.le_of_ble_eq_true rfl, Nat.le_of_ble_eq_true rfl⟩ hK [0] rfl hP hD hS hA [12, 13, 14, 15, 16, 17, 18, 19] [0, 1, 2, 3, 4, 5, 6, 7, 8, 9, 10, 11, 20] [0, 1, 2, 3, 4, 5, 6, 7, 8, 9, 10, 11, 13, 14, 15, 16, 17, 18, 19, 20, 12] rfl rfl rfl rfl (by decide) rfl rfl 12 6 rfl rfl rfl rfl hl.1 (Nat.le_of_ble_eq_true rfl) d_law_184 hc (fun H locs hP hD hS => ?_)
  refine lv_iload hx hb d_law_187 (lv_at hl 0 rfl) ?_
  refine lv_icmp_eq (tgt := 194) hx hb d_law_189 (by decide) (fun h189 => ?_) (fun h189 => ?_)
  ·
    refine lv_goto (tgt := 716) hx hb d_law_194 (by decide) ?_
    rw [f.2.1] at hP hD
    exact hN _ _ _ _ _ _ _ _ _ _ _ _ _ _ _ (f.2.2) (lv_sub hl [1, 2, 3, 4, 5] rfl) hP hD hS
  ·
    exact (h189 (f.1)).elim
set_option maxHeartbeats 4000000 in
set_option maxRecDepth 100000 in
theorem lc_tables {p : Program} {l : Launch} {e : Env} {s : State} {m : MethodId} {below : List Frame} {meth : Method} {c : Code} {H : Heap} {locs : List Loc} {cells slots b L j xO : Nat} {cI cJ : ClassId} {xs : Nat → Int32} {D : va_G} {xC xP xM xW xR xD xA xG xL xH xI xT yX yM yD yA yO yL yH yI : Nat} {u_z u_M u_r u_d u_a u_lo u_hi u_ri u_t v_x v_o : Nat → Int32} {g : Nat → Int64} {Q : State → Prop} {args : Array Value} {ls : Array Slot} (X : LX p l s m args c b L xs D cI cJ) (hj : j + 6 ≤ L) (hL : L ≤ 3072) (hr : rl u_z u_r u_t v_x v_o) (hl : lv_has ls 7 [(0, .ref b), (1, .ref xC), (2, .ref yX), (3, .ref xO), (4, .int (nI j))]) (hP : va_P D classes [oC xC xP, oP xP xM xR xG xT u_z, oM xM xW, ar cI xW 512 u_M, oR xR xD xA u_r, ar cI xD 8 u_d, ar cI xA 8 u_a, oG xG xL xH xI, ar cI xL 6 u_lo, ar cI xH 6 u_hi, ar cI xI 6 u_ri, oT xT u_t, oX yX yM yD yA yO yL yH yI v_x, ar cI yM 512 u_M, ar cI yD 8 u_d, ar cI yA 8 u_a, ar cI yO 4 v_o, ar cI yL 6 u_lo, ar cI yH 6 u_hi, ar cI yI 6 u_ri, aj cJ xO g] H) (hD : va_D (fun q => s.heap.size ≤ q) [oC xC xP, oP xP xM xR xG xT u_z, oM xM xW, ar cI xW 512 u_M, oR xR xD xA u_r, ar cI xD 8 u_d, ar cI xA 8 u_a, oG xG xL xH xI, ar cI xL 6 u_lo, ar cI xH 6 u_hi, ar cI xI 6 u_ri, oT xT u_t, oX yX yM yD yA yO yL yH yI v_x, ar cI yM 512 u_M, ar cI yD 8 u_d, ar cI yA 8 u_a, ar cI yO 4 v_o, ar cI yL 6 u_lo, ar cI yH 6 u_hi, ar cI yI 6 u_ri, aj cJ xO g]) (hS : va_S (fun q => s.heap.size ≤ q) s.heap H locs) (hc : cells + 1 ≤ room_1.cells ∧ slots + 6 ≤ room_1.slots)
    (hN : ∀ (u_z u_M u_r u_d u_a u_lo u_hi u_ri u_t v_x v_o : Nat → Int32) (g : Nat → Int64) (H : Heap) (locs : List Loc) (ls : Array Slot), rl u_z u_r u_t v_x v_o → lv_has ls 7 [(0, .ref b), (1, .ref xC), (2, .ref yX), (3, .ref xO), (4, .int (nI j))] → va_P D classes [oC xC xP, oP xP xM xR xG xT u_z, oM xM xW, ar cI xW 512 u_M, oR xR xD xA u_r, ar cI xD 8 u_d, ar cI xA 8 u_a, oG xG xL xH xI, ar cI xL 6 u_lo, ar cI xH 6 u_hi, ar cI xI 6 u_ri, oT xT u_t, oX yX yM yD yA yO yL yH yI v_x, ar cI yM 512 u_M, ar cI yD 8 u_d, ar cI yA 8 u_a, ar cI yO 4 v_o, ar cI yL 6 u_lo, ar cI yH 6 u_hi, ar cI yI 6 u_ri, aj cJ xO g] H → va_D (fun q => s.heap.size ≤ q) [oC xC xP, oP xP xM xR xG xT u_z, oM xM xW, ar cI xW 512 u_M, oR xR xD xA u_r, ar cI xD 8 u_d, ar cI xA 8 u_a, oG xG xL xH xI, ar cI xL 6 u_lo, ar cI xH 6 u_hi, ar cI xI 6 u_ri, oT xT u_t, oX yX yM yD yA yO yL yH yI v_x, ar cI yM 512 u_M, ar cI yD 8 u_d, ar cI yA 8 u_a, ar cI yO 4 v_o, ar cI yL 6 u_lo, ar cI yH 6 u_hi, ar cI yI 6 u_ri, aj cJ xO g] → va_S (fun q => s.heap.size ≤ q) s.heap H locs → W p l e room_1 s m args below meth c H locs (cells + 1) (slots + 6) Q (F0 m 716 ls [])) : W p l e room_1 s m args below meth c H locs cells slots Q (F0 m 197 ls []) := by
  obtain ⟨hx, hb, hml, hown, hts, hX, hbl, hK, hz, htr⟩ := X
  have hf0 : cells ≤ room_1.cells ∧ slots ≤ room_1.slots := ⟨Nat.le_of_succ_le hc.1, Nat.le_trans (Nat.le_add_right _ _) hc.2⟩
  have hbA : ¬ s.heap.size ≤ b := Nat.not_le.mpr hbl
  have hA : ∀ q : Nat, s.heap.size ≤ q → s.heap.size ≤ q := fun q h => h
  refine lv_aload_n hx hb d_law_197 rfl (lv_at hl 1 rfl) ?_
  refine lv_aload_n hx hb d_law_198 rfl (lv_at hl 0 rfl) ?_
  refine lv_iload hx hb d_law_199 (lv_at hl 4 rfl) ?_
  refine lv_iconst (v := (1 : Int32)) hx hb d_law_201 rfl ?_
  refine lv_iadd hx hb d_law_202 ?_
  refine va_sld hx hb hX hbl hbA hS (sc1 hj hL) d_law_203 ?_
  refine lv_aload_n hx hb d_law_204 rfl (lv_at hl 0 rfl) ?_
  refine lv_iload hx hb d_law_205 (lv_at hl 4 rfl) ?_
  refine lv_iconst (v := (2 : Int32)) hx hb d_law_207 rfl ?_
  refine lv_iadd hx hb d_law_208 ?_
  refine va_sld hx hb hX hbl hbA hS (sc2 hj hL) d_law_209 ?_
  refine zz_cVv (rest := []) (wr := [oX yX yM yD yA yO yL yH yI v_x, ar cI yM 512 u_M, ar cI yD 8 u_d, ar cI yA 8 u_a, ar cI yO 4 v_o, ar cI yL 6 u_lo, ar cI yH 6 u_hi, ar cI yI 6 u_ri, aj cJ xO g]) (w' := [oC xC xP, oP xP xM xR xG xT (s_C_tables u_z u_M u_r u_d u_a u_lo u_hi u_ri u_t (xs (ix ((nI j) + (1 : Int32)))) (xs (ix ((nI j) + (2 : Int32))))), oM xM xW, ar cI xW 512 u_M, oR xR xD xA u_r, ar cI xD 8 u_d, ar cI xA 8 u_a, oG xG xL xH xI, ar cI xL 6 u_lo, ar cI xH 6 u_hi, ar cI xI 6 u_ri, oT xT u_t, oX yX yM yD yA yO yL yH yI v_x, ar cI yM 512 u_M, ar cI yD 8 u_d, ar cI yA 8 u_a, ar cI yO 4 v_o, ar cI yL 6 u_lo, ar cI yH 6 u_hi, ar cI yI 6 u_ri, aj cJ xO g]) ⟨hx, hb, hml, hown, hts⟩ (k_C_tables l D cI _ xC xP xM xW xR xD xA xG xL xH xI xT u_z u_M u_r u_d u_a u_lo u_hi u_ri u_t (xs (ix ((nI j) + (1 : Int32)))) (xs (ix ((nI j) + (2 : Int32))))) g_law_C_tables_57 nv_C_tables ⟨⟨rfl, rfl⟩, Nat.le_of_ble_eq_true rfl, Nat.le_of_ble_eq_true rfl⟩ hK [0] rfl hP hD hS hA [0, 1, 2, 3, 4, 5, 6, 7, 8, 9, 10, 11] [12, 13, 14, 15, 16, 17, 18, 19, 20] [9, 10, 11, 12, 13, 14, 15, 16, 17, 18, 19, 20, 0, 1, 2, 3, 4, 5, 6, 7, 8] rfl rfl rfl rfl (by decide) rfl rfl 0 5 rfl rfl rfl rfl hl.1 (Nat.le_of_ble_eq_true rfl) d_law_210 hf0 (fun H locs hP hD hS => ?_)
  refine lv_aload_n hx hb d_law_213 rfl (lv_at hl 2 rfl) ?_
  refine lv_aload_n hx hb d_law_214 rfl (lv_at hl 0 rfl) ?_
  refine lv_iload hx hb d_law_215 (lv_at hl 4 rfl) ?_
  refine lv_iconst (v := (1 : Int32)) hx hb d_law_217 rfl ?_
  refine lv_iadd hx hb d_law_218 ?_
  refine va_sld hx hb hX hbl hbA hS (sc1 hj hL) d_law_219 ?_
  refine lv_aload_n hx hb d_law_220 rfl (lv_at hl 0 rfl) ?_
  refine lv_iload hx hb d_law_221 (lv_at hl 4 rfl) ?_
  refine lv_iconst (v := (2 : Int32)) hx hb d_law_223 rfl ?_
  refine lv_iadd hx hb d_law_224 ?_
  refine va_sld hx hb hX hbl hbA hS (sc2 hj hL) d_law_225 ?_
  refine zz_cVv (rest := []) (wr := [oC xC xP, oP xP xM xR xG xT (s_C_tables u_z u_M u_r u_d u_a u_lo u_hi u_ri u_t (xs (ix ((nI j) + (1 : Int32)))) (xs (ix ((nI j) + (2 : Int32))))), oM xM xW, ar cI xW 512 u_M, oR xR xD xA u_r, ar cI xD 8 u_d, ar cI xA 8 u_a, oG xG xL xH xI, ar cI xL 6 u_lo, ar cI xH 6 u_hi, ar cI xI 6 u_ri, oT xT u_t, aj cJ xO g]) (w' := [oC xC xP, oP xP xM xR xG xT (s_C_tables u_z u_M u_r u_d u_a u_lo u_hi u_ri u_t (xs (ix ((nI j) + (1 : Int32)))) (xs (ix ((nI j) + (2 : Int32))))), oM xM xW, ar cI xW 512 u_M, oR xR xD xA u_r, ar cI xD 8 u_d, ar cI xA 8 u_a, oG xG xL xH xI, ar cI xL 6 u_lo, ar cI xH 6 u_hi, ar cI xI 6 u_ri, oT xT u_t, oX yX yM yD yA yO yL yH yI (s_X_tables v_x u_M u_d u_a v_o u_lo u_hi u_ri (xs (ix ((nI j) + (1 : Int32)))) (xs (ix ((nI j) + (2 : Int32))))), ar cI yM 512 u_M, ar cI yD 8 u_d, ar cI yA 8 u_a, ar cI yO 4 v_o, ar cI yL 6 u_lo, ar cI yH 6 u_hi, ar cI yI 6 u_ri, aj cJ xO g]) ⟨hx, hb, hml, hown, hts⟩ (k_X_tables l D cI _ yX yM yD yA yO yL yH yI v_x u_M u_d u_a v_o u_lo u_hi u_ri (xs (ix ((nI j) + (1 : Int32)))) (xs (ix ((nI j) + (2 : Int32))))) g_law_X_tables_60 nv_X_tables ⟨⟨rfl, rfl⟩, Nat.le_of_ble_eq_true rfl, Nat.le_of_ble_eq_true rfl⟩ hK [0] rfl hP hD hS hA [12, 13, 14, 15, 16, 17, 18, 19] [0, 1, 2, 3, 4, 5, 6, 7, 8, 9, 10, 11, 20] [0, 1, 2, 3, 4, 5, 6, 7, 8, 9, 10, 11, 13, 14, 15, 16, 17, 18, 19, 20, 12] rfl rfl rfl rfl (by decide) rfl rfl 12 6 rfl rfl rfl rfl hl.1 (Nat.le_of_ble_eq_true rfl) d_law_226 hf0 (fun H locs hP hD hS => ?_)
  have f := f_tables (M := u_M) (d := u_d) (a := u_a) (lo := u_lo) (hi := u_hi) (ri := u_ri) (a1 := (xs (ix ((nI j) + (1 : Int32))))) (a2 := (xs (ix ((nI j) + (2 : Int32))))) hr
  refine lv_goto (tgt := 716) hx hb d_law_229 (by decide) ?_
  exact W.widen (Nat.le_succ _) (Nat.le_add_right _ _) (hN _ _ _ _ _ _ _ _ _ _ _ _ _ _ _ (f) (lv_sub hl [0, 1, 2, 3, 4] rfl) hP hD hS)
set_option maxHeartbeats 4000000 in
set_option maxRecDepth 100000 in
theorem lc_range {p : Program} {l : Launch} {e : Env} {s : State} {m : MethodId} {below : List Frame} {meth : Method} {c : Code} {H : Heap} {locs : List Loc} {cells slots b L j xO : Nat} {cI cJ : ClassId} {xs : Nat → Int32} {D : va_G} {xC xP xM xW xR xD xA xG xL xH xI xT yX yM yD yA yO yL yH yI : Nat} {u_z u_M u_r u_d u_a u_lo u_hi u_ri u_t v_x v_o : Nat → Int32} {g : Nat → Int64} {Q : State → Prop} {args : Array Value} {ls : Array Slot} (X : LX p l s m args c b L xs D cI cJ) (hj : j + 6 ≤ L) (hL : L ≤ 3072) (hr : rl u_z u_r u_t v_x v_o) (hl : lv_has ls 7 [(0, .ref b), (1, .ref xC), (2, .ref yX), (3, .ref xO), (4, .int (nI j))]) (hP : va_P D classes [oC xC xP, oP xP xM xR xG xT u_z, oM xM xW, ar cI xW 512 u_M, oR xR xD xA u_r, ar cI xD 8 u_d, ar cI xA 8 u_a, oG xG xL xH xI, ar cI xL 6 u_lo, ar cI xH 6 u_hi, ar cI xI 6 u_ri, oT xT u_t, oX yX yM yD yA yO yL yH yI v_x, ar cI yM 512 u_M, ar cI yD 8 u_d, ar cI yA 8 u_a, ar cI yO 4 v_o, ar cI yL 6 u_lo, ar cI yH 6 u_hi, ar cI yI 6 u_ri, aj cJ xO g] H) (hD : va_D (fun q => s.heap.size ≤ q) [oC xC xP, oP xP xM xR xG xT u_z, oM xM xW, ar cI xW 512 u_M, oR xR xD xA u_r, ar cI xD 8 u_d, ar cI xA 8 u_a, oG xG xL xH xI, ar cI xL 6 u_lo, ar cI xH 6 u_hi, ar cI xI 6 u_ri, oT xT u_t, oX yX yM yD yA yO yL yH yI v_x, ar cI yM 512 u_M, ar cI yD 8 u_d, ar cI yA 8 u_a, ar cI yO 4 v_o, ar cI yL 6 u_lo, ar cI yH 6 u_hi, ar cI yI 6 u_ri, aj cJ xO g]) (hS : va_S (fun q => s.heap.size ≤ q) s.heap H locs) (hc : cells + 1 ≤ room_1.cells ∧ slots + 6 ≤ room_1.slots)
    (hN : ∀ (u_z u_M u_r u_d u_a u_lo u_hi u_ri u_t v_x v_o : Nat → Int32) (g : Nat → Int64) (H : Heap) (locs : List Loc) (ls : Array Slot), rl u_z u_r u_t v_x v_o → lv_has ls 7 [(0, .ref b), (1, .ref xC), (2, .ref yX), (3, .ref xO), (4, .int (nI j))] → va_P D classes [oC xC xP, oP xP xM xR xG xT u_z, oM xM xW, ar cI xW 512 u_M, oR xR xD xA u_r, ar cI xD 8 u_d, ar cI xA 8 u_a, oG xG xL xH xI, ar cI xL 6 u_lo, ar cI xH 6 u_hi, ar cI xI 6 u_ri, oT xT u_t, oX yX yM yD yA yO yL yH yI v_x, ar cI yM 512 u_M, ar cI yD 8 u_d, ar cI yA 8 u_a, ar cI yO 4 v_o, ar cI yL 6 u_lo, ar cI yH 6 u_hi, ar cI yI 6 u_ri, aj cJ xO g] H → va_D (fun q => s.heap.size ≤ q) [oC xC xP, oP xP xM xR xG xT u_z, oM xM xW, ar cI xW 512 u_M, oR xR xD xA u_r, ar cI xD 8 u_d, ar cI xA 8 u_a, oG xG xL xH xI, ar cI xL 6 u_lo, ar cI xH 6 u_hi, ar cI xI 6 u_ri, oT xT u_t, oX yX yM yD yA yO yL yH yI v_x, ar cI yM 512 u_M, ar cI yD 8 u_d, ar cI yA 8 u_a, ar cI yO 4 v_o, ar cI yL 6 u_lo, ar cI yH 6 u_hi, ar cI yI 6 u_ri, aj cJ xO g] → va_S (fun q => s.heap.size ≤ q) s.heap H locs → W p l e room_1 s m args below meth c H locs (cells + 1) (slots + 6) Q (F0 m 716 ls [])) : W p l e room_1 s m args below meth c H locs cells slots Q (F0 m 232 ls []) := by
  obtain ⟨hx, hb, hml, hown, hts, hX, hbl, hK, hz, htr⟩ := X
  have hf0 : cells ≤ room_1.cells ∧ slots ≤ room_1.slots := ⟨Nat.le_of_succ_le hc.1, Nat.le_trans (Nat.le_add_right _ _) hc.2⟩
  have hbA : ¬ s.heap.size ≤ b := Nat.not_le.mpr hbl
  have hA : ∀ q : Nat, s.heap.size ≤ q → s.heap.size ≤ q := fun q h => h
  refine lv_aload_n hx hb d_law_232 rfl (lv_at hl 1 rfl) ?_
  refine lv_aload_n hx hb d_law_233 rfl (lv_at hl 0 rfl) ?_
  refine lv_iload hx hb d_law_234 (lv_at hl 4 rfl) ?_
  refine lv_iconst (v := (1 : Int32)) hx hb d_law_236 rfl ?_
  refine lv_iadd hx hb d_law_237 ?_
  refine va_sld hx hb hX hbl hbA hS (sc1 hj hL) d_law_238 ?_
  refine lv_aload_n hx hb d_law_239 rfl (lv_at hl 0 rfl) ?_
  refine lv_iload hx hb d_law_240 (lv_at hl 4 rfl) ?_
  refine lv_iconst (v := (2 : Int32)) hx hb d_law_242 rfl ?_
  refine lv_iadd hx hb d_law_243 ?_
  refine va_sld hx hb hX hbl hbA hS (sc2 hj hL) d_law_244 ?_
  refine lv_aload_n hx hb d_law_245 rfl (lv_at hl 0 rfl) ?_
  refine lv_iload hx hb d_law_246 (lv_at hl 4 rfl) ?_
  refine lv_iconst (v := (3 : Int32)) hx hb d_law_248 rfl ?_
  refine lv_iadd hx hb d_law_249 ?_
  refine va_sld hx hb hX hbl hbA hS (sc3 hj hL) d_law_250 ?_
  refine lv_aload_n hx hb d_law_251 rfl (lv_at hl 0 rfl) ?_
  refine lv_iload hx hb d_law_252 (lv_at hl 4 rfl) ?_
  refine lv_iconst (v := (4 : Int32)) hx hb d_law_254 rfl ?_
  refine lv_iadd hx hb d_law_255 ?_
  refine va_sld hx hb hX hbl hbA hS (sc4 hj hL) d_law_256 ?_
  refine lv_aload_n hx hb d_law_257 rfl (lv_at hl 0 rfl) ?_
  refine lv_iload hx hb d_law_258 (lv_at hl 4 rfl) ?_
  refine lv_iconst (v := (5 : Int32)) hx hb d_law_260 rfl ?_
  refine lv_iadd hx hb d_law_261 ?_
  refine va_sld hx hb hX hbl hbA hS (sc5 hj hL) d_law_262 ?_
  refine zz_cH (rest := []) (wr := [oX yX yM yD yA yO yL yH yI v_x, ar cI yM 512 u_M, ar cI yD 8 u_d, ar cI yA 8 u_a, ar cI yO 4 v_o, ar cI yL 6 u_lo, ar cI yH 6 u_hi, ar cI yI 6 u_ri, aj cJ xO g]) (w' := [oC xC xP, oP xP xM xR xG xT u_z, oM xM xW, ar cI xW 512 u_M, oR xR xD xA u_r, ar cI xD 8 u_d, ar cI xA 8 u_a, oG xG xL xH xI, ar cI xL 6 ((s_C_range u_z u_M u_r u_d u_a u_lo u_hi u_ri u_t (xs (ix ((nI j) + (1 : Int32)))) (xs (ix ((nI j) + (2 : Int32)))) (xs (ix ((nI j) + (3 : Int32)))) (xs (ix ((nI j) + (4 : Int32)))) (xs (ix ((nI j) + (5 : Int32))))).1), ar cI xH 6 ((s_C_range u_z u_M u_r u_d u_a u_lo u_hi u_ri u_t (xs (ix ((nI j) + (1 : Int32)))) (xs (ix ((nI j) + (2 : Int32)))) (xs (ix ((nI j) + (3 : Int32)))) (xs (ix ((nI j) + (4 : Int32)))) (xs (ix ((nI j) + (5 : Int32))))).2.1), ar cI xI 6 ((s_C_range u_z u_M u_r u_d u_a u_lo u_hi u_ri u_t (xs (ix ((nI j) + (1 : Int32)))) (xs (ix ((nI j) + (2 : Int32)))) (xs (ix ((nI j) + (3 : Int32)))) (xs (ix ((nI j) + (4 : Int32)))) (xs (ix ((nI j) + (5 : Int32))))).2.2), oT xT u_t, oX yX yM yD yA yO yL yH yI v_x, ar cI yM 512 u_M, ar cI yD 8 u_d, ar cI yA 8 u_a, ar cI yO 4 v_o, ar cI yL 6 u_lo, ar cI yH 6 u_hi, ar cI yI 6 u_ri, aj cJ xO g]) ⟨hx, hb, hml, hown, hts⟩ (h_range l htr D cI _ xC xP xM xW xR xD xA xG xL xH xI xT u_z u_M u_r u_d u_a u_lo u_hi u_ri u_t (xs (ix ((nI j) + (1 : Int32)))) (xs (ix ((nI j) + (2 : Int32)))) (xs (ix ((nI j) + (3 : Int32)))) (xs (ix ((nI j) + (4 : Int32)))) (xs (ix ((nI j) + (5 : Int32))))) mw_457 mw_458 mw_459 mw_460 nd_L_range ⟨⟨rfl, rfl⟩, Nat.le_of_ble_eq_true rfl, Nat.le_of_ble_eq_true rfl⟩ hK [0] rfl hP hD hS hA (zth_of hz hS) [0, 1, 2, 3, 4, 5, 6, 7, 8, 9, 10, 11] [12, 13, 14, 15, 16, 17, 18, 19, 20] [9, 10, 11, 12, 13, 14, 15, 16, 17, 18, 19, 20, 0, 1, 2, 3, 4, 5, 6, 7, 8] rfl rfl rfl rfl (by decide) rfl rfl rfl rfl hl.1 (Nat.le_of_ble_eq_true rfl) d_law_263 hc (fun H locs hP hD hS => ?_)
  refine lv_istore hx hb d_law_266 hl (by decide) rfl (fun ls hl => ?_)
  refine lv_aload_n hx hb d_law_268 rfl (lv_at hl 3 rfl) ?_
  refine lv_aload_n hx hb d_law_269 rfl (lv_at hl 1 rfl) ?_
  refine lv_iload hx hb d_law_270 (lv_at hl 5 rfl) ?_
  refine lv_iconst (v := (1 : Int32)) hx hb d_law_272 rfl ?_
  refine lv_iadd hx hb d_law_273 ?_
  refine va_sld hx hb hX hbl hbA hS (sc1 hj hL) d_law_274 ?_
  refine lv_aload_n hx hb d_law_275 rfl (lv_at hl 1 rfl) ?_
  refine lv_iload hx hb d_law_276 (lv_at hl 5 rfl) ?_
  refine lv_iconst (v := (2 : Int32)) hx hb d_law_278 rfl ?_
  refine lv_iadd hx hb d_law_279 ?_
  refine va_sld hx hb hX hbl hbA hS (sc2 hj hL) d_law_280 ?_
  refine lv_aload_n hx hb d_law_281 rfl (lv_at hl 1 rfl) ?_
  refine lv_iload hx hb d_law_282 (lv_at hl 5 rfl) ?_
  refine lv_iconst (v := (3 : Int32)) hx hb d_law_284 rfl ?_
  refine lv_iadd hx hb d_law_285 ?_
  refine va_sld hx hb hX hbl hbA hS (sc3 hj hL) d_law_286 ?_
  refine lv_aload_n hx hb d_law_287 rfl (lv_at hl 1 rfl) ?_
  refine lv_iload hx hb d_law_288 (lv_at hl 5 rfl) ?_
  refine lv_iconst (v := (4 : Int32)) hx hb d_law_290 rfl ?_
  refine lv_iadd hx hb d_law_291 ?_
  refine va_sld hx hb hX hbl hbA hS (sc4 hj hL) d_law_292 ?_
  refine lv_aload_n hx hb d_law_293 rfl (lv_at hl 1 rfl) ?_
  refine lv_iload hx hb d_law_294 (lv_at hl 5 rfl) ?_
  refine lv_iconst (v := (5 : Int32)) hx hb d_law_296 rfl ?_
  refine lv_iadd hx hb d_law_297 ?_
  refine va_sld hx hb hX hbl hbA hS (sc5 hj hL) d_law_298 ?_
  refine zz_cVv (rest := []) (wr := [oC xC xP, oP xP xM xR xG xT u_z, oM xM xW, ar cI xW 512 u_M, oR xR xD xA u_r, ar cI xD 8 u_d, ar cI xA 8 u_a, oG xG xL xH xI, ar cI xL 6 ((s_C_range u_z u_M u_r u_d u_a u_lo u_hi u_ri u_t (xs (ix ((nI j) + (1 : Int32)))) (xs (ix ((nI j) + (2 : Int32)))) (xs (ix ((nI j) + (3 : Int32)))) (xs (ix ((nI j) + (4 : Int32)))) (xs (ix ((nI j) + (5 : Int32))))).1), ar cI xH 6 ((s_C_range u_z u_M u_r u_d u_a u_lo u_hi u_ri u_t (xs (ix ((nI j) + (1 : Int32)))) (xs (ix ((nI j) + (2 : Int32)))) (xs (ix ((nI j) + (3 : Int32)))) (xs (ix ((nI j) + (4 : Int32)))) (xs (ix ((nI j) + (5 : Int32))))).2.1), ar cI xI 6 ((s_C_range u_z u_M u_r u_d u_a u_lo u_hi u_ri u_t (xs (ix ((nI j) + (1 : Int32)))) (xs (ix ((nI j) + (2 : Int32)))) (xs (ix ((nI j) + (3 : Int32)))) (xs (ix ((nI j) + (4 : Int32)))) (xs (ix ((nI j) + (5 : Int32))))).2.2), oT xT u_t, aj cJ xO g]) (w' := [oC xC xP, oP xP xM xR xG xT u_z, oM xM xW, ar cI xW 512 u_M, oR xR xD xA u_r, ar cI xD 8 u_d, ar cI xA 8 u_a, oG xG xL xH xI, ar cI xL 6 ((s_C_range u_z u_M u_r u_d u_a u_lo u_hi u_ri u_t (xs (ix ((nI j) + (1 : Int32)))) (xs (ix ((nI j) + (2 : Int32)))) (xs (ix ((nI j) + (3 : Int32)))) (xs (ix ((nI j) + (4 : Int32)))) (xs (ix ((nI j) + (5 : Int32))))).1), ar cI xH 6 ((s_C_range u_z u_M u_r u_d u_a u_lo u_hi u_ri u_t (xs (ix ((nI j) + (1 : Int32)))) (xs (ix ((nI j) + (2 : Int32)))) (xs (ix ((nI j) + (3 : Int32)))) (xs (ix ((nI j) + (4 : Int32)))) (xs (ix ((nI j) + (5 : Int32))))).2.1), ar cI xI 6 ((s_C_range u_z u_M u_r u_d u_a u_lo u_hi u_ri u_t (xs (ix ((nI j) + (1 : Int32)))) (xs (ix ((nI j) + (2 : Int32)))) (xs (ix ((nI j) + (3 : Int32)))) (xs (ix ((nI j) + (4 : Int32)))) (xs (ix ((nI j) + (5 : Int32))))).2.2), oT xT u_t, oX yX yM yD yA yO yL yH yI ((s_X_range v_x u_M u_d u_a v_o u_lo u_hi u_ri (xs (ix ((nI j) + (1 : Int32)))) (xs (ix ((nI j) + (2 : Int32)))) (xs (ix ((nI j) + (3 : Int32)))) (xs (ix ((nI j) + (4 : Int32)))) (xs (ix ((nI j) + (5 : Int32))))).1), ar cI yM 512 u_M, ar cI yD 8 u_d, ar cI yA 8 u_a, ar cI yO 4 v_o, ar cI yL 6 ((s_X_range v_x u_M u_d u_a v_o u_lo u_hi u_ri (xs (ix ((nI j) + (1 : Int32)))) (xs (ix ((nI j) + (2 : Int32)))) (xs (ix ((nI j) + (3 : Int32)))) (xs (ix ((nI j) + (4 : Int32)))) (xs (ix ((nI j) + (5 : Int32))))).2.1), ar cI yH 6 ((s_X_range v_x u_M u_d u_a v_o u_lo u_hi u_ri (xs (ix ((nI j) + (1 : Int32)))) (xs (ix ((nI j) + (2 : Int32)))) (xs (ix ((nI j) + (3 : Int32)))) (xs (ix ((nI j) + (4 : Int32)))) (xs (ix ((nI j) + (5 : Int32))))).2.2.1), ar cI yI 6 ((s_X_range v_x u_M u_d u_a v_o u_lo u_hi u_ri (xs (ix ((nI j) + (1 : Int32)))) (xs (ix ((nI j) + (2 : Int32)))) (xs (ix ((nI j) + (3 : Int32)))) (xs (ix ((nI j) + (4 : Int32)))) (xs (ix ((nI j) + (5 : Int32))))).2.2.2), aj cJ xO g]) ⟨hx, hb, hml, hown, hts⟩ (k_X_range l D cI _ yX yM yD yA yO yL yH yI v_x u_M u_d u_a v_o u_lo u_hi u_ri (xs (ix ((nI j) + (1 : Int32)))) (xs (ix ((nI j) + (2 : Int32)))) (xs (ix ((nI j) + (3 : Int32)))) (xs (ix ((nI j) + (4 : Int32)))) (xs (ix ((nI j) + (5 : Int32))))) g_law_X_range_64 nv_X_range ⟨⟨rfl, rfl⟩, Nat.le_of_ble_eq_true rfl, Nat.le_of_ble_eq_true rfl⟩ hK [0] rfl hP hD hS hA [12, 13, 14, 15, 16, 17, 18, 19] [0, 1, 2, 3, 4, 5, 6, 7, 8, 9, 10, 11, 20] [0, 1, 2, 3, 4, 5, 6, 7, 8, 9, 10, 11, 13, 14, 15, 16, 17, 18, 19, 20, 12] rfl rfl rfl rfl (by decide) rfl rfl 12 6 rfl rfl rfl rfl hl.1 (Nat.le_of_ble_eq_true rfl) d_law_299 hc (fun H locs hP hD hS => ?_)
  have f := f_range (M := u_M) (d := u_d) (a := u_a) (lo := u_lo) (hi := u_hi) (ri := u_ri) (a1 := (xs (ix ((nI j) + (1 : Int32))))) (a2 := (xs (ix ((nI j) + (2 : Int32))))) (a3 := (xs (ix ((nI j) + (3 : Int32))))) (a4 := (xs (ix ((nI j) + (4 : Int32))))) (a5 := (xs (ix ((nI j) + (5 : Int32))))) hr
  refine lv_aload_n hx hb d_law_302 rfl (lv_at hl 3 rfl) ?_
  refine zz_cVi (rest := []) (wr := [oC xC xP, oP xP xM xR xG xT u_z, oM xM xW, ar cI xW 512 u_M, oR xR xD xA u_r, ar cI xD 8 u_d, ar cI xA 8 u_a, oG xG xL xH xI, ar cI xL 6 ((s_C_range u_z u_M u_r u_d u_a u_lo u_hi u_ri u_t (xs (ix ((nI j) + (1 : Int32)))) (xs (ix ((nI j) + (2 : Int32)))) (xs (ix ((nI j) + (3 : Int32)))) (xs (ix ((nI j) + (4 : Int32)))) (xs (ix ((nI j) + (5 : Int32))))).1), ar cI xH 6 ((s_C_range u_z u_M u_r u_d u_a u_lo u_hi u_ri u_t (xs (ix ((nI j) + (1 : Int32)))) (xs (ix ((nI j) + (2 : Int32)))) (xs (ix ((nI j) + (3 : Int32)))) (xs (ix ((nI j) + (4 : Int32)))) (xs (ix ((nI j) + (5 : Int32))))).2.1), ar cI xI 6 ((s_C_range u_z u_M u_r u_d u_a u_lo u_hi u_ri u_t (xs (ix ((nI j) + (1 : Int32)))) (xs (ix ((nI j) + (2 : Int32)))) (xs (ix ((nI j) + (3 : Int32)))) (xs (ix ((nI j) + (4 : Int32)))) (xs (ix ((nI j) + (5 : Int32))))).2.2), oT xT u_t, aj cJ xO g]) (w' := [oC xC xP, oP xP xM xR xG xT u_z, oM xM xW, ar cI xW 512 u_M, oR xR xD xA u_r, ar cI xD 8 u_d, ar cI xA 8 u_a, oG xG xL xH xI, ar cI xL 6 ((s_C_range u_z u_M u_r u_d u_a u_lo u_hi u_ri u_t (xs (ix ((nI j) + (1 : Int32)))) (xs (ix ((nI j) + (2 : Int32)))) (xs (ix ((nI j) + (3 : Int32)))) (xs (ix ((nI j) + (4 : Int32)))) (xs (ix ((nI j) + (5 : Int32))))).1), ar cI xH 6 ((s_C_range u_z u_M u_r u_d u_a u_lo u_hi u_ri u_t (xs (ix ((nI j) + (1 : Int32)))) (xs (ix ((nI j) + (2 : Int32)))) (xs (ix ((nI j) + (3 : Int32)))) (xs (ix ((nI j) + (4 : Int32)))) (xs (ix ((nI j) + (5 : Int32))))).2.1), ar cI xI 6 ((s_C_range u_z u_M u_r u_d u_a u_lo u_hi u_ri u_t (xs (ix ((nI j) + (1 : Int32)))) (xs (ix ((nI j) + (2 : Int32)))) (xs (ix ((nI j) + (3 : Int32)))) (xs (ix ((nI j) + (4 : Int32)))) (xs (ix ((nI j) + (5 : Int32))))).2.2), oT xT u_t, oX yX yM yD yA yO yL yH yI ((s_X_range v_x u_M u_d u_a v_o u_lo u_hi u_ri (xs (ix ((nI j) + (1 : Int32)))) (xs (ix ((nI j) + (2 : Int32)))) (xs (ix ((nI j) + (3 : Int32)))) (xs (ix ((nI j) + (4 : Int32)))) (xs (ix ((nI j) + (5 : Int32))))).1), ar cI yM 512 u_M, ar cI yD 8 u_d, ar cI yA 8 u_a, ar cI yO 4 v_o, ar cI yL 6 ((s_X_range v_x u_M u_d u_a v_o u_lo u_hi u_ri (xs (ix ((nI j) + (1 : Int32)))) (xs (ix ((nI j) + (2 : Int32)))) (xs (ix ((nI j) + (3 : Int32)))) (xs (ix ((nI j) + (4 : Int32)))) (xs (ix ((nI j) + (5 : Int32))))).2.1), ar cI yH 6 ((s_X_range v_x u_M u_d u_a v_o u_lo u_hi u_ri (xs (ix ((nI j) + (1 : Int32)))) (xs (ix ((nI j) + (2 : Int32)))) (xs (ix ((nI j) + (3 : Int32)))) (xs (ix ((nI j) + (4 : Int32)))) (xs (ix ((nI j) + (5 : Int32))))).2.2.1), ar cI yI 6 ((s_X_range v_x u_M u_d u_a v_o u_lo u_hi u_ri (xs (ix ((nI j) + (1 : Int32)))) (xs (ix ((nI j) + (2 : Int32)))) (xs (ix ((nI j) + (3 : Int32)))) (xs (ix ((nI j) + (4 : Int32)))) (xs (ix ((nI j) + (5 : Int32))))).2.2.2), aj cJ xO g]) ⟨hx, hb, hml, hown, hts⟩ (k_X_thrown l D cI _ yX yM yD yA yO yL yH yI ((s_X_range v_x u_M u_d u_a v_o u_lo u_hi u_ri (xs (ix ((nI j) + (1 : Int32)))) (xs (ix ((nI j) + (2 : Int32)))) (xs (ix ((nI j) + (3 : Int32)))) (xs (ix ((nI j) + (4 : Int32)))) (xs (ix ((nI j) + (5 : Int32))))).1) u_M u_d u_a v_o ((s_X_range v_x u_M u_d u_a v_o u_lo u_hi u_ri (xs (ix ((nI j) + (1 : Int32)))) (xs (ix ((nI j) + (2 : Int32)))) (xs (ix ((nI j) + (3 : Int32)))) (xs (ix ((nI j) + (4 : Int32)))) (xs (ix ((nI j) + (5 : Int32))))).2.1) ((s_X_range v_x u_M u_d u_a v_o u_lo u_hi u_ri (xs (ix ((nI j) + (1 : Int32)))) (xs (ix ((nI j) + (2 : Int32)))) (xs (ix ((nI j) + (3 : Int32)))) (xs (ix ((nI j) + (4 : Int32)))) (xs (ix ((nI j) + (5 : Int32))))).2.2.1) ((s_X_range v_x u_M u_d u_a v_o u_lo u_hi u_ri (xs (ix ((nI j) + (1 : Int32)))) (xs (ix ((nI j) + (2 : Int32)))) (xs (ix ((nI j) + (3 : Int32)))) (xs (ix ((nI j) + (4 : Int32)))) (xs (ix ((nI j) + (5 : Int32))))).2.2.2)) g_law_X_thrown_53 nv_X_thrown ⟨⟨rfl, rfl⟩, Nat.le_of_ble_eq_true rfl, Nat.le_of_ble_eq_true rfl⟩ hK [0] rfl hP hD hS hA [12, 13, 14, 15, 16, 17, 18, 19] [0, 1, 2, 3, 4, 5, 6, 7, 8, 9, 10, 11, 20] [0, 1, 2, 3, 4, 5, 6, 7, 8, 9, 10, 11, 13, 14, 15, 16, 17, 18, 19, 20, 12] rfl rfl rfl rfl (by decide) rfl rfl 12 6 rfl rfl rfl rfl hl.1 (Nat.le_of_ble_eq_true rfl) d_law_303 hc (fun H locs hP hD hS => ?_)
  refine lv_iload hx hb d_law_306 (lv_at hl 0 rfl) ?_
  refine lv_icmp_eq (tgt := 313) hx hb d_law_308 (by decide) (fun h308 => ?_) (fun h308 => ?_)
  ·
    refine lv_goto (tgt := 716) hx hb d_law_313 (by decide) ?_
    rw [f.2.1, f.2.2.1, f.2.2.2.1] at hP hD
    exact hN _ _ _ _ _ _ _ _ _ _ _ _ _ _ _ (f.2.2.2.2) (lv_sub hl [1, 2, 3, 4, 5] rfl) hP hD hS
  ·
    exact (h308 (f.1)).elim
set_option maxHeartbeats 4000000 in
set_option maxRecDepth 100000 in
theorem lc_guard {p : Program} {l : Launch} {e : Env} {s : State} {m : MethodId} {below : List Frame} {meth : Method} {c : Code} {H : Heap} {locs : List Loc} {cells slots b L j xO : Nat} {cI cJ : ClassId} {xs : Nat → Int32} {D : va_G} {xC xP xM xW xR xD xA xG xL xH xI xT yX yM yD yA yO yL yH yI : Nat} {u_z u_M u_r u_d u_a u_lo u_hi u_ri u_t v_x v_o : Nat → Int32} {g : Nat → Int64} {Q : State → Prop} {args : Array Value} {ls : Array Slot} (X : LX p l s m args c b L xs D cI cJ) (hj : j + 6 ≤ L) (hL : L ≤ 3072) (hr : rl u_z u_r u_t v_x v_o) (hl : lv_has ls 7 [(0, .ref b), (1, .ref xC), (2, .ref yX), (3, .ref xO), (4, .int (nI j))]) (hP : va_P D classes [oC xC xP, oP xP xM xR xG xT u_z, oM xM xW, ar cI xW 512 u_M, oR xR xD xA u_r, ar cI xD 8 u_d, ar cI xA 8 u_a, oG xG xL xH xI, ar cI xL 6 u_lo, ar cI xH 6 u_hi, ar cI xI 6 u_ri, oT xT u_t, oX yX yM yD yA yO yL yH yI v_x, ar cI yM 512 u_M, ar cI yD 8 u_d, ar cI yA 8 u_a, ar cI yO 4 v_o, ar cI yL 6 u_lo, ar cI yH 6 u_hi, ar cI yI 6 u_ri, aj cJ xO g] H) (hD : va_D (fun q => s.heap.size ≤ q) [oC xC xP, oP xP xM xR xG xT u_z, oM xM xW, ar cI xW 512 u_M, oR xR xD xA u_r, ar cI xD 8 u_d, ar cI xA 8 u_a, oG xG xL xH xI, ar cI xL 6 u_lo, ar cI xH 6 u_hi, ar cI xI 6 u_ri, oT xT u_t, oX yX yM yD yA yO yL yH yI v_x, ar cI yM 512 u_M, ar cI yD 8 u_d, ar cI yA 8 u_a, ar cI yO 4 v_o, ar cI yL 6 u_lo, ar cI yH 6 u_hi, ar cI yI 6 u_ri, aj cJ xO g]) (hS : va_S (fun q => s.heap.size ≤ q) s.heap H locs) (hc : cells + 1 ≤ room_1.cells ∧ slots + 6 ≤ room_1.slots)
    (hN : ∀ (u_z u_M u_r u_d u_a u_lo u_hi u_ri u_t v_x v_o : Nat → Int32) (g : Nat → Int64) (H : Heap) (locs : List Loc) (ls : Array Slot), rl u_z u_r u_t v_x v_o → lv_has ls 7 [(0, .ref b), (1, .ref xC), (2, .ref yX), (3, .ref xO), (4, .int (nI j))] → va_P D classes [oC xC xP, oP xP xM xR xG xT u_z, oM xM xW, ar cI xW 512 u_M, oR xR xD xA u_r, ar cI xD 8 u_d, ar cI xA 8 u_a, oG xG xL xH xI, ar cI xL 6 u_lo, ar cI xH 6 u_hi, ar cI xI 6 u_ri, oT xT u_t, oX yX yM yD yA yO yL yH yI v_x, ar cI yM 512 u_M, ar cI yD 8 u_d, ar cI yA 8 u_a, ar cI yO 4 v_o, ar cI yL 6 u_lo, ar cI yH 6 u_hi, ar cI yI 6 u_ri, aj cJ xO g] H → va_D (fun q => s.heap.size ≤ q) [oC xC xP, oP xP xM xR xG xT u_z, oM xM xW, ar cI xW 512 u_M, oR xR xD xA u_r, ar cI xD 8 u_d, ar cI xA 8 u_a, oG xG xL xH xI, ar cI xL 6 u_lo, ar cI xH 6 u_hi, ar cI xI 6 u_ri, oT xT u_t, oX yX yM yD yA yO yL yH yI v_x, ar cI yM 512 u_M, ar cI yD 8 u_d, ar cI yA 8 u_a, ar cI yO 4 v_o, ar cI yL 6 u_lo, ar cI yH 6 u_hi, ar cI yI 6 u_ri, aj cJ xO g] → va_S (fun q => s.heap.size ≤ q) s.heap H locs → W p l e room_1 s m args below meth c H locs (cells + 1) (slots + 6) Q (F0 m 716 ls [])) : W p l e room_1 s m args below meth c H locs cells slots Q (F0 m 316 ls []) := by
  obtain ⟨hx, hb, hml, hown, hts, hX, hbl, hK, hz, htr⟩ := X
  have hf0 : cells ≤ room_1.cells ∧ slots ≤ room_1.slots := ⟨Nat.le_of_succ_le hc.1, Nat.le_trans (Nat.le_add_right _ _) hc.2⟩
  have hbA : ¬ s.heap.size ≤ b := Nat.not_le.mpr hbl
  have hA : ∀ q : Nat, s.heap.size ≤ q → s.heap.size ≤ q := fun q h => h
  refine lv_aload_n hx hb d_law_316 rfl (lv_at hl 1 rfl) ?_
  refine lv_aload_n hx hb d_law_317 rfl (lv_at hl 0 rfl) ?_
  refine lv_iload hx hb d_law_318 (lv_at hl 4 rfl) ?_
  refine lv_iconst (v := (1 : Int32)) hx hb d_law_320 rfl ?_
  refine lv_iadd hx hb d_law_321 ?_
  refine va_sld hx hb hX hbl hbA hS (sc1 hj hL) d_law_322 ?_
  refine lv_if_eq (tgt := 330) hx hb d_law_323 (by decide) (fun h323 => ?_) (fun h323 => ?_)
  ·
    refine lv_iconst (v := (0 : Int32)) hx hb d_law_330 rfl ?_
    refine zz_cVv (rest := []) (wr := [oX yX yM yD yA yO yL yH yI v_x, ar cI yM 512 u_M, ar cI yD 8 u_d, ar cI yA 8 u_a, ar cI yO 4 v_o, ar cI yL 6 u_lo, ar cI yH 6 u_hi, ar cI yI 6 u_ri, aj cJ xO g]) (w' := [oC xC xP, oP xP xM xR xG xT (s_C_guard u_z u_M u_r u_d u_a u_lo u_hi u_ri u_t (0 : Int32)), oM xM xW, ar cI xW 512 u_M, oR xR xD xA u_r, ar cI xD 8 u_d, ar cI xA 8 u_a, oG xG xL xH xI, ar cI xL 6 u_lo, ar cI xH 6 u_hi, ar cI xI 6 u_ri, oT xT u_t, oX yX yM yD yA yO yL yH yI v_x, ar cI yM 512 u_M, ar cI yD 8 u_d, ar cI yA 8 u_a, ar cI yO 4 v_o, ar cI yL 6 u_lo, ar cI yH 6 u_hi, ar cI yI 6 u_ri, aj cJ xO g]) ⟨hx, hb, hml, hown, hts⟩ (k_C_guard l D cI _ xC xP xM xW xR xD xA xG xL xH xI xT u_z u_M u_r u_d u_a u_lo u_hi u_ri u_t (0 : Int32) (Or.inl rfl)) g_law_C_guard_65 nv_C_guard ⟨⟨rfl, rfl⟩, Nat.le_of_ble_eq_true rfl, Nat.le_of_ble_eq_true rfl⟩ hK [0] rfl hP hD hS hA [0, 1, 2, 3, 4, 5, 6, 7, 8, 9, 10, 11] [12, 13, 14, 15, 16, 17, 18, 19, 20] [9, 10, 11, 12, 13, 14, 15, 16, 17, 18, 19, 20, 0, 1, 2, 3, 4, 5, 6, 7, 8] rfl rfl rfl rfl (by decide) rfl rfl 0 5 rfl rfl rfl rfl hl.1 (Nat.le_of_ble_eq_true rfl) d_law_331 hf0 (fun H locs hP hD hS => ?_)
    refine lv_aload_n hx hb d_law_334 rfl (lv_at hl 2 rfl) ?_
    refine lv_aload_n hx hb d_law_335 rfl (lv_at hl 0 rfl) ?_
    refine lv_iload hx hb d_law_336 (lv_at hl 4 rfl) ?_
    refine lv_iconst (v := (1 : Int32)) hx hb d_law_338 rfl ?_
    refine lv_iadd hx hb d_law_339 ?_
    refine va_sld hx hb hX hbl hbA hS (sc1 hj hL) d_law_340 ?_
    refine lv_if_eq (tgt := 348) hx hb d_law_341 (by decide) (fun h341 => ?_) (fun h341 => ?_)
    ·
      refine lv_iconst (v := (0 : Int32)) hx hb d_law_348 rfl ?_
      refine zz_cVv (rest := []) (wr := [oC xC xP, oP xP xM xR xG xT (s_C_guard u_z u_M u_r u_d u_a u_lo u_hi u_ri u_t (0 : Int32)), oM xM xW, ar cI xW 512 u_M, oR xR xD xA u_r, ar cI xD 8 u_d, ar cI xA 8 u_a, oG xG xL xH xI, ar cI xL 6 u_lo, ar cI xH 6 u_hi, ar cI xI 6 u_ri, oT xT u_t, aj cJ xO g]) (w' := [oC xC xP, oP xP xM xR xG xT (s_C_guard u_z u_M u_r u_d u_a u_lo u_hi u_ri u_t (0 : Int32)), oM xM xW, ar cI xW 512 u_M, oR xR xD xA u_r, ar cI xD 8 u_d, ar cI xA 8 u_a, oG xG xL xH xI, ar cI xL 6 u_lo, ar cI xH 6 u_hi, ar cI xI 6 u_ri, oT xT u_t, oX yX yM yD yA yO yL yH yI (s_X_guard v_x u_M u_d u_a v_o u_lo u_hi u_ri (0 : Int32)), ar cI yM 512 u_M, ar cI yD 8 u_d, ar cI yA 8 u_a, ar cI yO 4 v_o, ar cI yL 6 u_lo, ar cI yH 6 u_hi, ar cI yI 6 u_ri, aj cJ xO g]) ⟨hx, hb, hml, hown, hts⟩ (k_X_guard l D cI _ yX yM yD yA yO yL yH yI v_x u_M u_d u_a v_o u_lo u_hi u_ri (0 : Int32) (Or.inl rfl)) g_law_X_guard_69 nv_X_guard ⟨⟨rfl, rfl⟩, Nat.le_of_ble_eq_true rfl, Nat.le_of_ble_eq_true rfl⟩ hK [0] rfl hP hD hS hA [12, 13, 14, 15, 16, 17, 18, 19] [0, 1, 2, 3, 4, 5, 6, 7, 8, 9, 10, 11, 20] [0, 1, 2, 3, 4, 5, 6, 7, 8, 9, 10, 11, 13, 14, 15, 16, 17, 18, 19, 20, 12] rfl rfl rfl rfl (by decide) rfl rfl 12 6 rfl rfl rfl rfl hl.1 (Nat.le_of_ble_eq_true rfl) d_law_349 hf0 (fun H locs hP hD hS => ?_)
      have f := f_guard (M := u_M) (d := u_d) (a := u_a) (lo := u_lo) (hi := u_hi) (ri := u_ri) (a1 := (0 : Int32)) hr (Or.inl rfl)
      refine lv_goto (tgt := 716) hx hb d_law_352 (by decide) ?_
      exact W.widen (Nat.le_succ _) (Nat.le_add_right _ _) (hN _ _ _ _ _ _ _ _ _ _ _ _ _ _ _ (f) (lv_sub hl [0, 1, 2, 3, 4] rfl) hP hD hS)
    ·
      exact absurd h323 h341
  ·
    refine lv_iconst (v := (1 : Int32)) hx hb d_law_326 rfl ?_
    refine lv_goto (tgt := 331) hx hb d_law_327 (by decide) ?_
    refine zz_cVv (rest := []) (wr := [oX yX yM yD yA yO yL yH yI v_x, ar cI yM 512 u_M, ar cI yD 8 u_d, ar cI yA 8 u_a, ar cI yO 4 v_o, ar cI yL 6 u_lo, ar cI yH 6 u_hi, ar cI yI 6 u_ri, aj cJ xO g]) (w' := [oC xC xP, oP xP xM xR xG xT (s_C_guard u_z u_M u_r u_d u_a u_lo u_hi u_ri u_t (1 : Int32)), oM xM xW, ar cI xW 512 u_M, oR xR xD xA u_r, ar cI xD 8 u_d, ar cI xA 8 u_a, oG xG xL xH xI, ar cI xL 6 u_lo, ar cI xH 6 u_hi, ar cI xI 6 u_ri, oT xT u_t, oX yX yM yD yA yO yL yH yI v_x, ar cI yM 512 u_M, ar cI yD 8 u_d, ar cI yA 8 u_a, ar cI yO 4 v_o, ar cI yL 6 u_lo, ar cI yH 6 u_hi, ar cI yI 6 u_ri, aj cJ xO g]) ⟨hx, hb, hml, hown, hts⟩ (k_C_guard l D cI _ xC xP xM xW xR xD xA xG xL xH xI xT u_z u_M u_r u_d u_a u_lo u_hi u_ri u_t (1 : Int32) (Or.inr rfl)) g_law_C_guard_65 nv_C_guard ⟨⟨rfl, rfl⟩, Nat.le_of_ble_eq_true rfl, Nat.le_of_ble_eq_true rfl⟩ hK [0] rfl hP hD hS hA [0, 1, 2, 3, 4, 5, 6, 7, 8, 9, 10, 11] [12, 13, 14, 15, 16, 17, 18, 19, 20] [9, 10, 11, 12, 13, 14, 15, 16, 17, 18, 19, 20, 0, 1, 2, 3, 4, 5, 6, 7, 8] rfl rfl rfl rfl (by decide) rfl rfl 0 5 rfl rfl rfl rfl hl.1 (Nat.le_of_ble_eq_true rfl) d_law_331 hf0 (fun H locs hP hD hS => ?_)
    refine lv_aload_n hx hb d_law_334 rfl (lv_at hl 2 rfl) ?_
    refine lv_aload_n hx hb d_law_335 rfl (lv_at hl 0 rfl) ?_
    refine lv_iload hx hb d_law_336 (lv_at hl 4 rfl) ?_
    refine lv_iconst (v := (1 : Int32)) hx hb d_law_338 rfl ?_
    refine lv_iadd hx hb d_law_339 ?_
    refine va_sld hx hb hX hbl hbA hS (sc1 hj hL) d_law_340 ?_
    refine lv_if_eq (tgt := 348) hx hb d_law_341 (by decide) (fun h341 => ?_) (fun h341 => ?_)
    ·
      exact absurd h341 h323
    ·
      refine lv_iconst (v := (1 : Int32)) hx hb d_law_344 rfl ?_
      refine lv_goto (tgt := 349) hx hb d_law_345 (by decide) ?_
      refine zz_cVv (rest := []) (wr := [oC xC xP, oP xP xM xR xG xT (s_C_guard u_z u_M u_r u_d u_a u_lo u_hi u_ri u_t (1 : Int32)), oM xM xW, ar cI xW 512 u_M, oR xR xD xA u_r, ar cI xD 8 u_d, ar cI xA 8 u_a, oG xG xL xH xI, ar cI xL 6 u_lo, ar cI xH 6 u_hi, ar cI xI 6 u_ri, oT xT u_t, aj cJ xO g]) (w' := [oC xC xP, oP xP xM xR xG xT (s_C_guard u_z u_M u_r u_d u_a u_lo u_hi u_ri u_t (1 : Int32)), oM xM xW, ar cI xW 512 u_M, oR xR xD xA u_r, ar cI xD 8 u_d, ar cI xA 8 u_a, oG xG xL xH xI, ar cI xL 6 u_lo, ar cI xH 6 u_hi, ar cI xI 6 u_ri, oT xT u_t, oX yX yM yD yA yO yL yH yI (s_X_guard v_x u_M u_d u_a v_o u_lo u_hi u_ri (1 : Int32)), ar cI yM 512 u_M, ar cI yD 8 u_d, ar cI yA 8 u_a, ar cI yO 4 v_o, ar cI yL 6 u_lo, ar cI yH 6 u_hi, ar cI yI 6 u_ri, aj cJ xO g]) ⟨hx, hb, hml, hown, hts⟩ (k_X_guard l D cI _ yX yM yD yA yO yL yH yI v_x u_M u_d u_a v_o u_lo u_hi u_ri (1 : Int32) (Or.inr rfl)) g_law_X_guard_69 nv_X_guard ⟨⟨rfl, rfl⟩, Nat.le_of_ble_eq_true rfl, Nat.le_of_ble_eq_true rfl⟩ hK [0] rfl hP hD hS hA [12, 13, 14, 15, 16, 17, 18, 19] [0, 1, 2, 3, 4, 5, 6, 7, 8, 9, 10, 11, 20] [0, 1, 2, 3, 4, 5, 6, 7, 8, 9, 10, 11, 13, 14, 15, 16, 17, 18, 19, 20, 12] rfl rfl rfl rfl (by decide) rfl rfl 12 6 rfl rfl rfl rfl hl.1 (Nat.le_of_ble_eq_true rfl) d_law_349 hf0 (fun H locs hP hD hS => ?_)
      have f := f_guard (M := u_M) (d := u_d) (a := u_a) (lo := u_lo) (hi := u_hi) (ri := u_ri) (a1 := (1 : Int32)) hr (Or.inr rfl)
      refine lv_goto (tgt := 716) hx hb d_law_352 (by decide) ?_
      exact W.widen (Nat.le_succ _) (Nat.le_add_right _ _) (hN _ _ _ _ _ _ _ _ _ _ _ _ _ _ _ (f) (lv_sub hl [0, 1, 2, 3, 4] rfl) hP hD hS)
set_option maxHeartbeats 4000000 in
set_option maxRecDepth 100000 in
theorem lc_timer {p : Program} {l : Launch} {e : Env} {s : State} {m : MethodId} {below : List Frame} {meth : Method} {c : Code} {H : Heap} {locs : List Loc} {cells slots b L j xO : Nat} {cI cJ : ClassId} {xs : Nat → Int32} {D : va_G} {xC xP xM xW xR xD xA xG xL xH xI xT yX yM yD yA yO yL yH yI : Nat} {u_z u_M u_r u_d u_a u_lo u_hi u_ri u_t v_x v_o : Nat → Int32} {g : Nat → Int64} {Q : State → Prop} {args : Array Value} {ls : Array Slot} (X : LX p l s m args c b L xs D cI cJ) (hj : j + 6 ≤ L) (hL : L ≤ 3072) (hr : rl u_z u_r u_t v_x v_o) (hl : lv_has ls 7 [(0, .ref b), (1, .ref xC), (2, .ref yX), (3, .ref xO), (4, .int (nI j))]) (hP : va_P D classes [oC xC xP, oP xP xM xR xG xT u_z, oM xM xW, ar cI xW 512 u_M, oR xR xD xA u_r, ar cI xD 8 u_d, ar cI xA 8 u_a, oG xG xL xH xI, ar cI xL 6 u_lo, ar cI xH 6 u_hi, ar cI xI 6 u_ri, oT xT u_t, oX yX yM yD yA yO yL yH yI v_x, ar cI yM 512 u_M, ar cI yD 8 u_d, ar cI yA 8 u_a, ar cI yO 4 v_o, ar cI yL 6 u_lo, ar cI yH 6 u_hi, ar cI yI 6 u_ri, aj cJ xO g] H) (hD : va_D (fun q => s.heap.size ≤ q) [oC xC xP, oP xP xM xR xG xT u_z, oM xM xW, ar cI xW 512 u_M, oR xR xD xA u_r, ar cI xD 8 u_d, ar cI xA 8 u_a, oG xG xL xH xI, ar cI xL 6 u_lo, ar cI xH 6 u_hi, ar cI xI 6 u_ri, oT xT u_t, oX yX yM yD yA yO yL yH yI v_x, ar cI yM 512 u_M, ar cI yD 8 u_d, ar cI yA 8 u_a, ar cI yO 4 v_o, ar cI yL 6 u_lo, ar cI yH 6 u_hi, ar cI yI 6 u_ri, aj cJ xO g]) (hS : va_S (fun q => s.heap.size ≤ q) s.heap H locs) (hc : cells + 1 ≤ room_1.cells ∧ slots + 6 ≤ room_1.slots)
    (hN : ∀ (u_z u_M u_r u_d u_a u_lo u_hi u_ri u_t v_x v_o : Nat → Int32) (g : Nat → Int64) (H : Heap) (locs : List Loc) (ls : Array Slot), rl u_z u_r u_t v_x v_o → lv_has ls 7 [(0, .ref b), (1, .ref xC), (2, .ref yX), (3, .ref xO), (4, .int (nI j))] → va_P D classes [oC xC xP, oP xP xM xR xG xT u_z, oM xM xW, ar cI xW 512 u_M, oR xR xD xA u_r, ar cI xD 8 u_d, ar cI xA 8 u_a, oG xG xL xH xI, ar cI xL 6 u_lo, ar cI xH 6 u_hi, ar cI xI 6 u_ri, oT xT u_t, oX yX yM yD yA yO yL yH yI v_x, ar cI yM 512 u_M, ar cI yD 8 u_d, ar cI yA 8 u_a, ar cI yO 4 v_o, ar cI yL 6 u_lo, ar cI yH 6 u_hi, ar cI yI 6 u_ri, aj cJ xO g] H → va_D (fun q => s.heap.size ≤ q) [oC xC xP, oP xP xM xR xG xT u_z, oM xM xW, ar cI xW 512 u_M, oR xR xD xA u_r, ar cI xD 8 u_d, ar cI xA 8 u_a, oG xG xL xH xI, ar cI xL 6 u_lo, ar cI xH 6 u_hi, ar cI xI 6 u_ri, oT xT u_t, oX yX yM yD yA yO yL yH yI v_x, ar cI yM 512 u_M, ar cI yD 8 u_d, ar cI yA 8 u_a, ar cI yO 4 v_o, ar cI yL 6 u_lo, ar cI yH 6 u_hi, ar cI yI 6 u_ri, aj cJ xO g] → va_S (fun q => s.heap.size ≤ q) s.heap H locs → W p l e room_1 s m args below meth c H locs (cells + 1) (slots + 6) Q (F0 m 716 ls [])) : W p l e room_1 s m args below meth c H locs cells slots Q (F0 m 355 ls []) := by
  obtain ⟨hx, hb, hml, hown, hts, hX, hbl, hK, hz, htr⟩ := X
  have hf0 : cells ≤ room_1.cells ∧ slots ≤ room_1.slots := ⟨Nat.le_of_succ_le hc.1, Nat.le_trans (Nat.le_add_right _ _) hc.2⟩
  have hbA : ¬ s.heap.size ≤ b := Nat.not_le.mpr hbl
  have hA : ∀ q : Nat, s.heap.size ≤ q → s.heap.size ≤ q := fun q h => h
  refine lv_aload_n hx hb d_law_355 rfl (lv_at hl 1 rfl) ?_
  refine lv_aload_n hx hb d_law_356 rfl (lv_at hl 0 rfl) ?_
  refine lv_iload hx hb d_law_357 (lv_at hl 4 rfl) ?_
  refine lv_iconst (v := (1 : Int32)) hx hb d_law_359 rfl ?_
  refine lv_iadd hx hb d_law_360 ?_
  refine va_sld hx hb hX hbl hbA hS (sc1 hj hL) d_law_361 ?_
  refine lv_aload_n hx hb d_law_362 rfl (lv_at hl 0 rfl) ?_
  refine lv_iload hx hb d_law_363 (lv_at hl 4 rfl) ?_
  refine lv_iconst (v := (2 : Int32)) hx hb d_law_365 rfl ?_
  refine lv_iadd hx hb d_law_366 ?_
  refine va_sld hx hb hX hbl hbA hS (sc2 hj hL) d_law_367 ?_
  refine zz_cH (rest := []) (wr := [oX yX yM yD yA yO yL yH yI v_x, ar cI yM 512 u_M, ar cI yD 8 u_d, ar cI yA 8 u_a, ar cI yO 4 v_o, ar cI yL 6 u_lo, ar cI yH 6 u_hi, ar cI yI 6 u_ri, aj cJ xO g]) (w' := [oC xC xP, oP xP xM xR xG xT u_z, oM xM xW, ar cI xW 512 u_M, oR xR xD xA u_r, ar cI xD 8 u_d, ar cI xA 8 u_a, oG xG xL xH xI, ar cI xL 6 u_lo, ar cI xH 6 u_hi, ar cI xI 6 u_ri, oT xT (s_C_timer u_z u_M u_r u_d u_a u_lo u_hi u_ri u_t (xs (ix ((nI j) + (1 : Int32)))) (xs (ix ((nI j) + (2 : Int32))))), oX yX yM yD yA yO yL yH yI v_x, ar cI yM 512 u_M, ar cI yD 8 u_d, ar cI yA 8 u_a, ar cI yO 4 v_o, ar cI yL 6 u_lo, ar cI yH 6 u_hi, ar cI yI 6 u_ri, aj cJ xO g]) ⟨hx, hb, hml, hown, hts⟩ (h_timer l htr D cI _ xC xP xM xW xR xD xA xG xL xH xI xT u_z u_M u_r u_d u_a u_lo u_hi u_ri u_t (xs (ix ((nI j) + (1 : Int32)))) (xs (ix ((nI j) + (2 : Int32))))) mw_473 mw_474 mw_475 mw_476 nd_L_timer ⟨⟨rfl, rfl⟩, Nat.le_of_ble_eq_true rfl, Nat.le_of_ble_eq_true rfl⟩ hK [0] rfl hP hD hS hA (zth_of hz hS) [0, 1, 2, 3, 4, 5, 6, 7, 8, 9, 10, 11] [12, 13, 14, 15, 16, 17, 18, 19, 20] [9, 10, 11, 12, 13, 14, 15, 16, 17, 18, 19, 20, 0, 1, 2, 3, 4, 5, 6, 7, 8] rfl rfl rfl rfl (by decide) rfl rfl rfl rfl hl.1 (Nat.le_of_ble_eq_true rfl) d_law_368 hc (fun H locs hP hD hS => ?_)
  refine lv_istore hx hb d_law_371 hl (by decide) rfl (fun ls hl => ?_)
  refine lv_aload_n hx hb d_law_373 rfl (lv_at hl 3 rfl) ?_
  refine lv_aload_n hx hb d_law_374 rfl (lv_at hl 1 rfl) ?_
  refine lv_iload hx hb d_law_375 (lv_at hl 5 rfl) ?_
  refine lv_iconst (v := (1 : Int32)) hx hb d_law_377 rfl ?_
  refine lv_iadd hx hb d_law_378 ?_
  refine va_sld hx hb hX hbl hbA hS (sc1 hj hL) d_law_379 ?_
  refine lv_aload_n hx hb d_law_380 rfl (lv_at hl 1 rfl) ?_
  refine lv_iload hx hb d_law_381 (lv_at hl 5 rfl) ?_
  refine lv_iconst (v := (2 : Int32)) hx hb d_law_383 rfl ?_
  refine lv_iadd hx hb d_law_384 ?_
  refine va_sld hx hb hX hbl hbA hS (sc2 hj hL) d_law_385 ?_
  refine zz_cVv (rest := []) (wr := [oC xC xP, oP xP xM xR xG xT u_z, oM xM xW, ar cI xW 512 u_M, oR xR xD xA u_r, ar cI xD 8 u_d, ar cI xA 8 u_a, oG xG xL xH xI, ar cI xL 6 u_lo, ar cI xH 6 u_hi, ar cI xI 6 u_ri, oT xT (s_C_timer u_z u_M u_r u_d u_a u_lo u_hi u_ri u_t (xs (ix ((nI j) + (1 : Int32)))) (xs (ix ((nI j) + (2 : Int32))))), aj cJ xO g]) (w' := [oC xC xP, oP xP xM xR xG xT u_z, oM xM xW, ar cI xW 512 u_M, oR xR xD xA u_r, ar cI xD 8 u_d, ar cI xA 8 u_a, oG xG xL xH xI, ar cI xL 6 u_lo, ar cI xH 6 u_hi, ar cI xI 6 u_ri, oT xT (s_C_timer u_z u_M u_r u_d u_a u_lo u_hi u_ri u_t (xs (ix ((nI j) + (1 : Int32)))) (xs (ix ((nI j) + (2 : Int32))))), oX yX yM yD yA yO yL yH yI (s_X_timer v_x u_M u_d u_a v_o u_lo u_hi u_ri (xs (ix ((nI j) + (1 : Int32)))) (xs (ix ((nI j) + (2 : Int32))))), ar cI yM 512 u_M, ar cI yD 8 u_d, ar cI yA 8 u_a, ar cI yO 4 v_o, ar cI yL 6 u_lo, ar cI yH 6 u_hi, ar cI yI 6 u_ri, aj cJ xO g]) ⟨hx, hb, hml, hown, hts⟩ (k_X_timer l D cI _ yX yM yD yA yO yL yH yI v_x u_M u_d u_a v_o u_lo u_hi u_ri (xs (ix ((nI j) + (1 : Int32)))) (xs (ix ((nI j) + (2 : Int32))))) g_law_X_timer_72 nv_X_timer ⟨⟨rfl, rfl⟩, Nat.le_of_ble_eq_true rfl, Nat.le_of_ble_eq_true rfl⟩ hK [0] rfl hP hD hS hA [12, 13, 14, 15, 16, 17, 18, 19] [0, 1, 2, 3, 4, 5, 6, 7, 8, 9, 10, 11, 20] [0, 1, 2, 3, 4, 5, 6, 7, 8, 9, 10, 11, 13, 14, 15, 16, 17, 18, 19, 20, 12] rfl rfl rfl rfl (by decide) rfl rfl 12 6 rfl rfl rfl rfl hl.1 (Nat.le_of_ble_eq_true rfl) d_law_386 hc (fun H locs hP hD hS => ?_)
  have f := f_timer (M := u_M) (d := u_d) (a := u_a) (lo := u_lo) (hi := u_hi) (ri := u_ri) (a1 := (xs (ix ((nI j) + (1 : Int32))))) (a2 := (xs (ix ((nI j) + (2 : Int32))))) hr
  refine lv_aload_n hx hb d_law_389 rfl (lv_at hl 3 rfl) ?_
  refine zz_cVi (rest := []) (wr := [oC xC xP, oP xP xM xR xG xT u_z, oM xM xW, ar cI xW 512 u_M, oR xR xD xA u_r, ar cI xD 8 u_d, ar cI xA 8 u_a, oG xG xL xH xI, ar cI xL 6 u_lo, ar cI xH 6 u_hi, ar cI xI 6 u_ri, oT xT (s_C_timer u_z u_M u_r u_d u_a u_lo u_hi u_ri u_t (xs (ix ((nI j) + (1 : Int32)))) (xs (ix ((nI j) + (2 : Int32))))), aj cJ xO g]) (w' := [oC xC xP, oP xP xM xR xG xT u_z, oM xM xW, ar cI xW 512 u_M, oR xR xD xA u_r, ar cI xD 8 u_d, ar cI xA 8 u_a, oG xG xL xH xI, ar cI xL 6 u_lo, ar cI xH 6 u_hi, ar cI xI 6 u_ri, oT xT (s_C_timer u_z u_M u_r u_d u_a u_lo u_hi u_ri u_t (xs (ix ((nI j) + (1 : Int32)))) (xs (ix ((nI j) + (2 : Int32))))), oX yX yM yD yA yO yL yH yI (s_X_timer v_x u_M u_d u_a v_o u_lo u_hi u_ri (xs (ix ((nI j) + (1 : Int32)))) (xs (ix ((nI j) + (2 : Int32))))), ar cI yM 512 u_M, ar cI yD 8 u_d, ar cI yA 8 u_a, ar cI yO 4 v_o, ar cI yL 6 u_lo, ar cI yH 6 u_hi, ar cI yI 6 u_ri, aj cJ xO g]) ⟨hx, hb, hml, hown, hts⟩ (k_X_thrown l D cI _ yX yM yD yA yO yL yH yI (s_X_timer v_x u_M u_d u_a v_o u_lo u_hi u_ri (xs (ix ((nI j) + (1 : Int32)))) (xs (ix ((nI j) + (2 : Int32))))) u_M u_d u_a v_o u_lo u_hi u_ri) g_law_X_thrown_53 nv_X_thrown ⟨⟨rfl, rfl⟩, Nat.le_of_ble_eq_true rfl, Nat.le_of_ble_eq_true rfl⟩ hK [0] rfl hP hD hS hA [12, 13, 14, 15, 16, 17, 18, 19] [0, 1, 2, 3, 4, 5, 6, 7, 8, 9, 10, 11, 20] [0, 1, 2, 3, 4, 5, 6, 7, 8, 9, 10, 11, 13, 14, 15, 16, 17, 18, 19, 20, 12] rfl rfl rfl rfl (by decide) rfl rfl 12 6 rfl rfl rfl rfl hl.1 (Nat.le_of_ble_eq_true rfl) d_law_390 hc (fun H locs hP hD hS => ?_)
  refine lv_iload hx hb d_law_393 (lv_at hl 0 rfl) ?_
  refine lv_icmp_eq (tgt := 400) hx hb d_law_395 (by decide) (fun h395 => ?_) (fun h395 => ?_)
  ·
    refine lv_goto (tgt := 716) hx hb d_law_400 (by decide) ?_
    exact hN _ _ _ _ _ _ _ _ _ _ _ _ _ _ _ (f.2) (lv_sub hl [1, 2, 3, 4, 5] rfl) hP hD hS
  ·
    exact (h395 (f.1)).elim
set_option maxHeartbeats 4000000 in
set_option maxRecDepth 100000 in
theorem lc_request {p : Program} {l : Launch} {e : Env} {s : State} {m : MethodId} {below : List Frame} {meth : Method} {c : Code} {H : Heap} {locs : List Loc} {cells slots b L j xO : Nat} {cI cJ : ClassId} {xs : Nat → Int32} {D : va_G} {xC xP xM xW xR xD xA xG xL xH xI xT yX yM yD yA yO yL yH yI : Nat} {u_z u_M u_r u_d u_a u_lo u_hi u_ri u_t v_x v_o : Nat → Int32} {g : Nat → Int64} {Q : State → Prop} {args : Array Value} {ls : Array Slot} (X : LX p l s m args c b L xs D cI cJ) (hj : j + 6 ≤ L) (hL : L ≤ 3072) (hr : rl u_z u_r u_t v_x v_o) (hl : lv_has ls 7 [(0, .ref b), (1, .ref xC), (2, .ref yX), (3, .ref xO), (4, .int (nI j))]) (hP : va_P D classes [oC xC xP, oP xP xM xR xG xT u_z, oM xM xW, ar cI xW 512 u_M, oR xR xD xA u_r, ar cI xD 8 u_d, ar cI xA 8 u_a, oG xG xL xH xI, ar cI xL 6 u_lo, ar cI xH 6 u_hi, ar cI xI 6 u_ri, oT xT u_t, oX yX yM yD yA yO yL yH yI v_x, ar cI yM 512 u_M, ar cI yD 8 u_d, ar cI yA 8 u_a, ar cI yO 4 v_o, ar cI yL 6 u_lo, ar cI yH 6 u_hi, ar cI yI 6 u_ri, aj cJ xO g] H) (hD : va_D (fun q => s.heap.size ≤ q) [oC xC xP, oP xP xM xR xG xT u_z, oM xM xW, ar cI xW 512 u_M, oR xR xD xA u_r, ar cI xD 8 u_d, ar cI xA 8 u_a, oG xG xL xH xI, ar cI xL 6 u_lo, ar cI xH 6 u_hi, ar cI xI 6 u_ri, oT xT u_t, oX yX yM yD yA yO yL yH yI v_x, ar cI yM 512 u_M, ar cI yD 8 u_d, ar cI yA 8 u_a, ar cI yO 4 v_o, ar cI yL 6 u_lo, ar cI yH 6 u_hi, ar cI yI 6 u_ri, aj cJ xO g]) (hS : va_S (fun q => s.heap.size ≤ q) s.heap H locs) (hc : cells + 1 ≤ room_1.cells ∧ slots + 6 ≤ room_1.slots)
    (hN : ∀ (u_z u_M u_r u_d u_a u_lo u_hi u_ri u_t v_x v_o : Nat → Int32) (g : Nat → Int64) (H : Heap) (locs : List Loc) (ls : Array Slot), rl u_z u_r u_t v_x v_o → lv_has ls 7 [(0, .ref b), (1, .ref xC), (2, .ref yX), (3, .ref xO), (4, .int (nI j))] → va_P D classes [oC xC xP, oP xP xM xR xG xT u_z, oM xM xW, ar cI xW 512 u_M, oR xR xD xA u_r, ar cI xD 8 u_d, ar cI xA 8 u_a, oG xG xL xH xI, ar cI xL 6 u_lo, ar cI xH 6 u_hi, ar cI xI 6 u_ri, oT xT u_t, oX yX yM yD yA yO yL yH yI v_x, ar cI yM 512 u_M, ar cI yD 8 u_d, ar cI yA 8 u_a, ar cI yO 4 v_o, ar cI yL 6 u_lo, ar cI yH 6 u_hi, ar cI yI 6 u_ri, aj cJ xO g] H → va_D (fun q => s.heap.size ≤ q) [oC xC xP, oP xP xM xR xG xT u_z, oM xM xW, ar cI xW 512 u_M, oR xR xD xA u_r, ar cI xD 8 u_d, ar cI xA 8 u_a, oG xG xL xH xI, ar cI xL 6 u_lo, ar cI xH 6 u_hi, ar cI xI 6 u_ri, oT xT u_t, oX yX yM yD yA yO yL yH yI v_x, ar cI yM 512 u_M, ar cI yD 8 u_d, ar cI yA 8 u_a, ar cI yO 4 v_o, ar cI yL 6 u_lo, ar cI yH 6 u_hi, ar cI yI 6 u_ri, aj cJ xO g] → va_S (fun q => s.heap.size ≤ q) s.heap H locs → W p l e room_1 s m args below meth c H locs (cells + 1) (slots + 6) Q (F0 m 716 ls [])) : W p l e room_1 s m args below meth c H locs cells slots Q (F0 m 403 ls []) := by
  obtain ⟨hx, hb, hml, hown, hts, hX, hbl, hK, hz, htr⟩ := X
  have hf0 : cells ≤ room_1.cells ∧ slots ≤ room_1.slots := ⟨Nat.le_of_succ_le hc.1, Nat.le_trans (Nat.le_add_right _ _) hc.2⟩
  have hbA : ¬ s.heap.size ≤ b := Nat.not_le.mpr hbl
  have hA : ∀ q : Nat, s.heap.size ≤ q → s.heap.size ≤ q := fun q h => h
  refine lv_aload_n hx hb d_law_403 rfl (lv_at hl 1 rfl) ?_
  refine lv_aload_n hx hb d_law_404 rfl (lv_at hl 0 rfl) ?_
  refine lv_iload hx hb d_law_405 (lv_at hl 4 rfl) ?_
  refine lv_iconst (v := (1 : Int32)) hx hb d_law_407 rfl ?_
  refine lv_iadd hx hb d_law_408 ?_
  refine va_sld hx hb hX hbl hbA hS (sc1 hj hL) d_law_409 ?_
  refine zz_cVi (rest := []) (wr := [oX yX yM yD yA yO yL yH yI v_x, ar cI yM 512 u_M, ar cI yD 8 u_d, ar cI yA 8 u_a, ar cI yO 4 v_o, ar cI yL 6 u_lo, ar cI yH 6 u_hi, ar cI yI 6 u_ri, aj cJ xO g]) (w' := [oC xC xP, oP xP xM xR xG xT u_z, oM xM xW, ar cI xW 512 u_M, oR xR xD xA u_r, ar cI xD 8 u_d, ar cI xA 8 u_a, oG xG xL xH xI, ar cI xL 6 u_lo, ar cI xH 6 u_hi, ar cI xI 6 u_ri, oT xT ((s_C_request u_z u_M u_r u_d u_a u_lo u_hi u_ri u_t (xs (ix ((nI j) + (1 : Int32))))).2), oX yX yM yD yA yO yL yH yI v_x, ar cI yM 512 u_M, ar cI yD 8 u_d, ar cI yA 8 u_a, ar cI yO 4 v_o, ar cI yL 6 u_lo, ar cI yH 6 u_hi, ar cI yI 6 u_ri, aj cJ xO g]) ⟨hx, hb, hml, hown, hts⟩ (k_C_request l D cI _ xC xP xM xW xR xD xA xG xL xH xI xT u_z u_M u_r u_d u_a u_lo u_hi u_ri u_t (xs (ix ((nI j) + (1 : Int32))))) g_law_C_request_73 nv_C_request ⟨⟨rfl, rfl⟩, Nat.le_of_ble_eq_true rfl, Nat.le_of_ble_eq_true rfl⟩ hK [0] rfl hP hD hS hA [0, 1, 2, 3, 4, 5, 6, 7, 8, 9, 10, 11] [12, 13, 14, 15, 16, 17, 18, 19, 20] [9, 10, 11, 12, 13, 14, 15, 16, 17, 18, 19, 20, 0, 1, 2, 3, 4, 5, 6, 7, 8] rfl rfl rfl rfl (by decide) rfl rfl 0 5 rfl rfl rfl rfl hl.1 (Nat.le_of_ble_eq_true rfl) d_law_410 hf0 (fun H locs hP hD hS => ?_)
  refine lv_aload_n hx hb d_law_413 rfl (lv_at hl 2 rfl) ?_
  refine lv_aload_n hx hb d_law_414 rfl (lv_at hl 0 rfl) ?_
  refine lv_iload hx hb d_law_415 (lv_at hl 4 rfl) ?_
  refine lv_iconst (v := (1 : Int32)) hx hb d_law_417 rfl ?_
  refine lv_iadd hx hb d_law_418 ?_
  refine va_sld hx hb hX hbl hbA hS (sc1 hj hL) d_law_419 ?_
  refine zz_cVi (rest := [.int ((s_C_request u_z u_M u_r u_d u_a u_lo u_hi u_ri u_t (xs (ix ((nI j) + (1 : Int32))))).1)]) (wr := [oC xC xP, oP xP xM xR xG xT u_z, oM xM xW, ar cI xW 512 u_M, oR xR xD xA u_r, ar cI xD 8 u_d, ar cI xA 8 u_a, oG xG xL xH xI, ar cI xL 6 u_lo, ar cI xH 6 u_hi, ar cI xI 6 u_ri, oT xT ((s_C_request u_z u_M u_r u_d u_a u_lo u_hi u_ri u_t (xs (ix ((nI j) + (1 : Int32))))).2), aj cJ xO g]) (w' := [oC xC xP, oP xP xM xR xG xT u_z, oM xM xW, ar cI xW 512 u_M, oR xR xD xA u_r, ar cI xD 8 u_d, ar cI xA 8 u_a, oG xG xL xH xI, ar cI xL 6 u_lo, ar cI xH 6 u_hi, ar cI xI 6 u_ri, oT xT ((s_C_request u_z u_M u_r u_d u_a u_lo u_hi u_ri u_t (xs (ix ((nI j) + (1 : Int32))))).2), oX yX yM yD yA yO yL yH yI ((s_X_request v_x u_M u_d u_a v_o u_lo u_hi u_ri (xs (ix ((nI j) + (1 : Int32))))).2), ar cI yM 512 u_M, ar cI yD 8 u_d, ar cI yA 8 u_a, ar cI yO 4 v_o, ar cI yL 6 u_lo, ar cI yH 6 u_hi, ar cI yI 6 u_ri, aj cJ xO g]) ⟨hx, hb, hml, hown, hts⟩ (k_X_request l D cI _ yX yM yD yA yO yL yH yI v_x u_M u_d u_a v_o u_lo u_hi u_ri (xs (ix ((nI j) + (1 : Int32))))) g_law_X_request_77 nv_X_request ⟨⟨rfl, rfl⟩, Nat.le_of_ble_eq_true rfl, Nat.le_of_ble_eq_true rfl⟩ hK [0] rfl hP hD hS hA [12, 13, 14, 15, 16, 17, 18, 19] [0, 1, 2, 3, 4, 5, 6, 7, 8, 9, 10, 11, 20] [0, 1, 2, 3, 4, 5, 6, 7, 8, 9, 10, 11, 13, 14, 15, 16, 17, 18, 19, 20, 12] rfl rfl rfl rfl (by decide) rfl rfl 12 6 rfl rfl rfl rfl hl.1 (Nat.le_of_ble_eq_true rfl) d_law_420 hf0 (fun H locs hP hD hS => ?_)
  have f := f_request (M := u_M) (d := u_d) (a := u_a) (lo := u_lo) (hi := u_hi) (ri := u_ri) (a1 := (xs (ix ((nI j) + (1 : Int32))))) hr
  refine lv_icmp_eq (tgt := 716) hx hb d_law_423 (by decide) (fun h423 => ?_) (fun h423 => ?_)
  ·
    exact W.widen (Nat.le_succ _) (Nat.le_add_right _ _) (hN _ _ _ _ _ _ _ _ _ _ _ _ _ _ _ (f.2) (lv_sub hl [0, 1, 2, 3, 4] rfl) hP hD hS)
  ·
    exact (h423 (f.1.symm)).elim
set_option maxHeartbeats 4000000 in
set_option maxRecDepth 100000 in
theorem lc_start {p : Program} {l : Launch} {e : Env} {s : State} {m : MethodId} {below : List Frame} {meth : Method} {c : Code} {H : Heap} {locs : List Loc} {cells slots b L j xO : Nat} {cI cJ : ClassId} {xs : Nat → Int32} {D : va_G} {xC xP xM xW xR xD xA xG xL xH xI xT yX yM yD yA yO yL yH yI : Nat} {u_z u_M u_r u_d u_a u_lo u_hi u_ri u_t v_x v_o : Nat → Int32} {g : Nat → Int64} {Q : State → Prop} {args : Array Value} {ls : Array Slot} (X : LX p l s m args c b L xs D cI cJ) (hj : j + 6 ≤ L) (hL : L ≤ 3072) (hr : rl u_z u_r u_t v_x v_o) (hl : lv_has ls 7 [(0, .ref b), (1, .ref xC), (2, .ref yX), (3, .ref xO), (4, .int (nI j))]) (hP : va_P D classes [oC xC xP, oP xP xM xR xG xT u_z, oM xM xW, ar cI xW 512 u_M, oR xR xD xA u_r, ar cI xD 8 u_d, ar cI xA 8 u_a, oG xG xL xH xI, ar cI xL 6 u_lo, ar cI xH 6 u_hi, ar cI xI 6 u_ri, oT xT u_t, oX yX yM yD yA yO yL yH yI v_x, ar cI yM 512 u_M, ar cI yD 8 u_d, ar cI yA 8 u_a, ar cI yO 4 v_o, ar cI yL 6 u_lo, ar cI yH 6 u_hi, ar cI yI 6 u_ri, aj cJ xO g] H) (hD : va_D (fun q => s.heap.size ≤ q) [oC xC xP, oP xP xM xR xG xT u_z, oM xM xW, ar cI xW 512 u_M, oR xR xD xA u_r, ar cI xD 8 u_d, ar cI xA 8 u_a, oG xG xL xH xI, ar cI xL 6 u_lo, ar cI xH 6 u_hi, ar cI xI 6 u_ri, oT xT u_t, oX yX yM yD yA yO yL yH yI v_x, ar cI yM 512 u_M, ar cI yD 8 u_d, ar cI yA 8 u_a, ar cI yO 4 v_o, ar cI yL 6 u_lo, ar cI yH 6 u_hi, ar cI yI 6 u_ri, aj cJ xO g]) (hS : va_S (fun q => s.heap.size ≤ q) s.heap H locs) (hc : cells + 1 ≤ room_1.cells ∧ slots + 6 ≤ room_1.slots)
    (hN : ∀ (u_z u_M u_r u_d u_a u_lo u_hi u_ri u_t v_x v_o : Nat → Int32) (g : Nat → Int64) (H : Heap) (locs : List Loc) (ls : Array Slot), rl u_z u_r u_t v_x v_o → lv_has ls 7 [(0, .ref b), (1, .ref xC), (2, .ref yX), (3, .ref xO), (4, .int (nI j))] → va_P D classes [oC xC xP, oP xP xM xR xG xT u_z, oM xM xW, ar cI xW 512 u_M, oR xR xD xA u_r, ar cI xD 8 u_d, ar cI xA 8 u_a, oG xG xL xH xI, ar cI xL 6 u_lo, ar cI xH 6 u_hi, ar cI xI 6 u_ri, oT xT u_t, oX yX yM yD yA yO yL yH yI v_x, ar cI yM 512 u_M, ar cI yD 8 u_d, ar cI yA 8 u_a, ar cI yO 4 v_o, ar cI yL 6 u_lo, ar cI yH 6 u_hi, ar cI yI 6 u_ri, aj cJ xO g] H → va_D (fun q => s.heap.size ≤ q) [oC xC xP, oP xP xM xR xG xT u_z, oM xM xW, ar cI xW 512 u_M, oR xR xD xA u_r, ar cI xD 8 u_d, ar cI xA 8 u_a, oG xG xL xH xI, ar cI xL 6 u_lo, ar cI xH 6 u_hi, ar cI xI 6 u_ri, oT xT u_t, oX yX yM yD yA yO yL yH yI v_x, ar cI yM 512 u_M, ar cI yD 8 u_d, ar cI yA 8 u_a, ar cI yO 4 v_o, ar cI yL 6 u_lo, ar cI yH 6 u_hi, ar cI yI 6 u_ri, aj cJ xO g] → va_S (fun q => s.heap.size ≤ q) s.heap H locs → W p l e room_1 s m args below meth c H locs (cells + 1) (slots + 6) Q (F0 m 716 ls [])) : W p l e room_1 s m args below meth c H locs cells slots Q (F0 m 428 ls []) := by
  obtain ⟨hx, hb, hml, hown, hts, hX, hbl, hK, hz, htr⟩ := X
  have hf0 : cells ≤ room_1.cells ∧ slots ≤ room_1.slots := ⟨Nat.le_of_succ_le hc.1, Nat.le_trans (Nat.le_add_right _ _) hc.2⟩
  have hbA : ¬ s.heap.size ≤ b := Nat.not_le.mpr hbl
  have hA : ∀ q : Nat, s.heap.size ≤ q → s.heap.size ≤ q := fun q h => h
  refine lv_aload_n hx hb d_law_428 rfl (lv_at hl 1 rfl) ?_
  refine lv_aload_n hx hb d_law_429 rfl (lv_at hl 0 rfl) ?_
  refine lv_iload hx hb d_law_430 (lv_at hl 4 rfl) ?_
  refine lv_iconst (v := (1 : Int32)) hx hb d_law_432 rfl ?_
  refine lv_iadd hx hb d_law_433 ?_
  refine va_sld hx hb hX hbl hbA hS (sc1 hj hL) d_law_434 ?_
  refine lv_aload_n hx hb d_law_435 rfl (lv_at hl 0 rfl) ?_
  refine lv_iload hx hb d_law_436 (lv_at hl 4 rfl) ?_
  refine lv_iconst (v := (2 : Int32)) hx hb d_law_438 rfl ?_
  refine lv_iadd hx hb d_law_439 ?_
  refine va_sld hx hb hX hbl hbA hS (sc2 hj hL) d_law_440 ?_
  refine lv_aload_n hx hb d_law_441 rfl (lv_at hl 0 rfl) ?_
  refine lv_iload hx hb d_law_442 (lv_at hl 4 rfl) ?_
  refine lv_iconst (v := (3 : Int32)) hx hb d_law_444 rfl ?_
  refine lv_iadd hx hb d_law_445 ?_
  refine va_sld hx hb hX hbl hbA hS (sc3 hj hL) d_law_446 ?_
  refine lv_if_eq (tgt := 454) hx hb d_law_447 (by decide) (fun h447 => ?_) (fun h447 => ?_)
  ·
    refine lv_iconst (v := (0 : Int32)) hx hb d_law_454 rfl ?_
    refine zz_cH (rest := []) (wr := [oX yX yM yD yA yO yL yH yI v_x, ar cI yM 512 u_M, ar cI yD 8 u_d, ar cI yA 8 u_a, ar cI yO 4 v_o, ar cI yL 6 u_lo, ar cI yH 6 u_hi, ar cI yI 6 u_ri, aj cJ xO g]) (w' := [oC xC xP, oP xP xM xR xG xT ((s_C_start u_z u_M u_r u_d u_a u_lo u_hi u_ri u_t (xs (ix ((nI j) + (1 : Int32)))) (xs (ix ((nI j) + (2 : Int32)))) (0 : Int32)).1), oM xM xW, ar cI xW 512 u_M, oR xR xD xA ((s_C_start u_z u_M u_r u_d u_a u_lo u_hi u_ri u_t (xs (ix ((nI j) + (1 : Int32)))) (xs (ix ((nI j) + (2 : Int32)))) (0 : Int32)).2), ar cI xD 8 u_d, ar cI xA 8 u_a, oG xG xL xH xI, ar cI xL 6 u_lo, ar cI xH 6 u_hi, ar cI xI 6 u_ri, oT xT u_t, oX yX yM yD yA yO yL yH yI v_x, ar cI yM 512 u_M, ar cI yD 8 u_d, ar cI yA 8 u_a, ar cI yO 4 v_o, ar cI yL 6 u_lo, ar cI yH 6 u_hi, ar cI yI 6 u_ri, aj cJ xO g]) ⟨hx, hb, hml, hown, hts⟩ (h_start l htr D cI _ xC xP xM xW xR xD xA xG xL xH xI xT u_z u_M u_r u_d u_a u_lo u_hi u_ri u_t (xs (ix ((nI j) + (1 : Int32)))) (xs (ix ((nI j) + (2 : Int32)))) (0 : Int32) (Or.inl rfl)) mw_489 mw_490 mw_491 mw_492 nd_L_start ⟨⟨rfl, rfl⟩, Nat.le_of_ble_eq_true rfl, Nat.le_of_ble_eq_true rfl⟩ hK [0] rfl hP hD hS hA (zth_of hz hS) [0, 1, 2, 3, 4, 5, 6, 7, 8, 9, 10, 11] [12, 13, 14, 15, 16, 17, 18, 19, 20] [9, 10, 11, 12, 13, 14, 15, 16, 17, 18, 19, 20, 0, 1, 2, 3, 4, 5, 6, 7, 8] rfl rfl rfl rfl (by decide) rfl rfl rfl rfl hl.1 (Nat.le_of_ble_eq_true rfl) d_law_455 hc (fun H locs hP hD hS => ?_)
    refine lv_istore hx hb d_law_458 hl (by decide) rfl (fun ls hl => ?_)
    refine lv_aload_n hx hb d_law_460 rfl (lv_at hl 3 rfl) ?_
    refine lv_aload_n hx hb d_law_461 rfl (lv_at hl 1 rfl) ?_
    refine lv_iload hx hb d_law_462 (lv_at hl 5 rfl) ?_
    refine lv_iconst (v := (1 : Int32)) hx hb d_law_464 rfl ?_
    refine lv_iadd hx hb d_law_465 ?_
    refine va_sld hx hb hX hbl hbA hS (sc1 hj hL) d_law_466 ?_
    refine lv_aload_n hx hb d_law_467 rfl (lv_at hl 1 rfl) ?_
    refine lv_iload hx hb d_law_468 (lv_at hl 5 rfl) ?_
    refine lv_iconst (v := (2 : Int32)) hx hb d_law_470 rfl ?_
    refine lv_iadd hx hb d_law_471 ?_
    refine va_sld hx hb hX hbl hbA hS (sc2 hj hL) d_law_472 ?_
    refine lv_aload_n hx hb d_law_473 rfl (lv_at hl 1 rfl) ?_
    refine lv_iload hx hb d_law_474 (lv_at hl 5 rfl) ?_
    refine lv_iconst (v := (3 : Int32)) hx hb d_law_476 rfl ?_
    refine lv_iadd hx hb d_law_477 ?_
    refine va_sld hx hb hX hbl hbA hS (sc3 hj hL) d_law_478 ?_
    refine lv_if_eq (tgt := 486) hx hb d_law_479 (by decide) (fun h479 => ?_) (fun h479 => ?_)
    ·
      refine lv_iconst (v := (0 : Int32)) hx hb d_law_486 rfl ?_
      refine zz_cVv (rest := []) (wr := [oC xC xP, oP xP xM xR xG xT ((s_C_start u_z u_M u_r u_d u_a u_lo u_hi u_ri u_t (xs (ix ((nI j) + (1 : Int32)))) (xs (ix ((nI j) + (2 : Int32)))) (0 : Int32)).1), oM xM xW, ar cI xW 512 u_M, oR xR xD xA ((s_C_start u_z u_M u_r u_d u_a u_lo u_hi u_ri u_t (xs (ix ((nI j) + (1 : Int32)))) (xs (ix ((nI j) + (2 : Int32)))) (0 : Int32)).2), ar cI xD 8 u_d, ar cI xA 8 u_a, oG xG xL xH xI, ar cI xL 6 u_lo, ar cI xH 6 u_hi, ar cI xI 6 u_ri, oT xT u_t, aj cJ xO g]) (w' := [oC xC xP, oP xP xM xR xG xT ((s_C_start u_z u_M u_r u_d u_a u_lo u_hi u_ri u_t (xs (ix ((nI j) + (1 : Int32)))) (xs (ix ((nI j) + (2 : Int32)))) (0 : Int32)).1), oM xM xW, ar cI xW 512 u_M, oR xR xD xA ((s_C_start u_z u_M u_r u_d u_a u_lo u_hi u_ri u_t (xs (ix ((nI j) + (1 : Int32)))) (xs (ix ((nI j) + (2 : Int32)))) (0 : Int32)).2), ar cI xD 8 u_d, ar cI xA 8 u_a, oG xG xL xH xI, ar cI xL 6 u_lo, ar cI xH 6 u_hi, ar cI xI 6 u_ri, oT xT u_t, oX yX yM yD yA yO yL yH yI ((s_X_start v_x u_M u_d u_a v_o u_lo u_hi u_ri (xs (ix ((nI j) + (1 : Int32)))) (xs (ix ((nI j) + (2 : Int32)))) (0 : Int32)).1), ar cI yM 512 u_M, ar cI yD 8 u_d, ar cI yA 8 u_a, ar cI yO 4 ((s_X_start v_x u_M u_d u_a v_o u_lo u_hi u_ri (xs (ix ((nI j) + (1 : Int32)))) (xs (ix ((nI j) + (2 : Int32)))) (0 : Int32)).2), ar cI yL 6 u_lo, ar cI yH 6 u_hi, ar cI yI 6 u_ri, aj cJ xO g]) ⟨hx, hb, hml, hown, hts⟩ (k_X_start l D cI _ yX yM yD yA yO yL yH yI v_x u_M u_d u_a v_o u_lo u_hi u_ri (xs (ix ((nI j) + (1 : Int32)))) (xs (ix ((nI j) + (2 : Int32)))) (0 : Int32) (Or.inl rfl)) g_law_X_start_81 nv_X_start ⟨⟨rfl, rfl⟩, Nat.le_of_ble_eq_true rfl, Nat.le_of_ble_eq_true rfl⟩ hK [0] rfl hP hD hS hA [12, 13, 14, 15, 16, 17, 18, 19] [0, 1, 2, 3, 4, 5, 6, 7, 8, 9, 10, 11, 20] [0, 1, 2, 3, 4, 5, 6, 7, 8, 9, 10, 11, 13, 14, 15, 16, 17, 18, 19, 20, 12] rfl rfl rfl rfl (by decide) rfl rfl 12 6 rfl rfl rfl rfl hl.1 (Nat.le_of_ble_eq_true rfl) d_law_487 hc (fun H locs hP hD hS => ?_)
      have f := f_start (M := u_M) (d := u_d) (a := u_a) (lo := u_lo) (hi := u_hi) (ri := u_ri) (a1 := (xs (ix ((nI j) + (1 : Int32))))) (a2 := (xs (ix ((nI j) + (2 : Int32))))) (a3 := (0 : Int32)) hr (Or.inl rfl)
      refine lv_aload_n hx hb d_law_490 rfl (lv_at hl 3 rfl) ?_
      refine zz_cVi (rest := []) (wr := [oC xC xP, oP xP xM xR xG xT ((s_C_start u_z u_M u_r u_d u_a u_lo u_hi u_ri u_t (xs (ix ((nI j) + (1 : Int32)))) (xs (ix ((nI j) + (2 : Int32)))) (0 : Int32)).1), oM xM xW, ar cI xW 512 u_M, oR xR xD xA ((s_C_start u_z u_M u_r u_d u_a u_lo u_hi u_ri u_t (xs (ix ((nI j) + (1 : Int32)))) (xs (ix ((nI j) + (2 : Int32)))) (0 : Int32)).2), ar cI xD 8 u_d, ar cI xA 8 u_a, oG xG xL xH xI, ar cI xL 6 u_lo, ar cI xH 6 u_hi, ar cI xI 6 u_ri, oT xT u_t, aj cJ xO g]) (w' := [oC xC xP, oP xP xM xR xG xT ((s_C_start u_z u_M u_r u_d u_a u_lo u_hi u_ri u_t (xs (ix ((nI j) + (1 : Int32)))) (xs (ix ((nI j) + (2 : Int32)))) (0 : Int32)).1), oM xM xW, ar cI xW 512 u_M, oR xR xD xA ((s_C_start u_z u_M u_r u_d u_a u_lo u_hi u_ri u_t (xs (ix ((nI j) + (1 : Int32)))) (xs (ix ((nI j) + (2 : Int32)))) (0 : Int32)).2), ar cI xD 8 u_d, ar cI xA 8 u_a, oG xG xL xH xI, ar cI xL 6 u_lo, ar cI xH 6 u_hi, ar cI xI 6 u_ri, oT xT u_t, oX yX yM yD yA yO yL yH yI ((s_X_start v_x u_M u_d u_a v_o u_lo u_hi u_ri (xs (ix ((nI j) + (1 : Int32)))) (xs (ix ((nI j) + (2 : Int32)))) (0 : Int32)).1), ar cI yM 512 u_M, ar cI yD 8 u_d, ar cI yA 8 u_a, ar cI yO 4 ((s_X_start v_x u_M u_d u_a v_o u_lo u_hi u_ri (xs (ix ((nI j) + (1 : Int32)))) (xs (ix ((nI j) + (2 : Int32)))) (0 : Int32)).2), ar cI yL 6 u_lo, ar cI yH 6 u_hi, ar cI yI 6 u_ri, aj cJ xO g]) ⟨hx, hb, hml, hown, hts⟩ (k_X_thrown l D cI _ yX yM yD yA yO yL yH yI ((s_X_start v_x u_M u_d u_a v_o u_lo u_hi u_ri (xs (ix ((nI j) + (1 : Int32)))) (xs (ix ((nI j) + (2 : Int32)))) (0 : Int32)).1) u_M u_d u_a ((s_X_start v_x u_M u_d u_a v_o u_lo u_hi u_ri (xs (ix ((nI j) + (1 : Int32)))) (xs (ix ((nI j) + (2 : Int32)))) (0 : Int32)).2) u_lo u_hi u_ri) g_law_X_thrown_53 nv_X_thrown ⟨⟨rfl, rfl⟩, Nat.le_of_ble_eq_true rfl, Nat.le_of_ble_eq_true rfl⟩ hK [0] rfl hP hD hS hA [12, 13, 14, 15, 16, 17, 18, 19] [0, 1, 2, 3, 4, 5, 6, 7, 8, 9, 10, 11, 20] [0, 1, 2, 3, 4, 5, 6, 7, 8, 9, 10, 11, 13, 14, 15, 16, 17, 18, 19, 20, 12] rfl rfl rfl rfl (by decide) rfl rfl 12 6 rfl rfl rfl rfl hl.1 (Nat.le_of_ble_eq_true rfl) d_law_491 hc (fun H locs hP hD hS => ?_)
      refine lv_iload hx hb d_law_494 (lv_at hl 0 rfl) ?_
      refine lv_icmp_eq (tgt := 501) hx hb d_law_496 (by decide) (fun h496 => ?_) (fun h496 => ?_)
      ·
        refine lv_goto (tgt := 716) hx hb d_law_501 (by decide) ?_
        exact hN _ _ _ _ _ _ _ _ _ _ _ _ _ _ _ (f.2) (lv_sub hl [1, 2, 3, 4, 5] rfl) hP hD hS
      ·
        exact (h496 (f.1)).elim
    ·
      exact absurd h447 h479
  ·
    refine lv_iconst (v := (1 : Int32)) hx hb d_law_450 rfl ?_
    refine lv_goto (tgt := 455) hx hb d_law_451 (by decide) ?_
    refine zz_cH (rest := []) (wr := [oX yX yM yD yA yO yL yH yI v_x, ar cI yM 512 u_M, ar cI yD 8 u_d, ar cI yA 8 u_a, ar cI yO 4 v_o, ar cI yL 6 u_lo, ar cI yH 6 u_hi, ar cI yI 6 u_ri, aj cJ xO g]) (w' := [oC xC xP, oP xP xM xR xG xT ((s_C_start u_z u_M u_r u_d u_a u_lo u_hi u_ri u_t (xs (ix ((nI j) + (1 : Int32)))) (xs (ix ((nI j) + (2 : Int32)))) (1 : Int32)).1), oM xM xW, ar cI xW 512 u_M, oR xR xD xA ((s_C_start u_z u_M u_r u_d u_a u_lo u_hi u_ri u_t (xs (ix ((nI j) + (1 : Int32)))) (xs (ix ((nI j) + (2 : Int32)))) (1 : Int32)).2), ar cI xD 8 u_d, ar cI xA 8 u_a, oG xG xL xH xI, ar cI xL 6 u_lo, ar cI xH 6 u_hi, ar cI xI 6 u_ri, oT xT u_t, oX yX yM yD yA yO yL yH yI v_x, ar cI yM 512 u_M, ar cI yD 8 u_d, ar cI yA 8 u_a, ar cI yO 4 v_o, ar cI yL 6 u_lo, ar cI yH 6 u_hi, ar cI yI 6 u_ri, aj cJ xO g]) ⟨hx, hb, hml, hown, hts⟩ (h_start l htr D cI _ xC xP xM xW xR xD xA xG xL xH xI xT u_z u_M u_r u_d u_a u_lo u_hi u_ri u_t (xs (ix ((nI j) + (1 : Int32)))) (xs (ix ((nI j) + (2 : Int32)))) (1 : Int32) (Or.inr rfl)) mw_489 mw_490 mw_491 mw_492 nd_L_start ⟨⟨rfl, rfl⟩, Nat.le_of_ble_eq_true rfl, Nat.le_of_ble_eq_true rfl⟩ hK [0] rfl hP hD hS hA (zth_of hz hS) [0, 1, 2, 3, 4, 5, 6, 7, 8, 9, 10, 11] [12, 13, 14, 15, 16, 17, 18, 19, 20] [9, 10, 11, 12, 13, 14, 15, 16, 17, 18, 19, 20, 0, 1, 2, 3, 4, 5, 6, 7, 8] rfl rfl rfl rfl (by decide) rfl rfl rfl rfl hl.1 (Nat.le_of_ble_eq_true rfl) d_law_455 hc (fun H locs hP hD hS => ?_)
    refine lv_istore hx hb d_law_458 hl (by decide) rfl (fun ls hl => ?_)
    refine lv_aload_n hx hb d_law_460 rfl (lv_at hl 3 rfl) ?_
    refine lv_aload_n hx hb d_law_461 rfl (lv_at hl 1 rfl) ?_
    refine lv_iload hx hb d_law_462 (lv_at hl 5 rfl) ?_
    refine lv_iconst (v := (1 : Int32)) hx hb d_law_464 rfl ?_
    refine lv_iadd hx hb d_law_465 ?_
    refine va_sld hx hb hX hbl hbA hS (sc1 hj hL) d_law_466 ?_
    refine lv_aload_n hx hb d_law_467 rfl (lv_at hl 1 rfl) ?_
    refine lv_iload hx hb d_law_468 (lv_at hl 5 rfl) ?_
    refine lv_iconst (v := (2 : Int32)) hx hb d_law_470 rfl ?_
    refine lv_iadd hx hb d_law_471 ?_
    refine va_sld hx hb hX hbl hbA hS (sc2 hj hL) d_law_472 ?_
    refine lv_aload_n hx hb d_law_473 rfl (lv_at hl 1 rfl) ?_
    refine lv_iload hx hb d_law_474 (lv_at hl 5 rfl) ?_
    refine lv_iconst (v := (3 : Int32)) hx hb d_law_476 rfl ?_
    refine lv_iadd hx hb d_law_477 ?_
    refine va_sld hx hb hX hbl hbA hS (sc3 hj hL) d_law_478 ?_
    refine lv_if_eq (tgt := 486) hx hb d_law_479 (by decide) (fun h479 => ?_) (fun h479 => ?_)
    ·
      exact absurd h479 h447
    ·
      refine lv_iconst (v := (1 : Int32)) hx hb d_law_482 rfl ?_
      refine lv_goto (tgt := 487) hx hb d_law_483 (by decide) ?_
      refine zz_cVv (rest := []) (wr := [oC xC xP, oP xP xM xR xG xT ((s_C_start u_z u_M u_r u_d u_a u_lo u_hi u_ri u_t (xs (ix ((nI j) + (1 : Int32)))) (xs (ix ((nI j) + (2 : Int32)))) (1 : Int32)).1), oM xM xW, ar cI xW 512 u_M, oR xR xD xA ((s_C_start u_z u_M u_r u_d u_a u_lo u_hi u_ri u_t (xs (ix ((nI j) + (1 : Int32)))) (xs (ix ((nI j) + (2 : Int32)))) (1 : Int32)).2), ar cI xD 8 u_d, ar cI xA 8 u_a, oG xG xL xH xI, ar cI xL 6 u_lo, ar cI xH 6 u_hi, ar cI xI 6 u_ri, oT xT u_t, aj cJ xO g]) (w' := [oC xC xP, oP xP xM xR xG xT ((s_C_start u_z u_M u_r u_d u_a u_lo u_hi u_ri u_t (xs (ix ((nI j) + (1 : Int32)))) (xs (ix ((nI j) + (2 : Int32)))) (1 : Int32)).1), oM xM xW, ar cI xW 512 u_M, oR xR xD xA ((s_C_start u_z u_M u_r u_d u_a u_lo u_hi u_ri u_t (xs (ix ((nI j) + (1 : Int32)))) (xs (ix ((nI j) + (2 : Int32)))) (1 : Int32)).2), ar cI xD 8 u_d, ar cI xA 8 u_a, oG xG xL xH xI, ar cI xL 6 u_lo, ar cI xH 6 u_hi, ar cI xI 6 u_ri, oT xT u_t, oX yX yM yD yA yO yL yH yI ((s_X_start v_x u_M u_d u_a v_o u_lo u_hi u_ri (xs (ix ((nI j) + (1 : Int32)))) (xs (ix ((nI j) + (2 : Int32)))) (1 : Int32)).1), ar cI yM 512 u_M, ar cI yD 8 u_d, ar cI yA 8 u_a, ar cI yO 4 ((s_X_start v_x u_M u_d u_a v_o u_lo u_hi u_ri (xs (ix ((nI j) + (1 : Int32)))) (xs (ix ((nI j) + (2 : Int32)))) (1 : Int32)).2), ar cI yL 6 u_lo, ar cI yH 6 u_hi, ar cI yI 6 u_ri, aj cJ xO g]) ⟨hx, hb, hml, hown, hts⟩ (k_X_start l D cI _ yX yM yD yA yO yL yH yI v_x u_M u_d u_a v_o u_lo u_hi u_ri (xs (ix ((nI j) + (1 : Int32)))) (xs (ix ((nI j) + (2 : Int32)))) (1 : Int32) (Or.inr rfl)) g_law_X_start_81 nv_X_start ⟨⟨rfl, rfl⟩, Nat.le_of_ble_eq_true rfl, Nat.le_of_ble_eq_true rfl⟩ hK [0] rfl hP hD hS hA [12, 13, 14, 15, 16, 17, 18, 19] [0, 1, 2, 3, 4, 5, 6, 7, 8, 9, 10, 11, 20] [0, 1, 2, 3, 4, 5, 6, 7, 8, 9, 10, 11, 13, 14, 15, 16, 17, 18, 19, 20, 12] rfl rfl rfl rfl (by decide) rfl rfl 12 6 rfl rfl rfl rfl hl.1 (Nat.le_of_ble_eq_true rfl) d_law_487 hc (fun H locs hP hD hS => ?_)
      have f := f_start (M := u_M) (d := u_d) (a := u_a) (lo := u_lo) (hi := u_hi) (ri := u_ri) (a1 := (xs (ix ((nI j) + (1 : Int32))))) (a2 := (xs (ix ((nI j) + (2 : Int32))))) (a3 := (1 : Int32)) hr (Or.inr rfl)
      refine lv_aload_n hx hb d_law_490 rfl (lv_at hl 3 rfl) ?_
      refine zz_cVi (rest := []) (wr := [oC xC xP, oP xP xM xR xG xT ((s_C_start u_z u_M u_r u_d u_a u_lo u_hi u_ri u_t (xs (ix ((nI j) + (1 : Int32)))) (xs (ix ((nI j) + (2 : Int32)))) (1 : Int32)).1), oM xM xW, ar cI xW 512 u_M, oR xR xD xA ((s_C_start u_z u_M u_r u_d u_a u_lo u_hi u_ri u_t (xs (ix ((nI j) + (1 : Int32)))) (xs (ix ((nI j) + (2 : Int32)))) (1 : Int32)).2), ar cI xD 8 u_d, ar cI xA 8 u_a, oG xG xL xH xI, ar cI xL 6 u_lo, ar cI xH 6 u_hi, ar cI xI 6 u_ri, oT xT u_t, aj cJ xO g]) (w' := [oC xC xP, oP xP xM xR xG xT ((s_C_start u_z u_M u_r u_d u_a u_lo u_hi u_ri u_t (xs (ix ((nI j) + (1 : Int32)))) (xs (ix ((nI j) + (2 : Int32)))) (1 : Int32)).1), oM xM xW, ar cI xW 512 u_M, oR xR xD xA ((s_C_start u_z u_M u_r u_d u_a u_lo u_hi u_ri u_t (xs (ix ((nI j) + (1 : Int32)))) (xs (ix ((nI j) + (2 : Int32)))) (1 : Int32)).2), ar cI xD 8 u_d, ar cI xA 8 u_a, oG xG xL xH xI, ar cI xL 6 u_lo, ar cI xH 6 u_hi, ar cI xI 6 u_ri, oT xT u_t, oX yX yM yD yA yO yL yH yI ((s_X_start v_x u_M u_d u_a v_o u_lo u_hi u_ri (xs (ix ((nI j) + (1 : Int32)))) (xs (ix ((nI j) + (2 : Int32)))) (1 : Int32)).1), ar cI yM 512 u_M, ar cI yD 8 u_d, ar cI yA 8 u_a, ar cI yO 4 ((s_X_start v_x u_M u_d u_a v_o u_lo u_hi u_ri (xs (ix ((nI j) + (1 : Int32)))) (xs (ix ((nI j) + (2 : Int32)))) (1 : Int32)).2), ar cI yL 6 u_lo, ar cI yH 6 u_hi, ar cI yI 6 u_ri, aj cJ xO g]) ⟨hx, hb, hml, hown, hts⟩ (k_X_thrown l D cI _ yX yM yD yA yO yL yH yI ((s_X_start v_x u_M u_d u_a v_o u_lo u_hi u_ri (xs (ix ((nI j) + (1 : Int32)))) (xs (ix ((nI j) + (2 : Int32)))) (1 : Int32)).1) u_M u_d u_a ((s_X_start v_x u_M u_d u_a v_o u_lo u_hi u_ri (xs (ix ((nI j) + (1 : Int32)))) (xs (ix ((nI j) + (2 : Int32)))) (1 : Int32)).2) u_lo u_hi u_ri) g_law_X_thrown_53 nv_X_thrown ⟨⟨rfl, rfl⟩, Nat.le_of_ble_eq_true rfl, Nat.le_of_ble_eq_true rfl⟩ hK [0] rfl hP hD hS hA [12, 13, 14, 15, 16, 17, 18, 19] [0, 1, 2, 3, 4, 5, 6, 7, 8, 9, 10, 11, 20] [0, 1, 2, 3, 4, 5, 6, 7, 8, 9, 10, 11, 13, 14, 15, 16, 17, 18, 19, 20, 12] rfl rfl rfl rfl (by decide) rfl rfl 12 6 rfl rfl rfl rfl hl.1 (Nat.le_of_ble_eq_true rfl) d_law_491 hc (fun H locs hP hD hS => ?_)
      refine lv_iload hx hb d_law_494 (lv_at hl 0 rfl) ?_
      refine lv_icmp_eq (tgt := 501) hx hb d_law_496 (by decide) (fun h496 => ?_) (fun h496 => ?_)
      ·
        refine lv_goto (tgt := 716) hx hb d_law_501 (by decide) ?_
        exact hN _ _ _ _ _ _ _ _ _ _ _ _ _ _ _ (f.2) (lv_sub hl [1, 2, 3, 4, 5] rfl) hP hD hS
      ·
        exact (h496 (f.1)).elim
set_option maxHeartbeats 4000000 in
set_option maxRecDepth 100000 in
theorem lc_halt {p : Program} {l : Launch} {e : Env} {s : State} {m : MethodId} {below : List Frame} {meth : Method} {c : Code} {H : Heap} {locs : List Loc} {cells slots b L j xO : Nat} {cI cJ : ClassId} {xs : Nat → Int32} {D : va_G} {xC xP xM xW xR xD xA xG xL xH xI xT yX yM yD yA yO yL yH yI : Nat} {u_z u_M u_r u_d u_a u_lo u_hi u_ri u_t v_x v_o : Nat → Int32} {g : Nat → Int64} {Q : State → Prop} {args : Array Value} {ls : Array Slot} (X : LX p l s m args c b L xs D cI cJ) (hj : j + 6 ≤ L) (hL : L ≤ 3072) (hr : rl u_z u_r u_t v_x v_o) (hl : lv_has ls 7 [(0, .ref b), (1, .ref xC), (2, .ref yX), (3, .ref xO), (4, .int (nI j))]) (hP : va_P D classes [oC xC xP, oP xP xM xR xG xT u_z, oM xM xW, ar cI xW 512 u_M, oR xR xD xA u_r, ar cI xD 8 u_d, ar cI xA 8 u_a, oG xG xL xH xI, ar cI xL 6 u_lo, ar cI xH 6 u_hi, ar cI xI 6 u_ri, oT xT u_t, oX yX yM yD yA yO yL yH yI v_x, ar cI yM 512 u_M, ar cI yD 8 u_d, ar cI yA 8 u_a, ar cI yO 4 v_o, ar cI yL 6 u_lo, ar cI yH 6 u_hi, ar cI yI 6 u_ri, aj cJ xO g] H) (hD : va_D (fun q => s.heap.size ≤ q) [oC xC xP, oP xP xM xR xG xT u_z, oM xM xW, ar cI xW 512 u_M, oR xR xD xA u_r, ar cI xD 8 u_d, ar cI xA 8 u_a, oG xG xL xH xI, ar cI xL 6 u_lo, ar cI xH 6 u_hi, ar cI xI 6 u_ri, oT xT u_t, oX yX yM yD yA yO yL yH yI v_x, ar cI yM 512 u_M, ar cI yD 8 u_d, ar cI yA 8 u_a, ar cI yO 4 v_o, ar cI yL 6 u_lo, ar cI yH 6 u_hi, ar cI yI 6 u_ri, aj cJ xO g]) (hS : va_S (fun q => s.heap.size ≤ q) s.heap H locs) (hc : cells + 1 ≤ room_1.cells ∧ slots + 6 ≤ room_1.slots)
    (hN : ∀ (u_z u_M u_r u_d u_a u_lo u_hi u_ri u_t v_x v_o : Nat → Int32) (g : Nat → Int64) (H : Heap) (locs : List Loc) (ls : Array Slot), rl u_z u_r u_t v_x v_o → lv_has ls 7 [(0, .ref b), (1, .ref xC), (2, .ref yX), (3, .ref xO), (4, .int (nI j))] → va_P D classes [oC xC xP, oP xP xM xR xG xT u_z, oM xM xW, ar cI xW 512 u_M, oR xR xD xA u_r, ar cI xD 8 u_d, ar cI xA 8 u_a, oG xG xL xH xI, ar cI xL 6 u_lo, ar cI xH 6 u_hi, ar cI xI 6 u_ri, oT xT u_t, oX yX yM yD yA yO yL yH yI v_x, ar cI yM 512 u_M, ar cI yD 8 u_d, ar cI yA 8 u_a, ar cI yO 4 v_o, ar cI yL 6 u_lo, ar cI yH 6 u_hi, ar cI yI 6 u_ri, aj cJ xO g] H → va_D (fun q => s.heap.size ≤ q) [oC xC xP, oP xP xM xR xG xT u_z, oM xM xW, ar cI xW 512 u_M, oR xR xD xA u_r, ar cI xD 8 u_d, ar cI xA 8 u_a, oG xG xL xH xI, ar cI xL 6 u_lo, ar cI xH 6 u_hi, ar cI xI 6 u_ri, oT xT u_t, oX yX yM yD yA yO yL yH yI v_x, ar cI yM 512 u_M, ar cI yD 8 u_d, ar cI yA 8 u_a, ar cI yO 4 v_o, ar cI yL 6 u_lo, ar cI yH 6 u_hi, ar cI yI 6 u_ri, aj cJ xO g] → va_S (fun q => s.heap.size ≤ q) s.heap H locs → W p l e room_1 s m args below meth c H locs (cells + 1) (slots + 6) Q (F0 m 716 ls [])) : W p l e room_1 s m args below meth c H locs cells slots Q (F0 m 504 ls []) := by
  obtain ⟨hx, hb, hml, hown, hts, hX, hbl, hK, hz, htr⟩ := X
  have hf0 : cells ≤ room_1.cells ∧ slots ≤ room_1.slots := ⟨Nat.le_of_succ_le hc.1, Nat.le_trans (Nat.le_add_right _ _) hc.2⟩
  have hbA : ¬ s.heap.size ≤ b := Nat.not_le.mpr hbl
  have hA : ∀ q : Nat, s.heap.size ≤ q → s.heap.size ≤ q := fun q h => h
  refine lv_aload_n hx hb d_law_504 rfl (lv_at hl 1 rfl) ?_
  refine zz_cVi (rest := []) (wr := [oX yX yM yD yA yO yL yH yI v_x, ar cI yM 512 u_M, ar cI yD 8 u_d, ar cI yA 8 u_a, ar cI yO 4 v_o, ar cI yL 6 u_lo, ar cI yH 6 u_hi, ar cI yI 6 u_ri, aj cJ xO g]) (w' := [oC xC xP, oP xP xM xR xG xT ((s_C_halt u_z u_M u_r u_d u_a u_lo u_hi u_ri u_t).2), oM xM xW, ar cI xW 512 u_M, oR xR xD xA u_r, ar cI xD 8 u_d, ar cI xA 8 u_a, oG xG xL xH xI, ar cI xL 6 u_lo, ar cI xH 6 u_hi, ar cI xI 6 u_ri, oT xT u_t, oX yX yM yD yA yO yL yH yI v_x, ar cI yM 512 u_M, ar cI yD 8 u_d, ar cI yA 8 u_a, ar cI yO 4 v_o, ar cI yL 6 u_lo, ar cI yH 6 u_hi, ar cI yI 6 u_ri, aj cJ xO g]) ⟨hx, hb, hml, hown, hts⟩ (k_C_halt l D cI _ xC xP xM xW xR xD xA xG xL xH xI xT u_z u_M u_r u_d u_a u_lo u_hi u_ri u_t hr.2.2.2.2.1) g_law_C_halt_82 nv_C_halt ⟨⟨rfl, rfl⟩, Nat.le_of_ble_eq_true rfl, Nat.le_of_ble_eq_true rfl⟩ hK [0] rfl hP hD hS hA [0, 1, 2, 3, 4, 5, 6, 7, 8, 9, 10, 11] [12, 13, 14, 15, 16, 17, 18, 19, 20] [9, 10, 11, 12, 13, 14, 15, 16, 17, 18, 19, 20, 0, 1, 2, 3, 4, 5, 6, 7, 8] rfl rfl rfl rfl (by decide) rfl rfl 0 5 rfl rfl rfl rfl hl.1 (Nat.le_of_ble_eq_true rfl) d_law_505 hf0 (fun H locs hP hD hS => ?_)
  refine lv_aload_n hx hb d_law_508 rfl (lv_at hl 2 rfl) ?_
  refine zz_cVi (rest := [.int ((s_C_halt u_z u_M u_r u_d u_a u_lo u_hi u_ri u_t).1)]) (wr := [oC xC xP, oP xP xM xR xG xT ((s_C_halt u_z u_M u_r u_d u_a u_lo u_hi u_ri u_t).2), oM xM xW, ar cI xW 512 u_M, oR xR xD xA u_r, ar cI xD 8 u_d, ar cI xA 8 u_a, oG xG xL xH xI, ar cI xL 6 u_lo, ar cI xH 6 u_hi, ar cI xI 6 u_ri, oT xT u_t, aj cJ xO g]) (w' := [oC xC xP, oP xP xM xR xG xT ((s_C_halt u_z u_M u_r u_d u_a u_lo u_hi u_ri u_t).2), oM xM xW, ar cI xW 512 u_M, oR xR xD xA u_r, ar cI xD 8 u_d, ar cI xA 8 u_a, oG xG xL xH xI, ar cI xL 6 u_lo, ar cI xH 6 u_hi, ar cI xI 6 u_ri, oT xT u_t, oX yX yM yD yA yO yL yH yI ((s_X_halt v_x u_M u_d u_a v_o u_lo u_hi u_ri).2), ar cI yM 512 u_M, ar cI yD 8 u_d, ar cI yA 8 u_a, ar cI yO 4 v_o, ar cI yL 6 u_lo, ar cI yH 6 u_hi, ar cI yI 6 u_ri, aj cJ xO g]) ⟨hx, hb, hml, hown, hts⟩ (k_X_halt l D cI _ yX yM yD yA yO yL yH yI v_x u_M u_d u_a v_o u_lo u_hi u_ri (rl_xiv hr).2.2.2.1) g_law_X_halt_86 nv_X_halt ⟨⟨rfl, rfl⟩, Nat.le_of_ble_eq_true rfl, Nat.le_of_ble_eq_true rfl⟩ hK [0] rfl hP hD hS hA [12, 13, 14, 15, 16, 17, 18, 19] [0, 1, 2, 3, 4, 5, 6, 7, 8, 9, 10, 11, 20] [0, 1, 2, 3, 4, 5, 6, 7, 8, 9, 10, 11, 13, 14, 15, 16, 17, 18, 19, 20, 12] rfl rfl rfl rfl (by decide) rfl rfl 12 6 rfl rfl rfl rfl hl.1 (Nat.le_of_ble_eq_true rfl) d_law_509 hf0 (fun H locs hP hD hS => ?_)
  have f := f_halt (M := u_M) (d := u_d) (a := u_a) (lo := u_lo) (hi := u_hi) (ri := u_ri) hr
  refine lv_icmp_eq (tgt := 716) hx hb d_law_512 (by decide) (fun h512 => ?_) (fun h512 => ?_)
  ·
    exact W.widen (Nat.le_succ _) (Nat.le_add_right _ _) (hN _ _ _ _ _ _ _ _ _ _ _ _ _ _ _ (f.2) (lv_sub hl [0, 1, 2, 3, 4] rfl) hP hD hS)
  ·
    exact (h512 (f.1.symm)).elim
set_option maxHeartbeats 4000000 in
set_option maxRecDepth 100000 in
theorem lc_run {p : Program} {l : Launch} {e : Env} {s : State} {m : MethodId} {below : List Frame} {meth : Method} {c : Code} {H : Heap} {locs : List Loc} {cells slots b L j xO : Nat} {cI cJ : ClassId} {xs : Nat → Int32} {D : va_G} {xC xP xM xW xR xD xA xG xL xH xI xT yX yM yD yA yO yL yH yI : Nat} {u_z u_M u_r u_d u_a u_lo u_hi u_ri u_t v_x v_o : Nat → Int32} {g : Nat → Int64} {Q : State → Prop} {args : Array Value} {ls : Array Slot} (X : LX p l s m args c b L xs D cI cJ) (hj : j + 6 ≤ L) (hL : L ≤ 3072) (hr : rl u_z u_r u_t v_x v_o) (hl : lv_has ls 7 [(0, .ref b), (1, .ref xC), (2, .ref yX), (3, .ref xO), (4, .int (nI j))]) (hP : va_P D classes [oC xC xP, oP xP xM xR xG xT u_z, oM xM xW, ar cI xW 512 u_M, oR xR xD xA u_r, ar cI xD 8 u_d, ar cI xA 8 u_a, oG xG xL xH xI, ar cI xL 6 u_lo, ar cI xH 6 u_hi, ar cI xI 6 u_ri, oT xT u_t, oX yX yM yD yA yO yL yH yI v_x, ar cI yM 512 u_M, ar cI yD 8 u_d, ar cI yA 8 u_a, ar cI yO 4 v_o, ar cI yL 6 u_lo, ar cI yH 6 u_hi, ar cI yI 6 u_ri, aj cJ xO g] H) (hD : va_D (fun q => s.heap.size ≤ q) [oC xC xP, oP xP xM xR xG xT u_z, oM xM xW, ar cI xW 512 u_M, oR xR xD xA u_r, ar cI xD 8 u_d, ar cI xA 8 u_a, oG xG xL xH xI, ar cI xL 6 u_lo, ar cI xH 6 u_hi, ar cI xI 6 u_ri, oT xT u_t, oX yX yM yD yA yO yL yH yI v_x, ar cI yM 512 u_M, ar cI yD 8 u_d, ar cI yA 8 u_a, ar cI yO 4 v_o, ar cI yL 6 u_lo, ar cI yH 6 u_hi, ar cI yI 6 u_ri, aj cJ xO g]) (hS : va_S (fun q => s.heap.size ≤ q) s.heap H locs) (hc : cells + 1 ≤ room_1.cells ∧ slots + 6 ≤ room_1.slots)
    (hN : ∀ (u_z u_M u_r u_d u_a u_lo u_hi u_ri u_t v_x v_o : Nat → Int32) (g : Nat → Int64) (H : Heap) (locs : List Loc) (ls : Array Slot), rl u_z u_r u_t v_x v_o → lv_has ls 7 [(0, .ref b), (1, .ref xC), (2, .ref yX), (3, .ref xO), (4, .int (nI j))] → va_P D classes [oC xC xP, oP xP xM xR xG xT u_z, oM xM xW, ar cI xW 512 u_M, oR xR xD xA u_r, ar cI xD 8 u_d, ar cI xA 8 u_a, oG xG xL xH xI, ar cI xL 6 u_lo, ar cI xH 6 u_hi, ar cI xI 6 u_ri, oT xT u_t, oX yX yM yD yA yO yL yH yI v_x, ar cI yM 512 u_M, ar cI yD 8 u_d, ar cI yA 8 u_a, ar cI yO 4 v_o, ar cI yL 6 u_lo, ar cI yH 6 u_hi, ar cI yI 6 u_ri, aj cJ xO g] H → va_D (fun q => s.heap.size ≤ q) [oC xC xP, oP xP xM xR xG xT u_z, oM xM xW, ar cI xW 512 u_M, oR xR xD xA u_r, ar cI xD 8 u_d, ar cI xA 8 u_a, oG xG xL xH xI, ar cI xL 6 u_lo, ar cI xH 6 u_hi, ar cI xI 6 u_ri, oT xT u_t, oX yX yM yD yA yO yL yH yI v_x, ar cI yM 512 u_M, ar cI yD 8 u_d, ar cI yA 8 u_a, ar cI yO 4 v_o, ar cI yL 6 u_lo, ar cI yH 6 u_hi, ar cI yI 6 u_ri, aj cJ xO g] → va_S (fun q => s.heap.size ≤ q) s.heap H locs → W p l e room_1 s m args below meth c H locs (cells + 1) (slots + 6) Q (F0 m 716 ls [])) : W p l e room_1 s m args below meth c H locs cells slots Q (F0 m 517 ls []) := by
  obtain ⟨hx, hb, hml, hown, hts, hX, hbl, hK, hz, htr⟩ := X
  have hf0 : cells ≤ room_1.cells ∧ slots ≤ room_1.slots := ⟨Nat.le_of_succ_le hc.1, Nat.le_trans (Nat.le_add_right _ _) hc.2⟩
  have hbA : ¬ s.heap.size ≤ b := Nat.not_le.mpr hbl
  have hA : ∀ q : Nat, s.heap.size ≤ q → s.heap.size ≤ q := fun q h => h
  refine lv_aload_n hx hb d_law_517 rfl (lv_at hl 1 rfl) ?_
  refine lv_aload_n hx hb d_law_518 rfl (lv_at hl 0 rfl) ?_
  refine lv_iload hx hb d_law_519 (lv_at hl 4 rfl) ?_
  refine lv_iconst (v := (1 : Int32)) hx hb d_law_521 rfl ?_
  refine lv_iadd hx hb d_law_522 ?_
  refine va_sld hx hb hX hbl hbA hS (sc1 hj hL) d_law_523 ?_
  refine lv_aload_n hx hb d_law_524 rfl (lv_at hl 3 rfl) ?_
  refine zz_cH (rest := []) (wr := [oX yX yM yD yA yO yL yH yI v_x, ar cI yM 512 u_M, ar cI yD 8 u_d, ar cI yA 8 u_a, ar cI yO 4 v_o, ar cI yL 6 u_lo, ar cI yH 6 u_hi, ar cI yI 6 u_ri]) (w' := [oC xC xP, oP xP xM xR xG xT ((s_C_run u_z u_M u_r u_d u_a u_lo u_hi u_ri u_t (xs (ix ((nI j) + (1 : Int32))))).2.1), oM xM xW, ar cI xW 512 ((s_C_run u_z u_M u_r u_d u_a u_lo u_hi u_ri u_t (xs (ix ((nI j) + (1 : Int32))))).2.2.1), oR xR xD xA ((s_C_run u_z u_M u_r u_d u_a u_lo u_hi u_ri u_t (xs (ix ((nI j) + (1 : Int32))))).2.2.2.1), ar cI xD 8 ((s_C_run u_z u_M u_r u_d u_a u_lo u_hi u_ri u_t (xs (ix ((nI j) + (1 : Int32))))).2.2.2.2.1), ar cI xA 8 ((s_C_run u_z u_M u_r u_d u_a u_lo u_hi u_ri u_t (xs (ix ((nI j) + (1 : Int32))))).2.2.2.2.2.1), oG xG xL xH xI, ar cI xL 6 u_lo, ar cI xH 6 u_hi, ar cI xI 6 u_ri, oT xT ((s_C_run u_z u_M u_r u_d u_a u_lo u_hi u_ri u_t (xs (ix ((nI j) + (1 : Int32))))).2.2.2.2.2.2), oX yX yM yD yA yO yL yH yI v_x, ar cI yM 512 u_M, ar cI yD 8 u_d, ar cI yA 8 u_a, ar cI yO 4 v_o, ar cI yL 6 u_lo, ar cI yH 6 u_hi, ar cI yI 6 u_ri, aj cJ xO (if t_C_run u_z u_M u_r u_d u_a u_lo u_hi u_ri u_t (xs (ix ((nI j) + (1 : Int32)))) = 0 then vp_updL g (0 : Int32).toNatClampNeg (Int32.toInt64 ((s_C_run u_z u_M u_r u_d u_a u_lo u_hi u_ri u_t (xs (ix ((nI j) + (1 : Int32))))).1)) else g)]) ⟨hx, hb, hml, hown, hts⟩ (h_run l htr D cI _ xC xP xM xW xR xD xA xG xL xH xI xT xO cJ g u_z u_M u_r u_d u_a u_lo u_hi u_ri u_t (xs (ix ((nI j) + (1 : Int32)))) hr.2.2.2.1 hr.2.2.2.2) mw_505 mw_506 mw_507 mw_508 nd_L_run ⟨⟨rfl, rfl⟩, Nat.le_of_ble_eq_true rfl, Nat.le_of_ble_eq_true rfl⟩ hK [0, 1] rfl hP hD hS hA (zth_of hz hS) [0, 1, 2, 3, 4, 5, 6, 7, 8, 9, 10, 11, 20] [12, 13, 14, 15, 16, 17, 18, 19] [8, 9, 10, 11, 12, 13, 14, 15, 16, 17, 18, 19, 0, 1, 2, 3, 4, 5, 6, 7, 20] rfl rfl rfl rfl (by decide) rfl rfl rfl rfl hl.1 (Nat.le_of_ble_eq_true rfl) d_law_525 hc (fun H locs hP hD hS => ?_)
  refine lv_istore hx hb d_law_528 hl (by decide) rfl (fun ls hl => ?_)
  refine lv_aload_n hx hb d_law_530 rfl (lv_at hl 3 rfl) ?_
  refine lv_aload_n hx hb d_law_531 rfl (lv_at hl 1 rfl) ?_
  refine lv_iload hx hb d_law_532 (lv_at hl 5 rfl) ?_
  refine lv_iconst (v := (1 : Int32)) hx hb d_law_534 rfl ?_
  refine lv_iadd hx hb d_law_535 ?_
  refine va_sld hx hb hX hbl hbA hS (sc1 hj hL) d_law_536 ?_
  refine zz_cVi (rest := []) (wr := [oC xC xP, oP xP xM xR xG xT ((s_C_run u_z u_M u_r u_d u_a u_lo u_hi u_ri u_t (xs (ix ((nI j) + (1 : Int32))))).2.1), oM xM xW, ar cI xW 512 ((s_C_run u_z u_M u_r u_d u_a u_lo u_hi u_ri u_t (xs (ix ((nI j) + (1 : Int32))))).2.2.1), oR xR xD xA ((s_C_run u_z u_M u_r u_d u_a u_lo u_hi u_ri u_t (xs (ix ((nI j) + (1 : Int32))))).2.2.2.1), ar cI xD 8 ((s_C_run u_z u_M u_r u_d u_a u_lo u_hi u_ri u_t (xs (ix ((nI j) + (1 : Int32))))).2.2.2.2.1), ar cI xA 8 ((s_C_run u_z u_M u_r u_d u_a u_lo u_hi u_ri u_t (xs (ix ((nI j) + (1 : Int32))))).2.2.2.2.2.1), oG xG xL xH xI, ar cI xL 6 u_lo, ar cI xH 6 u_hi, ar cI xI 6 u_ri, oT xT ((s_C_run u_z u_M u_r u_d u_a u_lo u_hi u_ri u_t (xs (ix ((nI j) + (1 : Int32))))).2.2.2.2.2.2), aj cJ xO (if t_C_run u_z u_M u_r u_d u_a u_lo u_hi u_ri u_t (xs (ix ((nI j) + (1 : Int32)))) = 0 then vp_updL g (0 : Int32).toNatClampNeg (Int32.toInt64 ((s_C_run u_z u_M u_r u_d u_a u_lo u_hi u_ri u_t (xs (ix ((nI j) + (1 : Int32))))).1)) else g)]) (w' := [oC xC xP, oP xP xM xR xG xT ((s_C_run u_z u_M u_r u_d u_a u_lo u_hi u_ri u_t (xs (ix ((nI j) + (1 : Int32))))).2.1), oM xM xW, ar cI xW 512 ((s_C_run u_z u_M u_r u_d u_a u_lo u_hi u_ri u_t (xs (ix ((nI j) + (1 : Int32))))).2.2.1), oR xR xD xA ((s_C_run u_z u_M u_r u_d u_a u_lo u_hi u_ri u_t (xs (ix ((nI j) + (1 : Int32))))).2.2.2.1), ar cI xD 8 ((s_C_run u_z u_M u_r u_d u_a u_lo u_hi u_ri u_t (xs (ix ((nI j) + (1 : Int32))))).2.2.2.2.1), ar cI xA 8 ((s_C_run u_z u_M u_r u_d u_a u_lo u_hi u_ri u_t (xs (ix ((nI j) + (1 : Int32))))).2.2.2.2.2.1), oG xG xL xH xI, ar cI xL 6 u_lo, ar cI xH 6 u_hi, ar cI xI 6 u_ri, oT xT ((s_C_run u_z u_M u_r u_d u_a u_lo u_hi u_ri u_t (xs (ix ((nI j) + (1 : Int32))))).2.2.2.2.2.2), oX yX yM yD yA yO yL yH yI ((s_X_run v_x u_M u_d u_a v_o u_lo u_hi u_ri (xs (ix ((nI j) + (1 : Int32))))).2.1), ar cI yM 512 ((s_X_run v_x u_M u_d u_a v_o u_lo u_hi u_ri (xs (ix ((nI j) + (1 : Int32))))).2.2.1), ar cI yD 8 ((s_X_run v_x u_M u_d u_a v_o u_lo u_hi u_ri (xs (ix ((nI j) + (1 : Int32))))).2.2.2.1), ar cI yA 8 ((s_X_run v_x u_M u_d u_a v_o u_lo u_hi u_ri (xs (ix ((nI j) + (1 : Int32))))).2.2.2.2.1), ar cI yO 4 ((s_X_run v_x u_M u_d u_a v_o u_lo u_hi u_ri (xs (ix ((nI j) + (1 : Int32))))).2.2.2.2.2), ar cI yL 6 u_lo, ar cI yH 6 u_hi, ar cI yI 6 u_ri, aj cJ xO (if t_C_run u_z u_M u_r u_d u_a u_lo u_hi u_ri u_t (xs (ix ((nI j) + (1 : Int32)))) = 0 then vp_updL g (0 : Int32).toNatClampNeg (Int32.toInt64 ((s_C_run u_z u_M u_r u_d u_a u_lo u_hi u_ri u_t (xs (ix ((nI j) + (1 : Int32))))).1)) else g)]) ⟨hx, hb, hml, hown, hts⟩ (k_X_run l D cI _ yX yM yD yA yO yL yH yI v_x u_M u_d u_a v_o u_lo u_hi u_ri (xs (ix ((nI j) + (1 : Int32)))) (rl_xiv hr)) g_law_X_run_90 nv_X_run ⟨⟨rfl, rfl⟩, Nat.le_of_ble_eq_true rfl, Nat.le_of_ble_eq_true rfl⟩ hK [0] rfl hP hD hS hA [12, 13, 14, 15, 16, 17, 18, 19] [0, 1, 2, 3, 4, 5, 6, 7, 8, 9, 10, 11, 20] [0, 1, 2, 3, 4, 5, 6, 7, 8, 9, 10, 11, 13, 14, 15, 16, 17, 18, 19, 20, 12] rfl rfl rfl rfl (by decide) rfl rfl 12 6 rfl rfl rfl rfl hl.1 (Nat.le_of_ble_eq_true rfl) d_law_537 hc (fun H locs hP hD hS => ?_)
  have f := f_run (M := u_M) (d := u_d) (a := u_a) (lo := u_lo) (hi := u_hi) (ri := u_ri) (a1 := (xs (ix ((nI j) + (1 : Int32))))) hr
  refine lv_istore hx hb d_law_540 hl (by decide) rfl (fun ls hl => ?_)
  refine lv_aload_n hx hb d_law_542 rfl (lv_at hl 4 rfl) ?_
  refine zz_cVi (rest := []) (wr := [oC xC xP, oP xP xM xR xG xT ((s_C_run u_z u_M u_r u_d u_a u_lo u_hi u_ri u_t (xs (ix ((nI j) + (1 : Int32))))).2.1), oM xM xW, ar cI xW 512 ((s_C_run u_z u_M u_r u_d u_a u_lo u_hi u_ri u_t (xs (ix ((nI j) + (1 : Int32))))).2.2.1), oR xR xD xA ((s_C_run u_z u_M u_r u_d u_a u_lo u_hi u_ri u_t (xs (ix ((nI j) + (1 : Int32))))).2.2.2.1), ar cI xD 8 ((s_C_run u_z u_M u_r u_d u_a u_lo u_hi u_ri u_t (xs (ix ((nI j) + (1 : Int32))))).2.2.2.2.1), ar cI xA 8 ((s_C_run u_z u_M u_r u_d u_a u_lo u_hi u_ri u_t (xs (ix ((nI j) + (1 : Int32))))).2.2.2.2.2.1), oG xG xL xH xI, ar cI xL 6 u_lo, ar cI xH 6 u_hi, ar cI xI 6 u_ri, oT xT ((s_C_run u_z u_M u_r u_d u_a u_lo u_hi u_ri u_t (xs (ix ((nI j) + (1 : Int32))))).2.2.2.2.2.2), aj cJ xO (if t_C_run u_z u_M u_r u_d u_a u_lo u_hi u_ri u_t (xs (ix ((nI j) + (1 : Int32)))) = 0 then vp_updL g (0 : Int32).toNatClampNeg (Int32.toInt64 ((s_C_run u_z u_M u_r u_d u_a u_lo u_hi u_ri u_t (xs (ix ((nI j) + (1 : Int32))))).1)) else g)]) (w' := [oC xC xP, oP xP xM xR xG xT ((s_C_run u_z u_M u_r u_d u_a u_lo u_hi u_ri u_t (xs (ix ((nI j) + (1 : Int32))))).2.1), oM xM xW, ar cI xW 512 ((s_C_run u_z u_M u_r u_d u_a u_lo u_hi u_ri u_t (xs (ix ((nI j) + (1 : Int32))))).2.2.1), oR xR xD xA ((s_C_run u_z u_M u_r u_d u_a u_lo u_hi u_ri u_t (xs (ix ((nI j) + (1 : Int32))))).2.2.2.1), ar cI xD 8 ((s_C_run u_z u_M u_r u_d u_a u_lo u_hi u_ri u_t (xs (ix ((nI j) + (1 : Int32))))).2.2.2.2.1), ar cI xA 8 ((s_C_run u_z u_M u_r u_d u_a u_lo u_hi u_ri u_t (xs (ix ((nI j) + (1 : Int32))))).2.2.2.2.2.1), oG xG xL xH xI, ar cI xL 6 u_lo, ar cI xH 6 u_hi, ar cI xI 6 u_ri, oT xT ((s_C_run u_z u_M u_r u_d u_a u_lo u_hi u_ri u_t (xs (ix ((nI j) + (1 : Int32))))).2.2.2.2.2.2), oX yX yM yD yA yO yL yH yI ((s_X_run v_x u_M u_d u_a v_o u_lo u_hi u_ri (xs (ix ((nI j) + (1 : Int32))))).2.1), ar cI yM 512 ((s_X_run v_x u_M u_d u_a v_o u_lo u_hi u_ri (xs (ix ((nI j) + (1 : Int32))))).2.2.1), ar cI yD 8 ((s_X_run v_x u_M u_d u_a v_o u_lo u_hi u_ri (xs (ix ((nI j) + (1 : Int32))))).2.2.2.1), ar cI yA 8 ((s_X_run v_x u_M u_d u_a v_o u_lo u_hi u_ri (xs (ix ((nI j) + (1 : Int32))))).2.2.2.2.1), ar cI yO 4 ((s_X_run v_x u_M u_d u_a v_o u_lo u_hi u_ri (xs (ix ((nI j) + (1 : Int32))))).2.2.2.2.2), ar cI yL 6 u_lo, ar cI yH 6 u_hi, ar cI yI 6 u_ri, aj cJ xO (if t_C_run u_z u_M u_r u_d u_a u_lo u_hi u_ri u_t (xs (ix ((nI j) + (1 : Int32)))) = 0 then vp_updL g (0 : Int32).toNatClampNeg (Int32.toInt64 ((s_C_run u_z u_M u_r u_d u_a u_lo u_hi u_ri u_t (xs (ix ((nI j) + (1 : Int32))))).1)) else g)]) ⟨hx, hb, hml, hown, hts⟩ (k_X_thrown l D cI _ yX yM yD yA yO yL yH yI ((s_X_run v_x u_M u_d u_a v_o u_lo u_hi u_ri (xs (ix ((nI j) + (1 : Int32))))).2.1) ((s_X_run v_x u_M u_d u_a v_o u_lo u_hi u_ri (xs (ix ((nI j) + (1 : Int32))))).2.2.1) ((s_X_run v_x u_M u_d u_a v_o u_lo u_hi u_ri (xs (ix ((nI j) + (1 : Int32))))).2.2.2.1) ((s_X_run v_x u_M u_d u_a v_o u_lo u_hi u_ri (xs (ix ((nI j) + (1 : Int32))))).2.2.2.2.1) ((s_X_run v_x u_M u_d u_a v_o u_lo u_hi u_ri (xs (ix ((nI j) + (1 : Int32))))).2.2.2.2.2) u_lo u_hi u_ri) g_law_X_thrown_53 nv_X_thrown ⟨⟨rfl, rfl⟩, Nat.le_of_ble_eq_true rfl, Nat.le_of_ble_eq_true rfl⟩ hK [0] rfl hP hD hS hA [12, 13, 14, 15, 16, 17, 18, 19] [0, 1, 2, 3, 4, 5, 6, 7, 8, 9, 10, 11, 20] [0, 1, 2, 3, 4, 5, 6, 7, 8, 9, 10, 11, 13, 14, 15, 16, 17, 18, 19, 20, 12] rfl rfl rfl rfl (by decide) rfl rfl 12 6 rfl rfl rfl rfl hl.1 (Nat.le_of_ble_eq_true rfl) d_law_543 hc (fun H locs hP hD hS => ?_)
  refine lv_iload hx hb d_law_546 (lv_at hl 1 rfl) ?_
  refine lv_icmp_eq (tgt := 553) hx hb d_law_548 (by decide) (fun h548 => ?_) (fun h548 => ?_)
  ·
    refine lv_iload hx hb d_law_553 (lv_at hl 1 rfl) ?_
    refine lv_if_ne (tgt := 570) hx hb d_law_555 (by decide) (fun h555 => ?_) (fun h555 => ?_)
    ·
      refine lv_goto (tgt := 716) hx hb d_law_570 (by decide) ?_
      rw [f.2.2.1, f.2.2.2.1, f.2.2.2.2.1] at hP hD
      exact hN _ _ _ _ _ _ _ _ _ _ _ _ _ _ _ (f.2.2.2.2.2) (lv_sub hl [2, 3, 4, 5, 6] rfl) hP hD hS
    ·
      refine lv_aload_n hx hb d_law_558 rfl (lv_at hl 5 rfl) ?_
      refine lv_iconst (v := (0 : Int32)) hx hb d_law_559 rfl ?_
      refine va_lald hx hb hK hP 20 1 rfl rfl in01 d_law_560 ?_
      refine lv_iload hx hb d_law_561 (lv_at hl 0 rfl) ?_
      refine lv_i2l hx hb d_law_563 rfl ?_
      refine W.lcmp hx hb d_law_564 ?_
      refine lv_if_eq (tgt := 570) hx hb d_law_565 (by decide) (fun h565 => ?_) (fun h565 => ?_)
      ·
        refine lv_goto (tgt := 716) hx hb d_law_570 (by decide) ?_
        rw [f.2.2.1, f.2.2.2.1, f.2.2.2.2.1] at hP hD
        exact hN _ _ _ _ _ _ _ _ _ _ _ _ _ _ _ (f.2.2.2.2.2) (lv_sub hl [2, 3, 4, 5, 6] rfl) hP hD hS
      ·
        exact absurd (by rw [if_pos h555, f.2.1, zz_updL]; exact zz_cmp _) h565
  ·
    exact (h548 (f.1)).elim
set_option maxHeartbeats 4000000 in
set_option maxRecDepth 100000 in
theorem lc_register {p : Program} {l : Launch} {e : Env} {s : State} {m : MethodId} {below : List Frame} {meth : Method} {c : Code} {H : Heap} {locs : List Loc} {cells slots b L j xO : Nat} {cI cJ : ClassId} {xs : Nat → Int32} {D : va_G} {xC xP xM xW xR xD xA xG xL xH xI xT yX yM yD yA yO yL yH yI : Nat} {u_z u_M u_r u_d u_a u_lo u_hi u_ri u_t v_x v_o : Nat → Int32} {g : Nat → Int64} {Q : State → Prop} {args : Array Value} {ls : Array Slot} (X : LX p l s m args c b L xs D cI cJ) (hj : j + 6 ≤ L) (hL : L ≤ 3072) (hr : rl u_z u_r u_t v_x v_o) (hl : lv_has ls 7 [(0, .ref b), (1, .ref xC), (2, .ref yX), (3, .ref xO), (4, .int (nI j))]) (hP : va_P D classes [oC xC xP, oP xP xM xR xG xT u_z, oM xM xW, ar cI xW 512 u_M, oR xR xD xA u_r, ar cI xD 8 u_d, ar cI xA 8 u_a, oG xG xL xH xI, ar cI xL 6 u_lo, ar cI xH 6 u_hi, ar cI xI 6 u_ri, oT xT u_t, oX yX yM yD yA yO yL yH yI v_x, ar cI yM 512 u_M, ar cI yD 8 u_d, ar cI yA 8 u_a, ar cI yO 4 v_o, ar cI yL 6 u_lo, ar cI yH 6 u_hi, ar cI yI 6 u_ri, aj cJ xO g] H) (hD : va_D (fun q => s.heap.size ≤ q) [oC xC xP, oP xP xM xR xG xT u_z, oM xM xW, ar cI xW 512 u_M, oR xR xD xA u_r, ar cI xD 8 u_d, ar cI xA 8 u_a, oG xG xL xH xI, ar cI xL 6 u_lo, ar cI xH 6 u_hi, ar cI xI 6 u_ri, oT xT u_t, oX yX yM yD yA yO yL yH yI v_x, ar cI yM 512 u_M, ar cI yD 8 u_d, ar cI yA 8 u_a, ar cI yO 4 v_o, ar cI yL 6 u_lo, ar cI yH 6 u_hi, ar cI yI 6 u_ri, aj cJ xO g]) (hS : va_S (fun q => s.heap.size ≤ q) s.heap H locs) (hc : cells + 1 ≤ room_1.cells ∧ slots + 6 ≤ room_1.slots)
    (hN : ∀ (u_z u_M u_r u_d u_a u_lo u_hi u_ri u_t v_x v_o : Nat → Int32) (g : Nat → Int64) (H : Heap) (locs : List Loc) (ls : Array Slot), rl u_z u_r u_t v_x v_o → lv_has ls 7 [(0, .ref b), (1, .ref xC), (2, .ref yX), (3, .ref xO), (4, .int (nI j))] → va_P D classes [oC xC xP, oP xP xM xR xG xT u_z, oM xM xW, ar cI xW 512 u_M, oR xR xD xA u_r, ar cI xD 8 u_d, ar cI xA 8 u_a, oG xG xL xH xI, ar cI xL 6 u_lo, ar cI xH 6 u_hi, ar cI xI 6 u_ri, oT xT u_t, oX yX yM yD yA yO yL yH yI v_x, ar cI yM 512 u_M, ar cI yD 8 u_d, ar cI yA 8 u_a, ar cI yO 4 v_o, ar cI yL 6 u_lo, ar cI yH 6 u_hi, ar cI yI 6 u_ri, aj cJ xO g] H → va_D (fun q => s.heap.size ≤ q) [oC xC xP, oP xP xM xR xG xT u_z, oM xM xW, ar cI xW 512 u_M, oR xR xD xA u_r, ar cI xD 8 u_d, ar cI xA 8 u_a, oG xG xL xH xI, ar cI xL 6 u_lo, ar cI xH 6 u_hi, ar cI xI 6 u_ri, oT xT u_t, oX yX yM yD yA yO yL yH yI v_x, ar cI yM 512 u_M, ar cI yD 8 u_d, ar cI yA 8 u_a, ar cI yO 4 v_o, ar cI yL 6 u_lo, ar cI yH 6 u_hi, ar cI yI 6 u_ri, aj cJ xO g] → va_S (fun q => s.heap.size ≤ q) s.heap H locs → W p l e room_1 s m args below meth c H locs (cells + 1) (slots + 6) Q (F0 m 716 ls [])) : W p l e room_1 s m args below meth c H locs cells slots Q (F0 m 573 ls []) := by
  obtain ⟨hx, hb, hml, hown, hts, hX, hbl, hK, hz, htr⟩ := X
  have hf0 : cells ≤ room_1.cells ∧ slots ≤ room_1.slots := ⟨Nat.le_of_succ_le hc.1, Nat.le_trans (Nat.le_add_right _ _) hc.2⟩
  have hbA : ¬ s.heap.size ≤ b := Nat.not_le.mpr hbl
  have hA : ∀ q : Nat, s.heap.size ≤ q → s.heap.size ≤ q := fun q h => h
  refine lv_aload_n hx hb d_law_573 rfl (lv_at hl 1 rfl) ?_
  refine lv_aload_n hx hb d_law_574 rfl (lv_at hl 0 rfl) ?_
  refine lv_iload hx hb d_law_575 (lv_at hl 4 rfl) ?_
  refine lv_iconst (v := (1 : Int32)) hx hb d_law_577 rfl ?_
  refine lv_iadd hx hb d_law_578 ?_
  refine va_sld hx hb hX hbl hbA hS (sc1 hj hL) d_law_579 ?_
  refine lv_aload_n hx hb d_law_580 rfl (lv_at hl 0 rfl) ?_
  refine lv_iload hx hb d_law_581 (lv_at hl 4 rfl) ?_
  refine lv_iconst (v := (2 : Int32)) hx hb d_law_583 rfl ?_
  refine lv_iadd hx hb d_law_584 ?_
  refine va_sld hx hb hX hbl hbA hS (sc2 hj hL) d_law_585 ?_
  refine lv_aload_n hx hb d_law_586 rfl (lv_at hl 3 rfl) ?_
  refine zz_cH (rest := []) (wr := [oX yX yM yD yA yO yL yH yI v_x, ar cI yM 512 u_M, ar cI yD 8 u_d, ar cI yA 8 u_a, ar cI yO 4 v_o, ar cI yL 6 u_lo, ar cI yH 6 u_hi, ar cI yI 6 u_ri]) (w' := [oC xC xP, oP xP xM xR xG xT u_z, oM xM xW, ar cI xW 512 u_M, oR xR xD xA u_r, ar cI xD 8 u_d, ar cI xA 8 u_a, oG xG xL xH xI, ar cI xL 6 u_lo, ar cI xH 6 u_hi, ar cI xI 6 u_ri, oT xT u_t, oX yX yM yD yA yO yL yH yI v_x, ar cI yM 512 u_M, ar cI yD 8 u_d, ar cI yA 8 u_a, ar cI yO 4 v_o, ar cI yL 6 u_lo, ar cI yH 6 u_hi, ar cI yI 6 u_ri, aj cJ xO (if t_C_register u_z u_M u_r u_d u_a u_lo u_hi u_ri u_t (xs (ix ((nI j) + (1 : Int32)))) (xs (ix ((nI j) + (2 : Int32)))) = 0 then vp_updL g (0 : Int32).toNatClampNeg (Int32.toInt64 ((s_C_register u_z u_M u_r u_d u_a u_lo u_hi u_ri u_t (xs (ix ((nI j) + (1 : Int32)))) (xs (ix ((nI j) + (2 : Int32))))))) else g)]) ⟨hx, hb, hml, hown, hts⟩ (h_register l htr D cI _ xC xP xM xW xR xD xA xG xL xH xI xT xO cJ g u_z u_M u_r u_d u_a u_lo u_hi u_ri u_t (xs (ix ((nI j) + (1 : Int32)))) (xs (ix ((nI j) + (2 : Int32))))) mw_513 mw_514 mw_515 mw_516 nd_L_register ⟨⟨rfl, rfl⟩, Nat.le_of_ble_eq_true rfl, Nat.le_of_ble_eq_true rfl⟩ hK [0, 1] rfl hP hD hS hA (zth_of hz hS) [0, 1, 2, 3, 4, 5, 6, 7, 8, 9, 10, 11, 20] [12, 13, 14, 15, 16, 17, 18, 19] [8, 9, 10, 11, 12, 13, 14, 15, 16, 17, 18, 19, 0, 1, 2, 3, 4, 5, 6, 7, 20] rfl rfl rfl rfl (by decide) rfl rfl rfl rfl hl.1 (Nat.le_of_ble_eq_true rfl) d_law_587 hc (fun H locs hP hD hS => ?_)
  refine lv_istore hx hb d_law_590 hl (by decide) rfl (fun ls hl => ?_)
  refine lv_aload_n hx hb d_law_592 rfl (lv_at hl 3 rfl) ?_
  refine lv_aload_n hx hb d_law_593 rfl (lv_at hl 1 rfl) ?_
  refine lv_iload hx hb d_law_594 (lv_at hl 5 rfl) ?_
  refine lv_iconst (v := (1 : Int32)) hx hb d_law_596 rfl ?_
  refine lv_iadd hx hb d_law_597 ?_
  refine va_sld hx hb hX hbl hbA hS (sc1 hj hL) d_law_598 ?_
  refine lv_aload_n hx hb d_law_599 rfl (lv_at hl 1 rfl) ?_
  refine lv_iload hx hb d_law_600 (lv_at hl 5 rfl) ?_
  refine lv_iconst (v := (2 : Int32)) hx hb d_law_602 rfl ?_
  refine lv_iadd hx hb d_law_603 ?_
  refine va_sld hx hb hX hbl hbA hS (sc2 hj hL) d_law_604 ?_
  refine zz_cVi (rest := []) (wr := [oC xC xP, oP xP xM xR xG xT u_z, oM xM xW, ar cI xW 512 u_M, oR xR xD xA u_r, ar cI xD 8 u_d, ar cI xA 8 u_a, oG xG xL xH xI, ar cI xL 6 u_lo, ar cI xH 6 u_hi, ar cI xI 6 u_ri, oT xT u_t, aj cJ xO (if t_C_register u_z u_M u_r u_d u_a u_lo u_hi u_ri u_t (xs (ix ((nI j) + (1 : Int32)))) (xs (ix ((nI j) + (2 : Int32)))) = 0 then vp_updL g (0 : Int32).toNatClampNeg (Int32.toInt64 ((s_C_register u_z u_M u_r u_d u_a u_lo u_hi u_ri u_t (xs (ix ((nI j) + (1 : Int32)))) (xs (ix ((nI j) + (2 : Int32))))))) else g)]) (w' := [oC xC xP, oP xP xM xR xG xT u_z, oM xM xW, ar cI xW 512 u_M, oR xR xD xA u_r, ar cI xD 8 u_d, ar cI xA 8 u_a, oG xG xL xH xI, ar cI xL 6 u_lo, ar cI xH 6 u_hi, ar cI xI 6 u_ri, oT xT u_t, oX yX yM yD yA yO yL yH yI ((s_X_register v_x u_M u_d u_a v_o u_lo u_hi u_ri (xs (ix ((nI j) + (1 : Int32)))) (xs (ix ((nI j) + (2 : Int32))))).2), ar cI yM 512 u_M, ar cI yD 8 u_d, ar cI yA 8 u_a, ar cI yO 4 v_o, ar cI yL 6 u_lo, ar cI yH 6 u_hi, ar cI yI 6 u_ri, aj cJ xO (if t_C_register u_z u_M u_r u_d u_a u_lo u_hi u_ri u_t (xs (ix ((nI j) + (1 : Int32)))) (xs (ix ((nI j) + (2 : Int32)))) = 0 then vp_updL g (0 : Int32).toNatClampNeg (Int32.toInt64 ((s_C_register u_z u_M u_r u_d u_a u_lo u_hi u_ri u_t (xs (ix ((nI j) + (1 : Int32)))) (xs (ix ((nI j) + (2 : Int32))))))) else g)]) ⟨hx, hb, hml, hown, hts⟩ (k_X_register l D cI _ yX yM yD yA yO yL yH yI v_x u_M u_d u_a v_o u_lo u_hi u_ri (xs (ix ((nI j) + (1 : Int32)))) (xs (ix ((nI j) + (2 : Int32))))) g_law_X_register_94 nv_X_register ⟨⟨rfl, rfl⟩, Nat.le_of_ble_eq_true rfl, Nat.le_of_ble_eq_true rfl⟩ hK [0] rfl hP hD hS hA [12, 13, 14, 15, 16, 17, 18, 19] [0, 1, 2, 3, 4, 5, 6, 7, 8, 9, 10, 11, 20] [0, 1, 2, 3, 4, 5, 6, 7, 8, 9, 10, 11, 13, 14, 15, 16, 17, 18, 19, 20, 12] rfl rfl rfl rfl (by decide) rfl rfl 12 6 rfl rfl rfl rfl hl.1 (Nat.le_of_ble_eq_true rfl) d_law_605 hc (fun H locs hP hD hS => ?_)
  have f := f_register (M := u_M) (d := u_d) (a := u_a) (lo := u_lo) (hi := u_hi) (ri := u_ri) (a1 := (xs (ix ((nI j) + (1 : Int32))))) (a2 := (xs (ix ((nI j) + (2 : Int32))))) hr
  refine lv_istore hx hb d_law_608 hl (by decide) rfl (fun ls hl => ?_)
  refine lv_aload_n hx hb d_law_610 rfl (lv_at hl 4 rfl) ?_
  refine zz_cVi (rest := []) (wr := [oC xC xP, oP xP xM xR xG xT u_z, oM xM xW, ar cI xW 512 u_M, oR xR xD xA u_r, ar cI xD 8 u_d, ar cI xA 8 u_a, oG xG xL xH xI, ar cI xL 6 u_lo, ar cI xH 6 u_hi, ar cI xI 6 u_ri, oT xT u_t, aj cJ xO (if t_C_register u_z u_M u_r u_d u_a u_lo u_hi u_ri u_t (xs (ix ((nI j) + (1 : Int32)))) (xs (ix ((nI j) + (2 : Int32)))) = 0 then vp_updL g (0 : Int32).toNatClampNeg (Int32.toInt64 ((s_C_register u_z u_M u_r u_d u_a u_lo u_hi u_ri u_t (xs (ix ((nI j) + (1 : Int32)))) (xs (ix ((nI j) + (2 : Int32))))))) else g)]) (w' := [oC xC xP, oP xP xM xR xG xT u_z, oM xM xW, ar cI xW 512 u_M, oR xR xD xA u_r, ar cI xD 8 u_d, ar cI xA 8 u_a, oG xG xL xH xI, ar cI xL 6 u_lo, ar cI xH 6 u_hi, ar cI xI 6 u_ri, oT xT u_t, oX yX yM yD yA yO yL yH yI ((s_X_register v_x u_M u_d u_a v_o u_lo u_hi u_ri (xs (ix ((nI j) + (1 : Int32)))) (xs (ix ((nI j) + (2 : Int32))))).2), ar cI yM 512 u_M, ar cI yD 8 u_d, ar cI yA 8 u_a, ar cI yO 4 v_o, ar cI yL 6 u_lo, ar cI yH 6 u_hi, ar cI yI 6 u_ri, aj cJ xO (if t_C_register u_z u_M u_r u_d u_a u_lo u_hi u_ri u_t (xs (ix ((nI j) + (1 : Int32)))) (xs (ix ((nI j) + (2 : Int32)))) = 0 then vp_updL g (0 : Int32).toNatClampNeg (Int32.toInt64 ((s_C_register u_z u_M u_r u_d u_a u_lo u_hi u_ri u_t (xs (ix ((nI j) + (1 : Int32)))) (xs (ix ((nI j) + (2 : Int32))))))) else g)]) ⟨hx, hb, hml, hown, hts⟩ (k_X_thrown l D cI _ yX yM yD yA yO yL yH yI ((s_X_register v_x u_M u_d u_a v_o u_lo u_hi u_ri (xs (ix ((nI j) + (1 : Int32)))) (xs (ix ((nI j) + (2 : Int32))))).2) u_M u_d u_a v_o u_lo u_hi u_ri) g_law_X_thrown_53 nv_X_thrown ⟨⟨rfl, rfl⟩, Nat.le_of_ble_eq_true rfl, Nat.le_of_ble_eq_true rfl⟩ hK [0] rfl hP hD hS hA [12, 13, 14, 15, 16, 17, 18, 19] [0, 1, 2, 3, 4, 5, 6, 7, 8, 9, 10, 11, 20] [0, 1, 2, 3, 4, 5, 6, 7, 8, 9, 10, 11, 13, 14, 15, 16, 17, 18, 19, 20, 12] rfl rfl rfl rfl (by decide) rfl rfl 12 6 rfl rfl rfl rfl hl.1 (Nat.le_of_ble_eq_true rfl) d_law_611 hc (fun H locs hP hD hS => ?_)
  refine lv_iload hx hb d_law_614 (lv_at hl 1 rfl) ?_
  refine lv_icmp_eq (tgt := 621) hx hb d_law_616 (by decide) (fun h616 => ?_) (fun h616 => ?_)
  ·
    refine lv_iload hx hb d_law_621 (lv_at hl 1 rfl) ?_
    refine lv_if_ne (tgt := 638) hx hb d_law_623 (by decide) (fun h623 => ?_) (fun h623 => ?_)
    ·
      refine lv_goto (tgt := 716) hx hb d_law_638 (by decide) ?_
      exact hN _ _ _ _ _ _ _ _ _ _ _ _ _ _ _ (f.2.2) (lv_sub hl [2, 3, 4, 5, 6] rfl) hP hD hS
    ·
      refine lv_aload_n hx hb d_law_626 rfl (lv_at hl 5 rfl) ?_
      refine lv_iconst (v := (0 : Int32)) hx hb d_law_627 rfl ?_
      refine va_lald hx hb hK hP 20 1 rfl rfl in01 d_law_628 ?_
      refine lv_iload hx hb d_law_629 (lv_at hl 0 rfl) ?_
      refine lv_i2l hx hb d_law_631 rfl ?_
      refine W.lcmp hx hb d_law_632 ?_
      refine lv_if_eq (tgt := 638) hx hb d_law_633 (by decide) (fun h633 => ?_) (fun h633 => ?_)
      ·
        refine lv_goto (tgt := 716) hx hb d_law_638 (by decide) ?_
        exact hN _ _ _ _ _ _ _ _ _ _ _ _ _ _ _ (f.2.2) (lv_sub hl [2, 3, 4, 5, 6] rfl) hP hD hS
      ·
        exact absurd (by rw [if_pos h623, f.2.1, zz_updL]; exact zz_cmp _) h633
  ·
    exact (h616 (f.1)).elim
set_option maxHeartbeats 4000000 in
set_option maxRecDepth 100000 in
theorem lc_word {p : Program} {l : Launch} {e : Env} {s : State} {m : MethodId} {below : List Frame} {meth : Method} {c : Code} {H : Heap} {locs : List Loc} {cells slots b L j xO : Nat} {cI cJ : ClassId} {xs : Nat → Int32} {D : va_G} {xC xP xM xW xR xD xA xG xL xH xI xT yX yM yD yA yO yL yH yI : Nat} {u_z u_M u_r u_d u_a u_lo u_hi u_ri u_t v_x v_o : Nat → Int32} {g : Nat → Int64} {Q : State → Prop} {args : Array Value} {ls : Array Slot} (X : LX p l s m args c b L xs D cI cJ) (hj : j + 6 ≤ L) (hL : L ≤ 3072) (hr : rl u_z u_r u_t v_x v_o) (hl : lv_has ls 7 [(0, .ref b), (1, .ref xC), (2, .ref yX), (3, .ref xO), (4, .int (nI j))]) (hP : va_P D classes [oC xC xP, oP xP xM xR xG xT u_z, oM xM xW, ar cI xW 512 u_M, oR xR xD xA u_r, ar cI xD 8 u_d, ar cI xA 8 u_a, oG xG xL xH xI, ar cI xL 6 u_lo, ar cI xH 6 u_hi, ar cI xI 6 u_ri, oT xT u_t, oX yX yM yD yA yO yL yH yI v_x, ar cI yM 512 u_M, ar cI yD 8 u_d, ar cI yA 8 u_a, ar cI yO 4 v_o, ar cI yL 6 u_lo, ar cI yH 6 u_hi, ar cI yI 6 u_ri, aj cJ xO g] H) (hD : va_D (fun q => s.heap.size ≤ q) [oC xC xP, oP xP xM xR xG xT u_z, oM xM xW, ar cI xW 512 u_M, oR xR xD xA u_r, ar cI xD 8 u_d, ar cI xA 8 u_a, oG xG xL xH xI, ar cI xL 6 u_lo, ar cI xH 6 u_hi, ar cI xI 6 u_ri, oT xT u_t, oX yX yM yD yA yO yL yH yI v_x, ar cI yM 512 u_M, ar cI yD 8 u_d, ar cI yA 8 u_a, ar cI yO 4 v_o, ar cI yL 6 u_lo, ar cI yH 6 u_hi, ar cI yI 6 u_ri, aj cJ xO g]) (hS : va_S (fun q => s.heap.size ≤ q) s.heap H locs) (hc : cells + 1 ≤ room_1.cells ∧ slots + 6 ≤ room_1.slots)
    (hN : ∀ (u_z u_M u_r u_d u_a u_lo u_hi u_ri u_t v_x v_o : Nat → Int32) (g : Nat → Int64) (H : Heap) (locs : List Loc) (ls : Array Slot), rl u_z u_r u_t v_x v_o → lv_has ls 7 [(0, .ref b), (1, .ref xC), (2, .ref yX), (3, .ref xO), (4, .int (nI j))] → va_P D classes [oC xC xP, oP xP xM xR xG xT u_z, oM xM xW, ar cI xW 512 u_M, oR xR xD xA u_r, ar cI xD 8 u_d, ar cI xA 8 u_a, oG xG xL xH xI, ar cI xL 6 u_lo, ar cI xH 6 u_hi, ar cI xI 6 u_ri, oT xT u_t, oX yX yM yD yA yO yL yH yI v_x, ar cI yM 512 u_M, ar cI yD 8 u_d, ar cI yA 8 u_a, ar cI yO 4 v_o, ar cI yL 6 u_lo, ar cI yH 6 u_hi, ar cI yI 6 u_ri, aj cJ xO g] H → va_D (fun q => s.heap.size ≤ q) [oC xC xP, oP xP xM xR xG xT u_z, oM xM xW, ar cI xW 512 u_M, oR xR xD xA u_r, ar cI xD 8 u_d, ar cI xA 8 u_a, oG xG xL xH xI, ar cI xL 6 u_lo, ar cI xH 6 u_hi, ar cI xI 6 u_ri, oT xT u_t, oX yX yM yD yA yO yL yH yI v_x, ar cI yM 512 u_M, ar cI yD 8 u_d, ar cI yA 8 u_a, ar cI yO 4 v_o, ar cI yL 6 u_lo, ar cI yH 6 u_hi, ar cI yI 6 u_ri, aj cJ xO g] → va_S (fun q => s.heap.size ≤ q) s.heap H locs → W p l e room_1 s m args below meth c H locs (cells + 1) (slots + 6) Q (F0 m 716 ls [])) : W p l e room_1 s m args below meth c H locs cells slots Q (F0 m 641 ls []) := by
  obtain ⟨hx, hb, hml, hown, hts, hX, hbl, hK, hz, htr⟩ := X
  have hf0 : cells ≤ room_1.cells ∧ slots ≤ room_1.slots := ⟨Nat.le_of_succ_le hc.1, Nat.le_trans (Nat.le_add_right _ _) hc.2⟩
  have hbA : ¬ s.heap.size ≤ b := Nat.not_le.mpr hbl
  have hA : ∀ q : Nat, s.heap.size ≤ q → s.heap.size ≤ q := fun q h => h
  refine lv_aload_n hx hb d_law_641 rfl (lv_at hl 1 rfl) ?_
  refine lv_aload_n hx hb d_law_642 rfl (lv_at hl 0 rfl) ?_
  refine lv_iload hx hb d_law_643 (lv_at hl 4 rfl) ?_
  refine lv_iconst (v := (1 : Int32)) hx hb d_law_645 rfl ?_
  refine lv_iadd hx hb d_law_646 ?_
  refine va_sld hx hb hX hbl hbA hS (sc1 hj hL) d_law_647 ?_
  refine zz_cVi (rest := []) (wr := [oX yX yM yD yA yO yL yH yI v_x, ar cI yM 512 u_M, ar cI yD 8 u_d, ar cI yA 8 u_a, ar cI yO 4 v_o, ar cI yL 6 u_lo, ar cI yH 6 u_hi, ar cI yI 6 u_ri, aj cJ xO g]) (w' := [oC xC xP, oP xP xM xR xG xT u_z, oM xM xW, ar cI xW 512 u_M, oR xR xD xA u_r, ar cI xD 8 u_d, ar cI xA 8 u_a, oG xG xL xH xI, ar cI xL 6 u_lo, ar cI xH 6 u_hi, ar cI xI 6 u_ri, oT xT u_t, oX yX yM yD yA yO yL yH yI v_x, ar cI yM 512 u_M, ar cI yD 8 u_d, ar cI yA 8 u_a, ar cI yO 4 v_o, ar cI yL 6 u_lo, ar cI yH 6 u_hi, ar cI yI 6 u_ri, aj cJ xO g]) ⟨hx, hb, hml, hown, hts⟩ (k_C_word l D cI _ xC xP xM xW xR xD xA xG xL xH xI xT u_z u_M u_r u_d u_a u_lo u_hi u_ri u_t (xs (ix ((nI j) + (1 : Int32))))) g_law_C_word_95 nv_C_word ⟨⟨rfl, rfl⟩, Nat.le_of_ble_eq_true rfl, Nat.le_of_ble_eq_true rfl⟩ hK [0] rfl hP hD hS hA [0, 1, 2, 3, 4, 5, 6, 7, 8, 9, 10, 11] [12, 13, 14, 15, 16, 17, 18, 19, 20] [9, 10, 11, 12, 13, 14, 15, 16, 17, 18, 19, 20, 0, 1, 2, 3, 4, 5, 6, 7, 8] rfl rfl rfl rfl (by decide) rfl rfl 0 5 rfl rfl rfl rfl hl.1 (Nat.le_of_ble_eq_true rfl) d_law_648 hf0 (fun H locs hP hD hS => ?_)
  refine lv_aload_n hx hb d_law_651 rfl (lv_at hl 2 rfl) ?_
  refine lv_aload_n hx hb d_law_652 rfl (lv_at hl 0 rfl) ?_
  refine lv_iload hx hb d_law_653 (lv_at hl 4 rfl) ?_
  refine lv_iconst (v := (1 : Int32)) hx hb d_law_655 rfl ?_
  refine lv_iadd hx hb d_law_656 ?_
  refine va_sld hx hb hX hbl hbA hS (sc1 hj hL) d_law_657 ?_
  refine zz_cVi (rest := [.int ((s_C_word u_z u_M u_r u_d u_a u_lo u_hi u_ri u_t (xs (ix ((nI j) + (1 : Int32))))))]) (wr := [oC xC xP, oP xP xM xR xG xT u_z, oM xM xW, ar cI xW 512 u_M, oR xR xD xA u_r, ar cI xD 8 u_d, ar cI xA 8 u_a, oG xG xL xH xI, ar cI xL 6 u_lo, ar cI xH 6 u_hi, ar cI xI 6 u_ri, oT xT u_t, aj cJ xO g]) (w' := [oC xC xP, oP xP xM xR xG xT u_z, oM xM xW, ar cI xW 512 u_M, oR xR xD xA u_r, ar cI xD 8 u_d, ar cI xA 8 u_a, oG xG xL xH xI, ar cI xL 6 u_lo, ar cI xH 6 u_hi, ar cI xI 6 u_ri, oT xT u_t, oX yX yM yD yA yO yL yH yI ((s_X_word v_x u_M u_d u_a v_o u_lo u_hi u_ri (xs (ix ((nI j) + (1 : Int32))))).2), ar cI yM 512 u_M, ar cI yD 8 u_d, ar cI yA 8 u_a, ar cI yO 4 v_o, ar cI yL 6 u_lo, ar cI yH 6 u_hi, ar cI yI 6 u_ri, aj cJ xO g]) ⟨hx, hb, hml, hown, hts⟩ (k_X_word l D cI _ yX yM yD yA yO yL yH yI v_x u_M u_d u_a v_o u_lo u_hi u_ri (xs (ix ((nI j) + (1 : Int32))))) g_law_X_word_98 nv_X_word ⟨⟨rfl, rfl⟩, Nat.le_of_ble_eq_true rfl, Nat.le_of_ble_eq_true rfl⟩ hK [0] rfl hP hD hS hA [12, 13, 14, 15, 16, 17, 18, 19] [0, 1, 2, 3, 4, 5, 6, 7, 8, 9, 10, 11, 20] [0, 1, 2, 3, 4, 5, 6, 7, 8, 9, 10, 11, 13, 14, 15, 16, 17, 18, 19, 20, 12] rfl rfl rfl rfl (by decide) rfl rfl 12 6 rfl rfl rfl rfl hl.1 (Nat.le_of_ble_eq_true rfl) d_law_658 hf0 (fun H locs hP hD hS => ?_)
  have f := f_word (M := u_M) (d := u_d) (a := u_a) (lo := u_lo) (hi := u_hi) (ri := u_ri) (a1 := (xs (ix ((nI j) + (1 : Int32))))) hr
  refine lv_icmp_eq (tgt := 716) hx hb d_law_661 (by decide) (fun h661 => ?_) (fun h661 => ?_)
  ·
    exact W.widen (Nat.le_succ _) (Nat.le_add_right _ _) (hN _ _ _ _ _ _ _ _ _ _ _ _ _ _ _ (f.2) (lv_sub hl [0, 1, 2, 3, 4] rfl) hP hD hS)
  ·
    exact (h661 (f.1.symm)).elim
set_option maxHeartbeats 4000000 in
set_option maxRecDepth 100000 in
theorem lc_look {p : Program} {l : Launch} {e : Env} {s : State} {m : MethodId} {below : List Frame} {meth : Method} {c : Code} {H : Heap} {locs : List Loc} {cells slots b L j xO : Nat} {cI cJ : ClassId} {xs : Nat → Int32} {D : va_G} {xC xP xM xW xR xD xA xG xL xH xI xT yX yM yD yA yO yL yH yI : Nat} {u_z u_M u_r u_d u_a u_lo u_hi u_ri u_t v_x v_o : Nat → Int32} {g : Nat → Int64} {Q : State → Prop} {args : Array Value} {ls : Array Slot} (X : LX p l s m args c b L xs D cI cJ) (hj : j + 6 ≤ L) (hL : L ≤ 3072) (hr : rl u_z u_r u_t v_x v_o) (hl : lv_has ls 7 [(0, .ref b), (1, .ref xC), (2, .ref yX), (3, .ref xO), (4, .int (nI j))]) (hP : va_P D classes [oC xC xP, oP xP xM xR xG xT u_z, oM xM xW, ar cI xW 512 u_M, oR xR xD xA u_r, ar cI xD 8 u_d, ar cI xA 8 u_a, oG xG xL xH xI, ar cI xL 6 u_lo, ar cI xH 6 u_hi, ar cI xI 6 u_ri, oT xT u_t, oX yX yM yD yA yO yL yH yI v_x, ar cI yM 512 u_M, ar cI yD 8 u_d, ar cI yA 8 u_a, ar cI yO 4 v_o, ar cI yL 6 u_lo, ar cI yH 6 u_hi, ar cI yI 6 u_ri, aj cJ xO g] H) (hD : va_D (fun q => s.heap.size ≤ q) [oC xC xP, oP xP xM xR xG xT u_z, oM xM xW, ar cI xW 512 u_M, oR xR xD xA u_r, ar cI xD 8 u_d, ar cI xA 8 u_a, oG xG xL xH xI, ar cI xL 6 u_lo, ar cI xH 6 u_hi, ar cI xI 6 u_ri, oT xT u_t, oX yX yM yD yA yO yL yH yI v_x, ar cI yM 512 u_M, ar cI yD 8 u_d, ar cI yA 8 u_a, ar cI yO 4 v_o, ar cI yL 6 u_lo, ar cI yH 6 u_hi, ar cI yI 6 u_ri, aj cJ xO g]) (hS : va_S (fun q => s.heap.size ≤ q) s.heap H locs) (hc : cells + 1 ≤ room_1.cells ∧ slots + 6 ≤ room_1.slots)
    (hN : ∀ (u_z u_M u_r u_d u_a u_lo u_hi u_ri u_t v_x v_o : Nat → Int32) (g : Nat → Int64) (H : Heap) (locs : List Loc) (ls : Array Slot), rl u_z u_r u_t v_x v_o → lv_has ls 7 [(0, .ref b), (1, .ref xC), (2, .ref yX), (3, .ref xO), (4, .int (nI j))] → va_P D classes [oC xC xP, oP xP xM xR xG xT u_z, oM xM xW, ar cI xW 512 u_M, oR xR xD xA u_r, ar cI xD 8 u_d, ar cI xA 8 u_a, oG xG xL xH xI, ar cI xL 6 u_lo, ar cI xH 6 u_hi, ar cI xI 6 u_ri, oT xT u_t, oX yX yM yD yA yO yL yH yI v_x, ar cI yM 512 u_M, ar cI yD 8 u_d, ar cI yA 8 u_a, ar cI yO 4 v_o, ar cI yL 6 u_lo, ar cI yH 6 u_hi, ar cI yI 6 u_ri, aj cJ xO g] H → va_D (fun q => s.heap.size ≤ q) [oC xC xP, oP xP xM xR xG xT u_z, oM xM xW, ar cI xW 512 u_M, oR xR xD xA u_r, ar cI xD 8 u_d, ar cI xA 8 u_a, oG xG xL xH xI, ar cI xL 6 u_lo, ar cI xH 6 u_hi, ar cI xI 6 u_ri, oT xT u_t, oX yX yM yD yA yO yL yH yI v_x, ar cI yM 512 u_M, ar cI yD 8 u_d, ar cI yA 8 u_a, ar cI yO 4 v_o, ar cI yL 6 u_lo, ar cI yH 6 u_hi, ar cI yI 6 u_ri, aj cJ xO g] → va_S (fun q => s.heap.size ≤ q) s.heap H locs → W p l e room_1 s m args below meth c H locs (cells + 1) (slots + 6) Q (F0 m 716 ls [])) : W p l e room_1 s m args below meth c H locs cells slots Q (F0 m 666 ls []) := by
  obtain ⟨hx, hb, hml, hown, hts, hX, hbl, hK, hz, htr⟩ := X
  have hf0 : cells ≤ room_1.cells ∧ slots ≤ room_1.slots := ⟨Nat.le_of_succ_le hc.1, Nat.le_trans (Nat.le_add_right _ _) hc.2⟩
  have hbA : ¬ s.heap.size ≤ b := Nat.not_le.mpr hbl
  have hA : ∀ q : Nat, s.heap.size ≤ q → s.heap.size ≤ q := fun q h => h
  refine lv_aload_n hx hb d_law_666 rfl (lv_at hl 1 rfl) ?_
  refine lv_aload_n hx hb d_law_667 rfl (lv_at hl 0 rfl) ?_
  refine lv_iload hx hb d_law_668 (lv_at hl 4 rfl) ?_
  refine lv_iconst (v := (1 : Int32)) hx hb d_law_670 rfl ?_
  refine lv_iadd hx hb d_law_671 ?_
  refine va_sld hx hb hX hbl hbA hS (sc1 hj hL) d_law_672 ?_
  refine zz_cVi (rest := []) (wr := [oX yX yM yD yA yO yL yH yI v_x, ar cI yM 512 u_M, ar cI yD 8 u_d, ar cI yA 8 u_a, ar cI yO 4 v_o, ar cI yL 6 u_lo, ar cI yH 6 u_hi, ar cI yI 6 u_ri, aj cJ xO g]) (w' := [oC xC xP, oP xP xM xR xG xT u_z, oM xM xW, ar cI xW 512 u_M, oR xR xD xA u_r, ar cI xD 8 u_d, ar cI xA 8 u_a, oG xG xL xH xI, ar cI xL 6 u_lo, ar cI xH 6 u_hi, ar cI xI 6 u_ri, oT xT u_t, oX yX yM yD yA yO yL yH yI v_x, ar cI yM 512 u_M, ar cI yD 8 u_d, ar cI yA 8 u_a, ar cI yO 4 v_o, ar cI yL 6 u_lo, ar cI yH 6 u_hi, ar cI yI 6 u_ri, aj cJ xO g]) ⟨hx, hb, hml, hown, hts⟩ (k_C_look l D cI _ xC xP xM xW xR xD xA xG xL xH xI xT u_z u_M u_r u_d u_a u_lo u_hi u_ri u_t (xs (ix ((nI j) + (1 : Int32))))) g_law_C_look_99 nv_C_look ⟨⟨rfl, rfl⟩, Nat.le_of_ble_eq_true rfl, Nat.le_of_ble_eq_true rfl⟩ hK [0] rfl hP hD hS hA [0, 1, 2, 3, 4, 5, 6, 7, 8, 9, 10, 11] [12, 13, 14, 15, 16, 17, 18, 19, 20] [9, 10, 11, 12, 13, 14, 15, 16, 17, 18, 19, 20, 0, 1, 2, 3, 4, 5, 6, 7, 8] rfl rfl rfl rfl (by decide) rfl rfl 0 5 rfl rfl rfl rfl hl.1 (Nat.le_of_ble_eq_true rfl) d_law_673 hf0 (fun H locs hP hD hS => ?_)
  refine lv_aload_n hx hb d_law_676 rfl (lv_at hl 2 rfl) ?_
  refine lv_aload_n hx hb d_law_677 rfl (lv_at hl 0 rfl) ?_
  refine lv_iload hx hb d_law_678 (lv_at hl 4 rfl) ?_
  refine lv_iconst (v := (1 : Int32)) hx hb d_law_680 rfl ?_
  refine lv_iadd hx hb d_law_681 ?_
  refine va_sld hx hb hX hbl hbA hS (sc1 hj hL) d_law_682 ?_
  refine zz_cVi (rest := [.int ((s_C_look u_z u_M u_r u_d u_a u_lo u_hi u_ri u_t (xs (ix ((nI j) + (1 : Int32))))))]) (wr := [oC xC xP, oP xP xM xR xG xT u_z, oM xM xW, ar cI xW 512 u_M, oR xR xD xA u_r, ar cI xD 8 u_d, ar cI xA 8 u_a, oG xG xL xH xI, ar cI xL 6 u_lo, ar cI xH 6 u_hi, ar cI xI 6 u_ri, oT xT u_t, aj cJ xO g]) (w' := [oC xC xP, oP xP xM xR xG xT u_z, oM xM xW, ar cI xW 512 u_M, oR xR xD xA u_r, ar cI xD 8 u_d, ar cI xA 8 u_a, oG xG xL xH xI, ar cI xL 6 u_lo, ar cI xH 6 u_hi, ar cI xI 6 u_ri, oT xT u_t, oX yX yM yD yA yO yL yH yI ((s_X_look v_x u_M u_d u_a v_o u_lo u_hi u_ri (xs (ix ((nI j) + (1 : Int32))))).2), ar cI yM 512 u_M, ar cI yD 8 u_d, ar cI yA 8 u_a, ar cI yO 4 v_o, ar cI yL 6 u_lo, ar cI yH 6 u_hi, ar cI yI 6 u_ri, aj cJ xO g]) ⟨hx, hb, hml, hown, hts⟩ (k_X_look l D cI _ yX yM yD yA yO yL yH yI v_x u_M u_d u_a v_o u_lo u_hi u_ri (xs (ix ((nI j) + (1 : Int32))))) g_law_X_look_102 nv_X_look ⟨⟨rfl, rfl⟩, Nat.le_of_ble_eq_true rfl, Nat.le_of_ble_eq_true rfl⟩ hK [0] rfl hP hD hS hA [12, 13, 14, 15, 16, 17, 18, 19] [0, 1, 2, 3, 4, 5, 6, 7, 8, 9, 10, 11, 20] [0, 1, 2, 3, 4, 5, 6, 7, 8, 9, 10, 11, 13, 14, 15, 16, 17, 18, 19, 20, 12] rfl rfl rfl rfl (by decide) rfl rfl 12 6 rfl rfl rfl rfl hl.1 (Nat.le_of_ble_eq_true rfl) d_law_683 hf0 (fun H locs hP hD hS => ?_)
  have f := f_look (M := u_M) (d := u_d) (a := u_a) (lo := u_lo) (hi := u_hi) (ri := u_ri) (a1 := (xs (ix ((nI j) + (1 : Int32))))) hr
  refine lv_icmp_eq (tgt := 716) hx hb d_law_686 (by decide) (fun h686 => ?_) (fun h686 => ?_)
  ·
    exact W.widen (Nat.le_succ _) (Nat.le_add_right _ _) (hN _ _ _ _ _ _ _ _ _ _ _ _ _ _ _ (f.2) (lv_sub hl [0, 1, 2, 3, 4] rfl) hP hD hS)
  ·
    exact (h686 (f.1.symm)).elim
set_option maxHeartbeats 4000000 in
set_option maxRecDepth 100000 in
theorem lc_list {p : Program} {l : Launch} {e : Env} {s : State} {m : MethodId} {below : List Frame} {meth : Method} {c : Code} {H : Heap} {locs : List Loc} {cells slots b L j xO : Nat} {cI cJ : ClassId} {xs : Nat → Int32} {D : va_G} {xC xP xM xW xR xD xA xG xL xH xI xT yX yM yD yA yO yL yH yI : Nat} {u_z u_M u_r u_d u_a u_lo u_hi u_ri u_t v_x v_o : Nat → Int32} {g : Nat → Int64} {Q : State → Prop} {args : Array Value} {ls : Array Slot} (X : LX p l s m args c b L xs D cI cJ) (hj : j + 6 ≤ L) (hL : L ≤ 3072) (hr : rl u_z u_r u_t v_x v_o) (hl : lv_has ls 7 [(0, .ref b), (1, .ref xC), (2, .ref yX), (3, .ref xO), (4, .int (nI j))]) (hP : va_P D classes [oC xC xP, oP xP xM xR xG xT u_z, oM xM xW, ar cI xW 512 u_M, oR xR xD xA u_r, ar cI xD 8 u_d, ar cI xA 8 u_a, oG xG xL xH xI, ar cI xL 6 u_lo, ar cI xH 6 u_hi, ar cI xI 6 u_ri, oT xT u_t, oX yX yM yD yA yO yL yH yI v_x, ar cI yM 512 u_M, ar cI yD 8 u_d, ar cI yA 8 u_a, ar cI yO 4 v_o, ar cI yL 6 u_lo, ar cI yH 6 u_hi, ar cI yI 6 u_ri, aj cJ xO g] H) (hD : va_D (fun q => s.heap.size ≤ q) [oC xC xP, oP xP xM xR xG xT u_z, oM xM xW, ar cI xW 512 u_M, oR xR xD xA u_r, ar cI xD 8 u_d, ar cI xA 8 u_a, oG xG xL xH xI, ar cI xL 6 u_lo, ar cI xH 6 u_hi, ar cI xI 6 u_ri, oT xT u_t, oX yX yM yD yA yO yL yH yI v_x, ar cI yM 512 u_M, ar cI yD 8 u_d, ar cI yA 8 u_a, ar cI yO 4 v_o, ar cI yL 6 u_lo, ar cI yH 6 u_hi, ar cI yI 6 u_ri, aj cJ xO g]) (hS : va_S (fun q => s.heap.size ≤ q) s.heap H locs) (hc : cells + 1 ≤ room_1.cells ∧ slots + 6 ≤ room_1.slots)
    (hN : ∀ (u_z u_M u_r u_d u_a u_lo u_hi u_ri u_t v_x v_o : Nat → Int32) (g : Nat → Int64) (H : Heap) (locs : List Loc) (ls : Array Slot), rl u_z u_r u_t v_x v_o → lv_has ls 7 [(0, .ref b), (1, .ref xC), (2, .ref yX), (3, .ref xO), (4, .int (nI j))] → va_P D classes [oC xC xP, oP xP xM xR xG xT u_z, oM xM xW, ar cI xW 512 u_M, oR xR xD xA u_r, ar cI xD 8 u_d, ar cI xA 8 u_a, oG xG xL xH xI, ar cI xL 6 u_lo, ar cI xH 6 u_hi, ar cI xI 6 u_ri, oT xT u_t, oX yX yM yD yA yO yL yH yI v_x, ar cI yM 512 u_M, ar cI yD 8 u_d, ar cI yA 8 u_a, ar cI yO 4 v_o, ar cI yL 6 u_lo, ar cI yH 6 u_hi, ar cI yI 6 u_ri, aj cJ xO g] H → va_D (fun q => s.heap.size ≤ q) [oC xC xP, oP xP xM xR xG xT u_z, oM xM xW, ar cI xW 512 u_M, oR xR xD xA u_r, ar cI xD 8 u_d, ar cI xA 8 u_a, oG xG xL xH xI, ar cI xL 6 u_lo, ar cI xH 6 u_hi, ar cI xI 6 u_ri, oT xT u_t, oX yX yM yD yA yO yL yH yI v_x, ar cI yM 512 u_M, ar cI yD 8 u_d, ar cI yA 8 u_a, ar cI yO 4 v_o, ar cI yL 6 u_lo, ar cI yH 6 u_hi, ar cI yI 6 u_ri, aj cJ xO g] → va_S (fun q => s.heap.size ≤ q) s.heap H locs → W p l e room_1 s m args below meth c H locs (cells + 1) (slots + 6) Q (F0 m 716 ls [])) : W p l e room_1 s m args below meth c H locs cells slots Q (F0 m 691 ls []) := by
  obtain ⟨hx, hb, hml, hown, hts, hX, hbl, hK, hz, htr⟩ := X
  have hf0 : cells ≤ room_1.cells ∧ slots ≤ room_1.slots := ⟨Nat.le_of_succ_le hc.1, Nat.le_trans (Nat.le_add_right _ _) hc.2⟩
  have hbA : ¬ s.heap.size ≤ b := Nat.not_le.mpr hbl
  have hA : ∀ q : Nat, s.heap.size ≤ q → s.heap.size ≤ q := fun q h => h
  refine lv_aload_n hx hb d_law_691 rfl (lv_at hl 1 rfl) ?_
  refine lv_aload_n hx hb d_law_692 rfl (lv_at hl 0 rfl) ?_
  refine lv_iload hx hb d_law_693 (lv_at hl 4 rfl) ?_
  refine lv_iconst (v := (1 : Int32)) hx hb d_law_695 rfl ?_
  refine lv_iadd hx hb d_law_696 ?_
  refine va_sld hx hb hX hbl hbA hS (sc1 hj hL) d_law_697 ?_
  refine zz_cVi (rest := []) (wr := [oX yX yM yD yA yO yL yH yI v_x, ar cI yM 512 u_M, ar cI yD 8 u_d, ar cI yA 8 u_a, ar cI yO 4 v_o, ar cI yL 6 u_lo, ar cI yH 6 u_hi, ar cI yI 6 u_ri, aj cJ xO g]) (w' := [oC xC xP, oP xP xM xR xG xT u_z, oM xM xW, ar cI xW 512 u_M, oR xR xD xA u_r, ar cI xD 8 u_d, ar cI xA 8 u_a, oG xG xL xH xI, ar cI xL 6 u_lo, ar cI xH 6 u_hi, ar cI xI 6 u_ri, oT xT u_t, oX yX yM yD yA yO yL yH yI v_x, ar cI yM 512 u_M, ar cI yD 8 u_d, ar cI yA 8 u_a, ar cI yO 4 v_o, ar cI yL 6 u_lo, ar cI yH 6 u_hi, ar cI yI 6 u_ri, aj cJ xO g]) ⟨hx, hb, hml, hown, hts⟩ (k_C_list l D cI _ xC xP xM xW xR xD xA xG xL xH xI xT u_z u_M u_r u_d u_a u_lo u_hi u_ri u_t (xs (ix ((nI j) + (1 : Int32))))) g_law_C_list_103 nv_C_list ⟨⟨rfl, rfl⟩, Nat.le_of_ble_eq_true rfl, Nat.le_of_ble_eq_true rfl⟩ hK [0] rfl hP hD hS hA [0, 1, 2, 3, 4, 5, 6, 7, 8, 9, 10, 11] [12, 13, 14, 15, 16, 17, 18, 19, 20] [9, 10, 11, 12, 13, 14, 15, 16, 17, 18, 19, 20, 0, 1, 2, 3, 4, 5, 6, 7, 8] rfl rfl rfl rfl (by decide) rfl rfl 0 5 rfl rfl rfl rfl hl.1 (Nat.le_of_ble_eq_true rfl) d_law_698 hf0 (fun H locs hP hD hS => ?_)
  refine lv_aload_n hx hb d_law_701 rfl (lv_at hl 2 rfl) ?_
  refine lv_aload_n hx hb d_law_702 rfl (lv_at hl 0 rfl) ?_
  refine lv_iload hx hb d_law_703 (lv_at hl 4 rfl) ?_
  refine lv_iconst (v := (1 : Int32)) hx hb d_law_705 rfl ?_
  refine lv_iadd hx hb d_law_706 ?_
  refine va_sld hx hb hX hbl hbA hS (sc1 hj hL) d_law_707 ?_
  refine zz_cVi (rest := [.int ((s_C_list u_z u_M u_r u_d u_a u_lo u_hi u_ri u_t (xs (ix ((nI j) + (1 : Int32))))))]) (wr := [oC xC xP, oP xP xM xR xG xT u_z, oM xM xW, ar cI xW 512 u_M, oR xR xD xA u_r, ar cI xD 8 u_d, ar cI xA 8 u_a, oG xG xL xH xI, ar cI xL 6 u_lo, ar cI xH 6 u_hi, ar cI xI 6 u_ri, oT xT u_t, aj cJ xO g]) (w' := [oC xC xP, oP xP xM xR xG xT u_z, oM xM xW, ar cI xW 512 u_M, oR xR xD xA u_r, ar cI xD 8 u_d, ar cI xA 8 u_a, oG xG xL xH xI, ar cI xL 6 u_lo, ar cI xH 6 u_hi, ar cI xI 6 u_ri, oT xT u_t, oX yX yM yD yA yO yL yH yI ((s_X_list v_x u_M u_d u_a v_o u_lo u_hi u_ri (xs (ix ((nI j) + (1 : Int32))))).2), ar cI yM 512 u_M, ar cI yD 8 u_d, ar cI yA 8 u_a, ar cI yO 4 v_o, ar cI yL 6 u_lo, ar cI yH 6 u_hi, ar cI yI 6 u_ri, aj cJ xO g]) ⟨hx, hb, hml, hown, hts⟩ (k_X_list l D cI _ yX yM yD yA yO yL yH yI v_x u_M u_d u_a v_o u_lo u_hi u_ri (xs (ix ((nI j) + (1 : Int32))))) g_law_X_list_106 nv_X_list ⟨⟨rfl, rfl⟩, Nat.le_of_ble_eq_true rfl, Nat.le_of_ble_eq_true rfl⟩ hK [0] rfl hP hD hS hA [12, 13, 14, 15, 16, 17, 18, 19] [0, 1, 2, 3, 4, 5, 6, 7, 8, 9, 10, 11, 20] [0, 1, 2, 3, 4, 5, 6, 7, 8, 9, 10, 11, 13, 14, 15, 16, 17, 18, 19, 20, 12] rfl rfl rfl rfl (by decide) rfl rfl 12 6 rfl rfl rfl rfl hl.1 (Nat.le_of_ble_eq_true rfl) d_law_708 hf0 (fun H locs hP hD hS => ?_)
  have f := f_list (M := u_M) (d := u_d) (a := u_a) (lo := u_lo) (hi := u_hi) (ri := u_ri) (a1 := (xs (ix ((nI j) + (1 : Int32))))) hr
  refine lv_icmp_eq (tgt := 716) hx hb d_law_711 (by decide) (fun h711 => ?_) (fun h711 => ?_)
  ·
    exact W.widen (Nat.le_succ _) (Nat.le_add_right _ _) (hN _ _ _ _ _ _ _ _ _ _ _ _ _ _ _ (f.2) (lv_sub hl [0, 1, 2, 3, 4] rfl) hP hD hS)
  ·
    exact (h711 (f.1.symm)).elim
