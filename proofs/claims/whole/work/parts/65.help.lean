abbrev b_L_pool : ByteArray := method_3_code
def y_L_pool : MethodName := ⟨R_L, "pool", "(LAreaCore;II)I"⟩
def hs_pool : List (Nat × Nat × Nat × Nat) := [(0, 6, 9, 13), (0, 6, 12, 15)]
theorem nd_L_pool : y_L_pool.cls ≠ "java/lang/invoke/MethodHandle" ∧ y_L_pool.cls ≠ "java/lang/invoke/VarHandle" ∧ (parseMethodDescriptor y_L_pool.desc).map (fun d => d.parameters.length) = some 3 := by decide +kernel
abbrev b_L_range : ByteArray := method_4_code
def y_L_range : MethodName := ⟨R_L, "range", "(LAreaCore;IIIII)I"⟩
def hs_range : List (Nat × Nat × Nat × Nat) := [(0, 11, 14, 13)]
theorem nd_L_range : y_L_range.cls ≠ "java/lang/invoke/MethodHandle" ∧ y_L_range.cls ≠ "java/lang/invoke/VarHandle" ∧ (parseMethodDescriptor y_L_range.desc).map (fun d => d.parameters.length) = some 6 := by decide +kernel
abbrev b_L_timer : ByteArray := method_5_code
def y_L_timer : MethodName := ⟨R_L, "timer", "(LAreaCore;II)I"⟩
def hs_timer : List (Nat × Nat × Nat × Nat) := [(0, 6, 9, 13)]
theorem nd_L_timer : y_L_timer.cls ≠ "java/lang/invoke/MethodHandle" ∧ y_L_timer.cls ≠ "java/lang/invoke/VarHandle" ∧ (parseMethodDescriptor y_L_timer.desc).map (fun d => d.parameters.length) = some 3 := by decide +kernel
abbrev b_L_start : ByteArray := method_6_code
def y_L_start : MethodName := ⟨R_L, "start", "(LAreaCore;IIZ)I"⟩
def hs_start : List (Nat × Nat × Nat × Nat) := [(0, 7, 10, 13), (0, 7, 14, 15)]
theorem nd_L_start : y_L_start.cls ≠ "java/lang/invoke/MethodHandle" ∧ y_L_start.cls ≠ "java/lang/invoke/VarHandle" ∧ (parseMethodDescriptor y_L_start.desc).map (fun d => d.parameters.length) = some 4 := by decide +kernel
abbrev b_L_run : ByteArray := method_7_code
def y_L_run : MethodName := ⟨R_L, "run", "(LAreaCore;I[J)I"⟩
def hs_run : List (Nat × Nat × Nat × Nat) := [(0, 9, 12, 13)]
theorem nd_L_run : y_L_run.cls ≠ "java/lang/invoke/MethodHandle" ∧ y_L_run.cls ≠ "java/lang/invoke/VarHandle" ∧ (parseMethodDescriptor y_L_run.desc).map (fun d => d.parameters.length) = some 3 := by decide +kernel
abbrev b_L_register : ByteArray := method_8_code
def y_L_register : MethodName := ⟨R_L, "register", "(LAreaCore;II[J)I"⟩
def hs_register : List (Nat × Nat × Nat × Nat) := [(0, 10, 13, 36)]
theorem nd_L_register : y_L_register.cls ≠ "java/lang/invoke/MethodHandle" ∧ y_L_register.cls ≠ "java/lang/invoke/VarHandle" ∧ (parseMethodDescriptor y_L_register.desc).map (fun d => d.parameters.length) = some 4 := by decide +kernel
theorem ca_IAE : Cond.castable nIAE nIAE ∈ lw_tbl := by decide +kernel
theorem ca_ISE : Cond.castable nISE nISE ∈ lw_tbl := by decide +kernel
theorem ca_IOB : Cond.castable nIOB nIOB ∈ lw_tbl := by decide +kernel
theorem ln_IAE : Cond.classLink R_L 13 nIAE ∈ wd := by decide +kernel
theorem ln_ISE : Cond.classLink R_L 15 nISE ∈ wd := by decide +kernel
theorem ln_IOB : Cond.classLink R_L 36 nIOB ∈ wd := by decide +kernel
theorem in01 : vp_in (0 : Int32) 1 := by unfold vp_in; decide
def aj (cJ : ClassId) (x : Nat) (g : Nat → Int64) : Nat × va_E := (x, .inl (cJ, 1, .inr (.inl g)))
theorem mw_404 : (Cond.methodLink R_L 7 y_C_pool) ∈ wd := mt_2 (List.mem_of_getElem? (i := 24) (by decide +kernel)) (by decide +kernel)
theorem mw_405 : (Cond.code y_C_pool b_C_pool 3 (none)) ∈ wd := mt_2 (List.mem_of_getElem? (i := 27) (by decide +kernel)) (by decide +kernel)
theorem mw_406 : (Cond.instanceMethod y_C_pool) ∈ wd := mt_2 (List.mem_of_getElem? (i := 25) (by decide +kernel)) (by decide +kernel)
theorem mw_407 : (Cond.selects R_C y_C_pool y_C_pool) ∈ wd := mt_2 (List.mem_of_getElem? (i := 26) (by decide +kernel)) (by decide +kernel)
theorem mw_408 : (Cond.initialized R_C) ∈ wd := mt_1 (List.mem_of_getElem? (i := 1) (by decide +kernel)) (by decide +kernel)
theorem mw_409 : (Cond.methodLink R_L 17 y_C_range) ∈ wd := mt_2 (List.mem_of_getElem? (i := 120) (by decide +kernel)) (by decide +kernel)
theorem mw_410 : (Cond.code y_C_range b_C_range 6 (none)) ∈ wd := mt_2 (List.mem_of_getElem? (i := 123) (by decide +kernel)) (by decide +kernel)
theorem mw_411 : (Cond.instanceMethod y_C_range) ∈ wd := mt_2 (List.mem_of_getElem? (i := 121) (by decide +kernel)) (by decide +kernel)
theorem mw_412 : (Cond.selects R_C y_C_range y_C_range) ∈ wd := mt_2 (List.mem_of_getElem? (i := 122) (by decide +kernel)) (by decide +kernel)
theorem mw_413 : (Cond.methodLink R_L 21 y_C_timer) ∈ wd := mt_2 (List.mem_of_getElem? (i := 133) (by decide +kernel)) (by decide +kernel)
theorem mw_414 : (Cond.code y_C_timer b_C_timer 3 (none)) ∈ wd := mt_2 (List.mem_of_getElem? (i := 136) (by decide +kernel)) (by decide +kernel)
theorem mw_415 : (Cond.instanceMethod y_C_timer) ∈ wd := mt_2 (List.mem_of_getElem? (i := 134) (by decide +kernel)) (by decide +kernel)
theorem mw_416 : (Cond.selects R_C y_C_timer y_C_timer) ∈ wd := mt_2 (List.mem_of_getElem? (i := 135) (by decide +kernel)) (by decide +kernel)
theorem mw_417 : (Cond.methodLink R_L 24 y_C_start) ∈ wd := mt_2 (List.mem_of_getElem? (i := 141) (by decide +kernel)) (by decide +kernel)
theorem mw_418 : (Cond.code y_C_start b_C_start 4 (none)) ∈ wd := mt_2 (List.mem_of_getElem? (i := 144) (by decide +kernel)) (by decide +kernel)
theorem mw_419 : (Cond.instanceMethod y_C_start) ∈ wd := mt_2 (List.mem_of_getElem? (i := 142) (by decide +kernel)) (by decide +kernel)
theorem mw_420 : (Cond.selects R_C y_C_start y_C_start) ∈ wd := mt_2 (List.mem_of_getElem? (i := 143) (by decide +kernel)) (by decide +kernel)
theorem mw_421 : (Cond.methodLink R_L 28 y_C_run) ∈ wd := mt_2 (List.mem_of_getElem? (i := 153) (by decide +kernel)) (by decide +kernel)
theorem mw_422 : (Cond.code y_C_run b_C_run 3 (some .int)) ∈ wd := mt_2 (List.mem_of_getElem? (i := 156) (by decide +kernel)) (by decide +kernel)
theorem mw_423 : (Cond.instanceMethod y_C_run) ∈ wd := mt_2 (List.mem_of_getElem? (i := 154) (by decide +kernel)) (by decide +kernel)
theorem mw_424 : (Cond.selects R_C y_C_run y_C_run) ∈ wd := mt_2 (List.mem_of_getElem? (i := 155) (by decide +kernel)) (by decide +kernel)
theorem mw_425 : (Cond.methodLink R_L 32 y_C_register) ∈ wd := mt_3 (List.mem_of_getElem? (i := 68) (by decide +kernel)) (by decide +kernel)
theorem mw_426 : (Cond.code y_C_register b_C_register 3 (some .int)) ∈ wd := mt_3 (List.mem_of_getElem? (i := 71) (by decide +kernel)) (by decide +kernel)
theorem mw_427 : (Cond.instanceMethod y_C_register) ∈ wd := mt_3 (List.mem_of_getElem? (i := 69) (by decide +kernel)) (by decide +kernel)
theorem mw_428 : (Cond.selects R_C y_C_register y_C_register) ∈ wd := mt_3 (List.mem_of_getElem? (i := 70) (by decide +kernel)) (by decide +kernel)
theorem g_L_pool : GoodIn wd (wsV R_L 7 R_C y_C_pool (.code y_C_pool b_C_pool 3 (none) :: wd)) := zz_goodV wd_good mw_404 mw_406 mw_407 mw_408 mw_405
theorem g_L_range : GoodIn wd (wsV R_L 17 R_C y_C_range (.code y_C_range b_C_range 6 (none) :: wd)) := zz_goodV wd_good mw_409 mw_411 mw_412 mw_408 mw_410
theorem g_L_timer : GoodIn wd (wsV R_L 21 R_C y_C_timer (.code y_C_timer b_C_timer 3 (none) :: wd)) := zz_goodV wd_good mw_413 mw_415 mw_416 mw_408 mw_414
theorem g_L_start : GoodIn wd (wsV R_L 24 R_C y_C_start (.code y_C_start b_C_start 4 (none) :: wd)) := zz_goodV wd_good mw_417 mw_419 mw_420 mw_408 mw_418
theorem g_L_run : GoodIn wd (wsV R_L 28 R_C y_C_run (.code y_C_run b_C_run 3 (some .int) :: wd)) := zz_goodV wd_good mw_421 mw_423 mw_424 mw_408 mw_422
theorem g_L_register : GoodIn wd (wsV R_L 32 R_C y_C_register (.code y_C_register b_C_register 3 (some .int) :: wd)) := zz_goodV wd_good mw_425 mw_427 mw_428 mw_408 mw_426
theorem d_L_pool_0 : decode b_L_pool 0 = .ok (.aload_n 0, 1) := by decide +kernel
theorem d_L_pool_1 : decode b_L_pool 1 = .ok (.iload_n 1, 1) := by decide +kernel
theorem d_L_pool_2 : decode b_L_pool 2 = .ok (.iload_n 2, 1) := by decide +kernel
theorem d_L_pool_3 : decode b_L_pool 3 = .ok (.invokevirtual 7, 3) := by decide +kernel
theorem d_L_pool_6 : decode b_L_pool 6 = .ok (.goto 9, 3) := by decide +kernel
theorem d_L_pool_15 : decode b_L_pool 15 = .ok (.iconst 0, 1) := by decide +kernel
theorem d_L_pool_16 : decode b_L_pool 16 = .ok (.ireturn, 1) := by decide +kernel
theorem d_L_pool_9 : decode b_L_pool 9 = .ok (.astore_n 3, 1) := by decide +kernel
theorem d_L_pool_10 : decode b_L_pool 10 = .ok (.iconst 1, 1) := by decide +kernel
theorem d_L_pool_11 : decode b_L_pool 11 = .ok (.ireturn, 1) := by decide +kernel
theorem d_L_pool_12 : decode b_L_pool 12 = .ok (.astore_n 3, 1) := by decide +kernel
theorem d_L_pool_13 : decode b_L_pool 13 = .ok (.iconst 2, 1) := by decide +kernel
theorem d_L_pool_14 : decode b_L_pool 14 = .ok (.ireturn, 1) := by decide +kernel
theorem d_L_range_0 : decode b_L_range 0 = .ok (.aload_n 0, 1) := by decide +kernel
theorem d_L_range_1 : decode b_L_range 1 = .ok (.iload_n 1, 1) := by decide +kernel
theorem d_L_range_2 : decode b_L_range 2 = .ok (.iload_n 2, 1) := by decide +kernel
theorem d_L_range_3 : decode b_L_range 3 = .ok (.iload_n 3, 1) := by decide +kernel
theorem d_L_range_4 : decode b_L_range 4 = .ok (.iload 4, 2) := by decide +kernel
theorem d_L_range_6 : decode b_L_range 6 = .ok (.iload 5, 2) := by decide +kernel
theorem d_L_range_8 : decode b_L_range 8 = .ok (.invokevirtual 17, 3) := by decide +kernel
theorem d_L_range_11 : decode b_L_range 11 = .ok (.goto 7, 3) := by decide +kernel
theorem d_L_range_18 : decode b_L_range 18 = .ok (.iconst 0, 1) := by decide +kernel
theorem d_L_range_19 : decode b_L_range 19 = .ok (.ireturn, 1) := by decide +kernel
theorem d_L_range_14 : decode b_L_range 14 = .ok (.astore 6, 2) := by decide +kernel
theorem d_L_range_16 : decode b_L_range 16 = .ok (.iconst 1, 1) := by decide +kernel
theorem d_L_range_17 : decode b_L_range 17 = .ok (.ireturn, 1) := by decide +kernel
theorem d_L_timer_0 : decode b_L_timer 0 = .ok (.aload_n 0, 1) := by decide +kernel
theorem d_L_timer_1 : decode b_L_timer 1 = .ok (.iload_n 1, 1) := by decide +kernel
theorem d_L_timer_2 : decode b_L_timer 2 = .ok (.iload_n 2, 1) := by decide +kernel
theorem d_L_timer_3 : decode b_L_timer 3 = .ok (.invokevirtual 21, 3) := by decide +kernel
theorem d_L_timer_6 : decode b_L_timer 6 = .ok (.goto 6, 3) := by decide +kernel
theorem d_L_timer_12 : decode b_L_timer 12 = .ok (.iconst 0, 1) := by decide +kernel
theorem d_L_timer_13 : decode b_L_timer 13 = .ok (.ireturn, 1) := by decide +kernel
theorem d_L_timer_9 : decode b_L_timer 9 = .ok (.astore_n 3, 1) := by decide +kernel
theorem d_L_timer_10 : decode b_L_timer 10 = .ok (.iconst 1, 1) := by decide +kernel
theorem d_L_timer_11 : decode b_L_timer 11 = .ok (.ireturn, 1) := by decide +kernel
theorem d_L_start_0 : decode b_L_start 0 = .ok (.aload_n 0, 1) := by decide +kernel
theorem d_L_start_1 : decode b_L_start 1 = .ok (.iload_n 1, 1) := by decide +kernel
theorem d_L_start_2 : decode b_L_start 2 = .ok (.iload_n 2, 1) := by decide +kernel
theorem d_L_start_3 : decode b_L_start 3 = .ok (.iload_n 3, 1) := by decide +kernel
theorem d_L_start_4 : decode b_L_start 4 = .ok (.invokevirtual 24, 3) := by decide +kernel
theorem d_L_start_7 : decode b_L_start 7 = .ok (.goto 11, 3) := by decide +kernel
theorem d_L_start_18 : decode b_L_start 18 = .ok (.iconst 0, 1) := by decide +kernel
theorem d_L_start_19 : decode b_L_start 19 = .ok (.ireturn, 1) := by decide +kernel
theorem d_L_start_10 : decode b_L_start 10 = .ok (.astore 4, 2) := by decide +kernel
theorem d_L_start_12 : decode b_L_start 12 = .ok (.iconst 1, 1) := by decide +kernel
theorem d_L_start_13 : decode b_L_start 13 = .ok (.ireturn, 1) := by decide +kernel
theorem d_L_start_14 : decode b_L_start 14 = .ok (.astore 4, 2) := by decide +kernel
theorem d_L_start_16 : decode b_L_start 16 = .ok (.iconst 2, 1) := by decide +kernel
theorem d_L_start_17 : decode b_L_start 17 = .ok (.ireturn, 1) := by decide +kernel
theorem d_L_run_0 : decode b_L_run 0 = .ok (.aload_n 2, 1) := by decide +kernel
theorem d_L_run_1 : decode b_L_run 1 = .ok (.iconst 0, 1) := by decide +kernel
theorem d_L_run_2 : decode b_L_run 2 = .ok (.aload_n 0, 1) := by decide +kernel
theorem d_L_run_3 : decode b_L_run 3 = .ok (.iload_n 1, 1) := by decide +kernel
theorem d_L_run_4 : decode b_L_run 4 = .ok (.invokevirtual 28, 3) := by decide +kernel
theorem d_L_run_7 : decode b_L_run 7 = .ok (.i2l, 1) := by decide +kernel
theorem d_L_run_8 : decode b_L_run 8 = .ok (.lastore, 1) := by decide +kernel
theorem d_L_run_9 : decode b_L_run 9 = .ok (.goto 6, 3) := by decide +kernel
theorem d_L_run_15 : decode b_L_run 15 = .ok (.iconst 0, 1) := by decide +kernel
theorem d_L_run_16 : decode b_L_run 16 = .ok (.ireturn, 1) := by decide +kernel
theorem d_L_run_12 : decode b_L_run 12 = .ok (.astore_n 3, 1) := by decide +kernel
theorem d_L_run_13 : decode b_L_run 13 = .ok (.iconst 1, 1) := by decide +kernel
theorem d_L_run_14 : decode b_L_run 14 = .ok (.ireturn, 1) := by decide +kernel
theorem d_L_register_0 : decode b_L_register 0 = .ok (.aload_n 3, 1) := by decide +kernel
theorem d_L_register_1 : decode b_L_register 1 = .ok (.iconst 0, 1) := by decide +kernel
theorem d_L_register_2 : decode b_L_register 2 = .ok (.aload_n 0, 1) := by decide +kernel
theorem d_L_register_3 : decode b_L_register 3 = .ok (.iload_n 1, 1) := by decide +kernel
theorem d_L_register_4 : decode b_L_register 4 = .ok (.iload_n 2, 1) := by decide +kernel
theorem d_L_register_5 : decode b_L_register 5 = .ok (.invokevirtual 32, 3) := by decide +kernel
theorem d_L_register_8 : decode b_L_register 8 = .ok (.i2l, 1) := by decide +kernel
theorem d_L_register_9 : decode b_L_register 9 = .ok (.lastore, 1) := by decide +kernel
theorem d_L_register_10 : decode b_L_register 10 = .ok (.goto 7, 3) := by decide +kernel
theorem d_L_register_17 : decode b_L_register 17 = .ok (.iconst 0, 1) := by decide +kernel
theorem d_L_register_18 : decode b_L_register 18 = .ok (.ireturn, 1) := by decide +kernel
theorem d_L_register_13 : decode b_L_register 13 = .ok (.astore 4, 2) := by decide +kernel
theorem d_L_register_15 : decode b_L_register 15 = .ok (.iconst 1, 1) := by decide +kernel
theorem d_L_register_16 : decode b_L_register 16 = .ok (.ireturn, 1) := by decide +kernel
theorem tz_pool (u_z : Nat → Int32) (u_M : Nat → Int32) (u_r : Nat → Int32) (u_d : Nat → Int32) (u_a : Nat → Int32) (u_lo : Nat → Int32) (u_hi : Nat → Int32) (u_ri : Nat → Int32) (u_t : Nat → Int32) (a1 : Int32) (a2 : Int32) : t_C_pool u_z u_M u_r u_d u_a u_lo u_hi u_ri u_t a1 a2 = 0 ∨ (t_C_pool u_z u_M u_r u_d u_a u_lo u_hi u_ri u_t a1 a2 = (1 : Int32) ∧ s_C_pool u_z u_M u_r u_d u_a u_lo u_hi u_ri u_t a1 a2 = (u_M, u_r)) ∨ (t_C_pool u_z u_M u_r u_d u_a u_lo u_hi u_ri u_t a1 a2 = (2 : Int32) ∧ s_C_pool u_z u_M u_r u_d u_a u_lo u_hi u_ri u_t a1 a2 = (u_M, u_r)) := by
  unfold t_C_pool s_C_pool
  (repeat' split) <;> first | exact Or.inl rfl | exact Or.inr (Or.inl ⟨rfl, rfl⟩) | exact Or.inr (Or.inr ⟨rfl, rfl⟩)
set_option maxHeartbeats 4000000 in
set_option maxRecDepth 100000 in
theorem h_pool (l : Launch) (htr : l.stackTraces = false) (D : va_G) (cI : ClassId) (sz : Nat) (xC : Nat) (xP : Nat) (xM : Nat) (xW : Nat) (xR : Nat) (xD : Nat) (xA : Nat) (xG : Nat) (xL : Nat) (xH : Nat) (xI : Nat) (xT : Nat) (u_z : Nat → Int32) (u_M : Nat → Int32) (u_r : Nat → Int32) (u_d : Nat → Int32) (u_a : Nat → Int32) (u_lo : Nat → Int32) (u_hi : Nat → Int32) (u_ri : Nat → Int32) (u_t : Nat → Int32) (a1 : Int32) (a2 : Int32) : zMh l y_L_pool b_L_pool 4 hs_pool { frames := 7, cells := 1, slots := 6, locals := 180 } D classes [(cI, .int)] [.ref xC, .int a1, .int a2] [oC xC xP, oP xP xM xR xG xT u_z, oM xM xW, ar cI xW 512 u_M, oR xR xD xA u_r, ar cI xD 8 u_d, ar cI xA 8 u_a, oG xG xL xH xI, ar cI xL 6 u_lo, ar cI xH 6 u_hi, ar cI xI 6 u_ri, oT xT u_t] [oC xC xP, oP xP xM xR xG xT u_z, oM xM xW, ar cI xW 512 ((s_C_pool u_z u_M u_r u_d u_a u_lo u_hi u_ri u_t a1 a2).1), oR xR xD xA ((s_C_pool u_z u_M u_r u_d u_a u_lo u_hi u_ri u_t a1 a2).2), ar cI xD 8 u_d, ar cI xA 8 u_a, oG xG xL xH xI, ar cI xL 6 u_lo, ar cI xH 6 u_hi, ar cI xI 6 u_ri, oT xT u_t] sz (t_C_pool u_z u_M u_r u_d u_a u_lo u_hi u_ri u_t a1 a2) := by
  refine met_h (by decide) (Nat.le_of_ble_eq_true rfl) ?_
  intro p e s m args below meth c A Q ls hx hb hml hown hts htab hK hP hD hS hA hz hl hE
  have hl : lv_has ls 4 [(0, .ref xC), (1, .int a1), (2, .int a2)] := hl
  have hown : s.vm.findClass R_L = some m.cls := hown
  refine lv_aload_n hx hb d_L_pool_0 rfl (lv_at hl 0 rfl) ?_
  refine lv_iload_n hx hb d_L_pool_1 rfl (lv_at hl 1 rfl) ?_
  refine lv_iload_n hx hb d_L_pool_2 rfl (lv_at hl 2 rfl) ?_
  rcases tz_pool u_z u_M u_r u_d u_a u_lo u_hi u_ri u_t a1 a2 with ht | ⟨ht, hs⟩ | ⟨ht, hs⟩
  · rw [ht] at hE
    refine zz_cVv (rest := []) (wr := []) (w' := [oC xC xP, oP xP xM xR xG xT u_z, oM xM xW, ar cI xW 512 ((s_C_pool u_z u_M u_r u_d u_a u_lo u_hi u_ri u_t a1 a2).1), oR xR xD xA ((s_C_pool u_z u_M u_r u_d u_a u_lo u_hi u_ri u_t a1 a2).2), ar cI xD 8 u_d, ar cI xA 8 u_a, oG xG xL xH xI, ar cI xL 6 u_lo, ar cI xH 6 u_hi, ar cI xI 6 u_ri, oT xT u_t]) ⟨hx, hb, hml, hown, hts⟩ (k_C_pool l D cI _ xC xP xM xW xR xD xA xG xL xH xI xT u_z u_M u_r u_d u_a u_lo u_hi u_ri u_t a1 a2 ht) g_L_pool nv_C_pool ⟨⟨rfl, rfl⟩, Nat.le_of_ble_eq_true rfl, Nat.le_of_ble_eq_true rfl⟩ hK [0] rfl hP hD hS hA [0, 1, 2, 3, 4, 5, 6, 7, 8, 9, 10, 11] [] [0, 1, 2, 3, 4, 5, 6, 7, 8, 9, 10, 11] rfl rfl rfl rfl (by decide) rfl rfl 0 5 rfl rfl rfl rfl hl.1 (Nat.le_of_ble_eq_true rfl) d_L_pool_3 ⟨Nat.zero_le _, Nat.zero_le _⟩ (fun H locs hP hD hS => ?_)
    refine lv_goto (tgt := 15) hx hb d_L_pool_6 (by decide) ?_
    refine lv_iconst (v := (0 : Int32)) hx hb d_L_pool_15 rfl ?_
    exact hE _ _ 0 0 _ _ (Nat.zero_le _) (Nat.zero_le _) hP hD hS d_L_pool_16
  · rw [ht, hs] at hE
    refine zz_cT1 (rest := []) ⟨hx, hb, hml, hown, hts⟩ (kt_C_pool_1 l htr D cI _ xC xP xM xW xR xD xA xG xL xH xI xT u_z u_M u_r u_d u_a u_lo u_hi u_ri u_t a1 a2 ht) g_L_pool nv_C_pool ⟨⟨rfl, rfl⟩, Nat.le_of_ble_eq_true rfl, Nat.le_of_ble_eq_true rfl⟩ hK [0] rfl hP hS [0, 1, 2, 3, 4, 5, 6, 7, 8, 9, 10, 11] rfl hz rfl 0 5 rfl rfl rfl rfl hl.1 (Nat.le_of_ble_eq_true rfl) d_L_pool_3 (by decide) htab (by decide) (by decide) ln_IAE ca_IAE (fun H1 ae hP hS => ?_)
    refine lv_astore_n hx hb d_L_pool_9 rfl hl (by decide) rfl (fun ls hl => ?_)
    refine lv_iconst (v := (1 : Int32)) hx hb d_L_pool_10 rfl ?_
    exact hE _ _ 1 6 _ _ (Nat.le_refl _) (Nat.le_refl _) hP hD hS d_L_pool_11
  · rw [ht, hs] at hE
    refine zz_cT2 (rest := []) ⟨hx, hb, hml, hown, hts⟩ (kt_C_pool_2 l htr D cI _ xC xP xM xW xR xD xA xG xL xH xI xT u_z u_M u_r u_d u_a u_lo u_hi u_ri u_t a1 a2 ht) g_L_pool nv_C_pool ⟨⟨rfl, rfl⟩, Nat.le_of_ble_eq_true rfl, Nat.le_of_ble_eq_true rfl⟩ hK [0] rfl hP hS [0, 1, 2, 3, 4, 5, 6, 7, 8, 9, 10, 11] rfl hz rfl 0 5 rfl rfl rfl rfl hl.1 (Nat.le_of_ble_eq_true rfl) d_L_pool_3 (by decide) htab (by decide) (by decide) ln_IAE ca_IAE (by decide) (by decide) ln_ISE ca_ISE (fun H1 ae hP hS => ?_)
    refine lv_astore_n hx hb d_L_pool_12 rfl hl (by decide) rfl (fun ls hl => ?_)
    refine lv_iconst (v := (2 : Int32)) hx hb d_L_pool_13 rfl ?_
    exact hE _ _ 1 6 _ _ (Nat.le_refl _) (Nat.le_refl _) hP hD hS d_L_pool_14
theorem tz_range (u_z : Nat → Int32) (u_M : Nat → Int32) (u_r : Nat → Int32) (u_d : Nat → Int32) (u_a : Nat → Int32) (u_lo : Nat → Int32) (u_hi : Nat → Int32) (u_ri : Nat → Int32) (u_t : Nat → Int32) (a1 : Int32) (a2 : Int32) (a3 : Int32) (a4 : Int32) (a5 : Int32) : t_C_range u_z u_M u_r u_d u_a u_lo u_hi u_ri u_t a1 a2 a3 a4 a5 = 0 ∨ (t_C_range u_z u_M u_r u_d u_a u_lo u_hi u_ri u_t a1 a2 a3 a4 a5 = (1 : Int32) ∧ s_C_range u_z u_M u_r u_d u_a u_lo u_hi u_ri u_t a1 a2 a3 a4 a5 = (u_lo, u_hi, u_ri)) := by
  unfold t_C_range s_C_range
  (repeat' split) <;> first | exact Or.inl rfl | exact Or.inr ⟨rfl, rfl⟩
set_option maxHeartbeats 4000000 in
set_option maxRecDepth 100000 in
theorem h_range (l : Launch) (htr : l.stackTraces = false) (D : va_G) (cI : ClassId) (sz : Nat) (xC : Nat) (xP : Nat) (xM : Nat) (xW : Nat) (xR : Nat) (xD : Nat) (xA : Nat) (xG : Nat) (xL : Nat) (xH : Nat) (xI : Nat) (xT : Nat) (u_z : Nat → Int32) (u_M : Nat → Int32) (u_r : Nat → Int32) (u_d : Nat → Int32) (u_a : Nat → Int32) (u_lo : Nat → Int32) (u_hi : Nat → Int32) (u_ri : Nat → Int32) (u_t : Nat → Int32) (a1 : Int32) (a2 : Int32) (a3 : Int32) (a4 : Int32) (a5 : Int32) : zMh l y_L_range b_L_range 7 hs_range { frames := 7, cells := 1, slots := 6, locals := 180 } D classes [(cI, .int)] [.ref xC, .int a1, .int a2, .int a3, .int a4, .int a5] [oC xC xP, oP xP xM xR xG xT u_z, oM xM xW, ar cI xW 512 u_M, oR xR xD xA u_r, ar cI xD 8 u_d, ar cI xA 8 u_a, oG xG xL xH xI, ar cI xL 6 u_lo, ar cI xH 6 u_hi, ar cI xI 6 u_ri, oT xT u_t] [oC xC xP, oP xP xM xR xG xT u_z, oM xM xW, ar cI xW 512 u_M, oR xR xD xA u_r, ar cI xD 8 u_d, ar cI xA 8 u_a, oG xG xL xH xI, ar cI xL 6 ((s_C_range u_z u_M u_r u_d u_a u_lo u_hi u_ri u_t a1 a2 a3 a4 a5).1), ar cI xH 6 ((s_C_range u_z u_M u_r u_d u_a u_lo u_hi u_ri u_t a1 a2 a3 a4 a5).2.1), ar cI xI 6 ((s_C_range u_z u_M u_r u_d u_a u_lo u_hi u_ri u_t a1 a2 a3 a4 a5).2.2), oT xT u_t] sz (t_C_range u_z u_M u_r u_d u_a u_lo u_hi u_ri u_t a1 a2 a3 a4 a5) := by
  refine met_h (by decide) (Nat.le_of_ble_eq_true rfl) ?_
  intro p e s m args below meth c A Q ls hx hb hml hown hts htab hK hP hD hS hA hz hl hE
  have hl : lv_has ls 7 [(0, .ref xC), (1, .int a1), (2, .int a2), (3, .int a3), (4, .int a4), (5, .int a5)] := hl
  have hown : s.vm.findClass R_L = some m.cls := hown
  refine lv_aload_n hx hb d_L_range_0 rfl (lv_at hl 0 rfl) ?_
  refine lv_iload_n hx hb d_L_range_1 rfl (lv_at hl 1 rfl) ?_
  refine lv_iload_n hx hb d_L_range_2 rfl (lv_at hl 2 rfl) ?_
  refine lv_iload_n hx hb d_L_range_3 rfl (lv_at hl 3 rfl) ?_
  refine lv_iload hx hb d_L_range_4 (lv_at hl 4 rfl) ?_
  refine lv_iload hx hb d_L_range_6 (lv_at hl 5 rfl) ?_
  rcases tz_range u_z u_M u_r u_d u_a u_lo u_hi u_ri u_t a1 a2 a3 a4 a5 with ht | ⟨ht, hs⟩
  · rw [ht] at hE
    refine zz_cVv (rest := []) (wr := []) (w' := [oC xC xP, oP xP xM xR xG xT u_z, oM xM xW, ar cI xW 512 u_M, oR xR xD xA u_r, ar cI xD 8 u_d, ar cI xA 8 u_a, oG xG xL xH xI, ar cI xL 6 ((s_C_range u_z u_M u_r u_d u_a u_lo u_hi u_ri u_t a1 a2 a3 a4 a5).1), ar cI xH 6 ((s_C_range u_z u_M u_r u_d u_a u_lo u_hi u_ri u_t a1 a2 a3 a4 a5).2.1), ar cI xI 6 ((s_C_range u_z u_M u_r u_d u_a u_lo u_hi u_ri u_t a1 a2 a3 a4 a5).2.2), oT xT u_t]) ⟨hx, hb, hml, hown, hts⟩ (k_C_range l D cI _ xC xP xM xW xR xD xA xG xL xH xI xT u_z u_M u_r u_d u_a u_lo u_hi u_ri u_t a1 a2 a3 a4 a5 ht) g_L_range nv_C_range ⟨⟨rfl, rfl⟩, Nat.le_of_ble_eq_true rfl, Nat.le_of_ble_eq_true rfl⟩ hK [0] rfl hP hD hS hA [0, 1, 2, 3, 4, 5, 6, 7, 8, 9, 10, 11] [] [0, 1, 2, 3, 4, 5, 6, 7, 8, 9, 10, 11] rfl rfl rfl rfl (by decide) rfl rfl 0 5 rfl rfl rfl rfl hl.1 (Nat.le_of_ble_eq_true rfl) d_L_range_8 ⟨Nat.zero_le _, Nat.zero_le _⟩ (fun H locs hP hD hS => ?_)
    refine lv_goto (tgt := 18) hx hb d_L_range_11 (by decide) ?_
    refine lv_iconst (v := (0 : Int32)) hx hb d_L_range_18 rfl ?_
    exact hE _ _ 0 0 _ _ (Nat.zero_le _) (Nat.zero_le _) hP hD hS d_L_range_19
  · rw [ht, hs] at hE
    refine zz_cT1 (rest := []) ⟨hx, hb, hml, hown, hts⟩ (kt_C_range_1 l htr D cI _ xC xP xM xW xR xD xA xG xL xH xI xT u_z u_M u_r u_d u_a u_lo u_hi u_ri u_t a1 a2 a3 a4 a5 ht) g_L_range nv_C_range ⟨⟨rfl, rfl⟩, Nat.le_of_ble_eq_true rfl, Nat.le_of_ble_eq_true rfl⟩ hK [0] rfl hP hS [0, 1, 2, 3, 4, 5, 6, 7, 8, 9, 10, 11] rfl hz rfl 0 5 rfl rfl rfl rfl hl.1 (Nat.le_of_ble_eq_true rfl) d_L_range_8 (by decide) htab (by decide) (by decide) ln_IAE ca_IAE (fun H1 ae hP hS => ?_)
    refine lv_astore hx hb d_L_range_14 hl (by decide) rfl (fun ls hl => ?_)
    refine lv_iconst (v := (1 : Int32)) hx hb d_L_range_16 rfl ?_
    exact hE _ _ 1 6 _ _ (Nat.le_refl _) (Nat.le_refl _) hP hD hS d_L_range_17
theorem tz_timer (u_z : Nat → Int32) (u_M : Nat → Int32) (u_r : Nat → Int32) (u_d : Nat → Int32) (u_a : Nat → Int32) (u_lo : Nat → Int32) (u_hi : Nat → Int32) (u_ri : Nat → Int32) (u_t : Nat → Int32) (a1 : Int32) (a2 : Int32) : t_C_timer u_z u_M u_r u_d u_a u_lo u_hi u_ri u_t a1 a2 = 0 ∨ (t_C_timer u_z u_M u_r u_d u_a u_lo u_hi u_ri u_t a1 a2 = (1 : Int32) ∧ s_C_timer u_z u_M u_r u_d u_a u_lo u_hi u_ri u_t a1 a2 = u_t) := by
  unfold t_C_timer s_C_timer
  (repeat' split) <;> first | exact Or.inl rfl | exact Or.inr ⟨rfl, rfl⟩
set_option maxHeartbeats 4000000 in
set_option maxRecDepth 100000 in
theorem h_timer (l : Launch) (htr : l.stackTraces = false) (D : va_G) (cI : ClassId) (sz : Nat) (xC : Nat) (xP : Nat) (xM : Nat) (xW : Nat) (xR : Nat) (xD : Nat) (xA : Nat) (xG : Nat) (xL : Nat) (xH : Nat) (xI : Nat) (xT : Nat) (u_z : Nat → Int32) (u_M : Nat → Int32) (u_r : Nat → Int32) (u_d : Nat → Int32) (u_a : Nat → Int32) (u_lo : Nat → Int32) (u_hi : Nat → Int32) (u_ri : Nat → Int32) (u_t : Nat → Int32) (a1 : Int32) (a2 : Int32) : zMh l y_L_timer b_L_timer 4 hs_timer { frames := 7, cells := 1, slots := 6, locals := 180 } D classes [(cI, .int)] [.ref xC, .int a1, .int a2] [oC xC xP, oP xP xM xR xG xT u_z, oM xM xW, ar cI xW 512 u_M, oR xR xD xA u_r, ar cI xD 8 u_d, ar cI xA 8 u_a, oG xG xL xH xI, ar cI xL 6 u_lo, ar cI xH 6 u_hi, ar cI xI 6 u_ri, oT xT u_t] [oC xC xP, oP xP xM xR xG xT u_z, oM xM xW, ar cI xW 512 u_M, oR xR xD xA u_r, ar cI xD 8 u_d, ar cI xA 8 u_a, oG xG xL xH xI, ar cI xL 6 u_lo, ar cI xH 6 u_hi, ar cI xI 6 u_ri, oT xT (s_C_timer u_z u_M u_r u_d u_a u_lo u_hi u_ri u_t a1 a2)] sz (t_C_timer u_z u_M u_r u_d u_a u_lo u_hi u_ri u_t a1 a2) := by
  refine met_h (by decide) (Nat.le_of_ble_eq_true rfl) ?_
  intro p e s m args below meth c A Q ls hx hb hml hown hts htab hK hP hD hS hA hz hl hE
  have hl : lv_has ls 4 [(0, .ref xC), (1, .int a1), (2, .int a2)] := hl
  have hown : s.vm.findClass R_L = some m.cls := hown
  refine lv_aload_n hx hb d_L_timer_0 rfl (lv_at hl 0 rfl) ?_
  refine lv_iload_n hx hb d_L_timer_1 rfl (lv_at hl 1 rfl) ?_
  refine lv_iload_n hx hb d_L_timer_2 rfl (lv_at hl 2 rfl) ?_
  rcases tz_timer u_z u_M u_r u_d u_a u_lo u_hi u_ri u_t a1 a2 with ht | ⟨ht, hs⟩
  · rw [ht] at hE
    refine zz_cVv (rest := []) (wr := []) (w' := [oC xC xP, oP xP xM xR xG xT u_z, oM xM xW, ar cI xW 512 u_M, oR xR xD xA u_r, ar cI xD 8 u_d, ar cI xA 8 u_a, oG xG xL xH xI, ar cI xL 6 u_lo, ar cI xH 6 u_hi, ar cI xI 6 u_ri, oT xT (s_C_timer u_z u_M u_r u_d u_a u_lo u_hi u_ri u_t a1 a2)]) ⟨hx, hb, hml, hown, hts⟩ (k_C_timer l D cI _ xC xP xM xW xR xD xA xG xL xH xI xT u_z u_M u_r u_d u_a u_lo u_hi u_ri u_t a1 a2 ht) g_L_timer nv_C_timer ⟨⟨rfl, rfl⟩, Nat.le_of_ble_eq_true rfl, Nat.le_of_ble_eq_true rfl⟩ hK [0] rfl hP hD hS hA [0, 1, 2, 3, 4, 5, 6, 7, 8, 9, 10, 11] [] [0, 1, 2, 3, 4, 5, 6, 7, 8, 9, 10, 11] rfl rfl rfl rfl (by decide) rfl rfl 0 5 rfl rfl rfl rfl hl.1 (Nat.le_of_ble_eq_true rfl) d_L_timer_3 ⟨Nat.zero_le _, Nat.zero_le _⟩ (fun H locs hP hD hS => ?_)
    refine lv_goto (tgt := 12) hx hb d_L_timer_6 (by decide) ?_
    refine lv_iconst (v := (0 : Int32)) hx hb d_L_timer_12 rfl ?_
    exact hE _ _ 0 0 _ _ (Nat.zero_le _) (Nat.zero_le _) hP hD hS d_L_timer_13
  · rw [ht, hs] at hE
    refine zz_cT1 (rest := []) ⟨hx, hb, hml, hown, hts⟩ (kt_C_timer_1 l htr D cI _ xC xP xM xW xR xD xA xG xL xH xI xT u_z u_M u_r u_d u_a u_lo u_hi u_ri u_t a1 a2 ht) g_L_timer nv_C_timer ⟨⟨rfl, rfl⟩, Nat.le_of_ble_eq_true rfl, Nat.le_of_ble_eq_true rfl⟩ hK [0] rfl hP hS [0, 1, 2, 3, 4, 5, 6, 7, 8, 9, 10, 11] rfl hz rfl 0 5 rfl rfl rfl rfl hl.1 (Nat.le_of_ble_eq_true rfl) d_L_timer_3 (by decide) htab (by decide) (by decide) ln_IAE ca_IAE (fun H1 ae hP hS => ?_)
    refine lv_astore_n hx hb d_L_timer_9 rfl hl (by decide) rfl (fun ls hl => ?_)
    refine lv_iconst (v := (1 : Int32)) hx hb d_L_timer_10 rfl ?_
    exact hE _ _ 1 6 _ _ (Nat.le_refl _) (Nat.le_refl _) hP hD hS d_L_timer_11
theorem tz_start (u_z : Nat → Int32) (u_M : Nat → Int32) (u_r : Nat → Int32) (u_d : Nat → Int32) (u_a : Nat → Int32) (u_lo : Nat → Int32) (u_hi : Nat → Int32) (u_ri : Nat → Int32) (u_t : Nat → Int32) (a1 : Int32) (a2 : Int32) (a3 : Int32) : t_C_start u_z u_M u_r u_d u_a u_lo u_hi u_ri u_t a1 a2 a3 = 0 ∨ (t_C_start u_z u_M u_r u_d u_a u_lo u_hi u_ri u_t a1 a2 a3 = (1 : Int32) ∧ s_C_start u_z u_M u_r u_d u_a u_lo u_hi u_ri u_t a1 a2 a3 = (u_z, u_r)) ∨ (t_C_start u_z u_M u_r u_d u_a u_lo u_hi u_ri u_t a1 a2 a3 = (2 : Int32) ∧ s_C_start u_z u_M u_r u_d u_a u_lo u_hi u_ri u_t a1 a2 a3 = (u_z, u_r)) := by
  unfold t_C_start s_C_start
  (repeat' split) <;> first | exact Or.inl rfl | exact Or.inr (Or.inl ⟨rfl, rfl⟩) | exact Or.inr (Or.inr ⟨rfl, rfl⟩)
set_option maxHeartbeats 4000000 in
set_option maxRecDepth 100000 in
theorem h_start (l : Launch) (htr : l.stackTraces = false) (D : va_G) (cI : ClassId) (sz : Nat) (xC : Nat) (xP : Nat) (xM : Nat) (xW : Nat) (xR : Nat) (xD : Nat) (xA : Nat) (xG : Nat) (xL : Nat) (xH : Nat) (xI : Nat) (xT : Nat) (u_z : Nat → Int32) (u_M : Nat → Int32) (u_r : Nat → Int32) (u_d : Nat → Int32) (u_a : Nat → Int32) (u_lo : Nat → Int32) (u_hi : Nat → Int32) (u_ri : Nat → Int32) (u_t : Nat → Int32) (a1 : Int32) (a2 : Int32) (a3 : Int32) (hb_a3 : a3 = 0 ∨ a3 = 1) : zMh l y_L_start b_L_start 5 hs_start { frames := 7, cells := 1, slots := 6, locals := 180 } D classes [(cI, .int)] [.ref xC, .int a1, .int a2, .int a3] [oC xC xP, oP xP xM xR xG xT u_z, oM xM xW, ar cI xW 512 u_M, oR xR xD xA u_r, ar cI xD 8 u_d, ar cI xA 8 u_a, oG xG xL xH xI, ar cI xL 6 u_lo, ar cI xH 6 u_hi, ar cI xI 6 u_ri, oT xT u_t] [oC xC xP, oP xP xM xR xG xT ((s_C_start u_z u_M u_r u_d u_a u_lo u_hi u_ri u_t a1 a2 a3).1), oM xM xW, ar cI xW 512 u_M, oR xR xD xA ((s_C_start u_z u_M u_r u_d u_a u_lo u_hi u_ri u_t a1 a2 a3).2), ar cI xD 8 u_d, ar cI xA 8 u_a, oG xG xL xH xI, ar cI xL 6 u_lo, ar cI xH 6 u_hi, ar cI xI 6 u_ri, oT xT u_t] sz (t_C_start u_z u_M u_r u_d u_a u_lo u_hi u_ri u_t a1 a2 a3) := by
  refine met_h (by decide) (Nat.le_of_ble_eq_true rfl) ?_
  intro p e s m args below meth c A Q ls hx hb hml hown hts htab hK hP hD hS hA hz hl hE
  have hl : lv_has ls 5 [(0, .ref xC), (1, .int a1), (2, .int a2), (3, .int a3)] := hl
  have hown : s.vm.findClass R_L = some m.cls := hown
  refine lv_aload_n hx hb d_L_start_0 rfl (lv_at hl 0 rfl) ?_
  refine lv_iload_n hx hb d_L_start_1 rfl (lv_at hl 1 rfl) ?_
  refine lv_iload_n hx hb d_L_start_2 rfl (lv_at hl 2 rfl) ?_
  refine lv_iload_n hx hb d_L_start_3 rfl (lv_at hl 3 rfl) ?_
  rcases tz_start u_z u_M u_r u_d u_a u_lo u_hi u_ri u_t a1 a2 a3 with ht | ⟨ht, hs⟩ | ⟨ht, hs⟩
  · rw [ht] at hE
    refine zz_cVv (rest := []) (wr := []) (w' := [oC xC xP, oP xP xM xR xG xT ((s_C_start u_z u_M u_r u_d u_a u_lo u_hi u_ri u_t a1 a2 a3).1), oM xM xW, ar cI xW 512 u_M, oR xR xD xA ((s_C_start u_z u_M u_r u_d u_a u_lo u_hi u_ri u_t a1 a2 a3).2), ar cI xD 8 u_d, ar cI xA 8 u_a, oG xG xL xH xI, ar cI xL 6 u_lo, ar cI xH 6 u_hi, ar cI xI 6 u_ri, oT xT u_t]) ⟨hx, hb, hml, hown, hts⟩ (k_C_start l D cI _ xC xP xM xW xR xD xA xG xL xH xI xT u_z u_M u_r u_d u_a u_lo u_hi u_ri u_t a1 a2 a3 hb_a3 ht) g_L_start nv_C_start ⟨⟨rfl, rfl⟩, Nat.le_of_ble_eq_true rfl, Nat.le_of_ble_eq_true rfl⟩ hK [0] rfl hP hD hS hA [0, 1, 2, 3, 4, 5, 6, 7, 8, 9, 10, 11] [] [0, 1, 2, 3, 4, 5, 6, 7, 8, 9, 10, 11] rfl rfl rfl rfl (by decide) rfl rfl 0 5 rfl rfl rfl rfl hl.1 (Nat.le_of_ble_eq_true rfl) d_L_start_4 ⟨Nat.zero_le _, Nat.zero_le _⟩ (fun H locs hP hD hS => ?_)
    refine lv_goto (tgt := 18) hx hb d_L_start_7 (by decide) ?_
    refine lv_iconst (v := (0 : Int32)) hx hb d_L_start_18 rfl ?_
    exact hE _ _ 0 0 _ _ (Nat.zero_le _) (Nat.zero_le _) hP hD hS d_L_start_19
  · rw [ht, hs] at hE
    refine zz_cT1 (rest := []) ⟨hx, hb, hml, hown, hts⟩ (kt_C_start_1 l htr D cI _ xC xP xM xW xR xD xA xG xL xH xI xT u_z u_M u_r u_d u_a u_lo u_hi u_ri u_t a1 a2 a3 ht) g_L_start nv_C_start ⟨⟨rfl, rfl⟩, Nat.le_of_ble_eq_true rfl, Nat.le_of_ble_eq_true rfl⟩ hK [0] rfl hP hS [0, 1, 2, 3, 4, 5, 6, 7, 8, 9, 10, 11] rfl hz rfl 0 5 rfl rfl rfl rfl hl.1 (Nat.le_of_ble_eq_true rfl) d_L_start_4 (by decide) htab (by decide) (by decide) ln_IAE ca_IAE (fun H1 ae hP hS => ?_)
    refine lv_astore hx hb d_L_start_10 hl (by decide) rfl (fun ls hl => ?_)
    refine lv_iconst (v := (1 : Int32)) hx hb d_L_start_12 rfl ?_
    exact hE _ _ 1 6 _ _ (Nat.le_refl _) (Nat.le_refl _) hP hD hS d_L_start_13
  · rw [ht, hs] at hE
    refine zz_cT2 (rest := []) ⟨hx, hb, hml, hown, hts⟩ (kt_C_start_2 l htr D cI _ xC xP xM xW xR xD xA xG xL xH xI xT u_z u_M u_r u_d u_a u_lo u_hi u_ri u_t a1 a2 a3 ht) g_L_start nv_C_start ⟨⟨rfl, rfl⟩, Nat.le_of_ble_eq_true rfl, Nat.le_of_ble_eq_true rfl⟩ hK [0] rfl hP hS [0, 1, 2, 3, 4, 5, 6, 7, 8, 9, 10, 11] rfl hz rfl 0 5 rfl rfl rfl rfl hl.1 (Nat.le_of_ble_eq_true rfl) d_L_start_4 (by decide) htab (by decide) (by decide) ln_IAE ca_IAE (by decide) (by decide) ln_ISE ca_ISE (fun H1 ae hP hS => ?_)
    refine lv_astore hx hb d_L_start_14 hl (by decide) rfl (fun ls hl => ?_)
    refine lv_iconst (v := (2 : Int32)) hx hb d_L_start_16 rfl ?_
    exact hE _ _ 1 6 _ _ (Nat.le_refl _) (Nat.le_refl _) hP hD hS d_L_start_17
theorem tz_run (u_z : Nat → Int32) (u_M : Nat → Int32) (u_r : Nat → Int32) (u_d : Nat → Int32) (u_a : Nat → Int32) (u_lo : Nat → Int32) (u_hi : Nat → Int32) (u_ri : Nat → Int32) (u_t : Nat → Int32) (a1 : Int32) : t_C_run u_z u_M u_r u_d u_a u_lo u_hi u_ri u_t a1 = 0 ∨ (t_C_run u_z u_M u_r u_d u_a u_lo u_hi u_ri u_t a1 = (1 : Int32) ∧ s_C_run u_z u_M u_r u_d u_a u_lo u_hi u_ri u_t a1 = ((0 : Int32), u_z, u_M, u_r, u_d, u_a, u_t)) := by
  unfold t_C_run s_C_run
  (repeat' split) <;> first | exact Or.inl rfl | exact Or.inr ⟨rfl, rfl⟩
set_option maxHeartbeats 4000000 in
set_option maxRecDepth 100000 in
theorem h_run (l : Launch) (htr : l.stackTraces = false) (D : va_G) (cI : ClassId) (sz : Nat) (xC : Nat) (xP : Nat) (xM : Nat) (xW : Nat) (xR : Nat) (xD : Nat) (xA : Nat) (xG : Nat) (xL : Nat) (xH : Nat) (xI : Nat) (xT : Nat) (xO : Nat) (cJ : ClassId) (g : Nat → Int64) (u_z : Nat → Int32) (u_M : Nat → Int32) (u_r : Nat → Int32) (u_d : Nat → Int32) (u_a : Nat → Int32) (u_lo : Nat → Int32) (u_hi : Nat → Int32) (u_ri : Nat → Int32) (u_t : Nat → Int32) (a1 : Int32) (hiv : iv u_r) (hzb : zb u_z) : zMh l y_L_run b_L_run 4 hs_run { frames := 7, cells := 1, slots := 6, locals := 180 } D classes [(cI, .int), (cJ, .long)] [.ref xC, .int a1, .ref xO] [oC xC xP, oP xP xM xR xG xT u_z, oM xM xW, ar cI xW 512 u_M, oR xR xD xA u_r, ar cI xD 8 u_d, ar cI xA 8 u_a, oG xG xL xH xI, ar cI xL 6 u_lo, ar cI xH 6 u_hi, ar cI xI 6 u_ri, oT xT u_t, aj cJ xO g] [oC xC xP, oP xP xM xR xG xT ((s_C_run u_z u_M u_r u_d u_a u_lo u_hi u_ri u_t a1).2.1), oM xM xW, ar cI xW 512 ((s_C_run u_z u_M u_r u_d u_a u_lo u_hi u_ri u_t a1).2.2.1), oR xR xD xA ((s_C_run u_z u_M u_r u_d u_a u_lo u_hi u_ri u_t a1).2.2.2.1), ar cI xD 8 ((s_C_run u_z u_M u_r u_d u_a u_lo u_hi u_ri u_t a1).2.2.2.2.1), ar cI xA 8 ((s_C_run u_z u_M u_r u_d u_a u_lo u_hi u_ri u_t a1).2.2.2.2.2.1), oG xG xL xH xI, ar cI xL 6 u_lo, ar cI xH 6 u_hi, ar cI xI 6 u_ri, oT xT ((s_C_run u_z u_M u_r u_d u_a u_lo u_hi u_ri u_t a1).2.2.2.2.2.2), aj cJ xO (if t_C_run u_z u_M u_r u_d u_a u_lo u_hi u_ri u_t a1 = 0 then vp_updL g (0 : Int32).toNatClampNeg (Int32.toInt64 ((s_C_run u_z u_M u_r u_d u_a u_lo u_hi u_ri u_t a1).1)) else g)] sz (t_C_run u_z u_M u_r u_d u_a u_lo u_hi u_ri u_t a1) := by
  refine met_h (by decide) (Nat.le_of_ble_eq_true rfl) ?_
  intro p e s m args below meth c A Q ls hx hb hml hown hts htab hK hP hD hS hA hz hl hE
  have hl : lv_has ls 4 [(0, .ref xC), (1, .int a1), (2, .ref xO)] := hl
  have hown : s.vm.findClass R_L = some m.cls := hown
  refine lv_aload_n hx hb d_L_run_0 rfl (lv_at hl 2 rfl) ?_
  refine lv_iconst (v := (0 : Int32)) hx hb d_L_run_1 rfl ?_
  refine lv_aload_n hx hb d_L_run_2 rfl (lv_at hl 0 rfl) ?_
  refine lv_iload_n hx hb d_L_run_3 rfl (lv_at hl 1 rfl) ?_
  rcases tz_run u_z u_M u_r u_d u_a u_lo u_hi u_ri u_t a1 with ht | ⟨ht, hs⟩
  · rw [ht] at hE
    refine zz_cVi (rest := [.int (0 : Int32), .ref xO]) (wr := [aj cJ xO g]) (w' := [oC xC xP, oP xP xM xR xG xT ((s_C_run u_z u_M u_r u_d u_a u_lo u_hi u_ri u_t a1).2.1), oM xM xW, ar cI xW 512 ((s_C_run u_z u_M u_r u_d u_a u_lo u_hi u_ri u_t a1).2.2.1), oR xR xD xA ((s_C_run u_z u_M u_r u_d u_a u_lo u_hi u_ri u_t a1).2.2.2.1), ar cI xD 8 ((s_C_run u_z u_M u_r u_d u_a u_lo u_hi u_ri u_t a1).2.2.2.2.1), ar cI xA 8 ((s_C_run u_z u_M u_r u_d u_a u_lo u_hi u_ri u_t a1).2.2.2.2.2.1), oG xG xL xH xI, ar cI xL 6 u_lo, ar cI xH 6 u_hi, ar cI xI 6 u_ri, oT xT ((s_C_run u_z u_M u_r u_d u_a u_lo u_hi u_ri u_t a1).2.2.2.2.2.2), aj cJ xO g]) ⟨hx, hb, hml, hown, hts⟩ (k_C_run l D cI _ xC xP xM xW xR xD xA xG xL xH xI xT u_z u_M u_r u_d u_a u_lo u_hi u_ri u_t a1 hiv hzb ht) g_L_run nv_C_run ⟨⟨rfl, rfl⟩, Nat.le_of_ble_eq_true rfl, Nat.le_of_ble_eq_true rfl⟩ hK [0] rfl hP hD hS hA [0, 1, 2, 3, 4, 5, 6, 7, 8, 9, 10, 11] [12] [1, 2, 3, 4, 5, 6, 7, 8, 9, 10, 11, 12, 0] rfl rfl rfl rfl (by decide) rfl rfl 0 5 rfl rfl rfl rfl hl.1 (Nat.le_of_ble_eq_true rfl) d_L_run_4 ⟨Nat.zero_le _, Nat.zero_le _⟩ (fun H locs hP hD hS => ?_)
    refine lv_i2l hx hb d_L_run_7 rfl ?_
    refine va_last hx hb hK hP hD hS 12 1 rfl rfl in01 d_L_run_8 (fun H locs hP hD hS => ?_)
    refine lv_goto (tgt := 15) hx hb d_L_run_9 (by decide) ?_
    refine lv_iconst (v := (0 : Int32)) hx hb d_L_run_15 rfl ?_
    rw [if_pos rfl] at hE
    exact hE _ _ 0 0 _ _ (Nat.zero_le _) (Nat.zero_le _) hP hD hS d_L_run_16
  · rw [ht, hs] at hE
    refine zz_cT1 (rest := [.int (0 : Int32), .ref xO]) ⟨hx, hb, hml, hown, hts⟩ (kt_C_run_1 l htr D cI _ xC xP xM xW xR xD xA xG xL xH xI xT u_z u_M u_r u_d u_a u_lo u_hi u_ri u_t a1 ht) g_L_run nv_C_run ⟨⟨rfl, rfl⟩, Nat.le_of_ble_eq_true rfl, Nat.le_of_ble_eq_true rfl⟩ hK [0] rfl hP hS [0, 1, 2, 3, 4, 5, 6, 7, 8, 9, 10, 11] rfl hz rfl 0 5 rfl rfl rfl rfl hl.1 (Nat.le_of_ble_eq_true rfl) d_L_run_4 (by decide) htab (by decide) (by decide) ln_IAE ca_IAE (fun H1 ae hP hS => ?_)
    refine lv_astore_n hx hb d_L_run_12 rfl hl (by decide) rfl (fun ls hl => ?_)
    refine lv_iconst (v := (1 : Int32)) hx hb d_L_run_13 rfl ?_
    rw [if_neg (show ¬ (1 : Int32) = 0 by decide)] at hE
    exact hE _ _ 1 6 _ _ (Nat.le_refl _) (Nat.le_refl _) hP hD hS d_L_run_14
theorem tz_register (u_z : Nat → Int32) (u_M : Nat → Int32) (u_r : Nat → Int32) (u_d : Nat → Int32) (u_a : Nat → Int32) (u_lo : Nat → Int32) (u_hi : Nat → Int32) (u_ri : Nat → Int32) (u_t : Nat → Int32) (a1 : Int32) (a2 : Int32) : t_C_register u_z u_M u_r u_d u_a u_lo u_hi u_ri u_t a1 a2 = 0 ∨ (t_C_register u_z u_M u_r u_d u_a u_lo u_hi u_ri u_t a1 a2 = (1 : Int32) ∧ s_C_register u_z u_M u_r u_d u_a u_lo u_hi u_ri u_t a1 a2 = (0 : Int32)) := by
  unfold t_C_register s_C_register
  (repeat' split) <;> first | exact Or.inl rfl | exact Or.inr ⟨rfl, rfl⟩
set_option maxHeartbeats 4000000 in
set_option maxRecDepth 100000 in
theorem h_register (l : Launch) (htr : l.stackTraces = false) (D : va_G) (cI : ClassId) (sz : Nat) (xC : Nat) (xP : Nat) (xM : Nat) (xW : Nat) (xR : Nat) (xD : Nat) (xA : Nat) (xG : Nat) (xL : Nat) (xH : Nat) (xI : Nat) (xT : Nat) (xO : Nat) (cJ : ClassId) (g : Nat → Int64) (u_z : Nat → Int32) (u_M : Nat → Int32) (u_r : Nat → Int32) (u_d : Nat → Int32) (u_a : Nat → Int32) (u_lo : Nat → Int32) (u_hi : Nat → Int32) (u_ri : Nat → Int32) (u_t : Nat → Int32) (a1 : Int32) (a2 : Int32) : zMh l y_L_register b_L_register 5 hs_register { frames := 7, cells := 1, slots := 6, locals := 180 } D classes [(cI, .int), (cJ, .long)] [.ref xC, .int a1, .int a2, .ref xO] [oC xC xP, oP xP xM xR xG xT u_z, oM xM xW, ar cI xW 512 u_M, oR xR xD xA u_r, ar cI xD 8 u_d, ar cI xA 8 u_a, oG xG xL xH xI, ar cI xL 6 u_lo, ar cI xH 6 u_hi, ar cI xI 6 u_ri, oT xT u_t, aj cJ xO g] [oC xC xP, oP xP xM xR xG xT u_z, oM xM xW, ar cI xW 512 u_M, oR xR xD xA u_r, ar cI xD 8 u_d, ar cI xA 8 u_a, oG xG xL xH xI, ar cI xL 6 u_lo, ar cI xH 6 u_hi, ar cI xI 6 u_ri, oT xT u_t, aj cJ xO (if t_C_register u_z u_M u_r u_d u_a u_lo u_hi u_ri u_t a1 a2 = 0 then vp_updL g (0 : Int32).toNatClampNeg (Int32.toInt64 ((s_C_register u_z u_M u_r u_d u_a u_lo u_hi u_ri u_t a1 a2))) else g)] sz (t_C_register u_z u_M u_r u_d u_a u_lo u_hi u_ri u_t a1 a2) := by
  refine met_h (by decide) (Nat.le_of_ble_eq_true rfl) ?_
  intro p e s m args below meth c A Q ls hx hb hml hown hts htab hK hP hD hS hA hz hl hE
  have hl : lv_has ls 5 [(0, .ref xC), (1, .int a1), (2, .int a2), (3, .ref xO)] := hl
  have hown : s.vm.findClass R_L = some m.cls := hown
  refine lv_aload_n hx hb d_L_register_0 rfl (lv_at hl 3 rfl) ?_
  refine lv_iconst (v := (0 : Int32)) hx hb d_L_register_1 rfl ?_
  refine lv_aload_n hx hb d_L_register_2 rfl (lv_at hl 0 rfl) ?_
  refine lv_iload_n hx hb d_L_register_3 rfl (lv_at hl 1 rfl) ?_
  refine lv_iload_n hx hb d_L_register_4 rfl (lv_at hl 2 rfl) ?_
  rcases tz_register u_z u_M u_r u_d u_a u_lo u_hi u_ri u_t a1 a2 with ht | ⟨ht, hs⟩
  · rw [ht] at hE
    refine zz_cVi (rest := [.int (0 : Int32), .ref xO]) (wr := [aj cJ xO g]) (w' := [oC xC xP, oP xP xM xR xG xT u_z, oM xM xW, ar cI xW 512 u_M, oR xR xD xA u_r, ar cI xD 8 u_d, ar cI xA 8 u_a, oG xG xL xH xI, ar cI xL 6 u_lo, ar cI xH 6 u_hi, ar cI xI 6 u_ri, oT xT u_t, aj cJ xO g]) ⟨hx, hb, hml, hown, hts⟩ (k_C_register l D cI _ xC xP xM xW xR xD xA xG xL xH xI xT u_z u_M u_r u_d u_a u_lo u_hi u_ri u_t a1 a2 ht) g_L_register nv_C_register ⟨⟨rfl, rfl⟩, Nat.le_of_ble_eq_true rfl, Nat.le_of_ble_eq_true rfl⟩ hK [0] rfl hP hD hS hA [0, 1, 2, 3, 4, 5, 6, 7, 8, 9, 10, 11] [12] [1, 2, 3, 4, 5, 6, 7, 8, 9, 10, 11, 12, 0] rfl rfl rfl rfl (by decide) rfl rfl 0 5 rfl rfl rfl rfl hl.1 (Nat.le_of_ble_eq_true rfl) d_L_register_5 ⟨Nat.zero_le _, Nat.zero_le _⟩ (fun H locs hP hD hS => ?_)
    refine lv_i2l hx hb d_L_register_8 rfl ?_
    refine va_last hx hb hK hP hD hS 12 1 rfl rfl in01 d_L_register_9 (fun H locs hP hD hS => ?_)
    refine lv_goto (tgt := 17) hx hb d_L_register_10 (by decide) ?_
    refine lv_iconst (v := (0 : Int32)) hx hb d_L_register_17 rfl ?_
    rw [if_pos rfl] at hE
    exact hE _ _ 0 0 _ _ (Nat.zero_le _) (Nat.zero_le _) hP hD hS d_L_register_18
  · rw [ht, hs] at hE
    refine zz_cT1 (rest := [.int (0 : Int32), .ref xO]) ⟨hx, hb, hml, hown, hts⟩ (kt_C_register_1 l htr D cI _ xC xP xM xW xR xD xA xG xL xH xI xT u_z u_M u_r u_d u_a u_lo u_hi u_ri u_t a1 a2 ht) g_L_register nv_C_register ⟨⟨rfl, rfl⟩, Nat.le_of_ble_eq_true rfl, Nat.le_of_ble_eq_true rfl⟩ hK [0] rfl hP hS [0, 1, 2, 3, 4, 5, 6, 7, 8, 9, 10, 11] rfl hz rfl 0 5 rfl rfl rfl rfl hl.1 (Nat.le_of_ble_eq_true rfl) d_L_register_5 (by decide) htab (by decide) (by decide) ln_IOB ca_IOB (fun H1 ae hP hS => ?_)
    refine lv_astore hx hb d_L_register_13 hl (by decide) rfl (fun ls hl => ?_)
    refine lv_iconst (v := (1 : Int32)) hx hb d_L_register_15 rfl ?_
    rw [if_neg (show ¬ (1 : Int32) = 0 by decide)] at hE
    exact hE _ _ 1 6 _ _ (Nat.le_refl _) (Nat.le_refl _) hP hD hS d_L_register_16
