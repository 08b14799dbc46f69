/-! THE CLAIM OUT OF ONE WALK OF THE LAW'S BODY. Your part is whole_start (and what it stands on); all else here is the same for every law, but numbers. -/
def R_law : String := "AreaCoreLaw"
def lw_P (b : Addr) (xs : List Int32) (args : Array Value) (s : State) : Prop := args = #[.ref b] ∧ s.IntsAt b xs ∧ xs.length ≤ 3072 ∧ (Jvm.Cond.and given_1 narrow_1).before args s = true
def lw_Q (_ : Array Value) (s : State) (o : Outcome) (t : State) : Prop := o = .returned (some (.int 1)) ∧ Framed s o t [] 1054 9402
def lw_Z (below : List Frame) (a : Array Value) (s : State) : State → Prop := fun t => ∃ o, t.status = .running ∧ Ended t below o ∧ lw_Q a s o t
/-- the law's own end, with 1 on the stack, nothing written that was there before, its room as the claim has it -/
theorem lw_ret {p : Program} {l : Launch} {e : Env} {s : State} {m : MethodId} {below : List Frame} {meth : Method} {c : Code} {b : Nat} (hx : p.tables.exec = Jvm.exec) (hb : c.code = code) (hr : meth.sig.returnType = ret) (hlocks : meth.locks = false) {pc : Nat} {H : Heap} {ls : Array Slot} (hdg : decode code pc = .ok (.ireturn, 1)) : W p l e room_1 s m #[Value.ref b] below meth c H [] 1054 9402 (lw_Z below #[Value.ref b] s) (F0 m pc ls [.int 1]) := by
  intro T hT X
  obtain ⟨fs, hret, hrun, hended, hW, hframe⟩ := X.leave (v := some (.int 1)) (hlocks := hlocks) (fun h => by rw [hr] at h; cases h)
  have hmeth' : T.vm.method? m = some meth := X.method'
  refine ⟨T.setFrames fs, ?_, .returned (some (.int 1)), hrun, hended, rfl, ⟨_, rfl⟩, hW, hframe⟩
  jvm_step X.here [X.here.top, hx, hb, hdg, hmeth', hr, ret, narrow_b1]
  (try refine ⟨rfl, ?_⟩); (try refine ⟨rfl, ?_⟩)
  first | (intro acts; rw [hret _ acts rfl rfl rfl]) | rw [hret _ _ rfl rfl rfl]
  exact Steps.refl _
/-- what holds at the law's entry: the machine, the code, the tables' words (any of lw_tbl by 'hts w (by decide +kernel)'), the script of L ints xs at the cell b, what the Statement gives of the start (any of its parts by flat_of_before) -/
def lw_At (p : Program) (s : State) (m : MethodId) (meth : Method) (c : Code) (b L : Nat) (xs : Nat → Int32) : Prop :=
  p.tables.exec = Jvm.exec ∧ c.code = code ∧ meth.sig.returnType = ret ∧ c.maxLocals = 7 ∧ s.vm.findClass R_law = some m.cls ∧ (∀ w ∈ lw_tbl, w.before #[Value.ref b] s = true) ∧ va_X b L xs s s.heap ∧ b < s.heap.size ∧ meth.locks = false ∧ (Jvm.Cond.and given_1 narrow_1).before #[Value.ref b] s = true
theorem mw_545 : (Cond.classLink R_L 8 R_C) ∈ wd := mt_1 (List.mem_of_getElem? (i := 15) (by decide +kernel)) (by decide +kernel)
theorem mw_546 : (Cond.classLink R_L 39 R_X) ∈ wd := mt_3 (List.mem_of_getElem? (i := 88) (by decide +kernel)) (by decide +kernel)
theorem mw_547 : (Cond.instantiable R_C 1) ∈ wd := mt_1 (List.mem_of_getElem? (i := 16) (by decide +kernel)) (by decide +kernel)
theorem mw_548 : (Cond.instantiable R_X 27) ∈ wd := mt_3 (List.mem_of_getElem? (i := 89) (by decide +kernel)) (by decide +kernel)
theorem mw_549 : (Cond.code y_C_init b_C_init 1 none) ∈ wd := mt_1 (List.mem_of_getElem? (i := 19) (by decide +kernel)) (by decide +kernel)
theorem mw_550 : (Cond.methodLink R_L 38 y_C_init) ∈ wd := mt_1 (List.mem_of_getElem? (i := 17) (by decide +kernel)) (by decide +kernel)
theorem mw_551 : (Cond.instanceMethod y_C_init) ∈ wd := mt_1 (List.mem_of_getElem? (i := 18) (by decide +kernel)) (by decide +kernel)
theorem mw_552 : (Cond.code y_X_init b_X_init 1 none) ∈ wd := mt_3 (List.mem_of_getElem? (i := 92) (by decide +kernel)) (by decide +kernel)
theorem mw_553 : (Cond.methodLink R_L 41 y_X_init) ∈ wd := mt_3 (List.mem_of_getElem? (i := 90) (by decide +kernel)) (by decide +kernel)
theorem mw_554 : (Cond.instanceMethod y_X_init) ∈ wd := mt_3 (List.mem_of_getElem? (i := 91) (by decide +kernel)) (by decide +kernel)
theorem d_law_0 : decode code 0 = .ok (.new 8, 3) := by decide +kernel
theorem d_law_3 : decode code 3 = .ok (.dup, 1) := by decide +kernel
theorem d_law_4 : decode code 4 = .ok (.invokespecial 38, 3) := by decide +kernel
theorem d_law_7 : decode code 7 = .ok (.astore_n 1, 1) := by decide +kernel
theorem d_law_8 : decode code 8 = .ok (.new 39, 3) := by decide +kernel
theorem d_law_11 : decode code 11 = .ok (.dup, 1) := by decide +kernel
theorem d_law_12 : decode code 12 = .ok (.invokespecial 41, 3) := by decide +kernel
theorem d_law_15 : decode code 15 = .ok (.astore_n 2, 1) := by decide +kernel
theorem d_law_16 : decode code 16 = .ok (.iconst 1, 1) := by decide +kernel
theorem d_law_17 : decode code 17 = .ok (.newarray .long, 2) := by decide +kernel
theorem d_law_19 : decode code 19 = .ok (.astore_n 3, 1) := by decide +kernel
theorem d_law_20 : decode code 20 = .ok (.iconst 0, 1) := by decide +kernel
theorem d_law_21 : decode code 21 = .ok (.istore 4, 2) := by decide +kernel
theorem d_law_23 : decode code 23 = .ok (.iload 4, 2) := by decide +kernel
theorem d_law_25 : decode code 25 = .ok (.aload_n 0, 1) := by decide +kernel
theorem d_law_26 : decode code 26 = .ok (.arraylength, 1) := by decide +kernel
theorem d_law_27 : decode code 27 = .ok (.bipush 6, 2) := by decide +kernel
theorem d_law_29 : decode code 29 = .ok (.isub, 1) := by decide +kernel
theorem d_law_30 : decode code 30 = .ok (.if_icmp .gt 692, 3) := by decide +kernel
theorem d_law_33 : decode code 33 = .ok (.aload_n 0, 1) := by decide +kernel
theorem d_law_34 : decode code 34 = .ok (.iload 4, 2) := by decide +kernel
theorem d_law_36 : decode code 36 = .ok (.iaload, 1) := by decide +kernel
theorem d_law_37 : decode code 37 = .ok (.bipush 15, 2) := by decide +kernel
theorem d_law_39 : decode code 39 = .ok (.iand, 1) := by decide +kernel
theorem d_law_40 : decode code 40 = .ok (.tableswitch 676 0 13 #[72, 109, 157, 192, 276, 315, 363, 388, 464, 477, 533, 601, 626, 651], 72) := by decide +kernel
theorem d_law_716 : decode code 716 = .ok (.iinc 4 6, 3) := by decide +kernel
theorem d_law_719 : decode code 719 = .ok (.goto (-696), 3) := by decide +kernel
theorem d_law_722 : decode code 722 = .ok (.iconst 1, 1) := by decide +kernel
theorem d_law_723 : decode code 723 = .ok (.ireturn, 1) := by decide +kernel
theorem sub6 {L : Nat} (hL : L ≤ 3072) : (Int32.ofNat L - (6 : Int32)).toInt = (L : Int) - 6 := pk_sub_toInt (a := L) (b := 6) (by omega) (by omega)
set_option maxHeartbeats 4000000 in
set_option maxRecDepth 100000 in
theorem law_head {p : Program} {l : Launch} {e : Env} {s : State} {m : MethodId} {below : List Frame} {meth : Method} {c : Code} {b L xO : Nat} {cI cJ : ClassId} {xs : Nat → Int32} {D : va_G} {xC xP xM xW xR xD xA xG xL xH xI xT yX yM yD yA yO yL yH yI : Nat} {H : Heap} {locs : List Loc} {cells slots j : Nat} {u_z u_M u_r u_d u_a u_lo u_hi u_ri u_t v_x v_o : Nat → Int32} {g : Nat → Int64} {Q : State → Prop} {args : Array Value} {ls : Array Slot} (X : LX p l s m args c b L xs D cI cJ) (hL : L ≤ 3072) (hjL : j ≤ L) (hr : rl u_z u_r u_t v_x v_o) (hl : lv_has ls 7 [(0, .ref b), (1, .ref xC), (2, .ref yX), (3, .ref xO), (4, .int (nI j))]) (hP : va_P D classes [oC xC xP, oP xP xM xR xG xT u_z, oM xM xW, ar cI xW 512 u_M, oR xR xD xA u_r, ar cI xD 8 u_d, ar cI xA 8 u_a, oG xG xL xH xI, ar cI xL 6 u_lo, ar cI xH 6 u_hi, ar cI xI 6 u_ri, oT xT u_t, oX yX yM yD yA yO yL yH yI v_x, ar cI yM 512 u_M, ar cI yD 8 u_d, ar cI yA 8 u_a, ar cI yO 4 v_o, ar cI yL 6 u_lo, ar cI yH 6 u_hi, ar cI yI 6 u_ri, aj cJ xO g] H) (hD : va_D (fun q => s.heap.size ≤ q) [oC xC xP, oP xP xM xR xG xT u_z, oM xM xW, ar cI xW 512 u_M, oR xR xD xA u_r, ar cI xD 8 u_d, ar cI xA 8 u_a, oG xG xL xH xI, ar cI xL 6 u_lo, ar cI xH 6 u_hi, ar cI xI 6 u_ri, oT xT u_t, oX yX yM yD yA yO yL yH yI v_x, ar cI yM 512 u_M, ar cI yD 8 u_d, ar cI yA 8 u_a, ar cI yO 4 v_o, ar cI yL 6 u_lo, ar cI yH 6 u_hi, ar cI yI 6 u_ri, aj cJ xO g]) (hS : va_S (fun q => s.heap.size ≤ q) s.heap H locs) (hc : j + 6 ≤ L → cells + 1 ≤ room_1.cells ∧ slots + 6 ≤ room_1.slots)
    (hend : ∀ ls : Array Slot, W p l e room_1 s m args below meth c H locs cells slots Q (F0 m 722 ls []))
    (hN : j + 6 ≤ L → ∀ (u_z u_M u_r u_d u_a u_lo u_hi u_ri u_t v_x v_o : Nat → Int32) (g : Nat → Int64) (H : Heap) (locs : List Loc) (ls : Array Slot), rl u_z u_r u_t v_x v_o → lv_has ls 7 [(0, .ref b), (1, .ref xC), (2, .ref yX), (3, .ref xO), (4, .int (nI j))] → va_P D classes [oC xC xP, oP xP xM xR xG xT u_z, oM xM xW, ar cI xW 512 u_M, oR xR xD xA u_r, ar cI xD 8 u_d, ar cI xA 8 u_a, oG xG xL xH xI, ar cI xL 6 u_lo, ar cI xH 6 u_hi, ar cI xI 6 u_ri, oT xT u_t, oX yX yM yD yA yO yL yH yI v_x, ar cI yM 512 u_M, ar cI yD 8 u_d, ar cI yA 8 u_a, ar cI yO 4 v_o, ar cI yL 6 u_lo, ar cI yH 6 u_hi, ar cI yI 6 u_ri, aj cJ xO g] H → va_D (fun q => s.heap.size ≤ q) [oC xC xP, oP xP xM xR xG xT u_z, oM xM xW, ar cI xW 512 u_M, oR xR xD xA u_r, ar cI xD 8 u_d, ar cI xA 8 u_a, oG xG xL xH xI, ar cI xL 6 u_lo, ar cI xH 6 u_hi, ar cI xI 6 u_ri, oT xT u_t, oX yX yM yD yA yO yL yH yI v_x, ar cI yM 512 u_M, ar cI yD 8 u_d, ar cI yA 8 u_a, ar cI yO 4 v_o, ar cI yL 6 u_lo, ar cI yH 6 u_hi, ar cI yI 6 u_ri, aj cJ xO g] → va_S (fun q => s.heap.size ≤ q) s.heap H locs → W p l e room_1 s m args below meth c H locs (cells + 1) (slots + 6) Q (F0 m 716 ls [])) : W p l e room_1 s m args below meth c H locs cells slots Q (F0 m 23 ls []) := by
  have X0 := X
  obtain ⟨hx, hb, hml, hown, hts, hX, hbl, hK, hz, htr⟩ := X
  have hbA : ¬ s.heap.size ≤ b := Nat.not_le.mpr hbl
  refine lv_iload hx hb d_law_23 (lv_at hl 4 rfl) ?_
  refine lv_aload_n hx hb d_law_25 rfl (lv_at hl 0 rfl) ?_
  refine va_slen hx hb hX hbl hbA hS d_law_26 ?_
  refine lv_bipush (v := (6 : Int32)) hx hb d_law_27 (by decide) ?_
  refine lv_isub hx hb d_law_29 ?_
  refine lv_icmp_gt (tgt := 722) hx hb d_law_30 (by decide) (fun h => ?_) (fun h => ?_)
  · exact hend _
  have hj : j + 6 ≤ L := by
    rw [ni_lt, sub6 hL, nI_toInt (by omega)] at h
    omega
  have hc := hc hj
  have hN := hN hj
  refine lv_aload_n hx hb d_law_33 rfl (lv_at hl 0 rfl) ?_
  refine lv_iload hx hb d_law_34 (lv_at hl 4 rfl) ?_
  refine va_sld hx hb hX hbl hbA hS (sc0 hj hL) d_law_36 ?_
  refine lv_bipush (v := (15 : Int32)) hx hb d_law_37 (by decide) ?_
  refine lv_iand hx hb d_law_39 ?_
  obtain ⟨q, hq, e15⟩ := pk_andE (xs (nI j).toNatClampNeg) (m := (15 : Int32)) 4 (by decide)
  refine lv_topi (fun y hy => ?_)
  rw [e15] at hy
  subst hy
  have hq : q < 16 := hq
  rcases (show q = 0 ∨ q = 1 ∨ q = 2 ∨ q = 3 ∨ q = 4 ∨ q = 5 ∨ q = 6 ∨ q = 7 ∨ q = 8 ∨ q = 9 ∨ q = 10 ∨ q = 11 ∨ q = 12 ∨ q = 13 ∨ q = 14 ∨ q = 15 by omega) with rfl | rfl | rfl | rfl | rfl | rfl | rfl | rfl | rfl | rfl | rfl | rfl | rfl | rfl | rfl | rfl
  · refine lv_tableIn (off := 72) (tgt := 112) hx hb d_law_40 (by decide) (by decide) rfl (by decide) ?_
    exact lc_put X0 hj hL hr hl hP hD hS hc hN
  · refine lv_tableIn (off := 109) (tgt := 149) hx hb d_law_40 (by decide) (by decide) rfl (by decide) ?_
    exact lc_pool X0 hj hL hr hl hP hD hS hc hN
  · refine lv_tableIn (off := 157) (tgt := 197) hx hb d_law_40 (by decide) (by decide) rfl (by decide) ?_
    exact lc_tables X0 hj hL hr hl hP hD hS hc hN
  · refine lv_tableIn (off := 192) (tgt := 232) hx hb d_law_40 (by decide) (by decide) rfl (by decide) ?_
    exact lc_range X0 hj hL hr hl hP hD hS hc hN
  · refine lv_tableIn (off := 276) (tgt := 316) hx hb d_law_40 (by decide) (by decide) rfl (by decide) ?_
    exact lc_guard X0 hj hL hr hl hP hD hS hc hN
  · refine lv_tableIn (off := 315) (tgt := 355) hx hb d_law_40 (by decide) (by decide) rfl (by decide) ?_
    exact lc_timer X0 hj hL hr hl hP hD hS hc hN
  · refine lv_tableIn (off := 363) (tgt := 403) hx hb d_law_40 (by decide) (by decide) rfl (by decide) ?_
    exact lc_request X0 hj hL hr hl hP hD hS hc hN
  · refine lv_tableIn (off := 388) (tgt := 428) hx hb d_law_40 (by decide) (by decide) rfl (by decide) ?_
    exact lc_start X0 hj hL hr hl hP hD hS hc hN
  · refine lv_tableIn (off := 464) (tgt := 504) hx hb d_law_40 (by decide) (by decide) rfl (by decide) ?_
    exact lc_halt X0 hj hL hr hl hP hD hS hc hN
  · refine lv_tableIn (off := 477) (tgt := 517) hx hb d_law_40 (by decide) (by decide) rfl (by decide) ?_
    exact lc_run X0 hj hL hr hl hP hD hS hc hN
  · refine lv_tableIn (off := 533) (tgt := 573) hx hb d_law_40 (by decide) (by decide) rfl (by decide) ?_
    exact lc_register X0 hj hL hr hl hP hD hS hc hN
  · refine lv_tableIn (off := 601) (tgt := 641) hx hb d_law_40 (by decide) (by decide) rfl (by decide) ?_
    exact lc_word X0 hj hL hr hl hP hD hS hc hN
  · refine lv_tableIn (off := 626) (tgt := 666) hx hb d_law_40 (by decide) (by decide) rfl (by decide) ?_
    exact lc_look X0 hj hL hr hl hP hD hS hc hN
  · refine lv_tableIn (off := 651) (tgt := 691) hx hb d_law_40 (by decide) (by decide) rfl (by decide) ?_
    exact lc_list X0 hj hL hr hl hP hD hS hc hN
  · refine lv_tableOut (tgt := 716) hx hb d_law_40 (by decide) (by decide) ?_
    exact W.widen (Nat.le_succ _) (Nat.le_add_right _ _) (hN _ _ _ _ _ _ _ _ _ _ _ _ _ _ _ hr hl hP hD hS)
  · refine lv_tableOut (tgt := 716) hx hb d_law_40 (by decide) (by decide) ?_
    exact W.widen (Nat.le_succ _) (Nat.le_add_right _ _) (hN _ _ _ _ _ _ _ _ _ _ _ _ _ _ _ hr hl hP hD hS)
set_option maxHeartbeats 4000000 in
set_option maxRecDepth 100000 in
theorem law_loop {p : Program} {l : Launch} {e : Env} {s : State} {m : MethodId} {below : List Frame} {meth : Method} {c : Code} {b L xO : Nat} {cI cJ : ClassId} {xs : Nat → Int32} {D : va_G} {xC xP xM xW xR xD xA xG xL xH xI xT yX yM yD yA yO yL yH yI : Nat} (X : LX p l s m #[Value.ref b] c b L xs D cI cJ) (hL : L ≤ 3072) (hrt : meth.sig.returnType = ret) (hlocks : meth.locks = false) : ∀ (n k : Nat) (u_z u_M u_r u_d u_a u_lo u_hi u_ri u_t v_x v_o : Nat → Int32) (g : Nat → Int64) (H : Heap) (locs : List Loc) (ls : Array Slot), L < 6 * k + 6 * n + 6 → 6 * k ≤ L → rl u_z u_r u_t v_x v_o → lv_has ls 7 [(0, .ref b), (1, .ref xC), (2, .ref yX), (3, .ref xO), (4, .int (nI (6 * k)))] → va_P D classes [oC xC xP, oP xP xM xR xG xT u_z, oM xM xW, ar cI xW 512 u_M, oR xR xD xA u_r, ar cI xD 8 u_d, ar cI xA 8 u_a, oG xG xL xH xI, ar cI xL 6 u_lo, ar cI xH 6 u_hi, ar cI xI 6 u_ri, oT xT u_t, oX yX yM yD yA yO yL yH yI v_x, ar cI yM 512 u_M, ar cI yD 8 u_d, ar cI yA 8 u_a, ar cI yO 4 v_o, ar cI yL 6 u_lo, ar cI yH 6 u_hi, ar cI yI 6 u_ri, aj cJ xO g] H → va_D (fun q => s.heap.size ≤ q) [oC xC xP, oP xP xM xR xG xT u_z, oM xM xW, ar cI xW 512 u_M, oR xR xD xA u_r, ar cI xD 8 u_d, ar cI xA 8 u_a, oG xG xL xH xI, ar cI xL 6 u_lo, ar cI xH 6 u_hi, ar cI xI 6 u_ri, oT xT u_t, oX yX yM yD yA yO yL yH yI v_x, ar cI yM 512 u_M, ar cI yD 8 u_d, ar cI yA 8 u_a, ar cI yO 4 v_o, ar cI yL 6 u_lo, ar cI yH 6 u_hi, ar cI yI 6 u_ri, aj cJ xO g] → va_S (fun q => s.heap.size ≤ q) s.heap H locs → W p l e room_1 s m #[Value.ref b] below meth c H locs (21 + k) (1156 + 6 * k) (lw_Z below #[Value.ref b] s) (F0 m 23 ls []) := by
  intro n
  have hx := X.1
  have hb := X.2.1
  have hend : ∀ (k : Nat) (H : Heap) (locs : List Loc) (ls : Array Slot), 6 * k ≤ L → va_S (fun q => s.heap.size ≤ q) s.heap H locs → W p l e room_1 s m #[Value.ref b] below meth c H locs (21 + k) (1156 + 6 * k) (lw_Z below #[Value.ref b] s) (F0 m 722 ls []) := by
    intro k H locs ls hk hS
    refine va_forget (fun q h => hS.2.2 q h) ?_
    refine W.widen (k := 1054) (n := 9402) (by omega) (by omega) ?_
    refine lv_iconst (v := (1 : Int32)) hx hb d_law_722 rfl ?_
    exact lw_ret hx hb hrt hlocks d_law_723
  induction n with
  | zero =>
    intro k u_z u_M u_r u_d u_a u_lo u_hi u_ri u_t v_x v_o g H locs ls hn hk hr hl hP hD hS
    refine law_head X hL hk hr hl hP hD hS (fun h => absurd h (by omega)) (fun ls => hend k H locs ls hk hS) (fun h => absurd h (by omega))
  | succ n ih =>
    intro k u_z u_M u_r u_d u_a u_lo u_hi u_ri u_t v_x v_o g H locs ls hn hk hr hl hP hD hS
    refine law_head X hL hk hr hl hP hD hS (fun h => ⟨show 21 + k + 1 ≤ 1054 by omega, show 1156 + 6 * k + 6 ≤ 9402 by omega⟩) (fun ls => hend k H locs ls hk hS) (fun h => ?_)
    intro u_z u_M u_r u_d u_a u_lo u_hi u_ri u_t v_x v_o g H locs ls hr hl hP hD hS
    refine lv_iinc (k := 4) (v := nI (6 * (k + 1))) hx hb d_law_716 hl rfl ?_ (by decide) rfl (fun ls hl => ?_)
    · rw [show Int32.ofInt 6 = nI 6 from by decide, nI_add]
      exact congrArg nI (by omega)
    refine lv_goto (tgt := 23) hx hb d_law_719 (by decide) ?_
    exact ih (k + 1) u_z u_M u_r u_d u_a u_lo u_hi u_ri u_t v_x v_o g H locs ls (by omega) (by omega) hr (lv_sub hl [1, 2, 3, 4, 0] rfl) hP hD hS
theorem mw_arrJ : Cond.arrayClass .long ∈ wd := mt_4 (List.mem_of_getElem? (i := 59) (by decide +kernel)) (by decide +kernel)
theorem arr_of {s : State} {args : Array Value} {ty : FieldType} (h : (Cond.arrayClass ty).before args s = true) : ∃ cA, ArrOfT s cA ty ∧ s.vm.findClass ("[" ++ ty.toString) = some cA := by
  obtain ⟨cA, kA, comp, f1, f2, f3⟩ := Cond.arrayClass_spec h
  exact ⟨cA, fun N z => ⟨(fun k h => by cases h), kA, f2, comp, f3⟩, f1⟩
theorem one0 (j : Nat) (hj : j < 1) : defaultValue (ty_C j) = vp_V [.null] j := by
  obtain rfl : j = 0 := by omega
  rfl
theorem known_all {s : State} {args : Array Value} (hts : ∀ w ∈ wd, w.before args s = true) : ∃ (D : va_G) (cI : ClassId), va_K D classes [(cI, .int)] s := by
  obtain ⟨c0, i0, k0⟩ := u_known hts in_M (hts _ mw_379)
  obtain ⟨c1, i1, k1⟩ := u_known hts in_R (hts _ mw_384)
  obtain ⟨c2, i2, k2⟩ := u_known hts in_G (hts _ mw_389)
  obtain ⟨c3, i3, k3⟩ := u_known hts in_T (hts _ mw_394)
  obtain ⟨c4, i4, k4⟩ := u_known hts in_P (hts _ mw_399)
  obtain ⟨c5, i5, k5⟩ := u_known hts in_C (hts _ mw_547)
  obtain ⟨c6, i6, k6⟩ := u_known hts in_X (hts _ mw_548)
  obtain ⟨cI, a1, a2⟩ := arr_of (hts _ mw_arrI)
  refine ⟨(fun k => ([c0, c1, c2, c3, c4, c5, c6] : List ClassId).getD k 0, fun k => ([i0, i1, i2, i3, i4, i5, i6] : List (Nat → Nat)).getD k (fun _ => 0)), cI, fun c q h => ?_, fun k q h => ?_⟩
  · rcases (show c = 0 ∨ c = 1 ∨ c = 2 ∨ c = 3 ∨ c = 4 ∨ c = 5 ∨ c = 6 ∨ 7 ≤ c by omega) with rfl | rfl | rfl | rfl | rfl | rfl | rfl | hc
    · obtain rfl := Option.some.inj h
      exact k0
    · obtain rfl := Option.some.inj h
      exact k1
    · obtain rfl := Option.some.inj h
      exact k2
    · obtain rfl := Option.some.inj h
      exact k3
    · obtain rfl := Option.some.inj h
      exact k4
    · obtain rfl := Option.some.inj h
      exact k5
    · obtain rfl := Option.some.inj h
      exact k6
    · rw [List.getElem?_eq_none (show classes.length ≤ c from hc)] at h
      cases h
  · rcases (show k = 0 ∨ 1 ≤ k by omega) with rfl | hk
    · obtain rfl := Option.some.inj h
      exact ⟨a1, a2⟩
    · rw [List.getElem?_eq_none (show ([(cI, FieldType.int)] : List (ClassId × FieldType)).length ≤ k from hk)] at h
      cases h
theorem zth_start {s : State} {args : Array Value} (hts : ∀ w ∈ lw_tbl, w.before args s = true) (hgv : (Jvm.Cond.and given_1 narrow_1).before args s = true) : zTh s := by
  have hs := flat_of_before _ hgv
  have h1 : zS1.before args s = true := hs _ (by decide +kernel)
  have h2 : zS2.before args s = true := hs _ (by decide +kernel)
  have h3 : (Cond.not (Cond.castable nISE nIAE)).before args s = true := hs _ (by decide +kernel)
  refine ⟨fun w hw hf => ?_, st_isRef (V := s) (U := s) rfl (fun _ _ h => h) h1, st_isRef (V := s) (U := s) rfl (fun _ _ h => h) h2, fun k tx hm => ?_, ?_⟩
  · rw [f2_args hf #[] args]; exact hts w hw
  · obtain ⟨cC, kC, hfc, -⟩ := Cond.instantiable_spec (hts _ (List.mem_filter.mp mw_547).1)
    obtain ⟨-, -, -, sa, -, -, -, -, -, hev⟩ := Cond.stringRef_spec hfc (hts _ hm)
    exact ⟨sa, vk_R.of (hts _ hm) hev⟩
  · cases hq : (Cond.castable nISE nIAE).before #[] s with
    | false => rfl
    | true =>
      exfalso
      have h4 : (Cond.castable nISE nIAE).before args s = true := hq
      simp only [Cond.before, Cond.holds, Cond.value] at h3 h4
      cases hv : (match s.vm.findClass nISE, s.vm.findClass nIAE with | some c, some d => some (s.vm.assignable c d) | _, _ => none) with
      | none => simp_all
      | some v => simp_all
set_option maxHeartbeats 4000000 in
set_option maxRecDepth 100000 in
theorem whole_start {p : Program} {e : Env} {s : State} {m : MethodId} {below : List Frame} {meth : Method} {c : Code} (l : Launch) (htr : l.stackTraces = false) {b L : Nat} {xs : Nat → Int32} (hL : L ≤ 3072) (C0 : lw_At p s m meth c b L xs) : W p l e room_1 s m #[Value.ref b] below meth c s.heap [] 0 0 (lw_Z below #[Value.ref b] s) (entryFrame m ([Value.ref b] : List Value).toArray 7) := by
  obtain ⟨hx, hb, hrt, hml, hown, htb, hX, hbl, hlocks, hgv⟩ := C0
  have hown : s.vm.findClass R_L = some m.cls := hown
  have hts : ∀ w ∈ wd, w.before #[Value.ref b] s = true := fun w h => htb w (List.mem_filter.mp h).1
  have hz := zth_start htb hgv
  have hNw : va_Nw (.methodLinkNest R_P 34 y_T_init "AreaCore") s := va_Nw.of rfl (htb _ (by decide +kernel))
  obtain ⟨D, cI, hK⟩ := known_all hts
  have hA : ∀ q : Nat, s.heap.size ≤ q → s.heap.size ≤ q := fun q h => h
  have hP : va_P D classes [] s.heap := fun k q h => nomatch h
  have hD : va_D (fun q => s.heap.size ≤ q) [] := ⟨fun i j p q h => (nomatch h), fun k q h => (nomatch h)⟩
  have hS : va_S (fun q => s.heap.size ≤ q) s.heap s.heap [] := va_S.rf
  rw [lg_entry_eq]
  have hl := lv_entry (n := 7) [Value.ref b] (Nat.le_of_ble_eq_true rfl)
  generalize (lg_sl [Value.ref b] ++ List.replicate (7 - (lg_sl [Value.ref b]).length) Slot.unset).toArray = ls at hl ⊢
  have hl : lv_has ls 7 [(0, .ref b)] := hl
  refine zz_new (ci := 5) (fs := [.null]) (C := R_C) (T := F_C) (N := 1) hx hb hts in_C ty_C ty_C_ok hown mw_545 mw_547 mw_408 hK hP hD hS hA rfl one0 (Nat.le_of_ble_eq_true rfl) (Nat.le_of_ble_eq_true rfl) d_law_0 (fun q0 H hP hD hS => ?_)
  have hP : va_P D classes [(q0, .inr (5, [.null]))] H := hP
  have hD : va_D (fun q => s.heap.size ≤ q) [(q0, .inr (5, [.null]))] := hD
  refine lv_dup hx hb d_law_3 rfl ?_
  refine zz_cInW (As := []) (rest := [.ref q0]) (wr := []) ⟨hx, hb, hml, hown, hts⟩ (k_C_init l D cI _ q0) hNw (zz_goodI wd_good mw_549) mw_550 mw_408 mw_551 rfl nd_C_init ⟨⟨rfl, rfl⟩, Nat.le_of_ble_eq_true rfl, Nat.le_of_ble_eq_true rfl⟩ hK hP hD hS hA [0] [] rfl rfl rfl rfl (by decide) rfl rfl hl.1 (Nat.le_of_ble_eq_true rfl) d_law_4 ⟨Nat.le_of_ble_eq_true rfl, Nat.le_of_ble_eq_true rfl⟩ (fun q1 H locs hP hD hS => ?_)
  have hP : va_P D classes [oC q0 (q1 0), oP (q1 0) (q1 1) (q1 3) (q1 6) (q1 10) (upd (fun _ => 0) 5 (-1 : Int32)), oM (q1 1) (q1 2), ar cI (q1 2) 512 (fun _ => 0), oR (q1 3) (q1 4) (q1 5) (fun _ => 0), ar cI (q1 4) 8 (fun _ => 0), ar cI (q1 5) 8 (fun _ => 0), oG (q1 6) (q1 7) (q1 8) (q1 9), ar cI (q1 7) 6 (fun _ => 0), ar cI (q1 8) 6 (fun _ => 0), ar cI (q1 9) 6 (fun _ => 0), oT (q1 10) (fun _ => 0)] H := hP
  have hD : va_D (fun q => s.heap.size ≤ q) [oC q0 (q1 0), oP (q1 0) (q1 1) (q1 3) (q1 6) (q1 10) (upd (fun _ => 0) 5 (-1 : Int32)), oM (q1 1) (q1 2), ar cI (q1 2) 512 (fun _ => 0), oR (q1 3) (q1 4) (q1 5) (fun _ => 0), ar cI (q1 4) 8 (fun _ => 0), ar cI (q1 5) 8 (fun _ => 0), oG (q1 6) (q1 7) (q1 8) (q1 9), ar cI (q1 7) 6 (fun _ => 0), ar cI (q1 8) 6 (fun _ => 0), ar cI (q1 9) 6 (fun _ => 0), oT (q1 10) (fun _ => 0)] := hD
  refine lv_astore_n hx hb d_law_7 rfl hl (by decide) rfl (fun ls hl => ?_)
  refine zz_new (ci := 6) (fs := [.int 0, .null, .null, .null, .null, .int 0, .int 0, .int 0, .int 0, .int 0, .int 0, .int 0, .int 0, .int 0, .int 0, .int 0, .int 0, .int 0, .null, .null, .null, .int 0, .int 0, .int 0, .int 0, .int 0, .int 0]) (C := R_X) (T := F_X) (N := 27) hx hb hts in_X ty_X ty_X_ok hown mw_546 mw_548 mw_318 hK hP hD hS hA rfl (fun j hj => by rcases (show j = 0 ∨ j = 1 ∨ j = 2 ∨ j = 3 ∨ j = 4 ∨ j = 5 ∨ j = 6 ∨ j = 7 ∨ j = 8 ∨ j = 9 ∨ j = 10 ∨ j = 11 ∨ j = 12 ∨ j = 13 ∨ j = 14 ∨ j = 15 ∨ j = 16 ∨ j = 17 ∨ j = 18 ∨ j = 19 ∨ j = 20 ∨ j = 21 ∨ j = 22 ∨ j = 23 ∨ j = 24 ∨ j = 25 ∨ j = 26 by omega) with rfl | rfl | rfl | rfl | rfl | rfl | rfl | rfl | rfl | rfl | rfl | rfl | rfl | rfl | rfl | rfl | rfl | rfl | rfl | rfl | rfl | rfl | rfl | rfl | rfl | rfl | rfl <;> rfl) (Nat.le_of_ble_eq_true rfl) (Nat.le_of_ble_eq_true rfl) d_law_8 (fun q2 H hP hD hS => ?_)
  have hP : va_P D classes [oC q0 (q1 0), oP (q1 0) (q1 1) (q1 3) (q1 6) (q1 10) (upd (fun _ => 0) 5 (-1 : Int32)), oM (q1 1) (q1 2), ar cI (q1 2) 512 (fun _ => 0), oR (q1 3) (q1 4) (q1 5) (fun _ => 0), ar cI (q1 4) 8 (fun _ => 0), ar cI (q1 5) 8 (fun _ => 0), oG (q1 6) (q1 7) (q1 8) (q1 9), ar cI (q1 7) 6 (fun _ => 0), ar cI (q1 8) 6 (fun _ => 0), ar cI (q1 9) 6 (fun _ => 0), oT (q1 10) (fun _ => 0), (q2, .inr (6, [.int 0, .null, .null, .null, .null, .int 0, .int 0, .int 0, .int 0, .int 0, .int 0, .int 0, .int 0, .int 0, .int 0, .int 0, .int 0, .int 0, .null, .null, .null, .int 0, .int 0, .int 0, .int 0, .int 0, .int 0]))] H := hP
  have hD : va_D (fun q => s.heap.size ≤ q) [oC q0 (q1 0), oP (q1 0) (q1 1) (q1 3) (q1 6) (q1 10) (upd (fun _ => 0) 5 (-1 : Int32)), oM (q1 1) (q1 2), ar cI (q1 2) 512 (fun _ => 0), oR (q1 3) (q1 4) (q1 5) (fun _ => 0), ar cI (q1 4) 8 (fun _ => 0), ar cI (q1 5) 8 (fun _ => 0), oG (q1 6) (q1 7) (q1 8) (q1 9), ar cI (q1 7) 6 (fun _ => 0), ar cI (q1 8) 6 (fun _ => 0), ar cI (q1 9) 6 (fun _ => 0), oT (q1 10) (fun _ => 0), (q2, .inr (6, [.int 0, .null, .null, .null, .null, .int 0, .int 0, .int 0, .int 0, .int 0, .int 0, .int 0, .int 0, .int 0, .int 0, .int 0, .int 0, .int 0, .null, .null, .null, .int 0, .int 0, .int 0, .int 0, .int 0, .int 0]))] := hD
  refine lv_dup hx hb d_law_11 rfl ?_
  refine zz_cIn (As := []) (rest := [.ref q2]) (wr := [oC q0 (q1 0), oP (q1 0) (q1 1) (q1 3) (q1 6) (q1 10) (upd (fun _ => 0) 5 (-1 : Int32)), oM (q1 1) (q1 2), ar cI (q1 2) 512 (fun _ => 0), oR (q1 3) (q1 4) (q1 5) (fun _ => 0), ar cI (q1 4) 8 (fun _ => 0), ar cI (q1 5) 8 (fun _ => 0), oG (q1 6) (q1 7) (q1 8) (q1 9), ar cI (q1 7) 6 (fun _ => 0), ar cI (q1 8) 6 (fun _ => 0), ar cI (q1 9) 6 (fun _ => 0), oT (q1 10) (fun _ => 0)]) ⟨hx, hb, hml, hown, hts⟩ (k_X_init l D cI _ q2) (zz_goodI wd_good mw_552) mw_553 mw_318 mw_554 rfl nd_X_init ⟨⟨rfl, rfl⟩, Nat.le_of_ble_eq_true rfl, Nat.le_of_ble_eq_true rfl⟩ hK hP hD hS hA [12] [0, 1, 2, 3, 4, 5, 6, 7, 8, 9, 10, 11] rfl rfl rfl rfl (by decide) rfl rfl hl.1 (Nat.le_of_ble_eq_true rfl) d_law_12 ⟨Nat.le_of_ble_eq_true rfl, Nat.le_of_ble_eq_true rfl⟩ (fun q3 H locs hP hD hS => ?_)
  have hP : va_P D classes [oC q0 (q1 0), oP (q1 0) (q1 1) (q1 3) (q1 6) (q1 10) (upd (fun _ => 0) 5 (-1 : Int32)), oM (q1 1) (q1 2), ar cI (q1 2) 512 (fun _ => 0), oR (q1 3) (q1 4) (q1 5) (fun _ => 0), ar cI (q1 4) 8 (fun _ => 0), ar cI (q1 5) 8 (fun _ => 0), oG (q1 6) (q1 7) (q1 8) (q1 9), ar cI (q1 7) 6 (fun _ => 0), ar cI (q1 8) 6 (fun _ => 0), ar cI (q1 9) 6 (fun _ => 0), oT (q1 10) (fun _ => 0), oX q2 (q3 0) (q3 1) (q3 2) (q3 3) (q3 4) (q3 5) (q3 6) (upd (upd (fun _ => 0) 10 (1 : Int32)) 15 (-1 : Int32)), ar cI (q3 0) 512 (fun _ => 0), ar cI (q3 1) 8 (fun _ => 0), ar cI (q3 2) 8 (fun _ => 0), ar cI (q3 3) 4 (fun _ => 0), ar cI (q3 4) 6 (fun _ => 0), ar cI (q3 5) 6 (fun _ => 0), ar cI (q3 6) 6 (fun _ => 0)] H := hP
  have hD : va_D (fun q => s.heap.size ≤ q) [oC q0 (q1 0), oP (q1 0) (q1 1) (q1 3) (q1 6) (q1 10) (upd (fun _ => 0) 5 (-1 : Int32)), oM (q1 1) (q1 2), ar cI (q1 2) 512 (fun _ => 0), oR (q1 3) (q1 4) (q1 5) (fun _ => 0), ar cI (q1 4) 8 (fun _ => 0), ar cI (q1 5) 8 (fun _ => 0), oG (q1 6) (q1 7) (q1 8) (q1 9), ar cI (q1 7) 6 (fun _ => 0), ar cI (q1 8) 6 (fun _ => 0), ar cI (q1 9) 6 (fun _ => 0), oT (q1 10) (fun _ => 0), oX q2 (q3 0) (q3 1) (q3 2) (q3 3) (q3 4) (q3 5) (q3 6) (upd (upd (fun _ => 0) 10 (1 : Int32)) 15 (-1 : Int32)), ar cI (q3 0) 512 (fun _ => 0), ar cI (q3 1) 8 (fun _ => 0), ar cI (q3 2) 8 (fun _ => 0), ar cI (q3 3) 4 (fun _ => 0), ar cI (q3 4) 6 (fun _ => 0), ar cI (q3 5) 6 (fun _ => 0), ar cI (q3 6) 6 (fun _ => 0)] := hD
  refine lv_astore_n hx hb d_law_15 rfl hl (by decide) rfl (fun ls hl => ?_)
  refine lv_iconst (v := (1 : Int32)) hx hb d_law_16 rfl ?_
  refine va_newa (atype := .long) (ty := .long) (a0 := (1, .inr (.inl (fun _ => 0)))) hx hb (hts _ mw_arrJ) rfl hK hP hD hS hA (fun _ => rfl) (by decide) (by decide) (by decide) (Nat.le_of_ble_eq_true rfl) (Nat.le_of_ble_eq_true rfl) d_law_17 (fun xO cJ H hK hP hD hS => ?_)
  have hP : va_P D classes [oC q0 (q1 0), oP (q1 0) (q1 1) (q1 3) (q1 6) (q1 10) (upd (fun _ => 0) 5 (-1 : Int32)), oM (q1 1) (q1 2), ar cI (q1 2) 512 (fun _ => 0), oR (q1 3) (q1 4) (q1 5) (fun _ => 0), ar cI (q1 4) 8 (fun _ => 0), ar cI (q1 5) 8 (fun _ => 0), oG (q1 6) (q1 7) (q1 8) (q1 9), ar cI (q1 7) 6 (fun _ => 0), ar cI (q1 8) 6 (fun _ => 0), ar cI (q1 9) 6 (fun _ => 0), oT (q1 10) (fun _ => 0), oX q2 (q3 0) (q3 1) (q3 2) (q3 3) (q3 4) (q3 5) (q3 6) (upd (upd (fun _ => 0) 10 (1 : Int32)) 15 (-1 : Int32)), ar cI (q3 0) 512 (fun _ => 0), ar cI (q3 1) 8 (fun _ => 0), ar cI (q3 2) 8 (fun _ => 0), ar cI (q3 3) 4 (fun _ => 0), ar cI (q3 4) 6 (fun _ => 0), ar cI (q3 5) 6 (fun _ => 0), ar cI (q3 6) 6 (fun _ => 0), aj cJ xO (fun _ => 0)] H := hP
  have hD : va_D (fun q => s.heap.size ≤ q) [oC q0 (q1 0), oP (q1 0) (q1 1) (q1 3) (q1 6) (q1 10) (upd (fun _ => 0) 5 (-1 : Int32)), oM (q1 1) (q1 2), ar cI (q1 2) 512 (fun _ => 0), oR (q1 3) (q1 4) (q1 5) (fun _ => 0), ar cI (q1 4) 8 (fun _ => 0), ar cI (q1 5) 8 (fun _ => 0), oG (q1 6) (q1 7) (q1 8) (q1 9), ar cI (q1 7) 6 (fun _ => 0), ar cI (q1 8) 6 (fun _ => 0), ar cI (q1 9) 6 (fun _ => 0), oT (q1 10) (fun _ => 0), oX q2 (q3 0) (q3 1) (q3 2) (q3 3) (q3 4) (q3 5) (q3 6) (upd (upd (fun _ => 0) 10 (1 : Int32)) 15 (-1 : Int32)), ar cI (q3 0) 512 (fun _ => 0), ar cI (q3 1) 8 (fun _ => 0), ar cI (q3 2) 8 (fun _ => 0), ar cI (q3 3) 4 (fun _ => 0), ar cI (q3 4) 6 (fun _ => 0), ar cI (q3 5) 6 (fun _ => 0), ar cI (q3 6) 6 (fun _ => 0), aj cJ xO (fun _ => 0)] := hD
  have hK : va_K D classes [(cI, .int), (cJ, .long)] s := hK
  refine lv_astore_n hx hb d_law_19 rfl hl (by decide) rfl (fun ls hl => ?_)
  refine lv_iconst (v := nI (6 * 0)) hx hb d_law_20 (by decide) ?_
  refine lv_istore hx hb d_law_21 hl (by decide) rfl (fun ls hl => ?_)
  refine W.widen (k := 21 + 0) (n := 1156 + 6 * 0) (Nat.le_of_ble_eq_true rfl) (Nat.le_of_ble_eq_true rfl) ?_
  exact law_loop ⟨hx, hb, hml, hown, hts, hX, hbl, hK, hz, htr⟩ hL hrt hlocks L 0 _ _ _ _ _ _ _ _ _ _ _ _ _ _ _ (by omega) (by omega) rl_init (lv_sub hl [4, 3, 2, 1, 0] rfl) hP hD hS
