theorem d_C_pool_23 : decode b_C_pool 23 = .ok (.dup, 1) := by decide +kernel
theorem d_C_pool_24 : decode b_C_pool 24 = .ok (.ldc 32, 2) := by decide +kernel
theorem d_C_pool_26 : decode b_C_pool 26 = .ok (.invokespecial 34, 3) := by decide +kernel
theorem d_C_pool_29 : decode b_C_pool 29 = .ok (.athrow, 1) := by decide +kernel
theorem d_C_pool_43 : decode b_C_pool 43 = .ok (.dup, 1) := by decide +kernel
theorem d_C_pool_44 : decode b_C_pool 44 = .ok (.ldc 43, 2) := by decide +kernel
theorem d_C_pool_46 : decode b_C_pool 46 = .ok (.invokespecial 45, 3) := by decide +kernel
theorem d_C_pool_49 : decode b_C_pool 49 = .ok (.athrow, 1) := by decide +kernel
theorem d_C_range_21 : decode b_C_range 21 = .ok (.dup, 1) := by decide +kernel
theorem d_C_range_22 : decode b_C_range 22 = .ok (.ldc 72, 2) := by decide +kernel
theorem d_C_range_24 : decode b_C_range 24 = .ok (.invokespecial 34, 3) := by decide +kernel
theorem d_C_range_27 : decode b_C_range 27 = .ok (.athrow, 1) := by decide +kernel
theorem d_C_range_42 : decode b_C_range 42 = .ok (.dup, 1) := by decide +kernel
theorem d_C_range_43 : decode b_C_range 43 = .ok (.ldc 74, 2) := by decide +kernel
theorem d_C_range_45 : decode b_C_range 45 = .ok (.invokespecial 34, 3) := by decide +kernel
theorem d_C_range_48 : decode b_C_range 48 = .ok (.athrow, 1) := by decide +kernel
theorem d_C_register_22 : decode b_C_register 22 = .ok (.dup, 1) := by decide +kernel
theorem d_C_register_23 : decode b_C_register 23 = .ok (.ldc 123, 2) := by decide +kernel
theorem d_C_register_25 : decode b_C_register 25 = .ok (.invokespecial 125, 3) := by decide +kernel
theorem d_C_register_28 : decode b_C_register 28 = .ok (.athrow, 1) := by decide +kernel
theorem d_C_run_14 : decode b_C_run 14 = .ok (.dup, 1) := by decide +kernel
theorem d_C_run_15 : decode b_C_run 15 = .ok (.ldc 116, 2) := by decide +kernel
theorem d_C_run_17 : decode b_C_run 17 = .ok (.invokespecial 34, 3) := by decide +kernel
theorem d_C_run_20 : decode b_C_run 20 = .ok (.athrow, 1) := by decide +kernel
theorem d_C_start_12 : decode b_C_start 12 = .ok (.dup, 1) := by decide +kernel
theorem d_C_start_13 : decode b_C_start 13 = .ok (.ldc 110, 2) := by decide +kernel
theorem d_C_start_15 : decode b_C_start 15 = .ok (.invokespecial 34, 3) := by decide +kernel
theorem d_C_start_18 : decode b_C_start 18 = .ok (.athrow, 1) := by decide +kernel
theorem d_C_start_32 : decode b_C_start 32 = .ok (.dup, 1) := by decide +kernel
theorem d_C_start_33 : decode b_C_start 33 = .ok (.ldc 43, 2) := by decide +kernel
theorem d_C_start_35 : decode b_C_start 35 = .ok (.invokespecial 45, 3) := by decide +kernel
theorem d_C_start_38 : decode b_C_start 38 = .ok (.athrow, 1) := by decide +kernel
theorem d_C_timer_14 : decode b_C_timer 14 = .ok (.dup, 1) := by decide +kernel
theorem d_C_timer_15 : decode b_C_timer 15 = .ok (.ldc 92, 2) := by decide +kernel
theorem d_C_timer_17 : decode b_C_timer 17 = .ok (.invokespecial 34, 3) := by decide +kernel
theorem d_C_timer_20 : decode b_C_timer 20 = .ok (.athrow, 1) := by decide +kernel
theorem at_nIAE : ∀ w ∈ Bundle.ownAtoms R_C 34 nIAE nUp, w ∈ wd ∨ (isF2 w = true ∧ w ∈ lw_tbl) ∨ w = zS1 ∨ w = zS2 := by decide +kernel
theorem cl_nIAE : Cond.classLink R_C 30 nIAE ∈ wd ∧ Cond.initialized nIAE ∈ wd ∧ Cond.instantiable nIAE 6 ∈ wd := by decide +kernel
theorem th_1 : thOk nIAE 30 32 34 "no such pool" := ⟨cl_nIAE.1, cl_nIAE.2.1, cl_nIAE.2.2, by decide +kernel, by decide +kernel, at_nIAE⟩
theorem at_nISE : ∀ w ∈ Bundle.ownAtoms R_C 45 nISE nUp, w ∈ wd ∨ (isF2 w = true ∧ w ∈ lw_tbl) ∨ w = zS1 ∨ w = zS2 := by decide +kernel
theorem cl_nISE : Cond.classLink R_C 41 nISE ∈ wd ∧ Cond.initialized nISE ∈ wd ∧ Cond.instantiable nISE 6 ∈ wd := by decide +kernel
theorem th_2 : thOk nISE 41 43 45 "it runs" := ⟨cl_nISE.1, cl_nISE.2.1, cl_nISE.2.2, by decide +kernel, by decide +kernel, at_nISE⟩
theorem th_3 : thOk nIAE 30 72 34 "no such set or range" := ⟨cl_nIAE.1, cl_nIAE.2.1, cl_nIAE.2.2, by decide +kernel, by decide +kernel, at_nIAE⟩
theorem th_4 : thOk nIAE 30 74 34 "no such rights" := ⟨cl_nIAE.1, cl_nIAE.2.1, cl_nIAE.2.2, by decide +kernel, by decide +kernel, at_nIAE⟩
theorem th_5 : thOk nIAE 30 92 34 "no such timer" := ⟨cl_nIAE.1, cl_nIAE.2.1, cl_nIAE.2.2, by decide +kernel, by decide +kernel, at_nIAE⟩
theorem th_6 : thOk nIAE 30 110 34 "no such level" := ⟨cl_nIAE.1, cl_nIAE.2.1, cl_nIAE.2.2, by decide +kernel, by decide +kernel, at_nIAE⟩
theorem th_7 : thOk nIAE 30 116 34 "no such number of steps" := ⟨cl_nIAE.1, cl_nIAE.2.1, cl_nIAE.2.2, by decide +kernel, by decide +kernel, at_nIAE⟩
theorem at_nIOB : ∀ w ∈ Bundle.ownAtoms R_C 125 nIOB nUp, w ∈ wd ∨ (isF2 w = true ∧ w ∈ lw_tbl) ∨ w = zS1 ∨ w = zS2 := by decide +kernel
theorem cl_nIOB : Cond.classLink R_C 121 nIOB ∈ wd ∧ Cond.initialized nIOB ∈ wd ∧ Cond.instantiable nIOB 6 ∈ wd := by decide +kernel
theorem th_8 : thOk nIOB 121 123 125 "no such register" := ⟨cl_nIOB.1, cl_nIOB.2.1, cl_nIOB.2.2, by decide +kernel, by decide +kernel, at_nIOB⟩
set_option maxHeartbeats 4000000 in
set_option maxRecDepth 100000 in
theorem kt_C_pool_1 (l : Launch) (htr : l.stackTraces = false) (D : va_G) (cI : ClassId) (sz : Nat) (xC : Nat) (xP : Nat) (xM : Nat) (xW : Nat) (xR : Nat) (xD : Nat) (xA : Nat) (xG : Nat) (xL : Nat) (xH : Nat) (xI : Nat) (xT : Nat) (u_z : Nat → Int32) (u_M : Nat → Int32) (u_r : Nat → Int32) (u_d : Nat → Int32) (u_a : Nat → Int32) (u_lo : Nat → Int32) (u_hi : Nat → Int32) (u_ri : Nat → Int32) (u_t : Nat → Int32) (a1 : Int32) (a2 : Int32) (hg : t_C_pool u_z u_M u_r u_d u_a u_lo u_hi u_ri u_t a1 a2 = (1 : Int32)) : zMt l y_C_pool (.code y_C_pool b_C_pool 3 (none) :: wd) { frames := 6, cells := 1, slots := 6, locals := 90 } D classes [(cI, .int)] [.ref xC, .int a1, .int a2] [oC xC xP, oP xP xM xR xG xT u_z, oM xM xW, ar cI xW 512 u_M, oR xR xD xA u_r, ar cI xD 8 u_d, ar cI xA 8 u_a, oG xG xL xH xI, ar cI xL 6 u_lo, ar cI xH 6 u_hi, ar cI xI 6 u_ri, oT xT u_t] sz nIAE := by
  refine met_t (by decide) rfl (Nat.le_of_ble_eq_true rfl) htr (by decide) ?_
  intro p e s m args below meth c Q ls hx hb hml hown hts hK hP hS hA hl hE
  have hl : lv_has ls 3 [(0, .ref xC), (1, .int a1), (2, .int a2)] := hl
  refine lv_iload_n hx hb d_C_pool_0 rfl (lv_at hl 1 rfl) ?_
  refine lv_if_lt (tgt := 20) hx hb d_C_pool_1 (by decide) (fun h1 => ?_) (fun h1 => ?_)
  ·
    exact hE _ _ _ _ _ _ _ _ th_1 hS hl.1 d_C_pool_20 d_C_pool_23 d_C_pool_24 d_C_pool_26 d_C_pool_29
  ·
    refine lv_iload_n hx hb d_C_pool_4 rfl (lv_at hl 1 rfl) ?_
    refine lv_bipush (v := (24 : Int32)) hx hb d_C_pool_5 (by decide) ?_
    refine lv_icmp_gt (tgt := 20) hx hb d_C_pool_7 (by decide) (fun h2 => ?_) (fun h2 => ?_)
    ·
      exact hE _ _ _ _ _ _ _ _ th_1 hS hl.1 d_C_pool_20 d_C_pool_23 d_C_pool_24 d_C_pool_26 d_C_pool_29
    ·
      refine lv_iload_n hx hb d_C_pool_10 rfl (lv_at hl 2 rfl) ?_
      refine lv_if_lt (tgt := 20) hx hb d_C_pool_11 (by decide) (fun h3 => ?_) (fun h3 => ?_)
      ·
        exact hE _ _ _ _ _ _ _ _ th_1 hS hl.1 d_C_pool_20 d_C_pool_23 d_C_pool_24 d_C_pool_26 d_C_pool_29
      ·
        refine lv_iload_n hx hb d_C_pool_14 rfl (lv_at hl 2 rfl) ?_
        refine lv_bipush (v := (31 : Int32)) hx hb d_C_pool_15 (by decide) ?_
        refine lv_icmp_le (tgt := 30) hx hb d_C_pool_17 (by decide) (fun h4 => ?_) (fun h4 => ?_)
        ·
          exact absurd hg (by unfold t_C_pool; rw [if_neg h1, if_neg h2, if_neg h3, if_pos h4]; first | decide | (split <;> decide))
        ·
          exact hE _ _ _ _ _ _ _ _ th_1 hS hl.1 d_C_pool_20 d_C_pool_23 d_C_pool_24 d_C_pool_26 d_C_pool_29
set_option maxHeartbeats 4000000 in
set_option maxRecDepth 100000 in
theorem kt_C_pool_2 (l : Launch) (htr : l.stackTraces = false) (D : va_G) (cI : ClassId) (sz : Nat) (xC : Nat) (xP : Nat) (xM : Nat) (xW : Nat) (xR : Nat) (xD : Nat) (xA : Nat) (xG : Nat) (xL : Nat) (xH : Nat) (xI : Nat) (xT : Nat) (u_z : Nat → Int32) (u_M : Nat → Int32) (u_r : Nat → Int32) (u_d : Nat → Int32) (u_a : Nat → Int32) (u_lo : Nat → Int32) (u_hi : Nat → Int32) (u_ri : Nat → Int32) (u_t : Nat → Int32) (a1 : Int32) (a2 : Int32) (hg : t_C_pool u_z u_M u_r u_d u_a u_lo u_hi u_ri u_t a1 a2 = (2 : Int32)) : zMt l y_C_pool (.code y_C_pool b_C_pool 3 (none) :: wd) { frames := 6, cells := 1, slots := 6, locals := 90 } D classes [(cI, .int)] [.ref xC, .int a1, .int a2] [oC xC xP, oP xP xM xR xG xT u_z, oM xM xW, ar cI xW 512 u_M, oR xR xD xA u_r, ar cI xD 8 u_d, ar cI xA 8 u_a, oG xG xL xH xI, ar cI xL 6 u_lo, ar cI xH 6 u_hi, ar cI xI 6 u_ri, oT xT u_t] sz nISE := by
  refine met_t (by decide) rfl (Nat.le_of_ble_eq_true rfl) htr (by decide) ?_
  intro p e s m args below meth c Q ls hx hb hml hown hts hK hP hS hA hl hE
  have hl : lv_has ls 3 [(0, .ref xC), (1, .int a1), (2, .int a2)] := hl
  refine lv_iload_n hx hb d_C_pool_0 rfl (lv_at hl 1 rfl) ?_
  refine lv_if_lt (tgt := 20) hx hb d_C_pool_1 (by decide) (fun h1 => ?_) (fun h1 => ?_)
  ·
    exact absurd hg (by unfold t_C_pool; rw [if_pos h1]; first | decide | (split <;> decide))
  ·
    refine lv_iload_n hx hb d_C_pool_4 rfl (lv_at hl 1 rfl) ?_
    refine lv_bipush (v := (24 : Int32)) hx hb d_C_pool_5 (by decide) ?_
    refine lv_icmp_gt (tgt := 20) hx hb d_C_pool_7 (by decide) (fun h2 => ?_) (fun h2 => ?_)
    ·
      exact absurd hg (by unfold t_C_pool; rw [if_neg h1, if_pos h2]; first | decide | (split <;> decide))
    ·
      refine lv_iload_n hx hb d_C_pool_10 rfl (lv_at hl 2 rfl) ?_
      refine lv_if_lt (tgt := 20) hx hb d_C_pool_11 (by decide) (fun h3 => ?_) (fun h3 => ?_)
      ·
        exact absurd hg (by unfold t_C_pool; rw [if_neg h1, if_neg h2, if_pos h3]; first | decide | (split <;> decide))
      ·
        refine lv_iload_n hx hb d_C_pool_14 rfl (lv_at hl 2 rfl) ?_
        refine lv_bipush (v := (31 : Int32)) hx hb d_C_pool_15 (by decide) ?_
        refine lv_icmp_le (tgt := 30) hx hb d_C_pool_17 (by decide) (fun h4 => ?_) (fun h4 => ?_)
        ·
          refine lv_aload_n hx hb d_C_pool_30 rfl (lv_at hl 0 rfl) ?_
          refine zz_get (C := R_C) (T := F_C) (N := 1) (v := .ref xP) hx hb hts in_C hown hK hP 0 rfl rfl 0 (by decide) mw_43 rfl d_C_pool_31 ?_
          refine zz_get (C := R_P) (T := F_P) (N := 10) (v := .int (u_z 0)) hx hb hts in_P hown hK hP 1 rfl rfl 4 (by decide) mw_45 rfl d_C_pool_34 ?_
          refine lv_if_eq (tgt := 50) hx hb d_C_pool_37 (by decide) (fun h5 => ?_) (fun h5 => ?_)
          ·
            exact absurd hg (by unfold t_C_pool; rw [if_neg h1, if_neg h2, if_neg h3, if_pos h4, if_pos h5]; first | decide | (split <;> decide))
          ·
            exact hE _ _ _ _ _ _ _ _ th_2 hS hl.1 d_C_pool_40 d_C_pool_43 d_C_pool_44 d_C_pool_46 d_C_pool_49
        ·
          exact absurd hg (by unfold t_C_pool; rw [if_neg h1, if_neg h2, if_neg h3, if_neg h4]; first | decide | (split <;> decide))
set_option maxHeartbeats 4000000 in
set_option maxRecDepth 100000 in
theorem kt_C_range_1 (l : Launch) (htr : l.stackTraces = false) (D : va_G) (cI : ClassId) (sz : Nat) (xC : Nat) (xP : Nat) (xM : Nat) (xW : Nat) (xR : Nat) (xD : Nat) (xA : Nat) (xG : Nat) (xL : Nat) (xH : Nat) (xI : Nat) (xT : Nat) (u_z : Nat → Int32) (u_M : Nat → Int32) (u_r : Nat → Int32) (u_d : Nat → Int32) (u_a : Nat → Int32) (u_lo : Nat → Int32) (u_hi : Nat → Int32) (u_ri : Nat → Int32) (u_t : Nat → Int32) (a1 : Int32) (a2 : Int32) (a3 : Int32) (a4 : Int32) (a5 : Int32) (hg : t_C_range u_z u_M u_r u_d u_a u_lo u_hi u_ri u_t a1 a2 a3 a4 a5 = (1 : Int32)) : zMt l y_C_range (.code y_C_range b_C_range 6 (none) :: wd) { frames := 6, cells := 1, slots := 6, locals := 90 } D classes [(cI, .int)] [.ref xC, .int a1, .int a2, .int a3, .int a4, .int a5] [oC xC xP, oP xP xM xR xG xT u_z, oM xM xW, ar cI xW 512 u_M, oR xR xD xA u_r, ar cI xD 8 u_d, ar cI xA 8 u_a, oG xG xL xH xI, ar cI xL 6 u_lo, ar cI xH 6 u_hi, ar cI xI 6 u_ri, oT xT u_t] sz nIAE := by
  refine met_t (by decide) rfl (Nat.le_of_ble_eq_true rfl) htr (by decide) ?_
  intro p e s m args below meth c Q ls hx hb hml hown hts hK hP hS hA hl hE
  have hl : lv_has ls 6 [(0, .ref xC), (1, .int a1), (2, .int a2), (3, .int a3), (4, .int a4), (5, .int a5)] := hl
  refine lv_iload_n hx hb d_C_range_0 rfl (lv_at hl 1 rfl) ?_
  refine lv_if_lt (tgt := 18) hx hb d_C_range_1 (by decide) (fun h1 => ?_) (fun h1 => ?_)
  ·
    exact hE _ _ _ _ _ _ _ _ th_3 hS hl.1 d_C_range_18 d_C_range_21 d_C_range_22 d_C_range_24 d_C_range_27
  ·
    refine lv_iload_n hx hb d_C_range_4 rfl (lv_at hl 1 rfl) ?_
    refine lv_iconst (v := (2 : Int32)) hx hb d_C_range_5 (by decide) ?_
    refine lv_icmp_ge (tgt := 18) hx hb d_C_range_6 (by decide) (fun h2 => ?_) (fun h2 => ?_)
    ·
      exact hE _ _ _ _ _ _ _ _ th_3 hS hl.1 d_C_range_18 d_C_range_21 d_C_range_22 d_C_range_24 d_C_range_27
    ·
      refine lv_iload_n hx hb d_C_range_9 rfl (lv_at hl 2 rfl) ?_
      refine lv_if_lt (tgt := 18) hx hb d_C_range_10 (by decide) (fun h3 => ?_) (fun h3 => ?_)
      ·
        exact hE _ _ _ _ _ _ _ _ th_3 hS hl.1 d_C_range_18 d_C_range_21 d_C_range_22 d_C_range_24 d_C_range_27
      ·
        refine lv_iload_n hx hb d_C_range_13 rfl (lv_at hl 2 rfl) ?_
        refine lv_iconst (v := (3 : Int32)) hx hb d_C_range_14 (by decide) ?_
        refine lv_icmp_lt (tgt := 28) hx hb d_C_range_15 (by decide) (fun h4 => ?_) (fun h4 => ?_)
        ·
          refine lv_iload hx hb d_C_range_28 (lv_at hl 5 rfl) ?_
          refine lv_if_lt (tgt := 39) hx hb d_C_range_30 (by decide) (fun h5 => ?_) (fun h5 => ?_)
          ·
            exact hE _ _ _ _ _ _ _ _ th_4 hS hl.1 d_C_range_39 d_C_range_42 d_C_range_43 d_C_range_45 d_C_range_48
          ·
            refine lv_iload hx hb d_C_range_33 (lv_at hl 5 rfl) ?_
            refine lv_iconst (v := (3 : Int32)) hx hb d_C_range_35 (by decide) ?_
            refine lv_icmp_le (tgt := 49) hx hb d_C_range_36 (by decide) (fun h6 => ?_) (fun h6 => ?_)
            ·
              exact absurd hg (by unfold t_C_range; rw [if_neg h1, if_neg h2, if_neg h3, if_pos h4, if_neg h5, if_pos h6]; first | decide | (split <;> decide))
            ·
              exact hE _ _ _ _ _ _ _ _ th_4 hS hl.1 d_C_range_39 d_C_range_42 d_C_range_43 d_C_range_45 d_C_range_48
        ·
          exact hE _ _ _ _ _ _ _ _ th_3 hS hl.1 d_C_range_18 d_C_range_21 d_C_range_22 d_C_range_24 d_C_range_27
set_option maxHeartbeats 4000000 in
set_option maxRecDepth 100000 in
theorem kt_C_timer_1 (l : Launch) (htr : l.stackTraces = false) (D : va_G) (cI : ClassId) (sz : Nat) (xC : Nat) (xP : Nat) (xM : Nat) (xW : Nat) (xR : Nat) (xD : Nat) (xA : Nat) (xG : Nat) (xL : Nat) (xH : Nat) (xI : Nat) (xT : Nat) (u_z : Nat → Int32) (u_M : Nat → Int32) (u_r : Nat → Int32) (u_d : Nat → Int32) (u_a : Nat → Int32) (u_lo : Nat → Int32) (u_hi : Nat → Int32) (u_ri : Nat → Int32) (u_t : Nat → Int32) (a1 : Int32) (a2 : Int32) (hg : t_C_timer u_z u_M u_r u_d u_a u_lo u_hi u_ri u_t a1 a2 = (1 : Int32)) : zMt l y_C_timer (.code y_C_timer b_C_timer 3 (none) :: wd) { frames := 6, cells := 1, slots := 6, locals := 90 } D classes [(cI, .int)] [.ref xC, .int a1, .int a2] [oC xC xP, oP xP xM xR xG xT u_z, oM xM xW, ar cI xW 512 u_M, oR xR xD xA u_r, ar cI xD 8 u_d, ar cI xA 8 u_a, oG xG xL xH xI, ar cI xL 6 u_lo, ar cI xH 6 u_hi, ar cI xI 6 u_ri, oT xT u_t] sz nIAE := by
  refine met_t (by decide) rfl (Nat.le_of_ble_eq_true rfl) htr (by decide) ?_
  intro p e s m args below meth c Q ls hx hb hml hown hts hK hP hS hA hl hE
  have hl : lv_has ls 3 [(0, .ref xC), (1, .int a1), (2, .int a2)] := hl
  have hP : va_P D classes [] s.heap := fun k q h => nomatch h
  have hD : va_D (fun q => s.heap.size ≤ q) [] := ⟨fun i j p q h => (nomatch h), fun k q h => (nomatch h)⟩
  refine lv_iload_n hx hb d_C_timer_0 rfl (lv_at hl 1 rfl) ?_
  refine lv_if_lt (tgt := 11) hx hb d_C_timer_1 (by decide) (fun h1 => ?_) (fun h1 => ?_)
  ·
    exact hE _ _ _ _ _ _ _ _ th_5 hS hl.1 d_C_timer_11 d_C_timer_14 d_C_timer_15 d_C_timer_17 d_C_timer_20
  ·
    refine lv_iload_n hx hb d_C_timer_4 rfl (lv_at hl 2 rfl) ?_
    refine zz_cS0 (rest := []) ⟨hx, hb, hml, hown, hts⟩ (k_T_has l D cI _ a2) g_C_timer_T_has_89 nd_T_has ⟨⟨rfl, rfl⟩, Nat.le_of_ble_eq_true rfl, Nat.le_of_ble_eq_true rfl⟩ hK hP hD hS hA rfl rfl hl.1 (Nat.le_of_ble_eq_true rfl) d_C_timer_5 ⟨Nat.zero_le _, Nat.zero_le _⟩ (fun H locs hP hD hS => ?_)
    refine lv_if_ne (tgt := 21) hx hb d_C_timer_8 (by decide) (fun h2 => ?_) (fun h2 => ?_)
    ·
      exact absurd hg (by unfold t_C_timer; rw [if_neg h1, if_neg h2]; first | decide | (split <;> decide))
    ·
      exact hE _ _ _ _ _ _ _ _ th_5 hS hl.1 d_C_timer_11 d_C_timer_14 d_C_timer_15 d_C_timer_17 d_C_timer_20
set_option maxHeartbeats 4000000 in
set_option maxRecDepth 100000 in
theorem kt_C_start_1 (l : Launch) (htr : l.stackTraces = false) (D : va_G) (cI : ClassId) (sz : Nat) (xC : Nat) (xP : Nat) (xM : Nat) (xW : Nat) (xR : Nat) (xD : Nat) (xA : Nat) (xG : Nat) (xL : Nat) (xH : Nat) (xI : Nat) (xT : Nat) (u_z : Nat → Int32) (u_M : Nat → Int32) (u_r : Nat → Int32) (u_d : Nat → Int32) (u_a : Nat → Int32) (u_lo : Nat → Int32) (u_hi : Nat → Int32) (u_ri : Nat → Int32) (u_t : Nat → Int32) (a1 : Int32) (a2 : Int32) (a3 : Int32) (hg : t_C_start u_z u_M u_r u_d u_a u_lo u_hi u_ri u_t a1 a2 a3 = (1 : Int32)) : zMt l y_C_start (.code y_C_start b_C_start 4 (none) :: wd) { frames := 6, cells := 1, slots := 6, locals := 90 } D classes [(cI, .int)] [.ref xC, .int a1, .int a2, .int a3] [oC xC xP, oP xP xM xR xG xT u_z, oM xM xW, ar cI xW 512 u_M, oR xR xD xA u_r, ar cI xD 8 u_d, ar cI xA 8 u_a, oG xG xL xH xI, ar cI xL 6 u_lo, ar cI xH 6 u_hi, ar cI xI 6 u_ri, oT xT u_t] sz nIAE := by
  refine met_t (by decide) rfl (Nat.le_of_ble_eq_true rfl) htr (by decide) ?_
  intro p e s m args below meth c Q ls hx hb hml hown hts hK hP hS hA hl hE
  have hl : lv_has ls 4 [(0, .ref xC), (1, .int a1), (2, .int a2), (3, .int a3)] := hl
  refine lv_iload_n hx hb d_C_start_0 rfl (lv_at hl 2 rfl) ?_
  refine lv_if_lt (tgt := 9) hx hb d_C_start_1 (by decide) (fun h1 => ?_) (fun h1 => ?_)
  ·
    exact hE _ _ _ _ _ _ _ _ th_6 hS hl.1 d_C_start_9 d_C_start_12 d_C_start_13 d_C_start_15 d_C_start_18
  ·
    refine lv_iload_n hx hb d_C_start_4 rfl (lv_at hl 2 rfl) ?_
    refine lv_iconst (v := (2 : Int32)) hx hb d_C_start_5 (by decide) ?_
    refine lv_icmp_le (tgt := 19) hx hb d_C_start_6 (by decide) (fun h2 => ?_) (fun h2 => ?_)
    ·
      exact absurd hg (by unfold t_C_start; rw [if_neg h1, if_pos h2]; first | decide | (split <;> decide))
    ·
      exact hE _ _ _ _ _ _ _ _ th_6 hS hl.1 d_C_start_9 d_C_start_12 d_C_start_13 d_C_start_15 d_C_start_18
set_option maxHeartbeats 4000000 in
set_option maxRecDepth 100000 in
theorem kt_C_start_2 (l : Launch) (htr : l.stackTraces = false) (D : va_G) (cI : ClassId) (sz : Nat) (xC : Nat) (xP : Nat) (xM : Nat) (xW : Nat) (xR : Nat) (xD : Nat) (xA : Nat) (xG : Nat) (xL : Nat) (xH : Nat) (xI : Nat) (xT : Nat) (u_z : Nat → Int32) (u_M : Nat → Int32) (u_r : Nat → Int32) (u_d : Nat → Int32) (u_a : Nat → Int32) (u_lo : Nat → Int32) (u_hi : Nat → Int32) (u_ri : Nat → Int32) (u_t : Nat → Int32) (a1 : Int32) (a2 : Int32) (a3 : Int32) (hg : t_C_start u_z u_M u_r u_d u_a u_lo u_hi u_ri u_t a1 a2 a3 = (2 : Int32)) : zMt l y_C_start (.code y_C_start b_C_start 4 (none) :: wd) { frames := 6, cells := 1, slots := 6, locals := 90 } D classes [(cI, .int)] [.ref xC, .int a1, .int a2, .int a3] [oC xC xP, oP xP xM xR xG xT u_z, oM xM xW, ar cI xW 512 u_M, oR xR xD xA u_r, ar cI xD 8 u_d, ar cI xA 8 u_a, oG xG xL xH xI, ar cI xL 6 u_lo, ar cI xH 6 u_hi, ar cI xI 6 u_ri, oT xT u_t] sz nISE := by
  refine met_t (by decide) rfl (Nat.le_of_ble_eq_true rfl) htr (by decide) ?_
  intro p e s m args below meth c Q ls hx hb hml hown hts hK hP hS hA hl hE
  have hl : lv_has ls 4 [(0, .ref xC), (1, .int a1), (2, .int a2), (3, .int a3)] := hl
  refine lv_iload_n hx hb d_C_start_0 rfl (lv_at hl 2 rfl) ?_
  refine lv_if_lt (tgt := 9) hx hb d_C_start_1 (by decide) (fun h1 => ?_) (fun h1 => ?_)
  ·
    exact absurd hg (by unfold t_C_start; rw [if_pos h1]; first | decide | (split <;> decide))
  ·
    refine lv_iload_n hx hb d_C_start_4 rfl (lv_at hl 2 rfl) ?_
    refine lv_iconst (v := (2 : Int32)) hx hb d_C_start_5 (by decide) ?_
    refine lv_icmp_le (tgt := 19) hx hb d_C_start_6 (by decide) (fun h2 => ?_) (fun h2 => ?_)
    ·
      refine lv_aload_n hx hb d_C_start_19 rfl (lv_at hl 0 rfl) ?_
      refine zz_get (C := R_C) (T := F_C) (N := 1) (v := .ref xP) hx hb hts in_C hown hK hP 0 rfl rfl 0 (by decide) mw_43 rfl d_C_start_20 ?_
      refine zz_get (C := R_P) (T := F_P) (N := 10) (v := .int (u_z 0)) hx hb hts in_P hown hK hP 1 rfl rfl 4 (by decide) mw_45 rfl d_C_start_23 ?_
      refine lv_if_eq (tgt := 39) hx hb d_C_start_26 (by decide) (fun h3 => ?_) (fun h3 => ?_)
      ·
        exact absurd hg (by unfold t_C_start; rw [if_neg h1, if_pos h2, if_pos h3]; first | decide | (split <;> decide))
      ·
        exact hE _ _ _ _ _ _ _ _ th_2 hS hl.1 d_C_start_29 d_C_start_32 d_C_start_33 d_C_start_35 d_C_start_38
    ·
      exact absurd hg (by unfold t_C_start; rw [if_neg h1, if_neg h2]; first | decide | (split <;> decide))
set_option maxHeartbeats 4000000 in
set_option maxRecDepth 100000 in
theorem kt_C_run_1 (l : Launch) (htr : l.stackTraces = false) (D : va_G) (cI : ClassId) (sz : Nat) (xC : Nat) (xP : Nat) (xM : Nat) (xW : Nat) (xR : Nat) (xD : Nat) (xA : Nat) (xG : Nat) (xL : Nat) (xH : Nat) (xI : Nat) (xT : Nat) (u_z : Nat → Int32) (u_M : Nat → Int32) (u_r : Nat → Int32) (u_d : Nat → Int32) (u_a : Nat → Int32) (u_lo : Nat → Int32) (u_hi : Nat → Int32) (u_ri : Nat → Int32) (u_t : Nat → Int32) (a1 : Int32) (hg : t_C_run u_z u_M u_r u_d u_a u_lo u_hi u_ri u_t a1 = (1 : Int32)) : zMt l y_C_run (.code y_C_run b_C_run 3 (some .int) :: wd) { frames := 6, cells := 1, slots := 6, locals := 90 } D classes [(cI, .int)] [.ref xC, .int a1] [oC xC xP, oP xP xM xR xG xT u_z, oM xM xW, ar cI xW 512 u_M, oR xR xD xA u_r, ar cI xD 8 u_d, ar cI xA 8 u_a, oG xG xL xH xI, ar cI xL 6 u_lo, ar cI xH 6 u_hi, ar cI xI 6 u_ri, oT xT u_t] sz nIAE := by
  refine met_t (by decide) rfl (Nat.le_of_ble_eq_true rfl) htr (by decide) ?_
  intro p e s m args below meth c Q ls hx hb hml hown hts hK hP hS hA hl hE
  have hl : lv_has ls 3 [(0, .ref xC), (1, .int a1)] := hl
  refine lv_iload_n hx hb d_C_run_0 rfl (lv_at hl 1 rfl) ?_
  refine lv_if_lt (tgt := 11) hx hb d_C_run_1 (by decide) (fun h1 => ?_) (fun h1 => ?_)
  ·
    exact hE _ _ _ _ _ _ _ _ th_7 hS hl.1 d_C_run_11 d_C_run_14 d_C_run_15 d_C_run_17 d_C_run_20
  ·
    refine lv_iload_n hx hb d_C_run_4 rfl (lv_at hl 1 rfl) ?_
    refine lv_sipush (v := (300 : Int32)) hx hb d_C_run_5 (by decide) ?_
    refine lv_icmp_le (tgt := 21) hx hb d_C_run_8 (by decide) (fun h2 => ?_) (fun h2 => ?_)
    ·
      exact absurd hg (by unfold t_C_run; rw [if_neg h1, if_pos h2]; first | decide | (split <;> decide))
    ·
      exact hE _ _ _ _ _ _ _ _ th_7 hS hl.1 d_C_run_11 d_C_run_14 d_C_run_15 d_C_run_17 d_C_run_20
set_option maxHeartbeats 4000000 in
set_option maxRecDepth 100000 in
theorem kt_C_register_1 (l : Launch) (htr : l.stackTraces = false) (D : va_G) (cI : ClassId) (sz : Nat) (xC : Nat) (xP : Nat) (xM : Nat) (xW : Nat) (xR : Nat) (xD : Nat) (xA : Nat) (xG : Nat) (xL : Nat) (xH : Nat) (xI : Nat) (xT : Nat) (u_z : Nat → Int32) (u_M : Nat → Int32) (u_r : Nat → Int32) (u_d : Nat → Int32) (u_a : Nat → Int32) (u_lo : Nat → Int32) (u_hi : Nat → Int32) (u_ri : Nat → Int32) (u_t : Nat → Int32) (a1 : Int32) (a2 : Int32) (hg : t_C_register u_z u_M u_r u_d u_a u_lo u_hi u_ri u_t a1 a2 = (1 : Int32)) : zMt l y_C_register (.code y_C_register b_C_register 3 (some .int) :: wd) { frames := 6, cells := 1, slots := 6, locals := 90 } D classes [(cI, .int)] [.ref xC, .int a1, .int a2] [oC xC xP, oP xP xM xR xG xT u_z, oM xM xW, ar cI xW 512 u_M, oR xR xD xA u_r, ar cI xD 8 u_d, ar cI xA 8 u_a, oG xG xL xH xI, ar cI xL 6 u_lo, ar cI xH 6 u_hi, ar cI xI 6 u_ri, oT xT u_t] sz nIOB := by
  refine met_t (by decide) rfl (Nat.le_of_ble_eq_true rfl) htr (by decide) ?_
  intro p e s m args below meth c Q ls hx hb hml hown hts hK hP hS hA hl hE
  have hl : lv_has ls 3 [(0, .ref xC), (1, .int a1), (2, .int a2)] := hl
  refine lv_iload_n hx hb d_C_register_0 rfl (lv_at hl 1 rfl) ?_
  refine lv_if_lt (tgt := 19) hx hb d_C_register_1 (by decide) (fun h1 => ?_) (fun h1 => ?_)
  ·
    exact hE _ _ _ _ _ _ _ _ th_8 hS hl.1 d_C_register_19 d_C_register_22 d_C_register_23 d_C_register_25 d_C_register_28
  ·
    refine lv_iload_n hx hb d_C_register_4 rfl (lv_at hl 1 rfl) ?_
    refine lv_iconst (v := (1 : Int32)) hx hb d_C_register_5 (by decide) ?_
    refine lv_icmp_gt (tgt := 19) hx hb d_C_register_6 (by decide) (fun h2 => ?_) (fun h2 => ?_)
    ·
      exact hE _ _ _ _ _ _ _ _ th_8 hS hl.1 d_C_register_19 d_C_register_22 d_C_register_23 d_C_register_25 d_C_register_28
    ·
      refine lv_iload_n hx hb d_C_register_9 rfl (lv_at hl 2 rfl) ?_
      refine lv_if_lt (tgt := 19) hx hb d_C_register_10 (by decide) (fun h3 => ?_) (fun h3 => ?_)
      ·
        exact hE _ _ _ _ _ _ _ _ th_8 hS hl.1 d_C_register_19 d_C_register_22 d_C_register_23 d_C_register_25 d_C_register_28
      ·
        refine lv_iload_n hx hb d_C_register_13 rfl (lv_at hl 2 rfl) ?_
        refine lv_bipush (v := (7 : Int32)) hx hb d_C_register_14 (by decide) ?_
        refine lv_icmp_le (tgt := 29) hx hb d_C_register_16 (by decide) (fun h4 => ?_) (fun h4 => ?_)
        ·
          exact absurd hg (by unfold t_C_register; rw [if_neg h1, if_neg h2, if_neg h3, if_pos h4]; first | decide | (split <;> decide))
        ·
          exact hE _ _ _ _ _ _ _ _ th_8 hS hl.1 d_C_register_19 d_C_register_22 d_C_register_23 d_C_register_25 d_C_register_28
