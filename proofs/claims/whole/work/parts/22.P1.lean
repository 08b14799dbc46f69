set_option maxHeartbeats 4000000 in
set_option maxRecDepth 100000 in
theorem k_P_needsTopLevel (l : Launch) (D : va_G) (cI : ClassId) (sz : Nat) (a1 : Int32) : zMi l y_P_needsTopLevel (.code y_P_needsTopLevel b_P_needsTopLevel 1 (some .boolean) :: wd) { frames := 0, cells := 0, slots := 0, locals := 0 } D classes [] [.int a1] [] [] sz (s_P_needsTopLevel a1) := by
  refine met_i (by decide) (Nat.le_of_ble_eq_true rfl) (zz_nar (bo_P_needsTopLevel a1)) ?_
  intro p e s m args below meth c A Q ls hx hb hml hown hts hK hP hD hS hA hl hE
  have hl : lv_has ls 1 [(0, .int a1)] := hl
  have hown : s.vm.findClass R_P = some m.cls := hown
  refine lv_iload_n hx hb d_P_needsTopLevel_0 rfl (lv_at hl 0 rfl) ?_
  refine lv_bipush (v := (25 : Int32)) hx hb d_P_needsTopLevel_1 (by decide) ?_
  refine lv_icmp_eq (tgt := 30) hx hb d_P_needsTopLevel_3 (by decide) (fun h1 => ?_) (fun h1 => ?_)
  ·
    refine lv_iconst (v := (1 : Int32)) hx hb d_P_needsTopLevel_30 (by decide) ?_
    refine lv_goto (tgt := 35) hx hb d_P_needsTopLevel_31 (by decide) ?_
    have hsp : s_P_needsTopLevel a1 = (1 : Int32) := (by unfold s_P_needsTopLevel; rw [if_pos h1])
    rw [hsp] at hE
    exact hE _ _ _ _ hP hD hS d_P_needsTopLevel_35
  ·
    refine lv_iload_n hx hb d_P_needsTopLevel_6 rfl (lv_at hl 0 rfl) ?_
    refine lv_bipush (v := (26 : Int32)) hx hb d_P_needsTopLevel_7 (by decide) ?_
    refine lv_icmp_eq (tgt := 30) hx hb d_P_needsTopLevel_9 (by decide) (fun h2 => ?_) (fun h2 => ?_)
    ·
      refine lv_iconst (v := (1 : Int32)) hx hb d_P_needsTopLevel_30 (by decide) ?_
      refine lv_goto (tgt := 35) hx hb d_P_needsTopLevel_31 (by decide) ?_
      have hsp : s_P_needsTopLevel a1 = (1 : Int32) := (by unfold s_P_needsTopLevel; rw [if_neg h1, if_pos h2])
      rw [hsp] at hE
      exact hE _ _ _ _ hP hD hS d_P_needsTopLevel_35
    ·
      refine lv_iload_n hx hb d_P_needsTopLevel_12 rfl (lv_at hl 0 rfl) ?_
      refine lv_bipush (v := (28 : Int32)) hx hb d_P_needsTopLevel_13 (by decide) ?_
      refine lv_icmp_eq (tgt := 30) hx hb d_P_needsTopLevel_15 (by decide) (fun h3 => ?_) (fun h3 => ?_)
      ·
        refine lv_iconst (v := (1 : Int32)) hx hb d_P_needsTopLevel_30 (by decide) ?_
        refine lv_goto (tgt := 35) hx hb d_P_needsTopLevel_31 (by decide) ?_
        have hsp : s_P_needsTopLevel a1 = (1 : Int32) := (by unfold s_P_needsTopLevel; rw [if_neg h1, if_neg h2, if_pos h3])
        rw [hsp] at hE
        exact hE _ _ _ _ hP hD hS d_P_needsTopLevel_35
      ·
        refine lv_iload_n hx hb d_P_needsTopLevel_18 rfl (lv_at hl 0 rfl) ?_
        refine lv_bipush (v := (29 : Int32)) hx hb d_P_needsTopLevel_19 (by decide) ?_
        refine lv_icmp_eq (tgt := 30) hx hb d_P_needsTopLevel_21 (by decide) (fun h4 => ?_) (fun h4 => ?_)
        ·
          refine lv_iconst (v := (1 : Int32)) hx hb d_P_needsTopLevel_30 (by decide) ?_
          refine lv_goto (tgt := 35) hx hb d_P_needsTopLevel_31 (by decide) ?_
          have hsp : s_P_needsTopLevel a1 = (1 : Int32) := (by unfold s_P_needsTopLevel; rw [if_neg h1, if_neg h2, if_neg h3, if_pos h4])
          rw [hsp] at hE
          exact hE _ _ _ _ hP hD hS d_P_needsTopLevel_35
        ·
          refine lv_iload_n hx hb d_P_needsTopLevel_24 rfl (lv_at hl 0 rfl) ?_
          refine lv_bipush (v := (31 : Int32)) hx hb d_P_needsTopLevel_25 (by decide) ?_
          refine lv_icmp_ne (tgt := 34) hx hb d_P_needsTopLevel_27 (by decide) (fun h5 => ?_) (fun h5 => ?_)
          ·
            refine lv_iconst (v := (0 : Int32)) hx hb d_P_needsTopLevel_34 (by decide) ?_
            have hsp : s_P_needsTopLevel a1 = (0 : Int32) := (by unfold s_P_needsTopLevel; rw [if_neg h1, if_neg h2, if_neg h3, if_neg h4, if_neg h5])
            rw [hsp] at hE
            exact hE _ _ _ _ hP hD hS d_P_needsTopLevel_35
          ·
            refine lv_iconst (v := (1 : Int32)) hx hb d_P_needsTopLevel_30 (by decide) ?_
            refine lv_goto (tgt := 35) hx hb d_P_needsTopLevel_31 (by decide) ?_
            have hsp : s_P_needsTopLevel a1 = (1 : Int32) := (by unfold s_P_needsTopLevel; rw [if_neg h1, if_neg h2, if_neg h3, if_neg h4, if_pos h5])
            rw [hsp] at hE
            exact hE _ _ _ _ hP hD hS d_P_needsTopLevel_35
set_option maxHeartbeats 4000000 in
set_option maxRecDepth 100000 in
theorem k_P_fieldA (l : Launch) (D : va_G) (cI : ClassId) (sz : Nat) (a1 : Int32) : zMi l y_P_fieldA (.code y_P_fieldA b_P_fieldA 1 (some .int) :: wd) { frames := 0, cells := 0, slots := 0, locals := 0 } D classes [] [.int a1] [] [] sz (s_P_fieldA a1) := by
  refine met_i (by decide) (Nat.le_of_ble_eq_true rfl) rfl ?_
  intro p e s m args below meth c A Q ls hx hb hml hown hts hK hP hD hS hA hl hE
  have hl : lv_has ls 1 [(0, .int a1)] := hl
  have hown : s.vm.findClass R_P = some m.cls := hown
  refine lv_iload_n hx hb d_P_fieldA_0 rfl (lv_at hl 0 rfl) ?_
  refine lv_iconst (v := (5 : Int32)) hx hb d_P_fieldA_1 (by decide) ?_
  refine lv_ishr hx hb d_P_fieldA_2 ?_
  refine lv_bipush (v := (7 : Int32)) hx hb d_P_fieldA_3 (by decide) ?_
  refine lv_iand hx hb d_P_fieldA_5 ?_
  have hsp : s_P_fieldA a1 = ((a1 >>> ((5 : Int32) &&& 31)) &&& (7 : Int32)) := rfl
  rw [hsp] at hE
  exact hE _ _ _ _ hP hD hS d_P_fieldA_6
set_option maxHeartbeats 4000000 in
set_option maxRecDepth 100000 in
theorem k_P_fieldB (l : Launch) (D : va_G) (cI : ClassId) (sz : Nat) (a1 : Int32) : zMi l y_P_fieldB (.code y_P_fieldB b_P_fieldB 1 (some .int) :: wd) { frames := 0, cells := 0, slots := 0, locals := 0 } D classes [] [.int a1] [] [] sz (s_P_fieldB a1) := by
  refine met_i (by decide) (Nat.le_of_ble_eq_true rfl) rfl ?_
  intro p e s m args below meth c A Q ls hx hb hml hown hts hK hP hD hS hA hl hE
  have hl : lv_has ls 1 [(0, .int a1)] := hl
  have hown : s.vm.findClass R_P = some m.cls := hown
  refine lv_iload_n hx hb d_P_fieldB_0 rfl (lv_at hl 0 rfl) ?_
  refine lv_bipush (v := (8 : Int32)) hx hb d_P_fieldB_1 (by decide) ?_
  refine lv_ishr hx hb d_P_fieldB_3 ?_
  refine lv_bipush (v := (7 : Int32)) hx hb d_P_fieldB_4 (by decide) ?_
  refine lv_iand hx hb d_P_fieldB_6 ?_
  have hsp : s_P_fieldB a1 = ((a1 >>> ((8 : Int32) &&& 31)) &&& (7 : Int32)) := rfl
  rw [hsp] at hE
  exact hE _ _ _ _ hP hD hS d_P_fieldB_7
set_option maxHeartbeats 4000000 in
set_option maxRecDepth 100000 in
theorem k_P_fieldC (l : Launch) (D : va_G) (cI : ClassId) (sz : Nat) (a1 : Int32) : zMi l y_P_fieldC (.code y_P_fieldC b_P_fieldC 1 (some .int) :: wd) { frames := 0, cells := 0, slots := 0, locals := 0 } D classes [] [.int a1] [] [] sz (s_P_fieldC a1) := by
  refine met_i (by decide) (Nat.le_of_ble_eq_true rfl) rfl ?_
  intro p e s m args below meth c A Q ls hx hb hml hown hts hK hP hD hS hA hl hE
  have hl : lv_has ls 1 [(0, .int a1)] := hl
  have hown : s.vm.findClass R_P = some m.cls := hown
  refine lv_iload_n hx hb d_P_fieldC_0 rfl (lv_at hl 0 rfl) ?_
  refine lv_bipush (v := (11 : Int32)) hx hb d_P_fieldC_1 (by decide) ?_
  refine lv_ishr hx hb d_P_fieldC_3 ?_
  refine lv_bipush (v := (7 : Int32)) hx hb d_P_fieldC_4 (by decide) ?_
  refine lv_iand hx hb d_P_fieldC_6 ?_
  have hsp : s_P_fieldC a1 = ((a1 >>> ((11 : Int32) &&& 31)) &&& (7 : Int32)) := rfl
  rw [hsp] at hE
  exact hE _ _ _ _ hP hD hS d_P_fieldC_7
set_option maxHeartbeats 4000000 in
set_option maxRecDepth 100000 in
theorem k_P_amount (l : Launch) (D : va_G) (cI : ClassId) (sz : Nat) (a1 : Int32) : zMi l y_P_amount (.code y_P_amount b_P_amount 1 (some .int) :: wd) { frames := 0, cells := 0, slots := 0, locals := 0 } D classes [] [.int a1] [] [] sz (s_P_amount a1) := by
  refine met_i (by decide) (Nat.le_of_ble_eq_true rfl) rfl ?_
  intro p e s m args below meth c A Q ls hx hb hml hown hts hK hP hD hS hA hl hE
  have hl : lv_has ls 1 [(0, .int a1)] := hl
  have hown : s.vm.findClass R_P = some m.cls := hown
  refine lv_iload_n hx hb d_P_amount_0 rfl (lv_at hl 0 rfl) ?_
  refine lv_bipush (v := (16 : Int32)) hx hb d_P_amount_1 (by decide) ?_
  refine lv_ishr hx hb d_P_amount_3 ?_
  have hsp : s_P_amount a1 = (a1 >>> ((16 : Int32) &&& 31)) := rfl
  rw [hsp] at hE
  exact hE _ _ _ _ hP hD hS d_P_amount_4
set_option maxHeartbeats 4000000 in
set_option maxRecDepth 100000 in
theorem k_P_isGuarded (l : Launch) (D : va_G) (cI : ClassId) (sz : Nat) (xP : Nat) (xM : Nat) (xW : Nat) (xR : Nat) (xD : Nat) (xA : Nat) (xG : Nat) (xL : Nat) (xH : Nat) (xI : Nat) (xT : Nat) (u_z : Nat → Int32) (u_M : Nat → Int32) (u_r : Nat → Int32) (u_d : Nat → Int32) (u_a : Nat → Int32) (u_lo : Nat → Int32) (u_hi : Nat → Int32) (u_ri : Nat → Int32) (u_t : Nat → Int32) : zMi l y_P_isGuarded (.code y_P_isGuarded b_P_isGuarded 1 (some .boolean) :: wd) { frames := 0, cells := 0, slots := 0, locals := 0 } D classes [(cI, .int)] [.ref xP] [oP xP xM xR xG xT u_z, oM xM xW, ar cI xW 512 u_M, oR xR xD xA u_r, ar cI xD 8 u_d, ar cI xA 8 u_a, oG xG xL xH xI, ar cI xL 6 u_lo, ar cI xH 6 u_hi, ar cI xI 6 u_ri, oT xT u_t] [oP xP xM xR xG xT u_z, oM xM xW, ar cI xW 512 u_M, oR xR xD xA u_r, ar cI xD 8 u_d, ar cI xA 8 u_a, oG xG xL xH xI, ar cI xL 6 u_lo, ar cI xH 6 u_hi, ar cI xI 6 u_ri, oT xT u_t] sz (s_P_isGuarded u_z u_M u_r u_d u_a u_lo u_hi u_ri u_t) := by
  refine met_i (by decide) (Nat.le_of_ble_eq_true rfl) (zz_nar (bo_P_isGuarded u_z u_M u_r u_d u_a u_lo u_hi u_ri u_t)) ?_
  intro p e s m args below meth c A Q ls hx hb hml hown hts hK hP hD hS hA hl hE
  have hl : lv_has ls 1 [(0, .ref xP)] := hl
  have hown : s.vm.findClass R_P = some m.cls := hown
  refine lv_aload_n hx hb d_P_isGuarded_0 rfl (lv_at hl 0 rfl) ?_
  refine zz_get (C := R_P) (T := F_P) (N := 10) (v := .int (u_z 1)) hx hb hts in_P hown hK hP 0 rfl rfl 5 (by decide) mw_21 rfl d_P_isGuarded_1 ?_
  refine lv_if_eq (tgt := 22) hx hb d_P_isGuarded_4 (by decide) (fun h1 => ?_) (fun h1 => ?_)
  ·
    refine lv_iconst (v := (0 : Int32)) hx hb d_P_isGuarded_22 (by decide) ?_
    have hsp : s_P_isGuarded u_z u_M u_r u_d u_a u_lo u_hi u_ri u_t = (0 : Int32) := (by unfold s_P_isGuarded; rw [if_pos h1])
    rw [hsp] at hE
    exact hE _ _ _ _ hP hD hS d_P_isGuarded_23
  ·
    refine lv_aload_n hx hb d_P_isGuarded_7 rfl (lv_at hl 0 rfl) ?_
    refine zz_get (C := R_P) (T := F_P) (N := 10) (v := .ref xR) hx hb hts in_P hown hK hP 0 rfl rfl 1 (by decide) mw_22 rfl d_P_isGuarded_8 ?_
    refine zz_get (C := R_R) (T := F_R) (N := 12) (v := .int (u_r 4)) hx hb hts in_R hown hK hP 3 rfl rfl 6 (by decide) mw_23 rfl d_P_isGuarded_11 ?_
    refine lv_iconst (v := (2 : Int32)) hx hb d_P_isGuarded_14 (by decide) ?_
    refine lv_icmp_eq (tgt := 22) hx hb d_P_isGuarded_15 (by decide) (fun h2 => ?_) (fun h2 => ?_)
    ·
      refine lv_iconst (v := (0 : Int32)) hx hb d_P_isGuarded_22 (by decide) ?_
      have hsp : s_P_isGuarded u_z u_M u_r u_d u_a u_lo u_hi u_ri u_t = (0 : Int32) := (by unfold s_P_isGuarded; rw [if_neg h1, if_pos h2])
      rw [hsp] at hE
      exact hE _ _ _ _ hP hD hS d_P_isGuarded_23
    ·
      refine lv_iconst (v := (1 : Int32)) hx hb d_P_isGuarded_18 (by decide) ?_
      refine lv_goto (tgt := 23) hx hb d_P_isGuarded_19 (by decide) ?_
      have hsp : s_P_isGuarded u_z u_M u_r u_d u_a u_lo u_hi u_ri u_t = (1 : Int32) := (by unfold s_P_isGuarded; rw [if_neg h1, if_neg h2])
      rw [hsp] at hE
      exact hE _ _ _ _ hP hD hS d_P_isGuarded_23
set_option maxHeartbeats 4000000 in
set_option maxRecDepth 100000 in
theorem k_P_takeInterrupt (l : Launch) (D : va_G) (cI : ClassId) (sz : Nat) (xP : Nat) (xM : Nat) (xW : Nat) (xR : Nat) (xD : Nat) (xA : Nat) (xG : Nat) (xL : Nat) (xH : Nat) (xI : Nat) (xT : Nat) (u_z : Nat → Int32) (u_M : Nat → Int32) (u_r : Nat → Int32) (u_d : Nat → Int32) (u_a : Nat → Int32) (u_lo : Nat → Int32) (u_hi : Nat → Int32) (u_ri : Nat → Int32) (u_t : Nat → Int32) (a1 : Int32) : zMv l y_P_takeInterrupt (.code y_P_takeInterrupt b_P_takeInterrupt 2 (none) :: wd) { frames := 3, cells := 0, slots := 0, locals := 68 } D classes [(cI, .int)] [.ref xP, .int a1] [oP xP xM xR xG xT u_z, oM xM xW, ar cI xW 512 u_M, oR xR xD xA u_r, ar cI xD 8 u_d, ar cI xA 8 u_a, oG xG xL xH xI, ar cI xL 6 u_lo, ar cI xH 6 u_hi, ar cI xI 6 u_ri, oT xT u_t] [oP xP xM xR xG xT ((s_P_takeInterrupt u_z u_M u_r u_d u_a u_lo u_hi u_ri u_t a1).1), oM xM xW, ar cI xW 512 ((s_P_takeInterrupt u_z u_M u_r u_d u_a u_lo u_hi u_ri u_t a1).2.1), oR xR xD xA ((s_P_takeInterrupt u_z u_M u_r u_d u_a u_lo u_hi u_ri u_t a1).2.2.1), ar cI xD 8 u_d, ar cI xA 8 ((s_P_takeInterrupt u_z u_M u_r u_d u_a u_lo u_hi u_ri u_t a1).2.2.2.1), oG xG xL xH xI, ar cI xL 6 u_lo, ar cI xH 6 u_hi, ar cI xI 6 u_ri, oT xT ((s_P_takeInterrupt u_z u_M u_r u_d u_a u_lo u_hi u_ri u_t a1).2.2.2.2)] sz := by
  refine met_v (by decide) (Nat.le_of_ble_eq_true rfl) ?_
  intro p e s m args below meth c A Q ls hx hb hml hown hts hK hP hD hS hA hl hE
  have hl : lv_has ls 2 [(0, .ref xP), (1, .int a1)] := hl
  have hown : s.vm.findClass R_P = some m.cls := hown
  refine lv_aload_n hx hb d_P_takeInterrupt_0 rfl (lv_at hl 0 rfl) ?_
  refine zz_get (C := R_P) (T := F_P) (N := 10) (v := .ref xR) hx hb hts in_P hown hK hP 0 rfl rfl 1 (by decide) mw_22 rfl d_P_takeInterrupt_1 ?_
  refine lv_aload_n hx hb d_P_takeInterrupt_4 rfl (lv_at hl 0 rfl) ?_
  refine zz_get (C := R_P) (T := F_P) (N := 10) (v := .ref xM) hx hb hts in_P hown hK hP 0 rfl rfl 0 (by decide) mw_24 rfl d_P_takeInterrupt_5 ?_
  refine lv_iconst (v := (1 : Int32)) hx hb d_P_takeInterrupt_8 (by decide) ?_
  refine zz_cVi (rest := []) (wr := [oP xP xM xR xG xT u_z, oG xG xL xH xI, ar cI xL 6 u_lo, ar cI xH 6 u_hi, ar cI xI 6 u_ri, oT xT u_t]) (w' := [oP xP xM xR xG xT u_z, oM xM xW, ar cI xW 512 ((s_R_keepU u_r u_d u_a u_M).2.2), oR xR xD xA ((s_R_keepU u_r u_d u_a u_M).2.1), ar cI xD 8 u_d, ar cI xA 8 u_a, oG xG xL xH xI, ar cI xL 6 u_lo, ar cI xH 6 u_hi, ar cI xI 6 u_ri, oT xT u_t]) ⟨hx, hb, hml, hown, hts⟩ (k_R_keepU l D cI _ xR xD xA xM xW u_r u_d u_a u_M) g_P_takeInterrupt_R_keep_87 nv_R_keep ⟨⟨rfl, rfl⟩, Nat.le_of_ble_eq_true rfl, Nat.le_of_ble_eq_true rfl⟩ hK [0] rfl hP hD hS hA [3, 4, 5, 1, 2] [0, 6, 7, 8, 9, 10] [0, 9, 10, 6, 7, 8, 1, 2, 3, 4, 5] rfl rfl rfl rfl (by decide) rfl rfl 3 1 rfl rfl rfl rfl hl.1 (Nat.le_of_ble_eq_true rfl) d_P_takeInterrupt_9 ⟨Nat.zero_le _, Nat.zero_le _⟩ (fun H locs hP hD hS => ?_)
  refine lv_if_ne (tgt := 21) hx hb d_P_takeInterrupt_12 (by decide) (fun h1 => ?_) (fun h1 => ?_)
  ·
    refine lv_aload_n hx hb d_P_takeInterrupt_21 rfl (lv_at hl 0 rfl) ?_
    refine zz_get (C := R_P) (T := F_P) (N := 10) (v := .ref xT) hx hb hts in_P hown hK hP 0 rfl rfl 3 (by decide) mw_25 rfl d_P_takeInterrupt_22 ?_
    refine lv_iload_n hx hb d_P_takeInterrupt_25 rfl (lv_at hl 1 rfl) ?_
    refine zz_cVv (rest := []) (wr := [oP xP xM xR xG xT u_z, oM xM xW, ar cI xW 512 ((s_R_keepU u_r u_d u_a u_M).2.2), oR xR xD xA ((s_R_keepU u_r u_d u_a u_M).2.1), ar cI xD 8 u_d, ar cI xA 8 u_a, oG xG xL xH xI, ar cI xL 6 u_lo, ar cI xH 6 u_hi, ar cI xI 6 u_ri]) (w' := [oP xP xM xR xG xT u_z, oM xM xW, ar cI xW 512 ((s_R_keepU u_r u_d u_a u_M).2.2), oR xR xD xA ((s_R_keepU u_r u_d u_a u_M).2.1), ar cI xD 8 u_d, ar cI xA 8 u_a, oG xG xL xH xI, ar cI xL 6 u_lo, ar cI xH 6 u_hi, ar cI xI 6 u_ri, oT xT (s_T_take u_t a1)]) ⟨hx, hb, hml, hown, hts⟩ (k_T_take l D cI _ xT u_t a1) g_P_takeInterrupt_T_take_91 nv_T_take ⟨⟨rfl, rfl⟩, Nat.le_of_ble_eq_true rfl, Nat.le_of_ble_eq_true rfl⟩ hK [0] rfl hP hD hS hA [10] [0, 1, 2, 3, 4, 5, 6, 7, 8, 9] [0, 1, 2, 3, 4, 5, 6, 7, 8, 9, 10] rfl rfl rfl rfl (by decide) rfl rfl 10 3 rfl rfl rfl rfl hl.1 (Nat.le_of_ble_eq_true rfl) d_P_takeInterrupt_26 ⟨Nat.zero_le _, Nat.zero_le _⟩ (fun H locs hP hD hS => ?_)
    refine lv_aload_n hx hb d_P_takeInterrupt_29 rfl (lv_at hl 0 rfl) ?_
    refine zz_get (C := R_P) (T := F_P) (N := 10) (v := .ref xR) hx hb hts in_P hown hK hP 0 rfl rfl 1 (by decide) mw_22 rfl d_P_takeInterrupt_30 ?_
    refine lv_iload_n hx hb d_P_takeInterrupt_33 rfl (lv_at hl 1 rfl) ?_
    refine zz_put (C := R_R) (T := F_R) (N := 12) (w' := [oP xP xM xR xG xT u_z, oM xM xW, ar cI xW 512 ((s_R_keepU u_r u_d u_a u_M).2.2), oR xR xD xA (upd ((s_R_keepU u_r u_d u_a u_M).2.1) 7 a1), ar cI xD 8 u_d, ar cI xA 8 u_a, oG xG xL xH xI, ar cI xL 6 u_lo, ar cI xH 6 u_hi, ar cI xI 6 u_ri, oT xT (s_T_take u_t a1)]) hx hb hts in_R ty_R ty_R_ok n_R hown hK hP hD hS 3 rfl rfl 9 (by decide) mw_26 rfl rfl rfl (Nat.le_of_ble_eq_true rfl) d_P_takeInterrupt_34 rfl (fun H locs hP hD hS => ?_)
    refine lv_aload_n hx hb d_P_takeInterrupt_37 rfl (lv_at hl 0 rfl) ?_
    refine zz_get (C := R_P) (T := F_P) (N := 10) (v := .ref xR) hx hb hts in_P hown hK hP 0 rfl rfl 1 (by decide) mw_22 rfl d_P_takeInterrupt_38 ?_
    refine lv_aload_n hx hb d_P_takeInterrupt_41 rfl (lv_at hl 0 rfl) ?_
    show W p l e _ s m args below meth c _ _ _ _ Q (F0 m 42 ls _)
    refine zz_get (C := R_P) (T := F_P) (N := 10) (v := .int (u_z 3)) hx hb hts in_P hown hK hP 0 rfl rfl 7 (by decide) mw_27 rfl d_P_takeInterrupt_42 ?_
    refine lv_iconst (v := (4 : Int32)) hx hb d_P_takeInterrupt_45 (by decide) ?_
    refine lv_iload_n hx hb d_P_takeInterrupt_46 rfl (lv_at hl 1 rfl) ?_
    refine lv_imul hx hb d_P_takeInterrupt_47 ?_
    refine lv_iadd hx hb d_P_takeInterrupt_48 ?_
    refine lv_aload_n hx hb d_P_takeInterrupt_49 rfl (lv_at hl 0 rfl) ?_
    refine zz_get (C := R_P) (T := F_P) (N := 10) (v := .ref xR) hx hb hts in_P hown hK hP 0 rfl rfl 1 (by decide) mw_22 rfl d_P_takeInterrupt_50 ?_
    refine zz_get (C := R_R) (T := F_R) (N := 12) (v := .int (((s_R_keepU u_r u_d u_a u_M).2.1) 0)) hx hb hts in_R hown hK hP 3 rfl rfl 2 (by decide) mw_28 rfl d_P_takeInterrupt_53 ?_
    refine zz_cVv (rest := []) (wr := [oP xP xM xR xG xT u_z, oM xM xW, ar cI xW 512 ((s_R_keepU u_r u_d u_a u_M).2.2), oG xG xL xH xI, ar cI xL 6 u_lo, ar cI xH 6 u_hi, ar cI xI 6 u_ri, oT xT (s_T_take u_t a1)]) (w' := [oP xP xM xR xG xT u_z, oM xM xW, ar cI xW 512 ((s_R_keepU u_r u_d u_a u_M).2.2), oR xR xD xA ((s_R_enterHandler (upd ((s_R_keepU u_r u_d u_a u_M).2.1) 7 a1) u_d u_a ((u_z 3) + ((4 : Int32) * a1)) (((s_R_keepU u_r u_d u_a u_M).2.1) 0)).1), ar cI xD 8 u_d, ar cI xA 8 ((s_R_enterHandler (upd ((s_R_keepU u_r u_d u_a u_M).2.1) 7 a1) u_d u_a ((u_z 3) + ((4 : Int32) * a1)) (((s_R_keepU u_r u_d u_a u_M).2.1) 0)).2), oG xG xL xH xI, ar cI xL 6 u_lo, ar cI xH 6 u_hi, ar cI xI 6 u_ri, oT xT (s_T_take u_t a1)]) ⟨hx, hb, hml, hown, hts⟩ (k_R_enterHandler l D cI _ xR xD xA (upd ((s_R_keepU u_r u_d u_a u_M).2.1) 7 a1) u_d u_a ((u_z 3) + ((4 : Int32) * a1)) (((s_R_keepU u_r u_d u_a u_M).2.1) 0)) g_P_takeInterrupt_R_enterHandler_97 nv_R_enterHandler ⟨⟨rfl, rfl⟩, Nat.le_of_ble_eq_true rfl, Nat.le_of_ble_eq_true rfl⟩ hK [0] rfl hP hD hS hA [3, 4, 5] [0, 1, 2, 6, 7, 8, 9, 10] [0, 1, 2, 8, 9, 10, 3, 4, 5, 6, 7] rfl rfl rfl rfl (by decide) rfl rfl 3 1 rfl rfl rfl rfl hl.1 (Nat.le_of_ble_eq_true rfl) d_P_takeInterrupt_56 ⟨Nat.zero_le _, Nat.zero_le _⟩ (fun H locs hP hD hS => ?_)
    have hsp : s_P_takeInterrupt u_z u_M u_r u_d u_a u_lo u_hi u_ri u_t a1 = (u_z, (s_R_keepU u_r u_d u_a u_M).2.2, (s_R_enterHandler (upd ((s_R_keepU u_r u_d u_a u_M).2.1) 7 a1) u_d u_a ((u_z 3) + ((4 : Int32) * a1)) (((s_R_keepU u_r u_d u_a u_M).2.1) 0)).1, (s_R_enterHandler (upd ((s_R_keepU u_r u_d u_a u_M).2.1) 7 a1) u_d u_a ((u_z 3) + ((4 : Int32) * a1)) (((s_R_keepU u_r u_d u_a u_M).2.1) 0)).2, (s_T_take u_t a1)) := (by unfold s_P_takeInterrupt; rw [if_neg h1])
    rw [hsp] at hE
    exact hE _ _ _ _ hP hD hS d_P_takeInterrupt_59
  ·
    refine lv_aload_n hx hb d_P_takeInterrupt_15 rfl (lv_at hl 0 rfl) ?_
    refine lv_iconst (v := (0 : Int32)) hx hb d_P_takeInterrupt_16 (by decide) ?_
    refine zz_put (C := R_P) (T := F_P) (N := 10) (w' := [oP xP xM xR xG xT (upd u_z 0 (0 : Int32)), oM xM xW, ar cI xW 512 ((s_R_keepU u_r u_d u_a u_M).2.2), oR xR xD xA ((s_R_keepU u_r u_d u_a u_M).2.1), ar cI xD 8 u_d, ar cI xA 8 u_a, oG xG xL xH xI, ar cI xL 6 u_lo, ar cI xH 6 u_hi, ar cI xI 6 u_ri, oT xT u_t]) hx hb hts in_P ty_P ty_P_ok n_P hown hK hP hD hS 0 rfl rfl 4 (by decide) mw_29 rfl rfl rfl (Nat.le_of_ble_eq_true rfl) d_P_takeInterrupt_17 rfl (fun H locs hP hD hS => ?_)
    have hsp : s_P_takeInterrupt u_z u_M u_r u_d u_a u_lo u_hi u_ri u_t a1 = (upd u_z 0 (0 : Int32), (s_R_keepU u_r u_d u_a u_M).2.2, (s_R_keepU u_r u_d u_a u_M).2.1, u_a, u_t) := (by unfold s_P_takeInterrupt; rw [if_pos h1])
    rw [hsp] at hE
    exact hE _ _ _ _ hP hD hS d_P_takeInterrupt_20
set_option maxHeartbeats 4000000 in
set_option maxRecDepth 100000 in
theorem k_P_takeTrap (l : Launch) (D : va_G) (cI : ClassId) (sz : Nat) (xP : Nat) (xM : Nat) (xW : Nat) (xR : Nat) (xD : Nat) (xA : Nat) (xG : Nat) (xL : Nat) (xH : Nat) (xI : Nat) (xT : Nat) (u_z : Nat → Int32) (u_M : Nat → Int32) (u_r : Nat → Int32) (u_d : Nat → Int32) (u_a : Nat → Int32) (u_lo : Nat → Int32) (u_hi : Nat → Int32) (u_ri : Nat → Int32) (u_t : Nat → Int32) (a1 : Int32) (a2 : Int32) : zMv l y_P_takeTrap (.code y_P_takeTrap b_P_takeTrap 5 (none) :: wd) { frames := 3, cells := 0, slots := 0, locals := 68 } D classes [(cI, .int)] [.ref xP, .int a1, .int a2] [oP xP xM xR xG xT u_z, oM xM xW, ar cI xW 512 u_M, oR xR xD xA u_r, ar cI xD 8 u_d, ar cI xA 8 u_a, oG xG xL xH xI, ar cI xL 6 u_lo, ar cI xH 6 u_hi, ar cI xI 6 u_ri, oT xT u_t] [oP xP xM xR xG xT ((s_P_takeTrap u_z u_M u_r u_d u_a u_lo u_hi u_ri u_t a1 a2).1), oM xM xW, ar cI xW 512 ((s_P_takeTrap u_z u_M u_r u_d u_a u_lo u_hi u_ri u_t a1 a2).2.1), oR xR xD xA ((s_P_takeTrap u_z u_M u_r u_d u_a u_lo u_hi u_ri u_t a1 a2).2.2.1), ar cI xD 8 ((s_P_takeTrap u_z u_M u_r u_d u_a u_lo u_hi u_ri u_t a1 a2).2.2.2.1), ar cI xA 8 ((s_P_takeTrap u_z u_M u_r u_d u_a u_lo u_hi u_ri u_t a1 a2).2.2.2.2), oG xG xL xH xI, ar cI xL 6 u_lo, ar cI xH 6 u_hi, ar cI xI 6 u_ri, oT xT u_t] sz := by
  refine met_v (by decide) (Nat.le_of_ble_eq_true rfl) ?_
  intro p e s m args below meth c A Q ls hx hb hml hown hts hK hP hD hS hA hl hE
  have hl : lv_has ls 5 [(0, .ref xP), (1, .int a1), (2, .int a2)] := hl
  have hown : s.vm.findClass R_P = some m.cls := hown
  refine lv_aload_n hx hb d_P_takeTrap_0 rfl (lv_at hl 0 rfl) ?_
  refine zz_get (C := R_P) (T := F_P) (N := 10) (v := .ref xR) hx hb hts in_P hown hK hP 0 rfl rfl 1 (by decide) mw_22 rfl d_P_takeTrap_1 ?_
  refine lv_aload_n hx hb d_P_takeTrap_4 rfl (lv_at hl 0 rfl) ?_
  refine zz_get (C := R_P) (T := F_P) (N := 10) (v := .ref xM) hx hb hts in_P hown hK hP 0 rfl rfl 0 (by decide) mw_24 rfl d_P_takeTrap_5 ?_
  refine lv_iconst (v := (1 : Int32)) hx hb d_P_takeTrap_8 (by decide) ?_
  refine zz_cVi (rest := []) (wr := [oP xP xM xR xG xT u_z, oG xG xL xH xI, ar cI xL 6 u_lo, ar cI xH 6 u_hi, ar cI xI 6 u_ri, oT xT u_t]) (w' := [oP xP xM xR xG xT u_z, oM xM xW, ar cI xW 512 ((s_R_keepU u_r u_d u_a u_M).2.2), oR xR xD xA ((s_R_keepU u_r u_d u_a u_M).2.1), ar cI xD 8 u_d, ar cI xA 8 u_a, oG xG xL xH xI, ar cI xL 6 u_lo, ar cI xH 6 u_hi, ar cI xI 6 u_ri, oT xT u_t]) ⟨hx, hb, hml, hown, hts⟩ (k_R_keepU l D cI _ xR xD xA xM xW u_r u_d u_a u_M) g_P_takeTrap_R_keep_87 nv_R_keep ⟨⟨rfl, rfl⟩, Nat.le_of_ble_eq_true rfl, Nat.le_of_ble_eq_true rfl⟩ hK [0] rfl hP hD hS hA [3, 4, 5, 1, 2] [0, 6, 7, 8, 9, 10] [0, 9, 10, 6, 7, 8, 1, 2, 3, 4, 5] rfl rfl rfl rfl (by decide) rfl rfl 3 1 rfl rfl rfl rfl hl.1 (Nat.le_of_ble_eq_true rfl) d_P_takeTrap_9 ⟨Nat.zero_le _, Nat.zero_le _⟩ (fun H locs hP hD hS => ?_)
  refine lv_if_ne (tgt := 21) hx hb d_P_takeTrap_12 (by decide) (fun h1 => ?_) (fun h1 => ?_)
  ·
    refine lv_iload_n hx hb d_P_takeTrap_21 rfl (lv_at hl 1 rfl) ?_
    refine lv_bipush (v := (8 : Int32)) hx hb d_P_takeTrap_22 (by decide) ?_
    refine lv_ishr hx hb d_P_takeTrap_24 ?_
    refine lv_istore_n (lv' := [(3, .int (a1 >>> ((8 : Int32) &&& 31))), (0, .ref xP), (1, .int a1), (2, .int a2)]) hx hb d_P_takeTrap_25 rfl hl (by decide) rfl (fun ls hl => ?_)
    refine lv_iload_n hx hb d_P_takeTrap_26 rfl (lv_at hl 2 rfl) ?_
    refine lv_sipush (v := (255 : Int32)) hx hb d_P_takeTrap_27 (by decide) ?_
    refine lv_iand hx hb d_P_takeTrap_30 ?_
    refine lv_istore (lv' := [(4, .int (a1 &&& (255 : Int32))), (3, .int (a1 >>> ((8 : Int32) &&& 31))), (0, .ref xP), (1, .int a1), (2, .int a2)]) hx hb d_P_takeTrap_31 hl (by decide) rfl (fun ls hl => ?_)
    refine lv_aload_n hx hb d_P_takeTrap_33 rfl (lv_at hl 2 rfl) ?_
    refine zz_get (C := R_P) (T := F_P) (N := 10) (v := .ref xR) hx hb hts in_P hown hK hP 0 rfl rfl 1 (by decide) mw_22 rfl d_P_takeTrap_34 ?_
    refine lv_aload_n hx hb d_P_takeTrap_37 rfl (lv_at hl 2 rfl) ?_
    show W p l e _ s m args below meth c _ _ _ _ Q (F0 m 38 ls _)
    refine zz_get (C := R_P) (T := F_P) (N := 10) (v := .int (u_z 2)) hx hb hts in_P hown hK hP 0 rfl rfl 6 (by decide) mw_30 rfl d_P_takeTrap_38 ?_
    refine lv_iconst (v := (4 : Int32)) hx hb d_P_takeTrap_41 (by decide) ?_
    refine lv_iload_n hx hb d_P_takeTrap_42 rfl (lv_at hl 1 rfl) ?_
    refine lv_imul hx hb d_P_takeTrap_43 ?_
    refine lv_iadd hx hb d_P_takeTrap_44 ?_
    refine lv_iload_n hx hb d_P_takeTrap_45 rfl (lv_at hl 4 rfl) ?_
    refine zz_cVv (rest := []) (wr := [oP xP xM xR xG xT u_z, oM xM xW, ar cI xW 512 ((s_R_keepU u_r u_d u_a u_M).2.2), oG xG xL xH xI, ar cI xL 6 u_lo, ar cI xH 6 u_hi, ar cI xI 6 u_ri, oT xT u_t]) (w' := [oP xP xM xR xG xT u_z, oM xM xW, ar cI xW 512 ((s_R_keepU u_r u_d u_a u_M).2.2), oR xR xD xA ((s_R_enterHandler ((s_R_keepU u_r u_d u_a u_M).2.1) u_d u_a ((u_z 2) + ((4 : Int32) * (a1 >>> ((8 : Int32) &&& 31)))) a2).1), ar cI xD 8 u_d, ar cI xA 8 ((s_R_enterHandler ((s_R_keepU u_r u_d u_a u_M).2.1) u_d u_a ((u_z 2) + ((4 : Int32) * (a1 >>> ((8 : Int32) &&& 31)))) a2).2), oG xG xL xH xI, ar cI xL 6 u_lo, ar cI xH 6 u_hi, ar cI xI 6 u_ri, oT xT u_t]) ⟨hx, hb, hml, hown, hts⟩ (k_R_enterHandler l D cI _ xR xD xA ((s_R_keepU u_r u_d u_a u_M).2.1) u_d u_a ((u_z 2) + ((4 : Int32) * (a1 >>> ((8 : Int32) &&& 31)))) a2) g_P_takeTrap_R_enterHandler_97 nv_R_enterHandler ⟨⟨rfl, rfl⟩, Nat.le_of_ble_eq_true rfl, Nat.le_of_ble_eq_true rfl⟩ hK [0] rfl hP hD hS hA [3, 4, 5] [0, 1, 2, 6, 7, 8, 9, 10] [0, 1, 2, 8, 9, 10, 3, 4, 5, 6, 7] rfl rfl rfl rfl (by decide) rfl rfl 3 1 rfl rfl rfl rfl hl.1 (Nat.le_of_ble_eq_true rfl) d_P_takeTrap_46 ⟨Nat.zero_le _, Nat.zero_le _⟩ (fun H locs hP hD hS => ?_)
    refine lv_aload_n hx hb d_P_takeTrap_49 rfl (lv_at hl 2 rfl) ?_
    refine zz_get (C := R_P) (T := F_P) (N := 10) (v := .ref xR) hx hb hts in_P hown hK hP 0 rfl rfl 1 (by decide) mw_22 rfl d_P_takeTrap_50 ?_
    refine zz_get (C := R_R) (T := F_R) (N := 12) (v := .ref xD) hx hb hts in_R hown hK hP 3 rfl rfl 0 (by decide) mw_31 rfl d_P_takeTrap_53 ?_
    refine lv_bipush (v := (7 : Int32)) hx hb d_P_takeTrap_56 (by decide) ?_
    refine lv_iload hx hb d_P_takeTrap_58 (lv_at hl 0 rfl) ?_
    show W p l e _ s m args below meth c _ _ _ _ Q (F0 m 60 ls _)
    refine zz_iast (w' := [oP xP xM xR xG xT u_z, oM xM xW, ar cI xW 512 ((s_R_keepU u_r u_d u_a u_M).2.2), oR xR xD xA ((s_R_enterHandler ((s_R_keepU u_r u_d u_a u_M).2.1) u_d u_a ((u_z 2) + ((4 : Int32) * (a1 >>> ((8 : Int32) &&& 31)))) a2).1), ar cI xD 8 (upd u_d (ix (7 : Int32)) (a1 &&& (255 : Int32))), ar cI xA 8 ((s_R_enterHandler ((s_R_keepU u_r u_d u_a u_M).2.1) u_d u_a ((u_z 2) + ((4 : Int32) * (a1 >>> ((8 : Int32) &&& 31)))) a2).2), oG xG xL xH xI, ar cI xL 6 u_lo, ar cI xH 6 u_hi, ar cI xI 6 u_ri, oT xT u_t]) hx hb hK hP hD hS 4 0 rfl rfl (zz_inc (by decide)) d_P_takeTrap_60 rfl (fun H locs hP hD hS => ?_)
    refine lv_aload_n hx hb d_P_takeTrap_61 rfl (lv_at hl 2 rfl) ?_
    refine lv_dup hx hb d_P_takeTrap_62 rfl ?_
    refine zz_get (C := R_P) (T := F_P) (N := 10) (v := .int (u_z 4)) hx hb hts in_P hown hK hP 0 rfl rfl 8 (by decide) mw_32 rfl d_P_takeTrap_63 ?_
    refine lv_iconst (v := (1 : Int32)) hx hb d_P_takeTrap_66 (by decide) ?_
    refine lv_iadd hx hb d_P_takeTrap_67 ?_
    refine zz_put (C := R_P) (T := F_P) (N := 10) (w' := [oP xP xM xR xG xT (upd u_z 4 ((u_z 4) + (1 : Int32))), oM xM xW, ar cI xW 512 ((s_R_keepU u_r u_d u_a u_M).2.2), oR xR xD xA ((s_R_enterHandler ((s_R_keepU u_r u_d u_a u_M).2.1) u_d u_a ((u_z 2) + ((4 : Int32) * (a1 >>> ((8 : Int32) &&& 31)))) a2).1), ar cI xD 8 (upd u_d (ix (7 : Int32)) (a1 &&& (255 : Int32))), ar cI xA 8 ((s_R_enterHandler ((s_R_keepU u_r u_d u_a u_M).2.1) u_d u_a ((u_z 2) + ((4 : Int32) * (a1 >>> ((8 : Int32) &&& 31)))) a2).2), oG xG xL xH xI, ar cI xL 6 u_lo, ar cI xH 6 u_hi, ar cI xI 6 u_ri, oT xT u_t]) hx hb hts in_P ty_P ty_P_ok n_P hown hK hP hD hS 0 rfl rfl 8 (by decide) mw_32 rfl rfl rfl (Nat.le_of_ble_eq_true rfl) d_P_takeTrap_68 rfl (fun H locs hP hD hS => ?_)
    refine lv_aload_n hx hb d_P_takeTrap_71 rfl (lv_at hl 2 rfl) ?_
    refine lv_bipush (v := (16 : Int32)) hx hb d_P_takeTrap_72 (by decide) ?_
    refine lv_iload_n hx hb d_P_takeTrap_74 rfl (lv_at hl 1 rfl) ?_
    refine lv_imul hx hb d_P_takeTrap_75 ?_
    refine lv_iload hx hb d_P_takeTrap_76 (lv_at hl 0 rfl) ?_
    show W p l e _ s m args below meth c _ _ _ _ Q (F0 m 78 ls _)
    refine lv_bipush (v := (15 : Int32)) hx hb d_P_takeTrap_78 (by decide) ?_
    refine lv_iand hx hb d_P_takeTrap_80 ?_
    refine lv_iadd hx hb d_P_takeTrap_81 ?_
    refine zz_put (C := R_P) (T := F_P) (N := 10) (w' := [oP xP xM xR xG xT (upd (upd u_z 4 ((u_z 4) + (1 : Int32))) 5 (((16 : Int32) * (a1 >>> ((8 : Int32) &&& 31))) + ((a1 &&& (255 : Int32)) &&& (15 : Int32)))), oM xM xW, ar cI xW 512 ((s_R_keepU u_r u_d u_a u_M).2.2), oR xR xD xA ((s_R_enterHandler ((s_R_keepU u_r u_d u_a u_M).2.1) u_d u_a ((u_z 2) + ((4 : Int32) * (a1 >>> ((8 : Int32) &&& 31)))) a2).1), ar cI xD 8 (upd u_d (ix (7 : Int32)) (a1 &&& (255 : Int32))), ar cI xA 8 ((s_R_enterHandler ((s_R_keepU u_r u_d u_a u_M).2.1) u_d u_a ((u_z 2) + ((4 : Int32) * (a1 >>> ((8 : Int32) &&& 31)))) a2).2), oG xG xL xH xI, ar cI xL 6 u_lo, ar cI xH 6 u_hi, ar cI xI 6 u_ri, oT xT u_t]) hx hb hts in_P ty_P ty_P_ok n_P hown hK hP hD hS 0 rfl rfl 9 (by decide) mw_33 rfl rfl rfl (Nat.le_of_ble_eq_true rfl) d_P_takeTrap_82 rfl (fun H locs hP hD hS => ?_)
    refine lv_iload_n hx hb d_P_takeTrap_85 rfl (lv_at hl 1 rfl) ?_
    refine lv_iconst (v := (3 : Int32)) hx hb d_P_takeTrap_86 (by decide) ?_
    refine lv_icmp_ne (tgt := 98) hx hb d_P_takeTrap_87 (by decide) (fun h2 => ?_) (fun h2 => ?_)
    ·
      have hsp : s_P_takeTrap u_z u_M u_r u_d u_a u_lo u_hi u_ri u_t a1 a2 = (upd (upd u_z 4 ((u_z 4) + (1 : Int32))) 5 (((16 : Int32) * (a1 >>> ((8 : Int32) &&& 31))) + ((a1 &&& (255 : Int32)) &&& (15 : Int32))), (s_R_keepU u_r u_d u_a u_M).2.2, (s_R_enterHandler ((s_R_keepU u_r u_d u_a u_M).2.1) u_d u_a ((u_z 2) + ((4 : Int32) * (a1 >>> ((8 : Int32) &&& 31)))) a2).1, upd u_d (ix (7 : Int32)) (a1 &&& (255 : Int32)), (s_R_enterHandler ((s_R_keepU u_r u_d u_a u_M).2.1) u_d u_a ((u_z 2) + ((4 : Int32) * (a1 >>> ((8 : Int32) &&& 31)))) a2).2) := (by unfold s_P_takeTrap; rw [if_neg h1, if_neg h2])
      rw [hsp] at hE
      exact hE _ _ _ _ hP hD hS d_P_takeTrap_98
    ·
      refine lv_aload_n hx hb d_P_takeTrap_90 rfl (lv_at hl 2 rfl) ?_
      refine zz_get (C := R_P) (T := F_P) (N := 10) (v := .ref xR) hx hb hts in_P hown hK hP 0 rfl rfl 1 (by decide) mw_22 rfl d_P_takeTrap_91 ?_
      refine lv_iconst (v := (0 : Int32)) hx hb d_P_takeTrap_94 (by decide) ?_
      refine zz_put (C := R_R) (T := F_R) (N := 12) (w' := [oP xP xM xR xG xT (upd (upd u_z 4 ((u_z 4) + (1 : Int32))) 5 (((16 : Int32) * (a1 >>> ((8 : Int32) &&& 31))) + ((a1 &&& (255 : Int32)) &&& (15 : Int32)))), oM xM xW, ar cI xW 512 ((s_R_keepU u_r u_d u_a u_M).2.2), oR xR xD xA (upd ((s_R_enterHandler ((s_R_keepU u_r u_d u_a u_M).2.1) u_d u_a ((u_z 2) + ((4 : Int32) * (a1 >>> ((8 : Int32) &&& 31)))) a2).1) 9 (0 : Int32)), ar cI xD 8 (upd u_d (ix (7 : Int32)) (a1 &&& (255 : Int32))), ar cI xA 8 ((s_R_enterHandler ((s_R_keepU u_r u_d u_a u_M).2.1) u_d u_a ((u_z 2) + ((4 : Int32) * (a1 >>> ((8 : Int32) &&& 31)))) a2).2), oG xG xL xH xI, ar cI xL 6 u_lo, ar cI xH 6 u_hi, ar cI xI 6 u_ri, oT xT u_t]) hx hb hts in_R ty_R ty_R_ok n_R hown hK hP hD hS 3 rfl rfl 11 (by decide) mw_34 rfl rfl rfl (Nat.le_of_ble_eq_true rfl) d_P_takeTrap_95 rfl (fun H locs hP hD hS => ?_)
      have hsp : s_P_takeTrap u_z u_M u_r u_d u_a u_lo u_hi u_ri u_t a1 a2 = (upd (upd u_z 4 ((u_z 4) + (1 : Int32))) 5 (((16 : Int32) * (a1 >>> ((8 : Int32) &&& 31))) + ((a1 &&& (255 : Int32)) &&& (15 : Int32))), (s_R_keepU u_r u_d u_a u_M).2.2, upd ((s_R_enterHandler ((s_R_keepU u_r u_d u_a u_M).2.1) u_d u_a ((u_z 2) + ((4 : Int32) * (a1 >>> ((8 : Int32) &&& 31)))) a2).1) 9 (0 : Int32), upd u_d (ix (7 : Int32)) (a1 &&& (255 : Int32)), (s_R_enterHandler ((s_R_keepU u_r u_d u_a u_M).2.1) u_d u_a ((u_z 2) + ((4 : Int32) * (a1 >>> ((8 : Int32) &&& 31)))) a2).2) := (by unfold s_P_takeTrap; rw [if_neg h1, if_pos h2])
      rw [hsp] at hE
      exact hE _ _ _ _ hP hD hS d_P_takeTrap_98
  ·
    refine lv_aload_n hx hb d_P_takeTrap_15 rfl (lv_at hl 0 rfl) ?_
    refine lv_iconst (v := (0 : Int32)) hx hb d_P_takeTrap_16 (by decide) ?_
    refine zz_put (C := R_P) (T := F_P) (N := 10) (w' := [oP xP xM xR xG xT (upd u_z 0 (0 : Int32)), oM xM xW, ar cI xW 512 ((s_R_keepU u_r u_d u_a u_M).2.2), oR xR xD xA ((s_R_keepU u_r u_d u_a u_M).2.1), ar cI xD 8 u_d, ar cI xA 8 u_a, oG xG xL xH xI, ar cI xL 6 u_lo, ar cI xH 6 u_hi, ar cI xI 6 u_ri, oT xT u_t]) hx hb hts in_P ty_P ty_P_ok n_P hown hK hP hD hS 0 rfl rfl 4 (by decide) mw_29 rfl rfl rfl (Nat.le_of_ble_eq_true rfl) d_P_takeTrap_17 rfl (fun H locs hP hD hS => ?_)
    have hsp : s_P_takeTrap u_z u_M u_r u_d u_a u_lo u_hi u_ri u_t a1 a2 = (upd u_z 0 (0 : Int32), (s_R_keepU u_r u_d u_a u_M).2.2, (s_R_keepU u_r u_d u_a u_M).2.1, u_d, u_a) := (by unfold s_P_takeTrap; rw [if_pos h1])
    rw [hsp] at hE
    exact hE _ _ _ _ hP hD hS d_P_takeTrap_20
set_option maxHeartbeats 4000000 in
set_option maxRecDepth 100000 in
theorem k_P_finish (l : Launch) (D : va_G) (cI : ClassId) (sz : Nat) (xP : Nat) (xM : Nat) (xW : Nat) (xR : Nat) (xD : Nat) (xA : Nat) (xG : Nat) (xL : Nat) (xH : Nat) (xI : Nat) (xT : Nat) (u_z : Nat → Int32) (u_M : Nat → Int32) (u_r : Nat → Int32) (u_d : Nat → Int32) (u_a : Nat → Int32) (u_lo : Nat → Int32) (u_hi : Nat → Int32) (u_ri : Nat → Int32) (u_t : Nat → Int32) (a1 : Int32) : zMv l y_P_finish (.code y_P_finish b_P_finish 2 (none) :: wd) { frames := 4, cells := 0, slots := 0, locals := 92 } D classes [(cI, .int)] [.ref xP, .int a1] [oP xP xM xR xG xT u_z, oM xM xW, ar cI xW 512 u_M, oR xR xD xA u_r, ar cI xD 8 u_d, ar cI xA 8 u_a, oG xG xL xH xI, ar cI xL 6 u_lo, ar cI xH 6 u_hi, ar cI xI 6 u_ri, oT xT u_t] [oP xP xM xR xG xT ((s_P_finish u_z u_M u_r u_d u_a u_lo u_hi u_ri u_t a1).1), oM xM xW, ar cI xW 512 ((s_P_finish u_z u_M u_r u_d u_a u_lo u_hi u_ri u_t a1).2.1), oR xR xD xA ((s_P_finish u_z u_M u_r u_d u_a u_lo u_hi u_ri u_t a1).2.2.1), ar cI xD 8 ((s_P_finish u_z u_M u_r u_d u_a u_lo u_hi u_ri u_t a1).2.2.2.1), ar cI xA 8 ((s_P_finish u_z u_M u_r u_d u_a u_lo u_hi u_ri u_t a1).2.2.2.2), oG xG xL xH xI, ar cI xL 6 u_lo, ar cI xH 6 u_hi, ar cI xI 6 u_ri, oT xT u_t] sz := by
  refine met_v (by decide) (Nat.le_of_ble_eq_true rfl) ?_
  intro p e s m args below meth c A Q ls hx hb hml hown hts hK hP hD hS hA hl hE
  have hl : lv_has ls 2 [(0, .ref xP), (1, .int a1)] := hl
  have hown : s.vm.findClass R_P = some m.cls := hown
  refine lv_iload_n hx hb d_P_finish_0 rfl (lv_at hl 1 rfl) ?_
  refine lv_if_ne (tgt := 20) hx hb d_P_finish_1 (by decide) (fun h1 => ?_) (fun h1 => ?_)
  ·
    refine lv_iload_n hx hb d_P_finish_20 rfl (lv_at hl 1 rfl) ?_
    refine lv_iconst (v := (2 : Int32)) hx hb d_P_finish_21 (by decide) ?_
    refine lv_icmp_ne (tgt := 33) hx hb d_P_finish_22 (by decide) (fun h2 => ?_) (fun h2 => ?_)
    ·
      refine lv_iload_n hx hb d_P_finish_33 rfl (lv_at hl 1 rfl) ?_
      refine lv_iconst (v := (1 : Int32)) hx hb d_P_finish_34 (by decide) ?_
      refine lv_icmp_eq (tgt := 71) hx hb d_P_finish_35 (by decide) (fun h3 => ?_) (fun h3 => ?_)
      ·
        have hsp : s_P_finish u_z u_M u_r u_d u_a u_lo u_hi u_ri u_t a1 = (u_z, u_M, u_r, u_d, u_a) := (by unfold s_P_finish; rw [if_neg h1, if_neg h2, if_pos h3])
        rw [hsp] at hE
        exact hE _ _ _ _ hP hD hS d_P_finish_71
      ·
        refine lv_aload_n hx hb d_P_finish_38 rfl (lv_at hl 0 rfl) ?_
        refine lv_iload_n hx hb d_P_finish_39 rfl (lv_at hl 1 rfl) ?_
        refine lv_iload_n hx hb d_P_finish_40 rfl (lv_at hl 1 rfl) ?_
        refine lv_bipush (v := (8 : Int32)) hx hb d_P_finish_41 (by decide) ?_
        refine lv_ishr hx hb d_P_finish_43 ?_
        refine lv_bipush (v := (6 : Int32)) hx hb d_P_finish_44 (by decide) ?_
        have J46_4 : ∀ (vj46_0 : Int32) (ls : Array Slot) (H : Heap) (locs : List Loc), vj46_0 = (if (a1 >>> ((8 : Int32) &&& 31)) = (6 : Int32) then ((u_r 0) + (1 : Int32)) else (u_r 0)) → lv_has ls 2 [(0, .ref xP), (1, .int a1)] → va_P D classes [oP xP xM xR xG xT u_z, oM xM xW, ar cI xW 512 u_M, oR xR xD xA u_r, ar cI xD 8 u_d, ar cI xA 8 u_a, oG xG xL xH xI, ar cI xL 6 u_lo, ar cI xH 6 u_hi, ar cI xI 6 u_ri, oT xT u_t] H → va_D A [oP xP xM xR xG xT u_z, oM xM xW, ar cI xW 512 u_M, oR xR xD xA u_r, ar cI xD 8 u_d, ar cI xA 8 u_a, oG xG xL xH xI, ar cI xL 6 u_lo, ar cI xH 6 u_hi, ar cI xI 6 u_ri, oT xT u_t] → va_S A s.heap H locs → W p l e { frames := 4, cells := 0, slots := 0, locals := 92 } s m args below meth c H locs 0 0 Q (F0 m 68 ls [.int vj46_0, .int a1, .ref xP]) := by
          intro vj46_0 ls H locs evj46_0 hl hP hD hS
          subst evj46_0
          refine zz_cVv (rest := []) (wr := []) (w' := [oP xP xM xR xG xT ((s_P_takeTrap u_z u_M u_r u_d u_a u_lo u_hi u_ri u_t a1 (if (a1 >>> ((8 : Int32) &&& 31)) = (6 : Int32) then ((u_r 0) + (1 : Int32)) else (u_r 0))).1), oM xM xW, ar cI xW 512 ((s_P_takeTrap u_z u_M u_r u_d u_a u_lo u_hi u_ri u_t a1 (if (a1 >>> ((8 : Int32) &&& 31)) = (6 : Int32) then ((u_r 0) + (1 : Int32)) else (u_r 0))).2.1), oR xR xD xA ((s_P_takeTrap u_z u_M u_r u_d u_a u_lo u_hi u_ri u_t a1 (if (a1 >>> ((8 : Int32) &&& 31)) = (6 : Int32) then ((u_r 0) + (1 : Int32)) else (u_r 0))).2.2.1), ar cI xD 8 ((s_P_takeTrap u_z u_M u_r u_d u_a u_lo u_hi u_ri u_t a1 (if (a1 >>> ((8 : Int32) &&& 31)) = (6 : Int32) then ((u_r 0) + (1 : Int32)) else (u_r 0))).2.2.2.1), ar cI xA 8 ((s_P_takeTrap u_z u_M u_r u_d u_a u_lo u_hi u_ri u_t a1 (if (a1 >>> ((8 : Int32) &&& 31)) = (6 : Int32) then ((u_r 0) + (1 : Int32)) else (u_r 0))).2.2.2.2), oG xG xL xH xI, ar cI xL 6 u_lo, ar cI xH 6 u_hi, ar cI xI 6 u_ri, oT xT u_t]) ⟨hx, hb, hml, hown, hts⟩ (k_P_takeTrap l D cI _ xP xM xW xR xD xA xG xL xH xI xT u_z u_M u_r u_d u_a u_lo u_hi u_ri u_t a1 (if (a1 >>> ((8 : Int32) &&& 31)) = (6 : Int32) then ((u_r 0) + (1 : Int32)) else (u_r 0))) g_P_finish_P_takeTrap_83 nv_P_takeTrap ⟨⟨rfl, rfl⟩, Nat.le_of_ble_eq_true rfl, Nat.le_of_ble_eq_true rfl⟩ hK [0] rfl hP hD hS hA [0, 1, 2, 3, 4, 5, 6, 7, 8, 9, 10] [] [0, 1, 2, 3, 4, 5, 6, 7, 8, 9, 10] rfl rfl rfl rfl (by decide) rfl rfl 0 4 rfl rfl rfl rfl hl.1 (Nat.le_of_ble_eq_true rfl) d_P_finish_68 ⟨Nat.zero_le _, Nat.zero_le _⟩ (fun H locs hP hD hS => ?_)
          have hsp : s_P_finish u_z u_M u_r u_d u_a u_lo u_hi u_ri u_t a1 = ((s_P_takeTrap u_z u_M u_r u_d u_a u_lo u_hi u_ri u_t a1 (if (a1 >>> ((8 : Int32) &&& 31)) = (6 : Int32) then ((u_r 0) + (1 : Int32)) else (u_r 0))).1, (s_P_takeTrap u_z u_M u_r u_d u_a u_lo u_hi u_ri u_t a1 (if (a1 >>> ((8 : Int32) &&& 31)) = (6 : Int32) then ((u_r 0) + (1 : Int32)) else (u_r 0))).2.1, (s_P_takeTrap u_z u_M u_r u_d u_a u_lo u_hi u_ri u_t a1 (if (a1 >>> ((8 : Int32) &&& 31)) = (6 : Int32) then ((u_r 0) + (1 : Int32)) else (u_r 0))).2.2.1, (s_P_takeTrap u_z u_M u_r u_d u_a u_lo u_hi u_ri u_t a1 (if (a1 >>> ((8 : Int32) &&& 31)) = (6 : Int32) then ((u_r 0) + (1 : Int32)) else (u_r 0))).2.2.2.1, (s_P_takeTrap u_z u_M u_r u_d u_a u_lo u_hi u_ri u_t a1 (if (a1 >>> ((8 : Int32) &&& 31)) = (6 : Int32) then ((u_r 0) + (1 : Int32)) else (u_r 0))).2.2.2.2) := (by unfold s_P_finish; rw [if_neg h1, if_neg h2, if_neg h3])
          rw [hsp] at hE
          exact hE _ _ _ _ hP hD hS d_P_finish_71
        refine lv_icmp_ne (tgt := 61) hx hb d_P_finish_46 (by decide) (fun h4 => ?_) (fun h4 => ?_)
        ·
          refine lv_aload_n hx hb d_P_finish_61 rfl (lv_at hl 0 rfl) ?_
          refine zz_get (C := R_P) (T := F_P) (N := 10) (v := .ref xR) hx hb hts in_P hown hK hP 0 rfl rfl 1 (by decide) mw_22 rfl d_P_finish_62 ?_
          refine zz_get (C := R_R) (T := F_R) (N := 12) (v := .int (u_r 0)) hx hb hts in_R hown hK hP 3 rfl rfl 2 (by decide) mw_28 rfl d_P_finish_65 ?_
          exact J46_4 (u_r 0) _ _ _ (by rw [if_neg h4]) (lv_sub hl [0, 1] rfl) hP hD hS
        ·
          refine lv_aload_n hx hb d_P_finish_49 rfl (lv_at hl 0 rfl) ?_
          refine zz_get (C := R_P) (T := F_P) (N := 10) (v := .ref xR) hx hb hts in_P hown hK hP 0 rfl rfl 1 (by decide) mw_22 rfl d_P_finish_50 ?_
          refine zz_get (C := R_R) (T := F_R) (N := 12) (v := .int (u_r 0)) hx hb hts in_R hown hK hP 3 rfl rfl 2 (by decide) mw_28 rfl d_P_finish_53 ?_
          refine lv_iconst (v := (1 : Int32)) hx hb d_P_finish_56 (by decide) ?_
          refine lv_iadd hx hb d_P_finish_57 ?_
          refine lv_goto (tgt := 68) hx hb d_P_finish_58 (by decide) ?_
          exact J46_4 ((u_r 0) + (1 : Int32)) _ _ _ (by rw [if_pos h4]) (lv_sub hl [0, 1] rfl) hP hD hS
    ·
      refine lv_aload_n hx hb d_P_finish_25 rfl (lv_at hl 0 rfl) ?_
      refine lv_iconst (v := (0 : Int32)) hx hb d_P_finish_26 (by decide) ?_
      refine zz_put (C := R_P) (T := F_P) (N := 10) (w' := [oP xP xM xR xG xT (upd u_z 0 (0 : Int32)), oM xM xW, ar cI xW 512 u_M, oR xR xD xA u_r, ar cI xD 8 u_d, ar cI xA 8 u_a, oG xG xL xH xI, ar cI xL 6 u_lo, ar cI xH 6 u_hi, ar cI xI 6 u_ri, oT xT u_t]) hx hb hts in_P ty_P ty_P_ok n_P hown hK hP hD hS 0 rfl rfl 4 (by decide) mw_29 rfl rfl rfl (Nat.le_of_ble_eq_true rfl) d_P_finish_27 rfl (fun H locs hP hD hS => ?_)
      refine lv_goto (tgt := 71) hx hb d_P_finish_30 (by decide) ?_
      have hsp : s_P_finish u_z u_M u_r u_d u_a u_lo u_hi u_ri u_t a1 = (upd u_z 0 (0 : Int32), u_M, u_r, u_d, u_a) := (by unfold s_P_finish; rw [if_neg h1, if_pos h2])
      rw [hsp] at hE
      exact hE _ _ _ _ hP hD hS d_P_finish_71
  ·
    refine lv_aload_n hx hb d_P_finish_4 rfl (lv_at hl 0 rfl) ?_
    refine zz_get (C := R_P) (T := F_P) (N := 10) (v := .ref xR) hx hb hts in_P hown hK hP 0 rfl rfl 1 (by decide) mw_22 rfl d_P_finish_5 ?_
    refine lv_dup hx hb d_P_finish_8 rfl ?_
    refine zz_get (C := R_R) (T := F_R) (N := 12) (v := .int (u_r 0)) hx hb hts in_R hown hK hP 3 rfl rfl 2 (by decide) mw_28 rfl d_P_finish_9 ?_
    refine lv_iconst (v := (1 : Int32)) hx hb d_P_finish_12 (by decide) ?_
    refine lv_iadd hx hb d_P_finish_13 ?_
    refine zz_put (C := R_R) (T := F_R) (N := 12) (w' := [oP xP xM xR xG xT u_z, oM xM xW, ar cI xW 512 u_M, oR xR xD xA (upd u_r 0 ((u_r 0) + (1 : Int32))), ar cI xD 8 u_d, ar cI xA 8 u_a, oG xG xL xH xI, ar cI xL 6 u_lo, ar cI xH 6 u_hi, ar cI xI 6 u_ri, oT xT u_t]) hx hb hts in_R ty_R ty_R_ok n_R hown hK hP hD hS 3 rfl rfl 2 (by decide) mw_28 rfl rfl rfl (Nat.le_of_ble_eq_true rfl) d_P_finish_14 rfl (fun H locs hP hD hS => ?_)
    refine lv_goto (tgt := 71) hx hb d_P_finish_17 (by decide) ?_
    have hsp : s_P_finish u_z u_M u_r u_d u_a u_lo u_hi u_ri u_t a1 = (u_z, u_M, upd u_r 0 ((u_r 0) + (1 : Int32)), u_d, u_a) := (by unfold s_P_finish; rw [if_pos h1])
    rw [hsp] at hE
    exact hE _ _ _ _ hP hD hS d_P_finish_71
set_option maxHeartbeats 4000000 in
set_option maxRecDepth 100000 in
theorem k_P_refuseFetch (l : Launch) (D : va_G) (cI : ClassId) (sz : Nat) (xP : Nat) (xM : Nat) (xW : Nat) (xR : Nat) (xD : Nat) (xA : Nat) (xG : Nat) (xL : Nat) (xH : Nat) (xI : Nat) (xT : Nat) (u_z : Nat → Int32) (u_M : Nat → Int32) (u_r : Nat → Int32) (u_d : Nat → Int32) (u_a : Nat → Int32) (u_lo : Nat → Int32) (u_hi : Nat → Int32) (u_ri : Nat → Int32) (u_t : Nat → Int32) (hset : u_r 5 = 0 ∨ u_r 5 = 1) : zMi l y_P_refuseFetch (.code y_P_refuseFetch b_P_refuseFetch 2 (some .int) :: wd) { frames := 2, cells := 0, slots := 0, locals := 44 } D classes [(cI, .int)] [.ref xP] [oP xP xM xR xG xT u_z, oM xM xW, ar cI xW 512 u_M, oR xR xD xA u_r, ar cI xD 8 u_d, ar cI xA 8 u_a, oG xG xL xH xI, ar cI xL 6 u_lo, ar cI xH 6 u_hi, ar cI xI 6 u_ri, oT xT u_t] [oP xP xM xR xG xT u_z, oM xM xW, ar cI xW 512 u_M, oR xR xD xA u_r, ar cI xD 8 u_d, ar cI xA 8 u_a, oG xG xL xH xI, ar cI xL 6 u_lo, ar cI xH 6 u_hi, ar cI xI 6 u_ri, oT xT u_t] sz (s_P_refuseFetch u_z u_M u_r u_d u_a u_lo u_hi u_ri u_t) := by
  refine met_i (by decide) (Nat.le_of_ble_eq_true rfl) rfl ?_
  intro p e s m args below meth c A Q ls hx hb hml hown hts hK hP hD hS hA hl hE
  have hl : lv_has ls 2 [(0, .ref xP)] := hl
  have hown : s.vm.findClass R_P = some m.cls := hown
  refine lv_aload_n hx hb d_P_refuseFetch_0 rfl (lv_at hl 0 rfl) ?_
  refine zz_get (C := R_P) (T := F_P) (N := 10) (v := .ref xR) hx hb hts in_P hown hK hP 0 rfl rfl 1 (by decide) mw_22 rfl d_P_refuseFetch_1 ?_
  refine zz_get (C := R_R) (T := F_R) (N := 12) (v := .int (u_r 0)) hx hb hts in_R hown hK hP 3 rfl rfl 2 (by decide) mw_28 rfl d_P_refuseFetch_4 ?_
  refine zz_cS0 (rest := []) ⟨hx, hb, hml, hown, hts⟩ (k_M_has l D cI _ (u_r 0)) g_P_refuseFetch_M_has_116 nd_M_has ⟨⟨rfl, rfl⟩, Nat.le_of_ble_eq_true rfl, Nat.le_of_ble_eq_true rfl⟩ hK hP hD hS hA rfl rfl hl.1 (Nat.le_of_ble_eq_true rfl) d_P_refuseFetch_7 ⟨Nat.zero_le _, Nat.zero_le _⟩ (fun H locs hP hD hS => ?_)
  refine lv_if_ne (tgt := 17) hx hb d_P_refuseFetch_10 (by decide) (fun h1 => ?_) (fun h1 => ?_)
  ·
    refine lv_aload_n hx hb d_P_refuseFetch_17 rfl (lv_at hl 0 rfl) ?_
    refine zz_rVi (rest := []) ⟨hx, hb, hml, hown, hts⟩ (k_P_isGuarded l D cI _ xP xM xW xR xD xA xG xL xH xI xT u_z u_M u_r u_d u_a u_lo u_hi u_ri u_t) g_P_refuseFetch_P_isGuarded_120 nv_P_isGuarded ⟨⟨rfl, rfl⟩, Nat.le_of_ble_eq_true rfl, Nat.le_of_ble_eq_true rfl⟩ hK [0] rfl hP hD hS hA [0, 1, 2, 3, 4, 5, 6, 7, 8, 9, 10] rfl rfl 0 4 rfl rfl rfl rfl hl.1 (Nat.le_of_ble_eq_true rfl) d_P_refuseFetch_18 ⟨Nat.zero_le _, Nat.zero_le _⟩ (fun H locs hP hD hS => ?_)
    refine lv_if_eq (tgt := 48) hx hb d_P_refuseFetch_21 (by decide) (fun h2 => ?_) (fun h2 => ?_)
    ·
      refine lv_iconst (v := (1 : Int32)) hx hb d_P_refuseFetch_48 (by decide) ?_
      refine lv_goto (tgt := 53) hx hb d_P_refuseFetch_49 (by decide) ?_
      refine lv_istore_n (lv' := [(1, .int (1 : Int32)), (0, .ref xP)]) hx hb d_P_refuseFetch_53 rfl hl (by decide) rfl (fun ls hl => ?_)
      refine lv_iload_n hx hb d_P_refuseFetch_54 rfl (lv_at hl 0 rfl) ?_
      refine lv_if_eq (tgt := 62) hx hb d_P_refuseFetch_55 (by decide) (fun hh => absurd hh (by decide)) (fun _ => ?_)
      refine lv_iconst (v := (0 : Int32)) hx hb d_P_refuseFetch_58 (by decide) ?_
      refine lv_goto (tgt := 65) hx hb d_P_refuseFetch_59 (by decide) ?_
      have hsp : s_P_refuseFetch u_z u_M u_r u_d u_a u_lo u_hi u_ri u_t = (0 : Int32) := (by unfold s_P_refuseFetch; rw [if_neg h1, if_pos h2])
      rw [hsp] at hE
      exact hE _ _ _ _ hP hD hS d_P_refuseFetch_65
    ·
      refine lv_aload_n hx hb d_P_refuseFetch_24 rfl (lv_at hl 0 rfl) ?_
      refine zz_get (C := R_P) (T := F_P) (N := 10) (v := .ref xG) hx hb hts in_P hown hK hP 0 rfl rfl 2 (by decide) mw_35 rfl d_P_refuseFetch_25 ?_
      refine lv_aload_n hx hb d_P_refuseFetch_28 rfl (lv_at hl 0 rfl) ?_
      refine zz_get (C := R_P) (T := F_P) (N := 10) (v := .ref xR) hx hb hts in_P hown hK hP 0 rfl rfl 1 (by decide) mw_22 rfl d_P_refuseFetch_29 ?_
      refine zz_get (C := R_R) (T := F_R) (N := 12) (v := .int (u_r 5)) hx hb hts in_R hown hK hP 3 rfl rfl 7 (by decide) mw_36 rfl d_P_refuseFetch_32 ?_
      refine lv_aload_n hx hb d_P_refuseFetch_35 rfl (lv_at hl 0 rfl) ?_
      refine zz_get (C := R_P) (T := F_P) (N := 10) (v := .ref xR) hx hb hts in_P hown hK hP 0 rfl rfl 1 (by decide) mw_22 rfl d_P_refuseFetch_36 ?_
      refine zz_get (C := R_R) (T := F_R) (N := 12) (v := .int (u_r 0)) hx hb hts in_R hown hK hP 3 rfl rfl 2 (by decide) mw_28 rfl d_P_refuseFetch_39 ?_
      refine zz_rVi (rest := []) ⟨hx, hb, hml, hown, hts⟩ (k_G_letsRun l D cI _ xG xL xH xI u_lo u_hi u_ri (u_r 5) (u_r 0) hset) g_P_refuseFetch_G_letsRun_127 nv_G_letsRun ⟨⟨rfl, rfl⟩, Nat.le_of_ble_eq_true rfl, Nat.le_of_ble_eq_true rfl⟩ hK [0] rfl hP hD hS hA [6, 7, 8, 9] rfl rfl 6 2 rfl rfl rfl rfl hl.1 (Nat.le_of_ble_eq_true rfl) d_P_refuseFetch_42 ⟨Nat.zero_le _, Nat.zero_le _⟩ (fun H locs hP hD hS => ?_)
      refine lv_if_eq (tgt := 52) hx hb d_P_refuseFetch_45 (by decide) (fun h3 => ?_) (fun h3 => ?_)
      ·
        refine lv_iconst (v := (0 : Int32)) hx hb d_P_refuseFetch_52 (by decide) ?_
        refine lv_istore_n (lv' := [(1, .int (0 : Int32)), (0, .ref xP)]) hx hb d_P_refuseFetch_53 rfl hl (by decide) rfl (fun ls hl => ?_)
        refine lv_iload_n hx hb d_P_refuseFetch_54 rfl (lv_at hl 0 rfl) ?_
        refine lv_if_eq (tgt := 62) hx hb d_P_refuseFetch_55 (by decide) (fun _ => ?_) (fun hh => absurd hh (by decide))
        refine lv_sipush (v := (260 : Int32)) hx hb d_P_refuseFetch_62 (by decide) ?_
        have hsp : s_P_refuseFetch u_z u_M u_r u_d u_a u_lo u_hi u_ri u_t = (260 : Int32) := (by unfold s_P_refuseFetch; rw [if_neg h1, if_neg h2, if_pos h3])
        rw [hsp] at hE
        exact hE _ _ _ _ hP hD hS d_P_refuseFetch_65
      ·
        refine lv_iconst (v := (1 : Int32)) hx hb d_P_refuseFetch_48 (by decide) ?_
        refine lv_goto (tgt := 53) hx hb d_P_refuseFetch_49 (by decide) ?_
        refine lv_istore_n (lv' := [(1, .int (1 : Int32)), (0, .ref xP)]) hx hb d_P_refuseFetch_53 rfl hl (by decide) rfl (fun ls hl => ?_)
        refine lv_iload_n hx hb d_P_refuseFetch_54 rfl (lv_at hl 0 rfl) ?_
        refine lv_if_eq (tgt := 62) hx hb d_P_refuseFetch_55 (by decide) (fun hh => absurd hh (by decide)) (fun _ => ?_)
        refine lv_iconst (v := (0 : Int32)) hx hb d_P_refuseFetch_58 (by decide) ?_
        refine lv_goto (tgt := 65) hx hb d_P_refuseFetch_59 (by decide) ?_
        have hsp : s_P_refuseFetch u_z u_M u_r u_d u_a u_lo u_hi u_ri u_t = (0 : Int32) := (by unfold s_P_refuseFetch; rw [if_neg h1, if_neg h2, if_neg h3])
        rw [hsp] at hE
        exact hE _ _ _ _ hP hD hS d_P_refuseFetch_65
  ·
    refine lv_sipush (v := (1025 : Int32)) hx hb d_P_refuseFetch_13 (by decide) ?_
    have hsp : s_P_refuseFetch u_z u_M u_r u_d u_a u_lo u_hi u_ri u_t = (1025 : Int32) := (by unfold s_P_refuseFetch; rw [if_pos h1])
    rw [hsp] at hE
    exact hE _ _ _ _ hP hD hS d_P_refuseFetch_16
set_option maxHeartbeats 4000000 in
set_option maxRecDepth 100000 in
theorem k_P_refuseWord (l : Launch) (D : va_G) (cI : ClassId) (sz : Nat) (xP : Nat) (xM : Nat) (xW : Nat) (xR : Nat) (xD : Nat) (xA : Nat) (xG : Nat) (xL : Nat) (xH : Nat) (xI : Nat) (xT : Nat) (u_z : Nat → Int32) (u_M : Nat → Int32) (u_r : Nat → Int32) (u_d : Nat → Int32) (u_a : Nat → Int32) (u_lo : Nat → Int32) (u_hi : Nat → Int32) (u_ri : Nat → Int32) (u_t : Nat → Int32) (a1 : Int32) (a2 : Int32) (hset : u_r 5 = 0 ∨ u_r 5 = 1) : zMi l y_P_refuseWord (.code y_P_refuseWord b_P_refuseWord 3 (some .int) :: wd) { frames := 2, cells := 0, slots := 0, locals := 47 } D classes [(cI, .int)] [.ref xP, .int a1, .int a2] [oP xP xM xR xG xT u_z, oM xM xW, ar cI xW 512 u_M, oR xR xD xA u_r, ar cI xD 8 u_d, ar cI xA 8 u_a, oG xG xL xH xI, ar cI xL 6 u_lo, ar cI xH 6 u_hi, ar cI xI 6 u_ri, oT xT u_t] [oP xP xM xR xG xT u_z, oM xM xW, ar cI xW 512 u_M, oR xR xD xA u_r, ar cI xD 8 u_d, ar cI xA 8 u_a, oG xG xL xH xI, ar cI xL 6 u_lo, ar cI xH 6 u_hi, ar cI xI 6 u_ri, oT xT u_t] sz (s_P_refuseWord u_z u_M u_r u_d u_a u_lo u_hi u_ri u_t a1 a2) := by
  refine met_i (by decide) (Nat.le_of_ble_eq_true rfl) rfl ?_
  intro p e s m args below meth c A Q ls hx hb hml hown hts hK hP hD hS hA hl hE
  have hl : lv_has ls 3 [(0, .ref xP), (1, .int a1), (2, .int a2)] := hl
  have hown : s.vm.findClass R_P = some m.cls := hown
  refine lv_iload_n hx hb d_P_refuseWord_0 rfl (lv_at hl 1 rfl) ?_
  refine zz_cS0 (rest := []) ⟨hx, hb, hml, hown, hts⟩ (k_M_has l D cI _ a1) g_P_refuseWord_M_has_116 nd_M_has ⟨⟨rfl, rfl⟩, Nat.le_of_ble_eq_true rfl, Nat.le_of_ble_eq_true rfl⟩ hK hP hD hS hA rfl rfl hl.1 (Nat.le_of_ble_eq_true rfl) d_P_refuseWord_1 ⟨Nat.zero_le _, Nat.zero_le _⟩ (fun H locs hP hD hS => ?_)
  refine lv_if_ne (tgt := 11) hx hb d_P_refuseWord_4 (by decide) (fun h1 => ?_) (fun h1 => ?_)
  ·
    refine lv_aload_n hx hb d_P_refuseWord_11 rfl (lv_at hl 0 rfl) ?_
    refine zz_rVi (rest := []) ⟨hx, hb, hml, hown, hts⟩ (k_P_isGuarded l D cI _ xP xM xW xR xD xA xG xL xH xI xT u_z u_M u_r u_d u_a u_lo u_hi u_ri u_t) g_P_refuseWord_P_isGuarded_120 nv_P_isGuarded ⟨⟨rfl, rfl⟩, Nat.le_of_ble_eq_true rfl, Nat.le_of_ble_eq_true rfl⟩ hK [0] rfl hP hD hS hA [0, 1, 2, 3, 4, 5, 6, 7, 8, 9, 10] rfl rfl 0 4 rfl rfl rfl rfl hl.1 (Nat.le_of_ble_eq_true rfl) d_P_refuseWord_12 ⟨Nat.zero_le _, Nat.zero_le _⟩ (fun H locs hP hD hS => ?_)
    refine lv_if_eq (tgt := 37) hx hb d_P_refuseWord_15 (by decide) (fun h2 => ?_) (fun h2 => ?_)
    ·
      refine lv_iconst (v := (0 : Int32)) hx hb d_P_refuseWord_37 (by decide) ?_
      have hsp : s_P_refuseWord u_z u_M u_r u_d u_a u_lo u_hi u_ri u_t a1 a2 = (0 : Int32) := (by unfold s_P_refuseWord; rw [if_neg h1, if_pos h2])
      rw [hsp] at hE
      exact hE _ _ _ _ hP hD hS d_P_refuseWord_38
    ·
      refine lv_aload_n hx hb d_P_refuseWord_18 rfl (lv_at hl 0 rfl) ?_
      refine zz_get (C := R_P) (T := F_P) (N := 10) (v := .ref xG) hx hb hts in_P hown hK hP 0 rfl rfl 2 (by decide) mw_35 rfl d_P_refuseWord_19 ?_
      refine lv_aload_n hx hb d_P_refuseWord_22 rfl (lv_at hl 0 rfl) ?_
      refine zz_get (C := R_P) (T := F_P) (N := 10) (v := .ref xR) hx hb hts in_P hown hK hP 0 rfl rfl 1 (by decide) mw_22 rfl d_P_refuseWord_23 ?_
      refine zz_get (C := R_R) (T := F_R) (N := 12) (v := .int (u_r 5)) hx hb hts in_R hown hK hP 3 rfl rfl 7 (by decide) mw_36 rfl d_P_refuseWord_26 ?_
      refine lv_iload_n hx hb d_P_refuseWord_29 rfl (lv_at hl 1 rfl) ?_
      refine lv_iload_n hx hb d_P_refuseWord_30 rfl (lv_at hl 2 rfl) ?_
      refine zz_rVi (rest := []) ⟨hx, hb, hml, hown, hts⟩ (k_G_letsUse l D cI _ xG xL xH xI u_lo u_hi u_ri (u_r 5) a1 a2 hset) g_P_refuseWord_G_letsUse_184 nv_G_letsUse ⟨⟨rfl, rfl⟩, Nat.le_of_ble_eq_true rfl, Nat.le_of_ble_eq_true rfl⟩ hK [0] rfl hP hD hS hA [6, 7, 8, 9] rfl rfl 6 2 rfl rfl rfl rfl hl.1 (Nat.le_of_ble_eq_true rfl) d_P_refuseWord_31 ⟨Nat.zero_le _, Nat.zero_le _⟩ (fun H locs hP hD hS => ?_)
      refine lv_if_eq (tgt := 39) hx hb d_P_refuseWord_34 (by decide) (fun h3 => ?_) (fun h3 => ?_)
      ·
        refine lv_iload_n hx hb d_P_refuseWord_39 rfl (lv_at hl 2 rfl) ?_
        refine lv_iconst (v := (1 : Int32)) hx hb d_P_refuseWord_40 (by decide) ?_
        refine lv_icmp_ne (tgt := 50) hx hb d_P_refuseWord_41 (by decide) (fun h4 => ?_) (fun h4 => ?_)
        ·
          refine lv_sipush (v := (259 : Int32)) hx hb d_P_refuseWord_50 (by decide) ?_
          have hsp : s_P_refuseWord u_z u_M u_r u_d u_a u_lo u_hi u_ri u_t a1 a2 = (259 : Int32) := (by unfold s_P_refuseWord; rw [if_neg h1, if_neg h2, if_pos h3, if_neg h4])
          rw [hsp] at hE
          exact hE _ _ _ _ hP hD hS d_P_refuseWord_53
        ·
          refine lv_sipush (v := (258 : Int32)) hx hb d_P_refuseWord_44 (by decide) ?_
          refine lv_goto (tgt := 53) hx hb d_P_refuseWord_47 (by decide) ?_
          have hsp : s_P_refuseWord u_z u_M u_r u_d u_a u_lo u_hi u_ri u_t a1 a2 = (258 : Int32) := (by unfold s_P_refuseWord; rw [if_neg h1, if_neg h2, if_pos h3, if_pos h4])
          rw [hsp] at hE
          exact hE _ _ _ _ hP hD hS d_P_refuseWord_53
      ·
        refine lv_iconst (v := (0 : Int32)) hx hb d_P_refuseWord_37 (by decide) ?_
        have hsp : s_P_refuseWord u_z u_M u_r u_d u_a u_lo u_hi u_ri u_t a1 a2 = (0 : Int32) := (by unfold s_P_refuseWord; rw [if_neg h1, if_neg h2, if_neg h3])
        rw [hsp] at hE
        exact hE _ _ _ _ hP hD hS d_P_refuseWord_38
  ·
    refine lv_sipush (v := (1025 : Int32)) hx hb d_P_refuseWord_7 (by decide) ?_
    have hsp : s_P_refuseWord u_z u_M u_r u_d u_a u_lo u_hi u_ri u_t a1 a2 = (1025 : Int32) := (by unfold s_P_refuseWord; rw [if_pos h1])
    rw [hsp] at hE
    exact hE _ _ _ _ hP hD hS d_P_refuseWord_10
set_option maxHeartbeats 4000000 in
set_option maxRecDepth 100000 in
theorem k_P_compute1 (l : Launch) (D : va_G) (cI : ClassId) (sz : Nat) (xP : Nat) (xM : Nat) (xW : Nat) (xR : Nat) (xD : Nat) (xA : Nat) (xG : Nat) (xL : Nat) (xH : Nat) (xI : Nat) (xT : Nat) (u_z : Nat → Int32) (u_M : Nat → Int32) (u_r : Nat → Int32) (u_d : Nat → Int32) (u_a : Nat → Int32) (u_lo : Nat → Int32) (u_hi : Nat → Int32) (u_ri : Nat → Int32) (u_t : Nat → Int32) (a2 : Int32) : zMi l y_P_compute (.code y_P_compute b_P_compute 9 (some .int) :: wd) { frames := 1, cells := 0, slots := 0, locals := 20 } D classes [(cI, .int)] [.ref xP, .int (1 : Int32), .int a2] [oP xP xM xR xG xT u_z, oM xM xW, ar cI xW 512 u_M, oR xR xD xA u_r, ar cI xD 8 u_d, ar cI xA 8 u_a, oG xG xL xH xI, ar cI xL 6 u_lo, ar cI xH 6 u_hi, ar cI xI 6 u_ri, oT xT u_t] [oP xP xM xR xG xT u_z, oM xM xW, ar cI xW 512 u_M, oR xR xD xA u_r, ar cI xD 8 ((s_P_compute1 u_z u_M u_r u_d u_a u_lo u_hi u_ri u_t a2).2), ar cI xA 8 u_a, oG xG xL xH xI, ar cI xL 6 u_lo, ar cI xH 6 u_hi, ar cI xI 6 u_ri, oT xT u_t] sz (s_P_compute1 u_z u_M u_r u_d u_a u_lo u_hi u_ri u_t a2).1 := by
  refine met_i (by decide) (Nat.le_of_ble_eq_true rfl) rfl ?_
  intro p e s m args below meth c A Q ls hx hb hml hown hts hK hP hD hS hA hl hE
  have hl : lv_has ls 9 [(0, .ref xP), (1, .int (1 : Int32)), (2, .int a2)] := hl
  have hown : s.vm.findClass R_P = some m.cls := hown
  refine lv_aload_n hx hb d_P_compute_0 rfl (lv_at hl 0 rfl) ?_
  refine zz_get (C := R_P) (T := F_P) (N := 10) (v := .ref xR) hx hb hts in_P hown hK hP 0 rfl rfl 1 (by decide) mw_22 rfl d_P_compute_1 ?_
  refine zz_get (C := R_R) (T := F_R) (N := 12) (v := .ref xD) hx hb hts in_R hown hK hP 3 rfl rfl 0 (by decide) mw_31 rfl d_P_compute_4 ?_
  refine lv_astore_n (lv' := [(3, .ref xD), (0, .ref xP), (1, .int (1 : Int32)), (2, .int a2)]) hx hb d_P_compute_7 rfl hl (by decide) rfl (fun ls hl => ?_)
  refine lv_aload_n hx hb d_P_compute_8 rfl (lv_at hl 1 rfl) ?_
  refine zz_get (C := R_P) (T := F_P) (N := 10) (v := .ref xR) hx hb hts in_P hown hK hP 0 rfl rfl 1 (by decide) mw_22 rfl d_P_compute_9 ?_
  refine zz_get (C := R_R) (T := F_R) (N := 12) (v := .ref xA) hx hb hts in_R hown hK hP 3 rfl rfl 1 (by decide) mw_37 rfl d_P_compute_12 ?_
  refine lv_astore (lv' := [(4, .ref xA), (3, .ref xD), (0, .ref xP), (1, .int (1 : Int32)), (2, .int a2)]) hx hb d_P_compute_15 hl (by decide) rfl (fun ls hl => ?_)
  refine lv_iload_n hx hb d_P_compute_17 rfl (lv_at hl 4 rfl) ?_
  refine zz_cS0 (rest := []) ⟨hx, hb, hml, hown, hts⟩ (k_P_fieldA l D cI _ a2) g_P_compute_P_fieldA_175 nd_P_fieldA ⟨⟨rfl, rfl⟩, Nat.le_of_ble_eq_true rfl, Nat.le_of_ble_eq_true rfl⟩ hK hP hD hS hA rfl rfl hl.1 (Nat.le_of_ble_eq_true rfl) d_P_compute_18 ⟨Nat.zero_le _, Nat.zero_le _⟩ (fun H locs hP hD hS => ?_)
  refine lv_istore (lv' := [(5, .int (s_P_fieldA a2)), (4, .ref xA), (3, .ref xD), (0, .ref xP), (1, .int (1 : Int32)), (2, .int a2)]) hx hb d_P_compute_21 hl (by decide) rfl (fun ls hl => ?_)
  show W p l e _ s m args below meth c _ _ _ _ Q (F0 m 23 ls _)
  refine lv_iload_n hx hb d_P_compute_23 rfl (lv_at hl 5 rfl) ?_
  refine zz_cS0 (rest := []) ⟨hx, hb, hml, hown, hts⟩ (k_P_fieldB l D cI _ a2) g_P_compute_P_fieldB_178 nd_P_fieldB ⟨⟨rfl, rfl⟩, Nat.le_of_ble_eq_true rfl, Nat.le_of_ble_eq_true rfl⟩ hK hP hD hS hA rfl rfl hl.1 (Nat.le_of_ble_eq_true rfl) d_P_compute_24 ⟨Nat.zero_le _, Nat.zero_le _⟩ (fun H locs hP hD hS => ?_)
  refine lv_istore (lv' := [(6, .int (s_P_fieldB a2)), (5, .int (s_P_fieldA a2)), (4, .ref xA), (3, .ref xD), (0, .ref xP), (1, .int (1 : Int32)), (2, .int a2)]) hx hb d_P_compute_27 hl (by decide) rfl (fun ls hl => ?_)
  refine lv_iload_n hx hb d_P_compute_29 rfl (lv_at hl 6 rfl) ?_
  refine zz_cS0 (rest := []) ⟨hx, hb, hml, hown, hts⟩ (k_P_fieldC l D cI _ a2) g_P_compute_P_fieldC_181 nd_P_fieldC ⟨⟨rfl, rfl⟩, Nat.le_of_ble_eq_true rfl, Nat.le_of_ble_eq_true rfl⟩ hK hP hD hS hA rfl rfl hl.1 (Nat.le_of_ble_eq_true rfl) d_P_compute_30 ⟨Nat.zero_le _, Nat.zero_le _⟩ (fun H locs hP hD hS => ?_)
  refine lv_istore (lv' := [(7, .int (s_P_fieldC a2)), (6, .int (s_P_fieldB a2)), (5, .int (s_P_fieldA a2)), (4, .ref xA), (3, .ref xD), (0, .ref xP), (1, .int (1 : Int32)), (2, .int a2)]) hx hb d_P_compute_33 hl (by decide) rfl (fun ls hl => ?_)
  refine lv_iload_n hx hb d_P_compute_35 rfl (lv_at hl 7 rfl) ?_
  refine zz_cS0 (rest := []) ⟨hx, hb, hml, hown, hts⟩ (k_P_amount l D cI _ a2) g_P_compute_P_amount_131 nd_P_amount ⟨⟨rfl, rfl⟩, Nat.le_of_ble_eq_true rfl, Nat.le_of_ble_eq_true rfl⟩ hK hP hD hS hA rfl rfl hl.1 (Nat.le_of_ble_eq_true rfl) d_P_compute_36 ⟨Nat.zero_le _, Nat.zero_le _⟩ (fun H locs hP hD hS => ?_)
  refine lv_istore (lv' := [(8, .int (s_P_amount a2)), (7, .int (s_P_fieldC a2)), (6, .int (s_P_fieldB a2)), (5, .int (s_P_fieldA a2)), (4, .ref xA), (3, .ref xD), (0, .ref xP), (1, .int (1 : Int32)), (2, .int a2)]) hx hb d_P_compute_39 hl (by decide) rfl (fun ls hl => ?_)
  refine lv_iload_n hx hb d_P_compute_41 rfl (lv_at hl 7 rfl) ?_
  refine lv_tableIn (off := 58) (tgt := 100) hx hb d_P_compute_42 (by decide) (by decide) rfl (by decide) ?_
  refine lv_aload_n hx hb d_P_compute_100 rfl (lv_at hl 5 rfl) ?_
  refine lv_iload hx hb d_P_compute_101 (lv_at hl 3 rfl) ?_
  refine lv_iload hx hb d_P_compute_103 (lv_at hl 0 rfl) ?_
  refine zz_iast (w' := [oP xP xM xR xG xT u_z, oM xM xW, ar cI xW 512 u_M, oR xR xD xA u_r, ar cI xD 8 (upd u_d (ix (s_P_fieldA a2)) (s_P_amount a2)), ar cI xA 8 u_a, oG xG xL xH xI, ar cI xL 6 u_lo, ar cI xH 6 u_hi, ar cI xI 6 u_ri, oT xT u_t]) hx hb hK hP hD hS 4 0 rfl rfl (in_fA _) d_P_compute_105 rfl (fun H locs hP hD hS => ?_)
  refine lv_goto (tgt := 280) hx hb d_P_compute_106 (by decide) ?_
  refine lv_iconst (v := (0 : Int32)) hx hb d_P_compute_280 (by decide) ?_
  have hsp : s_P_compute1 u_z u_M u_r u_d u_a u_lo u_hi u_ri u_t a2 = ((0 : Int32), upd u_d (ix (s_P_fieldA a2)) (s_P_amount a2)) := rfl
  rw [hsp] at hE
  exact hE _ _ _ _ hP hD hS d_P_compute_281
set_option maxHeartbeats 4000000 in
set_option maxRecDepth 100000 in
theorem k_P_compute2 (l : Launch) (D : va_G) (cI : ClassId) (sz : Nat) (xP : Nat) (xM : Nat) (xW : Nat) (xR : Nat) (xD : Nat) (xA : Nat) (xG : Nat) (xL : Nat) (xH : Nat) (xI : Nat) (xT : Nat) (u_z : Nat → Int32) (u_M : Nat → Int32) (u_r : Nat → Int32) (u_d : Nat → Int32) (u_a : Nat → Int32) (u_lo : Nat → Int32) (u_hi : Nat → Int32) (u_ri : Nat → Int32) (u_t : Nat → Int32) (a2 : Int32) : zMi l y_P_compute (.code y_P_compute b_P_compute 9 (some .int) :: wd) { frames := 1, cells := 0, slots := 0, locals := 20 } D classes [(cI, .int)] [.ref xP, .int (2 : Int32), .int a2] [oP xP xM xR xG xT u_z, oM xM xW, ar cI xW 512 u_M, oR xR xD xA u_r, ar cI xD 8 u_d, ar cI xA 8 u_a, oG xG xL xH xI, ar cI xL 6 u_lo, ar cI xH 6 u_hi, ar cI xI 6 u_ri, oT xT u_t] [oP xP xM xR xG xT u_z, oM xM xW, ar cI xW 512 u_M, oR xR xD xA u_r, ar cI xD 8 ((s_P_compute2 u_z u_M u_r u_d u_a u_lo u_hi u_ri u_t a2).2), ar cI xA 8 u_a, oG xG xL xH xI, ar cI xL 6 u_lo, ar cI xH 6 u_hi, ar cI xI 6 u_ri, oT xT u_t] sz (s_P_compute2 u_z u_M u_r u_d u_a u_lo u_hi u_ri u_t a2).1 := by
  refine met_i (by decide) (Nat.le_of_ble_eq_true rfl) rfl ?_
  intro p e s m args below meth c A Q ls hx hb hml hown hts hK hP hD hS hA hl hE
  have hl : lv_has ls 9 [(0, .ref xP), (1, .int (2 : Int32)), (2, .int a2)] := hl
  have hown : s.vm.findClass R_P = some m.cls := hown
  refine lv_aload_n hx hb d_P_compute_0 rfl (lv_at hl 0 rfl) ?_
  refine zz_get (C := R_P) (T := F_P) (N := 10) (v := .ref xR) hx hb hts in_P hown hK hP 0 rfl rfl 1 (by decide) mw_22 rfl d_P_compute_1 ?_
  refine zz_get (C := R_R) (T := F_R) (N := 12) (v := .ref xD) hx hb hts in_R hown hK hP 3 rfl rfl 0 (by decide) mw_31 rfl d_P_compute_4 ?_
  refine lv_astore_n (lv' := [(3, .ref xD), (0, .ref xP), (1, .int (2 : Int32)), (2, .int a2)]) hx hb d_P_compute_7 rfl hl (by decide) rfl (fun ls hl => ?_)
  refine lv_aload_n hx hb d_P_compute_8 rfl (lv_at hl 1 rfl) ?_
  refine zz_get (C := R_P) (T := F_P) (N := 10) (v := .ref xR) hx hb hts in_P hown hK hP 0 rfl rfl 1 (by decide) mw_22 rfl d_P_compute_9 ?_
  refine zz_get (C := R_R) (T := F_R) (N := 12) (v := .ref xA) hx hb hts in_R hown hK hP 3 rfl rfl 1 (by decide) mw_37 rfl d_P_compute_12 ?_
  refine lv_astore (lv' := [(4, .ref xA), (3, .ref xD), (0, .ref xP), (1, .int (2 : Int32)), (2, .int a2)]) hx hb d_P_compute_15 hl (by decide) rfl (fun ls hl => ?_)
  refine lv_iload_n hx hb d_P_compute_17 rfl (lv_at hl 4 rfl) ?_
  refine zz_cS0 (rest := []) ⟨hx, hb, hml, hown, hts⟩ (k_P_fieldA l D cI _ a2) g_P_compute_P_fieldA_175 nd_P_fieldA ⟨⟨rfl, rfl⟩, Nat.le_of_ble_eq_true rfl, Nat.le_of_ble_eq_true rfl⟩ hK hP hD hS hA rfl rfl hl.1 (Nat.le_of_ble_eq_true rfl) d_P_compute_18 ⟨Nat.zero_le _, Nat.zero_le _⟩ (fun H locs hP hD hS => ?_)
  refine lv_istore (lv' := [(5, .int (s_P_fieldA a2)), (4, .ref xA), (3, .ref xD), (0, .ref xP), (1, .int (2 : Int32)), (2, .int a2)]) hx hb d_P_compute_21 hl (by decide) rfl (fun ls hl => ?_)
  show W p l e _ s m args below meth c _ _ _ _ Q (F0 m 23 ls _)
  refine lv_iload_n hx hb d_P_compute_23 rfl (lv_at hl 5 rfl) ?_
  refine zz_cS0 (rest := []) ⟨hx, hb, hml, hown, hts⟩ (k_P_fieldB l D cI _ a2) g_P_compute_P_fieldB_178 nd_P_fieldB ⟨⟨rfl, rfl⟩, Nat.le_of_ble_eq_true rfl, Nat.le_of_ble_eq_true rfl⟩ hK hP hD hS hA rfl rfl hl.1 (Nat.le_of_ble_eq_true rfl) d_P_compute_24 ⟨Nat.zero_le _, Nat.zero_le _⟩ (fun H locs hP hD hS => ?_)
  refine lv_istore (lv' := [(6, .int (s_P_fieldB a2)), (5, .int (s_P_fieldA a2)), (4, .ref xA), (3, .ref xD), (0, .ref xP), (1, .int (2 : Int32)), (2, .int a2)]) hx hb d_P_compute_27 hl (by decide) rfl (fun ls hl => ?_)
  refine lv_iload_n hx hb d_P_compute_29 rfl (lv_at hl 6 rfl) ?_
  refine zz_cS0 (rest := []) ⟨hx, hb, hml, hown, hts⟩ (k_P_fieldC l D cI _ a2) g_P_compute_P_fieldC_181 nd_P_fieldC ⟨⟨rfl, rfl⟩, Nat.le_of_ble_eq_true rfl, Nat.le_of_ble_eq_true rfl⟩ hK hP hD hS hA rfl rfl hl.1 (Nat.le_of_ble_eq_true rfl) d_P_compute_30 ⟨Nat.zero_le _, Nat.zero_le _⟩ (fun H locs hP hD hS => ?_)
  refine lv_istore (lv' := [(7, .int (s_P_fieldC a2)), (6, .int (s_P_fieldB a2)), (5, .int (s_P_fieldA a2)), (4, .ref xA), (3, .ref xD), (0, .ref xP), (1, .int (2 : Int32)), (2, .int a2)]) hx hb d_P_compute_33 hl (by decide) rfl (fun ls hl => ?_)
  refine lv_iload_n hx hb d_P_compute_35 rfl (lv_at hl 7 rfl) ?_
  refine zz_cS0 (rest := []) ⟨hx, hb, hml, hown, hts⟩ (k_P_amount l D cI _ a2) g_P_compute_P_amount_131 nd_P_amount ⟨⟨rfl, rfl⟩, Nat.le_of_ble_eq_true rfl, Nat.le_of_ble_eq_true rfl⟩ hK hP hD hS hA rfl rfl hl.1 (Nat.le_of_ble_eq_true rfl) d_P_compute_36 ⟨Nat.zero_le _, Nat.zero_le _⟩ (fun H locs hP hD hS => ?_)
  refine lv_istore (lv' := [(8, .int (s_P_amount a2)), (7, .int (s_P_fieldC a2)), (6, .int (s_P_fieldB a2)), (5, .int (s_P_fieldA a2)), (4, .ref xA), (3, .ref xD), (0, .ref xP), (1, .int (2 : Int32)), (2, .int a2)]) hx hb d_P_compute_39 hl (by decide) rfl (fun ls hl => ?_)
  refine lv_iload_n hx hb d_P_compute_41 rfl (lv_at hl 7 rfl) ?_
  refine lv_tableIn (off := 67) (tgt := 109) hx hb d_P_compute_42 (by decide) (by decide) rfl (by decide) ?_
  refine lv_aload_n hx hb d_P_compute_109 rfl (lv_at hl 5 rfl) ?_
  refine lv_iload hx hb d_P_compute_110 (lv_at hl 3 rfl) ?_
  refine lv_aload_n hx hb d_P_compute_112 rfl (lv_at hl 5 rfl) ?_
  refine lv_iload hx hb d_P_compute_113 (lv_at hl 2 rfl) ?_
  refine va_iald hx hb hK hP 4 0 rfl rfl (in_fB _) d_P_compute_115 ?_
  refine lv_iload hx hb d_P_compute_116 (lv_at hl 0 rfl) ?_
  refine lv_iadd hx hb d_P_compute_118 ?_
  refine zz_iast (w' := [oP xP xM xR xG xT u_z, oM xM xW, ar cI xW 512 u_M, oR xR xD xA u_r, ar cI xD 8 (upd u_d (ix (s_P_fieldA a2)) ((u_d (ix (s_P_fieldB a2))) + (s_P_amount a2))), ar cI xA 8 u_a, oG xG xL xH xI, ar cI xL 6 u_lo, ar cI xH 6 u_hi, ar cI xI 6 u_ri, oT xT u_t]) hx hb hK hP hD hS 4 0 rfl rfl (in_fA _) d_P_compute_119 rfl (fun H locs hP hD hS => ?_)
  refine lv_goto (tgt := 280) hx hb d_P_compute_120 (by decide) ?_
  refine lv_iconst (v := (0 : Int32)) hx hb d_P_compute_280 (by decide) ?_
  have hsp : s_P_compute2 u_z u_M u_r u_d u_a u_lo u_hi u_ri u_t a2 = ((0 : Int32), upd u_d (ix (s_P_fieldA a2)) ((u_d (ix (s_P_fieldB a2))) + (s_P_amount a2))) := rfl
  rw [hsp] at hE
  exact hE _ _ _ _ hP hD hS d_P_compute_281
set_option maxHeartbeats 4000000 in
set_option maxRecDepth 100000 in
theorem k_P_compute3 (l : Launch) (D : va_G) (cI : ClassId) (sz : Nat) (xP : Nat) (xM : Nat) (xW : Nat) (xR : Nat) (xD : Nat) (xA : Nat) (xG : Nat) (xL : Nat) (xH : Nat) (xI : Nat) (xT : Nat) (u_z : Nat → Int32) (u_M : Nat → Int32) (u_r : Nat → Int32) (u_d : Nat → Int32) (u_a : Nat → Int32) (u_lo : Nat → Int32) (u_hi : Nat → Int32) (u_ri : Nat → Int32) (u_t : Nat → Int32) (a2 : Int32) : zMi l y_P_compute (.code y_P_compute b_P_compute 9 (some .int) :: wd) { frames := 1, cells := 0, slots := 0, locals := 20 } D classes [(cI, .int)] [.ref xP, .int (3 : Int32), .int a2] [oP xP xM xR xG xT u_z, oM xM xW, ar cI xW 512 u_M, oR xR xD xA u_r, ar cI xD 8 u_d, ar cI xA 8 u_a, oG xG xL xH xI, ar cI xL 6 u_lo, ar cI xH 6 u_hi, ar cI xI 6 u_ri, oT xT u_t] [oP xP xM xR xG xT u_z, oM xM xW, ar cI xW 512 u_M, oR xR xD xA u_r, ar cI xD 8 ((s_P_compute3 u_z u_M u_r u_d u_a u_lo u_hi u_ri u_t a2).2), ar cI xA 8 u_a, oG xG xL xH xI, ar cI xL 6 u_lo, ar cI xH 6 u_hi, ar cI xI 6 u_ri, oT xT u_t] sz (s_P_compute3 u_z u_M u_r u_d u_a u_lo u_hi u_ri u_t a2).1 := by
  refine met_i (by decide) (Nat.le_of_ble_eq_true rfl) rfl ?_
  intro p e s m args below meth c A Q ls hx hb hml hown hts hK hP hD hS hA hl hE
  have hl : lv_has ls 9 [(0, .ref xP), (1, .int (3 : Int32)), (2, .int a2)] := hl
  have hown : s.vm.findClass R_P = some m.cls := hown
  refine lv_aload_n hx hb d_P_compute_0 rfl (lv_at hl 0 rfl) ?_
  refine zz_get (C := R_P) (T := F_P) (N := 10) (v := .ref xR) hx hb hts in_P hown hK hP 0 rfl rfl 1 (by decide) mw_22 rfl d_P_compute_1 ?_
  refine zz_get (C := R_R) (T := F_R) (N := 12) (v := .ref xD) hx hb hts in_R hown hK hP 3 rfl rfl 0 (by decide) mw_31 rfl d_P_compute_4 ?_
  refine lv_astore_n (lv' := [(3, .ref xD), (0, .ref xP), (1, .int (3 : Int32)), (2, .int a2)]) hx hb d_P_compute_7 rfl hl (by decide) rfl (fun ls hl => ?_)
  refine lv_aload_n hx hb d_P_compute_8 rfl (lv_at hl 1 rfl) ?_
  refine zz_get (C := R_P) (T := F_P) (N := 10) (v := .ref xR) hx hb hts in_P hown hK hP 0 rfl rfl 1 (by decide) mw_22 rfl d_P_compute_9 ?_
  refine zz_get (C := R_R) (T := F_R) (N := 12) (v := .ref xA) hx hb hts in_R hown hK hP 3 rfl rfl 1 (by decide) mw_37 rfl d_P_compute_12 ?_
  refine lv_astore (lv' := [(4, .ref xA), (3, .ref xD), (0, .ref xP), (1, .int (3 : Int32)), (2, .int a2)]) hx hb d_P_compute_15 hl (by decide) rfl (fun ls hl => ?_)
  refine lv_iload_n hx hb d_P_compute_17 rfl (lv_at hl 4 rfl) ?_
  refine zz_cS0 (rest := []) ⟨hx, hb, hml, hown, hts⟩ (k_P_fieldA l D cI _ a2) g_P_compute_P_fieldA_175 nd_P_fieldA ⟨⟨rfl, rfl⟩, Nat.le_of_ble_eq_true rfl, Nat.le_of_ble_eq_true rfl⟩ hK hP hD hS hA rfl rfl hl.1 (Nat.le_of_ble_eq_true rfl) d_P_compute_18 ⟨Nat.zero_le _, Nat.zero_le _⟩ (fun H locs hP hD hS => ?_)
  refine lv_istore (lv' := [(5, .int (s_P_fieldA a2)), (4, .ref xA), (3, .ref xD), (0, .ref xP), (1, .int (3 : Int32)), (2, .int a2)]) hx hb d_P_compute_21 hl (by decide) rfl (fun ls hl => ?_)
  show W p l e _ s m args below meth c _ _ _ _ Q (F0 m 23 ls _)
  refine lv_iload_n hx hb d_P_compute_23 rfl (lv_at hl 5 rfl) ?_
  refine zz_cS0 (rest := []) ⟨hx, hb, hml, hown, hts⟩ (k_P_fieldB l D cI _ a2) g_P_compute_P_fieldB_178 nd_P_fieldB ⟨⟨rfl, rfl⟩, Nat.le_of_ble_eq_true rfl, Nat.le_of_ble_eq_true rfl⟩ hK hP hD hS hA rfl rfl hl.1 (Nat.le_of_ble_eq_true rfl) d_P_compute_24 ⟨Nat.zero_le _, Nat.zero_le _⟩ (fun H locs hP hD hS => ?_)
  refine lv_istore (lv' := [(6, .int (s_P_fieldB a2)), (5, .int (s_P_fieldA a2)), (4, .ref xA), (3, .ref xD), (0, .ref xP), (1, .int (3 : Int32)), (2, .int a2)]) hx hb d_P_compute_27 hl (by decide) rfl (fun ls hl => ?_)
  refine lv_iload_n hx hb d_P_compute_29 rfl (lv_at hl 6 rfl) ?_
  refine zz_cS0 (rest := []) ⟨hx, hb, hml, hown, hts⟩ (k_P_fieldC l D cI _ a2) g_P_compute_P_fieldC_181 nd_P_fieldC ⟨⟨rfl, rfl⟩, Nat.le_of_ble_eq_true rfl, Nat.le_of_ble_eq_true rfl⟩ hK hP hD hS hA rfl rfl hl.1 (Nat.le_of_ble_eq_true rfl) d_P_compute_30 ⟨Nat.zero_le _, Nat.zero_le _⟩ (fun H locs hP hD hS => ?_)
  refine lv_istore (lv' := [(7, .int (s_P_fieldC a2)), (6, .int (s_P_fieldB a2)), (5, .int (s_P_fieldA a2)), (4, .ref xA), (3, .ref xD), (0, .ref xP), (1, .int (3 : Int32)), (2, .int a2)]) hx hb d_P_compute_33 hl (by decide) rfl (fun ls hl => ?_)
  refine lv_iload_n hx hb d_P_compute_35 rfl (lv_at hl 7 rfl) ?_
  refine zz_cS0 (rest := []) ⟨hx, hb, hml, hown, hts⟩ (k_P_amount l D cI _ a2) g_P_compute_P_amount_131 nd_P_amount ⟨⟨rfl, rfl⟩, Nat.le_of_ble_eq_true rfl, Nat.le_of_ble_eq_true rfl⟩ hK hP hD hS hA rfl rfl hl.1 (Nat.le_of_ble_eq_true rfl) d_P_compute_36 ⟨Nat.zero_le _, Nat.zero_le _⟩ (fun H locs hP hD hS => ?_)
  refine lv_istore (lv' := [(8, .int (s_P_amount a2)), (7, .int (s_P_fieldC a2)), (6, .int (s_P_fieldB a2)), (5, .int (s_P_fieldA a2)), (4, .ref xA), (3, .ref xD), (0, .ref xP), (1, .int (3 : Int32)), (2, .int a2)]) hx hb d_P_compute_39 hl (by decide) rfl (fun ls hl => ?_)
  refine lv_iload_n hx hb d_P_compute_41 rfl (lv_at hl 7 rfl) ?_
  refine lv_tableIn (off := 81) (tgt := 123) hx hb d_P_compute_42 (by decide) (by decide) rfl (by decide) ?_
  refine lv_aload_n hx hb d_P_compute_123 rfl (lv_at hl 5 rfl) ?_
  refine lv_iload hx hb d_P_compute_124 (lv_at hl 3 rfl) ?_
  refine lv_aload_n hx hb d_P_compute_126 rfl (lv_at hl 5 rfl) ?_
  refine lv_iload hx hb d_P_compute_127 (lv_at hl 2 rfl) ?_
  refine va_iald hx hb hK hP 4 0 rfl rfl (in_fB _) d_P_compute_129 ?_
  refine lv_aload_n hx hb d_P_compute_130 rfl (lv_at hl 5 rfl) ?_
  refine lv_iload hx hb d_P_compute_131 (lv_at hl 1 rfl) ?_
  refine va_iald hx hb hK hP 4 0 rfl rfl (in_fC _) d_P_compute_133 ?_
  refine lv_iadd hx hb d_P_compute_134 ?_
  refine zz_iast (w' := [oP xP xM xR xG xT u_z, oM xM xW, ar cI xW 512 u_M, oR xR xD xA u_r, ar cI xD 8 (upd u_d (ix (s_P_fieldA a2)) ((u_d (ix (s_P_fieldB a2))) + (u_d (ix (s_P_fieldC a2))))), ar cI xA 8 u_a, oG xG xL xH xI, ar cI xL 6 u_lo, ar cI xH 6 u_hi, ar cI xI 6 u_ri, oT xT u_t]) hx hb hK hP hD hS 4 0 rfl rfl (in_fA _) d_P_compute_135 rfl (fun H locs hP hD hS => ?_)
  refine lv_goto (tgt := 280) hx hb d_P_compute_136 (by decide) ?_
  show W p l e _ s m args below meth c _ _ _ _ Q (F0 m 280 ls _)
  refine lv_iconst (v := (0 : Int32)) hx hb d_P_compute_280 (by decide) ?_
  have hsp : s_P_compute3 u_z u_M u_r u_d u_a u_lo u_hi u_ri u_t a2 = ((0 : Int32), upd u_d (ix (s_P_fieldA a2)) ((u_d (ix (s_P_fieldB a2))) + (u_d (ix (s_P_fieldC a2))))) := rfl
  rw [hsp] at hE
  exact hE _ _ _ _ hP hD hS d_P_compute_281
set_option maxHeartbeats 4000000 in
set_option maxRecDepth 100000 in
theorem k_P_compute4 (l : Launch) (D : va_G) (cI : ClassId) (sz : Nat) (xP : Nat) (xM : Nat) (xW : Nat) (xR : Nat) (xD : Nat) (xA : Nat) (xG : Nat) (xL : Nat) (xH : Nat) (xI : Nat) (xT : Nat) (u_z : Nat → Int32) (u_M : Nat → Int32) (u_r : Nat → Int32) (u_d : Nat → Int32) (u_a : Nat → Int32) (u_lo : Nat → Int32) (u_hi : Nat → Int32) (u_ri : Nat → Int32) (u_t : Nat → Int32) (a2 : Int32) : zMi l y_P_compute (.code y_P_compute b_P_compute 9 (some .int) :: wd) { frames := 1, cells := 0, slots := 0, locals := 20 } D classes [(cI, .int)] [.ref xP, .int (4 : Int32), .int a2] [oP xP xM xR xG xT u_z, oM xM xW, ar cI xW 512 u_M, oR xR xD xA u_r, ar cI xD 8 u_d, ar cI xA 8 u_a, oG xG xL xH xI, ar cI xL 6 u_lo, ar cI xH 6 u_hi, ar cI xI 6 u_ri, oT xT u_t] [oP xP xM xR xG xT u_z, oM xM xW, ar cI xW 512 u_M, oR xR xD xA u_r, ar cI xD 8 ((s_P_compute4 u_z u_M u_r u_d u_a u_lo u_hi u_ri u_t a2).2), ar cI xA 8 u_a, oG xG xL xH xI, ar cI xL 6 u_lo, ar cI xH 6 u_hi, ar cI xI 6 u_ri, oT xT u_t] sz (s_P_compute4 u_z u_M u_r u_d u_a u_lo u_hi u_ri u_t a2).1 := by
  refine met_i (by decide) (Nat.le_of_ble_eq_true rfl) rfl ?_
  intro p e s m args below meth c A Q ls hx hb hml hown hts hK hP hD hS hA hl hE
  have hl : lv_has ls 9 [(0, .ref xP), (1, .int (4 : Int32)), (2, .int a2)] := hl
  have hown : s.vm.findClass R_P = some m.cls := hown
  refine lv_aload_n hx hb d_P_compute_0 rfl (lv_at hl 0 rfl) ?_
  refine zz_get (C := R_P) (T := F_P) (N := 10) (v := .ref xR) hx hb hts in_P hown hK hP 0 rfl rfl 1 (by decide) mw_22 rfl d_P_compute_1 ?_
  refine zz_get (C := R_R) (T := F_R) (N := 12) (v := .ref xD) hx hb hts in_R hown hK hP 3 rfl rfl 0 (by decide) mw_31 rfl d_P_compute_4 ?_
  refine lv_astore_n (lv' := [(3, .ref xD), (0, .ref xP), (1, .int (4 : Int32)), (2, .int a2)]) hx hb d_P_compute_7 rfl hl (by decide) rfl (fun ls hl => ?_)
  refine lv_aload_n hx hb d_P_compute_8 rfl (lv_at hl 1 rfl) ?_
  refine zz_get (C := R_P) (T := F_P) (N := 10) (v := .ref xR) hx hb hts in_P hown hK hP 0 rfl rfl 1 (by decide) mw_22 rfl d_P_compute_9 ?_
  refine zz_get (C := R_R) (T := F_R) (N := 12) (v := .ref xA) hx hb hts in_R hown hK hP 3 rfl rfl 1 (by decide) mw_37 rfl d_P_compute_12 ?_
  refine lv_astore (lv' := [(4, .ref xA), (3, .ref xD), (0, .ref xP), (1, .int (4 : Int32)), (2, .int a2)]) hx hb d_P_compute_15 hl (by decide) rfl (fun ls hl => ?_)
  refine lv_iload_n hx hb d_P_compute_17 rfl (lv_at hl 4 rfl) ?_
  refine zz_cS0 (rest := []) ⟨hx, hb, hml, hown, hts⟩ (k_P_fieldA l D cI _ a2) g_P_compute_P_fieldA_175 nd_P_fieldA ⟨⟨rfl, rfl⟩, Nat.le_of_ble_eq_true rfl, Nat.le_of_ble_eq_true rfl⟩ hK hP hD hS hA rfl rfl hl.1 (Nat.le_of_ble_eq_true rfl) d_P_compute_18 ⟨Nat.zero_le _, Nat.zero_le _⟩ (fun H locs hP hD hS => ?_)
  refine lv_istore (lv' := [(5, .int (s_P_fieldA a2)), (4, .ref xA), (3, .ref xD), (0, .ref xP), (1, .int (4 : Int32)), (2, .int a2)]) hx hb d_P_compute_21 hl (by decide) rfl (fun ls hl => ?_)
  show W p l e _ s m args below meth c _ _ _ _ Q (F0 m 23 ls _)
  refine lv_iload_n hx hb d_P_compute_23 rfl (lv_at hl 5 rfl) ?_
  refine zz_cS0 (rest := []) ⟨hx, hb, hml, hown, hts⟩ (k_P_fieldB l D cI _ a2) g_P_compute_P_fieldB_178 nd_P_fieldB ⟨⟨rfl, rfl⟩, Nat.le_of_ble_eq_true rfl, Nat.le_of_ble_eq_true rfl⟩ hK hP hD hS hA rfl rfl hl.1 (Nat.le_of_ble_eq_true rfl) d_P_compute_24 ⟨Nat.zero_le _, Nat.zero_le _⟩ (fun H locs hP hD hS => ?_)
  refine lv_istore (lv' := [(6, .int (s_P_fieldB a2)), (5, .int (s_P_fieldA a2)), (4, .ref xA), (3, .ref xD), (0, .ref xP), (1, .int (4 : Int32)), (2, .int a2)]) hx hb d_P_compute_27 hl (by decide) rfl (fun ls hl => ?_)
  refine lv_iload_n hx hb d_P_compute_29 rfl (lv_at hl 6 rfl) ?_
  refine zz_cS0 (rest := []) ⟨hx, hb, hml, hown, hts⟩ (k_P_fieldC l D cI _ a2) g_P_compute_P_fieldC_181 nd_P_fieldC ⟨⟨rfl, rfl⟩, Nat.le_of_ble_eq_true rfl, Nat.le_of_ble_eq_true rfl⟩ hK hP hD hS hA rfl rfl hl.1 (Nat.le_of_ble_eq_true rfl) d_P_compute_30 ⟨Nat.zero_le _, Nat.zero_le _⟩ (fun H locs hP hD hS => ?_)
  refine lv_istore (lv' := [(7, .int (s_P_fieldC a2)), (6, .int (s_P_fieldB a2)), (5, .int (s_P_fieldA a2)), (4, .ref xA), (3, .ref xD), (0, .ref xP), (1, .int (4 : Int32)), (2, .int a2)]) hx hb d_P_compute_33 hl (by decide) rfl (fun ls hl => ?_)
  refine lv_iload_n hx hb d_P_compute_35 rfl (lv_at hl 7 rfl) ?_
  refine zz_cS0 (rest := []) ⟨hx, hb, hml, hown, hts⟩ (k_P_amount l D cI _ a2) g_P_compute_P_amount_131 nd_P_amount ⟨⟨rfl, rfl⟩, Nat.le_of_ble_eq_true rfl, Nat.le_of_ble_eq_true rfl⟩ hK hP hD hS hA rfl rfl hl.1 (Nat.le_of_ble_eq_true rfl) d_P_compute_36 ⟨Nat.zero_le _, Nat.zero_le _⟩ (fun H locs hP hD hS => ?_)
  refine lv_istore (lv' := [(8, .int (s_P_amount a2)), (7, .int (s_P_fieldC a2)), (6, .int (s_P_fieldB a2)), (5, .int (s_P_fieldA a2)), (4, .ref xA), (3, .ref xD), (0, .ref xP), (1, .int (4 : Int32)), (2, .int a2)]) hx hb d_P_compute_39 hl (by decide) rfl (fun ls hl => ?_)
  refine lv_iload_n hx hb d_P_compute_41 rfl (lv_at hl 7 rfl) ?_
  refine lv_tableIn (off := 97) (tgt := 139) hx hb d_P_compute_42 (by decide) (by decide) rfl (by decide) ?_
  refine lv_aload_n hx hb d_P_compute_139 rfl (lv_at hl 5 rfl) ?_
  refine lv_iload hx hb d_P_compute_140 (lv_at hl 3 rfl) ?_
  refine lv_aload_n hx hb d_P_compute_142 rfl (lv_at hl 5 rfl) ?_
  refine lv_iload hx hb d_P_compute_143 (lv_at hl 2 rfl) ?_
  refine va_iald hx hb hK hP 4 0 rfl rfl (in_fB _) d_P_compute_145 ?_
  refine lv_aload_n hx hb d_P_compute_146 rfl (lv_at hl 5 rfl) ?_
  refine lv_iload hx hb d_P_compute_147 (lv_at hl 1 rfl) ?_
  refine va_iald hx hb hK hP 4 0 rfl rfl (in_fC _) d_P_compute_149 ?_
  refine lv_isub hx hb d_P_compute_150 ?_
  refine zz_iast (w' := [oP xP xM xR xG xT u_z, oM xM xW, ar cI xW 512 u_M, oR xR xD xA u_r, ar cI xD 8 (upd u_d (ix (s_P_fieldA a2)) ((u_d (ix (s_P_fieldB a2))) - (u_d (ix (s_P_fieldC a2))))), ar cI xA 8 u_a, oG xG xL xH xI, ar cI xL 6 u_lo, ar cI xH 6 u_hi, ar cI xI 6 u_ri, oT xT u_t]) hx hb hK hP hD hS 4 0 rfl rfl (in_fA _) d_P_compute_151 rfl (fun H locs hP hD hS => ?_)
  refine lv_goto (tgt := 280) hx hb d_P_compute_152 (by decide) ?_
  show W p l e _ s m args below meth c _ _ _ _ Q (F0 m 280 ls _)
  refine lv_iconst (v := (0 : Int32)) hx hb d_P_compute_280 (by decide) ?_
  have hsp : s_P_compute4 u_z u_M u_r u_d u_a u_lo u_hi u_ri u_t a2 = ((0 : Int32), upd u_d (ix (s_P_fieldA a2)) ((u_d (ix (s_P_fieldB a2))) - (u_d (ix (s_P_fieldC a2))))) := rfl
  rw [hsp] at hE
  exact hE _ _ _ _ hP hD hS d_P_compute_281
set_option maxHeartbeats 4000000 in
set_option maxRecDepth 100000 in
theorem k_P_compute5 (l : Launch) (D : va_G) (cI : ClassId) (sz : Nat) (xP : Nat) (xM : Nat) (xW : Nat) (xR : Nat) (xD : Nat) (xA : Nat) (xG : Nat) (xL : Nat) (xH : Nat) (xI : Nat) (xT : Nat) (u_z : Nat → Int32) (u_M : Nat → Int32) (u_r : Nat → Int32) (u_d : Nat → Int32) (u_a : Nat → Int32) (u_lo : Nat → Int32) (u_hi : Nat → Int32) (u_ri : Nat → Int32) (u_t : Nat → Int32) (a2 : Int32) : zMi l y_P_compute (.code y_P_compute b_P_compute 9 (some .int) :: wd) { frames := 1, cells := 0, slots := 0, locals := 20 } D classes [(cI, .int)] [.ref xP, .int (5 : Int32), .int a2] [oP xP xM xR xG xT u_z, oM xM xW, ar cI xW 512 u_M, oR xR xD xA u_r, ar cI xD 8 u_d, ar cI xA 8 u_a, oG xG xL xH xI, ar cI xL 6 u_lo, ar cI xH 6 u_hi, ar cI xI 6 u_ri, oT xT u_t] [oP xP xM xR xG xT u_z, oM xM xW, ar cI xW 512 u_M, oR xR xD xA u_r, ar cI xD 8 ((s_P_compute5 u_z u_M u_r u_d u_a u_lo u_hi u_ri u_t a2).2), ar cI xA 8 u_a, oG xG xL xH xI, ar cI xL 6 u_lo, ar cI xH 6 u_hi, ar cI xI 6 u_ri, oT xT u_t] sz (s_P_compute5 u_z u_M u_r u_d u_a u_lo u_hi u_ri u_t a2).1 := by
  refine met_i (by decide) (Nat.le_of_ble_eq_true rfl) rfl ?_
  intro p e s m args below meth c A Q ls hx hb hml hown hts hK hP hD hS hA hl hE
  have hl : lv_has ls 9 [(0, .ref xP), (1, .int (5 : Int32)), (2, .int a2)] := hl
  have hown : s.vm.findClass R_P = some m.cls := hown
  refine lv_aload_n hx hb d_P_compute_0 rfl (lv_at hl 0 rfl) ?_
  refine zz_get (C := R_P) (T := F_P) (N := 10) (v := .ref xR) hx hb hts in_P hown hK hP 0 rfl rfl 1 (by decide) mw_22 rfl d_P_compute_1 ?_
  refine zz_get (C := R_R) (T := F_R) (N := 12) (v := .ref xD) hx hb hts in_R hown hK hP 3 rfl rfl 0 (by decide) mw_31 rfl d_P_compute_4 ?_
  refine lv_astore_n (lv' := [(3, .ref xD), (0, .ref xP), (1, .int (5 : Int32)), (2, .int a2)]) hx hb d_P_compute_7 rfl hl (by decide) rfl (fun ls hl => ?_)
  refine lv_aload_n hx hb d_P_compute_8 rfl (lv_at hl 1 rfl) ?_
  refine zz_get (C := R_P) (T := F_P) (N := 10) (v := .ref xR) hx hb hts in_P hown hK hP 0 rfl rfl 1 (by decide) mw_22 rfl d_P_compute_9 ?_
  refine zz_get (C := R_R) (T := F_R) (N := 12) (v := .ref xA) hx hb hts in_R hown hK hP 3 rfl rfl 1 (by decide) mw_37 rfl d_P_compute_12 ?_
  refine lv_astore (lv' := [(4, .ref xA), (3, .ref xD), (0, .ref xP), (1, .int (5 : Int32)), (2, .int a2)]) hx hb d_P_compute_15 hl (by decide) rfl (fun ls hl => ?_)
  refine lv_iload_n hx hb d_P_compute_17 rfl (lv_at hl 4 rfl) ?_
  refine zz_cS0 (rest := []) ⟨hx, hb, hml, hown, hts⟩ (k_P_fieldA l D cI _ a2) g_P_compute_P_fieldA_175 nd_P_fieldA ⟨⟨rfl, rfl⟩, Nat.le_of_ble_eq_true rfl, Nat.le_of_ble_eq_true rfl⟩ hK hP hD hS hA rfl rfl hl.1 (Nat.le_of_ble_eq_true rfl) d_P_compute_18 ⟨Nat.zero_le _, Nat.zero_le _⟩ (fun H locs hP hD hS => ?_)
  refine lv_istore (lv' := [(5, .int (s_P_fieldA a2)), (4, .ref xA), (3, .ref xD), (0, .ref xP), (1, .int (5 : Int32)), (2, .int a2)]) hx hb d_P_compute_21 hl (by decide) rfl (fun ls hl => ?_)
  show W p l e _ s m args below meth c _ _ _ _ Q (F0 m 23 ls _)
  refine lv_iload_n hx hb d_P_compute_23 rfl (lv_at hl 5 rfl) ?_
  refine zz_cS0 (rest := []) ⟨hx, hb, hml, hown, hts⟩ (k_P_fieldB l D cI _ a2) g_P_compute_P_fieldB_178 nd_P_fieldB ⟨⟨rfl, rfl⟩, Nat.le_of_ble_eq_true rfl, Nat.le_of_ble_eq_true rfl⟩ hK hP hD hS hA rfl rfl hl.1 (Nat.le_of_ble_eq_true rfl) d_P_compute_24 ⟨Nat.zero_le _, Nat.zero_le _⟩ (fun H locs hP hD hS => ?_)
  refine lv_istore (lv' := [(6, .int (s_P_fieldB a2)), (5, .int (s_P_fieldA a2)), (4, .ref xA), (3, .ref xD), (0, .ref xP), (1, .int (5 : Int32)), (2, .int a2)]) hx hb d_P_compute_27 hl (by decide) rfl (fun ls hl => ?_)
  refine lv_iload_n hx hb d_P_compute_29 rfl (lv_at hl 6 rfl) ?_
  refine zz_cS0 (rest := []) ⟨hx, hb, hml, hown, hts⟩ (k_P_fieldC l D cI _ a2) g_P_compute_P_fieldC_181 nd_P_fieldC ⟨⟨rfl, rfl⟩, Nat.le_of_ble_eq_true rfl, Nat.le_of_ble_eq_true rfl⟩ hK hP hD hS hA rfl rfl hl.1 (Nat.le_of_ble_eq_true rfl) d_P_compute_30 ⟨Nat.zero_le _, Nat.zero_le _⟩ (fun H locs hP hD hS => ?_)
  refine lv_istore (lv' := [(7, .int (s_P_fieldC a2)), (6, .int (s_P_fieldB a2)), (5, .int (s_P_fieldA a2)), (4, .ref xA), (3, .ref xD), (0, .ref xP), (1, .int (5 : Int32)), (2, .int a2)]) hx hb d_P_compute_33 hl (by decide) rfl (fun ls hl => ?_)
  refine lv_iload_n hx hb d_P_compute_35 rfl (lv_at hl 7 rfl) ?_
  refine zz_cS0 (rest := []) ⟨hx, hb, hml, hown, hts⟩ (k_P_amount l D cI _ a2) g_P_compute_P_amount_131 nd_P_amount ⟨⟨rfl, rfl⟩, Nat.le_of_ble_eq_true rfl, Nat.le_of_ble_eq_true rfl⟩ hK hP hD hS hA rfl rfl hl.1 (Nat.le_of_ble_eq_true rfl) d_P_compute_36 ⟨Nat.zero_le _, Nat.zero_le _⟩ (fun H locs hP hD hS => ?_)
  refine lv_istore (lv' := [(8, .int (s_P_amount a2)), (7, .int (s_P_fieldC a2)), (6, .int (s_P_fieldB a2)), (5, .int (s_P_fieldA a2)), (4, .ref xA), (3, .ref xD), (0, .ref xP), (1, .int (5 : Int32)), (2, .int a2)]) hx hb d_P_compute_39 hl (by decide) rfl (fun ls hl => ?_)
  refine lv_iload_n hx hb d_P_compute_41 rfl (lv_at hl 7 rfl) ?_
  refine lv_tableIn (off := 113) (tgt := 155) hx hb d_P_compute_42 (by decide) (by decide) rfl (by decide) ?_
  refine lv_aload_n hx hb d_P_compute_155 rfl (lv_at hl 5 rfl) ?_
  refine lv_iload hx hb d_P_compute_156 (lv_at hl 3 rfl) ?_
  refine lv_aload_n hx hb d_P_compute_158 rfl (lv_at hl 5 rfl) ?_
  refine lv_iload hx hb d_P_compute_159 (lv_at hl 2 rfl) ?_
  refine va_iald hx hb hK hP 4 0 rfl rfl (in_fB _) d_P_compute_161 ?_
  refine lv_aload_n hx hb d_P_compute_162 rfl (lv_at hl 5 rfl) ?_
  refine lv_iload hx hb d_P_compute_163 (lv_at hl 1 rfl) ?_
  refine va_iald hx hb hK hP 4 0 rfl rfl (in_fC _) d_P_compute_165 ?_
  refine lv_imul hx hb d_P_compute_166 ?_
  refine zz_iast (w' := [oP xP xM xR xG xT u_z, oM xM xW, ar cI xW 512 u_M, oR xR xD xA u_r, ar cI xD 8 (upd u_d (ix (s_P_fieldA a2)) ((u_d (ix (s_P_fieldB a2))) * (u_d (ix (s_P_fieldC a2))))), ar cI xA 8 u_a, oG xG xL xH xI, ar cI xL 6 u_lo, ar cI xH 6 u_hi, ar cI xI 6 u_ri, oT xT u_t]) hx hb hK hP hD hS 4 0 rfl rfl (in_fA _) d_P_compute_167 rfl (fun H locs hP hD hS => ?_)
  refine lv_goto (tgt := 280) hx hb d_P_compute_168 (by decide) ?_
  show W p l e _ s m args below meth c _ _ _ _ Q (F0 m 280 ls _)
  refine lv_iconst (v := (0 : Int32)) hx hb d_P_compute_280 (by decide) ?_
  have hsp : s_P_compute5 u_z u_M u_r u_d u_a u_lo u_hi u_ri u_t a2 = ((0 : Int32), upd u_d (ix (s_P_fieldA a2)) ((u_d (ix (s_P_fieldB a2))) * (u_d (ix (s_P_fieldC a2))))) := rfl
  rw [hsp] at hE
  exact hE _ _ _ _ hP hD hS d_P_compute_281
set_option maxHeartbeats 4000000 in
set_option maxRecDepth 100000 in
theorem k_P_compute6 (l : Launch) (D : va_G) (cI : ClassId) (sz : Nat) (xP : Nat) (xM : Nat) (xW : Nat) (xR : Nat) (xD : Nat) (xA : Nat) (xG : Nat) (xL : Nat) (xH : Nat) (xI : Nat) (xT : Nat) (u_z : Nat → Int32) (u_M : Nat → Int32) (u_r : Nat → Int32) (u_d : Nat → Int32) (u_a : Nat → Int32) (u_lo : Nat → Int32) (u_hi : Nat → Int32) (u_ri : Nat → Int32) (u_t : Nat → Int32) (a2 : Int32) : zMi l y_P_compute (.code y_P_compute b_P_compute 9 (some .int) :: wd) { frames := 1, cells := 0, slots := 0, locals := 20 } D classes [(cI, .int)] [.ref xP, .int (6 : Int32), .int a2] [oP xP xM xR xG xT u_z, oM xM xW, ar cI xW 512 u_M, oR xR xD xA u_r, ar cI xD 8 u_d, ar cI xA 8 u_a, oG xG xL xH xI, ar cI xL 6 u_lo, ar cI xH 6 u_hi, ar cI xI 6 u_ri, oT xT u_t] [oP xP xM xR xG xT u_z, oM xM xW, ar cI xW 512 u_M, oR xR xD xA u_r, ar cI xD 8 ((s_P_compute6 u_z u_M u_r u_d u_a u_lo u_hi u_ri u_t a2).2), ar cI xA 8 u_a, oG xG xL xH xI, ar cI xL 6 u_lo, ar cI xH 6 u_hi, ar cI xI 6 u_ri, oT xT u_t] sz (s_P_compute6 u_z u_M u_r u_d u_a u_lo u_hi u_ri u_t a2).1 := by
  refine met_i (by decide) (Nat.le_of_ble_eq_true rfl) rfl ?_
  intro p e s m args below meth c A Q ls hx hb hml hown hts hK hP hD hS hA hl hE
  have hl : lv_has ls 9 [(0, .ref xP), (1, .int (6 : Int32)), (2, .int a2)] := hl
  have hown : s.vm.findClass R_P = some m.cls := hown
  refine lv_aload_n hx hb d_P_compute_0 rfl (lv_at hl 0 rfl) ?_
  refine zz_get (C := R_P) (T := F_P) (N := 10) (v := .ref xR) hx hb hts in_P hown hK hP 0 rfl rfl 1 (by decide) mw_22 rfl d_P_compute_1 ?_
  refine zz_get (C := R_R) (T := F_R) (N := 12) (v := .ref xD) hx hb hts in_R hown hK hP 3 rfl rfl 0 (by decide) mw_31 rfl d_P_compute_4 ?_
  refine lv_astore_n (lv' := [(3, .ref xD), (0, .ref xP), (1, .int (6 : Int32)), (2, .int a2)]) hx hb d_P_compute_7 rfl hl (by decide) rfl (fun ls hl => ?_)
  refine lv_aload_n hx hb d_P_compute_8 rfl (lv_at hl 1 rfl) ?_
  refine zz_get (C := R_P) (T := F_P) (N := 10) (v := .ref xR) hx hb hts in_P hown hK hP 0 rfl rfl 1 (by decide) mw_22 rfl d_P_compute_9 ?_
  refine zz_get (C := R_R) (T := F_R) (N := 12) (v := .ref xA) hx hb hts in_R hown hK hP 3 rfl rfl 1 (by decide) mw_37 rfl d_P_compute_12 ?_
  refine lv_astore (lv' := [(4, .ref xA), (3, .ref xD), (0, .ref xP), (1, .int (6 : Int32)), (2, .int a2)]) hx hb d_P_compute_15 hl (by decide) rfl (fun ls hl => ?_)
  refine lv_iload_n hx hb d_P_compute_17 rfl (lv_at hl 4 rfl) ?_
  refine zz_cS0 (rest := []) ⟨hx, hb, hml, hown, hts⟩ (k_P_fieldA l D cI _ a2) g_P_compute_P_fieldA_175 nd_P_fieldA ⟨⟨rfl, rfl⟩, Nat.le_of_ble_eq_true rfl, Nat.le_of_ble_eq_true rfl⟩ hK hP hD hS hA rfl rfl hl.1 (Nat.le_of_ble_eq_true rfl) d_P_compute_18 ⟨Nat.zero_le _, Nat.zero_le _⟩ (fun H locs hP hD hS => ?_)
  refine lv_istore (lv' := [(5, .int (s_P_fieldA a2)), (4, .ref xA), (3, .ref xD), (0, .ref xP), (1, .int (6 : Int32)), (2, .int a2)]) hx hb d_P_compute_21 hl (by decide) rfl (fun ls hl => ?_)
  show W p l e _ s m args below meth c _ _ _ _ Q (F0 m 23 ls _)
  refine lv_iload_n hx hb d_P_compute_23 rfl (lv_at hl 5 rfl) ?_
  refine zz_cS0 (rest := []) ⟨hx, hb, hml, hown, hts⟩ (k_P_fieldB l D cI _ a2) g_P_compute_P_fieldB_178 nd_P_fieldB ⟨⟨rfl, rfl⟩, Nat.le_of_ble_eq_true rfl, Nat.le_of_ble_eq_true rfl⟩ hK hP hD hS hA rfl rfl hl.1 (Nat.le_of_ble_eq_true rfl) d_P_compute_24 ⟨Nat.zero_le _, Nat.zero_le _⟩ (fun H locs hP hD hS => ?_)
  refine lv_istore (lv' := [(6, .int (s_P_fieldB a2)), (5, .int (s_P_fieldA a2)), (4, .ref xA), (3, .ref xD), (0, .ref xP), (1, .int (6 : Int32)), (2, .int a2)]) hx hb d_P_compute_27 hl (by decide) rfl (fun ls hl => ?_)
  refine lv_iload_n hx hb d_P_compute_29 rfl (lv_at hl 6 rfl) ?_
  refine zz_cS0 (rest := []) ⟨hx, hb, hml, hown, hts⟩ (k_P_fieldC l D cI _ a2) g_P_compute_P_fieldC_181 nd_P_fieldC ⟨⟨rfl, rfl⟩, Nat.le_of_ble_eq_true rfl, Nat.le_of_ble_eq_true rfl⟩ hK hP hD hS hA rfl rfl hl.1 (Nat.le_of_ble_eq_true rfl) d_P_compute_30 ⟨Nat.zero_le _, Nat.zero_le _⟩ (fun H locs hP hD hS => ?_)
  refine lv_istore (lv' := [(7, .int (s_P_fieldC a2)), (6, .int (s_P_fieldB a2)), (5, .int (s_P_fieldA a2)), (4, .ref xA), (3, .ref xD), (0, .ref xP), (1, .int (6 : Int32)), (2, .int a2)]) hx hb d_P_compute_33 hl (by decide) rfl (fun ls hl => ?_)
  refine lv_iload_n hx hb d_P_compute_35 rfl (lv_at hl 7 rfl) ?_
  refine zz_cS0 (rest := []) ⟨hx, hb, hml, hown, hts⟩ (k_P_amount l D cI _ a2) g_P_compute_P_amount_131 nd_P_amount ⟨⟨rfl, rfl⟩, Nat.le_of_ble_eq_true rfl, Nat.le_of_ble_eq_true rfl⟩ hK hP hD hS hA rfl rfl hl.1 (Nat.le_of_ble_eq_true rfl) d_P_compute_36 ⟨Nat.zero_le _, Nat.zero_le _⟩ (fun H locs hP hD hS => ?_)
  refine lv_istore (lv' := [(8, .int (s_P_amount a2)), (7, .int (s_P_fieldC a2)), (6, .int (s_P_fieldB a2)), (5, .int (s_P_fieldA a2)), (4, .ref xA), (3, .ref xD), (0, .ref xP), (1, .int (6 : Int32)), (2, .int a2)]) hx hb d_P_compute_39 hl (by decide) rfl (fun ls hl => ?_)
  refine lv_iload_n hx hb d_P_compute_41 rfl (lv_at hl 7 rfl) ?_
  refine lv_tableIn (off := 129) (tgt := 171) hx hb d_P_compute_42 (by decide) (by decide) rfl (by decide) ?_
  refine lv_aload_n hx hb d_P_compute_171 rfl (lv_at hl 5 rfl) ?_
  refine lv_iload hx hb d_P_compute_172 (lv_at hl 3 rfl) ?_
  refine lv_aload_n hx hb d_P_compute_174 rfl (lv_at hl 5 rfl) ?_
  refine lv_iload hx hb d_P_compute_175 (lv_at hl 2 rfl) ?_
  refine va_iald hx hb hK hP 4 0 rfl rfl (in_fB _) d_P_compute_177 ?_
  refine lv_aload_n hx hb d_P_compute_178 rfl (lv_at hl 5 rfl) ?_
  refine lv_iload hx hb d_P_compute_179 (lv_at hl 1 rfl) ?_
  refine va_iald hx hb hK hP 4 0 rfl rfl (in_fC _) d_P_compute_181 ?_
  refine lv_iand hx hb d_P_compute_182 ?_
  refine zz_iast (w' := [oP xP xM xR xG xT u_z, oM xM xW, ar cI xW 512 u_M, oR xR xD xA u_r, ar cI xD 8 (upd u_d (ix (s_P_fieldA a2)) ((u_d (ix (s_P_fieldB a2))) &&& (u_d (ix (s_P_fieldC a2))))), ar cI xA 8 u_a, oG xG xL xH xI, ar cI xL 6 u_lo, ar cI xH 6 u_hi, ar cI xI 6 u_ri, oT xT u_t]) hx hb hK hP hD hS 4 0 rfl rfl (in_fA _) d_P_compute_183 rfl (fun H locs hP hD hS => ?_)
  refine lv_goto (tgt := 280) hx hb d_P_compute_184 (by decide) ?_
  show W p l e _ s m args below meth c _ _ _ _ Q (F0 m 280 ls _)
  refine lv_iconst (v := (0 : Int32)) hx hb d_P_compute_280 (by decide) ?_
  have hsp : s_P_compute6 u_z u_M u_r u_d u_a u_lo u_hi u_ri u_t a2 = ((0 : Int32), upd u_d (ix (s_P_fieldA a2)) ((u_d (ix (s_P_fieldB a2))) &&& (u_d (ix (s_P_fieldC a2))))) := rfl
  rw [hsp] at hE
  exact hE _ _ _ _ hP hD hS d_P_compute_281
set_option maxHeartbeats 4000000 in
set_option maxRecDepth 100000 in
theorem k_P_compute7 (l : Launch) (D : va_G) (cI : ClassId) (sz : Nat) (xP : Nat) (xM : Nat) (xW : Nat) (xR : Nat) (xD : Nat) (xA : Nat) (xG : Nat) (xL : Nat) (xH : Nat) (xI : Nat) (xT : Nat) (u_z : Nat → Int32) (u_M : Nat → Int32) (u_r : Nat → Int32) (u_d : Nat → Int32) (u_a : Nat → Int32) (u_lo : Nat → Int32) (u_hi : Nat → Int32) (u_ri : Nat → Int32) (u_t : Nat → Int32) (a2 : Int32) : zMi l y_P_compute (.code y_P_compute b_P_compute 9 (some .int) :: wd) { frames := 1, cells := 0, slots := 0, locals := 20 } D classes [(cI, .int)] [.ref xP, .int (7 : Int32), .int a2] [oP xP xM xR xG xT u_z, oM xM xW, ar cI xW 512 u_M, oR xR xD xA u_r, ar cI xD 8 u_d, ar cI xA 8 u_a, oG xG xL xH xI, ar cI xL 6 u_lo, ar cI xH 6 u_hi, ar cI xI 6 u_ri, oT xT u_t] [oP xP xM xR xG xT u_z, oM xM xW, ar cI xW 512 u_M, oR xR xD xA u_r, ar cI xD 8 ((s_P_compute7 u_z u_M u_r u_d u_a u_lo u_hi u_ri u_t a2).2), ar cI xA 8 u_a, oG xG xL xH xI, ar cI xL 6 u_lo, ar cI xH 6 u_hi, ar cI xI 6 u_ri, oT xT u_t] sz (s_P_compute7 u_z u_M u_r u_d u_a u_lo u_hi u_ri u_t a2).1 := by
  refine met_i (by decide) (Nat.le_of_ble_eq_true rfl) rfl ?_
  intro p e s m args below meth c A Q ls hx hb hml hown hts hK hP hD hS hA hl hE
  have hl : lv_has ls 9 [(0, .ref xP), (1, .int (7 : Int32)), (2, .int a2)] := hl
  have hown : s.vm.findClass R_P = some m.cls := hown
  refine lv_aload_n hx hb d_P_compute_0 rfl (lv_at hl 0 rfl) ?_
  refine zz_get (C := R_P) (T := F_P) (N := 10) (v := .ref xR) hx hb hts in_P hown hK hP 0 rfl rfl 1 (by decide) mw_22 rfl d_P_compute_1 ?_
  refine zz_get (C := R_R) (T := F_R) (N := 12) (v := .ref xD) hx hb hts in_R hown hK hP 3 rfl rfl 0 (by decide) mw_31 rfl d_P_compute_4 ?_
  refine lv_astore_n (lv' := [(3, .ref xD), (0, .ref xP), (1, .int (7 : Int32)), (2, .int a2)]) hx hb d_P_compute_7 rfl hl (by decide) rfl (fun ls hl => ?_)
  refine lv_aload_n hx hb d_P_compute_8 rfl (lv_at hl 1 rfl) ?_
  refine zz_get (C := R_P) (T := F_P) (N := 10) (v := .ref xR) hx hb hts in_P hown hK hP 0 rfl rfl 1 (by decide) mw_22 rfl d_P_compute_9 ?_
  refine zz_get (C := R_R) (T := F_R) (N := 12) (v := .ref xA) hx hb hts in_R hown hK hP 3 rfl rfl 1 (by decide) mw_37 rfl d_P_compute_12 ?_
  refine lv_astore (lv' := [(4, .ref xA), (3, .ref xD), (0, .ref xP), (1, .int (7 : Int32)), (2, .int a2)]) hx hb d_P_compute_15 hl (by decide) rfl (fun ls hl => ?_)
  refine lv_iload_n hx hb d_P_compute_17 rfl (lv_at hl 4 rfl) ?_
  refine zz_cS0 (rest := []) ⟨hx, hb, hml, hown, hts⟩ (k_P_fieldA l D cI _ a2) g_P_compute_P_fieldA_175 nd_P_fieldA ⟨⟨rfl, rfl⟩, Nat.le_of_ble_eq_true rfl, Nat.le_of_ble_eq_true rfl⟩ hK hP hD hS hA rfl rfl hl.1 (Nat.le_of_ble_eq_true rfl) d_P_compute_18 ⟨Nat.zero_le _, Nat.zero_le _⟩ (fun H locs hP hD hS => ?_)
  refine lv_istore (lv' := [(5, .int (s_P_fieldA a2)), (4, .ref xA), (3, .ref xD), (0, .ref xP), (1, .int (7 : Int32)), (2, .int a2)]) hx hb d_P_compute_21 hl (by decide) rfl (fun ls hl => ?_)
  show W p l e _ s m args below meth c _ _ _ _ Q (F0 m 23 ls _)
  refine lv_iload_n hx hb d_P_compute_23 rfl (lv_at hl 5 rfl) ?_
  refine zz_cS0 (rest := []) ⟨hx, hb, hml, hown, hts⟩ (k_P_fieldB l D cI _ a2) g_P_compute_P_fieldB_178 nd_P_fieldB ⟨⟨rfl, rfl⟩, Nat.le_of_ble_eq_true rfl, Nat.le_of_ble_eq_true rfl⟩ hK hP hD hS hA rfl rfl hl.1 (Nat.le_of_ble_eq_true rfl) d_P_compute_24 ⟨Nat.zero_le _, Nat.zero_le _⟩ (fun H locs hP hD hS => ?_)
  refine lv_istore (lv' := [(6, .int (s_P_fieldB a2)), (5, .int (s_P_fieldA a2)), (4, .ref xA), (3, .ref xD), (0, .ref xP), (1, .int (7 : Int32)), (2, .int a2)]) hx hb d_P_compute_27 hl (by decide) rfl (fun ls hl => ?_)
  refine lv_iload_n hx hb d_P_compute_29 rfl (lv_at hl 6 rfl) ?_
  refine zz_cS0 (rest := []) ⟨hx, hb, hml, hown, hts⟩ (k_P_fieldC l D cI _ a2) g_P_compute_P_fieldC_181 nd_P_fieldC ⟨⟨rfl, rfl⟩, Nat.le_of_ble_eq_true rfl, Nat.le_of_ble_eq_true rfl⟩ hK hP hD hS hA rfl rfl hl.1 (Nat.le_of_ble_eq_true rfl) d_P_compute_30 ⟨Nat.zero_le _, Nat.zero_le _⟩ (fun H locs hP hD hS => ?_)
  refine lv_istore (lv' := [(7, .int (s_P_fieldC a2)), (6, .int (s_P_fieldB a2)), (5, .int (s_P_fieldA a2)), (4, .ref xA), (3, .ref xD), (0, .ref xP), (1, .int (7 : Int32)), (2, .int a2)]) hx hb d_P_compute_33 hl (by decide) rfl (fun ls hl => ?_)
  refine lv_iload_n hx hb d_P_compute_35 rfl (lv_at hl 7 rfl) ?_
  refine zz_cS0 (rest := []) ⟨hx, hb, hml, hown, hts⟩ (k_P_amount l D cI _ a2) g_P_compute_P_amount_131 nd_P_amount ⟨⟨rfl, rfl⟩, Nat.le_of_ble_eq_true rfl, Nat.le_of_ble_eq_true rfl⟩ hK hP hD hS hA rfl rfl hl.1 (Nat.le_of_ble_eq_true rfl) d_P_compute_36 ⟨Nat.zero_le _, Nat.zero_le _⟩ (fun H locs hP hD hS => ?_)
  refine lv_istore (lv' := [(8, .int (s_P_amount a2)), (7, .int (s_P_fieldC a2)), (6, .int (s_P_fieldB a2)), (5, .int (s_P_fieldA a2)), (4, .ref xA), (3, .ref xD), (0, .ref xP), (1, .int (7 : Int32)), (2, .int a2)]) hx hb d_P_compute_39 hl (by decide) rfl (fun ls hl => ?_)
  refine lv_iload_n hx hb d_P_compute_41 rfl (lv_at hl 7 rfl) ?_
  refine lv_tableIn (off := 145) (tgt := 187) hx hb d_P_compute_42 (by decide) (by decide) rfl (by decide) ?_
  refine lv_aload_n hx hb d_P_compute_187 rfl (lv_at hl 5 rfl) ?_
  refine lv_iload hx hb d_P_compute_188 (lv_at hl 3 rfl) ?_
  refine lv_aload_n hx hb d_P_compute_190 rfl (lv_at hl 5 rfl) ?_
  refine lv_iload hx hb d_P_compute_191 (lv_at hl 2 rfl) ?_
  refine va_iald hx hb hK hP 4 0 rfl rfl (in_fB _) d_P_compute_193 ?_
  refine lv_aload_n hx hb d_P_compute_194 rfl (lv_at hl 5 rfl) ?_
  refine lv_iload hx hb d_P_compute_195 (lv_at hl 1 rfl) ?_
  refine va_iald hx hb hK hP 4 0 rfl rfl (in_fC _) d_P_compute_197 ?_
  refine lv_ixor hx hb d_P_compute_198 ?_
  refine zz_iast (w' := [oP xP xM xR xG xT u_z, oM xM xW, ar cI xW 512 u_M, oR xR xD xA u_r, ar cI xD 8 (upd u_d (ix (s_P_fieldA a2)) ((u_d (ix (s_P_fieldB a2))) ^^^ (u_d (ix (s_P_fieldC a2))))), ar cI xA 8 u_a, oG xG xL xH xI, ar cI xL 6 u_lo, ar cI xH 6 u_hi, ar cI xI 6 u_ri, oT xT u_t]) hx hb hK hP hD hS 4 0 rfl rfl (in_fA _) d_P_compute_199 rfl (fun H locs hP hD hS => ?_)
  refine lv_goto (tgt := 280) hx hb d_P_compute_200 (by decide) ?_
  show W p l e _ s m args below meth c _ _ _ _ Q (F0 m 280 ls _)
  refine lv_iconst (v := (0 : Int32)) hx hb d_P_compute_280 (by decide) ?_
  have hsp : s_P_compute7 u_z u_M u_r u_d u_a u_lo u_hi u_ri u_t a2 = ((0 : Int32), upd u_d (ix (s_P_fieldA a2)) ((u_d (ix (s_P_fieldB a2))) ^^^ (u_d (ix (s_P_fieldC a2))))) := rfl
  rw [hsp] at hE
  exact hE _ _ _ _ hP hD hS d_P_compute_281
set_option maxHeartbeats 4000000 in
set_option maxRecDepth 100000 in
theorem k_P_compute8 (l : Launch) (D : va_G) (cI : ClassId) (sz : Nat) (xP : Nat) (xM : Nat) (xW : Nat) (xR : Nat) (xD : Nat) (xA : Nat) (xG : Nat) (xL : Nat) (xH : Nat) (xI : Nat) (xT : Nat) (u_z : Nat → Int32) (u_M : Nat → Int32) (u_r : Nat → Int32) (u_d : Nat → Int32) (u_a : Nat → Int32) (u_lo : Nat → Int32) (u_hi : Nat → Int32) (u_ri : Nat → Int32) (u_t : Nat → Int32) (a2 : Int32) : zMi l y_P_compute (.code y_P_compute b_P_compute 9 (some .int) :: wd) { frames := 1, cells := 0, slots := 0, locals := 20 } D classes [(cI, .int)] [.ref xP, .int (8 : Int32), .int a2] [oP xP xM xR xG xT u_z, oM xM xW, ar cI xW 512 u_M, oR xR xD xA u_r, ar cI xD 8 u_d, ar cI xA 8 u_a, oG xG xL xH xI, ar cI xL 6 u_lo, ar cI xH 6 u_hi, ar cI xI 6 u_ri, oT xT u_t] [oP xP xM xR xG xT u_z, oM xM xW, ar cI xW 512 u_M, oR xR xD xA u_r, ar cI xD 8 ((s_P_compute8 u_z u_M u_r u_d u_a u_lo u_hi u_ri u_t a2).2), ar cI xA 8 u_a, oG xG xL xH xI, ar cI xL 6 u_lo, ar cI xH 6 u_hi, ar cI xI 6 u_ri, oT xT u_t] sz (s_P_compute8 u_z u_M u_r u_d u_a u_lo u_hi u_ri u_t a2).1 := by
  refine met_i (by decide) (Nat.le_of_ble_eq_true rfl) rfl ?_
  intro p e s m args below meth c A Q ls hx hb hml hown hts hK hP hD hS hA hl hE
  have hl : lv_has ls 9 [(0, .ref xP), (1, .int (8 : Int32)), (2, .int a2)] := hl
  have hown : s.vm.findClass R_P = some m.cls := hown
  refine lv_aload_n hx hb d_P_compute_0 rfl (lv_at hl 0 rfl) ?_
  refine zz_get (C := R_P) (T := F_P) (N := 10) (v := .ref xR) hx hb hts in_P hown hK hP 0 rfl rfl 1 (by decide) mw_22 rfl d_P_compute_1 ?_
  refine zz_get (C := R_R) (T := F_R) (N := 12) (v := .ref xD) hx hb hts in_R hown hK hP 3 rfl rfl 0 (by decide) mw_31 rfl d_P_compute_4 ?_
  refine lv_astore_n (lv' := [(3, .ref xD), (0, .ref xP), (1, .int (8 : Int32)), (2, .int a2)]) hx hb d_P_compute_7 rfl hl (by decide) rfl (fun ls hl => ?_)
  refine lv_aload_n hx hb d_P_compute_8 rfl (lv_at hl 1 rfl) ?_
  refine zz_get (C := R_P) (T := F_P) (N := 10) (v := .ref xR) hx hb hts in_P hown hK hP 0 rfl rfl 1 (by decide) mw_22 rfl d_P_compute_9 ?_
  refine zz_get (C := R_R) (T := F_R) (N := 12) (v := .ref xA) hx hb hts in_R hown hK hP 3 rfl rfl 1 (by decide) mw_37 rfl d_P_compute_12 ?_
  refine lv_astore (lv' := [(4, .ref xA), (3, .ref xD), (0, .ref xP), (1, .int (8 : Int32)), (2, .int a2)]) hx hb d_P_compute_15 hl (by decide) rfl (fun ls hl => ?_)
  refine lv_iload_n hx hb d_P_compute_17 rfl (lv_at hl 4 rfl) ?_
  refine zz_cS0 (rest := []) ⟨hx, hb, hml, hown, hts⟩ (k_P_fieldA l D cI _ a2) g_P_compute_P_fieldA_175 nd_P_fieldA ⟨⟨rfl, rfl⟩, Nat.le_of_ble_eq_true rfl, Nat.le_of_ble_eq_true rfl⟩ hK hP hD hS hA rfl rfl hl.1 (Nat.le_of_ble_eq_true rfl) d_P_compute_18 ⟨Nat.zero_le _, Nat.zero_le _⟩ (fun H locs hP hD hS => ?_)
  refine lv_istore (lv' := [(5, .int (s_P_fieldA a2)), (4, .ref xA), (3, .ref xD), (0, .ref xP), (1, .int (8 : Int32)), (2, .int a2)]) hx hb d_P_compute_21 hl (by decide) rfl (fun ls hl => ?_)
  show W p l e _ s m args below meth c _ _ _ _ Q (F0 m 23 ls _)
  refine lv_iload_n hx hb d_P_compute_23 rfl (lv_at hl 5 rfl) ?_
  refine zz_cS0 (rest := []) ⟨hx, hb, hml, hown, hts⟩ (k_P_fieldB l D cI _ a2) g_P_compute_P_fieldB_178 nd_P_fieldB ⟨⟨rfl, rfl⟩, Nat.le_of_ble_eq_true rfl, Nat.le_of_ble_eq_true rfl⟩ hK hP hD hS hA rfl rfl hl.1 (Nat.le_of_ble_eq_true rfl) d_P_compute_24 ⟨Nat.zero_le _, Nat.zero_le _⟩ (fun H locs hP hD hS => ?_)
  refine lv_istore (lv' := [(6, .int (s_P_fieldB a2)), (5, .int (s_P_fieldA a2)), (4, .ref xA), (3, .ref xD), (0, .ref xP), (1, .int (8 : Int32)), (2, .int a2)]) hx hb d_P_compute_27 hl (by decide) rfl (fun ls hl => ?_)
  refine lv_iload_n hx hb d_P_compute_29 rfl (lv_at hl 6 rfl) ?_
  refine zz_cS0 (rest := []) ⟨hx, hb, hml, hown, hts⟩ (k_P_fieldC l D cI _ a2) g_P_compute_P_fieldC_181 nd_P_fieldC ⟨⟨rfl, rfl⟩, Nat.le_of_ble_eq_true rfl, Nat.le_of_ble_eq_true rfl⟩ hK hP hD hS hA rfl rfl hl.1 (Nat.le_of_ble_eq_true rfl) d_P_compute_30 ⟨Nat.zero_le _, Nat.zero_le _⟩ (fun H locs hP hD hS => ?_)
  refine lv_istore (lv' := [(7, .int (s_P_fieldC a2)), (6, .int (s_P_fieldB a2)), (5, .int (s_P_fieldA a2)), (4, .ref xA), (3, .ref xD), (0, .ref xP), (1, .int (8 : Int32)), (2, .int a2)]) hx hb d_P_compute_33 hl (by decide) rfl (fun ls hl => ?_)
  refine lv_iload_n hx hb d_P_compute_35 rfl (lv_at hl 7 rfl) ?_
  refine zz_cS0 (rest := []) ⟨hx, hb, hml, hown, hts⟩ (k_P_amount l D cI _ a2) g_P_compute_P_amount_131 nd_P_amount ⟨⟨rfl, rfl⟩, Nat.le_of_ble_eq_true rfl, Nat.le_of_ble_eq_true rfl⟩ hK hP hD hS hA rfl rfl hl.1 (Nat.le_of_ble_eq_true rfl) d_P_compute_36 ⟨Nat.zero_le _, Nat.zero_le _⟩ (fun H locs hP hD hS => ?_)
  refine lv_istore (lv' := [(8, .int (s_P_amount a2)), (7, .int (s_P_fieldC a2)), (6, .int (s_P_fieldB a2)), (5, .int (s_P_fieldA a2)), (4, .ref xA), (3, .ref xD), (0, .ref xP), (1, .int (8 : Int32)), (2, .int a2)]) hx hb d_P_compute_39 hl (by decide) rfl (fun ls hl => ?_)
  refine lv_iload_n hx hb d_P_compute_41 rfl (lv_at hl 7 rfl) ?_
  refine lv_tableIn (off := 161) (tgt := 203) hx hb d_P_compute_42 (by decide) (by decide) rfl (by decide) ?_
  refine lv_aload_n hx hb d_P_compute_203 rfl (lv_at hl 5 rfl) ?_
  refine lv_iload hx hb d_P_compute_204 (lv_at hl 3 rfl) ?_
  refine lv_iload hx hb d_P_compute_206 (lv_at hl 0 rfl) ?_
  have J208_1 : ∀ (vj208_0 : Int32) (ls : Array Slot) (H : Heap) (locs : List Loc), vj208_0 = (if 0 ≤ (s_P_amount a2) then ((u_d (ix (s_P_fieldB a2))) <<< ((s_P_amount a2) &&& 31)) else ((u_d (ix (s_P_fieldB a2))) >>> ((-(s_P_amount a2)) &&& 31))) → lv_has ls 9 [(8, .int (s_P_amount a2)), (7, .int (s_P_fieldC a2)), (6, .int (s_P_fieldB a2)), (5, .int (s_P_fieldA a2)), (4, .ref xA), (3, .ref xD), (0, .ref xP), (1, .int (8 : Int32)), (2, .int a2)] → va_P D classes [oP xP xM xR xG xT u_z, oM xM xW, ar cI xW 512 u_M, oR xR xD xA u_r, ar cI xD 8 u_d, ar cI xA 8 u_a, oG xG xL xH xI, ar cI xL 6 u_lo, ar cI xH 6 u_hi, ar cI xI 6 u_ri, oT xT u_t] H → va_D A [oP xP xM xR xG xT u_z, oM xM xW, ar cI xW 512 u_M, oR xR xD xA u_r, ar cI xD 8 u_d, ar cI xA 8 u_a, oG xG xL xH xI, ar cI xL 6 u_lo, ar cI xH 6 u_hi, ar cI xI 6 u_ri, oT xT u_t] → va_S A s.heap H locs → W p l e { frames := 1, cells := 0, slots := 0, locals := 20 } s m args below meth c H locs 0 0 Q (F0 m 229 ls [.int vj208_0, .int (s_P_fieldA a2), .ref xD]) := by
    intro vj208_0 ls H locs evj208_0 hl hP hD hS
    subst evj208_0
    refine zz_iast (w' := [oP xP xM xR xG xT u_z, oM xM xW, ar cI xW 512 u_M, oR xR xD xA u_r, ar cI xD 8 (upd u_d (ix (s_P_fieldA a2)) (if 0 ≤ (s_P_amount a2) then ((u_d (ix (s_P_fieldB a2))) <<< ((s_P_amount a2) &&& 31)) else ((u_d (ix (s_P_fieldB a2))) >>> ((-(s_P_amount a2)) &&& 31)))), ar cI xA 8 u_a, oG xG xL xH xI, ar cI xL 6 u_lo, ar cI xH 6 u_hi, ar cI xI 6 u_ri, oT xT u_t]) hx hb hK hP hD hS 4 0 rfl rfl (in_fA _) d_P_compute_229 rfl (fun H locs hP hD hS => ?_)
    refine lv_goto (tgt := 280) hx hb d_P_compute_230 (by decide) ?_
    refine lv_iconst (v := (0 : Int32)) hx hb d_P_compute_280 (by decide) ?_
    have hsp : s_P_compute8 u_z u_M u_r u_d u_a u_lo u_hi u_ri u_t a2 = ((0 : Int32), upd u_d (ix (s_P_fieldA a2)) (if 0 ≤ (s_P_amount a2) then ((u_d (ix (s_P_fieldB a2))) <<< ((s_P_amount a2) &&& 31)) else ((u_d (ix (s_P_fieldB a2))) >>> ((-(s_P_amount a2)) &&& 31)))) := rfl
    rw [hsp] at hE
    exact hE _ _ _ _ hP hD hS d_P_compute_281
  refine lv_if_ge (tgt := 222) hx hb d_P_compute_208 (by decide) (fun h1 => ?_) (fun h1 => ?_)
  ·
    refine lv_aload_n hx hb d_P_compute_222 rfl (lv_at hl 5 rfl) ?_
    refine lv_iload hx hb d_P_compute_223 (lv_at hl 2 rfl) ?_
    refine va_iald hx hb hK hP 4 0 rfl rfl (in_fB _) d_P_compute_225 ?_
    refine lv_iload hx hb d_P_compute_226 (lv_at hl 0 rfl) ?_
    refine lv_ishl hx hb d_P_compute_228 ?_
    exact J208_1 ((u_d (ix (s_P_fieldB a2))) <<< ((s_P_amount a2) &&& 31)) _ _ _ (by rw [if_pos h1]) (lv_sub hl [0, 1, 2, 3, 4, 5, 6, 7, 8] rfl) hP hD hS
  ·
    refine lv_aload_n hx hb d_P_compute_211 rfl (lv_at hl 5 rfl) ?_
    refine lv_iload hx hb d_P_compute_212 (lv_at hl 2 rfl) ?_
    refine va_iald hx hb hK hP 4 0 rfl rfl (in_fB _) d_P_compute_214 ?_
    refine lv_iload hx hb d_P_compute_215 (lv_at hl 0 rfl) ?_
    refine lv_ineg hx hb d_P_compute_217 ?_
    refine lv_ishr hx hb d_P_compute_218 ?_
    refine lv_goto (tgt := 229) hx hb d_P_compute_219 (by decide) ?_
    exact J208_1 ((u_d (ix (s_P_fieldB a2))) >>> ((-(s_P_amount a2)) &&& 31)) _ _ _ (by rw [if_neg h1]) (lv_sub hl [0, 1, 2, 3, 4, 5, 6, 7, 8] rfl) hP hD hS
set_option maxHeartbeats 4000000 in
set_option maxRecDepth 100000 in
theorem k_P_compute9 (l : Launch) (D : va_G) (cI : ClassId) (sz : Nat) (xP : Nat) (xM : Nat) (xW : Nat) (xR : Nat) (xD : Nat) (xA : Nat) (xG : Nat) (xL : Nat) (xH : Nat) (xI : Nat) (xT : Nat) (u_z : Nat → Int32) (u_M : Nat → Int32) (u_r : Nat → Int32) (u_d : Nat → Int32) (u_a : Nat → Int32) (u_lo : Nat → Int32) (u_hi : Nat → Int32) (u_ri : Nat → Int32) (u_t : Nat → Int32) (a2 : Int32) : zMi l y_P_compute (.code y_P_compute b_P_compute 9 (some .int) :: wd) { frames := 1, cells := 0, slots := 0, locals := 20 } D classes [(cI, .int)] [.ref xP, .int (9 : Int32), .int a2] [oP xP xM xR xG xT u_z, oM xM xW, ar cI xW 512 u_M, oR xR xD xA u_r, ar cI xD 8 u_d, ar cI xA 8 u_a, oG xG xL xH xI, ar cI xL 6 u_lo, ar cI xH 6 u_hi, ar cI xI 6 u_ri, oT xT u_t] [oP xP xM xR xG xT u_z, oM xM xW, ar cI xW 512 u_M, oR xR xD xA u_r, ar cI xD 8 u_d, ar cI xA 8 ((s_P_compute9 u_z u_M u_r u_d u_a u_lo u_hi u_ri u_t a2).2), oG xG xL xH xI, ar cI xL 6 u_lo, ar cI xH 6 u_hi, ar cI xI 6 u_ri, oT xT u_t] sz (s_P_compute9 u_z u_M u_r u_d u_a u_lo u_hi u_ri u_t a2).1 := by
  refine met_i (by decide) (Nat.le_of_ble_eq_true rfl) rfl ?_
  intro p e s m args below meth c A Q ls hx hb hml hown hts hK hP hD hS hA hl hE
  have hl : lv_has ls 9 [(0, .ref xP), (1, .int (9 : Int32)), (2, .int a2)] := hl
  have hown : s.vm.findClass R_P = some m.cls := hown
  refine lv_aload_n hx hb d_P_compute_0 rfl (lv_at hl 0 rfl) ?_
  refine zz_get (C := R_P) (T := F_P) (N := 10) (v := .ref xR) hx hb hts in_P hown hK hP 0 rfl rfl 1 (by decide) mw_22 rfl d_P_compute_1 ?_
  refine zz_get (C := R_R) (T := F_R) (N := 12) (v := .ref xD) hx hb hts in_R hown hK hP 3 rfl rfl 0 (by decide) mw_31 rfl d_P_compute_4 ?_
  refine lv_astore_n (lv' := [(3, .ref xD), (0, .ref xP), (1, .int (9 : Int32)), (2, .int a2)]) hx hb d_P_compute_7 rfl hl (by decide) rfl (fun ls hl => ?_)
  refine lv_aload_n hx hb d_P_compute_8 rfl (lv_at hl 1 rfl) ?_
  refine zz_get (C := R_P) (T := F_P) (N := 10) (v := .ref xR) hx hb hts in_P hown hK hP 0 rfl rfl 1 (by decide) mw_22 rfl d_P_compute_9 ?_
  refine zz_get (C := R_R) (T := F_R) (N := 12) (v := .ref xA) hx hb hts in_R hown hK hP 3 rfl rfl 1 (by decide) mw_37 rfl d_P_compute_12 ?_
  refine lv_astore (lv' := [(4, .ref xA), (3, .ref xD), (0, .ref xP), (1, .int (9 : Int32)), (2, .int a2)]) hx hb d_P_compute_15 hl (by decide) rfl (fun ls hl => ?_)
  refine lv_iload_n hx hb d_P_compute_17 rfl (lv_at hl 4 rfl) ?_
  refine zz_cS0 (rest := []) ⟨hx, hb, hml, hown, hts⟩ (k_P_fieldA l D cI _ a2) g_P_compute_P_fieldA_175 nd_P_fieldA ⟨⟨rfl, rfl⟩, Nat.le_of_ble_eq_true rfl, Nat.le_of_ble_eq_true rfl⟩ hK hP hD hS hA rfl rfl hl.1 (Nat.le_of_ble_eq_true rfl) d_P_compute_18 ⟨Nat.zero_le _, Nat.zero_le _⟩ (fun H locs hP hD hS => ?_)
  refine lv_istore (lv' := [(5, .int (s_P_fieldA a2)), (4, .ref xA), (3, .ref xD), (0, .ref xP), (1, .int (9 : Int32)), (2, .int a2)]) hx hb d_P_compute_21 hl (by decide) rfl (fun ls hl => ?_)
  show W p l e _ s m args below meth c _ _ _ _ Q (F0 m 23 ls _)
  refine lv_iload_n hx hb d_P_compute_23 rfl (lv_at hl 5 rfl) ?_
  refine zz_cS0 (rest := []) ⟨hx, hb, hml, hown, hts⟩ (k_P_fieldB l D cI _ a2) g_P_compute_P_fieldB_178 nd_P_fieldB ⟨⟨rfl, rfl⟩, Nat.le_of_ble_eq_true rfl, Nat.le_of_ble_eq_true rfl⟩ hK hP hD hS hA rfl rfl hl.1 (Nat.le_of_ble_eq_true rfl) d_P_compute_24 ⟨Nat.zero_le _, Nat.zero_le _⟩ (fun H locs hP hD hS => ?_)
  refine lv_istore (lv' := [(6, .int (s_P_fieldB a2)), (5, .int (s_P_fieldA a2)), (4, .ref xA), (3, .ref xD), (0, .ref xP), (1, .int (9 : Int32)), (2, .int a2)]) hx hb d_P_compute_27 hl (by decide) rfl (fun ls hl => ?_)
  refine lv_iload_n hx hb d_P_compute_29 rfl (lv_at hl 6 rfl) ?_
  refine zz_cS0 (rest := []) ⟨hx, hb, hml, hown, hts⟩ (k_P_fieldC l D cI _ a2) g_P_compute_P_fieldC_181 nd_P_fieldC ⟨⟨rfl, rfl⟩, Nat.le_of_ble_eq_true rfl, Nat.le_of_ble_eq_true rfl⟩ hK hP hD hS hA rfl rfl hl.1 (Nat.le_of_ble_eq_true rfl) d_P_compute_30 ⟨Nat.zero_le _, Nat.zero_le _⟩ (fun H locs hP hD hS => ?_)
  refine lv_istore (lv' := [(7, .int (s_P_fieldC a2)), (6, .int (s_P_fieldB a2)), (5, .int (s_P_fieldA a2)), (4, .ref xA), (3, .ref xD), (0, .ref xP), (1, .int (9 : Int32)), (2, .int a2)]) hx hb d_P_compute_33 hl (by decide) rfl (fun ls hl => ?_)
  refine lv_iload_n hx hb d_P_compute_35 rfl (lv_at hl 7 rfl) ?_
  refine zz_cS0 (rest := []) ⟨hx, hb, hml, hown, hts⟩ (k_P_amount l D cI _ a2) g_P_compute_P_amount_131 nd_P_amount ⟨⟨rfl, rfl⟩, Nat.le_of_ble_eq_true rfl, Nat.le_of_ble_eq_true rfl⟩ hK hP hD hS hA rfl rfl hl.1 (Nat.le_of_ble_eq_true rfl) d_P_compute_36 ⟨Nat.zero_le _, Nat.zero_le _⟩ (fun H locs hP hD hS => ?_)
  refine lv_istore (lv' := [(8, .int (s_P_amount a2)), (7, .int (s_P_fieldC a2)), (6, .int (s_P_fieldB a2)), (5, .int (s_P_fieldA a2)), (4, .ref xA), (3, .ref xD), (0, .ref xP), (1, .int (9 : Int32)), (2, .int a2)]) hx hb d_P_compute_39 hl (by decide) rfl (fun ls hl => ?_)
  refine lv_iload_n hx hb d_P_compute_41 rfl (lv_at hl 7 rfl) ?_
  refine lv_tableIn (off := 191) (tgt := 233) hx hb d_P_compute_42 (by decide) (by decide) rfl (by decide) ?_
  refine lv_aload hx hb d_P_compute_233 (lv_at hl 4 rfl) ?_
  refine lv_iload hx hb d_P_compute_235 (lv_at hl 3 rfl) ?_
  refine lv_iload hx hb d_P_compute_237 (lv_at hl 0 rfl) ?_
  refine zz_iast (w' := [oP xP xM xR xG xT u_z, oM xM xW, ar cI xW 512 u_M, oR xR xD xA u_r, ar cI xD 8 u_d, ar cI xA 8 (upd u_a (ix (s_P_fieldA a2)) (s_P_amount a2)), oG xG xL xH xI, ar cI xL 6 u_lo, ar cI xH 6 u_hi, ar cI xI 6 u_ri, oT xT u_t]) hx hb hK hP hD hS 5 0 rfl rfl (in_fA _) d_P_compute_239 rfl (fun H locs hP hD hS => ?_)
  refine lv_goto (tgt := 280) hx hb d_P_compute_240 (by decide) ?_
  refine lv_iconst (v := (0 : Int32)) hx hb d_P_compute_280 (by decide) ?_
  have hsp : s_P_compute9 u_z u_M u_r u_d u_a u_lo u_hi u_ri u_t a2 = ((0 : Int32), upd u_a (ix (s_P_fieldA a2)) (s_P_amount a2)) := rfl
  rw [hsp] at hE
  exact hE _ _ _ _ hP hD hS d_P_compute_281
set_option maxHeartbeats 4000000 in
set_option maxRecDepth 100000 in
theorem k_P_compute10 (l : Launch) (D : va_G) (cI : ClassId) (sz : Nat) (xP : Nat) (xM : Nat) (xW : Nat) (xR : Nat) (xD : Nat) (xA : Nat) (xG : Nat) (xL : Nat) (xH : Nat) (xI : Nat) (xT : Nat) (u_z : Nat → Int32) (u_M : Nat → Int32) (u_r : Nat → Int32) (u_d : Nat → Int32) (u_a : Nat → Int32) (u_lo : Nat → Int32) (u_hi : Nat → Int32) (u_ri : Nat → Int32) (u_t : Nat → Int32) (a2 : Int32) : zMi l y_P_compute (.code y_P_compute b_P_compute 9 (some .int) :: wd) { frames := 1, cells := 0, slots := 0, locals := 20 } D classes [(cI, .int)] [.ref xP, .int (10 : Int32), .int a2] [oP xP xM xR xG xT u_z, oM xM xW, ar cI xW 512 u_M, oR xR xD xA u_r, ar cI xD 8 u_d, ar cI xA 8 u_a, oG xG xL xH xI, ar cI xL 6 u_lo, ar cI xH 6 u_hi, ar cI xI 6 u_ri, oT xT u_t] [oP xP xM xR xG xT u_z, oM xM xW, ar cI xW 512 u_M, oR xR xD xA u_r, ar cI xD 8 u_d, ar cI xA 8 ((s_P_compute10 u_z u_M u_r u_d u_a u_lo u_hi u_ri u_t a2).2), oG xG xL xH xI, ar cI xL 6 u_lo, ar cI xH 6 u_hi, ar cI xI 6 u_ri, oT xT u_t] sz (s_P_compute10 u_z u_M u_r u_d u_a u_lo u_hi u_ri u_t a2).1 := by
  refine met_i (by decide) (Nat.le_of_ble_eq_true rfl) rfl ?_
  intro p e s m args below meth c A Q ls hx hb hml hown hts hK hP hD hS hA hl hE
  have hl : lv_has ls 9 [(0, .ref xP), (1, .int (10 : Int32)), (2, .int a2)] := hl
  have hown : s.vm.findClass R_P = some m.cls := hown
  refine lv_aload_n hx hb d_P_compute_0 rfl (lv_at hl 0 rfl) ?_
  refine zz_get (C := R_P) (T := F_P) (N := 10) (v := .ref xR) hx hb hts in_P hown hK hP 0 rfl rfl 1 (by decide) mw_22 rfl d_P_compute_1 ?_
  refine zz_get (C := R_R) (T := F_R) (N := 12) (v := .ref xD) hx hb hts in_R hown hK hP 3 rfl rfl 0 (by decide) mw_31 rfl d_P_compute_4 ?_
  refine lv_astore_n (lv' := [(3, .ref xD), (0, .ref xP), (1, .int (10 : Int32)), (2, .int a2)]) hx hb d_P_compute_7 rfl hl (by decide) rfl (fun ls hl => ?_)
  refine lv_aload_n hx hb d_P_compute_8 rfl (lv_at hl 1 rfl) ?_
  refine zz_get (C := R_P) (T := F_P) (N := 10) (v := .ref xR) hx hb hts in_P hown hK hP 0 rfl rfl 1 (by decide) mw_22 rfl d_P_compute_9 ?_
  refine zz_get (C := R_R) (T := F_R) (N := 12) (v := .ref xA) hx hb hts in_R hown hK hP 3 rfl rfl 1 (by decide) mw_37 rfl d_P_compute_12 ?_
  refine lv_astore (lv' := [(4, .ref xA), (3, .ref xD), (0, .ref xP), (1, .int (10 : Int32)), (2, .int a2)]) hx hb d_P_compute_15 hl (by decide) rfl (fun ls hl => ?_)
  refine lv_iload_n hx hb d_P_compute_17 rfl (lv_at hl 4 rfl) ?_
  refine zz_cS0 (rest := []) ⟨hx, hb, hml, hown, hts⟩ (k_P_fieldA l D cI _ a2) g_P_compute_P_fieldA_175 nd_P_fieldA ⟨⟨rfl, rfl⟩, Nat.le_of_ble_eq_true rfl, Nat.le_of_ble_eq_true rfl⟩ hK hP hD hS hA rfl rfl hl.1 (Nat.le_of_ble_eq_true rfl) d_P_compute_18 ⟨Nat.zero_le _, Nat.zero_le _⟩ (fun H locs hP hD hS => ?_)
  refine lv_istore (lv' := [(5, .int (s_P_fieldA a2)), (4, .ref xA), (3, .ref xD), (0, .ref xP), (1, .int (10 : Int32)), (2, .int a2)]) hx hb d_P_compute_21 hl (by decide) rfl (fun ls hl => ?_)
  show W p l e _ s m args below meth c _ _ _ _ Q (F0 m 23 ls _)
  refine lv_iload_n hx hb d_P_compute_23 rfl (lv_at hl 5 rfl) ?_
  refine zz_cS0 (rest := []) ⟨hx, hb, hml, hown, hts⟩ (k_P_fieldB l D cI _ a2) g_P_compute_P_fieldB_178 nd_P_fieldB ⟨⟨rfl, rfl⟩, Nat.le_of_ble_eq_true rfl, Nat.le_of_ble_eq_true rfl⟩ hK hP hD hS hA rfl rfl hl.1 (Nat.le_of_ble_eq_true rfl) d_P_compute_24 ⟨Nat.zero_le _, Nat.zero_le _⟩ (fun H locs hP hD hS => ?_)
  refine lv_istore (lv' := [(6, .int (s_P_fieldB a2)), (5, .int (s_P_fieldA a2)), (4, .ref xA), (3, .ref xD), (0, .ref xP), (1, .int (10 : Int32)), (2, .int a2)]) hx hb d_P_compute_27 hl (by decide) rfl (fun ls hl => ?_)
  refine lv_iload_n hx hb d_P_compute_29 rfl (lv_at hl 6 rfl) ?_
  refine zz_cS0 (rest := []) ⟨hx, hb, hml, hown, hts⟩ (k_P_fieldC l D cI _ a2) g_P_compute_P_fieldC_181 nd_P_fieldC ⟨⟨rfl, rfl⟩, Nat.le_of_ble_eq_true rfl, Nat.le_of_ble_eq_true rfl⟩ hK hP hD hS hA rfl rfl hl.1 (Nat.le_of_ble_eq_true rfl) d_P_compute_30 ⟨Nat.zero_le _, Nat.zero_le _⟩ (fun H locs hP hD hS => ?_)
  refine lv_istore (lv' := [(7, .int (s_P_fieldC a2)), (6, .int (s_P_fieldB a2)), (5, .int (s_P_fieldA a2)), (4, .ref xA), (3, .ref xD), (0, .ref xP), (1, .int (10 : Int32)), (2, .int a2)]) hx hb d_P_compute_33 hl (by decide) rfl (fun ls hl => ?_)
  refine lv_iload_n hx hb d_P_compute_35 rfl (lv_at hl 7 rfl) ?_
  refine zz_cS0 (rest := []) ⟨hx, hb, hml, hown, hts⟩ (k_P_amount l D cI _ a2) g_P_compute_P_amount_131 nd_P_amount ⟨⟨rfl, rfl⟩, Nat.le_of_ble_eq_true rfl, Nat.le_of_ble_eq_true rfl⟩ hK hP hD hS hA rfl rfl hl.1 (Nat.le_of_ble_eq_true rfl) d_P_compute_36 ⟨Nat.zero_le _, Nat.zero_le _⟩ (fun H locs hP hD hS => ?_)
  refine lv_istore (lv' := [(8, .int (s_P_amount a2)), (7, .int (s_P_fieldC a2)), (6, .int (s_P_fieldB a2)), (5, .int (s_P_fieldA a2)), (4, .ref xA), (3, .ref xD), (0, .ref xP), (1, .int (10 : Int32)), (2, .int a2)]) hx hb d_P_compute_39 hl (by decide) rfl (fun ls hl => ?_)
  refine lv_iload_n hx hb d_P_compute_41 rfl (lv_at hl 7 rfl) ?_
  refine lv_tableIn (off := 201) (tgt := 243) hx hb d_P_compute_42 (by decide) (by decide) rfl (by decide) ?_
  refine lv_aload hx hb d_P_compute_243 (lv_at hl 4 rfl) ?_
  refine lv_iload hx hb d_P_compute_245 (lv_at hl 3 rfl) ?_
  refine lv_aload hx hb d_P_compute_247 (lv_at hl 4 rfl) ?_
  refine lv_iload hx hb d_P_compute_249 (lv_at hl 2 rfl) ?_
  refine va_iald hx hb hK hP 5 0 rfl rfl (in_fB _) d_P_compute_251 ?_
  refine lv_iload hx hb d_P_compute_252 (lv_at hl 0 rfl) ?_
  refine lv_iadd hx hb d_P_compute_254 ?_
  refine zz_iast (w' := [oP xP xM xR xG xT u_z, oM xM xW, ar cI xW 512 u_M, oR xR xD xA u_r, ar cI xD 8 u_d, ar cI xA 8 (upd u_a (ix (s_P_fieldA a2)) ((u_a (ix (s_P_fieldB a2))) + (s_P_amount a2))), oG xG xL xH xI, ar cI xL 6 u_lo, ar cI xH 6 u_hi, ar cI xI 6 u_ri, oT xT u_t]) hx hb hK hP hD hS 5 0 rfl rfl (in_fA _) d_P_compute_255 rfl (fun H locs hP hD hS => ?_)
  refine lv_goto (tgt := 280) hx hb d_P_compute_256 (by decide) ?_
  refine lv_iconst (v := (0 : Int32)) hx hb d_P_compute_280 (by decide) ?_
  have hsp : s_P_compute10 u_z u_M u_r u_d u_a u_lo u_hi u_ri u_t a2 = ((0 : Int32), upd u_a (ix (s_P_fieldA a2)) ((u_a (ix (s_P_fieldB a2))) + (s_P_amount a2))) := rfl
  rw [hsp] at hE
  exact hE _ _ _ _ hP hD hS d_P_compute_281
set_option maxHeartbeats 4000000 in
set_option maxRecDepth 100000 in
theorem k_P_compute11 (l : Launch) (D : va_G) (cI : ClassId) (sz : Nat) (xP : Nat) (xM : Nat) (xW : Nat) (xR : Nat) (xD : Nat) (xA : Nat) (xG : Nat) (xL : Nat) (xH : Nat) (xI : Nat) (xT : Nat) (u_z : Nat → Int32) (u_M : Nat → Int32) (u_r : Nat → Int32) (u_d : Nat → Int32) (u_a : Nat → Int32) (u_lo : Nat → Int32) (u_hi : Nat → Int32) (u_ri : Nat → Int32) (u_t : Nat → Int32) (a2 : Int32) : zMi l y_P_compute (.code y_P_compute b_P_compute 9 (some .int) :: wd) { frames := 1, cells := 0, slots := 0, locals := 20 } D classes [(cI, .int)] [.ref xP, .int (11 : Int32), .int a2] [oP xP xM xR xG xT u_z, oM xM xW, ar cI xW 512 u_M, oR xR xD xA u_r, ar cI xD 8 u_d, ar cI xA 8 u_a, oG xG xL xH xI, ar cI xL 6 u_lo, ar cI xH 6 u_hi, ar cI xI 6 u_ri, oT xT u_t] [oP xP xM xR xG xT u_z, oM xM xW, ar cI xW 512 u_M, oR xR xD xA u_r, ar cI xD 8 u_d, ar cI xA 8 ((s_P_compute11 u_z u_M u_r u_d u_a u_lo u_hi u_ri u_t a2).2), oG xG xL xH xI, ar cI xL 6 u_lo, ar cI xH 6 u_hi, ar cI xI 6 u_ri, oT xT u_t] sz (s_P_compute11 u_z u_M u_r u_d u_a u_lo u_hi u_ri u_t a2).1 := by
  refine met_i (by decide) (Nat.le_of_ble_eq_true rfl) rfl ?_
  intro p e s m args below meth c A Q ls hx hb hml hown hts hK hP hD hS hA hl hE
  have hl : lv_has ls 9 [(0, .ref xP), (1, .int (11 : Int32)), (2, .int a2)] := hl
  have hown : s.vm.findClass R_P = some m.cls := hown
  refine lv_aload_n hx hb d_P_compute_0 rfl (lv_at hl 0 rfl) ?_
  refine zz_get (C := R_P) (T := F_P) (N := 10) (v := .ref xR) hx hb hts in_P hown hK hP 0 rfl rfl 1 (by decide) mw_22 rfl d_P_compute_1 ?_
  refine zz_get (C := R_R) (T := F_R) (N := 12) (v := .ref xD) hx hb hts in_R hown hK hP 3 rfl rfl 0 (by decide) mw_31 rfl d_P_compute_4 ?_
  refine lv_astore_n (lv' := [(3, .ref xD), (0, .ref xP), (1, .int (11 : Int32)), (2, .int a2)]) hx hb d_P_compute_7 rfl hl (by decide) rfl (fun ls hl => ?_)
  refine lv_aload_n hx hb d_P_compute_8 rfl (lv_at hl 1 rfl) ?_
  refine zz_get (C := R_P) (T := F_P) (N := 10) (v := .ref xR) hx hb hts in_P hown hK hP 0 rfl rfl 1 (by decide) mw_22 rfl d_P_compute_9 ?_
  refine zz_get (C := R_R) (T := F_R) (N := 12) (v := .ref xA) hx hb hts in_R hown hK hP 3 rfl rfl 1 (by decide) mw_37 rfl d_P_compute_12 ?_
  refine lv_astore (lv' := [(4, .ref xA), (3, .ref xD), (0, .ref xP), (1, .int (11 : Int32)), (2, .int a2)]) hx hb d_P_compute_15 hl (by decide) rfl (fun ls hl => ?_)
  refine lv_iload_n hx hb d_P_compute_17 rfl (lv_at hl 4 rfl) ?_
  refine zz_cS0 (rest := []) ⟨hx, hb, hml, hown, hts⟩ (k_P_fieldA l D cI _ a2) g_P_compute_P_fieldA_175 nd_P_fieldA ⟨⟨rfl, rfl⟩, Nat.le_of_ble_eq_true rfl, Nat.le_of_ble_eq_true rfl⟩ hK hP hD hS hA rfl rfl hl.1 (Nat.le_of_ble_eq_true rfl) d_P_compute_18 ⟨Nat.zero_le _, Nat.zero_le _⟩ (fun H locs hP hD hS => ?_)
  refine lv_istore (lv' := [(5, .int (s_P_fieldA a2)), (4, .ref xA), (3, .ref xD), (0, .ref xP), (1, .int (11 : Int32)), (2, .int a2)]) hx hb d_P_compute_21 hl (by decide) rfl (fun ls hl => ?_)
  show W p l e _ s m args below meth c _ _ _ _ Q (F0 m 23 ls _)
  refine lv_iload_n hx hb d_P_compute_23 rfl (lv_at hl 5 rfl) ?_
  refine zz_cS0 (rest := []) ⟨hx, hb, hml, hown, hts⟩ (k_P_fieldB l D cI _ a2) g_P_compute_P_fieldB_178 nd_P_fieldB ⟨⟨rfl, rfl⟩, Nat.le_of_ble_eq_true rfl, Nat.le_of_ble_eq_true rfl⟩ hK hP hD hS hA rfl rfl hl.1 (Nat.le_of_ble_eq_true rfl) d_P_compute_24 ⟨Nat.zero_le _, Nat.zero_le _⟩ (fun H locs hP hD hS => ?_)
  refine lv_istore (lv' := [(6, .int (s_P_fieldB a2)), (5, .int (s_P_fieldA a2)), (4, .ref xA), (3, .ref xD), (0, .ref xP), (1, .int (11 : Int32)), (2, .int a2)]) hx hb d_P_compute_27 hl (by decide) rfl (fun ls hl => ?_)
  refine lv_iload_n hx hb d_P_compute_29 rfl (lv_at hl 6 rfl) ?_
  refine zz_cS0 (rest := []) ⟨hx, hb, hml, hown, hts⟩ (k_P_fieldC l D cI _ a2) g_P_compute_P_fieldC_181 nd_P_fieldC ⟨⟨rfl, rfl⟩, Nat.le_of_ble_eq_true rfl, Nat.le_of_ble_eq_true rfl⟩ hK hP hD hS hA rfl rfl hl.1 (Nat.le_of_ble_eq_true rfl) d_P_compute_30 ⟨Nat.zero_le _, Nat.zero_le _⟩ (fun H locs hP hD hS => ?_)
  refine lv_istore (lv' := [(7, .int (s_P_fieldC a2)), (6, .int (s_P_fieldB a2)), (5, .int (s_P_fieldA a2)), (4, .ref xA), (3, .ref xD), (0, .ref xP), (1, .int (11 : Int32)), (2, .int a2)]) hx hb d_P_compute_33 hl (by decide) rfl (fun ls hl => ?_)
  refine lv_iload_n hx hb d_P_compute_35 rfl (lv_at hl 7 rfl) ?_
  refine zz_cS0 (rest := []) ⟨hx, hb, hml, hown, hts⟩ (k_P_amount l D cI _ a2) g_P_compute_P_amount_131 nd_P_amount ⟨⟨rfl, rfl⟩, Nat.le_of_ble_eq_true rfl, Nat.le_of_ble_eq_true rfl⟩ hK hP hD hS hA rfl rfl hl.1 (Nat.le_of_ble_eq_true rfl) d_P_compute_36 ⟨Nat.zero_le _, Nat.zero_le _⟩ (fun H locs hP hD hS => ?_)
  refine lv_istore (lv' := [(8, .int (s_P_amount a2)), (7, .int (s_P_fieldC a2)), (6, .int (s_P_fieldB a2)), (5, .int (s_P_fieldA a2)), (4, .ref xA), (3, .ref xD), (0, .ref xP), (1, .int (11 : Int32)), (2, .int a2)]) hx hb d_P_compute_39 hl (by decide) rfl (fun ls hl => ?_)
  refine lv_iload_n hx hb d_P_compute_41 rfl (lv_at hl 7 rfl) ?_
  refine lv_tableIn (off := 217) (tgt := 259) hx hb d_P_compute_42 (by decide) (by decide) rfl (by decide) ?_
  refine lv_aload hx hb d_P_compute_259 (lv_at hl 4 rfl) ?_
  refine lv_iload hx hb d_P_compute_261 (lv_at hl 3 rfl) ?_
  refine lv_aload_n hx hb d_P_compute_263 rfl (lv_at hl 5 rfl) ?_
  refine lv_iload hx hb d_P_compute_264 (lv_at hl 2 rfl) ?_
  refine va_iald hx hb hK hP 4 0 rfl rfl (in_fB _) d_P_compute_266 ?_
  refine zz_iast (w' := [oP xP xM xR xG xT u_z, oM xM xW, ar cI xW 512 u_M, oR xR xD xA u_r, ar cI xD 8 u_d, ar cI xA 8 (upd u_a (ix (s_P_fieldA a2)) (u_d (ix (s_P_fieldB a2)))), oG xG xL xH xI, ar cI xL 6 u_lo, ar cI xH 6 u_hi, ar cI xI 6 u_ri, oT xT u_t]) hx hb hK hP hD hS 5 0 rfl rfl (in_fA _) d_P_compute_267 rfl (fun H locs hP hD hS => ?_)
  refine lv_goto (tgt := 280) hx hb d_P_compute_268 (by decide) ?_
  refine lv_iconst (v := (0 : Int32)) hx hb d_P_compute_280 (by decide) ?_
  have hsp : s_P_compute11 u_z u_M u_r u_d u_a u_lo u_hi u_ri u_t a2 = ((0 : Int32), upd u_a (ix (s_P_fieldA a2)) (u_d (ix (s_P_fieldB a2)))) := rfl
  rw [hsp] at hE
  exact hE _ _ _ _ hP hD hS d_P_compute_281
set_option maxHeartbeats 4000000 in
set_option maxRecDepth 100000 in
theorem k_P_compute12 (l : Launch) (D : va_G) (cI : ClassId) (sz : Nat) (xP : Nat) (xM : Nat) (xW : Nat) (xR : Nat) (xD : Nat) (xA : Nat) (xG : Nat) (xL : Nat) (xH : Nat) (xI : Nat) (xT : Nat) (u_z : Nat → Int32) (u_M : Nat → Int32) (u_r : Nat → Int32) (u_d : Nat → Int32) (u_a : Nat → Int32) (u_lo : Nat → Int32) (u_hi : Nat → Int32) (u_ri : Nat → Int32) (u_t : Nat → Int32) (a2 : Int32) : zMi l y_P_compute (.code y_P_compute b_P_compute 9 (some .int) :: wd) { frames := 1, cells := 0, slots := 0, locals := 20 } D classes [(cI, .int)] [.ref xP, .int (12 : Int32), .int a2] [oP xP xM xR xG xT u_z, oM xM xW, ar cI xW 512 u_M, oR xR xD xA u_r, ar cI xD 8 u_d, ar cI xA 8 u_a, oG xG xL xH xI, ar cI xL 6 u_lo, ar cI xH 6 u_hi, ar cI xI 6 u_ri, oT xT u_t] [oP xP xM xR xG xT u_z, oM xM xW, ar cI xW 512 u_M, oR xR xD xA u_r, ar cI xD 8 ((s_P_compute12 u_z u_M u_r u_d u_a u_lo u_hi u_ri u_t a2).2), ar cI xA 8 u_a, oG xG xL xH xI, ar cI xL 6 u_lo, ar cI xH 6 u_hi, ar cI xI 6 u_ri, oT xT u_t] sz (s_P_compute12 u_z u_M u_r u_d u_a u_lo u_hi u_ri u_t a2).1 := by
  refine met_i (by decide) (Nat.le_of_ble_eq_true rfl) rfl ?_
  intro p e s m args below meth c A Q ls hx hb hml hown hts hK hP hD hS hA hl hE
  have hl : lv_has ls 9 [(0, .ref xP), (1, .int (12 : Int32)), (2, .int a2)] := hl
  have hown : s.vm.findClass R_P = some m.cls := hown
  refine lv_aload_n hx hb d_P_compute_0 rfl (lv_at hl 0 rfl) ?_
  refine zz_get (C := R_P) (T := F_P) (N := 10) (v := .ref xR) hx hb hts in_P hown hK hP 0 rfl rfl 1 (by decide) mw_22 rfl d_P_compute_1 ?_
  refine zz_get (C := R_R) (T := F_R) (N := 12) (v := .ref xD) hx hb hts in_R hown hK hP 3 rfl rfl 0 (by decide) mw_31 rfl d_P_compute_4 ?_
  refine lv_astore_n (lv' := [(3, .ref xD), (0, .ref xP), (1, .int (12 : Int32)), (2, .int a2)]) hx hb d_P_compute_7 rfl hl (by decide) rfl (fun ls hl => ?_)
  refine lv_aload_n hx hb d_P_compute_8 rfl (lv_at hl 1 rfl) ?_
  refine zz_get (C := R_P) (T := F_P) (N := 10) (v := .ref xR) hx hb hts in_P hown hK hP 0 rfl rfl 1 (by decide) mw_22 rfl d_P_compute_9 ?_
  refine zz_get (C := R_R) (T := F_R) (N := 12) (v := .ref xA) hx hb hts in_R hown hK hP 3 rfl rfl 1 (by decide) mw_37 rfl d_P_compute_12 ?_
  refine lv_astore (lv' := [(4, .ref xA), (3, .ref xD), (0, .ref xP), (1, .int (12 : Int32)), (2, .int a2)]) hx hb d_P_compute_15 hl (by decide) rfl (fun ls hl => ?_)
  refine lv_iload_n hx hb d_P_compute_17 rfl (lv_at hl 4 rfl) ?_
  refine zz_cS0 (rest := []) ⟨hx, hb, hml, hown, hts⟩ (k_P_fieldA l D cI _ a2) g_P_compute_P_fieldA_175 nd_P_fieldA ⟨⟨rfl, rfl⟩, Nat.le_of_ble_eq_true rfl, Nat.le_of_ble_eq_true rfl⟩ hK hP hD hS hA rfl rfl hl.1 (Nat.le_of_ble_eq_true rfl) d_P_compute_18 ⟨Nat.zero_le _, Nat.zero_le _⟩ (fun H locs hP hD hS => ?_)
  refine lv_istore (lv' := [(5, .int (s_P_fieldA a2)), (4, .ref xA), (3, .ref xD), (0, .ref xP), (1, .int (12 : Int32)), (2, .int a2)]) hx hb d_P_compute_21 hl (by decide) rfl (fun ls hl => ?_)
  show W p l e _ s m args below meth c _ _ _ _ Q (F0 m 23 ls _)
  refine lv_iload_n hx hb d_P_compute_23 rfl (lv_at hl 5 rfl) ?_
  refine zz_cS0 (rest := []) ⟨hx, hb, hml, hown, hts⟩ (k_P_fieldB l D cI _ a2) g_P_compute_P_fieldB_178 nd_P_fieldB ⟨⟨rfl, rfl⟩, Nat.le_of_ble_eq_true rfl, Nat.le_of_ble_eq_true rfl⟩ hK hP hD hS hA rfl rfl hl.1 (Nat.le_of_ble_eq_true rfl) d_P_compute_24 ⟨Nat.zero_le _, Nat.zero_le _⟩ (fun H locs hP hD hS => ?_)
  refine lv_istore (lv' := [(6, .int (s_P_fieldB a2)), (5, .int (s_P_fieldA a2)), (4, .ref xA), (3, .ref xD), (0, .ref xP), (1, .int (12 : Int32)), (2, .int a2)]) hx hb d_P_compute_27 hl (by decide) rfl (fun ls hl => ?_)
  refine lv_iload_n hx hb d_P_compute_29 rfl (lv_at hl 6 rfl) ?_
  refine zz_cS0 (rest := []) ⟨hx, hb, hml, hown, hts⟩ (k_P_fieldC l D cI _ a2) g_P_compute_P_fieldC_181 nd_P_fieldC ⟨⟨rfl, rfl⟩, Nat.le_of_ble_eq_true rfl, Nat.le_of_ble_eq_true rfl⟩ hK hP hD hS hA rfl rfl hl.1 (Nat.le_of_ble_eq_true rfl) d_P_compute_30 ⟨Nat.zero_le _, Nat.zero_le _⟩ (fun H locs hP hD hS => ?_)
  refine lv_istore (lv' := [(7, .int (s_P_fieldC a2)), (6, .int (s_P_fieldB a2)), (5, .int (s_P_fieldA a2)), (4, .ref xA), (3, .ref xD), (0, .ref xP), (1, .int (12 : Int32)), (2, .int a2)]) hx hb d_P_compute_33 hl (by decide) rfl (fun ls hl => ?_)
  refine lv_iload_n hx hb d_P_compute_35 rfl (lv_at hl 7 rfl) ?_
  refine zz_cS0 (rest := []) ⟨hx, hb, hml, hown, hts⟩ (k_P_amount l D cI _ a2) g_P_compute_P_amount_131 nd_P_amount ⟨⟨rfl, rfl⟩, Nat.le_of_ble_eq_true rfl, Nat.le_of_ble_eq_true rfl⟩ hK hP hD hS hA rfl rfl hl.1 (Nat.le_of_ble_eq_true rfl) d_P_compute_36 ⟨Nat.zero_le _, Nat.zero_le _⟩ (fun H locs hP hD hS => ?_)
  refine lv_istore (lv' := [(8, .int (s_P_amount a2)), (7, .int (s_P_fieldC a2)), (6, .int (s_P_fieldB a2)), (5, .int (s_P_fieldA a2)), (4, .ref xA), (3, .ref xD), (0, .ref xP), (1, .int (12 : Int32)), (2, .int a2)]) hx hb d_P_compute_39 hl (by decide) rfl (fun ls hl => ?_)
  refine lv_iload_n hx hb d_P_compute_41 rfl (lv_at hl 7 rfl) ?_
  refine lv_tableOut (tgt := 271) hx hb d_P_compute_42 (by decide) (by decide) ?_
  refine lv_aload_n hx hb d_P_compute_271 rfl (lv_at hl 5 rfl) ?_
  refine lv_iload hx hb d_P_compute_272 (lv_at hl 3 rfl) ?_
  refine lv_aload hx hb d_P_compute_274 (lv_at hl 4 rfl) ?_
  refine lv_iload hx hb d_P_compute_276 (lv_at hl 2 rfl) ?_
  refine va_iald hx hb hK hP 5 0 rfl rfl (in_fB _) d_P_compute_278 ?_
  refine zz_iast (w' := [oP xP xM xR xG xT u_z, oM xM xW, ar cI xW 512 u_M, oR xR xD xA u_r, ar cI xD 8 (upd u_d (ix (s_P_fieldA a2)) (u_a (ix (s_P_fieldB a2)))), ar cI xA 8 u_a, oG xG xL xH xI, ar cI xL 6 u_lo, ar cI xH 6 u_hi, ar cI xI 6 u_ri, oT xT u_t]) hx hb hK hP hD hS 4 0 rfl rfl (in_fA _) d_P_compute_279 rfl (fun H locs hP hD hS => ?_)
  refine lv_iconst (v := (0 : Int32)) hx hb d_P_compute_280 (by decide) ?_
  have hsp : s_P_compute12 u_z u_M u_r u_d u_a u_lo u_hi u_ri u_t a2 = ((0 : Int32), upd u_d (ix (s_P_fieldA a2)) (u_a (ix (s_P_fieldB a2)))) := rfl
  rw [hsp] at hE
  exact hE _ _ _ _ hP hD hS d_P_compute_281
set_option maxHeartbeats 4000000 in
set_option maxRecDepth 100000 in
theorem k_P_moveWord13 (l : Launch) (D : va_G) (cI : ClassId) (sz : Nat) (xP : Nat) (xM : Nat) (xW : Nat) (xR : Nat) (xD : Nat) (xA : Nat) (xG : Nat) (xL : Nat) (xH : Nat) (xI : Nat) (xT : Nat) (u_z : Nat → Int32) (u_M : Nat → Int32) (u_r : Nat → Int32) (u_d : Nat → Int32) (u_a : Nat → Int32) (u_lo : Nat → Int32) (u_hi : Nat → Int32) (u_ri : Nat → Int32) (u_t : Nat → Int32) (a2 : Int32) (hset : u_r 5 = 0 ∨ u_r 5 = 1) : zMi l y_P_moveWord (.code y_P_moveWord b_P_moveWord 9 (some .int) :: wd) { frames := 3, cells := 0, slots := 0, locals := 69 } D classes [(cI, .int)] [.ref xP, .int (13 : Int32), .int a2] [oP xP xM xR xG xT u_z, oM xM xW, ar cI xW 512 u_M, oR xR xD xA u_r, ar cI xD 8 u_d, ar cI xA 8 u_a, oG xG xL xH xI, ar cI xL 6 u_lo, ar cI xH 6 u_hi, ar cI xI 6 u_ri, oT xT u_t] [oP xP xM xR xG xT u_z, oM xM xW, ar cI xW 512 u_M, oR xR xD xA u_r, ar cI xD 8 ((s_P_moveWord13 u_z u_M u_r u_d u_a u_lo u_hi u_ri u_t a2).2), ar cI xA 8 u_a, oG xG xL xH xI, ar cI xL 6 u_lo, ar cI xH 6 u_hi, ar cI xI 6 u_ri, oT xT u_t] sz (s_P_moveWord13 u_z u_M u_r u_d u_a u_lo u_hi u_ri u_t a2).1 := by
  refine met_i (by decide) (Nat.le_of_ble_eq_true rfl) rfl ?_
  intro p e s m args below meth c A Q ls hx hb hml hown hts hK hP hD hS hA hl hE
  have hl : lv_has ls 9 [(0, .ref xP), (1, .int (13 : Int32)), (2, .int a2)] := hl
  have hown : s.vm.findClass R_P = some m.cls := hown
  refine lv_iload_n hx hb d_P_moveWord_0 rfl (lv_at hl 2 rfl) ?_
  refine zz_cS0 (rest := []) ⟨hx, hb, hml, hown, hts⟩ (k_P_fieldB l D cI _ a2) g_P_moveWord_P_fieldB_178 nd_P_fieldB ⟨⟨rfl, rfl⟩, Nat.le_of_ble_eq_true rfl, Nat.le_of_ble_eq_true rfl⟩ hK hP hD hS hA rfl rfl hl.1 (Nat.le_of_ble_eq_true rfl) d_P_moveWord_1 ⟨Nat.zero_le _, Nat.zero_le _⟩ (fun H locs hP hD hS => ?_)
  refine lv_istore_n (lv' := [(3, .int (s_P_fieldB a2)), (0, .ref xP), (1, .int (13 : Int32)), (2, .int a2)]) hx hb d_P_moveWord_4 rfl hl (by decide) rfl (fun ls hl => ?_)
  refine lv_iload_n hx hb d_P_moveWord_5 rfl (lv_at hl 3 rfl) ?_
  refine zz_cS0 (rest := []) ⟨hx, hb, hml, hown, hts⟩ (k_P_amount l D cI _ a2) g_P_moveWord_P_amount_131 nd_P_amount ⟨⟨rfl, rfl⟩, Nat.le_of_ble_eq_true rfl, Nat.le_of_ble_eq_true rfl⟩ hK hP hD hS hA rfl rfl hl.1 (Nat.le_of_ble_eq_true rfl) d_P_moveWord_6 ⟨Nat.zero_le _, Nat.zero_le _⟩ (fun H locs hP hD hS => ?_)
  refine lv_istore (lv' := [(4, .int (s_P_amount a2)), (3, .int (s_P_fieldB a2)), (0, .ref xP), (1, .int (13 : Int32)), (2, .int a2)]) hx hb d_P_moveWord_9 hl (by decide) rfl (fun ls hl => ?_)
  refine lv_iload_n hx hb d_P_moveWord_11 rfl (lv_at hl 3 rfl) ?_
  refine lv_bipush (v := (14 : Int32)) hx hb d_P_moveWord_12 (by decide) ?_
  refine lv_icmp_eq (tgt := 23) hx hb d_P_moveWord_14 (by decide) (fun hh => absurd hh (by decide)) (fun _ => ?_)
  refine lv_iload_n hx hb d_P_moveWord_17 rfl (lv_at hl 3 rfl) ?_
  refine lv_bipush (v := (16 : Int32)) hx hb d_P_moveWord_18 (by decide) ?_
  refine lv_icmp_ne (tgt := 27) hx hb d_P_moveWord_20 (by decide) (fun _ => ?_) (fun hh => absurd hh (by decide))
  refine lv_iconst (v := (0 : Int32)) hx hb d_P_moveWord_27 (by decide) ?_
  refine lv_istore (lv' := [(5, .int (0 : Int32)), (4, .int (s_P_amount a2)), (3, .int (s_P_fieldB a2)), (0, .ref xP), (1, .int (13 : Int32)), (2, .int a2)]) hx hb d_P_moveWord_28 hl (by decide) rfl (fun ls hl => ?_)
  refine lv_iload_n hx hb d_P_moveWord_30 rfl (lv_at hl 4 rfl) ?_
  refine lv_bipush (v := (15 : Int32)) hx hb d_P_moveWord_31 (by decide) ?_
  refine lv_icmp_lt (tgt := 40) hx hb d_P_moveWord_33 (by decide) (fun _ => ?_) (fun hh => absurd hh (by decide))
  refine lv_iconst (v := (0 : Int32)) hx hb d_P_moveWord_40 (by decide) ?_
  refine lv_istore (lv' := [(6, .int (0 : Int32)), (5, .int (0 : Int32)), (4, .int (s_P_amount a2)), (3, .int (s_P_fieldB a2)), (0, .ref xP), (1, .int (13 : Int32)), (2, .int a2)]) hx hb d_P_moveWord_41 hl (by decide) rfl (fun ls hl => ?_)
  refine lv_iload hx hb d_P_moveWord_43 (lv_at hl 0 rfl) ?_
  refine lv_if_eq (tgt := 60) hx hb d_P_moveWord_45 (by decide) (fun _ => ?_) (fun hh => absurd hh (by decide))
  refine lv_aload_n hx hb d_P_moveWord_60 rfl (lv_at hl 4 rfl) ?_
  refine zz_get (C := R_P) (T := F_P) (N := 10) (v := .ref xR) hx hb hts in_P hown hK hP 0 rfl rfl 1 (by decide) mw_22 rfl d_P_moveWord_61 ?_
  refine zz_get (C := R_R) (T := F_R) (N := 12) (v := .ref xA) hx hb hts in_R hown hK hP 3 rfl rfl 1 (by decide) mw_37 rfl d_P_moveWord_64 ?_
  refine lv_iload_n hx hb d_P_moveWord_67 rfl (lv_at hl 3 rfl) ?_
  refine va_iald hx hb hK hP 5 0 rfl rfl (in_fB _) d_P_moveWord_68 ?_
  refine lv_iload hx hb d_P_moveWord_69 (lv_at hl 2 rfl) ?_
  refine lv_iadd hx hb d_P_moveWord_71 ?_
  refine lv_istore (lv' := [(7, .int ((u_a (ix (s_P_fieldB a2))) + (s_P_amount a2))), (6, .int (0 : Int32)), (5, .int (0 : Int32)), (4, .int (s_P_amount a2)), (3, .int (s_P_fieldB a2)), (0, .ref xP), (1, .int (13 : Int32)), (2, .int a2)]) hx hb d_P_moveWord_72 hl (by decide) rfl (fun ls hl => ?_)
  refine lv_aload_n hx hb d_P_moveWord_74 rfl (lv_at hl 5 rfl) ?_
  refine lv_iload hx hb d_P_moveWord_75 (lv_at hl 0 rfl) ?_
  refine lv_iload hx hb d_P_moveWord_77 (lv_at hl 2 rfl) ?_
  show W p l e _ s m args below meth c _ _ _ _ Q (F0 m 79 ls _)
  refine lv_if_eq (tgt := 86) hx hb d_P_moveWord_79 (by decide) (fun _ => ?_) (fun hh => absurd hh (by decide))
  refine lv_iconst (v := (1 : Int32)) hx hb d_P_moveWord_86 (by decide) ?_
  refine zz_rVi (rest := []) ⟨hx, hb, hml, hown, hts⟩ (k_P_refuseWord l D cI _ xP xM xW xR xD xA xG xL xH xI xT u_z u_M u_r u_d u_a u_lo u_hi u_ri u_t ((u_a (ix (s_P_fieldB a2))) + (s_P_amount a2)) (1 : Int32) hset) g_P_moveWord_P_refuseWord_188 nv_P_refuseWord ⟨⟨rfl, rfl⟩, Nat.le_of_ble_eq_true rfl, Nat.le_of_ble_eq_true rfl⟩ hK [0] rfl hP hD hS hA [0, 1, 2, 3, 4, 5, 6, 7, 8, 9, 10] rfl rfl 0 4 rfl rfl rfl rfl hl.1 (Nat.le_of_ble_eq_true rfl) d_P_moveWord_87 ⟨Nat.zero_le _, Nat.zero_le _⟩ (fun H locs hP hD hS => ?_)
  refine lv_istore (lv' := [(8, .int (s_P_refuseWord u_z u_M u_r u_d u_a u_lo u_hi u_ri u_t ((u_a (ix (s_P_fieldB a2))) + (s_P_amount a2)) (1 : Int32))), (7, .int ((u_a (ix (s_P_fieldB a2))) + (s_P_amount a2))), (6, .int (0 : Int32)), (5, .int (0 : Int32)), (4, .int (s_P_amount a2)), (3, .int (s_P_fieldB a2)), (0, .ref xP), (1, .int (13 : Int32)), (2, .int a2)]) hx hb d_P_moveWord_90 hl (by decide) rfl (fun ls hl => ?_)
  refine lv_iload hx hb d_P_moveWord_92 (lv_at hl 0 rfl) ?_
  refine lv_if_eq (tgt := 100) hx hb d_P_moveWord_94 (by decide) (fun h1 => ?_) (fun h1 => ?_)
  ·
    refine lv_iload hx hb d_P_moveWord_100 (lv_at hl 3 rfl) ?_
    refine lv_if_eq (tgt := 129) hx hb d_P_moveWord_102 (by decide) (fun _ => ?_) (fun hh => absurd hh (by decide))
    refine lv_aload_n hx hb d_P_moveWord_129 rfl (lv_at hl 6 rfl) ?_
    refine zz_get (C := R_P) (T := F_P) (N := 10) (v := .ref xR) hx hb hts in_P hown hK hP 0 rfl rfl 1 (by decide) mw_22 rfl d_P_moveWord_130 ?_
    refine zz_get (C := R_R) (T := F_R) (N := 12) (v := .ref xD) hx hb hts in_R hown hK hP 3 rfl rfl 0 (by decide) mw_31 rfl d_P_moveWord_133 ?_
    refine lv_iload_n hx hb d_P_moveWord_136 rfl (lv_at hl 8 rfl) ?_
    refine zz_cS0 (rest := [.ref xD]) ⟨hx, hb, hml, hown, hts⟩ (k_P_fieldA l D cI _ a2) g_P_moveWord_P_fieldA_175 nd_P_fieldA ⟨⟨rfl, rfl⟩, Nat.le_of_ble_eq_true rfl, Nat.le_of_ble_eq_true rfl⟩ hK hP hD hS hA rfl rfl hl.1 (Nat.le_of_ble_eq_true rfl) d_P_moveWord_137 ⟨Nat.zero_le _, Nat.zero_le _⟩ (fun H locs hP hD hS => ?_)
    refine lv_aload_n hx hb d_P_moveWord_140 rfl (lv_at hl 6 rfl) ?_
    refine zz_get (C := R_P) (T := F_P) (N := 10) (v := .ref xM) hx hb hts in_P hown hK hP 0 rfl rfl 0 (by decide) mw_24 rfl d_P_moveWord_141 ?_
    refine lv_iload hx hb d_P_moveWord_144 (lv_at hl 1 rfl) ?_
    refine zz_rVi (rest := [.int (s_P_fieldA a2), .ref xD]) ⟨hx, hb, hml, hown, hts⟩ (k_M_read l D cI _ xM xW u_M ((u_a (ix (s_P_fieldB a2))) + (s_P_amount a2))) g_P_moveWord_M_read_70 nv_M_read ⟨⟨rfl, rfl⟩, Nat.le_of_ble_eq_true rfl, Nat.le_of_ble_eq_true rfl⟩ hK [0] rfl hP hD hS hA [1, 2] rfl rfl 1 0 rfl rfl rfl rfl hl.1 (Nat.le_of_ble_eq_true rfl) d_P_moveWord_146 ⟨Nat.zero_le _, Nat.zero_le _⟩ (fun H locs hP hD hS => ?_)
    refine zz_iast (w' := [oP xP xM xR xG xT u_z, oM xM xW, ar cI xW 512 u_M, oR xR xD xA u_r, ar cI xD 8 (upd u_d (ix (s_P_fieldA a2)) (s_M_read u_M ((u_a (ix (s_P_fieldB a2))) + (s_P_amount a2)))), ar cI xA 8 u_a, oG xG xL xH xI, ar cI xL 6 u_lo, ar cI xH 6 u_hi, ar cI xI 6 u_ri, oT xT u_t]) hx hb hK hP hD hS 4 0 rfl rfl (in_fA _) d_P_moveWord_149 rfl (fun H locs hP hD hS => ?_)
    refine lv_iload hx hb d_P_moveWord_150 (lv_at hl 2 rfl) ?_
    show W p l e _ s m args below meth c _ _ _ _ Q (F0 m 152 ls _)
    refine lv_if_eq (tgt := 169) hx hb d_P_moveWord_152 (by decide) (fun _ => ?_) (fun hh => absurd hh (by decide))
    refine lv_iconst (v := (0 : Int32)) hx hb d_P_moveWord_169 (by decide) ?_
    have hsp : s_P_moveWord13 u_z u_M u_r u_d u_a u_lo u_hi u_ri u_t a2 = ((0 : Int32), upd u_d (ix (s_P_fieldA a2)) (s_M_read u_M ((u_a (ix (s_P_fieldB a2))) + (s_P_amount a2)))) := (by unfold s_P_moveWord13; rw [if_pos h1])
    rw [hsp] at hE
    exact hE _ _ _ _ hP hD hS d_P_moveWord_170
  ·
    refine lv_iload hx hb d_P_moveWord_97 (lv_at hl 0 rfl) ?_
    have hsp : s_P_moveWord13 u_z u_M u_r u_d u_a u_lo u_hi u_ri u_t a2 = ((s_P_refuseWord u_z u_M u_r u_d u_a u_lo u_hi u_ri u_t ((u_a (ix (s_P_fieldB a2))) + (s_P_amount a2)) (1 : Int32)), u_d) := (by unfold s_P_moveWord13; rw [if_neg h1])
    rw [hsp] at hE
    exact hE _ _ _ _ hP hD hS d_P_moveWord_99
set_option maxHeartbeats 4000000 in
set_option maxRecDepth 100000 in
theorem k_P_moveWord14 (l : Launch) (D : va_G) (cI : ClassId) (sz : Nat) (xP : Nat) (xM : Nat) (xW : Nat) (xR : Nat) (xD : Nat) (xA : Nat) (xG : Nat) (xL : Nat) (xH : Nat) (xI : Nat) (xT : Nat) (u_z : Nat → Int32) (u_M : Nat → Int32) (u_r : Nat → Int32) (u_d : Nat → Int32) (u_a : Nat → Int32) (u_lo : Nat → Int32) (u_hi : Nat → Int32) (u_ri : Nat → Int32) (u_t : Nat → Int32) (a2 : Int32) (hset : u_r 5 = 0 ∨ u_r 5 = 1) : zMi l y_P_moveWord (.code y_P_moveWord b_P_moveWord 9 (some .int) :: wd) { frames := 3, cells := 0, slots := 0, locals := 69 } D classes [(cI, .int)] [.ref xP, .int (14 : Int32), .int a2] [oP xP xM xR xG xT u_z, oM xM xW, ar cI xW 512 u_M, oR xR xD xA u_r, ar cI xD 8 u_d, ar cI xA 8 u_a, oG xG xL xH xI, ar cI xL 6 u_lo, ar cI xH 6 u_hi, ar cI xI 6 u_ri, oT xT u_t] [oP xP xM xR xG xT u_z, oM xM xW, ar cI xW 512 ((s_P_moveWord14 u_z u_M u_r u_d u_a u_lo u_hi u_ri u_t a2).2), oR xR xD xA u_r, ar cI xD 8 u_d, ar cI xA 8 u_a, oG xG xL xH xI, ar cI xL 6 u_lo, ar cI xH 6 u_hi, ar cI xI 6 u_ri, oT xT u_t] sz (s_P_moveWord14 u_z u_M u_r u_d u_a u_lo u_hi u_ri u_t a2).1 := by
  refine met_i (by decide) (Nat.le_of_ble_eq_true rfl) rfl ?_
  intro p e s m args below meth c A Q ls hx hb hml hown hts hK hP hD hS hA hl hE
  have hl : lv_has ls 9 [(0, .ref xP), (1, .int (14 : Int32)), (2, .int a2)] := hl
  have hown : s.vm.findClass R_P = some m.cls := hown
  refine lv_iload_n hx hb d_P_moveWord_0 rfl (lv_at hl 2 rfl) ?_
  refine zz_cS0 (rest := []) ⟨hx, hb, hml, hown, hts⟩ (k_P_fieldB l D cI _ a2) g_P_moveWord_P_fieldB_178 nd_P_fieldB ⟨⟨rfl, rfl⟩, Nat.le_of_ble_eq_true rfl, Nat.le_of_ble_eq_true rfl⟩ hK hP hD hS hA rfl rfl hl.1 (Nat.le_of_ble_eq_true rfl) d_P_moveWord_1 ⟨Nat.zero_le _, Nat.zero_le _⟩ (fun H locs hP hD hS => ?_)
  refine lv_istore_n (lv' := [(3, .int (s_P_fieldB a2)), (0, .ref xP), (1, .int (14 : Int32)), (2, .int a2)]) hx hb d_P_moveWord_4 rfl hl (by decide) rfl (fun ls hl => ?_)
  refine lv_iload_n hx hb d_P_moveWord_5 rfl (lv_at hl 3 rfl) ?_
  refine zz_cS0 (rest := []) ⟨hx, hb, hml, hown, hts⟩ (k_P_amount l D cI _ a2) g_P_moveWord_P_amount_131 nd_P_amount ⟨⟨rfl, rfl⟩, Nat.le_of_ble_eq_true rfl, Nat.le_of_ble_eq_true rfl⟩ hK hP hD hS hA rfl rfl hl.1 (Nat.le_of_ble_eq_true rfl) d_P_moveWord_6 ⟨Nat.zero_le _, Nat.zero_le _⟩ (fun H locs hP hD hS => ?_)
  refine lv_istore (lv' := [(4, .int (s_P_amount a2)), (3, .int (s_P_fieldB a2)), (0, .ref xP), (1, .int (14 : Int32)), (2, .int a2)]) hx hb d_P_moveWord_9 hl (by decide) rfl (fun ls hl => ?_)
  refine lv_iload_n hx hb d_P_moveWord_11 rfl (lv_at hl 3 rfl) ?_
  refine lv_bipush (v := (14 : Int32)) hx hb d_P_moveWord_12 (by decide) ?_
  refine lv_icmp_eq (tgt := 23) hx hb d_P_moveWord_14 (by decide) (fun _ => ?_) (fun hh => absurd hh (by decide))
  refine lv_iconst (v := (1 : Int32)) hx hb d_P_moveWord_23 (by decide) ?_
  refine lv_goto (tgt := 28) hx hb d_P_moveWord_24 (by decide) ?_
  refine lv_istore (lv' := [(5, .int (1 : Int32)), (4, .int (s_P_amount a2)), (3, .int (s_P_fieldB a2)), (0, .ref xP), (1, .int (14 : Int32)), (2, .int a2)]) hx hb d_P_moveWord_28 hl (by decide) rfl (fun ls hl => ?_)
  refine lv_iload_n hx hb d_P_moveWord_30 rfl (lv_at hl 4 rfl) ?_
  refine lv_bipush (v := (15 : Int32)) hx hb d_P_moveWord_31 (by decide) ?_
  refine lv_icmp_lt (tgt := 40) hx hb d_P_moveWord_33 (by decide) (fun _ => ?_) (fun hh => absurd hh (by decide))
  refine lv_iconst (v := (0 : Int32)) hx hb d_P_moveWord_40 (by decide) ?_
  refine lv_istore (lv' := [(6, .int (0 : Int32)), (5, .int (1 : Int32)), (4, .int (s_P_amount a2)), (3, .int (s_P_fieldB a2)), (0, .ref xP), (1, .int (14 : Int32)), (2, .int a2)]) hx hb d_P_moveWord_41 hl (by decide) rfl (fun ls hl => ?_)
  refine lv_iload hx hb d_P_moveWord_43 (lv_at hl 0 rfl) ?_
  refine lv_if_eq (tgt := 60) hx hb d_P_moveWord_45 (by decide) (fun _ => ?_) (fun hh => absurd hh (by decide))
  refine lv_aload_n hx hb d_P_moveWord_60 rfl (lv_at hl 4 rfl) ?_
  refine zz_get (C := R_P) (T := F_P) (N := 10) (v := .ref xR) hx hb hts in_P hown hK hP 0 rfl rfl 1 (by decide) mw_22 rfl d_P_moveWord_61 ?_
  refine zz_get (C := R_R) (T := F_R) (N := 12) (v := .ref xA) hx hb hts in_R hown hK hP 3 rfl rfl 1 (by decide) mw_37 rfl d_P_moveWord_64 ?_
  refine lv_iload_n hx hb d_P_moveWord_67 rfl (lv_at hl 3 rfl) ?_
  refine va_iald hx hb hK hP 5 0 rfl rfl (in_fB _) d_P_moveWord_68 ?_
  refine lv_iload hx hb d_P_moveWord_69 (lv_at hl 2 rfl) ?_
  refine lv_iadd hx hb d_P_moveWord_71 ?_
  refine lv_istore (lv' := [(7, .int ((u_a (ix (s_P_fieldB a2))) + (s_P_amount a2))), (6, .int (0 : Int32)), (5, .int (1 : Int32)), (4, .int (s_P_amount a2)), (3, .int (s_P_fieldB a2)), (0, .ref xP), (1, .int (14 : Int32)), (2, .int a2)]) hx hb d_P_moveWord_72 hl (by decide) rfl (fun ls hl => ?_)
  refine lv_aload_n hx hb d_P_moveWord_74 rfl (lv_at hl 5 rfl) ?_
  refine lv_iload hx hb d_P_moveWord_75 (lv_at hl 0 rfl) ?_
  refine lv_iload hx hb d_P_moveWord_77 (lv_at hl 2 rfl) ?_
  show W p l e _ s m args below meth c _ _ _ _ Q (F0 m 79 ls _)
  refine lv_if_eq (tgt := 86) hx hb d_P_moveWord_79 (by decide) (fun hh => absurd hh (by decide)) (fun _ => ?_)
  refine lv_iconst (v := (2 : Int32)) hx hb d_P_moveWord_82 (by decide) ?_
  refine lv_goto (tgt := 87) hx hb d_P_moveWord_83 (by decide) ?_
  refine zz_rVi (rest := []) ⟨hx, hb, hml, hown, hts⟩ (k_P_refuseWord l D cI _ xP xM xW xR xD xA xG xL xH xI xT u_z u_M u_r u_d u_a u_lo u_hi u_ri u_t ((u_a (ix (s_P_fieldB a2))) + (s_P_amount a2)) (2 : Int32) hset) g_P_moveWord_P_refuseWord_188 nv_P_refuseWord ⟨⟨rfl, rfl⟩, Nat.le_of_ble_eq_true rfl, Nat.le_of_ble_eq_true rfl⟩ hK [0] rfl hP hD hS hA [0, 1, 2, 3, 4, 5, 6, 7, 8, 9, 10] rfl rfl 0 4 rfl rfl rfl rfl hl.1 (Nat.le_of_ble_eq_true rfl) d_P_moveWord_87 ⟨Nat.zero_le _, Nat.zero_le _⟩ (fun H locs hP hD hS => ?_)
  refine lv_istore (lv' := [(8, .int (s_P_refuseWord u_z u_M u_r u_d u_a u_lo u_hi u_ri u_t ((u_a (ix (s_P_fieldB a2))) + (s_P_amount a2)) (2 : Int32))), (7, .int ((u_a (ix (s_P_fieldB a2))) + (s_P_amount a2))), (6, .int (0 : Int32)), (5, .int (1 : Int32)), (4, .int (s_P_amount a2)), (3, .int (s_P_fieldB a2)), (0, .ref xP), (1, .int (14 : Int32)), (2, .int a2)]) hx hb d_P_moveWord_90 hl (by decide) rfl (fun ls hl => ?_)
  refine lv_iload hx hb d_P_moveWord_92 (lv_at hl 0 rfl) ?_
  refine lv_if_eq (tgt := 100) hx hb d_P_moveWord_94 (by decide) (fun h1 => ?_) (fun h1 => ?_)
  ·
    refine lv_iload hx hb d_P_moveWord_100 (lv_at hl 3 rfl) ?_
    refine lv_if_eq (tgt := 129) hx hb d_P_moveWord_102 (by decide) (fun hh => absurd hh (by decide)) (fun _ => ?_)
    refine lv_aload_n hx hb d_P_moveWord_105 rfl (lv_at hl 6 rfl) ?_
    refine zz_get (C := R_P) (T := F_P) (N := 10) (v := .ref xM) hx hb hts in_P hown hK hP 0 rfl rfl 0 (by decide) mw_24 rfl d_P_moveWord_106 ?_
    refine lv_iload hx hb d_P_moveWord_109 (lv_at hl 1 rfl) ?_
    refine lv_aload_n hx hb d_P_moveWord_111 rfl (lv_at hl 6 rfl) ?_
    refine zz_get (C := R_P) (T := F_P) (N := 10) (v := .ref xR) hx hb hts in_P hown hK hP 0 rfl rfl 1 (by decide) mw_22 rfl d_P_moveWord_112 ?_
    refine zz_get (C := R_R) (T := F_R) (N := 12) (v := .ref xD) hx hb hts in_R hown hK hP 3 rfl rfl 0 (by decide) mw_31 rfl d_P_moveWord_115 ?_
    refine lv_iload_n hx hb d_P_moveWord_118 rfl (lv_at hl 8 rfl) ?_
    refine zz_cS0 (rest := [.ref xD, .int ((u_a (ix (s_P_fieldB a2))) + (s_P_amount a2)), .ref xM]) ⟨hx, hb, hml, hown, hts⟩ (k_P_fieldA l D cI _ a2) g_P_moveWord_P_fieldA_175 nd_P_fieldA ⟨⟨rfl, rfl⟩, Nat.le_of_ble_eq_true rfl, Nat.le_of_ble_eq_true rfl⟩ hK hP hD hS hA rfl rfl hl.1 (Nat.le_of_ble_eq_true rfl) d_P_moveWord_119 ⟨Nat.zero_le _, Nat.zero_le _⟩ (fun H locs hP hD hS => ?_)
    refine va_iald hx hb hK hP 4 0 rfl rfl (in_fA _) d_P_moveWord_122 ?_
    refine zz_cVv (rest := []) (wr := [oP xP xM xR xG xT u_z, oR xR xD xA u_r, ar cI xD 8 u_d, ar cI xA 8 u_a, oG xG xL xH xI, ar cI xL 6 u_lo, ar cI xH 6 u_hi, ar cI xI 6 u_ri, oT xT u_t]) (w' := [oP xP xM xR xG xT u_z, oM xM xW, ar cI xW 512 (s_M_write u_M ((u_a (ix (s_P_fieldB a2))) + (s_P_amount a2)) (u_d (ix (s_P_fieldA a2)))), oR xR xD xA u_r, ar cI xD 8 u_d, ar cI xA 8 u_a, oG xG xL xH xI, ar cI xL 6 u_lo, ar cI xH 6 u_hi, ar cI xI 6 u_ri, oT xT u_t]) ⟨hx, hb, hml, hown, hts⟩ (k_M_write l D cI _ xM xW u_M ((u_a (ix (s_P_fieldB a2))) + (s_P_amount a2)) (u_d (ix (s_P_fieldA a2)))) g_P_moveWord_M_write_191 nv_M_write ⟨⟨rfl, rfl⟩, Nat.le_of_ble_eq_true rfl, Nat.le_of_ble_eq_true rfl⟩ hK [0] rfl hP hD hS hA [1, 2] [0, 3, 4, 5, 6, 7, 8, 9, 10] [0, 9, 10, 1, 2, 3, 4, 5, 6, 7, 8] rfl rfl rfl rfl (by decide) rfl rfl 1 0 rfl rfl rfl rfl hl.1 (Nat.le_of_ble_eq_true rfl) d_P_moveWord_123 ⟨Nat.zero_le _, Nat.zero_le _⟩ (fun H locs hP hD hS => ?_)
    refine lv_goto (tgt := 150) hx hb d_P_moveWord_126 (by decide) ?_
    show W p l e _ s m args below meth c _ _ _ _ Q (F0 m 150 ls _)
    refine lv_iload hx hb d_P_moveWord_150 (lv_at hl 2 rfl) ?_
    refine lv_if_eq (tgt := 169) hx hb d_P_moveWord_152 (by decide) (fun _ => ?_) (fun hh => absurd hh (by decide))
    refine lv_iconst (v := (0 : Int32)) hx hb d_P_moveWord_169 (by decide) ?_
    have hsp : s_P_moveWord14 u_z u_M u_r u_d u_a u_lo u_hi u_ri u_t a2 = ((0 : Int32), (s_M_write u_M ((u_a (ix (s_P_fieldB a2))) + (s_P_amount a2)) (u_d (ix (s_P_fieldA a2))))) := (by unfold s_P_moveWord14; rw [if_pos h1])
    rw [hsp] at hE
    exact hE _ _ _ _ hP hD hS d_P_moveWord_170
  ·
    refine lv_iload hx hb d_P_moveWord_97 (lv_at hl 0 rfl) ?_
    have hsp : s_P_moveWord14 u_z u_M u_r u_d u_a u_lo u_hi u_ri u_t a2 = ((s_P_refuseWord u_z u_M u_r u_d u_a u_lo u_hi u_ri u_t ((u_a (ix (s_P_fieldB a2))) + (s_P_amount a2)) (2 : Int32)), u_M) := (by unfold s_P_moveWord14; rw [if_neg h1])
    rw [hsp] at hE
    exact hE _ _ _ _ hP hD hS d_P_moveWord_99
set_option maxHeartbeats 4000000 in
set_option maxRecDepth 100000 in
theorem k_P_moveWord15 (l : Launch) (D : va_G) (cI : ClassId) (sz : Nat) (xP : Nat) (xM : Nat) (xW : Nat) (xR : Nat) (xD : Nat) (xA : Nat) (xG : Nat) (xL : Nat) (xH : Nat) (xI : Nat) (xT : Nat) (u_z : Nat → Int32) (u_M : Nat → Int32) (u_r : Nat → Int32) (u_d : Nat → Int32) (u_a : Nat → Int32) (u_lo : Nat → Int32) (u_hi : Nat → Int32) (u_ri : Nat → Int32) (u_t : Nat → Int32) (a2 : Int32) (hset : u_r 5 = 0 ∨ u_r 5 = 1) : zMi l y_P_moveWord (.code y_P_moveWord b_P_moveWord 9 (some .int) :: wd) { frames := 3, cells := 0, slots := 0, locals := 69 } D classes [(cI, .int)] [.ref xP, .int (15 : Int32), .int a2] [oP xP xM xR xG xT u_z, oM xM xW, ar cI xW 512 u_M, oR xR xD xA u_r, ar cI xD 8 u_d, ar cI xA 8 u_a, oG xG xL xH xI, ar cI xL 6 u_lo, ar cI xH 6 u_hi, ar cI xI 6 u_ri, oT xT u_t] [oP xP xM xR xG xT u_z, oM xM xW, ar cI xW 512 u_M, oR xR xD xA u_r, ar cI xD 8 ((s_P_moveWord15 u_z u_M u_r u_d u_a u_lo u_hi u_ri u_t a2).2.1), ar cI xA 8 ((s_P_moveWord15 u_z u_M u_r u_d u_a u_lo u_hi u_ri u_t a2).2.2), oG xG xL xH xI, ar cI xL 6 u_lo, ar cI xH 6 u_hi, ar cI xI 6 u_ri, oT xT u_t] sz (s_P_moveWord15 u_z u_M u_r u_d u_a u_lo u_hi u_ri u_t a2).1 := by
  refine met_i (by decide) (Nat.le_of_ble_eq_true rfl) rfl ?_
  intro p e s m args below meth c A Q ls hx hb hml hown hts hK hP hD hS hA hl hE
  have hl : lv_has ls 9 [(0, .ref xP), (1, .int (15 : Int32)), (2, .int a2)] := hl
  have hown : s.vm.findClass R_P = some m.cls := hown
  refine lv_iload_n hx hb d_P_moveWord_0 rfl (lv_at hl 2 rfl) ?_
  refine zz_cS0 (rest := []) ⟨hx, hb, hml, hown, hts⟩ (k_P_fieldB l D cI _ a2) g_P_moveWord_P_fieldB_178 nd_P_fieldB ⟨⟨rfl, rfl⟩, Nat.le_of_ble_eq_true rfl, Nat.le_of_ble_eq_true rfl⟩ hK hP hD hS hA rfl rfl hl.1 (Nat.le_of_ble_eq_true rfl) d_P_moveWord_1 ⟨Nat.zero_le _, Nat.zero_le _⟩ (fun H locs hP hD hS => ?_)
  refine lv_istore_n (lv' := [(3, .int (s_P_fieldB a2)), (0, .ref xP), (1, .int (15 : Int32)), (2, .int a2)]) hx hb d_P_moveWord_4 rfl hl (by decide) rfl (fun ls hl => ?_)
  refine lv_iload_n hx hb d_P_moveWord_5 rfl (lv_at hl 3 rfl) ?_
  refine zz_cS0 (rest := []) ⟨hx, hb, hml, hown, hts⟩ (k_P_amount l D cI _ a2) g_P_moveWord_P_amount_131 nd_P_amount ⟨⟨rfl, rfl⟩, Nat.le_of_ble_eq_true rfl, Nat.le_of_ble_eq_true rfl⟩ hK hP hD hS hA rfl rfl hl.1 (Nat.le_of_ble_eq_true rfl) d_P_moveWord_6 ⟨Nat.zero_le _, Nat.zero_le _⟩ (fun H locs hP hD hS => ?_)
  refine lv_istore (lv' := [(4, .int (s_P_amount a2)), (3, .int (s_P_fieldB a2)), (0, .ref xP), (1, .int (15 : Int32)), (2, .int a2)]) hx hb d_P_moveWord_9 hl (by decide) rfl (fun ls hl => ?_)
  refine lv_iload_n hx hb d_P_moveWord_11 rfl (lv_at hl 3 rfl) ?_
  refine lv_bipush (v := (14 : Int32)) hx hb d_P_moveWord_12 (by decide) ?_
  refine lv_icmp_eq (tgt := 23) hx hb d_P_moveWord_14 (by decide) (fun hh => absurd hh (by decide)) (fun _ => ?_)
  refine lv_iload_n hx hb d_P_moveWord_17 rfl (lv_at hl 3 rfl) ?_
  refine lv_bipush (v := (16 : Int32)) hx hb d_P_moveWord_18 (by decide) ?_
  refine lv_icmp_ne (tgt := 27) hx hb d_P_moveWord_20 (by decide) (fun _ => ?_) (fun hh => absurd hh (by decide))
  refine lv_iconst (v := (0 : Int32)) hx hb d_P_moveWord_27 (by decide) ?_
  refine lv_istore (lv' := [(5, .int (0 : Int32)), (4, .int (s_P_amount a2)), (3, .int (s_P_fieldB a2)), (0, .ref xP), (1, .int (15 : Int32)), (2, .int a2)]) hx hb d_P_moveWord_28 hl (by decide) rfl (fun ls hl => ?_)
  refine lv_iload_n hx hb d_P_moveWord_30 rfl (lv_at hl 4 rfl) ?_
  refine lv_bipush (v := (15 : Int32)) hx hb d_P_moveWord_31 (by decide) ?_
  refine lv_icmp_lt (tgt := 40) hx hb d_P_moveWord_33 (by decide) (fun hh => absurd hh (by decide)) (fun _ => ?_)
  refine lv_iconst (v := (1 : Int32)) hx hb d_P_moveWord_36 (by decide) ?_
  refine lv_goto (tgt := 41) hx hb d_P_moveWord_37 (by decide) ?_
  refine lv_istore (lv' := [(6, .int (1 : Int32)), (5, .int (0 : Int32)), (4, .int (s_P_amount a2)), (3, .int (s_P_fieldB a2)), (0, .ref xP), (1, .int (15 : Int32)), (2, .int a2)]) hx hb d_P_moveWord_41 hl (by decide) rfl (fun ls hl => ?_)
  refine lv_iload hx hb d_P_moveWord_43 (lv_at hl 0 rfl) ?_
  refine lv_if_eq (tgt := 60) hx hb d_P_moveWord_45 (by decide) (fun hh => absurd hh (by decide)) (fun _ => ?_)
  refine lv_aload_n hx hb d_P_moveWord_48 rfl (lv_at hl 4 rfl) ?_
  refine zz_get (C := R_P) (T := F_P) (N := 10) (v := .ref xR) hx hb hts in_P hown hK hP 0 rfl rfl 1 (by decide) mw_22 rfl d_P_moveWord_49 ?_
  refine zz_get (C := R_R) (T := F_R) (N := 12) (v := .ref xA) hx hb hts in_R hown hK hP 3 rfl rfl 1 (by decide) mw_37 rfl d_P_moveWord_52 ?_
  refine lv_iload_n hx hb d_P_moveWord_55 rfl (lv_at hl 3 rfl) ?_
  refine va_iald hx hb hK hP 5 0 rfl rfl (in_fB _) d_P_moveWord_56 ?_
  refine lv_goto (tgt := 72) hx hb d_P_moveWord_57 (by decide) ?_
  refine lv_istore (lv' := [(7, .int (u_a (ix (s_P_fieldB a2)))), (6, .int (1 : Int32)), (5, .int (0 : Int32)), (4, .int (s_P_amount a2)), (3, .int (s_P_fieldB a2)), (0, .ref xP), (1, .int (15 : Int32)), (2, .int a2)]) hx hb d_P_moveWord_72 hl (by decide) rfl (fun ls hl => ?_)
  refine lv_aload_n hx hb d_P_moveWord_74 rfl (lv_at hl 5 rfl) ?_
  refine lv_iload hx hb d_P_moveWord_75 (lv_at hl 0 rfl) ?_
  refine lv_iload hx hb d_P_moveWord_77 (lv_at hl 2 rfl) ?_
  refine lv_if_eq (tgt := 86) hx hb d_P_moveWord_79 (by decide) (fun _ => ?_) (fun hh => absurd hh (by decide))
  refine lv_iconst (v := (1 : Int32)) hx hb d_P_moveWord_86 (by decide) ?_
  refine zz_rVi (rest := []) ⟨hx, hb, hml, hown, hts⟩ (k_P_refuseWord l D cI _ xP xM xW xR xD xA xG xL xH xI xT u_z u_M u_r u_d u_a u_lo u_hi u_ri u_t (u_a (ix (s_P_fieldB a2))) (1 : Int32) hset) g_P_moveWord_P_refuseWord_188 nv_P_refuseWord ⟨⟨rfl, rfl⟩, Nat.le_of_ble_eq_true rfl, Nat.le_of_ble_eq_true rfl⟩ hK [0] rfl hP hD hS hA [0, 1, 2, 3, 4, 5, 6, 7, 8, 9, 10] rfl rfl 0 4 rfl rfl rfl rfl hl.1 (Nat.le_of_ble_eq_true rfl) d_P_moveWord_87 ⟨Nat.zero_le _, Nat.zero_le _⟩ (fun H locs hP hD hS => ?_)
  refine lv_istore (lv' := [(8, .int (s_P_refuseWord u_z u_M u_r u_d u_a u_lo u_hi u_ri u_t (u_a (ix (s_P_fieldB a2))) (1 : Int32))), (7, .int (u_a (ix (s_P_fieldB a2)))), (6, .int (1 : Int32)), (5, .int (0 : Int32)), (4, .int (s_P_amount a2)), (3, .int (s_P_fieldB a2)), (0, .ref xP), (1, .int (15 : Int32)), (2, .int a2)]) hx hb d_P_moveWord_90 hl (by decide) rfl (fun ls hl => ?_)
  refine lv_iload hx hb d_P_moveWord_92 (lv_at hl 0 rfl) ?_
  refine lv_if_eq (tgt := 100) hx hb d_P_moveWord_94 (by decide) (fun h1 => ?_) (fun h1 => ?_)
  ·
    refine lv_iload hx hb d_P_moveWord_100 (lv_at hl 3 rfl) ?_
    refine lv_if_eq (tgt := 129) hx hb d_P_moveWord_102 (by decide) (fun _ => ?_) (fun hh => absurd hh (by decide))
    refine lv_aload_n hx hb d_P_moveWord_129 rfl (lv_at hl 6 rfl) ?_
    refine zz_get (C := R_P) (T := F_P) (N := 10) (v := .ref xR) hx hb hts in_P hown hK hP 0 rfl rfl 1 (by decide) mw_22 rfl d_P_moveWord_130 ?_
    refine zz_get (C := R_R) (T := F_R) (N := 12) (v := .ref xD) hx hb hts in_R hown hK hP 3 rfl rfl 0 (by decide) mw_31 rfl d_P_moveWord_133 ?_
    refine lv_iload_n hx hb d_P_moveWord_136 rfl (lv_at hl 8 rfl) ?_
    refine zz_cS0 (rest := [.ref xD]) ⟨hx, hb, hml, hown, hts⟩ (k_P_fieldA l D cI _ a2) g_P_moveWord_P_fieldA_175 nd_P_fieldA ⟨⟨rfl, rfl⟩, Nat.le_of_ble_eq_true rfl, Nat.le_of_ble_eq_true rfl⟩ hK hP hD hS hA rfl rfl hl.1 (Nat.le_of_ble_eq_true rfl) d_P_moveWord_137 ⟨Nat.zero_le _, Nat.zero_le _⟩ (fun H locs hP hD hS => ?_)
    refine lv_aload_n hx hb d_P_moveWord_140 rfl (lv_at hl 6 rfl) ?_
    refine zz_get (C := R_P) (T := F_P) (N := 10) (v := .ref xM) hx hb hts in_P hown hK hP 0 rfl rfl 0 (by decide) mw_24 rfl d_P_moveWord_141 ?_
    refine lv_iload hx hb d_P_moveWord_144 (lv_at hl 1 rfl) ?_
    refine zz_rVi (rest := [.int (s_P_fieldA a2), .ref xD]) ⟨hx, hb, hml, hown, hts⟩ (k_M_read l D cI _ xM xW u_M (u_a (ix (s_P_fieldB a2)))) g_P_moveWord_M_read_70 nv_M_read ⟨⟨rfl, rfl⟩, Nat.le_of_ble_eq_true rfl, Nat.le_of_ble_eq_true rfl⟩ hK [0] rfl hP hD hS hA [1, 2] rfl rfl 1 0 rfl rfl rfl rfl hl.1 (Nat.le_of_ble_eq_true rfl) d_P_moveWord_146 ⟨Nat.zero_le _, Nat.zero_le _⟩ (fun H locs hP hD hS => ?_)
    refine zz_iast (w' := [oP xP xM xR xG xT u_z, oM xM xW, ar cI xW 512 u_M, oR xR xD xA u_r, ar cI xD 8 (upd u_d (ix (s_P_fieldA a2)) (s_M_read u_M (u_a (ix (s_P_fieldB a2))))), ar cI xA 8 u_a, oG xG xL xH xI, ar cI xL 6 u_lo, ar cI xH 6 u_hi, ar cI xI 6 u_ri, oT xT u_t]) hx hb hK hP hD hS 4 0 rfl rfl (in_fA _) d_P_moveWord_149 rfl (fun H locs hP hD hS => ?_)
    refine lv_iload hx hb d_P_moveWord_150 (lv_at hl 2 rfl) ?_
    show W p l e _ s m args below meth c _ _ _ _ Q (F0 m 152 ls _)
    refine lv_if_eq (tgt := 169) hx hb d_P_moveWord_152 (by decide) (fun hh => absurd hh (by decide)) (fun _ => ?_)
    refine lv_aload_n hx hb d_P_moveWord_155 rfl (lv_at hl 6 rfl) ?_
    refine zz_get (C := R_P) (T := F_P) (N := 10) (v := .ref xR) hx hb hts in_P hown hK hP 0 rfl rfl 1 (by decide) mw_22 rfl d_P_moveWord_156 ?_
    refine zz_get (C := R_R) (T := F_R) (N := 12) (v := .ref xA) hx hb hts in_R hown hK hP 3 rfl rfl 1 (by decide) mw_37 rfl d_P_moveWord_159 ?_
    refine lv_iload_n hx hb d_P_moveWord_162 rfl (lv_at hl 5 rfl) ?_
    refine lv_dup2_11 hx hb d_P_moveWord_163 rfl rfl ?_
    refine va_iald hx hb hK hP 5 0 rfl rfl (in_fB _) d_P_moveWord_164 ?_
    refine lv_iload hx hb d_P_moveWord_165 (lv_at hl 4 rfl) ?_
    refine lv_iadd hx hb d_P_moveWord_167 ?_
    refine zz_iast (w' := [oP xP xM xR xG xT u_z, oM xM xW, ar cI xW 512 u_M, oR xR xD xA u_r, ar cI xD 8 (upd u_d (ix (s_P_fieldA a2)) (s_M_read u_M (u_a (ix (s_P_fieldB a2))))), ar cI xA 8 (upd u_a (ix (s_P_fieldB a2)) ((u_a (ix (s_P_fieldB a2))) + (s_P_amount a2))), oG xG xL xH xI, ar cI xL 6 u_lo, ar cI xH 6 u_hi, ar cI xI 6 u_ri, oT xT u_t]) hx hb hK hP hD hS 5 0 rfl rfl (in_fB _) d_P_moveWord_168 rfl (fun H locs hP hD hS => ?_)
    refine lv_iconst (v := (0 : Int32)) hx hb d_P_moveWord_169 (by decide) ?_
    have hsp : s_P_moveWord15 u_z u_M u_r u_d u_a u_lo u_hi u_ri u_t a2 = ((0 : Int32), upd u_d (ix (s_P_fieldA a2)) (s_M_read u_M (u_a (ix (s_P_fieldB a2)))), upd u_a (ix (s_P_fieldB a2)) ((u_a (ix (s_P_fieldB a2))) + (s_P_amount a2))) := (by unfold s_P_moveWord15; rw [if_pos h1])
    rw [hsp] at hE
    exact hE _ _ _ _ hP hD hS d_P_moveWord_170
  ·
    refine lv_iload hx hb d_P_moveWord_97 (lv_at hl 0 rfl) ?_
    have hsp : s_P_moveWord15 u_z u_M u_r u_d u_a u_lo u_hi u_ri u_t a2 = ((s_P_refuseWord u_z u_M u_r u_d u_a u_lo u_hi u_ri u_t (u_a (ix (s_P_fieldB a2))) (1 : Int32)), u_d, u_a) := (by unfold s_P_moveWord15; rw [if_neg h1])
    rw [hsp] at hE
    exact hE _ _ _ _ hP hD hS d_P_moveWord_99
set_option maxHeartbeats 4000000 in
set_option maxRecDepth 100000 in
theorem k_P_moveWord16 (l : Launch) (D : va_G) (cI : ClassId) (sz : Nat) (xP : Nat) (xM : Nat) (xW : Nat) (xR : Nat) (xD : Nat) (xA : Nat) (xG : Nat) (xL : Nat) (xH : Nat) (xI : Nat) (xT : Nat) (u_z : Nat → Int32) (u_M : Nat → Int32) (u_r : Nat → Int32) (u_d : Nat → Int32) (u_a : Nat → Int32) (u_lo : Nat → Int32) (u_hi : Nat → Int32) (u_ri : Nat → Int32) (u_t : Nat → Int32) (a2 : Int32) (hset : u_r 5 = 0 ∨ u_r 5 = 1) : zMi l y_P_moveWord (.code y_P_moveWord b_P_moveWord 9 (some .int) :: wd) { frames := 3, cells := 0, slots := 0, locals := 69 } D classes [(cI, .int)] [.ref xP, .int (16 : Int32), .int a2] [oP xP xM xR xG xT u_z, oM xM xW, ar cI xW 512 u_M, oR xR xD xA u_r, ar cI xD 8 u_d, ar cI xA 8 u_a, oG xG xL xH xI, ar cI xL 6 u_lo, ar cI xH 6 u_hi, ar cI xI 6 u_ri, oT xT u_t] [oP xP xM xR xG xT u_z, oM xM xW, ar cI xW 512 ((s_P_moveWord16 u_z u_M u_r u_d u_a u_lo u_hi u_ri u_t a2).2.1), oR xR xD xA u_r, ar cI xD 8 u_d, ar cI xA 8 ((s_P_moveWord16 u_z u_M u_r u_d u_a u_lo u_hi u_ri u_t a2).2.2), oG xG xL xH xI, ar cI xL 6 u_lo, ar cI xH 6 u_hi, ar cI xI 6 u_ri, oT xT u_t] sz (s_P_moveWord16 u_z u_M u_r u_d u_a u_lo u_hi u_ri u_t a2).1 := by
  refine met_i (by decide) (Nat.le_of_ble_eq_true rfl) rfl ?_
  intro p e s m args below meth c A Q ls hx hb hml hown hts hK hP hD hS hA hl hE
  have hl : lv_has ls 9 [(0, .ref xP), (1, .int (16 : Int32)), (2, .int a2)] := hl
  have hown : s.vm.findClass R_P = some m.cls := hown
  refine lv_iload_n hx hb d_P_moveWord_0 rfl (lv_at hl 2 rfl) ?_
  refine zz_cS0 (rest := []) ⟨hx, hb, hml, hown, hts⟩ (k_P_fieldB l D cI _ a2) g_P_moveWord_P_fieldB_178 nd_P_fieldB ⟨⟨rfl, rfl⟩, Nat.le_of_ble_eq_true rfl, Nat.le_of_ble_eq_true rfl⟩ hK hP hD hS hA rfl rfl hl.1 (Nat.le_of_ble_eq_true rfl) d_P_moveWord_1 ⟨Nat.zero_le _, Nat.zero_le _⟩ (fun H locs hP hD hS => ?_)
  refine lv_istore_n (lv' := [(3, .int (s_P_fieldB a2)), (0, .ref xP), (1, .int (16 : Int32)), (2, .int a2)]) hx hb d_P_moveWord_4 rfl hl (by decide) rfl (fun ls hl => ?_)
  refine lv_iload_n hx hb d_P_moveWord_5 rfl (lv_at hl 3 rfl) ?_
  refine zz_cS0 (rest := []) ⟨hx, hb, hml, hown, hts⟩ (k_P_amount l D cI _ a2) g_P_moveWord_P_amount_131 nd_P_amount ⟨⟨rfl, rfl⟩, Nat.le_of_ble_eq_true rfl, Nat.le_of_ble_eq_true rfl⟩ hK hP hD hS hA rfl rfl hl.1 (Nat.le_of_ble_eq_true rfl) d_P_moveWord_6 ⟨Nat.zero_le _, Nat.zero_le _⟩ (fun H locs hP hD hS => ?_)
  refine lv_istore (lv' := [(4, .int (s_P_amount a2)), (3, .int (s_P_fieldB a2)), (0, .ref xP), (1, .int (16 : Int32)), (2, .int a2)]) hx hb d_P_moveWord_9 hl (by decide) rfl (fun ls hl => ?_)
  refine lv_iload_n hx hb d_P_moveWord_11 rfl (lv_at hl 3 rfl) ?_
  refine lv_bipush (v := (14 : Int32)) hx hb d_P_moveWord_12 (by decide) ?_
  refine lv_icmp_eq (tgt := 23) hx hb d_P_moveWord_14 (by decide) (fun hh => absurd hh (by decide)) (fun _ => ?_)
  refine lv_iload_n hx hb d_P_moveWord_17 rfl (lv_at hl 3 rfl) ?_
  refine lv_bipush (v := (16 : Int32)) hx hb d_P_moveWord_18 (by decide) ?_
  refine lv_icmp_ne (tgt := 27) hx hb d_P_moveWord_20 (by decide) (fun hh => absurd hh (by decide)) (fun _ => ?_)
  refine lv_iconst (v := (1 : Int32)) hx hb d_P_moveWord_23 (by decide) ?_
  refine lv_goto (tgt := 28) hx hb d_P_moveWord_24 (by decide) ?_
  refine lv_istore (lv' := [(5, .int (1 : Int32)), (4, .int (s_P_amount a2)), (3, .int (s_P_fieldB a2)), (0, .ref xP), (1, .int (16 : Int32)), (2, .int a2)]) hx hb d_P_moveWord_28 hl (by decide) rfl (fun ls hl => ?_)
  refine lv_iload_n hx hb d_P_moveWord_30 rfl (lv_at hl 4 rfl) ?_
  refine lv_bipush (v := (15 : Int32)) hx hb d_P_moveWord_31 (by decide) ?_
  refine lv_icmp_lt (tgt := 40) hx hb d_P_moveWord_33 (by decide) (fun hh => absurd hh (by decide)) (fun _ => ?_)
  refine lv_iconst (v := (1 : Int32)) hx hb d_P_moveWord_36 (by decide) ?_
  refine lv_goto (tgt := 41) hx hb d_P_moveWord_37 (by decide) ?_
  refine lv_istore (lv' := [(6, .int (1 : Int32)), (5, .int (1 : Int32)), (4, .int (s_P_amount a2)), (3, .int (s_P_fieldB a2)), (0, .ref xP), (1, .int (16 : Int32)), (2, .int a2)]) hx hb d_P_moveWord_41 hl (by decide) rfl (fun ls hl => ?_)
  refine lv_iload hx hb d_P_moveWord_43 (lv_at hl 0 rfl) ?_
  refine lv_if_eq (tgt := 60) hx hb d_P_moveWord_45 (by decide) (fun hh => absurd hh (by decide)) (fun _ => ?_)
  refine lv_aload_n hx hb d_P_moveWord_48 rfl (lv_at hl 4 rfl) ?_
  refine zz_get (C := R_P) (T := F_P) (N := 10) (v := .ref xR) hx hb hts in_P hown hK hP 0 rfl rfl 1 (by decide) mw_22 rfl d_P_moveWord_49 ?_
  refine zz_get (C := R_R) (T := F_R) (N := 12) (v := .ref xA) hx hb hts in_R hown hK hP 3 rfl rfl 1 (by decide) mw_37 rfl d_P_moveWord_52 ?_
  refine lv_iload_n hx hb d_P_moveWord_55 rfl (lv_at hl 3 rfl) ?_
  refine va_iald hx hb hK hP 5 0 rfl rfl (in_fB _) d_P_moveWord_56 ?_
  refine lv_goto (tgt := 72) hx hb d_P_moveWord_57 (by decide) ?_
  refine lv_istore (lv' := [(7, .int (u_a (ix (s_P_fieldB a2)))), (6, .int (1 : Int32)), (5, .int (1 : Int32)), (4, .int (s_P_amount a2)), (3, .int (s_P_fieldB a2)), (0, .ref xP), (1, .int (16 : Int32)), (2, .int a2)]) hx hb d_P_moveWord_72 hl (by decide) rfl (fun ls hl => ?_)
  refine lv_aload_n hx hb d_P_moveWord_74 rfl (lv_at hl 5 rfl) ?_
  refine lv_iload hx hb d_P_moveWord_75 (lv_at hl 0 rfl) ?_
  refine lv_iload hx hb d_P_moveWord_77 (lv_at hl 2 rfl) ?_
  refine lv_if_eq (tgt := 86) hx hb d_P_moveWord_79 (by decide) (fun hh => absurd hh (by decide)) (fun _ => ?_)
  refine lv_iconst (v := (2 : Int32)) hx hb d_P_moveWord_82 (by decide) ?_
  refine lv_goto (tgt := 87) hx hb d_P_moveWord_83 (by decide) ?_
  refine zz_rVi (rest := []) ⟨hx, hb, hml, hown, hts⟩ (k_P_refuseWord l D cI _ xP xM xW xR xD xA xG xL xH xI xT u_z u_M u_r u_d u_a u_lo u_hi u_ri u_t (u_a (ix (s_P_fieldB a2))) (2 : Int32) hset) g_P_moveWord_P_refuseWord_188 nv_P_refuseWord ⟨⟨rfl, rfl⟩, Nat.le_of_ble_eq_true rfl, Nat.le_of_ble_eq_true rfl⟩ hK [0] rfl hP hD hS hA [0, 1, 2, 3, 4, 5, 6, 7, 8, 9, 10] rfl rfl 0 4 rfl rfl rfl rfl hl.1 (Nat.le_of_ble_eq_true rfl) d_P_moveWord_87 ⟨Nat.zero_le _, Nat.zero_le _⟩ (fun H locs hP hD hS => ?_)
  refine lv_istore (lv' := [(8, .int (s_P_refuseWord u_z u_M u_r u_d u_a u_lo u_hi u_ri u_t (u_a (ix (s_P_fieldB a2))) (2 : Int32))), (7, .int (u_a (ix (s_P_fieldB a2)))), (6, .int (1 : Int32)), (5, .int (1 : Int32)), (4, .int (s_P_amount a2)), (3, .int (s_P_fieldB a2)), (0, .ref xP), (1, .int (16 : Int32)), (2, .int a2)]) hx hb d_P_moveWord_90 hl (by decide) rfl (fun ls hl => ?_)
  refine lv_iload hx hb d_P_moveWord_92 (lv_at hl 0 rfl) ?_
  refine lv_if_eq (tgt := 100) hx hb d_P_moveWord_94 (by decide) (fun h1 => ?_) (fun h1 => ?_)
  ·
    refine lv_iload hx hb d_P_moveWord_100 (lv_at hl 3 rfl) ?_
    refine lv_if_eq (tgt := 129) hx hb d_P_moveWord_102 (by decide) (fun hh => absurd hh (by decide)) (fun _ => ?_)
    refine lv_aload_n hx hb d_P_moveWord_105 rfl (lv_at hl 6 rfl) ?_
    refine zz_get (C := R_P) (T := F_P) (N := 10) (v := .ref xM) hx hb hts in_P hown hK hP 0 rfl rfl 0 (by decide) mw_24 rfl d_P_moveWord_106 ?_
    refine lv_iload hx hb d_P_moveWord_109 (lv_at hl 1 rfl) ?_
    refine lv_aload_n hx hb d_P_moveWord_111 rfl (lv_at hl 6 rfl) ?_
    refine zz_get (C := R_P) (T := F_P) (N := 10) (v := .ref xR) hx hb hts in_P hown hK hP 0 rfl rfl 1 (by decide) mw_22 rfl d_P_moveWord_112 ?_
    refine zz_get (C := R_R) (T := F_R) (N := 12) (v := .ref xD) hx hb hts in_R hown hK hP 3 rfl rfl 0 (by decide) mw_31 rfl d_P_moveWord_115 ?_
    refine lv_iload_n hx hb d_P_moveWord_118 rfl (lv_at hl 8 rfl) ?_
    refine zz_cS0 (rest := [.ref xD, .int (u_a (ix (s_P_fieldB a2))), .ref xM]) ⟨hx, hb, hml, hown, hts⟩ (k_P_fieldA l D cI _ a2) g_P_moveWord_P_fieldA_175 nd_P_fieldA ⟨⟨rfl, rfl⟩, Nat.le_of_ble_eq_true rfl, Nat.le_of_ble_eq_true rfl⟩ hK hP hD hS hA rfl rfl hl.1 (Nat.le_of_ble_eq_true rfl) d_P_moveWord_119 ⟨Nat.zero_le _, Nat.zero_le _⟩ (fun H locs hP hD hS => ?_)
    refine va_iald hx hb hK hP 4 0 rfl rfl (in_fA _) d_P_moveWord_122 ?_
    refine zz_cVv (rest := []) (wr := [oP xP xM xR xG xT u_z, oR xR xD xA u_r, ar cI xD 8 u_d, ar cI xA 8 u_a, oG xG xL xH xI, ar cI xL 6 u_lo, ar cI xH 6 u_hi, ar cI xI 6 u_ri, oT xT u_t]) (w' := [oP xP xM xR xG xT u_z, oM xM xW, ar cI xW 512 (s_M_write u_M (u_a (ix (s_P_fieldB a2))) (u_d (ix (s_P_fieldA a2)))), oR xR xD xA u_r, ar cI xD 8 u_d, ar cI xA 8 u_a, oG xG xL xH xI, ar cI xL 6 u_lo, ar cI xH 6 u_hi, ar cI xI 6 u_ri, oT xT u_t]) ⟨hx, hb, hml, hown, hts⟩ (k_M_write l D cI _ xM xW u_M (u_a (ix (s_P_fieldB a2))) (u_d (ix (s_P_fieldA a2)))) g_P_moveWord_M_write_191 nv_M_write ⟨⟨rfl, rfl⟩, Nat.le_of_ble_eq_true rfl, Nat.le_of_ble_eq_true rfl⟩ hK [0] rfl hP hD hS hA [1, 2] [0, 3, 4, 5, 6, 7, 8, 9, 10] [0, 9, 10, 1, 2, 3, 4, 5, 6, 7, 8] rfl rfl rfl rfl (by decide) rfl rfl 1 0 rfl rfl rfl rfl hl.1 (Nat.le_of_ble_eq_true rfl) d_P_moveWord_123 ⟨Nat.zero_le _, Nat.zero_le _⟩ (fun H locs hP hD hS => ?_)
    refine lv_goto (tgt := 150) hx hb d_P_moveWord_126 (by decide) ?_
    show W p l e _ s m args below meth c _ _ _ _ Q (F0 m 150 ls _)
    refine lv_iload hx hb d_P_moveWord_150 (lv_at hl 2 rfl) ?_
    refine lv_if_eq (tgt := 169) hx hb d_P_moveWord_152 (by decide) (fun hh => absurd hh (by decide)) (fun _ => ?_)
    refine lv_aload_n hx hb d_P_moveWord_155 rfl (lv_at hl 6 rfl) ?_
    refine zz_get (C := R_P) (T := F_P) (N := 10) (v := .ref xR) hx hb hts in_P hown hK hP 0 rfl rfl 1 (by decide) mw_22 rfl d_P_moveWord_156 ?_
    refine zz_get (C := R_R) (T := F_R) (N := 12) (v := .ref xA) hx hb hts in_R hown hK hP 3 rfl rfl 1 (by decide) mw_37 rfl d_P_moveWord_159 ?_
    refine lv_iload_n hx hb d_P_moveWord_162 rfl (lv_at hl 5 rfl) ?_
    refine lv_dup2_11 hx hb d_P_moveWord_163 rfl rfl ?_
    refine va_iald hx hb hK hP 5 0 rfl rfl (in_fB _) d_P_moveWord_164 ?_
    refine lv_iload hx hb d_P_moveWord_165 (lv_at hl 4 rfl) ?_
    refine lv_iadd hx hb d_P_moveWord_167 ?_
    refine zz_iast (w' := [oP xP xM xR xG xT u_z, oM xM xW, ar cI xW 512 (s_M_write u_M (u_a (ix (s_P_fieldB a2))) (u_d (ix (s_P_fieldA a2)))), oR xR xD xA u_r, ar cI xD 8 u_d, ar cI xA 8 (upd u_a (ix (s_P_fieldB a2)) ((u_a (ix (s_P_fieldB a2))) + (s_P_amount a2))), oG xG xL xH xI, ar cI xL 6 u_lo, ar cI xH 6 u_hi, ar cI xI 6 u_ri, oT xT u_t]) hx hb hK hP hD hS 5 0 rfl rfl (in_fB _) d_P_moveWord_168 rfl (fun H locs hP hD hS => ?_)
    refine lv_iconst (v := (0 : Int32)) hx hb d_P_moveWord_169 (by decide) ?_
    have hsp : s_P_moveWord16 u_z u_M u_r u_d u_a u_lo u_hi u_ri u_t a2 = ((0 : Int32), (s_M_write u_M (u_a (ix (s_P_fieldB a2))) (u_d (ix (s_P_fieldA a2)))), upd u_a (ix (s_P_fieldB a2)) ((u_a (ix (s_P_fieldB a2))) + (s_P_amount a2))) := (by unfold s_P_moveWord16; rw [if_pos h1])
    rw [hsp] at hE
    exact hE _ _ _ _ hP hD hS d_P_moveWord_170
  ·
    refine lv_iload hx hb d_P_moveWord_97 (lv_at hl 0 rfl) ?_
    have hsp : s_P_moveWord16 u_z u_M u_r u_d u_a u_lo u_hi u_ri u_t a2 = ((s_P_refuseWord u_z u_M u_r u_d u_a u_lo u_hi u_ri u_t (u_a (ix (s_P_fieldB a2))) (2 : Int32)), u_M, u_a) := (by unfold s_P_moveWord16; rw [if_neg h1])
    rw [hsp] at hE
    exact hE _ _ _ _ hP hD hS d_P_moveWord_99
set_option maxHeartbeats 4000000 in
set_option maxRecDepth 100000 in
theorem k_Z_floorMod (l : Launch) (D : va_G) (cI : ClassId) (sz : Nat) (a1 : Int32) (a2 : Int32) (hne : ¬ a2 = 0) : zMi l y_Z_floorMod (.code y_Z_floorMod b_Z_floorMod 3 (some .int) :: wd) { frames := 0, cells := 0, slots := 0, locals := 0 } D classes [] [.int a1, .int a2] [] [] sz (s_Z_floorMod a1 a2) := by
  refine met_iF (by decide +kernel) (Nat.le_of_ble_eq_true rfl) rfl ?_
  intro p e s m args below meth c A Q ls hx hb hml hown hts hK hP hD hS hA hl hE
  have hl : lv_has ls 3 [(0, .int a1), (1, .int a2)] := hl
  have hown : s.vm.findClass R_Z = some m.cls := hown
  refine lv_iload_n hx hb d_Z_floorMod_0 rfl (lv_at hl 0 rfl) ?_
  refine lv_iload_n hx hb d_Z_floorMod_1 rfl (lv_at hl 1 rfl) ?_
  refine lv_irem hx hb d_Z_floorMod_2 hne ?_
  refine lv_istore_n (lv' := [(2, .int (a1 - a1 / a2 * a2)), (0, .int a1), (1, .int a2)]) hx hb d_Z_floorMod_3 rfl hl (by decide) rfl (fun ls hl => ?_)
  refine lv_iload_n hx hb d_Z_floorMod_4 rfl (lv_at hl 1 rfl) ?_
  refine lv_iload_n hx hb d_Z_floorMod_5 rfl (lv_at hl 2 rfl) ?_
  refine lv_ixor hx hb d_Z_floorMod_6 ?_
  refine lv_if_ge (tgt := 18) hx hb d_Z_floorMod_7 (by decide) (fun h1 => ?_) (fun h1 => ?_)
  ·
    refine lv_iload_n hx hb d_Z_floorMod_18 rfl (lv_at hl 0 rfl) ?_
    have hsp : s_Z_floorMod a1 a2 = (a1 - a1 / a2 * a2) := (by unfold s_Z_floorMod; rw [if_pos h1])
    rw [hsp] at hE
    exact hE _ _ _ _ hP hD hS d_Z_floorMod_19
  ·
    refine lv_iload_n hx hb d_Z_floorMod_10 rfl (lv_at hl 0 rfl) ?_
    refine lv_if_eq (tgt := 18) hx hb d_Z_floorMod_11 (by decide) (fun h2 => ?_) (fun h2 => ?_)
    ·
      refine lv_iload_n hx hb d_Z_floorMod_18 rfl (lv_at hl 0 rfl) ?_
      have hsp : s_Z_floorMod a1 a2 = (a1 - a1 / a2 * a2) := (by unfold s_Z_floorMod; rw [if_neg h1, if_pos h2])
      rw [hsp] at hE
      exact hE _ _ _ _ hP hD hS d_Z_floorMod_19
    ·
      refine lv_iload_n hx hb d_Z_floorMod_14 rfl (lv_at hl 0 rfl) ?_
      refine lv_iload_n hx hb d_Z_floorMod_15 rfl (lv_at hl 2 rfl) ?_
      refine lv_iadd hx hb d_Z_floorMod_16 ?_
      have hsp : s_Z_floorMod a1 a2 = ((a1 - a1 / a2 * a2) + a2) := (by unfold s_Z_floorMod; rw [if_neg h1, if_neg h2])
      rw [hsp] at hE
      exact hE _ _ _ _ hP hD hS d_Z_floorMod_17
set_option maxHeartbeats 4000000 in
set_option maxRecDepth 100000 in
theorem k_P_readRing (l : Launch) (D : va_G) (cI : ClassId) (sz : Nat) (xP : Nat) (xM : Nat) (xW : Nat) (xR : Nat) (xD : Nat) (xA : Nat) (xG : Nat) (xL : Nat) (xH : Nat) (xI : Nat) (xT : Nat) (u_z : Nat → Int32) (u_M : Nat → Int32) (u_r : Nat → Int32) (u_d : Nat → Int32) (u_a : Nat → Int32) (u_lo : Nat → Int32) (u_hi : Nat → Int32) (u_ri : Nat → Int32) (u_t : Nat → Int32) (a1 : Int32) (hset : u_r 5 = 0 ∨ u_r 5 = 1) : zMi l y_P_readRing (.code y_P_readRing b_P_readRing 8 (some .int) :: wd) { frames := 3, cells := 0, slots := 0, locals := 69 } D classes [(cI, .int)] [.ref xP, .int a1] [oP xP xM xR xG xT u_z, oM xM xW, ar cI xW 512 u_M, oR xR xD xA u_r, ar cI xD 8 u_d, ar cI xA 8 u_a, oG xG xL xH xI, ar cI xL 6 u_lo, ar cI xH 6 u_hi, ar cI xI 6 u_ri, oT xT u_t] [oP xP xM xR xG xT u_z, oM xM xW, ar cI xW 512 u_M, oR xR xD xA u_r, ar cI xD 8 ((s_P_readRing u_z u_M u_r u_d u_a u_lo u_hi u_ri u_t a1).2.1), ar cI xA 8 ((s_P_readRing u_z u_M u_r u_d u_a u_lo u_hi u_ri u_t a1).2.2), oG xG xL xH xI, ar cI xL 6 u_lo, ar cI xH 6 u_hi, ar cI xI 6 u_ri, oT xT u_t] sz (s_P_readRing u_z u_M u_r u_d u_a u_lo u_hi u_ri u_t a1).1 := by
  refine met_i (by decide) (Nat.le_of_ble_eq_true rfl) rfl ?_
  intro p e s m args below meth c A Q ls hx hb hml hown hts hK hP hD hS hA hl hE
  have hl : lv_has ls 8 [(0, .ref xP), (1, .int a1)] := hl
  have hown : s.vm.findClass R_P = some m.cls := hown
  refine lv_iload_n hx hb d_P_readRing_0 rfl (lv_at hl 1 rfl) ?_
  refine zz_cS0 (rest := []) ⟨hx, hb, hml, hown, hts⟩ (k_P_fieldB l D cI _ a1) g_P_readRing_P_fieldB_178 nd_P_fieldB ⟨⟨rfl, rfl⟩, Nat.le_of_ble_eq_true rfl, Nat.le_of_ble_eq_true rfl⟩ hK hP hD hS hA rfl rfl hl.1 (Nat.le_of_ble_eq_true rfl) d_P_readRing_1 ⟨Nat.zero_le _, Nat.zero_le _⟩ (fun H locs hP hD hS => ?_)
  refine lv_istore_n (lv' := [(2, .int (s_P_fieldB a1)), (0, .ref xP), (1, .int a1)]) hx hb d_P_readRing_4 rfl hl (by decide) rfl (fun ls hl => ?_)
  refine lv_iload_n hx hb d_P_readRing_5 rfl (lv_at hl 0 rfl) ?_
  refine lv_iconst (v := (1 : Int32)) hx hb d_P_readRing_6 (by decide) ?_
  refine lv_iadd hx hb d_P_readRing_7 ?_
  refine lv_bipush (v := (7 : Int32)) hx hb d_P_readRing_8 (by decide) ?_
  refine lv_iand hx hb d_P_readRing_10 ?_
  refine lv_istore_n (lv' := [(3, .int (((s_P_fieldB a1) + (1 : Int32)) &&& (7 : Int32))), (2, .int (s_P_fieldB a1)), (0, .ref xP), (1, .int a1)]) hx hb d_P_readRing_11 rfl hl (by decide) rfl (fun ls hl => ?_)
  refine lv_aload_n hx hb d_P_readRing_12 rfl (lv_at hl 2 rfl) ?_
  refine zz_get (C := R_P) (T := F_P) (N := 10) (v := .ref xR) hx hb hts in_P hown hK hP 0 rfl rfl 1 (by decide) mw_22 rfl d_P_readRing_13 ?_
  show W p l e _ s m args below meth c _ _ _ _ Q (F0 m 16 ls _)
  refine zz_get (C := R_R) (T := F_R) (N := 12) (v := .ref xA) hx hb hts in_R hown hK hP 3 rfl rfl 1 (by decide) mw_37 rfl d_P_readRing_16 ?_
  refine lv_iload_n hx hb d_P_readRing_19 rfl (lv_at hl 0 rfl) ?_
  refine va_iald hx hb hK hP 5 0 rfl rfl (zz_in7 _) d_P_readRing_20 ?_
  refine lv_ldc (v := (65535 : Int32)) hx hb hown (hts _ mw_38) d_P_readRing_21 ?_
  refine lv_iand hx hb d_P_readRing_23 ?_
  refine lv_istore (lv' := [(4, .int ((u_a (ix (((s_P_fieldB a1) + (1 : Int32)) &&& (7 : Int32)))) &&& (65535 : Int32))), (3, .int (((s_P_fieldB a1) + (1 : Int32)) &&& (7 : Int32))), (2, .int (s_P_fieldB a1)), (0, .ref xP), (1, .int a1)]) hx hb d_P_readRing_24 hl (by decide) rfl (fun ls hl => ?_)
  refine lv_aload_n hx hb d_P_readRing_26 rfl (lv_at hl 3 rfl) ?_
  refine zz_get (C := R_P) (T := F_P) (N := 10) (v := .ref xR) hx hb hts in_P hown hK hP 0 rfl rfl 1 (by decide) mw_22 rfl d_P_readRing_27 ?_
  refine zz_get (C := R_R) (T := F_R) (N := 12) (v := .ref xA) hx hb hts in_R hown hK hP 3 rfl rfl 1 (by decide) mw_37 rfl d_P_readRing_30 ?_
  refine lv_iload_n hx hb d_P_readRing_33 rfl (lv_at hl 1 rfl) ?_
  refine va_iald hx hb hK hP 5 0 rfl rfl (zz_in7 _) d_P_readRing_34 ?_
  refine lv_bipush (v := (16 : Int32)) hx hb d_P_readRing_35 (by decide) ?_
  show W p l e _ s m args below meth c _ _ _ _ Q (F0 m 37 ls _)
  refine lv_iushr hx hb d_P_readRing_37 rfl ?_
  refine lv_istore (lv' := [(5, .int (ushr (u_a (ix (((s_P_fieldB a1) + (1 : Int32)) &&& (7 : Int32)))) (16 : Int32))), (4, .int ((u_a (ix (((s_P_fieldB a1) + (1 : Int32)) &&& (7 : Int32)))) &&& (65535 : Int32))), (3, .int (((s_P_fieldB a1) + (1 : Int32)) &&& (7 : Int32))), (2, .int (s_P_fieldB a1)), (0, .ref xP), (1, .int a1)]) hx hb d_P_readRing_38 hl (by decide) rfl (fun ls hl => ?_)
  refine lv_iload hx hb d_P_readRing_40 (lv_at hl 0 rfl) ?_
  refine lv_if_eq (tgt := 52) hx hb d_P_readRing_42 (by decide) (fun h1 => ?_) (fun h1 => ?_)
  ·
    refine lv_sipush (v := (514 : Int32)) hx hb d_P_readRing_52 (by decide) ?_
    have hsp : s_P_readRing u_z u_M u_r u_d u_a u_lo u_hi u_ri u_t a1 = ((514 : Int32), u_d, u_a) := (by unfold s_P_readRing; rw [if_pos h1])
    rw [hsp] at hE
    exact hE _ _ _ _ hP hD hS d_P_readRing_55
  ·
    refine lv_iload hx hb d_P_readRing_45 (lv_at hl 1 rfl) ?_
    refine lv_iload hx hb d_P_readRing_47 (lv_at hl 0 rfl) ?_
    refine lv_icmp_lt (tgt := 56) hx hb d_P_readRing_49 (by decide) (fun h2 => ?_) (fun h2 => ?_)
    ·
      refine lv_aload_n hx hb d_P_readRing_56 rfl (lv_at hl 4 rfl) ?_
      refine zz_get (C := R_P) (T := F_P) (N := 10) (v := .ref xR) hx hb hts in_P hown hK hP 0 rfl rfl 1 (by decide) mw_22 rfl d_P_readRing_57 ?_
      refine zz_get (C := R_R) (T := F_R) (N := 12) (v := .ref xA) hx hb hts in_R hown hK hP 3 rfl rfl 1 (by decide) mw_37 rfl d_P_readRing_60 ?_
      refine lv_iload_n hx hb d_P_readRing_63 rfl (lv_at hl 3 rfl) ?_
      refine va_iald hx hb hK hP 5 0 rfl rfl (in_fB _) d_P_readRing_64 ?_
      refine lv_iload hx hb d_P_readRing_65 (lv_at hl 1 rfl) ?_
      refine lv_iadd hx hb d_P_readRing_67 ?_
      refine lv_istore (lv' := [(6, .int ((u_a (ix (s_P_fieldB a1))) + ((u_a (ix (((s_P_fieldB a1) + (1 : Int32)) &&& (7 : Int32)))) &&& (65535 : Int32)))), (5, .int (ushr (u_a (ix (((s_P_fieldB a1) + (1 : Int32)) &&& (7 : Int32)))) (16 : Int32))), (4, .int ((u_a (ix (((s_P_fieldB a1) + (1 : Int32)) &&& (7 : Int32)))) &&& (65535 : Int32))), (3, .int (((s_P_fieldB a1) + (1 : Int32)) &&& (7 : Int32))), (2, .int (s_P_fieldB a1)), (0, .ref xP), (1, .int a1)]) hx hb d_P_readRing_68 hl (by decide) rfl (fun ls hl => ?_)
      refine lv_aload_n hx hb d_P_readRing_70 rfl (lv_at hl 5 rfl) ?_
      refine lv_iload hx hb d_P_readRing_71 (lv_at hl 0 rfl) ?_
      refine lv_iconst (v := (1 : Int32)) hx hb d_P_readRing_73 (by decide) ?_
      show W p l e _ s m args below meth c _ _ _ _ Q (F0 m 74 ls _)
      refine zz_rVi (rest := []) ⟨hx, hb, hml, hown, hts⟩ (k_P_refuseWord l D cI _ xP xM xW xR xD xA xG xL xH xI xT u_z u_M u_r u_d u_a u_lo u_hi u_ri u_t ((u_a (ix (s_P_fieldB a1))) + ((u_a (ix (((s_P_fieldB a1) + (1 : Int32)) &&& (7 : Int32)))) &&& (65535 : Int32))) (1 : Int32) hset) g_P_readRing_P_refuseWord_188 nv_P_refuseWord ⟨⟨rfl, rfl⟩, Nat.le_of_ble_eq_true rfl, Nat.le_of_ble_eq_true rfl⟩ hK [0] rfl hP hD hS hA [0, 1, 2, 3, 4, 5, 6, 7, 8, 9, 10] rfl rfl 0 4 rfl rfl rfl rfl hl.1 (Nat.le_of_ble_eq_true rfl) d_P_readRing_74 ⟨Nat.zero_le _, Nat.zero_le _⟩ (fun H locs hP hD hS => ?_)
      refine lv_istore (lv' := [(7, .int (s_P_refuseWord u_z u_M u_r u_d u_a u_lo u_hi u_ri u_t ((u_a (ix (s_P_fieldB a1))) + ((u_a (ix (((s_P_fieldB a1) + (1 : Int32)) &&& (7 : Int32)))) &&& (65535 : Int32))) (1 : Int32))), (6, .int ((u_a (ix (s_P_fieldB a1))) + ((u_a (ix (((s_P_fieldB a1) + (1 : Int32)) &&& (7 : Int32)))) &&& (65535 : Int32)))), (5, .int (ushr (u_a (ix (((s_P_fieldB a1) + (1 : Int32)) &&& (7 : Int32)))) (16 : Int32))), (4, .int ((u_a (ix (((s_P_fieldB a1) + (1 : Int32)) &&& (7 : Int32)))) &&& (65535 : Int32))), (3, .int (((s_P_fieldB a1) + (1 : Int32)) &&& (7 : Int32))), (2, .int (s_P_fieldB a1)), (0, .ref xP), (1, .int a1)]) hx hb d_P_readRing_77 hl (by decide) rfl (fun ls hl => ?_)
      refine lv_iload hx hb d_P_readRing_79 (lv_at hl 0 rfl) ?_
      refine lv_if_eq (tgt := 87) hx hb d_P_readRing_81 (by decide) (fun h3 => ?_) (fun h3 => ?_)
      ·
        refine lv_aload_n hx hb d_P_readRing_87 rfl (lv_at hl 6 rfl) ?_
        refine zz_get (C := R_P) (T := F_P) (N := 10) (v := .ref xR) hx hb hts in_P hown hK hP 0 rfl rfl 1 (by decide) mw_22 rfl d_P_readRing_88 ?_
        refine zz_get (C := R_R) (T := F_R) (N := 12) (v := .ref xD) hx hb hts in_R hown hK hP 3 rfl rfl 0 (by decide) mw_31 rfl d_P_readRing_91 ?_
        refine lv_iload_n hx hb d_P_readRing_94 rfl (lv_at hl 7 rfl) ?_
        refine zz_cS0 (rest := [.ref xD]) ⟨hx, hb, hml, hown, hts⟩ (k_P_fieldA l D cI _ a1) g_P_readRing_P_fieldA_175 nd_P_fieldA ⟨⟨rfl, rfl⟩, Nat.le_of_ble_eq_true rfl, Nat.le_of_ble_eq_true rfl⟩ hK hP hD hS hA rfl rfl hl.1 (Nat.le_of_ble_eq_true rfl) d_P_readRing_95 ⟨Nat.zero_le _, Nat.zero_le _⟩ (fun H locs hP hD hS => ?_)
        refine lv_aload_n hx hb d_P_readRing_98 rfl (lv_at hl 6 rfl) ?_
        refine zz_get (C := R_P) (T := F_P) (N := 10) (v := .ref xM) hx hb hts in_P hown hK hP 0 rfl rfl 0 (by decide) mw_24 rfl d_P_readRing_99 ?_
        refine lv_iload hx hb d_P_readRing_102 (lv_at hl 1 rfl) ?_
        refine zz_rVi (rest := [.int (s_P_fieldA a1), .ref xD]) ⟨hx, hb, hml, hown, hts⟩ (k_M_read l D cI _ xM xW u_M ((u_a (ix (s_P_fieldB a1))) + ((u_a (ix (((s_P_fieldB a1) + (1 : Int32)) &&& (7 : Int32)))) &&& (65535 : Int32)))) g_P_readRing_M_read_70 nv_M_read ⟨⟨rfl, rfl⟩, Nat.le_of_ble_eq_true rfl, Nat.le_of_ble_eq_true rfl⟩ hK [0] rfl hP hD hS hA [1, 2] rfl rfl 1 0 rfl rfl rfl rfl hl.1 (Nat.le_of_ble_eq_true rfl) d_P_readRing_104 ⟨Nat.zero_le _, Nat.zero_le _⟩ (fun H locs hP hD hS => ?_)
        refine zz_iast (w' := [oP xP xM xR xG xT u_z, oM xM xW, ar cI xW 512 u_M, oR xR xD xA u_r, ar cI xD 8 (upd u_d (ix (s_P_fieldA a1)) (s_M_read u_M ((u_a (ix (s_P_fieldB a1))) + ((u_a (ix (((s_P_fieldB a1) + (1 : Int32)) &&& (7 : Int32)))) &&& (65535 : Int32))))), ar cI xA 8 u_a, oG xG xL xH xI, ar cI xL 6 u_lo, ar cI xH 6 u_hi, ar cI xI 6 u_ri, oT xT u_t]) hx hb hK hP hD hS 4 0 rfl rfl (in_fA _) d_P_readRing_107 rfl (fun H locs hP hD hS => ?_)
        refine lv_aload_n hx hb d_P_readRing_108 rfl (lv_at hl 6 rfl) ?_
        show W p l e _ s m args below meth c _ _ _ _ Q (F0 m 109 ls _)
        refine zz_get (C := R_P) (T := F_P) (N := 10) (v := .ref xR) hx hb hts in_P hown hK hP 0 rfl rfl 1 (by decide) mw_22 rfl d_P_readRing_109 ?_
        refine zz_get (C := R_R) (T := F_R) (N := 12) (v := .ref xA) hx hb hts in_R hown hK hP 3 rfl rfl 1 (by decide) mw_37 rfl d_P_readRing_112 ?_
        refine lv_iload_n hx hb d_P_readRing_115 rfl (lv_at hl 4 rfl) ?_
        refine lv_iload hx hb d_P_readRing_116 (lv_at hl 2 rfl) ?_
        refine lv_ldc (v := (65536 : Int32)) hx hb hown (hts _ mw_39) d_P_readRing_118 ?_
        refine lv_imul hx hb d_P_readRing_120 ?_
        refine lv_iload hx hb d_P_readRing_121 (lv_at hl 3 rfl) ?_
        refine lv_iload_n hx hb d_P_readRing_123 rfl (lv_at hl 7 rfl) ?_
        refine zz_cS0 (rest := [.int ((u_a (ix (((s_P_fieldB a1) + (1 : Int32)) &&& (7 : Int32)))) &&& (65535 : Int32)), .int ((ushr (u_a (ix (((s_P_fieldB a1) + (1 : Int32)) &&& (7 : Int32)))) (16 : Int32)) * (65536 : Int32)), .int (((s_P_fieldB a1) + (1 : Int32)) &&& (7 : Int32)), .ref xA]) ⟨hx, hb, hml, hown, hts⟩ (k_P_amount l D cI _ a1) g_P_readRing_P_amount_131 nd_P_amount ⟨⟨rfl, rfl⟩, Nat.le_of_ble_eq_true rfl, Nat.le_of_ble_eq_true rfl⟩ hK hP hD hS hA rfl rfl hl.1 (Nat.le_of_ble_eq_true rfl) d_P_readRing_124 ⟨Nat.zero_le _, Nat.zero_le _⟩ (fun H locs hP hD hS => ?_)
        refine lv_iadd hx hb d_P_readRing_127 ?_
        refine lv_iload hx hb d_P_readRing_128 (lv_at hl 2 rfl) ?_
        refine zz_cS0 (rest := [.int ((ushr (u_a (ix (((s_P_fieldB a1) + (1 : Int32)) &&& (7 : Int32)))) (16 : Int32)) * (65536 : Int32)), .int (((s_P_fieldB a1) + (1 : Int32)) &&& (7 : Int32)), .ref xA]) ⟨hx, hb, hml, hown, hts⟩ (k_Z_floorMod l D cI _ (((u_a (ix (((s_P_fieldB a1) + (1 : Int32)) &&& (7 : Int32)))) &&& (65535 : Int32)) + (s_P_amount a1)) (ushr (u_a (ix (((s_P_fieldB a1) + (1 : Int32)) &&& (7 : Int32)))) (16 : Int32)) h1) g_P_readRing_Z_floorMod_196 nd_Z_floorMod ⟨⟨rfl, rfl⟩, Nat.le_of_ble_eq_true rfl, Nat.le_of_ble_eq_true rfl⟩ hK hP hD hS hA rfl rfl hl.1 (Nat.le_of_ble_eq_true rfl) d_P_readRing_130 ⟨Nat.zero_le _, Nat.zero_le _⟩ (fun H locs hP hD hS => ?_)
        show W p l e _ s m args below meth c _ _ _ _ Q (F0 m 133 ls _)
        refine lv_iadd hx hb d_P_readRing_133 ?_
        refine zz_iast (w' := [oP xP xM xR xG xT u_z, oM xM xW, ar cI xW 512 u_M, oR xR xD xA u_r, ar cI xD 8 (upd u_d (ix (s_P_fieldA a1)) (s_M_read u_M ((u_a (ix (s_P_fieldB a1))) + ((u_a (ix (((s_P_fieldB a1) + (1 : Int32)) &&& (7 : Int32)))) &&& (65535 : Int32))))), ar cI xA 8 (upd u_a (ix (((s_P_fieldB a1) + (1 : Int32)) &&& (7 : Int32))) (((ushr (u_a (ix (((s_P_fieldB a1) + (1 : Int32)) &&& (7 : Int32)))) (16 : Int32)) * (65536 : Int32)) + (s_Z_floorMod (((u_a (ix (((s_P_fieldB a1) + (1 : Int32)) &&& (7 : Int32)))) &&& (65535 : Int32)) + (s_P_amount a1)) (ushr (u_a (ix (((s_P_fieldB a1) + (1 : Int32)) &&& (7 : Int32)))) (16 : Int32))))), oG xG xL xH xI, ar cI xL 6 u_lo, ar cI xH 6 u_hi, ar cI xI 6 u_ri, oT xT u_t]) hx hb hK hP hD hS 5 0 rfl rfl (zz_in7 _) d_P_readRing_134 rfl (fun H locs hP hD hS => ?_)
        refine lv_iconst (v := (0 : Int32)) hx hb d_P_readRing_135 (by decide) ?_
        have hsp : s_P_readRing u_z u_M u_r u_d u_a u_lo u_hi u_ri u_t a1 = ((0 : Int32), upd u_d (ix (s_P_fieldA a1)) (s_M_read u_M ((u_a (ix (s_P_fieldB a1))) + ((u_a (ix (((s_P_fieldB a1) + (1 : Int32)) &&& (7 : Int32)))) &&& (65535 : Int32)))), upd u_a (ix (((s_P_fieldB a1) + (1 : Int32)) &&& (7 : Int32))) (((ushr (u_a (ix (((s_P_fieldB a1) + (1 : Int32)) &&& (7 : Int32)))) (16 : Int32)) * (65536 : Int32)) + (s_Z_floorMod (((u_a (ix (((s_P_fieldB a1) + (1 : Int32)) &&& (7 : Int32)))) &&& (65535 : Int32)) + (s_P_amount a1)) (ushr (u_a (ix (((s_P_fieldB a1) + (1 : Int32)) &&& (7 : Int32)))) (16 : Int32))))) := (by unfold s_P_readRing; rw [if_neg h1, if_pos h2, if_pos h3])
        rw [hsp] at hE
        exact hE _ _ _ _ hP hD hS d_P_readRing_136
      ·
        refine lv_iload hx hb d_P_readRing_84 (lv_at hl 0 rfl) ?_
        have hsp : s_P_readRing u_z u_M u_r u_d u_a u_lo u_hi u_ri u_t a1 = ((s_P_refuseWord u_z u_M u_r u_d u_a u_lo u_hi u_ri u_t ((u_a (ix (s_P_fieldB a1))) + ((u_a (ix (((s_P_fieldB a1) + (1 : Int32)) &&& (7 : Int32)))) &&& (65535 : Int32))) (1 : Int32)), u_d, u_a) := (by unfold s_P_readRing; rw [if_neg h1, if_pos h2, if_neg h3])
        rw [hsp] at hE
        exact hE _ _ _ _ hP hD hS d_P_readRing_86
    ·
      refine lv_sipush (v := (514 : Int32)) hx hb d_P_readRing_52 (by decide) ?_
      have hsp : s_P_readRing u_z u_M u_r u_d u_a u_lo u_hi u_ri u_t a1 = ((514 : Int32), u_d, u_a) := (by unfold s_P_readRing; rw [if_neg h1, if_neg h2])
      rw [hsp] at hE
      exact hE _ _ _ _ hP hD hS d_P_readRing_55
set_option maxHeartbeats 4000000 in
set_option maxRecDepth 100000 in
theorem k_P_jump18 (l : Launch) (D : va_G) (cI : ClassId) (sz : Nat) (xP : Nat) (xM : Nat) (xW : Nat) (xR : Nat) (xD : Nat) (xA : Nat) (xG : Nat) (xL : Nat) (xH : Nat) (xI : Nat) (xT : Nat) (u_z : Nat → Int32) (u_M : Nat → Int32) (u_r : Nat → Int32) (u_d : Nat → Int32) (u_a : Nat → Int32) (u_lo : Nat → Int32) (u_hi : Nat → Int32) (u_ri : Nat → Int32) (u_t : Nat → Int32) (a2 : Int32) : zMi l y_P_jump (.code y_P_jump b_P_jump 6 (some .int) :: wd) { frames := 1, cells := 0, slots := 0, locals := 20 } D classes [(cI, .int)] [.ref xP, .int (18 : Int32), .int a2] [oP xP xM xR xG xT u_z, oM xM xW, ar cI xW 512 u_M, oR xR xD xA u_r, ar cI xD 8 u_d, ar cI xA 8 u_a, oG xG xL xH xI, ar cI xL 6 u_lo, ar cI xH 6 u_hi, ar cI xI 6 u_ri, oT xT u_t] [oP xP xM xR xG xT u_z, oM xM xW, ar cI xW 512 u_M, oR xR xD xA ((s_P_jump18 u_z u_M u_r u_d u_a u_lo u_hi u_ri u_t a2).2), ar cI xD 8 u_d, ar cI xA 8 u_a, oG xG xL xH xI, ar cI xL 6 u_lo, ar cI xH 6 u_hi, ar cI xI 6 u_ri, oT xT u_t] sz (s_P_jump18 u_z u_M u_r u_d u_a u_lo u_hi u_ri u_t a2).1 := by
  refine met_i (by decide) (Nat.le_of_ble_eq_true rfl) rfl ?_
  intro p e s m args below meth c A Q ls hx hb hml hown hts hK hP hD hS hA hl hE
  have hl : lv_has ls 6 [(0, .ref xP), (1, .int (18 : Int32)), (2, .int a2)] := hl
  have hown : s.vm.findClass R_P = some m.cls := hown
  refine lv_aload_n hx hb d_P_jump_0 rfl (lv_at hl 0 rfl) ?_
  refine zz_get (C := R_P) (T := F_P) (N := 10) (v := .ref xR) hx hb hts in_P hown hK hP 0 rfl rfl 1 (by decide) mw_22 rfl d_P_jump_1 ?_
  refine zz_get (C := R_R) (T := F_R) (N := 12) (v := .ref xD) hx hb hts in_R hown hK hP 3 rfl rfl 0 (by decide) mw_31 rfl d_P_jump_4 ?_
  refine lv_iload_n hx hb d_P_jump_7 rfl (lv_at hl 2 rfl) ?_
  refine zz_cS0 (rest := [.ref xD]) ⟨hx, hb, hml, hown, hts⟩ (k_P_fieldA l D cI _ a2) g_P_jump_P_fieldA_175 nd_P_fieldA ⟨⟨rfl, rfl⟩, Nat.le_of_ble_eq_true rfl, Nat.le_of_ble_eq_true rfl⟩ hK hP hD hS hA rfl rfl hl.1 (Nat.le_of_ble_eq_true rfl) d_P_jump_8 ⟨Nat.zero_le _, Nat.zero_le _⟩ (fun H locs hP hD hS => ?_)
  refine va_iald hx hb hK hP 4 0 rfl rfl (in_fA _) d_P_jump_11 ?_
  refine lv_istore_n (lv' := [(3, .int (u_d (ix (s_P_fieldA a2)))), (0, .ref xP), (1, .int (18 : Int32)), (2, .int a2)]) hx hb d_P_jump_12 rfl hl (by decide) rfl (fun ls hl => ?_)
  refine lv_aload_n hx hb d_P_jump_13 rfl (lv_at hl 1 rfl) ?_
  refine zz_get (C := R_P) (T := F_P) (N := 10) (v := .ref xR) hx hb hts in_P hown hK hP 0 rfl rfl 1 (by decide) mw_22 rfl d_P_jump_14 ?_
  refine zz_get (C := R_R) (T := F_R) (N := 12) (v := .ref xD) hx hb hts in_R hown hK hP 3 rfl rfl 0 (by decide) mw_31 rfl d_P_jump_17 ?_
  refine lv_iload_n hx hb d_P_jump_20 rfl (lv_at hl 3 rfl) ?_
  show W p l e _ s m args below meth c _ _ _ _ Q (F0 m 21 ls _)
  refine zz_cS0 (rest := [.ref xD]) ⟨hx, hb, hml, hown, hts⟩ (k_P_fieldB l D cI _ a2) g_P_jump_P_fieldB_178 nd_P_fieldB ⟨⟨rfl, rfl⟩, Nat.le_of_ble_eq_true rfl, Nat.le_of_ble_eq_true rfl⟩ hK hP hD hS hA rfl rfl hl.1 (Nat.le_of_ble_eq_true rfl) d_P_jump_21 ⟨Nat.zero_le _, Nat.zero_le _⟩ (fun H locs hP hD hS => ?_)
  refine va_iald hx hb hK hP 4 0 rfl rfl (in_fB _) d_P_jump_24 ?_
  refine lv_istore (lv' := [(4, .int (u_d (ix (s_P_fieldB a2)))), (3, .int (u_d (ix (s_P_fieldA a2)))), (0, .ref xP), (1, .int (18 : Int32)), (2, .int a2)]) hx hb d_P_jump_25 hl (by decide) rfl (fun ls hl => ?_)
  refine lv_iload_n hx hb d_P_jump_27 rfl (lv_at hl 3 rfl) ?_
  refine lv_bipush (v := (18 : Int32)) hx hb d_P_jump_28 (by decide) ?_
  refine lv_icmp_eq (tgt := 52) hx hb d_P_jump_30 (by decide) (fun _ => ?_) (fun hh => absurd hh (by decide))
  refine lv_iconst (v := (1 : Int32)) hx hb d_P_jump_52 (by decide) ?_
  refine lv_goto (tgt := 57) hx hb d_P_jump_53 (by decide) ?_
  refine lv_istore (lv' := [(5, .int (1 : Int32)), (4, .int (u_d (ix (s_P_fieldB a2)))), (3, .int (u_d (ix (s_P_fieldA a2)))), (0, .ref xP), (1, .int (18 : Int32)), (2, .int a2)]) hx hb d_P_jump_57 hl (by decide) rfl (fun ls hl => ?_)
  refine lv_iload hx hb d_P_jump_59 (lv_at hl 0 rfl) ?_
  refine lv_if_ne (tgt := 66) hx hb d_P_jump_61 (by decide) (fun _ => ?_) (fun hh => absurd hh (by decide))
  refine lv_aload_n hx hb d_P_jump_66 rfl (lv_at hl 3 rfl) ?_
  refine zz_get (C := R_P) (T := F_P) (N := 10) (v := .ref xR) hx hb hts in_P hown hK hP 0 rfl rfl 1 (by decide) mw_22 rfl d_P_jump_67 ?_
  refine lv_dup hx hb d_P_jump_70 rfl ?_
  refine zz_get (C := R_R) (T := F_R) (N := 12) (v := .int (u_r 0)) hx hb hts in_R hown hK hP 3 rfl rfl 2 (by decide) mw_28 rfl d_P_jump_71 ?_
  refine lv_iload_n hx hb d_P_jump_74 rfl (lv_at hl 5 rfl) ?_
  refine zz_cS0 (rest := [.int (u_r 0), .ref xR]) ⟨hx, hb, hml, hown, hts⟩ (k_P_amount l D cI _ a2) g_P_jump_P_amount_131 nd_P_amount ⟨⟨rfl, rfl⟩, Nat.le_of_ble_eq_true rfl, Nat.le_of_ble_eq_true rfl⟩ hK hP hD hS hA rfl rfl hl.1 (Nat.le_of_ble_eq_true rfl) d_P_jump_75 ⟨Nat.zero_le _, Nat.zero_le _⟩ (fun H locs hP hD hS => ?_)
  refine lv_iadd hx hb d_P_jump_78 ?_
  refine zz_put (C := R_R) (T := F_R) (N := 12) (w' := [oP xP xM xR xG xT u_z, oM xM xW, ar cI xW 512 u_M, oR xR xD xA (upd u_r 0 ((u_r 0) + (s_P_amount a2))), ar cI xD 8 u_d, ar cI xA 8 u_a, oG xG xL xH xI, ar cI xL 6 u_lo, ar cI xH 6 u_hi, ar cI xI 6 u_ri, oT xT u_t]) hx hb hts in_R ty_R ty_R_ok n_R hown hK hP hD hS 3 rfl rfl 2 (by decide) mw_28 rfl rfl rfl (Nat.le_of_ble_eq_true rfl) d_P_jump_79 rfl (fun H locs hP hD hS => ?_)
  refine lv_iconst (v := (1 : Int32)) hx hb d_P_jump_82 (by decide) ?_
  have hsp : s_P_jump18 u_z u_M u_r u_d u_a u_lo u_hi u_ri u_t a2 = ((1 : Int32), upd u_r 0 ((u_r 0) + (s_P_amount a2))) := rfl
  rw [hsp] at hE
  exact hE _ _ _ _ hP hD hS d_P_jump_83
set_option maxHeartbeats 4000000 in
set_option maxRecDepth 100000 in
theorem k_P_jump19 (l : Launch) (D : va_G) (cI : ClassId) (sz : Nat) (xP : Nat) (xM : Nat) (xW : Nat) (xR : Nat) (xD : Nat) (xA : Nat) (xG : Nat) (xL : Nat) (xH : Nat) (xI : Nat) (xT : Nat) (u_z : Nat → Int32) (u_M : Nat → Int32) (u_r : Nat → Int32) (u_d : Nat → Int32) (u_a : Nat → Int32) (u_lo : Nat → Int32) (u_hi : Nat → Int32) (u_ri : Nat → Int32) (u_t : Nat → Int32) (a2 : Int32) : zMi l y_P_jump (.code y_P_jump b_P_jump 6 (some .int) :: wd) { frames := 1, cells := 0, slots := 0, locals := 20 } D classes [(cI, .int)] [.ref xP, .int (19 : Int32), .int a2] [oP xP xM xR xG xT u_z, oM xM xW, ar cI xW 512 u_M, oR xR xD xA u_r, ar cI xD 8 u_d, ar cI xA 8 u_a, oG xG xL xH xI, ar cI xL 6 u_lo, ar cI xH 6 u_hi, ar cI xI 6 u_ri, oT xT u_t] [oP xP xM xR xG xT u_z, oM xM xW, ar cI xW 512 u_M, oR xR xD xA ((s_P_jump19 u_z u_M u_r u_d u_a u_lo u_hi u_ri u_t a2).2), ar cI xD 8 u_d, ar cI xA 8 u_a, oG xG xL xH xI, ar cI xL 6 u_lo, ar cI xH 6 u_hi, ar cI xI 6 u_ri, oT xT u_t] sz (s_P_jump19 u_z u_M u_r u_d u_a u_lo u_hi u_ri u_t a2).1 := by
  refine met_i (by decide) (Nat.le_of_ble_eq_true rfl) rfl ?_
  intro p e s m args below meth c A Q ls hx hb hml hown hts hK hP hD hS hA hl hE
  have hl : lv_has ls 6 [(0, .ref xP), (1, .int (19 : Int32)), (2, .int a2)] := hl
  have hown : s.vm.findClass R_P = some m.cls := hown
  refine lv_aload_n hx hb d_P_jump_0 rfl (lv_at hl 0 rfl) ?_
  refine zz_get (C := R_P) (T := F_P) (N := 10) (v := .ref xR) hx hb hts in_P hown hK hP 0 rfl rfl 1 (by decide) mw_22 rfl d_P_jump_1 ?_
  refine zz_get (C := R_R) (T := F_R) (N := 12) (v := .ref xD) hx hb hts in_R hown hK hP 3 rfl rfl 0 (by decide) mw_31 rfl d_P_jump_4 ?_
  refine lv_iload_n hx hb d_P_jump_7 rfl (lv_at hl 2 rfl) ?_
  refine zz_cS0 (rest := [.ref xD]) ⟨hx, hb, hml, hown, hts⟩ (k_P_fieldA l D cI _ a2) g_P_jump_P_fieldA_175 nd_P_fieldA ⟨⟨rfl, rfl⟩, Nat.le_of_ble_eq_true rfl, Nat.le_of_ble_eq_true rfl⟩ hK hP hD hS hA rfl rfl hl.1 (Nat.le_of_ble_eq_true rfl) d_P_jump_8 ⟨Nat.zero_le _, Nat.zero_le _⟩ (fun H locs hP hD hS => ?_)
  refine va_iald hx hb hK hP 4 0 rfl rfl (in_fA _) d_P_jump_11 ?_
  refine lv_istore_n (lv' := [(3, .int (u_d (ix (s_P_fieldA a2)))), (0, .ref xP), (1, .int (19 : Int32)), (2, .int a2)]) hx hb d_P_jump_12 rfl hl (by decide) rfl (fun ls hl => ?_)
  refine lv_aload_n hx hb d_P_jump_13 rfl (lv_at hl 1 rfl) ?_
  refine zz_get (C := R_P) (T := F_P) (N := 10) (v := .ref xR) hx hb hts in_P hown hK hP 0 rfl rfl 1 (by decide) mw_22 rfl d_P_jump_14 ?_
  refine zz_get (C := R_R) (T := F_R) (N := 12) (v := .ref xD) hx hb hts in_R hown hK hP 3 rfl rfl 0 (by decide) mw_31 rfl d_P_jump_17 ?_
  refine lv_iload_n hx hb d_P_jump_20 rfl (lv_at hl 3 rfl) ?_
  show W p l e _ s m args below meth c _ _ _ _ Q (F0 m 21 ls _)
  refine zz_cS0 (rest := [.ref xD]) ⟨hx, hb, hml, hown, hts⟩ (k_P_fieldB l D cI _ a2) g_P_jump_P_fieldB_178 nd_P_fieldB ⟨⟨rfl, rfl⟩, Nat.le_of_ble_eq_true rfl, Nat.le_of_ble_eq_true rfl⟩ hK hP hD hS hA rfl rfl hl.1 (Nat.le_of_ble_eq_true rfl) d_P_jump_21 ⟨Nat.zero_le _, Nat.zero_le _⟩ (fun H locs hP hD hS => ?_)
  refine va_iald hx hb hK hP 4 0 rfl rfl (in_fB _) d_P_jump_24 ?_
  refine lv_istore (lv' := [(4, .int (u_d (ix (s_P_fieldB a2)))), (3, .int (u_d (ix (s_P_fieldA a2)))), (0, .ref xP), (1, .int (19 : Int32)), (2, .int a2)]) hx hb d_P_jump_25 hl (by decide) rfl (fun ls hl => ?_)
  refine lv_iload_n hx hb d_P_jump_27 rfl (lv_at hl 3 rfl) ?_
  refine lv_bipush (v := (18 : Int32)) hx hb d_P_jump_28 (by decide) ?_
  refine lv_icmp_eq (tgt := 52) hx hb d_P_jump_30 (by decide) (fun hh => absurd hh (by decide)) (fun _ => ?_)
  refine lv_iload_n hx hb d_P_jump_33 rfl (lv_at hl 3 rfl) ?_
  refine lv_bipush (v := (19 : Int32)) hx hb d_P_jump_34 (by decide) ?_
  refine lv_icmp_ne (tgt := 46) hx hb d_P_jump_36 (by decide) (fun hh => absurd hh (by decide)) (fun _ => ?_)
  refine lv_iload_n hx hb d_P_jump_39 rfl (lv_at hl 1 rfl) ?_
  refine lv_if_ne (tgt := 56) hx hb d_P_jump_40 (by decide) (fun h1 => ?_) (fun h1 => ?_)
  ·
    refine lv_iconst (v := (0 : Int32)) hx hb d_P_jump_56 (by decide) ?_
    refine lv_istore (lv' := [(5, .int (0 : Int32)), (4, .int (u_d (ix (s_P_fieldB a2)))), (3, .int (u_d (ix (s_P_fieldA a2)))), (0, .ref xP), (1, .int (19 : Int32)), (2, .int a2)]) hx hb d_P_jump_57 hl (by decide) rfl (fun ls hl => ?_)
    refine lv_iload hx hb d_P_jump_59 (lv_at hl 0 rfl) ?_
    refine lv_if_ne (tgt := 66) hx hb d_P_jump_61 (by decide) (fun hh => absurd hh (by decide)) (fun _ => ?_)
    refine lv_iconst (v := (0 : Int32)) hx hb d_P_jump_64 (by decide) ?_
    have hsp : s_P_jump19 u_z u_M u_r u_d u_a u_lo u_hi u_ri u_t a2 = ((0 : Int32), u_r) := (by unfold s_P_jump19; rw [if_neg h1])
    rw [hsp] at hE
    exact hE _ _ _ _ hP hD hS d_P_jump_65
  ·
    refine lv_goto (tgt := 52) hx hb d_P_jump_43 (by decide) ?_
    refine lv_iconst (v := (1 : Int32)) hx hb d_P_jump_52 (by decide) ?_
    refine lv_goto (tgt := 57) hx hb d_P_jump_53 (by decide) ?_
    refine lv_istore (lv' := [(5, .int (1 : Int32)), (4, .int (u_d (ix (s_P_fieldB a2)))), (3, .int (u_d (ix (s_P_fieldA a2)))), (0, .ref xP), (1, .int (19 : Int32)), (2, .int a2)]) hx hb d_P_jump_57 hl (by decide) rfl (fun ls hl => ?_)
    refine lv_iload hx hb d_P_jump_59 (lv_at hl 0 rfl) ?_
    refine lv_if_ne (tgt := 66) hx hb d_P_jump_61 (by decide) (fun _ => ?_) (fun hh => absurd hh (by decide))
    refine lv_aload_n hx hb d_P_jump_66 rfl (lv_at hl 3 rfl) ?_
    refine zz_get (C := R_P) (T := F_P) (N := 10) (v := .ref xR) hx hb hts in_P hown hK hP 0 rfl rfl 1 (by decide) mw_22 rfl d_P_jump_67 ?_
    refine lv_dup hx hb d_P_jump_70 rfl ?_
    refine zz_get (C := R_R) (T := F_R) (N := 12) (v := .int (u_r 0)) hx hb hts in_R hown hK hP 3 rfl rfl 2 (by decide) mw_28 rfl d_P_jump_71 ?_
    refine lv_iload_n hx hb d_P_jump_74 rfl (lv_at hl 5 rfl) ?_
    refine zz_cS0 (rest := [.int (u_r 0), .ref xR]) ⟨hx, hb, hml, hown, hts⟩ (k_P_amount l D cI _ a2) g_P_jump_P_amount_131 nd_P_amount ⟨⟨rfl, rfl⟩, Nat.le_of_ble_eq_true rfl, Nat.le_of_ble_eq_true rfl⟩ hK hP hD hS hA rfl rfl hl.1 (Nat.le_of_ble_eq_true rfl) d_P_jump_75 ⟨Nat.zero_le _, Nat.zero_le _⟩ (fun H locs hP hD hS => ?_)
    refine lv_iadd hx hb d_P_jump_78 ?_
    refine zz_put (C := R_R) (T := F_R) (N := 12) (w' := [oP xP xM xR xG xT u_z, oM xM xW, ar cI xW 512 u_M, oR xR xD xA (upd u_r 0 ((u_r 0) + (s_P_amount a2))), ar cI xD 8 u_d, ar cI xA 8 u_a, oG xG xL xH xI, ar cI xL 6 u_lo, ar cI xH 6 u_hi, ar cI xI 6 u_ri, oT xT u_t]) hx hb hts in_R ty_R ty_R_ok n_R hown hK hP hD hS 3 rfl rfl 2 (by decide) mw_28 rfl rfl rfl (Nat.le_of_ble_eq_true rfl) d_P_jump_79 rfl (fun H locs hP hD hS => ?_)
    refine lv_iconst (v := (1 : Int32)) hx hb d_P_jump_82 (by decide) ?_
    have hsp : s_P_jump19 u_z u_M u_r u_d u_a u_lo u_hi u_ri u_t a2 = ((1 : Int32), upd u_r 0 ((u_r 0) + (s_P_amount a2))) := (by unfold s_P_jump19; rw [if_pos h1])
    rw [hsp] at hE
    exact hE _ _ _ _ hP hD hS d_P_jump_83
set_option maxHeartbeats 4000000 in
set_option maxRecDepth 100000 in
theorem k_P_jump20 (l : Launch) (D : va_G) (cI : ClassId) (sz : Nat) (xP : Nat) (xM : Nat) (xW : Nat) (xR : Nat) (xD : Nat) (xA : Nat) (xG : Nat) (xL : Nat) (xH : Nat) (xI : Nat) (xT : Nat) (u_z : Nat → Int32) (u_M : Nat → Int32) (u_r : Nat → Int32) (u_d : Nat → Int32) (u_a : Nat → Int32) (u_lo : Nat → Int32) (u_hi : Nat → Int32) (u_ri : Nat → Int32) (u_t : Nat → Int32) (a2 : Int32) : zMi l y_P_jump (.code y_P_jump b_P_jump 6 (some .int) :: wd) { frames := 1, cells := 0, slots := 0, locals := 20 } D classes [(cI, .int)] [.ref xP, .int (20 : Int32), .int a2] [oP xP xM xR xG xT u_z, oM xM xW, ar cI xW 512 u_M, oR xR xD xA u_r, ar cI xD 8 u_d, ar cI xA 8 u_a, oG xG xL xH xI, ar cI xL 6 u_lo, ar cI xH 6 u_hi, ar cI xI 6 u_ri, oT xT u_t] [oP xP xM xR xG xT u_z, oM xM xW, ar cI xW 512 u_M, oR xR xD xA ((s_P_jump20 u_z u_M u_r u_d u_a u_lo u_hi u_ri u_t a2).2), ar cI xD 8 u_d, ar cI xA 8 u_a, oG xG xL xH xI, ar cI xL 6 u_lo, ar cI xH 6 u_hi, ar cI xI 6 u_ri, oT xT u_t] sz (s_P_jump20 u_z u_M u_r u_d u_a u_lo u_hi u_ri u_t a2).1 := by
  refine met_i (by decide) (Nat.le_of_ble_eq_true rfl) rfl ?_
  intro p e s m args below meth c A Q ls hx hb hml hown hts hK hP hD hS hA hl hE
  have hl : lv_has ls 6 [(0, .ref xP), (1, .int (20 : Int32)), (2, .int a2)] := hl
  have hown : s.vm.findClass R_P = some m.cls := hown
  refine lv_aload_n hx hb d_P_jump_0 rfl (lv_at hl 0 rfl) ?_
  refine zz_get (C := R_P) (T := F_P) (N := 10) (v := .ref xR) hx hb hts in_P hown hK hP 0 rfl rfl 1 (by decide) mw_22 rfl d_P_jump_1 ?_
  refine zz_get (C := R_R) (T := F_R) (N := 12) (v := .ref xD) hx hb hts in_R hown hK hP 3 rfl rfl 0 (by decide) mw_31 rfl d_P_jump_4 ?_
  refine lv_iload_n hx hb d_P_jump_7 rfl (lv_at hl 2 rfl) ?_
  refine zz_cS0 (rest := [.ref xD]) ⟨hx, hb, hml, hown, hts⟩ (k_P_fieldA l D cI _ a2) g_P_jump_P_fieldA_175 nd_P_fieldA ⟨⟨rfl, rfl⟩, Nat.le_of_ble_eq_true rfl, Nat.le_of_ble_eq_true rfl⟩ hK hP hD hS hA rfl rfl hl.1 (Nat.le_of_ble_eq_true rfl) d_P_jump_8 ⟨Nat.zero_le _, Nat.zero_le _⟩ (fun H locs hP hD hS => ?_)
  refine va_iald hx hb hK hP 4 0 rfl rfl (in_fA _) d_P_jump_11 ?_
  refine lv_istore_n (lv' := [(3, .int (u_d (ix (s_P_fieldA a2)))), (0, .ref xP), (1, .int (20 : Int32)), (2, .int a2)]) hx hb d_P_jump_12 rfl hl (by decide) rfl (fun ls hl => ?_)
  refine lv_aload_n hx hb d_P_jump_13 rfl (lv_at hl 1 rfl) ?_
  refine zz_get (C := R_P) (T := F_P) (N := 10) (v := .ref xR) hx hb hts in_P hown hK hP 0 rfl rfl 1 (by decide) mw_22 rfl d_P_jump_14 ?_
  refine zz_get (C := R_R) (T := F_R) (N := 12) (v := .ref xD) hx hb hts in_R hown hK hP 3 rfl rfl 0 (by decide) mw_31 rfl d_P_jump_17 ?_
  refine lv_iload_n hx hb d_P_jump_20 rfl (lv_at hl 3 rfl) ?_
  show W p l e _ s m args below meth c _ _ _ _ Q (F0 m 21 ls _)
  refine zz_cS0 (rest := [.ref xD]) ⟨hx, hb, hml, hown, hts⟩ (k_P_fieldB l D cI _ a2) g_P_jump_P_fieldB_178 nd_P_fieldB ⟨⟨rfl, rfl⟩, Nat.le_of_ble_eq_true rfl, Nat.le_of_ble_eq_true rfl⟩ hK hP hD hS hA rfl rfl hl.1 (Nat.le_of_ble_eq_true rfl) d_P_jump_21 ⟨Nat.zero_le _, Nat.zero_le _⟩ (fun H locs hP hD hS => ?_)
  refine va_iald hx hb hK hP 4 0 rfl rfl (in_fB _) d_P_jump_24 ?_
  refine lv_istore (lv' := [(4, .int (u_d (ix (s_P_fieldB a2)))), (3, .int (u_d (ix (s_P_fieldA a2)))), (0, .ref xP), (1, .int (20 : Int32)), (2, .int a2)]) hx hb d_P_jump_25 hl (by decide) rfl (fun ls hl => ?_)
  refine lv_iload_n hx hb d_P_jump_27 rfl (lv_at hl 3 rfl) ?_
  refine lv_bipush (v := (18 : Int32)) hx hb d_P_jump_28 (by decide) ?_
  refine lv_icmp_eq (tgt := 52) hx hb d_P_jump_30 (by decide) (fun hh => absurd hh (by decide)) (fun _ => ?_)
  refine lv_iload_n hx hb d_P_jump_33 rfl (lv_at hl 3 rfl) ?_
  refine lv_bipush (v := (19 : Int32)) hx hb d_P_jump_34 (by decide) ?_
  refine lv_icmp_ne (tgt := 46) hx hb d_P_jump_36 (by decide) (fun _ => ?_) (fun hh => absurd hh (by decide))
  refine lv_iload_n hx hb d_P_jump_46 rfl (lv_at hl 1 rfl) ?_
  refine lv_iload hx hb d_P_jump_47 (lv_at hl 0 rfl) ?_
  refine lv_icmp_ge (tgt := 56) hx hb d_P_jump_49 (by decide) (fun h1 => ?_) (fun h1 => ?_)
  ·
    refine lv_iconst (v := (0 : Int32)) hx hb d_P_jump_56 (by decide) ?_
    refine lv_istore (lv' := [(5, .int (0 : Int32)), (4, .int (u_d (ix (s_P_fieldB a2)))), (3, .int (u_d (ix (s_P_fieldA a2)))), (0, .ref xP), (1, .int (20 : Int32)), (2, .int a2)]) hx hb d_P_jump_57 hl (by decide) rfl (fun ls hl => ?_)
    refine lv_iload hx hb d_P_jump_59 (lv_at hl 0 rfl) ?_
    refine lv_if_ne (tgt := 66) hx hb d_P_jump_61 (by decide) (fun hh => absurd hh (by decide)) (fun _ => ?_)
    refine lv_iconst (v := (0 : Int32)) hx hb d_P_jump_64 (by decide) ?_
    have hsp : s_P_jump20 u_z u_M u_r u_d u_a u_lo u_hi u_ri u_t a2 = ((0 : Int32), u_r) := (by unfold s_P_jump20; rw [if_pos h1])
    rw [hsp] at hE
    exact hE _ _ _ _ hP hD hS d_P_jump_65
  ·
    refine lv_iconst (v := (1 : Int32)) hx hb d_P_jump_52 (by decide) ?_
    refine lv_goto (tgt := 57) hx hb d_P_jump_53 (by decide) ?_
    refine lv_istore (lv' := [(5, .int (1 : Int32)), (4, .int (u_d (ix (s_P_fieldB a2)))), (3, .int (u_d (ix (s_P_fieldA a2)))), (0, .ref xP), (1, .int (20 : Int32)), (2, .int a2)]) hx hb d_P_jump_57 hl (by decide) rfl (fun ls hl => ?_)
    refine lv_iload hx hb d_P_jump_59 (lv_at hl 0 rfl) ?_
    refine lv_if_ne (tgt := 66) hx hb d_P_jump_61 (by decide) (fun _ => ?_) (fun hh => absurd hh (by decide))
    refine lv_aload_n hx hb d_P_jump_66 rfl (lv_at hl 3 rfl) ?_
    refine zz_get (C := R_P) (T := F_P) (N := 10) (v := .ref xR) hx hb hts in_P hown hK hP 0 rfl rfl 1 (by decide) mw_22 rfl d_P_jump_67 ?_
    refine lv_dup hx hb d_P_jump_70 rfl ?_
    refine zz_get (C := R_R) (T := F_R) (N := 12) (v := .int (u_r 0)) hx hb hts in_R hown hK hP 3 rfl rfl 2 (by decide) mw_28 rfl d_P_jump_71 ?_
    refine lv_iload_n hx hb d_P_jump_74 rfl (lv_at hl 5 rfl) ?_
    refine zz_cS0 (rest := [.int (u_r 0), .ref xR]) ⟨hx, hb, hml, hown, hts⟩ (k_P_amount l D cI _ a2) g_P_jump_P_amount_131 nd_P_amount ⟨⟨rfl, rfl⟩, Nat.le_of_ble_eq_true rfl, Nat.le_of_ble_eq_true rfl⟩ hK hP hD hS hA rfl rfl hl.1 (Nat.le_of_ble_eq_true rfl) d_P_jump_75 ⟨Nat.zero_le _, Nat.zero_le _⟩ (fun H locs hP hD hS => ?_)
    refine lv_iadd hx hb d_P_jump_78 ?_
    refine zz_put (C := R_R) (T := F_R) (N := 12) (w' := [oP xP xM xR xG xT u_z, oM xM xW, ar cI xW 512 u_M, oR xR xD xA (upd u_r 0 ((u_r 0) + (s_P_amount a2))), ar cI xD 8 u_d, ar cI xA 8 u_a, oG xG xL xH xI, ar cI xL 6 u_lo, ar cI xH 6 u_hi, ar cI xI 6 u_ri, oT xT u_t]) hx hb hts in_R ty_R ty_R_ok n_R hown hK hP hD hS 3 rfl rfl 2 (by decide) mw_28 rfl rfl rfl (Nat.le_of_ble_eq_true rfl) d_P_jump_79 rfl (fun H locs hP hD hS => ?_)
    refine lv_iconst (v := (1 : Int32)) hx hb d_P_jump_82 (by decide) ?_
    have hsp : s_P_jump20 u_z u_M u_r u_d u_a u_lo u_hi u_ri u_t a2 = ((1 : Int32), upd u_r 0 ((u_r 0) + (s_P_amount a2))) := (by unfold s_P_jump20; rw [if_neg h1])
    rw [hsp] at hE
    exact hE _ _ _ _ hP hD hS d_P_jump_83
set_option maxHeartbeats 4000000 in
set_option maxRecDepth 100000 in
theorem k_P_callDown (l : Launch) (D : va_G) (cI : ClassId) (sz : Nat) (xP : Nat) (xM : Nat) (xW : Nat) (xR : Nat) (xD : Nat) (xA : Nat) (xG : Nat) (xL : Nat) (xH : Nat) (xI : Nat) (xT : Nat) (u_z : Nat → Int32) (u_M : Nat → Int32) (u_r : Nat → Int32) (u_d : Nat → Int32) (u_a : Nat → Int32) (u_lo : Nat → Int32) (u_hi : Nat → Int32) (u_ri : Nat → Int32) (u_t : Nat → Int32) (a1 : Int32) : zMi l y_P_callDown (.code y_P_callDown b_P_callDown 2 (some .int) :: wd) { frames := 3, cells := 0, slots := 0, locals := 68 } D classes [(cI, .int)] [.ref xP, .int a1] [oP xP xM xR xG xT u_z, oM xM xW, ar cI xW 512 u_M, oR xR xD xA u_r, ar cI xD 8 u_d, ar cI xA 8 u_a, oG xG xL xH xI, ar cI xL 6 u_lo, ar cI xH 6 u_hi, ar cI xI 6 u_ri, oT xT u_t] [oP xP xM xR xG xT u_z, oM xM xW, ar cI xW 512 ((s_P_callDown u_z u_M u_r u_d u_a u_lo u_hi u_ri u_t a1).2.1), oR xR xD xA ((s_P_callDown u_z u_M u_r u_d u_a u_lo u_hi u_ri u_t a1).2.2.1), ar cI xD 8 u_d, ar cI xA 8 ((s_P_callDown u_z u_M u_r u_d u_a u_lo u_hi u_ri u_t a1).2.2.2), oG xG xL xH xI, ar cI xL 6 u_lo, ar cI xH 6 u_hi, ar cI xI 6 u_ri, oT xT u_t] sz (s_P_callDown u_z u_M u_r u_d u_a u_lo u_hi u_ri u_t a1).1 := by
  refine met_i (by decide) (Nat.le_of_ble_eq_true rfl) rfl ?_
  intro p e s m args below meth c A Q ls hx hb hml hown hts hK hP hD hS hA hl hE
  have hl : lv_has ls 2 [(0, .ref xP), (1, .int a1)] := hl
  have hown : s.vm.findClass R_P = some m.cls := hown
  refine lv_aload_n hx hb d_P_callDown_0 rfl (lv_at hl 0 rfl) ?_
  refine zz_get (C := R_P) (T := F_P) (N := 10) (v := .ref xR) hx hb hts in_P hown hK hP 0 rfl rfl 1 (by decide) mw_22 rfl d_P_callDown_1 ?_
  refine zz_get (C := R_R) (T := F_R) (N := 12) (v := .int (u_r 6)) hx hb hts in_R hown hK hP 3 rfl rfl 8 (by decide) mw_40 rfl d_P_callDown_4 ?_
  refine lv_bipush (v := (15 : Int32)) hx hb d_P_callDown_7 (by decide) ?_
  refine lv_icmp_ne (tgt := 16) hx hb d_P_callDown_9 (by decide) (fun h1 => ?_) (fun h1 => ?_)
  ·
    refine lv_aload_n hx hb d_P_callDown_16 rfl (lv_at hl 0 rfl) ?_
    refine zz_get (C := R_P) (T := F_P) (N := 10) (v := .ref xR) hx hb hts in_P hown hK hP 0 rfl rfl 1 (by decide) mw_22 rfl d_P_callDown_17 ?_
    refine lv_aload_n hx hb d_P_callDown_20 rfl (lv_at hl 0 rfl) ?_
    refine zz_get (C := R_P) (T := F_P) (N := 10) (v := .ref xM) hx hb hts in_P hown hK hP 0 rfl rfl 0 (by decide) mw_24 rfl d_P_callDown_21 ?_
    refine lv_iconst (v := (1 : Int32)) hx hb d_P_callDown_24 (by decide) ?_
    refine zz_cVi (rest := []) (wr := [oP xP xM xR xG xT u_z, oG xG xL xH xI, ar cI xL 6 u_lo, ar cI xH 6 u_hi, ar cI xI 6 u_ri, oT xT u_t]) (w' := [oP xP xM xR xG xT u_z, oM xM xW, ar cI xW 512 ((s_R_keepU u_r u_d u_a u_M).2.2), oR xR xD xA ((s_R_keepU u_r u_d u_a u_M).2.1), ar cI xD 8 u_d, ar cI xA 8 u_a, oG xG xL xH xI, ar cI xL 6 u_lo, ar cI xH 6 u_hi, ar cI xI 6 u_ri, oT xT u_t]) ⟨hx, hb, hml, hown, hts⟩ (k_R_keepU l D cI _ xR xD xA xM xW u_r u_d u_a u_M) g_P_callDown_R_keep_87 nv_R_keep ⟨⟨rfl, rfl⟩, Nat.le_of_ble_eq_true rfl, Nat.le_of_ble_eq_true rfl⟩ hK [0] rfl hP hD hS hA [3, 4, 5, 1, 2] [0, 6, 7, 8, 9, 10] [0, 9, 10, 6, 7, 8, 1, 2, 3, 4, 5] rfl rfl rfl rfl (by decide) rfl rfl 3 1 rfl rfl rfl rfl hl.1 (Nat.le_of_ble_eq_true rfl) d_P_callDown_25 ⟨Nat.zero_le _, Nat.zero_le _⟩ (fun H locs hP hD hS => ?_)
    refine lv_if_ne (tgt := 33) hx hb d_P_callDown_28 (by decide) (fun h2 => ?_) (fun h2 => ?_)
    ·
      refine lv_aload_n hx hb d_P_callDown_33 rfl (lv_at hl 0 rfl) ?_
      refine zz_get (C := R_P) (T := F_P) (N := 10) (v := .ref xR) hx hb hts in_P hown hK hP 0 rfl rfl 1 (by decide) mw_22 rfl d_P_callDown_34 ?_
      refine zz_get (C := R_R) (T := F_R) (N := 12) (v := .ref xA) hx hb hts in_R hown hK hP 3 rfl rfl 1 (by decide) mw_37 rfl d_P_callDown_37 ?_
      refine lv_bipush (v := (7 : Int32)) hx hb d_P_callDown_40 (by decide) ?_
      refine lv_aload_n hx hb d_P_callDown_42 rfl (lv_at hl 0 rfl) ?_
      refine zz_get (C := R_P) (T := F_P) (N := 10) (v := .ref xR) hx hb hts in_P hown hK hP 0 rfl rfl 1 (by decide) mw_22 rfl d_P_callDown_43 ?_
      refine zz_get (C := R_R) (T := F_R) (N := 12) (v := .int (((s_R_keepU u_r u_d u_a u_M).2.1) 0)) hx hb hts in_R hown hK hP 3 rfl rfl 2 (by decide) mw_28 rfl d_P_callDown_46 ?_
      refine lv_iconst (v := (1 : Int32)) hx hb d_P_callDown_49 (by decide) ?_
      refine lv_iadd hx hb d_P_callDown_50 ?_
      refine zz_iast (w' := [oP xP xM xR xG xT u_z, oM xM xW, ar cI xW 512 ((s_R_keepU u_r u_d u_a u_M).2.2), oR xR xD xA ((s_R_keepU u_r u_d u_a u_M).2.1), ar cI xD 8 u_d, ar cI xA 8 (upd u_a (ix (7 : Int32)) ((((s_R_keepU u_r u_d u_a u_M).2.1) 0) + (1 : Int32))), oG xG xL xH xI, ar cI xL 6 u_lo, ar cI xH 6 u_hi, ar cI xI 6 u_ri, oT xT u_t]) hx hb hK hP hD hS 5 0 rfl rfl (zz_inc (by decide)) d_P_callDown_51 rfl (fun H locs hP hD hS => ?_)
      refine lv_aload_n hx hb d_P_callDown_52 rfl (lv_at hl 0 rfl) ?_
      show W p l e _ s m args below meth c _ _ _ _ Q (F0 m 53 ls _)
      refine zz_get (C := R_P) (T := F_P) (N := 10) (v := .ref xR) hx hb hts in_P hown hK hP 0 rfl rfl 1 (by decide) mw_22 rfl d_P_callDown_53 ?_
      refine lv_dup hx hb d_P_callDown_56 rfl ?_
      refine zz_get (C := R_R) (T := F_R) (N := 12) (v := .int (((s_R_keepU u_r u_d u_a u_M).2.1) 6)) hx hb hts in_R hown hK hP 3 rfl rfl 8 (by decide) mw_40 rfl d_P_callDown_57 ?_
      refine lv_iconst (v := (1 : Int32)) hx hb d_P_callDown_60 (by decide) ?_
      refine lv_iadd hx hb d_P_callDown_61 ?_
      refine zz_put (C := R_R) (T := F_R) (N := 12) (w' := [oP xP xM xR xG xT u_z, oM xM xW, ar cI xW 512 ((s_R_keepU u_r u_d u_a u_M).2.2), oR xR xD xA (upd ((s_R_keepU u_r u_d u_a u_M).2.1) 6 ((((s_R_keepU u_r u_d u_a u_M).2.1) 6) + (1 : Int32))), ar cI xD 8 u_d, ar cI xA 8 (upd u_a (ix (7 : Int32)) ((((s_R_keepU u_r u_d u_a u_M).2.1) 0) + (1 : Int32))), oG xG xL xH xI, ar cI xL 6 u_lo, ar cI xH 6 u_hi, ar cI xI 6 u_ri, oT xT u_t]) hx hb hts in_R ty_R ty_R_ok n_R hown hK hP hD hS 3 rfl rfl 8 (by decide) mw_40 rfl rfl rfl (Nat.le_of_ble_eq_true rfl) d_P_callDown_62 rfl (fun H locs hP hD hS => ?_)
      refine lv_aload_n hx hb d_P_callDown_65 rfl (lv_at hl 0 rfl) ?_
      refine zz_get (C := R_P) (T := F_P) (N := 10) (v := .ref xR) hx hb hts in_P hown hK hP 0 rfl rfl 1 (by decide) mw_22 rfl d_P_callDown_66 ?_
      refine lv_dup hx hb d_P_callDown_69 rfl ?_
      refine zz_get (C := R_R) (T := F_R) (N := 12) (v := .int (((s_R_keepU u_r u_d u_a u_M).2.1) 0)) hx hb hts in_R hown hK hP 3 rfl rfl 2 (by decide) mw_28 rfl d_P_callDown_70 ?_
      refine lv_iload_n hx hb d_P_callDown_73 rfl (lv_at hl 1 rfl) ?_
      refine lv_iadd hx hb d_P_callDown_74 ?_
      show W p l e _ s m args below meth c _ _ _ _ Q (F0 m 75 ls _)
      refine zz_put (C := R_R) (T := F_R) (N := 12) (w' := [oP xP xM xR xG xT u_z, oM xM xW, ar cI xW 512 ((s_R_keepU u_r u_d u_a u_M).2.2), oR xR xD xA (upd (upd ((s_R_keepU u_r u_d u_a u_M).2.1) 6 ((((s_R_keepU u_r u_d u_a u_M).2.1) 6) + (1 : Int32))) 0 ((((s_R_keepU u_r u_d u_a u_M).2.1) 0) + a1)), ar cI xD 8 u_d, ar cI xA 8 (upd u_a (ix (7 : Int32)) ((((s_R_keepU u_r u_d u_a u_M).2.1) 0) + (1 : Int32))), oG xG xL xH xI, ar cI xL 6 u_lo, ar cI xH 6 u_hi, ar cI xI 6 u_ri, oT xT u_t]) hx hb hts in_R ty_R ty_R_ok n_R hown hK hP hD hS 3 rfl rfl 2 (by decide) mw_28 rfl rfl rfl (Nat.le_of_ble_eq_true rfl) d_P_callDown_75 rfl (fun H locs hP hD hS => ?_)
      refine lv_iconst (v := (1 : Int32)) hx hb d_P_callDown_78 (by decide) ?_
      have hsp : s_P_callDown u_z u_M u_r u_d u_a u_lo u_hi u_ri u_t a1 = ((1 : Int32), (s_R_keepU u_r u_d u_a u_M).2.2, upd (upd ((s_R_keepU u_r u_d u_a u_M).2.1) 6 ((((s_R_keepU u_r u_d u_a u_M).2.1) 6) + (1 : Int32))) 0 ((((s_R_keepU u_r u_d u_a u_M).2.1) 0) + a1), upd u_a (ix (7 : Int32)) ((((s_R_keepU u_r u_d u_a u_M).2.1) 0) + (1 : Int32))) := (by unfold s_P_callDown; rw [if_neg h1, if_neg h2])
      rw [hsp] at hE
      exact hE _ _ _ _ hP hD hS d_P_callDown_79
    ·
      refine lv_iconst (v := (2 : Int32)) hx hb d_P_callDown_31 (by decide) ?_
      have hsp : s_P_callDown u_z u_M u_r u_d u_a u_lo u_hi u_ri u_t a1 = ((2 : Int32), (s_R_keepU u_r u_d u_a u_M).2.2, (s_R_keepU u_r u_d u_a u_M).2.1, u_a) := (by unfold s_P_callDown; rw [if_neg h1, if_pos h2])
      rw [hsp] at hE
      exact hE _ _ _ _ hP hD hS d_P_callDown_32
  ·
    refine lv_sipush (v := (770 : Int32)) hx hb d_P_callDown_12 (by decide) ?_
    have hsp : s_P_callDown u_z u_M u_r u_d u_a u_lo u_hi u_ri u_t a1 = ((770 : Int32), u_M, u_r, u_a) := (by unfold s_P_callDown; rw [if_pos h1])
    rw [hsp] at hE
    exact hE _ _ _ _ hP hD hS d_P_callDown_15
set_option maxHeartbeats 4000000 in
set_option maxRecDepth 100000 in
theorem k_P_goBackH (l : Launch) (D : va_G) (cI : ClassId) (sz : Nat) (xP : Nat) (xM : Nat) (xW : Nat) (xR : Nat) (xD : Nat) (xA : Nat) (xG : Nat) (xL : Nat) (xH : Nat) (xI : Nat) (xT : Nat) (u_z : Nat → Int32) (u_M : Nat → Int32) (u_r : Nat → Int32) (u_d : Nat → Int32) (u_a : Nat → Int32) (u_lo : Nat → Int32) (u_hi : Nat → Int32) (u_ri : Nat → Int32) (u_t : Nat → Int32) : zMi l y_P_goBack (.code y_P_goBack b_P_goBack 3 (some .int) :: wd) { frames := 3, cells := 0, slots := 0, locals := 68 } D classes [(cI, .int)] [.ref xP, .int (1 : Int32)] [oP xP xM xR xG xT u_z, oM xM xW, ar cI xW 512 u_M, oR xR xD xA u_r, ar cI xD 8 u_d, ar cI xA 8 u_a, oG xG xL xH xI, ar cI xL 6 u_lo, ar cI xH 6 u_hi, ar cI xI 6 u_ri, oT xT u_t] [oP xP xM xR xG xT u_z, oM xM xW, ar cI xW 512 ((s_P_goBackH u_z u_M u_r u_d u_a u_lo u_hi u_ri u_t).2.1), oR xR xD xA ((s_P_goBackH u_z u_M u_r u_d u_a u_lo u_hi u_ri u_t).2.2.1), ar cI xD 8 ((s_P_goBackH u_z u_M u_r u_d u_a u_lo u_hi u_ri u_t).2.2.2.1), ar cI xA 8 ((s_P_goBackH u_z u_M u_r u_d u_a u_lo u_hi u_ri u_t).2.2.2.2), oG xG xL xH xI, ar cI xL 6 u_lo, ar cI xH 6 u_hi, ar cI xI 6 u_ri, oT xT u_t] sz (s_P_goBackH u_z u_M u_r u_d u_a u_lo u_hi u_ri u_t).1 := by
  refine met_i (by decide) (Nat.le_of_ble_eq_true rfl) rfl ?_
  intro p e s m args below meth c A Q ls hx hb hml hown hts hK hP hD hS hA hl hE
  have hl : lv_has ls 3 [(0, .ref xP), (1, .int (1 : Int32))] := hl
  have hown : s.vm.findClass R_P = some m.cls := hown
  refine lv_aload_n hx hb d_P_goBack_0 rfl (lv_at hl 0 rfl) ?_
  refine zz_get (C := R_P) (T := F_P) (N := 10) (v := .ref xR) hx hb hts in_P hown hK hP 0 rfl rfl 1 (by decide) mw_22 rfl d_P_goBack_1 ?_
  refine lv_iconst (v := (1 : Int32)) hx hb d_P_goBack_4 (by decide) ?_
  refine zz_rVi (rest := []) ⟨hx, hb, hml, hown, hts⟩ (k_R_refuseBackU l D cI _ xR xD xA u_r u_d u_a) g_P_goBack_R_refuseBack_201 nv_R_refuseBack ⟨⟨rfl, rfl⟩, Nat.le_of_ble_eq_true rfl, Nat.le_of_ble_eq_true rfl⟩ hK [0] rfl hP hD hS hA [3, 4, 5] rfl rfl 3 1 rfl rfl rfl rfl hl.1 (Nat.le_of_ble_eq_true rfl) d_P_goBack_5 ⟨Nat.zero_le _, Nat.zero_le _⟩ (fun H locs hP hD hS => ?_)
  refine lv_istore_n (lv' := [(2, .int (s_R_refuseBackU u_r u_d u_a)), (0, .ref xP), (1, .int (1 : Int32))]) hx hb d_P_goBack_8 rfl hl (by decide) rfl (fun ls hl => ?_)
  refine lv_iload_n hx hb d_P_goBack_9 rfl (lv_at hl 0 rfl) ?_
  refine lv_if_eq (tgt := 15) hx hb d_P_goBack_10 (by decide) (fun h1 => ?_) (fun h1 => ?_)
  ·
    refine lv_aload_n hx hb d_P_goBack_15 rfl (lv_at hl 1 rfl) ?_
    refine zz_get (C := R_P) (T := F_P) (N := 10) (v := .ref xR) hx hb hts in_P hown hK hP 0 rfl rfl 1 (by decide) mw_22 rfl d_P_goBack_16 ?_
    refine lv_aload_n hx hb d_P_goBack_19 rfl (lv_at hl 1 rfl) ?_
    refine zz_get (C := R_P) (T := F_P) (N := 10) (v := .ref xR) hx hb hts in_P hown hK hP 0 rfl rfl 1 (by decide) mw_22 rfl d_P_goBack_20 ?_
    refine zz_get (C := R_R) (T := F_R) (N := 12) (v := .ref xA) hx hb hts in_R hown hK hP 3 rfl rfl 1 (by decide) mw_37 rfl d_P_goBack_23 ?_
    refine lv_bipush (v := (7 : Int32)) hx hb d_P_goBack_26 (by decide) ?_
    refine va_iald hx hb hK hP 5 0 rfl rfl (zz_inc (by decide)) d_P_goBack_28 ?_
    refine zz_put (C := R_R) (T := F_R) (N := 12) (w' := [oP xP xM xR xG xT u_z, oM xM xW, ar cI xW 512 u_M, oR xR xD xA (upd u_r 0 (u_a (ix (7 : Int32)))), ar cI xD 8 u_d, ar cI xA 8 u_a, oG xG xL xH xI, ar cI xL 6 u_lo, ar cI xH 6 u_hi, ar cI xI 6 u_ri, oT xT u_t]) hx hb hts in_R ty_R ty_R_ok n_R hown hK hP hD hS 3 rfl rfl 2 (by decide) mw_28 rfl rfl rfl (Nat.le_of_ble_eq_true rfl) d_P_goBack_29 rfl (fun H locs hP hD hS => ?_)
    refine lv_iload_n hx hb d_P_goBack_32 rfl (lv_at hl 2 rfl) ?_
    refine lv_if_eq (tgt := 82) hx hb d_P_goBack_33 (by decide) (fun hh => absurd hh (by decide)) (fun _ => ?_)
    refine lv_aload_n hx hb d_P_goBack_36 rfl (lv_at hl 1 rfl) ?_
    refine zz_get (C := R_P) (T := F_P) (N := 10) (v := .ref xR) hx hb hts in_P hown hK hP 0 rfl rfl 1 (by decide) mw_22 rfl d_P_goBack_37 ?_
    refine lv_aload_n hx hb d_P_goBack_40 rfl (lv_at hl 1 rfl) ?_
    refine zz_get (C := R_P) (T := F_P) (N := 10) (v := .ref xR) hx hb hts in_P hown hK hP 0 rfl rfl 1 (by decide) mw_22 rfl d_P_goBack_41 ?_
    refine zz_get (C := R_R) (T := F_R) (N := 12) (v := .int (u_r 3)) hx hb hts in_R hown hK hP 3 rfl rfl 5 (by decide) mw_41 rfl d_P_goBack_44 ?_
    refine lv_bipush (v := (8 : Int32)) hx hb d_P_goBack_47 (by decide) ?_
    refine lv_ishr hx hb d_P_goBack_49 ?_
    refine lv_bipush (v := (15 : Int32)) hx hb d_P_goBack_50 (by decide) ?_
    refine lv_iand hx hb d_P_goBack_52 ?_
    refine zz_put (C := R_R) (T := F_R) (N := 12) (w' := [oP xP xM xR xG xT u_z, oM xM xW, ar cI xW 512 u_M, oR xR xD xA (upd (upd u_r 0 (u_a (ix (7 : Int32)))) 7 (((u_r 3) >>> ((8 : Int32) &&& 31)) &&& (15 : Int32))), ar cI xD 8 u_d, ar cI xA 8 u_a, oG xG xL xH xI, ar cI xL 6 u_lo, ar cI xH 6 u_hi, ar cI xI 6 u_ri, oT xT u_t]) hx hb hts in_R ty_R ty_R_ok n_R hown hK hP hD hS 3 rfl rfl 9 (by decide) mw_26 rfl rfl rfl (Nat.le_of_ble_eq_true rfl) d_P_goBack_53 rfl (fun H locs hP hD hS => ?_)
    refine lv_aload_n hx hb d_P_goBack_56 rfl (lv_at hl 1 rfl) ?_
    show W p l e _ s m args below meth c _ _ _ _ Q (F0 m 57 ls _)
    refine zz_get (C := R_P) (T := F_P) (N := 10) (v := .ref xR) hx hb hts in_P hown hK hP 0 rfl rfl 1 (by decide) mw_22 rfl d_P_goBack_57 ?_
    refine lv_aload_n hx hb d_P_goBack_60 rfl (lv_at hl 1 rfl) ?_
    refine zz_get (C := R_P) (T := F_P) (N := 10) (v := .ref xR) hx hb hts in_P hown hK hP 0 rfl rfl 1 (by decide) mw_22 rfl d_P_goBack_61 ?_
    refine zz_get (C := R_R) (T := F_R) (N := 12) (v := .int (u_r 3)) hx hb hts in_R hown hK hP 3 rfl rfl 5 (by decide) mw_41 rfl d_P_goBack_64 ?_
    refine lv_sipush (v := (4096 : Int32)) hx hb d_P_goBack_67 (by decide) ?_
    refine lv_iand hx hb d_P_goBack_70 ?_
    have J71_2 : ∀ (vj71_0 : Int32) (ls : Array Slot) (H : Heap) (locs : List Loc), vj71_0 = (if ((u_r 3) &&& (4096 : Int32)) = 0 then (0 : Int32) else (1 : Int32)) → lv_has ls 3 [(2, .int (s_R_refuseBackU u_r u_d u_a)), (0, .ref xP), (1, .int (1 : Int32))] → va_P D classes [oP xP xM xR xG xT u_z, oM xM xW, ar cI xW 512 u_M, oR xR xD xA (upd (upd u_r 0 (u_a (ix (7 : Int32)))) 7 (((u_r 3) >>> ((8 : Int32) &&& 31)) &&& (15 : Int32))), ar cI xD 8 u_d, ar cI xA 8 u_a, oG xG xL xH xI, ar cI xL 6 u_lo, ar cI xH 6 u_hi, ar cI xI 6 u_ri, oT xT u_t] H → va_D A [oP xP xM xR xG xT u_z, oM xM xW, ar cI xW 512 u_M, oR xR xD xA (upd (upd u_r 0 (u_a (ix (7 : Int32)))) 7 (((u_r 3) >>> ((8 : Int32) &&& 31)) &&& (15 : Int32))), ar cI xD 8 u_d, ar cI xA 8 u_a, oG xG xL xH xI, ar cI xL 6 u_lo, ar cI xH 6 u_hi, ar cI xI 6 u_ri, oT xT u_t] → va_S A s.heap H locs → W p l e { frames := 3, cells := 0, slots := 0, locals := 68 } s m args below meth c H locs 0 0 Q (F0 m 79 ls [.int vj71_0, .ref xR]) := by
      intro vj71_0 ls H locs evj71_0 hl hP hD hS
      subst evj71_0
      refine zz_put (C := R_R) (T := F_R) (N := 12) (w' := [oP xP xM xR xG xT u_z, oM xM xW, ar cI xW 512 u_M, oR xR xD xA (upd (upd (upd u_r 0 (u_a (ix (7 : Int32)))) 7 (((u_r 3) >>> ((8 : Int32) &&& 31)) &&& (15 : Int32))) 8 (if ((u_r 3) &&& (4096 : Int32)) = 0 then (0 : Int32) else (1 : Int32))), ar cI xD 8 u_d, ar cI xA 8 u_a, oG xG xL xH xI, ar cI xL 6 u_lo, ar cI xH 6 u_hi, ar cI xI 6 u_ri, oT xT u_t]) hx hb hts in_R ty_R ty_R_ok n_R hown hK hP hD hS 3 rfl rfl 10 (by decide) mw_42 rfl (zz_nar zz_ite2) (zz_fit zz_ite2) (Nat.le_of_ble_eq_true rfl) d_P_goBack_79 rfl (fun H locs hP hD hS => ?_)
      refine lv_aload_n hx hb d_P_goBack_82 rfl (lv_at hl 1 rfl) ?_
      refine zz_get (C := R_P) (T := F_P) (N := 10) (v := .ref xR) hx hb hts in_P hown hK hP 0 rfl rfl 1 (by decide) mw_22 rfl d_P_goBack_83 ?_
      refine lv_aload_n hx hb d_P_goBack_86 rfl (lv_at hl 1 rfl) ?_
      refine zz_get (C := R_P) (T := F_P) (N := 10) (v := .ref xM) hx hb hts in_P hown hK hP 0 rfl rfl 0 (by decide) mw_24 rfl d_P_goBack_87 ?_
      refine lv_iconst (v := (1 : Int32)) hx hb d_P_goBack_90 (by decide) ?_
      refine zz_cVv (rest := []) (wr := [oP xP xM xR xG xT u_z, oG xG xL xH xI, ar cI xL 6 u_lo, ar cI xH 6 u_hi, ar cI xI 6 u_ri, oT xT u_t]) (w' := [oP xP xM xR xG xT u_z, oM xM xW, ar cI xW 512 ((s_R_bringBackU (upd (upd (upd u_r 0 (u_a (ix (7 : Int32)))) 7 (((u_r 3) >>> ((8 : Int32) &&& 31)) &&& (15 : Int32))) 8 (if ((u_r 3) &&& (4096 : Int32)) = 0 then (0 : Int32) else (1 : Int32))) u_d u_a u_M).2.2.2), oR xR xD xA ((s_R_bringBackU (upd (upd (upd u_r 0 (u_a (ix (7 : Int32)))) 7 (((u_r 3) >>> ((8 : Int32) &&& 31)) &&& (15 : Int32))) 8 (if ((u_r 3) &&& (4096 : Int32)) = 0 then (0 : Int32) else (1 : Int32))) u_d u_a u_M).1), ar cI xD 8 ((s_R_bringBackU (upd (upd (upd u_r 0 (u_a (ix (7 : Int32)))) 7 (((u_r 3) >>> ((8 : Int32) &&& 31)) &&& (15 : Int32))) 8 (if ((u_r 3) &&& (4096 : Int32)) = 0 then (0 : Int32) else (1 : Int32))) u_d u_a u_M).2.1), ar cI xA 8 ((s_R_bringBackU (upd (upd (upd u_r 0 (u_a (ix (7 : Int32)))) 7 (((u_r 3) >>> ((8 : Int32) &&& 31)) &&& (15 : Int32))) 8 (if ((u_r 3) &&& (4096 : Int32)) = 0 then (0 : Int32) else (1 : Int32))) u_d u_a u_M).2.2.1), oG xG xL xH xI, ar cI xL 6 u_lo, ar cI xH 6 u_hi, ar cI xI 6 u_ri, oT xT u_t]) ⟨hx, hb, hml, hown, hts⟩ (k_R_bringBackU l D cI _ xR xD xA xM xW (upd (upd (upd u_r 0 (u_a (ix (7 : Int32)))) 7 (((u_r 3) >>> ((8 : Int32) &&& 31)) &&& (15 : Int32))) 8 (if ((u_r 3) &&& (4096 : Int32)) = 0 then (0 : Int32) else (1 : Int32))) u_d u_a u_M) g_P_goBack_R_bringBack_207 nv_R_bringBack ⟨⟨rfl, rfl⟩, Nat.le_of_ble_eq_true rfl, Nat.le_of_ble_eq_true rfl⟩ hK [0] rfl hP hD hS hA [3, 4, 5, 1, 2] [0, 6, 7, 8, 9, 10] [0, 9, 10, 6, 7, 8, 1, 2, 3, 4, 5] rfl rfl rfl rfl (by decide) rfl rfl 3 1 rfl rfl rfl rfl hl.1 (Nat.le_of_ble_eq_true rfl) d_P_goBack_91 ⟨Nat.zero_le _, Nat.zero_le _⟩ (fun H locs hP hD hS => ?_)
      refine lv_iconst (v := (1 : Int32)) hx hb d_P_goBack_94 (by decide) ?_
      have hsp : s_P_goBackH u_z u_M u_r u_d u_a u_lo u_hi u_ri u_t = ((1 : Int32), (s_R_bringBackU (upd (upd (upd u_r 0 (u_a (ix (7 : Int32)))) 7 (((u_r 3) >>> ((8 : Int32) &&& 31)) &&& (15 : Int32))) 8 (if ((u_r 3) &&& (4096 : Int32)) = 0 then (0 : Int32) else (1 : Int32))) u_d u_a u_M).2.2.2, (s_R_bringBackU (upd (upd (upd u_r 0 (u_a (ix (7 : Int32)))) 7 (((u_r 3) >>> ((8 : Int32) &&& 31)) &&& (15 : Int32))) 8 (if ((u_r 3) &&& (4096 : Int32)) = 0 then (0 : Int32) else (1 : Int32))) u_d u_a u_M).1, (s_R_bringBackU (upd (upd (upd u_r 0 (u_a (ix (7 : Int32)))) 7 (((u_r 3) >>> ((8 : Int32) &&& 31)) &&& (15 : Int32))) 8 (if ((u_r 3) &&& (4096 : Int32)) = 0 then (0 : Int32) else (1 : Int32))) u_d u_a u_M).2.1, (s_R_bringBackU (upd (upd (upd u_r 0 (u_a (ix (7 : Int32)))) 7 (((u_r 3) >>> ((8 : Int32) &&& 31)) &&& (15 : Int32))) 8 (if ((u_r 3) &&& (4096 : Int32)) = 0 then (0 : Int32) else (1 : Int32))) u_d u_a u_M).2.2.1) := (by unfold s_P_goBackH; rw [if_pos h1])
      rw [hsp] at hE
      exact hE _ _ _ _ hP hD hS d_P_goBack_95
    refine lv_if_eq (tgt := 78) hx hb d_P_goBack_71 (by decide) (fun h2 => ?_) (fun h2 => ?_)
    ·
      refine lv_iconst (v := (0 : Int32)) hx hb d_P_goBack_78 (by decide) ?_
      exact J71_2 (0 : Int32) _ _ _ (by rw [if_pos h2]) (lv_sub hl [0, 1, 2] rfl) hP hD hS
    ·
      refine lv_iconst (v := (1 : Int32)) hx hb d_P_goBack_74 (by decide) ?_
      refine lv_goto (tgt := 79) hx hb d_P_goBack_75 (by decide) ?_
      exact J71_2 (1 : Int32) _ _ _ (by rw [if_neg h2]) (lv_sub hl [0, 1, 2] rfl) hP hD hS
  ·
    refine lv_iload_n hx hb d_P_goBack_13 rfl (lv_at hl 0 rfl) ?_
    have hsp : s_P_goBackH u_z u_M u_r u_d u_a u_lo u_hi u_ri u_t = ((s_R_refuseBackU u_r u_d u_a), u_M, u_r, u_d, u_a) := (by unfold s_P_goBackH; rw [if_neg h1])
    rw [hsp] at hE
    exact hE _ _ _ _ hP hD hS d_P_goBack_14
set_option maxHeartbeats 4000000 in
set_option maxRecDepth 100000 in
theorem k_P_goBackR (l : Launch) (D : va_G) (cI : ClassId) (sz : Nat) (xP : Nat) (xM : Nat) (xW : Nat) (xR : Nat) (xD : Nat) (xA : Nat) (xG : Nat) (xL : Nat) (xH : Nat) (xI : Nat) (xT : Nat) (u_z : Nat → Int32) (u_M : Nat → Int32) (u_r : Nat → Int32) (u_d : Nat → Int32) (u_a : Nat → Int32) (u_lo : Nat → Int32) (u_hi : Nat → Int32) (u_ri : Nat → Int32) (u_t : Nat → Int32) : zMi l y_P_goBack (.code y_P_goBack b_P_goBack 3 (some .int) :: wd) { frames := 3, cells := 0, slots := 0, locals := 68 } D classes [(cI, .int)] [.ref xP, .int (0 : Int32)] [oP xP xM xR xG xT u_z, oM xM xW, ar cI xW 512 u_M, oR xR xD xA u_r, ar cI xD 8 u_d, ar cI xA 8 u_a, oG xG xL xH xI, ar cI xL 6 u_lo, ar cI xH 6 u_hi, ar cI xI 6 u_ri, oT xT u_t] [oP xP xM xR xG xT u_z, oM xM xW, ar cI xW 512 ((s_P_goBackR u_z u_M u_r u_d u_a u_lo u_hi u_ri u_t).2.1), oR xR xD xA ((s_P_goBackR u_z u_M u_r u_d u_a u_lo u_hi u_ri u_t).2.2.1), ar cI xD 8 ((s_P_goBackR u_z u_M u_r u_d u_a u_lo u_hi u_ri u_t).2.2.2.1), ar cI xA 8 ((s_P_goBackR u_z u_M u_r u_d u_a u_lo u_hi u_ri u_t).2.2.2.2), oG xG xL xH xI, ar cI xL 6 u_lo, ar cI xH 6 u_hi, ar cI xI 6 u_ri, oT xT u_t] sz (s_P_goBackR u_z u_M u_r u_d u_a u_lo u_hi u_ri u_t).1 := by
  refine met_i (by decide) (Nat.le_of_ble_eq_true rfl) rfl ?_
  intro p e s m args below meth c A Q ls hx hb hml hown hts hK hP hD hS hA hl hE
  have hl : lv_has ls 3 [(0, .ref xP), (1, .int (0 : Int32))] := hl
  have hown : s.vm.findClass R_P = some m.cls := hown
  refine lv_aload_n hx hb d_P_goBack_0 rfl (lv_at hl 0 rfl) ?_
  refine zz_get (C := R_P) (T := F_P) (N := 10) (v := .ref xR) hx hb hts in_P hown hK hP 0 rfl rfl 1 (by decide) mw_22 rfl d_P_goBack_1 ?_
  refine lv_iconst (v := (1 : Int32)) hx hb d_P_goBack_4 (by decide) ?_
  refine zz_rVi (rest := []) ⟨hx, hb, hml, hown, hts⟩ (k_R_refuseBackU l D cI _ xR xD xA u_r u_d u_a) g_P_goBack_R_refuseBack_201 nv_R_refuseBack ⟨⟨rfl, rfl⟩, Nat.le_of_ble_eq_true rfl, Nat.le_of_ble_eq_true rfl⟩ hK [0] rfl hP hD hS hA [3, 4, 5] rfl rfl 3 1 rfl rfl rfl rfl hl.1 (Nat.le_of_ble_eq_true rfl) d_P_goBack_5 ⟨Nat.zero_le _, Nat.zero_le _⟩ (fun H locs hP hD hS => ?_)
  refine lv_istore_n (lv' := [(2, .int (s_R_refuseBackU u_r u_d u_a)), (0, .ref xP), (1, .int (0 : Int32))]) hx hb d_P_goBack_8 rfl hl (by decide) rfl (fun ls hl => ?_)
  refine lv_iload_n hx hb d_P_goBack_9 rfl (lv_at hl 0 rfl) ?_
  refine lv_if_eq (tgt := 15) hx hb d_P_goBack_10 (by decide) (fun h1 => ?_) (fun h1 => ?_)
  ·
    refine lv_aload_n hx hb d_P_goBack_15 rfl (lv_at hl 1 rfl) ?_
    refine zz_get (C := R_P) (T := F_P) (N := 10) (v := .ref xR) hx hb hts in_P hown hK hP 0 rfl rfl 1 (by decide) mw_22 rfl d_P_goBack_16 ?_
    refine lv_aload_n hx hb d_P_goBack_19 rfl (lv_at hl 1 rfl) ?_
    refine zz_get (C := R_P) (T := F_P) (N := 10) (v := .ref xR) hx hb hts in_P hown hK hP 0 rfl rfl 1 (by decide) mw_22 rfl d_P_goBack_20 ?_
    refine zz_get (C := R_R) (T := F_R) (N := 12) (v := .ref xA) hx hb hts in_R hown hK hP 3 rfl rfl 1 (by decide) mw_37 rfl d_P_goBack_23 ?_
    refine lv_bipush (v := (7 : Int32)) hx hb d_P_goBack_26 (by decide) ?_
    refine va_iald hx hb hK hP 5 0 rfl rfl (zz_inc (by decide)) d_P_goBack_28 ?_
    refine zz_put (C := R_R) (T := F_R) (N := 12) (w' := [oP xP xM xR xG xT u_z, oM xM xW, ar cI xW 512 u_M, oR xR xD xA (upd u_r 0 (u_a (ix (7 : Int32)))), ar cI xD 8 u_d, ar cI xA 8 u_a, oG xG xL xH xI, ar cI xL 6 u_lo, ar cI xH 6 u_hi, ar cI xI 6 u_ri, oT xT u_t]) hx hb hts in_R ty_R ty_R_ok n_R hown hK hP hD hS 3 rfl rfl 2 (by decide) mw_28 rfl rfl rfl (Nat.le_of_ble_eq_true rfl) d_P_goBack_29 rfl (fun H locs hP hD hS => ?_)
    refine lv_iload_n hx hb d_P_goBack_32 rfl (lv_at hl 2 rfl) ?_
    refine lv_if_eq (tgt := 82) hx hb d_P_goBack_33 (by decide) (fun _ => ?_) (fun hh => absurd hh (by decide))
    refine lv_aload_n hx hb d_P_goBack_82 rfl (lv_at hl 1 rfl) ?_
    refine zz_get (C := R_P) (T := F_P) (N := 10) (v := .ref xR) hx hb hts in_P hown hK hP 0 rfl rfl 1 (by decide) mw_22 rfl d_P_goBack_83 ?_
    refine lv_aload_n hx hb d_P_goBack_86 rfl (lv_at hl 1 rfl) ?_
    refine zz_get (C := R_P) (T := F_P) (N := 10) (v := .ref xM) hx hb hts in_P hown hK hP 0 rfl rfl 0 (by decide) mw_24 rfl d_P_goBack_87 ?_
    refine lv_iconst (v := (1 : Int32)) hx hb d_P_goBack_90 (by decide) ?_
    refine zz_cVv (rest := []) (wr := [oP xP xM xR xG xT u_z, oG xG xL xH xI, ar cI xL 6 u_lo, ar cI xH 6 u_hi, ar cI xI 6 u_ri, oT xT u_t]) (w' := [oP xP xM xR xG xT u_z, oM xM xW, ar cI xW 512 ((s_R_bringBackU (upd u_r 0 (u_a (ix (7 : Int32)))) u_d u_a u_M).2.2.2), oR xR xD xA ((s_R_bringBackU (upd u_r 0 (u_a (ix (7 : Int32)))) u_d u_a u_M).1), ar cI xD 8 ((s_R_bringBackU (upd u_r 0 (u_a (ix (7 : Int32)))) u_d u_a u_M).2.1), ar cI xA 8 ((s_R_bringBackU (upd u_r 0 (u_a (ix (7 : Int32)))) u_d u_a u_M).2.2.1), oG xG xL xH xI, ar cI xL 6 u_lo, ar cI xH 6 u_hi, ar cI xI 6 u_ri, oT xT u_t]) ⟨hx, hb, hml, hown, hts⟩ (k_R_bringBackU l D cI _ xR xD xA xM xW (upd u_r 0 (u_a (ix (7 : Int32)))) u_d u_a u_M) g_P_goBack_R_bringBack_207 nv_R_bringBack ⟨⟨rfl, rfl⟩, Nat.le_of_ble_eq_true rfl, Nat.le_of_ble_eq_true rfl⟩ hK [0] rfl hP hD hS hA [3, 4, 5, 1, 2] [0, 6, 7, 8, 9, 10] [0, 9, 10, 6, 7, 8, 1, 2, 3, 4, 5] rfl rfl rfl rfl (by decide) rfl rfl 3 1 rfl rfl rfl rfl hl.1 (Nat.le_of_ble_eq_true rfl) d_P_goBack_91 ⟨Nat.zero_le _, Nat.zero_le _⟩ (fun H locs hP hD hS => ?_)
    refine lv_iconst (v := (1 : Int32)) hx hb d_P_goBack_94 (by decide) ?_
    have hsp : s_P_goBackR u_z u_M u_r u_d u_a u_lo u_hi u_ri u_t = ((1 : Int32), (s_R_bringBackU (upd u_r 0 (u_a (ix (7 : Int32)))) u_d u_a u_M).2.2.2, (s_R_bringBackU (upd u_r 0 (u_a (ix (7 : Int32)))) u_d u_a u_M).1, (s_R_bringBackU (upd u_r 0 (u_a (ix (7 : Int32)))) u_d u_a u_M).2.1, (s_R_bringBackU (upd u_r 0 (u_a (ix (7 : Int32)))) u_d u_a u_M).2.2.1) := (by unfold s_P_goBackR; rw [if_pos h1])
    rw [hsp] at hE
    exact hE _ _ _ _ hP hD hS d_P_goBack_95
  ·
    refine lv_iload_n hx hb d_P_goBack_13 rfl (lv_at hl 0 rfl) ?_
    have hsp : s_P_goBackR u_z u_M u_r u_d u_a u_lo u_hi u_ri u_t = ((s_R_refuseBackU u_r u_d u_a), u_M, u_r, u_d, u_a) := (by unfold s_P_goBackR; rw [if_neg h1])
    rw [hsp] at hE
    exact hE _ _ _ _ hP hD hS d_P_goBack_14
set_option maxHeartbeats 4000000 in
set_option maxRecDepth 100000 in
theorem k_P_keepLower (l : Launch) (D : va_G) (cI : ClassId) (sz : Nat) (xP : Nat) (xM : Nat) (xW : Nat) (xR : Nat) (xD : Nat) (xA : Nat) (xG : Nat) (xL : Nat) (xH : Nat) (xI : Nat) (xT : Nat) (u_z : Nat → Int32) (u_M : Nat → Int32) (u_r : Nat → Int32) (u_d : Nat → Int32) (u_a : Nat → Int32) (u_lo : Nat → Int32) (u_hi : Nat → Int32) (u_ri : Nat → Int32) (u_t : Nat → Int32) : zMi l y_P_keepLower (.code y_P_keepLower b_P_keepLower 1 (some .int) :: wd) { frames := 3, cells := 0, slots := 0, locals := 68 } D classes [(cI, .int)] [.ref xP] [oP xP xM xR xG xT u_z, oM xM xW, ar cI xW 512 u_M, oR xR xD xA u_r, ar cI xD 8 u_d, ar cI xA 8 u_a, oG xG xL xH xI, ar cI xL 6 u_lo, ar cI xH 6 u_hi, ar cI xI 6 u_ri, oT xT u_t] [oP xP xM xR xG xT u_z, oM xM xW, ar cI xW 512 ((s_P_keepLower u_z u_M u_r u_d u_a u_lo u_hi u_ri u_t).2.1), oR xR xD xA ((s_P_keepLower u_z u_M u_r u_d u_a u_lo u_hi u_ri u_t).2.2), ar cI xD 8 u_d, ar cI xA 8 u_a, oG xG xL xH xI, ar cI xL 6 u_lo, ar cI xH 6 u_hi, ar cI xI 6 u_ri, oT xT u_t] sz (s_P_keepLower u_z u_M u_r u_d u_a u_lo u_hi u_ri u_t).1 := by
  refine met_i (by decide) (Nat.le_of_ble_eq_true rfl) rfl ?_
  intro p e s m args below meth c A Q ls hx hb hml hown hts hK hP hD hS hA hl hE
  have hl : lv_has ls 1 [(0, .ref xP)] := hl
  have hown : s.vm.findClass R_P = some m.cls := hown
  refine lv_aload_n hx hb d_P_keepLower_0 rfl (lv_at hl 0 rfl) ?_
  refine zz_get (C := R_P) (T := F_P) (N := 10) (v := .ref xR) hx hb hts in_P hown hK hP 0 rfl rfl 1 (by decide) mw_22 rfl d_P_keepLower_1 ?_
  refine lv_aload_n hx hb d_P_keepLower_4 rfl (lv_at hl 0 rfl) ?_
  refine zz_get (C := R_P) (T := F_P) (N := 10) (v := .ref xM) hx hb hts in_P hown hK hP 0 rfl rfl 0 (by decide) mw_24 rfl d_P_keepLower_5 ?_
  refine lv_iconst (v := (0 : Int32)) hx hb d_P_keepLower_8 (by decide) ?_
  refine zz_cVi (rest := []) (wr := [oP xP xM xR xG xT u_z, oG xG xL xH xI, ar cI xL 6 u_lo, ar cI xH 6 u_hi, ar cI xI 6 u_ri, oT xT u_t]) (w' := [oP xP xM xR xG xT u_z, oM xM xW, ar cI xW 512 ((s_R_keepL u_r u_d u_a u_M).2.2), oR xR xD xA ((s_R_keepL u_r u_d u_a u_M).2.1), ar cI xD 8 u_d, ar cI xA 8 u_a, oG xG xL xH xI, ar cI xL 6 u_lo, ar cI xH 6 u_hi, ar cI xI 6 u_ri, oT xT u_t]) ⟨hx, hb, hml, hown, hts⟩ (k_R_keepL l D cI _ xR xD xA xM xW u_r u_d u_a u_M) g_P_keepLower_R_keep_87 nv_R_keep ⟨⟨rfl, rfl⟩, Nat.le_of_ble_eq_true rfl, Nat.le_of_ble_eq_true rfl⟩ hK [0] rfl hP hD hS hA [3, 4, 5, 1, 2] [0, 6, 7, 8, 9, 10] [0, 9, 10, 6, 7, 8, 1, 2, 3, 4, 5] rfl rfl rfl rfl (by decide) rfl rfl 3 1 rfl rfl rfl rfl hl.1 (Nat.le_of_ble_eq_true rfl) d_P_keepLower_9 ⟨Nat.zero_le _, Nat.zero_le _⟩ (fun H locs hP hD hS => ?_)
  refine lv_if_eq (tgt := 19) hx hb d_P_keepLower_12 (by decide) (fun h1 => ?_) (fun h1 => ?_)
  ·
    refine lv_iconst (v := (2 : Int32)) hx hb d_P_keepLower_19 (by decide) ?_
    have hsp : s_P_keepLower u_z u_M u_r u_d u_a u_lo u_hi u_ri u_t = ((2 : Int32), (s_R_keepL u_r u_d u_a u_M).2.2, (s_R_keepL u_r u_d u_a u_M).2.1) := (by unfold s_P_keepLower; rw [if_pos h1])
    rw [hsp] at hE
    exact hE _ _ _ _ hP hD hS d_P_keepLower_20
  ·
    refine lv_iconst (v := (0 : Int32)) hx hb d_P_keepLower_15 (by decide) ?_
    refine lv_goto (tgt := 20) hx hb d_P_keepLower_16 (by decide) ?_
    have hsp : s_P_keepLower u_z u_M u_r u_d u_a u_lo u_hi u_ri u_t = ((0 : Int32), (s_R_keepL u_r u_d u_a u_M).2.2, (s_R_keepL u_r u_d u_a u_M).2.1) := (by unfold s_P_keepLower; rw [if_neg h1])
    rw [hsp] at hE
    exact hE _ _ _ _ hP hD hS d_P_keepLower_20
set_option maxHeartbeats 4000000 in
set_option maxRecDepth 100000 in
theorem k_P_bringLowerBack (l : Launch) (D : va_G) (cI : ClassId) (sz : Nat) (xP : Nat) (xM : Nat) (xW : Nat) (xR : Nat) (xD : Nat) (xA : Nat) (xG : Nat) (xL : Nat) (xH : Nat) (xI : Nat) (xT : Nat) (u_z : Nat → Int32) (u_M : Nat → Int32) (u_r : Nat → Int32) (u_d : Nat → Int32) (u_a : Nat → Int32) (u_lo : Nat → Int32) (u_hi : Nat → Int32) (u_ri : Nat → Int32) (u_t : Nat → Int32) : zMi l y_P_bringLowerBack (.code y_P_bringLowerBack b_P_bringLowerBack 2 (some .int) :: wd) { frames := 3, cells := 0, slots := 0, locals := 68 } D classes [(cI, .int)] [.ref xP] [oP xP xM xR xG xT u_z, oM xM xW, ar cI xW 512 u_M, oR xR xD xA u_r, ar cI xD 8 u_d, ar cI xA 8 u_a, oG xG xL xH xI, ar cI xL 6 u_lo, ar cI xH 6 u_hi, ar cI xI 6 u_ri, oT xT u_t] [oP xP xM xR xG xT u_z, oM xM xW, ar cI xW 512 ((s_P_bringLowerBack u_z u_M u_r u_d u_a u_lo u_hi u_ri u_t).2.1), oR xR xD xA ((s_P_bringLowerBack u_z u_M u_r u_d u_a u_lo u_hi u_ri u_t).2.2.1), ar cI xD 8 ((s_P_bringLowerBack u_z u_M u_r u_d u_a u_lo u_hi u_ri u_t).2.2.2.1), ar cI xA 8 ((s_P_bringLowerBack u_z u_M u_r u_d u_a u_lo u_hi u_ri u_t).2.2.2.2), oG xG xL xH xI, ar cI xL 6 u_lo, ar cI xH 6 u_hi, ar cI xI 6 u_ri, oT xT u_t] sz (s_P_bringLowerBack u_z u_M u_r u_d u_a u_lo u_hi u_ri u_t).1 := by
  refine met_i (by decide) (Nat.le_of_ble_eq_true rfl) rfl ?_
  intro p e s m args below meth c A Q ls hx hb hml hown hts hK hP hD hS hA hl hE
  have hl : lv_has ls 2 [(0, .ref xP)] := hl
  have hown : s.vm.findClass R_P = some m.cls := hown
  refine lv_aload_n hx hb d_P_bringLowerBack_0 rfl (lv_at hl 0 rfl) ?_
  refine zz_get (C := R_P) (T := F_P) (N := 10) (v := .ref xR) hx hb hts in_P hown hK hP 0 rfl rfl 1 (by decide) mw_22 rfl d_P_bringLowerBack_1 ?_
  refine lv_iconst (v := (0 : Int32)) hx hb d_P_bringLowerBack_4 (by decide) ?_
  refine zz_rVi (rest := []) ⟨hx, hb, hml, hown, hts⟩ (k_R_refuseBackL l D cI _ xR xD xA u_r u_d u_a) g_P_bringLowerBack_R_refuseBack_201 nv_R_refuseBack ⟨⟨rfl, rfl⟩, Nat.le_of_ble_eq_true rfl, Nat.le_of_ble_eq_true rfl⟩ hK [0] rfl hP hD hS hA [3, 4, 5] rfl rfl 3 1 rfl rfl rfl rfl hl.1 (Nat.le_of_ble_eq_true rfl) d_P_bringLowerBack_5 ⟨Nat.zero_le _, Nat.zero_le _⟩ (fun H locs hP hD hS => ?_)
  refine lv_istore_n (lv' := [(1, .int (s_R_refuseBackL u_r u_d u_a)), (0, .ref xP)]) hx hb d_P_bringLowerBack_8 rfl hl (by decide) rfl (fun ls hl => ?_)
  refine lv_iload_n hx hb d_P_bringLowerBack_9 rfl (lv_at hl 0 rfl) ?_
  refine lv_if_ne (tgt := 25) hx hb d_P_bringLowerBack_10 (by decide) (fun h1 => ?_) (fun h1 => ?_)
  ·
    refine lv_iload_n hx hb d_P_bringLowerBack_25 rfl (lv_at hl 0 rfl) ?_
    have hsp : s_P_bringLowerBack u_z u_M u_r u_d u_a u_lo u_hi u_ri u_t = ((s_R_refuseBackL u_r u_d u_a), u_M, u_r, u_d, u_a) := (by unfold s_P_bringLowerBack; rw [if_neg h1])
    rw [hsp] at hE
    exact hE _ _ _ _ hP hD hS d_P_bringLowerBack_26
  ·
    refine lv_aload_n hx hb d_P_bringLowerBack_13 rfl (lv_at hl 1 rfl) ?_
    refine zz_get (C := R_P) (T := F_P) (N := 10) (v := .ref xR) hx hb hts in_P hown hK hP 0 rfl rfl 1 (by decide) mw_22 rfl d_P_bringLowerBack_14 ?_
    refine lv_aload_n hx hb d_P_bringLowerBack_17 rfl (lv_at hl 1 rfl) ?_
    refine zz_get (C := R_P) (T := F_P) (N := 10) (v := .ref xM) hx hb hts in_P hown hK hP 0 rfl rfl 0 (by decide) mw_24 rfl d_P_bringLowerBack_18 ?_
    refine lv_iconst (v := (0 : Int32)) hx hb d_P_bringLowerBack_21 (by decide) ?_
    refine zz_cVv (rest := []) (wr := [oP xP xM xR xG xT u_z, oG xG xL xH xI, ar cI xL 6 u_lo, ar cI xH 6 u_hi, ar cI xI 6 u_ri, oT xT u_t]) (w' := [oP xP xM xR xG xT u_z, oM xM xW, ar cI xW 512 ((s_R_bringBackL u_r u_d u_a u_M).2.2.2), oR xR xD xA ((s_R_bringBackL u_r u_d u_a u_M).1), ar cI xD 8 ((s_R_bringBackL u_r u_d u_a u_M).2.1), ar cI xA 8 ((s_R_bringBackL u_r u_d u_a u_M).2.2.1), oG xG xL xH xI, ar cI xL 6 u_lo, ar cI xH 6 u_hi, ar cI xI 6 u_ri, oT xT u_t]) ⟨hx, hb, hml, hown, hts⟩ (k_R_bringBackL l D cI _ xR xD xA xM xW u_r u_d u_a u_M) g_P_bringLowerBack_R_bringBack_207 nv_R_bringBack ⟨⟨rfl, rfl⟩, Nat.le_of_ble_eq_true rfl, Nat.le_of_ble_eq_true rfl⟩ hK [0] rfl hP hD hS hA [3, 4, 5, 1, 2] [0, 6, 7, 8, 9, 10] [0, 9, 10, 6, 7, 8, 1, 2, 3, 4, 5] rfl rfl rfl rfl (by decide) rfl rfl 3 1 rfl rfl rfl rfl hl.1 (Nat.le_of_ble_eq_true rfl) d_P_bringLowerBack_22 ⟨Nat.zero_le _, Nat.zero_le _⟩ (fun H locs hP hD hS => ?_)
    refine lv_iload_n hx hb d_P_bringLowerBack_25 rfl (lv_at hl 0 rfl) ?_
    have hsp : s_P_bringLowerBack u_z u_M u_r u_d u_a u_lo u_hi u_ri u_t = ((s_R_refuseBackL u_r u_d u_a), (s_R_bringBackL u_r u_d u_a u_M).2.2.2, (s_R_bringBackL u_r u_d u_a u_M).1, (s_R_bringBackL u_r u_d u_a u_M).2.1, (s_R_bringBackL u_r u_d u_a u_M).2.2.1) := (by unfold s_P_bringLowerBack; rw [if_pos h1])
    rw [hsp] at hE
    exact hE _ _ _ _ hP hD hS d_P_bringLowerBack_26
set_option maxHeartbeats 4000000 in
set_option maxRecDepth 100000 in
theorem k_P_openHandler (l : Launch) (D : va_G) (cI : ClassId) (sz : Nat) (xP : Nat) (xM : Nat) (xW : Nat) (xR : Nat) (xD : Nat) (xA : Nat) (xG : Nat) (xL : Nat) (xH : Nat) (xI : Nat) (xT : Nat) (u_z : Nat → Int32) (u_M : Nat → Int32) (u_r : Nat → Int32) (u_d : Nat → Int32) (u_a : Nat → Int32) (u_lo : Nat → Int32) (u_hi : Nat → Int32) (u_ri : Nat → Int32) (u_t : Nat → Int32) (a1 : Int32) : zMi l y_P_openHandler (.code y_P_openHandler b_P_openHandler 2 (some .int) :: wd) { frames := 3, cells := 0, slots := 0, locals := 68 } D classes [(cI, .int)] [.ref xP, .int a1] [oP xP xM xR xG xT u_z, oM xM xW, ar cI xW 512 u_M, oR xR xD xA u_r, ar cI xD 8 u_d, ar cI xA 8 u_a, oG xG xL xH xI, ar cI xL 6 u_lo, ar cI xH 6 u_hi, ar cI xI 6 u_ri, oT xT u_t] [oP xP xM xR xG xT u_z, oM xM xW, ar cI xW 512 ((s_P_openHandler u_z u_M u_r u_d u_a u_lo u_hi u_ri u_t a1).2.1), oR xR xD xA ((s_P_openHandler u_z u_M u_r u_d u_a u_lo u_hi u_ri u_t a1).2.2), ar cI xD 8 u_d, ar cI xA 8 u_a, oG xG xL xH xI, ar cI xL 6 u_lo, ar cI xH 6 u_hi, ar cI xI 6 u_ri, oT xT u_t] sz (s_P_openHandler u_z u_M u_r u_d u_a u_lo u_hi u_ri u_t a1).1 := by
  refine met_i (by decide) (Nat.le_of_ble_eq_true rfl) rfl ?_
  intro p e s m args below meth c A Q ls hx hb hml hown hts hK hP hD hS hA hl hE
  have hl : lv_has ls 2 [(0, .ref xP), (1, .int a1)] := hl
  have hown : s.vm.findClass R_P = some m.cls := hown
  refine lv_aload_n hx hb d_P_openHandler_0 rfl (lv_at hl 0 rfl) ?_
  refine zz_get (C := R_P) (T := F_P) (N := 10) (v := .ref xR) hx hb hts in_P hown hK hP 0 rfl rfl 1 (by decide) mw_22 rfl d_P_openHandler_1 ?_
  refine lv_aload_n hx hb d_P_openHandler_4 rfl (lv_at hl 0 rfl) ?_
  refine zz_get (C := R_P) (T := F_P) (N := 10) (v := .ref xM) hx hb hts in_P hown hK hP 0 rfl rfl 0 (by decide) mw_24 rfl d_P_openHandler_5 ?_
  refine lv_iconst (v := (0 : Int32)) hx hb d_P_openHandler_8 (by decide) ?_
  refine zz_cVi (rest := []) (wr := [oP xP xM xR xG xT u_z, oG xG xL xH xI, ar cI xL 6 u_lo, ar cI xH 6 u_hi, ar cI xI 6 u_ri, oT xT u_t]) (w' := [oP xP xM xR xG xT u_z, oM xM xW, ar cI xW 512 ((s_R_keepL u_r u_d u_a u_M).2.2), oR xR xD xA ((s_R_keepL u_r u_d u_a u_M).2.1), ar cI xD 8 u_d, ar cI xA 8 u_a, oG xG xL xH xI, ar cI xL 6 u_lo, ar cI xH 6 u_hi, ar cI xI 6 u_ri, oT xT u_t]) ⟨hx, hb, hml, hown, hts⟩ (k_R_keepL l D cI _ xR xD xA xM xW u_r u_d u_a u_M) g_P_openHandler_R_keep_87 nv_R_keep ⟨⟨rfl, rfl⟩, Nat.le_of_ble_eq_true rfl, Nat.le_of_ble_eq_true rfl⟩ hK [0] rfl hP hD hS hA [3, 4, 5, 1, 2] [0, 6, 7, 8, 9, 10] [0, 9, 10, 6, 7, 8, 1, 2, 3, 4, 5] rfl rfl rfl rfl (by decide) rfl rfl 3 1 rfl rfl rfl rfl hl.1 (Nat.le_of_ble_eq_true rfl) d_P_openHandler_9 ⟨Nat.zero_le _, Nat.zero_le _⟩ (fun H locs hP hD hS => ?_)
  refine lv_if_ne (tgt := 17) hx hb d_P_openHandler_12 (by decide) (fun h1 => ?_) (fun h1 => ?_)
  ·
    refine lv_aload_n hx hb d_P_openHandler_17 rfl (lv_at hl 0 rfl) ?_
    refine zz_get (C := R_P) (T := F_P) (N := 10) (v := .ref xR) hx hb hts in_P hown hK hP 0 rfl rfl 1 (by decide) mw_22 rfl d_P_openHandler_18 ?_
    refine lv_iload_n hx hb d_P_openHandler_21 rfl (lv_at hl 1 rfl) ?_
    refine zz_put (C := R_R) (T := F_R) (N := 12) (w' := [oP xP xM xR xG xT u_z, oM xM xW, ar cI xW 512 ((s_R_keepL u_r u_d u_a u_M).2.2), oR xR xD xA (upd ((s_R_keepL u_r u_d u_a u_M).2.1) 7 a1), ar cI xD 8 u_d, ar cI xA 8 u_a, oG xG xL xH xI, ar cI xL 6 u_lo, ar cI xH 6 u_hi, ar cI xI 6 u_ri, oT xT u_t]) hx hb hts in_R ty_R ty_R_ok n_R hown hK hP hD hS 3 rfl rfl 9 (by decide) mw_26 rfl rfl rfl (Nat.le_of_ble_eq_true rfl) d_P_openHandler_22 rfl (fun H locs hP hD hS => ?_)
    refine lv_aload_n hx hb d_P_openHandler_25 rfl (lv_at hl 0 rfl) ?_
    refine zz_get (C := R_P) (T := F_P) (N := 10) (v := .ref xR) hx hb hts in_P hown hK hP 0 rfl rfl 1 (by decide) mw_22 rfl d_P_openHandler_26 ?_
    refine lv_iconst (v := (1 : Int32)) hx hb d_P_openHandler_29 (by decide) ?_
    refine zz_put (C := R_R) (T := F_R) (N := 12) (w' := [oP xP xM xR xG xT u_z, oM xM xW, ar cI xW 512 ((s_R_keepL u_r u_d u_a u_M).2.2), oR xR xD xA (upd (upd ((s_R_keepL u_r u_d u_a u_M).2.1) 7 a1) 8 (1 : Int32)), ar cI xD 8 u_d, ar cI xA 8 u_a, oG xG xL xH xI, ar cI xL 6 u_lo, ar cI xH 6 u_hi, ar cI xI 6 u_ri, oT xT u_t]) hx hb hts in_R ty_R ty_R_ok n_R hown hK hP hD hS 3 rfl rfl 10 (by decide) mw_42 rfl rfl rfl (Nat.le_of_ble_eq_true rfl) d_P_openHandler_30 rfl (fun H locs hP hD hS => ?_)
    refine lv_iconst (v := (0 : Int32)) hx hb d_P_openHandler_33 (by decide) ?_
    have hsp : s_P_openHandler u_z u_M u_r u_d u_a u_lo u_hi u_ri u_t a1 = ((0 : Int32), (s_R_keepL u_r u_d u_a u_M).2.2, upd (upd ((s_R_keepL u_r u_d u_a u_M).2.1) 7 a1) 8 (1 : Int32)) := (by unfold s_P_openHandler; rw [if_neg h1])
    rw [hsp] at hE
    exact hE _ _ _ _ hP hD hS d_P_openHandler_34
  ·
    refine lv_iconst (v := (2 : Int32)) hx hb d_P_openHandler_15 (by decide) ?_
    have hsp : s_P_openHandler u_z u_M u_r u_d u_a u_lo u_hi u_ri u_t a1 = ((2 : Int32), (s_R_keepL u_r u_d u_a u_M).2.2, (s_R_keepL u_r u_d u_a u_M).2.1) := (by unfold s_P_openHandler; rw [if_pos h1])
    rw [hsp] at hE
    exact hE _ _ _ _ hP hD hS d_P_openHandler_16
set_option maxHeartbeats 4000000 in
set_option maxRecDepth 100000 in
theorem k_P_changeLevel (l : Launch) (D : va_G) (cI : ClassId) (sz : Nat) (xP : Nat) (xM : Nat) (xW : Nat) (xR : Nat) (xD : Nat) (xA : Nat) (xG : Nat) (xL : Nat) (xH : Nat) (xI : Nat) (xT : Nat) (u_z : Nat → Int32) (u_M : Nat → Int32) (u_r : Nat → Int32) (u_d : Nat → Int32) (u_a : Nat → Int32) (u_lo : Nat → Int32) (u_hi : Nat → Int32) (u_ri : Nat → Int32) (u_t : Nat → Int32) (a1 : Int32) : zMi l y_P_changeLevel (.code y_P_changeLevel b_P_changeLevel 2 (some .int) :: wd) { frames := 0, cells := 0, slots := 0, locals := 0 } D classes [(cI, .int)] [.ref xP, .int a1] [oP xP xM xR xG xT u_z, oM xM xW, ar cI xW 512 u_M, oR xR xD xA u_r, ar cI xD 8 u_d, ar cI xA 8 u_a, oG xG xL xH xI, ar cI xL 6 u_lo, ar cI xH 6 u_hi, ar cI xI 6 u_ri, oT xT u_t] [oP xP xM xR xG xT u_z, oM xM xW, ar cI xW 512 u_M, oR xR xD xA ((s_P_changeLevel u_z u_M u_r u_d u_a u_lo u_hi u_ri u_t a1).2), ar cI xD 8 u_d, ar cI xA 8 u_a, oG xG xL xH xI, ar cI xL 6 u_lo, ar cI xH 6 u_hi, ar cI xI 6 u_ri, oT xT u_t] sz (s_P_changeLevel u_z u_M u_r u_d u_a u_lo u_hi u_ri u_t a1).1 := by
  refine met_i (by decide) (Nat.le_of_ble_eq_true rfl) rfl ?_
  intro p e s m args below meth c A Q ls hx hb hml hown hts hK hP hD hS hA hl hE
  have hl : lv_has ls 2 [(0, .ref xP), (1, .int a1)] := hl
  have hown : s.vm.findClass R_P = some m.cls := hown
  refine lv_iload_n hx hb d_P_changeLevel_0 rfl (lv_at hl 1 rfl) ?_
  refine lv_aload_n hx hb d_P_changeLevel_1 rfl (lv_at hl 0 rfl) ?_
  refine zz_get (C := R_P) (T := F_P) (N := 10) (v := .ref xR) hx hb hts in_P hown hK hP 0 rfl rfl 1 (by decide) mw_22 rfl d_P_changeLevel_2 ?_
  refine zz_get (C := R_R) (T := F_R) (N := 12) (v := .int (u_r 4)) hx hb hts in_R hown hK hP 3 rfl rfl 6 (by decide) mw_23 rfl d_P_changeLevel_5 ?_
  refine lv_icmp_le (tgt := 15) hx hb d_P_changeLevel_8 (by decide) (fun h1 => ?_) (fun h1 => ?_)
  ·
    refine lv_aload_n hx hb d_P_changeLevel_15 rfl (lv_at hl 0 rfl) ?_
    refine zz_get (C := R_P) (T := F_P) (N := 10) (v := .ref xR) hx hb hts in_P hown hK hP 0 rfl rfl 1 (by decide) mw_22 rfl d_P_changeLevel_16 ?_
    refine lv_iload_n hx hb d_P_changeLevel_19 rfl (lv_at hl 1 rfl) ?_
    refine zz_put (C := R_R) (T := F_R) (N := 12) (w' := [oP xP xM xR xG xT u_z, oM xM xW, ar cI xW 512 u_M, oR xR xD xA (upd u_r 4 a1), ar cI xD 8 u_d, ar cI xA 8 u_a, oG xG xL xH xI, ar cI xL 6 u_lo, ar cI xH 6 u_hi, ar cI xI 6 u_ri, oT xT u_t]) hx hb hts in_R ty_R ty_R_ok n_R hown hK hP hD hS 3 rfl rfl 6 (by decide) mw_23 rfl rfl rfl (Nat.le_of_ble_eq_true rfl) d_P_changeLevel_20 rfl (fun H locs hP hD hS => ?_)
    refine lv_iconst (v := (0 : Int32)) hx hb d_P_changeLevel_23 (by decide) ?_
    have hsp : s_P_changeLevel u_z u_M u_r u_d u_a u_lo u_hi u_ri u_t a1 = ((0 : Int32), upd u_r 4 a1) := (by unfold s_P_changeLevel; rw [if_pos h1])
    rw [hsp] at hE
    exact hE _ _ _ _ hP hD hS d_P_changeLevel_24
  ·
    refine lv_sipush (v := (257 : Int32)) hx hb d_P_changeLevel_11 (by decide) ?_
    have hsp : s_P_changeLevel u_z u_M u_r u_d u_a u_lo u_hi u_ri u_t a1 = ((257 : Int32), u_r) := (by unfold s_P_changeLevel; rw [if_neg h1])
    rw [hsp] at hE
    exact hE _ _ _ _ hP hD hS d_P_changeLevel_14
