set_option maxHeartbeats 4000000 in
set_option maxRecDepth 100000 in
theorem k_C_put (l : Launch) (D : va_G) (cI : ClassId) (sz : Nat) (xC : Nat) (xP : Nat) (xM : Nat) (xW : Nat) (xR : Nat) (xD : Nat) (xA : Nat) (xG : Nat) (xL : Nat) (xH : Nat) (xI : Nat) (xT : Nat) (u_z : Nat → Int32) (u_M : Nat → Int32) (u_r : Nat → Int32) (u_d : Nat → Int32) (u_a : Nat → Int32) (u_lo : Nat → Int32) (u_hi : Nat → Int32) (u_ri : Nat → Int32) (u_t : Nat → Int32) (a1 : Int32) (a2 : Int32) : zMi l y_C_put (.code y_C_put b_C_put 3 (some .boolean) :: wd) { frames := 2, cells := 0, slots := 0, locals := 42 } D classes [(cI, .int)] [.ref xC, .int a1, .int a2] [oC xC xP, oP xP xM xR xG xT u_z, oM xM xW, ar cI xW 512 u_M, oR xR xD xA u_r, ar cI xD 8 u_d, ar cI xA 8 u_a, oG xG xL xH xI, ar cI xL 6 u_lo, ar cI xH 6 u_hi, ar cI xI 6 u_ri, oT xT u_t] [oC xC xP, oP xP xM xR xG xT u_z, oM xM xW, ar cI xW 512 ((s_C_put u_z u_M u_r u_d u_a u_lo u_hi u_ri u_t a1 a2).2), oR xR xD xA u_r, ar cI xD 8 u_d, ar cI xA 8 u_a, oG xG xL xH xI, ar cI xL 6 u_lo, ar cI xH 6 u_hi, ar cI xI 6 u_ri, oT xT u_t] sz (s_C_put u_z u_M u_r u_d u_a u_lo u_hi u_ri u_t a1 a2).1 := by
  refine met_i (by decide) (Nat.le_of_ble_eq_true rfl) (zz_nar (bo_C_put u_z u_M u_r u_d u_a u_lo u_hi u_ri u_t a1 a2)) ?_
  intro p e s m args below meth c A Q ls hx hb hml hown hts hK hP hD hS hA hl hE
  have hl : lv_has ls 3 [(0, .ref xC), (1, .int a1), (2, .int a2)] := hl
  have hown : s.vm.findClass R_C = some m.cls := hown
  refine lv_iload_n hx hb d_C_put_0 rfl (lv_at hl 1 rfl) ?_
  refine zz_cS0 (rest := []) ⟨hx, hb, hml, hown, hts⟩ (k_M_has l D cI _ a1) g_C_put_M_has_16 nd_M_has ⟨⟨rfl, rfl⟩, Nat.le_of_ble_eq_true rfl, Nat.le_of_ble_eq_true rfl⟩ hK hP hD hS hA rfl rfl hl.1 (Nat.le_of_ble_eq_true rfl) d_C_put_1 ⟨Nat.zero_le _, Nat.zero_le _⟩ (fun H locs hP hD hS => ?_)
  refine lv_if_ne (tgt := 9) hx hb d_C_put_4 (by decide) (fun h1 => ?_) (fun h1 => ?_)
  ·
    refine lv_aload_n hx hb d_C_put_9 rfl (lv_at hl 0 rfl) ?_
    refine zz_get (C := R_C) (T := F_C) (N := 1) (v := .ref xP) hx hb hts in_C hown hK hP 0 rfl rfl 0 (by decide) mw_43 rfl d_C_put_10 ?_
    refine zz_get (C := R_P) (T := F_P) (N := 10) (v := .ref xM) hx hb hts in_P hown hK hP 1 rfl rfl 0 (by decide) mw_44 rfl d_C_put_13 ?_
    refine lv_iload_n hx hb d_C_put_16 rfl (lv_at hl 1 rfl) ?_
    refine lv_iload_n hx hb d_C_put_17 rfl (lv_at hl 2 rfl) ?_
    refine zz_cVv (rest := []) (wr := [oC xC xP, oP xP xM xR xG xT u_z, oR xR xD xA u_r, ar cI xD 8 u_d, ar cI xA 8 u_a, oG xG xL xH xI, ar cI xL 6 u_lo, ar cI xH 6 u_hi, ar cI xI 6 u_ri, oT xT u_t]) (w' := [oC xC xP, oP xP xM xR xG xT u_z, oM xM xW, ar cI xW 512 (s_M_write u_M a1 a2), oR xR xD xA u_r, ar cI xD 8 u_d, ar cI xA 8 u_a, oG xG xL xH xI, ar cI xL 6 u_lo, ar cI xH 6 u_hi, ar cI xI 6 u_ri, oT xT u_t]) ⟨hx, hb, hml, hown, hts⟩ (k_M_write l D cI _ xM xW u_M a1 a2) g_C_put_M_write_26 nv_M_write ⟨⟨rfl, rfl⟩, Nat.le_of_ble_eq_true rfl, Nat.le_of_ble_eq_true rfl⟩ hK [0] rfl hP hD hS hA [2, 3] [0, 1, 4, 5, 6, 7, 8, 9, 10, 11] [0, 1, 10, 11, 2, 3, 4, 5, 6, 7, 8, 9] rfl rfl rfl rfl (by decide) rfl rfl 2 0 rfl rfl rfl rfl hl.1 (Nat.le_of_ble_eq_true rfl) d_C_put_18 ⟨Nat.zero_le _, Nat.zero_le _⟩ (fun H locs hP hD hS => ?_)
    refine lv_iconst (v := (1 : Int32)) hx hb d_C_put_21 (by decide) ?_
    have hsp : s_C_put u_z u_M u_r u_d u_a u_lo u_hi u_ri u_t a1 a2 = ((1 : Int32), (s_M_write u_M a1 a2)) := (by unfold s_C_put; rw [if_neg h1])
    rw [hsp] at hE
    exact hE _ _ _ _ hP hD hS d_C_put_22
  ·
    refine lv_iconst (v := (0 : Int32)) hx hb d_C_put_7 (by decide) ?_
    have hsp : s_C_put u_z u_M u_r u_d u_a u_lo u_hi u_ri u_t a1 a2 = ((0 : Int32), u_M) := (by unfold s_C_put; rw [if_pos h1])
    rw [hsp] at hE
    exact hE _ _ _ _ hP hD hS d_C_put_8
set_option maxHeartbeats 4000000 in
set_option maxRecDepth 100000 in
theorem k_C_pool (l : Launch) (D : va_G) (cI : ClassId) (sz : Nat) (xC : Nat) (xP : Nat) (xM : Nat) (xW : Nat) (xR : Nat) (xD : Nat) (xA : Nat) (xG : Nat) (xL : Nat) (xH : Nat) (xI : Nat) (xT : Nat) (u_z : Nat → Int32) (u_M : Nat → Int32) (u_r : Nat → Int32) (u_d : Nat → Int32) (u_a : Nat → Int32) (u_lo : Nat → Int32) (u_hi : Nat → Int32) (u_ri : Nat → Int32) (u_t : Nat → Int32) (a1 : Int32) (a2 : Int32) (hg : t_C_pool u_z u_M u_r u_d u_a u_lo u_hi u_ri u_t a1 a2 = 0) : zMv l y_C_pool (.code y_C_pool b_C_pool 3 (none) :: wd) { frames := 3, cells := 0, slots := 0, locals := 64 } D classes [(cI, .int)] [.ref xC, .int a1, .int a2] [oC xC xP, oP xP xM xR xG xT u_z, oM xM xW, ar cI xW 512 u_M, oR xR xD xA u_r, ar cI xD 8 u_d, ar cI xA 8 u_a, oG xG xL xH xI, ar cI xL 6 u_lo, ar cI xH 6 u_hi, ar cI xI 6 u_ri, oT xT u_t] [oC xC xP, oP xP xM xR xG xT u_z, oM xM xW, ar cI xW 512 ((s_C_pool u_z u_M u_r u_d u_a u_lo u_hi u_ri u_t a1 a2).1), oR xR xD xA ((s_C_pool u_z u_M u_r u_d u_a u_lo u_hi u_ri u_t a1 a2).2), ar cI xD 8 u_d, ar cI xA 8 u_a, oG xG xL xH xI, ar cI xL 6 u_lo, ar cI xH 6 u_hi, ar cI xI 6 u_ri, oT xT u_t] sz := by
  refine met_v (by decide) (Nat.le_of_ble_eq_true rfl) ?_
  intro p e s m args below meth c A Q ls hx hb hml hown hts hK hP hD hS hA hl hE
  have hl : lv_has ls 3 [(0, .ref xC), (1, .int a1), (2, .int a2)] := hl
  have hown : s.vm.findClass R_C = some m.cls := hown
  refine lv_iload_n hx hb d_C_pool_0 rfl (lv_at hl 1 rfl) ?_
  refine lv_if_lt (tgt := 20) hx hb d_C_pool_1 (by decide) (fun h1 => ?_) (fun h1 => ?_)
  ·
    exact absurd hg (by unfold t_C_pool; rw [if_pos h1]; decide)
  ·
    refine lv_iload_n hx hb d_C_pool_4 rfl (lv_at hl 1 rfl) ?_
    refine lv_bipush (v := (24 : Int32)) hx hb d_C_pool_5 (by decide) ?_
    refine lv_icmp_gt (tgt := 20) hx hb d_C_pool_7 (by decide) (fun h2 => ?_) (fun h2 => ?_)
    ·
      exact absurd hg (by unfold t_C_pool; rw [if_neg h1, if_pos h2]; decide)
    ·
      refine lv_iload_n hx hb d_C_pool_10 rfl (lv_at hl 2 rfl) ?_
      refine lv_if_lt (tgt := 20) hx hb d_C_pool_11 (by decide) (fun h3 => ?_) (fun h3 => ?_)
      ·
        exact absurd hg (by unfold t_C_pool; rw [if_neg h1, if_neg h2, if_pos h3]; decide)
      ·
        refine lv_iload_n hx hb d_C_pool_14 rfl (lv_at hl 2 rfl) ?_
        refine lv_bipush (v := (31 : Int32)) hx hb d_C_pool_15 (by decide) ?_
        refine lv_icmp_le (tgt := 30) hx hb d_C_pool_17 (by decide) (fun h4 => ?_) (fun h4 => ?_)
        ·
          refine lv_aload_n hx hb d_C_pool_30 rfl (lv_at hl 0 rfl) ?_
          refine zz_get (C := R_C) (T := F_C) (N := 1) (v := .ref xP) hx hb hts in_C hown hK hP 0 rfl rfl 0 (by decide) mw_43 rfl d_C_pool_31 ?_
          refine zz_get (C := R_P) (T := F_P) (N := 10) (v := .int (u_z 0)) hx hb hts in_P hown hK hP 1 rfl rfl 4 (by decide) mw_45 rfl d_C_pool_34 ?_
          refine lv_if_eq (tgt := 50) hx hb d_C_pool_37 (by decide) (fun h5 => ?_) (fun h5 => ?_)
          ·
            refine lv_aload_n hx hb d_C_pool_50 rfl (lv_at hl 0 rfl) ?_
            refine zz_get (C := R_C) (T := F_C) (N := 1) (v := .ref xP) hx hb hts in_C hown hK hP 0 rfl rfl 0 (by decide) mw_43 rfl d_C_pool_51 ?_
            refine zz_get (C := R_P) (T := F_P) (N := 10) (v := .ref xM) hx hb hts in_P hown hK hP 1 rfl rfl 0 (by decide) mw_44 rfl d_C_pool_54 ?_
            refine lv_iload_n hx hb d_C_pool_57 rfl (lv_at hl 1 rfl) ?_
            refine zz_cVv (rest := []) (wr := [oC xC xP, oP xP xM xR xG xT u_z, oR xR xD xA u_r, ar cI xD 8 u_d, ar cI xA 8 u_a, oG xG xL xH xI, ar cI xL 6 u_lo, ar cI xH 6 u_hi, ar cI xI 6 u_ri, oT xT u_t]) (w' := [oC xC xP, oP xP xM xR xG xT u_z, oM xM xW, ar cI xW 512 (s_M_chainAreas u_M a1), oR xR xD xA u_r, ar cI xD 8 u_d, ar cI xA 8 u_a, oG xG xL xH xI, ar cI xL 6 u_lo, ar cI xH 6 u_hi, ar cI xI 6 u_ri, oT xT u_t]) ⟨hx, hb, hml, hown, hts⟩ (k_M_chainAreas l D cI _ xM xW u_M a1 h2) g_C_pool_M_chainAreas_46 nv_M_chainAreas ⟨⟨rfl, rfl⟩, Nat.le_of_ble_eq_true rfl, Nat.le_of_ble_eq_true rfl⟩ hK [0] rfl hP hD hS hA [2, 3] [0, 1, 4, 5, 6, 7, 8, 9, 10, 11] [0, 1, 10, 11, 2, 3, 4, 5, 6, 7, 8, 9] rfl rfl rfl rfl (by decide) rfl rfl 2 0 rfl rfl rfl rfl hl.1 (Nat.le_of_ble_eq_true rfl) d_C_pool_58 ⟨Nat.zero_le _, Nat.zero_le _⟩ (fun H locs hP hD hS => ?_)
            refine lv_aload_n hx hb d_C_pool_61 rfl (lv_at hl 0 rfl) ?_
            refine zz_get (C := R_C) (T := F_C) (N := 1) (v := .ref xP) hx hb hts in_C hown hK hP 0 rfl rfl 0 (by decide) mw_43 rfl d_C_pool_62 ?_
            refine zz_get (C := R_P) (T := F_P) (N := 10) (v := .ref xR) hx hb hts in_P hown hK hP 1 rfl rfl 1 (by decide) mw_46 rfl d_C_pool_65 ?_
            refine lv_iload_n hx hb d_C_pool_68 rfl (lv_at hl 1 rfl) ?_
            have J69_6 : ∀ (vj69_0 : Int32) (ls : Array Slot) (H : Heap) (locs : List Loc), vj69_0 = (if a1 = 0 then (0 : Int32) else (1 : Int32)) → lv_has ls 3 [(0, .ref xC), (1, .int a1), (2, .int a2)] → va_P D classes [oC xC xP, oP xP xM xR xG xT u_z, oM xM xW, ar cI xW 512 (s_M_chainAreas u_M a1), oR xR xD xA u_r, ar cI xD 8 u_d, ar cI xA 8 u_a, oG xG xL xH xI, ar cI xL 6 u_lo, ar cI xH 6 u_hi, ar cI xI 6 u_ri, oT xT u_t] H → va_D A [oC xC xP, oP xP xM xR xG xT u_z, oM xM xW, ar cI xW 512 (s_M_chainAreas u_M a1), oR xR xD xA u_r, ar cI xD 8 u_d, ar cI xA 8 u_a, oG xG xL xH xI, ar cI xL 6 u_lo, ar cI xH 6 u_hi, ar cI xI 6 u_ri, oT xT u_t] → va_S A s.heap H locs → W p l e { frames := 3, cells := 0, slots := 0, locals := 64 } s m args below meth c H locs 0 0 Q (F0 m 77 ls [.int vj69_0, .ref xR]) := by
              intro vj69_0 ls H locs evj69_0 hl hP hD hS
              subst evj69_0
              refine zz_put (C := R_R) (T := F_R) (N := 12) (w' := [oC xC xP, oP xP xM xR xG xT u_z, oM xM xW, ar cI xW 512 (s_M_chainAreas u_M a1), oR xR xD xA (upd u_r 1 (if a1 = 0 then (0 : Int32) else (1 : Int32))), ar cI xD 8 u_d, ar cI xA 8 u_a, oG xG xL xH xI, ar cI xL 6 u_lo, ar cI xH 6 u_hi, ar cI xI 6 u_ri, oT xT u_t]) hx hb hts in_R ty_R ty_R_ok n_R hown hK hP hD hS 4 rfl rfl 3 (by decide) mw_47 rfl rfl rfl (Nat.le_of_ble_eq_true rfl) d_C_pool_77 rfl (fun H locs hP hD hS => ?_)
              refine lv_aload_n hx hb d_C_pool_80 rfl (lv_at hl 0 rfl) ?_
              refine zz_get (C := R_C) (T := F_C) (N := 1) (v := .ref xP) hx hb hts in_C hown hK hP 0 rfl rfl 0 (by decide) mw_43 rfl d_C_pool_81 ?_
              refine zz_get (C := R_P) (T := F_P) (N := 10) (v := .ref xR) hx hb hts in_P hown hK hP 1 rfl rfl 1 (by decide) mw_46 rfl d_C_pool_84 ?_
              refine lv_iload_n hx hb d_C_pool_87 rfl (lv_at hl 2 rfl) ?_
              refine zz_put (C := R_R) (T := F_R) (N := 12) (w' := [oC xC xP, oP xP xM xR xG xT u_z, oM xM xW, ar cI xW 512 (s_M_chainAreas u_M a1), oR xR xD xA (upd (upd u_r 1 (if a1 = 0 then (0 : Int32) else (1 : Int32))) 2 a2), ar cI xD 8 u_d, ar cI xA 8 u_a, oG xG xL xH xI, ar cI xL 6 u_lo, ar cI xH 6 u_hi, ar cI xI 6 u_ri, oT xT u_t]) hx hb hts in_R ty_R ty_R_ok n_R hown hK hP hD hS 4 rfl rfl 4 (by decide) mw_48 rfl rfl rfl (Nat.le_of_ble_eq_true rfl) d_C_pool_88 rfl (fun H locs hP hD hS => ?_)
              refine lv_aload_n hx hb d_C_pool_91 rfl (lv_at hl 0 rfl) ?_
              refine zz_get (C := R_C) (T := F_C) (N := 1) (v := .ref xP) hx hb hts in_C hown hK hP 0 rfl rfl 0 (by decide) mw_43 rfl d_C_pool_92 ?_
              refine zz_get (C := R_P) (T := F_P) (N := 10) (v := .ref xR) hx hb hts in_P hown hK hP 1 rfl rfl 1 (by decide) mw_46 rfl d_C_pool_95 ?_
              refine lv_iconst (v := (0 : Int32)) hx hb d_C_pool_98 (by decide) ?_
              refine zz_put (C := R_R) (T := F_R) (N := 12) (w' := [oC xC xP, oP xP xM xR xG xT u_z, oM xM xW, ar cI xW 512 (s_M_chainAreas u_M a1), oR xR xD xA (upd (upd (upd u_r 1 (if a1 = 0 then (0 : Int32) else (1 : Int32))) 2 a2) 3 (0 : Int32)), ar cI xD 8 u_d, ar cI xA 8 u_a, oG xG xL xH xI, ar cI xL 6 u_lo, ar cI xH 6 u_hi, ar cI xI 6 u_ri, oT xT u_t]) hx hb hts in_R ty_R ty_R_ok n_R hown hK hP hD hS 4 rfl rfl 5 (by decide) mw_49 rfl rfl rfl (Nat.le_of_ble_eq_true rfl) d_C_pool_99 rfl (fun H locs hP hD hS => ?_)
              show W p l e _ s m args below meth c _ _ _ _ Q (F0 m 102 ls _)
              have hsp : s_C_pool u_z u_M u_r u_d u_a u_lo u_hi u_ri u_t a1 a2 = ((s_M_chainAreas u_M a1), upd (upd (upd u_r 1 (if a1 = 0 then (0 : Int32) else (1 : Int32))) 2 a2) 3 (0 : Int32)) := (by unfold s_C_pool; rw [if_neg h1, if_neg h2, if_neg h3, if_pos h4, if_pos h5])
              rw [hsp] at hE
              exact hE _ _ _ _ hP hD hS d_C_pool_102
            refine lv_if_ne (tgt := 76) hx hb d_C_pool_69 (by decide) (fun h6 => ?_) (fun h6 => ?_)
            ·
              refine lv_iconst (v := (1 : Int32)) hx hb d_C_pool_76 (by decide) ?_
              exact J69_6 (1 : Int32) _ _ _ (by rw [if_neg h6]) (lv_sub hl [0, 1, 2] rfl) hP hD hS
            ·
              refine lv_iconst (v := (0 : Int32)) hx hb d_C_pool_72 (by decide) ?_
              refine lv_goto (tgt := 77) hx hb d_C_pool_73 (by decide) ?_
              exact J69_6 (0 : Int32) _ _ _ (by rw [if_pos h6]) (lv_sub hl [0, 1, 2] rfl) hP hD hS
          ·
            exact absurd hg (by unfold t_C_pool; rw [if_neg h1, if_neg h2, if_neg h3, if_pos h4, if_neg h5]; decide)
        ·
          exact absurd hg (by unfold t_C_pool; rw [if_neg h1, if_neg h2, if_neg h3, if_neg h4]; decide)
set_option maxHeartbeats 4000000 in
set_option maxRecDepth 100000 in
theorem k_C_tables (l : Launch) (D : va_G) (cI : ClassId) (sz : Nat) (xC : Nat) (xP : Nat) (xM : Nat) (xW : Nat) (xR : Nat) (xD : Nat) (xA : Nat) (xG : Nat) (xL : Nat) (xH : Nat) (xI : Nat) (xT : Nat) (u_z : Nat → Int32) (u_M : Nat → Int32) (u_r : Nat → Int32) (u_d : Nat → Int32) (u_a : Nat → Int32) (u_lo : Nat → Int32) (u_hi : Nat → Int32) (u_ri : Nat → Int32) (u_t : Nat → Int32) (a1 : Int32) (a2 : Int32) : zMv l y_C_tables (.code y_C_tables b_C_tables 3 (none) :: wd) { frames := 0, cells := 0, slots := 0, locals := 0 } D classes [(cI, .int)] [.ref xC, .int a1, .int a2] [oC xC xP, oP xP xM xR xG xT u_z, oM xM xW, ar cI xW 512 u_M, oR xR xD xA u_r, ar cI xD 8 u_d, ar cI xA 8 u_a, oG xG xL xH xI, ar cI xL 6 u_lo, ar cI xH 6 u_hi, ar cI xI 6 u_ri, oT xT u_t] [oC xC xP, oP xP xM xR xG xT (s_C_tables u_z u_M u_r u_d u_a u_lo u_hi u_ri u_t a1 a2), oM xM xW, ar cI xW 512 u_M, oR xR xD xA u_r, ar cI xD 8 u_d, ar cI xA 8 u_a, oG xG xL xH xI, ar cI xL 6 u_lo, ar cI xH 6 u_hi, ar cI xI 6 u_ri, oT xT u_t] sz := by
  refine met_v (by decide) (Nat.le_of_ble_eq_true rfl) ?_
  intro p e s m args below meth c A Q ls hx hb hml hown hts hK hP hD hS hA hl hE
  have hl : lv_has ls 3 [(0, .ref xC), (1, .int a1), (2, .int a2)] := hl
  have hown : s.vm.findClass R_C = some m.cls := hown
  refine lv_aload_n hx hb d_C_tables_0 rfl (lv_at hl 0 rfl) ?_
  refine zz_get (C := R_C) (T := F_C) (N := 1) (v := .ref xP) hx hb hts in_C hown hK hP 0 rfl rfl 0 (by decide) mw_43 rfl d_C_tables_1 ?_
  refine lv_iload_n hx hb d_C_tables_4 rfl (lv_at hl 1 rfl) ?_
  refine zz_put (C := R_P) (T := F_P) (N := 10) (w' := [oC xC xP, oP xP xM xR xG xT (upd u_z 2 a1), oM xM xW, ar cI xW 512 u_M, oR xR xD xA u_r, ar cI xD 8 u_d, ar cI xA 8 u_a, oG xG xL xH xI, ar cI xL 6 u_lo, ar cI xH 6 u_hi, ar cI xI 6 u_ri, oT xT u_t]) hx hb hts in_P ty_P ty_P_ok n_P hown hK hP hD hS 1 rfl rfl 6 (by decide) mw_50 rfl rfl rfl (Nat.le_of_ble_eq_true rfl) d_C_tables_5 rfl (fun H locs hP hD hS => ?_)
  refine lv_aload_n hx hb d_C_tables_8 rfl (lv_at hl 0 rfl) ?_
  refine zz_get (C := R_C) (T := F_C) (N := 1) (v := .ref xP) hx hb hts in_C hown hK hP 0 rfl rfl 0 (by decide) mw_43 rfl d_C_tables_9 ?_
  refine lv_iload_n hx hb d_C_tables_12 rfl (lv_at hl 2 rfl) ?_
  refine zz_put (C := R_P) (T := F_P) (N := 10) (w' := [oC xC xP, oP xP xM xR xG xT (upd (upd u_z 2 a1) 3 a2), oM xM xW, ar cI xW 512 u_M, oR xR xD xA u_r, ar cI xD 8 u_d, ar cI xA 8 u_a, oG xG xL xH xI, ar cI xL 6 u_lo, ar cI xH 6 u_hi, ar cI xI 6 u_ri, oT xT u_t]) hx hb hts in_P ty_P ty_P_ok n_P hown hK hP hD hS 1 rfl rfl 7 (by decide) mw_51 rfl rfl rfl (Nat.le_of_ble_eq_true rfl) d_C_tables_13 rfl (fun H locs hP hD hS => ?_)
  have hsp : s_C_tables u_z u_M u_r u_d u_a u_lo u_hi u_ri u_t a1 a2 = (upd (upd u_z 2 a1) 3 a2) := rfl
  rw [hsp] at hE
  exact hE _ _ _ _ hP hD hS d_C_tables_16
set_option maxHeartbeats 4000000 in
set_option maxRecDepth 100000 in
theorem k_C_range (l : Launch) (D : va_G) (cI : ClassId) (sz : Nat) (xC : Nat) (xP : Nat) (xM : Nat) (xW : Nat) (xR : Nat) (xD : Nat) (xA : Nat) (xG : Nat) (xL : Nat) (xH : Nat) (xI : Nat) (xT : Nat) (u_z : Nat → Int32) (u_M : Nat → Int32) (u_r : Nat → Int32) (u_d : Nat → Int32) (u_a : Nat → Int32) (u_lo : Nat → Int32) (u_hi : Nat → Int32) (u_ri : Nat → Int32) (u_t : Nat → Int32) (a1 : Int32) (a2 : Int32) (a3 : Int32) (a4 : Int32) (a5 : Int32) (hg : t_C_range u_z u_M u_r u_d u_a u_lo u_hi u_ri u_t a1 a2 a3 a4 a5 = 0) : zMv l y_C_range (.code y_C_range b_C_range 6 (none) :: wd) { frames := 1, cells := 0, slots := 0, locals := 24 } D classes [(cI, .int)] [.ref xC, .int a1, .int a2, .int a3, .int a4, .int a5] [oC xC xP, oP xP xM xR xG xT u_z, oM xM xW, ar cI xW 512 u_M, oR xR xD xA u_r, ar cI xD 8 u_d, ar cI xA 8 u_a, oG xG xL xH xI, ar cI xL 6 u_lo, ar cI xH 6 u_hi, ar cI xI 6 u_ri, oT xT u_t] [oC xC xP, oP xP xM xR xG xT u_z, oM xM xW, ar cI xW 512 u_M, oR xR xD xA u_r, ar cI xD 8 u_d, ar cI xA 8 u_a, oG xG xL xH xI, ar cI xL 6 ((s_C_range u_z u_M u_r u_d u_a u_lo u_hi u_ri u_t a1 a2 a3 a4 a5).1), ar cI xH 6 ((s_C_range u_z u_M u_r u_d u_a u_lo u_hi u_ri u_t a1 a2 a3 a4 a5).2.1), ar cI xI 6 ((s_C_range u_z u_M u_r u_d u_a u_lo u_hi u_ri u_t a1 a2 a3 a4 a5).2.2), oT xT u_t] sz := by
  refine met_v (by decide) (Nat.le_of_ble_eq_true rfl) ?_
  intro p e s m args below meth c A Q ls hx hb hml hown hts hK hP hD hS hA hl hE
  have hl : lv_has ls 6 [(0, .ref xC), (1, .int a1), (2, .int a2), (3, .int a3), (4, .int a4), (5, .int a5)] := hl
  have hown : s.vm.findClass R_C = some m.cls := hown
  refine lv_iload_n hx hb d_C_range_0 rfl (lv_at hl 1 rfl) ?_
  refine lv_if_lt (tgt := 18) hx hb d_C_range_1 (by decide) (fun h1 => ?_) (fun h1 => ?_)
  ·
    exact absurd hg (by unfold t_C_range; rw [if_pos h1]; decide)
  ·
    refine lv_iload_n hx hb d_C_range_4 rfl (lv_at hl 1 rfl) ?_
    refine lv_iconst (v := (2 : Int32)) hx hb d_C_range_5 (by decide) ?_
    refine lv_icmp_ge (tgt := 18) hx hb d_C_range_6 (by decide) (fun h2 => ?_) (fun h2 => ?_)
    ·
      exact absurd hg (by unfold t_C_range; rw [if_neg h1, if_pos h2]; decide)
    ·
      refine lv_iload_n hx hb d_C_range_9 rfl (lv_at hl 2 rfl) ?_
      refine lv_if_lt (tgt := 18) hx hb d_C_range_10 (by decide) (fun h3 => ?_) (fun h3 => ?_)
      ·
        exact absurd hg (by unfold t_C_range; rw [if_neg h1, if_neg h2, if_pos h3]; decide)
      ·
        refine lv_iload_n hx hb d_C_range_13 rfl (lv_at hl 2 rfl) ?_
        refine lv_iconst (v := (3 : Int32)) hx hb d_C_range_14 (by decide) ?_
        refine lv_icmp_lt (tgt := 28) hx hb d_C_range_15 (by decide) (fun h4 => ?_) (fun h4 => ?_)
        ·
          refine lv_iload hx hb d_C_range_28 (lv_at hl 5 rfl) ?_
          refine lv_if_lt (tgt := 39) hx hb d_C_range_30 (by decide) (fun h5 => ?_) (fun h5 => ?_)
          ·
            exact absurd hg (by unfold t_C_range; rw [if_neg h1, if_neg h2, if_neg h3, if_pos h4, if_pos h5]; decide)
          ·
            refine lv_iload hx hb d_C_range_33 (lv_at hl 5 rfl) ?_
            refine lv_iconst (v := (3 : Int32)) hx hb d_C_range_35 (by decide) ?_
            refine lv_icmp_le (tgt := 49) hx hb d_C_range_36 (by decide) (fun h6 => ?_) (fun h6 => ?_)
            ·
              refine lv_aload_n hx hb d_C_range_49 rfl (lv_at hl 0 rfl) ?_
              refine zz_get (C := R_C) (T := F_C) (N := 1) (v := .ref xP) hx hb hts in_C hown hK hP 0 rfl rfl 0 (by decide) mw_43 rfl d_C_range_50 ?_
              refine zz_get (C := R_P) (T := F_P) (N := 10) (v := .ref xG) hx hb hts in_P hown hK hP 1 rfl rfl 2 (by decide) mw_52 rfl d_C_range_53 ?_
              refine lv_iload_n hx hb d_C_range_56 rfl (lv_at hl 1 rfl) ?_
              refine lv_iconst (v := (3 : Int32)) hx hb d_C_range_57 (by decide) ?_
              refine lv_imul hx hb d_C_range_58 ?_
              refine lv_iload_n hx hb d_C_range_59 rfl (lv_at hl 2 rfl) ?_
              refine lv_iadd hx hb d_C_range_60 ?_
              refine lv_iload_n hx hb d_C_range_61 rfl (lv_at hl 3 rfl) ?_
              refine lv_iload hx hb d_C_range_62 (lv_at hl 4 rfl) ?_
              refine lv_iload hx hb d_C_range_64 (lv_at hl 5 rfl) ?_
              show W p l e _ s m args below meth c _ _ _ _ Q (F0 m 66 ls _)
              refine zz_cVv (rest := []) (wr := [oC xC xP, oP xP xM xR xG xT u_z, oM xM xW, ar cI xW 512 u_M, oR xR xD xA u_r, ar cI xD 8 u_d, ar cI xA 8 u_a, oT xT u_t]) (w' := [oC xC xP, oP xP xM xR xG xT u_z, oM xM xW, ar cI xW 512 u_M, oR xR xD xA u_r, ar cI xD 8 u_d, ar cI xA 8 u_a, oG xG xL xH xI, ar cI xL 6 ((s_G_change u_lo u_hi u_ri ((a1 * (3 : Int32)) + a2) a3 a4 a5).1), ar cI xH 6 ((s_G_change u_lo u_hi u_ri ((a1 * (3 : Int32)) + a2) a3 a4 a5).2.1), ar cI xI 6 ((s_G_change u_lo u_hi u_ri ((a1 * (3 : Int32)) + a2) a3 a4 a5).2.2), oT xT u_t]) ⟨hx, hb, hml, hown, hts⟩ (k_G_change l D cI _ xG xL xH xI u_lo u_hi u_ri ((a1 * (3 : Int32)) + a2) a3 a4 a5 (in_range h1 h2 h3 h4)) g_C_range_G_change_80 nv_G_change ⟨⟨rfl, rfl⟩, Nat.le_of_ble_eq_true rfl, Nat.le_of_ble_eq_true rfl⟩ hK [0] rfl hP hD hS hA [7, 8, 9, 10] [0, 1, 2, 3, 4, 5, 6, 11] [0, 1, 2, 3, 4, 5, 6, 8, 9, 10, 11, 7] rfl rfl rfl rfl (by decide) rfl rfl 7 2 rfl rfl rfl rfl hl.1 (Nat.le_of_ble_eq_true rfl) d_C_range_66 ⟨Nat.zero_le _, Nat.zero_le _⟩ (fun H locs hP hD hS => ?_)
              have hsp : s_C_range u_z u_M u_r u_d u_a u_lo u_hi u_ri u_t a1 a2 a3 a4 a5 = ((s_G_change u_lo u_hi u_ri ((a1 * (3 : Int32)) + a2) a3 a4 a5).1, (s_G_change u_lo u_hi u_ri ((a1 * (3 : Int32)) + a2) a3 a4 a5).2.1, (s_G_change u_lo u_hi u_ri ((a1 * (3 : Int32)) + a2) a3 a4 a5).2.2) := (by unfold s_C_range; rw [if_neg h1, if_neg h2, if_neg h3, if_pos h4, if_neg h5, if_pos h6])
              rw [hsp] at hE
              exact hE _ _ _ _ hP hD hS d_C_range_69
            ·
              exact absurd hg (by unfold t_C_range; rw [if_neg h1, if_neg h2, if_neg h3, if_pos h4, if_neg h5, if_neg h6]; decide)
        ·
          exact absurd hg (by unfold t_C_range; rw [if_neg h1, if_neg h2, if_neg h3, if_neg h4]; decide)
set_option maxHeartbeats 4000000 in
set_option maxRecDepth 100000 in
theorem k_C_guard (l : Launch) (D : va_G) (cI : ClassId) (sz : Nat) (xC : Nat) (xP : Nat) (xM : Nat) (xW : Nat) (xR : Nat) (xD : Nat) (xA : Nat) (xG : Nat) (xL : Nat) (xH : Nat) (xI : Nat) (xT : Nat) (u_z : Nat → Int32) (u_M : Nat → Int32) (u_r : Nat → Int32) (u_d : Nat → Int32) (u_a : Nat → Int32) (u_lo : Nat → Int32) (u_hi : Nat → Int32) (u_ri : Nat → Int32) (u_t : Nat → Int32) (a1 : Int32) (hb_a1 : a1 = 0 ∨ a1 = 1) : zMv l y_C_guard (.code y_C_guard b_C_guard 2 (none) :: wd) { frames := 0, cells := 0, slots := 0, locals := 0 } D classes [(cI, .int)] [.ref xC, .int a1] [oC xC xP, oP xP xM xR xG xT u_z, oM xM xW, ar cI xW 512 u_M, oR xR xD xA u_r, ar cI xD 8 u_d, ar cI xA 8 u_a, oG xG xL xH xI, ar cI xL 6 u_lo, ar cI xH 6 u_hi, ar cI xI 6 u_ri, oT xT u_t] [oC xC xP, oP xP xM xR xG xT (s_C_guard u_z u_M u_r u_d u_a u_lo u_hi u_ri u_t a1), oM xM xW, ar cI xW 512 u_M, oR xR xD xA u_r, ar cI xD 8 u_d, ar cI xA 8 u_a, oG xG xL xH xI, ar cI xL 6 u_lo, ar cI xH 6 u_hi, ar cI xI 6 u_ri, oT xT u_t] sz := by
  refine met_v (by decide) (Nat.le_of_ble_eq_true rfl) ?_
  intro p e s m args below meth c A Q ls hx hb hml hown hts hK hP hD hS hA hl hE
  have hl : lv_has ls 2 [(0, .ref xC), (1, .int a1)] := hl
  have hown : s.vm.findClass R_C = some m.cls := hown
  refine lv_aload_n hx hb d_C_guard_0 rfl (lv_at hl 0 rfl) ?_
  refine zz_get (C := R_C) (T := F_C) (N := 1) (v := .ref xP) hx hb hts in_C hown hK hP 0 rfl rfl 0 (by decide) mw_43 rfl d_C_guard_1 ?_
  refine lv_iload_n hx hb d_C_guard_4 rfl (lv_at hl 1 rfl) ?_
  refine zz_put (C := R_P) (T := F_P) (N := 10) (w' := [oC xC xP, oP xP xM xR xG xT (upd u_z 1 a1), oM xM xW, ar cI xW 512 u_M, oR xR xD xA u_r, ar cI xD 8 u_d, ar cI xA 8 u_a, oG xG xL xH xI, ar cI xL 6 u_lo, ar cI xH 6 u_hi, ar cI xI 6 u_ri, oT xT u_t]) hx hb hts in_P ty_P ty_P_ok n_P hown hK hP hD hS 1 rfl rfl 5 (by decide) mw_53 rfl (zz_nar hb_a1) (zz_fit hb_a1) (Nat.le_of_ble_eq_true rfl) d_C_guard_5 rfl (fun H locs hP hD hS => ?_)
  have hsp : s_C_guard u_z u_M u_r u_d u_a u_lo u_hi u_ri u_t a1 = (upd u_z 1 a1) := rfl
  rw [hsp] at hE
  exact hE _ _ _ _ hP hD hS d_C_guard_8
set_option maxHeartbeats 4000000 in
set_option maxRecDepth 100000 in
theorem k_C_timer (l : Launch) (D : va_G) (cI : ClassId) (sz : Nat) (xC : Nat) (xP : Nat) (xM : Nat) (xW : Nat) (xR : Nat) (xD : Nat) (xA : Nat) (xG : Nat) (xL : Nat) (xH : Nat) (xI : Nat) (xT : Nat) (u_z : Nat → Int32) (u_M : Nat → Int32) (u_r : Nat → Int32) (u_d : Nat → Int32) (u_a : Nat → Int32) (u_lo : Nat → Int32) (u_hi : Nat → Int32) (u_ri : Nat → Int32) (u_t : Nat → Int32) (a1 : Int32) (a2 : Int32) (hg : t_C_timer u_z u_M u_r u_d u_a u_lo u_hi u_ri u_t a1 a2 = 0) : zMv l y_C_timer (.code y_C_timer b_C_timer 3 (none) :: wd) { frames := 1, cells := 0, slots := 0, locals := 20 } D classes [(cI, .int)] [.ref xC, .int a1, .int a2] [oC xC xP, oP xP xM xR xG xT u_z, oM xM xW, ar cI xW 512 u_M, oR xR xD xA u_r, ar cI xD 8 u_d, ar cI xA 8 u_a, oG xG xL xH xI, ar cI xL 6 u_lo, ar cI xH 6 u_hi, ar cI xI 6 u_ri, oT xT u_t] [oC xC xP, oP xP xM xR xG xT u_z, oM xM xW, ar cI xW 512 u_M, oR xR xD xA u_r, ar cI xD 8 u_d, ar cI xA 8 u_a, oG xG xL xH xI, ar cI xL 6 u_lo, ar cI xH 6 u_hi, ar cI xI 6 u_ri, oT xT (s_C_timer u_z u_M u_r u_d u_a u_lo u_hi u_ri u_t a1 a2)] sz := by
  refine met_v (by decide) (Nat.le_of_ble_eq_true rfl) ?_
  intro p e s m args below meth c A Q ls hx hb hml hown hts hK hP hD hS hA hl hE
  have hl : lv_has ls 3 [(0, .ref xC), (1, .int a1), (2, .int a2)] := hl
  have hown : s.vm.findClass R_C = some m.cls := hown
  refine lv_iload_n hx hb d_C_timer_0 rfl (lv_at hl 1 rfl) ?_
  refine lv_if_lt (tgt := 11) hx hb d_C_timer_1 (by decide) (fun h1 => ?_) (fun h1 => ?_)
  ·
    exact absurd hg (by unfold t_C_timer; rw [if_pos h1]; decide)
  ·
    refine lv_iload_n hx hb d_C_timer_4 rfl (lv_at hl 2 rfl) ?_
    refine zz_cS0 (rest := []) ⟨hx, hb, hml, hown, hts⟩ (k_T_has l D cI _ a2) g_C_timer_T_has_89 nd_T_has ⟨⟨rfl, rfl⟩, Nat.le_of_ble_eq_true rfl, Nat.le_of_ble_eq_true rfl⟩ hK hP hD hS hA rfl rfl hl.1 (Nat.le_of_ble_eq_true rfl) d_C_timer_5 ⟨Nat.zero_le _, Nat.zero_le _⟩ (fun H locs hP hD hS => ?_)
    refine lv_if_ne (tgt := 21) hx hb d_C_timer_8 (by decide) (fun h2 => ?_) (fun h2 => ?_)
    ·
      refine lv_aload_n hx hb d_C_timer_21 rfl (lv_at hl 0 rfl) ?_
      refine zz_get (C := R_C) (T := F_C) (N := 1) (v := .ref xP) hx hb hts in_C hown hK hP 0 rfl rfl 0 (by decide) mw_43 rfl d_C_timer_22 ?_
      refine zz_get (C := R_P) (T := F_P) (N := 10) (v := .ref xT) hx hb hts in_P hown hK hP 1 rfl rfl 3 (by decide) mw_54 rfl d_C_timer_25 ?_
      refine lv_iload_n hx hb d_C_timer_28 rfl (lv_at hl 1 rfl) ?_
      refine zz_put (C := R_T) (T := F_T) (N := 5) (w' := [oC xC xP, oP xP xM xR xG xT u_z, oM xM xW, ar cI xW 512 u_M, oR xR xD xA u_r, ar cI xD 8 u_d, ar cI xA 8 u_a, oG xG xL xH xI, ar cI xL 6 u_lo, ar cI xH 6 u_hi, ar cI xI 6 u_ri, oT xT (upd u_t 1 a1)]) hx hb hts in_T ty_T ty_T_ok n_T hown hK hP hD hS 11 rfl rfl 1 (by decide) mw_55 rfl rfl rfl (Nat.le_of_ble_eq_true rfl) d_C_timer_29 rfl (fun H locs hP hD hS => ?_)
      refine lv_aload_n hx hb d_C_timer_32 rfl (lv_at hl 0 rfl) ?_
      refine zz_get (C := R_C) (T := F_C) (N := 1) (v := .ref xP) hx hb hts in_C hown hK hP 0 rfl rfl 0 (by decide) mw_43 rfl d_C_timer_33 ?_
      refine zz_get (C := R_P) (T := F_P) (N := 10) (v := .ref xT) hx hb hts in_P hown hK hP 1 rfl rfl 3 (by decide) mw_54 rfl d_C_timer_36 ?_
      refine lv_iload_n hx hb d_C_timer_39 rfl (lv_at hl 2 rfl) ?_
      refine zz_put (C := R_T) (T := F_T) (N := 5) (w' := [oC xC xP, oP xP xM xR xG xT u_z, oM xM xW, ar cI xW 512 u_M, oR xR xD xA u_r, ar cI xD 8 u_d, ar cI xA 8 u_a, oG xG xL xH xI, ar cI xL 6 u_lo, ar cI xH 6 u_hi, ar cI xI 6 u_ri, oT xT (upd (upd u_t 1 a1) 2 a2)]) hx hb hts in_T ty_T ty_T_ok n_T hown hK hP hD hS 11 rfl rfl 2 (by decide) mw_56 rfl rfl rfl (Nat.le_of_ble_eq_true rfl) d_C_timer_40 rfl (fun H locs hP hD hS => ?_)
      have hsp : s_C_timer u_z u_M u_r u_d u_a u_lo u_hi u_ri u_t a1 a2 = (upd (upd u_t 1 a1) 2 a2) := (by unfold s_C_timer; rw [if_neg h1, if_neg h2])
      rw [hsp] at hE
      exact hE _ _ _ _ hP hD hS d_C_timer_43
    ·
      exact absurd hg (by unfold t_C_timer; rw [if_neg h1, if_pos h2]; decide)
set_option maxHeartbeats 4000000 in
set_option maxRecDepth 100000 in
theorem k_C_request (l : Launch) (D : va_G) (cI : ClassId) (sz : Nat) (xC : Nat) (xP : Nat) (xM : Nat) (xW : Nat) (xR : Nat) (xD : Nat) (xA : Nat) (xG : Nat) (xL : Nat) (xH : Nat) (xI : Nat) (xT : Nat) (u_z : Nat → Int32) (u_M : Nat → Int32) (u_r : Nat → Int32) (u_d : Nat → Int32) (u_a : Nat → Int32) (u_lo : Nat → Int32) (u_hi : Nat → Int32) (u_ri : Nat → Int32) (u_t : Nat → Int32) (a1 : Int32) : zMi l y_C_request (.code y_C_request b_C_request 2 (some .boolean) :: wd) { frames := 1, cells := 0, slots := 0, locals := 21 } D classes [(cI, .int)] [.ref xC, .int a1] [oC xC xP, oP xP xM xR xG xT u_z, oM xM xW, ar cI xW 512 u_M, oR xR xD xA u_r, ar cI xD 8 u_d, ar cI xA 8 u_a, oG xG xL xH xI, ar cI xL 6 u_lo, ar cI xH 6 u_hi, ar cI xI 6 u_ri, oT xT u_t] [oC xC xP, oP xP xM xR xG xT u_z, oM xM xW, ar cI xW 512 u_M, oR xR xD xA u_r, ar cI xD 8 u_d, ar cI xA 8 u_a, oG xG xL xH xI, ar cI xL 6 u_lo, ar cI xH 6 u_hi, ar cI xI 6 u_ri, oT xT ((s_C_request u_z u_M u_r u_d u_a u_lo u_hi u_ri u_t a1).2)] sz (s_C_request u_z u_M u_r u_d u_a u_lo u_hi u_ri u_t a1).1 := by
  refine met_i (by decide) (Nat.le_of_ble_eq_true rfl) (zz_nar (bo_C_request u_z u_M u_r u_d u_a u_lo u_hi u_ri u_t a1)) ?_
  intro p e s m args below meth c A Q ls hx hb hml hown hts hK hP hD hS hA hl hE
  have hl : lv_has ls 2 [(0, .ref xC), (1, .int a1)] := hl
  have hown : s.vm.findClass R_C = some m.cls := hown
  refine lv_iload_n hx hb d_C_request_0 rfl (lv_at hl 1 rfl) ?_
  refine zz_cS0 (rest := []) ⟨hx, hb, hml, hown, hts⟩ (k_T_has l D cI _ a1) g_C_request_T_has_89 nd_T_has ⟨⟨rfl, rfl⟩, Nat.le_of_ble_eq_true rfl, Nat.le_of_ble_eq_true rfl⟩ hK hP hD hS hA rfl rfl hl.1 (Nat.le_of_ble_eq_true rfl) d_C_request_1 ⟨Nat.zero_le _, Nat.zero_le _⟩ (fun H locs hP hD hS => ?_)
  refine lv_if_eq (tgt := 21) hx hb d_C_request_4 (by decide) (fun h1 => ?_) (fun h1 => ?_)
  ·
    refine lv_iconst (v := (0 : Int32)) hx hb d_C_request_21 (by decide) ?_
    have hsp : s_C_request u_z u_M u_r u_d u_a u_lo u_hi u_ri u_t a1 = ((0 : Int32), u_t) := (by unfold s_C_request; rw [if_pos h1])
    rw [hsp] at hE
    exact hE _ _ _ _ hP hD hS d_C_request_22
  ·
    refine lv_aload_n hx hb d_C_request_7 rfl (lv_at hl 0 rfl) ?_
    refine zz_get (C := R_C) (T := F_C) (N := 1) (v := .ref xP) hx hb hts in_C hown hK hP 0 rfl rfl 0 (by decide) mw_43 rfl d_C_request_8 ?_
    refine zz_get (C := R_P) (T := F_P) (N := 10) (v := .ref xT) hx hb hts in_P hown hK hP 1 rfl rfl 3 (by decide) mw_54 rfl d_C_request_11 ?_
    refine lv_iload_n hx hb d_C_request_14 rfl (lv_at hl 1 rfl) ?_
    refine zz_rVi (rest := []) ⟨hx, hb, hml, hown, hts⟩ (k_T_isPending l D cI _ xT u_t a1) g_C_request_T_isPending_104 nv_T_isPending ⟨⟨rfl, rfl⟩, Nat.le_of_ble_eq_true rfl, Nat.le_of_ble_eq_true rfl⟩ hK [0] rfl hP hD hS hA [11] rfl rfl 11 3 rfl rfl rfl rfl hl.1 (Nat.le_of_ble_eq_true rfl) d_C_request_15 ⟨Nat.zero_le _, Nat.zero_le _⟩ (fun H locs hP hD hS => ?_)
    refine lv_if_eq (tgt := 23) hx hb d_C_request_18 (by decide) (fun h2 => ?_) (fun h2 => ?_)
    ·
      refine lv_aload_n hx hb d_C_request_23 rfl (lv_at hl 0 rfl) ?_
      refine zz_get (C := R_C) (T := F_C) (N := 1) (v := .ref xP) hx hb hts in_C hown hK hP 0 rfl rfl 0 (by decide) mw_43 rfl d_C_request_24 ?_
      refine zz_get (C := R_P) (T := F_P) (N := 10) (v := .ref xT) hx hb hts in_P hown hK hP 1 rfl rfl 3 (by decide) mw_54 rfl d_C_request_27 ?_
      refine lv_iload_n hx hb d_C_request_30 rfl (lv_at hl 1 rfl) ?_
      refine zz_cVv (rest := []) (wr := [oC xC xP, oP xP xM xR xG xT u_z, oM xM xW, ar cI xW 512 u_M, oR xR xD xA u_r, ar cI xD 8 u_d, ar cI xA 8 u_a, oG xG xL xH xI, ar cI xL 6 u_lo, ar cI xH 6 u_hi, ar cI xI 6 u_ri]) (w' := [oC xC xP, oP xP xM xR xG xT u_z, oM xM xW, ar cI xW 512 u_M, oR xR xD xA u_r, ar cI xD 8 u_d, ar cI xA 8 u_a, oG xG xL xH xI, ar cI xL 6 u_lo, ar cI xH 6 u_hi, ar cI xI 6 u_ri, oT xT (s_T_ask u_t a1)]) ⟨hx, hb, hml, hown, hts⟩ (k_T_ask l D cI _ xT u_t a1) g_C_request_T_ask_107 nv_T_ask ⟨⟨rfl, rfl⟩, Nat.le_of_ble_eq_true rfl, Nat.le_of_ble_eq_true rfl⟩ hK [0] rfl hP hD hS hA [11] [0, 1, 2, 3, 4, 5, 6, 7, 8, 9, 10] [0, 1, 2, 3, 4, 5, 6, 7, 8, 9, 10, 11] rfl rfl rfl rfl (by decide) rfl rfl 11 3 rfl rfl rfl rfl hl.1 (Nat.le_of_ble_eq_true rfl) d_C_request_31 ⟨Nat.zero_le _, Nat.zero_le _⟩ (fun H locs hP hD hS => ?_)
      refine lv_iconst (v := (1 : Int32)) hx hb d_C_request_34 (by decide) ?_
      have hsp : s_C_request u_z u_M u_r u_d u_a u_lo u_hi u_ri u_t a1 = ((1 : Int32), (s_T_ask u_t a1)) := (by unfold s_C_request; rw [if_neg h1, if_pos h2])
      rw [hsp] at hE
      exact hE _ _ _ _ hP hD hS d_C_request_35
    ·
      refine lv_iconst (v := (0 : Int32)) hx hb d_C_request_21 (by decide) ?_
      have hsp : s_C_request u_z u_M u_r u_d u_a u_lo u_hi u_ri u_t a1 = ((0 : Int32), u_t) := (by unfold s_C_request; rw [if_neg h1, if_neg h2])
      rw [hsp] at hE
      exact hE _ _ _ _ hP hD hS d_C_request_22
set_option maxHeartbeats 4000000 in
set_option maxRecDepth 100000 in
theorem k_C_start (l : Launch) (D : va_G) (cI : ClassId) (sz : Nat) (xC : Nat) (xP : Nat) (xM : Nat) (xW : Nat) (xR : Nat) (xD : Nat) (xA : Nat) (xG : Nat) (xL : Nat) (xH : Nat) (xI : Nat) (xT : Nat) (u_z : Nat → Int32) (u_M : Nat → Int32) (u_r : Nat → Int32) (u_d : Nat → Int32) (u_a : Nat → Int32) (u_lo : Nat → Int32) (u_hi : Nat → Int32) (u_ri : Nat → Int32) (u_t : Nat → Int32) (a1 : Int32) (a2 : Int32) (a3 : Int32) (hb_a3 : a3 = 0 ∨ a3 = 1) (hg : t_C_start u_z u_M u_r u_d u_a u_lo u_hi u_ri u_t a1 a2 a3 = 0) : zMv l y_C_start (.code y_C_start b_C_start 4 (none) :: wd) { frames := 1, cells := 0, slots := 0, locals := 23 } D classes [(cI, .int)] [.ref xC, .int a1, .int a2, .int a3] [oC xC xP, oP xP xM xR xG xT u_z, oM xM xW, ar cI xW 512 u_M, oR xR xD xA u_r, ar cI xD 8 u_d, ar cI xA 8 u_a, oG xG xL xH xI, ar cI xL 6 u_lo, ar cI xH 6 u_hi, ar cI xI 6 u_ri, oT xT u_t] [oC xC xP, oP xP xM xR xG xT ((s_C_start u_z u_M u_r u_d u_a u_lo u_hi u_ri u_t a1 a2 a3).1), oM xM xW, ar cI xW 512 u_M, oR xR xD xA ((s_C_start u_z u_M u_r u_d u_a u_lo u_hi u_ri u_t a1 a2 a3).2), ar cI xD 8 u_d, ar cI xA 8 u_a, oG xG xL xH xI, ar cI xL 6 u_lo, ar cI xH 6 u_hi, ar cI xI 6 u_ri, oT xT u_t] sz := by
  refine met_v (by decide) (Nat.le_of_ble_eq_true rfl) ?_
  intro p e s m args below meth c A Q ls hx hb hml hown hts hK hP hD hS hA hl hE
  have hl : lv_has ls 4 [(0, .ref xC), (1, .int a1), (2, .int a2), (3, .int a3)] := hl
  have hown : s.vm.findClass R_C = some m.cls := hown
  refine lv_iload_n hx hb d_C_start_0 rfl (lv_at hl 2 rfl) ?_
  refine lv_if_lt (tgt := 9) hx hb d_C_start_1 (by decide) (fun h1 => ?_) (fun h1 => ?_)
  ·
    exact absurd hg (by unfold t_C_start; rw [if_pos h1]; decide)
  ·
    refine lv_iload_n hx hb d_C_start_4 rfl (lv_at hl 2 rfl) ?_
    refine lv_iconst (v := (2 : Int32)) hx hb d_C_start_5 (by decide) ?_
    refine lv_icmp_le (tgt := 19) hx hb d_C_start_6 (by decide) (fun h2 => ?_) (fun h2 => ?_)
    ·
      refine lv_aload_n hx hb d_C_start_19 rfl (lv_at hl 0 rfl) ?_
      refine zz_get (C := R_C) (T := F_C) (N := 1) (v := .ref xP) hx hb hts in_C hown hK hP 0 rfl rfl 0 (by decide) mw_43 rfl d_C_start_20 ?_
      refine zz_get (C := R_P) (T := F_P) (N := 10) (v := .int (u_z 0)) hx hb hts in_P hown hK hP 1 rfl rfl 4 (by decide) mw_45 rfl d_C_start_23 ?_
      refine lv_if_eq (tgt := 39) hx hb d_C_start_26 (by decide) (fun h3 => ?_) (fun h3 => ?_)
      ·
        refine lv_aload_n hx hb d_C_start_39 rfl (lv_at hl 0 rfl) ?_
        refine zz_get (C := R_C) (T := F_C) (N := 1) (v := .ref xP) hx hb hts in_C hown hK hP 0 rfl rfl 0 (by decide) mw_43 rfl d_C_start_40 ?_
        refine zz_get (C := R_P) (T := F_P) (N := 10) (v := .ref xR) hx hb hts in_P hown hK hP 1 rfl rfl 1 (by decide) mw_46 rfl d_C_start_43 ?_
        refine lv_iload_n hx hb d_C_start_46 rfl (lv_at hl 1 rfl) ?_
        refine lv_iload_n hx hb d_C_start_47 rfl (lv_at hl 2 rfl) ?_
        refine lv_iload_n hx hb d_C_start_48 rfl (lv_at hl 3 rfl) ?_
        refine zz_cVv (rest := []) (wr := [oC xC xP, oP xP xM xR xG xT u_z, oM xM xW, ar cI xW 512 u_M, oG xG xL xH xI, ar cI xL 6 u_lo, ar cI xH 6 u_hi, ar cI xI 6 u_ri, oT xT u_t]) (w' := [oC xC xP, oP xP xM xR xG xT u_z, oM xM xW, ar cI xW 512 u_M, oR xR xD xA (s_R_begin u_r u_d u_a a1 a2 a3), ar cI xD 8 u_d, ar cI xA 8 u_a, oG xG xL xH xI, ar cI xL 6 u_lo, ar cI xH 6 u_hi, ar cI xI 6 u_ri, oT xT u_t]) ⟨hx, hb, hml, hown, hts⟩ (k_R_begin l D cI _ xR xD xA u_r u_d u_a a1 a2 a3 hb_a3) g_C_start_R_begin_112 nv_R_begin ⟨⟨rfl, rfl⟩, Nat.le_of_ble_eq_true rfl, Nat.le_of_ble_eq_true rfl⟩ hK [0] rfl hP hD hS hA [4, 5, 6] [0, 1, 2, 3, 7, 8, 9, 10, 11] [0, 1, 2, 3, 9, 10, 11, 4, 5, 6, 7, 8] rfl rfl rfl rfl (by decide) rfl rfl 4 1 rfl rfl rfl rfl hl.1 (Nat.le_of_ble_eq_true rfl) d_C_start_49 ⟨Nat.zero_le _, Nat.zero_le _⟩ (fun H locs hP hD hS => ?_)
        refine lv_aload_n hx hb d_C_start_52 rfl (lv_at hl 0 rfl) ?_
        refine zz_get (C := R_C) (T := F_C) (N := 1) (v := .ref xP) hx hb hts in_C hown hK hP 0 rfl rfl 0 (by decide) mw_43 rfl d_C_start_53 ?_
        refine lv_iconst (v := (1 : Int32)) hx hb d_C_start_56 (by decide) ?_
        refine zz_put (C := R_P) (T := F_P) (N := 10) (w' := [oC xC xP, oP xP xM xR xG xT (upd u_z 0 (1 : Int32)), oM xM xW, ar cI xW 512 u_M, oR xR xD xA (s_R_begin u_r u_d u_a a1 a2 a3), ar cI xD 8 u_d, ar cI xA 8 u_a, oG xG xL xH xI, ar cI xL 6 u_lo, ar cI xH 6 u_hi, ar cI xI 6 u_ri, oT xT u_t]) hx hb hts in_P ty_P ty_P_ok n_P hown hK hP hD hS 1 rfl rfl 4 (by decide) mw_45 rfl rfl rfl (Nat.le_of_ble_eq_true rfl) d_C_start_57 rfl (fun H locs hP hD hS => ?_)
        show W p l e _ s m args below meth c _ _ _ _ Q (F0 m 60 ls _)
        have hsp : s_C_start u_z u_M u_r u_d u_a u_lo u_hi u_ri u_t a1 a2 a3 = (upd u_z 0 (1 : Int32), (s_R_begin u_r u_d u_a a1 a2 a3)) := (by unfold s_C_start; rw [if_neg h1, if_pos h2, if_pos h3])
        rw [hsp] at hE
        exact hE _ _ _ _ hP hD hS d_C_start_60
      ·
        exact absurd hg (by unfold t_C_start; rw [if_neg h1, if_pos h2, if_neg h3]; decide)
    ·
      exact absurd hg (by unfold t_C_start; rw [if_neg h1, if_neg h2]; decide)
set_option maxHeartbeats 4000000 in
set_option maxRecDepth 100000 in
theorem k_C_halt (l : Launch) (D : va_G) (cI : ClassId) (sz : Nat) (xC : Nat) (xP : Nat) (xM : Nat) (xW : Nat) (xR : Nat) (xD : Nat) (xA : Nat) (xG : Nat) (xL : Nat) (xH : Nat) (xI : Nat) (xT : Nat) (u_z : Nat → Int32) (u_M : Nat → Int32) (u_r : Nat → Int32) (u_d : Nat → Int32) (u_a : Nat → Int32) (u_lo : Nat → Int32) (u_hi : Nat → Int32) (u_ri : Nat → Int32) (u_t : Nat → Int32) (hrb : u_z 0 = 0 ∨ u_z 0 = 1) : zMi l y_C_halt (.code y_C_halt b_C_halt 2 (some .boolean) :: wd) { frames := 0, cells := 0, slots := 0, locals := 0 } D classes [(cI, .int)] [.ref xC] [oC xC xP, oP xP xM xR xG xT u_z, oM xM xW, ar cI xW 512 u_M, oR xR xD xA u_r, ar cI xD 8 u_d, ar cI xA 8 u_a, oG xG xL xH xI, ar cI xL 6 u_lo, ar cI xH 6 u_hi, ar cI xI 6 u_ri, oT xT u_t] [oC xC xP, oP xP xM xR xG xT ((s_C_halt u_z u_M u_r u_d u_a u_lo u_hi u_ri u_t).2), oM xM xW, ar cI xW 512 u_M, oR xR xD xA u_r, ar cI xD 8 u_d, ar cI xA 8 u_a, oG xG xL xH xI, ar cI xL 6 u_lo, ar cI xH 6 u_hi, ar cI xI 6 u_ri, oT xT u_t] sz (s_C_halt u_z u_M u_r u_d u_a u_lo u_hi u_ri u_t).1 := by
  refine met_i (by decide) (Nat.le_of_ble_eq_true rfl) (zz_nar (bo_C_halt u_z u_M u_r u_d u_a u_lo u_hi u_ri u_t hrb)) ?_
  intro p e s m args below meth c A Q ls hx hb hml hown hts hK hP hD hS hA hl hE
  have hl : lv_has ls 2 [(0, .ref xC)] := hl
  have hown : s.vm.findClass R_C = some m.cls := hown
  refine lv_aload_n hx hb d_C_halt_0 rfl (lv_at hl 0 rfl) ?_
  refine zz_get (C := R_C) (T := F_C) (N := 1) (v := .ref xP) hx hb hts in_C hown hK hP 0 rfl rfl 0 (by decide) mw_43 rfl d_C_halt_1 ?_
  refine zz_get (C := R_P) (T := F_P) (N := 10) (v := .int (u_z 0)) hx hb hts in_P hown hK hP 1 rfl rfl 4 (by decide) mw_45 rfl d_C_halt_4 ?_
  refine lv_istore_n (lv' := [(1, .int (u_z 0)), (0, .ref xC)]) hx hb d_C_halt_7 rfl hl (by decide) rfl (fun ls hl => ?_)
  refine lv_aload_n hx hb d_C_halt_8 rfl (lv_at hl 1 rfl) ?_
  refine zz_get (C := R_C) (T := F_C) (N := 1) (v := .ref xP) hx hb hts in_C hown hK hP 0 rfl rfl 0 (by decide) mw_43 rfl d_C_halt_9 ?_
  refine lv_iconst (v := (0 : Int32)) hx hb d_C_halt_12 (by decide) ?_
  refine zz_put (C := R_P) (T := F_P) (N := 10) (w' := [oC xC xP, oP xP xM xR xG xT (upd u_z 0 (0 : Int32)), oM xM xW, ar cI xW 512 u_M, oR xR xD xA u_r, ar cI xD 8 u_d, ar cI xA 8 u_a, oG xG xL xH xI, ar cI xL 6 u_lo, ar cI xH 6 u_hi, ar cI xI 6 u_ri, oT xT u_t]) hx hb hts in_P ty_P ty_P_ok n_P hown hK hP hD hS 1 rfl rfl 4 (by decide) mw_45 rfl rfl rfl (Nat.le_of_ble_eq_true rfl) d_C_halt_13 rfl (fun H locs hP hD hS => ?_)
  refine lv_iload_n hx hb d_C_halt_16 rfl (lv_at hl 0 rfl) ?_
  have hsp : s_C_halt u_z u_M u_r u_d u_a u_lo u_hi u_ri u_t = ((u_z 0), upd u_z 0 (0 : Int32)) := rfl
  rw [hsp] at hE
  exact hE _ _ _ _ hP hD hS d_C_halt_17
set_option maxHeartbeats 4000000 in
set_option maxRecDepth 100000 in
theorem k_C_register (l : Launch) (D : va_G) (cI : ClassId) (sz : Nat) (xC : Nat) (xP : Nat) (xM : Nat) (xW : Nat) (xR : Nat) (xD : Nat) (xA : Nat) (xG : Nat) (xL : Nat) (xH : Nat) (xI : Nat) (xT : Nat) (u_z : Nat → Int32) (u_M : Nat → Int32) (u_r : Nat → Int32) (u_d : Nat → Int32) (u_a : Nat → Int32) (u_lo : Nat → Int32) (u_hi : Nat → Int32) (u_ri : Nat → Int32) (u_t : Nat → Int32) (a1 : Int32) (a2 : Int32) (hg : t_C_register u_z u_M u_r u_d u_a u_lo u_hi u_ri u_t a1 a2 = 0) : zMi l y_C_register (.code y_C_register b_C_register 3 (some .int) :: wd) { frames := 0, cells := 0, slots := 0, locals := 0 } D classes [(cI, .int)] [.ref xC, .int a1, .int a2] [oC xC xP, oP xP xM xR xG xT u_z, oM xM xW, ar cI xW 512 u_M, oR xR xD xA u_r, ar cI xD 8 u_d, ar cI xA 8 u_a, oG xG xL xH xI, ar cI xL 6 u_lo, ar cI xH 6 u_hi, ar cI xI 6 u_ri, oT xT u_t] [oC xC xP, oP xP xM xR xG xT u_z, oM xM xW, ar cI xW 512 u_M, oR xR xD xA u_r, ar cI xD 8 u_d, ar cI xA 8 u_a, oG xG xL xH xI, ar cI xL 6 u_lo, ar cI xH 6 u_hi, ar cI xI 6 u_ri, oT xT u_t] sz (s_C_register u_z u_M u_r u_d u_a u_lo u_hi u_ri u_t a1 a2) := by
  refine met_i (by decide) (Nat.le_of_ble_eq_true rfl) rfl ?_
  intro p e s m args below meth c A Q ls hx hb hml hown hts hK hP hD hS hA hl hE
  have hl : lv_has ls 3 [(0, .ref xC), (1, .int a1), (2, .int a2)] := hl
  have hown : s.vm.findClass R_C = some m.cls := hown
  refine lv_iload_n hx hb d_C_register_0 rfl (lv_at hl 1 rfl) ?_
  refine lv_if_lt (tgt := 19) hx hb d_C_register_1 (by decide) (fun h1 => ?_) (fun h1 => ?_)
  ·
    exact absurd hg (by unfold t_C_register; rw [if_pos h1]; decide)
  ·
    refine lv_iload_n hx hb d_C_register_4 rfl (lv_at hl 1 rfl) ?_
    refine lv_iconst (v := (1 : Int32)) hx hb d_C_register_5 (by decide) ?_
    refine lv_icmp_gt (tgt := 19) hx hb d_C_register_6 (by decide) (fun h2 => ?_) (fun h2 => ?_)
    ·
      exact absurd hg (by unfold t_C_register; rw [if_neg h1, if_pos h2]; decide)
    ·
      refine lv_iload_n hx hb d_C_register_9 rfl (lv_at hl 2 rfl) ?_
      refine lv_if_lt (tgt := 19) hx hb d_C_register_10 (by decide) (fun h3 => ?_) (fun h3 => ?_)
      ·
        exact absurd hg (by unfold t_C_register; rw [if_neg h1, if_neg h2, if_pos h3]; decide)
      ·
        refine lv_iload_n hx hb d_C_register_13 rfl (lv_at hl 2 rfl) ?_
        refine lv_bipush (v := (7 : Int32)) hx hb d_C_register_14 (by decide) ?_
        refine lv_icmp_le (tgt := 29) hx hb d_C_register_16 (by decide) (fun h4 => ?_) (fun h4 => ?_)
        ·
          refine lv_iload_n hx hb d_C_register_29 rfl (lv_at hl 1 rfl) ?_
          refine lv_if_ne (tgt := 48) hx hb d_C_register_30 (by decide) (fun h5 => ?_) (fun h5 => ?_)
          ·
            refine lv_aload_n hx hb d_C_register_48 rfl (lv_at hl 0 rfl) ?_
            refine zz_get (C := R_C) (T := F_C) (N := 1) (v := .ref xP) hx hb hts in_C hown hK hP 0 rfl rfl 0 (by decide) mw_43 rfl d_C_register_49 ?_
            refine zz_get (C := R_P) (T := F_P) (N := 10) (v := .ref xR) hx hb hts in_P hown hK hP 1 rfl rfl 1 (by decide) mw_46 rfl d_C_register_52 ?_
            refine zz_get (C := R_R) (T := F_R) (N := 12) (v := .ref xA) hx hb hts in_R hown hK hP 4 rfl rfl 1 (by decide) mw_57 rfl d_C_register_55 ?_
            refine lv_iload_n hx hb d_C_register_58 rfl (lv_at hl 2 rfl) ?_
            refine va_iald hx hb hK hP 6 0 rfl rfl (in_reg h3 h4) d_C_register_59 ?_
            have hsp : s_C_register u_z u_M u_r u_d u_a u_lo u_hi u_ri u_t a1 a2 = (u_a (ix a2)) := (by unfold s_C_register; rw [if_neg h1, if_neg h2, if_neg h3, if_pos h4, if_neg h5])
            rw [hsp] at hE
            exact hE _ _ _ _ hP hD hS d_C_register_60
          ·
            refine lv_aload_n hx hb d_C_register_33 rfl (lv_at hl 0 rfl) ?_
            refine zz_get (C := R_C) (T := F_C) (N := 1) (v := .ref xP) hx hb hts in_C hown hK hP 0 rfl rfl 0 (by decide) mw_43 rfl d_C_register_34 ?_
            refine zz_get (C := R_P) (T := F_P) (N := 10) (v := .ref xR) hx hb hts in_P hown hK hP 1 rfl rfl 1 (by decide) mw_46 rfl d_C_register_37 ?_
            refine zz_get (C := R_R) (T := F_R) (N := 12) (v := .ref xD) hx hb hts in_R hown hK hP 4 rfl rfl 0 (by decide) mw_58 rfl d_C_register_40 ?_
            refine lv_iload_n hx hb d_C_register_43 rfl (lv_at hl 2 rfl) ?_
            refine va_iald hx hb hK hP 5 0 rfl rfl (in_reg h3 h4) d_C_register_44 ?_
            refine lv_goto (tgt := 60) hx hb d_C_register_45 (by decide) ?_
            have hsp : s_C_register u_z u_M u_r u_d u_a u_lo u_hi u_ri u_t a1 a2 = (u_d (ix a2)) := (by unfold s_C_register; rw [if_neg h1, if_neg h2, if_neg h3, if_pos h4, if_pos h5])
            rw [hsp] at hE
            exact hE _ _ _ _ hP hD hS d_C_register_60
        ·
          exact absurd hg (by unfold t_C_register; rw [if_neg h1, if_neg h2, if_neg h3, if_neg h4]; decide)
set_option maxHeartbeats 4000000 in
set_option maxRecDepth 100000 in
theorem k_C_word (l : Launch) (D : va_G) (cI : ClassId) (sz : Nat) (xC : Nat) (xP : Nat) (xM : Nat) (xW : Nat) (xR : Nat) (xD : Nat) (xA : Nat) (xG : Nat) (xL : Nat) (xH : Nat) (xI : Nat) (xT : Nat) (u_z : Nat → Int32) (u_M : Nat → Int32) (u_r : Nat → Int32) (u_d : Nat → Int32) (u_a : Nat → Int32) (u_lo : Nat → Int32) (u_hi : Nat → Int32) (u_ri : Nat → Int32) (u_t : Nat → Int32) (a1 : Int32) : zMi l y_C_word (.code y_C_word b_C_word 2 (some .int) :: wd) { frames := 2, cells := 0, slots := 0, locals := 41 } D classes [(cI, .int)] [.ref xC, .int a1] [oC xC xP, oP xP xM xR xG xT u_z, oM xM xW, ar cI xW 512 u_M, oR xR xD xA u_r, ar cI xD 8 u_d, ar cI xA 8 u_a, oG xG xL xH xI, ar cI xL 6 u_lo, ar cI xH 6 u_hi, ar cI xI 6 u_ri, oT xT u_t] [oC xC xP, oP xP xM xR xG xT u_z, oM xM xW, ar cI xW 512 u_M, oR xR xD xA u_r, ar cI xD 8 u_d, ar cI xA 8 u_a, oG xG xL xH xI, ar cI xL 6 u_lo, ar cI xH 6 u_hi, ar cI xI 6 u_ri, oT xT u_t] sz (s_C_word u_z u_M u_r u_d u_a u_lo u_hi u_ri u_t a1) := by
  refine met_i (by decide) (Nat.le_of_ble_eq_true rfl) rfl ?_
  intro p e s m args below meth c A Q ls hx hb hml hown hts hK hP hD hS hA hl hE
  have hl : lv_has ls 2 [(0, .ref xC), (1, .int a1)] := hl
  have hown : s.vm.findClass R_C = some m.cls := hown
  refine lv_aload_n hx hb d_C_word_0 rfl (lv_at hl 0 rfl) ?_
  refine zz_get (C := R_C) (T := F_C) (N := 1) (v := .ref xP) hx hb hts in_C hown hK hP 0 rfl rfl 0 (by decide) mw_43 rfl d_C_word_1 ?_
  refine zz_get (C := R_P) (T := F_P) (N := 10) (v := .ref xM) hx hb hts in_P hown hK hP 1 rfl rfl 0 (by decide) mw_44 rfl d_C_word_4 ?_
  refine lv_iload_n hx hb d_C_word_7 rfl (lv_at hl 1 rfl) ?_
  refine zz_rVi (rest := []) ⟨hx, hb, hml, hown, hts⟩ (k_M_read l D cI _ xM xW u_M a1) g_C_word_M_read_133 nv_M_read ⟨⟨rfl, rfl⟩, Nat.le_of_ble_eq_true rfl, Nat.le_of_ble_eq_true rfl⟩ hK [0] rfl hP hD hS hA [2, 3] rfl rfl 2 0 rfl rfl rfl rfl hl.1 (Nat.le_of_ble_eq_true rfl) d_C_word_8 ⟨Nat.zero_le _, Nat.zero_le _⟩ (fun H locs hP hD hS => ?_)
  have hsp : s_C_word u_z u_M u_r u_d u_a u_lo u_hi u_ri u_t a1 = (s_M_read u_M a1) := rfl
  rw [hsp] at hE
  exact hE _ _ _ _ hP hD hS d_C_word_11
set_option maxHeartbeats 4000000 in
set_option maxRecDepth 100000 in
theorem k_C_look (l : Launch) (D : va_G) (cI : ClassId) (sz : Nat) (xC : Nat) (xP : Nat) (xM : Nat) (xW : Nat) (xR : Nat) (xD : Nat) (xA : Nat) (xG : Nat) (xL : Nat) (xH : Nat) (xI : Nat) (xT : Nat) (u_z : Nat → Int32) (u_M : Nat → Int32) (u_r : Nat → Int32) (u_d : Nat → Int32) (u_a : Nat → Int32) (u_lo : Nat → Int32) (u_hi : Nat → Int32) (u_ri : Nat → Int32) (u_t : Nat → Int32) (a1 : Int32) : zMi l y_C_look (.code y_C_look b_C_look 3 (some .int) :: wd) { frames := 1, cells := 0, slots := 0, locals := 20 } D classes [(cI, .int)] [.ref xC, .int a1] [oC xC xP, oP xP xM xR xG xT u_z, oM xM xW, ar cI xW 512 u_M, oR xR xD xA u_r, ar cI xD 8 u_d, ar cI xA 8 u_a, oG xG xL xH xI, ar cI xL 6 u_lo, ar cI xH 6 u_hi, ar cI xI 6 u_ri, oT xT u_t] [oC xC xP, oP xP xM xR xG xT u_z, oM xM xW, ar cI xW 512 u_M, oR xR xD xA u_r, ar cI xD 8 u_d, ar cI xA 8 u_a, oG xG xL xH xI, ar cI xL 6 u_lo, ar cI xH 6 u_hi, ar cI xI 6 u_ri, oT xT u_t] sz (s_C_look u_z u_M u_r u_d u_a u_lo u_hi u_ri u_t a1) := by
  refine met_i (by decide) (Nat.le_of_ble_eq_true rfl) rfl ?_
  intro p e s m args below meth c A Q ls hx hb hml hown hts hK hP hD hS hA hl hE
  have hl : lv_has ls 3 [(0, .ref xC), (1, .int a1)] := hl
  have hown : s.vm.findClass R_C = some m.cls := hown
  refine lv_aload_n hx hb d_C_look_0 rfl (lv_at hl 0 rfl) ?_
  refine zz_get (C := R_C) (T := F_C) (N := 1) (v := .ref xP) hx hb hts in_C hown hK hP 0 rfl rfl 0 (by decide) mw_43 rfl d_C_look_1 ?_
  refine zz_get (C := R_P) (T := F_P) (N := 10) (v := .ref xR) hx hb hts in_P hown hK hP 1 rfl rfl 1 (by decide) mw_46 rfl d_C_look_4 ?_
  refine lv_astore_n (lv' := [(2, .ref xR), (0, .ref xC), (1, .int a1)]) hx hb d_C_look_7 rfl hl (by decide) rfl (fun ls hl => ?_)
  refine lv_iload_n hx hb d_C_look_8 rfl (lv_at hl 2 rfl) ?_
  by_cases h1 : a1 = (0 : Int32)
  ·
    refine lv_tableIn (off := 67) (tgt := 76) hx hb d_C_look_9 (by rw [h1]; decide) (by rw [h1]; decide) (by rw [h1]; rfl) (by decide) ?_
    refine lv_aload_n hx hb d_C_look_76 rfl (lv_at hl 1 rfl) ?_
    refine zz_get (C := R_C) (T := F_C) (N := 1) (v := .ref xP) hx hb hts in_C hown hK hP 0 rfl rfl 0 (by decide) mw_43 rfl d_C_look_77 ?_
    refine zz_get (C := R_P) (T := F_P) (N := 10) (v := .int (u_z 0)) hx hb hts in_P hown hK hP 1 rfl rfl 4 (by decide) mw_45 rfl d_C_look_80 ?_
    refine lv_if_eq (tgt := 90) hx hb d_C_look_83 (by decide) (fun h2 => ?_) (fun h2 => ?_)
    ·
      refine lv_iconst (v := (0 : Int32)) hx hb d_C_look_90 (by decide) ?_
      have hsp : s_C_look u_z u_M u_r u_d u_a u_lo u_hi u_ri u_t a1 = (0 : Int32) := (by unfold s_C_look; rw [if_pos h1, if_pos h2])
      rw [hsp] at hE
      exact hE _ _ _ _ hP hD hS d_C_look_91
    ·
      refine lv_iconst (v := (1 : Int32)) hx hb d_C_look_86 (by decide) ?_
      refine lv_goto (tgt := 91) hx hb d_C_look_87 (by decide) ?_
      have hsp : s_C_look u_z u_M u_r u_d u_a u_lo u_hi u_ri u_t a1 = (1 : Int32) := (by unfold s_C_look; rw [if_pos h1, if_neg h2])
      rw [hsp] at hE
      exact hE _ _ _ _ hP hD hS d_C_look_91
  ·
    by_cases h3 : a1 = (1 : Int32)
    ·
      refine lv_tableIn (off := 83) (tgt := 92) hx hb d_C_look_9 (by rw [h3]; decide) (by rw [h3]; decide) (by rw [h3]; rfl) (by decide) ?_
      refine lv_aload_n hx hb d_C_look_92 rfl (lv_at hl 0 rfl) ?_
      refine zz_get (C := R_R) (T := F_R) (N := 12) (v := .int (u_r 0)) hx hb hts in_R hown hK hP 4 rfl rfl 2 (by decide) mw_59 rfl d_C_look_93 ?_
      have hsp : s_C_look u_z u_M u_r u_d u_a u_lo u_hi u_ri u_t a1 = (u_r 0) := (by unfold s_C_look; rw [if_neg h1, if_pos h3])
      rw [hsp] at hE
      exact hE _ _ _ _ hP hD hS d_C_look_96
    ·
      by_cases h4 : a1 = (2 : Int32)
      ·
        refine lv_tableIn (off := 88) (tgt := 97) hx hb d_C_look_9 (by rw [h4]; decide) (by rw [h4]; decide) (by rw [h4]; rfl) (by decide) ?_
        refine lv_aload_n hx hb d_C_look_97 rfl (lv_at hl 0 rfl) ?_
        refine zz_get (C := R_R) (T := F_R) (N := 12) (v := .int (u_r 1)) hx hb hts in_R hown hK hP 4 rfl rfl 3 (by decide) mw_47 rfl d_C_look_98 ?_
        have hsp : s_C_look u_z u_M u_r u_d u_a u_lo u_hi u_ri u_t a1 = (u_r 1) := (by unfold s_C_look; rw [if_neg h1, if_neg h3, if_pos h4])
        rw [hsp] at hE
        exact hE _ _ _ _ hP hD hS d_C_look_101
      ·
        by_cases h5 : a1 = (3 : Int32)
        ·
          refine lv_tableIn (off := 93) (tgt := 102) hx hb d_C_look_9 (by rw [h5]; decide) (by rw [h5]; decide) (by rw [h5]; rfl) (by decide) ?_
          refine lv_aload_n hx hb d_C_look_102 rfl (lv_at hl 0 rfl) ?_
          refine zz_get (C := R_R) (T := F_R) (N := 12) (v := .int (u_r 2)) hx hb hts in_R hown hK hP 4 rfl rfl 4 (by decide) mw_48 rfl d_C_look_103 ?_
          have hsp : s_C_look u_z u_M u_r u_d u_a u_lo u_hi u_ri u_t a1 = (u_r 2) := (by unfold s_C_look; rw [if_neg h1, if_neg h3, if_neg h4, if_pos h5])
          rw [hsp] at hE
          exact hE _ _ _ _ hP hD hS d_C_look_106
        ·
          by_cases h6 : a1 = (4 : Int32)
          ·
            refine lv_tableIn (off := 98) (tgt := 107) hx hb d_C_look_9 (by rw [h6]; decide) (by rw [h6]; decide) (by rw [h6]; rfl) (by decide) ?_
            refine lv_aload_n hx hb d_C_look_107 rfl (lv_at hl 0 rfl) ?_
            refine zz_get (C := R_R) (T := F_R) (N := 12) (v := .int (u_r 3)) hx hb hts in_R hown hK hP 4 rfl rfl 5 (by decide) mw_49 rfl d_C_look_108 ?_
            have hsp : s_C_look u_z u_M u_r u_d u_a u_lo u_hi u_ri u_t a1 = (u_r 3) := (by unfold s_C_look; rw [if_neg h1, if_neg h3, if_neg h4, if_neg h5, if_pos h6])
            rw [hsp] at hE
            exact hE _ _ _ _ hP hD hS d_C_look_111
          ·
            by_cases h7 : a1 = (5 : Int32)
            ·
              refine lv_tableIn (off := 103) (tgt := 112) hx hb d_C_look_9 (by rw [h7]; decide) (by rw [h7]; decide) (by rw [h7]; rfl) (by decide) ?_
              refine lv_aload_n hx hb d_C_look_112 rfl (lv_at hl 0 rfl) ?_
              refine zz_rVi (rest := []) ⟨hx, hb, hml, hown, hts⟩ (k_R_state l D cI _ xR xD xA u_r u_d u_a) g_C_look_R_state_140 nv_R_state ⟨⟨rfl, rfl⟩, Nat.le_of_ble_eq_true rfl, Nat.le_of_ble_eq_true rfl⟩ hK [0] rfl hP hD hS hA [4, 5, 6] rfl rfl 4 1 rfl rfl rfl rfl hl.1 (Nat.le_of_ble_eq_true rfl) d_C_look_113 ⟨Nat.zero_le _, Nat.zero_le _⟩ (fun H locs hP hD hS => ?_)
              have hsp : s_C_look u_z u_M u_r u_d u_a u_lo u_hi u_ri u_t a1 = (s_R_state u_r u_d u_a) := (by unfold s_C_look; rw [if_neg h1, if_neg h3, if_neg h4, if_neg h5, if_neg h6, if_pos h7])
              rw [hsp] at hE
              exact hE _ _ _ _ hP hD hS d_C_look_116
            ·
              by_cases h8 : a1 = (6 : Int32)
              ·
                refine lv_tableIn (off := 108) (tgt := 117) hx hb d_C_look_9 (by rw [h8]; decide) (by rw [h8]; decide) (by rw [h8]; rfl) (by decide) ?_
                refine lv_aload_n hx hb d_C_look_117 rfl (lv_at hl 0 rfl) ?_
                refine zz_get (C := R_R) (T := F_R) (N := 12) (v := .int (u_r 7)) hx hb hts in_R hown hK hP 4 rfl rfl 9 (by decide) mw_60 rfl d_C_look_118 ?_
                have hsp : s_C_look u_z u_M u_r u_d u_a u_lo u_hi u_ri u_t a1 = (u_r 7) := (by unfold s_C_look; rw [if_neg h1, if_neg h3, if_neg h4, if_neg h5, if_neg h6, if_neg h7, if_pos h8])
                rw [hsp] at hE
                exact hE _ _ _ _ hP hD hS d_C_look_121
              ·
                by_cases h9 : a1 = (7 : Int32)
                ·
                  refine lv_tableIn (off := 113) (tgt := 122) hx hb d_C_look_9 (by rw [h9]; decide) (by rw [h9]; decide) (by rw [h9]; rfl) (by decide) ?_
                  refine lv_aload_n hx hb d_C_look_122 rfl (lv_at hl 0 rfl) ?_
                  refine zz_get (C := R_R) (T := F_R) (N := 12) (v := .int (u_r 8)) hx hb hts in_R hown hK hP 4 rfl rfl 10 (by decide) mw_61 rfl d_C_look_123 ?_
                  refine lv_if_eq (tgt := 133) hx hb d_C_look_126 (by decide) (fun h10 => ?_) (fun h10 => ?_)
                  ·
                    refine lv_iconst (v := (0 : Int32)) hx hb d_C_look_133 (by decide) ?_
                    have hsp : s_C_look u_z u_M u_r u_d u_a u_lo u_hi u_ri u_t a1 = (0 : Int32) := (by unfold s_C_look; rw [if_neg h1, if_neg h3, if_neg h4, if_neg h5, if_neg h6, if_neg h7, if_neg h8, if_pos h9, if_pos h10])
                    rw [hsp] at hE
                    exact hE _ _ _ _ hP hD hS d_C_look_134
                  ·
                    refine lv_iconst (v := (1 : Int32)) hx hb d_C_look_129 (by decide) ?_
                    refine lv_goto (tgt := 134) hx hb d_C_look_130 (by decide) ?_
                    have hsp : s_C_look u_z u_M u_r u_d u_a u_lo u_hi u_ri u_t a1 = (1 : Int32) := (by unfold s_C_look; rw [if_neg h1, if_neg h3, if_neg h4, if_neg h5, if_neg h6, if_neg h7, if_neg h8, if_pos h9, if_neg h10])
                    rw [hsp] at hE
                    exact hE _ _ _ _ hP hD hS d_C_look_134
                ·
                  by_cases h11 : a1 = (8 : Int32)
                  ·
                    refine lv_tableIn (off := 126) (tgt := 135) hx hb d_C_look_9 (by rw [h11]; decide) (by rw [h11]; decide) (by rw [h11]; rfl) (by decide) ?_
                    refine lv_aload_n hx hb d_C_look_135 rfl (lv_at hl 1 rfl) ?_
                    refine zz_get (C := R_C) (T := F_C) (N := 1) (v := .ref xP) hx hb hts in_C hown hK hP 0 rfl rfl 0 (by decide) mw_43 rfl d_C_look_136 ?_
                    refine zz_get (C := R_P) (T := F_P) (N := 10) (v := .ref xT) hx hb hts in_P hown hK hP 1 rfl rfl 3 (by decide) mw_54 rfl d_C_look_139 ?_
                    refine zz_get (C := R_T) (T := F_T) (N := 5) (v := .int (u_t 0)) hx hb hts in_T hown hK hP 11 rfl rfl 0 (by decide) mw_62 rfl d_C_look_142 ?_
                    have hsp : s_C_look u_z u_M u_r u_d u_a u_lo u_hi u_ri u_t a1 = (u_t 0) := (by unfold s_C_look; rw [if_neg h1, if_neg h3, if_neg h4, if_neg h5, if_neg h6, if_neg h7, if_neg h8, if_neg h9, if_pos h11])
                    rw [hsp] at hE
                    exact hE _ _ _ _ hP hD hS d_C_look_145
                  ·
                    by_cases h12 : a1 = (9 : Int32)
                    ·
                      refine lv_tableIn (off := 137) (tgt := 146) hx hb d_C_look_9 (by rw [h12]; decide) (by rw [h12]; decide) (by rw [h12]; rfl) (by decide) ?_
                      refine lv_aload_n hx hb d_C_look_146 rfl (lv_at hl 1 rfl) ?_
                      refine zz_get (C := R_C) (T := F_C) (N := 1) (v := .ref xP) hx hb hts in_C hown hK hP 0 rfl rfl 0 (by decide) mw_43 rfl d_C_look_147 ?_
                      refine zz_get (C := R_P) (T := F_P) (N := 10) (v := .ref xT) hx hb hts in_P hown hK hP 1 rfl rfl 3 (by decide) mw_54 rfl d_C_look_150 ?_
                      refine zz_get (C := R_T) (T := F_T) (N := 5) (v := .int (u_t 3)) hx hb hts in_T hown hK hP 11 rfl rfl 3 (by decide) mw_63 rfl d_C_look_153 ?_
                      have hsp : s_C_look u_z u_M u_r u_d u_a u_lo u_hi u_ri u_t a1 = (u_t 3) := (by unfold s_C_look; rw [if_neg h1, if_neg h3, if_neg h4, if_neg h5, if_neg h6, if_neg h7, if_neg h8, if_neg h9, if_neg h11, if_pos h12])
                      rw [hsp] at hE
                      exact hE _ _ _ _ hP hD hS d_C_look_156
                    ·
                      by_cases h13 : a1 = (10 : Int32)
                      ·
                        refine lv_tableIn (off := 148) (tgt := 157) hx hb d_C_look_9 (by rw [h13]; decide) (by rw [h13]; decide) (by rw [h13]; rfl) (by decide) ?_
                        refine lv_aload_n hx hb d_C_look_157 rfl (lv_at hl 1 rfl) ?_
                        refine zz_get (C := R_C) (T := F_C) (N := 1) (v := .ref xP) hx hb hts in_C hown hK hP 0 rfl rfl 0 (by decide) mw_43 rfl d_C_look_158 ?_
                        refine zz_get (C := R_P) (T := F_P) (N := 10) (v := .int (u_z 4)) hx hb hts in_P hown hK hP 1 rfl rfl 8 (by decide) mw_64 rfl d_C_look_161 ?_
                        have hsp : s_C_look u_z u_M u_r u_d u_a u_lo u_hi u_ri u_t a1 = (u_z 4) := (by unfold s_C_look; rw [if_neg h1, if_neg h3, if_neg h4, if_neg h5, if_neg h6, if_neg h7, if_neg h8, if_neg h9, if_neg h11, if_neg h12, if_pos h13])
                        rw [hsp] at hE
                        exact hE _ _ _ _ hP hD hS d_C_look_164
                      ·
                        by_cases h14 : a1 = (11 : Int32)
                        ·
                          refine lv_tableIn (off := 156) (tgt := 165) hx hb d_C_look_9 (by rw [h14]; decide) (by rw [h14]; decide) (by rw [h14]; rfl) (by decide) ?_
                          refine lv_aload_n hx hb d_C_look_165 rfl (lv_at hl 1 rfl) ?_
                          refine zz_get (C := R_C) (T := F_C) (N := 1) (v := .ref xP) hx hb hts in_C hown hK hP 0 rfl rfl 0 (by decide) mw_43 rfl d_C_look_166 ?_
                          refine zz_get (C := R_P) (T := F_P) (N := 10) (v := .int (u_z 5)) hx hb hts in_P hown hK hP 1 rfl rfl 9 (by decide) mw_65 rfl d_C_look_169 ?_
                          have hsp : s_C_look u_z u_M u_r u_d u_a u_lo u_hi u_ri u_t a1 = (u_z 5) := (by unfold s_C_look; rw [if_neg h1, if_neg h3, if_neg h4, if_neg h5, if_neg h6, if_neg h7, if_neg h8, if_neg h9, if_neg h11, if_neg h12, if_neg h13, if_pos h14])
                          rw [hsp] at hE
                          exact hE _ _ _ _ hP hD hS d_C_look_172
                        ·
                          by_cases h15 : a1 = (12 : Int32)
                          ·
                            refine lv_tableIn (off := 164) (tgt := 173) hx hb d_C_look_9 (by rw [h15]; decide) (by rw [h15]; decide) (by rw [h15]; rfl) (by decide) ?_
                            refine lv_aload_n hx hb d_C_look_173 rfl (lv_at hl 1 rfl) ?_
                            refine zz_get (C := R_C) (T := F_C) (N := 1) (v := .ref xP) hx hb hts in_C hown hK hP 0 rfl rfl 0 (by decide) mw_43 rfl d_C_look_174 ?_
                            refine zz_get (C := R_P) (T := F_P) (N := 10) (v := .ref xT) hx hb hts in_P hown hK hP 1 rfl rfl 3 (by decide) mw_54 rfl d_C_look_177 ?_
                            refine zz_get (C := R_T) (T := F_T) (N := 5) (v := .int (u_t 4)) hx hb hts in_T hown hK hP 11 rfl rfl 4 (by decide) mw_66 rfl d_C_look_180 ?_
                            have hsp : s_C_look u_z u_M u_r u_d u_a u_lo u_hi u_ri u_t a1 = (u_t 4) := (by unfold s_C_look; rw [if_neg h1, if_neg h3, if_neg h4, if_neg h5, if_neg h6, if_neg h7, if_neg h8, if_neg h9, if_neg h11, if_neg h12, if_neg h13, if_neg h14, if_pos h15])
                            rw [hsp] at hE
                            exact hE _ _ _ _ hP hD hS d_C_look_183
                          ·
                            refine lv_tableOut (tgt := 184) hx hb d_C_look_9 (zz_out (fun kk k1 k2 ek => ?_)) (by decide) ?_
                            ·
                              rcases (show kk = 0 ∨ kk = 1 ∨ kk = 2 ∨ kk = 3 ∨ kk = 4 ∨ kk = 5 ∨ kk = 6 ∨ kk = 7 ∨ kk = 8 ∨ kk = 9 ∨ kk = 10 ∨ kk = 11 ∨ kk = 12 by omega) with rfl | rfl | rfl | rfl | rfl | rfl | rfl | rfl | rfl | rfl | rfl | rfl | rfl
                              · exact h1 (zz_toInt ek (by decide))
                              · exact h3 (zz_toInt ek (by decide))
                              · exact h4 (zz_toInt ek (by decide))
                              · exact h5 (zz_toInt ek (by decide))
                              · exact h6 (zz_toInt ek (by decide))
                              · exact h7 (zz_toInt ek (by decide))
                              · exact h8 (zz_toInt ek (by decide))
                              · exact h9 (zz_toInt ek (by decide))
                              · exact h11 (zz_toInt ek (by decide))
                              · exact h12 (zz_toInt ek (by decide))
                              · exact h13 (zz_toInt ek (by decide))
                              · exact h14 (zz_toInt ek (by decide))
                              · exact h15 (zz_toInt ek (by decide))
                            ·
                              refine lv_iconst (v := (-1 : Int32)) hx hb d_C_look_184 (by decide) ?_
                              have hsp : s_C_look u_z u_M u_r u_d u_a u_lo u_hi u_ri u_t a1 = (-1 : Int32) := (by unfold s_C_look; rw [if_neg h1, if_neg h3, if_neg h4, if_neg h5, if_neg h6, if_neg h7, if_neg h8, if_neg h9, if_neg h11, if_neg h12, if_neg h13, if_neg h14, if_neg h15])
                              rw [hsp] at hE
                              exact hE _ _ _ _ hP hD hS d_C_look_185
set_option maxHeartbeats 4000000 in
set_option maxRecDepth 100000 in
theorem k_C_list (l : Launch) (D : va_G) (cI : ClassId) (sz : Nat) (xC : Nat) (xP : Nat) (xM : Nat) (xW : Nat) (xR : Nat) (xD : Nat) (xA : Nat) (xG : Nat) (xL : Nat) (xH : Nat) (xI : Nat) (xT : Nat) (u_z : Nat → Int32) (u_M : Nat → Int32) (u_r : Nat → Int32) (u_d : Nat → Int32) (u_a : Nat → Int32) (u_lo : Nat → Int32) (u_hi : Nat → Int32) (u_ri : Nat → Int32) (u_t : Nat → Int32) (a1 : Int32) : zMi l y_C_list (.code y_C_list b_C_list 2 (some .int) :: wd) { frames := 3, cells := 0, slots := 0, locals := 64 } D classes [(cI, .int)] [.ref xC, .int a1] [oC xC xP, oP xP xM xR xG xT u_z, oM xM xW, ar cI xW 512 u_M, oR xR xD xA u_r, ar cI xD 8 u_d, ar cI xA 8 u_a, oG xG xL xH xI, ar cI xL 6 u_lo, ar cI xH 6 u_hi, ar cI xI 6 u_ri, oT xT u_t] [oC xC xP, oP xP xM xR xG xT u_z, oM xM xW, ar cI xW 512 u_M, oR xR xD xA u_r, ar cI xD 8 u_d, ar cI xA 8 u_a, oG xG xL xH xI, ar cI xL 6 u_lo, ar cI xH 6 u_hi, ar cI xI 6 u_ri, oT xT u_t] sz (s_C_list u_z u_M u_r u_d u_a u_lo u_hi u_ri u_t a1) := by
  refine met_i (by decide) (Nat.le_of_ble_eq_true rfl) rfl ?_
  intro p e s m args below meth c A Q ls hx hb hml hown hts hK hP hD hS hA hl hE
  have hl : lv_has ls 2 [(0, .ref xC), (1, .int a1)] := hl
  have hown : s.vm.findClass R_C = some m.cls := hown
  refine lv_iload_n hx hb d_C_list_0 rfl (lv_at hl 1 rfl) ?_
  refine lv_if_lt (tgt := 9) hx hb d_C_list_1 (by decide) (fun h1 => ?_) (fun h1 => ?_)
  ·
    refine lv_iconst (v := (-1 : Int32)) hx hb d_C_list_9 (by decide) ?_
    have hsp : s_C_list u_z u_M u_r u_d u_a u_lo u_hi u_ri u_t a1 = (-1 : Int32) := (by unfold s_C_list; rw [if_pos h1])
    rw [hsp] at hE
    exact hE _ _ _ _ hP hD hS d_C_list_10
  ·
    refine lv_iload_n hx hb d_C_list_4 rfl (lv_at hl 1 rfl) ?_
    refine lv_iconst (v := (1 : Int32)) hx hb d_C_list_5 (by decide) ?_
    refine lv_icmp_le (tgt := 11) hx hb d_C_list_6 (by decide) (fun h2 => ?_) (fun h2 => ?_)
    ·
      refine lv_aload_n hx hb d_C_list_11 rfl (lv_at hl 0 rfl) ?_
      refine zz_get (C := R_C) (T := F_C) (N := 1) (v := .ref xP) hx hb hts in_C hown hK hP 0 rfl rfl 0 (by decide) mw_43 rfl d_C_list_12 ?_
      refine zz_get (C := R_P) (T := F_P) (N := 10) (v := .ref xM) hx hb hts in_P hown hK hP 1 rfl rfl 0 (by decide) mw_44 rfl d_C_list_15 ?_
      refine lv_iload_n hx hb d_C_list_18 rfl (lv_at hl 1 rfl) ?_
      have J19_3 : ∀ (vj19_0 : Int32) (ls : Array Slot) (H : Heap) (locs : List Loc), vj19_0 = (if a1 = 0 then (u_r 1) else (u_r 3)) → lv_has ls 2 [(0, .ref xC), (1, .int a1)] → va_P D classes [oC xC xP, oP xP xM xR xG xT u_z, oM xM xW, ar cI xW 512 u_M, oR xR xD xA u_r, ar cI xD 8 u_d, ar cI xA 8 u_a, oG xG xL xH xI, ar cI xL 6 u_lo, ar cI xH 6 u_hi, ar cI xI 6 u_ri, oT xT u_t] H → va_D A [oC xC xP, oP xP xM xR xG xT u_z, oM xM xW, ar cI xW 512 u_M, oR xR xD xA u_r, ar cI xD 8 u_d, ar cI xA 8 u_a, oG xG xL xH xI, ar cI xL 6 u_lo, ar cI xH 6 u_hi, ar cI xI 6 u_ri, oT xT u_t] → va_S A s.heap H locs → W p l e { frames := 3, cells := 0, slots := 0, locals := 64 } s m args below meth c H locs 0 0 Q (F0 m 45 ls [.int vj19_0, .ref xM]) := by
        intro vj19_0 ls H locs evj19_0 hl hP hD hS
        subst evj19_0
        refine zz_rVi (rest := []) ⟨hx, hb, hml, hown, hts⟩ (k_M_countAreas l D cI _ xM xW u_M (if a1 = 0 then (u_r 1) else (u_r 3))) g_C_list_M_countAreas_165 nv_M_countAreas ⟨⟨rfl, rfl⟩, Nat.le_of_ble_eq_true rfl, Nat.le_of_ble_eq_true rfl⟩ hK [0] rfl hP hD hS hA [2, 3] rfl rfl 2 0 rfl rfl rfl rfl hl.1 (Nat.le_of_ble_eq_true rfl) d_C_list_45 ⟨Nat.zero_le _, Nat.zero_le _⟩ (fun H locs hP hD hS => ?_)
        have hsp : s_C_list u_z u_M u_r u_d u_a u_lo u_hi u_ri u_t a1 = (s_M_countAreas u_M (if a1 = 0 then (u_r 1) else (u_r 3))) := (by unfold s_C_list; rw [if_neg h1, if_pos h2])
        rw [hsp] at hE
        exact hE _ _ _ _ hP hD hS d_C_list_48
      refine lv_if_ne (tgt := 35) hx hb d_C_list_19 (by decide) (fun h3 => ?_) (fun h3 => ?_)
      ·
        refine lv_aload_n hx hb d_C_list_35 rfl (lv_at hl 0 rfl) ?_
        refine zz_get (C := R_C) (T := F_C) (N := 1) (v := .ref xP) hx hb hts in_C hown hK hP 0 rfl rfl 0 (by decide) mw_43 rfl d_C_list_36 ?_
        refine zz_get (C := R_P) (T := F_P) (N := 10) (v := .ref xR) hx hb hts in_P hown hK hP 1 rfl rfl 1 (by decide) mw_46 rfl d_C_list_39 ?_
        refine zz_get (C := R_R) (T := F_R) (N := 12) (v := .int (u_r 3)) hx hb hts in_R hown hK hP 4 rfl rfl 5 (by decide) mw_49 rfl d_C_list_42 ?_
        exact J19_3 (u_r 3) _ _ _ (by rw [if_neg h3]) (lv_sub hl [0, 1] rfl) hP hD hS
      ·
        refine lv_aload_n hx hb d_C_list_22 rfl (lv_at hl 0 rfl) ?_
        refine zz_get (C := R_C) (T := F_C) (N := 1) (v := .ref xP) hx hb hts in_C hown hK hP 0 rfl rfl 0 (by decide) mw_43 rfl d_C_list_23 ?_
        refine zz_get (C := R_P) (T := F_P) (N := 10) (v := .ref xR) hx hb hts in_P hown hK hP 1 rfl rfl 1 (by decide) mw_46 rfl d_C_list_26 ?_
        refine zz_get (C := R_R) (T := F_R) (N := 12) (v := .int (u_r 1)) hx hb hts in_R hown hK hP 4 rfl rfl 3 (by decide) mw_47 rfl d_C_list_29 ?_
        refine lv_goto (tgt := 45) hx hb d_C_list_32 (by decide) ?_
        exact J19_3 (u_r 1) _ _ _ (by rw [if_pos h3]) (lv_sub hl [0, 1] rfl) hP hD hS
    ·
      refine lv_iconst (v := (-1 : Int32)) hx hb d_C_list_9 (by decide) ?_
      have hsp : s_C_list u_z u_M u_r u_d u_a u_lo u_hi u_ri u_t a1 = (-1 : Int32) := (by unfold s_C_list; rw [if_neg h1, if_neg h2])
      rw [hsp] at hE
      exact hE _ _ _ _ hP hD hS d_C_list_10
set_option maxHeartbeats 4000000 in
set_option maxRecDepth 100000 in
theorem k_P_step (l : Launch) (D : va_G) (cI : ClassId) (sz : Nat) (xP : Nat) (xM : Nat) (xW : Nat) (xR : Nat) (xD : Nat) (xA : Nat) (xG : Nat) (xL : Nat) (xH : Nat) (xI : Nat) (xT : Nat) (u_z : Nat → Int32) (u_M : Nat → Int32) (u_r : Nat → Int32) (u_d : Nat → Int32) (u_a : Nat → Int32) (u_lo : Nat → Int32) (u_hi : Nat → Int32) (u_ri : Nat → Int32) (u_t : Nat → Int32) (hset : u_r 5 = 0 ∨ u_r 5 = 1) : zMv l y_P_step (.code y_P_step b_P_step 3 (none) :: wd) { frames := 5, cells := 0, slots := 0, locals := 123 } D classes [(cI, .int)] [.ref xP] [oP xP xM xR xG xT u_z, oM xM xW, ar cI xW 512 u_M, oR xR xD xA u_r, ar cI xD 8 u_d, ar cI xA 8 u_a, oG xG xL xH xI, ar cI xL 6 u_lo, ar cI xH 6 u_hi, ar cI xI 6 u_ri, oT xT u_t] [oP xP xM xR xG xT ((s_P_step u_z u_M u_r u_d u_a u_lo u_hi u_ri u_t).1), oM xM xW, ar cI xW 512 ((s_P_step u_z u_M u_r u_d u_a u_lo u_hi u_ri u_t).2.1), oR xR xD xA ((s_P_step u_z u_M u_r u_d u_a u_lo u_hi u_ri u_t).2.2.1), ar cI xD 8 ((s_P_step u_z u_M u_r u_d u_a u_lo u_hi u_ri u_t).2.2.2.1), ar cI xA 8 ((s_P_step u_z u_M u_r u_d u_a u_lo u_hi u_ri u_t).2.2.2.2.1), oG xG xL xH xI, ar cI xL 6 u_lo, ar cI xH 6 u_hi, ar cI xI 6 u_ri, oT xT ((s_P_step u_z u_M u_r u_d u_a u_lo u_hi u_ri u_t).2.2.2.2.2)] sz := by
  refine met_v (by decide) (Nat.le_of_ble_eq_true rfl) ?_
  intro p e s m args below meth c A Q ls hx hb hml hown hts hK hP hD hS hA hl hE
  have hl : lv_has ls 3 [(0, .ref xP)] := hl
  have hown : s.vm.findClass R_P = some m.cls := hown
  have CUT91 : ∀ (u_z' : Nat → Int32) (u_M' : Nat → Int32) (u_r' : Nat → Int32) (u_d' : Nat → Int32) (u_a' : Nat → Int32) (u_t' : Nat → Int32) (ls : Array Slot) (H : Heap) (locs : List Loc), s_P_step u_z u_M u_r u_d u_a u_lo u_hi u_ri u_t = s_P_step_c91 u_lo u_hi u_ri u_z' u_M' u_r' u_d' u_a' u_t' → lv_has ls 3 [(0, .ref xP)] → va_P D classes [oP xP xM xR xG xT u_z', oM xM xW, ar cI xW 512 u_M', oR xR xD xA u_r', ar cI xD 8 u_d', ar cI xA 8 u_a', oG xG xL xH xI, ar cI xL 6 u_lo, ar cI xH 6 u_hi, ar cI xI 6 u_ri, oT xT u_t'] H → va_D A [oP xP xM xR xG xT u_z', oM xM xW, ar cI xW 512 u_M', oR xR xD xA u_r', ar cI xD 8 u_d', ar cI xA 8 u_a', oG xG xL xH xI, ar cI xL 6 u_lo, ar cI xH 6 u_hi, ar cI xI 6 u_ri, oT xT u_t'] → va_S A s.heap H locs → W p l e { frames := 5, cells := 0, slots := 0, locals := 123 } s m args below meth c H locs 0 0 Q (F0 m 91 ls []) := by
    intro u_z' u_M' u_r' u_d' u_a' u_t' ls H locs hres hl hP hD hS
    refine lv_aload_n hx hb d_P_step_91 rfl (lv_at hl 0 rfl) ?_
    refine zz_get (C := R_P) (T := F_P) (N := 10) (v := .int (u_z' 0)) hx hb hts in_P hown hK hP 0 rfl rfl 4 (by decide) mw_29 rfl d_P_step_92 ?_
    refine lv_if_eq (tgt := 122) hx hb d_P_step_95 (by decide) (fun h4 => ?_) (fun h4 => ?_)
    ·
      have hsp : s_P_step u_z u_M u_r u_d u_a u_lo u_hi u_ri u_t = (u_z', u_M', u_r', u_d', u_a', u_t') := (hres.trans (by unfold s_P_step_c91; rw [if_pos h4]))
      rw [hsp] at hE
      exact hE _ _ _ _ hP hD hS d_P_step_122
    ·
      refine lv_aload_n hx hb d_P_step_98 rfl (lv_at hl 0 rfl) ?_
      refine zz_get (C := R_P) (T := F_P) (N := 10) (v := .ref xR) hx hb hts in_P hown hK hP 0 rfl rfl 1 (by decide) mw_22 rfl d_P_step_99 ?_
      refine zz_get (C := R_R) (T := F_R) (N := 12) (v := .int (u_r' 9)) hx hb hts in_R hown hK hP 3 rfl rfl 11 (by decide) mw_34 rfl d_P_step_102 ?_
      refine lv_if_eq (tgt := 122) hx hb d_P_step_105 (by decide) (fun h5 => ?_) (fun h5 => ?_)
      ·
        have hsp : s_P_step u_z u_M u_r u_d u_a u_lo u_hi u_ri u_t = (u_z', u_M', u_r', u_d', u_a', u_t') := (hres.trans (by unfold s_P_step_c91; rw [if_neg h4, if_pos h5]))
        rw [hsp] at hE
        exact hE _ _ _ _ hP hD hS d_P_step_122
      ·
        refine lv_aload_n hx hb d_P_step_108 rfl (lv_at hl 0 rfl) ?_
        refine lv_sipush (v := (769 : Int32)) hx hb d_P_step_109 (by decide) ?_
        refine lv_aload_n hx hb d_P_step_112 rfl (lv_at hl 0 rfl) ?_
        refine zz_get (C := R_P) (T := F_P) (N := 10) (v := .ref xR) hx hb hts in_P hown hK hP 0 rfl rfl 1 (by decide) mw_22 rfl d_P_step_113 ?_
        refine zz_get (C := R_R) (T := F_R) (N := 12) (v := .int (u_r' 0)) hx hb hts in_R hown hK hP 3 rfl rfl 2 (by decide) mw_28 rfl d_P_step_116 ?_
        refine zz_cVv (rest := []) (wr := []) (w' := [oP xP xM xR xG xT ((s_P_takeTrap u_z' u_M' u_r' u_d' u_a' u_lo u_hi u_ri u_t' (769 : Int32) (u_r' 0)).1), oM xM xW, ar cI xW 512 ((s_P_takeTrap u_z' u_M' u_r' u_d' u_a' u_lo u_hi u_ri u_t' (769 : Int32) (u_r' 0)).2.1), oR xR xD xA ((s_P_takeTrap u_z' u_M' u_r' u_d' u_a' u_lo u_hi u_ri u_t' (769 : Int32) (u_r' 0)).2.2.1), ar cI xD 8 ((s_P_takeTrap u_z' u_M' u_r' u_d' u_a' u_lo u_hi u_ri u_t' (769 : Int32) (u_r' 0)).2.2.2.1), ar cI xA 8 ((s_P_takeTrap u_z' u_M' u_r' u_d' u_a' u_lo u_hi u_ri u_t' (769 : Int32) (u_r' 0)).2.2.2.2), oG xG xL xH xI, ar cI xL 6 u_lo, ar cI xH 6 u_hi, ar cI xI 6 u_ri, oT xT u_t']) ⟨hx, hb, hml, hown, hts⟩ (k_P_takeTrap l D cI _ xP xM xW xR xD xA xG xL xH xI xT u_z' u_M' u_r' u_d' u_a' u_lo u_hi u_ri u_t' (769 : Int32) (u_r' 0)) g_P_step_P_takeTrap_83 nv_P_takeTrap ⟨⟨rfl, rfl⟩, Nat.le_of_ble_eq_true rfl, Nat.le_of_ble_eq_true rfl⟩ hK [0] rfl hP hD hS hA [0, 1, 2, 3, 4, 5, 6, 7, 8, 9, 10] [] [0, 1, 2, 3, 4, 5, 6, 7, 8, 9, 10] rfl rfl rfl rfl (by decide) rfl rfl 0 4 rfl rfl rfl rfl hl.1 (Nat.le_of_ble_eq_true rfl) d_P_step_119 ⟨Nat.zero_le _, Nat.zero_le _⟩ (fun H locs hP hD hS => ?_)
        have hsp : s_P_step u_z u_M u_r u_d u_a u_lo u_hi u_ri u_t = ((s_P_takeTrap u_z' u_M' u_r' u_d' u_a' u_lo u_hi u_ri u_t' (769 : Int32) (u_r' 0)).1, (s_P_takeTrap u_z' u_M' u_r' u_d' u_a' u_lo u_hi u_ri u_t' (769 : Int32) (u_r' 0)).2.1, (s_P_takeTrap u_z' u_M' u_r' u_d' u_a' u_lo u_hi u_ri u_t' (769 : Int32) (u_r' 0)).2.2.1, (s_P_takeTrap u_z' u_M' u_r' u_d' u_a' u_lo u_hi u_ri u_t' (769 : Int32) (u_r' 0)).2.2.2.1, (s_P_takeTrap u_z' u_M' u_r' u_d' u_a' u_lo u_hi u_ri u_t' (769 : Int32) (u_r' 0)).2.2.2.2, u_t') := (hres.trans (by unfold s_P_step_c91; rw [if_neg h4, if_neg h5]))
        rw [hsp] at hE
        exact hE _ _ _ _ hP hD hS d_P_step_122
  refine lv_aload_n hx hb d_P_step_0 rfl (lv_at hl 0 rfl) ?_
  refine zz_get (C := R_P) (T := F_P) (N := 10) (v := .ref xT) hx hb hts in_P hown hK hP 0 rfl rfl 3 (by decide) mw_25 rfl d_P_step_1 ?_
  refine zz_cVv (rest := []) (wr := [oP xP xM xR xG xT u_z, oM xM xW, ar cI xW 512 u_M, oR xR xD xA u_r, ar cI xD 8 u_d, ar cI xA 8 u_a, oG xG xL xH xI, ar cI xL 6 u_lo, ar cI xH 6 u_hi, ar cI xI 6 u_ri]) (w' := [oP xP xM xR xG xT u_z, oM xM xW, ar cI xW 512 u_M, oR xR xD xA u_r, ar cI xD 8 u_d, ar cI xA 8 u_a, oG xG xL xH xI, ar cI xL 6 u_lo, ar cI xH 6 u_hi, ar cI xI 6 u_ri, oT xT (s_T_tick u_t)]) ⟨hx, hb, hml, hown, hts⟩ (k_T_tick l D cI _ xT u_t) g_P_step_T_tick_43 nv_T_tick ⟨⟨rfl, rfl⟩, Nat.le_of_ble_eq_true rfl, Nat.le_of_ble_eq_true rfl⟩ hK [0] rfl hP hD hS hA [10] [0, 1, 2, 3, 4, 5, 6, 7, 8, 9] [0, 1, 2, 3, 4, 5, 6, 7, 8, 9, 10] rfl rfl rfl rfl (by decide) rfl rfl 10 3 rfl rfl rfl rfl hl.1 (Nat.le_of_ble_eq_true rfl) d_P_step_4 ⟨Nat.zero_le _, Nat.zero_le _⟩ (fun H locs hP hD hS => ?_)
  refine lv_aload_n hx hb d_P_step_7 rfl (lv_at hl 0 rfl) ?_
  refine zz_get (C := R_P) (T := F_P) (N := 10) (v := .ref xR) hx hb hts in_P hown hK hP 0 rfl rfl 1 (by decide) mw_22 rfl d_P_step_8 ?_
  refine lv_iconst (v := (0 : Int32)) hx hb d_P_step_11 (by decide) ?_
  refine zz_put (C := R_R) (T := F_R) (N := 12) (w' := [oP xP xM xR xG xT u_z, oM xM xW, ar cI xW 512 u_M, oR xR xD xA (upd u_r 9 (0 : Int32)), ar cI xD 8 u_d, ar cI xA 8 u_a, oG xG xL xH xI, ar cI xL 6 u_lo, ar cI xH 6 u_hi, ar cI xI 6 u_ri, oT xT (s_T_tick u_t)]) hx hb hts in_R ty_R ty_R_ok n_R hown hK hP hD hS 3 rfl rfl 11 (by decide) mw_34 rfl rfl rfl (Nat.le_of_ble_eq_true rfl) d_P_step_12 rfl (fun H locs hP hD hS => ?_)
  refine lv_aload_n hx hb d_P_step_15 rfl (lv_at hl 0 rfl) ?_
  refine zz_get (C := R_P) (T := F_P) (N := 10) (v := .ref xR) hx hb hts in_P hown hK hP 0 rfl rfl 1 (by decide) mw_22 rfl d_P_step_16 ?_
  refine zz_get (C := R_R) (T := F_R) (N := 12) (v := .int (u_r 8)) hx hb hts in_R hown hK hP 3 rfl rfl 10 (by decide) mw_42 rfl d_P_step_19 ?_
  have J22_1 : ∀ (vj22_0 : Int32) (ls : Array Slot) (H : Heap) (locs : List Loc), vj22_0 = (if (u_r 8) = 0 then (0 : Int32) else (s_T_greatest (s_T_tick u_t))) → lv_has ls 3 [(0, .ref xP)] → va_P D classes [oP xP xM xR xG xT u_z, oM xM xW, ar cI xW 512 u_M, oR xR xD xA (upd u_r 9 (0 : Int32)), ar cI xD 8 u_d, ar cI xA 8 u_a, oG xG xL xH xI, ar cI xL 6 u_lo, ar cI xH 6 u_hi, ar cI xI 6 u_ri, oT xT (s_T_tick u_t)] H → va_D A [oP xP xM xR xG xT u_z, oM xM xW, ar cI xW 512 u_M, oR xR xD xA (upd u_r 9 (0 : Int32)), ar cI xD 8 u_d, ar cI xA 8 u_a, oG xG xL xH xI, ar cI xL 6 u_lo, ar cI xH 6 u_hi, ar cI xI 6 u_ri, oT xT (s_T_tick u_t)] → va_S A s.heap H locs → W p l e { frames := 5, cells := 0, slots := 0, locals := 123 } s m args below meth c H locs 0 0 Q (F0 m 36 ls [.int vj22_0]) := by
    intro vj22_0 ls H locs evj22_0 hl hP hD hS
    subst evj22_0
    refine lv_istore_n (lv' := [(1, .int (if (u_r 8) = 0 then (0 : Int32) else (s_T_greatest (s_T_tick u_t)))), (0, .ref xP)]) hx hb d_P_step_36 rfl hl (by decide) rfl (fun ls hl => ?_)
    refine lv_iload_n hx hb d_P_step_37 rfl (lv_at hl 0 rfl) ?_
    refine lv_aload_n hx hb d_P_step_38 rfl (lv_at hl 1 rfl) ?_
    refine zz_get (C := R_P) (T := F_P) (N := 10) (v := .ref xR) hx hb hts in_P hown hK hP 0 rfl rfl 1 (by decide) mw_22 rfl d_P_step_39 ?_
    refine zz_get (C := R_R) (T := F_R) (N := 12) (v := .int (u_r 7)) hx hb hts in_R hown hK hP 3 rfl rfl 9 (by decide) mw_26 rfl d_P_step_42 ?_
    refine lv_icmp_le (tgt := 56) hx hb d_P_step_45 (by decide) (fun h2 => ?_) (fun h2 => ?_)
    ·
      refine lv_aload_n hx hb d_P_step_56 rfl (lv_at hl 1 rfl) ?_
      refine zz_rVi (rest := []) ⟨hx, hb, hml, hown, hts⟩ (k_P_refuseFetch l D cI _ xP xM xW xR xD xA xG xL xH xI xT u_z u_M (upd u_r 9 (0 : Int32)) u_d u_a u_lo u_hi u_ri (s_T_tick u_t) hset) g_P_step_P_refuseFetch_64 nv_P_refuseFetch ⟨⟨rfl, rfl⟩, Nat.le_of_ble_eq_true rfl, Nat.le_of_ble_eq_true rfl⟩ hK [0] rfl hP hD hS hA [0, 1, 2, 3, 4, 5, 6, 7, 8, 9, 10] rfl rfl 0 4 rfl rfl rfl rfl hl.1 (Nat.le_of_ble_eq_true rfl) d_P_step_57 ⟨Nat.zero_le _, Nat.zero_le _⟩ (fun H locs hP hD hS => ?_)
      refine lv_istore_n (lv' := [(2, .int (s_P_refuseFetch u_z u_M (upd u_r 9 (0 : Int32)) u_d u_a u_lo u_hi u_ri (s_T_tick u_t))), (1, .int (if (u_r 8) = 0 then (0 : Int32) else (s_T_greatest (s_T_tick u_t)))), (0, .ref xP)]) hx hb d_P_step_60 rfl hl (by decide) rfl (fun ls hl => ?_)
      refine lv_aload_n hx hb d_P_step_61 rfl (lv_at hl 2 rfl) ?_
      refine lv_iload_n hx hb d_P_step_62 rfl (lv_at hl 0 rfl) ?_
      refine lv_if_ne (tgt := 87) hx hb d_P_step_63 (by decide) (fun h3 => ?_) (fun h3 => ?_)
      ·
        refine lv_iload_n hx hb d_P_step_87 rfl (lv_at hl 0 rfl) ?_
        refine zz_cVv (rest := []) (wr := []) (w' := [oP xP xM xR xG xT ((s_P_finish u_z u_M (upd u_r 9 (0 : Int32)) u_d u_a u_lo u_hi u_ri (s_T_tick u_t) (s_P_refuseFetch u_z u_M (upd u_r 9 (0 : Int32)) u_d u_a u_lo u_hi u_ri (s_T_tick u_t))).1), oM xM xW, ar cI xW 512 ((s_P_finish u_z u_M (upd u_r 9 (0 : Int32)) u_d u_a u_lo u_hi u_ri (s_T_tick u_t) (s_P_refuseFetch u_z u_M (upd u_r 9 (0 : Int32)) u_d u_a u_lo u_hi u_ri (s_T_tick u_t))).2.1), oR xR xD xA ((s_P_finish u_z u_M (upd u_r 9 (0 : Int32)) u_d u_a u_lo u_hi u_ri (s_T_tick u_t) (s_P_refuseFetch u_z u_M (upd u_r 9 (0 : Int32)) u_d u_a u_lo u_hi u_ri (s_T_tick u_t))).2.2.1), ar cI xD 8 ((s_P_finish u_z u_M (upd u_r 9 (0 : Int32)) u_d u_a u_lo u_hi u_ri (s_T_tick u_t) (s_P_refuseFetch u_z u_M (upd u_r 9 (0 : Int32)) u_d u_a u_lo u_hi u_ri (s_T_tick u_t))).2.2.2.1), ar cI xA 8 ((s_P_finish u_z u_M (upd u_r 9 (0 : Int32)) u_d u_a u_lo u_hi u_ri (s_T_tick u_t) (s_P_refuseFetch u_z u_M (upd u_r 9 (0 : Int32)) u_d u_a u_lo u_hi u_ri (s_T_tick u_t))).2.2.2.2), oG xG xL xH xI, ar cI xL 6 u_lo, ar cI xH 6 u_hi, ar cI xI 6 u_ri, oT xT (s_T_tick u_t)]) ⟨hx, hb, hml, hown, hts⟩ (k_P_finish l D cI _ xP xM xW xR xD xA xG xL xH xI xT u_z u_M (upd u_r 9 (0 : Int32)) u_d u_a u_lo u_hi u_ri (s_T_tick u_t) (s_P_refuseFetch u_z u_M (upd u_r 9 (0 : Int32)) u_d u_a u_lo u_hi u_ri (s_T_tick u_t))) g_P_step_P_finish_77 nv_P_finish ⟨⟨rfl, rfl⟩, Nat.le_of_ble_eq_true rfl, Nat.le_of_ble_eq_true rfl⟩ hK [0] rfl hP hD hS hA [0, 1, 2, 3, 4, 5, 6, 7, 8, 9, 10] [] [0, 1, 2, 3, 4, 5, 6, 7, 8, 9, 10] rfl rfl rfl rfl (by decide) rfl rfl 0 4 rfl rfl rfl rfl hl.1 (Nat.le_of_ble_eq_true rfl) d_P_step_88 ⟨Nat.zero_le _, Nat.zero_le _⟩ (fun H locs hP hD hS => ?_)
        exact CUT91 ((s_P_finish u_z u_M (upd u_r 9 (0 : Int32)) u_d u_a u_lo u_hi u_ri (s_T_tick u_t) (s_P_refuseFetch u_z u_M (upd u_r 9 (0 : Int32)) u_d u_a u_lo u_hi u_ri (s_T_tick u_t))).1) ((s_P_finish u_z u_M (upd u_r 9 (0 : Int32)) u_d u_a u_lo u_hi u_ri (s_T_tick u_t) (s_P_refuseFetch u_z u_M (upd u_r 9 (0 : Int32)) u_d u_a u_lo u_hi u_ri (s_T_tick u_t))).2.1) ((s_P_finish u_z u_M (upd u_r 9 (0 : Int32)) u_d u_a u_lo u_hi u_ri (s_T_tick u_t) (s_P_refuseFetch u_z u_M (upd u_r 9 (0 : Int32)) u_d u_a u_lo u_hi u_ri (s_T_tick u_t))).2.2.1) ((s_P_finish u_z u_M (upd u_r 9 (0 : Int32)) u_d u_a u_lo u_hi u_ri (s_T_tick u_t) (s_P_refuseFetch u_z u_M (upd u_r 9 (0 : Int32)) u_d u_a u_lo u_hi u_ri (s_T_tick u_t))).2.2.2.1) ((s_P_finish u_z u_M (upd u_r 9 (0 : Int32)) u_d u_a u_lo u_hi u_ri (s_T_tick u_t) (s_P_refuseFetch u_z u_M (upd u_r 9 (0 : Int32)) u_d u_a u_lo u_hi u_ri (s_T_tick u_t))).2.2.2.2) (s_T_tick u_t) _ _ _ (by unfold s_P_step; rw [if_pos h2, if_neg h3]) (lv_sub hl [2] rfl) hP hD hS
      ·
        refine lv_aload_n hx hb d_P_step_66 rfl (lv_at hl 2 rfl) ?_
        refine lv_aload_n hx hb d_P_step_67 rfl (lv_at hl 2 rfl) ?_
        refine zz_get (C := R_P) (T := F_P) (N := 10) (v := .ref xM) hx hb hts in_P hown hK hP 0 rfl rfl 0 (by decide) mw_24 rfl d_P_step_68 ?_
        refine lv_aload_n hx hb d_P_step_71 rfl (lv_at hl 2 rfl) ?_
        refine zz_get (C := R_P) (T := F_P) (N := 10) (v := .ref xR) hx hb hts in_P hown hK hP 0 rfl rfl 1 (by decide) mw_22 rfl d_P_step_72 ?_
        refine zz_get (C := R_R) (T := F_R) (N := 12) (v := .int (u_r 0)) hx hb hts in_R hown hK hP 3 rfl rfl 2 (by decide) mw_28 rfl d_P_step_75 ?_
        refine zz_rVi (rest := [.ref xP, .ref xP]) ⟨hx, hb, hml, hown, hts⟩ (k_M_read l D cI _ xM xW u_M (u_r 0)) g_P_step_M_read_70 nv_M_read ⟨⟨rfl, rfl⟩, Nat.le_of_ble_eq_true rfl, Nat.le_of_ble_eq_true rfl⟩ hK [0] rfl hP hD hS hA [1, 2] rfl rfl 1 0 rfl rfl rfl rfl hl.1 (Nat.le_of_ble_eq_true rfl) d_P_step_78 ⟨Nat.zero_le _, Nat.zero_le _⟩ (fun H locs hP hD hS => ?_)
        refine zz_cVi (rest := [.ref xP]) (wr := []) (w' := [oP xP xM xR xG xT u_z, oM xM xW, ar cI xW 512 ((s_P_perform u_z u_M (upd u_r 9 (0 : Int32)) u_d u_a u_lo u_hi u_ri (s_T_tick u_t) (s_M_read u_M (u_r 0))).2.1), oR xR xD xA ((s_P_perform u_z u_M (upd u_r 9 (0 : Int32)) u_d u_a u_lo u_hi u_ri (s_T_tick u_t) (s_M_read u_M (u_r 0))).2.2.1), ar cI xD 8 ((s_P_perform u_z u_M (upd u_r 9 (0 : Int32)) u_d u_a u_lo u_hi u_ri (s_T_tick u_t) (s_M_read u_M (u_r 0))).2.2.2.1), ar cI xA 8 ((s_P_perform u_z u_M (upd u_r 9 (0 : Int32)) u_d u_a u_lo u_hi u_ri (s_T_tick u_t) (s_M_read u_M (u_r 0))).2.2.2.2), oG xG xL xH xI, ar cI xL 6 u_lo, ar cI xH 6 u_hi, ar cI xI 6 u_ri, oT xT (s_T_tick u_t)]) ⟨hx, hb, hml, hown, hts⟩ (k_P_perform l D cI _ xP xM xW xR xD xA xG xL xH xI xT u_z u_M (upd u_r 9 (0 : Int32)) u_d u_a u_lo u_hi u_ri (s_T_tick u_t) (s_M_read u_M (u_r 0)) hset) g_P_step_P_perform_74 nv_P_perform ⟨⟨rfl, rfl⟩, Nat.le_of_ble_eq_true rfl, Nat.le_of_ble_eq_true rfl⟩ hK [0] rfl hP hD hS hA [0, 1, 2, 3, 4, 5, 6, 7, 8, 9, 10] [] [0, 1, 2, 3, 4, 5, 6, 7, 8, 9, 10] rfl rfl rfl rfl (by decide) rfl rfl 0 4 rfl rfl rfl rfl hl.1 (Nat.le_of_ble_eq_true rfl) d_P_step_81 ⟨Nat.zero_le _, Nat.zero_le _⟩ (fun H locs hP hD hS => ?_)
        refine lv_goto (tgt := 88) hx hb d_P_step_84 (by decide) ?_
        refine zz_cVv (rest := []) (wr := []) (w' := [oP xP xM xR xG xT ((s_P_finish u_z ((s_P_perform u_z u_M (upd u_r 9 (0 : Int32)) u_d u_a u_lo u_hi u_ri (s_T_tick u_t) (s_M_read u_M (u_r 0))).2.1) ((s_P_perform u_z u_M (upd u_r 9 (0 : Int32)) u_d u_a u_lo u_hi u_ri (s_T_tick u_t) (s_M_read u_M (u_r 0))).2.2.1) ((s_P_perform u_z u_M (upd u_r 9 (0 : Int32)) u_d u_a u_lo u_hi u_ri (s_T_tick u_t) (s_M_read u_M (u_r 0))).2.2.2.1) ((s_P_perform u_z u_M (upd u_r 9 (0 : Int32)) u_d u_a u_lo u_hi u_ri (s_T_tick u_t) (s_M_read u_M (u_r 0))).2.2.2.2) u_lo u_hi u_ri (s_T_tick u_t) ((s_P_perform u_z u_M (upd u_r 9 (0 : Int32)) u_d u_a u_lo u_hi u_ri (s_T_tick u_t) (s_M_read u_M (u_r 0))).1)).1), oM xM xW, ar cI xW 512 ((s_P_finish u_z ((s_P_perform u_z u_M (upd u_r 9 (0 : Int32)) u_d u_a u_lo u_hi u_ri (s_T_tick u_t) (s_M_read u_M (u_r 0))).2.1) ((s_P_perform u_z u_M (upd u_r 9 (0 : Int32)) u_d u_a u_lo u_hi u_ri (s_T_tick u_t) (s_M_read u_M (u_r 0))).2.2.1) ((s_P_perform u_z u_M (upd u_r 9 (0 : Int32)) u_d u_a u_lo u_hi u_ri (s_T_tick u_t) (s_M_read u_M (u_r 0))).2.2.2.1) ((s_P_perform u_z u_M (upd u_r 9 (0 : Int32)) u_d u_a u_lo u_hi u_ri (s_T_tick u_t) (s_M_read u_M (u_r 0))).2.2.2.2) u_lo u_hi u_ri (s_T_tick u_t) ((s_P_perform u_z u_M (upd u_r 9 (0 : Int32)) u_d u_a u_lo u_hi u_ri (s_T_tick u_t) (s_M_read u_M (u_r 0))).1)).2.1), oR xR xD xA ((s_P_finish u_z ((s_P_perform u_z u_M (upd u_r 9 (0 : Int32)) u_d u_a u_lo u_hi u_ri (s_T_tick u_t) (s_M_read u_M (u_r 0))).2.1) ((s_P_perform u_z u_M (upd u_r 9 (0 : Int32)) u_d u_a u_lo u_hi u_ri (s_T_tick u_t) (s_M_read u_M (u_r 0))).2.2.1) ((s_P_perform u_z u_M (upd u_r 9 (0 : Int32)) u_d u_a u_lo u_hi u_ri (s_T_tick u_t) (s_M_read u_M (u_r 0))).2.2.2.1) ((s_P_perform u_z u_M (upd u_r 9 (0 : Int32)) u_d u_a u_lo u_hi u_ri (s_T_tick u_t) (s_M_read u_M (u_r 0))).2.2.2.2) u_lo u_hi u_ri (s_T_tick u_t) ((s_P_perform u_z u_M (upd u_r 9 (0 : Int32)) u_d u_a u_lo u_hi u_ri (s_T_tick u_t) (s_M_read u_M (u_r 0))).1)).2.2.1), ar cI xD 8 ((s_P_finish u_z ((s_P_perform u_z u_M (upd u_r 9 (0 : Int32)) u_d u_a u_lo u_hi u_ri (s_T_tick u_t) (s_M_read u_M (u_r 0))).2.1) ((s_P_perform u_z u_M (upd u_r 9 (0 : Int32)) u_d u_a u_lo u_hi u_ri (s_T_tick u_t) (s_M_read u_M (u_r 0))).2.2.1) ((s_P_perform u_z u_M (upd u_r 9 (0 : Int32)) u_d u_a u_lo u_hi u_ri (s_T_tick u_t) (s_M_read u_M (u_r 0))).2.2.2.1) ((s_P_perform u_z u_M (upd u_r 9 (0 : Int32)) u_d u_a u_lo u_hi u_ri (s_T_tick u_t) (s_M_read u_M (u_r 0))).2.2.2.2) u_lo u_hi u_ri (s_T_tick u_t) ((s_P_perform u_z u_M (upd u_r 9 (0 : Int32)) u_d u_a u_lo u_hi u_ri (s_T_tick u_t) (s_M_read u_M (u_r 0))).1)).2.2.2.1), ar cI xA 8 ((s_P_finish u_z ((s_P_perform u_z u_M (upd u_r 9 (0 : Int32)) u_d u_a u_lo u_hi u_ri (s_T_tick u_t) (s_M_read u_M (u_r 0))).2.1) ((s_P_perform u_z u_M (upd u_r 9 (0 : Int32)) u_d u_a u_lo u_hi u_ri (s_T_tick u_t) (s_M_read u_M (u_r 0))).2.2.1) ((s_P_perform u_z u_M (upd u_r 9 (0 : Int32)) u_d u_a u_lo u_hi u_ri (s_T_tick u_t) (s_M_read u_M (u_r 0))).2.2.2.1) ((s_P_perform u_z u_M (upd u_r 9 (0 : Int32)) u_d u_a u_lo u_hi u_ri (s_T_tick u_t) (s_M_read u_M (u_r 0))).2.2.2.2) u_lo u_hi u_ri (s_T_tick u_t) ((s_P_perform u_z u_M (upd u_r 9 (0 : Int32)) u_d u_a u_lo u_hi u_ri (s_T_tick u_t) (s_M_read u_M (u_r 0))).1)).2.2.2.2), oG xG xL xH xI, ar cI xL 6 u_lo, ar cI xH 6 u_hi, ar cI xI 6 u_ri, oT xT (s_T_tick u_t)]) ⟨hx, hb, hml, hown, hts⟩ (k_P_finish l D cI _ xP xM xW xR xD xA xG xL xH xI xT u_z ((s_P_perform u_z u_M (upd u_r 9 (0 : Int32)) u_d u_a u_lo u_hi u_ri (s_T_tick u_t) (s_M_read u_M (u_r 0))).2.1) ((s_P_perform u_z u_M (upd u_r 9 (0 : Int32)) u_d u_a u_lo u_hi u_ri (s_T_tick u_t) (s_M_read u_M (u_r 0))).2.2.1) ((s_P_perform u_z u_M (upd u_r 9 (0 : Int32)) u_d u_a u_lo u_hi u_ri (s_T_tick u_t) (s_M_read u_M (u_r 0))).2.2.2.1) ((s_P_perform u_z u_M (upd u_r 9 (0 : Int32)) u_d u_a u_lo u_hi u_ri (s_T_tick u_t) (s_M_read u_M (u_r 0))).2.2.2.2) u_lo u_hi u_ri (s_T_tick u_t) ((s_P_perform u_z u_M (upd u_r 9 (0 : Int32)) u_d u_a u_lo u_hi u_ri (s_T_tick u_t) (s_M_read u_M (u_r 0))).1)) g_P_step_P_finish_77 nv_P_finish ⟨⟨rfl, rfl⟩, Nat.le_of_ble_eq_true rfl, Nat.le_of_ble_eq_true rfl⟩ hK [0] rfl hP hD hS hA [0, 1, 2, 3, 4, 5, 6, 7, 8, 9, 10] [] [0, 1, 2, 3, 4, 5, 6, 7, 8, 9, 10] rfl rfl rfl rfl (by decide) rfl rfl 0 4 rfl rfl rfl rfl hl.1 (Nat.le_of_ble_eq_true rfl) d_P_step_88 ⟨Nat.zero_le _, Nat.zero_le _⟩ (fun H locs hP hD hS => ?_)
        exact CUT91 ((s_P_finish u_z ((s_P_perform u_z u_M (upd u_r 9 (0 : Int32)) u_d u_a u_lo u_hi u_ri (s_T_tick u_t) (s_M_read u_M (u_r 0))).2.1) ((s_P_perform u_z u_M (upd u_r 9 (0 : Int32)) u_d u_a u_lo u_hi u_ri (s_T_tick u_t) (s_M_read u_M (u_r 0))).2.2.1) ((s_P_perform u_z u_M (upd u_r 9 (0 : Int32)) u_d u_a u_lo u_hi u_ri (s_T_tick u_t) (s_M_read u_M (u_r 0))).2.2.2.1) ((s_P_perform u_z u_M (upd u_r 9 (0 : Int32)) u_d u_a u_lo u_hi u_ri (s_T_tick u_t) (s_M_read u_M (u_r 0))).2.2.2.2) u_lo u_hi u_ri (s_T_tick u_t) ((s_P_perform u_z u_M (upd u_r 9 (0 : Int32)) u_d u_a u_lo u_hi u_ri (s_T_tick u_t) (s_M_read u_M (u_r 0))).1)).1) ((s_P_finish u_z ((s_P_perform u_z u_M (upd u_r 9 (0 : Int32)) u_d u_a u_lo u_hi u_ri (s_T_tick u_t) (s_M_read u_M (u_r 0))).2.1) ((s_P_perform u_z u_M (upd u_r 9 (0 : Int32)) u_d u_a u_lo u_hi u_ri (s_T_tick u_t) (s_M_read u_M (u_r 0))).2.2.1) ((s_P_perform u_z u_M (upd u_r 9 (0 : Int32)) u_d u_a u_lo u_hi u_ri (s_T_tick u_t) (s_M_read u_M (u_r 0))).2.2.2.1) ((s_P_perform u_z u_M (upd u_r 9 (0 : Int32)) u_d u_a u_lo u_hi u_ri (s_T_tick u_t) (s_M_read u_M (u_r 0))).2.2.2.2) u_lo u_hi u_ri (s_T_tick u_t) ((s_P_perform u_z u_M (upd u_r 9 (0 : Int32)) u_d u_a u_lo u_hi u_ri (s_T_tick u_t) (s_M_read u_M (u_r 0))).1)).2.1) ((s_P_finish u_z ((s_P_perform u_z u_M (upd u_r 9 (0 : Int32)) u_d u_a u_lo u_hi u_ri (s_T_tick u_t) (s_M_read u_M (u_r 0))).2.1) ((s_P_perform u_z u_M (upd u_r 9 (0 : Int32)) u_d u_a u_lo u_hi u_ri (s_T_tick u_t) (s_M_read u_M (u_r 0))).2.2.1) ((s_P_perform u_z u_M (upd u_r 9 (0 : Int32)) u_d u_a u_lo u_hi u_ri (s_T_tick u_t) (s_M_read u_M (u_r 0))).2.2.2.1) ((s_P_perform u_z u_M (upd u_r 9 (0 : Int32)) u_d u_a u_lo u_hi u_ri (s_T_tick u_t) (s_M_read u_M (u_r 0))).2.2.2.2) u_lo u_hi u_ri (s_T_tick u_t) ((s_P_perform u_z u_M (upd u_r 9 (0 : Int32)) u_d u_a u_lo u_hi u_ri (s_T_tick u_t) (s_M_read u_M (u_r 0))).1)).2.2.1) ((s_P_finish u_z ((s_P_perform u_z u_M (upd u_r 9 (0 : Int32)) u_d u_a u_lo u_hi u_ri (s_T_tick u_t) (s_M_read u_M (u_r 0))).2.1) ((s_P_perform u_z u_M (upd u_r 9 (0 : Int32)) u_d u_a u_lo u_hi u_ri (s_T_tick u_t) (s_M_read u_M (u_r 0))).2.2.1) ((s_P_perform u_z u_M (upd u_r 9 (0 : Int32)) u_d u_a u_lo u_hi u_ri (s_T_tick u_t) (s_M_read u_M (u_r 0))).2.2.2.1) ((s_P_perform u_z u_M (upd u_r 9 (0 : Int32)) u_d u_a u_lo u_hi u_ri (s_T_tick u_t) (s_M_read u_M (u_r 0))).2.2.2.2) u_lo u_hi u_ri (s_T_tick u_t) ((s_P_perform u_z u_M (upd u_r 9 (0 : Int32)) u_d u_a u_lo u_hi u_ri (s_T_tick u_t) (s_M_read u_M (u_r 0))).1)).2.2.2.1) ((s_P_finish u_z ((s_P_perform u_z u_M (upd u_r 9 (0 : Int32)) u_d u_a u_lo u_hi u_ri (s_T_tick u_t) (s_M_read u_M (u_r 0))).2.1) ((s_P_perform u_z u_M (upd u_r 9 (0 : Int32)) u_d u_a u_lo u_hi u_ri (s_T_tick u_t) (s_M_read u_M (u_r 0))).2.2.1) ((s_P_perform u_z u_M (upd u_r 9 (0 : Int32)) u_d u_a u_lo u_hi u_ri (s_T_tick u_t) (s_M_read u_M (u_r 0))).2.2.2.1) ((s_P_perform u_z u_M (upd u_r 9 (0 : Int32)) u_d u_a u_lo u_hi u_ri (s_T_tick u_t) (s_M_read u_M (u_r 0))).2.2.2.2) u_lo u_hi u_ri (s_T_tick u_t) ((s_P_perform u_z u_M (upd u_r 9 (0 : Int32)) u_d u_a u_lo u_hi u_ri (s_T_tick u_t) (s_M_read u_M (u_r 0))).1)).2.2.2.2) (s_T_tick u_t) _ _ _ (by unfold s_P_step; rw [if_pos h2, if_pos h3]) (lv_sub hl [2] rfl) hP hD hS
    ·
      refine lv_aload_n hx hb d_P_step_48 rfl (lv_at hl 1 rfl) ?_
      refine lv_iload_n hx hb d_P_step_49 rfl (lv_at hl 0 rfl) ?_
      refine zz_cVv (rest := []) (wr := []) (w' := [oP xP xM xR xG xT ((s_P_takeInterrupt u_z u_M (upd u_r 9 (0 : Int32)) u_d u_a u_lo u_hi u_ri (s_T_tick u_t) (if (u_r 8) = 0 then (0 : Int32) else (s_T_greatest (s_T_tick u_t)))).1), oM xM xW, ar cI xW 512 ((s_P_takeInterrupt u_z u_M (upd u_r 9 (0 : Int32)) u_d u_a u_lo u_hi u_ri (s_T_tick u_t) (if (u_r 8) = 0 then (0 : Int32) else (s_T_greatest (s_T_tick u_t)))).2.1), oR xR xD xA ((s_P_takeInterrupt u_z u_M (upd u_r 9 (0 : Int32)) u_d u_a u_lo u_hi u_ri (s_T_tick u_t) (if (u_r 8) = 0 then (0 : Int32) else (s_T_greatest (s_T_tick u_t)))).2.2.1), ar cI xD 8 u_d, ar cI xA 8 ((s_P_takeInterrupt u_z u_M (upd u_r 9 (0 : Int32)) u_d u_a u_lo u_hi u_ri (s_T_tick u_t) (if (u_r 8) = 0 then (0 : Int32) else (s_T_greatest (s_T_tick u_t)))).2.2.2.1), oG xG xL xH xI, ar cI xL 6 u_lo, ar cI xH 6 u_hi, ar cI xI 6 u_ri, oT xT ((s_P_takeInterrupt u_z u_M (upd u_r 9 (0 : Int32)) u_d u_a u_lo u_hi u_ri (s_T_tick u_t) (if (u_r 8) = 0 then (0 : Int32) else (s_T_greatest (s_T_tick u_t)))).2.2.2.2)]) ⟨hx, hb, hml, hown, hts⟩ (k_P_takeInterrupt l D cI _ xP xM xW xR xD xA xG xL xH xI xT u_z u_M (upd u_r 9 (0 : Int32)) u_d u_a u_lo u_hi u_ri (s_T_tick u_t) (if (u_r 8) = 0 then (0 : Int32) else (s_T_greatest (s_T_tick u_t)))) g_P_step_P_takeInterrupt_60 nv_P_takeInterrupt ⟨⟨rfl, rfl⟩, Nat.le_of_ble_eq_true rfl, Nat.le_of_ble_eq_true rfl⟩ hK [0] rfl hP hD hS hA [0, 1, 2, 3, 4, 5, 6, 7, 8, 9, 10] [] [0, 1, 2, 3, 4, 5, 6, 7, 8, 9, 10] rfl rfl rfl rfl (by decide) rfl rfl 0 4 rfl rfl rfl rfl hl.1 (Nat.le_of_ble_eq_true rfl) d_P_step_50 ⟨Nat.zero_le _, Nat.zero_le _⟩ (fun H locs hP hD hS => ?_)
      refine lv_goto (tgt := 91) hx hb d_P_step_53 (by decide) ?_
      exact CUT91 ((s_P_takeInterrupt u_z u_M (upd u_r 9 (0 : Int32)) u_d u_a u_lo u_hi u_ri (s_T_tick u_t) (if (u_r 8) = 0 then (0 : Int32) else (s_T_greatest (s_T_tick u_t)))).1) ((s_P_takeInterrupt u_z u_M (upd u_r 9 (0 : Int32)) u_d u_a u_lo u_hi u_ri (s_T_tick u_t) (if (u_r 8) = 0 then (0 : Int32) else (s_T_greatest (s_T_tick u_t)))).2.1) ((s_P_takeInterrupt u_z u_M (upd u_r 9 (0 : Int32)) u_d u_a u_lo u_hi u_ri (s_T_tick u_t) (if (u_r 8) = 0 then (0 : Int32) else (s_T_greatest (s_T_tick u_t)))).2.2.1) u_d ((s_P_takeInterrupt u_z u_M (upd u_r 9 (0 : Int32)) u_d u_a u_lo u_hi u_ri (s_T_tick u_t) (if (u_r 8) = 0 then (0 : Int32) else (s_T_greatest (s_T_tick u_t)))).2.2.2.1) ((s_P_takeInterrupt u_z u_M (upd u_r 9 (0 : Int32)) u_d u_a u_lo u_hi u_ri (s_T_tick u_t) (if (u_r 8) = 0 then (0 : Int32) else (s_T_greatest (s_T_tick u_t)))).2.2.2.2) _ _ _ (by unfold s_P_step; rw [if_neg h2]) (lv_sub hl [1] rfl) hP hD hS
  refine lv_if_eq (tgt := 35) hx hb d_P_step_22 (by decide) (fun h1 => ?_) (fun h1 => ?_)
  ·
    refine lv_iconst (v := (0 : Int32)) hx hb d_P_step_35 (by decide) ?_
    exact J22_1 (0 : Int32) _ _ _ (by rw [if_pos h1]) (lv_sub hl [0] rfl) hP hD hS
  ·
    refine lv_aload_n hx hb d_P_step_25 rfl (lv_at hl 0 rfl) ?_
    refine zz_get (C := R_P) (T := F_P) (N := 10) (v := .ref xT) hx hb hts in_P hown hK hP 0 rfl rfl 3 (by decide) mw_25 rfl d_P_step_26 ?_
    refine zz_rVi (rest := []) ⟨hx, hb, hml, hown, hts⟩ (k_T_greatest l D cI _ xT (s_T_tick u_t)) g_P_step_T_greatest_53 nv_T_greatest ⟨⟨rfl, rfl⟩, Nat.le_of_ble_eq_true rfl, Nat.le_of_ble_eq_true rfl⟩ hK [0] rfl hP hD hS hA [10] rfl rfl 10 3 rfl rfl rfl rfl hl.1 (Nat.le_of_ble_eq_true rfl) d_P_step_29 ⟨Nat.zero_le _, Nat.zero_le _⟩ (fun H locs hP hD hS => ?_)
    refine lv_goto (tgt := 36) hx hb d_P_step_32 (by decide) ?_
    exact J22_1 (s_T_greatest (s_T_tick u_t)) _ _ _ (by rw [if_neg h1]) (lv_sub hl [0] rfl) hP hD hS
