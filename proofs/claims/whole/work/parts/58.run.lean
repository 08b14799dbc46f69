set_option maxHeartbeats 4000000 in
set_option maxRecDepth 100000 in
theorem k_C_run (l : Launch) (D : va_G) (cI : ClassId) (sz : Nat) (xC : Nat) (xP : Nat) (xM : Nat) (xW : Nat) (xR : Nat) (xD : Nat) (xA : Nat) (xG : Nat) (xL : Nat) (xH : Nat) (xI : Nat) (xT : Nat) (u_z : Nat → Int32) (u_M : Nat → Int32) (u_r : Nat → Int32) (u_d : Nat → Int32) (u_a : Nat → Int32) (u_lo : Nat → Int32) (u_hi : Nat → Int32) (u_ri : Nat → Int32) (u_t : Nat → Int32) (a1 : Int32) (hiv : iv u_r) (hzb : zb u_z) (hg : t_C_run u_z u_M u_r u_d u_a u_lo u_hi u_ri u_t a1 = 0) : zMi l y_C_run (.code y_C_run b_C_run 3 (some .int) :: wd) { frames := 6, cells := 0, slots := 0, locals := 145 } D classes [(cI, .int)] [.ref xC, .int a1] [oC xC xP, oP xP xM xR xG xT u_z, oM xM xW, ar cI xW 512 u_M, oR xR xD xA u_r, ar cI xD 8 u_d, ar cI xA 8 u_a, oG xG xL xH xI, ar cI xL 6 u_lo, ar cI xH 6 u_hi, ar cI xI 6 u_ri, oT xT u_t] [oC xC xP, oP xP xM xR xG xT ((s_C_run u_z u_M u_r u_d u_a u_lo u_hi u_ri u_t a1).2.1), oM xM xW, ar cI xW 512 ((s_C_run u_z u_M u_r u_d u_a u_lo u_hi u_ri u_t a1).2.2.1), oR xR xD xA ((s_C_run u_z u_M u_r u_d u_a u_lo u_hi u_ri u_t a1).2.2.2.1), ar cI xD 8 ((s_C_run u_z u_M u_r u_d u_a u_lo u_hi u_ri u_t a1).2.2.2.2.1), ar cI xA 8 ((s_C_run u_z u_M u_r u_d u_a u_lo u_hi u_ri u_t a1).2.2.2.2.2.1), oG xG xL xH xI, ar cI xL 6 u_lo, ar cI xH 6 u_hi, ar cI xI 6 u_ri, oT xT ((s_C_run u_z u_M u_r u_d u_a u_lo u_hi u_ri u_t a1).2.2.2.2.2.2)] sz (s_C_run u_z u_M u_r u_d u_a u_lo u_hi u_ri u_t a1).1 := by
  refine met_i (by decide) (Nat.le_of_ble_eq_true rfl) rfl ?_
  intro p e s m args below meth c A Q ls hx hb hml hown hts hK hP hD hS hA hl hE
  have hl : lv_has ls 3 [(0, .ref xC), (1, .int a1)] := hl
  have hown : s.vm.findClass R_C = some m.cls := hown
  have LOOP : ∀ (n : Nat) (u_z' : Nat → Int32) (u_M' : Nat → Int32) (u_r' : Nat → Int32) (u_d' : Nat → Int32) (u_a' : Nat → Int32) (u_t' : Nat → Int32) (j : Nat) (ls : Array Slot) (H : Heap) (locs : List Loc), s_C_run u_z u_M u_r u_d u_a u_lo u_hi u_ri u_t a1 = s_C_run_loop u_lo u_hi u_ri a1 n u_z' u_M' u_r' u_d' u_a' u_t' j → 300 < n + j → j ≤ 300 → iv u_r' → zb u_z' → lv_has ls 3 [(2, .int (nI j)), (0, .ref xC), (1, .int a1)] → va_P D classes [oC xC xP, oP xP xM xR xG xT u_z', oM xM xW, ar cI xW 512 u_M', oR xR xD xA u_r', ar cI xD 8 u_d', ar cI xA 8 u_a', oG xG xL xH xI, ar cI xL 6 u_lo, ar cI xH 6 u_hi, ar cI xI 6 u_ri, oT xT u_t'] H → va_D A [oC xC xP, oP xP xM xR xG xT u_z', oM xM xW, ar cI xW 512 u_M', oR xR xD xA u_r', ar cI xD 8 u_d', ar cI xA 8 u_a', oG xG xL xH xI, ar cI xL 6 u_lo, ar cI xH 6 u_hi, ar cI xI 6 u_ri, oT xT u_t'] → va_S A s.heap H locs → W p l e { frames := 6, cells := 0, slots := 0, locals := 145 } s m args below meth c H locs 0 0 Q (F0 m 23 ls []) := by
    intro n
    induction n with
    | zero => intro u_z' u_M' u_r' u_d' u_a' u_t' j ls H locs hres hf hj hiv' hzb' hl hP hD hS; exfalso; omega
    | succ n ih =>
      intro u_z' u_M' u_r' u_d' u_a' u_t' j ls H locs hres hf hj hiv' hzb' hl hP hD hS
      refine lv_iload_n hx hb d_C_run_23 rfl (lv_at hl 0 rfl) ?_
      refine lv_iload_n hx hb d_C_run_24 rfl (lv_at hl 2 rfl) ?_
      refine lv_icmp_ge (tgt := 51) hx hb d_C_run_25 (by decide) (fun h3 => ?_) (fun h3 => ?_)
      ·
        refine lv_iload_n hx hb d_C_run_51 rfl (lv_at hl 0 rfl) ?_
        have hsp : s_C_run u_z u_M u_r u_d u_a u_lo u_hi u_ri u_t a1 = ((nI j), u_z', u_M', u_r', u_d', u_a', u_t') := (hres.trans (by rw [s_C_run_loop]; rw [if_pos h3]))
        rw [hsp] at hE
        exact hE _ _ _ _ hP hD hS d_C_run_52
      ·
        refine lv_aload_n hx hb d_C_run_28 rfl (lv_at hl 1 rfl) ?_
        refine zz_get (C := R_C) (T := F_C) (N := 1) (v := .ref xP) hx hb hts in_C hown hK hP 0 rfl rfl 0 (by decide) mw_43 rfl d_C_run_29 ?_
        refine zz_get (C := R_P) (T := F_P) (N := 10) (v := .int (u_z' 0)) hx hb hts in_P hown hK hP 1 rfl rfl 4 (by decide) mw_45 rfl d_C_run_32 ?_
        refine lv_if_eq (tgt := 51) hx hb d_C_run_35 (by decide) (fun h4 => ?_) (fun h4 => ?_)
        ·
          refine lv_iload_n hx hb d_C_run_51 rfl (lv_at hl 0 rfl) ?_
          have hsp : s_C_run u_z u_M u_r u_d u_a u_lo u_hi u_ri u_t a1 = ((nI j), u_z', u_M', u_r', u_d', u_a', u_t') := (hres.trans (by rw [s_C_run_loop]; rw [if_neg h3, if_pos h4]))
          rw [hsp] at hE
          exact hE _ _ _ _ hP hD hS d_C_run_52
        ·
          refine lv_aload_n hx hb d_C_run_38 rfl (lv_at hl 1 rfl) ?_
          refine zz_get (C := R_C) (T := F_C) (N := 1) (v := .ref xP) hx hb hts in_C hown hK hP 0 rfl rfl 0 (by decide) mw_43 rfl d_C_run_39 ?_
          refine zz_cVv (rest := []) (wr := [oC xC xP]) (w' := [oC xC xP, oP xP xM xR xG xT ((s_P_step u_z' u_M' u_r' u_d' u_a' u_lo u_hi u_ri u_t').1), oM xM xW, ar cI xW 512 ((s_P_step u_z' u_M' u_r' u_d' u_a' u_lo u_hi u_ri u_t').2.1), oR xR xD xA ((s_P_step u_z' u_M' u_r' u_d' u_a' u_lo u_hi u_ri u_t').2.2.1), ar cI xD 8 ((s_P_step u_z' u_M' u_r' u_d' u_a' u_lo u_hi u_ri u_t').2.2.2.1), ar cI xA 8 ((s_P_step u_z' u_M' u_r' u_d' u_a' u_lo u_hi u_ri u_t').2.2.2.2.1), oG xG xL xH xI, ar cI xL 6 u_lo, ar cI xH 6 u_hi, ar cI xI 6 u_ri, oT xT ((s_P_step u_z' u_M' u_r' u_d' u_a' u_lo u_hi u_ri u_t').2.2.2.2.2)]) ⟨hx, hb, hml, hown, hts⟩ (k_P_step l D cI _ xP xM xW xR xD xA xG xL xH xI xT u_z' u_M' u_r' u_d' u_a' u_lo u_hi u_ri u_t' hiv'.1) g_C_run_P_step_118 nv_P_step ⟨⟨rfl, rfl⟩, Nat.le_of_ble_eq_true rfl, Nat.le_of_ble_eq_true rfl⟩ hK [0] rfl hP hD hS hA [1, 2, 3, 4, 5, 6, 7, 8, 9, 10, 11] [0] [0, 1, 2, 3, 4, 5, 6, 7, 8, 9, 10, 11] rfl rfl rfl rfl (by decide) rfl rfl 1 4 rfl rfl rfl rfl hl.1 (Nat.le_of_ble_eq_true rfl) d_C_run_42 ⟨Nat.zero_le _, Nat.zero_le _⟩ (fun H locs hP hD hS => ?_)
          refine lv_iinc (v := (nI (j + 1))) (lv' := [(2, .int (nI (j + 1))), (0, .ref xC), (1, .int a1)]) (k := 0) hx hb d_C_run_45 hl rfl (nI_succ j).symm (by decide) rfl (fun ls hl => ?_)
          refine lv_goto (tgt := 23) hx hb d_C_run_48 (by decide) ?_
          exact ih ((s_P_step u_z' u_M' u_r' u_d' u_a' u_lo u_hi u_ri u_t').1) ((s_P_step u_z' u_M' u_r' u_d' u_a' u_lo u_hi u_ri u_t').2.1) ((s_P_step u_z' u_M' u_r' u_d' u_a' u_lo u_hi u_ri u_t').2.2.1) ((s_P_step u_z' u_M' u_r' u_d' u_a' u_lo u_hi u_ri u_t').2.2.2.1) ((s_P_step u_z' u_M' u_r' u_d' u_a' u_lo u_hi u_ri u_t').2.2.2.2.1) ((s_P_step u_z' u_M' u_r' u_d' u_a' u_lo u_hi u_ri u_t').2.2.2.2.2) (j + 1) _ _ _ (hres.trans (by rw [s_C_run_loop]; rw [if_neg h3, if_neg h4])) (by omega) (zz_run hj hg h3) ((civ_step hiv' hzb' h4).1) ((civ_step hiv' hzb' h4).2) (lv_sub hl [0, 1, 2] rfl) hP hD hS
  refine lv_iload_n hx hb d_C_run_0 rfl (lv_at hl 1 rfl) ?_
  refine lv_if_lt (tgt := 11) hx hb d_C_run_1 (by decide) (fun h1 => ?_) (fun h1 => ?_)
  ·
    exact absurd hg (by unfold t_C_run; rw [if_pos h1]; decide)
  ·
    refine lv_iload_n hx hb d_C_run_4 rfl (lv_at hl 1 rfl) ?_
    refine lv_sipush (v := (300 : Int32)) hx hb d_C_run_5 (by decide) ?_
    refine lv_icmp_le (tgt := 21) hx hb d_C_run_8 (by decide) (fun h2 => ?_) (fun h2 => ?_)
    ·
      refine lv_iconst (v := (0 : Int32)) hx hb d_C_run_21 (by decide) ?_
      refine lv_istore_n (lv' := [(2, .int (0 : Int32)), (0, .ref xC), (1, .int a1)]) hx hb d_C_run_22 rfl hl (by decide) rfl (fun ls hl => ?_)
      exact LOOP 301 u_z u_M u_r u_d u_a u_t 0 _ _ _ (by unfold s_C_run; rw [if_neg h1, if_pos h2]) (by decide) (by decide) hiv hzb (lv_sub hl [0, 1, 2] rfl) hP hD hS
    ·
      exact absurd hg (by unfold t_C_run; rw [if_neg h1, if_neg h2]; decide)
set_option maxHeartbeats 4000000 in
set_option maxRecDepth 100000 in
theorem k_X_run (l : Launch) (D : va_G) (cI : ClassId) (sz : Nat) (yX : Nat) (yM : Nat) (yD : Nat) (yA : Nat) (yO : Nat) (yL : Nat) (yH : Nat) (yI : Nat) (v_x : Nat → Int32) (v_M : Nat → Int32) (v_d : Nat → Int32) (v_a : Nat → Int32) (v_o : Nat → Int32) (v_lo : Nat → Int32) (v_hi : Nat → Int32) (v_ri : Nat → Int32) (a1 : Int32) (hxv : xiv v_x) : zMi l y_X_run (.code y_X_run b_X_run 3 (some .int) :: wd) { frames := 6, cells := 0, slots := 0, locals := 150 } D classes [(cI, .int)] [.ref yX, .int a1] [oX yX yM yD yA yO yL yH yI v_x, ar cI yM 512 v_M, ar cI yD 8 v_d, ar cI yA 8 v_a, ar cI yO 4 v_o, ar cI yL 6 v_lo, ar cI yH 6 v_hi, ar cI yI 6 v_ri] [oX yX yM yD yA yO yL yH yI ((s_X_run v_x v_M v_d v_a v_o v_lo v_hi v_ri a1).2.1), ar cI yM 512 ((s_X_run v_x v_M v_d v_a v_o v_lo v_hi v_ri a1).2.2.1), ar cI yD 8 ((s_X_run v_x v_M v_d v_a v_o v_lo v_hi v_ri a1).2.2.2.1), ar cI yA 8 ((s_X_run v_x v_M v_d v_a v_o v_lo v_hi v_ri a1).2.2.2.2.1), ar cI yO 4 ((s_X_run v_x v_M v_d v_a v_o v_lo v_hi v_ri a1).2.2.2.2.2), ar cI yL 6 v_lo, ar cI yH 6 v_hi, ar cI yI 6 v_ri] sz (s_X_run v_x v_M v_d v_a v_o v_lo v_hi v_ri a1).1 := by
  refine met_i (by decide) (Nat.le_of_ble_eq_true rfl) rfl ?_
  intro p e s m args below meth c A Q ls hx hb hml hown hts hK hP hD hS hA hl hE
  have hl : lv_has ls 3 [(0, .ref yX), (1, .int a1)] := hl
  have hown : s.vm.findClass R_X = some m.cls := hown
  have LOOP : ∀ (n : Nat) (v_x' : Nat → Int32) (v_M' : Nat → Int32) (v_d' : Nat → Int32) (v_a' : Nat → Int32) (v_o' : Nat → Int32) (j : Nat) (ls : Array Slot) (H : Heap) (locs : List Loc), s_X_run v_x v_M v_d v_a v_o v_lo v_hi v_ri a1 = s_X_run_loop v_lo v_hi v_ri a1 n v_x' v_M' v_d' v_a' v_o' j → 300 < n + j → j ≤ 300 → xiv v_x' → (v_x' 0 = 0 → ¬ (300 : Int32) < a1) → lv_has ls 3 [(2, .int (nI j)), (0, .ref yX), (1, .int a1)] → va_P D classes [oX yX yM yD yA yO yL yH yI v_x', ar cI yM 512 v_M', ar cI yD 8 v_d', ar cI yA 8 v_a', ar cI yO 4 v_o', ar cI yL 6 v_lo, ar cI yH 6 v_hi, ar cI yI 6 v_ri] H → va_D A [oX yX yM yD yA yO yL yH yI v_x', ar cI yM 512 v_M', ar cI yD 8 v_d', ar cI yA 8 v_a', ar cI yO 4 v_o', ar cI yL 6 v_lo, ar cI yH 6 v_hi, ar cI yI 6 v_ri] → va_S A s.heap H locs → W p l e { frames := 6, cells := 0, slots := 0, locals := 150 } s m args below meth c H locs 0 0 Q (F0 m 22 ls []) := by
    intro n
    induction n with
    | zero => intro v_x' v_M' v_d' v_a' v_o' j ls H locs hres hf hj hxv' hth' hl hP hD hS; exfalso; omega
    | succ n ih =>
      intro v_x' v_M' v_d' v_a' v_o' j ls H locs hres hf hj hxv' hth' hl hP hD hS
      refine lv_aload_n hx hb d_X_run_22 rfl (lv_at hl 1 rfl) ?_
      refine zz_get (C := R_X) (T := F_X) (N := 27) (v := .int (v_x' 0)) hx hb hts in_X hown hK hP 0 rfl rfl 0 (by decide) mw_67 rfl d_X_run_23 ?_
      refine lv_if_ne (tgt := 51) hx hb d_X_run_26 (by decide) (fun h3 => ?_) (fun h3 => ?_)
      ·
        refine lv_iload_n hx hb d_X_run_51 rfl (lv_at hl 0 rfl) ?_
        have hsp : s_X_run v_x v_M v_d v_a v_o v_lo v_hi v_ri a1 = ((nI j), v_x', v_M', v_d', v_a', v_o') := (hres.trans (by rw [s_X_run_loop]; rw [if_neg h3]))
        rw [hsp] at hE
        exact hE _ _ _ _ hP hD hS d_X_run_52
      ·
        refine lv_iload_n hx hb d_X_run_29 rfl (lv_at hl 0 rfl) ?_
        refine lv_iload_n hx hb d_X_run_30 rfl (lv_at hl 2 rfl) ?_
        refine lv_icmp_ge (tgt := 51) hx hb d_X_run_31 (by decide) (fun h4 => ?_) (fun h4 => ?_)
        ·
          refine lv_iload_n hx hb d_X_run_51 rfl (lv_at hl 0 rfl) ?_
          have hsp : s_X_run v_x v_M v_d v_a v_o v_lo v_hi v_ri a1 = ((nI j), v_x', v_M', v_d', v_a', v_o') := (hres.trans (by rw [s_X_run_loop]; rw [if_pos h3, if_pos h4]))
          rw [hsp] at hE
          exact hE _ _ _ _ hP hD hS d_X_run_52
        ·
          refine lv_aload_n hx hb d_X_run_34 rfl (lv_at hl 1 rfl) ?_
          refine zz_get (C := R_X) (T := F_X) (N := 27) (v := .int (v_x' 7)) hx hb hts in_X hown hK hP 0 rfl rfl 11 (by decide) mw_78 rfl d_X_run_35 ?_
          refine lv_if_eq (tgt := 51) hx hb d_X_run_38 (by decide) (fun h5 => ?_) (fun h5 => ?_)
          ·
            refine lv_iload_n hx hb d_X_run_51 rfl (lv_at hl 0 rfl) ?_
            have hsp : s_X_run v_x v_M v_d v_a v_o v_lo v_hi v_ri a1 = ((nI j), v_x', v_M', v_d', v_a', v_o') := (hres.trans (by rw [s_X_run_loop]; rw [if_pos h3, if_neg h4, if_pos h5]))
            rw [hsp] at hE
            exact hE _ _ _ _ hP hD hS d_X_run_52
          ·
            refine lv_aload_n hx hb d_X_run_41 rfl (lv_at hl 1 rfl) ?_
            refine zz_cVv (rest := []) (wr := []) (w' := [oX yX yM yD yA yO yL yH yI ((s_X_step v_x' v_M' v_d' v_a' v_o' v_lo v_hi v_ri).1), ar cI yM 512 ((s_X_step v_x' v_M' v_d' v_a' v_o' v_lo v_hi v_ri).2.1), ar cI yD 8 ((s_X_step v_x' v_M' v_d' v_a' v_o' v_lo v_hi v_ri).2.2.1), ar cI yA 8 ((s_X_step v_x' v_M' v_d' v_a' v_o' v_lo v_hi v_ri).2.2.2.1), ar cI yO 4 ((s_X_step v_x' v_M' v_d' v_a' v_o' v_lo v_hi v_ri).2.2.2.2), ar cI yL 6 v_lo, ar cI yH 6 v_hi, ar cI yI 6 v_ri]) ⟨hx, hb, hml, hown, hts⟩ (k_X_step l D cI _ yX yM yD yA yO yL yH yI v_x' v_M' v_d' v_a' v_o' v_lo v_hi v_ri hxv'.1 hxv'.2.1) g_X_run_X_step_153 nv_X_step ⟨⟨rfl, rfl⟩, Nat.le_of_ble_eq_true rfl, Nat.le_of_ble_eq_true rfl⟩ hK [0] rfl hP hD hS hA [0, 1, 2, 3, 4, 5, 6, 7] [] [0, 1, 2, 3, 4, 5, 6, 7] rfl rfl rfl rfl (by decide) rfl rfl 0 6 rfl rfl rfl rfl hl.1 (Nat.le_of_ble_eq_true rfl) d_X_run_42 ⟨Nat.zero_le _, Nat.zero_le _⟩ (fun H locs hP hD hS => ?_)
            refine lv_iinc (v := (nI (j + 1))) (lv' := [(2, .int (nI (j + 1))), (0, .ref yX), (1, .int a1)]) (k := 0) hx hb d_X_run_45 hl rfl (nI_succ j).symm (by decide) rfl (fun ls hl => ?_)
            refine lv_goto (tgt := 22) hx hb d_X_run_48 (by decide) ?_
            exact ih ((s_X_step v_x' v_M' v_d' v_a' v_o' v_lo v_hi v_ri).1) ((s_X_step v_x' v_M' v_d' v_a' v_o' v_lo v_hi v_ri).2.1) ((s_X_step v_x' v_M' v_d' v_a' v_o' v_lo v_hi v_ri).2.2.1) ((s_X_step v_x' v_M' v_d' v_a' v_o' v_lo v_hi v_ri).2.2.2.1) ((s_X_step v_x' v_M' v_d' v_a' v_o' v_lo v_hi v_ri).2.2.2.2) (j + 1) _ _ _ (hres.trans (by rw [s_X_run_loop]; rw [if_pos h3, if_neg h4, if_neg h5])) (by omega) (zz_xrun hj (hth' h3) h4) ((xiv_step hxv' h5).1) (xth_step hxv' h5 hth') (lv_sub hl [0, 1, 2] rfl) hP hD hS
  refine lv_aload_n hx hb d_X_run_0 rfl (lv_at hl 0 rfl) ?_
  refine lv_iload_n hx hb d_X_run_1 rfl (lv_at hl 1 rfl) ?_
  have J2_2 : ∀ (vj2_0 : Int32) (ls : Array Slot) (H : Heap) (locs : List Loc), vj2_0 = (if a1 < 0 then (1 : Int32) else (if a1 ≤ (300 : Int32) then (0 : Int32) else (1 : Int32))) → lv_has ls 3 [(0, .ref yX), (1, .int a1)] → va_P D classes [oX yX yM yD yA yO yL yH yI v_x, ar cI yM 512 v_M, ar cI yD 8 v_d, ar cI yA 8 v_a, ar cI yO 4 v_o, ar cI yL 6 v_lo, ar cI yH 6 v_hi, ar cI yI 6 v_ri] H → va_D A [oX yX yM yD yA yO yL yH yI v_x, ar cI yM 512 v_M, ar cI yD 8 v_d, ar cI yA 8 v_a, ar cI yO 4 v_o, ar cI yL 6 v_lo, ar cI yH 6 v_hi, ar cI yI 6 v_ri] → va_S A s.heap H locs → W p l e { frames := 6, cells := 0, slots := 0, locals := 150 } s m args below meth c H locs 0 0 Q (F0 m 17 ls [.int vj2_0, .ref yX]) := by
    intro vj2_0 ls H locs evj2_0 hl hP hD hS
    subst evj2_0
    refine zz_put (C := R_X) (T := F_X) (N := 27) (w' := [oX yX yM yD yA yO yL yH yI (upd v_x 0 (if a1 < 0 then (1 : Int32) else (if a1 ≤ (300 : Int32) then (0 : Int32) else (1 : Int32)))), ar cI yM 512 v_M, ar cI yD 8 v_d, ar cI yA 8 v_a, ar cI yO 4 v_o, ar cI yL 6 v_lo, ar cI yH 6 v_hi, ar cI yI 6 v_ri]) hx hb hts in_X ty_X ty_X_ok n_X hown hK hP hD hS 0 rfl rfl 0 (by decide) mw_67 rfl rfl rfl (Nat.le_of_ble_eq_true rfl) d_X_run_17 rfl (fun H locs hP hD hS => ?_)
    refine lv_iconst (v := (0 : Int32)) hx hb d_X_run_20 (by decide) ?_
    refine lv_istore_n (lv' := [(2, .int (0 : Int32)), (0, .ref yX), (1, .int a1)]) hx hb d_X_run_21 rfl hl (by decide) rfl (fun ls hl => ?_)
    exact LOOP 301 (upd v_x 0 (if a1 < 0 then (1 : Int32) else (if a1 ≤ (300 : Int32) then (0 : Int32) else (1 : Int32)))) v_M v_d v_a v_o 0 _ _ _ rfl (by decide) (by decide) (xiv_0 hxv _) zz_thr (lv_sub hl [0, 1, 2] rfl) hP hD hS
  refine lv_if_lt (tgt := 12) hx hb d_X_run_2 (by decide) (fun h1 => ?_) (fun h1 => ?_)
  ·
    refine lv_iconst (v := (1 : Int32)) hx hb d_X_run_12 (by decide) ?_
    refine lv_goto (tgt := 17) hx hb d_X_run_13 (by decide) ?_
    exact J2_2 (1 : Int32) _ _ _ (by rw [if_pos h1]) (lv_sub hl [0, 1] rfl) hP hD hS
  ·
    refine lv_iload_n hx hb d_X_run_5 rfl (lv_at hl 1 rfl) ?_
    refine lv_sipush (v := (300 : Int32)) hx hb d_X_run_6 (by decide) ?_
    refine lv_icmp_le (tgt := 16) hx hb d_X_run_9 (by decide) (fun h2 => ?_) (fun h2 => ?_)
    ·
      refine lv_iconst (v := (0 : Int32)) hx hb d_X_run_16 (by decide) ?_
      exact J2_2 (0 : Int32) _ _ _ (by rw [if_neg h1, if_pos h2]) (lv_sub hl [0, 1] rfl) hP hD hS
    ·
      refine lv_iconst (v := (1 : Int32)) hx hb d_X_run_12 (by decide) ?_
      refine lv_goto (tgt := 17) hx hb d_X_run_13 (by decide) ?_
      exact J2_2 (1 : Int32) _ _ _ (by rw [if_neg h1, if_neg h2]) (lv_sub hl [0, 1] rfl) hP hD hS
