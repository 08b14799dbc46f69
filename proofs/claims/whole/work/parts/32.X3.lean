set_option maxHeartbeats 4000000 in
set_option maxRecDepth 100000 in
theorem k_X_context21 (l : Launch) (D : va_G) (cI : ClassId) (sz : Nat) (yX : Nat) (yM : Nat) (yD : Nat) (yA : Nat) (yO : Nat) (yL : Nat) (yH : Nat) (yI : Nat) (v_x : Nat → Int32) (v_M : Nat → Int32) (v_d : Nat → Int32) (v_a : Nat → Int32) (v_o : Nat → Int32) (v_lo : Nat → Int32) (v_hi : Nat → Int32) (v_ri : Nat → Int32) (a2 : Int32) : zMi l y_X_context (.code y_X_context b_X_context 5 (some .int) :: wd) { frames := 2, cells := 0, slots := 0, locals := 45 } D classes [(cI, .int)] [.ref yX, .int (21 : Int32), .int a2] [oX yX yM yD yA yO yL yH yI v_x, ar cI yM 512 v_M, ar cI yD 8 v_d, ar cI yA 8 v_a, ar cI yO 4 v_o, ar cI yL 6 v_lo, ar cI yH 6 v_hi, ar cI yI 6 v_ri] [oX yX yM yD yA yO yL yH yI ((s_X_context21 v_x v_M v_d v_a v_o v_lo v_hi v_ri a2).2.1), ar cI yM 512 ((s_X_context21 v_x v_M v_d v_a v_o v_lo v_hi v_ri a2).2.2.1), ar cI yD 8 v_d, ar cI yA 8 ((s_X_context21 v_x v_M v_d v_a v_o v_lo v_hi v_ri a2).2.2.2.1), ar cI yO 4 ((s_X_context21 v_x v_M v_d v_a v_o v_lo v_hi v_ri a2).2.2.2.2), ar cI yL 6 v_lo, ar cI yH 6 v_hi, ar cI yI 6 v_ri] sz (s_X_context21 v_x v_M v_d v_a v_o v_lo v_hi v_ri a2).1 := by
  refine met_i (by decide) (Nat.le_of_ble_eq_true rfl) rfl ?_
  intro p e s m args below meth c A Q ls hx hb hml hown hts hK hP hD hS hA hl hE
  have hl : lv_has ls 5 [(0, .ref yX), (1, .int (21 : Int32)), (2, .int a2)] := hl
  have hown : s.vm.findClass R_X = some m.cls := hown
  refine lv_aload_n hx hb d_X_context_0 rfl (lv_at hl 0 rfl) ?_
  refine zz_get (C := R_X) (T := F_X) (N := 27) (v := .ref yO) hx hb hts in_X hown hK hP 0 rfl rfl 4 (by decide) mw_68 rfl d_X_context_1 ?_
  refine lv_iconst (v := (0 : Int32)) hx hb d_X_context_4 (by decide) ?_
  refine va_iald hx hb hK hP 4 0 rfl rfl (zz_inc (by decide)) d_X_context_5 ?_
  refine lv_istore_n (lv' := [(3, .int (v_o (ix (0 : Int32)))), (0, .ref yX), (1, .int (21 : Int32)), (2, .int a2)]) hx hb d_X_context_6 rfl hl (by decide) rfl (fun ls hl => ?_)
  refine lv_iload_n hx hb d_X_context_7 rfl (lv_at hl 2 rfl) ?_
  refine lv_bipush (v := (21 : Int32)) hx hb d_X_context_8 (by decide) ?_
  refine lv_icmp_ne (tgt := 22) hx hb d_X_context_10 (by decide) (fun hh => absurd hh (by decide)) (fun _ => ?_)
  refine lv_aload_n hx hb d_X_context_13 rfl (lv_at hl 1 rfl) ?_
  refine zz_get (C := R_X) (T := F_X) (N := 27) (v := .int (v_x 3)) hx hb hts in_X hown hK hP 0 rfl rfl 7 (by decide) mw_72 rfl d_X_context_14 ?_
  refine lv_bipush (v := (15 : Int32)) hx hb d_X_context_17 (by decide) ?_
  refine lv_icmp_eq (tgt := 35) hx hb d_X_context_19 (by decide) (fun h1 => ?_) (fun h1 => ?_)
  ·
    refine lv_aload_n hx hb d_X_context_35 rfl (lv_at hl 1 rfl) ?_
    refine lv_iload_n hx hb d_X_context_36 rfl (lv_at hl 2 rfl) ?_
    refine lv_bipush (v := (21 : Int32)) hx hb d_X_context_37 (by decide) ?_
    refine lv_icmp_ne (tgt := 48) hx hb d_X_context_39 (by decide) (fun hh => absurd hh (by decide)) (fun _ => ?_)
    refine lv_sipush (v := (770 : Int32)) hx hb d_X_context_42 (by decide) ?_
    refine lv_goto (tgt := 51) hx hb d_X_context_45 (by decide) ?_
    refine zz_put (C := R_X) (T := F_X) (N := 27) (w' := [oX yX yM yD yA yO yL yH yI (upd v_x 19 (770 : Int32)), ar cI yM 512 v_M, ar cI yD 8 v_d, ar cI yA 8 v_a, ar cI yO 4 v_o, ar cI yL 6 v_lo, ar cI yH 6 v_hi, ar cI yI 6 v_ri]) hx hb hts in_X ty_X ty_X_ok n_X hown hK hP hD hS 0 rfl rfl 26 (by decide) mw_79 rfl rfl rfl (Nat.le_of_ble_eq_true rfl) d_X_context_51 rfl (fun H locs hP hD hS => ?_)
    refine lv_goto (tgt := 245) hx hb d_X_context_54 (by decide) ?_
    refine lv_iload_n hx hb d_X_context_245 rfl (lv_at hl 0 rfl) ?_
    refine lv_iconst (v := (1 : Int32)) hx hb d_X_context_246 (by decide) ?_
    refine lv_iadd hx hb d_X_context_247 ?_
    have hsp : s_X_context21 v_x v_M v_d v_a v_o v_lo v_hi v_ri a2 = (((v_o (ix (0 : Int32))) + (1 : Int32)), upd v_x 19 (770 : Int32), v_M, v_a, v_o) := (by unfold s_X_context21; rw [if_pos h1])
    rw [hsp] at hE
    exact hE _ _ _ _ hP hD hS d_X_context_248
  ·
    refine lv_iload_n hx hb d_X_context_22 rfl (lv_at hl 2 rfl) ?_
    refine lv_bipush (v := (22 : Int32)) hx hb d_X_context_23 (by decide) ?_
    refine lv_icmp_ne (tgt := 57) hx hb d_X_context_25 (by decide) (fun _ => ?_) (fun hh => absurd hh (by decide))
    refine lv_iload_n hx hb d_X_context_57 rfl (lv_at hl 2 rfl) ?_
    refine lv_bipush (v := (21 : Int32)) hx hb d_X_context_58 (by decide) ?_
    refine lv_icmp_ne (tgt := 95) hx hb d_X_context_60 (by decide) (fun hh => absurd hh (by decide)) (fun _ => ?_)
    refine lv_aload_n hx hb d_X_context_63 rfl (lv_at hl 1 rfl) ?_
    refine lv_iconst (v := (1 : Int32)) hx hb d_X_context_64 (by decide) ?_
    refine zz_cVi (rest := []) (wr := []) (w' := [oX yX yM yD yA yO yL yH yI ((s_X_keepU v_x v_M v_d v_a v_o v_lo v_hi v_ri).2.1), ar cI yM 512 ((s_X_keepU v_x v_M v_d v_a v_o v_lo v_hi v_ri).2.2.1), ar cI yD 8 v_d, ar cI yA 8 v_a, ar cI yO 4 ((s_X_keepU v_x v_M v_d v_a v_o v_lo v_hi v_ri).2.2.2), ar cI yL 6 v_lo, ar cI yH 6 v_hi, ar cI yI 6 v_ri]) ⟨hx, hb, hml, hown, hts⟩ (k_X_keepU l D cI _ yX yM yD yA yO yL yH yI v_x v_M v_d v_a v_o v_lo v_hi v_ri) g_X_context_X_keep_74 nv_X_keep ⟨⟨rfl, rfl⟩, Nat.le_of_ble_eq_true rfl, Nat.le_of_ble_eq_true rfl⟩ hK [0] rfl hP hD hS hA [0, 1, 2, 3, 4, 5, 6, 7] [] [0, 1, 2, 3, 4, 5, 6, 7] rfl rfl rfl rfl (by decide) rfl rfl 0 6 rfl rfl rfl rfl hl.1 (Nat.le_of_ble_eq_true rfl) d_X_context_65 ⟨Nat.zero_le _, Nat.zero_le _⟩ (fun H locs hP hD hS => ?_)
    refine lv_if_eq (tgt := 245) hx hb d_X_context_68 (by decide) (fun h2 => ?_) (fun h2 => ?_)
    ·
      refine lv_iload_n hx hb d_X_context_245 rfl (lv_at hl 0 rfl) ?_
      refine lv_iconst (v := (1 : Int32)) hx hb d_X_context_246 (by decide) ?_
      refine lv_iadd hx hb d_X_context_247 ?_
      have hsp : s_X_context21 v_x v_M v_d v_a v_o v_lo v_hi v_ri a2 = (((v_o (ix (0 : Int32))) + (1 : Int32)), (s_X_keepU v_x v_M v_d v_a v_o v_lo v_hi v_ri).2.1, (s_X_keepU v_x v_M v_d v_a v_o v_lo v_hi v_ri).2.2.1, v_a, (s_X_keepU v_x v_M v_d v_a v_o v_lo v_hi v_ri).2.2.2) := (by unfold s_X_context21; rw [if_neg h1, if_pos h2])
      rw [hsp] at hE
      exact hE _ _ _ _ hP hD hS d_X_context_248
    ·
      refine lv_aload_n hx hb d_X_context_71 rfl (lv_at hl 1 rfl) ?_
      refine zz_get (C := R_X) (T := F_X) (N := 27) (v := .ref yA) hx hb hts in_X hown hK hP 0 rfl rfl 3 (by decide) mw_73 rfl d_X_context_72 ?_
      refine lv_bipush (v := (7 : Int32)) hx hb d_X_context_75 (by decide) ?_
      refine lv_iload_n hx hb d_X_context_77 rfl (lv_at hl 0 rfl) ?_
      refine lv_iconst (v := (1 : Int32)) hx hb d_X_context_78 (by decide) ?_
      refine lv_iadd hx hb d_X_context_79 ?_
      refine zz_iast (w' := [oX yX yM yD yA yO yL yH yI ((s_X_keepU v_x v_M v_d v_a v_o v_lo v_hi v_ri).2.1), ar cI yM 512 ((s_X_keepU v_x v_M v_d v_a v_o v_lo v_hi v_ri).2.2.1), ar cI yD 8 v_d, ar cI yA 8 (upd v_a (ix (7 : Int32)) ((v_o (ix (0 : Int32))) + (1 : Int32))), ar cI yO 4 ((s_X_keepU v_x v_M v_d v_a v_o v_lo v_hi v_ri).2.2.2), ar cI yL 6 v_lo, ar cI yH 6 v_hi, ar cI yI 6 v_ri]) hx hb hK hP hD hS 3 0 rfl rfl (zz_inc (by decide)) d_X_context_80 rfl (fun H locs hP hD hS => ?_)
      refine lv_aload_n hx hb d_X_context_81 rfl (lv_at hl 1 rfl) ?_
      refine lv_dup hx hb d_X_context_82 rfl ?_
      refine zz_get (C := R_X) (T := F_X) (N := 27) (v := .int (((s_X_keepU v_x v_M v_d v_a v_o v_lo v_hi v_ri).2.1) 3)) hx hb hts in_X hown hK hP 0 rfl rfl 7 (by decide) mw_72 rfl d_X_context_83 ?_
      refine lv_iconst (v := (1 : Int32)) hx hb d_X_context_86 (by decide) ?_
      show W p l e _ s m args below meth c _ _ _ _ Q (F0 m 87 ls _)
      refine lv_iadd hx hb d_X_context_87 ?_
      refine zz_put (C := R_X) (T := F_X) (N := 27) (w' := [oX yX yM yD yA yO yL yH yI (upd ((s_X_keepU v_x v_M v_d v_a v_o v_lo v_hi v_ri).2.1) 3 ((((s_X_keepU v_x v_M v_d v_a v_o v_lo v_hi v_ri).2.1) 3) + (1 : Int32))), ar cI yM 512 ((s_X_keepU v_x v_M v_d v_a v_o v_lo v_hi v_ri).2.2.1), ar cI yD 8 v_d, ar cI yA 8 (upd v_a (ix (7 : Int32)) ((v_o (ix (0 : Int32))) + (1 : Int32))), ar cI yO 4 ((s_X_keepU v_x v_M v_d v_a v_o v_lo v_hi v_ri).2.2.2), ar cI yL 6 v_lo, ar cI yH 6 v_hi, ar cI yI 6 v_ri]) hx hb hts in_X ty_X ty_X_ok n_X hown hK hP hD hS 0 rfl rfl 7 (by decide) mw_72 rfl rfl rfl (Nat.le_of_ble_eq_true rfl) d_X_context_88 rfl (fun H locs hP hD hS => ?_)
      refine lv_iload_n hx hb d_X_context_91 rfl (lv_at hl 0 rfl) ?_
      refine lv_iload_n hx hb d_X_context_92 rfl (lv_at hl 3 rfl) ?_
      refine lv_iadd hx hb d_X_context_93 ?_
      have hsp : s_X_context21 v_x v_M v_d v_a v_o v_lo v_hi v_ri a2 = (((v_o (ix (0 : Int32))) + a2), upd ((s_X_keepU v_x v_M v_d v_a v_o v_lo v_hi v_ri).2.1) 3 ((((s_X_keepU v_x v_M v_d v_a v_o v_lo v_hi v_ri).2.1) 3) + (1 : Int32)), (s_X_keepU v_x v_M v_d v_a v_o v_lo v_hi v_ri).2.2.1, upd v_a (ix (7 : Int32)) ((v_o (ix (0 : Int32))) + (1 : Int32)), (s_X_keepU v_x v_M v_d v_a v_o v_lo v_hi v_ri).2.2.2) := (by unfold s_X_context21; rw [if_neg h1, if_neg h2])
      rw [hsp] at hE
      exact hE _ _ _ _ hP hD hS d_X_context_94
set_option maxHeartbeats 4000000 in
set_option maxRecDepth 100000 in
theorem k_X_context22 (l : Launch) (D : va_G) (cI : ClassId) (sz : Nat) (yX : Nat) (yM : Nat) (yD : Nat) (yA : Nat) (yO : Nat) (yL : Nat) (yH : Nat) (yI : Nat) (v_x : Nat → Int32) (v_M : Nat → Int32) (v_d : Nat → Int32) (v_a : Nat → Int32) (v_o : Nat → Int32) (v_lo : Nat → Int32) (v_hi : Nat → Int32) (v_ri : Nat → Int32) (a2 : Int32) (heb : v_x 5 = 0 ∨ v_x 5 = 1) : zMi l y_X_context (.code y_X_context b_X_context 5 (some .int) :: wd) { frames := 2, cells := 0, slots := 0, locals := 45 } D classes [(cI, .int)] [.ref yX, .int (22 : Int32), .int a2] [oX yX yM yD yA yO yL yH yI v_x, ar cI yM 512 v_M, ar cI yD 8 v_d, ar cI yA 8 v_a, ar cI yO 4 v_o, ar cI yL 6 v_lo, ar cI yH 6 v_hi, ar cI yI 6 v_ri] [oX yX yM yD yA yO yL yH yI ((s_X_context22 v_x v_M v_d v_a v_o v_lo v_hi v_ri a2).2.1), ar cI yM 512 ((s_X_context22 v_x v_M v_d v_a v_o v_lo v_hi v_ri a2).2.2.1), ar cI yD 8 ((s_X_context22 v_x v_M v_d v_a v_o v_lo v_hi v_ri a2).2.2.2.1), ar cI yA 8 ((s_X_context22 v_x v_M v_d v_a v_o v_lo v_hi v_ri a2).2.2.2.2.1), ar cI yO 4 ((s_X_context22 v_x v_M v_d v_a v_o v_lo v_hi v_ri a2).2.2.2.2.2), ar cI yL 6 v_lo, ar cI yH 6 v_hi, ar cI yI 6 v_ri] sz (s_X_context22 v_x v_M v_d v_a v_o v_lo v_hi v_ri a2).1 := by
  refine met_i (by decide) (Nat.le_of_ble_eq_true rfl) rfl ?_
  intro p e s m args below meth c A Q ls hx hb hml hown hts hK hP hD hS hA hl hE
  have hl : lv_has ls 5 [(0, .ref yX), (1, .int (22 : Int32)), (2, .int a2)] := hl
  have hown : s.vm.findClass R_X = some m.cls := hown
  refine lv_aload_n hx hb d_X_context_0 rfl (lv_at hl 0 rfl) ?_
  refine zz_get (C := R_X) (T := F_X) (N := 27) (v := .ref yO) hx hb hts in_X hown hK hP 0 rfl rfl 4 (by decide) mw_68 rfl d_X_context_1 ?_
  refine lv_iconst (v := (0 : Int32)) hx hb d_X_context_4 (by decide) ?_
  refine va_iald hx hb hK hP 4 0 rfl rfl (zz_inc (by decide)) d_X_context_5 ?_
  refine lv_istore_n (lv' := [(3, .int (v_o (ix (0 : Int32)))), (0, .ref yX), (1, .int (22 : Int32)), (2, .int a2)]) hx hb d_X_context_6 rfl hl (by decide) rfl (fun ls hl => ?_)
  refine lv_iload_n hx hb d_X_context_7 rfl (lv_at hl 2 rfl) ?_
  refine lv_bipush (v := (21 : Int32)) hx hb d_X_context_8 (by decide) ?_
  refine lv_icmp_ne (tgt := 22) hx hb d_X_context_10 (by decide) (fun _ => ?_) (fun hh => absurd hh (by decide))
  refine lv_iload_n hx hb d_X_context_22 rfl (lv_at hl 2 rfl) ?_
  refine lv_bipush (v := (22 : Int32)) hx hb d_X_context_23 (by decide) ?_
  refine lv_icmp_ne (tgt := 57) hx hb d_X_context_25 (by decide) (fun hh => absurd hh (by decide)) (fun _ => ?_)
  refine lv_aload_n hx hb d_X_context_28 rfl (lv_at hl 1 rfl) ?_
  refine zz_get (C := R_X) (T := F_X) (N := 27) (v := .int (v_x 3)) hx hb hts in_X hown hK hP 0 rfl rfl 7 (by decide) mw_72 rfl d_X_context_29 ?_
  refine lv_if_ne (tgt := 57) hx hb d_X_context_32 (by decide) (fun h1 => ?_) (fun h1 => ?_)
  ·
    refine lv_iload_n hx hb d_X_context_57 rfl (lv_at hl 2 rfl) ?_
    refine lv_bipush (v := (21 : Int32)) hx hb d_X_context_58 (by decide) ?_
    refine lv_icmp_ne (tgt := 95) hx hb d_X_context_60 (by decide) (fun _ => ?_) (fun hh => absurd hh (by decide))
    refine lv_iload_n hx hb d_X_context_95 rfl (lv_at hl 2 rfl) ?_
    refine lv_bipush (v := (22 : Int32)) hx hb d_X_context_96 (by decide) ?_
    refine lv_icmp_eq (tgt := 107) hx hb d_X_context_98 (by decide) (fun _ => ?_) (fun hh => absurd hh (by decide))
    refine lv_aload_n hx hb d_X_context_107 rfl (lv_at hl 1 rfl) ?_
    refine lv_iconst (v := (1 : Int32)) hx hb d_X_context_108 (by decide) ?_
    refine zz_cVi (rest := []) (wr := []) (w' := [oX yX yM yD yA yO yL yH yI ((s_X_canBringU v_x v_M v_d v_a v_o v_lo v_hi v_ri).2), ar cI yM 512 v_M, ar cI yD 8 v_d, ar cI yA 8 v_a, ar cI yO 4 v_o, ar cI yL 6 v_lo, ar cI yH 6 v_hi, ar cI yI 6 v_ri]) ⟨hx, hb, hml, hown, hts⟩ (k_X_canBringU l D cI _ yX yM yD yA yO yL yH yI v_x v_M v_d v_a v_o v_lo v_hi v_ri) g_X_context_X_canBring_104 nv_X_canBring ⟨⟨rfl, rfl⟩, Nat.le_of_ble_eq_true rfl, Nat.le_of_ble_eq_true rfl⟩ hK [0] rfl hP hD hS hA [0, 1, 2, 3, 4, 5, 6, 7] [] [0, 1, 2, 3, 4, 5, 6, 7] rfl rfl rfl rfl (by decide) rfl rfl 0 6 rfl rfl rfl rfl hl.1 (Nat.le_of_ble_eq_true rfl) d_X_context_109 ⟨Nat.zero_le _, Nat.zero_le _⟩ (fun H locs hP hD hS => ?_)
    refine lv_if_eq (tgt := 245) hx hb d_X_context_112 (by decide) (fun h2 => ?_) (fun h2 => ?_)
    ·
      refine lv_iload_n hx hb d_X_context_245 rfl (lv_at hl 0 rfl) ?_
      refine lv_iconst (v := (1 : Int32)) hx hb d_X_context_246 (by decide) ?_
      refine lv_iadd hx hb d_X_context_247 ?_
      have hsp : s_X_context22 v_x v_M v_d v_a v_o v_lo v_hi v_ri a2 = (((v_o (ix (0 : Int32))) + (1 : Int32)), (s_X_canBringU v_x v_M v_d v_a v_o v_lo v_hi v_ri).2, v_M, v_d, v_a, v_o) := (by unfold s_X_context22; rw [if_neg h1, if_pos h2])
      rw [hsp] at hE
      exact hE _ _ _ _ hP hD hS d_X_context_248
    ·
      refine lv_aload_n hx hb d_X_context_115 rfl (lv_at hl 1 rfl) ?_
      refine zz_get (C := R_X) (T := F_X) (N := 27) (v := .ref yA) hx hb hts in_X hown hK hP 0 rfl rfl 3 (by decide) mw_73 rfl d_X_context_116 ?_
      refine lv_bipush (v := (7 : Int32)) hx hb d_X_context_119 (by decide) ?_
      refine va_iald hx hb hK hP 3 0 rfl rfl (zz_inc (by decide)) d_X_context_121 ?_
      refine lv_istore (lv' := [(4, .int (v_a (ix (7 : Int32)))), (3, .int (v_o (ix (0 : Int32)))), (0, .ref yX), (1, .int (22 : Int32)), (2, .int a2)]) hx hb d_X_context_122 hl (by decide) rfl (fun ls hl => ?_)
      refine lv_aload_n hx hb d_X_context_124 rfl (lv_at hl 2 rfl) ?_
      refine lv_iload_n hx hb d_X_context_125 rfl (lv_at hl 3 rfl) ?_
      refine lv_bipush (v := (26 : Int32)) hx hb d_X_context_126 (by decide) ?_
      refine lv_icmp_ne (tgt := 146) hx hb d_X_context_128 (by decide) (fun _ => ?_) (fun hh => absurd hh (by decide))
      refine lv_aload_n hx hb d_X_context_146 rfl (lv_at hl 2 rfl) ?_
      refine zz_get (C := R_X) (T := F_X) (N := 27) (v := .int (((s_X_canBringU v_x v_M v_d v_a v_o v_lo v_hi v_ri).2) 4)) hx hb hts in_X hown hK hP 0 rfl rfl 8 (by decide) mw_75 rfl d_X_context_147 ?_
      refine zz_put (C := R_X) (T := F_X) (N := 27) (w' := [oX yX yM yD yA yO yL yH yI (upd ((s_X_canBringU v_x v_M v_d v_a v_o v_lo v_hi v_ri).2) 4 (((s_X_canBringU v_x v_M v_d v_a v_o v_lo v_hi v_ri).2) 4)), ar cI yM 512 v_M, ar cI yD 8 v_d, ar cI yA 8 v_a, ar cI yO 4 v_o, ar cI yL 6 v_lo, ar cI yH 6 v_hi, ar cI yI 6 v_ri]) hx hb hts in_X ty_X ty_X_ok n_X hown hK hP hD hS 0 rfl rfl 8 (by decide) mw_75 rfl rfl rfl (Nat.le_of_ble_eq_true rfl) d_X_context_150 rfl (fun H locs hP hD hS => ?_)
      refine lv_aload_n hx hb d_X_context_153 rfl (lv_at hl 2 rfl) ?_
      refine lv_iload_n hx hb d_X_context_154 rfl (lv_at hl 3 rfl) ?_
      refine lv_bipush (v := (26 : Int32)) hx hb d_X_context_155 (by decide) ?_
      refine lv_icmp_ne (tgt := 181) hx hb d_X_context_157 (by decide) (fun _ => ?_) (fun hh => absurd hh (by decide))
      refine lv_aload_n hx hb d_X_context_181 rfl (lv_at hl 2 rfl) ?_
      refine zz_get (C := R_X) (T := F_X) (N := 27) (v := .int (((s_X_canBringU v_x v_M v_d v_a v_o v_lo v_hi v_ri).2) 5)) hx hb hts in_X hown hK hP 0 rfl rfl 9 (by decide) mw_76 rfl d_X_context_182 ?_
      refine zz_put (C := R_X) (T := F_X) (N := 27) (w' := [oX yX yM yD yA yO yL yH yI (upd (upd ((s_X_canBringU v_x v_M v_d v_a v_o v_lo v_hi v_ri).2) 4 (((s_X_canBringU v_x v_M v_d v_a v_o v_lo v_hi v_ri).2) 4)) 5 (((s_X_canBringU v_x v_M v_d v_a v_o v_lo v_hi v_ri).2) 5)), ar cI yM 512 v_M, ar cI yD 8 v_d, ar cI yA 8 v_a, ar cI yO 4 v_o, ar cI yL 6 v_lo, ar cI yH 6 v_hi, ar cI yI 6 v_ri]) hx hb hts in_X ty_X ty_X_ok n_X hown hK hP hD hS 0 rfl rfl 9 (by decide) mw_76 rfl (zz_nar (can_enU heb)) (zz_fit (can_enU heb)) (Nat.le_of_ble_eq_true rfl) d_X_context_185 rfl (fun H locs hP hD hS => ?_)
      refine lv_aload_n hx hb d_X_context_188 rfl (lv_at hl 2 rfl) ?_
      refine lv_iconst (v := (1 : Int32)) hx hb d_X_context_189 (by decide) ?_
      refine zz_cVv (rest := []) (wr := []) (w' := [oX yX yM yD yA yO yL yH yI ((s_X_bringU (upd (upd ((s_X_canBringU v_x v_M v_d v_a v_o v_lo v_hi v_ri).2) 4 (((s_X_canBringU v_x v_M v_d v_a v_o v_lo v_hi v_ri).2) 4)) 5 (((s_X_canBringU v_x v_M v_d v_a v_o v_lo v_hi v_ri).2) 5)) v_M v_d v_a v_o v_lo v_hi v_ri).1), ar cI yM 512 ((s_X_bringU (upd (upd ((s_X_canBringU v_x v_M v_d v_a v_o v_lo v_hi v_ri).2) 4 (((s_X_canBringU v_x v_M v_d v_a v_o v_lo v_hi v_ri).2) 4)) 5 (((s_X_canBringU v_x v_M v_d v_a v_o v_lo v_hi v_ri).2) 5)) v_M v_d v_a v_o v_lo v_hi v_ri).2.1), ar cI yD 8 ((s_X_bringU (upd (upd ((s_X_canBringU v_x v_M v_d v_a v_o v_lo v_hi v_ri).2) 4 (((s_X_canBringU v_x v_M v_d v_a v_o v_lo v_hi v_ri).2) 4)) 5 (((s_X_canBringU v_x v_M v_d v_a v_o v_lo v_hi v_ri).2) 5)) v_M v_d v_a v_o v_lo v_hi v_ri).2.2.1), ar cI yA 8 ((s_X_bringU (upd (upd ((s_X_canBringU v_x v_M v_d v_a v_o v_lo v_hi v_ri).2) 4 (((s_X_canBringU v_x v_M v_d v_a v_o v_lo v_hi v_ri).2) 4)) 5 (((s_X_canBringU v_x v_M v_d v_a v_o v_lo v_hi v_ri).2) 5)) v_M v_d v_a v_o v_lo v_hi v_ri).2.2.2.1), ar cI yO 4 ((s_X_bringU (upd (upd ((s_X_canBringU v_x v_M v_d v_a v_o v_lo v_hi v_ri).2) 4 (((s_X_canBringU v_x v_M v_d v_a v_o v_lo v_hi v_ri).2) 4)) 5 (((s_X_canBringU v_x v_M v_d v_a v_o v_lo v_hi v_ri).2) 5)) v_M v_d v_a v_o v_lo v_hi v_ri).2.2.2.2), ar cI yL 6 v_lo, ar cI yH 6 v_hi, ar cI yI 6 v_ri]) ⟨hx, hb, hml, hown, hts⟩ (k_X_bringU l D cI _ yX yM yD yA yO yL yH yI (upd (upd ((s_X_canBringU v_x v_M v_d v_a v_o v_lo v_hi v_ri).2) 4 (((s_X_canBringU v_x v_M v_d v_a v_o v_lo v_hi v_ri).2) 4)) 5 (((s_X_canBringU v_x v_M v_d v_a v_o v_lo v_hi v_ri).2) 5)) v_M v_d v_a v_o v_lo v_hi v_ri (can_areaU h2)) g_X_context_X_bring_107 nv_X_bring ⟨⟨rfl, rfl⟩, Nat.le_of_ble_eq_true rfl, Nat.le_of_ble_eq_true rfl⟩ hK [0] rfl hP hD hS hA [0, 1, 2, 3, 4, 5, 6, 7] [] [0, 1, 2, 3, 4, 5, 6, 7] rfl rfl rfl rfl (by decide) rfl rfl 0 6 rfl rfl rfl rfl hl.1 (Nat.le_of_ble_eq_true rfl) d_X_context_190 ⟨Nat.zero_le _, Nat.zero_le _⟩ (fun H locs hP hD hS => ?_)
      refine lv_iload hx hb d_X_context_193 (lv_at hl 0 rfl) ?_
      have hsp : s_X_context22 v_x v_M v_d v_a v_o v_lo v_hi v_ri a2 = ((v_a (ix (7 : Int32))), (s_X_bringU (upd (upd ((s_X_canBringU v_x v_M v_d v_a v_o v_lo v_hi v_ri).2) 4 (((s_X_canBringU v_x v_M v_d v_a v_o v_lo v_hi v_ri).2) 4)) 5 (((s_X_canBringU v_x v_M v_d v_a v_o v_lo v_hi v_ri).2) 5)) v_M v_d v_a v_o v_lo v_hi v_ri).1, (s_X_bringU (upd (upd ((s_X_canBringU v_x v_M v_d v_a v_o v_lo v_hi v_ri).2) 4 (((s_X_canBringU v_x v_M v_d v_a v_o v_lo v_hi v_ri).2) 4)) 5 (((s_X_canBringU v_x v_M v_d v_a v_o v_lo v_hi v_ri).2) 5)) v_M v_d v_a v_o v_lo v_hi v_ri).2.1, (s_X_bringU (upd (upd ((s_X_canBringU v_x v_M v_d v_a v_o v_lo v_hi v_ri).2) 4 (((s_X_canBringU v_x v_M v_d v_a v_o v_lo v_hi v_ri).2) 4)) 5 (((s_X_canBringU v_x v_M v_d v_a v_o v_lo v_hi v_ri).2) 5)) v_M v_d v_a v_o v_lo v_hi v_ri).2.2.1, (s_X_bringU (upd (upd ((s_X_canBringU v_x v_M v_d v_a v_o v_lo v_hi v_ri).2) 4 (((s_X_canBringU v_x v_M v_d v_a v_o v_lo v_hi v_ri).2) 4)) 5 (((s_X_canBringU v_x v_M v_d v_a v_o v_lo v_hi v_ri).2) 5)) v_M v_d v_a v_o v_lo v_hi v_ri).2.2.2.1, (s_X_bringU (upd (upd ((s_X_canBringU v_x v_M v_d v_a v_o v_lo v_hi v_ri).2) 4 (((s_X_canBringU v_x v_M v_d v_a v_o v_lo v_hi v_ri).2) 4)) 5 (((s_X_canBringU v_x v_M v_d v_a v_o v_lo v_hi v_ri).2) 5)) v_M v_d v_a v_o v_lo v_hi v_ri).2.2.2.2) := (by unfold s_X_context22; rw [if_neg h1, if_neg h2])
      rw [hsp] at hE
      exact hE _ _ _ _ hP hD hS d_X_context_195
  ·
    refine lv_aload_n hx hb d_X_context_35 rfl (lv_at hl 1 rfl) ?_
    refine lv_iload_n hx hb d_X_context_36 rfl (lv_at hl 2 rfl) ?_
    refine lv_bipush (v := (21 : Int32)) hx hb d_X_context_37 (by decide) ?_
    refine lv_icmp_ne (tgt := 48) hx hb d_X_context_39 (by decide) (fun _ => ?_) (fun hh => absurd hh (by decide))
    refine lv_sipush (v := (771 : Int32)) hx hb d_X_context_48 (by decide) ?_
    refine zz_put (C := R_X) (T := F_X) (N := 27) (w' := [oX yX yM yD yA yO yL yH yI (upd v_x 19 (771 : Int32)), ar cI yM 512 v_M, ar cI yD 8 v_d, ar cI yA 8 v_a, ar cI yO 4 v_o, ar cI yL 6 v_lo, ar cI yH 6 v_hi, ar cI yI 6 v_ri]) hx hb hts in_X ty_X ty_X_ok n_X hown hK hP hD hS 0 rfl rfl 26 (by decide) mw_79 rfl rfl rfl (Nat.le_of_ble_eq_true rfl) d_X_context_51 rfl (fun H locs hP hD hS => ?_)
    refine lv_goto (tgt := 245) hx hb d_X_context_54 (by decide) ?_
    refine lv_iload_n hx hb d_X_context_245 rfl (lv_at hl 0 rfl) ?_
    refine lv_iconst (v := (1 : Int32)) hx hb d_X_context_246 (by decide) ?_
    refine lv_iadd hx hb d_X_context_247 ?_
    have hsp : s_X_context22 v_x v_M v_d v_a v_o v_lo v_hi v_ri a2 = (((v_o (ix (0 : Int32))) + (1 : Int32)), upd v_x 19 (771 : Int32), v_M, v_d, v_a, v_o) := (by unfold s_X_context22; rw [if_pos h1])
    rw [hsp] at hE
    exact hE _ _ _ _ hP hD hS d_X_context_248
set_option maxHeartbeats 4000000 in
set_option maxRecDepth 100000 in
theorem k_X_context23 (l : Launch) (D : va_G) (cI : ClassId) (sz : Nat) (yX : Nat) (yM : Nat) (yD : Nat) (yA : Nat) (yO : Nat) (yL : Nat) (yH : Nat) (yI : Nat) (v_x : Nat → Int32) (v_M : Nat → Int32) (v_d : Nat → Int32) (v_a : Nat → Int32) (v_o : Nat → Int32) (v_lo : Nat → Int32) (v_hi : Nat → Int32) (v_ri : Nat → Int32) (a2 : Int32) : zMi l y_X_context (.code y_X_context b_X_context 5 (some .int) :: wd) { frames := 2, cells := 0, slots := 0, locals := 45 } D classes [(cI, .int)] [.ref yX, .int (23 : Int32), .int a2] [oX yX yM yD yA yO yL yH yI v_x, ar cI yM 512 v_M, ar cI yD 8 v_d, ar cI yA 8 v_a, ar cI yO 4 v_o, ar cI yL 6 v_lo, ar cI yH 6 v_hi, ar cI yI 6 v_ri] [oX yX yM yD yA yO yL yH yI ((s_X_context23 v_x v_M v_d v_a v_o v_lo v_hi v_ri a2).2.1), ar cI yM 512 ((s_X_context23 v_x v_M v_d v_a v_o v_lo v_hi v_ri a2).2.2.1), ar cI yD 8 v_d, ar cI yA 8 v_a, ar cI yO 4 ((s_X_context23 v_x v_M v_d v_a v_o v_lo v_hi v_ri a2).2.2.2), ar cI yL 6 v_lo, ar cI yH 6 v_hi, ar cI yI 6 v_ri] sz (s_X_context23 v_x v_M v_d v_a v_o v_lo v_hi v_ri a2).1 := by
  refine met_i (by decide) (Nat.le_of_ble_eq_true rfl) rfl ?_
  intro p e s m args below meth c A Q ls hx hb hml hown hts hK hP hD hS hA hl hE
  have hl : lv_has ls 5 [(0, .ref yX), (1, .int (23 : Int32)), (2, .int a2)] := hl
  have hown : s.vm.findClass R_X = some m.cls := hown
  refine lv_aload_n hx hb d_X_context_0 rfl (lv_at hl 0 rfl) ?_
  refine zz_get (C := R_X) (T := F_X) (N := 27) (v := .ref yO) hx hb hts in_X hown hK hP 0 rfl rfl 4 (by decide) mw_68 rfl d_X_context_1 ?_
  refine lv_iconst (v := (0 : Int32)) hx hb d_X_context_4 (by decide) ?_
  refine va_iald hx hb hK hP 4 0 rfl rfl (zz_inc (by decide)) d_X_context_5 ?_
  refine lv_istore_n (lv' := [(3, .int (v_o (ix (0 : Int32)))), (0, .ref yX), (1, .int (23 : Int32)), (2, .int a2)]) hx hb d_X_context_6 rfl hl (by decide) rfl (fun ls hl => ?_)
  refine lv_iload_n hx hb d_X_context_7 rfl (lv_at hl 2 rfl) ?_
  refine lv_bipush (v := (21 : Int32)) hx hb d_X_context_8 (by decide) ?_
  refine lv_icmp_ne (tgt := 22) hx hb d_X_context_10 (by decide) (fun _ => ?_) (fun hh => absurd hh (by decide))
  refine lv_iload_n hx hb d_X_context_22 rfl (lv_at hl 2 rfl) ?_
  refine lv_bipush (v := (22 : Int32)) hx hb d_X_context_23 (by decide) ?_
  refine lv_icmp_ne (tgt := 57) hx hb d_X_context_25 (by decide) (fun _ => ?_) (fun hh => absurd hh (by decide))
  refine lv_iload_n hx hb d_X_context_57 rfl (lv_at hl 2 rfl) ?_
  refine lv_bipush (v := (21 : Int32)) hx hb d_X_context_58 (by decide) ?_
  refine lv_icmp_ne (tgt := 95) hx hb d_X_context_60 (by decide) (fun _ => ?_) (fun hh => absurd hh (by decide))
  refine lv_iload_n hx hb d_X_context_95 rfl (lv_at hl 2 rfl) ?_
  refine lv_bipush (v := (22 : Int32)) hx hb d_X_context_96 (by decide) ?_
  refine lv_icmp_eq (tgt := 107) hx hb d_X_context_98 (by decide) (fun hh => absurd hh (by decide)) (fun _ => ?_)
  refine lv_iload_n hx hb d_X_context_101 rfl (lv_at hl 2 rfl) ?_
  refine lv_bipush (v := (26 : Int32)) hx hb d_X_context_102 (by decide) ?_
  refine lv_icmp_ne (tgt := 196) hx hb d_X_context_104 (by decide) (fun _ => ?_) (fun hh => absurd hh (by decide))
  refine lv_iload_n hx hb d_X_context_196 rfl (lv_at hl 2 rfl) ?_
  refine lv_bipush (v := (24 : Int32)) hx hb d_X_context_197 (by decide) ?_
  refine lv_icmp_ne (tgt := 218) hx hb d_X_context_199 (by decide) (fun _ => ?_) (fun hh => absurd hh (by decide))
  refine lv_aload_n hx hb d_X_context_218 rfl (lv_at hl 1 rfl) ?_
  refine lv_iconst (v := (0 : Int32)) hx hb d_X_context_219 (by decide) ?_
  refine zz_cVi (rest := []) (wr := []) (w' := [oX yX yM yD yA yO yL yH yI ((s_X_keepL v_x v_M v_d v_a v_o v_lo v_hi v_ri).2.1), ar cI yM 512 ((s_X_keepL v_x v_M v_d v_a v_o v_lo v_hi v_ri).2.2.1), ar cI yD 8 v_d, ar cI yA 8 v_a, ar cI yO 4 ((s_X_keepL v_x v_M v_d v_a v_o v_lo v_hi v_ri).2.2.2), ar cI yL 6 v_lo, ar cI yH 6 v_hi, ar cI yI 6 v_ri]) ⟨hx, hb, hml, hown, hts⟩ (k_X_keepL l D cI _ yX yM yD yA yO yL yH yI v_x v_M v_d v_a v_o v_lo v_hi v_ri) g_X_context_X_keep_74 nv_X_keep ⟨⟨rfl, rfl⟩, Nat.le_of_ble_eq_true rfl, Nat.le_of_ble_eq_true rfl⟩ hK [0] rfl hP hD hS hA [0, 1, 2, 3, 4, 5, 6, 7] [] [0, 1, 2, 3, 4, 5, 6, 7] rfl rfl rfl rfl (by decide) rfl rfl 0 6 rfl rfl rfl rfl hl.1 (Nat.le_of_ble_eq_true rfl) d_X_context_220 ⟨Nat.zero_le _, Nat.zero_le _⟩ (fun H locs hP hD hS => ?_)
  refine lv_if_eq (tgt := 245) hx hb d_X_context_223 (by decide) (fun h1 => ?_) (fun h1 => ?_)
  ·
    refine lv_iload_n hx hb d_X_context_245 rfl (lv_at hl 0 rfl) ?_
    refine lv_iconst (v := (1 : Int32)) hx hb d_X_context_246 (by decide) ?_
    refine lv_iadd hx hb d_X_context_247 ?_
    have hsp : s_X_context23 v_x v_M v_d v_a v_o v_lo v_hi v_ri a2 = (((v_o (ix (0 : Int32))) + (1 : Int32)), (s_X_keepL v_x v_M v_d v_a v_o v_lo v_hi v_ri).2.1, (s_X_keepL v_x v_M v_d v_a v_o v_lo v_hi v_ri).2.2.1, (s_X_keepL v_x v_M v_d v_a v_o v_lo v_hi v_ri).2.2.2) := (by unfold s_X_context23; rw [if_pos h1])
    rw [hsp] at hE
    exact hE _ _ _ _ hP hD hS d_X_context_248
  ·
    refine lv_iload_n hx hb d_X_context_226 rfl (lv_at hl 2 rfl) ?_
    refine lv_bipush (v := (25 : Int32)) hx hb d_X_context_227 (by decide) ?_
    refine lv_icmp_ne (tgt := 245) hx hb d_X_context_229 (by decide) (fun _ => ?_) (fun hh => absurd hh (by decide))
    refine lv_iload_n hx hb d_X_context_245 rfl (lv_at hl 0 rfl) ?_
    refine lv_iconst (v := (1 : Int32)) hx hb d_X_context_246 (by decide) ?_
    refine lv_iadd hx hb d_X_context_247 ?_
    have hsp : s_X_context23 v_x v_M v_d v_a v_o v_lo v_hi v_ri a2 = (((v_o (ix (0 : Int32))) + (1 : Int32)), (s_X_keepL v_x v_M v_d v_a v_o v_lo v_hi v_ri).2.1, (s_X_keepL v_x v_M v_d v_a v_o v_lo v_hi v_ri).2.2.1, (s_X_keepL v_x v_M v_d v_a v_o v_lo v_hi v_ri).2.2.2) := (by unfold s_X_context23; rw [if_neg h1])
    rw [hsp] at hE
    exact hE _ _ _ _ hP hD hS d_X_context_248
set_option maxHeartbeats 4000000 in
set_option maxRecDepth 100000 in
theorem k_X_context24 (l : Launch) (D : va_G) (cI : ClassId) (sz : Nat) (yX : Nat) (yM : Nat) (yD : Nat) (yA : Nat) (yO : Nat) (yL : Nat) (yH : Nat) (yI : Nat) (v_x : Nat → Int32) (v_M : Nat → Int32) (v_d : Nat → Int32) (v_a : Nat → Int32) (v_o : Nat → Int32) (v_lo : Nat → Int32) (v_hi : Nat → Int32) (v_ri : Nat → Int32) (a2 : Int32) : zMi l y_X_context (.code y_X_context b_X_context 5 (some .int) :: wd) { frames := 2, cells := 0, slots := 0, locals := 45 } D classes [(cI, .int)] [.ref yX, .int (24 : Int32), .int a2] [oX yX yM yD yA yO yL yH yI v_x, ar cI yM 512 v_M, ar cI yD 8 v_d, ar cI yA 8 v_a, ar cI yO 4 v_o, ar cI yL 6 v_lo, ar cI yH 6 v_hi, ar cI yI 6 v_ri] [oX yX yM yD yA yO yL yH yI ((s_X_context24 v_x v_M v_d v_a v_o v_lo v_hi v_ri a2).2.1), ar cI yM 512 ((s_X_context24 v_x v_M v_d v_a v_o v_lo v_hi v_ri a2).2.2.1), ar cI yD 8 ((s_X_context24 v_x v_M v_d v_a v_o v_lo v_hi v_ri a2).2.2.2.1), ar cI yA 8 ((s_X_context24 v_x v_M v_d v_a v_o v_lo v_hi v_ri a2).2.2.2.2.1), ar cI yO 4 ((s_X_context24 v_x v_M v_d v_a v_o v_lo v_hi v_ri a2).2.2.2.2.2), ar cI yL 6 v_lo, ar cI yH 6 v_hi, ar cI yI 6 v_ri] sz (s_X_context24 v_x v_M v_d v_a v_o v_lo v_hi v_ri a2).1 := by
  refine met_i (by decide) (Nat.le_of_ble_eq_true rfl) rfl ?_
  intro p e s m args below meth c A Q ls hx hb hml hown hts hK hP hD hS hA hl hE
  have hl : lv_has ls 5 [(0, .ref yX), (1, .int (24 : Int32)), (2, .int a2)] := hl
  have hown : s.vm.findClass R_X = some m.cls := hown
  refine lv_aload_n hx hb d_X_context_0 rfl (lv_at hl 0 rfl) ?_
  refine zz_get (C := R_X) (T := F_X) (N := 27) (v := .ref yO) hx hb hts in_X hown hK hP 0 rfl rfl 4 (by decide) mw_68 rfl d_X_context_1 ?_
  refine lv_iconst (v := (0 : Int32)) hx hb d_X_context_4 (by decide) ?_
  refine va_iald hx hb hK hP 4 0 rfl rfl (zz_inc (by decide)) d_X_context_5 ?_
  refine lv_istore_n (lv' := [(3, .int (v_o (ix (0 : Int32)))), (0, .ref yX), (1, .int (24 : Int32)), (2, .int a2)]) hx hb d_X_context_6 rfl hl (by decide) rfl (fun ls hl => ?_)
  refine lv_iload_n hx hb d_X_context_7 rfl (lv_at hl 2 rfl) ?_
  refine lv_bipush (v := (21 : Int32)) hx hb d_X_context_8 (by decide) ?_
  refine lv_icmp_ne (tgt := 22) hx hb d_X_context_10 (by decide) (fun _ => ?_) (fun hh => absurd hh (by decide))
  refine lv_iload_n hx hb d_X_context_22 rfl (lv_at hl 2 rfl) ?_
  refine lv_bipush (v := (22 : Int32)) hx hb d_X_context_23 (by decide) ?_
  refine lv_icmp_ne (tgt := 57) hx hb d_X_context_25 (by decide) (fun _ => ?_) (fun hh => absurd hh (by decide))
  refine lv_iload_n hx hb d_X_context_57 rfl (lv_at hl 2 rfl) ?_
  refine lv_bipush (v := (21 : Int32)) hx hb d_X_context_58 (by decide) ?_
  refine lv_icmp_ne (tgt := 95) hx hb d_X_context_60 (by decide) (fun _ => ?_) (fun hh => absurd hh (by decide))
  refine lv_iload_n hx hb d_X_context_95 rfl (lv_at hl 2 rfl) ?_
  refine lv_bipush (v := (22 : Int32)) hx hb d_X_context_96 (by decide) ?_
  refine lv_icmp_eq (tgt := 107) hx hb d_X_context_98 (by decide) (fun hh => absurd hh (by decide)) (fun _ => ?_)
  refine lv_iload_n hx hb d_X_context_101 rfl (lv_at hl 2 rfl) ?_
  refine lv_bipush (v := (26 : Int32)) hx hb d_X_context_102 (by decide) ?_
  refine lv_icmp_ne (tgt := 196) hx hb d_X_context_104 (by decide) (fun _ => ?_) (fun hh => absurd hh (by decide))
  refine lv_iload_n hx hb d_X_context_196 rfl (lv_at hl 2 rfl) ?_
  refine lv_bipush (v := (24 : Int32)) hx hb d_X_context_197 (by decide) ?_
  refine lv_icmp_ne (tgt := 218) hx hb d_X_context_199 (by decide) (fun hh => absurd hh (by decide)) (fun _ => ?_)
  refine lv_aload_n hx hb d_X_context_202 rfl (lv_at hl 1 rfl) ?_
  refine lv_iconst (v := (0 : Int32)) hx hb d_X_context_203 (by decide) ?_
  refine zz_cVi (rest := []) (wr := []) (w' := [oX yX yM yD yA yO yL yH yI ((s_X_canBringL v_x v_M v_d v_a v_o v_lo v_hi v_ri).2), ar cI yM 512 v_M, ar cI yD 8 v_d, ar cI yA 8 v_a, ar cI yO 4 v_o, ar cI yL 6 v_lo, ar cI yH 6 v_hi, ar cI yI 6 v_ri]) ⟨hx, hb, hml, hown, hts⟩ (k_X_canBringL l D cI _ yX yM yD yA yO yL yH yI v_x v_M v_d v_a v_o v_lo v_hi v_ri) g_X_context_X_canBring_104 nv_X_canBring ⟨⟨rfl, rfl⟩, Nat.le_of_ble_eq_true rfl, Nat.le_of_ble_eq_true rfl⟩ hK [0] rfl hP hD hS hA [0, 1, 2, 3, 4, 5, 6, 7] [] [0, 1, 2, 3, 4, 5, 6, 7] rfl rfl rfl rfl (by decide) rfl rfl 0 6 rfl rfl rfl rfl hl.1 (Nat.le_of_ble_eq_true rfl) d_X_context_204 ⟨Nat.zero_le _, Nat.zero_le _⟩ (fun H locs hP hD hS => ?_)
  refine lv_if_eq (tgt := 245) hx hb d_X_context_207 (by decide) (fun h1 => ?_) (fun h1 => ?_)
  ·
    refine lv_iload_n hx hb d_X_context_245 rfl (lv_at hl 0 rfl) ?_
    refine lv_iconst (v := (1 : Int32)) hx hb d_X_context_246 (by decide) ?_
    refine lv_iadd hx hb d_X_context_247 ?_
    have hsp : s_X_context24 v_x v_M v_d v_a v_o v_lo v_hi v_ri a2 = (((v_o (ix (0 : Int32))) + (1 : Int32)), (s_X_canBringL v_x v_M v_d v_a v_o v_lo v_hi v_ri).2, v_M, v_d, v_a, v_o) := (by unfold s_X_context24; rw [if_pos h1])
    rw [hsp] at hE
    exact hE _ _ _ _ hP hD hS d_X_context_248
  ·
    refine lv_aload_n hx hb d_X_context_210 rfl (lv_at hl 1 rfl) ?_
    refine lv_iconst (v := (0 : Int32)) hx hb d_X_context_211 (by decide) ?_
    refine zz_cVv (rest := []) (wr := []) (w' := [oX yX yM yD yA yO yL yH yI ((s_X_canBringL v_x v_M v_d v_a v_o v_lo v_hi v_ri).2), ar cI yM 512 ((s_X_bringL ((s_X_canBringL v_x v_M v_d v_a v_o v_lo v_hi v_ri).2) v_M v_d v_a v_o v_lo v_hi v_ri).1), ar cI yD 8 ((s_X_bringL ((s_X_canBringL v_x v_M v_d v_a v_o v_lo v_hi v_ri).2) v_M v_d v_a v_o v_lo v_hi v_ri).2.1), ar cI yA 8 ((s_X_bringL ((s_X_canBringL v_x v_M v_d v_a v_o v_lo v_hi v_ri).2) v_M v_d v_a v_o v_lo v_hi v_ri).2.2.1), ar cI yO 4 ((s_X_bringL ((s_X_canBringL v_x v_M v_d v_a v_o v_lo v_hi v_ri).2) v_M v_d v_a v_o v_lo v_hi v_ri).2.2.2), ar cI yL 6 v_lo, ar cI yH 6 v_hi, ar cI yI 6 v_ri]) ⟨hx, hb, hml, hown, hts⟩ (k_X_bringL l D cI _ yX yM yD yA yO yL yH yI ((s_X_canBringL v_x v_M v_d v_a v_o v_lo v_hi v_ri).2) v_M v_d v_a v_o v_lo v_hi v_ri (can_areaL h1)) g_X_context_X_bring_107 nv_X_bring ⟨⟨rfl, rfl⟩, Nat.le_of_ble_eq_true rfl, Nat.le_of_ble_eq_true rfl⟩ hK [0] rfl hP hD hS hA [0, 1, 2, 3, 4, 5, 6, 7] [] [0, 1, 2, 3, 4, 5, 6, 7] rfl rfl rfl rfl (by decide) rfl rfl 0 6 rfl rfl rfl rfl hl.1 (Nat.le_of_ble_eq_true rfl) d_X_context_212 ⟨Nat.zero_le _, Nat.zero_le _⟩ (fun H locs hP hD hS => ?_)
    refine lv_goto (tgt := 245) hx hb d_X_context_215 (by decide) ?_
    refine lv_iload_n hx hb d_X_context_245 rfl (lv_at hl 0 rfl) ?_
    refine lv_iconst (v := (1 : Int32)) hx hb d_X_context_246 (by decide) ?_
    refine lv_iadd hx hb d_X_context_247 ?_
    have hsp : s_X_context24 v_x v_M v_d v_a v_o v_lo v_hi v_ri a2 = (((v_o (ix (0 : Int32))) + (1 : Int32)), (s_X_canBringL v_x v_M v_d v_a v_o v_lo v_hi v_ri).2, (s_X_bringL ((s_X_canBringL v_x v_M v_d v_a v_o v_lo v_hi v_ri).2) v_M v_d v_a v_o v_lo v_hi v_ri).1, (s_X_bringL ((s_X_canBringL v_x v_M v_d v_a v_o v_lo v_hi v_ri).2) v_M v_d v_a v_o v_lo v_hi v_ri).2.1, (s_X_bringL ((s_X_canBringL v_x v_M v_d v_a v_o v_lo v_hi v_ri).2) v_M v_d v_a v_o v_lo v_hi v_ri).2.2.1, (s_X_bringL ((s_X_canBringL v_x v_M v_d v_a v_o v_lo v_hi v_ri).2) v_M v_d v_a v_o v_lo v_hi v_ri).2.2.2) := (by unfold s_X_context24; rw [if_neg h1])
    rw [hsp] at hE
    exact hE _ _ _ _ hP hD hS d_X_context_248
set_option maxHeartbeats 4000000 in
set_option maxRecDepth 100000 in
theorem k_X_context25 (l : Launch) (D : va_G) (cI : ClassId) (sz : Nat) (yX : Nat) (yM : Nat) (yD : Nat) (yA : Nat) (yO : Nat) (yL : Nat) (yH : Nat) (yI : Nat) (v_x : Nat → Int32) (v_M : Nat → Int32) (v_d : Nat → Int32) (v_a : Nat → Int32) (v_o : Nat → Int32) (v_lo : Nat → Int32) (v_hi : Nat → Int32) (v_ri : Nat → Int32) (a2 : Int32) : zMi l y_X_context (.code y_X_context b_X_context 5 (some .int) :: wd) { frames := 2, cells := 0, slots := 0, locals := 45 } D classes [(cI, .int)] [.ref yX, .int (25 : Int32), .int a2] [oX yX yM yD yA yO yL yH yI v_x, ar cI yM 512 v_M, ar cI yD 8 v_d, ar cI yA 8 v_a, ar cI yO 4 v_o, ar cI yL 6 v_lo, ar cI yH 6 v_hi, ar cI yI 6 v_ri] [oX yX yM yD yA yO yL yH yI ((s_X_context25 v_x v_M v_d v_a v_o v_lo v_hi v_ri a2).2.1), ar cI yM 512 ((s_X_context25 v_x v_M v_d v_a v_o v_lo v_hi v_ri a2).2.2.1), ar cI yD 8 v_d, ar cI yA 8 v_a, ar cI yO 4 ((s_X_context25 v_x v_M v_d v_a v_o v_lo v_hi v_ri a2).2.2.2), ar cI yL 6 v_lo, ar cI yH 6 v_hi, ar cI yI 6 v_ri] sz (s_X_context25 v_x v_M v_d v_a v_o v_lo v_hi v_ri a2).1 := by
  refine met_i (by decide) (Nat.le_of_ble_eq_true rfl) rfl ?_
  intro p e s m args below meth c A Q ls hx hb hml hown hts hK hP hD hS hA hl hE
  have hl : lv_has ls 5 [(0, .ref yX), (1, .int (25 : Int32)), (2, .int a2)] := hl
  have hown : s.vm.findClass R_X = some m.cls := hown
  refine lv_aload_n hx hb d_X_context_0 rfl (lv_at hl 0 rfl) ?_
  refine zz_get (C := R_X) (T := F_X) (N := 27) (v := .ref yO) hx hb hts in_X hown hK hP 0 rfl rfl 4 (by decide) mw_68 rfl d_X_context_1 ?_
  refine lv_iconst (v := (0 : Int32)) hx hb d_X_context_4 (by decide) ?_
  refine va_iald hx hb hK hP 4 0 rfl rfl (zz_inc (by decide)) d_X_context_5 ?_
  refine lv_istore_n (lv' := [(3, .int (v_o (ix (0 : Int32)))), (0, .ref yX), (1, .int (25 : Int32)), (2, .int a2)]) hx hb d_X_context_6 rfl hl (by decide) rfl (fun ls hl => ?_)
  refine lv_iload_n hx hb d_X_context_7 rfl (lv_at hl 2 rfl) ?_
  refine lv_bipush (v := (21 : Int32)) hx hb d_X_context_8 (by decide) ?_
  refine lv_icmp_ne (tgt := 22) hx hb d_X_context_10 (by decide) (fun _ => ?_) (fun hh => absurd hh (by decide))
  refine lv_iload_n hx hb d_X_context_22 rfl (lv_at hl 2 rfl) ?_
  refine lv_bipush (v := (22 : Int32)) hx hb d_X_context_23 (by decide) ?_
  refine lv_icmp_ne (tgt := 57) hx hb d_X_context_25 (by decide) (fun _ => ?_) (fun hh => absurd hh (by decide))
  refine lv_iload_n hx hb d_X_context_57 rfl (lv_at hl 2 rfl) ?_
  refine lv_bipush (v := (21 : Int32)) hx hb d_X_context_58 (by decide) ?_
  refine lv_icmp_ne (tgt := 95) hx hb d_X_context_60 (by decide) (fun _ => ?_) (fun hh => absurd hh (by decide))
  refine lv_iload_n hx hb d_X_context_95 rfl (lv_at hl 2 rfl) ?_
  refine lv_bipush (v := (22 : Int32)) hx hb d_X_context_96 (by decide) ?_
  refine lv_icmp_eq (tgt := 107) hx hb d_X_context_98 (by decide) (fun hh => absurd hh (by decide)) (fun _ => ?_)
  refine lv_iload_n hx hb d_X_context_101 rfl (lv_at hl 2 rfl) ?_
  refine lv_bipush (v := (26 : Int32)) hx hb d_X_context_102 (by decide) ?_
  refine lv_icmp_ne (tgt := 196) hx hb d_X_context_104 (by decide) (fun _ => ?_) (fun hh => absurd hh (by decide))
  refine lv_iload_n hx hb d_X_context_196 rfl (lv_at hl 2 rfl) ?_
  refine lv_bipush (v := (24 : Int32)) hx hb d_X_context_197 (by decide) ?_
  refine lv_icmp_ne (tgt := 218) hx hb d_X_context_199 (by decide) (fun _ => ?_) (fun hh => absurd hh (by decide))
  refine lv_aload_n hx hb d_X_context_218 rfl (lv_at hl 1 rfl) ?_
  refine lv_iconst (v := (0 : Int32)) hx hb d_X_context_219 (by decide) ?_
  refine zz_cVi (rest := []) (wr := []) (w' := [oX yX yM yD yA yO yL yH yI ((s_X_keepL v_x v_M v_d v_a v_o v_lo v_hi v_ri).2.1), ar cI yM 512 ((s_X_keepL v_x v_M v_d v_a v_o v_lo v_hi v_ri).2.2.1), ar cI yD 8 v_d, ar cI yA 8 v_a, ar cI yO 4 ((s_X_keepL v_x v_M v_d v_a v_o v_lo v_hi v_ri).2.2.2), ar cI yL 6 v_lo, ar cI yH 6 v_hi, ar cI yI 6 v_ri]) ⟨hx, hb, hml, hown, hts⟩ (k_X_keepL l D cI _ yX yM yD yA yO yL yH yI v_x v_M v_d v_a v_o v_lo v_hi v_ri) g_X_context_X_keep_74 nv_X_keep ⟨⟨rfl, rfl⟩, Nat.le_of_ble_eq_true rfl, Nat.le_of_ble_eq_true rfl⟩ hK [0] rfl hP hD hS hA [0, 1, 2, 3, 4, 5, 6, 7] [] [0, 1, 2, 3, 4, 5, 6, 7] rfl rfl rfl rfl (by decide) rfl rfl 0 6 rfl rfl rfl rfl hl.1 (Nat.le_of_ble_eq_true rfl) d_X_context_220 ⟨Nat.zero_le _, Nat.zero_le _⟩ (fun H locs hP hD hS => ?_)
  refine lv_if_eq (tgt := 245) hx hb d_X_context_223 (by decide) (fun h1 => ?_) (fun h1 => ?_)
  ·
    refine lv_iload_n hx hb d_X_context_245 rfl (lv_at hl 0 rfl) ?_
    refine lv_iconst (v := (1 : Int32)) hx hb d_X_context_246 (by decide) ?_
    refine lv_iadd hx hb d_X_context_247 ?_
    have hsp : s_X_context25 v_x v_M v_d v_a v_o v_lo v_hi v_ri a2 = (((v_o (ix (0 : Int32))) + (1 : Int32)), (s_X_keepL v_x v_M v_d v_a v_o v_lo v_hi v_ri).2.1, (s_X_keepL v_x v_M v_d v_a v_o v_lo v_hi v_ri).2.2.1, (s_X_keepL v_x v_M v_d v_a v_o v_lo v_hi v_ri).2.2.2) := (by unfold s_X_context25; rw [if_pos h1])
    rw [hsp] at hE
    exact hE _ _ _ _ hP hD hS d_X_context_248
  ·
    refine lv_iload_n hx hb d_X_context_226 rfl (lv_at hl 2 rfl) ?_
    refine lv_bipush (v := (25 : Int32)) hx hb d_X_context_227 (by decide) ?_
    refine lv_icmp_ne (tgt := 245) hx hb d_X_context_229 (by decide) (fun hh => absurd hh (by decide)) (fun _ => ?_)
    refine lv_aload_n hx hb d_X_context_232 rfl (lv_at hl 1 rfl) ?_
    refine lv_iload_n hx hb d_X_context_233 rfl (lv_at hl 3 rfl) ?_
    refine lv_bipush (v := (15 : Int32)) hx hb d_X_context_234 (by decide) ?_
    refine lv_iand hx hb d_X_context_236 ?_
    refine zz_put (C := R_X) (T := F_X) (N := 27) (w' := [oX yX yM yD yA yO yL yH yI (upd ((s_X_keepL v_x v_M v_d v_a v_o v_lo v_hi v_ri).2.1) 4 (a2 &&& (15 : Int32))), ar cI yM 512 ((s_X_keepL v_x v_M v_d v_a v_o v_lo v_hi v_ri).2.2.1), ar cI yD 8 v_d, ar cI yA 8 v_a, ar cI yO 4 ((s_X_keepL v_x v_M v_d v_a v_o v_lo v_hi v_ri).2.2.2), ar cI yL 6 v_lo, ar cI yH 6 v_hi, ar cI yI 6 v_ri]) hx hb hts in_X ty_X ty_X_ok n_X hown hK hP hD hS 0 rfl rfl 8 (by decide) mw_75 rfl rfl rfl (Nat.le_of_ble_eq_true rfl) d_X_context_237 rfl (fun H locs hP hD hS => ?_)
    refine lv_aload_n hx hb d_X_context_240 rfl (lv_at hl 1 rfl) ?_
    refine lv_iconst (v := (1 : Int32)) hx hb d_X_context_241 (by decide) ?_
    refine zz_put (C := R_X) (T := F_X) (N := 27) (w' := [oX yX yM yD yA yO yL yH yI (upd (upd ((s_X_keepL v_x v_M v_d v_a v_o v_lo v_hi v_ri).2.1) 4 (a2 &&& (15 : Int32))) 5 (1 : Int32)), ar cI yM 512 ((s_X_keepL v_x v_M v_d v_a v_o v_lo v_hi v_ri).2.2.1), ar cI yD 8 v_d, ar cI yA 8 v_a, ar cI yO 4 ((s_X_keepL v_x v_M v_d v_a v_o v_lo v_hi v_ri).2.2.2), ar cI yL 6 v_lo, ar cI yH 6 v_hi, ar cI yI 6 v_ri]) hx hb hts in_X ty_X ty_X_ok n_X hown hK hP hD hS 0 rfl rfl 9 (by decide) mw_76 rfl rfl rfl (Nat.le_of_ble_eq_true rfl) d_X_context_242 rfl (fun H locs hP hD hS => ?_)
    refine lv_iload_n hx hb d_X_context_245 rfl (lv_at hl 0 rfl) ?_
    refine lv_iconst (v := (1 : Int32)) hx hb d_X_context_246 (by decide) ?_
    refine lv_iadd hx hb d_X_context_247 ?_
    show W p l e _ s m args below meth c _ _ _ _ Q (F0 m 248 ls _)
    have hsp : s_X_context25 v_x v_M v_d v_a v_o v_lo v_hi v_ri a2 = (((v_o (ix (0 : Int32))) + (1 : Int32)), upd (upd ((s_X_keepL v_x v_M v_d v_a v_o v_lo v_hi v_ri).2.1) 4 (a2 &&& (15 : Int32))) 5 (1 : Int32), (s_X_keepL v_x v_M v_d v_a v_o v_lo v_hi v_ri).2.2.1, (s_X_keepL v_x v_M v_d v_a v_o v_lo v_hi v_ri).2.2.2) := (by unfold s_X_context25; rw [if_neg h1])
    rw [hsp] at hE
    exact hE _ _ _ _ hP hD hS d_X_context_248
set_option maxHeartbeats 4000000 in
set_option maxRecDepth 100000 in
theorem k_X_context26 (l : Launch) (D : va_G) (cI : ClassId) (sz : Nat) (yX : Nat) (yM : Nat) (yD : Nat) (yA : Nat) (yO : Nat) (yL : Nat) (yH : Nat) (yI : Nat) (v_x : Nat → Int32) (v_M : Nat → Int32) (v_d : Nat → Int32) (v_a : Nat → Int32) (v_o : Nat → Int32) (v_lo : Nat → Int32) (v_hi : Nat → Int32) (v_ri : Nat → Int32) (a2 : Int32) : zMi l y_X_context (.code y_X_context b_X_context 5 (some .int) :: wd) { frames := 2, cells := 0, slots := 0, locals := 45 } D classes [(cI, .int)] [.ref yX, .int (26 : Int32), .int a2] [oX yX yM yD yA yO yL yH yI v_x, ar cI yM 512 v_M, ar cI yD 8 v_d, ar cI yA 8 v_a, ar cI yO 4 v_o, ar cI yL 6 v_lo, ar cI yH 6 v_hi, ar cI yI 6 v_ri] [oX yX yM yD yA yO yL yH yI ((s_X_context26 v_x v_M v_d v_a v_o v_lo v_hi v_ri a2).2.1), ar cI yM 512 ((s_X_context26 v_x v_M v_d v_a v_o v_lo v_hi v_ri a2).2.2.1), ar cI yD 8 ((s_X_context26 v_x v_M v_d v_a v_o v_lo v_hi v_ri a2).2.2.2.1), ar cI yA 8 ((s_X_context26 v_x v_M v_d v_a v_o v_lo v_hi v_ri a2).2.2.2.2.1), ar cI yO 4 ((s_X_context26 v_x v_M v_d v_a v_o v_lo v_hi v_ri a2).2.2.2.2.2), ar cI yL 6 v_lo, ar cI yH 6 v_hi, ar cI yI 6 v_ri] sz (s_X_context26 v_x v_M v_d v_a v_o v_lo v_hi v_ri a2).1 := by
  refine met_i (by decide) (Nat.le_of_ble_eq_true rfl) rfl ?_
  intro p e s m args below meth c A Q ls hx hb hml hown hts hK hP hD hS hA hl hE
  have hl : lv_has ls 5 [(0, .ref yX), (1, .int (26 : Int32)), (2, .int a2)] := hl
  have hown : s.vm.findClass R_X = some m.cls := hown
  refine lv_aload_n hx hb d_X_context_0 rfl (lv_at hl 0 rfl) ?_
  refine zz_get (C := R_X) (T := F_X) (N := 27) (v := .ref yO) hx hb hts in_X hown hK hP 0 rfl rfl 4 (by decide) mw_68 rfl d_X_context_1 ?_
  refine lv_iconst (v := (0 : Int32)) hx hb d_X_context_4 (by decide) ?_
  refine va_iald hx hb hK hP 4 0 rfl rfl (zz_inc (by decide)) d_X_context_5 ?_
  refine lv_istore_n (lv' := [(3, .int (v_o (ix (0 : Int32)))), (0, .ref yX), (1, .int (26 : Int32)), (2, .int a2)]) hx hb d_X_context_6 rfl hl (by decide) rfl (fun ls hl => ?_)
  refine lv_iload_n hx hb d_X_context_7 rfl (lv_at hl 2 rfl) ?_
  refine lv_bipush (v := (21 : Int32)) hx hb d_X_context_8 (by decide) ?_
  refine lv_icmp_ne (tgt := 22) hx hb d_X_context_10 (by decide) (fun _ => ?_) (fun hh => absurd hh (by decide))
  refine lv_iload_n hx hb d_X_context_22 rfl (lv_at hl 2 rfl) ?_
  refine lv_bipush (v := (22 : Int32)) hx hb d_X_context_23 (by decide) ?_
  refine lv_icmp_ne (tgt := 57) hx hb d_X_context_25 (by decide) (fun _ => ?_) (fun hh => absurd hh (by decide))
  refine lv_iload_n hx hb d_X_context_57 rfl (lv_at hl 2 rfl) ?_
  refine lv_bipush (v := (21 : Int32)) hx hb d_X_context_58 (by decide) ?_
  refine lv_icmp_ne (tgt := 95) hx hb d_X_context_60 (by decide) (fun _ => ?_) (fun hh => absurd hh (by decide))
  refine lv_iload_n hx hb d_X_context_95 rfl (lv_at hl 2 rfl) ?_
  refine lv_bipush (v := (22 : Int32)) hx hb d_X_context_96 (by decide) ?_
  refine lv_icmp_eq (tgt := 107) hx hb d_X_context_98 (by decide) (fun hh => absurd hh (by decide)) (fun _ => ?_)
  refine lv_iload_n hx hb d_X_context_101 rfl (lv_at hl 2 rfl) ?_
  refine lv_bipush (v := (26 : Int32)) hx hb d_X_context_102 (by decide) ?_
  refine lv_icmp_ne (tgt := 196) hx hb d_X_context_104 (by decide) (fun hh => absurd hh (by decide)) (fun _ => ?_)
  refine lv_aload_n hx hb d_X_context_107 rfl (lv_at hl 1 rfl) ?_
  refine lv_iconst (v := (1 : Int32)) hx hb d_X_context_108 (by decide) ?_
  refine zz_cVi (rest := []) (wr := []) (w' := [oX yX yM yD yA yO yL yH yI ((s_X_canBringU v_x v_M v_d v_a v_o v_lo v_hi v_ri).2), ar cI yM 512 v_M, ar cI yD 8 v_d, ar cI yA 8 v_a, ar cI yO 4 v_o, ar cI yL 6 v_lo, ar cI yH 6 v_hi, ar cI yI 6 v_ri]) ⟨hx, hb, hml, hown, hts⟩ (k_X_canBringU l D cI _ yX yM yD yA yO yL yH yI v_x v_M v_d v_a v_o v_lo v_hi v_ri) g_X_context_X_canBring_104 nv_X_canBring ⟨⟨rfl, rfl⟩, Nat.le_of_ble_eq_true rfl, Nat.le_of_ble_eq_true rfl⟩ hK [0] rfl hP hD hS hA [0, 1, 2, 3, 4, 5, 6, 7] [] [0, 1, 2, 3, 4, 5, 6, 7] rfl rfl rfl rfl (by decide) rfl rfl 0 6 rfl rfl rfl rfl hl.1 (Nat.le_of_ble_eq_true rfl) d_X_context_109 ⟨Nat.zero_le _, Nat.zero_le _⟩ (fun H locs hP hD hS => ?_)
  refine lv_if_eq (tgt := 245) hx hb d_X_context_112 (by decide) (fun h1 => ?_) (fun h1 => ?_)
  ·
    refine lv_iload_n hx hb d_X_context_245 rfl (lv_at hl 0 rfl) ?_
    refine lv_iconst (v := (1 : Int32)) hx hb d_X_context_246 (by decide) ?_
    refine lv_iadd hx hb d_X_context_247 ?_
    have hsp : s_X_context26 v_x v_M v_d v_a v_o v_lo v_hi v_ri a2 = (((v_o (ix (0 : Int32))) + (1 : Int32)), (s_X_canBringU v_x v_M v_d v_a v_o v_lo v_hi v_ri).2, v_M, v_d, v_a, v_o) := (by unfold s_X_context26; rw [if_pos h1])
    rw [hsp] at hE
    exact hE _ _ _ _ hP hD hS d_X_context_248
  ·
    refine lv_aload_n hx hb d_X_context_115 rfl (lv_at hl 1 rfl) ?_
    refine zz_get (C := R_X) (T := F_X) (N := 27) (v := .ref yA) hx hb hts in_X hown hK hP 0 rfl rfl 3 (by decide) mw_73 rfl d_X_context_116 ?_
    refine lv_bipush (v := (7 : Int32)) hx hb d_X_context_119 (by decide) ?_
    refine va_iald hx hb hK hP 3 0 rfl rfl (zz_inc (by decide)) d_X_context_121 ?_
    refine lv_istore (lv' := [(4, .int (v_a (ix (7 : Int32)))), (3, .int (v_o (ix (0 : Int32)))), (0, .ref yX), (1, .int (26 : Int32)), (2, .int a2)]) hx hb d_X_context_122 hl (by decide) rfl (fun ls hl => ?_)
    refine lv_aload_n hx hb d_X_context_124 rfl (lv_at hl 2 rfl) ?_
    refine lv_iload_n hx hb d_X_context_125 rfl (lv_at hl 3 rfl) ?_
    refine lv_bipush (v := (26 : Int32)) hx hb d_X_context_126 (by decide) ?_
    refine lv_icmp_ne (tgt := 146) hx hb d_X_context_128 (by decide) (fun hh => absurd hh (by decide)) (fun _ => ?_)
    refine lv_aload_n hx hb d_X_context_131 rfl (lv_at hl 2 rfl) ?_
    refine zz_get (C := R_X) (T := F_X) (N := 27) (v := .ref yO) hx hb hts in_X hown hK hP 0 rfl rfl 4 (by decide) mw_68 rfl d_X_context_132 ?_
    refine lv_iconst (v := (3 : Int32)) hx hb d_X_context_135 (by decide) ?_
    refine va_iald hx hb hK hP 4 0 rfl rfl (zz_inc (by decide)) d_X_context_136 ?_
    refine lv_bipush (v := (8 : Int32)) hx hb d_X_context_137 (by decide) ?_
    refine lv_ishr hx hb d_X_context_139 ?_
    refine lv_bipush (v := (15 : Int32)) hx hb d_X_context_140 (by decide) ?_
    refine lv_iand hx hb d_X_context_142 ?_
    refine lv_goto (tgt := 150) hx hb d_X_context_143 (by decide) ?_
    refine zz_put (C := R_X) (T := F_X) (N := 27) (w' := [oX yX yM yD yA yO yL yH yI (upd ((s_X_canBringU v_x v_M v_d v_a v_o v_lo v_hi v_ri).2) 4 (((v_o (ix (3 : Int32))) >>> ((8 : Int32) &&& 31)) &&& (15 : Int32))), ar cI yM 512 v_M, ar cI yD 8 v_d, ar cI yA 8 v_a, ar cI yO 4 v_o, ar cI yL 6 v_lo, ar cI yH 6 v_hi, ar cI yI 6 v_ri]) hx hb hts in_X ty_X ty_X_ok n_X hown hK hP hD hS 0 rfl rfl 8 (by decide) mw_75 rfl rfl rfl (Nat.le_of_ble_eq_true rfl) d_X_context_150 rfl (fun H locs hP hD hS => ?_)
    refine lv_aload_n hx hb d_X_context_153 rfl (lv_at hl 2 rfl) ?_
    show W p l e _ s m args below meth c _ _ _ _ Q (F0 m 154 ls _)
    refine lv_iload_n hx hb d_X_context_154 rfl (lv_at hl 3 rfl) ?_
    refine lv_bipush (v := (26 : Int32)) hx hb d_X_context_155 (by decide) ?_
    refine lv_icmp_ne (tgt := 181) hx hb d_X_context_157 (by decide) (fun hh => absurd hh (by decide)) (fun _ => ?_)
    refine lv_aload_n hx hb d_X_context_160 rfl (lv_at hl 2 rfl) ?_
    refine zz_get (C := R_X) (T := F_X) (N := 27) (v := .ref yO) hx hb hts in_X hown hK hP 0 rfl rfl 4 (by decide) mw_68 rfl d_X_context_161 ?_
    refine lv_iconst (v := (3 : Int32)) hx hb d_X_context_164 (by decide) ?_
    refine va_iald hx hb hK hP 4 0 rfl rfl (zz_inc (by decide)) d_X_context_165 ?_
    refine lv_sipush (v := (4096 : Int32)) hx hb d_X_context_166 (by decide) ?_
    refine lv_iand hx hb d_X_context_169 ?_
    have J170_2 : ∀ (vj170_0 : Int32) (ls : Array Slot) (H : Heap) (locs : List Loc), vj170_0 = (if ((v_o (ix (3 : Int32))) &&& (4096 : Int32)) = 0 then (0 : Int32) else (1 : Int32)) → lv_has ls 5 [(4, .int (v_a (ix (7 : Int32)))), (3, .int (v_o (ix (0 : Int32)))), (0, .ref yX), (1, .int (26 : Int32)), (2, .int a2)] → va_P D classes [oX yX yM yD yA yO yL yH yI (upd ((s_X_canBringU v_x v_M v_d v_a v_o v_lo v_hi v_ri).2) 4 (((v_o (ix (3 : Int32))) >>> ((8 : Int32) &&& 31)) &&& (15 : Int32))), ar cI yM 512 v_M, ar cI yD 8 v_d, ar cI yA 8 v_a, ar cI yO 4 v_o, ar cI yL 6 v_lo, ar cI yH 6 v_hi, ar cI yI 6 v_ri] H → va_D A [oX yX yM yD yA yO yL yH yI (upd ((s_X_canBringU v_x v_M v_d v_a v_o v_lo v_hi v_ri).2) 4 (((v_o (ix (3 : Int32))) >>> ((8 : Int32) &&& 31)) &&& (15 : Int32))), ar cI yM 512 v_M, ar cI yD 8 v_d, ar cI yA 8 v_a, ar cI yO 4 v_o, ar cI yL 6 v_lo, ar cI yH 6 v_hi, ar cI yI 6 v_ri] → va_S A s.heap H locs → W p l e { frames := 2, cells := 0, slots := 0, locals := 45 } s m args below meth c H locs 0 0 Q (F0 m 185 ls [.int vj170_0, .ref yX]) := by
      intro vj170_0 ls H locs evj170_0 hl hP hD hS
      subst evj170_0
      refine zz_put (C := R_X) (T := F_X) (N := 27) (w' := [oX yX yM yD yA yO yL yH yI (upd (upd ((s_X_canBringU v_x v_M v_d v_a v_o v_lo v_hi v_ri).2) 4 (((v_o (ix (3 : Int32))) >>> ((8 : Int32) &&& 31)) &&& (15 : Int32))) 5 (if ((v_o (ix (3 : Int32))) &&& (4096 : Int32)) = 0 then (0 : Int32) else (1 : Int32))), ar cI yM 512 v_M, ar cI yD 8 v_d, ar cI yA 8 v_a, ar cI yO 4 v_o, ar cI yL 6 v_lo, ar cI yH 6 v_hi, ar cI yI 6 v_ri]) hx hb hts in_X ty_X ty_X_ok n_X hown hK hP hD hS 0 rfl rfl 9 (by decide) mw_76 rfl (zz_nar zz_ite2) (zz_fit zz_ite2) (Nat.le_of_ble_eq_true rfl) d_X_context_185 rfl (fun H locs hP hD hS => ?_)
      refine lv_aload_n hx hb d_X_context_188 rfl (lv_at hl 2 rfl) ?_
      refine lv_iconst (v := (1 : Int32)) hx hb d_X_context_189 (by decide) ?_
      refine zz_cVv (rest := []) (wr := []) (w' := [oX yX yM yD yA yO yL yH yI ((s_X_bringU (upd (upd ((s_X_canBringU v_x v_M v_d v_a v_o v_lo v_hi v_ri).2) 4 (((v_o (ix (3 : Int32))) >>> ((8 : Int32) &&& 31)) &&& (15 : Int32))) 5 (if ((v_o (ix (3 : Int32))) &&& (4096 : Int32)) = 0 then (0 : Int32) else (1 : Int32))) v_M v_d v_a v_o v_lo v_hi v_ri).1), ar cI yM 512 ((s_X_bringU (upd (upd ((s_X_canBringU v_x v_M v_d v_a v_o v_lo v_hi v_ri).2) 4 (((v_o (ix (3 : Int32))) >>> ((8 : Int32) &&& 31)) &&& (15 : Int32))) 5 (if ((v_o (ix (3 : Int32))) &&& (4096 : Int32)) = 0 then (0 : Int32) else (1 : Int32))) v_M v_d v_a v_o v_lo v_hi v_ri).2.1), ar cI yD 8 ((s_X_bringU (upd (upd ((s_X_canBringU v_x v_M v_d v_a v_o v_lo v_hi v_ri).2) 4 (((v_o (ix (3 : Int32))) >>> ((8 : Int32) &&& 31)) &&& (15 : Int32))) 5 (if ((v_o (ix (3 : Int32))) &&& (4096 : Int32)) = 0 then (0 : Int32) else (1 : Int32))) v_M v_d v_a v_o v_lo v_hi v_ri).2.2.1), ar cI yA 8 ((s_X_bringU (upd (upd ((s_X_canBringU v_x v_M v_d v_a v_o v_lo v_hi v_ri).2) 4 (((v_o (ix (3 : Int32))) >>> ((8 : Int32) &&& 31)) &&& (15 : Int32))) 5 (if ((v_o (ix (3 : Int32))) &&& (4096 : Int32)) = 0 then (0 : Int32) else (1 : Int32))) v_M v_d v_a v_o v_lo v_hi v_ri).2.2.2.1), ar cI yO 4 ((s_X_bringU (upd (upd ((s_X_canBringU v_x v_M v_d v_a v_o v_lo v_hi v_ri).2) 4 (((v_o (ix (3 : Int32))) >>> ((8 : Int32) &&& 31)) &&& (15 : Int32))) 5 (if ((v_o (ix (3 : Int32))) &&& (4096 : Int32)) = 0 then (0 : Int32) else (1 : Int32))) v_M v_d v_a v_o v_lo v_hi v_ri).2.2.2.2), ar cI yL 6 v_lo, ar cI yH 6 v_hi, ar cI yI 6 v_ri]) ⟨hx, hb, hml, hown, hts⟩ (k_X_bringU l D cI _ yX yM yD yA yO yL yH yI (upd (upd ((s_X_canBringU v_x v_M v_d v_a v_o v_lo v_hi v_ri).2) 4 (((v_o (ix (3 : Int32))) >>> ((8 : Int32) &&& 31)) &&& (15 : Int32))) 5 (if ((v_o (ix (3 : Int32))) &&& (4096 : Int32)) = 0 then (0 : Int32) else (1 : Int32))) v_M v_d v_a v_o v_lo v_hi v_ri (can_areaU h1)) g_X_context_X_bring_107 nv_X_bring ⟨⟨rfl, rfl⟩, Nat.le_of_ble_eq_true rfl, Nat.le_of_ble_eq_true rfl⟩ hK [0] rfl hP hD hS hA [0, 1, 2, 3, 4, 5, 6, 7] [] [0, 1, 2, 3, 4, 5, 6, 7] rfl rfl rfl rfl (by decide) rfl rfl 0 6 rfl rfl rfl rfl hl.1 (Nat.le_of_ble_eq_true rfl) d_X_context_190 ⟨Nat.zero_le _, Nat.zero_le _⟩ (fun H locs hP hD hS => ?_)
      refine lv_iload hx hb d_X_context_193 (lv_at hl 0 rfl) ?_
      have hsp : s_X_context26 v_x v_M v_d v_a v_o v_lo v_hi v_ri a2 = ((v_a (ix (7 : Int32))), (s_X_bringU (upd (upd ((s_X_canBringU v_x v_M v_d v_a v_o v_lo v_hi v_ri).2) 4 (((v_o (ix (3 : Int32))) >>> ((8 : Int32) &&& 31)) &&& (15 : Int32))) 5 (if ((v_o (ix (3 : Int32))) &&& (4096 : Int32)) = 0 then (0 : Int32) else (1 : Int32))) v_M v_d v_a v_o v_lo v_hi v_ri).1, (s_X_bringU (upd (upd ((s_X_canBringU v_x v_M v_d v_a v_o v_lo v_hi v_ri).2) 4 (((v_o (ix (3 : Int32))) >>> ((8 : Int32) &&& 31)) &&& (15 : Int32))) 5 (if ((v_o (ix (3 : Int32))) &&& (4096 : Int32)) = 0 then (0 : Int32) else (1 : Int32))) v_M v_d v_a v_o v_lo v_hi v_ri).2.1, (s_X_bringU (upd (upd ((s_X_canBringU v_x v_M v_d v_a v_o v_lo v_hi v_ri).2) 4 (((v_o (ix (3 : Int32))) >>> ((8 : Int32) &&& 31)) &&& (15 : Int32))) 5 (if ((v_o (ix (3 : Int32))) &&& (4096 : Int32)) = 0 then (0 : Int32) else (1 : Int32))) v_M v_d v_a v_o v_lo v_hi v_ri).2.2.1, (s_X_bringU (upd (upd ((s_X_canBringU v_x v_M v_d v_a v_o v_lo v_hi v_ri).2) 4 (((v_o (ix (3 : Int32))) >>> ((8 : Int32) &&& 31)) &&& (15 : Int32))) 5 (if ((v_o (ix (3 : Int32))) &&& (4096 : Int32)) = 0 then (0 : Int32) else (1 : Int32))) v_M v_d v_a v_o v_lo v_hi v_ri).2.2.2.1, (s_X_bringU (upd (upd ((s_X_canBringU v_x v_M v_d v_a v_o v_lo v_hi v_ri).2) 4 (((v_o (ix (3 : Int32))) >>> ((8 : Int32) &&& 31)) &&& (15 : Int32))) 5 (if ((v_o (ix (3 : Int32))) &&& (4096 : Int32)) = 0 then (0 : Int32) else (1 : Int32))) v_M v_d v_a v_o v_lo v_hi v_ri).2.2.2.2) := (by unfold s_X_context26; rw [if_neg h1])
      rw [hsp] at hE
      exact hE _ _ _ _ hP hD hS d_X_context_195
    refine lv_if_eq (tgt := 177) hx hb d_X_context_170 (by decide) (fun h2 => ?_) (fun h2 => ?_)
    ·
      refine lv_iconst (v := (0 : Int32)) hx hb d_X_context_177 (by decide) ?_
      refine lv_goto (tgt := 185) hx hb d_X_context_178 (by decide) ?_
      exact J170_2 (0 : Int32) _ _ _ (by rw [if_pos h2]) (lv_sub hl [0, 1, 2, 3, 4] rfl) hP hD hS
    ·
      refine lv_iconst (v := (1 : Int32)) hx hb d_X_context_173 (by decide) ?_
      refine lv_goto (tgt := 185) hx hb d_X_context_174 (by decide) ?_
      exact J170_2 (1 : Int32) _ _ _ (by rw [if_neg h2]) (lv_sub hl [0, 1, 2, 3, 4] rfl) hP hD hS
set_option maxHeartbeats 4000000 in
set_option maxRecDepth 100000 in
theorem k_X_system0 (l : Launch) (D : va_G) (cI : ClassId) (sz : Nat) (yX : Nat) (yM : Nat) (yD : Nat) (yA : Nat) (yO : Nat) (yL : Nat) (yH : Nat) (yI : Nat) (v_x : Nat → Int32) (v_M : Nat → Int32) (v_d : Nat → Int32) (v_a : Nat → Int32) (v_o : Nat → Int32) (v_lo : Nat → Int32) (v_hi : Nat → Int32) (v_ri : Nat → Int32) (a2 : Int32) : zMv l y_X_system (.code y_X_system b_X_system 3 (none) :: wd) { frames := 0, cells := 0, slots := 0, locals := 0 } D classes [(cI, .int)] [.ref yX, .int (0 : Int32), .int a2] [oX yX yM yD yA yO yL yH yI v_x, ar cI yM 512 v_M, ar cI yD 8 v_d, ar cI yA 8 v_a, ar cI yO 4 v_o, ar cI yL 6 v_lo, ar cI yH 6 v_hi, ar cI yI 6 v_ri] [oX yX yM yD yA yO yL yH yI (s_X_system0 v_x v_M v_d v_a v_o v_lo v_hi v_ri a2), ar cI yM 512 v_M, ar cI yD 8 v_d, ar cI yA 8 v_a, ar cI yO 4 v_o, ar cI yL 6 v_lo, ar cI yH 6 v_hi, ar cI yI 6 v_ri] sz := by
  refine met_v (by decide) (Nat.le_of_ble_eq_true rfl) ?_
  intro p e s m args below meth c A Q ls hx hb hml hown hts hK hP hD hS hA hl hE
  have hl : lv_has ls 3 [(0, .ref yX), (1, .int (0 : Int32)), (2, .int a2)] := hl
  have hown : s.vm.findClass R_X = some m.cls := hown
  refine lv_iload_n hx hb d_X_system_0 rfl (lv_at hl 1 rfl) ?_
  refine lv_bipush (v := (27 : Int32)) hx hb d_X_system_1 (by decide) ?_
  refine lv_icmp_ne (tgt := 22) hx hb d_X_system_3 (by decide) (fun _ => ?_) (fun hh => absurd hh (by decide))
  refine lv_iload_n hx hb d_X_system_22 rfl (lv_at hl 1 rfl) ?_
  refine lv_bipush (v := (28 : Int32)) hx hb d_X_system_23 (by decide) ?_
  refine lv_icmp_ne (tgt := 47) hx hb d_X_system_25 (by decide) (fun _ => ?_) (fun hh => absurd hh (by decide))
  refine lv_iload_n hx hb d_X_system_47 rfl (lv_at hl 1 rfl) ?_
  refine lv_bipush (v := (29 : Int32)) hx hb d_X_system_48 (by decide) ?_
  refine lv_icmp_ne (tgt := 63) hx hb d_X_system_50 (by decide) (fun _ => ?_) (fun hh => absurd hh (by decide))
  refine lv_iload_n hx hb d_X_system_63 rfl (lv_at hl 1 rfl) ?_
  refine lv_bipush (v := (30 : Int32)) hx hb d_X_system_64 (by decide) ?_
  refine lv_icmp_ne (tgt := 79) hx hb d_X_system_66 (by decide) (fun _ => ?_) (fun hh => absurd hh (by decide))
  refine lv_iload_n hx hb d_X_system_79 rfl (lv_at hl 1 rfl) ?_
  refine lv_bipush (v := (31 : Int32)) hx hb d_X_system_80 (by decide) ?_
  refine lv_icmp_ne (tgt := 93) hx hb d_X_system_82 (by decide) (fun _ => ?_) (fun hh => absurd hh (by decide))
  refine lv_aload_n hx hb d_X_system_93 rfl (lv_at hl 0 rfl) ?_
  refine lv_sipush (v := (513 : Int32)) hx hb d_X_system_94 (by decide) ?_
  refine zz_put (C := R_X) (T := F_X) (N := 27) (w' := [oX yX yM yD yA yO yL yH yI (upd v_x 19 (513 : Int32)), ar cI yM 512 v_M, ar cI yD 8 v_d, ar cI yA 8 v_a, ar cI yO 4 v_o, ar cI yL 6 v_lo, ar cI yH 6 v_hi, ar cI yI 6 v_ri]) hx hb hts in_X ty_X ty_X_ok n_X hown hK hP hD hS 0 rfl rfl 26 (by decide) mw_79 rfl rfl rfl (Nat.le_of_ble_eq_true rfl) d_X_system_97 rfl (fun H locs hP hD hS => ?_)
  have hsp : s_X_system0 v_x v_M v_d v_a v_o v_lo v_hi v_ri a2 = (upd v_x 19 (513 : Int32)) := rfl
  rw [hsp] at hE
  exact hE _ _ _ _ hP hD hS d_X_system_100
set_option maxHeartbeats 4000000 in
set_option maxRecDepth 100000 in
theorem k_X_system27 (l : Launch) (D : va_G) (cI : ClassId) (sz : Nat) (yX : Nat) (yM : Nat) (yD : Nat) (yA : Nat) (yO : Nat) (yL : Nat) (yH : Nat) (yI : Nat) (v_x : Nat → Int32) (v_M : Nat → Int32) (v_d : Nat → Int32) (v_a : Nat → Int32) (v_o : Nat → Int32) (v_lo : Nat → Int32) (v_hi : Nat → Int32) (v_ri : Nat → Int32) (a2 : Int32) : zMv l y_X_system (.code y_X_system b_X_system 3 (none) :: wd) { frames := 0, cells := 0, slots := 0, locals := 0 } D classes [(cI, .int)] [.ref yX, .int (27 : Int32), .int a2] [oX yX yM yD yA yO yL yH yI v_x, ar cI yM 512 v_M, ar cI yD 8 v_d, ar cI yA 8 v_a, ar cI yO 4 v_o, ar cI yL 6 v_lo, ar cI yH 6 v_hi, ar cI yI 6 v_ri] [oX yX yM yD yA yO yL yH yI (s_X_system27 v_x v_M v_d v_a v_o v_lo v_hi v_ri a2), ar cI yM 512 v_M, ar cI yD 8 v_d, ar cI yA 8 v_a, ar cI yO 4 v_o, ar cI yL 6 v_lo, ar cI yH 6 v_hi, ar cI yI 6 v_ri] sz := by
  refine met_v (by decide) (Nat.le_of_ble_eq_true rfl) ?_
  intro p e s m args below meth c A Q ls hx hb hml hown hts hK hP hD hS hA hl hE
  have hl : lv_has ls 3 [(0, .ref yX), (1, .int (27 : Int32)), (2, .int a2)] := hl
  have hown : s.vm.findClass R_X = some m.cls := hown
  refine lv_iload_n hx hb d_X_system_0 rfl (lv_at hl 1 rfl) ?_
  refine lv_bipush (v := (27 : Int32)) hx hb d_X_system_1 (by decide) ?_
  refine lv_icmp_ne (tgt := 22) hx hb d_X_system_3 (by decide) (fun hh => absurd hh (by decide)) (fun _ => ?_)
  refine lv_aload_n hx hb d_X_system_6 rfl (lv_at hl 0 rfl) ?_
  refine lv_sipush (v := (1536 : Int32)) hx hb d_X_system_7 (by decide) ?_
  refine lv_iload_n hx hb d_X_system_10 rfl (lv_at hl 2 rfl) ?_
  refine lv_sipush (v := (255 : Int32)) hx hb d_X_system_11 (by decide) ?_
  refine lv_iand hx hb d_X_system_14 ?_
  refine lv_iadd hx hb d_X_system_15 ?_
  refine zz_put (C := R_X) (T := F_X) (N := 27) (w' := [oX yX yM yD yA yO yL yH yI (upd v_x 19 ((1536 : Int32) + (a2 &&& (255 : Int32)))), ar cI yM 512 v_M, ar cI yD 8 v_d, ar cI yA 8 v_a, ar cI yO 4 v_o, ar cI yL 6 v_lo, ar cI yH 6 v_hi, ar cI yI 6 v_ri]) hx hb hts in_X ty_X ty_X_ok n_X hown hK hP hD hS 0 rfl rfl 26 (by decide) mw_79 rfl rfl rfl (Nat.le_of_ble_eq_true rfl) d_X_system_16 rfl (fun H locs hP hD hS => ?_)
  refine lv_goto (tgt := 100) hx hb d_X_system_19 (by decide) ?_
  have hsp : s_X_system27 v_x v_M v_d v_a v_o v_lo v_hi v_ri a2 = (upd v_x 19 ((1536 : Int32) + (a2 &&& (255 : Int32)))) := rfl
  rw [hsp] at hE
  exact hE _ _ _ _ hP hD hS d_X_system_100
set_option maxHeartbeats 4000000 in
set_option maxRecDepth 100000 in
theorem k_X_system28 (l : Launch) (D : va_G) (cI : ClassId) (sz : Nat) (yX : Nat) (yM : Nat) (yD : Nat) (yA : Nat) (yO : Nat) (yL : Nat) (yH : Nat) (yI : Nat) (v_x : Nat → Int32) (v_M : Nat → Int32) (v_d : Nat → Int32) (v_a : Nat → Int32) (v_o : Nat → Int32) (v_lo : Nat → Int32) (v_hi : Nat → Int32) (v_ri : Nat → Int32) (a2 : Int32) : zMv l y_X_system (.code y_X_system b_X_system 3 (none) :: wd) { frames := 0, cells := 0, slots := 0, locals := 0 } D classes [(cI, .int)] [.ref yX, .int (28 : Int32), .int a2] [oX yX yM yD yA yO yL yH yI v_x, ar cI yM 512 v_M, ar cI yD 8 v_d, ar cI yA 8 v_a, ar cI yO 4 v_o, ar cI yL 6 v_lo, ar cI yH 6 v_hi, ar cI yI 6 v_ri] [oX yX yM yD yA yO yL yH yI (s_X_system28 v_x v_M v_d v_a v_o v_lo v_hi v_ri a2), ar cI yM 512 v_M, ar cI yD 8 v_d, ar cI yA 8 v_a, ar cI yO 4 v_o, ar cI yL 6 v_lo, ar cI yH 6 v_hi, ar cI yI 6 v_ri] sz := by
  refine met_v (by decide) (Nat.le_of_ble_eq_true rfl) ?_
  intro p e s m args below meth c A Q ls hx hb hml hown hts hK hP hD hS hA hl hE
  have hl : lv_has ls 3 [(0, .ref yX), (1, .int (28 : Int32)), (2, .int a2)] := hl
  have hown : s.vm.findClass R_X = some m.cls := hown
  refine lv_iload_n hx hb d_X_system_0 rfl (lv_at hl 1 rfl) ?_
  refine lv_bipush (v := (27 : Int32)) hx hb d_X_system_1 (by decide) ?_
  refine lv_icmp_ne (tgt := 22) hx hb d_X_system_3 (by decide) (fun _ => ?_) (fun hh => absurd hh (by decide))
  refine lv_iload_n hx hb d_X_system_22 rfl (lv_at hl 1 rfl) ?_
  refine lv_bipush (v := (28 : Int32)) hx hb d_X_system_23 (by decide) ?_
  refine lv_icmp_ne (tgt := 47) hx hb d_X_system_25 (by decide) (fun hh => absurd hh (by decide)) (fun _ => ?_)
  refine lv_aload_n hx hb d_X_system_28 rfl (lv_at hl 0 rfl) ?_
  refine lv_iload_n hx hb d_X_system_29 rfl (lv_at hl 2 rfl) ?_
  refine lv_iconst (v := (1 : Int32)) hx hb d_X_system_30 (by decide) ?_
  refine lv_iand hx hb d_X_system_31 ?_
  refine lv_iconst (v := (1 : Int32)) hx hb d_X_system_32 (by decide) ?_
  refine lv_icmp_ne (tgt := 40) hx hb d_X_system_33 (by decide) (fun h1 => ?_) (fun h1 => ?_)
  ·
    refine lv_iconst (v := (0 : Int32)) hx hb d_X_system_40 (by decide) ?_
    refine zz_put (C := R_X) (T := F_X) (N := 27) (w' := [oX yX yM yD yA yO yL yH yI (upd v_x 5 (0 : Int32)), ar cI yM 512 v_M, ar cI yD 8 v_d, ar cI yA 8 v_a, ar cI yO 4 v_o, ar cI yL 6 v_lo, ar cI yH 6 v_hi, ar cI yI 6 v_ri]) hx hb hts in_X ty_X ty_X_ok n_X hown hK hP hD hS 0 rfl rfl 9 (by decide) mw_76 rfl rfl rfl (Nat.le_of_ble_eq_true rfl) d_X_system_41 rfl (fun H locs hP hD hS => ?_)
    refine lv_goto (tgt := 100) hx hb d_X_system_44 (by decide) ?_
    have hsp : s_X_system28 v_x v_M v_d v_a v_o v_lo v_hi v_ri a2 = (upd v_x 5 (0 : Int32)) := (by unfold s_X_system28; rw [if_neg h1])
    rw [hsp] at hE
    exact hE _ _ _ _ hP hD hS d_X_system_100
  ·
    refine lv_iconst (v := (1 : Int32)) hx hb d_X_system_36 (by decide) ?_
    refine lv_goto (tgt := 41) hx hb d_X_system_37 (by decide) ?_
    refine zz_put (C := R_X) (T := F_X) (N := 27) (w' := [oX yX yM yD yA yO yL yH yI (upd v_x 5 (1 : Int32)), ar cI yM 512 v_M, ar cI yD 8 v_d, ar cI yA 8 v_a, ar cI yO 4 v_o, ar cI yL 6 v_lo, ar cI yH 6 v_hi, ar cI yI 6 v_ri]) hx hb hts in_X ty_X ty_X_ok n_X hown hK hP hD hS 0 rfl rfl 9 (by decide) mw_76 rfl rfl rfl (Nat.le_of_ble_eq_true rfl) d_X_system_41 rfl (fun H locs hP hD hS => ?_)
    refine lv_goto (tgt := 100) hx hb d_X_system_44 (by decide) ?_
    have hsp : s_X_system28 v_x v_M v_d v_a v_o v_lo v_hi v_ri a2 = (upd v_x 5 (1 : Int32)) := (by unfold s_X_system28; rw [if_pos h1])
    rw [hsp] at hE
    exact hE _ _ _ _ hP hD hS d_X_system_100
set_option maxHeartbeats 4000000 in
set_option maxRecDepth 100000 in
theorem k_X_system29 (l : Launch) (D : va_G) (cI : ClassId) (sz : Nat) (yX : Nat) (yM : Nat) (yD : Nat) (yA : Nat) (yO : Nat) (yL : Nat) (yH : Nat) (yI : Nat) (v_x : Nat → Int32) (v_M : Nat → Int32) (v_d : Nat → Int32) (v_a : Nat → Int32) (v_o : Nat → Int32) (v_lo : Nat → Int32) (v_hi : Nat → Int32) (v_ri : Nat → Int32) (a2 : Int32) : zMv l y_X_system (.code y_X_system b_X_system 3 (none) :: wd) { frames := 0, cells := 0, slots := 0, locals := 0 } D classes [(cI, .int)] [.ref yX, .int (29 : Int32), .int a2] [oX yX yM yD yA yO yL yH yI v_x, ar cI yM 512 v_M, ar cI yD 8 v_d, ar cI yA 8 v_a, ar cI yO 4 v_o, ar cI yL 6 v_lo, ar cI yH 6 v_hi, ar cI yI 6 v_ri] [oX yX yM yD yA yO yL yH yI (s_X_system29 v_x v_M v_d v_a v_o v_lo v_hi v_ri a2), ar cI yM 512 v_M, ar cI yD 8 v_d, ar cI yA 8 v_a, ar cI yO 4 v_o, ar cI yL 6 v_lo, ar cI yH 6 v_hi, ar cI yI 6 v_ri] sz := by
  refine met_v (by decide) (Nat.le_of_ble_eq_true rfl) ?_
  intro p e s m args below meth c A Q ls hx hb hml hown hts hK hP hD hS hA hl hE
  have hl : lv_has ls 3 [(0, .ref yX), (1, .int (29 : Int32)), (2, .int a2)] := hl
  have hown : s.vm.findClass R_X = some m.cls := hown
  refine lv_iload_n hx hb d_X_system_0 rfl (lv_at hl 1 rfl) ?_
  refine lv_bipush (v := (27 : Int32)) hx hb d_X_system_1 (by decide) ?_
  refine lv_icmp_ne (tgt := 22) hx hb d_X_system_3 (by decide) (fun _ => ?_) (fun hh => absurd hh (by decide))
  refine lv_iload_n hx hb d_X_system_22 rfl (lv_at hl 1 rfl) ?_
  refine lv_bipush (v := (28 : Int32)) hx hb d_X_system_23 (by decide) ?_
  refine lv_icmp_ne (tgt := 47) hx hb d_X_system_25 (by decide) (fun _ => ?_) (fun hh => absurd hh (by decide))
  refine lv_iload_n hx hb d_X_system_47 rfl (lv_at hl 1 rfl) ?_
  refine lv_bipush (v := (29 : Int32)) hx hb d_X_system_48 (by decide) ?_
  refine lv_icmp_ne (tgt := 63) hx hb d_X_system_50 (by decide) (fun hh => absurd hh (by decide)) (fun _ => ?_)
  refine lv_aload_n hx hb d_X_system_53 rfl (lv_at hl 0 rfl) ?_
  refine lv_iload_n hx hb d_X_system_54 rfl (lv_at hl 2 rfl) ?_
  refine lv_iconst (v := (1 : Int32)) hx hb d_X_system_55 (by decide) ?_
  refine lv_iand hx hb d_X_system_56 ?_
  refine zz_put (C := R_X) (T := F_X) (N := 27) (w' := [oX yX yM yD yA yO yL yH yI (upd v_x 2 (a2 &&& (1 : Int32))), ar cI yM 512 v_M, ar cI yD 8 v_d, ar cI yA 8 v_a, ar cI yO 4 v_o, ar cI yL 6 v_lo, ar cI yH 6 v_hi, ar cI yI 6 v_ri]) hx hb hts in_X ty_X ty_X_ok n_X hown hK hP hD hS 0 rfl rfl 6 (by decide) mw_71 rfl rfl rfl (Nat.le_of_ble_eq_true rfl) d_X_system_57 rfl (fun H locs hP hD hS => ?_)
  refine lv_goto (tgt := 100) hx hb d_X_system_60 (by decide) ?_
  have hsp : s_X_system29 v_x v_M v_d v_a v_o v_lo v_hi v_ri a2 = (upd v_x 2 (a2 &&& (1 : Int32))) := rfl
  rw [hsp] at hE
  exact hE _ _ _ _ hP hD hS d_X_system_100
set_option maxHeartbeats 4000000 in
set_option maxRecDepth 100000 in
theorem k_X_system30 (l : Launch) (D : va_G) (cI : ClassId) (sz : Nat) (yX : Nat) (yM : Nat) (yD : Nat) (yA : Nat) (yO : Nat) (yL : Nat) (yH : Nat) (yI : Nat) (v_x : Nat → Int32) (v_M : Nat → Int32) (v_d : Nat → Int32) (v_a : Nat → Int32) (v_o : Nat → Int32) (v_lo : Nat → Int32) (v_hi : Nat → Int32) (v_ri : Nat → Int32) (a2 : Int32) : zMv l y_X_system (.code y_X_system b_X_system 3 (none) :: wd) { frames := 0, cells := 0, slots := 0, locals := 0 } D classes [(cI, .int)] [.ref yX, .int (30 : Int32), .int a2] [oX yX yM yD yA yO yL yH yI v_x, ar cI yM 512 v_M, ar cI yD 8 v_d, ar cI yA 8 v_a, ar cI yO 4 v_o, ar cI yL 6 v_lo, ar cI yH 6 v_hi, ar cI yI 6 v_ri] [oX yX yM yD yA yO yL yH yI (s_X_system30 v_x v_M v_d v_a v_o v_lo v_hi v_ri a2), ar cI yM 512 v_M, ar cI yD 8 v_d, ar cI yA 8 v_a, ar cI yO 4 v_o, ar cI yL 6 v_lo, ar cI yH 6 v_hi, ar cI yI 6 v_ri] sz := by
  refine met_v (by decide) (Nat.le_of_ble_eq_true rfl) ?_
  intro p e s m args below meth c A Q ls hx hb hml hown hts hK hP hD hS hA hl hE
  have hl : lv_has ls 3 [(0, .ref yX), (1, .int (30 : Int32)), (2, .int a2)] := hl
  have hown : s.vm.findClass R_X = some m.cls := hown
  refine lv_iload_n hx hb d_X_system_0 rfl (lv_at hl 1 rfl) ?_
  refine lv_bipush (v := (27 : Int32)) hx hb d_X_system_1 (by decide) ?_
  refine lv_icmp_ne (tgt := 22) hx hb d_X_system_3 (by decide) (fun _ => ?_) (fun hh => absurd hh (by decide))
  refine lv_iload_n hx hb d_X_system_22 rfl (lv_at hl 1 rfl) ?_
  refine lv_bipush (v := (28 : Int32)) hx hb d_X_system_23 (by decide) ?_
  refine lv_icmp_ne (tgt := 47) hx hb d_X_system_25 (by decide) (fun _ => ?_) (fun hh => absurd hh (by decide))
  refine lv_iload_n hx hb d_X_system_47 rfl (lv_at hl 1 rfl) ?_
  refine lv_bipush (v := (29 : Int32)) hx hb d_X_system_48 (by decide) ?_
  refine lv_icmp_ne (tgt := 63) hx hb d_X_system_50 (by decide) (fun _ => ?_) (fun hh => absurd hh (by decide))
  refine lv_iload_n hx hb d_X_system_63 rfl (lv_at hl 1 rfl) ?_
  refine lv_bipush (v := (30 : Int32)) hx hb d_X_system_64 (by decide) ?_
  refine lv_icmp_ne (tgt := 79) hx hb d_X_system_66 (by decide) (fun hh => absurd hh (by decide)) (fun _ => ?_)
  refine lv_aload_n hx hb d_X_system_69 rfl (lv_at hl 0 rfl) ?_
  refine lv_iload_n hx hb d_X_system_70 rfl (lv_at hl 2 rfl) ?_
  refine lv_iconst (v := (1 : Int32)) hx hb d_X_system_71 (by decide) ?_
  refine lv_iand hx hb d_X_system_72 ?_
  refine zz_put (C := R_X) (T := F_X) (N := 27) (w' := [oX yX yM yD yA yO yL yH yI (upd v_x 1 (a2 &&& (1 : Int32))), ar cI yM 512 v_M, ar cI yD 8 v_d, ar cI yA 8 v_a, ar cI yO 4 v_o, ar cI yL 6 v_lo, ar cI yH 6 v_hi, ar cI yI 6 v_ri]) hx hb hts in_X ty_X ty_X_ok n_X hown hK hP hD hS 0 rfl rfl 5 (by decide) mw_70 rfl rfl rfl (Nat.le_of_ble_eq_true rfl) d_X_system_73 rfl (fun H locs hP hD hS => ?_)
  refine lv_goto (tgt := 100) hx hb d_X_system_76 (by decide) ?_
  have hsp : s_X_system30 v_x v_M v_d v_a v_o v_lo v_hi v_ri a2 = (upd v_x 1 (a2 &&& (1 : Int32))) := rfl
  rw [hsp] at hE
  exact hE _ _ _ _ hP hD hS d_X_system_100
set_option maxHeartbeats 4000000 in
set_option maxRecDepth 100000 in
theorem k_X_system31 (l : Launch) (D : va_G) (cI : ClassId) (sz : Nat) (yX : Nat) (yM : Nat) (yD : Nat) (yA : Nat) (yO : Nat) (yL : Nat) (yH : Nat) (yI : Nat) (v_x : Nat → Int32) (v_M : Nat → Int32) (v_d : Nat → Int32) (v_a : Nat → Int32) (v_o : Nat → Int32) (v_lo : Nat → Int32) (v_hi : Nat → Int32) (v_ri : Nat → Int32) (a2 : Int32) : zMv l y_X_system (.code y_X_system b_X_system 3 (none) :: wd) { frames := 0, cells := 0, slots := 0, locals := 0 } D classes [(cI, .int)] [.ref yX, .int (31 : Int32), .int a2] [oX yX yM yD yA yO yL yH yI v_x, ar cI yM 512 v_M, ar cI yD 8 v_d, ar cI yA 8 v_a, ar cI yO 4 v_o, ar cI yL 6 v_lo, ar cI yH 6 v_hi, ar cI yI 6 v_ri] [oX yX yM yD yA yO yL yH yI (s_X_system31 v_x v_M v_d v_a v_o v_lo v_hi v_ri a2), ar cI yM 512 v_M, ar cI yD 8 v_d, ar cI yA 8 v_a, ar cI yO 4 v_o, ar cI yL 6 v_lo, ar cI yH 6 v_hi, ar cI yI 6 v_ri] sz := by
  refine met_v (by decide) (Nat.le_of_ble_eq_true rfl) ?_
  intro p e s m args below meth c A Q ls hx hb hml hown hts hK hP hD hS hA hl hE
  have hl : lv_has ls 3 [(0, .ref yX), (1, .int (31 : Int32)), (2, .int a2)] := hl
  have hown : s.vm.findClass R_X = some m.cls := hown
  refine lv_iload_n hx hb d_X_system_0 rfl (lv_at hl 1 rfl) ?_
  refine lv_bipush (v := (27 : Int32)) hx hb d_X_system_1 (by decide) ?_
  refine lv_icmp_ne (tgt := 22) hx hb d_X_system_3 (by decide) (fun _ => ?_) (fun hh => absurd hh (by decide))
  refine lv_iload_n hx hb d_X_system_22 rfl (lv_at hl 1 rfl) ?_
  refine lv_bipush (v := (28 : Int32)) hx hb d_X_system_23 (by decide) ?_
  refine lv_icmp_ne (tgt := 47) hx hb d_X_system_25 (by decide) (fun _ => ?_) (fun hh => absurd hh (by decide))
  refine lv_iload_n hx hb d_X_system_47 rfl (lv_at hl 1 rfl) ?_
  refine lv_bipush (v := (29 : Int32)) hx hb d_X_system_48 (by decide) ?_
  refine lv_icmp_ne (tgt := 63) hx hb d_X_system_50 (by decide) (fun _ => ?_) (fun hh => absurd hh (by decide))
  refine lv_iload_n hx hb d_X_system_63 rfl (lv_at hl 1 rfl) ?_
  refine lv_bipush (v := (30 : Int32)) hx hb d_X_system_64 (by decide) ?_
  refine lv_icmp_ne (tgt := 79) hx hb d_X_system_66 (by decide) (fun _ => ?_) (fun hh => absurd hh (by decide))
  refine lv_iload_n hx hb d_X_system_79 rfl (lv_at hl 1 rfl) ?_
  refine lv_bipush (v := (31 : Int32)) hx hb d_X_system_80 (by decide) ?_
  refine lv_icmp_ne (tgt := 93) hx hb d_X_system_82 (by decide) (fun hh => absurd hh (by decide)) (fun _ => ?_)
  refine lv_aload_n hx hb d_X_system_85 rfl (lv_at hl 0 rfl) ?_
  refine lv_iconst (v := (0 : Int32)) hx hb d_X_system_86 (by decide) ?_
  refine zz_put (C := R_X) (T := F_X) (N := 27) (w' := [oX yX yM yD yA yO yL yH yI (upd v_x 7 (0 : Int32)), ar cI yM 512 v_M, ar cI yD 8 v_d, ar cI yA 8 v_a, ar cI yO 4 v_o, ar cI yL 6 v_lo, ar cI yH 6 v_hi, ar cI yI 6 v_ri]) hx hb hts in_X ty_X ty_X_ok n_X hown hK hP hD hS 0 rfl rfl 11 (by decide) mw_78 rfl rfl rfl (Nat.le_of_ble_eq_true rfl) d_X_system_87 rfl (fun H locs hP hD hS => ?_)
  refine lv_goto (tgt := 100) hx hb d_X_system_90 (by decide) ?_
  have hsp : s_X_system31 v_x v_M v_d v_a v_o v_lo v_hi v_ri a2 = (upd v_x 7 (0 : Int32)) := rfl
  rw [hsp] at hE
  exact hE _ _ _ _ hP hD hS d_X_system_100
