set_option maxHeartbeats 4000000 in
set_option maxRecDepth 100000 in
theorem k_X_thrown (l : Launch) (D : va_G) (cI : ClassId) (sz : Nat) (yX : Nat) (yM : Nat) (yD : Nat) (yA : Nat) (yO : Nat) (yL : Nat) (yH : Nat) (yI : Nat) (v_x : Nat → Int32) (v_M : Nat → Int32) (v_d : Nat → Int32) (v_a : Nat → Int32) (v_o : Nat → Int32) (v_lo : Nat → Int32) (v_hi : Nat → Int32) (v_ri : Nat → Int32) : zMi l y_X_thrown (.code y_X_thrown b_X_thrown 1 (some .int) :: wd) { frames := 0, cells := 0, slots := 0, locals := 0 } D classes [(cI, .int)] [.ref yX] [oX yX yM yD yA yO yL yH yI v_x, ar cI yM 512 v_M, ar cI yD 8 v_d, ar cI yA 8 v_a, ar cI yO 4 v_o, ar cI yL 6 v_lo, ar cI yH 6 v_hi, ar cI yI 6 v_ri] [oX yX yM yD yA yO yL yH yI v_x, ar cI yM 512 v_M, ar cI yD 8 v_d, ar cI yA 8 v_a, ar cI yO 4 v_o, ar cI yL 6 v_lo, ar cI yH 6 v_hi, ar cI yI 6 v_ri] sz (s_X_thrown v_x v_M v_d v_a v_o v_lo v_hi v_ri) := by
  refine met_i (by decide) (Nat.le_of_ble_eq_true rfl) rfl ?_
  intro p e s m args below meth c A Q ls hx hb hml hown hts hK hP hD hS hA hl hE
  have hl : lv_has ls 1 [(0, .ref yX)] := hl
  have hown : s.vm.findClass R_X = some m.cls := hown
  refine lv_aload_n hx hb d_X_thrown_0 rfl (lv_at hl 0 rfl) ?_
  refine zz_get (C := R_X) (T := F_X) (N := 27) (v := .int (v_x 0)) hx hb hts in_X hown hK hP 0 rfl rfl 0 (by decide) mw_67 rfl d_X_thrown_1 ?_
  have hsp : s_X_thrown v_x v_M v_d v_a v_o v_lo v_hi v_ri = (v_x 0) := rfl
  rw [hsp] at hE
  exact hE _ _ _ _ hP hD hS d_X_thrown_4
set_option maxHeartbeats 4000000 in
set_option maxRecDepth 100000 in
theorem k_X_isArea (l : Launch) (D : va_G) (cI : ClassId) (sz : Nat) (a1 : Int32) : zMi l y_X_isArea (.code y_X_isArea b_X_isArea 1 (some .boolean) :: wd) { frames := 0, cells := 0, slots := 0, locals := 0 } D classes [] [.int a1] [] [] sz (s_X_isArea a1) := by
  refine met_i (by decide) (Nat.le_of_ble_eq_true rfl) (zz_nar (bo_X_isArea a1)) ?_
  intro p e s m args below meth c A Q ls hx hb hml hown hts hK hP hD hS hA hl hE
  have hl : lv_has ls 1 [(0, .int a1)] := hl
  have hown : s.vm.findClass R_X = some m.cls := hown
  refine lv_iload_n hx hb d_X_isArea_0 rfl (lv_at hl 0 rfl) ?_
  refine lv_iconst (v := (1 : Int32)) hx hb d_X_isArea_1 (by decide) ?_
  refine lv_icmp_lt (tgt := 15) hx hb d_X_isArea_2 (by decide) (fun h1 => ?_) (fun h1 => ?_)
  ·
    refine lv_iconst (v := (0 : Int32)) hx hb d_X_isArea_15 (by decide) ?_
    have hsp : s_X_isArea a1 = (0 : Int32) := (by unfold s_X_isArea; rw [if_pos h1])
    rw [hsp] at hE
    exact hE _ _ _ _ hP hD hS d_X_isArea_16
  ·
    refine lv_iload_n hx hb d_X_isArea_5 rfl (lv_at hl 0 rfl) ?_
    refine lv_bipush (v := (24 : Int32)) hx hb d_X_isArea_6 (by decide) ?_
    refine lv_icmp_gt (tgt := 15) hx hb d_X_isArea_8 (by decide) (fun h2 => ?_) (fun h2 => ?_)
    ·
      refine lv_iconst (v := (0 : Int32)) hx hb d_X_isArea_15 (by decide) ?_
      have hsp : s_X_isArea a1 = (0 : Int32) := (by unfold s_X_isArea; rw [if_neg h1, if_pos h2])
      rw [hsp] at hE
      exact hE _ _ _ _ hP hD hS d_X_isArea_16
    ·
      refine lv_iconst (v := (1 : Int32)) hx hb d_X_isArea_11 (by decide) ?_
      refine lv_goto (tgt := 16) hx hb d_X_isArea_12 (by decide) ?_
      have hsp : s_X_isArea a1 = (1 : Int32) := (by unfold s_X_isArea; rw [if_neg h1, if_neg h2])
      rw [hsp] at hE
      exact hE _ _ _ _ hP hD hS d_X_isArea_16
set_option maxHeartbeats 4000000 in
set_option maxRecDepth 100000 in
theorem k_X_wordsOf (l : Launch) (D : va_G) (cI : ClassId) (sz : Nat) (a1 : Int32) : zMi l y_X_wordsOf (.code y_X_wordsOf b_X_wordsOf 1 (some .int) :: wd) { frames := 0, cells := 0, slots := 0, locals := 0 } D classes [] [.int a1] [] [] sz (s_X_wordsOf a1) := by
  refine met_i (by decide) (Nat.le_of_ble_eq_true rfl) rfl ?_
  intro p e s m args below meth c A Q ls hx hb hml hown hts hK hP hD hS hA hl hE
  have hl : lv_has ls 1 [(0, .int a1)] := hl
  have hown : s.vm.findClass R_X = some m.cls := hown
  refine lv_sipush (v := (248 : Int32)) hx hb d_X_wordsOf_0 (by decide) ?_
  refine lv_bipush (v := (8 : Int32)) hx hb d_X_wordsOf_3 (by decide) ?_
  refine lv_iload_n hx hb d_X_wordsOf_5 rfl (lv_at hl 0 rfl) ?_
  refine lv_imul hx hb d_X_wordsOf_6 ?_
  refine lv_iadd hx hb d_X_wordsOf_7 ?_
  have hsp : s_X_wordsOf a1 = ((248 : Int32) + ((8 : Int32) * a1)) := rfl
  rw [hsp] at hE
  exact hE _ _ _ _ hP hD hS d_X_wordsOf_8
set_option maxHeartbeats 4000000 in
set_option maxRecDepth 100000 in
theorem k_X_keepU (l : Launch) (D : va_G) (cI : ClassId) (sz : Nat) (yX : Nat) (yM : Nat) (yD : Nat) (yA : Nat) (yO : Nat) (yL : Nat) (yH : Nat) (yI : Nat) (v_x : Nat → Int32) (v_M : Nat → Int32) (v_d : Nat → Int32) (v_a : Nat → Int32) (v_o : Nat → Int32) (v_lo : Nat → Int32) (v_hi : Nat → Int32) (v_ri : Nat → Int32) : zMi l y_X_keep (.code y_X_keep b_X_keep 6 (some .boolean) :: wd) { frames := 1, cells := 0, slots := 0, locals := 20 } D classes [(cI, .int)] [.ref yX, .int (1 : Int32)] [oX yX yM yD yA yO yL yH yI v_x, ar cI yM 512 v_M, ar cI yD 8 v_d, ar cI yA 8 v_a, ar cI yO 4 v_o, ar cI yL 6 v_lo, ar cI yH 6 v_hi, ar cI yI 6 v_ri] [oX yX yM yD yA yO yL yH yI ((s_X_keepU v_x v_M v_d v_a v_o v_lo v_hi v_ri).2.1), ar cI yM 512 ((s_X_keepU v_x v_M v_d v_a v_o v_lo v_hi v_ri).2.2.1), ar cI yD 8 v_d, ar cI yA 8 v_a, ar cI yO 4 ((s_X_keepU v_x v_M v_d v_a v_o v_lo v_hi v_ri).2.2.2), ar cI yL 6 v_lo, ar cI yH 6 v_hi, ar cI yI 6 v_ri] sz (s_X_keepU v_x v_M v_d v_a v_o v_lo v_hi v_ri).1 := by
  refine met_i (by decide) (Nat.le_of_ble_eq_true rfl) (zz_nar (bo_X_keepU v_x v_M v_d v_a v_o v_lo v_hi v_ri)) ?_
  intro p e s m args below meth c A Q ls hx hb hml hown hts hK hP hD hS hA hl hE
  have hl : lv_has ls 6 [(0, .ref yX), (1, .int (1 : Int32))] := hl
  have hown : s.vm.findClass R_X = some m.cls := hown
  refine lv_aload_n hx hb d_X_keep_0 rfl (lv_at hl 0 rfl) ?_
  refine zz_get (C := R_X) (T := F_X) (N := 27) (v := .ref yO) hx hb hts in_X hown hK hP 0 rfl rfl 4 (by decide) mw_68 rfl d_X_keep_1 ?_
  refine lv_iconst (v := (1 : Int32)) hx hb d_X_keep_4 (by decide) ?_
  refine va_iald hx hb hK hP 4 0 rfl rfl (zz_inc (by decide)) d_X_keep_5 ?_
  refine lv_bipush (v := (31 : Int32)) hx hb d_X_keep_6 (by decide) ?_
  refine lv_iand hx hb d_X_keep_8 ?_
  refine lv_istore_n (lv' := [(2, .int ((v_o (ix (1 : Int32))) &&& (31 : Int32))), (0, .ref yX), (1, .int (1 : Int32))]) hx hb d_X_keep_9 rfl hl (by decide) rfl (fun ls hl => ?_)
  refine lv_iload_n hx hb d_X_keep_10 rfl (lv_at hl 0 rfl) ?_
  refine zz_cS0 (rest := []) ⟨hx, hb, hml, hown, hts⟩ (k_X_isArea l D cI _ ((v_o (ix (1 : Int32))) &&& (31 : Int32))) g_X_keep_X_isArea_41 nd_X_isArea ⟨⟨rfl, rfl⟩, Nat.le_of_ble_eq_true rfl, Nat.le_of_ble_eq_true rfl⟩ hK hP hD hS hA rfl rfl hl.1 (Nat.le_of_ble_eq_true rfl) d_X_keep_11 ⟨Nat.zero_le _, Nat.zero_le _⟩ (fun H locs hP hD hS => ?_)
  refine lv_if_ne (tgt := 24) hx hb d_X_keep_14 (by decide) (fun h1 => ?_) (fun h1 => ?_)
  ·
    refine lv_iload_n hx hb d_X_keep_24 rfl (lv_at hl 0 rfl) ?_
    refine zz_cS0 (rest := []) ⟨hx, hb, hml, hown, hts⟩ (k_X_wordsOf l D cI _ ((v_o (ix (1 : Int32))) &&& (31 : Int32))) g_X_keep_X_wordsOf_49 nd_X_wordsOf ⟨⟨rfl, rfl⟩, Nat.le_of_ble_eq_true rfl, Nat.le_of_ble_eq_true rfl⟩ hK hP hD hS hA rfl rfl hl.1 (Nat.le_of_ble_eq_true rfl) d_X_keep_25 ⟨Nat.zero_le _, Nat.zero_le _⟩ (fun H locs hP hD hS => ?_)
    refine lv_istore_n (lv' := [(3, .int (s_X_wordsOf ((v_o (ix (1 : Int32))) &&& (31 : Int32)))), (2, .int ((v_o (ix (1 : Int32))) &&& (31 : Int32))), (0, .ref yX), (1, .int (1 : Int32))]) hx hb d_X_keep_28 rfl hl (by decide) rfl (fun ls hl => ?_)
    refine lv_aload_n hx hb d_X_keep_29 rfl (lv_at hl 2 rfl) ?_
    refine zz_get (C := R_X) (T := F_X) (N := 27) (v := .ref yM) hx hb hts in_X hown hK hP 0 rfl rfl 1 (by decide) mw_69 rfl d_X_keep_30 ?_
    refine lv_iload_n hx hb d_X_keep_33 rfl (lv_at hl 0 rfl) ?_
    refine va_iald hx hb hK hP 1 0 rfl rfl (in_w0 h1) d_X_keep_34 ?_
    refine lv_istore (lv' := [(4, .int (v_M (ix (s_X_wordsOf ((v_o (ix (1 : Int32))) &&& (31 : Int32)))))), (3, .int (s_X_wordsOf ((v_o (ix (1 : Int32))) &&& (31 : Int32)))), (2, .int ((v_o (ix (1 : Int32))) &&& (31 : Int32))), (0, .ref yX), (1, .int (1 : Int32))]) hx hb d_X_keep_35 hl (by decide) rfl (fun ls hl => ?_)
    refine lv_aload_n hx hb d_X_keep_37 rfl (lv_at hl 3 rfl) ?_
    refine zz_get (C := R_X) (T := F_X) (N := 27) (v := .ref yM) hx hb hts in_X hown hK hP 0 rfl rfl 1 (by decide) mw_69 rfl d_X_keep_38 ?_
    refine lv_iload_n hx hb d_X_keep_41 rfl (lv_at hl 1 rfl) ?_
    show W p l e _ s m args below meth c _ _ _ _ Q (F0 m 42 ls _)
    refine lv_aload_n hx hb d_X_keep_42 rfl (lv_at hl 3 rfl) ?_
    refine zz_get (C := R_X) (T := F_X) (N := 27) (v := .ref yO) hx hb hts in_X hown hK hP 0 rfl rfl 4 (by decide) mw_68 rfl d_X_keep_43 ?_
    refine lv_iconst (v := (3 : Int32)) hx hb d_X_keep_46 (by decide) ?_
    refine va_iald hx hb hK hP 4 0 rfl rfl (zz_inc (by decide)) d_X_keep_47 ?_
    refine zz_iast (w' := [oX yX yM yD yA yO yL yH yI v_x, ar cI yM 512 (upd v_M (ix (s_X_wordsOf ((v_o (ix (1 : Int32))) &&& (31 : Int32)))) (v_o (ix (3 : Int32)))), ar cI yD 8 v_d, ar cI yA 8 v_a, ar cI yO 4 v_o, ar cI yL 6 v_lo, ar cI yH 6 v_hi, ar cI yI 6 v_ri]) hx hb hK hP hD hS 1 0 rfl rfl (in_w0 h1) d_X_keep_48 rfl (fun H locs hP hD hS => ?_)
    refine lv_aload_n hx hb d_X_keep_49 rfl (lv_at hl 3 rfl) ?_
    refine zz_get (C := R_X) (T := F_X) (N := 27) (v := .ref yM) hx hb hts in_X hown hK hP 0 rfl rfl 1 (by decide) mw_69 rfl d_X_keep_50 ?_
    refine lv_iload_n hx hb d_X_keep_53 rfl (lv_at hl 1 rfl) ?_
    refine lv_iconst (v := (1 : Int32)) hx hb d_X_keep_54 (by decide) ?_
    refine lv_iadd hx hb d_X_keep_55 ?_
    refine lv_iload_n hx hb d_X_keep_56 rfl (lv_at hl 4 rfl) ?_
    refine lv_if_eq (tgt := 82) hx hb d_X_keep_57 (by decide) (fun hh => absurd hh (by decide)) (fun _ => ?_)
    refine lv_aload_n hx hb d_X_keep_60 rfl (lv_at hl 3 rfl) ?_
    refine zz_get (C := R_X) (T := F_X) (N := 27) (v := .int (v_x 1)) hx hb hts in_X hown hK hP 0 rfl rfl 5 (by decide) mw_70 rfl d_X_keep_61 ?_
    refine lv_iconst (v := (4 : Int32)) hx hb d_X_keep_64 (by decide) ?_
    refine lv_aload_n hx hb d_X_keep_65 rfl (lv_at hl 3 rfl) ?_
    refine zz_get (C := R_X) (T := F_X) (N := 27) (v := .int (v_x 2)) hx hb hts in_X hown hK hP 0 rfl rfl 6 (by decide) mw_71 rfl d_X_keep_66 ?_
    refine lv_imul hx hb d_X_keep_69 ?_
    refine lv_iadd hx hb d_X_keep_70 ?_
    refine lv_bipush (v := (8 : Int32)) hx hb d_X_keep_71 (by decide) ?_
    refine lv_aload_n hx hb d_X_keep_73 rfl (lv_at hl 3 rfl) ?_
    refine zz_get (C := R_X) (T := F_X) (N := 27) (v := .int (v_x 3)) hx hb hts in_X hown hK hP 0 rfl rfl 7 (by decide) mw_72 rfl d_X_keep_74 ?_
    refine lv_imul hx hb d_X_keep_77 ?_
    show W p l e _ s m args below meth c _ _ _ _ Q (F0 m 78 ls _)
    refine lv_iadd hx hb d_X_keep_78 ?_
    refine lv_goto (tgt := 89) hx hb d_X_keep_79 (by decide) ?_
    refine zz_iast (w' := [oX yX yM yD yA yO yL yH yI v_x, ar cI yM 512 (upd (upd v_M (ix (s_X_wordsOf ((v_o (ix (1 : Int32))) &&& (31 : Int32)))) (v_o (ix (3 : Int32)))) (ix ((s_X_wordsOf ((v_o (ix (1 : Int32))) &&& (31 : Int32))) + (1 : Int32))) (((v_x 1) + ((4 : Int32) * (v_x 2))) + ((8 : Int32) * (v_x 3)))), ar cI yD 8 v_d, ar cI yA 8 v_a, ar cI yO 4 v_o, ar cI yL 6 v_lo, ar cI yH 6 v_hi, ar cI yI 6 v_ri]) hx hb hK hP hD hS 1 0 rfl rfl (in_w1 h1 (by decide)) d_X_keep_89 rfl (fun H locs hP hD hS => ?_)
    refine lv_aload_n hx hb d_X_keep_90 rfl (lv_at hl 3 rfl) ?_
    refine zz_get (C := R_X) (T := F_X) (N := 27) (v := .ref yM) hx hb hts in_X hown hK hP 0 rfl rfl 1 (by decide) mw_69 rfl d_X_keep_91 ?_
    refine lv_iload_n hx hb d_X_keep_94 rfl (lv_at hl 1 rfl) ?_
    refine lv_iconst (v := (2 : Int32)) hx hb d_X_keep_95 (by decide) ?_
    refine lv_iadd hx hb d_X_keep_96 ?_
    refine lv_iload_n hx hb d_X_keep_97 rfl (lv_at hl 4 rfl) ?_
    refine lv_if_eq (tgt := 111) hx hb d_X_keep_98 (by decide) (fun hh => absurd hh (by decide)) (fun _ => ?_)
    refine lv_aload_n hx hb d_X_keep_101 rfl (lv_at hl 3 rfl) ?_
    refine zz_get (C := R_X) (T := F_X) (N := 27) (v := .ref yA) hx hb hts in_X hown hK hP 0 rfl rfl 3 (by decide) mw_73 rfl d_X_keep_102 ?_
    refine lv_bipush (v := (6 : Int32)) hx hb d_X_keep_105 (by decide) ?_
    refine va_iald hx hb hK hP 3 0 rfl rfl (zz_inc (by decide)) d_X_keep_107 ?_
    refine lv_goto (tgt := 117) hx hb d_X_keep_108 (by decide) ?_
    refine zz_iast (w' := [oX yX yM yD yA yO yL yH yI v_x, ar cI yM 512 (upd (upd (upd v_M (ix (s_X_wordsOf ((v_o (ix (1 : Int32))) &&& (31 : Int32)))) (v_o (ix (3 : Int32)))) (ix ((s_X_wordsOf ((v_o (ix (1 : Int32))) &&& (31 : Int32))) + (1 : Int32))) (((v_x 1) + ((4 : Int32) * (v_x 2))) + ((8 : Int32) * (v_x 3)))) (ix ((s_X_wordsOf ((v_o (ix (1 : Int32))) &&& (31 : Int32))) + (2 : Int32))) (v_a (ix (6 : Int32)))), ar cI yD 8 v_d, ar cI yA 8 v_a, ar cI yO 4 v_o, ar cI yL 6 v_lo, ar cI yH 6 v_hi, ar cI yI 6 v_ri]) hx hb hK hP hD hS 1 0 rfl rfl (in_w1 h1 (by decide)) d_X_keep_117 rfl (fun H locs hP hD hS => ?_)
    refine lv_aload_n hx hb d_X_keep_118 rfl (lv_at hl 3 rfl) ?_
    refine zz_get (C := R_X) (T := F_X) (N := 27) (v := .ref yM) hx hb hts in_X hown hK hP 0 rfl rfl 1 (by decide) mw_69 rfl d_X_keep_119 ?_
    refine lv_iload_n hx hb d_X_keep_122 rfl (lv_at hl 1 rfl) ?_
    refine lv_iconst (v := (3 : Int32)) hx hb d_X_keep_123 (by decide) ?_
    refine lv_iadd hx hb d_X_keep_124 ?_
    show W p l e _ s m args below meth c _ _ _ _ Q (F0 m 125 ls _)
    refine lv_iload_n hx hb d_X_keep_125 rfl (lv_at hl 4 rfl) ?_
    refine lv_if_eq (tgt := 139) hx hb d_X_keep_126 (by decide) (fun hh => absurd hh (by decide)) (fun _ => ?_)
    refine lv_aload_n hx hb d_X_keep_129 rfl (lv_at hl 3 rfl) ?_
    refine zz_get (C := R_X) (T := F_X) (N := 27) (v := .ref yA) hx hb hts in_X hown hK hP 0 rfl rfl 3 (by decide) mw_73 rfl d_X_keep_130 ?_
    refine lv_bipush (v := (7 : Int32)) hx hb d_X_keep_133 (by decide) ?_
    refine va_iald hx hb hK hP 3 0 rfl rfl (zz_inc (by decide)) d_X_keep_135 ?_
    refine lv_goto (tgt := 145) hx hb d_X_keep_136 (by decide) ?_
    refine zz_iast (w' := [oX yX yM yD yA yO yL yH yI v_x, ar cI yM 512 (upd (upd (upd (upd v_M (ix (s_X_wordsOf ((v_o (ix (1 : Int32))) &&& (31 : Int32)))) (v_o (ix (3 : Int32)))) (ix ((s_X_wordsOf ((v_o (ix (1 : Int32))) &&& (31 : Int32))) + (1 : Int32))) (((v_x 1) + ((4 : Int32) * (v_x 2))) + ((8 : Int32) * (v_x 3)))) (ix ((s_X_wordsOf ((v_o (ix (1 : Int32))) &&& (31 : Int32))) + (2 : Int32))) (v_a (ix (6 : Int32)))) (ix ((s_X_wordsOf ((v_o (ix (1 : Int32))) &&& (31 : Int32))) + (3 : Int32))) (v_a (ix (7 : Int32)))), ar cI yD 8 v_d, ar cI yA 8 v_a, ar cI yO 4 v_o, ar cI yL 6 v_lo, ar cI yH 6 v_hi, ar cI yI 6 v_ri]) hx hb hK hP hD hS 1 0 rfl rfl (in_w1 h1 (by decide)) d_X_keep_145 rfl (fun H locs hP hD hS => ?_)
    refine lv_iconst (v := (0 : Int32)) hx hb d_X_keep_146 (by decide) ?_
    refine lv_istore (lv' := [(5, .int (0 : Int32)), (4, .int (v_M (ix (s_X_wordsOf ((v_o (ix (1 : Int32))) &&& (31 : Int32)))))), (3, .int (s_X_wordsOf ((v_o (ix (1 : Int32))) &&& (31 : Int32)))), (2, .int ((v_o (ix (1 : Int32))) &&& (31 : Int32))), (0, .ref yX), (1, .int (1 : Int32))]) hx hb d_X_keep_147 hl (by decide) rfl (fun ls hl => ?_)
    refine lv_iload hx hb d_X_keep_149 (lv_at hl 0 rfl) ?_
    refine lv_iconst (v := (4 : Int32)) hx hb d_X_keep_151 (by decide) ?_
    refine lv_icmp_ge (tgt := 195) hx hb d_X_keep_152 (by decide) (fun hh => absurd hh (by decide)) (fun _ => ?_)
    refine lv_aload_n hx hb d_X_keep_155 rfl (lv_at hl 4 rfl) ?_
    refine zz_get (C := R_X) (T := F_X) (N := 27) (v := .ref yM) hx hb hts in_X hown hK hP 0 rfl rfl 1 (by decide) mw_69 rfl d_X_keep_156 ?_
    refine lv_iload_n hx hb d_X_keep_159 rfl (lv_at hl 2 rfl) ?_
    refine lv_iconst (v := (4 : Int32)) hx hb d_X_keep_160 (by decide) ?_
    refine lv_iadd hx hb d_X_keep_161 ?_
    refine lv_iload hx hb d_X_keep_162 (lv_at hl 0 rfl) ?_
    refine lv_iadd hx hb d_X_keep_164 ?_
    refine lv_iload_n hx hb d_X_keep_165 rfl (lv_at hl 5 rfl) ?_
    refine lv_if_eq (tgt := 181) hx hb d_X_keep_166 (by decide) (fun hh => absurd hh (by decide)) (fun _ => ?_)
    refine lv_aload_n hx hb d_X_keep_169 rfl (lv_at hl 4 rfl) ?_
    refine zz_get (C := R_X) (T := F_X) (N := 27) (v := .ref yD) hx hb hts in_X hown hK hP 0 rfl rfl 2 (by decide) mw_74 rfl d_X_keep_170 ?_
    refine lv_iconst (v := (4 : Int32)) hx hb d_X_keep_173 (by decide) ?_
    refine lv_iload hx hb d_X_keep_174 (lv_at hl 0 rfl) ?_
    refine lv_iadd hx hb d_X_keep_176 ?_
    refine lv_topi (fun zz ez => ?_)
    obtain rfl : zz = (4 : Int32) := ez.trans (by decide)
    refine va_iald hx hb hK hP 2 0 rfl rfl (zz_inc (by decide)) d_X_keep_177 ?_
    refine lv_goto (tgt := 188) hx hb d_X_keep_178 (by decide) ?_
    refine zz_iast (w' := [oX yX yM yD yA yO yL yH yI v_x, ar cI yM 512 (upd (upd (upd (upd (upd v_M (ix (s_X_wordsOf ((v_o (ix (1 : Int32))) &&& (31 : Int32)))) (v_o (ix (3 : Int32)))) (ix ((s_X_wordsOf ((v_o (ix (1 : Int32))) &&& (31 : Int32))) + (1 : Int32))) (((v_x 1) + ((4 : Int32) * (v_x 2))) + ((8 : Int32) * (v_x 3)))) (ix ((s_X_wordsOf ((v_o (ix (1 : Int32))) &&& (31 : Int32))) + (2 : Int32))) (v_a (ix (6 : Int32)))) (ix ((s_X_wordsOf ((v_o (ix (1 : Int32))) &&& (31 : Int32))) + (3 : Int32))) (v_a (ix (7 : Int32)))) (ix (((s_X_wordsOf ((v_o (ix (1 : Int32))) &&& (31 : Int32))) + (4 : Int32)) + (0 : Int32))) (v_d (ix (4 : Int32)))), ar cI yD 8 v_d, ar cI yA 8 v_a, ar cI yO 4 v_o, ar cI yL 6 v_lo, ar cI yH 6 v_hi, ar cI yI 6 v_ri]) hx hb hK hP hD hS 1 0 rfl rfl (in_w2 h1 (by decide)) d_X_keep_188 rfl (fun H locs hP hD hS => ?_)
    refine lv_iinc (v := (1 : Int32)) (lv' := [(5, .int (1 : Int32)), (4, .int (v_M (ix (s_X_wordsOf ((v_o (ix (1 : Int32))) &&& (31 : Int32)))))), (3, .int (s_X_wordsOf ((v_o (ix (1 : Int32))) &&& (31 : Int32)))), (2, .int ((v_o (ix (1 : Int32))) &&& (31 : Int32))), (0, .ref yX), (1, .int (1 : Int32))]) (k := 0) hx hb d_X_keep_189 hl rfl (by decide) (by decide) rfl (fun ls hl => ?_)
    refine lv_goto (tgt := 149) hx hb d_X_keep_192 (by decide) ?_
    refine lv_iload hx hb d_X_keep_149 (lv_at hl 0 rfl) ?_
    show W p l e _ s m args below meth c _ _ _ _ Q (F0 m 151 ls _)
    refine lv_iconst (v := (4 : Int32)) hx hb d_X_keep_151 (by decide) ?_
    refine lv_icmp_ge (tgt := 195) hx hb d_X_keep_152 (by decide) (fun hh => absurd hh (by decide)) (fun _ => ?_)
    refine lv_aload_n hx hb d_X_keep_155 rfl (lv_at hl 4 rfl) ?_
    refine zz_get (C := R_X) (T := F_X) (N := 27) (v := .ref yM) hx hb hts in_X hown hK hP 0 rfl rfl 1 (by decide) mw_69 rfl d_X_keep_156 ?_
    refine lv_iload_n hx hb d_X_keep_159 rfl (lv_at hl 2 rfl) ?_
    refine lv_iconst (v := (4 : Int32)) hx hb d_X_keep_160 (by decide) ?_
    refine lv_iadd hx hb d_X_keep_161 ?_
    refine lv_iload hx hb d_X_keep_162 (lv_at hl 0 rfl) ?_
    refine lv_iadd hx hb d_X_keep_164 ?_
    refine lv_iload_n hx hb d_X_keep_165 rfl (lv_at hl 5 rfl) ?_
    refine lv_if_eq (tgt := 181) hx hb d_X_keep_166 (by decide) (fun hh => absurd hh (by decide)) (fun _ => ?_)
    refine lv_aload_n hx hb d_X_keep_169 rfl (lv_at hl 4 rfl) ?_
    refine zz_get (C := R_X) (T := F_X) (N := 27) (v := .ref yD) hx hb hts in_X hown hK hP 0 rfl rfl 2 (by decide) mw_74 rfl d_X_keep_170 ?_
    refine lv_iconst (v := (4 : Int32)) hx hb d_X_keep_173 (by decide) ?_
    refine lv_iload hx hb d_X_keep_174 (lv_at hl 0 rfl) ?_
    refine lv_iadd hx hb d_X_keep_176 ?_
    refine lv_topi (fun zz ez => ?_)
    obtain rfl : zz = (5 : Int32) := ez.trans (by decide)
    refine va_iald hx hb hK hP 2 0 rfl rfl (zz_inc (by decide)) d_X_keep_177 ?_
    refine lv_goto (tgt := 188) hx hb d_X_keep_178 (by decide) ?_
    refine zz_iast (w' := [oX yX yM yD yA yO yL yH yI v_x, ar cI yM 512 (upd (upd (upd (upd (upd (upd v_M (ix (s_X_wordsOf ((v_o (ix (1 : Int32))) &&& (31 : Int32)))) (v_o (ix (3 : Int32)))) (ix ((s_X_wordsOf ((v_o (ix (1 : Int32))) &&& (31 : Int32))) + (1 : Int32))) (((v_x 1) + ((4 : Int32) * (v_x 2))) + ((8 : Int32) * (v_x 3)))) (ix ((s_X_wordsOf ((v_o (ix (1 : Int32))) &&& (31 : Int32))) + (2 : Int32))) (v_a (ix (6 : Int32)))) (ix ((s_X_wordsOf ((v_o (ix (1 : Int32))) &&& (31 : Int32))) + (3 : Int32))) (v_a (ix (7 : Int32)))) (ix (((s_X_wordsOf ((v_o (ix (1 : Int32))) &&& (31 : Int32))) + (4 : Int32)) + (0 : Int32))) (v_d (ix (4 : Int32)))) (ix (((s_X_wordsOf ((v_o (ix (1 : Int32))) &&& (31 : Int32))) + (4 : Int32)) + (1 : Int32))) (v_d (ix (5 : Int32)))), ar cI yD 8 v_d, ar cI yA 8 v_a, ar cI yO 4 v_o, ar cI yL 6 v_lo, ar cI yH 6 v_hi, ar cI yI 6 v_ri]) hx hb hK hP hD hS 1 0 rfl rfl (in_w2 h1 (by decide)) d_X_keep_188 rfl (fun H locs hP hD hS => ?_)
    refine lv_iinc (v := (2 : Int32)) (lv' := [(5, .int (2 : Int32)), (4, .int (v_M (ix (s_X_wordsOf ((v_o (ix (1 : Int32))) &&& (31 : Int32)))))), (3, .int (s_X_wordsOf ((v_o (ix (1 : Int32))) &&& (31 : Int32)))), (2, .int ((v_o (ix (1 : Int32))) &&& (31 : Int32))), (0, .ref yX), (1, .int (1 : Int32))]) (k := 0) hx hb d_X_keep_189 hl rfl (by decide) (by decide) rfl (fun ls hl => ?_)
    refine lv_goto (tgt := 149) hx hb d_X_keep_192 (by decide) ?_
    refine lv_iload hx hb d_X_keep_149 (lv_at hl 0 rfl) ?_
    show W p l e _ s m args below meth c _ _ _ _ Q (F0 m 151 ls _)
    refine lv_iconst (v := (4 : Int32)) hx hb d_X_keep_151 (by decide) ?_
    refine lv_icmp_ge (tgt := 195) hx hb d_X_keep_152 (by decide) (fun hh => absurd hh (by decide)) (fun _ => ?_)
    refine lv_aload_n hx hb d_X_keep_155 rfl (lv_at hl 4 rfl) ?_
    refine zz_get (C := R_X) (T := F_X) (N := 27) (v := .ref yM) hx hb hts in_X hown hK hP 0 rfl rfl 1 (by decide) mw_69 rfl d_X_keep_156 ?_
    refine lv_iload_n hx hb d_X_keep_159 rfl (lv_at hl 2 rfl) ?_
    refine lv_iconst (v := (4 : Int32)) hx hb d_X_keep_160 (by decide) ?_
    refine lv_iadd hx hb d_X_keep_161 ?_
    refine lv_iload hx hb d_X_keep_162 (lv_at hl 0 rfl) ?_
    refine lv_iadd hx hb d_X_keep_164 ?_
    refine lv_iload_n hx hb d_X_keep_165 rfl (lv_at hl 5 rfl) ?_
    refine lv_if_eq (tgt := 181) hx hb d_X_keep_166 (by decide) (fun hh => absurd hh (by decide)) (fun _ => ?_)
    refine lv_aload_n hx hb d_X_keep_169 rfl (lv_at hl 4 rfl) ?_
    refine zz_get (C := R_X) (T := F_X) (N := 27) (v := .ref yD) hx hb hts in_X hown hK hP 0 rfl rfl 2 (by decide) mw_74 rfl d_X_keep_170 ?_
    refine lv_iconst (v := (4 : Int32)) hx hb d_X_keep_173 (by decide) ?_
    refine lv_iload hx hb d_X_keep_174 (lv_at hl 0 rfl) ?_
    refine lv_iadd hx hb d_X_keep_176 ?_
    refine lv_topi (fun zz ez => ?_)
    obtain rfl : zz = (6 : Int32) := ez.trans (by decide)
    refine va_iald hx hb hK hP 2 0 rfl rfl (zz_inc (by decide)) d_X_keep_177 ?_
    refine lv_goto (tgt := 188) hx hb d_X_keep_178 (by decide) ?_
    refine zz_iast (w' := [oX yX yM yD yA yO yL yH yI v_x, ar cI yM 512 (upd (upd (upd (upd (upd (upd (upd v_M (ix (s_X_wordsOf ((v_o (ix (1 : Int32))) &&& (31 : Int32)))) (v_o (ix (3 : Int32)))) (ix ((s_X_wordsOf ((v_o (ix (1 : Int32))) &&& (31 : Int32))) + (1 : Int32))) (((v_x 1) + ((4 : Int32) * (v_x 2))) + ((8 : Int32) * (v_x 3)))) (ix ((s_X_wordsOf ((v_o (ix (1 : Int32))) &&& (31 : Int32))) + (2 : Int32))) (v_a (ix (6 : Int32)))) (ix ((s_X_wordsOf ((v_o (ix (1 : Int32))) &&& (31 : Int32))) + (3 : Int32))) (v_a (ix (7 : Int32)))) (ix (((s_X_wordsOf ((v_o (ix (1 : Int32))) &&& (31 : Int32))) + (4 : Int32)) + (0 : Int32))) (v_d (ix (4 : Int32)))) (ix (((s_X_wordsOf ((v_o (ix (1 : Int32))) &&& (31 : Int32))) + (4 : Int32)) + (1 : Int32))) (v_d (ix (5 : Int32)))) (ix (((s_X_wordsOf ((v_o (ix (1 : Int32))) &&& (31 : Int32))) + (4 : Int32)) + (2 : Int32))) (v_d (ix (6 : Int32)))), ar cI yD 8 v_d, ar cI yA 8 v_a, ar cI yO 4 v_o, ar cI yL 6 v_lo, ar cI yH 6 v_hi, ar cI yI 6 v_ri]) hx hb hK hP hD hS 1 0 rfl rfl (in_w2 h1 (by decide)) d_X_keep_188 rfl (fun H locs hP hD hS => ?_)
    refine lv_iinc (v := (3 : Int32)) (lv' := [(5, .int (3 : Int32)), (4, .int (v_M (ix (s_X_wordsOf ((v_o (ix (1 : Int32))) &&& (31 : Int32)))))), (3, .int (s_X_wordsOf ((v_o (ix (1 : Int32))) &&& (31 : Int32)))), (2, .int ((v_o (ix (1 : Int32))) &&& (31 : Int32))), (0, .ref yX), (1, .int (1 : Int32))]) (k := 0) hx hb d_X_keep_189 hl rfl (by decide) (by decide) rfl (fun ls hl => ?_)
    refine lv_goto (tgt := 149) hx hb d_X_keep_192 (by decide) ?_
    refine lv_iload hx hb d_X_keep_149 (lv_at hl 0 rfl) ?_
    show W p l e _ s m args below meth c _ _ _ _ Q (F0 m 151 ls _)
    refine lv_iconst (v := (4 : Int32)) hx hb d_X_keep_151 (by decide) ?_
    refine lv_icmp_ge (tgt := 195) hx hb d_X_keep_152 (by decide) (fun hh => absurd hh (by decide)) (fun _ => ?_)
    refine lv_aload_n hx hb d_X_keep_155 rfl (lv_at hl 4 rfl) ?_
    refine zz_get (C := R_X) (T := F_X) (N := 27) (v := .ref yM) hx hb hts in_X hown hK hP 0 rfl rfl 1 (by decide) mw_69 rfl d_X_keep_156 ?_
    refine lv_iload_n hx hb d_X_keep_159 rfl (lv_at hl 2 rfl) ?_
    refine lv_iconst (v := (4 : Int32)) hx hb d_X_keep_160 (by decide) ?_
    refine lv_iadd hx hb d_X_keep_161 ?_
    refine lv_iload hx hb d_X_keep_162 (lv_at hl 0 rfl) ?_
    refine lv_iadd hx hb d_X_keep_164 ?_
    refine lv_iload_n hx hb d_X_keep_165 rfl (lv_at hl 5 rfl) ?_
    refine lv_if_eq (tgt := 181) hx hb d_X_keep_166 (by decide) (fun hh => absurd hh (by decide)) (fun _ => ?_)
    refine lv_aload_n hx hb d_X_keep_169 rfl (lv_at hl 4 rfl) ?_
    refine zz_get (C := R_X) (T := F_X) (N := 27) (v := .ref yD) hx hb hts in_X hown hK hP 0 rfl rfl 2 (by decide) mw_74 rfl d_X_keep_170 ?_
    refine lv_iconst (v := (4 : Int32)) hx hb d_X_keep_173 (by decide) ?_
    refine lv_iload hx hb d_X_keep_174 (lv_at hl 0 rfl) ?_
    refine lv_iadd hx hb d_X_keep_176 ?_
    refine lv_topi (fun zz ez => ?_)
    obtain rfl : zz = (7 : Int32) := ez.trans (by decide)
    refine va_iald hx hb hK hP 2 0 rfl rfl (zz_inc (by decide)) d_X_keep_177 ?_
    refine lv_goto (tgt := 188) hx hb d_X_keep_178 (by decide) ?_
    refine zz_iast (w' := [oX yX yM yD yA yO yL yH yI v_x, ar cI yM 512 (upd (upd (upd (upd (upd (upd (upd (upd v_M (ix (s_X_wordsOf ((v_o (ix (1 : Int32))) &&& (31 : Int32)))) (v_o (ix (3 : Int32)))) (ix ((s_X_wordsOf ((v_o (ix (1 : Int32))) &&& (31 : Int32))) + (1 : Int32))) (((v_x 1) + ((4 : Int32) * (v_x 2))) + ((8 : Int32) * (v_x 3)))) (ix ((s_X_wordsOf ((v_o (ix (1 : Int32))) &&& (31 : Int32))) + (2 : Int32))) (v_a (ix (6 : Int32)))) (ix ((s_X_wordsOf ((v_o (ix (1 : Int32))) &&& (31 : Int32))) + (3 : Int32))) (v_a (ix (7 : Int32)))) (ix (((s_X_wordsOf ((v_o (ix (1 : Int32))) &&& (31 : Int32))) + (4 : Int32)) + (0 : Int32))) (v_d (ix (4 : Int32)))) (ix (((s_X_wordsOf ((v_o (ix (1 : Int32))) &&& (31 : Int32))) + (4 : Int32)) + (1 : Int32))) (v_d (ix (5 : Int32)))) (ix (((s_X_wordsOf ((v_o (ix (1 : Int32))) &&& (31 : Int32))) + (4 : Int32)) + (2 : Int32))) (v_d (ix (6 : Int32)))) (ix (((s_X_wordsOf ((v_o (ix (1 : Int32))) &&& (31 : Int32))) + (4 : Int32)) + (3 : Int32))) (v_d (ix (7 : Int32)))), ar cI yD 8 v_d, ar cI yA 8 v_a, ar cI yO 4 v_o, ar cI yL 6 v_lo, ar cI yH 6 v_hi, ar cI yI 6 v_ri]) hx hb hK hP hD hS 1 0 rfl rfl (in_w2 h1 (by decide)) d_X_keep_188 rfl (fun H locs hP hD hS => ?_)
    refine lv_iinc (v := (4 : Int32)) (lv' := [(5, .int (4 : Int32)), (4, .int (v_M (ix (s_X_wordsOf ((v_o (ix (1 : Int32))) &&& (31 : Int32)))))), (3, .int (s_X_wordsOf ((v_o (ix (1 : Int32))) &&& (31 : Int32)))), (2, .int ((v_o (ix (1 : Int32))) &&& (31 : Int32))), (0, .ref yX), (1, .int (1 : Int32))]) (k := 0) hx hb d_X_keep_189 hl rfl (by decide) (by decide) rfl (fun ls hl => ?_)
    refine lv_goto (tgt := 149) hx hb d_X_keep_192 (by decide) ?_
    refine lv_iload hx hb d_X_keep_149 (lv_at hl 0 rfl) ?_
    show W p l e _ s m args below meth c _ _ _ _ Q (F0 m 151 ls _)
    refine lv_iconst (v := (4 : Int32)) hx hb d_X_keep_151 (by decide) ?_
    refine lv_icmp_ge (tgt := 195) hx hb d_X_keep_152 (by decide) (fun _ => ?_) (fun hh => absurd hh (by decide))
    refine lv_aload_n hx hb d_X_keep_195 rfl (lv_at hl 4 rfl) ?_
    refine zz_get (C := R_X) (T := F_X) (N := 27) (v := .ref yO) hx hb hts in_X hown hK hP 0 rfl rfl 4 (by decide) mw_68 rfl d_X_keep_196 ?_
    refine lv_iconst (v := (1 : Int32)) hx hb d_X_keep_199 (by decide) ?_
    refine lv_iload hx hb d_X_keep_200 (lv_at hl 1 rfl) ?_
    refine zz_iast (w' := [oX yX yM yD yA yO yL yH yI v_x, ar cI yM 512 (upd (upd (upd (upd (upd (upd (upd (upd v_M (ix (s_X_wordsOf ((v_o (ix (1 : Int32))) &&& (31 : Int32)))) (v_o (ix (3 : Int32)))) (ix ((s_X_wordsOf ((v_o (ix (1 : Int32))) &&& (31 : Int32))) + (1 : Int32))) (((v_x 1) + ((4 : Int32) * (v_x 2))) + ((8 : Int32) * (v_x 3)))) (ix ((s_X_wordsOf ((v_o (ix (1 : Int32))) &&& (31 : Int32))) + (2 : Int32))) (v_a (ix (6 : Int32)))) (ix ((s_X_wordsOf ((v_o (ix (1 : Int32))) &&& (31 : Int32))) + (3 : Int32))) (v_a (ix (7 : Int32)))) (ix (((s_X_wordsOf ((v_o (ix (1 : Int32))) &&& (31 : Int32))) + (4 : Int32)) + (0 : Int32))) (v_d (ix (4 : Int32)))) (ix (((s_X_wordsOf ((v_o (ix (1 : Int32))) &&& (31 : Int32))) + (4 : Int32)) + (1 : Int32))) (v_d (ix (5 : Int32)))) (ix (((s_X_wordsOf ((v_o (ix (1 : Int32))) &&& (31 : Int32))) + (4 : Int32)) + (2 : Int32))) (v_d (ix (6 : Int32)))) (ix (((s_X_wordsOf ((v_o (ix (1 : Int32))) &&& (31 : Int32))) + (4 : Int32)) + (3 : Int32))) (v_d (ix (7 : Int32)))), ar cI yD 8 v_d, ar cI yA 8 v_a, ar cI yO 4 (upd v_o (ix (1 : Int32)) (v_M (ix (s_X_wordsOf ((v_o (ix (1 : Int32))) &&& (31 : Int32)))))), ar cI yL 6 v_lo, ar cI yH 6 v_hi, ar cI yI 6 v_ri]) hx hb hK hP hD hS 4 0 rfl rfl (zz_inc (by decide)) d_X_keep_202 rfl (fun H locs hP hD hS => ?_)
    refine lv_aload_n hx hb d_X_keep_203 rfl (lv_at hl 4 rfl) ?_
    refine zz_get (C := R_X) (T := F_X) (N := 27) (v := .ref yO) hx hb hts in_X hown hK hP 0 rfl rfl 4 (by decide) mw_68 rfl d_X_keep_204 ?_
    refine lv_iconst (v := (3 : Int32)) hx hb d_X_keep_207 (by decide) ?_
    refine lv_iload_n hx hb d_X_keep_208 rfl (lv_at hl 3 rfl) ?_
    refine lv_iload_n hx hb d_X_keep_209 rfl (lv_at hl 5 rfl) ?_
    refine lv_if_eq (tgt := 218) hx hb d_X_keep_210 (by decide) (fun hh => absurd hh (by decide)) (fun _ => ?_)
    refine lv_bipush (v := (32 : Int32)) hx hb d_X_keep_213 (by decide) ?_
    refine lv_goto (tgt := 219) hx hb d_X_keep_215 (by decide) ?_
    refine lv_iadd hx hb d_X_keep_219 ?_
    refine lv_sipush (v := (256 : Int32)) hx hb d_X_keep_220 (by decide) ?_
    refine lv_aload_n hx hb d_X_keep_223 rfl (lv_at hl 4 rfl) ?_
    refine zz_get (C := R_X) (T := F_X) (N := 27) (v := .int (v_x 4)) hx hb hts in_X hown hK hP 0 rfl rfl 8 (by decide) mw_75 rfl d_X_keep_224 ?_
    refine lv_imul hx hb d_X_keep_227 ?_
    refine lv_iadd hx hb d_X_keep_228 ?_
    refine lv_aload_n hx hb d_X_keep_229 rfl (lv_at hl 4 rfl) ?_
    refine zz_get (C := R_X) (T := F_X) (N := 27) (v := .int (v_x 5)) hx hb hts in_X hown hK hP 0 rfl rfl 9 (by decide) mw_76 rfl d_X_keep_230 ?_
    have J233_2 : ∀ (vj233_0 : Int32) (ls : Array Slot) (H : Heap) (locs : List Loc), vj233_0 = (if (v_x 5) = 0 then (0 : Int32) else (4096 : Int32)) → lv_has ls 6 [(5, .int (4 : Int32)), (4, .int (v_M (ix (s_X_wordsOf ((v_o (ix (1 : Int32))) &&& (31 : Int32)))))), (3, .int (s_X_wordsOf ((v_o (ix (1 : Int32))) &&& (31 : Int32)))), (2, .int ((v_o (ix (1 : Int32))) &&& (31 : Int32))), (0, .ref yX), (1, .int (1 : Int32))] → va_P D classes [oX yX yM yD yA yO yL yH yI v_x, ar cI yM 512 (upd (upd (upd (upd (upd (upd (upd (upd v_M (ix (s_X_wordsOf ((v_o (ix (1 : Int32))) &&& (31 : Int32)))) (v_o (ix (3 : Int32)))) (ix ((s_X_wordsOf ((v_o (ix (1 : Int32))) &&& (31 : Int32))) + (1 : Int32))) (((v_x 1) + ((4 : Int32) * (v_x 2))) + ((8 : Int32) * (v_x 3)))) (ix ((s_X_wordsOf ((v_o (ix (1 : Int32))) &&& (31 : Int32))) + (2 : Int32))) (v_a (ix (6 : Int32)))) (ix ((s_X_wordsOf ((v_o (ix (1 : Int32))) &&& (31 : Int32))) + (3 : Int32))) (v_a (ix (7 : Int32)))) (ix (((s_X_wordsOf ((v_o (ix (1 : Int32))) &&& (31 : Int32))) + (4 : Int32)) + (0 : Int32))) (v_d (ix (4 : Int32)))) (ix (((s_X_wordsOf ((v_o (ix (1 : Int32))) &&& (31 : Int32))) + (4 : Int32)) + (1 : Int32))) (v_d (ix (5 : Int32)))) (ix (((s_X_wordsOf ((v_o (ix (1 : Int32))) &&& (31 : Int32))) + (4 : Int32)) + (2 : Int32))) (v_d (ix (6 : Int32)))) (ix (((s_X_wordsOf ((v_o (ix (1 : Int32))) &&& (31 : Int32))) + (4 : Int32)) + (3 : Int32))) (v_d (ix (7 : Int32)))), ar cI yD 8 v_d, ar cI yA 8 v_a, ar cI yO 4 (upd v_o (ix (1 : Int32)) (v_M (ix (s_X_wordsOf ((v_o (ix (1 : Int32))) &&& (31 : Int32)))))), ar cI yL 6 v_lo, ar cI yH 6 v_hi, ar cI yI 6 v_ri] H → va_D A [oX yX yM yD yA yO yL yH yI v_x, ar cI yM 512 (upd (upd (upd (upd (upd (upd (upd (upd v_M (ix (s_X_wordsOf ((v_o (ix (1 : Int32))) &&& (31 : Int32)))) (v_o (ix (3 : Int32)))) (ix ((s_X_wordsOf ((v_o (ix (1 : Int32))) &&& (31 : Int32))) + (1 : Int32))) (((v_x 1) + ((4 : Int32) * (v_x 2))) + ((8 : Int32) * (v_x 3)))) (ix ((s_X_wordsOf ((v_o (ix (1 : Int32))) &&& (31 : Int32))) + (2 : Int32))) (v_a (ix (6 : Int32)))) (ix ((s_X_wordsOf ((v_o (ix (1 : Int32))) &&& (31 : Int32))) + (3 : Int32))) (v_a (ix (7 : Int32)))) (ix (((s_X_wordsOf ((v_o (ix (1 : Int32))) &&& (31 : Int32))) + (4 : Int32)) + (0 : Int32))) (v_d (ix (4 : Int32)))) (ix (((s_X_wordsOf ((v_o (ix (1 : Int32))) &&& (31 : Int32))) + (4 : Int32)) + (1 : Int32))) (v_d (ix (5 : Int32)))) (ix (((s_X_wordsOf ((v_o (ix (1 : Int32))) &&& (31 : Int32))) + (4 : Int32)) + (2 : Int32))) (v_d (ix (6 : Int32)))) (ix (((s_X_wordsOf ((v_o (ix (1 : Int32))) &&& (31 : Int32))) + (4 : Int32)) + (3 : Int32))) (v_d (ix (7 : Int32)))), ar cI yD 8 v_d, ar cI yA 8 v_a, ar cI yO 4 (upd v_o (ix (1 : Int32)) (v_M (ix (s_X_wordsOf ((v_o (ix (1 : Int32))) &&& (31 : Int32)))))), ar cI yL 6 v_lo, ar cI yH 6 v_hi, ar cI yI 6 v_ri] → va_S A s.heap H locs → W p l e { frames := 1, cells := 0, slots := 0, locals := 20 } s m args below meth c H locs 0 0 Q (F0 m 243 ls [.int vj233_0, .int ((((v_o (ix (1 : Int32))) &&& (31 : Int32)) + (32 : Int32)) + ((256 : Int32) * (v_x 4))), .int (3 : Int32), .ref yO]) := by
      intro vj233_0 ls H locs evj233_0 hl hP hD hS
      subst evj233_0
      refine lv_iadd hx hb d_X_keep_243 ?_
      refine zz_iast (w' := [oX yX yM yD yA yO yL yH yI v_x, ar cI yM 512 (upd (upd (upd (upd (upd (upd (upd (upd v_M (ix (s_X_wordsOf ((v_o (ix (1 : Int32))) &&& (31 : Int32)))) (v_o (ix (3 : Int32)))) (ix ((s_X_wordsOf ((v_o (ix (1 : Int32))) &&& (31 : Int32))) + (1 : Int32))) (((v_x 1) + ((4 : Int32) * (v_x 2))) + ((8 : Int32) * (v_x 3)))) (ix ((s_X_wordsOf ((v_o (ix (1 : Int32))) &&& (31 : Int32))) + (2 : Int32))) (v_a (ix (6 : Int32)))) (ix ((s_X_wordsOf ((v_o (ix (1 : Int32))) &&& (31 : Int32))) + (3 : Int32))) (v_a (ix (7 : Int32)))) (ix (((s_X_wordsOf ((v_o (ix (1 : Int32))) &&& (31 : Int32))) + (4 : Int32)) + (0 : Int32))) (v_d (ix (4 : Int32)))) (ix (((s_X_wordsOf ((v_o (ix (1 : Int32))) &&& (31 : Int32))) + (4 : Int32)) + (1 : Int32))) (v_d (ix (5 : Int32)))) (ix (((s_X_wordsOf ((v_o (ix (1 : Int32))) &&& (31 : Int32))) + (4 : Int32)) + (2 : Int32))) (v_d (ix (6 : Int32)))) (ix (((s_X_wordsOf ((v_o (ix (1 : Int32))) &&& (31 : Int32))) + (4 : Int32)) + (3 : Int32))) (v_d (ix (7 : Int32)))), ar cI yD 8 v_d, ar cI yA 8 v_a, ar cI yO 4 (upd (upd v_o (ix (1 : Int32)) (v_M (ix (s_X_wordsOf ((v_o (ix (1 : Int32))) &&& (31 : Int32)))))) (ix (3 : Int32)) (((((v_o (ix (1 : Int32))) &&& (31 : Int32)) + (32 : Int32)) + ((256 : Int32) * (v_x 4))) + (if (v_x 5) = 0 then (0 : Int32) else (4096 : Int32)))), ar cI yL 6 v_lo, ar cI yH 6 v_hi, ar cI yI 6 v_ri]) hx hb hK hP hD hS 4 0 rfl rfl (zz_inc (by decide)) d_X_keep_244 rfl (fun H locs hP hD hS => ?_)
      refine lv_aload_n hx hb d_X_keep_245 rfl (lv_at hl 4 rfl) ?_
      refine lv_aload_n hx hb d_X_keep_246 rfl (lv_at hl 4 rfl) ?_
      refine zz_get (C := R_X) (T := F_X) (N := 27) (v := .int (v_x 17)) hx hb hts in_X hown hK hP 0 rfl rfl 24 (by decide) mw_77 rfl d_X_keep_247 ?_
      have J250_4 : ∀ (vj250_0 : Int32) (ls : Array Slot) (H : Heap) (locs : List Loc), vj250_0 = (if (v_x 17) = 0 then (if ((v_M (ix (s_X_wordsOf ((v_o (ix (1 : Int32))) &&& (31 : Int32))))) &&& (31 : Int32)) = ((upd (upd v_o (ix (1 : Int32)) (v_M (ix (s_X_wordsOf ((v_o (ix (1 : Int32))) &&& (31 : Int32)))))) (ix (3 : Int32)) (((((v_o (ix (1 : Int32))) &&& (31 : Int32)) + (32 : Int32)) + ((256 : Int32) * (v_x 4))) + (if (v_x 5) = 0 then (0 : Int32) else (4096 : Int32)))) (ix (2 : Int32))) then (1 : Int32) else (0 : Int32)) else (1 : Int32)) → lv_has ls 6 [(5, .int (4 : Int32)), (4, .int (v_M (ix (s_X_wordsOf ((v_o (ix (1 : Int32))) &&& (31 : Int32)))))), (3, .int (s_X_wordsOf ((v_o (ix (1 : Int32))) &&& (31 : Int32)))), (2, .int ((v_o (ix (1 : Int32))) &&& (31 : Int32))), (0, .ref yX), (1, .int (1 : Int32))] → va_P D classes [oX yX yM yD yA yO yL yH yI v_x, ar cI yM 512 (upd (upd (upd (upd (upd (upd (upd (upd v_M (ix (s_X_wordsOf ((v_o (ix (1 : Int32))) &&& (31 : Int32)))) (v_o (ix (3 : Int32)))) (ix ((s_X_wordsOf ((v_o (ix (1 : Int32))) &&& (31 : Int32))) + (1 : Int32))) (((v_x 1) + ((4 : Int32) * (v_x 2))) + ((8 : Int32) * (v_x 3)))) (ix ((s_X_wordsOf ((v_o (ix (1 : Int32))) &&& (31 : Int32))) + (2 : Int32))) (v_a (ix (6 : Int32)))) (ix ((s_X_wordsOf ((v_o (ix (1 : Int32))) &&& (31 : Int32))) + (3 : Int32))) (v_a (ix (7 : Int32)))) (ix (((s_X_wordsOf ((v_o (ix (1 : Int32))) &&& (31 : Int32))) + (4 : Int32)) + (0 : Int32))) (v_d (ix (4 : Int32)))) (ix (((s_X_wordsOf ((v_o (ix (1 : Int32))) &&& (31 : Int32))) + (4 : Int32)) + (1 : Int32))) (v_d (ix (5 : Int32)))) (ix (((s_X_wordsOf ((v_o (ix (1 : Int32))) &&& (31 : Int32))) + (4 : Int32)) + (2 : Int32))) (v_d (ix (6 : Int32)))) (ix (((s_X_wordsOf ((v_o (ix (1 : Int32))) &&& (31 : Int32))) + (4 : Int32)) + (3 : Int32))) (v_d (ix (7 : Int32)))), ar cI yD 8 v_d, ar cI yA 8 v_a, ar cI yO 4 (upd (upd v_o (ix (1 : Int32)) (v_M (ix (s_X_wordsOf ((v_o (ix (1 : Int32))) &&& (31 : Int32)))))) (ix (3 : Int32)) (((((v_o (ix (1 : Int32))) &&& (31 : Int32)) + (32 : Int32)) + ((256 : Int32) * (v_x 4))) + (if (v_x 5) = 0 then (0 : Int32) else (4096 : Int32)))), ar cI yL 6 v_lo, ar cI yH 6 v_hi, ar cI yI 6 v_ri] H → va_D A [oX yX yM yD yA yO yL yH yI v_x, ar cI yM 512 (upd (upd (upd (upd (upd (upd (upd (upd v_M (ix (s_X_wordsOf ((v_o (ix (1 : Int32))) &&& (31 : Int32)))) (v_o (ix (3 : Int32)))) (ix ((s_X_wordsOf ((v_o (ix (1 : Int32))) &&& (31 : Int32))) + (1 : Int32))) (((v_x 1) + ((4 : Int32) * (v_x 2))) + ((8 : Int32) * (v_x 3)))) (ix ((s_X_wordsOf ((v_o (ix (1 : Int32))) &&& (31 : Int32))) + (2 : Int32))) (v_a (ix (6 : Int32)))) (ix ((s_X_wordsOf ((v_o (ix (1 : Int32))) &&& (31 : Int32))) + (3 : Int32))) (v_a (ix (7 : Int32)))) (ix (((s_X_wordsOf ((v_o (ix (1 : Int32))) &&& (31 : Int32))) + (4 : Int32)) + (0 : Int32))) (v_d (ix (4 : Int32)))) (ix (((s_X_wordsOf ((v_o (ix (1 : Int32))) &&& (31 : Int32))) + (4 : Int32)) + (1 : Int32))) (v_d (ix (5 : Int32)))) (ix (((s_X_wordsOf ((v_o (ix (1 : Int32))) &&& (31 : Int32))) + (4 : Int32)) + (2 : Int32))) (v_d (ix (6 : Int32)))) (ix (((s_X_wordsOf ((v_o (ix (1 : Int32))) &&& (31 : Int32))) + (4 : Int32)) + (3 : Int32))) (v_d (ix (7 : Int32)))), ar cI yD 8 v_d, ar cI yA 8 v_a, ar cI yO 4 (upd (upd v_o (ix (1 : Int32)) (v_M (ix (s_X_wordsOf ((v_o (ix (1 : Int32))) &&& (31 : Int32)))))) (ix (3 : Int32)) (((((v_o (ix (1 : Int32))) &&& (31 : Int32)) + (32 : Int32)) + ((256 : Int32) * (v_x 4))) + (if (v_x 5) = 0 then (0 : Int32) else (4096 : Int32)))), ar cI yL 6 v_lo, ar cI yH 6 v_hi, ar cI yI 6 v_ri] → va_S A s.heap H locs → W p l e { frames := 1, cells := 0, slots := 0, locals := 20 } s m args below meth c H locs 0 0 Q (F0 m 272 ls [.int vj250_0, .ref yX]) := by
        intro vj250_0 ls H locs evj250_0 hl hP hD hS
        subst evj250_0
        refine zz_put (C := R_X) (T := F_X) (N := 27) (w' := [oX yX yM yD yA yO yL yH yI (upd v_x 17 (if (v_x 17) = 0 then (if ((v_M (ix (s_X_wordsOf ((v_o (ix (1 : Int32))) &&& (31 : Int32))))) &&& (31 : Int32)) = ((upd (upd v_o (ix (1 : Int32)) (v_M (ix (s_X_wordsOf ((v_o (ix (1 : Int32))) &&& (31 : Int32)))))) (ix (3 : Int32)) (((((v_o (ix (1 : Int32))) &&& (31 : Int32)) + (32 : Int32)) + ((256 : Int32) * (v_x 4))) + (if (v_x 5) = 0 then (0 : Int32) else (4096 : Int32)))) (ix (2 : Int32))) then (1 : Int32) else (0 : Int32)) else (1 : Int32))), ar cI yM 512 (upd (upd (upd (upd (upd (upd (upd (upd v_M (ix (s_X_wordsOf ((v_o (ix (1 : Int32))) &&& (31 : Int32)))) (v_o (ix (3 : Int32)))) (ix ((s_X_wordsOf ((v_o (ix (1 : Int32))) &&& (31 : Int32))) + (1 : Int32))) (((v_x 1) + ((4 : Int32) * (v_x 2))) + ((8 : Int32) * (v_x 3)))) (ix ((s_X_wordsOf ((v_o (ix (1 : Int32))) &&& (31 : Int32))) + (2 : Int32))) (v_a (ix (6 : Int32)))) (ix ((s_X_wordsOf ((v_o (ix (1 : Int32))) &&& (31 : Int32))) + (3 : Int32))) (v_a (ix (7 : Int32)))) (ix (((s_X_wordsOf ((v_o (ix (1 : Int32))) &&& (31 : Int32))) + (4 : Int32)) + (0 : Int32))) (v_d (ix (4 : Int32)))) (ix (((s_X_wordsOf ((v_o (ix (1 : Int32))) &&& (31 : Int32))) + (4 : Int32)) + (1 : Int32))) (v_d (ix (5 : Int32)))) (ix (((s_X_wordsOf ((v_o (ix (1 : Int32))) &&& (31 : Int32))) + (4 : Int32)) + (2 : Int32))) (v_d (ix (6 : Int32)))) (ix (((s_X_wordsOf ((v_o (ix (1 : Int32))) &&& (31 : Int32))) + (4 : Int32)) + (3 : Int32))) (v_d (ix (7 : Int32)))), ar cI yD 8 v_d, ar cI yA 8 v_a, ar cI yO 4 (upd (upd v_o (ix (1 : Int32)) (v_M (ix (s_X_wordsOf ((v_o (ix (1 : Int32))) &&& (31 : Int32)))))) (ix (3 : Int32)) (((((v_o (ix (1 : Int32))) &&& (31 : Int32)) + (32 : Int32)) + ((256 : Int32) * (v_x 4))) + (if (v_x 5) = 0 then (0 : Int32) else (4096 : Int32)))), ar cI yL 6 v_lo, ar cI yH 6 v_hi, ar cI yI 6 v_ri]) hx hb hts in_X ty_X ty_X_ok n_X hown hK hP hD hS 0 rfl rfl 24 (by decide) mw_77 rfl (zz_nar zz_ite3) (zz_fit zz_ite3) (Nat.le_of_ble_eq_true rfl) d_X_keep_272 rfl (fun H locs hP hD hS => ?_)
        refine lv_iconst (v := (1 : Int32)) hx hb d_X_keep_275 (by decide) ?_
        have hsp : s_X_keepU v_x v_M v_d v_a v_o v_lo v_hi v_ri = ((1 : Int32), upd v_x 17 (if (v_x 17) = 0 then (if ((v_M (ix (s_X_wordsOf ((v_o (ix (1 : Int32))) &&& (31 : Int32))))) &&& (31 : Int32)) = ((upd (upd v_o (ix (1 : Int32)) (v_M (ix (s_X_wordsOf ((v_o (ix (1 : Int32))) &&& (31 : Int32)))))) (ix (3 : Int32)) (((((v_o (ix (1 : Int32))) &&& (31 : Int32)) + (32 : Int32)) + ((256 : Int32) * (v_x 4))) + (if (v_x 5) = 0 then (0 : Int32) else (4096 : Int32)))) (ix (2 : Int32))) then (1 : Int32) else (0 : Int32)) else (1 : Int32)), upd (upd (upd (upd (upd (upd (upd (upd v_M (ix (s_X_wordsOf ((v_o (ix (1 : Int32))) &&& (31 : Int32)))) (v_o (ix (3 : Int32)))) (ix ((s_X_wordsOf ((v_o (ix (1 : Int32))) &&& (31 : Int32))) + (1 : Int32))) (((v_x 1) + ((4 : Int32) * (v_x 2))) + ((8 : Int32) * (v_x 3)))) (ix ((s_X_wordsOf ((v_o (ix (1 : Int32))) &&& (31 : Int32))) + (2 : Int32))) (v_a (ix (6 : Int32)))) (ix ((s_X_wordsOf ((v_o (ix (1 : Int32))) &&& (31 : Int32))) + (3 : Int32))) (v_a (ix (7 : Int32)))) (ix (((s_X_wordsOf ((v_o (ix (1 : Int32))) &&& (31 : Int32))) + (4 : Int32)) + (0 : Int32))) (v_d (ix (4 : Int32)))) (ix (((s_X_wordsOf ((v_o (ix (1 : Int32))) &&& (31 : Int32))) + (4 : Int32)) + (1 : Int32))) (v_d (ix (5 : Int32)))) (ix (((s_X_wordsOf ((v_o (ix (1 : Int32))) &&& (31 : Int32))) + (4 : Int32)) + (2 : Int32))) (v_d (ix (6 : Int32)))) (ix (((s_X_wordsOf ((v_o (ix (1 : Int32))) &&& (31 : Int32))) + (4 : Int32)) + (3 : Int32))) (v_d (ix (7 : Int32))), upd (upd v_o (ix (1 : Int32)) (v_M (ix (s_X_wordsOf ((v_o (ix (1 : Int32))) &&& (31 : Int32)))))) (ix (3 : Int32)) (((((v_o (ix (1 : Int32))) &&& (31 : Int32)) + (32 : Int32)) + ((256 : Int32) * (v_x 4))) + (if (v_x 5) = 0 then (0 : Int32) else (4096 : Int32)))) := (by unfold s_X_keepU; rw [if_neg h1])
        rw [hsp] at hE
        exact hE _ _ _ _ hP hD hS d_X_keep_276
      refine lv_if_ne (tgt := 267) hx hb d_X_keep_250 (by decide) (fun h3 => ?_) (fun h3 => ?_)
      ·
        refine lv_iconst (v := (1 : Int32)) hx hb d_X_keep_267 (by decide) ?_
        refine lv_goto (tgt := 272) hx hb d_X_keep_268 (by decide) ?_
        exact J250_4 (1 : Int32) _ _ _ (by rw [if_neg h3]) (lv_sub hl [0, 1, 2, 3, 4, 5] rfl) hP hD hS
      ·
        refine lv_iload hx hb d_X_keep_253 (lv_at hl 1 rfl) ?_
        refine lv_bipush (v := (31 : Int32)) hx hb d_X_keep_255 (by decide) ?_
        refine lv_iand hx hb d_X_keep_257 ?_
        refine lv_aload_n hx hb d_X_keep_258 rfl (lv_at hl 4 rfl) ?_
        refine zz_get (C := R_X) (T := F_X) (N := 27) (v := .ref yO) hx hb hts in_X hown hK hP 0 rfl rfl 4 (by decide) mw_68 rfl d_X_keep_259 ?_
        refine lv_iconst (v := (2 : Int32)) hx hb d_X_keep_262 (by decide) ?_
        refine va_iald hx hb hK hP 4 0 rfl rfl (zz_inc (by decide)) d_X_keep_263 ?_
        refine lv_icmp_ne (tgt := 271) hx hb d_X_keep_264 (by decide) (fun h4 => ?_) (fun h4 => ?_)
        ·
          refine lv_iconst (v := (0 : Int32)) hx hb d_X_keep_271 (by decide) ?_
          exact J250_4 (0 : Int32) _ _ _ (by rw [if_pos h3, if_neg h4]) (lv_sub hl [0, 1, 2, 3, 4, 5] rfl) hP hD hS
        ·
          refine lv_iconst (v := (1 : Int32)) hx hb d_X_keep_267 (by decide) ?_
          refine lv_goto (tgt := 272) hx hb d_X_keep_268 (by decide) ?_
          exact J250_4 (1 : Int32) _ _ _ (by rw [if_pos h3, if_pos h4]) (lv_sub hl [0, 1, 2, 3, 4, 5] rfl) hP hD hS
    refine lv_if_eq (tgt := 242) hx hb d_X_keep_233 (by decide) (fun h2 => ?_) (fun h2 => ?_)
    ·
      refine lv_iconst (v := (0 : Int32)) hx hb d_X_keep_242 (by decide) ?_
      exact J233_2 (0 : Int32) _ _ _ (by rw [if_pos h2]) (lv_sub hl [0, 1, 2, 3, 4, 5] rfl) hP hD hS
    ·
      refine lv_sipush (v := (4096 : Int32)) hx hb d_X_keep_236 (by decide) ?_
      refine lv_goto (tgt := 243) hx hb d_X_keep_239 (by decide) ?_
      exact J233_2 (4096 : Int32) _ _ _ (by rw [if_neg h2]) (lv_sub hl [0, 1, 2, 3, 4, 5] rfl) hP hD hS
  ·
    refine lv_aload_n hx hb d_X_keep_17 rfl (lv_at hl 1 rfl) ?_
    refine lv_iconst (v := (0 : Int32)) hx hb d_X_keep_18 (by decide) ?_
    refine zz_put (C := R_X) (T := F_X) (N := 27) (w' := [oX yX yM yD yA yO yL yH yI (upd v_x 7 (0 : Int32)), ar cI yM 512 v_M, ar cI yD 8 v_d, ar cI yA 8 v_a, ar cI yO 4 v_o, ar cI yL 6 v_lo, ar cI yH 6 v_hi, ar cI yI 6 v_ri]) hx hb hts in_X ty_X ty_X_ok n_X hown hK hP hD hS 0 rfl rfl 11 (by decide) mw_78 rfl rfl rfl (Nat.le_of_ble_eq_true rfl) d_X_keep_19 rfl (fun H locs hP hD hS => ?_)
    refine lv_iconst (v := (0 : Int32)) hx hb d_X_keep_22 (by decide) ?_
    have hsp : s_X_keepU v_x v_M v_d v_a v_o v_lo v_hi v_ri = ((0 : Int32), upd v_x 7 (0 : Int32), v_M, v_o) := (by unfold s_X_keepU; rw [if_pos h1])
    rw [hsp] at hE
    exact hE _ _ _ _ hP hD hS d_X_keep_23
set_option maxHeartbeats 4000000 in
set_option maxRecDepth 100000 in
theorem k_X_canBringU (l : Launch) (D : va_G) (cI : ClassId) (sz : Nat) (yX : Nat) (yM : Nat) (yD : Nat) (yA : Nat) (yO : Nat) (yL : Nat) (yH : Nat) (yI : Nat) (v_x : Nat → Int32) (v_M : Nat → Int32) (v_d : Nat → Int32) (v_a : Nat → Int32) (v_o : Nat → Int32) (v_lo : Nat → Int32) (v_hi : Nat → Int32) (v_ri : Nat → Int32) : zMi l y_X_canBring (.code y_X_canBring b_X_canBring 3 (some .boolean) :: wd) { frames := 1, cells := 0, slots := 0, locals := 20 } D classes [(cI, .int)] [.ref yX, .int (1 : Int32)] [oX yX yM yD yA yO yL yH yI v_x, ar cI yM 512 v_M, ar cI yD 8 v_d, ar cI yA 8 v_a, ar cI yO 4 v_o, ar cI yL 6 v_lo, ar cI yH 6 v_hi, ar cI yI 6 v_ri] [oX yX yM yD yA yO yL yH yI ((s_X_canBringU v_x v_M v_d v_a v_o v_lo v_hi v_ri).2), ar cI yM 512 v_M, ar cI yD 8 v_d, ar cI yA 8 v_a, ar cI yO 4 v_o, ar cI yL 6 v_lo, ar cI yH 6 v_hi, ar cI yI 6 v_ri] sz (s_X_canBringU v_x v_M v_d v_a v_o v_lo v_hi v_ri).1 := by
  refine met_i (by decide) (Nat.le_of_ble_eq_true rfl) (zz_nar (bo_X_canBringU v_x v_M v_d v_a v_o v_lo v_hi v_ri)) ?_
  intro p e s m args below meth c A Q ls hx hb hml hown hts hK hP hD hS hA hl hE
  have hl : lv_has ls 3 [(0, .ref yX), (1, .int (1 : Int32))] := hl
  have hown : s.vm.findClass R_X = some m.cls := hown
  refine lv_aload_n hx hb d_X_canBring_0 rfl (lv_at hl 0 rfl) ?_
  refine zz_get (C := R_X) (T := F_X) (N := 27) (v := .ref yO) hx hb hts in_X hown hK hP 0 rfl rfl 4 (by decide) mw_68 rfl d_X_canBring_1 ?_
  refine lv_iconst (v := (3 : Int32)) hx hb d_X_canBring_4 (by decide) ?_
  refine va_iald hx hb hK hP 4 0 rfl rfl (zz_inc (by decide)) d_X_canBring_5 ?_
  refine lv_bipush (v := (31 : Int32)) hx hb d_X_canBring_6 (by decide) ?_
  refine lv_iand hx hb d_X_canBring_8 ?_
  refine zz_cS0 (rest := []) ⟨hx, hb, hml, hown, hts⟩ (k_X_isArea l D cI _ ((v_o (ix (3 : Int32))) &&& (31 : Int32))) g_X_canBring_X_isArea_41 nd_X_isArea ⟨⟨rfl, rfl⟩, Nat.le_of_ble_eq_true rfl, Nat.le_of_ble_eq_true rfl⟩ hK hP hD hS hA rfl rfl hl.1 (Nat.le_of_ble_eq_true rfl) d_X_canBring_9 ⟨Nat.zero_le _, Nat.zero_le _⟩ (fun H locs hP hD hS => ?_)
  refine lv_if_ne (tgt := 22) hx hb d_X_canBring_12 (by decide) (fun h1 => ?_) (fun h1 => ?_)
  ·
    refine lv_aload_n hx hb d_X_canBring_22 rfl (lv_at hl 0 rfl) ?_
    refine zz_get (C := R_X) (T := F_X) (N := 27) (v := .ref yO) hx hb hts in_X hown hK hP 0 rfl rfl 4 (by decide) mw_68 rfl d_X_canBring_23 ?_
    refine lv_iconst (v := (3 : Int32)) hx hb d_X_canBring_26 (by decide) ?_
    refine va_iald hx hb hK hP 4 0 rfl rfl (zz_inc (by decide)) d_X_canBring_27 ?_
    refine lv_bipush (v := (32 : Int32)) hx hb d_X_canBring_28 (by decide) ?_
    refine lv_iand hx hb d_X_canBring_30 ?_
    have J31_2 : ∀ (vj31_0 : Int32) (ls : Array Slot) (H : Heap) (locs : List Loc), vj31_0 = (if ((v_o (ix (3 : Int32))) &&& (32 : Int32)) = 0 then (0 : Int32) else (1 : Int32)) → lv_has ls 3 [(0, .ref yX), (1, .int (1 : Int32))] → va_P D classes [oX yX yM yD yA yO yL yH yI v_x, ar cI yM 512 v_M, ar cI yD 8 v_d, ar cI yA 8 v_a, ar cI yO 4 v_o, ar cI yL 6 v_lo, ar cI yH 6 v_hi, ar cI yI 6 v_ri] H → va_D A [oX yX yM yD yA yO yL yH yI v_x, ar cI yM 512 v_M, ar cI yD 8 v_d, ar cI yA 8 v_a, ar cI yO 4 v_o, ar cI yL 6 v_lo, ar cI yH 6 v_hi, ar cI yI 6 v_ri] → va_S A s.heap H locs → W p l e { frames := 1, cells := 0, slots := 0, locals := 20 } s m args below meth c H locs 0 0 Q (F0 m 39 ls [.int vj31_0]) := by
      intro vj31_0 ls H locs evj31_0 hl hP hD hS
      subst evj31_0
      refine lv_iload_n hx hb d_X_canBring_39 rfl (lv_at hl 1 rfl) ?_
      have J40_3 : ∀ (vj40_0 : Int32) (ls : Array Slot) (H : Heap) (locs : List Loc), vj40_0 = (if (if ((v_o (ix (3 : Int32))) &&& (32 : Int32)) = 0 then (0 : Int32) else (1 : Int32)) = (1 : Int32) then (1 : Int32) else (0 : Int32)) → lv_has ls 3 [(0, .ref yX), (1, .int (1 : Int32))] → va_P D classes [oX yX yM yD yA yO yL yH yI v_x, ar cI yM 512 v_M, ar cI yD 8 v_d, ar cI yA 8 v_a, ar cI yO 4 v_o, ar cI yL 6 v_lo, ar cI yH 6 v_hi, ar cI yI 6 v_ri] H → va_D A [oX yX yM yD yA yO yL yH yI v_x, ar cI yM 512 v_M, ar cI yD 8 v_d, ar cI yA 8 v_a, ar cI yO 4 v_o, ar cI yL 6 v_lo, ar cI yH 6 v_hi, ar cI yI 6 v_ri] → va_S A s.heap H locs → W p l e { frames := 1, cells := 0, slots := 0, locals := 20 } s m args below meth c H locs 0 0 Q (F0 m 48 ls [.int vj40_0]) := by
        intro vj40_0 ls H locs evj40_0 hl hP hD hS
        subst evj40_0
        refine lv_istore_n (lv' := [(2, .int (if (if ((v_o (ix (3 : Int32))) &&& (32 : Int32)) = 0 then (0 : Int32) else (1 : Int32)) = (1 : Int32) then (1 : Int32) else (0 : Int32))), (0, .ref yX), (1, .int (1 : Int32))]) hx hb d_X_canBring_48 rfl hl (by decide) rfl (fun ls hl => ?_)
        refine lv_aload_n hx hb d_X_canBring_49 rfl (lv_at hl 1 rfl) ?_
        refine lv_iload_n hx hb d_X_canBring_50 rfl (lv_at hl 0 rfl) ?_
        refine lv_if_eq (tgt := 61) hx hb d_X_canBring_51 (by decide) (fun h4 => ?_) (fun h4 => ?_)
        ·
          refine lv_sipush (v := (772 : Int32)) hx hb d_X_canBring_61 (by decide) ?_
          refine zz_put (C := R_X) (T := F_X) (N := 27) (w' := [oX yX yM yD yA yO yL yH yI (upd v_x 19 (772 : Int32)), ar cI yM 512 v_M, ar cI yD 8 v_d, ar cI yA 8 v_a, ar cI yO 4 v_o, ar cI yL 6 v_lo, ar cI yH 6 v_hi, ar cI yI 6 v_ri]) hx hb hts in_X ty_X ty_X_ok n_X hown hK hP hD hS 0 rfl rfl 26 (by decide) mw_79 rfl rfl rfl (Nat.le_of_ble_eq_true rfl) d_X_canBring_64 rfl (fun H locs hP hD hS => ?_)
          refine lv_iload_n hx hb d_X_canBring_67 rfl (lv_at hl 0 rfl) ?_
          have hsp : s_X_canBringU v_x v_M v_d v_a v_o v_lo v_hi v_ri = ((if (if ((v_o (ix (3 : Int32))) &&& (32 : Int32)) = 0 then (0 : Int32) else (1 : Int32)) = (1 : Int32) then (1 : Int32) else (0 : Int32)), upd v_x 19 (772 : Int32)) := (by unfold s_X_canBringU; rw [if_neg h1, if_pos h4])
          rw [hsp] at hE
          exact hE _ _ _ _ hP hD hS d_X_canBring_68
        ·
          refine lv_aload_n hx hb d_X_canBring_54 rfl (lv_at hl 1 rfl) ?_
          refine zz_get (C := R_X) (T := F_X) (N := 27) (v := .int (v_x 19)) hx hb hts in_X hown hK hP 0 rfl rfl 26 (by decide) mw_79 rfl d_X_canBring_55 ?_
          refine lv_goto (tgt := 64) hx hb d_X_canBring_58 (by decide) ?_
          refine zz_put (C := R_X) (T := F_X) (N := 27) (w' := [oX yX yM yD yA yO yL yH yI (upd v_x 19 (v_x 19)), ar cI yM 512 v_M, ar cI yD 8 v_d, ar cI yA 8 v_a, ar cI yO 4 v_o, ar cI yL 6 v_lo, ar cI yH 6 v_hi, ar cI yI 6 v_ri]) hx hb hts in_X ty_X ty_X_ok n_X hown hK hP hD hS 0 rfl rfl 26 (by decide) mw_79 rfl rfl rfl (Nat.le_of_ble_eq_true rfl) d_X_canBring_64 rfl (fun H locs hP hD hS => ?_)
          refine lv_iload_n hx hb d_X_canBring_67 rfl (lv_at hl 0 rfl) ?_
          have hsp : s_X_canBringU v_x v_M v_d v_a v_o v_lo v_hi v_ri = ((if (if ((v_o (ix (3 : Int32))) &&& (32 : Int32)) = 0 then (0 : Int32) else (1 : Int32)) = (1 : Int32) then (1 : Int32) else (0 : Int32)), upd v_x 19 (v_x 19)) := (by unfold s_X_canBringU; rw [if_neg h1, if_neg h4])
          rw [hsp] at hE
          exact hE _ _ _ _ hP hD hS d_X_canBring_68
      refine lv_icmp_ne (tgt := 47) hx hb d_X_canBring_40 (by decide) (fun h3 => ?_) (fun h3 => ?_)
      ·
        refine lv_iconst (v := (0 : Int32)) hx hb d_X_canBring_47 (by decide) ?_
        exact J40_3 (0 : Int32) _ _ _ (by rw [if_neg h3]) (lv_sub hl [0, 1] rfl) hP hD hS
      ·
        refine lv_iconst (v := (1 : Int32)) hx hb d_X_canBring_43 (by decide) ?_
        refine lv_goto (tgt := 48) hx hb d_X_canBring_44 (by decide) ?_
        exact J40_3 (1 : Int32) _ _ _ (by rw [if_pos h3]) (lv_sub hl [0, 1] rfl) hP hD hS
    refine lv_if_eq (tgt := 38) hx hb d_X_canBring_31 (by decide) (fun h2 => ?_) (fun h2 => ?_)
    ·
      refine lv_iconst (v := (0 : Int32)) hx hb d_X_canBring_38 (by decide) ?_
      exact J31_2 (0 : Int32) _ _ _ (by rw [if_pos h2]) (lv_sub hl [0, 1] rfl) hP hD hS
    ·
      refine lv_iconst (v := (1 : Int32)) hx hb d_X_canBring_34 (by decide) ?_
      refine lv_goto (tgt := 39) hx hb d_X_canBring_35 (by decide) ?_
      exact J31_2 (1 : Int32) _ _ _ (by rw [if_neg h2]) (lv_sub hl [0, 1] rfl) hP hD hS
  ·
    refine lv_aload_n hx hb d_X_canBring_15 rfl (lv_at hl 0 rfl) ?_
    refine lv_iconst (v := (0 : Int32)) hx hb d_X_canBring_16 (by decide) ?_
    refine zz_put (C := R_X) (T := F_X) (N := 27) (w' := [oX yX yM yD yA yO yL yH yI (upd v_x 7 (0 : Int32)), ar cI yM 512 v_M, ar cI yD 8 v_d, ar cI yA 8 v_a, ar cI yO 4 v_o, ar cI yL 6 v_lo, ar cI yH 6 v_hi, ar cI yI 6 v_ri]) hx hb hts in_X ty_X ty_X_ok n_X hown hK hP hD hS 0 rfl rfl 11 (by decide) mw_78 rfl rfl rfl (Nat.le_of_ble_eq_true rfl) d_X_canBring_17 rfl (fun H locs hP hD hS => ?_)
    refine lv_iconst (v := (0 : Int32)) hx hb d_X_canBring_20 (by decide) ?_
    have hsp : s_X_canBringU v_x v_M v_d v_a v_o v_lo v_hi v_ri = ((0 : Int32), upd v_x 7 (0 : Int32)) := (by unfold s_X_canBringU; rw [if_pos h1])
    rw [hsp] at hE
    exact hE _ _ _ _ hP hD hS d_X_canBring_21
set_option maxHeartbeats 4000000 in
set_option maxRecDepth 100000 in
theorem k_X_bringU (l : Launch) (D : va_G) (cI : ClassId) (sz : Nat) (yX : Nat) (yM : Nat) (yD : Nat) (yA : Nat) (yO : Nat) (yL : Nat) (yH : Nat) (yI : Nat) (v_x : Nat → Int32) (v_M : Nat → Int32) (v_d : Nat → Int32) (v_a : Nat → Int32) (v_o : Nat → Int32) (v_lo : Nat → Int32) (v_hi : Nat → Int32) (v_ri : Nat → Int32) (ha : ¬ (s_X_isArea (v_o (ix (3 : Int32)) &&& (31 : Int32))) = 0) : zMv l y_X_bring (.code y_X_bring b_X_bring 6 (none) :: wd) { frames := 1, cells := 0, slots := 0, locals := 20 } D classes [(cI, .int)] [.ref yX, .int (1 : Int32)] [oX yX yM yD yA yO yL yH yI v_x, ar cI yM 512 v_M, ar cI yD 8 v_d, ar cI yA 8 v_a, ar cI yO 4 v_o, ar cI yL 6 v_lo, ar cI yH 6 v_hi, ar cI yI 6 v_ri] [oX yX yM yD yA yO yL yH yI ((s_X_bringU v_x v_M v_d v_a v_o v_lo v_hi v_ri).1), ar cI yM 512 ((s_X_bringU v_x v_M v_d v_a v_o v_lo v_hi v_ri).2.1), ar cI yD 8 ((s_X_bringU v_x v_M v_d v_a v_o v_lo v_hi v_ri).2.2.1), ar cI yA 8 ((s_X_bringU v_x v_M v_d v_a v_o v_lo v_hi v_ri).2.2.2.1), ar cI yO 4 ((s_X_bringU v_x v_M v_d v_a v_o v_lo v_hi v_ri).2.2.2.2), ar cI yL 6 v_lo, ar cI yH 6 v_hi, ar cI yI 6 v_ri] sz := by
  refine met_v (by decide) (Nat.le_of_ble_eq_true rfl) ?_
  intro p e s m args below meth c A Q ls hx hb hml hown hts hK hP hD hS hA hl hE
  have hl : lv_has ls 6 [(0, .ref yX), (1, .int (1 : Int32))] := hl
  have hown : s.vm.findClass R_X = some m.cls := hown
  refine lv_aload_n hx hb d_X_bring_0 rfl (lv_at hl 0 rfl) ?_
  refine zz_get (C := R_X) (T := F_X) (N := 27) (v := .ref yO) hx hb hts in_X hown hK hP 0 rfl rfl 4 (by decide) mw_68 rfl d_X_bring_1 ?_
  refine lv_iconst (v := (3 : Int32)) hx hb d_X_bring_4 (by decide) ?_
  refine va_iald hx hb hK hP 4 0 rfl rfl (zz_inc (by decide)) d_X_bring_5 ?_
  refine lv_bipush (v := (31 : Int32)) hx hb d_X_bring_6 (by decide) ?_
  refine lv_iand hx hb d_X_bring_8 ?_
  refine lv_istore_n (lv' := [(2, .int ((v_o (ix (3 : Int32))) &&& (31 : Int32))), (0, .ref yX), (1, .int (1 : Int32))]) hx hb d_X_bring_9 rfl hl (by decide) rfl (fun ls hl => ?_)
  refine lv_iload_n hx hb d_X_bring_10 rfl (lv_at hl 0 rfl) ?_
  refine zz_cS0 (rest := []) ⟨hx, hb, hml, hown, hts⟩ (k_X_wordsOf l D cI _ ((v_o (ix (3 : Int32))) &&& (31 : Int32))) g_X_bring_X_wordsOf_49 nd_X_wordsOf ⟨⟨rfl, rfl⟩, Nat.le_of_ble_eq_true rfl, Nat.le_of_ble_eq_true rfl⟩ hK hP hD hS hA rfl rfl hl.1 (Nat.le_of_ble_eq_true rfl) d_X_bring_11 ⟨Nat.zero_le _, Nat.zero_le _⟩ (fun H locs hP hD hS => ?_)
  refine lv_istore_n (lv' := [(3, .int (s_X_wordsOf ((v_o (ix (3 : Int32))) &&& (31 : Int32)))), (2, .int ((v_o (ix (3 : Int32))) &&& (31 : Int32))), (0, .ref yX), (1, .int (1 : Int32))]) hx hb d_X_bring_14 rfl hl (by decide) rfl (fun ls hl => ?_)
  refine lv_iload_n hx hb d_X_bring_15 rfl (lv_at hl 3 rfl) ?_
  show W p l e _ s m args below meth c _ _ _ _ Q (F0 m 16 ls _)
  refine lv_if_eq (tgt := 103) hx hb d_X_bring_16 (by decide) (fun hh => absurd hh (by decide)) (fun _ => ?_)
  refine lv_aload_n hx hb d_X_bring_19 rfl (lv_at hl 2 rfl) ?_
  refine zz_get (C := R_X) (T := F_X) (N := 27) (v := .ref yM) hx hb hts in_X hown hK hP 0 rfl rfl 1 (by decide) mw_69 rfl d_X_bring_20 ?_
  refine lv_iload_n hx hb d_X_bring_23 rfl (lv_at hl 0 rfl) ?_
  refine lv_iconst (v := (1 : Int32)) hx hb d_X_bring_24 (by decide) ?_
  refine lv_iadd hx hb d_X_bring_25 ?_
  refine va_iald hx hb hK hP 1 0 rfl rfl (in_w1 ha (by decide)) d_X_bring_26 ?_
  refine lv_istore (lv' := [(4, .int (v_M (ix ((s_X_wordsOf ((v_o (ix (3 : Int32))) &&& (31 : Int32))) + (1 : Int32))))), (3, .int (s_X_wordsOf ((v_o (ix (3 : Int32))) &&& (31 : Int32)))), (2, .int ((v_o (ix (3 : Int32))) &&& (31 : Int32))), (0, .ref yX), (1, .int (1 : Int32))]) hx hb d_X_bring_27 hl (by decide) rfl (fun ls hl => ?_)
  refine lv_aload_n hx hb d_X_bring_29 rfl (lv_at hl 3 rfl) ?_
  refine lv_iload hx hb d_X_bring_30 (lv_at hl 0 rfl) ?_
  refine lv_iconst (v := (3 : Int32)) hx hb d_X_bring_32 (by decide) ?_
  refine lv_iand hx hb d_X_bring_33 ?_
  show W p l e _ s m args below meth c _ _ _ _ Q (F0 m 34 ls _)
  refine lv_iconst (v := (3 : Int32)) hx hb d_X_bring_34 (by decide) ?_
  have J35_1 : ∀ (vj35_0 : Int32) (ls : Array Slot) (H : Heap) (locs : List Loc), vj35_0 = (if ((v_M (ix ((s_X_wordsOf ((v_o (ix (3 : Int32))) &&& (31 : Int32))) + (1 : Int32)))) &&& (3 : Int32)) = (3 : Int32) then (2 : Int32) else ((v_M (ix ((s_X_wordsOf ((v_o (ix (3 : Int32))) &&& (31 : Int32))) + (1 : Int32)))) &&& (3 : Int32))) → lv_has ls 6 [(4, .int (v_M (ix ((s_X_wordsOf ((v_o (ix (3 : Int32))) &&& (31 : Int32))) + (1 : Int32))))), (3, .int (s_X_wordsOf ((v_o (ix (3 : Int32))) &&& (31 : Int32)))), (2, .int ((v_o (ix (3 : Int32))) &&& (31 : Int32))), (0, .ref yX), (1, .int (1 : Int32))] → va_P D classes [oX yX yM yD yA yO yL yH yI v_x, ar cI yM 512 v_M, ar cI yD 8 v_d, ar cI yA 8 v_a, ar cI yO 4 v_o, ar cI yL 6 v_lo, ar cI yH 6 v_hi, ar cI yI 6 v_ri] H → va_D A [oX yX yM yD yA yO yL yH yI v_x, ar cI yM 512 v_M, ar cI yD 8 v_d, ar cI yA 8 v_a, ar cI yO 4 v_o, ar cI yL 6 v_lo, ar cI yH 6 v_hi, ar cI yI 6 v_ri] → va_S A s.heap H locs → W p l e { frames := 1, cells := 0, slots := 0, locals := 20 } s m args below meth c H locs 0 0 Q (F0 m 46 ls [.int vj35_0, .ref yX]) := by
    intro vj35_0 ls H locs evj35_0 hl hP hD hS
    subst evj35_0
    refine zz_put (C := R_X) (T := F_X) (N := 27) (w' := [oX yX yM yD yA yO yL yH yI (upd v_x 1 (if ((v_M (ix ((s_X_wordsOf ((v_o (ix (3 : Int32))) &&& (31 : Int32))) + (1 : Int32)))) &&& (3 : Int32)) = (3 : Int32) then (2 : Int32) else ((v_M (ix ((s_X_wordsOf ((v_o (ix (3 : Int32))) &&& (31 : Int32))) + (1 : Int32)))) &&& (3 : Int32)))), ar cI yM 512 v_M, ar cI yD 8 v_d, ar cI yA 8 v_a, ar cI yO 4 v_o, ar cI yL 6 v_lo, ar cI yH 6 v_hi, ar cI yI 6 v_ri]) hx hb hts in_X ty_X ty_X_ok n_X hown hK hP hD hS 0 rfl rfl 5 (by decide) mw_70 rfl rfl rfl (Nat.le_of_ble_eq_true rfl) d_X_bring_46 rfl (fun H locs hP hD hS => ?_)
    refine lv_aload_n hx hb d_X_bring_49 rfl (lv_at hl 3 rfl) ?_
    refine lv_iload hx hb d_X_bring_50 (lv_at hl 0 rfl) ?_
    refine lv_iconst (v := (2 : Int32)) hx hb d_X_bring_52 (by decide) ?_
    refine lv_ishr hx hb d_X_bring_53 ?_
    refine lv_iconst (v := (1 : Int32)) hx hb d_X_bring_54 (by decide) ?_
    refine lv_iand hx hb d_X_bring_55 ?_
    refine zz_put (C := R_X) (T := F_X) (N := 27) (w' := [oX yX yM yD yA yO yL yH yI (upd (upd v_x 1 (if ((v_M (ix ((s_X_wordsOf ((v_o (ix (3 : Int32))) &&& (31 : Int32))) + (1 : Int32)))) &&& (3 : Int32)) = (3 : Int32) then (2 : Int32) else ((v_M (ix ((s_X_wordsOf ((v_o (ix (3 : Int32))) &&& (31 : Int32))) + (1 : Int32)))) &&& (3 : Int32)))) 2 (((v_M (ix ((s_X_wordsOf ((v_o (ix (3 : Int32))) &&& (31 : Int32))) + (1 : Int32)))) >>> ((2 : Int32) &&& 31)) &&& (1 : Int32))), ar cI yM 512 v_M, ar cI yD 8 v_d, ar cI yA 8 v_a, ar cI yO 4 v_o, ar cI yL 6 v_lo, ar cI yH 6 v_hi, ar cI yI 6 v_ri]) hx hb hts in_X ty_X ty_X_ok n_X hown hK hP hD hS 0 rfl rfl 6 (by decide) mw_71 rfl rfl rfl (Nat.le_of_ble_eq_true rfl) d_X_bring_56 rfl (fun H locs hP hD hS => ?_)
    refine lv_aload_n hx hb d_X_bring_59 rfl (lv_at hl 3 rfl) ?_
    refine lv_iload hx hb d_X_bring_60 (lv_at hl 0 rfl) ?_
    refine lv_iconst (v := (3 : Int32)) hx hb d_X_bring_62 (by decide) ?_
    show W p l e _ s m args below meth c _ _ _ _ Q (F0 m 63 ls _)
    refine lv_ishr hx hb d_X_bring_63 ?_
    refine lv_bipush (v := (15 : Int32)) hx hb d_X_bring_64 (by decide) ?_
    refine lv_iand hx hb d_X_bring_66 ?_
    refine zz_put (C := R_X) (T := F_X) (N := 27) (w' := [oX yX yM yD yA yO yL yH yI (upd (upd (upd v_x 1 (if ((v_M (ix ((s_X_wordsOf ((v_o (ix (3 : Int32))) &&& (31 : Int32))) + (1 : Int32)))) &&& (3 : Int32)) = (3 : Int32) then (2 : Int32) else ((v_M (ix ((s_X_wordsOf ((v_o (ix (3 : Int32))) &&& (31 : Int32))) + (1 : Int32)))) &&& (3 : Int32)))) 2 (((v_M (ix ((s_X_wordsOf ((v_o (ix (3 : Int32))) &&& (31 : Int32))) + (1 : Int32)))) >>> ((2 : Int32) &&& 31)) &&& (1 : Int32))) 3 (((v_M (ix ((s_X_wordsOf ((v_o (ix (3 : Int32))) &&& (31 : Int32))) + (1 : Int32)))) >>> ((3 : Int32) &&& 31)) &&& (15 : Int32))), ar cI yM 512 v_M, ar cI yD 8 v_d, ar cI yA 8 v_a, ar cI yO 4 v_o, ar cI yL 6 v_lo, ar cI yH 6 v_hi, ar cI yI 6 v_ri]) hx hb hts in_X ty_X ty_X_ok n_X hown hK hP hD hS 0 rfl rfl 7 (by decide) mw_72 rfl rfl rfl (Nat.le_of_ble_eq_true rfl) d_X_bring_67 rfl (fun H locs hP hD hS => ?_)
    refine lv_aload_n hx hb d_X_bring_70 rfl (lv_at hl 3 rfl) ?_
    refine zz_get (C := R_X) (T := F_X) (N := 27) (v := .ref yA) hx hb hts in_X hown hK hP 0 rfl rfl 3 (by decide) mw_73 rfl d_X_bring_71 ?_
    refine lv_bipush (v := (6 : Int32)) hx hb d_X_bring_74 (by decide) ?_
    refine lv_aload_n hx hb d_X_bring_76 rfl (lv_at hl 3 rfl) ?_
    refine zz_get (C := R_X) (T := F_X) (N := 27) (v := .ref yM) hx hb hts in_X hown hK hP 0 rfl rfl 1 (by decide) mw_69 rfl d_X_bring_77 ?_
    refine lv_iload_n hx hb d_X_bring_80 rfl (lv_at hl 1 rfl) ?_
    refine lv_iconst (v := (2 : Int32)) hx hb d_X_bring_81 (by decide) ?_
    refine lv_iadd hx hb d_X_bring_82 ?_
    show W p l e _ s m args below meth c _ _ _ _ Q (F0 m 83 ls _)
    refine va_iald hx hb hK hP 1 0 rfl rfl (in_w1 ha (by decide)) d_X_bring_83 ?_
    refine zz_iast (w' := [oX yX yM yD yA yO yL yH yI (upd (upd (upd v_x 1 (if ((v_M (ix ((s_X_wordsOf ((v_o (ix (3 : Int32))) &&& (31 : Int32))) + (1 : Int32)))) &&& (3 : Int32)) = (3 : Int32) then (2 : Int32) else ((v_M (ix ((s_X_wordsOf ((v_o (ix (3 : Int32))) &&& (31 : Int32))) + (1 : Int32)))) &&& (3 : Int32)))) 2 (((v_M (ix ((s_X_wordsOf ((v_o (ix (3 : Int32))) &&& (31 : Int32))) + (1 : Int32)))) >>> ((2 : Int32) &&& 31)) &&& (1 : Int32))) 3 (((v_M (ix ((s_X_wordsOf ((v_o (ix (3 : Int32))) &&& (31 : Int32))) + (1 : Int32)))) >>> ((3 : Int32) &&& 31)) &&& (15 : Int32))), ar cI yM 512 v_M, ar cI yD 8 v_d, ar cI yA 8 (upd v_a (ix (6 : Int32)) (v_M (ix ((s_X_wordsOf ((v_o (ix (3 : Int32))) &&& (31 : Int32))) + (2 : Int32))))), ar cI yO 4 v_o, ar cI yL 6 v_lo, ar cI yH 6 v_hi, ar cI yI 6 v_ri]) hx hb hK hP hD hS 3 0 rfl rfl (zz_inc (by decide)) d_X_bring_84 rfl (fun H locs hP hD hS => ?_)
    refine lv_aload_n hx hb d_X_bring_85 rfl (lv_at hl 3 rfl) ?_
    refine zz_get (C := R_X) (T := F_X) (N := 27) (v := .ref yA) hx hb hts in_X hown hK hP 0 rfl rfl 3 (by decide) mw_73 rfl d_X_bring_86 ?_
    refine lv_bipush (v := (7 : Int32)) hx hb d_X_bring_89 (by decide) ?_
    refine lv_aload_n hx hb d_X_bring_91 rfl (lv_at hl 3 rfl) ?_
    refine zz_get (C := R_X) (T := F_X) (N := 27) (v := .ref yM) hx hb hts in_X hown hK hP 0 rfl rfl 1 (by decide) mw_69 rfl d_X_bring_92 ?_
    refine lv_iload_n hx hb d_X_bring_95 rfl (lv_at hl 1 rfl) ?_
    refine lv_iconst (v := (3 : Int32)) hx hb d_X_bring_96 (by decide) ?_
    refine lv_iadd hx hb d_X_bring_97 ?_
    refine va_iald hx hb hK hP 1 0 rfl rfl (in_w1 ha (by decide)) d_X_bring_98 ?_
    refine zz_iast (w' := [oX yX yM yD yA yO yL yH yI (upd (upd (upd v_x 1 (if ((v_M (ix ((s_X_wordsOf ((v_o (ix (3 : Int32))) &&& (31 : Int32))) + (1 : Int32)))) &&& (3 : Int32)) = (3 : Int32) then (2 : Int32) else ((v_M (ix ((s_X_wordsOf ((v_o (ix (3 : Int32))) &&& (31 : Int32))) + (1 : Int32)))) &&& (3 : Int32)))) 2 (((v_M (ix ((s_X_wordsOf ((v_o (ix (3 : Int32))) &&& (31 : Int32))) + (1 : Int32)))) >>> ((2 : Int32) &&& 31)) &&& (1 : Int32))) 3 (((v_M (ix ((s_X_wordsOf ((v_o (ix (3 : Int32))) &&& (31 : Int32))) + (1 : Int32)))) >>> ((3 : Int32) &&& 31)) &&& (15 : Int32))), ar cI yM 512 v_M, ar cI yD 8 v_d, ar cI yA 8 (upd (upd v_a (ix (6 : Int32)) (v_M (ix ((s_X_wordsOf ((v_o (ix (3 : Int32))) &&& (31 : Int32))) + (2 : Int32))))) (ix (7 : Int32)) (v_M (ix ((s_X_wordsOf ((v_o (ix (3 : Int32))) &&& (31 : Int32))) + (3 : Int32))))), ar cI yO 4 v_o, ar cI yL 6 v_lo, ar cI yH 6 v_hi, ar cI yI 6 v_ri]) hx hb hK hP hD hS 3 0 rfl rfl (zz_inc (by decide)) d_X_bring_99 rfl (fun H locs hP hD hS => ?_)
    show W p l e _ s m args below meth c _ _ _ _ Q (F0 m 100 ls _)
    refine lv_goto (tgt := 146) hx hb d_X_bring_100 (by decide) ?_
    refine lv_iconst (v := (0 : Int32)) hx hb d_X_bring_146 (by decide) ?_
    refine lv_istore (lv' := [(4, .int (0 : Int32)), (3, .int (s_X_wordsOf ((v_o (ix (3 : Int32))) &&& (31 : Int32)))), (2, .int ((v_o (ix (3 : Int32))) &&& (31 : Int32))), (0, .ref yX), (1, .int (1 : Int32))]) hx hb d_X_bring_147 hl (by decide) rfl (fun ls hl => ?_)
    refine lv_iload hx hb d_X_bring_149 (lv_at hl 0 rfl) ?_
    refine lv_iconst (v := (4 : Int32)) hx hb d_X_bring_151 (by decide) ?_
    refine lv_icmp_ge (tgt := 194) hx hb d_X_bring_152 (by decide) (fun hh => absurd hh (by decide)) (fun _ => ?_)
    refine lv_aload_n hx hb d_X_bring_155 rfl (lv_at hl 3 rfl) ?_
    refine zz_get (C := R_X) (T := F_X) (N := 27) (v := .ref yM) hx hb hts in_X hown hK hP 0 rfl rfl 1 (by decide) mw_69 rfl d_X_bring_156 ?_
    refine lv_iload_n hx hb d_X_bring_159 rfl (lv_at hl 1 rfl) ?_
    refine lv_iconst (v := (4 : Int32)) hx hb d_X_bring_160 (by decide) ?_
    refine lv_iadd hx hb d_X_bring_161 ?_
    refine lv_iload hx hb d_X_bring_162 (lv_at hl 0 rfl) ?_
    refine lv_iadd hx hb d_X_bring_164 ?_
    refine va_iald hx hb hK hP 1 0 rfl rfl (in_w2 ha (by decide)) d_X_bring_165 ?_
    refine lv_istore (lv' := [(5, .int (v_M (ix (((s_X_wordsOf ((v_o (ix (3 : Int32))) &&& (31 : Int32))) + (4 : Int32)) + (0 : Int32))))), (4, .int (0 : Int32)), (3, .int (s_X_wordsOf ((v_o (ix (3 : Int32))) &&& (31 : Int32)))), (2, .int ((v_o (ix (3 : Int32))) &&& (31 : Int32))), (0, .ref yX), (1, .int (1 : Int32))]) hx hb d_X_bring_166 hl (by decide) rfl (fun ls hl => ?_)
    refine lv_aload_n hx hb d_X_bring_168 rfl (lv_at hl 4 rfl) ?_
    refine zz_get (C := R_X) (T := F_X) (N := 27) (v := .ref yD) hx hb hts in_X hown hK hP 0 rfl rfl 2 (by decide) mw_74 rfl d_X_bring_169 ?_
    show W p l e _ s m args below meth c _ _ _ _ Q (F0 m 172 ls _)
    refine lv_iload_n hx hb d_X_bring_172 rfl (lv_at hl 5 rfl) ?_
    refine lv_if_eq (tgt := 183) hx hb d_X_bring_173 (by decide) (fun hh => absurd hh (by decide)) (fun _ => ?_)
    refine lv_iconst (v := (4 : Int32)) hx hb d_X_bring_176 (by decide) ?_
    refine lv_iload hx hb d_X_bring_177 (lv_at hl 1 rfl) ?_
    refine lv_iadd hx hb d_X_bring_179 ?_
    refine lv_topi (fun zz ez => ?_)
    obtain rfl : zz = (4 : Int32) := ez.trans (by decide)
    refine lv_goto (tgt := 185) hx hb d_X_bring_180 (by decide) ?_
    refine lv_iload hx hb d_X_bring_185 (lv_at hl 0 rfl) ?_
    refine zz_iast (w' := [oX yX yM yD yA yO yL yH yI (upd (upd (upd v_x 1 (if ((v_M (ix ((s_X_wordsOf ((v_o (ix (3 : Int32))) &&& (31 : Int32))) + (1 : Int32)))) &&& (3 : Int32)) = (3 : Int32) then (2 : Int32) else ((v_M (ix ((s_X_wordsOf ((v_o (ix (3 : Int32))) &&& (31 : Int32))) + (1 : Int32)))) &&& (3 : Int32)))) 2 (((v_M (ix ((s_X_wordsOf ((v_o (ix (3 : Int32))) &&& (31 : Int32))) + (1 : Int32)))) >>> ((2 : Int32) &&& 31)) &&& (1 : Int32))) 3 (((v_M (ix ((s_X_wordsOf ((v_o (ix (3 : Int32))) &&& (31 : Int32))) + (1 : Int32)))) >>> ((3 : Int32) &&& 31)) &&& (15 : Int32))), ar cI yM 512 v_M, ar cI yD 8 (upd v_d (ix (4 : Int32)) (v_M (ix (((s_X_wordsOf ((v_o (ix (3 : Int32))) &&& (31 : Int32))) + (4 : Int32)) + (0 : Int32))))), ar cI yA 8 (upd (upd v_a (ix (6 : Int32)) (v_M (ix ((s_X_wordsOf ((v_o (ix (3 : Int32))) &&& (31 : Int32))) + (2 : Int32))))) (ix (7 : Int32)) (v_M (ix ((s_X_wordsOf ((v_o (ix (3 : Int32))) &&& (31 : Int32))) + (3 : Int32))))), ar cI yO 4 v_o, ar cI yL 6 v_lo, ar cI yH 6 v_hi, ar cI yI 6 v_ri]) hx hb hK hP hD hS 2 0 rfl rfl (zz_inc (by decide)) d_X_bring_187 rfl (fun H locs hP hD hS => ?_)
    refine lv_iinc (v := (1 : Int32)) (lv' := [(4, .int (1 : Int32)), (5, .int (v_M (ix (((s_X_wordsOf ((v_o (ix (3 : Int32))) &&& (31 : Int32))) + (4 : Int32)) + (0 : Int32))))), (3, .int (s_X_wordsOf ((v_o (ix (3 : Int32))) &&& (31 : Int32)))), (2, .int ((v_o (ix (3 : Int32))) &&& (31 : Int32))), (0, .ref yX), (1, .int (1 : Int32))]) (k := 1) hx hb d_X_bring_188 hl rfl (by decide) (by decide) rfl (fun ls hl => ?_)
    refine lv_goto (tgt := 149) hx hb d_X_bring_191 (by decide) ?_
    refine lv_iload hx hb d_X_bring_149 (lv_at hl 0 rfl) ?_
    refine lv_iconst (v := (4 : Int32)) hx hb d_X_bring_151 (by decide) ?_
    refine lv_icmp_ge (tgt := 194) hx hb d_X_bring_152 (by decide) (fun hh => absurd hh (by decide)) (fun _ => ?_)
    refine lv_aload_n hx hb d_X_bring_155 rfl (lv_at hl 4 rfl) ?_
    refine zz_get (C := R_X) (T := F_X) (N := 27) (v := .ref yM) hx hb hts in_X hown hK hP 0 rfl rfl 1 (by decide) mw_69 rfl d_X_bring_156 ?_
    refine lv_iload_n hx hb d_X_bring_159 rfl (lv_at hl 2 rfl) ?_
    refine lv_iconst (v := (4 : Int32)) hx hb d_X_bring_160 (by decide) ?_
    refine lv_iadd hx hb d_X_bring_161 ?_
    refine lv_iload hx hb d_X_bring_162 (lv_at hl 0 rfl) ?_
    refine lv_iadd hx hb d_X_bring_164 ?_
    refine va_iald hx hb hK hP 1 0 rfl rfl (in_w2 ha (by decide)) d_X_bring_165 ?_
    refine lv_istore (lv' := [(5, .int (v_M (ix (((s_X_wordsOf ((v_o (ix (3 : Int32))) &&& (31 : Int32))) + (4 : Int32)) + (1 : Int32))))), (4, .int (1 : Int32)), (3, .int (s_X_wordsOf ((v_o (ix (3 : Int32))) &&& (31 : Int32)))), (2, .int ((v_o (ix (3 : Int32))) &&& (31 : Int32))), (0, .ref yX), (1, .int (1 : Int32))]) hx hb d_X_bring_166 hl (by decide) rfl (fun ls hl => ?_)
    refine lv_aload_n hx hb d_X_bring_168 rfl (lv_at hl 4 rfl) ?_
    refine zz_get (C := R_X) (T := F_X) (N := 27) (v := .ref yD) hx hb hts in_X hown hK hP 0 rfl rfl 2 (by decide) mw_74 rfl d_X_bring_169 ?_
    show W p l e _ s m args below meth c _ _ _ _ Q (F0 m 172 ls _)
    refine lv_iload_n hx hb d_X_bring_172 rfl (lv_at hl 5 rfl) ?_
    refine lv_if_eq (tgt := 183) hx hb d_X_bring_173 (by decide) (fun hh => absurd hh (by decide)) (fun _ => ?_)
    refine lv_iconst (v := (4 : Int32)) hx hb d_X_bring_176 (by decide) ?_
    refine lv_iload hx hb d_X_bring_177 (lv_at hl 1 rfl) ?_
    refine lv_iadd hx hb d_X_bring_179 ?_
    refine lv_topi (fun zz ez => ?_)
    obtain rfl : zz = (5 : Int32) := ez.trans (by decide)
    refine lv_goto (tgt := 185) hx hb d_X_bring_180 (by decide) ?_
    refine lv_iload hx hb d_X_bring_185 (lv_at hl 0 rfl) ?_
    refine zz_iast (w' := [oX yX yM yD yA yO yL yH yI (upd (upd (upd v_x 1 (if ((v_M (ix ((s_X_wordsOf ((v_o (ix (3 : Int32))) &&& (31 : Int32))) + (1 : Int32)))) &&& (3 : Int32)) = (3 : Int32) then (2 : Int32) else ((v_M (ix ((s_X_wordsOf ((v_o (ix (3 : Int32))) &&& (31 : Int32))) + (1 : Int32)))) &&& (3 : Int32)))) 2 (((v_M (ix ((s_X_wordsOf ((v_o (ix (3 : Int32))) &&& (31 : Int32))) + (1 : Int32)))) >>> ((2 : Int32) &&& 31)) &&& (1 : Int32))) 3 (((v_M (ix ((s_X_wordsOf ((v_o (ix (3 : Int32))) &&& (31 : Int32))) + (1 : Int32)))) >>> ((3 : Int32) &&& 31)) &&& (15 : Int32))), ar cI yM 512 v_M, ar cI yD 8 (upd (upd v_d (ix (4 : Int32)) (v_M (ix (((s_X_wordsOf ((v_o (ix (3 : Int32))) &&& (31 : Int32))) + (4 : Int32)) + (0 : Int32))))) (ix (5 : Int32)) (v_M (ix (((s_X_wordsOf ((v_o (ix (3 : Int32))) &&& (31 : Int32))) + (4 : Int32)) + (1 : Int32))))), ar cI yA 8 (upd (upd v_a (ix (6 : Int32)) (v_M (ix ((s_X_wordsOf ((v_o (ix (3 : Int32))) &&& (31 : Int32))) + (2 : Int32))))) (ix (7 : Int32)) (v_M (ix ((s_X_wordsOf ((v_o (ix (3 : Int32))) &&& (31 : Int32))) + (3 : Int32))))), ar cI yO 4 v_o, ar cI yL 6 v_lo, ar cI yH 6 v_hi, ar cI yI 6 v_ri]) hx hb hK hP hD hS 2 0 rfl rfl (zz_inc (by decide)) d_X_bring_187 rfl (fun H locs hP hD hS => ?_)
    refine lv_iinc (v := (2 : Int32)) (lv' := [(4, .int (2 : Int32)), (5, .int (v_M (ix (((s_X_wordsOf ((v_o (ix (3 : Int32))) &&& (31 : Int32))) + (4 : Int32)) + (1 : Int32))))), (3, .int (s_X_wordsOf ((v_o (ix (3 : Int32))) &&& (31 : Int32)))), (2, .int ((v_o (ix (3 : Int32))) &&& (31 : Int32))), (0, .ref yX), (1, .int (1 : Int32))]) (k := 1) hx hb d_X_bring_188 hl rfl (by decide) (by decide) rfl (fun ls hl => ?_)
    refine lv_goto (tgt := 149) hx hb d_X_bring_191 (by decide) ?_
    refine lv_iload hx hb d_X_bring_149 (lv_at hl 0 rfl) ?_
    refine lv_iconst (v := (4 : Int32)) hx hb d_X_bring_151 (by decide) ?_
    refine lv_icmp_ge (tgt := 194) hx hb d_X_bring_152 (by decide) (fun hh => absurd hh (by decide)) (fun _ => ?_)
    refine lv_aload_n hx hb d_X_bring_155 rfl (lv_at hl 4 rfl) ?_
    refine zz_get (C := R_X) (T := F_X) (N := 27) (v := .ref yM) hx hb hts in_X hown hK hP 0 rfl rfl 1 (by decide) mw_69 rfl d_X_bring_156 ?_
    refine lv_iload_n hx hb d_X_bring_159 rfl (lv_at hl 2 rfl) ?_
    refine lv_iconst (v := (4 : Int32)) hx hb d_X_bring_160 (by decide) ?_
    refine lv_iadd hx hb d_X_bring_161 ?_
    refine lv_iload hx hb d_X_bring_162 (lv_at hl 0 rfl) ?_
    refine lv_iadd hx hb d_X_bring_164 ?_
    refine va_iald hx hb hK hP 1 0 rfl rfl (in_w2 ha (by decide)) d_X_bring_165 ?_
    refine lv_istore (lv' := [(5, .int (v_M (ix (((s_X_wordsOf ((v_o (ix (3 : Int32))) &&& (31 : Int32))) + (4 : Int32)) + (2 : Int32))))), (4, .int (2 : Int32)), (3, .int (s_X_wordsOf ((v_o (ix (3 : Int32))) &&& (31 : Int32)))), (2, .int ((v_o (ix (3 : Int32))) &&& (31 : Int32))), (0, .ref yX), (1, .int (1 : Int32))]) hx hb d_X_bring_166 hl (by decide) rfl (fun ls hl => ?_)
    refine lv_aload_n hx hb d_X_bring_168 rfl (lv_at hl 4 rfl) ?_
    refine zz_get (C := R_X) (T := F_X) (N := 27) (v := .ref yD) hx hb hts in_X hown hK hP 0 rfl rfl 2 (by decide) mw_74 rfl d_X_bring_169 ?_
    show W p l e _ s m args below meth c _ _ _ _ Q (F0 m 172 ls _)
    refine lv_iload_n hx hb d_X_bring_172 rfl (lv_at hl 5 rfl) ?_
    refine lv_if_eq (tgt := 183) hx hb d_X_bring_173 (by decide) (fun hh => absurd hh (by decide)) (fun _ => ?_)
    refine lv_iconst (v := (4 : Int32)) hx hb d_X_bring_176 (by decide) ?_
    refine lv_iload hx hb d_X_bring_177 (lv_at hl 1 rfl) ?_
    refine lv_iadd hx hb d_X_bring_179 ?_
    refine lv_topi (fun zz ez => ?_)
    obtain rfl : zz = (6 : Int32) := ez.trans (by decide)
    refine lv_goto (tgt := 185) hx hb d_X_bring_180 (by decide) ?_
    refine lv_iload hx hb d_X_bring_185 (lv_at hl 0 rfl) ?_
    refine zz_iast (w' := [oX yX yM yD yA yO yL yH yI (upd (upd (upd v_x 1 (if ((v_M (ix ((s_X_wordsOf ((v_o (ix (3 : Int32))) &&& (31 : Int32))) + (1 : Int32)))) &&& (3 : Int32)) = (3 : Int32) then (2 : Int32) else ((v_M (ix ((s_X_wordsOf ((v_o (ix (3 : Int32))) &&& (31 : Int32))) + (1 : Int32)))) &&& (3 : Int32)))) 2 (((v_M (ix ((s_X_wordsOf ((v_o (ix (3 : Int32))) &&& (31 : Int32))) + (1 : Int32)))) >>> ((2 : Int32) &&& 31)) &&& (1 : Int32))) 3 (((v_M (ix ((s_X_wordsOf ((v_o (ix (3 : Int32))) &&& (31 : Int32))) + (1 : Int32)))) >>> ((3 : Int32) &&& 31)) &&& (15 : Int32))), ar cI yM 512 v_M, ar cI yD 8 (upd (upd (upd v_d (ix (4 : Int32)) (v_M (ix (((s_X_wordsOf ((v_o (ix (3 : Int32))) &&& (31 : Int32))) + (4 : Int32)) + (0 : Int32))))) (ix (5 : Int32)) (v_M (ix (((s_X_wordsOf ((v_o (ix (3 : Int32))) &&& (31 : Int32))) + (4 : Int32)) + (1 : Int32))))) (ix (6 : Int32)) (v_M (ix (((s_X_wordsOf ((v_o (ix (3 : Int32))) &&& (31 : Int32))) + (4 : Int32)) + (2 : Int32))))), ar cI yA 8 (upd (upd v_a (ix (6 : Int32)) (v_M (ix ((s_X_wordsOf ((v_o (ix (3 : Int32))) &&& (31 : Int32))) + (2 : Int32))))) (ix (7 : Int32)) (v_M (ix ((s_X_wordsOf ((v_o (ix (3 : Int32))) &&& (31 : Int32))) + (3 : Int32))))), ar cI yO 4 v_o, ar cI yL 6 v_lo, ar cI yH 6 v_hi, ar cI yI 6 v_ri]) hx hb hK hP hD hS 2 0 rfl rfl (zz_inc (by decide)) d_X_bring_187 rfl (fun H locs hP hD hS => ?_)
    refine lv_iinc (v := (3 : Int32)) (lv' := [(4, .int (3 : Int32)), (5, .int (v_M (ix (((s_X_wordsOf ((v_o (ix (3 : Int32))) &&& (31 : Int32))) + (4 : Int32)) + (2 : Int32))))), (3, .int (s_X_wordsOf ((v_o (ix (3 : Int32))) &&& (31 : Int32)))), (2, .int ((v_o (ix (3 : Int32))) &&& (31 : Int32))), (0, .ref yX), (1, .int (1 : Int32))]) (k := 1) hx hb d_X_bring_188 hl rfl (by decide) (by decide) rfl (fun ls hl => ?_)
    refine lv_goto (tgt := 149) hx hb d_X_bring_191 (by decide) ?_
    refine lv_iload hx hb d_X_bring_149 (lv_at hl 0 rfl) ?_
    refine lv_iconst (v := (4 : Int32)) hx hb d_X_bring_151 (by decide) ?_
    refine lv_icmp_ge (tgt := 194) hx hb d_X_bring_152 (by decide) (fun hh => absurd hh (by decide)) (fun _ => ?_)
    refine lv_aload_n hx hb d_X_bring_155 rfl (lv_at hl 4 rfl) ?_
    refine zz_get (C := R_X) (T := F_X) (N := 27) (v := .ref yM) hx hb hts in_X hown hK hP 0 rfl rfl 1 (by decide) mw_69 rfl d_X_bring_156 ?_
    refine lv_iload_n hx hb d_X_bring_159 rfl (lv_at hl 2 rfl) ?_
    refine lv_iconst (v := (4 : Int32)) hx hb d_X_bring_160 (by decide) ?_
    refine lv_iadd hx hb d_X_bring_161 ?_
    refine lv_iload hx hb d_X_bring_162 (lv_at hl 0 rfl) ?_
    refine lv_iadd hx hb d_X_bring_164 ?_
    refine va_iald hx hb hK hP 1 0 rfl rfl (in_w2 ha (by decide)) d_X_bring_165 ?_
    refine lv_istore (lv' := [(5, .int (v_M (ix (((s_X_wordsOf ((v_o (ix (3 : Int32))) &&& (31 : Int32))) + (4 : Int32)) + (3 : Int32))))), (4, .int (3 : Int32)), (3, .int (s_X_wordsOf ((v_o (ix (3 : Int32))) &&& (31 : Int32)))), (2, .int ((v_o (ix (3 : Int32))) &&& (31 : Int32))), (0, .ref yX), (1, .int (1 : Int32))]) hx hb d_X_bring_166 hl (by decide) rfl (fun ls hl => ?_)
    refine lv_aload_n hx hb d_X_bring_168 rfl (lv_at hl 4 rfl) ?_
    refine zz_get (C := R_X) (T := F_X) (N := 27) (v := .ref yD) hx hb hts in_X hown hK hP 0 rfl rfl 2 (by decide) mw_74 rfl d_X_bring_169 ?_
    show W p l e _ s m args below meth c _ _ _ _ Q (F0 m 172 ls _)
    refine lv_iload_n hx hb d_X_bring_172 rfl (lv_at hl 5 rfl) ?_
    refine lv_if_eq (tgt := 183) hx hb d_X_bring_173 (by decide) (fun hh => absurd hh (by decide)) (fun _ => ?_)
    refine lv_iconst (v := (4 : Int32)) hx hb d_X_bring_176 (by decide) ?_
    refine lv_iload hx hb d_X_bring_177 (lv_at hl 1 rfl) ?_
    refine lv_iadd hx hb d_X_bring_179 ?_
    refine lv_topi (fun zz ez => ?_)
    obtain rfl : zz = (7 : Int32) := ez.trans (by decide)
    refine lv_goto (tgt := 185) hx hb d_X_bring_180 (by decide) ?_
    refine lv_iload hx hb d_X_bring_185 (lv_at hl 0 rfl) ?_
    refine zz_iast (w' := [oX yX yM yD yA yO yL yH yI (upd (upd (upd v_x 1 (if ((v_M (ix ((s_X_wordsOf ((v_o (ix (3 : Int32))) &&& (31 : Int32))) + (1 : Int32)))) &&& (3 : Int32)) = (3 : Int32) then (2 : Int32) else ((v_M (ix ((s_X_wordsOf ((v_o (ix (3 : Int32))) &&& (31 : Int32))) + (1 : Int32)))) &&& (3 : Int32)))) 2 (((v_M (ix ((s_X_wordsOf ((v_o (ix (3 : Int32))) &&& (31 : Int32))) + (1 : Int32)))) >>> ((2 : Int32) &&& 31)) &&& (1 : Int32))) 3 (((v_M (ix ((s_X_wordsOf ((v_o (ix (3 : Int32))) &&& (31 : Int32))) + (1 : Int32)))) >>> ((3 : Int32) &&& 31)) &&& (15 : Int32))), ar cI yM 512 v_M, ar cI yD 8 (upd (upd (upd (upd v_d (ix (4 : Int32)) (v_M (ix (((s_X_wordsOf ((v_o (ix (3 : Int32))) &&& (31 : Int32))) + (4 : Int32)) + (0 : Int32))))) (ix (5 : Int32)) (v_M (ix (((s_X_wordsOf ((v_o (ix (3 : Int32))) &&& (31 : Int32))) + (4 : Int32)) + (1 : Int32))))) (ix (6 : Int32)) (v_M (ix (((s_X_wordsOf ((v_o (ix (3 : Int32))) &&& (31 : Int32))) + (4 : Int32)) + (2 : Int32))))) (ix (7 : Int32)) (v_M (ix (((s_X_wordsOf ((v_o (ix (3 : Int32))) &&& (31 : Int32))) + (4 : Int32)) + (3 : Int32))))), ar cI yA 8 (upd (upd v_a (ix (6 : Int32)) (v_M (ix ((s_X_wordsOf ((v_o (ix (3 : Int32))) &&& (31 : Int32))) + (2 : Int32))))) (ix (7 : Int32)) (v_M (ix ((s_X_wordsOf ((v_o (ix (3 : Int32))) &&& (31 : Int32))) + (3 : Int32))))), ar cI yO 4 v_o, ar cI yL 6 v_lo, ar cI yH 6 v_hi, ar cI yI 6 v_ri]) hx hb hK hP hD hS 2 0 rfl rfl (zz_inc (by decide)) d_X_bring_187 rfl (fun H locs hP hD hS => ?_)
    refine lv_iinc (v := (4 : Int32)) (lv' := [(4, .int (4 : Int32)), (5, .int (v_M (ix (((s_X_wordsOf ((v_o (ix (3 : Int32))) &&& (31 : Int32))) + (4 : Int32)) + (3 : Int32))))), (3, .int (s_X_wordsOf ((v_o (ix (3 : Int32))) &&& (31 : Int32)))), (2, .int ((v_o (ix (3 : Int32))) &&& (31 : Int32))), (0, .ref yX), (1, .int (1 : Int32))]) (k := 1) hx hb d_X_bring_188 hl rfl (by decide) (by decide) rfl (fun ls hl => ?_)
    refine lv_goto (tgt := 149) hx hb d_X_bring_191 (by decide) ?_
    refine lv_iload hx hb d_X_bring_149 (lv_at hl 0 rfl) ?_
    refine lv_iconst (v := (4 : Int32)) hx hb d_X_bring_151 (by decide) ?_
    refine lv_icmp_ge (tgt := 194) hx hb d_X_bring_152 (by decide) (fun _ => ?_) (fun hh => absurd hh (by decide))
    refine lv_aload_n hx hb d_X_bring_194 rfl (lv_at hl 4 rfl) ?_
    refine zz_get (C := R_X) (T := F_X) (N := 27) (v := .ref yO) hx hb hts in_X hown hK hP 0 rfl rfl 4 (by decide) mw_68 rfl d_X_bring_195 ?_
    refine lv_iconst (v := (3 : Int32)) hx hb d_X_bring_198 (by decide) ?_
    refine lv_aload_n hx hb d_X_bring_199 rfl (lv_at hl 4 rfl) ?_
    refine zz_get (C := R_X) (T := F_X) (N := 27) (v := .ref yM) hx hb hts in_X hown hK hP 0 rfl rfl 1 (by decide) mw_69 rfl d_X_bring_200 ?_
    refine lv_iload_n hx hb d_X_bring_203 rfl (lv_at hl 2 rfl) ?_
    refine va_iald hx hb hK hP 1 0 rfl rfl (in_w0 ha) d_X_bring_204 ?_
    refine zz_iast (w' := [oX yX yM yD yA yO yL yH yI (upd (upd (upd v_x 1 (if ((v_M (ix ((s_X_wordsOf ((v_o (ix (3 : Int32))) &&& (31 : Int32))) + (1 : Int32)))) &&& (3 : Int32)) = (3 : Int32) then (2 : Int32) else ((v_M (ix ((s_X_wordsOf ((v_o (ix (3 : Int32))) &&& (31 : Int32))) + (1 : Int32)))) &&& (3 : Int32)))) 2 (((v_M (ix ((s_X_wordsOf ((v_o (ix (3 : Int32))) &&& (31 : Int32))) + (1 : Int32)))) >>> ((2 : Int32) &&& 31)) &&& (1 : Int32))) 3 (((v_M (ix ((s_X_wordsOf ((v_o (ix (3 : Int32))) &&& (31 : Int32))) + (1 : Int32)))) >>> ((3 : Int32) &&& 31)) &&& (15 : Int32))), ar cI yM 512 v_M, ar cI yD 8 (upd (upd (upd (upd v_d (ix (4 : Int32)) (v_M (ix (((s_X_wordsOf ((v_o (ix (3 : Int32))) &&& (31 : Int32))) + (4 : Int32)) + (0 : Int32))))) (ix (5 : Int32)) (v_M (ix (((s_X_wordsOf ((v_o (ix (3 : Int32))) &&& (31 : Int32))) + (4 : Int32)) + (1 : Int32))))) (ix (6 : Int32)) (v_M (ix (((s_X_wordsOf ((v_o (ix (3 : Int32))) &&& (31 : Int32))) + (4 : Int32)) + (2 : Int32))))) (ix (7 : Int32)) (v_M (ix (((s_X_wordsOf ((v_o (ix (3 : Int32))) &&& (31 : Int32))) + (4 : Int32)) + (3 : Int32))))), ar cI yA 8 (upd (upd v_a (ix (6 : Int32)) (v_M (ix ((s_X_wordsOf ((v_o (ix (3 : Int32))) &&& (31 : Int32))) + (2 : Int32))))) (ix (7 : Int32)) (v_M (ix ((s_X_wordsOf ((v_o (ix (3 : Int32))) &&& (31 : Int32))) + (3 : Int32))))), ar cI yO 4 (upd v_o (ix (3 : Int32)) (v_M (ix (s_X_wordsOf ((v_o (ix (3 : Int32))) &&& (31 : Int32)))))), ar cI yL 6 v_lo, ar cI yH 6 v_hi, ar cI yI 6 v_ri]) hx hb hK hP hD hS 4 0 rfl rfl (zz_inc (by decide)) d_X_bring_205 rfl (fun H locs hP hD hS => ?_)
    refine lv_aload_n hx hb d_X_bring_206 rfl (lv_at hl 4 rfl) ?_
    refine zz_get (C := R_X) (T := F_X) (N := 27) (v := .ref yM) hx hb hts in_X hown hK hP 0 rfl rfl 1 (by decide) mw_69 rfl d_X_bring_207 ?_
    refine lv_iload_n hx hb d_X_bring_210 rfl (lv_at hl 2 rfl) ?_
    show W p l e _ s m args below meth c _ _ _ _ Q (F0 m 211 ls _)
    refine lv_aload_n hx hb d_X_bring_211 rfl (lv_at hl 4 rfl) ?_
    refine zz_get (C := R_X) (T := F_X) (N := 27) (v := .ref yO) hx hb hts in_X hown hK hP 0 rfl rfl 4 (by decide) mw_68 rfl d_X_bring_212 ?_
    refine lv_iconst (v := (1 : Int32)) hx hb d_X_bring_215 (by decide) ?_
    refine va_iald hx hb hK hP 4 0 rfl rfl (zz_inc (by decide)) d_X_bring_216 ?_
    refine zz_iast (w' := [oX yX yM yD yA yO yL yH yI (upd (upd (upd v_x 1 (if ((v_M (ix ((s_X_wordsOf ((v_o (ix (3 : Int32))) &&& (31 : Int32))) + (1 : Int32)))) &&& (3 : Int32)) = (3 : Int32) then (2 : Int32) else ((v_M (ix ((s_X_wordsOf ((v_o (ix (3 : Int32))) &&& (31 : Int32))) + (1 : Int32)))) &&& (3 : Int32)))) 2 (((v_M (ix ((s_X_wordsOf ((v_o (ix (3 : Int32))) &&& (31 : Int32))) + (1 : Int32)))) >>> ((2 : Int32) &&& 31)) &&& (1 : Int32))) 3 (((v_M (ix ((s_X_wordsOf ((v_o (ix (3 : Int32))) &&& (31 : Int32))) + (1 : Int32)))) >>> ((3 : Int32) &&& 31)) &&& (15 : Int32))), ar cI yM 512 (upd v_M (ix (s_X_wordsOf ((v_o (ix (3 : Int32))) &&& (31 : Int32)))) ((upd v_o (ix (3 : Int32)) (v_M (ix (s_X_wordsOf ((v_o (ix (3 : Int32))) &&& (31 : Int32)))))) (ix (1 : Int32)))), ar cI yD 8 (upd (upd (upd (upd v_d (ix (4 : Int32)) (v_M (ix (((s_X_wordsOf ((v_o (ix (3 : Int32))) &&& (31 : Int32))) + (4 : Int32)) + (0 : Int32))))) (ix (5 : Int32)) (v_M (ix (((s_X_wordsOf ((v_o (ix (3 : Int32))) &&& (31 : Int32))) + (4 : Int32)) + (1 : Int32))))) (ix (6 : Int32)) (v_M (ix (((s_X_wordsOf ((v_o (ix (3 : Int32))) &&& (31 : Int32))) + (4 : Int32)) + (2 : Int32))))) (ix (7 : Int32)) (v_M (ix (((s_X_wordsOf ((v_o (ix (3 : Int32))) &&& (31 : Int32))) + (4 : Int32)) + (3 : Int32))))), ar cI yA 8 (upd (upd v_a (ix (6 : Int32)) (v_M (ix ((s_X_wordsOf ((v_o (ix (3 : Int32))) &&& (31 : Int32))) + (2 : Int32))))) (ix (7 : Int32)) (v_M (ix ((s_X_wordsOf ((v_o (ix (3 : Int32))) &&& (31 : Int32))) + (3 : Int32))))), ar cI yO 4 (upd v_o (ix (3 : Int32)) (v_M (ix (s_X_wordsOf ((v_o (ix (3 : Int32))) &&& (31 : Int32)))))), ar cI yL 6 v_lo, ar cI yH 6 v_hi, ar cI yI 6 v_ri]) hx hb hK hP hD hS 1 0 rfl rfl (in_w0 ha) d_X_bring_217 rfl (fun H locs hP hD hS => ?_)
    refine lv_aload_n hx hb d_X_bring_218 rfl (lv_at hl 4 rfl) ?_
    refine zz_get (C := R_X) (T := F_X) (N := 27) (v := .ref yO) hx hb hts in_X hown hK hP 0 rfl rfl 4 (by decide) mw_68 rfl d_X_bring_219 ?_
    refine lv_iconst (v := (1 : Int32)) hx hb d_X_bring_222 (by decide) ?_
    refine lv_iload_n hx hb d_X_bring_223 rfl (lv_at hl 3 rfl) ?_
    refine zz_iast (w' := [oX yX yM yD yA yO yL yH yI (upd (upd (upd v_x 1 (if ((v_M (ix ((s_X_wordsOf ((v_o (ix (3 : Int32))) &&& (31 : Int32))) + (1 : Int32)))) &&& (3 : Int32)) = (3 : Int32) then (2 : Int32) else ((v_M (ix ((s_X_wordsOf ((v_o (ix (3 : Int32))) &&& (31 : Int32))) + (1 : Int32)))) &&& (3 : Int32)))) 2 (((v_M (ix ((s_X_wordsOf ((v_o (ix (3 : Int32))) &&& (31 : Int32))) + (1 : Int32)))) >>> ((2 : Int32) &&& 31)) &&& (1 : Int32))) 3 (((v_M (ix ((s_X_wordsOf ((v_o (ix (3 : Int32))) &&& (31 : Int32))) + (1 : Int32)))) >>> ((3 : Int32) &&& 31)) &&& (15 : Int32))), ar cI yM 512 (upd v_M (ix (s_X_wordsOf ((v_o (ix (3 : Int32))) &&& (31 : Int32)))) ((upd v_o (ix (3 : Int32)) (v_M (ix (s_X_wordsOf ((v_o (ix (3 : Int32))) &&& (31 : Int32)))))) (ix (1 : Int32)))), ar cI yD 8 (upd (upd (upd (upd v_d (ix (4 : Int32)) (v_M (ix (((s_X_wordsOf ((v_o (ix (3 : Int32))) &&& (31 : Int32))) + (4 : Int32)) + (0 : Int32))))) (ix (5 : Int32)) (v_M (ix (((s_X_wordsOf ((v_o (ix (3 : Int32))) &&& (31 : Int32))) + (4 : Int32)) + (1 : Int32))))) (ix (6 : Int32)) (v_M (ix (((s_X_wordsOf ((v_o (ix (3 : Int32))) &&& (31 : Int32))) + (4 : Int32)) + (2 : Int32))))) (ix (7 : Int32)) (v_M (ix (((s_X_wordsOf ((v_o (ix (3 : Int32))) &&& (31 : Int32))) + (4 : Int32)) + (3 : Int32))))), ar cI yA 8 (upd (upd v_a (ix (6 : Int32)) (v_M (ix ((s_X_wordsOf ((v_o (ix (3 : Int32))) &&& (31 : Int32))) + (2 : Int32))))) (ix (7 : Int32)) (v_M (ix ((s_X_wordsOf ((v_o (ix (3 : Int32))) &&& (31 : Int32))) + (3 : Int32))))), ar cI yO 4 (upd (upd v_o (ix (3 : Int32)) (v_M (ix (s_X_wordsOf ((v_o (ix (3 : Int32))) &&& (31 : Int32)))))) (ix (1 : Int32)) ((v_o (ix (3 : Int32))) &&& (31 : Int32))), ar cI yL 6 v_lo, ar cI yH 6 v_hi, ar cI yI 6 v_ri]) hx hb hK hP hD hS 4 0 rfl rfl (zz_inc (by decide)) d_X_bring_224 rfl (fun H locs hP hD hS => ?_)
    have hsp : s_X_bringU v_x v_M v_d v_a v_o v_lo v_hi v_ri = (upd (upd (upd v_x 1 (if ((v_M (ix ((s_X_wordsOf ((v_o (ix (3 : Int32))) &&& (31 : Int32))) + (1 : Int32)))) &&& (3 : Int32)) = (3 : Int32) then (2 : Int32) else ((v_M (ix ((s_X_wordsOf ((v_o (ix (3 : Int32))) &&& (31 : Int32))) + (1 : Int32)))) &&& (3 : Int32)))) 2 (((v_M (ix ((s_X_wordsOf ((v_o (ix (3 : Int32))) &&& (31 : Int32))) + (1 : Int32)))) >>> ((2 : Int32) &&& 31)) &&& (1 : Int32))) 3 (((v_M (ix ((s_X_wordsOf ((v_o (ix (3 : Int32))) &&& (31 : Int32))) + (1 : Int32)))) >>> ((3 : Int32) &&& 31)) &&& (15 : Int32)), upd v_M (ix (s_X_wordsOf ((v_o (ix (3 : Int32))) &&& (31 : Int32)))) ((upd v_o (ix (3 : Int32)) (v_M (ix (s_X_wordsOf ((v_o (ix (3 : Int32))) &&& (31 : Int32)))))) (ix (1 : Int32))), upd (upd (upd (upd v_d (ix (4 : Int32)) (v_M (ix (((s_X_wordsOf ((v_o (ix (3 : Int32))) &&& (31 : Int32))) + (4 : Int32)) + (0 : Int32))))) (ix (5 : Int32)) (v_M (ix (((s_X_wordsOf ((v_o (ix (3 : Int32))) &&& (31 : Int32))) + (4 : Int32)) + (1 : Int32))))) (ix (6 : Int32)) (v_M (ix (((s_X_wordsOf ((v_o (ix (3 : Int32))) &&& (31 : Int32))) + (4 : Int32)) + (2 : Int32))))) (ix (7 : Int32)) (v_M (ix (((s_X_wordsOf ((v_o (ix (3 : Int32))) &&& (31 : Int32))) + (4 : Int32)) + (3 : Int32)))), upd (upd v_a (ix (6 : Int32)) (v_M (ix ((s_X_wordsOf ((v_o (ix (3 : Int32))) &&& (31 : Int32))) + (2 : Int32))))) (ix (7 : Int32)) (v_M (ix ((s_X_wordsOf ((v_o (ix (3 : Int32))) &&& (31 : Int32))) + (3 : Int32)))), upd (upd v_o (ix (3 : Int32)) (v_M (ix (s_X_wordsOf ((v_o (ix (3 : Int32))) &&& (31 : Int32)))))) (ix (1 : Int32)) ((v_o (ix (3 : Int32))) &&& (31 : Int32))) := rfl
    rw [hsp] at hE
    exact hE _ _ _ _ hP hD hS d_X_bring_225
  refine lv_icmp_ne (tgt := 42) hx hb d_X_bring_35 (by decide) (fun h1 => ?_) (fun h1 => ?_)
  ·
    refine lv_iload hx hb d_X_bring_42 (lv_at hl 0 rfl) ?_
    refine lv_iconst (v := (3 : Int32)) hx hb d_X_bring_44 (by decide) ?_
    refine lv_iand hx hb d_X_bring_45 ?_
    exact J35_1 ((v_M (ix ((s_X_wordsOf ((v_o (ix (3 : Int32))) &&& (31 : Int32))) + (1 : Int32)))) &&& (3 : Int32)) _ _ _ (by rw [if_neg h1]) (lv_sub hl [0, 1, 2, 3, 4] rfl) hP hD hS
  ·
    refine lv_iconst (v := (2 : Int32)) hx hb d_X_bring_38 (by decide) ?_
    refine lv_goto (tgt := 46) hx hb d_X_bring_39 (by decide) ?_
    exact J35_1 (2 : Int32) _ _ _ (by rw [if_pos h1]) (lv_sub hl [0, 1, 2, 3, 4] rfl) hP hD hS
set_option maxHeartbeats 4000000 in
set_option maxRecDepth 100000 in
theorem k_X_keepL (l : Launch) (D : va_G) (cI : ClassId) (sz : Nat) (yX : Nat) (yM : Nat) (yD : Nat) (yA : Nat) (yO : Nat) (yL : Nat) (yH : Nat) (yI : Nat) (v_x : Nat → Int32) (v_M : Nat → Int32) (v_d : Nat → Int32) (v_a : Nat → Int32) (v_o : Nat → Int32) (v_lo : Nat → Int32) (v_hi : Nat → Int32) (v_ri : Nat → Int32) : zMi l y_X_keep (.code y_X_keep b_X_keep 6 (some .boolean) :: wd) { frames := 1, cells := 0, slots := 0, locals := 20 } D classes [(cI, .int)] [.ref yX, .int (0 : Int32)] [oX yX yM yD yA yO yL yH yI v_x, ar cI yM 512 v_M, ar cI yD 8 v_d, ar cI yA 8 v_a, ar cI yO 4 v_o, ar cI yL 6 v_lo, ar cI yH 6 v_hi, ar cI yI 6 v_ri] [oX yX yM yD yA yO yL yH yI ((s_X_keepL v_x v_M v_d v_a v_o v_lo v_hi v_ri).2.1), ar cI yM 512 ((s_X_keepL v_x v_M v_d v_a v_o v_lo v_hi v_ri).2.2.1), ar cI yD 8 v_d, ar cI yA 8 v_a, ar cI yO 4 ((s_X_keepL v_x v_M v_d v_a v_o v_lo v_hi v_ri).2.2.2), ar cI yL 6 v_lo, ar cI yH 6 v_hi, ar cI yI 6 v_ri] sz (s_X_keepL v_x v_M v_d v_a v_o v_lo v_hi v_ri).1 := by
  refine met_i (by decide) (Nat.le_of_ble_eq_true rfl) (zz_nar (bo_X_keepL v_x v_M v_d v_a v_o v_lo v_hi v_ri)) ?_
  intro p e s m args below meth c A Q ls hx hb hml hown hts hK hP hD hS hA hl hE
  have hl : lv_has ls 6 [(0, .ref yX), (1, .int (0 : Int32))] := hl
  have hown : s.vm.findClass R_X = some m.cls := hown
  refine lv_aload_n hx hb d_X_keep_0 rfl (lv_at hl 0 rfl) ?_
  refine zz_get (C := R_X) (T := F_X) (N := 27) (v := .ref yO) hx hb hts in_X hown hK hP 0 rfl rfl 4 (by decide) mw_68 rfl d_X_keep_1 ?_
  refine lv_iconst (v := (1 : Int32)) hx hb d_X_keep_4 (by decide) ?_
  refine va_iald hx hb hK hP 4 0 rfl rfl (zz_inc (by decide)) d_X_keep_5 ?_
  refine lv_bipush (v := (31 : Int32)) hx hb d_X_keep_6 (by decide) ?_
  refine lv_iand hx hb d_X_keep_8 ?_
  refine lv_istore_n (lv' := [(2, .int ((v_o (ix (1 : Int32))) &&& (31 : Int32))), (0, .ref yX), (1, .int (0 : Int32))]) hx hb d_X_keep_9 rfl hl (by decide) rfl (fun ls hl => ?_)
  refine lv_iload_n hx hb d_X_keep_10 rfl (lv_at hl 0 rfl) ?_
  refine zz_cS0 (rest := []) ⟨hx, hb, hml, hown, hts⟩ (k_X_isArea l D cI _ ((v_o (ix (1 : Int32))) &&& (31 : Int32))) g_X_keep_X_isArea_41 nd_X_isArea ⟨⟨rfl, rfl⟩, Nat.le_of_ble_eq_true rfl, Nat.le_of_ble_eq_true rfl⟩ hK hP hD hS hA rfl rfl hl.1 (Nat.le_of_ble_eq_true rfl) d_X_keep_11 ⟨Nat.zero_le _, Nat.zero_le _⟩ (fun H locs hP hD hS => ?_)
  refine lv_if_ne (tgt := 24) hx hb d_X_keep_14 (by decide) (fun h1 => ?_) (fun h1 => ?_)
  ·
    refine lv_iload_n hx hb d_X_keep_24 rfl (lv_at hl 0 rfl) ?_
    refine zz_cS0 (rest := []) ⟨hx, hb, hml, hown, hts⟩ (k_X_wordsOf l D cI _ ((v_o (ix (1 : Int32))) &&& (31 : Int32))) g_X_keep_X_wordsOf_49 nd_X_wordsOf ⟨⟨rfl, rfl⟩, Nat.le_of_ble_eq_true rfl, Nat.le_of_ble_eq_true rfl⟩ hK hP hD hS hA rfl rfl hl.1 (Nat.le_of_ble_eq_true rfl) d_X_keep_25 ⟨Nat.zero_le _, Nat.zero_le _⟩ (fun H locs hP hD hS => ?_)
    refine lv_istore_n (lv' := [(3, .int (s_X_wordsOf ((v_o (ix (1 : Int32))) &&& (31 : Int32)))), (2, .int ((v_o (ix (1 : Int32))) &&& (31 : Int32))), (0, .ref yX), (1, .int (0 : Int32))]) hx hb d_X_keep_28 rfl hl (by decide) rfl (fun ls hl => ?_)
    refine lv_aload_n hx hb d_X_keep_29 rfl (lv_at hl 2 rfl) ?_
    refine zz_get (C := R_X) (T := F_X) (N := 27) (v := .ref yM) hx hb hts in_X hown hK hP 0 rfl rfl 1 (by decide) mw_69 rfl d_X_keep_30 ?_
    refine lv_iload_n hx hb d_X_keep_33 rfl (lv_at hl 0 rfl) ?_
    refine va_iald hx hb hK hP 1 0 rfl rfl (in_w0 h1) d_X_keep_34 ?_
    refine lv_istore (lv' := [(4, .int (v_M (ix (s_X_wordsOf ((v_o (ix (1 : Int32))) &&& (31 : Int32)))))), (3, .int (s_X_wordsOf ((v_o (ix (1 : Int32))) &&& (31 : Int32)))), (2, .int ((v_o (ix (1 : Int32))) &&& (31 : Int32))), (0, .ref yX), (1, .int (0 : Int32))]) hx hb d_X_keep_35 hl (by decide) rfl (fun ls hl => ?_)
    refine lv_aload_n hx hb d_X_keep_37 rfl (lv_at hl 3 rfl) ?_
    refine zz_get (C := R_X) (T := F_X) (N := 27) (v := .ref yM) hx hb hts in_X hown hK hP 0 rfl rfl 1 (by decide) mw_69 rfl d_X_keep_38 ?_
    refine lv_iload_n hx hb d_X_keep_41 rfl (lv_at hl 1 rfl) ?_
    show W p l e _ s m args below meth c _ _ _ _ Q (F0 m 42 ls _)
    refine lv_aload_n hx hb d_X_keep_42 rfl (lv_at hl 3 rfl) ?_
    refine zz_get (C := R_X) (T := F_X) (N := 27) (v := .ref yO) hx hb hts in_X hown hK hP 0 rfl rfl 4 (by decide) mw_68 rfl d_X_keep_43 ?_
    refine lv_iconst (v := (3 : Int32)) hx hb d_X_keep_46 (by decide) ?_
    refine va_iald hx hb hK hP 4 0 rfl rfl (zz_inc (by decide)) d_X_keep_47 ?_
    refine zz_iast (w' := [oX yX yM yD yA yO yL yH yI v_x, ar cI yM 512 (upd v_M (ix (s_X_wordsOf ((v_o (ix (1 : Int32))) &&& (31 : Int32)))) (v_o (ix (3 : Int32)))), ar cI yD 8 v_d, ar cI yA 8 v_a, ar cI yO 4 v_o, ar cI yL 6 v_lo, ar cI yH 6 v_hi, ar cI yI 6 v_ri]) hx hb hK hP hD hS 1 0 rfl rfl (in_w0 h1) d_X_keep_48 rfl (fun H locs hP hD hS => ?_)
    refine lv_aload_n hx hb d_X_keep_49 rfl (lv_at hl 3 rfl) ?_
    refine zz_get (C := R_X) (T := F_X) (N := 27) (v := .ref yM) hx hb hts in_X hown hK hP 0 rfl rfl 1 (by decide) mw_69 rfl d_X_keep_50 ?_
    refine lv_iload_n hx hb d_X_keep_53 rfl (lv_at hl 1 rfl) ?_
    refine lv_iconst (v := (1 : Int32)) hx hb d_X_keep_54 (by decide) ?_
    refine lv_iadd hx hb d_X_keep_55 ?_
    refine lv_iload_n hx hb d_X_keep_56 rfl (lv_at hl 4 rfl) ?_
    refine lv_if_eq (tgt := 82) hx hb d_X_keep_57 (by decide) (fun _ => ?_) (fun hh => absurd hh (by decide))
    refine lv_aload_n hx hb d_X_keep_82 rfl (lv_at hl 3 rfl) ?_
    refine zz_get (C := R_X) (T := F_X) (N := 27) (v := .ref yA) hx hb hts in_X hown hK hP 0 rfl rfl 3 (by decide) mw_73 rfl d_X_keep_83 ?_
    refine lv_bipush (v := (7 : Int32)) hx hb d_X_keep_86 (by decide) ?_
    refine va_iald hx hb hK hP 3 0 rfl rfl (zz_inc (by decide)) d_X_keep_88 ?_
    refine zz_iast (w' := [oX yX yM yD yA yO yL yH yI v_x, ar cI yM 512 (upd (upd v_M (ix (s_X_wordsOf ((v_o (ix (1 : Int32))) &&& (31 : Int32)))) (v_o (ix (3 : Int32)))) (ix ((s_X_wordsOf ((v_o (ix (1 : Int32))) &&& (31 : Int32))) + (1 : Int32))) (v_a (ix (7 : Int32)))), ar cI yD 8 v_d, ar cI yA 8 v_a, ar cI yO 4 v_o, ar cI yL 6 v_lo, ar cI yH 6 v_hi, ar cI yI 6 v_ri]) hx hb hK hP hD hS 1 0 rfl rfl (in_w1 h1 (by decide)) d_X_keep_89 rfl (fun H locs hP hD hS => ?_)
    refine lv_aload_n hx hb d_X_keep_90 rfl (lv_at hl 3 rfl) ?_
    refine zz_get (C := R_X) (T := F_X) (N := 27) (v := .ref yM) hx hb hts in_X hown hK hP 0 rfl rfl 1 (by decide) mw_69 rfl d_X_keep_91 ?_
    refine lv_iload_n hx hb d_X_keep_94 rfl (lv_at hl 1 rfl) ?_
    refine lv_iconst (v := (2 : Int32)) hx hb d_X_keep_95 (by decide) ?_
    refine lv_iadd hx hb d_X_keep_96 ?_
    refine lv_iload_n hx hb d_X_keep_97 rfl (lv_at hl 4 rfl) ?_
    show W p l e _ s m args below meth c _ _ _ _ Q (F0 m 98 ls _)
    refine lv_if_eq (tgt := 111) hx hb d_X_keep_98 (by decide) (fun _ => ?_) (fun hh => absurd hh (by decide))
    refine lv_aload_n hx hb d_X_keep_111 rfl (lv_at hl 3 rfl) ?_
    refine zz_get (C := R_X) (T := F_X) (N := 27) (v := .ref yA) hx hb hts in_X hown hK hP 0 rfl rfl 3 (by decide) mw_73 rfl d_X_keep_112 ?_
    refine lv_iconst (v := (2 : Int32)) hx hb d_X_keep_115 (by decide) ?_
    refine va_iald hx hb hK hP 3 0 rfl rfl (zz_inc (by decide)) d_X_keep_116 ?_
    refine zz_iast (w' := [oX yX yM yD yA yO yL yH yI v_x, ar cI yM 512 (upd (upd (upd v_M (ix (s_X_wordsOf ((v_o (ix (1 : Int32))) &&& (31 : Int32)))) (v_o (ix (3 : Int32)))) (ix ((s_X_wordsOf ((v_o (ix (1 : Int32))) &&& (31 : Int32))) + (1 : Int32))) (v_a (ix (7 : Int32)))) (ix ((s_X_wordsOf ((v_o (ix (1 : Int32))) &&& (31 : Int32))) + (2 : Int32))) (v_a (ix (2 : Int32)))), ar cI yD 8 v_d, ar cI yA 8 v_a, ar cI yO 4 v_o, ar cI yL 6 v_lo, ar cI yH 6 v_hi, ar cI yI 6 v_ri]) hx hb hK hP hD hS 1 0 rfl rfl (in_w1 h1 (by decide)) d_X_keep_117 rfl (fun H locs hP hD hS => ?_)
    refine lv_aload_n hx hb d_X_keep_118 rfl (lv_at hl 3 rfl) ?_
    refine zz_get (C := R_X) (T := F_X) (N := 27) (v := .ref yM) hx hb hts in_X hown hK hP 0 rfl rfl 1 (by decide) mw_69 rfl d_X_keep_119 ?_
    refine lv_iload_n hx hb d_X_keep_122 rfl (lv_at hl 1 rfl) ?_
    refine lv_iconst (v := (3 : Int32)) hx hb d_X_keep_123 (by decide) ?_
    refine lv_iadd hx hb d_X_keep_124 ?_
    refine lv_iload_n hx hb d_X_keep_125 rfl (lv_at hl 4 rfl) ?_
    show W p l e _ s m args below meth c _ _ _ _ Q (F0 m 126 ls _)
    refine lv_if_eq (tgt := 139) hx hb d_X_keep_126 (by decide) (fun _ => ?_) (fun hh => absurd hh (by decide))
    refine lv_aload_n hx hb d_X_keep_139 rfl (lv_at hl 3 rfl) ?_
    refine zz_get (C := R_X) (T := F_X) (N := 27) (v := .ref yA) hx hb hts in_X hown hK hP 0 rfl rfl 3 (by decide) mw_73 rfl d_X_keep_140 ?_
    refine lv_iconst (v := (3 : Int32)) hx hb d_X_keep_143 (by decide) ?_
    refine va_iald hx hb hK hP 3 0 rfl rfl (zz_inc (by decide)) d_X_keep_144 ?_
    refine zz_iast (w' := [oX yX yM yD yA yO yL yH yI v_x, ar cI yM 512 (upd (upd (upd (upd v_M (ix (s_X_wordsOf ((v_o (ix (1 : Int32))) &&& (31 : Int32)))) (v_o (ix (3 : Int32)))) (ix ((s_X_wordsOf ((v_o (ix (1 : Int32))) &&& (31 : Int32))) + (1 : Int32))) (v_a (ix (7 : Int32)))) (ix ((s_X_wordsOf ((v_o (ix (1 : Int32))) &&& (31 : Int32))) + (2 : Int32))) (v_a (ix (2 : Int32)))) (ix ((s_X_wordsOf ((v_o (ix (1 : Int32))) &&& (31 : Int32))) + (3 : Int32))) (v_a (ix (3 : Int32)))), ar cI yD 8 v_d, ar cI yA 8 v_a, ar cI yO 4 v_o, ar cI yL 6 v_lo, ar cI yH 6 v_hi, ar cI yI 6 v_ri]) hx hb hK hP hD hS 1 0 rfl rfl (in_w1 h1 (by decide)) d_X_keep_145 rfl (fun H locs hP hD hS => ?_)
    refine lv_iconst (v := (0 : Int32)) hx hb d_X_keep_146 (by decide) ?_
    refine lv_istore (lv' := [(5, .int (0 : Int32)), (4, .int (v_M (ix (s_X_wordsOf ((v_o (ix (1 : Int32))) &&& (31 : Int32)))))), (3, .int (s_X_wordsOf ((v_o (ix (1 : Int32))) &&& (31 : Int32)))), (2, .int ((v_o (ix (1 : Int32))) &&& (31 : Int32))), (0, .ref yX), (1, .int (0 : Int32))]) hx hb d_X_keep_147 hl (by decide) rfl (fun ls hl => ?_)
    refine lv_iload hx hb d_X_keep_149 (lv_at hl 0 rfl) ?_
    refine lv_iconst (v := (4 : Int32)) hx hb d_X_keep_151 (by decide) ?_
    refine lv_icmp_ge (tgt := 195) hx hb d_X_keep_152 (by decide) (fun hh => absurd hh (by decide)) (fun _ => ?_)
    refine lv_aload_n hx hb d_X_keep_155 rfl (lv_at hl 4 rfl) ?_
    refine zz_get (C := R_X) (T := F_X) (N := 27) (v := .ref yM) hx hb hts in_X hown hK hP 0 rfl rfl 1 (by decide) mw_69 rfl d_X_keep_156 ?_
    refine lv_iload_n hx hb d_X_keep_159 rfl (lv_at hl 2 rfl) ?_
    refine lv_iconst (v := (4 : Int32)) hx hb d_X_keep_160 (by decide) ?_
    refine lv_iadd hx hb d_X_keep_161 ?_
    refine lv_iload hx hb d_X_keep_162 (lv_at hl 0 rfl) ?_
    refine lv_iadd hx hb d_X_keep_164 ?_
    refine lv_iload_n hx hb d_X_keep_165 rfl (lv_at hl 5 rfl) ?_
    refine lv_if_eq (tgt := 181) hx hb d_X_keep_166 (by decide) (fun _ => ?_) (fun hh => absurd hh (by decide))
    refine lv_aload_n hx hb d_X_keep_181 rfl (lv_at hl 4 rfl) ?_
    refine zz_get (C := R_X) (T := F_X) (N := 27) (v := .ref yD) hx hb hts in_X hown hK hP 0 rfl rfl 2 (by decide) mw_74 rfl d_X_keep_182 ?_
    refine lv_iload hx hb d_X_keep_185 (lv_at hl 0 rfl) ?_
    refine va_iald hx hb hK hP 2 0 rfl rfl (zz_inc (by decide)) d_X_keep_187 ?_
    refine zz_iast (w' := [oX yX yM yD yA yO yL yH yI v_x, ar cI yM 512 (upd (upd (upd (upd (upd v_M (ix (s_X_wordsOf ((v_o (ix (1 : Int32))) &&& (31 : Int32)))) (v_o (ix (3 : Int32)))) (ix ((s_X_wordsOf ((v_o (ix (1 : Int32))) &&& (31 : Int32))) + (1 : Int32))) (v_a (ix (7 : Int32)))) (ix ((s_X_wordsOf ((v_o (ix (1 : Int32))) &&& (31 : Int32))) + (2 : Int32))) (v_a (ix (2 : Int32)))) (ix ((s_X_wordsOf ((v_o (ix (1 : Int32))) &&& (31 : Int32))) + (3 : Int32))) (v_a (ix (3 : Int32)))) (ix (((s_X_wordsOf ((v_o (ix (1 : Int32))) &&& (31 : Int32))) + (4 : Int32)) + (0 : Int32))) (v_d (ix (0 : Int32)))), ar cI yD 8 v_d, ar cI yA 8 v_a, ar cI yO 4 v_o, ar cI yL 6 v_lo, ar cI yH 6 v_hi, ar cI yI 6 v_ri]) hx hb hK hP hD hS 1 0 rfl rfl (in_w2 h1 (by decide)) d_X_keep_188 rfl (fun H locs hP hD hS => ?_)
    refine lv_iinc (v := (1 : Int32)) (lv' := [(5, .int (1 : Int32)), (4, .int (v_M (ix (s_X_wordsOf ((v_o (ix (1 : Int32))) &&& (31 : Int32)))))), (3, .int (s_X_wordsOf ((v_o (ix (1 : Int32))) &&& (31 : Int32)))), (2, .int ((v_o (ix (1 : Int32))) &&& (31 : Int32))), (0, .ref yX), (1, .int (0 : Int32))]) (k := 0) hx hb d_X_keep_189 hl rfl (by decide) (by decide) rfl (fun ls hl => ?_)
    refine lv_goto (tgt := 149) hx hb d_X_keep_192 (by decide) ?_
    refine lv_iload hx hb d_X_keep_149 (lv_at hl 0 rfl) ?_
    refine lv_iconst (v := (4 : Int32)) hx hb d_X_keep_151 (by decide) ?_
    refine lv_icmp_ge (tgt := 195) hx hb d_X_keep_152 (by decide) (fun hh => absurd hh (by decide)) (fun _ => ?_)
    refine lv_aload_n hx hb d_X_keep_155 rfl (lv_at hl 4 rfl) ?_
    refine zz_get (C := R_X) (T := F_X) (N := 27) (v := .ref yM) hx hb hts in_X hown hK hP 0 rfl rfl 1 (by decide) mw_69 rfl d_X_keep_156 ?_
    refine lv_iload_n hx hb d_X_keep_159 rfl (lv_at hl 2 rfl) ?_
    refine lv_iconst (v := (4 : Int32)) hx hb d_X_keep_160 (by decide) ?_
    refine lv_iadd hx hb d_X_keep_161 ?_
    refine lv_iload hx hb d_X_keep_162 (lv_at hl 0 rfl) ?_
    refine lv_iadd hx hb d_X_keep_164 ?_
    refine lv_iload_n hx hb d_X_keep_165 rfl (lv_at hl 5 rfl) ?_
    refine lv_if_eq (tgt := 181) hx hb d_X_keep_166 (by decide) (fun _ => ?_) (fun hh => absurd hh (by decide))
    refine lv_aload_n hx hb d_X_keep_181 rfl (lv_at hl 4 rfl) ?_
    refine zz_get (C := R_X) (T := F_X) (N := 27) (v := .ref yD) hx hb hts in_X hown hK hP 0 rfl rfl 2 (by decide) mw_74 rfl d_X_keep_182 ?_
    refine lv_iload hx hb d_X_keep_185 (lv_at hl 0 rfl) ?_
    refine va_iald hx hb hK hP 2 0 rfl rfl (zz_inc (by decide)) d_X_keep_187 ?_
    refine zz_iast (w' := [oX yX yM yD yA yO yL yH yI v_x, ar cI yM 512 (upd (upd (upd (upd (upd (upd v_M (ix (s_X_wordsOf ((v_o (ix (1 : Int32))) &&& (31 : Int32)))) (v_o (ix (3 : Int32)))) (ix ((s_X_wordsOf ((v_o (ix (1 : Int32))) &&& (31 : Int32))) + (1 : Int32))) (v_a (ix (7 : Int32)))) (ix ((s_X_wordsOf ((v_o (ix (1 : Int32))) &&& (31 : Int32))) + (2 : Int32))) (v_a (ix (2 : Int32)))) (ix ((s_X_wordsOf ((v_o (ix (1 : Int32))) &&& (31 : Int32))) + (3 : Int32))) (v_a (ix (3 : Int32)))) (ix (((s_X_wordsOf ((v_o (ix (1 : Int32))) &&& (31 : Int32))) + (4 : Int32)) + (0 : Int32))) (v_d (ix (0 : Int32)))) (ix (((s_X_wordsOf ((v_o (ix (1 : Int32))) &&& (31 : Int32))) + (4 : Int32)) + (1 : Int32))) (v_d (ix (1 : Int32)))), ar cI yD 8 v_d, ar cI yA 8 v_a, ar cI yO 4 v_o, ar cI yL 6 v_lo, ar cI yH 6 v_hi, ar cI yI 6 v_ri]) hx hb hK hP hD hS 1 0 rfl rfl (in_w2 h1 (by decide)) d_X_keep_188 rfl (fun H locs hP hD hS => ?_)
    refine lv_iinc (v := (2 : Int32)) (lv' := [(5, .int (2 : Int32)), (4, .int (v_M (ix (s_X_wordsOf ((v_o (ix (1 : Int32))) &&& (31 : Int32)))))), (3, .int (s_X_wordsOf ((v_o (ix (1 : Int32))) &&& (31 : Int32)))), (2, .int ((v_o (ix (1 : Int32))) &&& (31 : Int32))), (0, .ref yX), (1, .int (0 : Int32))]) (k := 0) hx hb d_X_keep_189 hl rfl (by decide) (by decide) rfl (fun ls hl => ?_)
    refine lv_goto (tgt := 149) hx hb d_X_keep_192 (by decide) ?_
    refine lv_iload hx hb d_X_keep_149 (lv_at hl 0 rfl) ?_
    refine lv_iconst (v := (4 : Int32)) hx hb d_X_keep_151 (by decide) ?_
    refine lv_icmp_ge (tgt := 195) hx hb d_X_keep_152 (by decide) (fun hh => absurd hh (by decide)) (fun _ => ?_)
    refine lv_aload_n hx hb d_X_keep_155 rfl (lv_at hl 4 rfl) ?_
    refine zz_get (C := R_X) (T := F_X) (N := 27) (v := .ref yM) hx hb hts in_X hown hK hP 0 rfl rfl 1 (by decide) mw_69 rfl d_X_keep_156 ?_
    refine lv_iload_n hx hb d_X_keep_159 rfl (lv_at hl 2 rfl) ?_
    refine lv_iconst (v := (4 : Int32)) hx hb d_X_keep_160 (by decide) ?_
    refine lv_iadd hx hb d_X_keep_161 ?_
    refine lv_iload hx hb d_X_keep_162 (lv_at hl 0 rfl) ?_
    refine lv_iadd hx hb d_X_keep_164 ?_
    refine lv_iload_n hx hb d_X_keep_165 rfl (lv_at hl 5 rfl) ?_
    refine lv_if_eq (tgt := 181) hx hb d_X_keep_166 (by decide) (fun _ => ?_) (fun hh => absurd hh (by decide))
    refine lv_aload_n hx hb d_X_keep_181 rfl (lv_at hl 4 rfl) ?_
    refine zz_get (C := R_X) (T := F_X) (N := 27) (v := .ref yD) hx hb hts in_X hown hK hP 0 rfl rfl 2 (by decide) mw_74 rfl d_X_keep_182 ?_
    refine lv_iload hx hb d_X_keep_185 (lv_at hl 0 rfl) ?_
    refine va_iald hx hb hK hP 2 0 rfl rfl (zz_inc (by decide)) d_X_keep_187 ?_
    refine zz_iast (w' := [oX yX yM yD yA yO yL yH yI v_x, ar cI yM 512 (upd (upd (upd (upd (upd (upd (upd v_M (ix (s_X_wordsOf ((v_o (ix (1 : Int32))) &&& (31 : Int32)))) (v_o (ix (3 : Int32)))) (ix ((s_X_wordsOf ((v_o (ix (1 : Int32))) &&& (31 : Int32))) + (1 : Int32))) (v_a (ix (7 : Int32)))) (ix ((s_X_wordsOf ((v_o (ix (1 : Int32))) &&& (31 : Int32))) + (2 : Int32))) (v_a (ix (2 : Int32)))) (ix ((s_X_wordsOf ((v_o (ix (1 : Int32))) &&& (31 : Int32))) + (3 : Int32))) (v_a (ix (3 : Int32)))) (ix (((s_X_wordsOf ((v_o (ix (1 : Int32))) &&& (31 : Int32))) + (4 : Int32)) + (0 : Int32))) (v_d (ix (0 : Int32)))) (ix (((s_X_wordsOf ((v_o (ix (1 : Int32))) &&& (31 : Int32))) + (4 : Int32)) + (1 : Int32))) (v_d (ix (1 : Int32)))) (ix (((s_X_wordsOf ((v_o (ix (1 : Int32))) &&& (31 : Int32))) + (4 : Int32)) + (2 : Int32))) (v_d (ix (2 : Int32)))), ar cI yD 8 v_d, ar cI yA 8 v_a, ar cI yO 4 v_o, ar cI yL 6 v_lo, ar cI yH 6 v_hi, ar cI yI 6 v_ri]) hx hb hK hP hD hS 1 0 rfl rfl (in_w2 h1 (by decide)) d_X_keep_188 rfl (fun H locs hP hD hS => ?_)
    refine lv_iinc (v := (3 : Int32)) (lv' := [(5, .int (3 : Int32)), (4, .int (v_M (ix (s_X_wordsOf ((v_o (ix (1 : Int32))) &&& (31 : Int32)))))), (3, .int (s_X_wordsOf ((v_o (ix (1 : Int32))) &&& (31 : Int32)))), (2, .int ((v_o (ix (1 : Int32))) &&& (31 : Int32))), (0, .ref yX), (1, .int (0 : Int32))]) (k := 0) hx hb d_X_keep_189 hl rfl (by decide) (by decide) rfl (fun ls hl => ?_)
    refine lv_goto (tgt := 149) hx hb d_X_keep_192 (by decide) ?_
    refine lv_iload hx hb d_X_keep_149 (lv_at hl 0 rfl) ?_
    refine lv_iconst (v := (4 : Int32)) hx hb d_X_keep_151 (by decide) ?_
    refine lv_icmp_ge (tgt := 195) hx hb d_X_keep_152 (by decide) (fun hh => absurd hh (by decide)) (fun _ => ?_)
    refine lv_aload_n hx hb d_X_keep_155 rfl (lv_at hl 4 rfl) ?_
    refine zz_get (C := R_X) (T := F_X) (N := 27) (v := .ref yM) hx hb hts in_X hown hK hP 0 rfl rfl 1 (by decide) mw_69 rfl d_X_keep_156 ?_
    refine lv_iload_n hx hb d_X_keep_159 rfl (lv_at hl 2 rfl) ?_
    refine lv_iconst (v := (4 : Int32)) hx hb d_X_keep_160 (by decide) ?_
    refine lv_iadd hx hb d_X_keep_161 ?_
    refine lv_iload hx hb d_X_keep_162 (lv_at hl 0 rfl) ?_
    refine lv_iadd hx hb d_X_keep_164 ?_
    refine lv_iload_n hx hb d_X_keep_165 rfl (lv_at hl 5 rfl) ?_
    refine lv_if_eq (tgt := 181) hx hb d_X_keep_166 (by decide) (fun _ => ?_) (fun hh => absurd hh (by decide))
    refine lv_aload_n hx hb d_X_keep_181 rfl (lv_at hl 4 rfl) ?_
    refine zz_get (C := R_X) (T := F_X) (N := 27) (v := .ref yD) hx hb hts in_X hown hK hP 0 rfl rfl 2 (by decide) mw_74 rfl d_X_keep_182 ?_
    refine lv_iload hx hb d_X_keep_185 (lv_at hl 0 rfl) ?_
    refine va_iald hx hb hK hP 2 0 rfl rfl (zz_inc (by decide)) d_X_keep_187 ?_
    refine zz_iast (w' := [oX yX yM yD yA yO yL yH yI v_x, ar cI yM 512 (upd (upd (upd (upd (upd (upd (upd (upd v_M (ix (s_X_wordsOf ((v_o (ix (1 : Int32))) &&& (31 : Int32)))) (v_o (ix (3 : Int32)))) (ix ((s_X_wordsOf ((v_o (ix (1 : Int32))) &&& (31 : Int32))) + (1 : Int32))) (v_a (ix (7 : Int32)))) (ix ((s_X_wordsOf ((v_o (ix (1 : Int32))) &&& (31 : Int32))) + (2 : Int32))) (v_a (ix (2 : Int32)))) (ix ((s_X_wordsOf ((v_o (ix (1 : Int32))) &&& (31 : Int32))) + (3 : Int32))) (v_a (ix (3 : Int32)))) (ix (((s_X_wordsOf ((v_o (ix (1 : Int32))) &&& (31 : Int32))) + (4 : Int32)) + (0 : Int32))) (v_d (ix (0 : Int32)))) (ix (((s_X_wordsOf ((v_o (ix (1 : Int32))) &&& (31 : Int32))) + (4 : Int32)) + (1 : Int32))) (v_d (ix (1 : Int32)))) (ix (((s_X_wordsOf ((v_o (ix (1 : Int32))) &&& (31 : Int32))) + (4 : Int32)) + (2 : Int32))) (v_d (ix (2 : Int32)))) (ix (((s_X_wordsOf ((v_o (ix (1 : Int32))) &&& (31 : Int32))) + (4 : Int32)) + (3 : Int32))) (v_d (ix (3 : Int32)))), ar cI yD 8 v_d, ar cI yA 8 v_a, ar cI yO 4 v_o, ar cI yL 6 v_lo, ar cI yH 6 v_hi, ar cI yI 6 v_ri]) hx hb hK hP hD hS 1 0 rfl rfl (in_w2 h1 (by decide)) d_X_keep_188 rfl (fun H locs hP hD hS => ?_)
    refine lv_iinc (v := (4 : Int32)) (lv' := [(5, .int (4 : Int32)), (4, .int (v_M (ix (s_X_wordsOf ((v_o (ix (1 : Int32))) &&& (31 : Int32)))))), (3, .int (s_X_wordsOf ((v_o (ix (1 : Int32))) &&& (31 : Int32)))), (2, .int ((v_o (ix (1 : Int32))) &&& (31 : Int32))), (0, .ref yX), (1, .int (0 : Int32))]) (k := 0) hx hb d_X_keep_189 hl rfl (by decide) (by decide) rfl (fun ls hl => ?_)
    refine lv_goto (tgt := 149) hx hb d_X_keep_192 (by decide) ?_
    refine lv_iload hx hb d_X_keep_149 (lv_at hl 0 rfl) ?_
    refine lv_iconst (v := (4 : Int32)) hx hb d_X_keep_151 (by decide) ?_
    refine lv_icmp_ge (tgt := 195) hx hb d_X_keep_152 (by decide) (fun _ => ?_) (fun hh => absurd hh (by decide))
    refine lv_aload_n hx hb d_X_keep_195 rfl (lv_at hl 4 rfl) ?_
    refine zz_get (C := R_X) (T := F_X) (N := 27) (v := .ref yO) hx hb hts in_X hown hK hP 0 rfl rfl 4 (by decide) mw_68 rfl d_X_keep_196 ?_
    refine lv_iconst (v := (1 : Int32)) hx hb d_X_keep_199 (by decide) ?_
    refine lv_iload hx hb d_X_keep_200 (lv_at hl 1 rfl) ?_
    refine zz_iast (w' := [oX yX yM yD yA yO yL yH yI v_x, ar cI yM 512 (upd (upd (upd (upd (upd (upd (upd (upd v_M (ix (s_X_wordsOf ((v_o (ix (1 : Int32))) &&& (31 : Int32)))) (v_o (ix (3 : Int32)))) (ix ((s_X_wordsOf ((v_o (ix (1 : Int32))) &&& (31 : Int32))) + (1 : Int32))) (v_a (ix (7 : Int32)))) (ix ((s_X_wordsOf ((v_o (ix (1 : Int32))) &&& (31 : Int32))) + (2 : Int32))) (v_a (ix (2 : Int32)))) (ix ((s_X_wordsOf ((v_o (ix (1 : Int32))) &&& (31 : Int32))) + (3 : Int32))) (v_a (ix (3 : Int32)))) (ix (((s_X_wordsOf ((v_o (ix (1 : Int32))) &&& (31 : Int32))) + (4 : Int32)) + (0 : Int32))) (v_d (ix (0 : Int32)))) (ix (((s_X_wordsOf ((v_o (ix (1 : Int32))) &&& (31 : Int32))) + (4 : Int32)) + (1 : Int32))) (v_d (ix (1 : Int32)))) (ix (((s_X_wordsOf ((v_o (ix (1 : Int32))) &&& (31 : Int32))) + (4 : Int32)) + (2 : Int32))) (v_d (ix (2 : Int32)))) (ix (((s_X_wordsOf ((v_o (ix (1 : Int32))) &&& (31 : Int32))) + (4 : Int32)) + (3 : Int32))) (v_d (ix (3 : Int32)))), ar cI yD 8 v_d, ar cI yA 8 v_a, ar cI yO 4 (upd v_o (ix (1 : Int32)) (v_M (ix (s_X_wordsOf ((v_o (ix (1 : Int32))) &&& (31 : Int32)))))), ar cI yL 6 v_lo, ar cI yH 6 v_hi, ar cI yI 6 v_ri]) hx hb hK hP hD hS 4 0 rfl rfl (zz_inc (by decide)) d_X_keep_202 rfl (fun H locs hP hD hS => ?_)
    refine lv_aload_n hx hb d_X_keep_203 rfl (lv_at hl 4 rfl) ?_
    refine zz_get (C := R_X) (T := F_X) (N := 27) (v := .ref yO) hx hb hts in_X hown hK hP 0 rfl rfl 4 (by decide) mw_68 rfl d_X_keep_204 ?_
    refine lv_iconst (v := (3 : Int32)) hx hb d_X_keep_207 (by decide) ?_
    refine lv_iload_n hx hb d_X_keep_208 rfl (lv_at hl 3 rfl) ?_
    refine lv_iload_n hx hb d_X_keep_209 rfl (lv_at hl 5 rfl) ?_
    refine lv_if_eq (tgt := 218) hx hb d_X_keep_210 (by decide) (fun _ => ?_) (fun hh => absurd hh (by decide))
    refine lv_iconst (v := (0 : Int32)) hx hb d_X_keep_218 (by decide) ?_
    refine lv_iadd hx hb d_X_keep_219 ?_
    refine lv_sipush (v := (256 : Int32)) hx hb d_X_keep_220 (by decide) ?_
    refine lv_aload_n hx hb d_X_keep_223 rfl (lv_at hl 4 rfl) ?_
    refine zz_get (C := R_X) (T := F_X) (N := 27) (v := .int (v_x 4)) hx hb hts in_X hown hK hP 0 rfl rfl 8 (by decide) mw_75 rfl d_X_keep_224 ?_
    refine lv_imul hx hb d_X_keep_227 ?_
    refine lv_iadd hx hb d_X_keep_228 ?_
    refine lv_aload_n hx hb d_X_keep_229 rfl (lv_at hl 4 rfl) ?_
    refine zz_get (C := R_X) (T := F_X) (N := 27) (v := .int (v_x 5)) hx hb hts in_X hown hK hP 0 rfl rfl 9 (by decide) mw_76 rfl d_X_keep_230 ?_
    have J233_2 : ∀ (vj233_0 : Int32) (ls : Array Slot) (H : Heap) (locs : List Loc), vj233_0 = (if (v_x 5) = 0 then (0 : Int32) else (4096 : Int32)) → lv_has ls 6 [(5, .int (4 : Int32)), (4, .int (v_M (ix (s_X_wordsOf ((v_o (ix (1 : Int32))) &&& (31 : Int32)))))), (3, .int (s_X_wordsOf ((v_o (ix (1 : Int32))) &&& (31 : Int32)))), (2, .int ((v_o (ix (1 : Int32))) &&& (31 : Int32))), (0, .ref yX), (1, .int (0 : Int32))] → va_P D classes [oX yX yM yD yA yO yL yH yI v_x, ar cI yM 512 (upd (upd (upd (upd (upd (upd (upd (upd v_M (ix (s_X_wordsOf ((v_o (ix (1 : Int32))) &&& (31 : Int32)))) (v_o (ix (3 : Int32)))) (ix ((s_X_wordsOf ((v_o (ix (1 : Int32))) &&& (31 : Int32))) + (1 : Int32))) (v_a (ix (7 : Int32)))) (ix ((s_X_wordsOf ((v_o (ix (1 : Int32))) &&& (31 : Int32))) + (2 : Int32))) (v_a (ix (2 : Int32)))) (ix ((s_X_wordsOf ((v_o (ix (1 : Int32))) &&& (31 : Int32))) + (3 : Int32))) (v_a (ix (3 : Int32)))) (ix (((s_X_wordsOf ((v_o (ix (1 : Int32))) &&& (31 : Int32))) + (4 : Int32)) + (0 : Int32))) (v_d (ix (0 : Int32)))) (ix (((s_X_wordsOf ((v_o (ix (1 : Int32))) &&& (31 : Int32))) + (4 : Int32)) + (1 : Int32))) (v_d (ix (1 : Int32)))) (ix (((s_X_wordsOf ((v_o (ix (1 : Int32))) &&& (31 : Int32))) + (4 : Int32)) + (2 : Int32))) (v_d (ix (2 : Int32)))) (ix (((s_X_wordsOf ((v_o (ix (1 : Int32))) &&& (31 : Int32))) + (4 : Int32)) + (3 : Int32))) (v_d (ix (3 : Int32)))), ar cI yD 8 v_d, ar cI yA 8 v_a, ar cI yO 4 (upd v_o (ix (1 : Int32)) (v_M (ix (s_X_wordsOf ((v_o (ix (1 : Int32))) &&& (31 : Int32)))))), ar cI yL 6 v_lo, ar cI yH 6 v_hi, ar cI yI 6 v_ri] H → va_D A [oX yX yM yD yA yO yL yH yI v_x, ar cI yM 512 (upd (upd (upd (upd (upd (upd (upd (upd v_M (ix (s_X_wordsOf ((v_o (ix (1 : Int32))) &&& (31 : Int32)))) (v_o (ix (3 : Int32)))) (ix ((s_X_wordsOf ((v_o (ix (1 : Int32))) &&& (31 : Int32))) + (1 : Int32))) (v_a (ix (7 : Int32)))) (ix ((s_X_wordsOf ((v_o (ix (1 : Int32))) &&& (31 : Int32))) + (2 : Int32))) (v_a (ix (2 : Int32)))) (ix ((s_X_wordsOf ((v_o (ix (1 : Int32))) &&& (31 : Int32))) + (3 : Int32))) (v_a (ix (3 : Int32)))) (ix (((s_X_wordsOf ((v_o (ix (1 : Int32))) &&& (31 : Int32))) + (4 : Int32)) + (0 : Int32))) (v_d (ix (0 : Int32)))) (ix (((s_X_wordsOf ((v_o (ix (1 : Int32))) &&& (31 : Int32))) + (4 : Int32)) + (1 : Int32))) (v_d (ix (1 : Int32)))) (ix (((s_X_wordsOf ((v_o (ix (1 : Int32))) &&& (31 : Int32))) + (4 : Int32)) + (2 : Int32))) (v_d (ix (2 : Int32)))) (ix (((s_X_wordsOf ((v_o (ix (1 : Int32))) &&& (31 : Int32))) + (4 : Int32)) + (3 : Int32))) (v_d (ix (3 : Int32)))), ar cI yD 8 v_d, ar cI yA 8 v_a, ar cI yO 4 (upd v_o (ix (1 : Int32)) (v_M (ix (s_X_wordsOf ((v_o (ix (1 : Int32))) &&& (31 : Int32)))))), ar cI yL 6 v_lo, ar cI yH 6 v_hi, ar cI yI 6 v_ri] → va_S A s.heap H locs → W p l e { frames := 1, cells := 0, slots := 0, locals := 20 } s m args below meth c H locs 0 0 Q (F0 m 243 ls [.int vj233_0, .int ((((v_o (ix (1 : Int32))) &&& (31 : Int32)) + (0 : Int32)) + ((256 : Int32) * (v_x 4))), .int (3 : Int32), .ref yO]) := by
      intro vj233_0 ls H locs evj233_0 hl hP hD hS
      subst evj233_0
      refine lv_iadd hx hb d_X_keep_243 ?_
      refine zz_iast (w' := [oX yX yM yD yA yO yL yH yI v_x, ar cI yM 512 (upd (upd (upd (upd (upd (upd (upd (upd v_M (ix (s_X_wordsOf ((v_o (ix (1 : Int32))) &&& (31 : Int32)))) (v_o (ix (3 : Int32)))) (ix ((s_X_wordsOf ((v_o (ix (1 : Int32))) &&& (31 : Int32))) + (1 : Int32))) (v_a (ix (7 : Int32)))) (ix ((s_X_wordsOf ((v_o (ix (1 : Int32))) &&& (31 : Int32))) + (2 : Int32))) (v_a (ix (2 : Int32)))) (ix ((s_X_wordsOf ((v_o (ix (1 : Int32))) &&& (31 : Int32))) + (3 : Int32))) (v_a (ix (3 : Int32)))) (ix (((s_X_wordsOf ((v_o (ix (1 : Int32))) &&& (31 : Int32))) + (4 : Int32)) + (0 : Int32))) (v_d (ix (0 : Int32)))) (ix (((s_X_wordsOf ((v_o (ix (1 : Int32))) &&& (31 : Int32))) + (4 : Int32)) + (1 : Int32))) (v_d (ix (1 : Int32)))) (ix (((s_X_wordsOf ((v_o (ix (1 : Int32))) &&& (31 : Int32))) + (4 : Int32)) + (2 : Int32))) (v_d (ix (2 : Int32)))) (ix (((s_X_wordsOf ((v_o (ix (1 : Int32))) &&& (31 : Int32))) + (4 : Int32)) + (3 : Int32))) (v_d (ix (3 : Int32)))), ar cI yD 8 v_d, ar cI yA 8 v_a, ar cI yO 4 (upd (upd v_o (ix (1 : Int32)) (v_M (ix (s_X_wordsOf ((v_o (ix (1 : Int32))) &&& (31 : Int32)))))) (ix (3 : Int32)) (((((v_o (ix (1 : Int32))) &&& (31 : Int32)) + (0 : Int32)) + ((256 : Int32) * (v_x 4))) + (if (v_x 5) = 0 then (0 : Int32) else (4096 : Int32)))), ar cI yL 6 v_lo, ar cI yH 6 v_hi, ar cI yI 6 v_ri]) hx hb hK hP hD hS 4 0 rfl rfl (zz_inc (by decide)) d_X_keep_244 rfl (fun H locs hP hD hS => ?_)
      refine lv_aload_n hx hb d_X_keep_245 rfl (lv_at hl 4 rfl) ?_
      refine lv_aload_n hx hb d_X_keep_246 rfl (lv_at hl 4 rfl) ?_
      refine zz_get (C := R_X) (T := F_X) (N := 27) (v := .int (v_x 17)) hx hb hts in_X hown hK hP 0 rfl rfl 24 (by decide) mw_77 rfl d_X_keep_247 ?_
      have J250_4 : ∀ (vj250_0 : Int32) (ls : Array Slot) (H : Heap) (locs : List Loc), vj250_0 = (if (v_x 17) = 0 then (if ((v_M (ix (s_X_wordsOf ((v_o (ix (1 : Int32))) &&& (31 : Int32))))) &&& (31 : Int32)) = ((upd (upd v_o (ix (1 : Int32)) (v_M (ix (s_X_wordsOf ((v_o (ix (1 : Int32))) &&& (31 : Int32)))))) (ix (3 : Int32)) (((((v_o (ix (1 : Int32))) &&& (31 : Int32)) + (0 : Int32)) + ((256 : Int32) * (v_x 4))) + (if (v_x 5) = 0 then (0 : Int32) else (4096 : Int32)))) (ix (2 : Int32))) then (1 : Int32) else (0 : Int32)) else (1 : Int32)) → lv_has ls 6 [(5, .int (4 : Int32)), (4, .int (v_M (ix (s_X_wordsOf ((v_o (ix (1 : Int32))) &&& (31 : Int32)))))), (3, .int (s_X_wordsOf ((v_o (ix (1 : Int32))) &&& (31 : Int32)))), (2, .int ((v_o (ix (1 : Int32))) &&& (31 : Int32))), (0, .ref yX), (1, .int (0 : Int32))] → va_P D classes [oX yX yM yD yA yO yL yH yI v_x, ar cI yM 512 (upd (upd (upd (upd (upd (upd (upd (upd v_M (ix (s_X_wordsOf ((v_o (ix (1 : Int32))) &&& (31 : Int32)))) (v_o (ix (3 : Int32)))) (ix ((s_X_wordsOf ((v_o (ix (1 : Int32))) &&& (31 : Int32))) + (1 : Int32))) (v_a (ix (7 : Int32)))) (ix ((s_X_wordsOf ((v_o (ix (1 : Int32))) &&& (31 : Int32))) + (2 : Int32))) (v_a (ix (2 : Int32)))) (ix ((s_X_wordsOf ((v_o (ix (1 : Int32))) &&& (31 : Int32))) + (3 : Int32))) (v_a (ix (3 : Int32)))) (ix (((s_X_wordsOf ((v_o (ix (1 : Int32))) &&& (31 : Int32))) + (4 : Int32)) + (0 : Int32))) (v_d (ix (0 : Int32)))) (ix (((s_X_wordsOf ((v_o (ix (1 : Int32))) &&& (31 : Int32))) + (4 : Int32)) + (1 : Int32))) (v_d (ix (1 : Int32)))) (ix (((s_X_wordsOf ((v_o (ix (1 : Int32))) &&& (31 : Int32))) + (4 : Int32)) + (2 : Int32))) (v_d (ix (2 : Int32)))) (ix (((s_X_wordsOf ((v_o (ix (1 : Int32))) &&& (31 : Int32))) + (4 : Int32)) + (3 : Int32))) (v_d (ix (3 : Int32)))), ar cI yD 8 v_d, ar cI yA 8 v_a, ar cI yO 4 (upd (upd v_o (ix (1 : Int32)) (v_M (ix (s_X_wordsOf ((v_o (ix (1 : Int32))) &&& (31 : Int32)))))) (ix (3 : Int32)) (((((v_o (ix (1 : Int32))) &&& (31 : Int32)) + (0 : Int32)) + ((256 : Int32) * (v_x 4))) + (if (v_x 5) = 0 then (0 : Int32) else (4096 : Int32)))), ar cI yL 6 v_lo, ar cI yH 6 v_hi, ar cI yI 6 v_ri] H → va_D A [oX yX yM yD yA yO yL yH yI v_x, ar cI yM 512 (upd (upd (upd (upd (upd (upd (upd (upd v_M (ix (s_X_wordsOf ((v_o (ix (1 : Int32))) &&& (31 : Int32)))) (v_o (ix (3 : Int32)))) (ix ((s_X_wordsOf ((v_o (ix (1 : Int32))) &&& (31 : Int32))) + (1 : Int32))) (v_a (ix (7 : Int32)))) (ix ((s_X_wordsOf ((v_o (ix (1 : Int32))) &&& (31 : Int32))) + (2 : Int32))) (v_a (ix (2 : Int32)))) (ix ((s_X_wordsOf ((v_o (ix (1 : Int32))) &&& (31 : Int32))) + (3 : Int32))) (v_a (ix (3 : Int32)))) (ix (((s_X_wordsOf ((v_o (ix (1 : Int32))) &&& (31 : Int32))) + (4 : Int32)) + (0 : Int32))) (v_d (ix (0 : Int32)))) (ix (((s_X_wordsOf ((v_o (ix (1 : Int32))) &&& (31 : Int32))) + (4 : Int32)) + (1 : Int32))) (v_d (ix (1 : Int32)))) (ix (((s_X_wordsOf ((v_o (ix (1 : Int32))) &&& (31 : Int32))) + (4 : Int32)) + (2 : Int32))) (v_d (ix (2 : Int32)))) (ix (((s_X_wordsOf ((v_o (ix (1 : Int32))) &&& (31 : Int32))) + (4 : Int32)) + (3 : Int32))) (v_d (ix (3 : Int32)))), ar cI yD 8 v_d, ar cI yA 8 v_a, ar cI yO 4 (upd (upd v_o (ix (1 : Int32)) (v_M (ix (s_X_wordsOf ((v_o (ix (1 : Int32))) &&& (31 : Int32)))))) (ix (3 : Int32)) (((((v_o (ix (1 : Int32))) &&& (31 : Int32)) + (0 : Int32)) + ((256 : Int32) * (v_x 4))) + (if (v_x 5) = 0 then (0 : Int32) else (4096 : Int32)))), ar cI yL 6 v_lo, ar cI yH 6 v_hi, ar cI yI 6 v_ri] → va_S A s.heap H locs → W p l e { frames := 1, cells := 0, slots := 0, locals := 20 } s m args below meth c H locs 0 0 Q (F0 m 272 ls [.int vj250_0, .ref yX]) := by
        intro vj250_0 ls H locs evj250_0 hl hP hD hS
        subst evj250_0
        refine zz_put (C := R_X) (T := F_X) (N := 27) (w' := [oX yX yM yD yA yO yL yH yI (upd v_x 17 (if (v_x 17) = 0 then (if ((v_M (ix (s_X_wordsOf ((v_o (ix (1 : Int32))) &&& (31 : Int32))))) &&& (31 : Int32)) = ((upd (upd v_o (ix (1 : Int32)) (v_M (ix (s_X_wordsOf ((v_o (ix (1 : Int32))) &&& (31 : Int32)))))) (ix (3 : Int32)) (((((v_o (ix (1 : Int32))) &&& (31 : Int32)) + (0 : Int32)) + ((256 : Int32) * (v_x 4))) + (if (v_x 5) = 0 then (0 : Int32) else (4096 : Int32)))) (ix (2 : Int32))) then (1 : Int32) else (0 : Int32)) else (1 : Int32))), ar cI yM 512 (upd (upd (upd (upd (upd (upd (upd (upd v_M (ix (s_X_wordsOf ((v_o (ix (1 : Int32))) &&& (31 : Int32)))) (v_o (ix (3 : Int32)))) (ix ((s_X_wordsOf ((v_o (ix (1 : Int32))) &&& (31 : Int32))) + (1 : Int32))) (v_a (ix (7 : Int32)))) (ix ((s_X_wordsOf ((v_o (ix (1 : Int32))) &&& (31 : Int32))) + (2 : Int32))) (v_a (ix (2 : Int32)))) (ix ((s_X_wordsOf ((v_o (ix (1 : Int32))) &&& (31 : Int32))) + (3 : Int32))) (v_a (ix (3 : Int32)))) (ix (((s_X_wordsOf ((v_o (ix (1 : Int32))) &&& (31 : Int32))) + (4 : Int32)) + (0 : Int32))) (v_d (ix (0 : Int32)))) (ix (((s_X_wordsOf ((v_o (ix (1 : Int32))) &&& (31 : Int32))) + (4 : Int32)) + (1 : Int32))) (v_d (ix (1 : Int32)))) (ix (((s_X_wordsOf ((v_o (ix (1 : Int32))) &&& (31 : Int32))) + (4 : Int32)) + (2 : Int32))) (v_d (ix (2 : Int32)))) (ix (((s_X_wordsOf ((v_o (ix (1 : Int32))) &&& (31 : Int32))) + (4 : Int32)) + (3 : Int32))) (v_d (ix (3 : Int32)))), ar cI yD 8 v_d, ar cI yA 8 v_a, ar cI yO 4 (upd (upd v_o (ix (1 : Int32)) (v_M (ix (s_X_wordsOf ((v_o (ix (1 : Int32))) &&& (31 : Int32)))))) (ix (3 : Int32)) (((((v_o (ix (1 : Int32))) &&& (31 : Int32)) + (0 : Int32)) + ((256 : Int32) * (v_x 4))) + (if (v_x 5) = 0 then (0 : Int32) else (4096 : Int32)))), ar cI yL 6 v_lo, ar cI yH 6 v_hi, ar cI yI 6 v_ri]) hx hb hts in_X ty_X ty_X_ok n_X hown hK hP hD hS 0 rfl rfl 24 (by decide) mw_77 rfl (zz_nar zz_ite3) (zz_fit zz_ite3) (Nat.le_of_ble_eq_true rfl) d_X_keep_272 rfl (fun H locs hP hD hS => ?_)
        refine lv_iconst (v := (1 : Int32)) hx hb d_X_keep_275 (by decide) ?_
        have hsp : s_X_keepL v_x v_M v_d v_a v_o v_lo v_hi v_ri = ((1 : Int32), upd v_x 17 (if (v_x 17) = 0 then (if ((v_M (ix (s_X_wordsOf ((v_o (ix (1 : Int32))) &&& (31 : Int32))))) &&& (31 : Int32)) = ((upd (upd v_o (ix (1 : Int32)) (v_M (ix (s_X_wordsOf ((v_o (ix (1 : Int32))) &&& (31 : Int32)))))) (ix (3 : Int32)) (((((v_o (ix (1 : Int32))) &&& (31 : Int32)) + (0 : Int32)) + ((256 : Int32) * (v_x 4))) + (if (v_x 5) = 0 then (0 : Int32) else (4096 : Int32)))) (ix (2 : Int32))) then (1 : Int32) else (0 : Int32)) else (1 : Int32)), upd (upd (upd (upd (upd (upd (upd (upd v_M (ix (s_X_wordsOf ((v_o (ix (1 : Int32))) &&& (31 : Int32)))) (v_o (ix (3 : Int32)))) (ix ((s_X_wordsOf ((v_o (ix (1 : Int32))) &&& (31 : Int32))) + (1 : Int32))) (v_a (ix (7 : Int32)))) (ix ((s_X_wordsOf ((v_o (ix (1 : Int32))) &&& (31 : Int32))) + (2 : Int32))) (v_a (ix (2 : Int32)))) (ix ((s_X_wordsOf ((v_o (ix (1 : Int32))) &&& (31 : Int32))) + (3 : Int32))) (v_a (ix (3 : Int32)))) (ix (((s_X_wordsOf ((v_o (ix (1 : Int32))) &&& (31 : Int32))) + (4 : Int32)) + (0 : Int32))) (v_d (ix (0 : Int32)))) (ix (((s_X_wordsOf ((v_o (ix (1 : Int32))) &&& (31 : Int32))) + (4 : Int32)) + (1 : Int32))) (v_d (ix (1 : Int32)))) (ix (((s_X_wordsOf ((v_o (ix (1 : Int32))) &&& (31 : Int32))) + (4 : Int32)) + (2 : Int32))) (v_d (ix (2 : Int32)))) (ix (((s_X_wordsOf ((v_o (ix (1 : Int32))) &&& (31 : Int32))) + (4 : Int32)) + (3 : Int32))) (v_d (ix (3 : Int32))), upd (upd v_o (ix (1 : Int32)) (v_M (ix (s_X_wordsOf ((v_o (ix (1 : Int32))) &&& (31 : Int32)))))) (ix (3 : Int32)) (((((v_o (ix (1 : Int32))) &&& (31 : Int32)) + (0 : Int32)) + ((256 : Int32) * (v_x 4))) + (if (v_x 5) = 0 then (0 : Int32) else (4096 : Int32)))) := (by unfold s_X_keepL; rw [if_neg h1])
        rw [hsp] at hE
        exact hE _ _ _ _ hP hD hS d_X_keep_276
      refine lv_if_ne (tgt := 267) hx hb d_X_keep_250 (by decide) (fun h3 => ?_) (fun h3 => ?_)
      ·
        refine lv_iconst (v := (1 : Int32)) hx hb d_X_keep_267 (by decide) ?_
        refine lv_goto (tgt := 272) hx hb d_X_keep_268 (by decide) ?_
        exact J250_4 (1 : Int32) _ _ _ (by rw [if_neg h3]) (lv_sub hl [0, 1, 2, 3, 4, 5] rfl) hP hD hS
      ·
        refine lv_iload hx hb d_X_keep_253 (lv_at hl 1 rfl) ?_
        refine lv_bipush (v := (31 : Int32)) hx hb d_X_keep_255 (by decide) ?_
        refine lv_iand hx hb d_X_keep_257 ?_
        refine lv_aload_n hx hb d_X_keep_258 rfl (lv_at hl 4 rfl) ?_
        refine zz_get (C := R_X) (T := F_X) (N := 27) (v := .ref yO) hx hb hts in_X hown hK hP 0 rfl rfl 4 (by decide) mw_68 rfl d_X_keep_259 ?_
        refine lv_iconst (v := (2 : Int32)) hx hb d_X_keep_262 (by decide) ?_
        refine va_iald hx hb hK hP 4 0 rfl rfl (zz_inc (by decide)) d_X_keep_263 ?_
        refine lv_icmp_ne (tgt := 271) hx hb d_X_keep_264 (by decide) (fun h4 => ?_) (fun h4 => ?_)
        ·
          refine lv_iconst (v := (0 : Int32)) hx hb d_X_keep_271 (by decide) ?_
          exact J250_4 (0 : Int32) _ _ _ (by rw [if_pos h3, if_neg h4]) (lv_sub hl [0, 1, 2, 3, 4, 5] rfl) hP hD hS
        ·
          refine lv_iconst (v := (1 : Int32)) hx hb d_X_keep_267 (by decide) ?_
          refine lv_goto (tgt := 272) hx hb d_X_keep_268 (by decide) ?_
          exact J250_4 (1 : Int32) _ _ _ (by rw [if_pos h3, if_pos h4]) (lv_sub hl [0, 1, 2, 3, 4, 5] rfl) hP hD hS
    refine lv_if_eq (tgt := 242) hx hb d_X_keep_233 (by decide) (fun h2 => ?_) (fun h2 => ?_)
    ·
      refine lv_iconst (v := (0 : Int32)) hx hb d_X_keep_242 (by decide) ?_
      exact J233_2 (0 : Int32) _ _ _ (by rw [if_pos h2]) (lv_sub hl [0, 1, 2, 3, 4, 5] rfl) hP hD hS
    ·
      refine lv_sipush (v := (4096 : Int32)) hx hb d_X_keep_236 (by decide) ?_
      refine lv_goto (tgt := 243) hx hb d_X_keep_239 (by decide) ?_
      exact J233_2 (4096 : Int32) _ _ _ (by rw [if_neg h2]) (lv_sub hl [0, 1, 2, 3, 4, 5] rfl) hP hD hS
  ·
    refine lv_aload_n hx hb d_X_keep_17 rfl (lv_at hl 1 rfl) ?_
    refine lv_iconst (v := (0 : Int32)) hx hb d_X_keep_18 (by decide) ?_
    refine zz_put (C := R_X) (T := F_X) (N := 27) (w' := [oX yX yM yD yA yO yL yH yI (upd v_x 7 (0 : Int32)), ar cI yM 512 v_M, ar cI yD 8 v_d, ar cI yA 8 v_a, ar cI yO 4 v_o, ar cI yL 6 v_lo, ar cI yH 6 v_hi, ar cI yI 6 v_ri]) hx hb hts in_X ty_X ty_X_ok n_X hown hK hP hD hS 0 rfl rfl 11 (by decide) mw_78 rfl rfl rfl (Nat.le_of_ble_eq_true rfl) d_X_keep_19 rfl (fun H locs hP hD hS => ?_)
    refine lv_iconst (v := (0 : Int32)) hx hb d_X_keep_22 (by decide) ?_
    have hsp : s_X_keepL v_x v_M v_d v_a v_o v_lo v_hi v_ri = ((0 : Int32), upd v_x 7 (0 : Int32), v_M, v_o) := (by unfold s_X_keepL; rw [if_pos h1])
    rw [hsp] at hE
    exact hE _ _ _ _ hP hD hS d_X_keep_23
set_option maxHeartbeats 4000000 in
set_option maxRecDepth 100000 in
theorem k_X_canBringL (l : Launch) (D : va_G) (cI : ClassId) (sz : Nat) (yX : Nat) (yM : Nat) (yD : Nat) (yA : Nat) (yO : Nat) (yL : Nat) (yH : Nat) (yI : Nat) (v_x : Nat → Int32) (v_M : Nat → Int32) (v_d : Nat → Int32) (v_a : Nat → Int32) (v_o : Nat → Int32) (v_lo : Nat → Int32) (v_hi : Nat → Int32) (v_ri : Nat → Int32) : zMi l y_X_canBring (.code y_X_canBring b_X_canBring 3 (some .boolean) :: wd) { frames := 1, cells := 0, slots := 0, locals := 20 } D classes [(cI, .int)] [.ref yX, .int (0 : Int32)] [oX yX yM yD yA yO yL yH yI v_x, ar cI yM 512 v_M, ar cI yD 8 v_d, ar cI yA 8 v_a, ar cI yO 4 v_o, ar cI yL 6 v_lo, ar cI yH 6 v_hi, ar cI yI 6 v_ri] [oX yX yM yD yA yO yL yH yI ((s_X_canBringL v_x v_M v_d v_a v_o v_lo v_hi v_ri).2), ar cI yM 512 v_M, ar cI yD 8 v_d, ar cI yA 8 v_a, ar cI yO 4 v_o, ar cI yL 6 v_lo, ar cI yH 6 v_hi, ar cI yI 6 v_ri] sz (s_X_canBringL v_x v_M v_d v_a v_o v_lo v_hi v_ri).1 := by
  refine met_i (by decide) (Nat.le_of_ble_eq_true rfl) (zz_nar (bo_X_canBringL v_x v_M v_d v_a v_o v_lo v_hi v_ri)) ?_
  intro p e s m args below meth c A Q ls hx hb hml hown hts hK hP hD hS hA hl hE
  have hl : lv_has ls 3 [(0, .ref yX), (1, .int (0 : Int32))] := hl
  have hown : s.vm.findClass R_X = some m.cls := hown
  refine lv_aload_n hx hb d_X_canBring_0 rfl (lv_at hl 0 rfl) ?_
  refine zz_get (C := R_X) (T := F_X) (N := 27) (v := .ref yO) hx hb hts in_X hown hK hP 0 rfl rfl 4 (by decide) mw_68 rfl d_X_canBring_1 ?_
  refine lv_iconst (v := (3 : Int32)) hx hb d_X_canBring_4 (by decide) ?_
  refine va_iald hx hb hK hP 4 0 rfl rfl (zz_inc (by decide)) d_X_canBring_5 ?_
  refine lv_bipush (v := (31 : Int32)) hx hb d_X_canBring_6 (by decide) ?_
  refine lv_iand hx hb d_X_canBring_8 ?_
  refine zz_cS0 (rest := []) ⟨hx, hb, hml, hown, hts⟩ (k_X_isArea l D cI _ ((v_o (ix (3 : Int32))) &&& (31 : Int32))) g_X_canBring_X_isArea_41 nd_X_isArea ⟨⟨rfl, rfl⟩, Nat.le_of_ble_eq_true rfl, Nat.le_of_ble_eq_true rfl⟩ hK hP hD hS hA rfl rfl hl.1 (Nat.le_of_ble_eq_true rfl) d_X_canBring_9 ⟨Nat.zero_le _, Nat.zero_le _⟩ (fun H locs hP hD hS => ?_)
  refine lv_if_ne (tgt := 22) hx hb d_X_canBring_12 (by decide) (fun h1 => ?_) (fun h1 => ?_)
  ·
    refine lv_aload_n hx hb d_X_canBring_22 rfl (lv_at hl 0 rfl) ?_
    refine zz_get (C := R_X) (T := F_X) (N := 27) (v := .ref yO) hx hb hts in_X hown hK hP 0 rfl rfl 4 (by decide) mw_68 rfl d_X_canBring_23 ?_
    refine lv_iconst (v := (3 : Int32)) hx hb d_X_canBring_26 (by decide) ?_
    refine va_iald hx hb hK hP 4 0 rfl rfl (zz_inc (by decide)) d_X_canBring_27 ?_
    refine lv_bipush (v := (32 : Int32)) hx hb d_X_canBring_28 (by decide) ?_
    refine lv_iand hx hb d_X_canBring_30 ?_
    have J31_2 : ∀ (vj31_0 : Int32) (ls : Array Slot) (H : Heap) (locs : List Loc), vj31_0 = (if ((v_o (ix (3 : Int32))) &&& (32 : Int32)) = 0 then (0 : Int32) else (1 : Int32)) → lv_has ls 3 [(0, .ref yX), (1, .int (0 : Int32))] → va_P D classes [oX yX yM yD yA yO yL yH yI v_x, ar cI yM 512 v_M, ar cI yD 8 v_d, ar cI yA 8 v_a, ar cI yO 4 v_o, ar cI yL 6 v_lo, ar cI yH 6 v_hi, ar cI yI 6 v_ri] H → va_D A [oX yX yM yD yA yO yL yH yI v_x, ar cI yM 512 v_M, ar cI yD 8 v_d, ar cI yA 8 v_a, ar cI yO 4 v_o, ar cI yL 6 v_lo, ar cI yH 6 v_hi, ar cI yI 6 v_ri] → va_S A s.heap H locs → W p l e { frames := 1, cells := 0, slots := 0, locals := 20 } s m args below meth c H locs 0 0 Q (F0 m 39 ls [.int vj31_0]) := by
      intro vj31_0 ls H locs evj31_0 hl hP hD hS
      subst evj31_0
      refine lv_iload_n hx hb d_X_canBring_39 rfl (lv_at hl 1 rfl) ?_
      have J40_3 : ∀ (vj40_0 : Int32) (ls : Array Slot) (H : Heap) (locs : List Loc), vj40_0 = (if (if ((v_o (ix (3 : Int32))) &&& (32 : Int32)) = 0 then (0 : Int32) else (1 : Int32)) = (0 : Int32) then (1 : Int32) else (0 : Int32)) → lv_has ls 3 [(0, .ref yX), (1, .int (0 : Int32))] → va_P D classes [oX yX yM yD yA yO yL yH yI v_x, ar cI yM 512 v_M, ar cI yD 8 v_d, ar cI yA 8 v_a, ar cI yO 4 v_o, ar cI yL 6 v_lo, ar cI yH 6 v_hi, ar cI yI 6 v_ri] H → va_D A [oX yX yM yD yA yO yL yH yI v_x, ar cI yM 512 v_M, ar cI yD 8 v_d, ar cI yA 8 v_a, ar cI yO 4 v_o, ar cI yL 6 v_lo, ar cI yH 6 v_hi, ar cI yI 6 v_ri] → va_S A s.heap H locs → W p l e { frames := 1, cells := 0, slots := 0, locals := 20 } s m args below meth c H locs 0 0 Q (F0 m 48 ls [.int vj40_0]) := by
        intro vj40_0 ls H locs evj40_0 hl hP hD hS
        subst evj40_0
        refine lv_istore_n (lv' := [(2, .int (if (if ((v_o (ix (3 : Int32))) &&& (32 : Int32)) = 0 then (0 : Int32) else (1 : Int32)) = (0 : Int32) then (1 : Int32) else (0 : Int32))), (0, .ref yX), (1, .int (0 : Int32))]) hx hb d_X_canBring_48 rfl hl (by decide) rfl (fun ls hl => ?_)
        refine lv_aload_n hx hb d_X_canBring_49 rfl (lv_at hl 1 rfl) ?_
        refine lv_iload_n hx hb d_X_canBring_50 rfl (lv_at hl 0 rfl) ?_
        refine lv_if_eq (tgt := 61) hx hb d_X_canBring_51 (by decide) (fun h4 => ?_) (fun h4 => ?_)
        ·
          refine lv_sipush (v := (772 : Int32)) hx hb d_X_canBring_61 (by decide) ?_
          refine zz_put (C := R_X) (T := F_X) (N := 27) (w' := [oX yX yM yD yA yO yL yH yI (upd v_x 19 (772 : Int32)), ar cI yM 512 v_M, ar cI yD 8 v_d, ar cI yA 8 v_a, ar cI yO 4 v_o, ar cI yL 6 v_lo, ar cI yH 6 v_hi, ar cI yI 6 v_ri]) hx hb hts in_X ty_X ty_X_ok n_X hown hK hP hD hS 0 rfl rfl 26 (by decide) mw_79 rfl rfl rfl (Nat.le_of_ble_eq_true rfl) d_X_canBring_64 rfl (fun H locs hP hD hS => ?_)
          refine lv_iload_n hx hb d_X_canBring_67 rfl (lv_at hl 0 rfl) ?_
          have hsp : s_X_canBringL v_x v_M v_d v_a v_o v_lo v_hi v_ri = ((if (if ((v_o (ix (3 : Int32))) &&& (32 : Int32)) = 0 then (0 : Int32) else (1 : Int32)) = (0 : Int32) then (1 : Int32) else (0 : Int32)), upd v_x 19 (772 : Int32)) := (by unfold s_X_canBringL; rw [if_neg h1, if_pos h4])
          rw [hsp] at hE
          exact hE _ _ _ _ hP hD hS d_X_canBring_68
        ·
          refine lv_aload_n hx hb d_X_canBring_54 rfl (lv_at hl 1 rfl) ?_
          refine zz_get (C := R_X) (T := F_X) (N := 27) (v := .int (v_x 19)) hx hb hts in_X hown hK hP 0 rfl rfl 26 (by decide) mw_79 rfl d_X_canBring_55 ?_
          refine lv_goto (tgt := 64) hx hb d_X_canBring_58 (by decide) ?_
          refine zz_put (C := R_X) (T := F_X) (N := 27) (w' := [oX yX yM yD yA yO yL yH yI (upd v_x 19 (v_x 19)), ar cI yM 512 v_M, ar cI yD 8 v_d, ar cI yA 8 v_a, ar cI yO 4 v_o, ar cI yL 6 v_lo, ar cI yH 6 v_hi, ar cI yI 6 v_ri]) hx hb hts in_X ty_X ty_X_ok n_X hown hK hP hD hS 0 rfl rfl 26 (by decide) mw_79 rfl rfl rfl (Nat.le_of_ble_eq_true rfl) d_X_canBring_64 rfl (fun H locs hP hD hS => ?_)
          refine lv_iload_n hx hb d_X_canBring_67 rfl (lv_at hl 0 rfl) ?_
          have hsp : s_X_canBringL v_x v_M v_d v_a v_o v_lo v_hi v_ri = ((if (if ((v_o (ix (3 : Int32))) &&& (32 : Int32)) = 0 then (0 : Int32) else (1 : Int32)) = (0 : Int32) then (1 : Int32) else (0 : Int32)), upd v_x 19 (v_x 19)) := (by unfold s_X_canBringL; rw [if_neg h1, if_neg h4])
          rw [hsp] at hE
          exact hE _ _ _ _ hP hD hS d_X_canBring_68
      refine lv_icmp_ne (tgt := 47) hx hb d_X_canBring_40 (by decide) (fun h3 => ?_) (fun h3 => ?_)
      ·
        refine lv_iconst (v := (0 : Int32)) hx hb d_X_canBring_47 (by decide) ?_
        exact J40_3 (0 : Int32) _ _ _ (by rw [if_neg h3]) (lv_sub hl [0, 1] rfl) hP hD hS
      ·
        refine lv_iconst (v := (1 : Int32)) hx hb d_X_canBring_43 (by decide) ?_
        refine lv_goto (tgt := 48) hx hb d_X_canBring_44 (by decide) ?_
        exact J40_3 (1 : Int32) _ _ _ (by rw [if_pos h3]) (lv_sub hl [0, 1] rfl) hP hD hS
    refine lv_if_eq (tgt := 38) hx hb d_X_canBring_31 (by decide) (fun h2 => ?_) (fun h2 => ?_)
    ·
      refine lv_iconst (v := (0 : Int32)) hx hb d_X_canBring_38 (by decide) ?_
      exact J31_2 (0 : Int32) _ _ _ (by rw [if_pos h2]) (lv_sub hl [0, 1] rfl) hP hD hS
    ·
      refine lv_iconst (v := (1 : Int32)) hx hb d_X_canBring_34 (by decide) ?_
      refine lv_goto (tgt := 39) hx hb d_X_canBring_35 (by decide) ?_
      exact J31_2 (1 : Int32) _ _ _ (by rw [if_neg h2]) (lv_sub hl [0, 1] rfl) hP hD hS
  ·
    refine lv_aload_n hx hb d_X_canBring_15 rfl (lv_at hl 0 rfl) ?_
    refine lv_iconst (v := (0 : Int32)) hx hb d_X_canBring_16 (by decide) ?_
    refine zz_put (C := R_X) (T := F_X) (N := 27) (w' := [oX yX yM yD yA yO yL yH yI (upd v_x 7 (0 : Int32)), ar cI yM 512 v_M, ar cI yD 8 v_d, ar cI yA 8 v_a, ar cI yO 4 v_o, ar cI yL 6 v_lo, ar cI yH 6 v_hi, ar cI yI 6 v_ri]) hx hb hts in_X ty_X ty_X_ok n_X hown hK hP hD hS 0 rfl rfl 11 (by decide) mw_78 rfl rfl rfl (Nat.le_of_ble_eq_true rfl) d_X_canBring_17 rfl (fun H locs hP hD hS => ?_)
    refine lv_iconst (v := (0 : Int32)) hx hb d_X_canBring_20 (by decide) ?_
    have hsp : s_X_canBringL v_x v_M v_d v_a v_o v_lo v_hi v_ri = ((0 : Int32), upd v_x 7 (0 : Int32)) := (by unfold s_X_canBringL; rw [if_pos h1])
    rw [hsp] at hE
    exact hE _ _ _ _ hP hD hS d_X_canBring_21
set_option maxHeartbeats 4000000 in
set_option maxRecDepth 100000 in
theorem k_X_bringL (l : Launch) (D : va_G) (cI : ClassId) (sz : Nat) (yX : Nat) (yM : Nat) (yD : Nat) (yA : Nat) (yO : Nat) (yL : Nat) (yH : Nat) (yI : Nat) (v_x : Nat → Int32) (v_M : Nat → Int32) (v_d : Nat → Int32) (v_a : Nat → Int32) (v_o : Nat → Int32) (v_lo : Nat → Int32) (v_hi : Nat → Int32) (v_ri : Nat → Int32) (ha : ¬ (s_X_isArea (v_o (ix (3 : Int32)) &&& (31 : Int32))) = 0) : zMv l y_X_bring (.code y_X_bring b_X_bring 6 (none) :: wd) { frames := 1, cells := 0, slots := 0, locals := 20 } D classes [(cI, .int)] [.ref yX, .int (0 : Int32)] [oX yX yM yD yA yO yL yH yI v_x, ar cI yM 512 v_M, ar cI yD 8 v_d, ar cI yA 8 v_a, ar cI yO 4 v_o, ar cI yL 6 v_lo, ar cI yH 6 v_hi, ar cI yI 6 v_ri] [oX yX yM yD yA yO yL yH yI v_x, ar cI yM 512 ((s_X_bringL v_x v_M v_d v_a v_o v_lo v_hi v_ri).1), ar cI yD 8 ((s_X_bringL v_x v_M v_d v_a v_o v_lo v_hi v_ri).2.1), ar cI yA 8 ((s_X_bringL v_x v_M v_d v_a v_o v_lo v_hi v_ri).2.2.1), ar cI yO 4 ((s_X_bringL v_x v_M v_d v_a v_o v_lo v_hi v_ri).2.2.2), ar cI yL 6 v_lo, ar cI yH 6 v_hi, ar cI yI 6 v_ri] sz := by
  refine met_v (by decide) (Nat.le_of_ble_eq_true rfl) ?_
  intro p e s m args below meth c A Q ls hx hb hml hown hts hK hP hD hS hA hl hE
  have hl : lv_has ls 6 [(0, .ref yX), (1, .int (0 : Int32))] := hl
  have hown : s.vm.findClass R_X = some m.cls := hown
  refine lv_aload_n hx hb d_X_bring_0 rfl (lv_at hl 0 rfl) ?_
  refine zz_get (C := R_X) (T := F_X) (N := 27) (v := .ref yO) hx hb hts in_X hown hK hP 0 rfl rfl 4 (by decide) mw_68 rfl d_X_bring_1 ?_
  refine lv_iconst (v := (3 : Int32)) hx hb d_X_bring_4 (by decide) ?_
  refine va_iald hx hb hK hP 4 0 rfl rfl (zz_inc (by decide)) d_X_bring_5 ?_
  refine lv_bipush (v := (31 : Int32)) hx hb d_X_bring_6 (by decide) ?_
  refine lv_iand hx hb d_X_bring_8 ?_
  refine lv_istore_n (lv' := [(2, .int ((v_o (ix (3 : Int32))) &&& (31 : Int32))), (0, .ref yX), (1, .int (0 : Int32))]) hx hb d_X_bring_9 rfl hl (by decide) rfl (fun ls hl => ?_)
  refine lv_iload_n hx hb d_X_bring_10 rfl (lv_at hl 0 rfl) ?_
  refine zz_cS0 (rest := []) ⟨hx, hb, hml, hown, hts⟩ (k_X_wordsOf l D cI _ ((v_o (ix (3 : Int32))) &&& (31 : Int32))) g_X_bring_X_wordsOf_49 nd_X_wordsOf ⟨⟨rfl, rfl⟩, Nat.le_of_ble_eq_true rfl, Nat.le_of_ble_eq_true rfl⟩ hK hP hD hS hA rfl rfl hl.1 (Nat.le_of_ble_eq_true rfl) d_X_bring_11 ⟨Nat.zero_le _, Nat.zero_le _⟩ (fun H locs hP hD hS => ?_)
  refine lv_istore_n (lv' := [(3, .int (s_X_wordsOf ((v_o (ix (3 : Int32))) &&& (31 : Int32)))), (2, .int ((v_o (ix (3 : Int32))) &&& (31 : Int32))), (0, .ref yX), (1, .int (0 : Int32))]) hx hb d_X_bring_14 rfl hl (by decide) rfl (fun ls hl => ?_)
  refine lv_iload_n hx hb d_X_bring_15 rfl (lv_at hl 3 rfl) ?_
  show W p l e _ s m args below meth c _ _ _ _ Q (F0 m 16 ls _)
  refine lv_if_eq (tgt := 103) hx hb d_X_bring_16 (by decide) (fun _ => ?_) (fun hh => absurd hh (by decide))
  refine lv_aload_n hx hb d_X_bring_103 rfl (lv_at hl 2 rfl) ?_
  refine zz_get (C := R_X) (T := F_X) (N := 27) (v := .ref yA) hx hb hts in_X hown hK hP 0 rfl rfl 3 (by decide) mw_73 rfl d_X_bring_104 ?_
  refine lv_bipush (v := (7 : Int32)) hx hb d_X_bring_107 (by decide) ?_
  refine lv_aload_n hx hb d_X_bring_109 rfl (lv_at hl 2 rfl) ?_
  refine zz_get (C := R_X) (T := F_X) (N := 27) (v := .ref yM) hx hb hts in_X hown hK hP 0 rfl rfl 1 (by decide) mw_69 rfl d_X_bring_110 ?_
  refine lv_iload_n hx hb d_X_bring_113 rfl (lv_at hl 0 rfl) ?_
  refine lv_iconst (v := (1 : Int32)) hx hb d_X_bring_114 (by decide) ?_
  refine lv_iadd hx hb d_X_bring_115 ?_
  refine va_iald hx hb hK hP 1 0 rfl rfl (in_w1 ha (by decide)) d_X_bring_116 ?_
  refine zz_iast (w' := [oX yX yM yD yA yO yL yH yI v_x, ar cI yM 512 v_M, ar cI yD 8 v_d, ar cI yA 8 (upd v_a (ix (7 : Int32)) (v_M (ix ((s_X_wordsOf ((v_o (ix (3 : Int32))) &&& (31 : Int32))) + (1 : Int32))))), ar cI yO 4 v_o, ar cI yL 6 v_lo, ar cI yH 6 v_hi, ar cI yI 6 v_ri]) hx hb hK hP hD hS 3 0 rfl rfl (zz_inc (by decide)) d_X_bring_117 rfl (fun H locs hP hD hS => ?_)
  refine lv_aload_n hx hb d_X_bring_118 rfl (lv_at hl 2 rfl) ?_
  show W p l e _ s m args below meth c _ _ _ _ Q (F0 m 119 ls _)
  refine zz_get (C := R_X) (T := F_X) (N := 27) (v := .ref yA) hx hb hts in_X hown hK hP 0 rfl rfl 3 (by decide) mw_73 rfl d_X_bring_119 ?_
  refine lv_iconst (v := (2 : Int32)) hx hb d_X_bring_122 (by decide) ?_
  refine lv_aload_n hx hb d_X_bring_123 rfl (lv_at hl 2 rfl) ?_
  refine zz_get (C := R_X) (T := F_X) (N := 27) (v := .ref yM) hx hb hts in_X hown hK hP 0 rfl rfl 1 (by decide) mw_69 rfl d_X_bring_124 ?_
  refine lv_iload_n hx hb d_X_bring_127 rfl (lv_at hl 0 rfl) ?_
  refine lv_iconst (v := (2 : Int32)) hx hb d_X_bring_128 (by decide) ?_
  refine lv_iadd hx hb d_X_bring_129 ?_
  refine va_iald hx hb hK hP 1 0 rfl rfl (in_w1 ha (by decide)) d_X_bring_130 ?_
  refine zz_iast (w' := [oX yX yM yD yA yO yL yH yI v_x, ar cI yM 512 v_M, ar cI yD 8 v_d, ar cI yA 8 (upd (upd v_a (ix (7 : Int32)) (v_M (ix ((s_X_wordsOf ((v_o (ix (3 : Int32))) &&& (31 : Int32))) + (1 : Int32))))) (ix (2 : Int32)) (v_M (ix ((s_X_wordsOf ((v_o (ix (3 : Int32))) &&& (31 : Int32))) + (2 : Int32))))), ar cI yO 4 v_o, ar cI yL 6 v_lo, ar cI yH 6 v_hi, ar cI yI 6 v_ri]) hx hb hK hP hD hS 3 0 rfl rfl (zz_inc (by decide)) d_X_bring_131 rfl (fun H locs hP hD hS => ?_)
  refine lv_aload_n hx hb d_X_bring_132 rfl (lv_at hl 2 rfl) ?_
  refine zz_get (C := R_X) (T := F_X) (N := 27) (v := .ref yA) hx hb hts in_X hown hK hP 0 rfl rfl 3 (by decide) mw_73 rfl d_X_bring_133 ?_
  refine lv_iconst (v := (3 : Int32)) hx hb d_X_bring_136 (by decide) ?_
  show W p l e _ s m args below meth c _ _ _ _ Q (F0 m 137 ls _)
  refine lv_aload_n hx hb d_X_bring_137 rfl (lv_at hl 2 rfl) ?_
  refine zz_get (C := R_X) (T := F_X) (N := 27) (v := .ref yM) hx hb hts in_X hown hK hP 0 rfl rfl 1 (by decide) mw_69 rfl d_X_bring_138 ?_
  refine lv_iload_n hx hb d_X_bring_141 rfl (lv_at hl 0 rfl) ?_
  refine lv_iconst (v := (3 : Int32)) hx hb d_X_bring_142 (by decide) ?_
  refine lv_iadd hx hb d_X_bring_143 ?_
  refine va_iald hx hb hK hP 1 0 rfl rfl (in_w1 ha (by decide)) d_X_bring_144 ?_
  refine zz_iast (w' := [oX yX yM yD yA yO yL yH yI v_x, ar cI yM 512 v_M, ar cI yD 8 v_d, ar cI yA 8 (upd (upd (upd v_a (ix (7 : Int32)) (v_M (ix ((s_X_wordsOf ((v_o (ix (3 : Int32))) &&& (31 : Int32))) + (1 : Int32))))) (ix (2 : Int32)) (v_M (ix ((s_X_wordsOf ((v_o (ix (3 : Int32))) &&& (31 : Int32))) + (2 : Int32))))) (ix (3 : Int32)) (v_M (ix ((s_X_wordsOf ((v_o (ix (3 : Int32))) &&& (31 : Int32))) + (3 : Int32))))), ar cI yO 4 v_o, ar cI yL 6 v_lo, ar cI yH 6 v_hi, ar cI yI 6 v_ri]) hx hb hK hP hD hS 3 0 rfl rfl (zz_inc (by decide)) d_X_bring_145 rfl (fun H locs hP hD hS => ?_)
  refine lv_iconst (v := (0 : Int32)) hx hb d_X_bring_146 (by decide) ?_
  refine lv_istore (lv' := [(4, .int (0 : Int32)), (3, .int (s_X_wordsOf ((v_o (ix (3 : Int32))) &&& (31 : Int32)))), (2, .int ((v_o (ix (3 : Int32))) &&& (31 : Int32))), (0, .ref yX), (1, .int (0 : Int32))]) hx hb d_X_bring_147 hl (by decide) rfl (fun ls hl => ?_)
  refine lv_iload hx hb d_X_bring_149 (lv_at hl 0 rfl) ?_
  refine lv_iconst (v := (4 : Int32)) hx hb d_X_bring_151 (by decide) ?_
  refine lv_icmp_ge (tgt := 194) hx hb d_X_bring_152 (by decide) (fun hh => absurd hh (by decide)) (fun _ => ?_)
  refine lv_aload_n hx hb d_X_bring_155 rfl (lv_at hl 3 rfl) ?_
  refine zz_get (C := R_X) (T := F_X) (N := 27) (v := .ref yM) hx hb hts in_X hown hK hP 0 rfl rfl 1 (by decide) mw_69 rfl d_X_bring_156 ?_
  refine lv_iload_n hx hb d_X_bring_159 rfl (lv_at hl 1 rfl) ?_
  refine lv_iconst (v := (4 : Int32)) hx hb d_X_bring_160 (by decide) ?_
  refine lv_iadd hx hb d_X_bring_161 ?_
  refine lv_iload hx hb d_X_bring_162 (lv_at hl 0 rfl) ?_
  refine lv_iadd hx hb d_X_bring_164 ?_
  refine va_iald hx hb hK hP 1 0 rfl rfl (in_w2 ha (by decide)) d_X_bring_165 ?_
  refine lv_istore (lv' := [(5, .int (v_M (ix (((s_X_wordsOf ((v_o (ix (3 : Int32))) &&& (31 : Int32))) + (4 : Int32)) + (0 : Int32))))), (4, .int (0 : Int32)), (3, .int (s_X_wordsOf ((v_o (ix (3 : Int32))) &&& (31 : Int32)))), (2, .int ((v_o (ix (3 : Int32))) &&& (31 : Int32))), (0, .ref yX), (1, .int (0 : Int32))]) hx hb d_X_bring_166 hl (by decide) rfl (fun ls hl => ?_)
  refine lv_aload_n hx hb d_X_bring_168 rfl (lv_at hl 4 rfl) ?_
  refine zz_get (C := R_X) (T := F_X) (N := 27) (v := .ref yD) hx hb hts in_X hown hK hP 0 rfl rfl 2 (by decide) mw_74 rfl d_X_bring_169 ?_
  show W p l e _ s m args below meth c _ _ _ _ Q (F0 m 172 ls _)
  refine lv_iload_n hx hb d_X_bring_172 rfl (lv_at hl 5 rfl) ?_
  refine lv_if_eq (tgt := 183) hx hb d_X_bring_173 (by decide) (fun _ => ?_) (fun hh => absurd hh (by decide))
  refine lv_iload hx hb d_X_bring_183 (lv_at hl 1 rfl) ?_
  refine lv_iload hx hb d_X_bring_185 (lv_at hl 0 rfl) ?_
  refine zz_iast (w' := [oX yX yM yD yA yO yL yH yI v_x, ar cI yM 512 v_M, ar cI yD 8 (upd v_d (ix (0 : Int32)) (v_M (ix (((s_X_wordsOf ((v_o (ix (3 : Int32))) &&& (31 : Int32))) + (4 : Int32)) + (0 : Int32))))), ar cI yA 8 (upd (upd (upd v_a (ix (7 : Int32)) (v_M (ix ((s_X_wordsOf ((v_o (ix (3 : Int32))) &&& (31 : Int32))) + (1 : Int32))))) (ix (2 : Int32)) (v_M (ix ((s_X_wordsOf ((v_o (ix (3 : Int32))) &&& (31 : Int32))) + (2 : Int32))))) (ix (3 : Int32)) (v_M (ix ((s_X_wordsOf ((v_o (ix (3 : Int32))) &&& (31 : Int32))) + (3 : Int32))))), ar cI yO 4 v_o, ar cI yL 6 v_lo, ar cI yH 6 v_hi, ar cI yI 6 v_ri]) hx hb hK hP hD hS 2 0 rfl rfl (zz_inc (by decide)) d_X_bring_187 rfl (fun H locs hP hD hS => ?_)
  refine lv_iinc (v := (1 : Int32)) (lv' := [(4, .int (1 : Int32)), (5, .int (v_M (ix (((s_X_wordsOf ((v_o (ix (3 : Int32))) &&& (31 : Int32))) + (4 : Int32)) + (0 : Int32))))), (3, .int (s_X_wordsOf ((v_o (ix (3 : Int32))) &&& (31 : Int32)))), (2, .int ((v_o (ix (3 : Int32))) &&& (31 : Int32))), (0, .ref yX), (1, .int (0 : Int32))]) (k := 1) hx hb d_X_bring_188 hl rfl (by decide) (by decide) rfl (fun ls hl => ?_)
  refine lv_goto (tgt := 149) hx hb d_X_bring_191 (by decide) ?_
  refine lv_iload hx hb d_X_bring_149 (lv_at hl 0 rfl) ?_
  refine lv_iconst (v := (4 : Int32)) hx hb d_X_bring_151 (by decide) ?_
  refine lv_icmp_ge (tgt := 194) hx hb d_X_bring_152 (by decide) (fun hh => absurd hh (by decide)) (fun _ => ?_)
  refine lv_aload_n hx hb d_X_bring_155 rfl (lv_at hl 4 rfl) ?_
  refine zz_get (C := R_X) (T := F_X) (N := 27) (v := .ref yM) hx hb hts in_X hown hK hP 0 rfl rfl 1 (by decide) mw_69 rfl d_X_bring_156 ?_
  refine lv_iload_n hx hb d_X_bring_159 rfl (lv_at hl 2 rfl) ?_
  refine lv_iconst (v := (4 : Int32)) hx hb d_X_bring_160 (by decide) ?_
  refine lv_iadd hx hb d_X_bring_161 ?_
  refine lv_iload hx hb d_X_bring_162 (lv_at hl 0 rfl) ?_
  refine lv_iadd hx hb d_X_bring_164 ?_
  refine va_iald hx hb hK hP 1 0 rfl rfl (in_w2 ha (by decide)) d_X_bring_165 ?_
  refine lv_istore (lv' := [(5, .int (v_M (ix (((s_X_wordsOf ((v_o (ix (3 : Int32))) &&& (31 : Int32))) + (4 : Int32)) + (1 : Int32))))), (4, .int (1 : Int32)), (3, .int (s_X_wordsOf ((v_o (ix (3 : Int32))) &&& (31 : Int32)))), (2, .int ((v_o (ix (3 : Int32))) &&& (31 : Int32))), (0, .ref yX), (1, .int (0 : Int32))]) hx hb d_X_bring_166 hl (by decide) rfl (fun ls hl => ?_)
  refine lv_aload_n hx hb d_X_bring_168 rfl (lv_at hl 4 rfl) ?_
  refine zz_get (C := R_X) (T := F_X) (N := 27) (v := .ref yD) hx hb hts in_X hown hK hP 0 rfl rfl 2 (by decide) mw_74 rfl d_X_bring_169 ?_
  show W p l e _ s m args below meth c _ _ _ _ Q (F0 m 172 ls _)
  refine lv_iload_n hx hb d_X_bring_172 rfl (lv_at hl 5 rfl) ?_
  refine lv_if_eq (tgt := 183) hx hb d_X_bring_173 (by decide) (fun _ => ?_) (fun hh => absurd hh (by decide))
  refine lv_iload hx hb d_X_bring_183 (lv_at hl 1 rfl) ?_
  refine lv_iload hx hb d_X_bring_185 (lv_at hl 0 rfl) ?_
  refine zz_iast (w' := [oX yX yM yD yA yO yL yH yI v_x, ar cI yM 512 v_M, ar cI yD 8 (upd (upd v_d (ix (0 : Int32)) (v_M (ix (((s_X_wordsOf ((v_o (ix (3 : Int32))) &&& (31 : Int32))) + (4 : Int32)) + (0 : Int32))))) (ix (1 : Int32)) (v_M (ix (((s_X_wordsOf ((v_o (ix (3 : Int32))) &&& (31 : Int32))) + (4 : Int32)) + (1 : Int32))))), ar cI yA 8 (upd (upd (upd v_a (ix (7 : Int32)) (v_M (ix ((s_X_wordsOf ((v_o (ix (3 : Int32))) &&& (31 : Int32))) + (1 : Int32))))) (ix (2 : Int32)) (v_M (ix ((s_X_wordsOf ((v_o (ix (3 : Int32))) &&& (31 : Int32))) + (2 : Int32))))) (ix (3 : Int32)) (v_M (ix ((s_X_wordsOf ((v_o (ix (3 : Int32))) &&& (31 : Int32))) + (3 : Int32))))), ar cI yO 4 v_o, ar cI yL 6 v_lo, ar cI yH 6 v_hi, ar cI yI 6 v_ri]) hx hb hK hP hD hS 2 0 rfl rfl (zz_inc (by decide)) d_X_bring_187 rfl (fun H locs hP hD hS => ?_)
  refine lv_iinc (v := (2 : Int32)) (lv' := [(4, .int (2 : Int32)), (5, .int (v_M (ix (((s_X_wordsOf ((v_o (ix (3 : Int32))) &&& (31 : Int32))) + (4 : Int32)) + (1 : Int32))))), (3, .int (s_X_wordsOf ((v_o (ix (3 : Int32))) &&& (31 : Int32)))), (2, .int ((v_o (ix (3 : Int32))) &&& (31 : Int32))), (0, .ref yX), (1, .int (0 : Int32))]) (k := 1) hx hb d_X_bring_188 hl rfl (by decide) (by decide) rfl (fun ls hl => ?_)
  refine lv_goto (tgt := 149) hx hb d_X_bring_191 (by decide) ?_
  refine lv_iload hx hb d_X_bring_149 (lv_at hl 0 rfl) ?_
  refine lv_iconst (v := (4 : Int32)) hx hb d_X_bring_151 (by decide) ?_
  refine lv_icmp_ge (tgt := 194) hx hb d_X_bring_152 (by decide) (fun hh => absurd hh (by decide)) (fun _ => ?_)
  refine lv_aload_n hx hb d_X_bring_155 rfl (lv_at hl 4 rfl) ?_
  refine zz_get (C := R_X) (T := F_X) (N := 27) (v := .ref yM) hx hb hts in_X hown hK hP 0 rfl rfl 1 (by decide) mw_69 rfl d_X_bring_156 ?_
  refine lv_iload_n hx hb d_X_bring_159 rfl (lv_at hl 2 rfl) ?_
  refine lv_iconst (v := (4 : Int32)) hx hb d_X_bring_160 (by decide) ?_
  refine lv_iadd hx hb d_X_bring_161 ?_
  refine lv_iload hx hb d_X_bring_162 (lv_at hl 0 rfl) ?_
  refine lv_iadd hx hb d_X_bring_164 ?_
  refine va_iald hx hb hK hP 1 0 rfl rfl (in_w2 ha (by decide)) d_X_bring_165 ?_
  refine lv_istore (lv' := [(5, .int (v_M (ix (((s_X_wordsOf ((v_o (ix (3 : Int32))) &&& (31 : Int32))) + (4 : Int32)) + (2 : Int32))))), (4, .int (2 : Int32)), (3, .int (s_X_wordsOf ((v_o (ix (3 : Int32))) &&& (31 : Int32)))), (2, .int ((v_o (ix (3 : Int32))) &&& (31 : Int32))), (0, .ref yX), (1, .int (0 : Int32))]) hx hb d_X_bring_166 hl (by decide) rfl (fun ls hl => ?_)
  refine lv_aload_n hx hb d_X_bring_168 rfl (lv_at hl 4 rfl) ?_
  refine zz_get (C := R_X) (T := F_X) (N := 27) (v := .ref yD) hx hb hts in_X hown hK hP 0 rfl rfl 2 (by decide) mw_74 rfl d_X_bring_169 ?_
  show W p l e _ s m args below meth c _ _ _ _ Q (F0 m 172 ls _)
  refine lv_iload_n hx hb d_X_bring_172 rfl (lv_at hl 5 rfl) ?_
  refine lv_if_eq (tgt := 183) hx hb d_X_bring_173 (by decide) (fun _ => ?_) (fun hh => absurd hh (by decide))
  refine lv_iload hx hb d_X_bring_183 (lv_at hl 1 rfl) ?_
  refine lv_iload hx hb d_X_bring_185 (lv_at hl 0 rfl) ?_
  refine zz_iast (w' := [oX yX yM yD yA yO yL yH yI v_x, ar cI yM 512 v_M, ar cI yD 8 (upd (upd (upd v_d (ix (0 : Int32)) (v_M (ix (((s_X_wordsOf ((v_o (ix (3 : Int32))) &&& (31 : Int32))) + (4 : Int32)) + (0 : Int32))))) (ix (1 : Int32)) (v_M (ix (((s_X_wordsOf ((v_o (ix (3 : Int32))) &&& (31 : Int32))) + (4 : Int32)) + (1 : Int32))))) (ix (2 : Int32)) (v_M (ix (((s_X_wordsOf ((v_o (ix (3 : Int32))) &&& (31 : Int32))) + (4 : Int32)) + (2 : Int32))))), ar cI yA 8 (upd (upd (upd v_a (ix (7 : Int32)) (v_M (ix ((s_X_wordsOf ((v_o (ix (3 : Int32))) &&& (31 : Int32))) + (1 : Int32))))) (ix (2 : Int32)) (v_M (ix ((s_X_wordsOf ((v_o (ix (3 : Int32))) &&& (31 : Int32))) + (2 : Int32))))) (ix (3 : Int32)) (v_M (ix ((s_X_wordsOf ((v_o (ix (3 : Int32))) &&& (31 : Int32))) + (3 : Int32))))), ar cI yO 4 v_o, ar cI yL 6 v_lo, ar cI yH 6 v_hi, ar cI yI 6 v_ri]) hx hb hK hP hD hS 2 0 rfl rfl (zz_inc (by decide)) d_X_bring_187 rfl (fun H locs hP hD hS => ?_)
  refine lv_iinc (v := (3 : Int32)) (lv' := [(4, .int (3 : Int32)), (5, .int (v_M (ix (((s_X_wordsOf ((v_o (ix (3 : Int32))) &&& (31 : Int32))) + (4 : Int32)) + (2 : Int32))))), (3, .int (s_X_wordsOf ((v_o (ix (3 : Int32))) &&& (31 : Int32)))), (2, .int ((v_o (ix (3 : Int32))) &&& (31 : Int32))), (0, .ref yX), (1, .int (0 : Int32))]) (k := 1) hx hb d_X_bring_188 hl rfl (by decide) (by decide) rfl (fun ls hl => ?_)
  refine lv_goto (tgt := 149) hx hb d_X_bring_191 (by decide) ?_
  refine lv_iload hx hb d_X_bring_149 (lv_at hl 0 rfl) ?_
  refine lv_iconst (v := (4 : Int32)) hx hb d_X_bring_151 (by decide) ?_
  refine lv_icmp_ge (tgt := 194) hx hb d_X_bring_152 (by decide) (fun hh => absurd hh (by decide)) (fun _ => ?_)
  refine lv_aload_n hx hb d_X_bring_155 rfl (lv_at hl 4 rfl) ?_
  refine zz_get (C := R_X) (T := F_X) (N := 27) (v := .ref yM) hx hb hts in_X hown hK hP 0 rfl rfl 1 (by decide) mw_69 rfl d_X_bring_156 ?_
  refine lv_iload_n hx hb d_X_bring_159 rfl (lv_at hl 2 rfl) ?_
  refine lv_iconst (v := (4 : Int32)) hx hb d_X_bring_160 (by decide) ?_
  refine lv_iadd hx hb d_X_bring_161 ?_
  refine lv_iload hx hb d_X_bring_162 (lv_at hl 0 rfl) ?_
  refine lv_iadd hx hb d_X_bring_164 ?_
  refine va_iald hx hb hK hP 1 0 rfl rfl (in_w2 ha (by decide)) d_X_bring_165 ?_
  refine lv_istore (lv' := [(5, .int (v_M (ix (((s_X_wordsOf ((v_o (ix (3 : Int32))) &&& (31 : Int32))) + (4 : Int32)) + (3 : Int32))))), (4, .int (3 : Int32)), (3, .int (s_X_wordsOf ((v_o (ix (3 : Int32))) &&& (31 : Int32)))), (2, .int ((v_o (ix (3 : Int32))) &&& (31 : Int32))), (0, .ref yX), (1, .int (0 : Int32))]) hx hb d_X_bring_166 hl (by decide) rfl (fun ls hl => ?_)
  refine lv_aload_n hx hb d_X_bring_168 rfl (lv_at hl 4 rfl) ?_
  refine zz_get (C := R_X) (T := F_X) (N := 27) (v := .ref yD) hx hb hts in_X hown hK hP 0 rfl rfl 2 (by decide) mw_74 rfl d_X_bring_169 ?_
  show W p l e _ s m args below meth c _ _ _ _ Q (F0 m 172 ls _)
  refine lv_iload_n hx hb d_X_bring_172 rfl (lv_at hl 5 rfl) ?_
  refine lv_if_eq (tgt := 183) hx hb d_X_bring_173 (by decide) (fun _ => ?_) (fun hh => absurd hh (by decide))
  refine lv_iload hx hb d_X_bring_183 (lv_at hl 1 rfl) ?_
  refine lv_iload hx hb d_X_bring_185 (lv_at hl 0 rfl) ?_
  refine zz_iast (w' := [oX yX yM yD yA yO yL yH yI v_x, ar cI yM 512 v_M, ar cI yD 8 (upd (upd (upd (upd v_d (ix (0 : Int32)) (v_M (ix (((s_X_wordsOf ((v_o (ix (3 : Int32))) &&& (31 : Int32))) + (4 : Int32)) + (0 : Int32))))) (ix (1 : Int32)) (v_M (ix (((s_X_wordsOf ((v_o (ix (3 : Int32))) &&& (31 : Int32))) + (4 : Int32)) + (1 : Int32))))) (ix (2 : Int32)) (v_M (ix (((s_X_wordsOf ((v_o (ix (3 : Int32))) &&& (31 : Int32))) + (4 : Int32)) + (2 : Int32))))) (ix (3 : Int32)) (v_M (ix (((s_X_wordsOf ((v_o (ix (3 : Int32))) &&& (31 : Int32))) + (4 : Int32)) + (3 : Int32))))), ar cI yA 8 (upd (upd (upd v_a (ix (7 : Int32)) (v_M (ix ((s_X_wordsOf ((v_o (ix (3 : Int32))) &&& (31 : Int32))) + (1 : Int32))))) (ix (2 : Int32)) (v_M (ix ((s_X_wordsOf ((v_o (ix (3 : Int32))) &&& (31 : Int32))) + (2 : Int32))))) (ix (3 : Int32)) (v_M (ix ((s_X_wordsOf ((v_o (ix (3 : Int32))) &&& (31 : Int32))) + (3 : Int32))))), ar cI yO 4 v_o, ar cI yL 6 v_lo, ar cI yH 6 v_hi, ar cI yI 6 v_ri]) hx hb hK hP hD hS 2 0 rfl rfl (zz_inc (by decide)) d_X_bring_187 rfl (fun H locs hP hD hS => ?_)
  refine lv_iinc (v := (4 : Int32)) (lv' := [(4, .int (4 : Int32)), (5, .int (v_M (ix (((s_X_wordsOf ((v_o (ix (3 : Int32))) &&& (31 : Int32))) + (4 : Int32)) + (3 : Int32))))), (3, .int (s_X_wordsOf ((v_o (ix (3 : Int32))) &&& (31 : Int32)))), (2, .int ((v_o (ix (3 : Int32))) &&& (31 : Int32))), (0, .ref yX), (1, .int (0 : Int32))]) (k := 1) hx hb d_X_bring_188 hl rfl (by decide) (by decide) rfl (fun ls hl => ?_)
  refine lv_goto (tgt := 149) hx hb d_X_bring_191 (by decide) ?_
  refine lv_iload hx hb d_X_bring_149 (lv_at hl 0 rfl) ?_
  refine lv_iconst (v := (4 : Int32)) hx hb d_X_bring_151 (by decide) ?_
  refine lv_icmp_ge (tgt := 194) hx hb d_X_bring_152 (by decide) (fun _ => ?_) (fun hh => absurd hh (by decide))
  refine lv_aload_n hx hb d_X_bring_194 rfl (lv_at hl 4 rfl) ?_
  refine zz_get (C := R_X) (T := F_X) (N := 27) (v := .ref yO) hx hb hts in_X hown hK hP 0 rfl rfl 4 (by decide) mw_68 rfl d_X_bring_195 ?_
  refine lv_iconst (v := (3 : Int32)) hx hb d_X_bring_198 (by decide) ?_
  refine lv_aload_n hx hb d_X_bring_199 rfl (lv_at hl 4 rfl) ?_
  refine zz_get (C := R_X) (T := F_X) (N := 27) (v := .ref yM) hx hb hts in_X hown hK hP 0 rfl rfl 1 (by decide) mw_69 rfl d_X_bring_200 ?_
  refine lv_iload_n hx hb d_X_bring_203 rfl (lv_at hl 2 rfl) ?_
  refine va_iald hx hb hK hP 1 0 rfl rfl (in_w0 ha) d_X_bring_204 ?_
  refine zz_iast (w' := [oX yX yM yD yA yO yL yH yI v_x, ar cI yM 512 v_M, ar cI yD 8 (upd (upd (upd (upd v_d (ix (0 : Int32)) (v_M (ix (((s_X_wordsOf ((v_o (ix (3 : Int32))) &&& (31 : Int32))) + (4 : Int32)) + (0 : Int32))))) (ix (1 : Int32)) (v_M (ix (((s_X_wordsOf ((v_o (ix (3 : Int32))) &&& (31 : Int32))) + (4 : Int32)) + (1 : Int32))))) (ix (2 : Int32)) (v_M (ix (((s_X_wordsOf ((v_o (ix (3 : Int32))) &&& (31 : Int32))) + (4 : Int32)) + (2 : Int32))))) (ix (3 : Int32)) (v_M (ix (((s_X_wordsOf ((v_o (ix (3 : Int32))) &&& (31 : Int32))) + (4 : Int32)) + (3 : Int32))))), ar cI yA 8 (upd (upd (upd v_a (ix (7 : Int32)) (v_M (ix ((s_X_wordsOf ((v_o (ix (3 : Int32))) &&& (31 : Int32))) + (1 : Int32))))) (ix (2 : Int32)) (v_M (ix ((s_X_wordsOf ((v_o (ix (3 : Int32))) &&& (31 : Int32))) + (2 : Int32))))) (ix (3 : Int32)) (v_M (ix ((s_X_wordsOf ((v_o (ix (3 : Int32))) &&& (31 : Int32))) + (3 : Int32))))), ar cI yO 4 (upd v_o (ix (3 : Int32)) (v_M (ix (s_X_wordsOf ((v_o (ix (3 : Int32))) &&& (31 : Int32)))))), ar cI yL 6 v_lo, ar cI yH 6 v_hi, ar cI yI 6 v_ri]) hx hb hK hP hD hS 4 0 rfl rfl (zz_inc (by decide)) d_X_bring_205 rfl (fun H locs hP hD hS => ?_)
  refine lv_aload_n hx hb d_X_bring_206 rfl (lv_at hl 4 rfl) ?_
  refine zz_get (C := R_X) (T := F_X) (N := 27) (v := .ref yM) hx hb hts in_X hown hK hP 0 rfl rfl 1 (by decide) mw_69 rfl d_X_bring_207 ?_
  refine lv_iload_n hx hb d_X_bring_210 rfl (lv_at hl 2 rfl) ?_
  show W p l e _ s m args below meth c _ _ _ _ Q (F0 m 211 ls _)
  refine lv_aload_n hx hb d_X_bring_211 rfl (lv_at hl 4 rfl) ?_
  refine zz_get (C := R_X) (T := F_X) (N := 27) (v := .ref yO) hx hb hts in_X hown hK hP 0 rfl rfl 4 (by decide) mw_68 rfl d_X_bring_212 ?_
  refine lv_iconst (v := (1 : Int32)) hx hb d_X_bring_215 (by decide) ?_
  refine va_iald hx hb hK hP 4 0 rfl rfl (zz_inc (by decide)) d_X_bring_216 ?_
  refine zz_iast (w' := [oX yX yM yD yA yO yL yH yI v_x, ar cI yM 512 (upd v_M (ix (s_X_wordsOf ((v_o (ix (3 : Int32))) &&& (31 : Int32)))) ((upd v_o (ix (3 : Int32)) (v_M (ix (s_X_wordsOf ((v_o (ix (3 : Int32))) &&& (31 : Int32)))))) (ix (1 : Int32)))), ar cI yD 8 (upd (upd (upd (upd v_d (ix (0 : Int32)) (v_M (ix (((s_X_wordsOf ((v_o (ix (3 : Int32))) &&& (31 : Int32))) + (4 : Int32)) + (0 : Int32))))) (ix (1 : Int32)) (v_M (ix (((s_X_wordsOf ((v_o (ix (3 : Int32))) &&& (31 : Int32))) + (4 : Int32)) + (1 : Int32))))) (ix (2 : Int32)) (v_M (ix (((s_X_wordsOf ((v_o (ix (3 : Int32))) &&& (31 : Int32))) + (4 : Int32)) + (2 : Int32))))) (ix (3 : Int32)) (v_M (ix (((s_X_wordsOf ((v_o (ix (3 : Int32))) &&& (31 : Int32))) + (4 : Int32)) + (3 : Int32))))), ar cI yA 8 (upd (upd (upd v_a (ix (7 : Int32)) (v_M (ix ((s_X_wordsOf ((v_o (ix (3 : Int32))) &&& (31 : Int32))) + (1 : Int32))))) (ix (2 : Int32)) (v_M (ix ((s_X_wordsOf ((v_o (ix (3 : Int32))) &&& (31 : Int32))) + (2 : Int32))))) (ix (3 : Int32)) (v_M (ix ((s_X_wordsOf ((v_o (ix (3 : Int32))) &&& (31 : Int32))) + (3 : Int32))))), ar cI yO 4 (upd v_o (ix (3 : Int32)) (v_M (ix (s_X_wordsOf ((v_o (ix (3 : Int32))) &&& (31 : Int32)))))), ar cI yL 6 v_lo, ar cI yH 6 v_hi, ar cI yI 6 v_ri]) hx hb hK hP hD hS 1 0 rfl rfl (in_w0 ha) d_X_bring_217 rfl (fun H locs hP hD hS => ?_)
  refine lv_aload_n hx hb d_X_bring_218 rfl (lv_at hl 4 rfl) ?_
  refine zz_get (C := R_X) (T := F_X) (N := 27) (v := .ref yO) hx hb hts in_X hown hK hP 0 rfl rfl 4 (by decide) mw_68 rfl d_X_bring_219 ?_
  refine lv_iconst (v := (1 : Int32)) hx hb d_X_bring_222 (by decide) ?_
  refine lv_iload_n hx hb d_X_bring_223 rfl (lv_at hl 3 rfl) ?_
  refine zz_iast (w' := [oX yX yM yD yA yO yL yH yI v_x, ar cI yM 512 (upd v_M (ix (s_X_wordsOf ((v_o (ix (3 : Int32))) &&& (31 : Int32)))) ((upd v_o (ix (3 : Int32)) (v_M (ix (s_X_wordsOf ((v_o (ix (3 : Int32))) &&& (31 : Int32)))))) (ix (1 : Int32)))), ar cI yD 8 (upd (upd (upd (upd v_d (ix (0 : Int32)) (v_M (ix (((s_X_wordsOf ((v_o (ix (3 : Int32))) &&& (31 : Int32))) + (4 : Int32)) + (0 : Int32))))) (ix (1 : Int32)) (v_M (ix (((s_X_wordsOf ((v_o (ix (3 : Int32))) &&& (31 : Int32))) + (4 : Int32)) + (1 : Int32))))) (ix (2 : Int32)) (v_M (ix (((s_X_wordsOf ((v_o (ix (3 : Int32))) &&& (31 : Int32))) + (4 : Int32)) + (2 : Int32))))) (ix (3 : Int32)) (v_M (ix (((s_X_wordsOf ((v_o (ix (3 : Int32))) &&& (31 : Int32))) + (4 : Int32)) + (3 : Int32))))), ar cI yA 8 (upd (upd (upd v_a (ix (7 : Int32)) (v_M (ix ((s_X_wordsOf ((v_o (ix (3 : Int32))) &&& (31 : Int32))) + (1 : Int32))))) (ix (2 : Int32)) (v_M (ix ((s_X_wordsOf ((v_o (ix (3 : Int32))) &&& (31 : Int32))) + (2 : Int32))))) (ix (3 : Int32)) (v_M (ix ((s_X_wordsOf ((v_o (ix (3 : Int32))) &&& (31 : Int32))) + (3 : Int32))))), ar cI yO 4 (upd (upd v_o (ix (3 : Int32)) (v_M (ix (s_X_wordsOf ((v_o (ix (3 : Int32))) &&& (31 : Int32)))))) (ix (1 : Int32)) ((v_o (ix (3 : Int32))) &&& (31 : Int32))), ar cI yL 6 v_lo, ar cI yH 6 v_hi, ar cI yI 6 v_ri]) hx hb hK hP hD hS 4 0 rfl rfl (zz_inc (by decide)) d_X_bring_224 rfl (fun H locs hP hD hS => ?_)
  have hsp : s_X_bringL v_x v_M v_d v_a v_o v_lo v_hi v_ri = (upd v_M (ix (s_X_wordsOf ((v_o (ix (3 : Int32))) &&& (31 : Int32)))) ((upd v_o (ix (3 : Int32)) (v_M (ix (s_X_wordsOf ((v_o (ix (3 : Int32))) &&& (31 : Int32)))))) (ix (1 : Int32))), upd (upd (upd (upd v_d (ix (0 : Int32)) (v_M (ix (((s_X_wordsOf ((v_o (ix (3 : Int32))) &&& (31 : Int32))) + (4 : Int32)) + (0 : Int32))))) (ix (1 : Int32)) (v_M (ix (((s_X_wordsOf ((v_o (ix (3 : Int32))) &&& (31 : Int32))) + (4 : Int32)) + (1 : Int32))))) (ix (2 : Int32)) (v_M (ix (((s_X_wordsOf ((v_o (ix (3 : Int32))) &&& (31 : Int32))) + (4 : Int32)) + (2 : Int32))))) (ix (3 : Int32)) (v_M (ix (((s_X_wordsOf ((v_o (ix (3 : Int32))) &&& (31 : Int32))) + (4 : Int32)) + (3 : Int32)))), upd (upd (upd v_a (ix (7 : Int32)) (v_M (ix ((s_X_wordsOf ((v_o (ix (3 : Int32))) &&& (31 : Int32))) + (1 : Int32))))) (ix (2 : Int32)) (v_M (ix ((s_X_wordsOf ((v_o (ix (3 : Int32))) &&& (31 : Int32))) + (2 : Int32))))) (ix (3 : Int32)) (v_M (ix ((s_X_wordsOf ((v_o (ix (3 : Int32))) &&& (31 : Int32))) + (3 : Int32)))), upd (upd v_o (ix (3 : Int32)) (v_M (ix (s_X_wordsOf ((v_o (ix (3 : Int32))) &&& (31 : Int32)))))) (ix (1 : Int32)) ((v_o (ix (3 : Int32))) &&& (31 : Int32))) := rfl
  rw [hsp] at hE
  exact hE _ _ _ _ hP hD hS d_X_bring_225
set_option maxHeartbeats 4000000 in
set_option maxRecDepth 100000 in
theorem k_X_enter (l : Launch) (D : va_G) (cI : ClassId) (sz : Nat) (yX : Nat) (yM : Nat) (yD : Nat) (yA : Nat) (yO : Nat) (yL : Nat) (yH : Nat) (yI : Nat) (v_x : Nat → Int32) (v_M : Nat → Int32) (v_d : Nat → Int32) (v_a : Nat → Int32) (v_o : Nat → Int32) (v_lo : Nat → Int32) (v_hi : Nat → Int32) (v_ri : Nat → Int32) (a1 : Int32) (a2 : Int32) : zMi l y_X_enter (.code y_X_enter b_X_enter 3 (some .boolean) :: wd) { frames := 2, cells := 0, slots := 0, locals := 45 } D classes [(cI, .int)] [.ref yX, .int a1, .int a2] [oX yX yM yD yA yO yL yH yI v_x, ar cI yM 512 v_M, ar cI yD 8 v_d, ar cI yA 8 v_a, ar cI yO 4 v_o, ar cI yL 6 v_lo, ar cI yH 6 v_hi, ar cI yI 6 v_ri] [oX yX yM yD yA yO yL yH yI ((s_X_enter v_x v_M v_d v_a v_o v_lo v_hi v_ri a1 a2).2.1), ar cI yM 512 ((s_X_enter v_x v_M v_d v_a v_o v_lo v_hi v_ri a1 a2).2.2.1), ar cI yD 8 v_d, ar cI yA 8 ((s_X_enter v_x v_M v_d v_a v_o v_lo v_hi v_ri a1 a2).2.2.2.1), ar cI yO 4 ((s_X_enter v_x v_M v_d v_a v_o v_lo v_hi v_ri a1 a2).2.2.2.2), ar cI yL 6 v_lo, ar cI yH 6 v_hi, ar cI yI 6 v_ri] sz (s_X_enter v_x v_M v_d v_a v_o v_lo v_hi v_ri a1 a2).1 := by
  refine met_i (by decide) (Nat.le_of_ble_eq_true rfl) (zz_nar (bo_X_enter v_x v_M v_d v_a v_o v_lo v_hi v_ri a1 a2)) ?_
  intro p e s m args below meth c A Q ls hx hb hml hown hts hK hP hD hS hA hl hE
  have hl : lv_has ls 3 [(0, .ref yX), (1, .int a1), (2, .int a2)] := hl
  have hown : s.vm.findClass R_X = some m.cls := hown
  refine lv_aload_n hx hb d_X_enter_0 rfl (lv_at hl 0 rfl) ?_
  refine lv_iconst (v := (1 : Int32)) hx hb d_X_enter_1 (by decide) ?_
  refine zz_cVi (rest := []) (wr := []) (w' := [oX yX yM yD yA yO yL yH yI ((s_X_keepU v_x v_M v_d v_a v_o v_lo v_hi v_ri).2.1), ar cI yM 512 ((s_X_keepU v_x v_M v_d v_a v_o v_lo v_hi v_ri).2.2.1), ar cI yD 8 v_d, ar cI yA 8 v_a, ar cI yO 4 ((s_X_keepU v_x v_M v_d v_a v_o v_lo v_hi v_ri).2.2.2), ar cI yL 6 v_lo, ar cI yH 6 v_hi, ar cI yI 6 v_ri]) ⟨hx, hb, hml, hown, hts⟩ (k_X_keepU l D cI _ yX yM yD yA yO yL yH yI v_x v_M v_d v_a v_o v_lo v_hi v_ri) g_X_enter_X_keep_74 nv_X_keep ⟨⟨rfl, rfl⟩, Nat.le_of_ble_eq_true rfl, Nat.le_of_ble_eq_true rfl⟩ hK [0] rfl hP hD hS hA [0, 1, 2, 3, 4, 5, 6, 7] [] [0, 1, 2, 3, 4, 5, 6, 7] rfl rfl rfl rfl (by decide) rfl rfl 0 6 rfl rfl rfl rfl hl.1 (Nat.le_of_ble_eq_true rfl) d_X_enter_2 ⟨Nat.zero_le _, Nat.zero_le _⟩ (fun H locs hP hD hS => ?_)
  refine lv_if_ne (tgt := 10) hx hb d_X_enter_5 (by decide) (fun h1 => ?_) (fun h1 => ?_)
  ·
    refine lv_aload_n hx hb d_X_enter_10 rfl (lv_at hl 0 rfl) ?_
    refine zz_get (C := R_X) (T := F_X) (N := 27) (v := .ref yA) hx hb hts in_X hown hK hP 0 rfl rfl 3 (by decide) mw_73 rfl d_X_enter_11 ?_
    refine lv_bipush (v := (7 : Int32)) hx hb d_X_enter_14 (by decide) ?_
    refine lv_iload_n hx hb d_X_enter_16 rfl (lv_at hl 1 rfl) ?_
    refine zz_iast (w' := [oX yX yM yD yA yO yL yH yI ((s_X_keepU v_x v_M v_d v_a v_o v_lo v_hi v_ri).2.1), ar cI yM 512 ((s_X_keepU v_x v_M v_d v_a v_o v_lo v_hi v_ri).2.2.1), ar cI yD 8 v_d, ar cI yA 8 (upd v_a (ix (7 : Int32)) a1), ar cI yO 4 ((s_X_keepU v_x v_M v_d v_a v_o v_lo v_hi v_ri).2.2.2), ar cI yL 6 v_lo, ar cI yH 6 v_hi, ar cI yI 6 v_ri]) hx hb hK hP hD hS 3 0 rfl rfl (zz_inc (by decide)) d_X_enter_17 rfl (fun H locs hP hD hS => ?_)
    refine lv_aload_n hx hb d_X_enter_18 rfl (lv_at hl 0 rfl) ?_
    refine lv_iconst (v := (2 : Int32)) hx hb d_X_enter_19 (by decide) ?_
    refine zz_put (C := R_X) (T := F_X) (N := 27) (w' := [oX yX yM yD yA yO yL yH yI (upd ((s_X_keepU v_x v_M v_d v_a v_o v_lo v_hi v_ri).2.1) 1 (2 : Int32)), ar cI yM 512 ((s_X_keepU v_x v_M v_d v_a v_o v_lo v_hi v_ri).2.2.1), ar cI yD 8 v_d, ar cI yA 8 (upd v_a (ix (7 : Int32)) a1), ar cI yO 4 ((s_X_keepU v_x v_M v_d v_a v_o v_lo v_hi v_ri).2.2.2), ar cI yL 6 v_lo, ar cI yH 6 v_hi, ar cI yI 6 v_ri]) hx hb hts in_X ty_X ty_X_ok n_X hown hK hP hD hS 0 rfl rfl 5 (by decide) mw_70 rfl rfl rfl (Nat.le_of_ble_eq_true rfl) d_X_enter_20 rfl (fun H locs hP hD hS => ?_)
    refine lv_aload_n hx hb d_X_enter_23 rfl (lv_at hl 0 rfl) ?_
    refine lv_iconst (v := (0 : Int32)) hx hb d_X_enter_24 (by decide) ?_
    refine zz_put (C := R_X) (T := F_X) (N := 27) (w' := [oX yX yM yD yA yO yL yH yI (upd (upd ((s_X_keepU v_x v_M v_d v_a v_o v_lo v_hi v_ri).2.1) 1 (2 : Int32)) 2 (0 : Int32)), ar cI yM 512 ((s_X_keepU v_x v_M v_d v_a v_o v_lo v_hi v_ri).2.2.1), ar cI yD 8 v_d, ar cI yA 8 (upd v_a (ix (7 : Int32)) a1), ar cI yO 4 ((s_X_keepU v_x v_M v_d v_a v_o v_lo v_hi v_ri).2.2.2), ar cI yL 6 v_lo, ar cI yH 6 v_hi, ar cI yI 6 v_ri]) hx hb hts in_X ty_X ty_X_ok n_X hown hK hP hD hS 0 rfl rfl 6 (by decide) mw_71 rfl rfl rfl (Nat.le_of_ble_eq_true rfl) d_X_enter_25 rfl (fun H locs hP hD hS => ?_)
    show W p l e _ s m args below meth c _ _ _ _ Q (F0 m 28 ls _)
    refine lv_aload_n hx hb d_X_enter_28 rfl (lv_at hl 0 rfl) ?_
    refine lv_iconst (v := (0 : Int32)) hx hb d_X_enter_29 (by decide) ?_
    refine zz_put (C := R_X) (T := F_X) (N := 27) (w' := [oX yX yM yD yA yO yL yH yI (upd (upd (upd ((s_X_keepU v_x v_M v_d v_a v_o v_lo v_hi v_ri).2.1) 1 (2 : Int32)) 2 (0 : Int32)) 3 (0 : Int32)), ar cI yM 512 ((s_X_keepU v_x v_M v_d v_a v_o v_lo v_hi v_ri).2.2.1), ar cI yD 8 v_d, ar cI yA 8 (upd v_a (ix (7 : Int32)) a1), ar cI yO 4 ((s_X_keepU v_x v_M v_d v_a v_o v_lo v_hi v_ri).2.2.2), ar cI yL 6 v_lo, ar cI yH 6 v_hi, ar cI yI 6 v_ri]) hx hb hts in_X ty_X ty_X_ok n_X hown hK hP hD hS 0 rfl rfl 7 (by decide) mw_72 rfl rfl rfl (Nat.le_of_ble_eq_true rfl) d_X_enter_30 rfl (fun H locs hP hD hS => ?_)
    refine lv_aload_n hx hb d_X_enter_33 rfl (lv_at hl 0 rfl) ?_
    refine lv_iconst (v := (0 : Int32)) hx hb d_X_enter_34 (by decide) ?_
    refine zz_put (C := R_X) (T := F_X) (N := 27) (w' := [oX yX yM yD yA yO yL yH yI (upd (upd (upd (upd ((s_X_keepU v_x v_M v_d v_a v_o v_lo v_hi v_ri).2.1) 1 (2 : Int32)) 2 (0 : Int32)) 3 (0 : Int32)) 5 (0 : Int32)), ar cI yM 512 ((s_X_keepU v_x v_M v_d v_a v_o v_lo v_hi v_ri).2.2.1), ar cI yD 8 v_d, ar cI yA 8 (upd v_a (ix (7 : Int32)) a1), ar cI yO 4 ((s_X_keepU v_x v_M v_d v_a v_o v_lo v_hi v_ri).2.2.2), ar cI yL 6 v_lo, ar cI yH 6 v_hi, ar cI yI 6 v_ri]) hx hb hts in_X ty_X ty_X_ok n_X hown hK hP hD hS 0 rfl rfl 9 (by decide) mw_76 rfl rfl rfl (Nat.le_of_ble_eq_true rfl) d_X_enter_35 rfl (fun H locs hP hD hS => ?_)
    refine lv_aload_n hx hb d_X_enter_38 rfl (lv_at hl 0 rfl) ?_
    refine zz_get (C := R_X) (T := F_X) (N := 27) (v := .ref yO) hx hb hts in_X hown hK hP 0 rfl rfl 4 (by decide) mw_68 rfl d_X_enter_39 ?_
    refine lv_iconst (v := (0 : Int32)) hx hb d_X_enter_42 (by decide) ?_
    refine lv_iload_n hx hb d_X_enter_43 rfl (lv_at hl 2 rfl) ?_
    refine zz_iast (w' := [oX yX yM yD yA yO yL yH yI (upd (upd (upd (upd ((s_X_keepU v_x v_M v_d v_a v_o v_lo v_hi v_ri).2.1) 1 (2 : Int32)) 2 (0 : Int32)) 3 (0 : Int32)) 5 (0 : Int32)), ar cI yM 512 ((s_X_keepU v_x v_M v_d v_a v_o v_lo v_hi v_ri).2.2.1), ar cI yD 8 v_d, ar cI yA 8 (upd v_a (ix (7 : Int32)) a1), ar cI yO 4 (upd ((s_X_keepU v_x v_M v_d v_a v_o v_lo v_hi v_ri).2.2.2) (ix (0 : Int32)) a2), ar cI yL 6 v_lo, ar cI yH 6 v_hi, ar cI yI 6 v_ri]) hx hb hK hP hD hS 4 0 rfl rfl (zz_inc (by decide)) d_X_enter_44 rfl (fun H locs hP hD hS => ?_)
    refine lv_iconst (v := (1 : Int32)) hx hb d_X_enter_45 (by decide) ?_
    show W p l e _ s m args below meth c _ _ _ _ Q (F0 m 46 ls _)
    have hsp : s_X_enter v_x v_M v_d v_a v_o v_lo v_hi v_ri a1 a2 = ((1 : Int32), upd (upd (upd (upd ((s_X_keepU v_x v_M v_d v_a v_o v_lo v_hi v_ri).2.1) 1 (2 : Int32)) 2 (0 : Int32)) 3 (0 : Int32)) 5 (0 : Int32), (s_X_keepU v_x v_M v_d v_a v_o v_lo v_hi v_ri).2.2.1, upd v_a (ix (7 : Int32)) a1, upd ((s_X_keepU v_x v_M v_d v_a v_o v_lo v_hi v_ri).2.2.2) (ix (0 : Int32)) a2) := (by unfold s_X_enter; rw [if_neg h1])
    rw [hsp] at hE
    exact hE _ _ _ _ hP hD hS d_X_enter_46
  ·
    refine lv_iconst (v := (0 : Int32)) hx hb d_X_enter_8 (by decide) ?_
    have hsp : s_X_enter v_x v_M v_d v_a v_o v_lo v_hi v_ri a1 a2 = ((0 : Int32), (s_X_keepU v_x v_M v_d v_a v_o v_lo v_hi v_ri).2.1, (s_X_keepU v_x v_M v_d v_a v_o v_lo v_hi v_ri).2.2.1, v_a, (s_X_keepU v_x v_M v_d v_a v_o v_lo v_hi v_ri).2.2.2) := (by unfold s_X_enter; rw [if_pos h1])
    rw [hsp] at hE
    exact hE _ _ _ _ hP hD hS d_X_enter_9
set_option maxHeartbeats 4000000 in
set_option maxRecDepth 100000 in
theorem k_X_take (l : Launch) (D : va_G) (cI : ClassId) (sz : Nat) (yX : Nat) (yM : Nat) (yD : Nat) (yA : Nat) (yO : Nat) (yL : Nat) (yH : Nat) (yI : Nat) (v_x : Nat → Int32) (v_M : Nat → Int32) (v_d : Nat → Int32) (v_a : Nat → Int32) (v_o : Nat → Int32) (v_lo : Nat → Int32) (v_hi : Nat → Int32) (v_ri : Nat → Int32) (a1 : Int32) (a2 : Int32) : zMv l y_X_take (.code y_X_take b_X_take 3 (none) :: wd) { frames := 3, cells := 0, slots := 0, locals := 67 } D classes [(cI, .int)] [.ref yX, .int a1, .int a2] [oX yX yM yD yA yO yL yH yI v_x, ar cI yM 512 v_M, ar cI yD 8 v_d, ar cI yA 8 v_a, ar cI yO 4 v_o, ar cI yL 6 v_lo, ar cI yH 6 v_hi, ar cI yI 6 v_ri] [oX yX yM yD yA yO yL yH yI ((s_X_take v_x v_M v_d v_a v_o v_lo v_hi v_ri a1 a2).1), ar cI yM 512 ((s_X_take v_x v_M v_d v_a v_o v_lo v_hi v_ri a1 a2).2.1), ar cI yD 8 ((s_X_take v_x v_M v_d v_a v_o v_lo v_hi v_ri a1 a2).2.2.1), ar cI yA 8 ((s_X_take v_x v_M v_d v_a v_o v_lo v_hi v_ri a1 a2).2.2.2.1), ar cI yO 4 ((s_X_take v_x v_M v_d v_a v_o v_lo v_hi v_ri a1 a2).2.2.2.2), ar cI yL 6 v_lo, ar cI yH 6 v_hi, ar cI yI 6 v_ri] sz := by
  refine met_v (by decide) (Nat.le_of_ble_eq_true rfl) ?_
  intro p e s m args below meth c A Q ls hx hb hml hown hts hK hP hD hS hA hl hE
  have hl : lv_has ls 3 [(0, .ref yX), (1, .int a1), (2, .int a2)] := hl
  have hown : s.vm.findClass R_X = some m.cls := hown
  refine lv_aload_n hx hb d_X_take_0 rfl (lv_at hl 0 rfl) ?_
  refine lv_aload_n hx hb d_X_take_1 rfl (lv_at hl 0 rfl) ?_
  refine zz_get (C := R_X) (T := F_X) (N := 27) (v := .int (v_x 18)) hx hb hts in_X hown hK hP 0 rfl rfl 25 (by decide) mw_80 rfl d_X_take_2 ?_
  have J5_2 : ∀ (vj5_0 : Int32) (ls : Array Slot) (H : Heap) (locs : List Loc), vj5_0 = (if (v_x 18) = 0 then (if a1 = (3 : Int32) then (1 : Int32) else (0 : Int32)) else (1 : Int32)) → lv_has ls 3 [(0, .ref yX), (1, .int a1), (2, .int a2)] → va_P D classes [oX yX yM yD yA yO yL yH yI v_x, ar cI yM 512 v_M, ar cI yD 8 v_d, ar cI yA 8 v_a, ar cI yO 4 v_o, ar cI yL 6 v_lo, ar cI yH 6 v_hi, ar cI yI 6 v_ri] H → va_D A [oX yX yM yD yA yO yL yH yI v_x, ar cI yM 512 v_M, ar cI yD 8 v_d, ar cI yA 8 v_a, ar cI yO 4 v_o, ar cI yL 6 v_lo, ar cI yH 6 v_hi, ar cI yI 6 v_ri] → va_S A s.heap H locs → W p l e { frames := 3, cells := 0, slots := 0, locals := 67 } s m args below meth c H locs 0 0 Q (F0 m 18 ls [.int vj5_0, .ref yX]) := by
    intro vj5_0 ls H locs evj5_0 hl hP hD hS
    subst evj5_0
    refine zz_put (C := R_X) (T := F_X) (N := 27) (w' := [oX yX yM yD yA yO yL yH yI (upd v_x 18 (if (v_x 18) = 0 then (if a1 = (3 : Int32) then (1 : Int32) else (0 : Int32)) else (1 : Int32))), ar cI yM 512 v_M, ar cI yD 8 v_d, ar cI yA 8 v_a, ar cI yO 4 v_o, ar cI yL 6 v_lo, ar cI yH 6 v_hi, ar cI yI 6 v_ri]) hx hb hts in_X ty_X ty_X_ok n_X hown hK hP hD hS 0 rfl rfl 25 (by decide) mw_80 rfl (zz_nar zz_ite3) (zz_fit zz_ite3) (Nat.le_of_ble_eq_true rfl) d_X_take_18 rfl (fun H locs hP hD hS => ?_)
    refine lv_aload_n hx hb d_X_take_21 rfl (lv_at hl 0 rfl) ?_
    refine lv_iload_n hx hb d_X_take_22 rfl (lv_at hl 1 rfl) ?_
    refine lv_bipush (v := (6 : Int32)) hx hb d_X_take_23 (by decide) ?_
    have J25_3 : ∀ (vj25_0 : Int32) (ls : Array Slot) (H : Heap) (locs : List Loc), vj25_0 = (if a1 = (6 : Int32) then ((v_o (ix (0 : Int32))) + (1 : Int32)) else (v_o (ix (0 : Int32)))) → lv_has ls 3 [(0, .ref yX), (1, .int a1), (2, .int a2)] → va_P D classes [oX yX yM yD yA yO yL yH yI (upd v_x 18 (if (v_x 18) = 0 then (if a1 = (3 : Int32) then (1 : Int32) else (0 : Int32)) else (1 : Int32))), ar cI yM 512 v_M, ar cI yD 8 v_d, ar cI yA 8 v_a, ar cI yO 4 v_o, ar cI yL 6 v_lo, ar cI yH 6 v_hi, ar cI yI 6 v_ri] H → va_D A [oX yX yM yD yA yO yL yH yI (upd v_x 18 (if (v_x 18) = 0 then (if a1 = (3 : Int32) then (1 : Int32) else (0 : Int32)) else (1 : Int32))), ar cI yM 512 v_M, ar cI yD 8 v_d, ar cI yA 8 v_a, ar cI yO 4 v_o, ar cI yL 6 v_lo, ar cI yH 6 v_hi, ar cI yI 6 v_ri] → va_S A s.heap H locs → W p l e { frames := 3, cells := 0, slots := 0, locals := 67 } s m args below meth c H locs 0 0 Q (F0 m 45 ls [.int vj25_0, .ref yX]) := by
      intro vj25_0 ls H locs evj25_0 hl hP hD hS
      subst evj25_0
      refine lv_aload_n hx hb d_X_take_45 rfl (lv_at hl 0 rfl) ?_
      refine zz_get (C := R_X) (T := F_X) (N := 27) (v := .int (v_x 11)) hx hb hts in_X hown hK hP 0 rfl rfl 15 (by decide) mw_81 rfl d_X_take_46 ?_
      refine lv_iconst (v := (4 : Int32)) hx hb d_X_take_49 (by decide) ?_
      refine lv_iload_n hx hb d_X_take_50 rfl (lv_at hl 1 rfl) ?_
      refine lv_imul hx hb d_X_take_51 ?_
      refine lv_iadd hx hb d_X_take_52 ?_
      refine zz_cVi (rest := []) (wr := []) (w' := [oX yX yM yD yA yO yL yH yI ((s_X_enter (upd v_x 18 (if (v_x 18) = 0 then (if a1 = (3 : Int32) then (1 : Int32) else (0 : Int32)) else (1 : Int32))) v_M v_d v_a v_o v_lo v_hi v_ri (if a1 = (6 : Int32) then ((v_o (ix (0 : Int32))) + (1 : Int32)) else (v_o (ix (0 : Int32)))) ((v_x 11) + ((4 : Int32) * a1))).2.1), ar cI yM 512 ((s_X_enter (upd v_x 18 (if (v_x 18) = 0 then (if a1 = (3 : Int32) then (1 : Int32) else (0 : Int32)) else (1 : Int32))) v_M v_d v_a v_o v_lo v_hi v_ri (if a1 = (6 : Int32) then ((v_o (ix (0 : Int32))) + (1 : Int32)) else (v_o (ix (0 : Int32)))) ((v_x 11) + ((4 : Int32) * a1))).2.2.1), ar cI yD 8 v_d, ar cI yA 8 ((s_X_enter (upd v_x 18 (if (v_x 18) = 0 then (if a1 = (3 : Int32) then (1 : Int32) else (0 : Int32)) else (1 : Int32))) v_M v_d v_a v_o v_lo v_hi v_ri (if a1 = (6 : Int32) then ((v_o (ix (0 : Int32))) + (1 : Int32)) else (v_o (ix (0 : Int32)))) ((v_x 11) + ((4 : Int32) * a1))).2.2.2.1), ar cI yO 4 ((s_X_enter (upd v_x 18 (if (v_x 18) = 0 then (if a1 = (3 : Int32) then (1 : Int32) else (0 : Int32)) else (1 : Int32))) v_M v_d v_a v_o v_lo v_hi v_ri (if a1 = (6 : Int32) then ((v_o (ix (0 : Int32))) + (1 : Int32)) else (v_o (ix (0 : Int32)))) ((v_x 11) + ((4 : Int32) * a1))).2.2.2.2), ar cI yL 6 v_lo, ar cI yH 6 v_hi, ar cI yI 6 v_ri]) ⟨hx, hb, hml, hown, hts⟩ (k_X_enter l D cI _ yX yM yD yA yO yL yH yI (upd v_x 18 (if (v_x 18) = 0 then (if a1 = (3 : Int32) then (1 : Int32) else (0 : Int32)) else (1 : Int32))) v_M v_d v_a v_o v_lo v_hi v_ri (if a1 = (6 : Int32) then ((v_o (ix (0 : Int32))) + (1 : Int32)) else (v_o (ix (0 : Int32)))) ((v_x 11) + ((4 : Int32) * a1))) g_X_take_X_enter_84 nv_X_enter ⟨⟨rfl, rfl⟩, Nat.le_of_ble_eq_true rfl, Nat.le_of_ble_eq_true rfl⟩ hK [0] rfl hP hD hS hA [0, 1, 2, 3, 4, 5, 6, 7] [] [0, 1, 2, 3, 4, 5, 6, 7] rfl rfl rfl rfl (by decide) rfl rfl 0 6 rfl rfl rfl rfl hl.1 (Nat.le_of_ble_eq_true rfl) d_X_take_53 ⟨Nat.zero_le _, Nat.zero_le _⟩ (fun H locs hP hD hS => ?_)
      refine lv_if_eq (tgt := 90) hx hb d_X_take_56 (by decide) (fun h4 => ?_) (fun h4 => ?_)
      ·
        have hsp : s_X_take v_x v_M v_d v_a v_o v_lo v_hi v_ri a1 a2 = ((s_X_enter (upd v_x 18 (if (v_x 18) = 0 then (if a1 = (3 : Int32) then (1 : Int32) else (0 : Int32)) else (1 : Int32))) v_M v_d v_a v_o v_lo v_hi v_ri (if a1 = (6 : Int32) then ((v_o (ix (0 : Int32))) + (1 : Int32)) else (v_o (ix (0 : Int32)))) ((v_x 11) + ((4 : Int32) * a1))).2.1, (s_X_enter (upd v_x 18 (if (v_x 18) = 0 then (if a1 = (3 : Int32) then (1 : Int32) else (0 : Int32)) else (1 : Int32))) v_M v_d v_a v_o v_lo v_hi v_ri (if a1 = (6 : Int32) then ((v_o (ix (0 : Int32))) + (1 : Int32)) else (v_o (ix (0 : Int32)))) ((v_x 11) + ((4 : Int32) * a1))).2.2.1, v_d, (s_X_enter (upd v_x 18 (if (v_x 18) = 0 then (if a1 = (3 : Int32) then (1 : Int32) else (0 : Int32)) else (1 : Int32))) v_M v_d v_a v_o v_lo v_hi v_ri (if a1 = (6 : Int32) then ((v_o (ix (0 : Int32))) + (1 : Int32)) else (v_o (ix (0 : Int32)))) ((v_x 11) + ((4 : Int32) * a1))).2.2.2.1, (s_X_enter (upd v_x 18 (if (v_x 18) = 0 then (if a1 = (3 : Int32) then (1 : Int32) else (0 : Int32)) else (1 : Int32))) v_M v_d v_a v_o v_lo v_hi v_ri (if a1 = (6 : Int32) then ((v_o (ix (0 : Int32))) + (1 : Int32)) else (v_o (ix (0 : Int32)))) ((v_x 11) + ((4 : Int32) * a1))).2.2.2.2) := (by unfold s_X_take; rw [if_pos h4])
        rw [hsp] at hE
        exact hE _ _ _ _ hP hD hS d_X_take_90
      ·
        refine lv_aload_n hx hb d_X_take_59 rfl (lv_at hl 0 rfl) ?_
        refine zz_get (C := R_X) (T := F_X) (N := 27) (v := .ref yD) hx hb hts in_X hown hK hP 0 rfl rfl 2 (by decide) mw_74 rfl d_X_take_60 ?_
        refine lv_bipush (v := (7 : Int32)) hx hb d_X_take_63 (by decide) ?_
        refine lv_iload_n hx hb d_X_take_65 rfl (lv_at hl 2 rfl) ?_
        refine zz_iast (w' := [oX yX yM yD yA yO yL yH yI ((s_X_enter (upd v_x 18 (if (v_x 18) = 0 then (if a1 = (3 : Int32) then (1 : Int32) else (0 : Int32)) else (1 : Int32))) v_M v_d v_a v_o v_lo v_hi v_ri (if a1 = (6 : Int32) then ((v_o (ix (0 : Int32))) + (1 : Int32)) else (v_o (ix (0 : Int32)))) ((v_x 11) + ((4 : Int32) * a1))).2.1), ar cI yM 512 ((s_X_enter (upd v_x 18 (if (v_x 18) = 0 then (if a1 = (3 : Int32) then (1 : Int32) else (0 : Int32)) else (1 : Int32))) v_M v_d v_a v_o v_lo v_hi v_ri (if a1 = (6 : Int32) then ((v_o (ix (0 : Int32))) + (1 : Int32)) else (v_o (ix (0 : Int32)))) ((v_x 11) + ((4 : Int32) * a1))).2.2.1), ar cI yD 8 (upd v_d (ix (7 : Int32)) a2), ar cI yA 8 ((s_X_enter (upd v_x 18 (if (v_x 18) = 0 then (if a1 = (3 : Int32) then (1 : Int32) else (0 : Int32)) else (1 : Int32))) v_M v_d v_a v_o v_lo v_hi v_ri (if a1 = (6 : Int32) then ((v_o (ix (0 : Int32))) + (1 : Int32)) else (v_o (ix (0 : Int32)))) ((v_x 11) + ((4 : Int32) * a1))).2.2.2.1), ar cI yO 4 ((s_X_enter (upd v_x 18 (if (v_x 18) = 0 then (if a1 = (3 : Int32) then (1 : Int32) else (0 : Int32)) else (1 : Int32))) v_M v_d v_a v_o v_lo v_hi v_ri (if a1 = (6 : Int32) then ((v_o (ix (0 : Int32))) + (1 : Int32)) else (v_o (ix (0 : Int32)))) ((v_x 11) + ((4 : Int32) * a1))).2.2.2.2), ar cI yL 6 v_lo, ar cI yH 6 v_hi, ar cI yI 6 v_ri]) hx hb hK hP hD hS 2 0 rfl rfl (zz_inc (by decide)) d_X_take_66 rfl (fun H locs hP hD hS => ?_)
        refine lv_aload_n hx hb d_X_take_67 rfl (lv_at hl 0 rfl) ?_
        refine lv_dup hx hb d_X_take_68 rfl ?_
        refine zz_get (C := R_X) (T := F_X) (N := 27) (v := .int (((s_X_enter (upd v_x 18 (if (v_x 18) = 0 then (if a1 = (3 : Int32) then (1 : Int32) else (0 : Int32)) else (1 : Int32))) v_M v_d v_a v_o v_lo v_hi v_ri (if a1 = (6 : Int32) then ((v_o (ix (0 : Int32))) + (1 : Int32)) else (v_o (ix (0 : Int32)))) ((v_x 11) + ((4 : Int32) * a1))).2.1) 14)) hx hb hts in_X hown hK hP 0 rfl rfl 21 (by decide) mw_82 rfl d_X_take_69 ?_
        refine lv_iconst (v := (1 : Int32)) hx hb d_X_take_72 (by decide) ?_
        refine lv_iadd hx hb d_X_take_73 ?_
        refine zz_put (C := R_X) (T := F_X) (N := 27) (w' := [oX yX yM yD yA yO yL yH yI (upd ((s_X_enter (upd v_x 18 (if (v_x 18) = 0 then (if a1 = (3 : Int32) then (1 : Int32) else (0 : Int32)) else (1 : Int32))) v_M v_d v_a v_o v_lo v_hi v_ri (if a1 = (6 : Int32) then ((v_o (ix (0 : Int32))) + (1 : Int32)) else (v_o (ix (0 : Int32)))) ((v_x 11) + ((4 : Int32) * a1))).2.1) 14 ((((s_X_enter (upd v_x 18 (if (v_x 18) = 0 then (if a1 = (3 : Int32) then (1 : Int32) else (0 : Int32)) else (1 : Int32))) v_M v_d v_a v_o v_lo v_hi v_ri (if a1 = (6 : Int32) then ((v_o (ix (0 : Int32))) + (1 : Int32)) else (v_o (ix (0 : Int32)))) ((v_x 11) + ((4 : Int32) * a1))).2.1) 14) + (1 : Int32))), ar cI yM 512 ((s_X_enter (upd v_x 18 (if (v_x 18) = 0 then (if a1 = (3 : Int32) then (1 : Int32) else (0 : Int32)) else (1 : Int32))) v_M v_d v_a v_o v_lo v_hi v_ri (if a1 = (6 : Int32) then ((v_o (ix (0 : Int32))) + (1 : Int32)) else (v_o (ix (0 : Int32)))) ((v_x 11) + ((4 : Int32) * a1))).2.2.1), ar cI yD 8 (upd v_d (ix (7 : Int32)) a2), ar cI yA 8 ((s_X_enter (upd v_x 18 (if (v_x 18) = 0 then (if a1 = (3 : Int32) then (1 : Int32) else (0 : Int32)) else (1 : Int32))) v_M v_d v_a v_o v_lo v_hi v_ri (if a1 = (6 : Int32) then ((v_o (ix (0 : Int32))) + (1 : Int32)) else (v_o (ix (0 : Int32)))) ((v_x 11) + ((4 : Int32) * a1))).2.2.2.1), ar cI yO 4 ((s_X_enter (upd v_x 18 (if (v_x 18) = 0 then (if a1 = (3 : Int32) then (1 : Int32) else (0 : Int32)) else (1 : Int32))) v_M v_d v_a v_o v_lo v_hi v_ri (if a1 = (6 : Int32) then ((v_o (ix (0 : Int32))) + (1 : Int32)) else (v_o (ix (0 : Int32)))) ((v_x 11) + ((4 : Int32) * a1))).2.2.2.2), ar cI yL 6 v_lo, ar cI yH 6 v_hi, ar cI yI 6 v_ri]) hx hb hts in_X ty_X ty_X_ok n_X hown hK hP hD hS 0 rfl rfl 21 (by decide) mw_82 rfl rfl rfl (Nat.le_of_ble_eq_true rfl) d_X_take_74 rfl (fun H locs hP hD hS => ?_)
        show W p l e _ s m args below meth c _ _ _ _ Q (F0 m 77 ls _)
        refine lv_aload_n hx hb d_X_take_77 rfl (lv_at hl 0 rfl) ?_
        refine lv_bipush (v := (16 : Int32)) hx hb d_X_take_78 (by decide) ?_
        refine lv_iload_n hx hb d_X_take_80 rfl (lv_at hl 1 rfl) ?_
        refine lv_imul hx hb d_X_take_81 ?_
        refine lv_iload_n hx hb d_X_take_82 rfl (lv_at hl 2 rfl) ?_
        refine lv_bipush (v := (15 : Int32)) hx hb d_X_take_83 (by decide) ?_
        refine lv_iand hx hb d_X_take_85 ?_
        refine lv_iadd hx hb d_X_take_86 ?_
        refine zz_put (C := R_X) (T := F_X) (N := 27) (w' := [oX yX yM yD yA yO yL yH yI (upd (upd ((s_X_enter (upd v_x 18 (if (v_x 18) = 0 then (if a1 = (3 : Int32) then (1 : Int32) else (0 : Int32)) else (1 : Int32))) v_M v_d v_a v_o v_lo v_hi v_ri (if a1 = (6 : Int32) then ((v_o (ix (0 : Int32))) + (1 : Int32)) else (v_o (ix (0 : Int32)))) ((v_x 11) + ((4 : Int32) * a1))).2.1) 14 ((((s_X_enter (upd v_x 18 (if (v_x 18) = 0 then (if a1 = (3 : Int32) then (1 : Int32) else (0 : Int32)) else (1 : Int32))) v_M v_d v_a v_o v_lo v_hi v_ri (if a1 = (6 : Int32) then ((v_o (ix (0 : Int32))) + (1 : Int32)) else (v_o (ix (0 : Int32)))) ((v_x 11) + ((4 : Int32) * a1))).2.1) 14) + (1 : Int32))) 15 (((16 : Int32) * a1) + (a2 &&& (15 : Int32)))), ar cI yM 512 ((s_X_enter (upd v_x 18 (if (v_x 18) = 0 then (if a1 = (3 : Int32) then (1 : Int32) else (0 : Int32)) else (1 : Int32))) v_M v_d v_a v_o v_lo v_hi v_ri (if a1 = (6 : Int32) then ((v_o (ix (0 : Int32))) + (1 : Int32)) else (v_o (ix (0 : Int32)))) ((v_x 11) + ((4 : Int32) * a1))).2.2.1), ar cI yD 8 (upd v_d (ix (7 : Int32)) a2), ar cI yA 8 ((s_X_enter (upd v_x 18 (if (v_x 18) = 0 then (if a1 = (3 : Int32) then (1 : Int32) else (0 : Int32)) else (1 : Int32))) v_M v_d v_a v_o v_lo v_hi v_ri (if a1 = (6 : Int32) then ((v_o (ix (0 : Int32))) + (1 : Int32)) else (v_o (ix (0 : Int32)))) ((v_x 11) + ((4 : Int32) * a1))).2.2.2.1), ar cI yO 4 ((s_X_enter (upd v_x 18 (if (v_x 18) = 0 then (if a1 = (3 : Int32) then (1 : Int32) else (0 : Int32)) else (1 : Int32))) v_M v_d v_a v_o v_lo v_hi v_ri (if a1 = (6 : Int32) then ((v_o (ix (0 : Int32))) + (1 : Int32)) else (v_o (ix (0 : Int32)))) ((v_x 11) + ((4 : Int32) * a1))).2.2.2.2), ar cI yL 6 v_lo, ar cI yH 6 v_hi, ar cI yI 6 v_ri]) hx hb hts in_X ty_X ty_X_ok n_X hown hK hP hD hS 0 rfl rfl 22 (by decide) mw_83 rfl rfl rfl (Nat.le_of_ble_eq_true rfl) d_X_take_87 rfl (fun H locs hP hD hS => ?_)
        have hsp : s_X_take v_x v_M v_d v_a v_o v_lo v_hi v_ri a1 a2 = (upd (upd ((s_X_enter (upd v_x 18 (if (v_x 18) = 0 then (if a1 = (3 : Int32) then (1 : Int32) else (0 : Int32)) else (1 : Int32))) v_M v_d v_a v_o v_lo v_hi v_ri (if a1 = (6 : Int32) then ((v_o (ix (0 : Int32))) + (1 : Int32)) else (v_o (ix (0 : Int32)))) ((v_x 11) + ((4 : Int32) * a1))).2.1) 14 ((((s_X_enter (upd v_x 18 (if (v_x 18) = 0 then (if a1 = (3 : Int32) then (1 : Int32) else (0 : Int32)) else (1 : Int32))) v_M v_d v_a v_o v_lo v_hi v_ri (if a1 = (6 : Int32) then ((v_o (ix (0 : Int32))) + (1 : Int32)) else (v_o (ix (0 : Int32)))) ((v_x 11) + ((4 : Int32) * a1))).2.1) 14) + (1 : Int32))) 15 (((16 : Int32) * a1) + (a2 &&& (15 : Int32))), (s_X_enter (upd v_x 18 (if (v_x 18) = 0 then (if a1 = (3 : Int32) then (1 : Int32) else (0 : Int32)) else (1 : Int32))) v_M v_d v_a v_o v_lo v_hi v_ri (if a1 = (6 : Int32) then ((v_o (ix (0 : Int32))) + (1 : Int32)) else (v_o (ix (0 : Int32)))) ((v_x 11) + ((4 : Int32) * a1))).2.2.1, upd v_d (ix (7 : Int32)) a2, (s_X_enter (upd v_x 18 (if (v_x 18) = 0 then (if a1 = (3 : Int32) then (1 : Int32) else (0 : Int32)) else (1 : Int32))) v_M v_d v_a v_o v_lo v_hi v_ri (if a1 = (6 : Int32) then ((v_o (ix (0 : Int32))) + (1 : Int32)) else (v_o (ix (0 : Int32)))) ((v_x 11) + ((4 : Int32) * a1))).2.2.2.1, (s_X_enter (upd v_x 18 (if (v_x 18) = 0 then (if a1 = (3 : Int32) then (1 : Int32) else (0 : Int32)) else (1 : Int32))) v_M v_d v_a v_o v_lo v_hi v_ri (if a1 = (6 : Int32) then ((v_o (ix (0 : Int32))) + (1 : Int32)) else (v_o (ix (0 : Int32)))) ((v_x 11) + ((4 : Int32) * a1))).2.2.2.2) := (by unfold s_X_take; rw [if_neg h4])
        rw [hsp] at hE
        exact hE _ _ _ _ hP hD hS d_X_take_90
    refine lv_icmp_ne (tgt := 39) hx hb d_X_take_25 (by decide) (fun h3 => ?_) (fun h3 => ?_)
    ·
      refine lv_aload_n hx hb d_X_take_39 rfl (lv_at hl 0 rfl) ?_
      refine zz_get (C := R_X) (T := F_X) (N := 27) (v := .ref yO) hx hb hts in_X hown hK hP 0 rfl rfl 4 (by decide) mw_68 rfl d_X_take_40 ?_
      refine lv_iconst (v := (0 : Int32)) hx hb d_X_take_43 (by decide) ?_
      refine va_iald hx hb hK hP 4 0 rfl rfl (zz_inc (by decide)) d_X_take_44 ?_
      exact J25_3 (v_o (ix (0 : Int32))) _ _ _ (by rw [if_neg h3]) (lv_sub hl [0, 1, 2] rfl) hP hD hS
    ·
      refine lv_aload_n hx hb d_X_take_28 rfl (lv_at hl 0 rfl) ?_
      refine zz_get (C := R_X) (T := F_X) (N := 27) (v := .ref yO) hx hb hts in_X hown hK hP 0 rfl rfl 4 (by decide) mw_68 rfl d_X_take_29 ?_
      refine lv_iconst (v := (0 : Int32)) hx hb d_X_take_32 (by decide) ?_
      refine va_iald hx hb hK hP 4 0 rfl rfl (zz_inc (by decide)) d_X_take_33 ?_
      refine lv_iconst (v := (1 : Int32)) hx hb d_X_take_34 (by decide) ?_
      refine lv_iadd hx hb d_X_take_35 ?_
      refine lv_goto (tgt := 45) hx hb d_X_take_36 (by decide) ?_
      exact J25_3 ((v_o (ix (0 : Int32))) + (1 : Int32)) _ _ _ (by rw [if_pos h3]) (lv_sub hl [0, 1, 2] rfl) hP hD hS
  refine lv_if_ne (tgt := 13) hx hb d_X_take_5 (by decide) (fun h1 => ?_) (fun h1 => ?_)
  ·
    refine lv_iconst (v := (1 : Int32)) hx hb d_X_take_13 (by decide) ?_
    refine lv_goto (tgt := 18) hx hb d_X_take_14 (by decide) ?_
    exact J5_2 (1 : Int32) _ _ _ (by rw [if_neg h1]) (lv_sub hl [0, 1, 2] rfl) hP hD hS
  ·
    refine lv_iload_n hx hb d_X_take_8 rfl (lv_at hl 1 rfl) ?_
    refine lv_iconst (v := (3 : Int32)) hx hb d_X_take_9 (by decide) ?_
    refine lv_icmp_ne (tgt := 17) hx hb d_X_take_10 (by decide) (fun h2 => ?_) (fun h2 => ?_)
    ·
      refine lv_iconst (v := (0 : Int32)) hx hb d_X_take_17 (by decide) ?_
      exact J5_2 (0 : Int32) _ _ _ (by rw [if_pos h1, if_neg h2]) (lv_sub hl [0, 1, 2] rfl) hP hD hS
    ·
      refine lv_iconst (v := (1 : Int32)) hx hb d_X_take_13 (by decide) ?_
      refine lv_goto (tgt := 18) hx hb d_X_take_14 (by decide) ?_
      exact J5_2 (1 : Int32) _ _ _ (by rw [if_pos h1, if_pos h2]) (lv_sub hl [0, 1, 2] rfl) hP hD hS
set_option maxHeartbeats 4000000 in
set_option maxRecDepth 100000 in
theorem k_X_guarded (l : Launch) (D : va_G) (cI : ClassId) (sz : Nat) (yX : Nat) (yM : Nat) (yD : Nat) (yA : Nat) (yO : Nat) (yL : Nat) (yH : Nat) (yI : Nat) (v_x : Nat → Int32) (v_M : Nat → Int32) (v_d : Nat → Int32) (v_a : Nat → Int32) (v_o : Nat → Int32) (v_lo : Nat → Int32) (v_hi : Nat → Int32) (v_ri : Nat → Int32) : zMi l y_X_guarded (.code y_X_guarded b_X_guarded 1 (some .boolean) :: wd) { frames := 0, cells := 0, slots := 0, locals := 0 } D classes [(cI, .int)] [.ref yX] [oX yX yM yD yA yO yL yH yI v_x, ar cI yM 512 v_M, ar cI yD 8 v_d, ar cI yA 8 v_a, ar cI yO 4 v_o, ar cI yL 6 v_lo, ar cI yH 6 v_hi, ar cI yI 6 v_ri] [oX yX yM yD yA yO yL yH yI v_x, ar cI yM 512 v_M, ar cI yD 8 v_d, ar cI yA 8 v_a, ar cI yO 4 v_o, ar cI yL 6 v_lo, ar cI yH 6 v_hi, ar cI yI 6 v_ri] sz (s_X_guarded v_x v_M v_d v_a v_o v_lo v_hi v_ri) := by
  refine met_i (by decide) (Nat.le_of_ble_eq_true rfl) (zz_nar (bo_X_guarded v_x v_M v_d v_a v_o v_lo v_hi v_ri)) ?_
  intro p e s m args below meth c A Q ls hx hb hml hown hts hK hP hD hS hA hl hE
  have hl : lv_has ls 1 [(0, .ref yX)] := hl
  have hown : s.vm.findClass R_X = some m.cls := hown
  refine lv_aload_n hx hb d_X_guarded_0 rfl (lv_at hl 0 rfl) ?_
  refine zz_get (C := R_X) (T := F_X) (N := 27) (v := .int (v_x 13)) hx hb hts in_X hown hK hP 0 rfl rfl 17 (by decide) mw_84 rfl d_X_guarded_1 ?_
  refine lv_if_eq (tgt := 19) hx hb d_X_guarded_4 (by decide) (fun h1 => ?_) (fun h1 => ?_)
  ·
    refine lv_iconst (v := (0 : Int32)) hx hb d_X_guarded_19 (by decide) ?_
    have hsp : s_X_guarded v_x v_M v_d v_a v_o v_lo v_hi v_ri = (0 : Int32) := (by unfold s_X_guarded; rw [if_pos h1])
    rw [hsp] at hE
    exact hE _ _ _ _ hP hD hS d_X_guarded_20
  ·
    refine lv_aload_n hx hb d_X_guarded_7 rfl (lv_at hl 0 rfl) ?_
    refine zz_get (C := R_X) (T := F_X) (N := 27) (v := .int (v_x 1)) hx hb hts in_X hown hK hP 0 rfl rfl 5 (by decide) mw_70 rfl d_X_guarded_8 ?_
    refine lv_iconst (v := (2 : Int32)) hx hb d_X_guarded_11 (by decide) ?_
    refine lv_icmp_eq (tgt := 19) hx hb d_X_guarded_12 (by decide) (fun h2 => ?_) (fun h2 => ?_)
    ·
      refine lv_iconst (v := (0 : Int32)) hx hb d_X_guarded_19 (by decide) ?_
      have hsp : s_X_guarded v_x v_M v_d v_a v_o v_lo v_hi v_ri = (0 : Int32) := (by unfold s_X_guarded; rw [if_neg h1, if_pos h2])
      rw [hsp] at hE
      exact hE _ _ _ _ hP hD hS d_X_guarded_20
    ·
      refine lv_iconst (v := (1 : Int32)) hx hb d_X_guarded_15 (by decide) ?_
      refine lv_goto (tgt := 20) hx hb d_X_guarded_16 (by decide) ?_
      have hsp : s_X_guarded v_x v_M v_d v_a v_o v_lo v_hi v_ri = (1 : Int32) := (by unfold s_X_guarded; rw [if_neg h1, if_neg h2])
      rw [hsp] at hE
      exact hE _ _ _ _ hP hD hS d_X_guarded_20
