set_option maxHeartbeats 4000000 in
set_option maxRecDepth 100000 in
theorem k_X_step (l : Launch) (D : va_G) (cI : ClassId) (sz : Nat) (yX : Nat) (yM : Nat) (yD : Nat) (yA : Nat) (yO : Nat) (yL : Nat) (yH : Nat) (yI : Nat) (v_x : Nat → Int32) (v_M : Nat → Int32) (v_d : Nat → Int32) (v_a : Nat → Int32) (v_o : Nat → Int32) (v_lo : Nat → Int32) (v_hi : Nat → Int32) (v_ri : Nat → Int32) (hset : v_x 2 = 0 ∨ v_x 2 = 1) (heb : v_x 5 = 0 ∨ v_x 5 = 1) : zMv l y_X_step (.code y_X_step b_X_step 3 (none) :: wd) { frames := 5, cells := 0, slots := 0, locals := 128 } D classes [(cI, .int)] [.ref yX] [oX yX yM yD yA yO yL yH yI v_x, ar cI yM 512 v_M, ar cI yD 8 v_d, ar cI yA 8 v_a, ar cI yO 4 v_o, ar cI yL 6 v_lo, ar cI yH 6 v_hi, ar cI yI 6 v_ri] [oX yX yM yD yA yO yL yH yI ((s_X_step v_x v_M v_d v_a v_o v_lo v_hi v_ri).1), ar cI yM 512 ((s_X_step v_x v_M v_d v_a v_o v_lo v_hi v_ri).2.1), ar cI yD 8 ((s_X_step v_x v_M v_d v_a v_o v_lo v_hi v_ri).2.2.1), ar cI yA 8 ((s_X_step v_x v_M v_d v_a v_o v_lo v_hi v_ri).2.2.2.1), ar cI yO 4 ((s_X_step v_x v_M v_d v_a v_o v_lo v_hi v_ri).2.2.2.2), ar cI yL 6 v_lo, ar cI yH 6 v_hi, ar cI yI 6 v_ri] sz := by
  refine met_v (by decide) (Nat.le_of_ble_eq_true rfl) ?_
  intro p e s m args below meth c A Q ls hx hb hml hown hts hK hP hD hS hA hl hE
  have hl : lv_has ls 3 [(0, .ref yX)] := hl
  have hown : s.vm.findClass R_X = some m.cls := hown
  have CUT270 : ∀ (v_x' : Nat → Int32) (v_M' : Nat → Int32) (v_d' : Nat → Int32) (v_a' : Nat → Int32) (v_o' : Nat → Int32) (ls : Array Slot) (H : Heap) (locs : List Loc), s_X_step v_x v_M v_d v_a v_o v_lo v_hi v_ri = s_X_step_c270 v_lo v_hi v_ri v_x' v_M' v_d' v_a' v_o' → lv_has ls 3 [(0, .ref yX)] → va_P D classes [oX yX yM yD yA yO yL yH yI v_x', ar cI yM 512 v_M', ar cI yD 8 v_d', ar cI yA 8 v_a', ar cI yO 4 v_o', ar cI yL 6 v_lo, ar cI yH 6 v_hi, ar cI yI 6 v_ri] H → va_D A [oX yX yM yD yA yO yL yH yI v_x', ar cI yM 512 v_M', ar cI yD 8 v_d', ar cI yA 8 v_a', ar cI yO 4 v_o', ar cI yL 6 v_lo, ar cI yH 6 v_hi, ar cI yI 6 v_ri] → va_S A s.heap H locs → W p l e { frames := 5, cells := 0, slots := 0, locals := 128 } s m args below meth c H locs 0 0 Q (F0 m 270 ls []) := by
    intro v_x' v_M' v_d' v_a' v_o' ls H locs hres hl hP hD hS
    refine lv_aload_n hx hb d_X_step_270 rfl (lv_at hl 0 rfl) ?_
    refine zz_get (C := R_X) (T := F_X) (N := 27) (v := .int (v_x' 7)) hx hb hts in_X hown hK hP 0 rfl rfl 11 (by decide) mw_78 rfl d_X_step_271 ?_
    refine lv_if_eq (tgt := 297) hx hb d_X_step_274 (by decide) (fun h22 => ?_) (fun h22 => ?_)
    ·
      have hsp : s_X_step v_x v_M v_d v_a v_o v_lo v_hi v_ri = (v_x', v_M', v_d', v_a', v_o') := (hres.trans (by unfold s_X_step_c270; rw [if_pos h22]))
      rw [hsp] at hE
      exact hE _ _ _ _ hP hD hS d_X_step_297
    ·
      refine lv_aload_n hx hb d_X_step_277 rfl (lv_at hl 0 rfl) ?_
      refine zz_get (C := R_X) (T := F_X) (N := 27) (v := .int (v_x' 17)) hx hb hts in_X hown hK hP 0 rfl rfl 24 (by decide) mw_77 rfl d_X_step_278 ?_
      refine lv_if_eq (tgt := 297) hx hb d_X_step_281 (by decide) (fun h23 => ?_) (fun h23 => ?_)
      ·
        have hsp : s_X_step v_x v_M v_d v_a v_o v_lo v_hi v_ri = (v_x', v_M', v_d', v_a', v_o') := (hres.trans (by unfold s_X_step_c270; rw [if_neg h22, if_pos h23]))
        rw [hsp] at hE
        exact hE _ _ _ _ hP hD hS d_X_step_297
      ·
        refine lv_aload_n hx hb d_X_step_284 rfl (lv_at hl 0 rfl) ?_
        refine zz_get (C := R_X) (T := F_X) (N := 27) (v := .int (v_x' 18)) hx hb hts in_X hown hK hP 0 rfl rfl 25 (by decide) mw_80 rfl d_X_step_285 ?_
        refine lv_if_ne (tgt := 297) hx hb d_X_step_288 (by decide) (fun h24 => ?_) (fun h24 => ?_)
        ·
          have hsp : s_X_step v_x v_M v_d v_a v_o v_lo v_hi v_ri = (v_x', v_M', v_d', v_a', v_o') := (hres.trans (by unfold s_X_step_c270; rw [if_neg h22, if_neg h23, if_neg h24]))
          rw [hsp] at hE
          exact hE _ _ _ _ hP hD hS d_X_step_297
        ·
          refine lv_aload_n hx hb d_X_step_291 rfl (lv_at hl 0 rfl) ?_
          refine lv_iconst (v := (3 : Int32)) hx hb d_X_step_292 (by decide) ?_
          refine lv_iconst (v := (1 : Int32)) hx hb d_X_step_293 (by decide) ?_
          refine zz_cVv (rest := []) (wr := []) (w' := [oX yX yM yD yA yO yL yH yI ((s_X_take v_x' v_M' v_d' v_a' v_o' v_lo v_hi v_ri (3 : Int32) (1 : Int32)).1), ar cI yM 512 ((s_X_take v_x' v_M' v_d' v_a' v_o' v_lo v_hi v_ri (3 : Int32) (1 : Int32)).2.1), ar cI yD 8 ((s_X_take v_x' v_M' v_d' v_a' v_o' v_lo v_hi v_ri (3 : Int32) (1 : Int32)).2.2.1), ar cI yA 8 ((s_X_take v_x' v_M' v_d' v_a' v_o' v_lo v_hi v_ri (3 : Int32) (1 : Int32)).2.2.2.1), ar cI yO 4 ((s_X_take v_x' v_M' v_d' v_a' v_o' v_lo v_hi v_ri (3 : Int32) (1 : Int32)).2.2.2.2), ar cI yL 6 v_lo, ar cI yH 6 v_hi, ar cI yI 6 v_ri]) ⟨hx, hb, hml, hown, hts⟩ (k_X_take l D cI _ yX yM yD yA yO yL yH yI v_x' v_M' v_d' v_a' v_o' v_lo v_hi v_ri (3 : Int32) (1 : Int32)) g_X_step_X_take_146 nv_X_take ⟨⟨rfl, rfl⟩, Nat.le_of_ble_eq_true rfl, Nat.le_of_ble_eq_true rfl⟩ hK [0] rfl hP hD hS hA [0, 1, 2, 3, 4, 5, 6, 7] [] [0, 1, 2, 3, 4, 5, 6, 7] rfl rfl rfl rfl (by decide) rfl rfl 0 6 rfl rfl rfl rfl hl.1 (Nat.le_of_ble_eq_true rfl) d_X_step_294 ⟨Nat.zero_le _, Nat.zero_le _⟩ (fun H locs hP hD hS => ?_)
          have hsp : s_X_step v_x v_M v_d v_a v_o v_lo v_hi v_ri = ((s_X_take v_x' v_M' v_d' v_a' v_o' v_lo v_hi v_ri (3 : Int32) (1 : Int32)).1, (s_X_take v_x' v_M' v_d' v_a' v_o' v_lo v_hi v_ri (3 : Int32) (1 : Int32)).2.1, (s_X_take v_x' v_M' v_d' v_a' v_o' v_lo v_hi v_ri (3 : Int32) (1 : Int32)).2.2.1, (s_X_take v_x' v_M' v_d' v_a' v_o' v_lo v_hi v_ri (3 : Int32) (1 : Int32)).2.2.2.1, (s_X_take v_x' v_M' v_d' v_a' v_o' v_lo v_hi v_ri (3 : Int32) (1 : Int32)).2.2.2.2) := (hres.trans (by unfold s_X_step_c270; rw [if_neg h22, if_neg h23, if_pos h24]))
          rw [hsp] at hE
          exact hE _ _ _ _ hP hD hS d_X_step_297
  have CUT94 : ∀ (v_x' : Nat → Int32) (v_M' : Nat → Int32) (v_d' : Nat → Int32) (v_a' : Nat → Int32) (v_o' : Nat → Int32) (p_ : Int32) (ls : Array Slot) (H : Heap) (locs : List Loc), s_X_step v_x v_M v_d v_a v_o v_lo v_hi v_ri = s_X_step_c94 v_lo v_hi v_ri v_x' v_M' v_d' v_a' v_o' p_ → v_x' 2 = 0 ∨ v_x' 2 = 1 → v_x' 5 = 0 ∨ v_x' 5 = 1 → lv_has ls 3 [(1, .int p_), (0, .ref yX)] → va_P D classes [oX yX yM yD yA yO yL yH yI v_x', ar cI yM 512 v_M', ar cI yD 8 v_d', ar cI yA 8 v_a', ar cI yO 4 v_o', ar cI yL 6 v_lo, ar cI yH 6 v_hi, ar cI yI 6 v_ri] H → va_D A [oX yX yM yD yA yO yL yH yI v_x', ar cI yM 512 v_M', ar cI yD 8 v_d', ar cI yA 8 v_a', ar cI yO 4 v_o', ar cI yL 6 v_lo, ar cI yH 6 v_hi, ar cI yI 6 v_ri] → va_S A s.heap H locs → W p l e { frames := 5, cells := 0, slots := 0, locals := 128 } s m args below meth c H locs 0 0 Q (F0 m 94 ls []) := by
    intro v_x' v_M' v_d' v_a' v_o' p_ ls H locs hres hset' heb' hl hP hD hS
    refine lv_aload_n hx hb d_X_step_94 rfl (lv_at hl 1 rfl) ?_
    refine zz_get (C := R_X) (T := F_X) (N := 27) (v := .ref yO) hx hb hts in_X hown hK hP 0 rfl rfl 4 (by decide) mw_68 rfl d_X_step_95 ?_
    refine lv_iconst (v := (0 : Int32)) hx hb d_X_step_98 (by decide) ?_
    refine va_iald hx hb hK hP 4 0 rfl rfl (zz_inc (by decide)) d_X_step_99 ?_
    refine lv_istore_n (lv' := [(2, .int (v_o' (ix (0 : Int32)))), (1, .int p_), (0, .ref yX)]) hx hb d_X_step_100 rfl hl (by decide) rfl (fun ls hl => ?_)
    refine lv_aload_n hx hb d_X_step_101 rfl (lv_at hl 2 rfl) ?_
    refine zz_get (C := R_X) (T := F_X) (N := 27) (v := .int (v_x' 5)) hx hb hts in_X hown hK hP 0 rfl rfl 9 (by decide) mw_76 rfl d_X_step_102 ?_
    refine lv_if_eq (tgt := 164) hx hb d_X_step_105 (by decide) (fun h5 => ?_) (fun h5 => ?_)
    ·
      refine lv_iload_n hx hb d_X_step_164 rfl (lv_at hl 0 rfl) ?_
      refine lv_if_lt (tgt := 175) hx hb d_X_step_165 (by decide) (fun h6 => ?_) (fun h6 => ?_)
      ·
        refine lv_aload_n hx hb d_X_step_175 rfl (lv_at hl 2 rfl) ?_
        refine lv_iconst (v := (4 : Int32)) hx hb d_X_step_176 (by decide) ?_
        refine lv_iconst (v := (1 : Int32)) hx hb d_X_step_177 (by decide) ?_
        refine zz_cVv (rest := []) (wr := []) (w' := [oX yX yM yD yA yO yL yH yI ((s_X_take v_x' v_M' v_d' v_a' v_o' v_lo v_hi v_ri (4 : Int32) (1 : Int32)).1), ar cI yM 512 ((s_X_take v_x' v_M' v_d' v_a' v_o' v_lo v_hi v_ri (4 : Int32) (1 : Int32)).2.1), ar cI yD 8 ((s_X_take v_x' v_M' v_d' v_a' v_o' v_lo v_hi v_ri (4 : Int32) (1 : Int32)).2.2.1), ar cI yA 8 ((s_X_take v_x' v_M' v_d' v_a' v_o' v_lo v_hi v_ri (4 : Int32) (1 : Int32)).2.2.2.1), ar cI yO 4 ((s_X_take v_x' v_M' v_d' v_a' v_o' v_lo v_hi v_ri (4 : Int32) (1 : Int32)).2.2.2.2), ar cI yL 6 v_lo, ar cI yH 6 v_hi, ar cI yI 6 v_ri]) ⟨hx, hb, hml, hown, hts⟩ (k_X_take l D cI _ yX yM yD yA yO yL yH yI v_x' v_M' v_d' v_a' v_o' v_lo v_hi v_ri (4 : Int32) (1 : Int32)) g_X_step_X_take_146 nv_X_take ⟨⟨rfl, rfl⟩, Nat.le_of_ble_eq_true rfl, Nat.le_of_ble_eq_true rfl⟩ hK [0] rfl hP hD hS hA [0, 1, 2, 3, 4, 5, 6, 7] [] [0, 1, 2, 3, 4, 5, 6, 7] rfl rfl rfl rfl (by decide) rfl rfl 0 6 rfl rfl rfl rfl hl.1 (Nat.le_of_ble_eq_true rfl) d_X_step_178 ⟨Nat.zero_le _, Nat.zero_le _⟩ (fun H locs hP hD hS => ?_)
        refine lv_goto (tgt := 270) hx hb d_X_step_181 (by decide) ?_
        exact CUT270 ((s_X_take v_x' v_M' v_d' v_a' v_o' v_lo v_hi v_ri (4 : Int32) (1 : Int32)).1) ((s_X_take v_x' v_M' v_d' v_a' v_o' v_lo v_hi v_ri (4 : Int32) (1 : Int32)).2.1) ((s_X_take v_x' v_M' v_d' v_a' v_o' v_lo v_hi v_ri (4 : Int32) (1 : Int32)).2.2.1) ((s_X_take v_x' v_M' v_d' v_a' v_o' v_lo v_hi v_ri (4 : Int32) (1 : Int32)).2.2.2.1) ((s_X_take v_x' v_M' v_d' v_a' v_o' v_lo v_hi v_ri (4 : Int32) (1 : Int32)).2.2.2.2) _ _ _ (hres.trans (by unfold s_X_step_c94; rw [if_pos h5, if_pos h6])) (lv_sub hl [2] rfl) hP hD hS
      ·
        refine lv_iload_n hx hb d_X_step_168 rfl (lv_at hl 0 rfl) ?_
        refine lv_sipush (v := (512 : Int32)) hx hb d_X_step_169 (by decide) ?_
        refine lv_icmp_lt (tgt := 184) hx hb d_X_step_172 (by decide) (fun h7 => ?_) (fun h7 => ?_)
        ·
          refine lv_aload_n hx hb d_X_step_184 rfl (lv_at hl 2 rfl) ?_
          refine zz_rVi (rest := []) ⟨hx, hb, hml, hown, hts⟩ (k_X_guarded l D cI _ yX yM yD yA yO yL yH yI v_x' v_M' v_d' v_a' v_o' v_lo v_hi v_ri) g_X_step_X_guarded_94 nv_X_guarded ⟨⟨rfl, rfl⟩, Nat.le_of_ble_eq_true rfl, Nat.le_of_ble_eq_true rfl⟩ hK [0] rfl hP hD hS hA [0, 1, 2, 3, 4, 5, 6, 7] rfl rfl 0 6 rfl rfl rfl rfl hl.1 (Nat.le_of_ble_eq_true rfl) d_X_step_185 ⟨Nat.zero_le _, Nat.zero_le _⟩ (fun H locs hP hD hS => ?_)
          refine lv_if_eq (tgt := 234) hx hb d_X_step_188 (by decide) (fun h8 => ?_) (fun h8 => ?_)
          ·
            refine lv_aload_n hx hb d_X_step_234 rfl (lv_at hl 2 rfl) ?_
            refine lv_aload_n hx hb d_X_step_235 rfl (lv_at hl 2 rfl) ?_
            refine zz_get (C := R_X) (T := F_X) (N := 27) (v := .ref yM) hx hb hts in_X hown hK hP 0 rfl rfl 1 (by decide) mw_69 rfl d_X_step_236 ?_
            refine lv_iload_n hx hb d_X_step_239 rfl (lv_at hl 0 rfl) ?_
            refine va_iald hx hb hK hP 1 0 rfl rfl (in_pc h6 h7) d_X_step_240 ?_
            refine zz_cVv (rest := []) (wr := []) (w' := [oX yX yM yD yA yO yL yH yI ((s_X_instr v_x' v_M' v_d' v_a' v_o' v_lo v_hi v_ri (v_M' (ix (v_o' (ix (0 : Int32)))))).1), ar cI yM 512 ((s_X_instr v_x' v_M' v_d' v_a' v_o' v_lo v_hi v_ri (v_M' (ix (v_o' (ix (0 : Int32)))))).2.1), ar cI yD 8 ((s_X_instr v_x' v_M' v_d' v_a' v_o' v_lo v_hi v_ri (v_M' (ix (v_o' (ix (0 : Int32)))))).2.2.1), ar cI yA 8 ((s_X_instr v_x' v_M' v_d' v_a' v_o' v_lo v_hi v_ri (v_M' (ix (v_o' (ix (0 : Int32)))))).2.2.2.1), ar cI yO 4 ((s_X_instr v_x' v_M' v_d' v_a' v_o' v_lo v_hi v_ri (v_M' (ix (v_o' (ix (0 : Int32)))))).2.2.2.2), ar cI yL 6 v_lo, ar cI yH 6 v_hi, ar cI yI 6 v_ri]) ⟨hx, hb, hml, hown, hts⟩ (k_X_instr l D cI _ yX yM yD yA yO yL yH yI v_x' v_M' v_d' v_a' v_o' v_lo v_hi v_ri (v_M' (ix (v_o' (ix (0 : Int32))))) hset' heb') g_X_step_X_instruction_149 nv_X_instruction ⟨⟨rfl, rfl⟩, Nat.le_of_ble_eq_true rfl, Nat.le_of_ble_eq_true rfl⟩ hK [0] rfl hP hD hS hA [0, 1, 2, 3, 4, 5, 6, 7] [] [0, 1, 2, 3, 4, 5, 6, 7] rfl rfl rfl rfl (by decide) rfl rfl 0 6 rfl rfl rfl rfl hl.1 (Nat.le_of_ble_eq_true rfl) d_X_step_241 ⟨Nat.zero_le _, Nat.zero_le _⟩ (fun H locs hP hD hS => ?_)
            refine lv_aload_n hx hb d_X_step_244 rfl (lv_at hl 2 rfl) ?_
            refine zz_get (C := R_X) (T := F_X) (N := 27) (v := .int (((s_X_instr v_x' v_M' v_d' v_a' v_o' v_lo v_hi v_ri (v_M' (ix (v_o' (ix (0 : Int32)))))).1) 19)) hx hb hts in_X hown hK hP 0 rfl rfl 26 (by decide) mw_79 rfl d_X_step_245 ?_
            refine lv_if_le (tgt := 270) hx hb d_X_step_248 (by decide) (fun h9 => ?_) (fun h9 => ?_)
            ·
              exact CUT270 ((s_X_instr v_x' v_M' v_d' v_a' v_o' v_lo v_hi v_ri (v_M' (ix (v_o' (ix (0 : Int32)))))).1) ((s_X_instr v_x' v_M' v_d' v_a' v_o' v_lo v_hi v_ri (v_M' (ix (v_o' (ix (0 : Int32)))))).2.1) ((s_X_instr v_x' v_M' v_d' v_a' v_o' v_lo v_hi v_ri (v_M' (ix (v_o' (ix (0 : Int32)))))).2.2.1) ((s_X_instr v_x' v_M' v_d' v_a' v_o' v_lo v_hi v_ri (v_M' (ix (v_o' (ix (0 : Int32)))))).2.2.2.1) ((s_X_instr v_x' v_M' v_d' v_a' v_o' v_lo v_hi v_ri (v_M' (ix (v_o' (ix (0 : Int32)))))).2.2.2.2) _ _ _ (hres.trans (by unfold s_X_step_c94; rw [if_pos h5, if_neg h6, if_pos h7, if_pos h8, if_pos h9])) (lv_sub hl [2] rfl) hP hD hS
            ·
              refine lv_aload_n hx hb d_X_step_251 rfl (lv_at hl 2 rfl) ?_
              refine lv_aload_n hx hb d_X_step_252 rfl (lv_at hl 2 rfl) ?_
              refine zz_get (C := R_X) (T := F_X) (N := 27) (v := .int (((s_X_instr v_x' v_M' v_d' v_a' v_o' v_lo v_hi v_ri (v_M' (ix (v_o' (ix (0 : Int32)))))).1) 19)) hx hb hts in_X hown hK hP 0 rfl rfl 26 (by decide) mw_79 rfl d_X_step_253 ?_
              refine lv_bipush (v := (8 : Int32)) hx hb d_X_step_256 (by decide) ?_
              refine lv_ishr hx hb d_X_step_258 ?_
              refine lv_aload_n hx hb d_X_step_259 rfl (lv_at hl 2 rfl) ?_
              refine zz_get (C := R_X) (T := F_X) (N := 27) (v := .int (((s_X_instr v_x' v_M' v_d' v_a' v_o' v_lo v_hi v_ri (v_M' (ix (v_o' (ix (0 : Int32)))))).1) 19)) hx hb hts in_X hown hK hP 0 rfl rfl 26 (by decide) mw_79 rfl d_X_step_260 ?_
              refine lv_sipush (v := (255 : Int32)) hx hb d_X_step_263 (by decide) ?_
              refine lv_iand hx hb d_X_step_266 ?_
              refine zz_cVv (rest := []) (wr := []) (w' := [oX yX yM yD yA yO yL yH yI ((s_X_take ((s_X_instr v_x' v_M' v_d' v_a' v_o' v_lo v_hi v_ri (v_M' (ix (v_o' (ix (0 : Int32)))))).1) ((s_X_instr v_x' v_M' v_d' v_a' v_o' v_lo v_hi v_ri (v_M' (ix (v_o' (ix (0 : Int32)))))).2.1) ((s_X_instr v_x' v_M' v_d' v_a' v_o' v_lo v_hi v_ri (v_M' (ix (v_o' (ix (0 : Int32)))))).2.2.1) ((s_X_instr v_x' v_M' v_d' v_a' v_o' v_lo v_hi v_ri (v_M' (ix (v_o' (ix (0 : Int32)))))).2.2.2.1) ((s_X_instr v_x' v_M' v_d' v_a' v_o' v_lo v_hi v_ri (v_M' (ix (v_o' (ix (0 : Int32)))))).2.2.2.2) v_lo v_hi v_ri ((((s_X_instr v_x' v_M' v_d' v_a' v_o' v_lo v_hi v_ri (v_M' (ix (v_o' (ix (0 : Int32)))))).1) 19) >>> ((8 : Int32) &&& 31)) ((((s_X_instr v_x' v_M' v_d' v_a' v_o' v_lo v_hi v_ri (v_M' (ix (v_o' (ix (0 : Int32)))))).1) 19) &&& (255 : Int32))).1), ar cI yM 512 ((s_X_take ((s_X_instr v_x' v_M' v_d' v_a' v_o' v_lo v_hi v_ri (v_M' (ix (v_o' (ix (0 : Int32)))))).1) ((s_X_instr v_x' v_M' v_d' v_a' v_o' v_lo v_hi v_ri (v_M' (ix (v_o' (ix (0 : Int32)))))).2.1) ((s_X_instr v_x' v_M' v_d' v_a' v_o' v_lo v_hi v_ri (v_M' (ix (v_o' (ix (0 : Int32)))))).2.2.1) ((s_X_instr v_x' v_M' v_d' v_a' v_o' v_lo v_hi v_ri (v_M' (ix (v_o' (ix (0 : Int32)))))).2.2.2.1) ((s_X_instr v_x' v_M' v_d' v_a' v_o' v_lo v_hi v_ri (v_M' (ix (v_o' (ix (0 : Int32)))))).2.2.2.2) v_lo v_hi v_ri ((((s_X_instr v_x' v_M' v_d' v_a' v_o' v_lo v_hi v_ri (v_M' (ix (v_o' (ix (0 : Int32)))))).1) 19) >>> ((8 : Int32) &&& 31)) ((((s_X_instr v_x' v_M' v_d' v_a' v_o' v_lo v_hi v_ri (v_M' (ix (v_o' (ix (0 : Int32)))))).1) 19) &&& (255 : Int32))).2.1), ar cI yD 8 ((s_X_take ((s_X_instr v_x' v_M' v_d' v_a' v_o' v_lo v_hi v_ri (v_M' (ix (v_o' (ix (0 : Int32)))))).1) ((s_X_instr v_x' v_M' v_d' v_a' v_o' v_lo v_hi v_ri (v_M' (ix (v_o' (ix (0 : Int32)))))).2.1) ((s_X_instr v_x' v_M' v_d' v_a' v_o' v_lo v_hi v_ri (v_M' (ix (v_o' (ix (0 : Int32)))))).2.2.1) ((s_X_instr v_x' v_M' v_d' v_a' v_o' v_lo v_hi v_ri (v_M' (ix (v_o' (ix (0 : Int32)))))).2.2.2.1) ((s_X_instr v_x' v_M' v_d' v_a' v_o' v_lo v_hi v_ri (v_M' (ix (v_o' (ix (0 : Int32)))))).2.2.2.2) v_lo v_hi v_ri ((((s_X_instr v_x' v_M' v_d' v_a' v_o' v_lo v_hi v_ri (v_M' (ix (v_o' (ix (0 : Int32)))))).1) 19) >>> ((8 : Int32) &&& 31)) ((((s_X_instr v_x' v_M' v_d' v_a' v_o' v_lo v_hi v_ri (v_M' (ix (v_o' (ix (0 : Int32)))))).1) 19) &&& (255 : Int32))).2.2.1), ar cI yA 8 ((s_X_take ((s_X_instr v_x' v_M' v_d' v_a' v_o' v_lo v_hi v_ri (v_M' (ix (v_o' (ix (0 : Int32)))))).1) ((s_X_instr v_x' v_M' v_d' v_a' v_o' v_lo v_hi v_ri (v_M' (ix (v_o' (ix (0 : Int32)))))).2.1) ((s_X_instr v_x' v_M' v_d' v_a' v_o' v_lo v_hi v_ri (v_M' (ix (v_o' (ix (0 : Int32)))))).2.2.1) ((s_X_instr v_x' v_M' v_d' v_a' v_o' v_lo v_hi v_ri (v_M' (ix (v_o' (ix (0 : Int32)))))).2.2.2.1) ((s_X_instr v_x' v_M' v_d' v_a' v_o' v_lo v_hi v_ri (v_M' (ix (v_o' (ix (0 : Int32)))))).2.2.2.2) v_lo v_hi v_ri ((((s_X_instr v_x' v_M' v_d' v_a' v_o' v_lo v_hi v_ri (v_M' (ix (v_o' (ix (0 : Int32)))))).1) 19) >>> ((8 : Int32) &&& 31)) ((((s_X_instr v_x' v_M' v_d' v_a' v_o' v_lo v_hi v_ri (v_M' (ix (v_o' (ix (0 : Int32)))))).1) 19) &&& (255 : Int32))).2.2.2.1), ar cI yO 4 ((s_X_take ((s_X_instr v_x' v_M' v_d' v_a' v_o' v_lo v_hi v_ri (v_M' (ix (v_o' (ix (0 : Int32)))))).1) ((s_X_instr v_x' v_M' v_d' v_a' v_o' v_lo v_hi v_ri (v_M' (ix (v_o' (ix (0 : Int32)))))).2.1) ((s_X_instr v_x' v_M' v_d' v_a' v_o' v_lo v_hi v_ri (v_M' (ix (v_o' (ix (0 : Int32)))))).2.2.1) ((s_X_instr v_x' v_M' v_d' v_a' v_o' v_lo v_hi v_ri (v_M' (ix (v_o' (ix (0 : Int32)))))).2.2.2.1) ((s_X_instr v_x' v_M' v_d' v_a' v_o' v_lo v_hi v_ri (v_M' (ix (v_o' (ix (0 : Int32)))))).2.2.2.2) v_lo v_hi v_ri ((((s_X_instr v_x' v_M' v_d' v_a' v_o' v_lo v_hi v_ri (v_M' (ix (v_o' (ix (0 : Int32)))))).1) 19) >>> ((8 : Int32) &&& 31)) ((((s_X_instr v_x' v_M' v_d' v_a' v_o' v_lo v_hi v_ri (v_M' (ix (v_o' (ix (0 : Int32)))))).1) 19) &&& (255 : Int32))).2.2.2.2), ar cI yL 6 v_lo, ar cI yH 6 v_hi, ar cI yI 6 v_ri]) ⟨hx, hb, hml, hown, hts⟩ (k_X_take l D cI _ yX yM yD yA yO yL yH yI ((s_X_instr v_x' v_M' v_d' v_a' v_o' v_lo v_hi v_ri (v_M' (ix (v_o' (ix (0 : Int32)))))).1) ((s_X_instr v_x' v_M' v_d' v_a' v_o' v_lo v_hi v_ri (v_M' (ix (v_o' (ix (0 : Int32)))))).2.1) ((s_X_instr v_x' v_M' v_d' v_a' v_o' v_lo v_hi v_ri (v_M' (ix (v_o' (ix (0 : Int32)))))).2.2.1) ((s_X_instr v_x' v_M' v_d' v_a' v_o' v_lo v_hi v_ri (v_M' (ix (v_o' (ix (0 : Int32)))))).2.2.2.1) ((s_X_instr v_x' v_M' v_d' v_a' v_o' v_lo v_hi v_ri (v_M' (ix (v_o' (ix (0 : Int32)))))).2.2.2.2) v_lo v_hi v_ri ((((s_X_instr v_x' v_M' v_d' v_a' v_o' v_lo v_hi v_ri (v_M' (ix (v_o' (ix (0 : Int32)))))).1) 19) >>> ((8 : Int32) &&& 31)) ((((s_X_instr v_x' v_M' v_d' v_a' v_o' v_lo v_hi v_ri (v_M' (ix (v_o' (ix (0 : Int32)))))).1) 19) &&& (255 : Int32))) g_X_step_X_take_146 nv_X_take ⟨⟨rfl, rfl⟩, Nat.le_of_ble_eq_true rfl, Nat.le_of_ble_eq_true rfl⟩ hK [0] rfl hP hD hS hA [0, 1, 2, 3, 4, 5, 6, 7] [] [0, 1, 2, 3, 4, 5, 6, 7] rfl rfl rfl rfl (by decide) rfl rfl 0 6 rfl rfl rfl rfl hl.1 (Nat.le_of_ble_eq_true rfl) d_X_step_267 ⟨Nat.zero_le _, Nat.zero_le _⟩ (fun H locs hP hD hS => ?_)
              exact CUT270 ((s_X_take ((s_X_instr v_x' v_M' v_d' v_a' v_o' v_lo v_hi v_ri (v_M' (ix (v_o' (ix (0 : Int32)))))).1) ((s_X_instr v_x' v_M' v_d' v_a' v_o' v_lo v_hi v_ri (v_M' (ix (v_o' (ix (0 : Int32)))))).2.1) ((s_X_instr v_x' v_M' v_d' v_a' v_o' v_lo v_hi v_ri (v_M' (ix (v_o' (ix (0 : Int32)))))).2.2.1) ((s_X_instr v_x' v_M' v_d' v_a' v_o' v_lo v_hi v_ri (v_M' (ix (v_o' (ix (0 : Int32)))))).2.2.2.1) ((s_X_instr v_x' v_M' v_d' v_a' v_o' v_lo v_hi v_ri (v_M' (ix (v_o' (ix (0 : Int32)))))).2.2.2.2) v_lo v_hi v_ri ((((s_X_instr v_x' v_M' v_d' v_a' v_o' v_lo v_hi v_ri (v_M' (ix (v_o' (ix (0 : Int32)))))).1) 19) >>> ((8 : Int32) &&& 31)) ((((s_X_instr v_x' v_M' v_d' v_a' v_o' v_lo v_hi v_ri (v_M' (ix (v_o' (ix (0 : Int32)))))).1) 19) &&& (255 : Int32))).1) ((s_X_take ((s_X_instr v_x' v_M' v_d' v_a' v_o' v_lo v_hi v_ri (v_M' (ix (v_o' (ix (0 : Int32)))))).1) ((s_X_instr v_x' v_M' v_d' v_a' v_o' v_lo v_hi v_ri (v_M' (ix (v_o' (ix (0 : Int32)))))).2.1) ((s_X_instr v_x' v_M' v_d' v_a' v_o' v_lo v_hi v_ri (v_M' (ix (v_o' (ix (0 : Int32)))))).2.2.1) ((s_X_instr v_x' v_M' v_d' v_a' v_o' v_lo v_hi v_ri (v_M' (ix (v_o' (ix (0 : Int32)))))).2.2.2.1) ((s_X_instr v_x' v_M' v_d' v_a' v_o' v_lo v_hi v_ri (v_M' (ix (v_o' (ix (0 : Int32)))))).2.2.2.2) v_lo v_hi v_ri ((((s_X_instr v_x' v_M' v_d' v_a' v_o' v_lo v_hi v_ri (v_M' (ix (v_o' (ix (0 : Int32)))))).1) 19) >>> ((8 : Int32) &&& 31)) ((((s_X_instr v_x' v_M' v_d' v_a' v_o' v_lo v_hi v_ri (v_M' (ix (v_o' (ix (0 : Int32)))))).1) 19) &&& (255 : Int32))).2.1) ((s_X_take ((s_X_instr v_x' v_M' v_d' v_a' v_o' v_lo v_hi v_ri (v_M' (ix (v_o' (ix (0 : Int32)))))).1) ((s_X_instr v_x' v_M' v_d' v_a' v_o' v_lo v_hi v_ri (v_M' (ix (v_o' (ix (0 : Int32)))))).2.1) ((s_X_instr v_x' v_M' v_d' v_a' v_o' v_lo v_hi v_ri (v_M' (ix (v_o' (ix (0 : Int32)))))).2.2.1) ((s_X_instr v_x' v_M' v_d' v_a' v_o' v_lo v_hi v_ri (v_M' (ix (v_o' (ix (0 : Int32)))))).2.2.2.1) ((s_X_instr v_x' v_M' v_d' v_a' v_o' v_lo v_hi v_ri (v_M' (ix (v_o' (ix (0 : Int32)))))).2.2.2.2) v_lo v_hi v_ri ((((s_X_instr v_x' v_M' v_d' v_a' v_o' v_lo v_hi v_ri (v_M' (ix (v_o' (ix (0 : Int32)))))).1) 19) >>> ((8 : Int32) &&& 31)) ((((s_X_instr v_x' v_M' v_d' v_a' v_o' v_lo v_hi v_ri (v_M' (ix (v_o' (ix (0 : Int32)))))).1) 19) &&& (255 : Int32))).2.2.1) ((s_X_take ((s_X_instr v_x' v_M' v_d' v_a' v_o' v_lo v_hi v_ri (v_M' (ix (v_o' (ix (0 : Int32)))))).1) ((s_X_instr v_x' v_M' v_d' v_a' v_o' v_lo v_hi v_ri (v_M' (ix (v_o' (ix (0 : Int32)))))).2.1) ((s_X_instr v_x' v_M' v_d' v_a' v_o' v_lo v_hi v_ri (v_M' (ix (v_o' (ix (0 : Int32)))))).2.2.1) ((s_X_instr v_x' v_M' v_d' v_a' v_o' v_lo v_hi v_ri (v_M' (ix (v_o' (ix (0 : Int32)))))).2.2.2.1) ((s_X_instr v_x' v_M' v_d' v_a' v_o' v_lo v_hi v_ri (v_M' (ix (v_o' (ix (0 : Int32)))))).2.2.2.2) v_lo v_hi v_ri ((((s_X_instr v_x' v_M' v_d' v_a' v_o' v_lo v_hi v_ri (v_M' (ix (v_o' (ix (0 : Int32)))))).1) 19) >>> ((8 : Int32) &&& 31)) ((((s_X_instr v_x' v_M' v_d' v_a' v_o' v_lo v_hi v_ri (v_M' (ix (v_o' (ix (0 : Int32)))))).1) 19) &&& (255 : Int32))).2.2.2.1) ((s_X_take ((s_X_instr v_x' v_M' v_d' v_a' v_o' v_lo v_hi v_ri (v_M' (ix (v_o' (ix (0 : Int32)))))).1) ((s_X_instr v_x' v_M' v_d' v_a' v_o' v_lo v_hi v_ri (v_M' (ix (v_o' (ix (0 : Int32)))))).2.1) ((s_X_instr v_x' v_M' v_d' v_a' v_o' v_lo v_hi v_ri (v_M' (ix (v_o' (ix (0 : Int32)))))).2.2.1) ((s_X_instr v_x' v_M' v_d' v_a' v_o' v_lo v_hi v_ri (v_M' (ix (v_o' (ix (0 : Int32)))))).2.2.2.1) ((s_X_instr v_x' v_M' v_d' v_a' v_o' v_lo v_hi v_ri (v_M' (ix (v_o' (ix (0 : Int32)))))).2.2.2.2) v_lo v_hi v_ri ((((s_X_instr v_x' v_M' v_d' v_a' v_o' v_lo v_hi v_ri (v_M' (ix (v_o' (ix (0 : Int32)))))).1) 19) >>> ((8 : Int32) &&& 31)) ((((s_X_instr v_x' v_M' v_d' v_a' v_o' v_lo v_hi v_ri (v_M' (ix (v_o' (ix (0 : Int32)))))).1) 19) &&& (255 : Int32))).2.2.2.2) _ _ _ (hres.trans (by unfold s_X_step_c94; rw [if_pos h5, if_neg h6, if_pos h7, if_pos h8, if_neg h9])) (lv_sub hl [2] rfl) hP hD hS
          ·
            refine lv_iload_n hx hb d_X_step_191 rfl (lv_at hl 0 rfl) ?_
            refine lv_aload_n hx hb d_X_step_192 rfl (lv_at hl 2 rfl) ?_
            refine zz_get (C := R_X) (T := F_X) (N := 27) (v := .ref yL) hx hb hts in_X hown hK hP 0 rfl rfl 18 (by decide) mw_85 rfl d_X_step_193 ?_
            refine lv_iconst (v := (3 : Int32)) hx hb d_X_step_196 (by decide) ?_
            refine lv_aload_n hx hb d_X_step_197 rfl (lv_at hl 2 rfl) ?_
            refine zz_get (C := R_X) (T := F_X) (N := 27) (v := .int (v_x' 2)) hx hb hts in_X hown hK hP 0 rfl rfl 6 (by decide) mw_71 rfl d_X_step_198 ?_
            refine lv_imul hx hb d_X_step_201 ?_
            refine lv_iconst (v := (2 : Int32)) hx hb d_X_step_202 (by decide) ?_
            refine lv_iadd hx hb d_X_step_203 ?_
            refine va_iald hx hb hK hP 5 0 rfl rfl (in_xset2 hset') d_X_step_204 ?_
            refine lv_icmp_lt (tgt := 225) hx hb d_X_step_205 (by decide) (fun h10 => ?_) (fun h10 => ?_)
            ·
              refine lv_aload_n hx hb d_X_step_225 rfl (lv_at hl 2 rfl) ?_
              refine lv_iconst (v := (1 : Int32)) hx hb d_X_step_226 (by decide) ?_
              refine lv_iconst (v := (4 : Int32)) hx hb d_X_step_227 (by decide) ?_
              refine zz_cVv (rest := []) (wr := []) (w' := [oX yX yM yD yA yO yL yH yI ((s_X_take v_x' v_M' v_d' v_a' v_o' v_lo v_hi v_ri (1 : Int32) (4 : Int32)).1), ar cI yM 512 ((s_X_take v_x' v_M' v_d' v_a' v_o' v_lo v_hi v_ri (1 : Int32) (4 : Int32)).2.1), ar cI yD 8 ((s_X_take v_x' v_M' v_d' v_a' v_o' v_lo v_hi v_ri (1 : Int32) (4 : Int32)).2.2.1), ar cI yA 8 ((s_X_take v_x' v_M' v_d' v_a' v_o' v_lo v_hi v_ri (1 : Int32) (4 : Int32)).2.2.2.1), ar cI yO 4 ((s_X_take v_x' v_M' v_d' v_a' v_o' v_lo v_hi v_ri (1 : Int32) (4 : Int32)).2.2.2.2), ar cI yL 6 v_lo, ar cI yH 6 v_hi, ar cI yI 6 v_ri]) ⟨hx, hb, hml, hown, hts⟩ (k_X_take l D cI _ yX yM yD yA yO yL yH yI v_x' v_M' v_d' v_a' v_o' v_lo v_hi v_ri (1 : Int32) (4 : Int32)) g_X_step_X_take_146 nv_X_take ⟨⟨rfl, rfl⟩, Nat.le_of_ble_eq_true rfl, Nat.le_of_ble_eq_true rfl⟩ hK [0] rfl hP hD hS hA [0, 1, 2, 3, 4, 5, 6, 7] [] [0, 1, 2, 3, 4, 5, 6, 7] rfl rfl rfl rfl (by decide) rfl rfl 0 6 rfl rfl rfl rfl hl.1 (Nat.le_of_ble_eq_true rfl) d_X_step_228 ⟨Nat.zero_le _, Nat.zero_le _⟩ (fun H locs hP hD hS => ?_)
              refine lv_goto (tgt := 270) hx hb d_X_step_231 (by decide) ?_
              exact CUT270 ((s_X_take v_x' v_M' v_d' v_a' v_o' v_lo v_hi v_ri (1 : Int32) (4 : Int32)).1) ((s_X_take v_x' v_M' v_d' v_a' v_o' v_lo v_hi v_ri (1 : Int32) (4 : Int32)).2.1) ((s_X_take v_x' v_M' v_d' v_a' v_o' v_lo v_hi v_ri (1 : Int32) (4 : Int32)).2.2.1) ((s_X_take v_x' v_M' v_d' v_a' v_o' v_lo v_hi v_ri (1 : Int32) (4 : Int32)).2.2.2.1) ((s_X_take v_x' v_M' v_d' v_a' v_o' v_lo v_hi v_ri (1 : Int32) (4 : Int32)).2.2.2.2) _ _ _ (hres.trans (by unfold s_X_step_c94; rw [if_pos h5, if_neg h6, if_pos h7, if_neg h8, if_pos h10])) (lv_sub hl [2] rfl) hP hD hS
            ·
              refine lv_iload_n hx hb d_X_step_208 rfl (lv_at hl 0 rfl) ?_
              refine lv_aload_n hx hb d_X_step_209 rfl (lv_at hl 2 rfl) ?_
              refine zz_get (C := R_X) (T := F_X) (N := 27) (v := .ref yH) hx hb hts in_X hown hK hP 0 rfl rfl 19 (by decide) mw_86 rfl d_X_step_210 ?_
              refine lv_iconst (v := (3 : Int32)) hx hb d_X_step_213 (by decide) ?_
              refine lv_aload_n hx hb d_X_step_214 rfl (lv_at hl 2 rfl) ?_
              refine zz_get (C := R_X) (T := F_X) (N := 27) (v := .int (v_x' 2)) hx hb hts in_X hown hK hP 0 rfl rfl 6 (by decide) mw_71 rfl d_X_step_215 ?_
              refine lv_imul hx hb d_X_step_218 ?_
              refine lv_iconst (v := (2 : Int32)) hx hb d_X_step_219 (by decide) ?_
              refine lv_iadd hx hb d_X_step_220 ?_
              refine va_iald hx hb hK hP 6 0 rfl rfl (in_xset2 hset') d_X_step_221 ?_
              refine lv_icmp_lt (tgt := 234) hx hb d_X_step_222 (by decide) (fun h11 => ?_) (fun h11 => ?_)
              ·
                refine lv_aload_n hx hb d_X_step_234 rfl (lv_at hl 2 rfl) ?_
                refine lv_aload_n hx hb d_X_step_235 rfl (lv_at hl 2 rfl) ?_
                refine zz_get (C := R_X) (T := F_X) (N := 27) (v := .ref yM) hx hb hts in_X hown hK hP 0 rfl rfl 1 (by decide) mw_69 rfl d_X_step_236 ?_
                refine lv_iload_n hx hb d_X_step_239 rfl (lv_at hl 0 rfl) ?_
                refine va_iald hx hb hK hP 1 0 rfl rfl (in_pc h6 h7) d_X_step_240 ?_
                refine zz_cVv (rest := []) (wr := []) (w' := [oX yX yM yD yA yO yL yH yI ((s_X_instr v_x' v_M' v_d' v_a' v_o' v_lo v_hi v_ri (v_M' (ix (v_o' (ix (0 : Int32)))))).1), ar cI yM 512 ((s_X_instr v_x' v_M' v_d' v_a' v_o' v_lo v_hi v_ri (v_M' (ix (v_o' (ix (0 : Int32)))))).2.1), ar cI yD 8 ((s_X_instr v_x' v_M' v_d' v_a' v_o' v_lo v_hi v_ri (v_M' (ix (v_o' (ix (0 : Int32)))))).2.2.1), ar cI yA 8 ((s_X_instr v_x' v_M' v_d' v_a' v_o' v_lo v_hi v_ri (v_M' (ix (v_o' (ix (0 : Int32)))))).2.2.2.1), ar cI yO 4 ((s_X_instr v_x' v_M' v_d' v_a' v_o' v_lo v_hi v_ri (v_M' (ix (v_o' (ix (0 : Int32)))))).2.2.2.2), ar cI yL 6 v_lo, ar cI yH 6 v_hi, ar cI yI 6 v_ri]) ⟨hx, hb, hml, hown, hts⟩ (k_X_instr l D cI _ yX yM yD yA yO yL yH yI v_x' v_M' v_d' v_a' v_o' v_lo v_hi v_ri (v_M' (ix (v_o' (ix (0 : Int32))))) hset' heb') g_X_step_X_instruction_149 nv_X_instruction ⟨⟨rfl, rfl⟩, Nat.le_of_ble_eq_true rfl, Nat.le_of_ble_eq_true rfl⟩ hK [0] rfl hP hD hS hA [0, 1, 2, 3, 4, 5, 6, 7] [] [0, 1, 2, 3, 4, 5, 6, 7] rfl rfl rfl rfl (by decide) rfl rfl 0 6 rfl rfl rfl rfl hl.1 (Nat.le_of_ble_eq_true rfl) d_X_step_241 ⟨Nat.zero_le _, Nat.zero_le _⟩ (fun H locs hP hD hS => ?_)
                refine lv_aload_n hx hb d_X_step_244 rfl (lv_at hl 2 rfl) ?_
                refine zz_get (C := R_X) (T := F_X) (N := 27) (v := .int (((s_X_instr v_x' v_M' v_d' v_a' v_o' v_lo v_hi v_ri (v_M' (ix (v_o' (ix (0 : Int32)))))).1) 19)) hx hb hts in_X hown hK hP 0 rfl rfl 26 (by decide) mw_79 rfl d_X_step_245 ?_
                refine lv_if_le (tgt := 270) hx hb d_X_step_248 (by decide) (fun h12 => ?_) (fun h12 => ?_)
                ·
                  exact CUT270 ((s_X_instr v_x' v_M' v_d' v_a' v_o' v_lo v_hi v_ri (v_M' (ix (v_o' (ix (0 : Int32)))))).1) ((s_X_instr v_x' v_M' v_d' v_a' v_o' v_lo v_hi v_ri (v_M' (ix (v_o' (ix (0 : Int32)))))).2.1) ((s_X_instr v_x' v_M' v_d' v_a' v_o' v_lo v_hi v_ri (v_M' (ix (v_o' (ix (0 : Int32)))))).2.2.1) ((s_X_instr v_x' v_M' v_d' v_a' v_o' v_lo v_hi v_ri (v_M' (ix (v_o' (ix (0 : Int32)))))).2.2.2.1) ((s_X_instr v_x' v_M' v_d' v_a' v_o' v_lo v_hi v_ri (v_M' (ix (v_o' (ix (0 : Int32)))))).2.2.2.2) _ _ _ (hres.trans (by unfold s_X_step_c94; rw [if_pos h5, if_neg h6, if_pos h7, if_neg h8, if_neg h10, if_pos h11, if_pos h12])) (lv_sub hl [2] rfl) hP hD hS
                ·
                  refine lv_aload_n hx hb d_X_step_251 rfl (lv_at hl 2 rfl) ?_
                  refine lv_aload_n hx hb d_X_step_252 rfl (lv_at hl 2 rfl) ?_
                  refine zz_get (C := R_X) (T := F_X) (N := 27) (v := .int (((s_X_instr v_x' v_M' v_d' v_a' v_o' v_lo v_hi v_ri (v_M' (ix (v_o' (ix (0 : Int32)))))).1) 19)) hx hb hts in_X hown hK hP 0 rfl rfl 26 (by decide) mw_79 rfl d_X_step_253 ?_
                  refine lv_bipush (v := (8 : Int32)) hx hb d_X_step_256 (by decide) ?_
                  refine lv_ishr hx hb d_X_step_258 ?_
                  refine lv_aload_n hx hb d_X_step_259 rfl (lv_at hl 2 rfl) ?_
                  refine zz_get (C := R_X) (T := F_X) (N := 27) (v := .int (((s_X_instr v_x' v_M' v_d' v_a' v_o' v_lo v_hi v_ri (v_M' (ix (v_o' (ix (0 : Int32)))))).1) 19)) hx hb hts in_X hown hK hP 0 rfl rfl 26 (by decide) mw_79 rfl d_X_step_260 ?_
                  refine lv_sipush (v := (255 : Int32)) hx hb d_X_step_263 (by decide) ?_
                  refine lv_iand hx hb d_X_step_266 ?_
                  refine zz_cVv (rest := []) (wr := []) (w' := [oX yX yM yD yA yO yL yH yI ((s_X_take ((s_X_instr v_x' v_M' v_d' v_a' v_o' v_lo v_hi v_ri (v_M' (ix (v_o' (ix (0 : Int32)))))).1) ((s_X_instr v_x' v_M' v_d' v_a' v_o' v_lo v_hi v_ri (v_M' (ix (v_o' (ix (0 : Int32)))))).2.1) ((s_X_instr v_x' v_M' v_d' v_a' v_o' v_lo v_hi v_ri (v_M' (ix (v_o' (ix (0 : Int32)))))).2.2.1) ((s_X_instr v_x' v_M' v_d' v_a' v_o' v_lo v_hi v_ri (v_M' (ix (v_o' (ix (0 : Int32)))))).2.2.2.1) ((s_X_instr v_x' v_M' v_d' v_a' v_o' v_lo v_hi v_ri (v_M' (ix (v_o' (ix (0 : Int32)))))).2.2.2.2) v_lo v_hi v_ri ((((s_X_instr v_x' v_M' v_d' v_a' v_o' v_lo v_hi v_ri (v_M' (ix (v_o' (ix (0 : Int32)))))).1) 19) >>> ((8 : Int32) &&& 31)) ((((s_X_instr v_x' v_M' v_d' v_a' v_o' v_lo v_hi v_ri (v_M' (ix (v_o' (ix (0 : Int32)))))).1) 19) &&& (255 : Int32))).1), ar cI yM 512 ((s_X_take ((s_X_instr v_x' v_M' v_d' v_a' v_o' v_lo v_hi v_ri (v_M' (ix (v_o' (ix (0 : Int32)))))).1) ((s_X_instr v_x' v_M' v_d' v_a' v_o' v_lo v_hi v_ri (v_M' (ix (v_o' (ix (0 : Int32)))))).2.1) ((s_X_instr v_x' v_M' v_d' v_a' v_o' v_lo v_hi v_ri (v_M' (ix (v_o' (ix (0 : Int32)))))).2.2.1) ((s_X_instr v_x' v_M' v_d' v_a' v_o' v_lo v_hi v_ri (v_M' (ix (v_o' (ix (0 : Int32)))))).2.2.2.1) ((s_X_instr v_x' v_M' v_d' v_a' v_o' v_lo v_hi v_ri (v_M' (ix (v_o' (ix (0 : Int32)))))).2.2.2.2) v_lo v_hi v_ri ((((s_X_instr v_x' v_M' v_d' v_a' v_o' v_lo v_hi v_ri (v_M' (ix (v_o' (ix (0 : Int32)))))).1) 19) >>> ((8 : Int32) &&& 31)) ((((s_X_instr v_x' v_M' v_d' v_a' v_o' v_lo v_hi v_ri (v_M' (ix (v_o' (ix (0 : Int32)))))).1) 19) &&& (255 : Int32))).2.1), ar cI yD 8 ((s_X_take ((s_X_instr v_x' v_M' v_d' v_a' v_o' v_lo v_hi v_ri (v_M' (ix (v_o' (ix (0 : Int32)))))).1) ((s_X_instr v_x' v_M' v_d' v_a' v_o' v_lo v_hi v_ri (v_M' (ix (v_o' (ix (0 : Int32)))))).2.1) ((s_X_instr v_x' v_M' v_d' v_a' v_o' v_lo v_hi v_ri (v_M' (ix (v_o' (ix (0 : Int32)))))).2.2.1) ((s_X_instr v_x' v_M' v_d' v_a' v_o' v_lo v_hi v_ri (v_M' (ix (v_o' (ix (0 : Int32)))))).2.2.2.1) ((s_X_instr v_x' v_M' v_d' v_a' v_o' v_lo v_hi v_ri (v_M' (ix (v_o' (ix (0 : Int32)))))).2.2.2.2) v_lo v_hi v_ri ((((s_X_instr v_x' v_M' v_d' v_a' v_o' v_lo v_hi v_ri (v_M' (ix (v_o' (ix (0 : Int32)))))).1) 19) >>> ((8 : Int32) &&& 31)) ((((s_X_instr v_x' v_M' v_d' v_a' v_o' v_lo v_hi v_ri (v_M' (ix (v_o' (ix (0 : Int32)))))).1) 19) &&& (255 : Int32))).2.2.1), ar cI yA 8 ((s_X_take ((s_X_instr v_x' v_M' v_d' v_a' v_o' v_lo v_hi v_ri (v_M' (ix (v_o' (ix (0 : Int32)))))).1) ((s_X_instr v_x' v_M' v_d' v_a' v_o' v_lo v_hi v_ri (v_M' (ix (v_o' (ix (0 : Int32)))))).2.1) ((s_X_instr v_x' v_M' v_d' v_a' v_o' v_lo v_hi v_ri (v_M' (ix (v_o' (ix (0 : Int32)))))).2.2.1) ((s_X_instr v_x' v_M' v_d' v_a' v_o' v_lo v_hi v_ri (v_M' (ix (v_o' (ix (0 : Int32)))))).2.2.2.1) ((s_X_instr v_x' v_M' v_d' v_a' v_o' v_lo v_hi v_ri (v_M' (ix (v_o' (ix (0 : Int32)))))).2.2.2.2) v_lo v_hi v_ri ((((s_X_instr v_x' v_M' v_d' v_a' v_o' v_lo v_hi v_ri (v_M' (ix (v_o' (ix (0 : Int32)))))).1) 19) >>> ((8 : Int32) &&& 31)) ((((s_X_instr v_x' v_M' v_d' v_a' v_o' v_lo v_hi v_ri (v_M' (ix (v_o' (ix (0 : Int32)))))).1) 19) &&& (255 : Int32))).2.2.2.1), ar cI yO 4 ((s_X_take ((s_X_instr v_x' v_M' v_d' v_a' v_o' v_lo v_hi v_ri (v_M' (ix (v_o' (ix (0 : Int32)))))).1) ((s_X_instr v_x' v_M' v_d' v_a' v_o' v_lo v_hi v_ri (v_M' (ix (v_o' (ix (0 : Int32)))))).2.1) ((s_X_instr v_x' v_M' v_d' v_a' v_o' v_lo v_hi v_ri (v_M' (ix (v_o' (ix (0 : Int32)))))).2.2.1) ((s_X_instr v_x' v_M' v_d' v_a' v_o' v_lo v_hi v_ri (v_M' (ix (v_o' (ix (0 : Int32)))))).2.2.2.1) ((s_X_instr v_x' v_M' v_d' v_a' v_o' v_lo v_hi v_ri (v_M' (ix (v_o' (ix (0 : Int32)))))).2.2.2.2) v_lo v_hi v_ri ((((s_X_instr v_x' v_M' v_d' v_a' v_o' v_lo v_hi v_ri (v_M' (ix (v_o' (ix (0 : Int32)))))).1) 19) >>> ((8 : Int32) &&& 31)) ((((s_X_instr v_x' v_M' v_d' v_a' v_o' v_lo v_hi v_ri (v_M' (ix (v_o' (ix (0 : Int32)))))).1) 19) &&& (255 : Int32))).2.2.2.2), ar cI yL 6 v_lo, ar cI yH 6 v_hi, ar cI yI 6 v_ri]) ⟨hx, hb, hml, hown, hts⟩ (k_X_take l D cI _ yX yM yD yA yO yL yH yI ((s_X_instr v_x' v_M' v_d' v_a' v_o' v_lo v_hi v_ri (v_M' (ix (v_o' (ix (0 : Int32)))))).1) ((s_X_instr v_x' v_M' v_d' v_a' v_o' v_lo v_hi v_ri (v_M' (ix (v_o' (ix (0 : Int32)))))).2.1) ((s_X_instr v_x' v_M' v_d' v_a' v_o' v_lo v_hi v_ri (v_M' (ix (v_o' (ix (0 : Int32)))))).2.2.1) ((s_X_instr v_x' v_M' v_d' v_a' v_o' v_lo v_hi v_ri (v_M' (ix (v_o' (ix (0 : Int32)))))).2.2.2.1) ((s_X_instr v_x' v_M' v_d' v_a' v_o' v_lo v_hi v_ri (v_M' (ix (v_o' (ix (0 : Int32)))))).2.2.2.2) v_lo v_hi v_ri ((((s_X_instr v_x' v_M' v_d' v_a' v_o' v_lo v_hi v_ri (v_M' (ix (v_o' (ix (0 : Int32)))))).1) 19) >>> ((8 : Int32) &&& 31)) ((((s_X_instr v_x' v_M' v_d' v_a' v_o' v_lo v_hi v_ri (v_M' (ix (v_o' (ix (0 : Int32)))))).1) 19) &&& (255 : Int32))) g_X_step_X_take_146 nv_X_take ⟨⟨rfl, rfl⟩, Nat.le_of_ble_eq_true rfl, Nat.le_of_ble_eq_true rfl⟩ hK [0] rfl hP hD hS hA [0, 1, 2, 3, 4, 5, 6, 7] [] [0, 1, 2, 3, 4, 5, 6, 7] rfl rfl rfl rfl (by decide) rfl rfl 0 6 rfl rfl rfl rfl hl.1 (Nat.le_of_ble_eq_true rfl) d_X_step_267 ⟨Nat.zero_le _, Nat.zero_le _⟩ (fun H locs hP hD hS => ?_)
                  exact CUT270 ((s_X_take ((s_X_instr v_x' v_M' v_d' v_a' v_o' v_lo v_hi v_ri (v_M' (ix (v_o' (ix (0 : Int32)))))).1) ((s_X_instr v_x' v_M' v_d' v_a' v_o' v_lo v_hi v_ri (v_M' (ix (v_o' (ix (0 : Int32)))))).2.1) ((s_X_instr v_x' v_M' v_d' v_a' v_o' v_lo v_hi v_ri (v_M' (ix (v_o' (ix (0 : Int32)))))).2.2.1) ((s_X_instr v_x' v_M' v_d' v_a' v_o' v_lo v_hi v_ri (v_M' (ix (v_o' (ix (0 : Int32)))))).2.2.2.1) ((s_X_instr v_x' v_M' v_d' v_a' v_o' v_lo v_hi v_ri (v_M' (ix (v_o' (ix (0 : Int32)))))).2.2.2.2) v_lo v_hi v_ri ((((s_X_instr v_x' v_M' v_d' v_a' v_o' v_lo v_hi v_ri (v_M' (ix (v_o' (ix (0 : Int32)))))).1) 19) >>> ((8 : Int32) &&& 31)) ((((s_X_instr v_x' v_M' v_d' v_a' v_o' v_lo v_hi v_ri (v_M' (ix (v_o' (ix (0 : Int32)))))).1) 19) &&& (255 : Int32))).1) ((s_X_take ((s_X_instr v_x' v_M' v_d' v_a' v_o' v_lo v_hi v_ri (v_M' (ix (v_o' (ix (0 : Int32)))))).1) ((s_X_instr v_x' v_M' v_d' v_a' v_o' v_lo v_hi v_ri (v_M' (ix (v_o' (ix (0 : Int32)))))).2.1) ((s_X_instr v_x' v_M' v_d' v_a' v_o' v_lo v_hi v_ri (v_M' (ix (v_o' (ix (0 : Int32)))))).2.2.1) ((s_X_instr v_x' v_M' v_d' v_a' v_o' v_lo v_hi v_ri (v_M' (ix (v_o' (ix (0 : Int32)))))).2.2.2.1) ((s_X_instr v_x' v_M' v_d' v_a' v_o' v_lo v_hi v_ri (v_M' (ix (v_o' (ix (0 : Int32)))))).2.2.2.2) v_lo v_hi v_ri ((((s_X_instr v_x' v_M' v_d' v_a' v_o' v_lo v_hi v_ri (v_M' (ix (v_o' (ix (0 : Int32)))))).1) 19) >>> ((8 : Int32) &&& 31)) ((((s_X_instr v_x' v_M' v_d' v_a' v_o' v_lo v_hi v_ri (v_M' (ix (v_o' (ix (0 : Int32)))))).1) 19) &&& (255 : Int32))).2.1) ((s_X_take ((s_X_instr v_x' v_M' v_d' v_a' v_o' v_lo v_hi v_ri (v_M' (ix (v_o' (ix (0 : Int32)))))).1) ((s_X_instr v_x' v_M' v_d' v_a' v_o' v_lo v_hi v_ri (v_M' (ix (v_o' (ix (0 : Int32)))))).2.1) ((s_X_instr v_x' v_M' v_d' v_a' v_o' v_lo v_hi v_ri (v_M' (ix (v_o' (ix (0 : Int32)))))).2.2.1) ((s_X_instr v_x' v_M' v_d' v_a' v_o' v_lo v_hi v_ri (v_M' (ix (v_o' (ix (0 : Int32)))))).2.2.2.1) ((s_X_instr v_x' v_M' v_d' v_a' v_o' v_lo v_hi v_ri (v_M' (ix (v_o' (ix (0 : Int32)))))).2.2.2.2) v_lo v_hi v_ri ((((s_X_instr v_x' v_M' v_d' v_a' v_o' v_lo v_hi v_ri (v_M' (ix (v_o' (ix (0 : Int32)))))).1) 19) >>> ((8 : Int32) &&& 31)) ((((s_X_instr v_x' v_M' v_d' v_a' v_o' v_lo v_hi v_ri (v_M' (ix (v_o' (ix (0 : Int32)))))).1) 19) &&& (255 : Int32))).2.2.1) ((s_X_take ((s_X_instr v_x' v_M' v_d' v_a' v_o' v_lo v_hi v_ri (v_M' (ix (v_o' (ix (0 : Int32)))))).1) ((s_X_instr v_x' v_M' v_d' v_a' v_o' v_lo v_hi v_ri (v_M' (ix (v_o' (ix (0 : Int32)))))).2.1) ((s_X_instr v_x' v_M' v_d' v_a' v_o' v_lo v_hi v_ri (v_M' (ix (v_o' (ix (0 : Int32)))))).2.2.1) ((s_X_instr v_x' v_M' v_d' v_a' v_o' v_lo v_hi v_ri (v_M' (ix (v_o' (ix (0 : Int32)))))).2.2.2.1) ((s_X_instr v_x' v_M' v_d' v_a' v_o' v_lo v_hi v_ri (v_M' (ix (v_o' (ix (0 : Int32)))))).2.2.2.2) v_lo v_hi v_ri ((((s_X_instr v_x' v_M' v_d' v_a' v_o' v_lo v_hi v_ri (v_M' (ix (v_o' (ix (0 : Int32)))))).1) 19) >>> ((8 : Int32) &&& 31)) ((((s_X_instr v_x' v_M' v_d' v_a' v_o' v_lo v_hi v_ri (v_M' (ix (v_o' (ix (0 : Int32)))))).1) 19) &&& (255 : Int32))).2.2.2.1) ((s_X_take ((s_X_instr v_x' v_M' v_d' v_a' v_o' v_lo v_hi v_ri (v_M' (ix (v_o' (ix (0 : Int32)))))).1) ((s_X_instr v_x' v_M' v_d' v_a' v_o' v_lo v_hi v_ri (v_M' (ix (v_o' (ix (0 : Int32)))))).2.1) ((s_X_instr v_x' v_M' v_d' v_a' v_o' v_lo v_hi v_ri (v_M' (ix (v_o' (ix (0 : Int32)))))).2.2.1) ((s_X_instr v_x' v_M' v_d' v_a' v_o' v_lo v_hi v_ri (v_M' (ix (v_o' (ix (0 : Int32)))))).2.2.2.1) ((s_X_instr v_x' v_M' v_d' v_a' v_o' v_lo v_hi v_ri (v_M' (ix (v_o' (ix (0 : Int32)))))).2.2.2.2) v_lo v_hi v_ri ((((s_X_instr v_x' v_M' v_d' v_a' v_o' v_lo v_hi v_ri (v_M' (ix (v_o' (ix (0 : Int32)))))).1) 19) >>> ((8 : Int32) &&& 31)) ((((s_X_instr v_x' v_M' v_d' v_a' v_o' v_lo v_hi v_ri (v_M' (ix (v_o' (ix (0 : Int32)))))).1) 19) &&& (255 : Int32))).2.2.2.2) _ _ _ (hres.trans (by unfold s_X_step_c94; rw [if_pos h5, if_neg h6, if_pos h7, if_neg h8, if_neg h10, if_pos h11, if_neg h12])) (lv_sub hl [2] rfl) hP hD hS
              ·
                refine lv_aload_n hx hb d_X_step_225 rfl (lv_at hl 2 rfl) ?_
                refine lv_iconst (v := (1 : Int32)) hx hb d_X_step_226 (by decide) ?_
                refine lv_iconst (v := (4 : Int32)) hx hb d_X_step_227 (by decide) ?_
                refine zz_cVv (rest := []) (wr := []) (w' := [oX yX yM yD yA yO yL yH yI ((s_X_take v_x' v_M' v_d' v_a' v_o' v_lo v_hi v_ri (1 : Int32) (4 : Int32)).1), ar cI yM 512 ((s_X_take v_x' v_M' v_d' v_a' v_o' v_lo v_hi v_ri (1 : Int32) (4 : Int32)).2.1), ar cI yD 8 ((s_X_take v_x' v_M' v_d' v_a' v_o' v_lo v_hi v_ri (1 : Int32) (4 : Int32)).2.2.1), ar cI yA 8 ((s_X_take v_x' v_M' v_d' v_a' v_o' v_lo v_hi v_ri (1 : Int32) (4 : Int32)).2.2.2.1), ar cI yO 4 ((s_X_take v_x' v_M' v_d' v_a' v_o' v_lo v_hi v_ri (1 : Int32) (4 : Int32)).2.2.2.2), ar cI yL 6 v_lo, ar cI yH 6 v_hi, ar cI yI 6 v_ri]) ⟨hx, hb, hml, hown, hts⟩ (k_X_take l D cI _ yX yM yD yA yO yL yH yI v_x' v_M' v_d' v_a' v_o' v_lo v_hi v_ri (1 : Int32) (4 : Int32)) g_X_step_X_take_146 nv_X_take ⟨⟨rfl, rfl⟩, Nat.le_of_ble_eq_true rfl, Nat.le_of_ble_eq_true rfl⟩ hK [0] rfl hP hD hS hA [0, 1, 2, 3, 4, 5, 6, 7] [] [0, 1, 2, 3, 4, 5, 6, 7] rfl rfl rfl rfl (by decide) rfl rfl 0 6 rfl rfl rfl rfl hl.1 (Nat.le_of_ble_eq_true rfl) d_X_step_228 ⟨Nat.zero_le _, Nat.zero_le _⟩ (fun H locs hP hD hS => ?_)
                refine lv_goto (tgt := 270) hx hb d_X_step_231 (by decide) ?_
                exact CUT270 ((s_X_take v_x' v_M' v_d' v_a' v_o' v_lo v_hi v_ri (1 : Int32) (4 : Int32)).1) ((s_X_take v_x' v_M' v_d' v_a' v_o' v_lo v_hi v_ri (1 : Int32) (4 : Int32)).2.1) ((s_X_take v_x' v_M' v_d' v_a' v_o' v_lo v_hi v_ri (1 : Int32) (4 : Int32)).2.2.1) ((s_X_take v_x' v_M' v_d' v_a' v_o' v_lo v_hi v_ri (1 : Int32) (4 : Int32)).2.2.2.1) ((s_X_take v_x' v_M' v_d' v_a' v_o' v_lo v_hi v_ri (1 : Int32) (4 : Int32)).2.2.2.2) _ _ _ (hres.trans (by unfold s_X_step_c94; rw [if_pos h5, if_neg h6, if_pos h7, if_neg h8, if_neg h10, if_neg h11])) (lv_sub hl [2] rfl) hP hD hS
        ·
          refine lv_aload_n hx hb d_X_step_175 rfl (lv_at hl 2 rfl) ?_
          refine lv_iconst (v := (4 : Int32)) hx hb d_X_step_176 (by decide) ?_
          refine lv_iconst (v := (1 : Int32)) hx hb d_X_step_177 (by decide) ?_
          refine zz_cVv (rest := []) (wr := []) (w' := [oX yX yM yD yA yO yL yH yI ((s_X_take v_x' v_M' v_d' v_a' v_o' v_lo v_hi v_ri (4 : Int32) (1 : Int32)).1), ar cI yM 512 ((s_X_take v_x' v_M' v_d' v_a' v_o' v_lo v_hi v_ri (4 : Int32) (1 : Int32)).2.1), ar cI yD 8 ((s_X_take v_x' v_M' v_d' v_a' v_o' v_lo v_hi v_ri (4 : Int32) (1 : Int32)).2.2.1), ar cI yA 8 ((s_X_take v_x' v_M' v_d' v_a' v_o' v_lo v_hi v_ri (4 : Int32) (1 : Int32)).2.2.2.1), ar cI yO 4 ((s_X_take v_x' v_M' v_d' v_a' v_o' v_lo v_hi v_ri (4 : Int32) (1 : Int32)).2.2.2.2), ar cI yL 6 v_lo, ar cI yH 6 v_hi, ar cI yI 6 v_ri]) ⟨hx, hb, hml, hown, hts⟩ (k_X_take l D cI _ yX yM yD yA yO yL yH yI v_x' v_M' v_d' v_a' v_o' v_lo v_hi v_ri (4 : Int32) (1 : Int32)) g_X_step_X_take_146 nv_X_take ⟨⟨rfl, rfl⟩, Nat.le_of_ble_eq_true rfl, Nat.le_of_ble_eq_true rfl⟩ hK [0] rfl hP hD hS hA [0, 1, 2, 3, 4, 5, 6, 7] [] [0, 1, 2, 3, 4, 5, 6, 7] rfl rfl rfl rfl (by decide) rfl rfl 0 6 rfl rfl rfl rfl hl.1 (Nat.le_of_ble_eq_true rfl) d_X_step_178 ⟨Nat.zero_le _, Nat.zero_le _⟩ (fun H locs hP hD hS => ?_)
          refine lv_goto (tgt := 270) hx hb d_X_step_181 (by decide) ?_
          exact CUT270 ((s_X_take v_x' v_M' v_d' v_a' v_o' v_lo v_hi v_ri (4 : Int32) (1 : Int32)).1) ((s_X_take v_x' v_M' v_d' v_a' v_o' v_lo v_hi v_ri (4 : Int32) (1 : Int32)).2.1) ((s_X_take v_x' v_M' v_d' v_a' v_o' v_lo v_hi v_ri (4 : Int32) (1 : Int32)).2.2.1) ((s_X_take v_x' v_M' v_d' v_a' v_o' v_lo v_hi v_ri (4 : Int32) (1 : Int32)).2.2.2.1) ((s_X_take v_x' v_M' v_d' v_a' v_o' v_lo v_hi v_ri (4 : Int32) (1 : Int32)).2.2.2.2) _ _ _ (hres.trans (by unfold s_X_step_c94; rw [if_pos h5, if_neg h6, if_neg h7])) (lv_sub hl [2] rfl) hP hD hS
    ·
      refine lv_iload_n hx hb d_X_step_108 rfl (lv_at hl 1 rfl) ?_
      refine lv_aload_n hx hb d_X_step_109 rfl (lv_at hl 2 rfl) ?_
      refine zz_get (C := R_X) (T := F_X) (N := 27) (v := .int (v_x' 4)) hx hb hts in_X hown hK hP 0 rfl rfl 8 (by decide) mw_75 rfl d_X_step_110 ?_
      refine lv_icmp_le (tgt := 164) hx hb d_X_step_113 (by decide) (fun h13 => ?_) (fun h13 => ?_)
      ·
        refine lv_iload_n hx hb d_X_step_164 rfl (lv_at hl 0 rfl) ?_
        refine lv_if_lt (tgt := 175) hx hb d_X_step_165 (by decide) (fun h14 => ?_) (fun h14 => ?_)
        ·
          refine lv_aload_n hx hb d_X_step_175 rfl (lv_at hl 2 rfl) ?_
          refine lv_iconst (v := (4 : Int32)) hx hb d_X_step_176 (by decide) ?_
          refine lv_iconst (v := (1 : Int32)) hx hb d_X_step_177 (by decide) ?_
          refine zz_cVv (rest := []) (wr := []) (w' := [oX yX yM yD yA yO yL yH yI ((s_X_take v_x' v_M' v_d' v_a' v_o' v_lo v_hi v_ri (4 : Int32) (1 : Int32)).1), ar cI yM 512 ((s_X_take v_x' v_M' v_d' v_a' v_o' v_lo v_hi v_ri (4 : Int32) (1 : Int32)).2.1), ar cI yD 8 ((s_X_take v_x' v_M' v_d' v_a' v_o' v_lo v_hi v_ri (4 : Int32) (1 : Int32)).2.2.1), ar cI yA 8 ((s_X_take v_x' v_M' v_d' v_a' v_o' v_lo v_hi v_ri (4 : Int32) (1 : Int32)).2.2.2.1), ar cI yO 4 ((s_X_take v_x' v_M' v_d' v_a' v_o' v_lo v_hi v_ri (4 : Int32) (1 : Int32)).2.2.2.2), ar cI yL 6 v_lo, ar cI yH 6 v_hi, ar cI yI 6 v_ri]) ⟨hx, hb, hml, hown, hts⟩ (k_X_take l D cI _ yX yM yD yA yO yL yH yI v_x' v_M' v_d' v_a' v_o' v_lo v_hi v_ri (4 : Int32) (1 : Int32)) g_X_step_X_take_146 nv_X_take ⟨⟨rfl, rfl⟩, Nat.le_of_ble_eq_true rfl, Nat.le_of_ble_eq_true rfl⟩ hK [0] rfl hP hD hS hA [0, 1, 2, 3, 4, 5, 6, 7] [] [0, 1, 2, 3, 4, 5, 6, 7] rfl rfl rfl rfl (by decide) rfl rfl 0 6 rfl rfl rfl rfl hl.1 (Nat.le_of_ble_eq_true rfl) d_X_step_178 ⟨Nat.zero_le _, Nat.zero_le _⟩ (fun H locs hP hD hS => ?_)
          refine lv_goto (tgt := 270) hx hb d_X_step_181 (by decide) ?_
          exact CUT270 ((s_X_take v_x' v_M' v_d' v_a' v_o' v_lo v_hi v_ri (4 : Int32) (1 : Int32)).1) ((s_X_take v_x' v_M' v_d' v_a' v_o' v_lo v_hi v_ri (4 : Int32) (1 : Int32)).2.1) ((s_X_take v_x' v_M' v_d' v_a' v_o' v_lo v_hi v_ri (4 : Int32) (1 : Int32)).2.2.1) ((s_X_take v_x' v_M' v_d' v_a' v_o' v_lo v_hi v_ri (4 : Int32) (1 : Int32)).2.2.2.1) ((s_X_take v_x' v_M' v_d' v_a' v_o' v_lo v_hi v_ri (4 : Int32) (1 : Int32)).2.2.2.2) _ _ _ (hres.trans (by unfold s_X_step_c94; rw [if_neg h5, if_pos h13, if_pos h14])) (lv_sub hl [2] rfl) hP hD hS
        ·
          refine lv_iload_n hx hb d_X_step_168 rfl (lv_at hl 0 rfl) ?_
          refine lv_sipush (v := (512 : Int32)) hx hb d_X_step_169 (by decide) ?_
          refine lv_icmp_lt (tgt := 184) hx hb d_X_step_172 (by decide) (fun h15 => ?_) (fun h15 => ?_)
          ·
            refine lv_aload_n hx hb d_X_step_184 rfl (lv_at hl 2 rfl) ?_
            refine zz_rVi (rest := []) ⟨hx, hb, hml, hown, hts⟩ (k_X_guarded l D cI _ yX yM yD yA yO yL yH yI v_x' v_M' v_d' v_a' v_o' v_lo v_hi v_ri) g_X_step_X_guarded_94 nv_X_guarded ⟨⟨rfl, rfl⟩, Nat.le_of_ble_eq_true rfl, Nat.le_of_ble_eq_true rfl⟩ hK [0] rfl hP hD hS hA [0, 1, 2, 3, 4, 5, 6, 7] rfl rfl 0 6 rfl rfl rfl rfl hl.1 (Nat.le_of_ble_eq_true rfl) d_X_step_185 ⟨Nat.zero_le _, Nat.zero_le _⟩ (fun H locs hP hD hS => ?_)
            refine lv_if_eq (tgt := 234) hx hb d_X_step_188 (by decide) (fun h16 => ?_) (fun h16 => ?_)
            ·
              refine lv_aload_n hx hb d_X_step_234 rfl (lv_at hl 2 rfl) ?_
              refine lv_aload_n hx hb d_X_step_235 rfl (lv_at hl 2 rfl) ?_
              refine zz_get (C := R_X) (T := F_X) (N := 27) (v := .ref yM) hx hb hts in_X hown hK hP 0 rfl rfl 1 (by decide) mw_69 rfl d_X_step_236 ?_
              refine lv_iload_n hx hb d_X_step_239 rfl (lv_at hl 0 rfl) ?_
              refine va_iald hx hb hK hP 1 0 rfl rfl (in_pc h14 h15) d_X_step_240 ?_
              refine zz_cVv (rest := []) (wr := []) (w' := [oX yX yM yD yA yO yL yH yI ((s_X_instr v_x' v_M' v_d' v_a' v_o' v_lo v_hi v_ri (v_M' (ix (v_o' (ix (0 : Int32)))))).1), ar cI yM 512 ((s_X_instr v_x' v_M' v_d' v_a' v_o' v_lo v_hi v_ri (v_M' (ix (v_o' (ix (0 : Int32)))))).2.1), ar cI yD 8 ((s_X_instr v_x' v_M' v_d' v_a' v_o' v_lo v_hi v_ri (v_M' (ix (v_o' (ix (0 : Int32)))))).2.2.1), ar cI yA 8 ((s_X_instr v_x' v_M' v_d' v_a' v_o' v_lo v_hi v_ri (v_M' (ix (v_o' (ix (0 : Int32)))))).2.2.2.1), ar cI yO 4 ((s_X_instr v_x' v_M' v_d' v_a' v_o' v_lo v_hi v_ri (v_M' (ix (v_o' (ix (0 : Int32)))))).2.2.2.2), ar cI yL 6 v_lo, ar cI yH 6 v_hi, ar cI yI 6 v_ri]) ⟨hx, hb, hml, hown, hts⟩ (k_X_instr l D cI _ yX yM yD yA yO yL yH yI v_x' v_M' v_d' v_a' v_o' v_lo v_hi v_ri (v_M' (ix (v_o' (ix (0 : Int32))))) hset' heb') g_X_step_X_instruction_149 nv_X_instruction ⟨⟨rfl, rfl⟩, Nat.le_of_ble_eq_true rfl, Nat.le_of_ble_eq_true rfl⟩ hK [0] rfl hP hD hS hA [0, 1, 2, 3, 4, 5, 6, 7] [] [0, 1, 2, 3, 4, 5, 6, 7] rfl rfl rfl rfl (by decide) rfl rfl 0 6 rfl rfl rfl rfl hl.1 (Nat.le_of_ble_eq_true rfl) d_X_step_241 ⟨Nat.zero_le _, Nat.zero_le _⟩ (fun H locs hP hD hS => ?_)
              refine lv_aload_n hx hb d_X_step_244 rfl (lv_at hl 2 rfl) ?_
              refine zz_get (C := R_X) (T := F_X) (N := 27) (v := .int (((s_X_instr v_x' v_M' v_d' v_a' v_o' v_lo v_hi v_ri (v_M' (ix (v_o' (ix (0 : Int32)))))).1) 19)) hx hb hts in_X hown hK hP 0 rfl rfl 26 (by decide) mw_79 rfl d_X_step_245 ?_
              refine lv_if_le (tgt := 270) hx hb d_X_step_248 (by decide) (fun h17 => ?_) (fun h17 => ?_)
              ·
                exact CUT270 ((s_X_instr v_x' v_M' v_d' v_a' v_o' v_lo v_hi v_ri (v_M' (ix (v_o' (ix (0 : Int32)))))).1) ((s_X_instr v_x' v_M' v_d' v_a' v_o' v_lo v_hi v_ri (v_M' (ix (v_o' (ix (0 : Int32)))))).2.1) ((s_X_instr v_x' v_M' v_d' v_a' v_o' v_lo v_hi v_ri (v_M' (ix (v_o' (ix (0 : Int32)))))).2.2.1) ((s_X_instr v_x' v_M' v_d' v_a' v_o' v_lo v_hi v_ri (v_M' (ix (v_o' (ix (0 : Int32)))))).2.2.2.1) ((s_X_instr v_x' v_M' v_d' v_a' v_o' v_lo v_hi v_ri (v_M' (ix (v_o' (ix (0 : Int32)))))).2.2.2.2) _ _ _ (hres.trans (by unfold s_X_step_c94; rw [if_neg h5, if_pos h13, if_neg h14, if_pos h15, if_pos h16, if_pos h17])) (lv_sub hl [2] rfl) hP hD hS
              ·
                refine lv_aload_n hx hb d_X_step_251 rfl (lv_at hl 2 rfl) ?_
                refine lv_aload_n hx hb d_X_step_252 rfl (lv_at hl 2 rfl) ?_
                refine zz_get (C := R_X) (T := F_X) (N := 27) (v := .int (((s_X_instr v_x' v_M' v_d' v_a' v_o' v_lo v_hi v_ri (v_M' (ix (v_o' (ix (0 : Int32)))))).1) 19)) hx hb hts in_X hown hK hP 0 rfl rfl 26 (by decide) mw_79 rfl d_X_step_253 ?_
                refine lv_bipush (v := (8 : Int32)) hx hb d_X_step_256 (by decide) ?_
                refine lv_ishr hx hb d_X_step_258 ?_
                refine lv_aload_n hx hb d_X_step_259 rfl (lv_at hl 2 rfl) ?_
                refine zz_get (C := R_X) (T := F_X) (N := 27) (v := .int (((s_X_instr v_x' v_M' v_d' v_a' v_o' v_lo v_hi v_ri (v_M' (ix (v_o' (ix (0 : Int32)))))).1) 19)) hx hb hts in_X hown hK hP 0 rfl rfl 26 (by decide) mw_79 rfl d_X_step_260 ?_
                refine lv_sipush (v := (255 : Int32)) hx hb d_X_step_263 (by decide) ?_
                refine lv_iand hx hb d_X_step_266 ?_
                refine zz_cVv (rest := []) (wr := []) (w' := [oX yX yM yD yA yO yL yH yI ((s_X_take ((s_X_instr v_x' v_M' v_d' v_a' v_o' v_lo v_hi v_ri (v_M' (ix (v_o' (ix (0 : Int32)))))).1) ((s_X_instr v_x' v_M' v_d' v_a' v_o' v_lo v_hi v_ri (v_M' (ix (v_o' (ix (0 : Int32)))))).2.1) ((s_X_instr v_x' v_M' v_d' v_a' v_o' v_lo v_hi v_ri (v_M' (ix (v_o' (ix (0 : Int32)))))).2.2.1) ((s_X_instr v_x' v_M' v_d' v_a' v_o' v_lo v_hi v_ri (v_M' (ix (v_o' (ix (0 : Int32)))))).2.2.2.1) ((s_X_instr v_x' v_M' v_d' v_a' v_o' v_lo v_hi v_ri (v_M' (ix (v_o' (ix (0 : Int32)))))).2.2.2.2) v_lo v_hi v_ri ((((s_X_instr v_x' v_M' v_d' v_a' v_o' v_lo v_hi v_ri (v_M' (ix (v_o' (ix (0 : Int32)))))).1) 19) >>> ((8 : Int32) &&& 31)) ((((s_X_instr v_x' v_M' v_d' v_a' v_o' v_lo v_hi v_ri (v_M' (ix (v_o' (ix (0 : Int32)))))).1) 19) &&& (255 : Int32))).1), ar cI yM 512 ((s_X_take ((s_X_instr v_x' v_M' v_d' v_a' v_o' v_lo v_hi v_ri (v_M' (ix (v_o' (ix (0 : Int32)))))).1) ((s_X_instr v_x' v_M' v_d' v_a' v_o' v_lo v_hi v_ri (v_M' (ix (v_o' (ix (0 : Int32)))))).2.1) ((s_X_instr v_x' v_M' v_d' v_a' v_o' v_lo v_hi v_ri (v_M' (ix (v_o' (ix (0 : Int32)))))).2.2.1) ((s_X_instr v_x' v_M' v_d' v_a' v_o' v_lo v_hi v_ri (v_M' (ix (v_o' (ix (0 : Int32)))))).2.2.2.1) ((s_X_instr v_x' v_M' v_d' v_a' v_o' v_lo v_hi v_ri (v_M' (ix (v_o' (ix (0 : Int32)))))).2.2.2.2) v_lo v_hi v_ri ((((s_X_instr v_x' v_M' v_d' v_a' v_o' v_lo v_hi v_ri (v_M' (ix (v_o' (ix (0 : Int32)))))).1) 19) >>> ((8 : Int32) &&& 31)) ((((s_X_instr v_x' v_M' v_d' v_a' v_o' v_lo v_hi v_ri (v_M' (ix (v_o' (ix (0 : Int32)))))).1) 19) &&& (255 : Int32))).2.1), ar cI yD 8 ((s_X_take ((s_X_instr v_x' v_M' v_d' v_a' v_o' v_lo v_hi v_ri (v_M' (ix (v_o' (ix (0 : Int32)))))).1) ((s_X_instr v_x' v_M' v_d' v_a' v_o' v_lo v_hi v_ri (v_M' (ix (v_o' (ix (0 : Int32)))))).2.1) ((s_X_instr v_x' v_M' v_d' v_a' v_o' v_lo v_hi v_ri (v_M' (ix (v_o' (ix (0 : Int32)))))).2.2.1) ((s_X_instr v_x' v_M' v_d' v_a' v_o' v_lo v_hi v_ri (v_M' (ix (v_o' (ix (0 : Int32)))))).2.2.2.1) ((s_X_instr v_x' v_M' v_d' v_a' v_o' v_lo v_hi v_ri (v_M' (ix (v_o' (ix (0 : Int32)))))).2.2.2.2) v_lo v_hi v_ri ((((s_X_instr v_x' v_M' v_d' v_a' v_o' v_lo v_hi v_ri (v_M' (ix (v_o' (ix (0 : Int32)))))).1) 19) >>> ((8 : Int32) &&& 31)) ((((s_X_instr v_x' v_M' v_d' v_a' v_o' v_lo v_hi v_ri (v_M' (ix (v_o' (ix (0 : Int32)))))).1) 19) &&& (255 : Int32))).2.2.1), ar cI yA 8 ((s_X_take ((s_X_instr v_x' v_M' v_d' v_a' v_o' v_lo v_hi v_ri (v_M' (ix (v_o' (ix (0 : Int32)))))).1) ((s_X_instr v_x' v_M' v_d' v_a' v_o' v_lo v_hi v_ri (v_M' (ix (v_o' (ix (0 : Int32)))))).2.1) ((s_X_instr v_x' v_M' v_d' v_a' v_o' v_lo v_hi v_ri (v_M' (ix (v_o' (ix (0 : Int32)))))).2.2.1) ((s_X_instr v_x' v_M' v_d' v_a' v_o' v_lo v_hi v_ri (v_M' (ix (v_o' (ix (0 : Int32)))))).2.2.2.1) ((s_X_instr v_x' v_M' v_d' v_a' v_o' v_lo v_hi v_ri (v_M' (ix (v_o' (ix (0 : Int32)))))).2.2.2.2) v_lo v_hi v_ri ((((s_X_instr v_x' v_M' v_d' v_a' v_o' v_lo v_hi v_ri (v_M' (ix (v_o' (ix (0 : Int32)))))).1) 19) >>> ((8 : Int32) &&& 31)) ((((s_X_instr v_x' v_M' v_d' v_a' v_o' v_lo v_hi v_ri (v_M' (ix (v_o' (ix (0 : Int32)))))).1) 19) &&& (255 : Int32))).2.2.2.1), ar cI yO 4 ((s_X_take ((s_X_instr v_x' v_M' v_d' v_a' v_o' v_lo v_hi v_ri (v_M' (ix (v_o' (ix (0 : Int32)))))).1) ((s_X_instr v_x' v_M' v_d' v_a' v_o' v_lo v_hi v_ri (v_M' (ix (v_o' (ix (0 : Int32)))))).2.1) ((s_X_instr v_x' v_M' v_d' v_a' v_o' v_lo v_hi v_ri (v_M' (ix (v_o' (ix (0 : Int32)))))).2.2.1) ((s_X_instr v_x' v_M' v_d' v_a' v_o' v_lo v_hi v_ri (v_M' (ix (v_o' (ix (0 : Int32)))))).2.2.2.1) ((s_X_instr v_x' v_M' v_d' v_a' v_o' v_lo v_hi v_ri (v_M' (ix (v_o' (ix (0 : Int32)))))).2.2.2.2) v_lo v_hi v_ri ((((s_X_instr v_x' v_M' v_d' v_a' v_o' v_lo v_hi v_ri (v_M' (ix (v_o' (ix (0 : Int32)))))).1) 19) >>> ((8 : Int32) &&& 31)) ((((s_X_instr v_x' v_M' v_d' v_a' v_o' v_lo v_hi v_ri (v_M' (ix (v_o' (ix (0 : Int32)))))).1) 19) &&& (255 : Int32))).2.2.2.2), ar cI yL 6 v_lo, ar cI yH 6 v_hi, ar cI yI 6 v_ri]) ⟨hx, hb, hml, hown, hts⟩ (k_X_take l D cI _ yX yM yD yA yO yL yH yI ((s_X_instr v_x' v_M' v_d' v_a' v_o' v_lo v_hi v_ri (v_M' (ix (v_o' (ix (0 : Int32)))))).1) ((s_X_instr v_x' v_M' v_d' v_a' v_o' v_lo v_hi v_ri (v_M' (ix (v_o' (ix (0 : Int32)))))).2.1) ((s_X_instr v_x' v_M' v_d' v_a' v_o' v_lo v_hi v_ri (v_M' (ix (v_o' (ix (0 : Int32)))))).2.2.1) ((s_X_instr v_x' v_M' v_d' v_a' v_o' v_lo v_hi v_ri (v_M' (ix (v_o' (ix (0 : Int32)))))).2.2.2.1) ((s_X_instr v_x' v_M' v_d' v_a' v_o' v_lo v_hi v_ri (v_M' (ix (v_o' (ix (0 : Int32)))))).2.2.2.2) v_lo v_hi v_ri ((((s_X_instr v_x' v_M' v_d' v_a' v_o' v_lo v_hi v_ri (v_M' (ix (v_o' (ix (0 : Int32)))))).1) 19) >>> ((8 : Int32) &&& 31)) ((((s_X_instr v_x' v_M' v_d' v_a' v_o' v_lo v_hi v_ri (v_M' (ix (v_o' (ix (0 : Int32)))))).1) 19) &&& (255 : Int32))) g_X_step_X_take_146 nv_X_take ⟨⟨rfl, rfl⟩, Nat.le_of_ble_eq_true rfl, Nat.le_of_ble_eq_true rfl⟩ hK [0] rfl hP hD hS hA [0, 1, 2, 3, 4, 5, 6, 7] [] [0, 1, 2, 3, 4, 5, 6, 7] rfl rfl rfl rfl (by decide) rfl rfl 0 6 rfl rfl rfl rfl hl.1 (Nat.le_of_ble_eq_true rfl) d_X_step_267 ⟨Nat.zero_le _, Nat.zero_le _⟩ (fun H locs hP hD hS => ?_)
                exact CUT270 ((s_X_take ((s_X_instr v_x' v_M' v_d' v_a' v_o' v_lo v_hi v_ri (v_M' (ix (v_o' (ix (0 : Int32)))))).1) ((s_X_instr v_x' v_M' v_d' v_a' v_o' v_lo v_hi v_ri (v_M' (ix (v_o' (ix (0 : Int32)))))).2.1) ((s_X_instr v_x' v_M' v_d' v_a' v_o' v_lo v_hi v_ri (v_M' (ix (v_o' (ix (0 : Int32)))))).2.2.1) ((s_X_instr v_x' v_M' v_d' v_a' v_o' v_lo v_hi v_ri (v_M' (ix (v_o' (ix (0 : Int32)))))).2.2.2.1) ((s_X_instr v_x' v_M' v_d' v_a' v_o' v_lo v_hi v_ri (v_M' (ix (v_o' (ix (0 : Int32)))))).2.2.2.2) v_lo v_hi v_ri ((((s_X_instr v_x' v_M' v_d' v_a' v_o' v_lo v_hi v_ri (v_M' (ix (v_o' (ix (0 : Int32)))))).1) 19) >>> ((8 : Int32) &&& 31)) ((((s_X_instr v_x' v_M' v_d' v_a' v_o' v_lo v_hi v_ri (v_M' (ix (v_o' (ix (0 : Int32)))))).1) 19) &&& (255 : Int32))).1) ((s_X_take ((s_X_instr v_x' v_M' v_d' v_a' v_o' v_lo v_hi v_ri (v_M' (ix (v_o' (ix (0 : Int32)))))).1) ((s_X_instr v_x' v_M' v_d' v_a' v_o' v_lo v_hi v_ri (v_M' (ix (v_o' (ix (0 : Int32)))))).2.1) ((s_X_instr v_x' v_M' v_d' v_a' v_o' v_lo v_hi v_ri (v_M' (ix (v_o' (ix (0 : Int32)))))).2.2.1) ((s_X_instr v_x' v_M' v_d' v_a' v_o' v_lo v_hi v_ri (v_M' (ix (v_o' (ix (0 : Int32)))))).2.2.2.1) ((s_X_instr v_x' v_M' v_d' v_a' v_o' v_lo v_hi v_ri (v_M' (ix (v_o' (ix (0 : Int32)))))).2.2.2.2) v_lo v_hi v_ri ((((s_X_instr v_x' v_M' v_d' v_a' v_o' v_lo v_hi v_ri (v_M' (ix (v_o' (ix (0 : Int32)))))).1) 19) >>> ((8 : Int32) &&& 31)) ((((s_X_instr v_x' v_M' v_d' v_a' v_o' v_lo v_hi v_ri (v_M' (ix (v_o' (ix (0 : Int32)))))).1) 19) &&& (255 : Int32))).2.1) ((s_X_take ((s_X_instr v_x' v_M' v_d' v_a' v_o' v_lo v_hi v_ri (v_M' (ix (v_o' (ix (0 : Int32)))))).1) ((s_X_instr v_x' v_M' v_d' v_a' v_o' v_lo v_hi v_ri (v_M' (ix (v_o' (ix (0 : Int32)))))).2.1) ((s_X_instr v_x' v_M' v_d' v_a' v_o' v_lo v_hi v_ri (v_M' (ix (v_o' (ix (0 : Int32)))))).2.2.1) ((s_X_instr v_x' v_M' v_d' v_a' v_o' v_lo v_hi v_ri (v_M' (ix (v_o' (ix (0 : Int32)))))).2.2.2.1) ((s_X_instr v_x' v_M' v_d' v_a' v_o' v_lo v_hi v_ri (v_M' (ix (v_o' (ix (0 : Int32)))))).2.2.2.2) v_lo v_hi v_ri ((((s_X_instr v_x' v_M' v_d' v_a' v_o' v_lo v_hi v_ri (v_M' (ix (v_o' (ix (0 : Int32)))))).1) 19) >>> ((8 : Int32) &&& 31)) ((((s_X_instr v_x' v_M' v_d' v_a' v_o' v_lo v_hi v_ri (v_M' (ix (v_o' (ix (0 : Int32)))))).1) 19) &&& (255 : Int32))).2.2.1) ((s_X_take ((s_X_instr v_x' v_M' v_d' v_a' v_o' v_lo v_hi v_ri (v_M' (ix (v_o' (ix (0 : Int32)))))).1) ((s_X_instr v_x' v_M' v_d' v_a' v_o' v_lo v_hi v_ri (v_M' (ix (v_o' (ix (0 : Int32)))))).2.1) ((s_X_instr v_x' v_M' v_d' v_a' v_o' v_lo v_hi v_ri (v_M' (ix (v_o' (ix (0 : Int32)))))).2.2.1) ((s_X_instr v_x' v_M' v_d' v_a' v_o' v_lo v_hi v_ri (v_M' (ix (v_o' (ix (0 : Int32)))))).2.2.2.1) ((s_X_instr v_x' v_M' v_d' v_a' v_o' v_lo v_hi v_ri (v_M' (ix (v_o' (ix (0 : Int32)))))).2.2.2.2) v_lo v_hi v_ri ((((s_X_instr v_x' v_M' v_d' v_a' v_o' v_lo v_hi v_ri (v_M' (ix (v_o' (ix (0 : Int32)))))).1) 19) >>> ((8 : Int32) &&& 31)) ((((s_X_instr v_x' v_M' v_d' v_a' v_o' v_lo v_hi v_ri (v_M' (ix (v_o' (ix (0 : Int32)))))).1) 19) &&& (255 : Int32))).2.2.2.1) ((s_X_take ((s_X_instr v_x' v_M' v_d' v_a' v_o' v_lo v_hi v_ri (v_M' (ix (v_o' (ix (0 : Int32)))))).1) ((s_X_instr v_x' v_M' v_d' v_a' v_o' v_lo v_hi v_ri (v_M' (ix (v_o' (ix (0 : Int32)))))).2.1) ((s_X_instr v_x' v_M' v_d' v_a' v_o' v_lo v_hi v_ri (v_M' (ix (v_o' (ix (0 : Int32)))))).2.2.1) ((s_X_instr v_x' v_M' v_d' v_a' v_o' v_lo v_hi v_ri (v_M' (ix (v_o' (ix (0 : Int32)))))).2.2.2.1) ((s_X_instr v_x' v_M' v_d' v_a' v_o' v_lo v_hi v_ri (v_M' (ix (v_o' (ix (0 : Int32)))))).2.2.2.2) v_lo v_hi v_ri ((((s_X_instr v_x' v_M' v_d' v_a' v_o' v_lo v_hi v_ri (v_M' (ix (v_o' (ix (0 : Int32)))))).1) 19) >>> ((8 : Int32) &&& 31)) ((((s_X_instr v_x' v_M' v_d' v_a' v_o' v_lo v_hi v_ri (v_M' (ix (v_o' (ix (0 : Int32)))))).1) 19) &&& (255 : Int32))).2.2.2.2) _ _ _ (hres.trans (by unfold s_X_step_c94; rw [if_neg h5, if_pos h13, if_neg h14, if_pos h15, if_pos h16, if_neg h17])) (lv_sub hl [2] rfl) hP hD hS
            ·
              refine lv_iload_n hx hb d_X_step_191 rfl (lv_at hl 0 rfl) ?_
              refine lv_aload_n hx hb d_X_step_192 rfl (lv_at hl 2 rfl) ?_
              refine zz_get (C := R_X) (T := F_X) (N := 27) (v := .ref yL) hx hb hts in_X hown hK hP 0 rfl rfl 18 (by decide) mw_85 rfl d_X_step_193 ?_
              refine lv_iconst (v := (3 : Int32)) hx hb d_X_step_196 (by decide) ?_
              refine lv_aload_n hx hb d_X_step_197 rfl (lv_at hl 2 rfl) ?_
              refine zz_get (C := R_X) (T := F_X) (N := 27) (v := .int (v_x' 2)) hx hb hts in_X hown hK hP 0 rfl rfl 6 (by decide) mw_71 rfl d_X_step_198 ?_
              refine lv_imul hx hb d_X_step_201 ?_
              refine lv_iconst (v := (2 : Int32)) hx hb d_X_step_202 (by decide) ?_
              refine lv_iadd hx hb d_X_step_203 ?_
              refine va_iald hx hb hK hP 5 0 rfl rfl (in_xset2 hset') d_X_step_204 ?_
              refine lv_icmp_lt (tgt := 225) hx hb d_X_step_205 (by decide) (fun h18 => ?_) (fun h18 => ?_)
              ·
                refine lv_aload_n hx hb d_X_step_225 rfl (lv_at hl 2 rfl) ?_
                refine lv_iconst (v := (1 : Int32)) hx hb d_X_step_226 (by decide) ?_
                refine lv_iconst (v := (4 : Int32)) hx hb d_X_step_227 (by decide) ?_
                refine zz_cVv (rest := []) (wr := []) (w' := [oX yX yM yD yA yO yL yH yI ((s_X_take v_x' v_M' v_d' v_a' v_o' v_lo v_hi v_ri (1 : Int32) (4 : Int32)).1), ar cI yM 512 ((s_X_take v_x' v_M' v_d' v_a' v_o' v_lo v_hi v_ri (1 : Int32) (4 : Int32)).2.1), ar cI yD 8 ((s_X_take v_x' v_M' v_d' v_a' v_o' v_lo v_hi v_ri (1 : Int32) (4 : Int32)).2.2.1), ar cI yA 8 ((s_X_take v_x' v_M' v_d' v_a' v_o' v_lo v_hi v_ri (1 : Int32) (4 : Int32)).2.2.2.1), ar cI yO 4 ((s_X_take v_x' v_M' v_d' v_a' v_o' v_lo v_hi v_ri (1 : Int32) (4 : Int32)).2.2.2.2), ar cI yL 6 v_lo, ar cI yH 6 v_hi, ar cI yI 6 v_ri]) ⟨hx, hb, hml, hown, hts⟩ (k_X_take l D cI _ yX yM yD yA yO yL yH yI v_x' v_M' v_d' v_a' v_o' v_lo v_hi v_ri (1 : Int32) (4 : Int32)) g_X_step_X_take_146 nv_X_take ⟨⟨rfl, rfl⟩, Nat.le_of_ble_eq_true rfl, Nat.le_of_ble_eq_true rfl⟩ hK [0] rfl hP hD hS hA [0, 1, 2, 3, 4, 5, 6, 7] [] [0, 1, 2, 3, 4, 5, 6, 7] rfl rfl rfl rfl (by decide) rfl rfl 0 6 rfl rfl rfl rfl hl.1 (Nat.le_of_ble_eq_true rfl) d_X_step_228 ⟨Nat.zero_le _, Nat.zero_le _⟩ (fun H locs hP hD hS => ?_)
                refine lv_goto (tgt := 270) hx hb d_X_step_231 (by decide) ?_
                exact CUT270 ((s_X_take v_x' v_M' v_d' v_a' v_o' v_lo v_hi v_ri (1 : Int32) (4 : Int32)).1) ((s_X_take v_x' v_M' v_d' v_a' v_o' v_lo v_hi v_ri (1 : Int32) (4 : Int32)).2.1) ((s_X_take v_x' v_M' v_d' v_a' v_o' v_lo v_hi v_ri (1 : Int32) (4 : Int32)).2.2.1) ((s_X_take v_x' v_M' v_d' v_a' v_o' v_lo v_hi v_ri (1 : Int32) (4 : Int32)).2.2.2.1) ((s_X_take v_x' v_M' v_d' v_a' v_o' v_lo v_hi v_ri (1 : Int32) (4 : Int32)).2.2.2.2) _ _ _ (hres.trans (by unfold s_X_step_c94; rw [if_neg h5, if_pos h13, if_neg h14, if_pos h15, if_neg h16, if_pos h18])) (lv_sub hl [2] rfl) hP hD hS
              ·
                refine lv_iload_n hx hb d_X_step_208 rfl (lv_at hl 0 rfl) ?_
                refine lv_aload_n hx hb d_X_step_209 rfl (lv_at hl 2 rfl) ?_
                refine zz_get (C := R_X) (T := F_X) (N := 27) (v := .ref yH) hx hb hts in_X hown hK hP 0 rfl rfl 19 (by decide) mw_86 rfl d_X_step_210 ?_
                refine lv_iconst (v := (3 : Int32)) hx hb d_X_step_213 (by decide) ?_
                refine lv_aload_n hx hb d_X_step_214 rfl (lv_at hl 2 rfl) ?_
                refine zz_get (C := R_X) (T := F_X) (N := 27) (v := .int (v_x' 2)) hx hb hts in_X hown hK hP 0 rfl rfl 6 (by decide) mw_71 rfl d_X_step_215 ?_
                refine lv_imul hx hb d_X_step_218 ?_
                refine lv_iconst (v := (2 : Int32)) hx hb d_X_step_219 (by decide) ?_
                refine lv_iadd hx hb d_X_step_220 ?_
                refine va_iald hx hb hK hP 6 0 rfl rfl (in_xset2 hset') d_X_step_221 ?_
                refine lv_icmp_lt (tgt := 234) hx hb d_X_step_222 (by decide) (fun h19 => ?_) (fun h19 => ?_)
                ·
                  refine lv_aload_n hx hb d_X_step_234 rfl (lv_at hl 2 rfl) ?_
                  refine lv_aload_n hx hb d_X_step_235 rfl (lv_at hl 2 rfl) ?_
                  refine zz_get (C := R_X) (T := F_X) (N := 27) (v := .ref yM) hx hb hts in_X hown hK hP 0 rfl rfl 1 (by decide) mw_69 rfl d_X_step_236 ?_
                  refine lv_iload_n hx hb d_X_step_239 rfl (lv_at hl 0 rfl) ?_
                  refine va_iald hx hb hK hP 1 0 rfl rfl (in_pc h14 h15) d_X_step_240 ?_
                  refine zz_cVv (rest := []) (wr := []) (w' := [oX yX yM yD yA yO yL yH yI ((s_X_instr v_x' v_M' v_d' v_a' v_o' v_lo v_hi v_ri (v_M' (ix (v_o' (ix (0 : Int32)))))).1), ar cI yM 512 ((s_X_instr v_x' v_M' v_d' v_a' v_o' v_lo v_hi v_ri (v_M' (ix (v_o' (ix (0 : Int32)))))).2.1), ar cI yD 8 ((s_X_instr v_x' v_M' v_d' v_a' v_o' v_lo v_hi v_ri (v_M' (ix (v_o' (ix (0 : Int32)))))).2.2.1), ar cI yA 8 ((s_X_instr v_x' v_M' v_d' v_a' v_o' v_lo v_hi v_ri (v_M' (ix (v_o' (ix (0 : Int32)))))).2.2.2.1), ar cI yO 4 ((s_X_instr v_x' v_M' v_d' v_a' v_o' v_lo v_hi v_ri (v_M' (ix (v_o' (ix (0 : Int32)))))).2.2.2.2), ar cI yL 6 v_lo, ar cI yH 6 v_hi, ar cI yI 6 v_ri]) ⟨hx, hb, hml, hown, hts⟩ (k_X_instr l D cI _ yX yM yD yA yO yL yH yI v_x' v_M' v_d' v_a' v_o' v_lo v_hi v_ri (v_M' (ix (v_o' (ix (0 : Int32))))) hset' heb') g_X_step_X_instruction_149 nv_X_instruction ⟨⟨rfl, rfl⟩, Nat.le_of_ble_eq_true rfl, Nat.le_of_ble_eq_true rfl⟩ hK [0] rfl hP hD hS hA [0, 1, 2, 3, 4, 5, 6, 7] [] [0, 1, 2, 3, 4, 5, 6, 7] rfl rfl rfl rfl (by decide) rfl rfl 0 6 rfl rfl rfl rfl hl.1 (Nat.le_of_ble_eq_true rfl) d_X_step_241 ⟨Nat.zero_le _, Nat.zero_le _⟩ (fun H locs hP hD hS => ?_)
                  refine lv_aload_n hx hb d_X_step_244 rfl (lv_at hl 2 rfl) ?_
                  refine zz_get (C := R_X) (T := F_X) (N := 27) (v := .int (((s_X_instr v_x' v_M' v_d' v_a' v_o' v_lo v_hi v_ri (v_M' (ix (v_o' (ix (0 : Int32)))))).1) 19)) hx hb hts in_X hown hK hP 0 rfl rfl 26 (by decide) mw_79 rfl d_X_step_245 ?_
                  refine lv_if_le (tgt := 270) hx hb d_X_step_248 (by decide) (fun h20 => ?_) (fun h20 => ?_)
                  ·
                    exact CUT270 ((s_X_instr v_x' v_M' v_d' v_a' v_o' v_lo v_hi v_ri (v_M' (ix (v_o' (ix (0 : Int32)))))).1) ((s_X_instr v_x' v_M' v_d' v_a' v_o' v_lo v_hi v_ri (v_M' (ix (v_o' (ix (0 : Int32)))))).2.1) ((s_X_instr v_x' v_M' v_d' v_a' v_o' v_lo v_hi v_ri (v_M' (ix (v_o' (ix (0 : Int32)))))).2.2.1) ((s_X_instr v_x' v_M' v_d' v_a' v_o' v_lo v_hi v_ri (v_M' (ix (v_o' (ix (0 : Int32)))))).2.2.2.1) ((s_X_instr v_x' v_M' v_d' v_a' v_o' v_lo v_hi v_ri (v_M' (ix (v_o' (ix (0 : Int32)))))).2.2.2.2) _ _ _ (hres.trans (by unfold s_X_step_c94; rw [if_neg h5, if_pos h13, if_neg h14, if_pos h15, if_neg h16, if_neg h18, if_pos h19, if_pos h20])) (lv_sub hl [2] rfl) hP hD hS
                  ·
                    refine lv_aload_n hx hb d_X_step_251 rfl (lv_at hl 2 rfl) ?_
                    refine lv_aload_n hx hb d_X_step_252 rfl (lv_at hl 2 rfl) ?_
                    refine zz_get (C := R_X) (T := F_X) (N := 27) (v := .int (((s_X_instr v_x' v_M' v_d' v_a' v_o' v_lo v_hi v_ri (v_M' (ix (v_o' (ix (0 : Int32)))))).1) 19)) hx hb hts in_X hown hK hP 0 rfl rfl 26 (by decide) mw_79 rfl d_X_step_253 ?_
                    refine lv_bipush (v := (8 : Int32)) hx hb d_X_step_256 (by decide) ?_
                    refine lv_ishr hx hb d_X_step_258 ?_
                    refine lv_aload_n hx hb d_X_step_259 rfl (lv_at hl 2 rfl) ?_
                    refine zz_get (C := R_X) (T := F_X) (N := 27) (v := .int (((s_X_instr v_x' v_M' v_d' v_a' v_o' v_lo v_hi v_ri (v_M' (ix (v_o' (ix (0 : Int32)))))).1) 19)) hx hb hts in_X hown hK hP 0 rfl rfl 26 (by decide) mw_79 rfl d_X_step_260 ?_
                    refine lv_sipush (v := (255 : Int32)) hx hb d_X_step_263 (by decide) ?_
                    refine lv_iand hx hb d_X_step_266 ?_
                    refine zz_cVv (rest := []) (wr := []) (w' := [oX yX yM yD yA yO yL yH yI ((s_X_take ((s_X_instr v_x' v_M' v_d' v_a' v_o' v_lo v_hi v_ri (v_M' (ix (v_o' (ix (0 : Int32)))))).1) ((s_X_instr v_x' v_M' v_d' v_a' v_o' v_lo v_hi v_ri (v_M' (ix (v_o' (ix (0 : Int32)))))).2.1) ((s_X_instr v_x' v_M' v_d' v_a' v_o' v_lo v_hi v_ri (v_M' (ix (v_o' (ix (0 : Int32)))))).2.2.1) ((s_X_instr v_x' v_M' v_d' v_a' v_o' v_lo v_hi v_ri (v_M' (ix (v_o' (ix (0 : Int32)))))).2.2.2.1) ((s_X_instr v_x' v_M' v_d' v_a' v_o' v_lo v_hi v_ri (v_M' (ix (v_o' (ix (0 : Int32)))))).2.2.2.2) v_lo v_hi v_ri ((((s_X_instr v_x' v_M' v_d' v_a' v_o' v_lo v_hi v_ri (v_M' (ix (v_o' (ix (0 : Int32)))))).1) 19) >>> ((8 : Int32) &&& 31)) ((((s_X_instr v_x' v_M' v_d' v_a' v_o' v_lo v_hi v_ri (v_M' (ix (v_o' (ix (0 : Int32)))))).1) 19) &&& (255 : Int32))).1), ar cI yM 512 ((s_X_take ((s_X_instr v_x' v_M' v_d' v_a' v_o' v_lo v_hi v_ri (v_M' (ix (v_o' (ix (0 : Int32)))))).1) ((s_X_instr v_x' v_M' v_d' v_a' v_o' v_lo v_hi v_ri (v_M' (ix (v_o' (ix (0 : Int32)))))).2.1) ((s_X_instr v_x' v_M' v_d' v_a' v_o' v_lo v_hi v_ri (v_M' (ix (v_o' (ix (0 : Int32)))))).2.2.1) ((s_X_instr v_x' v_M' v_d' v_a' v_o' v_lo v_hi v_ri (v_M' (ix (v_o' (ix (0 : Int32)))))).2.2.2.1) ((s_X_instr v_x' v_M' v_d' v_a' v_o' v_lo v_hi v_ri (v_M' (ix (v_o' (ix (0 : Int32)))))).2.2.2.2) v_lo v_hi v_ri ((((s_X_instr v_x' v_M' v_d' v_a' v_o' v_lo v_hi v_ri (v_M' (ix (v_o' (ix (0 : Int32)))))).1) 19) >>> ((8 : Int32) &&& 31)) ((((s_X_instr v_x' v_M' v_d' v_a' v_o' v_lo v_hi v_ri (v_M' (ix (v_o' (ix (0 : Int32)))))).1) 19) &&& (255 : Int32))).2.1), ar cI yD 8 ((s_X_take ((s_X_instr v_x' v_M' v_d' v_a' v_o' v_lo v_hi v_ri (v_M' (ix (v_o' (ix (0 : Int32)))))).1) ((s_X_instr v_x' v_M' v_d' v_a' v_o' v_lo v_hi v_ri (v_M' (ix (v_o' (ix (0 : Int32)))))).2.1) ((s_X_instr v_x' v_M' v_d' v_a' v_o' v_lo v_hi v_ri (v_M' (ix (v_o' (ix (0 : Int32)))))).2.2.1) ((s_X_instr v_x' v_M' v_d' v_a' v_o' v_lo v_hi v_ri (v_M' (ix (v_o' (ix (0 : Int32)))))).2.2.2.1) ((s_X_instr v_x' v_M' v_d' v_a' v_o' v_lo v_hi v_ri (v_M' (ix (v_o' (ix (0 : Int32)))))).2.2.2.2) v_lo v_hi v_ri ((((s_X_instr v_x' v_M' v_d' v_a' v_o' v_lo v_hi v_ri (v_M' (ix (v_o' (ix (0 : Int32)))))).1) 19) >>> ((8 : Int32) &&& 31)) ((((s_X_instr v_x' v_M' v_d' v_a' v_o' v_lo v_hi v_ri (v_M' (ix (v_o' (ix (0 : Int32)))))).1) 19) &&& (255 : Int32))).2.2.1), ar cI yA 8 ((s_X_take ((s_X_instr v_x' v_M' v_d' v_a' v_o' v_lo v_hi v_ri (v_M' (ix (v_o' (ix (0 : Int32)))))).1) ((s_X_instr v_x' v_M' v_d' v_a' v_o' v_lo v_hi v_ri (v_M' (ix (v_o' (ix (0 : Int32)))))).2.1) ((s_X_instr v_x' v_M' v_d' v_a' v_o' v_lo v_hi v_ri (v_M' (ix (v_o' (ix (0 : Int32)))))).2.2.1) ((s_X_instr v_x' v_M' v_d' v_a' v_o' v_lo v_hi v_ri (v_M' (ix (v_o' (ix (0 : Int32)))))).2.2.2.1) ((s_X_instr v_x' v_M' v_d' v_a' v_o' v_lo v_hi v_ri (v_M' (ix (v_o' (ix (0 : Int32)))))).2.2.2.2) v_lo v_hi v_ri ((((s_X_instr v_x' v_M' v_d' v_a' v_o' v_lo v_hi v_ri (v_M' (ix (v_o' (ix (0 : Int32)))))).1) 19) >>> ((8 : Int32) &&& 31)) ((((s_X_instr v_x' v_M' v_d' v_a' v_o' v_lo v_hi v_ri (v_M' (ix (v_o' (ix (0 : Int32)))))).1) 19) &&& (255 : Int32))).2.2.2.1), ar cI yO 4 ((s_X_take ((s_X_instr v_x' v_M' v_d' v_a' v_o' v_lo v_hi v_ri (v_M' (ix (v_o' (ix (0 : Int32)))))).1) ((s_X_instr v_x' v_M' v_d' v_a' v_o' v_lo v_hi v_ri (v_M' (ix (v_o' (ix (0 : Int32)))))).2.1) ((s_X_instr v_x' v_M' v_d' v_a' v_o' v_lo v_hi v_ri (v_M' (ix (v_o' (ix (0 : Int32)))))).2.2.1) ((s_X_instr v_x' v_M' v_d' v_a' v_o' v_lo v_hi v_ri (v_M' (ix (v_o' (ix (0 : Int32)))))).2.2.2.1) ((s_X_instr v_x' v_M' v_d' v_a' v_o' v_lo v_hi v_ri (v_M' (ix (v_o' (ix (0 : Int32)))))).2.2.2.2) v_lo v_hi v_ri ((((s_X_instr v_x' v_M' v_d' v_a' v_o' v_lo v_hi v_ri (v_M' (ix (v_o' (ix (0 : Int32)))))).1) 19) >>> ((8 : Int32) &&& 31)) ((((s_X_instr v_x' v_M' v_d' v_a' v_o' v_lo v_hi v_ri (v_M' (ix (v_o' (ix (0 : Int32)))))).1) 19) &&& (255 : Int32))).2.2.2.2), ar cI yL 6 v_lo, ar cI yH 6 v_hi, ar cI yI 6 v_ri]) ⟨hx, hb, hml, hown, hts⟩ (k_X_take l D cI _ yX yM yD yA yO yL yH yI ((s_X_instr v_x' v_M' v_d' v_a' v_o' v_lo v_hi v_ri (v_M' (ix (v_o' (ix (0 : Int32)))))).1) ((s_X_instr v_x' v_M' v_d' v_a' v_o' v_lo v_hi v_ri (v_M' (ix (v_o' (ix (0 : Int32)))))).2.1) ((s_X_instr v_x' v_M' v_d' v_a' v_o' v_lo v_hi v_ri (v_M' (ix (v_o' (ix (0 : Int32)))))).2.2.1) ((s_X_instr v_x' v_M' v_d' v_a' v_o' v_lo v_hi v_ri (v_M' (ix (v_o' (ix (0 : Int32)))))).2.2.2.1) ((s_X_instr v_x' v_M' v_d' v_a' v_o' v_lo v_hi v_ri (v_M' (ix (v_o' (ix (0 : Int32)))))).2.2.2.2) v_lo v_hi v_ri ((((s_X_instr v_x' v_M' v_d' v_a' v_o' v_lo v_hi v_ri (v_M' (ix (v_o' (ix (0 : Int32)))))).1) 19) >>> ((8 : Int32) &&& 31)) ((((s_X_instr v_x' v_M' v_d' v_a' v_o' v_lo v_hi v_ri (v_M' (ix (v_o' (ix (0 : Int32)))))).1) 19) &&& (255 : Int32))) g_X_step_X_take_146 nv_X_take ⟨⟨rfl, rfl⟩, Nat.le_of_ble_eq_true rfl, Nat.le_of_ble_eq_true rfl⟩ hK [0] rfl hP hD hS hA [0, 1, 2, 3, 4, 5, 6, 7] [] [0, 1, 2, 3, 4, 5, 6, 7] rfl rfl rfl rfl (by decide) rfl rfl 0 6 rfl rfl rfl rfl hl.1 (Nat.le_of_ble_eq_true rfl) d_X_step_267 ⟨Nat.zero_le _, Nat.zero_le _⟩ (fun H locs hP hD hS => ?_)
                    exact CUT270 ((s_X_take ((s_X_instr v_x' v_M' v_d' v_a' v_o' v_lo v_hi v_ri (v_M' (ix (v_o' (ix (0 : Int32)))))).1) ((s_X_instr v_x' v_M' v_d' v_a' v_o' v_lo v_hi v_ri (v_M' (ix (v_o' (ix (0 : Int32)))))).2.1) ((s_X_instr v_x' v_M' v_d' v_a' v_o' v_lo v_hi v_ri (v_M' (ix (v_o' (ix (0 : Int32)))))).2.2.1) ((s_X_instr v_x' v_M' v_d' v_a' v_o' v_lo v_hi v_ri (v_M' (ix (v_o' (ix (0 : Int32)))))).2.2.2.1) ((s_X_instr v_x' v_M' v_d' v_a' v_o' v_lo v_hi v_ri (v_M' (ix (v_o' (ix (0 : Int32)))))).2.2.2.2) v_lo v_hi v_ri ((((s_X_instr v_x' v_M' v_d' v_a' v_o' v_lo v_hi v_ri (v_M' (ix (v_o' (ix (0 : Int32)))))).1) 19) >>> ((8 : Int32) &&& 31)) ((((s_X_instr v_x' v_M' v_d' v_a' v_o' v_lo v_hi v_ri (v_M' (ix (v_o' (ix (0 : Int32)))))).1) 19) &&& (255 : Int32))).1) ((s_X_take ((s_X_instr v_x' v_M' v_d' v_a' v_o' v_lo v_hi v_ri (v_M' (ix (v_o' (ix (0 : Int32)))))).1) ((s_X_instr v_x' v_M' v_d' v_a' v_o' v_lo v_hi v_ri (v_M' (ix (v_o' (ix (0 : Int32)))))).2.1) ((s_X_instr v_x' v_M' v_d' v_a' v_o' v_lo v_hi v_ri (v_M' (ix (v_o' (ix (0 : Int32)))))).2.2.1) ((s_X_instr v_x' v_M' v_d' v_a' v_o' v_lo v_hi v_ri (v_M' (ix (v_o' (ix (0 : Int32)))))).2.2.2.1) ((s_X_instr v_x' v_M' v_d' v_a' v_o' v_lo v_hi v_ri (v_M' (ix (v_o' (ix (0 : Int32)))))).2.2.2.2) v_lo v_hi v_ri ((((s_X_instr v_x' v_M' v_d' v_a' v_o' v_lo v_hi v_ri (v_M' (ix (v_o' (ix (0 : Int32)))))).1) 19) >>> ((8 : Int32) &&& 31)) ((((s_X_instr v_x' v_M' v_d' v_a' v_o' v_lo v_hi v_ri (v_M' (ix (v_o' (ix (0 : Int32)))))).1) 19) &&& (255 : Int32))).2.1) ((s_X_take ((s_X_instr v_x' v_M' v_d' v_a' v_o' v_lo v_hi v_ri (v_M' (ix (v_o' (ix (0 : Int32)))))).1) ((s_X_instr v_x' v_M' v_d' v_a' v_o' v_lo v_hi v_ri (v_M' (ix (v_o' (ix (0 : Int32)))))).2.1) ((s_X_instr v_x' v_M' v_d' v_a' v_o' v_lo v_hi v_ri (v_M' (ix (v_o' (ix (0 : Int32)))))).2.2.1) ((s_X_instr v_x' v_M' v_d' v_a' v_o' v_lo v_hi v_ri (v_M' (ix (v_o' (ix (0 : Int32)))))).2.2.2.1) ((s_X_instr v_x' v_M' v_d' v_a' v_o' v_lo v_hi v_ri (v_M' (ix (v_o' (ix (0 : Int32)))))).2.2.2.2) v_lo v_hi v_ri ((((s_X_instr v_x' v_M' v_d' v_a' v_o' v_lo v_hi v_ri (v_M' (ix (v_o' (ix (0 : Int32)))))).1) 19) >>> ((8 : Int32) &&& 31)) ((((s_X_instr v_x' v_M' v_d' v_a' v_o' v_lo v_hi v_ri (v_M' (ix (v_o' (ix (0 : Int32)))))).1) 19) &&& (255 : Int32))).2.2.1) ((s_X_take ((s_X_instr v_x' v_M' v_d' v_a' v_o' v_lo v_hi v_ri (v_M' (ix (v_o' (ix (0 : Int32)))))).1) ((s_X_instr v_x' v_M' v_d' v_a' v_o' v_lo v_hi v_ri (v_M' (ix (v_o' (ix (0 : Int32)))))).2.1) ((s_X_instr v_x' v_M' v_d' v_a' v_o' v_lo v_hi v_ri (v_M' (ix (v_o' (ix (0 : Int32)))))).2.2.1) ((s_X_instr v_x' v_M' v_d' v_a' v_o' v_lo v_hi v_ri (v_M' (ix (v_o' (ix (0 : Int32)))))).2.2.2.1) ((s_X_instr v_x' v_M' v_d' v_a' v_o' v_lo v_hi v_ri (v_M' (ix (v_o' (ix (0 : Int32)))))).2.2.2.2) v_lo v_hi v_ri ((((s_X_instr v_x' v_M' v_d' v_a' v_o' v_lo v_hi v_ri (v_M' (ix (v_o' (ix (0 : Int32)))))).1) 19) >>> ((8 : Int32) &&& 31)) ((((s_X_instr v_x' v_M' v_d' v_a' v_o' v_lo v_hi v_ri (v_M' (ix (v_o' (ix (0 : Int32)))))).1) 19) &&& (255 : Int32))).2.2.2.1) ((s_X_take ((s_X_instr v_x' v_M' v_d' v_a' v_o' v_lo v_hi v_ri (v_M' (ix (v_o' (ix (0 : Int32)))))).1) ((s_X_instr v_x' v_M' v_d' v_a' v_o' v_lo v_hi v_ri (v_M' (ix (v_o' (ix (0 : Int32)))))).2.1) ((s_X_instr v_x' v_M' v_d' v_a' v_o' v_lo v_hi v_ri (v_M' (ix (v_o' (ix (0 : Int32)))))).2.2.1) ((s_X_instr v_x' v_M' v_d' v_a' v_o' v_lo v_hi v_ri (v_M' (ix (v_o' (ix (0 : Int32)))))).2.2.2.1) ((s_X_instr v_x' v_M' v_d' v_a' v_o' v_lo v_hi v_ri (v_M' (ix (v_o' (ix (0 : Int32)))))).2.2.2.2) v_lo v_hi v_ri ((((s_X_instr v_x' v_M' v_d' v_a' v_o' v_lo v_hi v_ri (v_M' (ix (v_o' (ix (0 : Int32)))))).1) 19) >>> ((8 : Int32) &&& 31)) ((((s_X_instr v_x' v_M' v_d' v_a' v_o' v_lo v_hi v_ri (v_M' (ix (v_o' (ix (0 : Int32)))))).1) 19) &&& (255 : Int32))).2.2.2.2) _ _ _ (hres.trans (by unfold s_X_step_c94; rw [if_neg h5, if_pos h13, if_neg h14, if_pos h15, if_neg h16, if_neg h18, if_pos h19, if_neg h20])) (lv_sub hl [2] rfl) hP hD hS
                ·
                  refine lv_aload_n hx hb d_X_step_225 rfl (lv_at hl 2 rfl) ?_
                  refine lv_iconst (v := (1 : Int32)) hx hb d_X_step_226 (by decide) ?_
                  refine lv_iconst (v := (4 : Int32)) hx hb d_X_step_227 (by decide) ?_
                  refine zz_cVv (rest := []) (wr := []) (w' := [oX yX yM yD yA yO yL yH yI ((s_X_take v_x' v_M' v_d' v_a' v_o' v_lo v_hi v_ri (1 : Int32) (4 : Int32)).1), ar cI yM 512 ((s_X_take v_x' v_M' v_d' v_a' v_o' v_lo v_hi v_ri (1 : Int32) (4 : Int32)).2.1), ar cI yD 8 ((s_X_take v_x' v_M' v_d' v_a' v_o' v_lo v_hi v_ri (1 : Int32) (4 : Int32)).2.2.1), ar cI yA 8 ((s_X_take v_x' v_M' v_d' v_a' v_o' v_lo v_hi v_ri (1 : Int32) (4 : Int32)).2.2.2.1), ar cI yO 4 ((s_X_take v_x' v_M' v_d' v_a' v_o' v_lo v_hi v_ri (1 : Int32) (4 : Int32)).2.2.2.2), ar cI yL 6 v_lo, ar cI yH 6 v_hi, ar cI yI 6 v_ri]) ⟨hx, hb, hml, hown, hts⟩ (k_X_take l D cI _ yX yM yD yA yO yL yH yI v_x' v_M' v_d' v_a' v_o' v_lo v_hi v_ri (1 : Int32) (4 : Int32)) g_X_step_X_take_146 nv_X_take ⟨⟨rfl, rfl⟩, Nat.le_of_ble_eq_true rfl, Nat.le_of_ble_eq_true rfl⟩ hK [0] rfl hP hD hS hA [0, 1, 2, 3, 4, 5, 6, 7] [] [0, 1, 2, 3, 4, 5, 6, 7] rfl rfl rfl rfl (by decide) rfl rfl 0 6 rfl rfl rfl rfl hl.1 (Nat.le_of_ble_eq_true rfl) d_X_step_228 ⟨Nat.zero_le _, Nat.zero_le _⟩ (fun H locs hP hD hS => ?_)
                  refine lv_goto (tgt := 270) hx hb d_X_step_231 (by decide) ?_
                  exact CUT270 ((s_X_take v_x' v_M' v_d' v_a' v_o' v_lo v_hi v_ri (1 : Int32) (4 : Int32)).1) ((s_X_take v_x' v_M' v_d' v_a' v_o' v_lo v_hi v_ri (1 : Int32) (4 : Int32)).2.1) ((s_X_take v_x' v_M' v_d' v_a' v_o' v_lo v_hi v_ri (1 : Int32) (4 : Int32)).2.2.1) ((s_X_take v_x' v_M' v_d' v_a' v_o' v_lo v_hi v_ri (1 : Int32) (4 : Int32)).2.2.2.1) ((s_X_take v_x' v_M' v_d' v_a' v_o' v_lo v_hi v_ri (1 : Int32) (4 : Int32)).2.2.2.2) _ _ _ (hres.trans (by unfold s_X_step_c94; rw [if_neg h5, if_pos h13, if_neg h14, if_pos h15, if_neg h16, if_neg h18, if_neg h19])) (lv_sub hl [2] rfl) hP hD hS
          ·
            refine lv_aload_n hx hb d_X_step_175 rfl (lv_at hl 2 rfl) ?_
            refine lv_iconst (v := (4 : Int32)) hx hb d_X_step_176 (by decide) ?_
            refine lv_iconst (v := (1 : Int32)) hx hb d_X_step_177 (by decide) ?_
            refine zz_cVv (rest := []) (wr := []) (w' := [oX yX yM yD yA yO yL yH yI ((s_X_take v_x' v_M' v_d' v_a' v_o' v_lo v_hi v_ri (4 : Int32) (1 : Int32)).1), ar cI yM 512 ((s_X_take v_x' v_M' v_d' v_a' v_o' v_lo v_hi v_ri (4 : Int32) (1 : Int32)).2.1), ar cI yD 8 ((s_X_take v_x' v_M' v_d' v_a' v_o' v_lo v_hi v_ri (4 : Int32) (1 : Int32)).2.2.1), ar cI yA 8 ((s_X_take v_x' v_M' v_d' v_a' v_o' v_lo v_hi v_ri (4 : Int32) (1 : Int32)).2.2.2.1), ar cI yO 4 ((s_X_take v_x' v_M' v_d' v_a' v_o' v_lo v_hi v_ri (4 : Int32) (1 : Int32)).2.2.2.2), ar cI yL 6 v_lo, ar cI yH 6 v_hi, ar cI yI 6 v_ri]) ⟨hx, hb, hml, hown, hts⟩ (k_X_take l D cI _ yX yM yD yA yO yL yH yI v_x' v_M' v_d' v_a' v_o' v_lo v_hi v_ri (4 : Int32) (1 : Int32)) g_X_step_X_take_146 nv_X_take ⟨⟨rfl, rfl⟩, Nat.le_of_ble_eq_true rfl, Nat.le_of_ble_eq_true rfl⟩ hK [0] rfl hP hD hS hA [0, 1, 2, 3, 4, 5, 6, 7] [] [0, 1, 2, 3, 4, 5, 6, 7] rfl rfl rfl rfl (by decide) rfl rfl 0 6 rfl rfl rfl rfl hl.1 (Nat.le_of_ble_eq_true rfl) d_X_step_178 ⟨Nat.zero_le _, Nat.zero_le _⟩ (fun H locs hP hD hS => ?_)
            refine lv_goto (tgt := 270) hx hb d_X_step_181 (by decide) ?_
            exact CUT270 ((s_X_take v_x' v_M' v_d' v_a' v_o' v_lo v_hi v_ri (4 : Int32) (1 : Int32)).1) ((s_X_take v_x' v_M' v_d' v_a' v_o' v_lo v_hi v_ri (4 : Int32) (1 : Int32)).2.1) ((s_X_take v_x' v_M' v_d' v_a' v_o' v_lo v_hi v_ri (4 : Int32) (1 : Int32)).2.2.1) ((s_X_take v_x' v_M' v_d' v_a' v_o' v_lo v_hi v_ri (4 : Int32) (1 : Int32)).2.2.2.1) ((s_X_take v_x' v_M' v_d' v_a' v_o' v_lo v_hi v_ri (4 : Int32) (1 : Int32)).2.2.2.2) _ _ _ (hres.trans (by unfold s_X_step_c94; rw [if_neg h5, if_pos h13, if_neg h14, if_neg h15])) (lv_sub hl [2] rfl) hP hD hS
      ·
        refine lv_aload_n hx hb d_X_step_116 rfl (lv_at hl 2 rfl) ?_
        refine lv_iload_n hx hb d_X_step_117 rfl (lv_at hl 0 rfl) ?_
        refine lv_aload_n hx hb d_X_step_118 rfl (lv_at hl 2 rfl) ?_
        refine zz_get (C := R_X) (T := F_X) (N := 27) (v := .int (v_x' 12)) hx hb hts in_X hown hK hP 0 rfl rfl 16 (by decide) mw_94 rfl d_X_step_119 ?_
        refine lv_iconst (v := (4 : Int32)) hx hb d_X_step_122 (by decide) ?_
        refine lv_iload_n hx hb d_X_step_123 rfl (lv_at hl 1 rfl) ?_
        refine lv_imul hx hb d_X_step_124 ?_
        refine lv_iadd hx hb d_X_step_125 ?_
        refine zz_cVi (rest := []) (wr := []) (w' := [oX yX yM yD yA yO yL yH yI ((s_X_enter v_x' v_M' v_d' v_a' v_o' v_lo v_hi v_ri (v_o' (ix (0 : Int32))) ((v_x' 12) + ((4 : Int32) * p_))).2.1), ar cI yM 512 ((s_X_enter v_x' v_M' v_d' v_a' v_o' v_lo v_hi v_ri (v_o' (ix (0 : Int32))) ((v_x' 12) + ((4 : Int32) * p_))).2.2.1), ar cI yD 8 v_d', ar cI yA 8 ((s_X_enter v_x' v_M' v_d' v_a' v_o' v_lo v_hi v_ri (v_o' (ix (0 : Int32))) ((v_x' 12) + ((4 : Int32) * p_))).2.2.2.1), ar cI yO 4 ((s_X_enter v_x' v_M' v_d' v_a' v_o' v_lo v_hi v_ri (v_o' (ix (0 : Int32))) ((v_x' 12) + ((4 : Int32) * p_))).2.2.2.2), ar cI yL 6 v_lo, ar cI yH 6 v_hi, ar cI yI 6 v_ri]) ⟨hx, hb, hml, hown, hts⟩ (k_X_enter l D cI _ yX yM yD yA yO yL yH yI v_x' v_M' v_d' v_a' v_o' v_lo v_hi v_ri (v_o' (ix (0 : Int32))) ((v_x' 12) + ((4 : Int32) * p_))) g_X_step_X_enter_84 nv_X_enter ⟨⟨rfl, rfl⟩, Nat.le_of_ble_eq_true rfl, Nat.le_of_ble_eq_true rfl⟩ hK [0] rfl hP hD hS hA [0, 1, 2, 3, 4, 5, 6, 7] [] [0, 1, 2, 3, 4, 5, 6, 7] rfl rfl rfl rfl (by decide) rfl rfl 0 6 rfl rfl rfl rfl hl.1 (Nat.le_of_ble_eq_true rfl) d_X_step_126 ⟨Nat.zero_le _, Nat.zero_le _⟩ (fun H locs hP hD hS => ?_)
        refine lv_if_eq (tgt := 270) hx hb d_X_step_129 (by decide) (fun h21 => ?_) (fun h21 => ?_)
        ·
          exact CUT270 ((s_X_enter v_x' v_M' v_d' v_a' v_o' v_lo v_hi v_ri (v_o' (ix (0 : Int32))) ((v_x' 12) + ((4 : Int32) * p_))).2.1) ((s_X_enter v_x' v_M' v_d' v_a' v_o' v_lo v_hi v_ri (v_o' (ix (0 : Int32))) ((v_x' 12) + ((4 : Int32) * p_))).2.2.1) v_d' ((s_X_enter v_x' v_M' v_d' v_a' v_o' v_lo v_hi v_ri (v_o' (ix (0 : Int32))) ((v_x' 12) + ((4 : Int32) * p_))).2.2.2.1) ((s_X_enter v_x' v_M' v_d' v_a' v_o' v_lo v_hi v_ri (v_o' (ix (0 : Int32))) ((v_x' 12) + ((4 : Int32) * p_))).2.2.2.2) _ _ _ (hres.trans (by unfold s_X_step_c94; rw [if_neg h5, if_neg h13, if_pos h21])) (lv_sub hl [2] rfl) hP hD hS
        ·
          refine lv_aload_n hx hb d_X_step_132 rfl (lv_at hl 2 rfl) ?_
          refine lv_aload_n hx hb d_X_step_133 rfl (lv_at hl 2 rfl) ?_
          refine zz_get (C := R_X) (T := F_X) (N := 27) (v := .int (((s_X_enter v_x' v_M' v_d' v_a' v_o' v_lo v_hi v_ri (v_o' (ix (0 : Int32))) ((v_x' 12) + ((4 : Int32) * p_))).2.1) 6)) hx hb hts in_X hown hK hP 0 rfl rfl 10 (by decide) mw_92 rfl d_X_step_134 ?_
          refine lv_iconst (v := (1 : Int32)) hx hb d_X_step_137 (by decide) ?_
          refine lv_iload_n hx hb d_X_step_138 rfl (lv_at hl 1 rfl) ?_
          refine lv_ishl hx hb d_X_step_139 ?_
          refine lv_iconst (v := (-1 : Int32)) hx hb d_X_step_140 (by decide) ?_
          refine lv_ixor hx hb d_X_step_141 ?_
          refine lv_iand hx hb d_X_step_142 ?_
          refine zz_put (C := R_X) (T := F_X) (N := 27) (w' := [oX yX yM yD yA yO yL yH yI (upd ((s_X_enter v_x' v_M' v_d' v_a' v_o' v_lo v_hi v_ri (v_o' (ix (0 : Int32))) ((v_x' 12) + ((4 : Int32) * p_))).2.1) 6 ((((s_X_enter v_x' v_M' v_d' v_a' v_o' v_lo v_hi v_ri (v_o' (ix (0 : Int32))) ((v_x' 12) + ((4 : Int32) * p_))).2.1) 6) &&& (((1 : Int32) <<< (p_ &&& 31)) ^^^ (-1 : Int32)))), ar cI yM 512 ((s_X_enter v_x' v_M' v_d' v_a' v_o' v_lo v_hi v_ri (v_o' (ix (0 : Int32))) ((v_x' 12) + ((4 : Int32) * p_))).2.2.1), ar cI yD 8 v_d', ar cI yA 8 ((s_X_enter v_x' v_M' v_d' v_a' v_o' v_lo v_hi v_ri (v_o' (ix (0 : Int32))) ((v_x' 12) + ((4 : Int32) * p_))).2.2.2.1), ar cI yO 4 ((s_X_enter v_x' v_M' v_d' v_a' v_o' v_lo v_hi v_ri (v_o' (ix (0 : Int32))) ((v_x' 12) + ((4 : Int32) * p_))).2.2.2.2), ar cI yL 6 v_lo, ar cI yH 6 v_hi, ar cI yI 6 v_ri]) hx hb hts in_X ty_X ty_X_ok n_X hown hK hP hD hS 0 rfl rfl 10 (by decide) mw_92 rfl rfl rfl (Nat.le_of_ble_eq_true rfl) d_X_step_143 rfl (fun H locs hP hD hS => ?_)
          refine lv_aload_n hx hb d_X_step_146 rfl (lv_at hl 2 rfl) ?_
          show W p l e _ s m args below meth c _ _ _ _ Q (F0 m 147 ls _)
          refine lv_iload_n hx hb d_X_step_147 rfl (lv_at hl 1 rfl) ?_
          refine zz_put (C := R_X) (T := F_X) (N := 27) (w' := [oX yX yM yD yA yO yL yH yI (upd (upd ((s_X_enter v_x' v_M' v_d' v_a' v_o' v_lo v_hi v_ri (v_o' (ix (0 : Int32))) ((v_x' 12) + ((4 : Int32) * p_))).2.1) 6 ((((s_X_enter v_x' v_M' v_d' v_a' v_o' v_lo v_hi v_ri (v_o' (ix (0 : Int32))) ((v_x' 12) + ((4 : Int32) * p_))).2.1) 6) &&& (((1 : Int32) <<< (p_ &&& 31)) ^^^ (-1 : Int32)))) 4 p_), ar cI yM 512 ((s_X_enter v_x' v_M' v_d' v_a' v_o' v_lo v_hi v_ri (v_o' (ix (0 : Int32))) ((v_x' 12) + ((4 : Int32) * p_))).2.2.1), ar cI yD 8 v_d', ar cI yA 8 ((s_X_enter v_x' v_M' v_d' v_a' v_o' v_lo v_hi v_ri (v_o' (ix (0 : Int32))) ((v_x' 12) + ((4 : Int32) * p_))).2.2.2.1), ar cI yO 4 ((s_X_enter v_x' v_M' v_d' v_a' v_o' v_lo v_hi v_ri (v_o' (ix (0 : Int32))) ((v_x' 12) + ((4 : Int32) * p_))).2.2.2.2), ar cI yL 6 v_lo, ar cI yH 6 v_hi, ar cI yI 6 v_ri]) hx hb hts in_X ty_X ty_X_ok n_X hown hK hP hD hS 0 rfl rfl 8 (by decide) mw_75 rfl rfl rfl (Nat.le_of_ble_eq_true rfl) d_X_step_148 rfl (fun H locs hP hD hS => ?_)
          refine lv_aload_n hx hb d_X_step_151 rfl (lv_at hl 2 rfl) ?_
          refine lv_dup hx hb d_X_step_152 rfl ?_
          refine zz_get (C := R_X) (T := F_X) (N := 27) (v := .int (((s_X_enter v_x' v_M' v_d' v_a' v_o' v_lo v_hi v_ri (v_o' (ix (0 : Int32))) ((v_x' 12) + ((4 : Int32) * p_))).2.1) 16)) hx hb hts in_X hown hK hP 0 rfl rfl 23 (by decide) mw_95 rfl d_X_step_153 ?_
          refine lv_iconst (v := (1 : Int32)) hx hb d_X_step_156 (by decide) ?_
          refine lv_iadd hx hb d_X_step_157 ?_
          refine zz_put (C := R_X) (T := F_X) (N := 27) (w' := [oX yX yM yD yA yO yL yH yI (upd (upd (upd ((s_X_enter v_x' v_M' v_d' v_a' v_o' v_lo v_hi v_ri (v_o' (ix (0 : Int32))) ((v_x' 12) + ((4 : Int32) * p_))).2.1) 6 ((((s_X_enter v_x' v_M' v_d' v_a' v_o' v_lo v_hi v_ri (v_o' (ix (0 : Int32))) ((v_x' 12) + ((4 : Int32) * p_))).2.1) 6) &&& (((1 : Int32) <<< (p_ &&& 31)) ^^^ (-1 : Int32)))) 4 p_) 16 ((((s_X_enter v_x' v_M' v_d' v_a' v_o' v_lo v_hi v_ri (v_o' (ix (0 : Int32))) ((v_x' 12) + ((4 : Int32) * p_))).2.1) 16) + (1 : Int32))), ar cI yM 512 ((s_X_enter v_x' v_M' v_d' v_a' v_o' v_lo v_hi v_ri (v_o' (ix (0 : Int32))) ((v_x' 12) + ((4 : Int32) * p_))).2.2.1), ar cI yD 8 v_d', ar cI yA 8 ((s_X_enter v_x' v_M' v_d' v_a' v_o' v_lo v_hi v_ri (v_o' (ix (0 : Int32))) ((v_x' 12) + ((4 : Int32) * p_))).2.2.2.1), ar cI yO 4 ((s_X_enter v_x' v_M' v_d' v_a' v_o' v_lo v_hi v_ri (v_o' (ix (0 : Int32))) ((v_x' 12) + ((4 : Int32) * p_))).2.2.2.2), ar cI yL 6 v_lo, ar cI yH 6 v_hi, ar cI yI 6 v_ri]) hx hb hts in_X ty_X ty_X_ok n_X hown hK hP hD hS 0 rfl rfl 23 (by decide) mw_95 rfl rfl rfl (Nat.le_of_ble_eq_true rfl) d_X_step_158 rfl (fun H locs hP hD hS => ?_)
          refine lv_goto (tgt := 270) hx hb d_X_step_161 (by decide) ?_
          exact CUT270 (upd (upd (upd ((s_X_enter v_x' v_M' v_d' v_a' v_o' v_lo v_hi v_ri (v_o' (ix (0 : Int32))) ((v_x' 12) + ((4 : Int32) * p_))).2.1) 6 ((((s_X_enter v_x' v_M' v_d' v_a' v_o' v_lo v_hi v_ri (v_o' (ix (0 : Int32))) ((v_x' 12) + ((4 : Int32) * p_))).2.1) 6) &&& (((1 : Int32) <<< (p_ &&& 31)) ^^^ (-1 : Int32)))) 4 p_) 16 ((((s_X_enter v_x' v_M' v_d' v_a' v_o' v_lo v_hi v_ri (v_o' (ix (0 : Int32))) ((v_x' 12) + ((4 : Int32) * p_))).2.1) 16) + (1 : Int32))) ((s_X_enter v_x' v_M' v_d' v_a' v_o' v_lo v_hi v_ri (v_o' (ix (0 : Int32))) ((v_x' 12) + ((4 : Int32) * p_))).2.2.1) v_d' ((s_X_enter v_x' v_M' v_d' v_a' v_o' v_lo v_hi v_ri (v_o' (ix (0 : Int32))) ((v_x' 12) + ((4 : Int32) * p_))).2.2.2.1) ((s_X_enter v_x' v_M' v_d' v_a' v_o' v_lo v_hi v_ri (v_o' (ix (0 : Int32))) ((v_x' 12) + ((4 : Int32) * p_))).2.2.2.2) _ _ _ (hres.trans (by unfold s_X_step_c94; rw [if_neg h5, if_neg h13, if_neg h21])) (lv_sub hl [2] rfl) hP hD hS
  have LOOP : ∀ (n : Nat) (v_x' : Nat → Int32) (v_M' : Nat → Int32) (v_d' : Nat → Int32) (v_a' : Nat → Int32) (v_o' : Nat → Int32) (j : Nat) (ls : Array Slot) (H : Heap) (locs : List Loc), s_X_step v_x v_M v_d v_a v_o v_lo v_hi v_ri = s_X_step_loop v_lo v_hi v_ri n v_x' v_M' v_d' v_a' v_o' j → j < n → j ≤ 15 → v_x' 2 = 0 ∨ v_x' 2 = 1 → v_x' 5 = 0 ∨ v_x' 5 = 1 → lv_has ls 3 [(1, .int (nI j)), (0, .ref yX)] → va_P D classes [oX yX yM yD yA yO yL yH yI v_x', ar cI yM 512 v_M', ar cI yD 8 v_d', ar cI yA 8 v_a', ar cI yO 4 v_o', ar cI yL 6 v_lo, ar cI yH 6 v_hi, ar cI yI 6 v_ri] H → va_D A [oX yX yM yD yA yO yL yH yI v_x', ar cI yM 512 v_M', ar cI yD 8 v_d', ar cI yA 8 v_a', ar cI yO 4 v_o', ar cI yL 6 v_lo, ar cI yH 6 v_hi, ar cI yI 6 v_ri] → va_S A s.heap H locs → W p l e { frames := 5, cells := 0, slots := 0, locals := 128 } s m args below meth c H locs 0 0 Q (F0 m 73 ls []) := by
    intro n
    induction n with
    | zero => intro v_x' v_M' v_d' v_a' v_o' j ls H locs hres hf hj hset' heb' hl hP hD hS; exfalso; omega
    | succ n ih =>
      intro v_x' v_M' v_d' v_a' v_o' j ls H locs hres hf hj hset' heb' hl hP hD hS
      refine lv_iload_n hx hb d_X_step_73 rfl (lv_at hl 0 rfl) ?_
      refine lv_if_le (tgt := 94) hx hb d_X_step_74 (by decide) (fun h3 => ?_) (fun h3 => ?_)
      ·
        exact CUT94 v_x' v_M' v_d' v_a' v_o' (nI j) _ _ _ (hres.trans (by rw [s_X_step_loop]; rw [if_pos h3])) hset' heb' (lv_sub hl [0, 1] rfl) hP hD hS
      ·
        refine lv_aload_n hx hb d_X_step_77 rfl (lv_at hl 1 rfl) ?_
        refine zz_get (C := R_X) (T := F_X) (N := 27) (v := .int (v_x' 6)) hx hb hts in_X hown hK hP 0 rfl rfl 10 (by decide) mw_92 rfl d_X_step_78 ?_
        refine lv_iload_n hx hb d_X_step_81 rfl (lv_at hl 0 rfl) ?_
        refine lv_ishr hx hb d_X_step_82 ?_
        refine lv_iconst (v := (1 : Int32)) hx hb d_X_step_83 (by decide) ?_
        refine lv_iand hx hb d_X_step_84 ?_
        refine lv_if_ne (tgt := 94) hx hb d_X_step_85 (by decide) (fun h4 => ?_) (fun h4 => ?_)
        ·
          exact CUT94 v_x' v_M' v_d' v_a' v_o' (nI j) _ _ _ (hres.trans (by rw [s_X_step_loop]; rw [if_neg h3, if_neg h4])) hset' heb' (lv_sub hl [0, 1] rfl) hP hD hS
        ·
          refine lv_iinc (v := (nI (j - 1))) (lv' := [(1, .int (nI (j - 1))), (0, .ref yX)]) (k := 0) hx hb d_X_step_88 hl rfl (zz_dec h3) (by decide) rfl (fun ls hl => ?_)
          refine lv_goto (tgt := 73) hx hb d_X_step_91 (by decide) ?_
          have hq := zz_posj h3
          exact ih v_x' v_M' v_d' v_a' v_o' (j - 1) _ _ _ (hres.trans (by rw [s_X_step_loop]; rw [if_neg h3, if_pos h4])) (by omega) (by omega) hset' heb' (lv_sub hl [0, 1] rfl) hP hD hS
  refine lv_aload_n hx hb d_X_step_0 rfl (lv_at hl 0 rfl) ?_
  refine lv_dup hx hb d_X_step_1 rfl ?_
  refine zz_get (C := R_X) (T := F_X) (N := 27) (v := .int (v_x 8)) hx hb hts in_X hown hK hP 0 rfl rfl 12 (by decide) mw_90 rfl d_X_step_2 ?_
  refine lv_iconst (v := (1 : Int32)) hx hb d_X_step_5 (by decide) ?_
  refine lv_iadd hx hb d_X_step_6 ?_
  refine zz_put (C := R_X) (T := F_X) (N := 27) (w' := [oX yX yM yD yA yO yL yH yI (upd v_x 8 ((v_x 8) + (1 : Int32))), ar cI yM 512 v_M, ar cI yD 8 v_d, ar cI yA 8 v_a, ar cI yO 4 v_o, ar cI yL 6 v_lo, ar cI yH 6 v_hi, ar cI yI 6 v_ri]) hx hb hts in_X ty_X ty_X_ok n_X hown hK hP hD hS 0 rfl rfl 12 (by decide) mw_90 rfl rfl rfl (Nat.le_of_ble_eq_true rfl) d_X_step_7 rfl (fun H locs hP hD hS => ?_)
  refine lv_aload_n hx hb d_X_step_10 rfl (lv_at hl 0 rfl) ?_
  refine zz_get (C := R_X) (T := F_X) (N := 27) (v := .int (v_x 9)) hx hb hts in_X hown hK hP 0 rfl rfl 13 (by decide) mw_91 rfl d_X_step_11 ?_
  have J14_2 : ∀ (vj14_0 : Int32) (ls : Array Slot) (H : Heap) (locs : List Loc), vj14_0 = (if (v_x 9) ≤ 0 then (v_x 6) else (if (((v_x 8) + (1 : Int32)) - ((v_x 8) + (1 : Int32)) / (v_x 9) * (v_x 9)) = 0 then ((v_x 6) ||| ((1 : Int32) <<< ((v_x 10) &&& 31))) else (v_x 6))) → lv_has ls 3 [(0, .ref yX)] → va_P D classes [oX yX yM yD yA yO yL yH yI (upd (upd v_x 8 ((v_x 8) + (1 : Int32))) 6 vj14_0), ar cI yM 512 v_M, ar cI yD 8 v_d, ar cI yA 8 v_a, ar cI yO 4 v_o, ar cI yL 6 v_lo, ar cI yH 6 v_hi, ar cI yI 6 v_ri] H → va_D A [oX yX yM yD yA yO yL yH yI (upd (upd v_x 8 ((v_x 8) + (1 : Int32))) 6 vj14_0), ar cI yM 512 v_M, ar cI yD 8 v_d, ar cI yA 8 v_a, ar cI yO 4 v_o, ar cI yL 6 v_lo, ar cI yH 6 v_hi, ar cI yI 6 v_ri] → va_S A s.heap H locs → W p l e { frames := 5, cells := 0, slots := 0, locals := 128 } s m args below meth c H locs 0 0 Q (F0 m 55 ls []) := by
    intro vj14_0 ls H locs evj14_0 hl hP hD hS
    subst evj14_0
    refine lv_aload_n hx hb d_X_step_55 rfl (lv_at hl 0 rfl) ?_
    refine lv_iconst (v := (0 : Int32)) hx hb d_X_step_56 (by decide) ?_
    refine zz_put (C := R_X) (T := F_X) (N := 27) (w' := [oX yX yM yD yA yO yL yH yI (upd (upd (upd v_x 8 ((v_x 8) + (1 : Int32))) 6 (if (v_x 9) ≤ 0 then (v_x 6) else (if (((v_x 8) + (1 : Int32)) - ((v_x 8) + (1 : Int32)) / (v_x 9) * (v_x 9)) = 0 then ((v_x 6) ||| ((1 : Int32) <<< ((v_x 10) &&& 31))) else (v_x 6)))) 17 (0 : Int32)), ar cI yM 512 v_M, ar cI yD 8 v_d, ar cI yA 8 v_a, ar cI yO 4 v_o, ar cI yL 6 v_lo, ar cI yH 6 v_hi, ar cI yI 6 v_ri]) hx hb hts in_X ty_X ty_X_ok n_X hown hK hP hD hS 0 rfl rfl 24 (by decide) mw_77 rfl rfl rfl (Nat.le_of_ble_eq_true rfl) d_X_step_57 rfl (fun H locs hP hD hS => ?_)
    refine lv_aload_n hx hb d_X_step_60 rfl (lv_at hl 0 rfl) ?_
    refine lv_iconst (v := (0 : Int32)) hx hb d_X_step_61 (by decide) ?_
    refine zz_put (C := R_X) (T := F_X) (N := 27) (w' := [oX yX yM yD yA yO yL yH yI (upd (upd (upd (upd v_x 8 ((v_x 8) + (1 : Int32))) 6 (if (v_x 9) ≤ 0 then (v_x 6) else (if (((v_x 8) + (1 : Int32)) - ((v_x 8) + (1 : Int32)) / (v_x 9) * (v_x 9)) = 0 then ((v_x 6) ||| ((1 : Int32) <<< ((v_x 10) &&& 31))) else (v_x 6)))) 17 (0 : Int32)) 18 (0 : Int32)), ar cI yM 512 v_M, ar cI yD 8 v_d, ar cI yA 8 v_a, ar cI yO 4 v_o, ar cI yL 6 v_lo, ar cI yH 6 v_hi, ar cI yI 6 v_ri]) hx hb hts in_X ty_X ty_X_ok n_X hown hK hP hD hS 0 rfl rfl 25 (by decide) mw_80 rfl rfl rfl (Nat.le_of_ble_eq_true rfl) d_X_step_62 rfl (fun H locs hP hD hS => ?_)
    refine lv_aload_n hx hb d_X_step_65 rfl (lv_at hl 0 rfl) ?_
    refine lv_iconst (v := (0 : Int32)) hx hb d_X_step_66 (by decide) ?_
    refine zz_put (C := R_X) (T := F_X) (N := 27) (w' := [oX yX yM yD yA yO yL yH yI (upd (upd (upd (upd (upd v_x 8 ((v_x 8) + (1 : Int32))) 6 (if (v_x 9) ≤ 0 then (v_x 6) else (if (((v_x 8) + (1 : Int32)) - ((v_x 8) + (1 : Int32)) / (v_x 9) * (v_x 9)) = 0 then ((v_x 6) ||| ((1 : Int32) <<< ((v_x 10) &&& 31))) else (v_x 6)))) 17 (0 : Int32)) 18 (0 : Int32)) 19 (0 : Int32)), ar cI yM 512 v_M, ar cI yD 8 v_d, ar cI yA 8 v_a, ar cI yO 4 v_o, ar cI yL 6 v_lo, ar cI yH 6 v_hi, ar cI yI 6 v_ri]) hx hb hts in_X ty_X ty_X_ok n_X hown hK hP hD hS 0 rfl rfl 26 (by decide) mw_79 rfl rfl rfl (Nat.le_of_ble_eq_true rfl) d_X_step_67 rfl (fun H locs hP hD hS => ?_)
    refine lv_bipush (v := (15 : Int32)) hx hb d_X_step_70 (by decide) ?_
    refine lv_istore_n (lv' := [(1, .int (15 : Int32)), (0, .ref yX)]) hx hb d_X_step_72 rfl hl (by decide) rfl (fun ls hl => ?_)
    exact LOOP 16 (upd (upd (upd (upd (upd v_x 8 ((v_x 8) + (1 : Int32))) 6 (if (v_x 9) ≤ 0 then (v_x 6) else (if (((v_x 8) + (1 : Int32)) - ((v_x 8) + (1 : Int32)) / (v_x 9) * (v_x 9)) = 0 then ((v_x 6) ||| ((1 : Int32) <<< ((v_x 10) &&& 31))) else (v_x 6)))) 17 (0 : Int32)) 18 (0 : Int32)) 19 (0 : Int32)) v_M v_d v_a v_o 15 _ _ _ rfl (by decide) (by decide) hset heb (lv_sub hl [0, 1] rfl) hP hD hS
  refine lv_if_le (tgt := 55) hx hb d_X_step_14 (by decide) (fun h1 => ?_) (fun h1 => ?_)
  ·
    exact J14_2 (v_x 6) _ _ _ (by rw [if_pos h1]) (lv_sub hl [0] rfl) hP hD hS
  ·
    refine lv_aload_n hx hb d_X_step_17 rfl (lv_at hl 0 rfl) ?_
    refine zz_get (C := R_X) (T := F_X) (N := 27) (v := .int ((v_x 8) + (1 : Int32))) hx hb hts in_X hown hK hP 0 rfl rfl 12 (by decide) mw_90 rfl d_X_step_18 ?_
    refine lv_aload_n hx hb d_X_step_21 rfl (lv_at hl 0 rfl) ?_
    refine zz_get (C := R_X) (T := F_X) (N := 27) (v := .int (v_x 9)) hx hb hts in_X hown hK hP 0 rfl rfl 13 (by decide) mw_91 rfl d_X_step_22 ?_
    refine lv_if_le (tgt := 35) hx hb d_X_step_25 (by decide) (fun hh => absurd hh h1) (fun _ => ?_)
    refine lv_aload_n hx hb d_X_step_28 rfl (lv_at hl 0 rfl) ?_
    refine zz_get (C := R_X) (T := F_X) (N := 27) (v := .int (v_x 9)) hx hb hts in_X hown hK hP 0 rfl rfl 13 (by decide) mw_91 rfl d_X_step_29 ?_
    refine lv_goto (tgt := 36) hx hb d_X_step_32 (by decide) ?_
    refine lv_irem hx hb d_X_step_36 (zz_le0 h1) ?_
    refine lv_if_ne (tgt := 55) hx hb d_X_step_37 (by decide) (fun h2 => ?_) (fun h2 => ?_)
    ·
      exact J14_2 (v_x 6) _ _ _ (by rw [if_neg h1, if_neg h2]) (lv_sub hl [0] rfl) hP hD hS
    ·
      refine lv_aload_n hx hb d_X_step_40 rfl (lv_at hl 0 rfl) ?_
      refine lv_aload_n hx hb d_X_step_41 rfl (lv_at hl 0 rfl) ?_
      refine zz_get (C := R_X) (T := F_X) (N := 27) (v := .int (v_x 6)) hx hb hts in_X hown hK hP 0 rfl rfl 10 (by decide) mw_92 rfl d_X_step_42 ?_
      refine lv_iconst (v := (1 : Int32)) hx hb d_X_step_45 (by decide) ?_
      refine lv_aload_n hx hb d_X_step_46 rfl (lv_at hl 0 rfl) ?_
      refine zz_get (C := R_X) (T := F_X) (N := 27) (v := .int (v_x 10)) hx hb hts in_X hown hK hP 0 rfl rfl 14 (by decide) mw_93 rfl d_X_step_47 ?_
      refine lv_ishl hx hb d_X_step_50 ?_
      refine lv_ior hx hb d_X_step_51 ?_
      refine zz_put (C := R_X) (T := F_X) (N := 27) (w' := [oX yX yM yD yA yO yL yH yI (upd (upd v_x 8 ((v_x 8) + (1 : Int32))) 6 ((v_x 6) ||| ((1 : Int32) <<< ((v_x 10) &&& 31)))), ar cI yM 512 v_M, ar cI yD 8 v_d, ar cI yA 8 v_a, ar cI yO 4 v_o, ar cI yL 6 v_lo, ar cI yH 6 v_hi, ar cI yI 6 v_ri]) hx hb hts in_X ty_X ty_X_ok n_X hown hK hP hD hS 0 rfl rfl 10 (by decide) mw_92 rfl rfl rfl (Nat.le_of_ble_eq_true rfl) d_X_step_52 rfl (fun H locs hP hD hS => ?_)
      exact J14_2 ((v_x 6) ||| ((1 : Int32) <<< ((v_x 10) &&& 31))) _ _ _ (by rw [if_neg h1, if_pos h2]) (lv_sub hl [0] rfl) hP hD hS
set_option maxHeartbeats 4000000 in
set_option maxRecDepth 100000 in
theorem k_X_put (l : Launch) (D : va_G) (cI : ClassId) (sz : Nat) (yX : Nat) (yM : Nat) (yD : Nat) (yA : Nat) (yO : Nat) (yL : Nat) (yH : Nat) (yI : Nat) (v_x : Nat → Int32) (v_M : Nat → Int32) (v_d : Nat → Int32) (v_a : Nat → Int32) (v_o : Nat → Int32) (v_lo : Nat → Int32) (v_hi : Nat → Int32) (v_ri : Nat → Int32) (a1 : Int32) (a2 : Int32) : zMi l y_X_put (.code y_X_put b_X_put 3 (some .boolean) :: wd) { frames := 0, cells := 0, slots := 0, locals := 0 } D classes [(cI, .int)] [.ref yX, .int a1, .int a2] [oX yX yM yD yA yO yL yH yI v_x, ar cI yM 512 v_M, ar cI yD 8 v_d, ar cI yA 8 v_a, ar cI yO 4 v_o, ar cI yL 6 v_lo, ar cI yH 6 v_hi, ar cI yI 6 v_ri] [oX yX yM yD yA yO yL yH yI ((s_X_put v_x v_M v_d v_a v_o v_lo v_hi v_ri a1 a2).2.1), ar cI yM 512 ((s_X_put v_x v_M v_d v_a v_o v_lo v_hi v_ri a1 a2).2.2), ar cI yD 8 v_d, ar cI yA 8 v_a, ar cI yO 4 v_o, ar cI yL 6 v_lo, ar cI yH 6 v_hi, ar cI yI 6 v_ri] sz (s_X_put v_x v_M v_d v_a v_o v_lo v_hi v_ri a1 a2).1 := by
  refine met_i (by decide) (Nat.le_of_ble_eq_true rfl) (zz_nar (bo_X_put v_x v_M v_d v_a v_o v_lo v_hi v_ri a1 a2)) ?_
  intro p e s m args below meth c A Q ls hx hb hml hown hts hK hP hD hS hA hl hE
  have hl : lv_has ls 3 [(0, .ref yX), (1, .int a1), (2, .int a2)] := hl
  have hown : s.vm.findClass R_X = some m.cls := hown
  refine lv_aload_n hx hb d_X_put_0 rfl (lv_at hl 0 rfl) ?_
  refine lv_iconst (v := (0 : Int32)) hx hb d_X_put_1 (by decide) ?_
  refine zz_put (C := R_X) (T := F_X) (N := 27) (w' := [oX yX yM yD yA yO yL yH yI (upd v_x 0 (0 : Int32)), ar cI yM 512 v_M, ar cI yD 8 v_d, ar cI yA 8 v_a, ar cI yO 4 v_o, ar cI yL 6 v_lo, ar cI yH 6 v_hi, ar cI yI 6 v_ri]) hx hb hts in_X ty_X ty_X_ok n_X hown hK hP hD hS 0 rfl rfl 0 (by decide) mw_67 rfl rfl rfl (Nat.le_of_ble_eq_true rfl) d_X_put_2 rfl (fun H locs hP hD hS => ?_)
  refine lv_iload_n hx hb d_X_put_5 rfl (lv_at hl 1 rfl) ?_
  refine lv_if_lt (tgt := 16) hx hb d_X_put_6 (by decide) (fun h1 => ?_) (fun h1 => ?_)
  ·
    refine lv_iconst (v := (0 : Int32)) hx hb d_X_put_16 (by decide) ?_
    have hsp : s_X_put v_x v_M v_d v_a v_o v_lo v_hi v_ri a1 a2 = ((0 : Int32), upd v_x 0 (0 : Int32), v_M) := (by unfold s_X_put; rw [if_pos h1])
    rw [hsp] at hE
    exact hE _ _ _ _ hP hD hS d_X_put_17
  ·
    refine lv_iload_n hx hb d_X_put_9 rfl (lv_at hl 1 rfl) ?_
    refine lv_sipush (v := (512 : Int32)) hx hb d_X_put_10 (by decide) ?_
    refine lv_icmp_lt (tgt := 18) hx hb d_X_put_13 (by decide) (fun h2 => ?_) (fun h2 => ?_)
    ·
      refine lv_aload_n hx hb d_X_put_18 rfl (lv_at hl 0 rfl) ?_
      refine zz_get (C := R_X) (T := F_X) (N := 27) (v := .ref yM) hx hb hts in_X hown hK hP 0 rfl rfl 1 (by decide) mw_69 rfl d_X_put_19 ?_
      refine lv_iload_n hx hb d_X_put_22 rfl (lv_at hl 1 rfl) ?_
      refine lv_iload_n hx hb d_X_put_23 rfl (lv_at hl 2 rfl) ?_
      refine zz_iast (w' := [oX yX yM yD yA yO yL yH yI (upd v_x 0 (0 : Int32)), ar cI yM 512 (upd v_M (ix a1) a2), ar cI yD 8 v_d, ar cI yA 8 v_a, ar cI yO 4 v_o, ar cI yL 6 v_lo, ar cI yH 6 v_hi, ar cI yI 6 v_ri]) hx hb hK hP hD hS 1 0 rfl rfl (in_pc h1 h2) d_X_put_24 rfl (fun H locs hP hD hS => ?_)
      refine lv_iconst (v := (1 : Int32)) hx hb d_X_put_25 (by decide) ?_
      have hsp : s_X_put v_x v_M v_d v_a v_o v_lo v_hi v_ri a1 a2 = ((1 : Int32), upd v_x 0 (0 : Int32), upd v_M (ix a1) a2) := (by unfold s_X_put; rw [if_neg h1, if_pos h2])
      rw [hsp] at hE
      exact hE _ _ _ _ hP hD hS d_X_put_26
    ·
      refine lv_iconst (v := (0 : Int32)) hx hb d_X_put_16 (by decide) ?_
      have hsp : s_X_put v_x v_M v_d v_a v_o v_lo v_hi v_ri a1 a2 = ((0 : Int32), upd v_x 0 (0 : Int32), v_M) := (by unfold s_X_put; rw [if_neg h1, if_neg h2])
      rw [hsp] at hE
      exact hE _ _ _ _ hP hD hS d_X_put_17
set_option maxHeartbeats 4000000 in
set_option maxRecDepth 100000 in
theorem k_X_pool (l : Launch) (D : va_G) (cI : ClassId) (sz : Nat) (yX : Nat) (yM : Nat) (yD : Nat) (yA : Nat) (yO : Nat) (yL : Nat) (yH : Nat) (yI : Nat) (v_x : Nat → Int32) (v_M : Nat → Int32) (v_d : Nat → Int32) (v_a : Nat → Int32) (v_o : Nat → Int32) (v_lo : Nat → Int32) (v_hi : Nat → Int32) (v_ri : Nat → Int32) (a1 : Int32) (a2 : Int32) : zMv l y_X_pool (.code y_X_pool b_X_pool 4 (none) :: wd) { frames := 1, cells := 0, slots := 0, locals := 20 } D classes [(cI, .int)] [.ref yX, .int a1, .int a2] [oX yX yM yD yA yO yL yH yI v_x, ar cI yM 512 v_M, ar cI yD 8 v_d, ar cI yA 8 v_a, ar cI yO 4 v_o, ar cI yL 6 v_lo, ar cI yH 6 v_hi, ar cI yI 6 v_ri] [oX yX yM yD yA yO yL yH yI ((s_X_pool v_x v_M v_d v_a v_o v_lo v_hi v_ri a1 a2).1), ar cI yM 512 ((s_X_pool v_x v_M v_d v_a v_o v_lo v_hi v_ri a1 a2).2.1), ar cI yD 8 v_d, ar cI yA 8 v_a, ar cI yO 4 ((s_X_pool v_x v_M v_d v_a v_o v_lo v_hi v_ri a1 a2).2.2), ar cI yL 6 v_lo, ar cI yH 6 v_hi, ar cI yI 6 v_ri] sz := by
  refine met_v (by decide) (Nat.le_of_ble_eq_true rfl) ?_
  intro p e s m args below meth c A Q ls hx hb hml hown hts hK hP hD hS hA hl hE
  have hl : lv_has ls 4 [(0, .ref yX), (1, .int a1), (2, .int a2)] := hl
  have hown : s.vm.findClass R_X = some m.cls := hown
  have LOOP : ∀ (n : Nat) (v_x' : Nat → Int32) (v_M' : Nat → Int32) (j : Nat) (ls : Array Slot) (H : Heap) (locs : List Loc), s_X_pool v_x v_M v_d v_a v_o v_lo v_hi v_ri a1 a2 = s_X_pool_loop v_d v_a v_o v_lo v_hi v_ri a1 a2 n v_x' v_M' j → 25 < n + j → j ≤ 25 → 1 ≤ j → ¬ (24 : Int32) < a1 → lv_has ls 4 [(3, .int (nI j)), (0, .ref yX), (1, .int a1), (2, .int a2)] → va_P D classes [oX yX yM yD yA yO yL yH yI v_x', ar cI yM 512 v_M', ar cI yD 8 v_d, ar cI yA 8 v_a, ar cI yO 4 v_o, ar cI yL 6 v_lo, ar cI yH 6 v_hi, ar cI yI 6 v_ri] H → va_D A [oX yX yM yD yA yO yL yH yI v_x', ar cI yM 512 v_M', ar cI yD 8 v_d, ar cI yA 8 v_a, ar cI yO 4 v_o, ar cI yL 6 v_lo, ar cI yH 6 v_hi, ar cI yI 6 v_ri] → va_S A s.heap H locs → W p l e { frames := 1, cells := 0, slots := 0, locals := 20 } s m args below meth c H locs 0 0 Q (F0 m 50 ls []) := by
    intro n
    induction n with
    | zero => intro v_x' v_M' j ls H locs hres hf hj h1 hn hl hP hD hS; exfalso; omega
    | succ n ih =>
      intro v_x' v_M' j ls H locs hres hf hj h1 hn hl hP hD hS
      refine lv_iload_n hx hb d_X_pool_50 rfl (lv_at hl 0 rfl) ?_
      refine lv_iload_n hx hb d_X_pool_51 rfl (lv_at hl 2 rfl) ?_
      refine lv_icmp_gt (tgt := 82) hx hb d_X_pool_52 (by decide) (fun h6 => ?_) (fun h6 => ?_)
      ·
        refine lv_aload_n hx hb d_X_pool_82 rfl (lv_at hl 1 rfl) ?_
        refine zz_get (C := R_X) (T := F_X) (N := 27) (v := .ref yO) hx hb hts in_X hown hK hP 0 rfl rfl 4 (by decide) mw_68 rfl d_X_pool_83 ?_
        refine lv_iconst (v := (1 : Int32)) hx hb d_X_pool_86 (by decide) ?_
        refine lv_iload_n hx hb d_X_pool_87 rfl (lv_at hl 2 rfl) ?_
        have J88_7 : ∀ (vj88_0 : Int32) (ls : Array Slot) (H : Heap) (locs : List Loc), vj88_0 = (if a1 ≤ 0 then (0 : Int32) else (1 : Int32)) → lv_has ls 4 [(3, .int (nI j)), (0, .ref yX), (1, .int a1), (2, .int a2)] → va_P D classes [oX yX yM yD yA yO yL yH yI v_x', ar cI yM 512 v_M', ar cI yD 8 v_d, ar cI yA 8 v_a, ar cI yO 4 v_o, ar cI yL 6 v_lo, ar cI yH 6 v_hi, ar cI yI 6 v_ri] H → va_D A [oX yX yM yD yA yO yL yH yI v_x', ar cI yM 512 v_M', ar cI yD 8 v_d, ar cI yA 8 v_a, ar cI yO 4 v_o, ar cI yL 6 v_lo, ar cI yH 6 v_hi, ar cI yI 6 v_ri] → va_S A s.heap H locs → W p l e { frames := 1, cells := 0, slots := 0, locals := 20 } s m args below meth c H locs 0 0 Q (F0 m 96 ls [.int vj88_0, .int (1 : Int32), .ref yO]) := by
          intro vj88_0 ls H locs evj88_0 hl hP hD hS
          subst evj88_0
          refine zz_iast (w' := [oX yX yM yD yA yO yL yH yI v_x', ar cI yM 512 v_M', ar cI yD 8 v_d, ar cI yA 8 v_a, ar cI yO 4 (upd v_o (ix (1 : Int32)) (if a1 ≤ 0 then (0 : Int32) else (1 : Int32))), ar cI yL 6 v_lo, ar cI yH 6 v_hi, ar cI yI 6 v_ri]) hx hb hK hP hD hS 4 0 rfl rfl (zz_inc (by decide)) d_X_pool_96 rfl (fun H locs hP hD hS => ?_)
          refine lv_aload_n hx hb d_X_pool_97 rfl (lv_at hl 1 rfl) ?_
          refine zz_get (C := R_X) (T := F_X) (N := 27) (v := .ref yO) hx hb hts in_X hown hK hP 0 rfl rfl 4 (by decide) mw_68 rfl d_X_pool_98 ?_
          refine lv_iconst (v := (2 : Int32)) hx hb d_X_pool_101 (by decide) ?_
          refine lv_iload_n hx hb d_X_pool_102 rfl (lv_at hl 3 rfl) ?_
          refine zz_iast (w' := [oX yX yM yD yA yO yL yH yI v_x', ar cI yM 512 v_M', ar cI yD 8 v_d, ar cI yA 8 v_a, ar cI yO 4 (upd (upd v_o (ix (1 : Int32)) (if a1 ≤ 0 then (0 : Int32) else (1 : Int32))) (ix (2 : Int32)) a2), ar cI yL 6 v_lo, ar cI yH 6 v_hi, ar cI yI 6 v_ri]) hx hb hK hP hD hS 4 0 rfl rfl (zz_inc (by decide)) d_X_pool_103 rfl (fun H locs hP hD hS => ?_)
          refine lv_aload_n hx hb d_X_pool_104 rfl (lv_at hl 1 rfl) ?_
          refine zz_get (C := R_X) (T := F_X) (N := 27) (v := .ref yO) hx hb hts in_X hown hK hP 0 rfl rfl 4 (by decide) mw_68 rfl d_X_pool_105 ?_
          refine lv_iconst (v := (3 : Int32)) hx hb d_X_pool_108 (by decide) ?_
          refine lv_iconst (v := (0 : Int32)) hx hb d_X_pool_109 (by decide) ?_
          refine zz_iast (w' := [oX yX yM yD yA yO yL yH yI v_x', ar cI yM 512 v_M', ar cI yD 8 v_d, ar cI yA 8 v_a, ar cI yO 4 (upd (upd (upd v_o (ix (1 : Int32)) (if a1 ≤ 0 then (0 : Int32) else (1 : Int32))) (ix (2 : Int32)) a2) (ix (3 : Int32)) (0 : Int32)), ar cI yL 6 v_lo, ar cI yH 6 v_hi, ar cI yI 6 v_ri]) hx hb hK hP hD hS 4 0 rfl rfl (zz_inc (by decide)) d_X_pool_110 rfl (fun H locs hP hD hS => ?_)
          show W p l e _ s m args below meth c _ _ _ _ Q (F0 m 111 ls _)
          have hsp : s_X_pool v_x v_M v_d v_a v_o v_lo v_hi v_ri a1 a2 = (v_x', v_M', upd (upd (upd v_o (ix (1 : Int32)) (if a1 ≤ 0 then (0 : Int32) else (1 : Int32))) (ix (2 : Int32)) a2) (ix (3 : Int32)) (0 : Int32)) := (hres.trans (by rw [s_X_pool_loop]; rw [if_pos h6]))
          rw [hsp] at hE
          exact hE _ _ _ _ hP hD hS d_X_pool_111
        refine lv_if_le (tgt := 95) hx hb d_X_pool_88 (by decide) (fun h7 => ?_) (fun h7 => ?_)
        ·
          refine lv_iconst (v := (0 : Int32)) hx hb d_X_pool_95 (by decide) ?_
          exact J88_7 (0 : Int32) _ _ _ (by rw [if_pos h7]) (lv_sub hl [0, 1, 2, 3] rfl) hP hD hS
        ·
          refine lv_iconst (v := (1 : Int32)) hx hb d_X_pool_91 (by decide) ?_
          refine lv_goto (tgt := 96) hx hb d_X_pool_92 (by decide) ?_
          exact J88_7 (1 : Int32) _ _ _ (by rw [if_neg h7]) (lv_sub hl [0, 1, 2, 3] rfl) hP hD hS
      ·
        refine lv_aload_n hx hb d_X_pool_55 rfl (lv_at hl 1 rfl) ?_
        refine zz_get (C := R_X) (T := F_X) (N := 27) (v := .ref yM) hx hb hts in_X hown hK hP 0 rfl rfl 1 (by decide) mw_69 rfl d_X_pool_56 ?_
        refine lv_iload_n hx hb d_X_pool_59 rfl (lv_at hl 0 rfl) ?_
        refine zz_cS0 (rest := [.ref yM]) ⟨hx, hb, hml, hown, hts⟩ (k_X_wordsOf l D cI _ (nI j)) g_X_pool_X_wordsOf_49 nd_X_wordsOf ⟨⟨rfl, rfl⟩, Nat.le_of_ble_eq_true rfl, Nat.le_of_ble_eq_true rfl⟩ hK hP hD hS hA rfl rfl hl.1 (Nat.le_of_ble_eq_true rfl) d_X_pool_60 ⟨Nat.zero_le _, Nat.zero_le _⟩ (fun H locs hP hD hS => ?_)
        refine lv_iload_n hx hb d_X_pool_63 rfl (lv_at hl 0 rfl) ?_
        refine lv_iload_n hx hb d_X_pool_64 rfl (lv_at hl 2 rfl) ?_
        have J65_8 : ∀ (vj65_0 : Int32) (ls : Array Slot) (H : Heap) (locs : List Loc), vj65_0 = (if a1 ≤ (nI j) then (0 : Int32) else ((nI j) + (1 : Int32))) → lv_has ls 4 [(3, .int (nI j)), (0, .ref yX), (1, .int a1), (2, .int a2)] → va_P D classes [oX yX yM yD yA yO yL yH yI v_x', ar cI yM 512 v_M', ar cI yD 8 v_d, ar cI yA 8 v_a, ar cI yO 4 v_o, ar cI yL 6 v_lo, ar cI yH 6 v_hi, ar cI yI 6 v_ri] H → va_D A [oX yX yM yD yA yO yL yH yI v_x', ar cI yM 512 v_M', ar cI yD 8 v_d, ar cI yA 8 v_a, ar cI yO 4 v_o, ar cI yL 6 v_lo, ar cI yH 6 v_hi, ar cI yI 6 v_ri] → va_S A s.heap H locs → W p l e { frames := 1, cells := 0, slots := 0, locals := 20 } s m args below meth c H locs 0 0 Q (F0 m 75 ls [.int vj65_0, .int (s_X_wordsOf (nI j)), .ref yM]) := by
          intro vj65_0 ls H locs evj65_0 hl hP hD hS
          subst evj65_0
          refine zz_iast (w' := [oX yX yM yD yA yO yL yH yI v_x', ar cI yM 512 (upd v_M' (ix (s_X_wordsOf (nI j))) (if a1 ≤ (nI j) then (0 : Int32) else ((nI j) + (1 : Int32)))), ar cI yD 8 v_d, ar cI yA 8 v_a, ar cI yO 4 v_o, ar cI yL 6 v_lo, ar cI yH 6 v_hi, ar cI yI 6 v_ri]) hx hb hK hP hD hS 1 0 rfl rfl (in_chain hj h1 hn h6) d_X_pool_75 rfl (fun H locs hP hD hS => ?_)
          refine lv_iinc (v := (nI (j + 1))) (lv' := [(3, .int (nI (j + 1))), (0, .ref yX), (1, .int a1), (2, .int a2)]) (k := 0) hx hb d_X_pool_76 hl rfl (nI_succ j).symm (by decide) rfl (fun ls hl => ?_)
          refine lv_goto (tgt := 50) hx hb d_X_pool_79 (by decide) ?_
          exact ih v_x' (upd v_M' (ix (s_X_wordsOf (nI j))) (if a1 ≤ (nI j) then (0 : Int32) else ((nI j) + (1 : Int32)))) (j + 1) _ _ _ (hres.trans (by rw [s_X_pool_loop]; rw [if_neg h6])) (by omega) (zz_chain hj hn h6) (by omega) hn (lv_sub hl [0, 1, 2, 3] rfl) hP hD hS
        refine lv_icmp_ge (tgt := 74) hx hb d_X_pool_65 (by decide) (fun h8 => ?_) (fun h8 => ?_)
        ·
          refine lv_iconst (v := (0 : Int32)) hx hb d_X_pool_74 (by decide) ?_
          exact J65_8 (0 : Int32) _ _ _ (by rw [if_pos h8]) (lv_sub hl [0, 1, 2, 3] rfl) hP hD hS
        ·
          refine lv_iload_n hx hb d_X_pool_68 rfl (lv_at hl 0 rfl) ?_
          refine lv_iconst (v := (1 : Int32)) hx hb d_X_pool_69 (by decide) ?_
          refine lv_iadd hx hb d_X_pool_70 ?_
          refine lv_goto (tgt := 75) hx hb d_X_pool_71 (by decide) ?_
          exact J65_8 ((nI j) + (1 : Int32)) _ _ _ (by rw [if_neg h8]) (lv_sub hl [0, 1, 2, 3] rfl) hP hD hS
  refine lv_aload_n hx hb d_X_pool_0 rfl (lv_at hl 0 rfl) ?_
  refine lv_iload_n hx hb d_X_pool_1 rfl (lv_at hl 1 rfl) ?_
  refine lv_if_lt (tgt := 21) hx hb d_X_pool_2 (by decide) (fun h1 => ?_) (fun h1 => ?_)
  ·
    refine lv_iconst (v := (1 : Int32)) hx hb d_X_pool_21 (by decide) ?_
    refine lv_goto (tgt := 37) hx hb d_X_pool_22 (by decide) ?_
    refine zz_put (C := R_X) (T := F_X) (N := 27) (w' := [oX yX yM yD yA yO yL yH yI (upd v_x 0 (1 : Int32)), ar cI yM 512 v_M, ar cI yD 8 v_d, ar cI yA 8 v_a, ar cI yO 4 v_o, ar cI yL 6 v_lo, ar cI yH 6 v_hi, ar cI yI 6 v_ri]) hx hb hts in_X ty_X ty_X_ok n_X hown hK hP hD hS 0 rfl rfl 0 (by decide) mw_67 rfl rfl rfl (Nat.le_of_ble_eq_true rfl) d_X_pool_37 rfl (fun H locs hP hD hS => ?_)
    refine lv_aload_n hx hb d_X_pool_40 rfl (lv_at hl 0 rfl) ?_
    refine zz_get (C := R_X) (T := F_X) (N := 27) (v := .int (1 : Int32)) hx hb hts in_X hown hK hP 0 rfl rfl 0 (by decide) mw_67 rfl d_X_pool_41 ?_
    refine lv_if_le (tgt := 48) hx hb d_X_pool_44 (by decide) (fun hh => absurd hh (by decide)) (fun _ => ?_)
    have hsp : s_X_pool v_x v_M v_d v_a v_o v_lo v_hi v_ri a1 a2 = (upd v_x 0 (1 : Int32), v_M, v_o) := (by unfold s_X_pool; rw [if_pos h1])
    rw [hsp] at hE
    exact hE _ _ _ _ hP hD hS d_X_pool_47
  ·
    refine lv_iload_n hx hb d_X_pool_5 rfl (lv_at hl 1 rfl) ?_
    refine lv_bipush (v := (24 : Int32)) hx hb d_X_pool_6 (by decide) ?_
    refine lv_icmp_gt (tgt := 21) hx hb d_X_pool_8 (by decide) (fun h2 => ?_) (fun h2 => ?_)
    ·
      refine lv_iconst (v := (1 : Int32)) hx hb d_X_pool_21 (by decide) ?_
      refine lv_goto (tgt := 37) hx hb d_X_pool_22 (by decide) ?_
      refine zz_put (C := R_X) (T := F_X) (N := 27) (w' := [oX yX yM yD yA yO yL yH yI (upd v_x 0 (1 : Int32)), ar cI yM 512 v_M, ar cI yD 8 v_d, ar cI yA 8 v_a, ar cI yO 4 v_o, ar cI yL 6 v_lo, ar cI yH 6 v_hi, ar cI yI 6 v_ri]) hx hb hts in_X ty_X ty_X_ok n_X hown hK hP hD hS 0 rfl rfl 0 (by decide) mw_67 rfl rfl rfl (Nat.le_of_ble_eq_true rfl) d_X_pool_37 rfl (fun H locs hP hD hS => ?_)
      refine lv_aload_n hx hb d_X_pool_40 rfl (lv_at hl 0 rfl) ?_
      refine zz_get (C := R_X) (T := F_X) (N := 27) (v := .int (1 : Int32)) hx hb hts in_X hown hK hP 0 rfl rfl 0 (by decide) mw_67 rfl d_X_pool_41 ?_
      refine lv_if_le (tgt := 48) hx hb d_X_pool_44 (by decide) (fun hh => absurd hh (by decide)) (fun _ => ?_)
      have hsp : s_X_pool v_x v_M v_d v_a v_o v_lo v_hi v_ri a1 a2 = (upd v_x 0 (1 : Int32), v_M, v_o) := (by unfold s_X_pool; rw [if_neg h1, if_pos h2])
      rw [hsp] at hE
      exact hE _ _ _ _ hP hD hS d_X_pool_47
    ·
      refine lv_iload_n hx hb d_X_pool_11 rfl (lv_at hl 2 rfl) ?_
      refine lv_if_lt (tgt := 21) hx hb d_X_pool_12 (by decide) (fun h3 => ?_) (fun h3 => ?_)
      ·
        refine lv_iconst (v := (1 : Int32)) hx hb d_X_pool_21 (by decide) ?_
        refine lv_goto (tgt := 37) hx hb d_X_pool_22 (by decide) ?_
        refine zz_put (C := R_X) (T := F_X) (N := 27) (w' := [oX yX yM yD yA yO yL yH yI (upd v_x 0 (1 : Int32)), ar cI yM 512 v_M, ar cI yD 8 v_d, ar cI yA 8 v_a, ar cI yO 4 v_o, ar cI yL 6 v_lo, ar cI yH 6 v_hi, ar cI yI 6 v_ri]) hx hb hts in_X ty_X ty_X_ok n_X hown hK hP hD hS 0 rfl rfl 0 (by decide) mw_67 rfl rfl rfl (Nat.le_of_ble_eq_true rfl) d_X_pool_37 rfl (fun H locs hP hD hS => ?_)
        refine lv_aload_n hx hb d_X_pool_40 rfl (lv_at hl 0 rfl) ?_
        refine zz_get (C := R_X) (T := F_X) (N := 27) (v := .int (1 : Int32)) hx hb hts in_X hown hK hP 0 rfl rfl 0 (by decide) mw_67 rfl d_X_pool_41 ?_
        refine lv_if_le (tgt := 48) hx hb d_X_pool_44 (by decide) (fun hh => absurd hh (by decide)) (fun _ => ?_)
        have hsp : s_X_pool v_x v_M v_d v_a v_o v_lo v_hi v_ri a1 a2 = (upd v_x 0 (1 : Int32), v_M, v_o) := (by unfold s_X_pool; rw [if_neg h1, if_neg h2, if_pos h3])
        rw [hsp] at hE
        exact hE _ _ _ _ hP hD hS d_X_pool_47
      ·
        refine lv_iload_n hx hb d_X_pool_15 rfl (lv_at hl 2 rfl) ?_
        refine lv_bipush (v := (31 : Int32)) hx hb d_X_pool_16 (by decide) ?_
        refine lv_icmp_le (tgt := 25) hx hb d_X_pool_18 (by decide) (fun h4 => ?_) (fun h4 => ?_)
        ·
          refine lv_aload_n hx hb d_X_pool_25 rfl (lv_at hl 0 rfl) ?_
          refine zz_get (C := R_X) (T := F_X) (N := 27) (v := .int (v_x 7)) hx hb hts in_X hown hK hP 0 rfl rfl 11 (by decide) mw_78 rfl d_X_pool_26 ?_
          refine lv_if_eq (tgt := 36) hx hb d_X_pool_29 (by decide) (fun h5 => ?_) (fun h5 => ?_)
          ·
            refine lv_iconst (v := (0 : Int32)) hx hb d_X_pool_36 (by decide) ?_
            refine zz_put (C := R_X) (T := F_X) (N := 27) (w' := [oX yX yM yD yA yO yL yH yI (upd v_x 0 (0 : Int32)), ar cI yM 512 v_M, ar cI yD 8 v_d, ar cI yA 8 v_a, ar cI yO 4 v_o, ar cI yL 6 v_lo, ar cI yH 6 v_hi, ar cI yI 6 v_ri]) hx hb hts in_X ty_X ty_X_ok n_X hown hK hP hD hS 0 rfl rfl 0 (by decide) mw_67 rfl rfl rfl (Nat.le_of_ble_eq_true rfl) d_X_pool_37 rfl (fun H locs hP hD hS => ?_)
            refine lv_aload_n hx hb d_X_pool_40 rfl (lv_at hl 0 rfl) ?_
            refine zz_get (C := R_X) (T := F_X) (N := 27) (v := .int (0 : Int32)) hx hb hts in_X hown hK hP 0 rfl rfl 0 (by decide) mw_67 rfl d_X_pool_41 ?_
            refine lv_if_le (tgt := 48) hx hb d_X_pool_44 (by decide) (fun _ => ?_) (fun hh => absurd hh (by decide))
            refine lv_iconst (v := (1 : Int32)) hx hb d_X_pool_48 (by decide) ?_
            refine lv_istore_n (lv' := [(3, .int (1 : Int32)), (0, .ref yX), (1, .int a1), (2, .int a2)]) hx hb d_X_pool_49 rfl hl (by decide) rfl (fun ls hl => ?_)
            exact LOOP 25 (upd v_x 0 (0 : Int32)) v_M 1 _ _ _ (by unfold s_X_pool; rw [if_neg h1, if_neg h2, if_neg h3, if_pos h4, if_pos h5]) (by decide) (by decide) (by decide) h2 (lv_sub hl [0, 1, 2, 3] rfl) hP hD hS
          ·
            refine lv_iconst (v := (2 : Int32)) hx hb d_X_pool_32 (by decide) ?_
            refine lv_goto (tgt := 37) hx hb d_X_pool_33 (by decide) ?_
            refine zz_put (C := R_X) (T := F_X) (N := 27) (w' := [oX yX yM yD yA yO yL yH yI (upd v_x 0 (2 : Int32)), ar cI yM 512 v_M, ar cI yD 8 v_d, ar cI yA 8 v_a, ar cI yO 4 v_o, ar cI yL 6 v_lo, ar cI yH 6 v_hi, ar cI yI 6 v_ri]) hx hb hts in_X ty_X ty_X_ok n_X hown hK hP hD hS 0 rfl rfl 0 (by decide) mw_67 rfl rfl rfl (Nat.le_of_ble_eq_true rfl) d_X_pool_37 rfl (fun H locs hP hD hS => ?_)
            refine lv_aload_n hx hb d_X_pool_40 rfl (lv_at hl 0 rfl) ?_
            refine zz_get (C := R_X) (T := F_X) (N := 27) (v := .int (2 : Int32)) hx hb hts in_X hown hK hP 0 rfl rfl 0 (by decide) mw_67 rfl d_X_pool_41 ?_
            refine lv_if_le (tgt := 48) hx hb d_X_pool_44 (by decide) (fun hh => absurd hh (by decide)) (fun _ => ?_)
            have hsp : s_X_pool v_x v_M v_d v_a v_o v_lo v_hi v_ri a1 a2 = (upd v_x 0 (2 : Int32), v_M, v_o) := (by unfold s_X_pool; rw [if_neg h1, if_neg h2, if_neg h3, if_pos h4, if_neg h5])
            rw [hsp] at hE
            exact hE _ _ _ _ hP hD hS d_X_pool_47
        ·
          refine lv_iconst (v := (1 : Int32)) hx hb d_X_pool_21 (by decide) ?_
          refine lv_goto (tgt := 37) hx hb d_X_pool_22 (by decide) ?_
          refine zz_put (C := R_X) (T := F_X) (N := 27) (w' := [oX yX yM yD yA yO yL yH yI (upd v_x 0 (1 : Int32)), ar cI yM 512 v_M, ar cI yD 8 v_d, ar cI yA 8 v_a, ar cI yO 4 v_o, ar cI yL 6 v_lo, ar cI yH 6 v_hi, ar cI yI 6 v_ri]) hx hb hts in_X ty_X ty_X_ok n_X hown hK hP hD hS 0 rfl rfl 0 (by decide) mw_67 rfl rfl rfl (Nat.le_of_ble_eq_true rfl) d_X_pool_37 rfl (fun H locs hP hD hS => ?_)
          refine lv_aload_n hx hb d_X_pool_40 rfl (lv_at hl 0 rfl) ?_
          refine zz_get (C := R_X) (T := F_X) (N := 27) (v := .int (1 : Int32)) hx hb hts in_X hown hK hP 0 rfl rfl 0 (by decide) mw_67 rfl d_X_pool_41 ?_
          refine lv_if_le (tgt := 48) hx hb d_X_pool_44 (by decide) (fun hh => absurd hh (by decide)) (fun _ => ?_)
          have hsp : s_X_pool v_x v_M v_d v_a v_o v_lo v_hi v_ri a1 a2 = (upd v_x 0 (1 : Int32), v_M, v_o) := (by unfold s_X_pool; rw [if_neg h1, if_neg h2, if_neg h3, if_neg h4])
          rw [hsp] at hE
          exact hE _ _ _ _ hP hD hS d_X_pool_47
set_option maxHeartbeats 4000000 in
set_option maxRecDepth 100000 in
theorem k_X_tables (l : Launch) (D : va_G) (cI : ClassId) (sz : Nat) (yX : Nat) (yM : Nat) (yD : Nat) (yA : Nat) (yO : Nat) (yL : Nat) (yH : Nat) (yI : Nat) (v_x : Nat → Int32) (v_M : Nat → Int32) (v_d : Nat → Int32) (v_a : Nat → Int32) (v_o : Nat → Int32) (v_lo : Nat → Int32) (v_hi : Nat → Int32) (v_ri : Nat → Int32) (a1 : Int32) (a2 : Int32) : zMv l y_X_tables (.code y_X_tables b_X_tables 3 (none) :: wd) { frames := 0, cells := 0, slots := 0, locals := 0 } D classes [(cI, .int)] [.ref yX, .int a1, .int a2] [oX yX yM yD yA yO yL yH yI v_x, ar cI yM 512 v_M, ar cI yD 8 v_d, ar cI yA 8 v_a, ar cI yO 4 v_o, ar cI yL 6 v_lo, ar cI yH 6 v_hi, ar cI yI 6 v_ri] [oX yX yM yD yA yO yL yH yI (s_X_tables v_x v_M v_d v_a v_o v_lo v_hi v_ri a1 a2), ar cI yM 512 v_M, ar cI yD 8 v_d, ar cI yA 8 v_a, ar cI yO 4 v_o, ar cI yL 6 v_lo, ar cI yH 6 v_hi, ar cI yI 6 v_ri] sz := by
  refine met_v (by decide) (Nat.le_of_ble_eq_true rfl) ?_
  intro p e s m args below meth c A Q ls hx hb hml hown hts hK hP hD hS hA hl hE
  have hl : lv_has ls 3 [(0, .ref yX), (1, .int a1), (2, .int a2)] := hl
  have hown : s.vm.findClass R_X = some m.cls := hown
  refine lv_aload_n hx hb d_X_tables_0 rfl (lv_at hl 0 rfl) ?_
  refine lv_iconst (v := (0 : Int32)) hx hb d_X_tables_1 (by decide) ?_
  refine zz_put (C := R_X) (T := F_X) (N := 27) (w' := [oX yX yM yD yA yO yL yH yI (upd v_x 0 (0 : Int32)), ar cI yM 512 v_M, ar cI yD 8 v_d, ar cI yA 8 v_a, ar cI yO 4 v_o, ar cI yL 6 v_lo, ar cI yH 6 v_hi, ar cI yI 6 v_ri]) hx hb hts in_X ty_X ty_X_ok n_X hown hK hP hD hS 0 rfl rfl 0 (by decide) mw_67 rfl rfl rfl (Nat.le_of_ble_eq_true rfl) d_X_tables_2 rfl (fun H locs hP hD hS => ?_)
  refine lv_aload_n hx hb d_X_tables_5 rfl (lv_at hl 0 rfl) ?_
  refine lv_iload_n hx hb d_X_tables_6 rfl (lv_at hl 1 rfl) ?_
  refine zz_put (C := R_X) (T := F_X) (N := 27) (w' := [oX yX yM yD yA yO yL yH yI (upd (upd v_x 0 (0 : Int32)) 11 a1), ar cI yM 512 v_M, ar cI yD 8 v_d, ar cI yA 8 v_a, ar cI yO 4 v_o, ar cI yL 6 v_lo, ar cI yH 6 v_hi, ar cI yI 6 v_ri]) hx hb hts in_X ty_X ty_X_ok n_X hown hK hP hD hS 0 rfl rfl 15 (by decide) mw_81 rfl rfl rfl (Nat.le_of_ble_eq_true rfl) d_X_tables_7 rfl (fun H locs hP hD hS => ?_)
  refine lv_aload_n hx hb d_X_tables_10 rfl (lv_at hl 0 rfl) ?_
  refine lv_iload_n hx hb d_X_tables_11 rfl (lv_at hl 2 rfl) ?_
  refine zz_put (C := R_X) (T := F_X) (N := 27) (w' := [oX yX yM yD yA yO yL yH yI (upd (upd (upd v_x 0 (0 : Int32)) 11 a1) 12 a2), ar cI yM 512 v_M, ar cI yD 8 v_d, ar cI yA 8 v_a, ar cI yO 4 v_o, ar cI yL 6 v_lo, ar cI yH 6 v_hi, ar cI yI 6 v_ri]) hx hb hts in_X ty_X ty_X_ok n_X hown hK hP hD hS 0 rfl rfl 16 (by decide) mw_94 rfl rfl rfl (Nat.le_of_ble_eq_true rfl) d_X_tables_12 rfl (fun H locs hP hD hS => ?_)
  have hsp : s_X_tables v_x v_M v_d v_a v_o v_lo v_hi v_ri a1 a2 = (upd (upd (upd v_x 0 (0 : Int32)) 11 a1) 12 a2) := rfl
  rw [hsp] at hE
  exact hE _ _ _ _ hP hD hS d_X_tables_15
set_option maxHeartbeats 4000000 in
set_option maxRecDepth 100000 in
theorem k_X_range (l : Launch) (D : va_G) (cI : ClassId) (sz : Nat) (yX : Nat) (yM : Nat) (yD : Nat) (yA : Nat) (yO : Nat) (yL : Nat) (yH : Nat) (yI : Nat) (v_x : Nat → Int32) (v_M : Nat → Int32) (v_d : Nat → Int32) (v_a : Nat → Int32) (v_o : Nat → Int32) (v_lo : Nat → Int32) (v_hi : Nat → Int32) (v_ri : Nat → Int32) (a1 : Int32) (a2 : Int32) (a3 : Int32) (a4 : Int32) (a5 : Int32) : zMv l y_X_range (.code y_X_range b_X_range 6 (none) :: wd) { frames := 0, cells := 0, slots := 0, locals := 0 } D classes [(cI, .int)] [.ref yX, .int a1, .int a2, .int a3, .int a4, .int a5] [oX yX yM yD yA yO yL yH yI v_x, ar cI yM 512 v_M, ar cI yD 8 v_d, ar cI yA 8 v_a, ar cI yO 4 v_o, ar cI yL 6 v_lo, ar cI yH 6 v_hi, ar cI yI 6 v_ri] [oX yX yM yD yA yO yL yH yI ((s_X_range v_x v_M v_d v_a v_o v_lo v_hi v_ri a1 a2 a3 a4 a5).1), ar cI yM 512 v_M, ar cI yD 8 v_d, ar cI yA 8 v_a, ar cI yO 4 v_o, ar cI yL 6 ((s_X_range v_x v_M v_d v_a v_o v_lo v_hi v_ri a1 a2 a3 a4 a5).2.1), ar cI yH 6 ((s_X_range v_x v_M v_d v_a v_o v_lo v_hi v_ri a1 a2 a3 a4 a5).2.2.1), ar cI yI 6 ((s_X_range v_x v_M v_d v_a v_o v_lo v_hi v_ri a1 a2 a3 a4 a5).2.2.2)] sz := by
  refine met_v (by decide) (Nat.le_of_ble_eq_true rfl) ?_
  intro p e s m args below meth c A Q ls hx hb hml hown hts hK hP hD hS hA hl hE
  have hl : lv_has ls 6 [(0, .ref yX), (1, .int a1), (2, .int a2), (3, .int a3), (4, .int a4), (5, .int a5)] := hl
  have hown : s.vm.findClass R_X = some m.cls := hown
  refine lv_aload_n hx hb d_X_range_0 rfl (lv_at hl 0 rfl) ?_
  refine lv_iload_n hx hb d_X_range_1 rfl (lv_at hl 1 rfl) ?_
  refine lv_if_lt (tgt := 30) hx hb d_X_range_2 (by decide) (fun h1 => ?_) (fun h1 => ?_)
  ·
    refine lv_iconst (v := (1 : Int32)) hx hb d_X_range_30 (by decide) ?_
    refine lv_goto (tgt := 35) hx hb d_X_range_31 (by decide) ?_
    refine zz_put (C := R_X) (T := F_X) (N := 27) (w' := [oX yX yM yD yA yO yL yH yI (upd v_x 0 (1 : Int32)), ar cI yM 512 v_M, ar cI yD 8 v_d, ar cI yA 8 v_a, ar cI yO 4 v_o, ar cI yL 6 v_lo, ar cI yH 6 v_hi, ar cI yI 6 v_ri]) hx hb hts in_X ty_X ty_X_ok n_X hown hK hP hD hS 0 rfl rfl 0 (by decide) mw_67 rfl rfl rfl (Nat.le_of_ble_eq_true rfl) d_X_range_35 rfl (fun H locs hP hD hS => ?_)
    refine lv_aload_n hx hb d_X_range_38 rfl (lv_at hl 0 rfl) ?_
    refine zz_get (C := R_X) (T := F_X) (N := 27) (v := .int (1 : Int32)) hx hb hts in_X hown hK hP 0 rfl rfl 0 (by decide) mw_67 rfl d_X_range_39 ?_
    refine lv_if_le (tgt := 46) hx hb d_X_range_42 (by decide) (fun hh => absurd hh (by decide)) (fun _ => ?_)
    have hsp : s_X_range v_x v_M v_d v_a v_o v_lo v_hi v_ri a1 a2 a3 a4 a5 = (upd v_x 0 (1 : Int32), v_lo, v_hi, v_ri) := (by unfold s_X_range; rw [if_pos h1])
    rw [hsp] at hE
    exact hE _ _ _ _ hP hD hS d_X_range_45
  ·
    refine lv_iload_n hx hb d_X_range_5 rfl (lv_at hl 1 rfl) ?_
    refine lv_iconst (v := (1 : Int32)) hx hb d_X_range_6 (by decide) ?_
    refine lv_icmp_gt (tgt := 30) hx hb d_X_range_7 (by decide) (fun h2 => ?_) (fun h2 => ?_)
    ·
      refine lv_iconst (v := (1 : Int32)) hx hb d_X_range_30 (by decide) ?_
      refine lv_goto (tgt := 35) hx hb d_X_range_31 (by decide) ?_
      refine zz_put (C := R_X) (T := F_X) (N := 27) (w' := [oX yX yM yD yA yO yL yH yI (upd v_x 0 (1 : Int32)), ar cI yM 512 v_M, ar cI yD 8 v_d, ar cI yA 8 v_a, ar cI yO 4 v_o, ar cI yL 6 v_lo, ar cI yH 6 v_hi, ar cI yI 6 v_ri]) hx hb hts in_X ty_X ty_X_ok n_X hown hK hP hD hS 0 rfl rfl 0 (by decide) mw_67 rfl rfl rfl (Nat.le_of_ble_eq_true rfl) d_X_range_35 rfl (fun H locs hP hD hS => ?_)
      refine lv_aload_n hx hb d_X_range_38 rfl (lv_at hl 0 rfl) ?_
      refine zz_get (C := R_X) (T := F_X) (N := 27) (v := .int (1 : Int32)) hx hb hts in_X hown hK hP 0 rfl rfl 0 (by decide) mw_67 rfl d_X_range_39 ?_
      refine lv_if_le (tgt := 46) hx hb d_X_range_42 (by decide) (fun hh => absurd hh (by decide)) (fun _ => ?_)
      have hsp : s_X_range v_x v_M v_d v_a v_o v_lo v_hi v_ri a1 a2 a3 a4 a5 = (upd v_x 0 (1 : Int32), v_lo, v_hi, v_ri) := (by unfold s_X_range; rw [if_neg h1, if_pos h2])
      rw [hsp] at hE
      exact hE _ _ _ _ hP hD hS d_X_range_45
    ·
      refine lv_iload_n hx hb d_X_range_10 rfl (lv_at hl 2 rfl) ?_
      refine lv_if_lt (tgt := 30) hx hb d_X_range_11 (by decide) (fun h3 => ?_) (fun h3 => ?_)
      ·
        refine lv_iconst (v := (1 : Int32)) hx hb d_X_range_30 (by decide) ?_
        refine lv_goto (tgt := 35) hx hb d_X_range_31 (by decide) ?_
        refine zz_put (C := R_X) (T := F_X) (N := 27) (w' := [oX yX yM yD yA yO yL yH yI (upd v_x 0 (1 : Int32)), ar cI yM 512 v_M, ar cI yD 8 v_d, ar cI yA 8 v_a, ar cI yO 4 v_o, ar cI yL 6 v_lo, ar cI yH 6 v_hi, ar cI yI 6 v_ri]) hx hb hts in_X ty_X ty_X_ok n_X hown hK hP hD hS 0 rfl rfl 0 (by decide) mw_67 rfl rfl rfl (Nat.le_of_ble_eq_true rfl) d_X_range_35 rfl (fun H locs hP hD hS => ?_)
        refine lv_aload_n hx hb d_X_range_38 rfl (lv_at hl 0 rfl) ?_
        refine zz_get (C := R_X) (T := F_X) (N := 27) (v := .int (1 : Int32)) hx hb hts in_X hown hK hP 0 rfl rfl 0 (by decide) mw_67 rfl d_X_range_39 ?_
        refine lv_if_le (tgt := 46) hx hb d_X_range_42 (by decide) (fun hh => absurd hh (by decide)) (fun _ => ?_)
        have hsp : s_X_range v_x v_M v_d v_a v_o v_lo v_hi v_ri a1 a2 a3 a4 a5 = (upd v_x 0 (1 : Int32), v_lo, v_hi, v_ri) := (by unfold s_X_range; rw [if_neg h1, if_neg h2, if_pos h3])
        rw [hsp] at hE
        exact hE _ _ _ _ hP hD hS d_X_range_45
      ·
        refine lv_iload_n hx hb d_X_range_14 rfl (lv_at hl 2 rfl) ?_
        refine lv_iconst (v := (2 : Int32)) hx hb d_X_range_15 (by decide) ?_
        refine lv_icmp_gt (tgt := 30) hx hb d_X_range_16 (by decide) (fun h4 => ?_) (fun h4 => ?_)
        ·
          refine lv_iconst (v := (1 : Int32)) hx hb d_X_range_30 (by decide) ?_
          refine lv_goto (tgt := 35) hx hb d_X_range_31 (by decide) ?_
          refine zz_put (C := R_X) (T := F_X) (N := 27) (w' := [oX yX yM yD yA yO yL yH yI (upd v_x 0 (1 : Int32)), ar cI yM 512 v_M, ar cI yD 8 v_d, ar cI yA 8 v_a, ar cI yO 4 v_o, ar cI yL 6 v_lo, ar cI yH 6 v_hi, ar cI yI 6 v_ri]) hx hb hts in_X ty_X ty_X_ok n_X hown hK hP hD hS 0 rfl rfl 0 (by decide) mw_67 rfl rfl rfl (Nat.le_of_ble_eq_true rfl) d_X_range_35 rfl (fun H locs hP hD hS => ?_)
          refine lv_aload_n hx hb d_X_range_38 rfl (lv_at hl 0 rfl) ?_
          refine zz_get (C := R_X) (T := F_X) (N := 27) (v := .int (1 : Int32)) hx hb hts in_X hown hK hP 0 rfl rfl 0 (by decide) mw_67 rfl d_X_range_39 ?_
          refine lv_if_le (tgt := 46) hx hb d_X_range_42 (by decide) (fun hh => absurd hh (by decide)) (fun _ => ?_)
          have hsp : s_X_range v_x v_M v_d v_a v_o v_lo v_hi v_ri a1 a2 a3 a4 a5 = (upd v_x 0 (1 : Int32), v_lo, v_hi, v_ri) := (by unfold s_X_range; rw [if_neg h1, if_neg h2, if_neg h3, if_pos h4])
          rw [hsp] at hE
          exact hE _ _ _ _ hP hD hS d_X_range_45
        ·
          refine lv_iload hx hb d_X_range_19 (lv_at hl 5 rfl) ?_
          refine lv_if_lt (tgt := 30) hx hb d_X_range_21 (by decide) (fun h5 => ?_) (fun h5 => ?_)
          ·
            refine lv_iconst (v := (1 : Int32)) hx hb d_X_range_30 (by decide) ?_
            refine lv_goto (tgt := 35) hx hb d_X_range_31 (by decide) ?_
            refine zz_put (C := R_X) (T := F_X) (N := 27) (w' := [oX yX yM yD yA yO yL yH yI (upd v_x 0 (1 : Int32)), ar cI yM 512 v_M, ar cI yD 8 v_d, ar cI yA 8 v_a, ar cI yO 4 v_o, ar cI yL 6 v_lo, ar cI yH 6 v_hi, ar cI yI 6 v_ri]) hx hb hts in_X ty_X ty_X_ok n_X hown hK hP hD hS 0 rfl rfl 0 (by decide) mw_67 rfl rfl rfl (Nat.le_of_ble_eq_true rfl) d_X_range_35 rfl (fun H locs hP hD hS => ?_)
            refine lv_aload_n hx hb d_X_range_38 rfl (lv_at hl 0 rfl) ?_
            refine zz_get (C := R_X) (T := F_X) (N := 27) (v := .int (1 : Int32)) hx hb hts in_X hown hK hP 0 rfl rfl 0 (by decide) mw_67 rfl d_X_range_39 ?_
            refine lv_if_le (tgt := 46) hx hb d_X_range_42 (by decide) (fun hh => absurd hh (by decide)) (fun _ => ?_)
            have hsp : s_X_range v_x v_M v_d v_a v_o v_lo v_hi v_ri a1 a2 a3 a4 a5 = (upd v_x 0 (1 : Int32), v_lo, v_hi, v_ri) := (by unfold s_X_range; rw [if_neg h1, if_neg h2, if_neg h3, if_neg h4, if_pos h5])
            rw [hsp] at hE
            exact hE _ _ _ _ hP hD hS d_X_range_45
          ·
            refine lv_iload hx hb d_X_range_24 (lv_at hl 5 rfl) ?_
            refine lv_iconst (v := (3 : Int32)) hx hb d_X_range_26 (by decide) ?_
            refine lv_icmp_le (tgt := 34) hx hb d_X_range_27 (by decide) (fun h6 => ?_) (fun h6 => ?_)
            ·
              refine lv_iconst (v := (0 : Int32)) hx hb d_X_range_34 (by decide) ?_
              refine zz_put (C := R_X) (T := F_X) (N := 27) (w' := [oX yX yM yD yA yO yL yH yI (upd v_x 0 (0 : Int32)), ar cI yM 512 v_M, ar cI yD 8 v_d, ar cI yA 8 v_a, ar cI yO 4 v_o, ar cI yL 6 v_lo, ar cI yH 6 v_hi, ar cI yI 6 v_ri]) hx hb hts in_X ty_X ty_X_ok n_X hown hK hP hD hS 0 rfl rfl 0 (by decide) mw_67 rfl rfl rfl (Nat.le_of_ble_eq_true rfl) d_X_range_35 rfl (fun H locs hP hD hS => ?_)
              refine lv_aload_n hx hb d_X_range_38 rfl (lv_at hl 0 rfl) ?_
              refine zz_get (C := R_X) (T := F_X) (N := 27) (v := .int (0 : Int32)) hx hb hts in_X hown hK hP 0 rfl rfl 0 (by decide) mw_67 rfl d_X_range_39 ?_
              refine lv_if_le (tgt := 46) hx hb d_X_range_42 (by decide) (fun _ => ?_) (fun hh => absurd hh (by decide))
              refine lv_aload_n hx hb d_X_range_46 rfl (lv_at hl 0 rfl) ?_
              refine zz_get (C := R_X) (T := F_X) (N := 27) (v := .ref yL) hx hb hts in_X hown hK hP 0 rfl rfl 18 (by decide) mw_85 rfl d_X_range_47 ?_
              refine lv_iconst (v := (3 : Int32)) hx hb d_X_range_50 (by decide) ?_
              refine lv_iload_n hx hb d_X_range_51 rfl (lv_at hl 1 rfl) ?_
              refine lv_imul hx hb d_X_range_52 ?_
              refine lv_iload_n hx hb d_X_range_53 rfl (lv_at hl 2 rfl) ?_
              refine lv_iadd hx hb d_X_range_54 ?_
              refine lv_iload_n hx hb d_X_range_55 rfl (lv_at hl 3 rfl) ?_
              refine zz_iast (w' := [oX yX yM yD yA yO yL yH yI (upd v_x 0 (0 : Int32)), ar cI yM 512 v_M, ar cI yD 8 v_d, ar cI yA 8 v_a, ar cI yO 4 v_o, ar cI yL 6 (upd v_lo (ix (((3 : Int32) * a1) + a2)) a3), ar cI yH 6 v_hi, ar cI yI 6 v_ri]) hx hb hK hP hD hS 5 0 rfl rfl (in_xrange h1 h2 h3 h4) d_X_range_56 rfl (fun H locs hP hD hS => ?_)
              refine lv_aload_n hx hb d_X_range_57 rfl (lv_at hl 0 rfl) ?_
              refine zz_get (C := R_X) (T := F_X) (N := 27) (v := .ref yH) hx hb hts in_X hown hK hP 0 rfl rfl 19 (by decide) mw_86 rfl d_X_range_58 ?_
              show W p l e _ s m args below meth c _ _ _ _ Q (F0 m 61 ls _)
              refine lv_iconst (v := (3 : Int32)) hx hb d_X_range_61 (by decide) ?_
              refine lv_iload_n hx hb d_X_range_62 rfl (lv_at hl 1 rfl) ?_
              refine lv_imul hx hb d_X_range_63 ?_
              refine lv_iload_n hx hb d_X_range_64 rfl (lv_at hl 2 rfl) ?_
              refine lv_iadd hx hb d_X_range_65 ?_
              refine lv_iload hx hb d_X_range_66 (lv_at hl 4 rfl) ?_
              refine zz_iast (w' := [oX yX yM yD yA yO yL yH yI (upd v_x 0 (0 : Int32)), ar cI yM 512 v_M, ar cI yD 8 v_d, ar cI yA 8 v_a, ar cI yO 4 v_o, ar cI yL 6 (upd v_lo (ix (((3 : Int32) * a1) + a2)) a3), ar cI yH 6 (upd v_hi (ix (((3 : Int32) * a1) + a2)) a4), ar cI yI 6 v_ri]) hx hb hK hP hD hS 6 0 rfl rfl (in_xrange h1 h2 h3 h4) d_X_range_68 rfl (fun H locs hP hD hS => ?_)
              refine lv_aload_n hx hb d_X_range_69 rfl (lv_at hl 0 rfl) ?_
              refine zz_get (C := R_X) (T := F_X) (N := 27) (v := .ref yI) hx hb hts in_X hown hK hP 0 rfl rfl 20 (by decide) mw_87 rfl d_X_range_70 ?_
              refine lv_iconst (v := (3 : Int32)) hx hb d_X_range_73 (by decide) ?_
              refine lv_iload_n hx hb d_X_range_74 rfl (lv_at hl 1 rfl) ?_
              refine lv_imul hx hb d_X_range_75 ?_
              show W p l e _ s m args below meth c _ _ _ _ Q (F0 m 76 ls _)
              refine lv_iload_n hx hb d_X_range_76 rfl (lv_at hl 2 rfl) ?_
              refine lv_iadd hx hb d_X_range_77 ?_
              refine lv_iload hx hb d_X_range_78 (lv_at hl 5 rfl) ?_
              refine zz_iast (w' := [oX yX yM yD yA yO yL yH yI (upd v_x 0 (0 : Int32)), ar cI yM 512 v_M, ar cI yD 8 v_d, ar cI yA 8 v_a, ar cI yO 4 v_o, ar cI yL 6 (upd v_lo (ix (((3 : Int32) * a1) + a2)) a3), ar cI yH 6 (upd v_hi (ix (((3 : Int32) * a1) + a2)) a4), ar cI yI 6 (upd v_ri (ix (((3 : Int32) * a1) + a2)) a5)]) hx hb hK hP hD hS 7 0 rfl rfl (in_xrange h1 h2 h3 h4) d_X_range_80 rfl (fun H locs hP hD hS => ?_)
              have hsp : s_X_range v_x v_M v_d v_a v_o v_lo v_hi v_ri a1 a2 a3 a4 a5 = (upd v_x 0 (0 : Int32), upd v_lo (ix (((3 : Int32) * a1) + a2)) a3, upd v_hi (ix (((3 : Int32) * a1) + a2)) a4, upd v_ri (ix (((3 : Int32) * a1) + a2)) a5) := (by unfold s_X_range; rw [if_neg h1, if_neg h2, if_neg h3, if_neg h4, if_neg h5, if_pos h6])
              rw [hsp] at hE
              exact hE _ _ _ _ hP hD hS d_X_range_81
            ·
              refine lv_iconst (v := (1 : Int32)) hx hb d_X_range_30 (by decide) ?_
              refine lv_goto (tgt := 35) hx hb d_X_range_31 (by decide) ?_
              refine zz_put (C := R_X) (T := F_X) (N := 27) (w' := [oX yX yM yD yA yO yL yH yI (upd v_x 0 (1 : Int32)), ar cI yM 512 v_M, ar cI yD 8 v_d, ar cI yA 8 v_a, ar cI yO 4 v_o, ar cI yL 6 v_lo, ar cI yH 6 v_hi, ar cI yI 6 v_ri]) hx hb hts in_X ty_X ty_X_ok n_X hown hK hP hD hS 0 rfl rfl 0 (by decide) mw_67 rfl rfl rfl (Nat.le_of_ble_eq_true rfl) d_X_range_35 rfl (fun H locs hP hD hS => ?_)
              refine lv_aload_n hx hb d_X_range_38 rfl (lv_at hl 0 rfl) ?_
              refine zz_get (C := R_X) (T := F_X) (N := 27) (v := .int (1 : Int32)) hx hb hts in_X hown hK hP 0 rfl rfl 0 (by decide) mw_67 rfl d_X_range_39 ?_
              refine lv_if_le (tgt := 46) hx hb d_X_range_42 (by decide) (fun hh => absurd hh (by decide)) (fun _ => ?_)
              have hsp : s_X_range v_x v_M v_d v_a v_o v_lo v_hi v_ri a1 a2 a3 a4 a5 = (upd v_x 0 (1 : Int32), v_lo, v_hi, v_ri) := (by unfold s_X_range; rw [if_neg h1, if_neg h2, if_neg h3, if_neg h4, if_neg h5, if_neg h6])
              rw [hsp] at hE
              exact hE _ _ _ _ hP hD hS d_X_range_45
set_option maxHeartbeats 4000000 in
set_option maxRecDepth 100000 in
theorem k_X_guard (l : Launch) (D : va_G) (cI : ClassId) (sz : Nat) (yX : Nat) (yM : Nat) (yD : Nat) (yA : Nat) (yO : Nat) (yL : Nat) (yH : Nat) (yI : Nat) (v_x : Nat → Int32) (v_M : Nat → Int32) (v_d : Nat → Int32) (v_a : Nat → Int32) (v_o : Nat → Int32) (v_lo : Nat → Int32) (v_hi : Nat → Int32) (v_ri : Nat → Int32) (a1 : Int32) (hb_a1 : a1 = 0 ∨ a1 = 1) : zMv l y_X_guard (.code y_X_guard b_X_guard 2 (none) :: wd) { frames := 0, cells := 0, slots := 0, locals := 0 } D classes [(cI, .int)] [.ref yX, .int a1] [oX yX yM yD yA yO yL yH yI v_x, ar cI yM 512 v_M, ar cI yD 8 v_d, ar cI yA 8 v_a, ar cI yO 4 v_o, ar cI yL 6 v_lo, ar cI yH 6 v_hi, ar cI yI 6 v_ri] [oX yX yM yD yA yO yL yH yI (s_X_guard v_x v_M v_d v_a v_o v_lo v_hi v_ri a1), ar cI yM 512 v_M, ar cI yD 8 v_d, ar cI yA 8 v_a, ar cI yO 4 v_o, ar cI yL 6 v_lo, ar cI yH 6 v_hi, ar cI yI 6 v_ri] sz := by
  refine met_v (by decide) (Nat.le_of_ble_eq_true rfl) ?_
  intro p e s m args below meth c A Q ls hx hb hml hown hts hK hP hD hS hA hl hE
  have hl : lv_has ls 2 [(0, .ref yX), (1, .int a1)] := hl
  have hown : s.vm.findClass R_X = some m.cls := hown
  refine lv_aload_n hx hb d_X_guard_0 rfl (lv_at hl 0 rfl) ?_
  refine lv_iconst (v := (0 : Int32)) hx hb d_X_guard_1 (by decide) ?_
  refine zz_put (C := R_X) (T := F_X) (N := 27) (w' := [oX yX yM yD yA yO yL yH yI (upd v_x 0 (0 : Int32)), ar cI yM 512 v_M, ar cI yD 8 v_d, ar cI yA 8 v_a, ar cI yO 4 v_o, ar cI yL 6 v_lo, ar cI yH 6 v_hi, ar cI yI 6 v_ri]) hx hb hts in_X ty_X ty_X_ok n_X hown hK hP hD hS 0 rfl rfl 0 (by decide) mw_67 rfl rfl rfl (Nat.le_of_ble_eq_true rfl) d_X_guard_2 rfl (fun H locs hP hD hS => ?_)
  refine lv_aload_n hx hb d_X_guard_5 rfl (lv_at hl 0 rfl) ?_
  refine lv_iload_n hx hb d_X_guard_6 rfl (lv_at hl 1 rfl) ?_
  refine zz_put (C := R_X) (T := F_X) (N := 27) (w' := [oX yX yM yD yA yO yL yH yI (upd (upd v_x 0 (0 : Int32)) 13 a1), ar cI yM 512 v_M, ar cI yD 8 v_d, ar cI yA 8 v_a, ar cI yO 4 v_o, ar cI yL 6 v_lo, ar cI yH 6 v_hi, ar cI yI 6 v_ri]) hx hb hts in_X ty_X ty_X_ok n_X hown hK hP hD hS 0 rfl rfl 17 (by decide) mw_84 rfl (zz_nar hb_a1) (zz_fit hb_a1) (Nat.le_of_ble_eq_true rfl) d_X_guard_7 rfl (fun H locs hP hD hS => ?_)
  have hsp : s_X_guard v_x v_M v_d v_a v_o v_lo v_hi v_ri a1 = (upd (upd v_x 0 (0 : Int32)) 13 a1) := rfl
  rw [hsp] at hE
  exact hE _ _ _ _ hP hD hS d_X_guard_10
set_option maxHeartbeats 4000000 in
set_option maxRecDepth 100000 in
theorem k_X_timer (l : Launch) (D : va_G) (cI : ClassId) (sz : Nat) (yX : Nat) (yM : Nat) (yD : Nat) (yA : Nat) (yO : Nat) (yL : Nat) (yH : Nat) (yI : Nat) (v_x : Nat → Int32) (v_M : Nat → Int32) (v_d : Nat → Int32) (v_a : Nat → Int32) (v_o : Nat → Int32) (v_lo : Nat → Int32) (v_hi : Nat → Int32) (v_ri : Nat → Int32) (a1 : Int32) (a2 : Int32) : zMv l y_X_timer (.code y_X_timer b_X_timer 3 (none) :: wd) { frames := 0, cells := 0, slots := 0, locals := 0 } D classes [(cI, .int)] [.ref yX, .int a1, .int a2] [oX yX yM yD yA yO yL yH yI v_x, ar cI yM 512 v_M, ar cI yD 8 v_d, ar cI yA 8 v_a, ar cI yO 4 v_o, ar cI yL 6 v_lo, ar cI yH 6 v_hi, ar cI yI 6 v_ri] [oX yX yM yD yA yO yL yH yI (s_X_timer v_x v_M v_d v_a v_o v_lo v_hi v_ri a1 a2), ar cI yM 512 v_M, ar cI yD 8 v_d, ar cI yA 8 v_a, ar cI yO 4 v_o, ar cI yL 6 v_lo, ar cI yH 6 v_hi, ar cI yI 6 v_ri] sz := by
  refine met_v (by decide) (Nat.le_of_ble_eq_true rfl) ?_
  intro p e s m args below meth c A Q ls hx hb hml hown hts hK hP hD hS hA hl hE
  have hl : lv_has ls 3 [(0, .ref yX), (1, .int a1), (2, .int a2)] := hl
  have hown : s.vm.findClass R_X = some m.cls := hown
  refine lv_aload_n hx hb d_X_timer_0 rfl (lv_at hl 0 rfl) ?_
  refine lv_iload_n hx hb d_X_timer_1 rfl (lv_at hl 1 rfl) ?_
  refine lv_if_lt (tgt := 16) hx hb d_X_timer_2 (by decide) (fun h1 => ?_) (fun h1 => ?_)
  ·
    refine lv_iconst (v := (1 : Int32)) hx hb d_X_timer_16 (by decide) ?_
    refine lv_goto (tgt := 21) hx hb d_X_timer_17 (by decide) ?_
    refine zz_put (C := R_X) (T := F_X) (N := 27) (w' := [oX yX yM yD yA yO yL yH yI (upd v_x 0 (1 : Int32)), ar cI yM 512 v_M, ar cI yD 8 v_d, ar cI yA 8 v_a, ar cI yO 4 v_o, ar cI yL 6 v_lo, ar cI yH 6 v_hi, ar cI yI 6 v_ri]) hx hb hts in_X ty_X ty_X_ok n_X hown hK hP hD hS 0 rfl rfl 0 (by decide) mw_67 rfl rfl rfl (Nat.le_of_ble_eq_true rfl) d_X_timer_21 rfl (fun H locs hP hD hS => ?_)
    refine lv_aload_n hx hb d_X_timer_24 rfl (lv_at hl 0 rfl) ?_
    refine zz_get (C := R_X) (T := F_X) (N := 27) (v := .int (1 : Int32)) hx hb hts in_X hown hK hP 0 rfl rfl 0 (by decide) mw_67 rfl d_X_timer_25 ?_
    refine lv_if_ne (tgt := 41) hx hb d_X_timer_28 (by decide) (fun _ => ?_) (fun hh => absurd hh (by decide))
    have hsp : s_X_timer v_x v_M v_d v_a v_o v_lo v_hi v_ri a1 a2 = (upd v_x 0 (1 : Int32)) := (by unfold s_X_timer; rw [if_pos h1])
    rw [hsp] at hE
    exact hE _ _ _ _ hP hD hS d_X_timer_41
  ·
    refine lv_iload_n hx hb d_X_timer_5 rfl (lv_at hl 2 rfl) ?_
    refine lv_iconst (v := (1 : Int32)) hx hb d_X_timer_6 (by decide) ?_
    refine lv_icmp_lt (tgt := 16) hx hb d_X_timer_7 (by decide) (fun h2 => ?_) (fun h2 => ?_)
    ·
      refine lv_iconst (v := (1 : Int32)) hx hb d_X_timer_16 (by decide) ?_
      refine lv_goto (tgt := 21) hx hb d_X_timer_17 (by decide) ?_
      refine zz_put (C := R_X) (T := F_X) (N := 27) (w' := [oX yX yM yD yA yO yL yH yI (upd v_x 0 (1 : Int32)), ar cI yM 512 v_M, ar cI yD 8 v_d, ar cI yA 8 v_a, ar cI yO 4 v_o, ar cI yL 6 v_lo, ar cI yH 6 v_hi, ar cI yI 6 v_ri]) hx hb hts in_X ty_X ty_X_ok n_X hown hK hP hD hS 0 rfl rfl 0 (by decide) mw_67 rfl rfl rfl (Nat.le_of_ble_eq_true rfl) d_X_timer_21 rfl (fun H locs hP hD hS => ?_)
      refine lv_aload_n hx hb d_X_timer_24 rfl (lv_at hl 0 rfl) ?_
      refine zz_get (C := R_X) (T := F_X) (N := 27) (v := .int (1 : Int32)) hx hb hts in_X hown hK hP 0 rfl rfl 0 (by decide) mw_67 rfl d_X_timer_25 ?_
      refine lv_if_ne (tgt := 41) hx hb d_X_timer_28 (by decide) (fun _ => ?_) (fun hh => absurd hh (by decide))
      have hsp : s_X_timer v_x v_M v_d v_a v_o v_lo v_hi v_ri a1 a2 = (upd v_x 0 (1 : Int32)) := (by unfold s_X_timer; rw [if_neg h1, if_pos h2])
      rw [hsp] at hE
      exact hE _ _ _ _ hP hD hS d_X_timer_41
    ·
      refine lv_iload_n hx hb d_X_timer_10 rfl (lv_at hl 2 rfl) ?_
      refine lv_bipush (v := (15 : Int32)) hx hb d_X_timer_11 (by decide) ?_
      refine lv_icmp_le (tgt := 20) hx hb d_X_timer_13 (by decide) (fun h3 => ?_) (fun h3 => ?_)
      ·
        refine lv_iconst (v := (0 : Int32)) hx hb d_X_timer_20 (by decide) ?_
        refine zz_put (C := R_X) (T := F_X) (N := 27) (w' := [oX yX yM yD yA yO yL yH yI (upd v_x 0 (0 : Int32)), ar cI yM 512 v_M, ar cI yD 8 v_d, ar cI yA 8 v_a, ar cI yO 4 v_o, ar cI yL 6 v_lo, ar cI yH 6 v_hi, ar cI yI 6 v_ri]) hx hb hts in_X ty_X ty_X_ok n_X hown hK hP hD hS 0 rfl rfl 0 (by decide) mw_67 rfl rfl rfl (Nat.le_of_ble_eq_true rfl) d_X_timer_21 rfl (fun H locs hP hD hS => ?_)
        refine lv_aload_n hx hb d_X_timer_24 rfl (lv_at hl 0 rfl) ?_
        refine zz_get (C := R_X) (T := F_X) (N := 27) (v := .int (0 : Int32)) hx hb hts in_X hown hK hP 0 rfl rfl 0 (by decide) mw_67 rfl d_X_timer_25 ?_
        refine lv_if_ne (tgt := 41) hx hb d_X_timer_28 (by decide) (fun hh => absurd hh (by decide)) (fun _ => ?_)
        refine lv_aload_n hx hb d_X_timer_31 rfl (lv_at hl 0 rfl) ?_
        refine lv_iload_n hx hb d_X_timer_32 rfl (lv_at hl 1 rfl) ?_
        refine zz_put (C := R_X) (T := F_X) (N := 27) (w' := [oX yX yM yD yA yO yL yH yI (upd (upd v_x 0 (0 : Int32)) 9 a1), ar cI yM 512 v_M, ar cI yD 8 v_d, ar cI yA 8 v_a, ar cI yO 4 v_o, ar cI yL 6 v_lo, ar cI yH 6 v_hi, ar cI yI 6 v_ri]) hx hb hts in_X ty_X ty_X_ok n_X hown hK hP hD hS 0 rfl rfl 13 (by decide) mw_91 rfl rfl rfl (Nat.le_of_ble_eq_true rfl) d_X_timer_33 rfl (fun H locs hP hD hS => ?_)
        refine lv_aload_n hx hb d_X_timer_36 rfl (lv_at hl 0 rfl) ?_
        refine lv_iload_n hx hb d_X_timer_37 rfl (lv_at hl 2 rfl) ?_
        refine zz_put (C := R_X) (T := F_X) (N := 27) (w' := [oX yX yM yD yA yO yL yH yI (upd (upd (upd v_x 0 (0 : Int32)) 9 a1) 10 a2), ar cI yM 512 v_M, ar cI yD 8 v_d, ar cI yA 8 v_a, ar cI yO 4 v_o, ar cI yL 6 v_lo, ar cI yH 6 v_hi, ar cI yI 6 v_ri]) hx hb hts in_X ty_X ty_X_ok n_X hown hK hP hD hS 0 rfl rfl 14 (by decide) mw_93 rfl rfl rfl (Nat.le_of_ble_eq_true rfl) d_X_timer_38 rfl (fun H locs hP hD hS => ?_)
        have hsp : s_X_timer v_x v_M v_d v_a v_o v_lo v_hi v_ri a1 a2 = (upd (upd (upd v_x 0 (0 : Int32)) 9 a1) 10 a2) := (by unfold s_X_timer; rw [if_neg h1, if_neg h2, if_pos h3])
        rw [hsp] at hE
        exact hE _ _ _ _ hP hD hS d_X_timer_41
      ·
        refine lv_iconst (v := (1 : Int32)) hx hb d_X_timer_16 (by decide) ?_
        refine lv_goto (tgt := 21) hx hb d_X_timer_17 (by decide) ?_
        refine zz_put (C := R_X) (T := F_X) (N := 27) (w' := [oX yX yM yD yA yO yL yH yI (upd v_x 0 (1 : Int32)), ar cI yM 512 v_M, ar cI yD 8 v_d, ar cI yA 8 v_a, ar cI yO 4 v_o, ar cI yL 6 v_lo, ar cI yH 6 v_hi, ar cI yI 6 v_ri]) hx hb hts in_X ty_X ty_X_ok n_X hown hK hP hD hS 0 rfl rfl 0 (by decide) mw_67 rfl rfl rfl (Nat.le_of_ble_eq_true rfl) d_X_timer_21 rfl (fun H locs hP hD hS => ?_)
        refine lv_aload_n hx hb d_X_timer_24 rfl (lv_at hl 0 rfl) ?_
        refine zz_get (C := R_X) (T := F_X) (N := 27) (v := .int (1 : Int32)) hx hb hts in_X hown hK hP 0 rfl rfl 0 (by decide) mw_67 rfl d_X_timer_25 ?_
        refine lv_if_ne (tgt := 41) hx hb d_X_timer_28 (by decide) (fun _ => ?_) (fun hh => absurd hh (by decide))
        have hsp : s_X_timer v_x v_M v_d v_a v_o v_lo v_hi v_ri a1 a2 = (upd v_x 0 (1 : Int32)) := (by unfold s_X_timer; rw [if_neg h1, if_neg h2, if_neg h3])
        rw [hsp] at hE
        exact hE _ _ _ _ hP hD hS d_X_timer_41
set_option maxHeartbeats 4000000 in
set_option maxRecDepth 100000 in
theorem k_X_request (l : Launch) (D : va_G) (cI : ClassId) (sz : Nat) (yX : Nat) (yM : Nat) (yD : Nat) (yA : Nat) (yO : Nat) (yL : Nat) (yH : Nat) (yI : Nat) (v_x : Nat → Int32) (v_M : Nat → Int32) (v_d : Nat → Int32) (v_a : Nat → Int32) (v_o : Nat → Int32) (v_lo : Nat → Int32) (v_hi : Nat → Int32) (v_ri : Nat → Int32) (a1 : Int32) : zMi l y_X_request (.code y_X_request b_X_request 3 (some .boolean) :: wd) { frames := 0, cells := 0, slots := 0, locals := 0 } D classes [(cI, .int)] [.ref yX, .int a1] [oX yX yM yD yA yO yL yH yI v_x, ar cI yM 512 v_M, ar cI yD 8 v_d, ar cI yA 8 v_a, ar cI yO 4 v_o, ar cI yL 6 v_lo, ar cI yH 6 v_hi, ar cI yI 6 v_ri] [oX yX yM yD yA yO yL yH yI ((s_X_request v_x v_M v_d v_a v_o v_lo v_hi v_ri a1).2), ar cI yM 512 v_M, ar cI yD 8 v_d, ar cI yA 8 v_a, ar cI yO 4 v_o, ar cI yL 6 v_lo, ar cI yH 6 v_hi, ar cI yI 6 v_ri] sz (s_X_request v_x v_M v_d v_a v_o v_lo v_hi v_ri a1).1 := by
  refine met_i (by decide) (Nat.le_of_ble_eq_true rfl) (zz_nar (bo_X_request v_x v_M v_d v_a v_o v_lo v_hi v_ri a1)) ?_
  intro p e s m args below meth c A Q ls hx hb hml hown hts hK hP hD hS hA hl hE
  have hl : lv_has ls 3 [(0, .ref yX), (1, .int a1)] := hl
  have hown : s.vm.findClass R_X = some m.cls := hown
  refine lv_aload_n hx hb d_X_request_0 rfl (lv_at hl 0 rfl) ?_
  refine lv_iconst (v := (0 : Int32)) hx hb d_X_request_1 (by decide) ?_
  refine zz_put (C := R_X) (T := F_X) (N := 27) (w' := [oX yX yM yD yA yO yL yH yI (upd v_x 0 (0 : Int32)), ar cI yM 512 v_M, ar cI yD 8 v_d, ar cI yA 8 v_a, ar cI yO 4 v_o, ar cI yL 6 v_lo, ar cI yH 6 v_hi, ar cI yI 6 v_ri]) hx hb hts in_X ty_X ty_X_ok n_X hown hK hP hD hS 0 rfl rfl 0 (by decide) mw_67 rfl rfl rfl (Nat.le_of_ble_eq_true rfl) d_X_request_2 rfl (fun H locs hP hD hS => ?_)
  refine lv_iload_n hx hb d_X_request_5 rfl (lv_at hl 1 rfl) ?_
  refine lv_iconst (v := (1 : Int32)) hx hb d_X_request_6 (by decide) ?_
  refine lv_icmp_lt (tgt := 16) hx hb d_X_request_7 (by decide) (fun h1 => ?_) (fun h1 => ?_)
  ·
    refine lv_iconst (v := (0 : Int32)) hx hb d_X_request_16 (by decide) ?_
    have hsp : s_X_request v_x v_M v_d v_a v_o v_lo v_hi v_ri a1 = ((0 : Int32), upd v_x 0 (0 : Int32)) := (by unfold s_X_request; rw [if_pos h1])
    rw [hsp] at hE
    exact hE _ _ _ _ hP hD hS d_X_request_17
  ·
    refine lv_iload_n hx hb d_X_request_10 rfl (lv_at hl 1 rfl) ?_
    refine lv_bipush (v := (15 : Int32)) hx hb d_X_request_11 (by decide) ?_
    refine lv_icmp_le (tgt := 18) hx hb d_X_request_13 (by decide) (fun h2 => ?_) (fun h2 => ?_)
    ·
      refine lv_aload_n hx hb d_X_request_18 rfl (lv_at hl 0 rfl) ?_
      refine zz_get (C := R_X) (T := F_X) (N := 27) (v := .int (v_x 6)) hx hb hts in_X hown hK hP 0 rfl rfl 10 (by decide) mw_92 rfl d_X_request_19 ?_
      refine lv_iload_n hx hb d_X_request_22 rfl (lv_at hl 1 rfl) ?_
      refine lv_ishr hx hb d_X_request_23 ?_
      refine lv_iconst (v := (1 : Int32)) hx hb d_X_request_24 (by decide) ?_
      refine lv_iand hx hb d_X_request_25 ?_
      refine lv_iconst (v := (1 : Int32)) hx hb d_X_request_26 (by decide) ?_
      refine lv_icmp_ne (tgt := 34) hx hb d_X_request_27 (by decide) (fun h3 => ?_) (fun h3 => ?_)
      ·
        refine lv_iconst (v := (0 : Int32)) hx hb d_X_request_34 (by decide) ?_
        refine lv_istore_n (lv' := [(2, .int (0 : Int32)), (0, .ref yX), (1, .int a1)]) hx hb d_X_request_35 rfl hl (by decide) rfl (fun ls hl => ?_)
        refine lv_aload_n hx hb d_X_request_36 rfl (lv_at hl 1 rfl) ?_
        refine lv_aload_n hx hb d_X_request_37 rfl (lv_at hl 1 rfl) ?_
        refine zz_get (C := R_X) (T := F_X) (N := 27) (v := .int (v_x 6)) hx hb hts in_X hown hK hP 0 rfl rfl 10 (by decide) mw_92 rfl d_X_request_38 ?_
        refine lv_iconst (v := (1 : Int32)) hx hb d_X_request_41 (by decide) ?_
        refine lv_iload_n hx hb d_X_request_42 rfl (lv_at hl 2 rfl) ?_
        refine lv_ishl hx hb d_X_request_43 ?_
        refine lv_ior hx hb d_X_request_44 ?_
        refine zz_put (C := R_X) (T := F_X) (N := 27) (w' := [oX yX yM yD yA yO yL yH yI (upd (upd v_x 0 (0 : Int32)) 6 ((v_x 6) ||| ((1 : Int32) <<< (a1 &&& 31)))), ar cI yM 512 v_M, ar cI yD 8 v_d, ar cI yA 8 v_a, ar cI yO 4 v_o, ar cI yL 6 v_lo, ar cI yH 6 v_hi, ar cI yI 6 v_ri]) hx hb hts in_X ty_X ty_X_ok n_X hown hK hP hD hS 0 rfl rfl 10 (by decide) mw_92 rfl rfl rfl (Nat.le_of_ble_eq_true rfl) d_X_request_45 rfl (fun H locs hP hD hS => ?_)
        refine lv_iload_n hx hb d_X_request_48 rfl (lv_at hl 0 rfl) ?_
        show W p l e _ s m args below meth c _ _ _ _ Q (F0 m 49 ls _)
        refine lv_if_ne (tgt := 56) hx hb d_X_request_49 (by decide) (fun hh => absurd hh (by decide)) (fun _ => ?_)
        refine lv_iconst (v := (1 : Int32)) hx hb d_X_request_52 (by decide) ?_
        refine lv_goto (tgt := 57) hx hb d_X_request_53 (by decide) ?_
        have hsp : s_X_request v_x v_M v_d v_a v_o v_lo v_hi v_ri a1 = ((1 : Int32), upd (upd v_x 0 (0 : Int32)) 6 ((v_x 6) ||| ((1 : Int32) <<< (a1 &&& 31)))) := (by unfold s_X_request; rw [if_neg h1, if_pos h2, if_neg h3])
        rw [hsp] at hE
        exact hE _ _ _ _ hP hD hS d_X_request_57
      ·
        refine lv_iconst (v := (1 : Int32)) hx hb d_X_request_30 (by decide) ?_
        refine lv_goto (tgt := 35) hx hb d_X_request_31 (by decide) ?_
        refine lv_istore_n (lv' := [(2, .int (1 : Int32)), (0, .ref yX), (1, .int a1)]) hx hb d_X_request_35 rfl hl (by decide) rfl (fun ls hl => ?_)
        refine lv_aload_n hx hb d_X_request_36 rfl (lv_at hl 1 rfl) ?_
        refine lv_aload_n hx hb d_X_request_37 rfl (lv_at hl 1 rfl) ?_
        refine zz_get (C := R_X) (T := F_X) (N := 27) (v := .int (v_x 6)) hx hb hts in_X hown hK hP 0 rfl rfl 10 (by decide) mw_92 rfl d_X_request_38 ?_
        refine lv_iconst (v := (1 : Int32)) hx hb d_X_request_41 (by decide) ?_
        refine lv_iload_n hx hb d_X_request_42 rfl (lv_at hl 2 rfl) ?_
        refine lv_ishl hx hb d_X_request_43 ?_
        refine lv_ior hx hb d_X_request_44 ?_
        refine zz_put (C := R_X) (T := F_X) (N := 27) (w' := [oX yX yM yD yA yO yL yH yI (upd (upd v_x 0 (0 : Int32)) 6 ((v_x 6) ||| ((1 : Int32) <<< (a1 &&& 31)))), ar cI yM 512 v_M, ar cI yD 8 v_d, ar cI yA 8 v_a, ar cI yO 4 v_o, ar cI yL 6 v_lo, ar cI yH 6 v_hi, ar cI yI 6 v_ri]) hx hb hts in_X ty_X ty_X_ok n_X hown hK hP hD hS 0 rfl rfl 10 (by decide) mw_92 rfl rfl rfl (Nat.le_of_ble_eq_true rfl) d_X_request_45 rfl (fun H locs hP hD hS => ?_)
        show W p l e _ s m args below meth c _ _ _ _ Q (F0 m 48 ls _)
        refine lv_iload_n hx hb d_X_request_48 rfl (lv_at hl 0 rfl) ?_
        refine lv_if_ne (tgt := 56) hx hb d_X_request_49 (by decide) (fun _ => ?_) (fun hh => absurd hh (by decide))
        refine lv_iconst (v := (0 : Int32)) hx hb d_X_request_56 (by decide) ?_
        have hsp : s_X_request v_x v_M v_d v_a v_o v_lo v_hi v_ri a1 = ((0 : Int32), upd (upd v_x 0 (0 : Int32)) 6 ((v_x 6) ||| ((1 : Int32) <<< (a1 &&& 31)))) := (by unfold s_X_request; rw [if_neg h1, if_pos h2, if_pos h3])
        rw [hsp] at hE
        exact hE _ _ _ _ hP hD hS d_X_request_57
    ·
      refine lv_iconst (v := (0 : Int32)) hx hb d_X_request_16 (by decide) ?_
      have hsp : s_X_request v_x v_M v_d v_a v_o v_lo v_hi v_ri a1 = ((0 : Int32), upd v_x 0 (0 : Int32)) := (by unfold s_X_request; rw [if_neg h1, if_neg h2])
      rw [hsp] at hE
      exact hE _ _ _ _ hP hD hS d_X_request_17
set_option maxHeartbeats 4000000 in
set_option maxRecDepth 100000 in
theorem k_X_start (l : Launch) (D : va_G) (cI : ClassId) (sz : Nat) (yX : Nat) (yM : Nat) (yD : Nat) (yA : Nat) (yO : Nat) (yL : Nat) (yH : Nat) (yI : Nat) (v_x : Nat → Int32) (v_M : Nat → Int32) (v_d : Nat → Int32) (v_a : Nat → Int32) (v_o : Nat → Int32) (v_lo : Nat → Int32) (v_hi : Nat → Int32) (v_ri : Nat → Int32) (a1 : Int32) (a2 : Int32) (a3 : Int32) (hb_a3 : a3 = 0 ∨ a3 = 1) : zMv l y_X_start (.code y_X_start b_X_start 4 (none) :: wd) { frames := 0, cells := 0, slots := 0, locals := 0 } D classes [(cI, .int)] [.ref yX, .int a1, .int a2, .int a3] [oX yX yM yD yA yO yL yH yI v_x, ar cI yM 512 v_M, ar cI yD 8 v_d, ar cI yA 8 v_a, ar cI yO 4 v_o, ar cI yL 6 v_lo, ar cI yH 6 v_hi, ar cI yI 6 v_ri] [oX yX yM yD yA yO yL yH yI ((s_X_start v_x v_M v_d v_a v_o v_lo v_hi v_ri a1 a2 a3).1), ar cI yM 512 v_M, ar cI yD 8 v_d, ar cI yA 8 v_a, ar cI yO 4 ((s_X_start v_x v_M v_d v_a v_o v_lo v_hi v_ri a1 a2 a3).2), ar cI yL 6 v_lo, ar cI yH 6 v_hi, ar cI yI 6 v_ri] sz := by
  refine met_v (by decide) (Nat.le_of_ble_eq_true rfl) ?_
  intro p e s m args below meth c A Q ls hx hb hml hown hts hK hP hD hS hA hl hE
  have hl : lv_has ls 4 [(0, .ref yX), (1, .int a1), (2, .int a2), (3, .int a3)] := hl
  have hown : s.vm.findClass R_X = some m.cls := hown
  refine lv_aload_n hx hb d_X_start_0 rfl (lv_at hl 0 rfl) ?_
  refine lv_iload_n hx hb d_X_start_1 rfl (lv_at hl 2 rfl) ?_
  refine lv_if_lt (tgt := 10) hx hb d_X_start_2 (by decide) (fun h1 => ?_) (fun h1 => ?_)
  ·
    refine lv_iconst (v := (1 : Int32)) hx hb d_X_start_10 (by decide) ?_
    refine lv_goto (tgt := 26) hx hb d_X_start_11 (by decide) ?_
    refine zz_put (C := R_X) (T := F_X) (N := 27) (w' := [oX yX yM yD yA yO yL yH yI (upd v_x 0 (1 : Int32)), ar cI yM 512 v_M, ar cI yD 8 v_d, ar cI yA 8 v_a, ar cI yO 4 v_o, ar cI yL 6 v_lo, ar cI yH 6 v_hi, ar cI yI 6 v_ri]) hx hb hts in_X ty_X ty_X_ok n_X hown hK hP hD hS 0 rfl rfl 0 (by decide) mw_67 rfl rfl rfl (Nat.le_of_ble_eq_true rfl) d_X_start_26 rfl (fun H locs hP hD hS => ?_)
    refine lv_aload_n hx hb d_X_start_29 rfl (lv_at hl 0 rfl) ?_
    refine zz_get (C := R_X) (T := F_X) (N := 27) (v := .int (1 : Int32)) hx hb hts in_X hown hK hP 0 rfl rfl 0 (by decide) mw_67 rfl d_X_start_30 ?_
    refine lv_if_le (tgt := 37) hx hb d_X_start_33 (by decide) (fun hh => absurd hh (by decide)) (fun _ => ?_)
    have hsp : s_X_start v_x v_M v_d v_a v_o v_lo v_hi v_ri a1 a2 a3 = (upd v_x 0 (1 : Int32), v_o) := (by unfold s_X_start; rw [if_pos h1])
    rw [hsp] at hE
    exact hE _ _ _ _ hP hD hS d_X_start_36
  ·
    refine lv_iload_n hx hb d_X_start_5 rfl (lv_at hl 2 rfl) ?_
    refine lv_iconst (v := (2 : Int32)) hx hb d_X_start_6 (by decide) ?_
    refine lv_icmp_le (tgt := 14) hx hb d_X_start_7 (by decide) (fun h2 => ?_) (fun h2 => ?_)
    ·
      refine lv_aload_n hx hb d_X_start_14 rfl (lv_at hl 0 rfl) ?_
      refine zz_get (C := R_X) (T := F_X) (N := 27) (v := .int (v_x 7)) hx hb hts in_X hown hK hP 0 rfl rfl 11 (by decide) mw_78 rfl d_X_start_15 ?_
      refine lv_if_eq (tgt := 25) hx hb d_X_start_18 (by decide) (fun h3 => ?_) (fun h3 => ?_)
      ·
        refine lv_iconst (v := (0 : Int32)) hx hb d_X_start_25 (by decide) ?_
        refine zz_put (C := R_X) (T := F_X) (N := 27) (w' := [oX yX yM yD yA yO yL yH yI (upd v_x 0 (0 : Int32)), ar cI yM 512 v_M, ar cI yD 8 v_d, ar cI yA 8 v_a, ar cI yO 4 v_o, ar cI yL 6 v_lo, ar cI yH 6 v_hi, ar cI yI 6 v_ri]) hx hb hts in_X ty_X ty_X_ok n_X hown hK hP hD hS 0 rfl rfl 0 (by decide) mw_67 rfl rfl rfl (Nat.le_of_ble_eq_true rfl) d_X_start_26 rfl (fun H locs hP hD hS => ?_)
        refine lv_aload_n hx hb d_X_start_29 rfl (lv_at hl 0 rfl) ?_
        refine zz_get (C := R_X) (T := F_X) (N := 27) (v := .int (0 : Int32)) hx hb hts in_X hown hK hP 0 rfl rfl 0 (by decide) mw_67 rfl d_X_start_30 ?_
        refine lv_if_le (tgt := 37) hx hb d_X_start_33 (by decide) (fun _ => ?_) (fun hh => absurd hh (by decide))
        refine lv_aload_n hx hb d_X_start_37 rfl (lv_at hl 0 rfl) ?_
        refine lv_iconst (v := (1 : Int32)) hx hb d_X_start_38 (by decide) ?_
        refine zz_put (C := R_X) (T := F_X) (N := 27) (w' := [oX yX yM yD yA yO yL yH yI (upd (upd v_x 0 (0 : Int32)) 7 (1 : Int32)), ar cI yM 512 v_M, ar cI yD 8 v_d, ar cI yA 8 v_a, ar cI yO 4 v_o, ar cI yL 6 v_lo, ar cI yH 6 v_hi, ar cI yI 6 v_ri]) hx hb hts in_X ty_X ty_X_ok n_X hown hK hP hD hS 0 rfl rfl 11 (by decide) mw_78 rfl rfl rfl (Nat.le_of_ble_eq_true rfl) d_X_start_39 rfl (fun H locs hP hD hS => ?_)
        refine lv_aload_n hx hb d_X_start_42 rfl (lv_at hl 0 rfl) ?_
        refine zz_get (C := R_X) (T := F_X) (N := 27) (v := .ref yO) hx hb hts in_X hown hK hP 0 rfl rfl 4 (by decide) mw_68 rfl d_X_start_43 ?_
        refine lv_iconst (v := (0 : Int32)) hx hb d_X_start_46 (by decide) ?_
        refine lv_iload_n hx hb d_X_start_47 rfl (lv_at hl 1 rfl) ?_
        refine zz_iast (w' := [oX yX yM yD yA yO yL yH yI (upd (upd v_x 0 (0 : Int32)) 7 (1 : Int32)), ar cI yM 512 v_M, ar cI yD 8 v_d, ar cI yA 8 v_a, ar cI yO 4 (upd v_o (ix (0 : Int32)) a1), ar cI yL 6 v_lo, ar cI yH 6 v_hi, ar cI yI 6 v_ri]) hx hb hK hP hD hS 4 0 rfl rfl (zz_inc (by decide)) d_X_start_48 rfl (fun H locs hP hD hS => ?_)
        refine lv_aload_n hx hb d_X_start_49 rfl (lv_at hl 0 rfl) ?_
        refine lv_iload_n hx hb d_X_start_50 rfl (lv_at hl 2 rfl) ?_
        refine zz_put (C := R_X) (T := F_X) (N := 27) (w' := [oX yX yM yD yA yO yL yH yI (upd (upd (upd v_x 0 (0 : Int32)) 7 (1 : Int32)) 1 a2), ar cI yM 512 v_M, ar cI yD 8 v_d, ar cI yA 8 v_a, ar cI yO 4 (upd v_o (ix (0 : Int32)) a1), ar cI yL 6 v_lo, ar cI yH 6 v_hi, ar cI yI 6 v_ri]) hx hb hts in_X ty_X ty_X_ok n_X hown hK hP hD hS 0 rfl rfl 5 (by decide) mw_70 rfl rfl rfl (Nat.le_of_ble_eq_true rfl) d_X_start_51 rfl (fun H locs hP hD hS => ?_)
        show W p l e _ s m args below meth c _ _ _ _ Q (F0 m 54 ls _)
        refine lv_aload_n hx hb d_X_start_54 rfl (lv_at hl 0 rfl) ?_
        refine lv_iconst (v := (0 : Int32)) hx hb d_X_start_55 (by decide) ?_
        refine zz_put (C := R_X) (T := F_X) (N := 27) (w' := [oX yX yM yD yA yO yL yH yI (upd (upd (upd (upd v_x 0 (0 : Int32)) 7 (1 : Int32)) 1 a2) 2 (0 : Int32)), ar cI yM 512 v_M, ar cI yD 8 v_d, ar cI yA 8 v_a, ar cI yO 4 (upd v_o (ix (0 : Int32)) a1), ar cI yL 6 v_lo, ar cI yH 6 v_hi, ar cI yI 6 v_ri]) hx hb hts in_X ty_X ty_X_ok n_X hown hK hP hD hS 0 rfl rfl 6 (by decide) mw_71 rfl rfl rfl (Nat.le_of_ble_eq_true rfl) d_X_start_56 rfl (fun H locs hP hD hS => ?_)
        refine lv_aload_n hx hb d_X_start_59 rfl (lv_at hl 0 rfl) ?_
        refine lv_iconst (v := (0 : Int32)) hx hb d_X_start_60 (by decide) ?_
        refine zz_put (C := R_X) (T := F_X) (N := 27) (w' := [oX yX yM yD yA yO yL yH yI (upd (upd (upd (upd (upd v_x 0 (0 : Int32)) 7 (1 : Int32)) 1 a2) 2 (0 : Int32)) 3 (0 : Int32)), ar cI yM 512 v_M, ar cI yD 8 v_d, ar cI yA 8 v_a, ar cI yO 4 (upd v_o (ix (0 : Int32)) a1), ar cI yL 6 v_lo, ar cI yH 6 v_hi, ar cI yI 6 v_ri]) hx hb hts in_X ty_X ty_X_ok n_X hown hK hP hD hS 0 rfl rfl 7 (by decide) mw_72 rfl rfl rfl (Nat.le_of_ble_eq_true rfl) d_X_start_61 rfl (fun H locs hP hD hS => ?_)
        refine lv_aload_n hx hb d_X_start_64 rfl (lv_at hl 0 rfl) ?_
        refine lv_iconst (v := (0 : Int32)) hx hb d_X_start_65 (by decide) ?_
        refine zz_put (C := R_X) (T := F_X) (N := 27) (w' := [oX yX yM yD yA yO yL yH yI (upd (upd (upd (upd (upd (upd v_x 0 (0 : Int32)) 7 (1 : Int32)) 1 a2) 2 (0 : Int32)) 3 (0 : Int32)) 4 (0 : Int32)), ar cI yM 512 v_M, ar cI yD 8 v_d, ar cI yA 8 v_a, ar cI yO 4 (upd v_o (ix (0 : Int32)) a1), ar cI yL 6 v_lo, ar cI yH 6 v_hi, ar cI yI 6 v_ri]) hx hb hts in_X ty_X ty_X_ok n_X hown hK hP hD hS 0 rfl rfl 8 (by decide) mw_75 rfl rfl rfl (Nat.le_of_ble_eq_true rfl) d_X_start_66 rfl (fun H locs hP hD hS => ?_)
        refine lv_aload_n hx hb d_X_start_69 rfl (lv_at hl 0 rfl) ?_
        refine lv_iload_n hx hb d_X_start_70 rfl (lv_at hl 3 rfl) ?_
        refine zz_put (C := R_X) (T := F_X) (N := 27) (w' := [oX yX yM yD yA yO yL yH yI (upd (upd (upd (upd (upd (upd (upd v_x 0 (0 : Int32)) 7 (1 : Int32)) 1 a2) 2 (0 : Int32)) 3 (0 : Int32)) 4 (0 : Int32)) 5 a3), ar cI yM 512 v_M, ar cI yD 8 v_d, ar cI yA 8 v_a, ar cI yO 4 (upd v_o (ix (0 : Int32)) a1), ar cI yL 6 v_lo, ar cI yH 6 v_hi, ar cI yI 6 v_ri]) hx hb hts in_X ty_X ty_X_ok n_X hown hK hP hD hS 0 rfl rfl 9 (by decide) mw_76 rfl (zz_nar hb_a3) (zz_fit hb_a3) (Nat.le_of_ble_eq_true rfl) d_X_start_71 rfl (fun H locs hP hD hS => ?_)
        show W p l e _ s m args below meth c _ _ _ _ Q (F0 m 74 ls _)
        have hsp : s_X_start v_x v_M v_d v_a v_o v_lo v_hi v_ri a1 a2 a3 = (upd (upd (upd (upd (upd (upd (upd v_x 0 (0 : Int32)) 7 (1 : Int32)) 1 a2) 2 (0 : Int32)) 3 (0 : Int32)) 4 (0 : Int32)) 5 a3, upd v_o (ix (0 : Int32)) a1) := (by unfold s_X_start; rw [if_neg h1, if_pos h2, if_pos h3])
        rw [hsp] at hE
        exact hE _ _ _ _ hP hD hS d_X_start_74
      ·
        refine lv_iconst (v := (2 : Int32)) hx hb d_X_start_21 (by decide) ?_
        refine lv_goto (tgt := 26) hx hb d_X_start_22 (by decide) ?_
        refine zz_put (C := R_X) (T := F_X) (N := 27) (w' := [oX yX yM yD yA yO yL yH yI (upd v_x 0 (2 : Int32)), ar cI yM 512 v_M, ar cI yD 8 v_d, ar cI yA 8 v_a, ar cI yO 4 v_o, ar cI yL 6 v_lo, ar cI yH 6 v_hi, ar cI yI 6 v_ri]) hx hb hts in_X ty_X ty_X_ok n_X hown hK hP hD hS 0 rfl rfl 0 (by decide) mw_67 rfl rfl rfl (Nat.le_of_ble_eq_true rfl) d_X_start_26 rfl (fun H locs hP hD hS => ?_)
        refine lv_aload_n hx hb d_X_start_29 rfl (lv_at hl 0 rfl) ?_
        refine zz_get (C := R_X) (T := F_X) (N := 27) (v := .int (2 : Int32)) hx hb hts in_X hown hK hP 0 rfl rfl 0 (by decide) mw_67 rfl d_X_start_30 ?_
        refine lv_if_le (tgt := 37) hx hb d_X_start_33 (by decide) (fun hh => absurd hh (by decide)) (fun _ => ?_)
        have hsp : s_X_start v_x v_M v_d v_a v_o v_lo v_hi v_ri a1 a2 a3 = (upd v_x 0 (2 : Int32), v_o) := (by unfold s_X_start; rw [if_neg h1, if_pos h2, if_neg h3])
        rw [hsp] at hE
        exact hE _ _ _ _ hP hD hS d_X_start_36
    ·
      refine lv_iconst (v := (1 : Int32)) hx hb d_X_start_10 (by decide) ?_
      refine lv_goto (tgt := 26) hx hb d_X_start_11 (by decide) ?_
      refine zz_put (C := R_X) (T := F_X) (N := 27) (w' := [oX yX yM yD yA yO yL yH yI (upd v_x 0 (1 : Int32)), ar cI yM 512 v_M, ar cI yD 8 v_d, ar cI yA 8 v_a, ar cI yO 4 v_o, ar cI yL 6 v_lo, ar cI yH 6 v_hi, ar cI yI 6 v_ri]) hx hb hts in_X ty_X ty_X_ok n_X hown hK hP hD hS 0 rfl rfl 0 (by decide) mw_67 rfl rfl rfl (Nat.le_of_ble_eq_true rfl) d_X_start_26 rfl (fun H locs hP hD hS => ?_)
      refine lv_aload_n hx hb d_X_start_29 rfl (lv_at hl 0 rfl) ?_
      refine zz_get (C := R_X) (T := F_X) (N := 27) (v := .int (1 : Int32)) hx hb hts in_X hown hK hP 0 rfl rfl 0 (by decide) mw_67 rfl d_X_start_30 ?_
      refine lv_if_le (tgt := 37) hx hb d_X_start_33 (by decide) (fun hh => absurd hh (by decide)) (fun _ => ?_)
      have hsp : s_X_start v_x v_M v_d v_a v_o v_lo v_hi v_ri a1 a2 a3 = (upd v_x 0 (1 : Int32), v_o) := (by unfold s_X_start; rw [if_neg h1, if_neg h2])
      rw [hsp] at hE
      exact hE _ _ _ _ hP hD hS d_X_start_36
set_option maxHeartbeats 4000000 in
set_option maxRecDepth 100000 in
theorem k_X_halt (l : Launch) (D : va_G) (cI : ClassId) (sz : Nat) (yX : Nat) (yM : Nat) (yD : Nat) (yA : Nat) (yO : Nat) (yL : Nat) (yH : Nat) (yI : Nat) (v_x : Nat → Int32) (v_M : Nat → Int32) (v_d : Nat → Int32) (v_a : Nat → Int32) (v_o : Nat → Int32) (v_lo : Nat → Int32) (v_hi : Nat → Int32) (v_ri : Nat → Int32) (hrb : v_x 7 = 0 ∨ v_x 7 = 1) : zMi l y_X_halt (.code y_X_halt b_X_halt 2 (some .boolean) :: wd) { frames := 0, cells := 0, slots := 0, locals := 0 } D classes [(cI, .int)] [.ref yX] [oX yX yM yD yA yO yL yH yI v_x, ar cI yM 512 v_M, ar cI yD 8 v_d, ar cI yA 8 v_a, ar cI yO 4 v_o, ar cI yL 6 v_lo, ar cI yH 6 v_hi, ar cI yI 6 v_ri] [oX yX yM yD yA yO yL yH yI ((s_X_halt v_x v_M v_d v_a v_o v_lo v_hi v_ri).2), ar cI yM 512 v_M, ar cI yD 8 v_d, ar cI yA 8 v_a, ar cI yO 4 v_o, ar cI yL 6 v_lo, ar cI yH 6 v_hi, ar cI yI 6 v_ri] sz (s_X_halt v_x v_M v_d v_a v_o v_lo v_hi v_ri).1 := by
  refine met_i (by decide) (Nat.le_of_ble_eq_true rfl) (zz_nar (bo_X_halt v_x v_M v_d v_a v_o v_lo v_hi v_ri hrb)) ?_
  intro p e s m args below meth c A Q ls hx hb hml hown hts hK hP hD hS hA hl hE
  have hl : lv_has ls 2 [(0, .ref yX)] := hl
  have hown : s.vm.findClass R_X = some m.cls := hown
  refine lv_aload_n hx hb d_X_halt_0 rfl (lv_at hl 0 rfl) ?_
  refine lv_iconst (v := (0 : Int32)) hx hb d_X_halt_1 (by decide) ?_
  refine zz_put (C := R_X) (T := F_X) (N := 27) (w' := [oX yX yM yD yA yO yL yH yI (upd v_x 0 (0 : Int32)), ar cI yM 512 v_M, ar cI yD 8 v_d, ar cI yA 8 v_a, ar cI yO 4 v_o, ar cI yL 6 v_lo, ar cI yH 6 v_hi, ar cI yI 6 v_ri]) hx hb hts in_X ty_X ty_X_ok n_X hown hK hP hD hS 0 rfl rfl 0 (by decide) mw_67 rfl rfl rfl (Nat.le_of_ble_eq_true rfl) d_X_halt_2 rfl (fun H locs hP hD hS => ?_)
  refine lv_aload_n hx hb d_X_halt_5 rfl (lv_at hl 0 rfl) ?_
  refine zz_get (C := R_X) (T := F_X) (N := 27) (v := .int (v_x 7)) hx hb hts in_X hown hK hP 0 rfl rfl 11 (by decide) mw_78 rfl d_X_halt_6 ?_
  refine lv_istore_n (lv' := [(1, .int (v_x 7)), (0, .ref yX)]) hx hb d_X_halt_9 rfl hl (by decide) rfl (fun ls hl => ?_)
  refine lv_aload_n hx hb d_X_halt_10 rfl (lv_at hl 1 rfl) ?_
  refine lv_iconst (v := (0 : Int32)) hx hb d_X_halt_11 (by decide) ?_
  refine zz_put (C := R_X) (T := F_X) (N := 27) (w' := [oX yX yM yD yA yO yL yH yI (upd (upd v_x 0 (0 : Int32)) 7 (0 : Int32)), ar cI yM 512 v_M, ar cI yD 8 v_d, ar cI yA 8 v_a, ar cI yO 4 v_o, ar cI yL 6 v_lo, ar cI yH 6 v_hi, ar cI yI 6 v_ri]) hx hb hts in_X ty_X ty_X_ok n_X hown hK hP hD hS 0 rfl rfl 11 (by decide) mw_78 rfl rfl rfl (Nat.le_of_ble_eq_true rfl) d_X_halt_12 rfl (fun H locs hP hD hS => ?_)
  refine lv_iload_n hx hb d_X_halt_15 rfl (lv_at hl 0 rfl) ?_
  have hsp : s_X_halt v_x v_M v_d v_a v_o v_lo v_hi v_ri = ((v_x 7), upd (upd v_x 0 (0 : Int32)) 7 (0 : Int32)) := rfl
  rw [hsp] at hE
  exact hE _ _ _ _ hP hD hS d_X_halt_16
set_option maxHeartbeats 4000000 in
set_option maxRecDepth 100000 in
theorem k_X_register (l : Launch) (D : va_G) (cI : ClassId) (sz : Nat) (yX : Nat) (yM : Nat) (yD : Nat) (yA : Nat) (yO : Nat) (yL : Nat) (yH : Nat) (yI : Nat) (v_x : Nat → Int32) (v_M : Nat → Int32) (v_d : Nat → Int32) (v_a : Nat → Int32) (v_o : Nat → Int32) (v_lo : Nat → Int32) (v_hi : Nat → Int32) (v_ri : Nat → Int32) (a1 : Int32) (a2 : Int32) : zMi l y_X_register (.code y_X_register b_X_register 3 (some .int) :: wd) { frames := 0, cells := 0, slots := 0, locals := 0 } D classes [(cI, .int)] [.ref yX, .int a1, .int a2] [oX yX yM yD yA yO yL yH yI v_x, ar cI yM 512 v_M, ar cI yD 8 v_d, ar cI yA 8 v_a, ar cI yO 4 v_o, ar cI yL 6 v_lo, ar cI yH 6 v_hi, ar cI yI 6 v_ri] [oX yX yM yD yA yO yL yH yI ((s_X_register v_x v_M v_d v_a v_o v_lo v_hi v_ri a1 a2).2), ar cI yM 512 v_M, ar cI yD 8 v_d, ar cI yA 8 v_a, ar cI yO 4 v_o, ar cI yL 6 v_lo, ar cI yH 6 v_hi, ar cI yI 6 v_ri] sz (s_X_register v_x v_M v_d v_a v_o v_lo v_hi v_ri a1 a2).1 := by
  refine met_i (by decide) (Nat.le_of_ble_eq_true rfl) rfl ?_
  intro p e s m args below meth c A Q ls hx hb hml hown hts hK hP hD hS hA hl hE
  have hl : lv_has ls 3 [(0, .ref yX), (1, .int a1), (2, .int a2)] := hl
  have hown : s.vm.findClass R_X = some m.cls := hown
  refine lv_aload_n hx hb d_X_register_0 rfl (lv_at hl 0 rfl) ?_
  refine lv_iload_n hx hb d_X_register_1 rfl (lv_at hl 1 rfl) ?_
  refine lv_if_lt (tgt := 20) hx hb d_X_register_2 (by decide) (fun h1 => ?_) (fun h1 => ?_)
  ·
    refine lv_iconst (v := (1 : Int32)) hx hb d_X_register_20 (by decide) ?_
    refine lv_goto (tgt := 25) hx hb d_X_register_21 (by decide) ?_
    refine zz_put (C := R_X) (T := F_X) (N := 27) (w' := [oX yX yM yD yA yO yL yH yI (upd v_x 0 (1 : Int32)), ar cI yM 512 v_M, ar cI yD 8 v_d, ar cI yA 8 v_a, ar cI yO 4 v_o, ar cI yL 6 v_lo, ar cI yH 6 v_hi, ar cI yI 6 v_ri]) hx hb hts in_X ty_X ty_X_ok n_X hown hK hP hD hS 0 rfl rfl 0 (by decide) mw_67 rfl rfl rfl (Nat.le_of_ble_eq_true rfl) d_X_register_25 rfl (fun H locs hP hD hS => ?_)
    refine lv_aload_n hx hb d_X_register_28 rfl (lv_at hl 0 rfl) ?_
    refine zz_get (C := R_X) (T := F_X) (N := 27) (v := .int (1 : Int32)) hx hb hts in_X hown hK hP 0 rfl rfl 0 (by decide) mw_67 rfl d_X_register_29 ?_
    refine lv_if_le (tgt := 39) hx hb d_X_register_32 (by decide) (fun hh => absurd hh (by decide)) (fun _ => ?_)
    refine lv_iconst (v := (0 : Int32)) hx hb d_X_register_35 (by decide) ?_
    refine lv_goto (tgt := 58) hx hb d_X_register_36 (by decide) ?_
    have hsp : s_X_register v_x v_M v_d v_a v_o v_lo v_hi v_ri a1 a2 = ((0 : Int32), upd v_x 0 (1 : Int32)) := (by unfold s_X_register; rw [if_pos h1])
    rw [hsp] at hE
    exact hE _ _ _ _ hP hD hS d_X_register_58
  ·
    refine lv_iload_n hx hb d_X_register_5 rfl (lv_at hl 1 rfl) ?_
    refine lv_iconst (v := (1 : Int32)) hx hb d_X_register_6 (by decide) ?_
    refine lv_icmp_gt (tgt := 20) hx hb d_X_register_7 (by decide) (fun h2 => ?_) (fun h2 => ?_)
    ·
      refine lv_iconst (v := (1 : Int32)) hx hb d_X_register_20 (by decide) ?_
      refine lv_goto (tgt := 25) hx hb d_X_register_21 (by decide) ?_
      refine zz_put (C := R_X) (T := F_X) (N := 27) (w' := [oX yX yM yD yA yO yL yH yI (upd v_x 0 (1 : Int32)), ar cI yM 512 v_M, ar cI yD 8 v_d, ar cI yA 8 v_a, ar cI yO 4 v_o, ar cI yL 6 v_lo, ar cI yH 6 v_hi, ar cI yI 6 v_ri]) hx hb hts in_X ty_X ty_X_ok n_X hown hK hP hD hS 0 rfl rfl 0 (by decide) mw_67 rfl rfl rfl (Nat.le_of_ble_eq_true rfl) d_X_register_25 rfl (fun H locs hP hD hS => ?_)
      refine lv_aload_n hx hb d_X_register_28 rfl (lv_at hl 0 rfl) ?_
      refine zz_get (C := R_X) (T := F_X) (N := 27) (v := .int (1 : Int32)) hx hb hts in_X hown hK hP 0 rfl rfl 0 (by decide) mw_67 rfl d_X_register_29 ?_
      refine lv_if_le (tgt := 39) hx hb d_X_register_32 (by decide) (fun hh => absurd hh (by decide)) (fun _ => ?_)
      refine lv_iconst (v := (0 : Int32)) hx hb d_X_register_35 (by decide) ?_
      refine lv_goto (tgt := 58) hx hb d_X_register_36 (by decide) ?_
      have hsp : s_X_register v_x v_M v_d v_a v_o v_lo v_hi v_ri a1 a2 = ((0 : Int32), upd v_x 0 (1 : Int32)) := (by unfold s_X_register; rw [if_neg h1, if_pos h2])
      rw [hsp] at hE
      exact hE _ _ _ _ hP hD hS d_X_register_58
    ·
      refine lv_iload_n hx hb d_X_register_10 rfl (lv_at hl 2 rfl) ?_
      refine lv_if_lt (tgt := 20) hx hb d_X_register_11 (by decide) (fun h3 => ?_) (fun h3 => ?_)
      ·
        refine lv_iconst (v := (1 : Int32)) hx hb d_X_register_20 (by decide) ?_
        refine lv_goto (tgt := 25) hx hb d_X_register_21 (by decide) ?_
        refine zz_put (C := R_X) (T := F_X) (N := 27) (w' := [oX yX yM yD yA yO yL yH yI (upd v_x 0 (1 : Int32)), ar cI yM 512 v_M, ar cI yD 8 v_d, ar cI yA 8 v_a, ar cI yO 4 v_o, ar cI yL 6 v_lo, ar cI yH 6 v_hi, ar cI yI 6 v_ri]) hx hb hts in_X ty_X ty_X_ok n_X hown hK hP hD hS 0 rfl rfl 0 (by decide) mw_67 rfl rfl rfl (Nat.le_of_ble_eq_true rfl) d_X_register_25 rfl (fun H locs hP hD hS => ?_)
        refine lv_aload_n hx hb d_X_register_28 rfl (lv_at hl 0 rfl) ?_
        refine zz_get (C := R_X) (T := F_X) (N := 27) (v := .int (1 : Int32)) hx hb hts in_X hown hK hP 0 rfl rfl 0 (by decide) mw_67 rfl d_X_register_29 ?_
        refine lv_if_le (tgt := 39) hx hb d_X_register_32 (by decide) (fun hh => absurd hh (by decide)) (fun _ => ?_)
        refine lv_iconst (v := (0 : Int32)) hx hb d_X_register_35 (by decide) ?_
        refine lv_goto (tgt := 58) hx hb d_X_register_36 (by decide) ?_
        have hsp : s_X_register v_x v_M v_d v_a v_o v_lo v_hi v_ri a1 a2 = ((0 : Int32), upd v_x 0 (1 : Int32)) := (by unfold s_X_register; rw [if_neg h1, if_neg h2, if_pos h3])
        rw [hsp] at hE
        exact hE _ _ _ _ hP hD hS d_X_register_58
      ·
        refine lv_iload_n hx hb d_X_register_14 rfl (lv_at hl 2 rfl) ?_
        refine lv_bipush (v := (7 : Int32)) hx hb d_X_register_15 (by decide) ?_
        refine lv_icmp_le (tgt := 24) hx hb d_X_register_17 (by decide) (fun h4 => ?_) (fun h4 => ?_)
        ·
          refine lv_iconst (v := (0 : Int32)) hx hb d_X_register_24 (by decide) ?_
          refine zz_put (C := R_X) (T := F_X) (N := 27) (w' := [oX yX yM yD yA yO yL yH yI (upd v_x 0 (0 : Int32)), ar cI yM 512 v_M, ar cI yD 8 v_d, ar cI yA 8 v_a, ar cI yO 4 v_o, ar cI yL 6 v_lo, ar cI yH 6 v_hi, ar cI yI 6 v_ri]) hx hb hts in_X ty_X ty_X_ok n_X hown hK hP hD hS 0 rfl rfl 0 (by decide) mw_67 rfl rfl rfl (Nat.le_of_ble_eq_true rfl) d_X_register_25 rfl (fun H locs hP hD hS => ?_)
          refine lv_aload_n hx hb d_X_register_28 rfl (lv_at hl 0 rfl) ?_
          refine zz_get (C := R_X) (T := F_X) (N := 27) (v := .int (0 : Int32)) hx hb hts in_X hown hK hP 0 rfl rfl 0 (by decide) mw_67 rfl d_X_register_29 ?_
          refine lv_if_le (tgt := 39) hx hb d_X_register_32 (by decide) (fun _ => ?_) (fun hh => absurd hh (by decide))
          refine lv_iload_n hx hb d_X_register_39 rfl (lv_at hl 1 rfl) ?_
          refine lv_if_ne (tgt := 52) hx hb d_X_register_40 (by decide) (fun h5 => ?_) (fun h5 => ?_)
          ·
            refine lv_aload_n hx hb d_X_register_52 rfl (lv_at hl 0 rfl) ?_
            refine zz_get (C := R_X) (T := F_X) (N := 27) (v := .ref yA) hx hb hts in_X hown hK hP 0 rfl rfl 3 (by decide) mw_73 rfl d_X_register_53 ?_
            refine lv_iload_n hx hb d_X_register_56 rfl (lv_at hl 2 rfl) ?_
            refine va_iald hx hb hK hP 3 0 rfl rfl (in_reg h3 h4) d_X_register_57 ?_
            have hsp : s_X_register v_x v_M v_d v_a v_o v_lo v_hi v_ri a1 a2 = ((v_a (ix a2)), upd v_x 0 (0 : Int32)) := (by unfold s_X_register; rw [if_neg h1, if_neg h2, if_neg h3, if_pos h4, if_neg h5])
            rw [hsp] at hE
            exact hE _ _ _ _ hP hD hS d_X_register_58
          ·
            refine lv_aload_n hx hb d_X_register_43 rfl (lv_at hl 0 rfl) ?_
            refine zz_get (C := R_X) (T := F_X) (N := 27) (v := .ref yD) hx hb hts in_X hown hK hP 0 rfl rfl 2 (by decide) mw_74 rfl d_X_register_44 ?_
            refine lv_iload_n hx hb d_X_register_47 rfl (lv_at hl 2 rfl) ?_
            refine va_iald hx hb hK hP 2 0 rfl rfl (in_reg h3 h4) d_X_register_48 ?_
            refine lv_goto (tgt := 58) hx hb d_X_register_49 (by decide) ?_
            have hsp : s_X_register v_x v_M v_d v_a v_o v_lo v_hi v_ri a1 a2 = ((v_d (ix a2)), upd v_x 0 (0 : Int32)) := (by unfold s_X_register; rw [if_neg h1, if_neg h2, if_neg h3, if_pos h4, if_pos h5])
            rw [hsp] at hE
            exact hE _ _ _ _ hP hD hS d_X_register_58
        ·
          refine lv_iconst (v := (1 : Int32)) hx hb d_X_register_20 (by decide) ?_
          refine lv_goto (tgt := 25) hx hb d_X_register_21 (by decide) ?_
          refine zz_put (C := R_X) (T := F_X) (N := 27) (w' := [oX yX yM yD yA yO yL yH yI (upd v_x 0 (1 : Int32)), ar cI yM 512 v_M, ar cI yD 8 v_d, ar cI yA 8 v_a, ar cI yO 4 v_o, ar cI yL 6 v_lo, ar cI yH 6 v_hi, ar cI yI 6 v_ri]) hx hb hts in_X ty_X ty_X_ok n_X hown hK hP hD hS 0 rfl rfl 0 (by decide) mw_67 rfl rfl rfl (Nat.le_of_ble_eq_true rfl) d_X_register_25 rfl (fun H locs hP hD hS => ?_)
          refine lv_aload_n hx hb d_X_register_28 rfl (lv_at hl 0 rfl) ?_
          refine zz_get (C := R_X) (T := F_X) (N := 27) (v := .int (1 : Int32)) hx hb hts in_X hown hK hP 0 rfl rfl 0 (by decide) mw_67 rfl d_X_register_29 ?_
          refine lv_if_le (tgt := 39) hx hb d_X_register_32 (by decide) (fun hh => absurd hh (by decide)) (fun _ => ?_)
          refine lv_iconst (v := (0 : Int32)) hx hb d_X_register_35 (by decide) ?_
          refine lv_goto (tgt := 58) hx hb d_X_register_36 (by decide) ?_
          have hsp : s_X_register v_x v_M v_d v_a v_o v_lo v_hi v_ri a1 a2 = ((0 : Int32), upd v_x 0 (1 : Int32)) := (by unfold s_X_register; rw [if_neg h1, if_neg h2, if_neg h3, if_neg h4])
          rw [hsp] at hE
          exact hE _ _ _ _ hP hD hS d_X_register_58
set_option maxHeartbeats 4000000 in
set_option maxRecDepth 100000 in
theorem k_X_word (l : Launch) (D : va_G) (cI : ClassId) (sz : Nat) (yX : Nat) (yM : Nat) (yD : Nat) (yA : Nat) (yO : Nat) (yL : Nat) (yH : Nat) (yI : Nat) (v_x : Nat → Int32) (v_M : Nat → Int32) (v_d : Nat → Int32) (v_a : Nat → Int32) (v_o : Nat → Int32) (v_lo : Nat → Int32) (v_hi : Nat → Int32) (v_ri : Nat → Int32) (a1 : Int32) : zMi l y_X_word (.code y_X_word b_X_word 2 (some .int) :: wd) { frames := 0, cells := 0, slots := 0, locals := 0 } D classes [(cI, .int)] [.ref yX, .int a1] [oX yX yM yD yA yO yL yH yI v_x, ar cI yM 512 v_M, ar cI yD 8 v_d, ar cI yA 8 v_a, ar cI yO 4 v_o, ar cI yL 6 v_lo, ar cI yH 6 v_hi, ar cI yI 6 v_ri] [oX yX yM yD yA yO yL yH yI ((s_X_word v_x v_M v_d v_a v_o v_lo v_hi v_ri a1).2), ar cI yM 512 v_M, ar cI yD 8 v_d, ar cI yA 8 v_a, ar cI yO 4 v_o, ar cI yL 6 v_lo, ar cI yH 6 v_hi, ar cI yI 6 v_ri] sz (s_X_word v_x v_M v_d v_a v_o v_lo v_hi v_ri a1).1 := by
  refine met_i (by decide) (Nat.le_of_ble_eq_true rfl) rfl ?_
  intro p e s m args below meth c A Q ls hx hb hml hown hts hK hP hD hS hA hl hE
  have hl : lv_has ls 2 [(0, .ref yX), (1, .int a1)] := hl
  have hown : s.vm.findClass R_X = some m.cls := hown
  refine lv_aload_n hx hb d_X_word_0 rfl (lv_at hl 0 rfl) ?_
  refine lv_iconst (v := (0 : Int32)) hx hb d_X_word_1 (by decide) ?_
  refine zz_put (C := R_X) (T := F_X) (N := 27) (w' := [oX yX yM yD yA yO yL yH yI (upd v_x 0 (0 : Int32)), ar cI yM 512 v_M, ar cI yD 8 v_d, ar cI yA 8 v_a, ar cI yO 4 v_o, ar cI yL 6 v_lo, ar cI yH 6 v_hi, ar cI yI 6 v_ri]) hx hb hts in_X ty_X ty_X_ok n_X hown hK hP hD hS 0 rfl rfl 0 (by decide) mw_67 rfl rfl rfl (Nat.le_of_ble_eq_true rfl) d_X_word_2 rfl (fun H locs hP hD hS => ?_)
  refine lv_iload_n hx hb d_X_word_5 rfl (lv_at hl 1 rfl) ?_
  refine lv_if_lt (tgt := 16) hx hb d_X_word_6 (by decide) (fun h1 => ?_) (fun h1 => ?_)
  ·
    refine lv_iconst (v := (0 : Int32)) hx hb d_X_word_16 (by decide) ?_
    refine lv_goto (tgt := 26) hx hb d_X_word_17 (by decide) ?_
    have hsp : s_X_word v_x v_M v_d v_a v_o v_lo v_hi v_ri a1 = ((0 : Int32), upd v_x 0 (0 : Int32)) := (by unfold s_X_word; rw [if_pos h1])
    rw [hsp] at hE
    exact hE _ _ _ _ hP hD hS d_X_word_26
  ·
    refine lv_iload_n hx hb d_X_word_9 rfl (lv_at hl 1 rfl) ?_
    refine lv_sipush (v := (512 : Int32)) hx hb d_X_word_10 (by decide) ?_
    refine lv_icmp_lt (tgt := 20) hx hb d_X_word_13 (by decide) (fun h2 => ?_) (fun h2 => ?_)
    ·
      refine lv_aload_n hx hb d_X_word_20 rfl (lv_at hl 0 rfl) ?_
      refine zz_get (C := R_X) (T := F_X) (N := 27) (v := .ref yM) hx hb hts in_X hown hK hP 0 rfl rfl 1 (by decide) mw_69 rfl d_X_word_21 ?_
      refine lv_iload_n hx hb d_X_word_24 rfl (lv_at hl 1 rfl) ?_
      refine va_iald hx hb hK hP 1 0 rfl rfl (in_pc h1 h2) d_X_word_25 ?_
      have hsp : s_X_word v_x v_M v_d v_a v_o v_lo v_hi v_ri a1 = ((v_M (ix a1)), upd v_x 0 (0 : Int32)) := (by unfold s_X_word; rw [if_neg h1, if_pos h2])
      rw [hsp] at hE
      exact hE _ _ _ _ hP hD hS d_X_word_26
    ·
      refine lv_iconst (v := (0 : Int32)) hx hb d_X_word_16 (by decide) ?_
      refine lv_goto (tgt := 26) hx hb d_X_word_17 (by decide) ?_
      have hsp : s_X_word v_x v_M v_d v_a v_o v_lo v_hi v_ri a1 = ((0 : Int32), upd v_x 0 (0 : Int32)) := (by unfold s_X_word; rw [if_neg h1, if_neg h2])
      rw [hsp] at hE
      exact hE _ _ _ _ hP hD hS d_X_word_26
set_option maxHeartbeats 4000000 in
set_option maxRecDepth 100000 in
theorem k_X_look (l : Launch) (D : va_G) (cI : ClassId) (sz : Nat) (yX : Nat) (yM : Nat) (yD : Nat) (yA : Nat) (yO : Nat) (yL : Nat) (yH : Nat) (yI : Nat) (v_x : Nat → Int32) (v_M : Nat → Int32) (v_d : Nat → Int32) (v_a : Nat → Int32) (v_o : Nat → Int32) (v_lo : Nat → Int32) (v_hi : Nat → Int32) (v_ri : Nat → Int32) (a1 : Int32) : zMi l y_X_look (.code y_X_look b_X_look 2 (some .int) :: wd) { frames := 0, cells := 0, slots := 0, locals := 0 } D classes [(cI, .int)] [.ref yX, .int a1] [oX yX yM yD yA yO yL yH yI v_x, ar cI yM 512 v_M, ar cI yD 8 v_d, ar cI yA 8 v_a, ar cI yO 4 v_o, ar cI yL 6 v_lo, ar cI yH 6 v_hi, ar cI yI 6 v_ri] [oX yX yM yD yA yO yL yH yI ((s_X_look v_x v_M v_d v_a v_o v_lo v_hi v_ri a1).2), ar cI yM 512 v_M, ar cI yD 8 v_d, ar cI yA 8 v_a, ar cI yO 4 v_o, ar cI yL 6 v_lo, ar cI yH 6 v_hi, ar cI yI 6 v_ri] sz (s_X_look v_x v_M v_d v_a v_o v_lo v_hi v_ri a1).1 := by
  refine met_i (by decide) (Nat.le_of_ble_eq_true rfl) rfl ?_
  intro p e s m args below meth c A Q ls hx hb hml hown hts hK hP hD hS hA hl hE
  have hl : lv_has ls 2 [(0, .ref yX), (1, .int a1)] := hl
  have hown : s.vm.findClass R_X = some m.cls := hown
  refine lv_aload_n hx hb d_X_look_0 rfl (lv_at hl 0 rfl) ?_
  refine lv_iconst (v := (0 : Int32)) hx hb d_X_look_1 (by decide) ?_
  refine zz_put (C := R_X) (T := F_X) (N := 27) (w' := [oX yX yM yD yA yO yL yH yI (upd v_x 0 (0 : Int32)), ar cI yM 512 v_M, ar cI yD 8 v_d, ar cI yA 8 v_a, ar cI yO 4 v_o, ar cI yL 6 v_lo, ar cI yH 6 v_hi, ar cI yI 6 v_ri]) hx hb hts in_X ty_X ty_X_ok n_X hown hK hP hD hS 0 rfl rfl 0 (by decide) mw_67 rfl rfl rfl (Nat.le_of_ble_eq_true rfl) d_X_look_2 rfl (fun H locs hP hD hS => ?_)
  refine lv_iload_n hx hb d_X_look_5 rfl (lv_at hl 1 rfl) ?_
  refine lv_if_le (tgt := 23) hx hb d_X_look_6 (by decide) (fun h1 => ?_) (fun h1 => ?_)
  ·
    refine lv_iload_n hx hb d_X_look_23 rfl (lv_at hl 1 rfl) ?_
    refine lv_bipush (v := (8 : Int32)) hx hb d_X_look_24 (by decide) ?_
    refine lv_icmp_ge (tgt := 111) hx hb d_X_look_26 (by decide) (fun h2 => ?_) (fun h2 => ?_)
    ·
      refine lv_iload_n hx hb d_X_look_111 rfl (lv_at hl 1 rfl) ?_
      refine lv_bipush (v := (8 : Int32)) hx hb d_X_look_112 (by decide) ?_
      refine lv_icmp_ne (tgt := 124) hx hb d_X_look_114 (by decide) (fun h3 => ?_) (fun h3 => ?_)
      ·
        refine lv_iload_n hx hb d_X_look_124 rfl (lv_at hl 1 rfl) ?_
        refine lv_bipush (v := (9 : Int32)) hx hb d_X_look_125 (by decide) ?_
        refine lv_icmp_ne (tgt := 137) hx hb d_X_look_127 (by decide) (fun h4 => ?_) (fun h4 => ?_)
        ·
          refine lv_iload_n hx hb d_X_look_137 rfl (lv_at hl 1 rfl) ?_
          refine lv_bipush (v := (10 : Int32)) hx hb d_X_look_138 (by decide) ?_
          refine lv_icmp_ne (tgt := 150) hx hb d_X_look_140 (by decide) (fun h5 => ?_) (fun h5 => ?_)
          ·
            refine lv_iload_n hx hb d_X_look_150 rfl (lv_at hl 1 rfl) ?_
            refine lv_bipush (v := (11 : Int32)) hx hb d_X_look_151 (by decide) ?_
            refine lv_icmp_ne (tgt := 163) hx hb d_X_look_153 (by decide) (fun h6 => ?_) (fun h6 => ?_)
            ·
              refine lv_iload_n hx hb d_X_look_163 rfl (lv_at hl 1 rfl) ?_
              refine lv_bipush (v := (12 : Int32)) hx hb d_X_look_164 (by decide) ?_
              refine lv_icmp_ne (tgt := 176) hx hb d_X_look_166 (by decide) (fun h7 => ?_) (fun h7 => ?_)
              ·
                refine lv_iconst (v := (-1 : Int32)) hx hb d_X_look_176 (by decide) ?_
                have hsp : s_X_look v_x v_M v_d v_a v_o v_lo v_hi v_ri a1 = ((-1 : Int32), upd v_x 0 (0 : Int32)) := (by unfold s_X_look; rw [if_pos h1, if_pos h2, if_neg h3, if_neg h4, if_neg h5, if_neg h6, if_neg h7])
                rw [hsp] at hE
                exact hE _ _ _ _ hP hD hS d_X_look_177
              ·
                refine lv_aload_n hx hb d_X_look_169 rfl (lv_at hl 0 rfl) ?_
                refine zz_get (C := R_X) (T := F_X) (N := 27) (v := .int (v_x 16)) hx hb hts in_X hown hK hP 0 rfl rfl 23 (by decide) mw_95 rfl d_X_look_170 ?_
                refine lv_goto (tgt := 177) hx hb d_X_look_173 (by decide) ?_
                have hsp : s_X_look v_x v_M v_d v_a v_o v_lo v_hi v_ri a1 = ((v_x 16), upd v_x 0 (0 : Int32)) := (by unfold s_X_look; rw [if_pos h1, if_pos h2, if_neg h3, if_neg h4, if_neg h5, if_neg h6, if_pos h7])
                rw [hsp] at hE
                exact hE _ _ _ _ hP hD hS d_X_look_177
            ·
              refine lv_aload_n hx hb d_X_look_156 rfl (lv_at hl 0 rfl) ?_
              refine zz_get (C := R_X) (T := F_X) (N := 27) (v := .int (v_x 15)) hx hb hts in_X hown hK hP 0 rfl rfl 22 (by decide) mw_83 rfl d_X_look_157 ?_
              refine lv_goto (tgt := 177) hx hb d_X_look_160 (by decide) ?_
              have hsp : s_X_look v_x v_M v_d v_a v_o v_lo v_hi v_ri a1 = ((v_x 15), upd v_x 0 (0 : Int32)) := (by unfold s_X_look; rw [if_pos h1, if_pos h2, if_neg h3, if_neg h4, if_neg h5, if_pos h6])
              rw [hsp] at hE
              exact hE _ _ _ _ hP hD hS d_X_look_177
          ·
            refine lv_aload_n hx hb d_X_look_143 rfl (lv_at hl 0 rfl) ?_
            refine zz_get (C := R_X) (T := F_X) (N := 27) (v := .int (v_x 14)) hx hb hts in_X hown hK hP 0 rfl rfl 21 (by decide) mw_82 rfl d_X_look_144 ?_
            refine lv_goto (tgt := 177) hx hb d_X_look_147 (by decide) ?_
            have hsp : s_X_look v_x v_M v_d v_a v_o v_lo v_hi v_ri a1 = ((v_x 14), upd v_x 0 (0 : Int32)) := (by unfold s_X_look; rw [if_pos h1, if_pos h2, if_neg h3, if_neg h4, if_pos h5])
            rw [hsp] at hE
            exact hE _ _ _ _ hP hD hS d_X_look_177
        ·
          refine lv_aload_n hx hb d_X_look_130 rfl (lv_at hl 0 rfl) ?_
          refine zz_get (C := R_X) (T := F_X) (N := 27) (v := .int (v_x 6)) hx hb hts in_X hown hK hP 0 rfl rfl 10 (by decide) mw_92 rfl d_X_look_131 ?_
          refine lv_goto (tgt := 177) hx hb d_X_look_134 (by decide) ?_
          have hsp : s_X_look v_x v_M v_d v_a v_o v_lo v_hi v_ri a1 = ((v_x 6), upd v_x 0 (0 : Int32)) := (by unfold s_X_look; rw [if_pos h1, if_pos h2, if_neg h3, if_pos h4])
          rw [hsp] at hE
          exact hE _ _ _ _ hP hD hS d_X_look_177
      ·
        refine lv_aload_n hx hb d_X_look_117 rfl (lv_at hl 0 rfl) ?_
        refine zz_get (C := R_X) (T := F_X) (N := 27) (v := .int (v_x 8)) hx hb hts in_X hown hK hP 0 rfl rfl 12 (by decide) mw_90 rfl d_X_look_118 ?_
        refine lv_goto (tgt := 177) hx hb d_X_look_121 (by decide) ?_
        have hsp : s_X_look v_x v_M v_d v_a v_o v_lo v_hi v_ri a1 = ((v_x 8), upd v_x 0 (0 : Int32)) := (by unfold s_X_look; rw [if_pos h1, if_pos h2, if_pos h3])
        rw [hsp] at hE
        exact hE _ _ _ _ hP hD hS d_X_look_177
    ·
      refine lv_iload_n hx hb d_X_look_29 rfl (lv_at hl 1 rfl) ?_
      refine lv_if_ne (tgt := 48) hx hb d_X_look_30 (by decide) (fun h8 => ?_) (fun h8 => ?_)
      ·
        refine lv_iload_n hx hb d_X_look_48 rfl (lv_at hl 1 rfl) ?_
        refine lv_iconst (v := (5 : Int32)) hx hb d_X_look_49 (by decide) ?_
        refine lv_icmp_ne (tgt := 75) hx hb d_X_look_50 (by decide) (fun h9 => ?_) (fun h9 => ?_)
        ·
          refine lv_iload_n hx hb d_X_look_75 rfl (lv_at hl 1 rfl) ?_
          refine lv_bipush (v := (6 : Int32)) hx hb d_X_look_76 (by decide) ?_
          refine lv_icmp_ne (tgt := 88) hx hb d_X_look_78 (by decide) (fun h10 => ?_) (fun h10 => ?_)
          ·
            refine lv_iload_n hx hb d_X_look_88 rfl (lv_at hl 1 rfl) ?_
            refine lv_bipush (v := (7 : Int32)) hx hb d_X_look_89 (by decide) ?_
            refine lv_icmp_ne (tgt := 109) hx hb d_X_look_91 (by decide) (fun h11 => ?_) (fun h11 => ?_)
            ·
              refine lv_iconst (v := (-1 : Int32)) hx hb d_X_look_109 (by decide) ?_
              have hsp : s_X_look v_x v_M v_d v_a v_o v_lo v_hi v_ri a1 = ((-1 : Int32), upd v_x 0 (0 : Int32)) := (by unfold s_X_look; rw [if_pos h1, if_neg h2, if_neg h8, if_neg h9, if_neg h10, if_neg h11])
              rw [hsp] at hE
              exact hE _ _ _ _ hP hD hS d_X_look_110
            ·
              refine lv_aload_n hx hb d_X_look_94 rfl (lv_at hl 0 rfl) ?_
              refine zz_get (C := R_X) (T := F_X) (N := 27) (v := .int (v_x 5)) hx hb hts in_X hown hK hP 0 rfl rfl 9 (by decide) mw_76 rfl d_X_look_95 ?_
              refine lv_if_eq (tgt := 105) hx hb d_X_look_98 (by decide) (fun h12 => ?_) (fun h12 => ?_)
              ·
                refine lv_iconst (v := (0 : Int32)) hx hb d_X_look_105 (by decide) ?_
                refine lv_goto (tgt := 110) hx hb d_X_look_106 (by decide) ?_
                have hsp : s_X_look v_x v_M v_d v_a v_o v_lo v_hi v_ri a1 = ((0 : Int32), upd v_x 0 (0 : Int32)) := (by unfold s_X_look; rw [if_pos h1, if_neg h2, if_neg h8, if_neg h9, if_neg h10, if_pos h11, if_pos h12])
                rw [hsp] at hE
                exact hE _ _ _ _ hP hD hS d_X_look_110
              ·
                refine lv_iconst (v := (1 : Int32)) hx hb d_X_look_101 (by decide) ?_
                refine lv_goto (tgt := 110) hx hb d_X_look_102 (by decide) ?_
                have hsp : s_X_look v_x v_M v_d v_a v_o v_lo v_hi v_ri a1 = ((1 : Int32), upd v_x 0 (0 : Int32)) := (by unfold s_X_look; rw [if_pos h1, if_neg h2, if_neg h8, if_neg h9, if_neg h10, if_pos h11, if_neg h12])
                rw [hsp] at hE
                exact hE _ _ _ _ hP hD hS d_X_look_110
          ·
            refine lv_aload_n hx hb d_X_look_81 rfl (lv_at hl 0 rfl) ?_
            refine zz_get (C := R_X) (T := F_X) (N := 27) (v := .int (v_x 4)) hx hb hts in_X hown hK hP 0 rfl rfl 8 (by decide) mw_75 rfl d_X_look_82 ?_
            refine lv_goto (tgt := 110) hx hb d_X_look_85 (by decide) ?_
            have hsp : s_X_look v_x v_M v_d v_a v_o v_lo v_hi v_ri a1 = ((v_x 4), upd v_x 0 (0 : Int32)) := (by unfold s_X_look; rw [if_pos h1, if_neg h2, if_neg h8, if_neg h9, if_pos h10])
            rw [hsp] at hE
            exact hE _ _ _ _ hP hD hS d_X_look_110
        ·
          refine lv_aload_n hx hb d_X_look_53 rfl (lv_at hl 0 rfl) ?_
          refine zz_get (C := R_X) (T := F_X) (N := 27) (v := .int (v_x 1)) hx hb hts in_X hown hK hP 0 rfl rfl 5 (by decide) mw_70 rfl d_X_look_54 ?_
          refine lv_iconst (v := (4 : Int32)) hx hb d_X_look_57 (by decide) ?_
          refine lv_aload_n hx hb d_X_look_58 rfl (lv_at hl 0 rfl) ?_
          refine zz_get (C := R_X) (T := F_X) (N := 27) (v := .int (v_x 2)) hx hb hts in_X hown hK hP 0 rfl rfl 6 (by decide) mw_71 rfl d_X_look_59 ?_
          refine lv_imul hx hb d_X_look_62 ?_
          refine lv_iadd hx hb d_X_look_63 ?_
          refine lv_bipush (v := (8 : Int32)) hx hb d_X_look_64 (by decide) ?_
          refine lv_aload_n hx hb d_X_look_66 rfl (lv_at hl 0 rfl) ?_
          refine zz_get (C := R_X) (T := F_X) (N := 27) (v := .int (v_x 3)) hx hb hts in_X hown hK hP 0 rfl rfl 7 (by decide) mw_72 rfl d_X_look_67 ?_
          refine lv_imul hx hb d_X_look_70 ?_
          show W p l e _ s m args below meth c _ _ _ _ Q (F0 m 71 ls _)
          refine lv_iadd hx hb d_X_look_71 ?_
          refine lv_goto (tgt := 110) hx hb d_X_look_72 (by decide) ?_
          have hsp : s_X_look v_x v_M v_d v_a v_o v_lo v_hi v_ri a1 = ((((v_x 1) + ((4 : Int32) * (v_x 2))) + ((8 : Int32) * (v_x 3))), upd v_x 0 (0 : Int32)) := (by unfold s_X_look; rw [if_pos h1, if_neg h2, if_neg h8, if_pos h9])
          rw [hsp] at hE
          exact hE _ _ _ _ hP hD hS d_X_look_110
      ·
        refine lv_aload_n hx hb d_X_look_33 rfl (lv_at hl 0 rfl) ?_
        refine zz_get (C := R_X) (T := F_X) (N := 27) (v := .int (v_x 7)) hx hb hts in_X hown hK hP 0 rfl rfl 11 (by decide) mw_78 rfl d_X_look_34 ?_
        refine lv_if_eq (tgt := 44) hx hb d_X_look_37 (by decide) (fun h13 => ?_) (fun h13 => ?_)
        ·
          refine lv_iconst (v := (0 : Int32)) hx hb d_X_look_44 (by decide) ?_
          refine lv_goto (tgt := 110) hx hb d_X_look_45 (by decide) ?_
          have hsp : s_X_look v_x v_M v_d v_a v_o v_lo v_hi v_ri a1 = ((0 : Int32), upd v_x 0 (0 : Int32)) := (by unfold s_X_look; rw [if_pos h1, if_neg h2, if_pos h8, if_pos h13])
          rw [hsp] at hE
          exact hE _ _ _ _ hP hD hS d_X_look_110
        ·
          refine lv_iconst (v := (1 : Int32)) hx hb d_X_look_40 (by decide) ?_
          refine lv_goto (tgt := 110) hx hb d_X_look_41 (by decide) ?_
          have hsp : s_X_look v_x v_M v_d v_a v_o v_lo v_hi v_ri a1 = ((1 : Int32), upd v_x 0 (0 : Int32)) := (by unfold s_X_look; rw [if_pos h1, if_neg h2, if_pos h8, if_neg h13])
          rw [hsp] at hE
          exact hE _ _ _ _ hP hD hS d_X_look_110
  ·
    refine lv_iload_n hx hb d_X_look_9 rfl (lv_at hl 1 rfl) ?_
    refine lv_iconst (v := (5 : Int32)) hx hb d_X_look_10 (by decide) ?_
    refine lv_icmp_ge (tgt := 23) hx hb d_X_look_11 (by decide) (fun h14 => ?_) (fun h14 => ?_)
    ·
      refine lv_iload_n hx hb d_X_look_23 rfl (lv_at hl 1 rfl) ?_
      refine lv_bipush (v := (8 : Int32)) hx hb d_X_look_24 (by decide) ?_
      refine lv_icmp_ge (tgt := 111) hx hb d_X_look_26 (by decide) (fun h15 => ?_) (fun h15 => ?_)
      ·
        refine lv_iload_n hx hb d_X_look_111 rfl (lv_at hl 1 rfl) ?_
        refine lv_bipush (v := (8 : Int32)) hx hb d_X_look_112 (by decide) ?_
        refine lv_icmp_ne (tgt := 124) hx hb d_X_look_114 (by decide) (fun h16 => ?_) (fun h16 => ?_)
        ·
          refine lv_iload_n hx hb d_X_look_124 rfl (lv_at hl 1 rfl) ?_
          refine lv_bipush (v := (9 : Int32)) hx hb d_X_look_125 (by decide) ?_
          refine lv_icmp_ne (tgt := 137) hx hb d_X_look_127 (by decide) (fun h17 => ?_) (fun h17 => ?_)
          ·
            refine lv_iload_n hx hb d_X_look_137 rfl (lv_at hl 1 rfl) ?_
            refine lv_bipush (v := (10 : Int32)) hx hb d_X_look_138 (by decide) ?_
            refine lv_icmp_ne (tgt := 150) hx hb d_X_look_140 (by decide) (fun h18 => ?_) (fun h18 => ?_)
            ·
              refine lv_iload_n hx hb d_X_look_150 rfl (lv_at hl 1 rfl) ?_
              refine lv_bipush (v := (11 : Int32)) hx hb d_X_look_151 (by decide) ?_
              refine lv_icmp_ne (tgt := 163) hx hb d_X_look_153 (by decide) (fun h19 => ?_) (fun h19 => ?_)
              ·
                refine lv_iload_n hx hb d_X_look_163 rfl (lv_at hl 1 rfl) ?_
                refine lv_bipush (v := (12 : Int32)) hx hb d_X_look_164 (by decide) ?_
                refine lv_icmp_ne (tgt := 176) hx hb d_X_look_166 (by decide) (fun h20 => ?_) (fun h20 => ?_)
                ·
                  refine lv_iconst (v := (-1 : Int32)) hx hb d_X_look_176 (by decide) ?_
                  have hsp : s_X_look v_x v_M v_d v_a v_o v_lo v_hi v_ri a1 = ((-1 : Int32), upd v_x 0 (0 : Int32)) := (by unfold s_X_look; rw [if_neg h1, if_pos h14, if_pos h15, if_neg h16, if_neg h17, if_neg h18, if_neg h19, if_neg h20])
                  rw [hsp] at hE
                  exact hE _ _ _ _ hP hD hS d_X_look_177
                ·
                  refine lv_aload_n hx hb d_X_look_169 rfl (lv_at hl 0 rfl) ?_
                  refine zz_get (C := R_X) (T := F_X) (N := 27) (v := .int (v_x 16)) hx hb hts in_X hown hK hP 0 rfl rfl 23 (by decide) mw_95 rfl d_X_look_170 ?_
                  refine lv_goto (tgt := 177) hx hb d_X_look_173 (by decide) ?_
                  have hsp : s_X_look v_x v_M v_d v_a v_o v_lo v_hi v_ri a1 = ((v_x 16), upd v_x 0 (0 : Int32)) := (by unfold s_X_look; rw [if_neg h1, if_pos h14, if_pos h15, if_neg h16, if_neg h17, if_neg h18, if_neg h19, if_pos h20])
                  rw [hsp] at hE
                  exact hE _ _ _ _ hP hD hS d_X_look_177
              ·
                refine lv_aload_n hx hb d_X_look_156 rfl (lv_at hl 0 rfl) ?_
                refine zz_get (C := R_X) (T := F_X) (N := 27) (v := .int (v_x 15)) hx hb hts in_X hown hK hP 0 rfl rfl 22 (by decide) mw_83 rfl d_X_look_157 ?_
                refine lv_goto (tgt := 177) hx hb d_X_look_160 (by decide) ?_
                have hsp : s_X_look v_x v_M v_d v_a v_o v_lo v_hi v_ri a1 = ((v_x 15), upd v_x 0 (0 : Int32)) := (by unfold s_X_look; rw [if_neg h1, if_pos h14, if_pos h15, if_neg h16, if_neg h17, if_neg h18, if_pos h19])
                rw [hsp] at hE
                exact hE _ _ _ _ hP hD hS d_X_look_177
            ·
              refine lv_aload_n hx hb d_X_look_143 rfl (lv_at hl 0 rfl) ?_
              refine zz_get (C := R_X) (T := F_X) (N := 27) (v := .int (v_x 14)) hx hb hts in_X hown hK hP 0 rfl rfl 21 (by decide) mw_82 rfl d_X_look_144 ?_
              refine lv_goto (tgt := 177) hx hb d_X_look_147 (by decide) ?_
              have hsp : s_X_look v_x v_M v_d v_a v_o v_lo v_hi v_ri a1 = ((v_x 14), upd v_x 0 (0 : Int32)) := (by unfold s_X_look; rw [if_neg h1, if_pos h14, if_pos h15, if_neg h16, if_neg h17, if_pos h18])
              rw [hsp] at hE
              exact hE _ _ _ _ hP hD hS d_X_look_177
          ·
            refine lv_aload_n hx hb d_X_look_130 rfl (lv_at hl 0 rfl) ?_
            refine zz_get (C := R_X) (T := F_X) (N := 27) (v := .int (v_x 6)) hx hb hts in_X hown hK hP 0 rfl rfl 10 (by decide) mw_92 rfl d_X_look_131 ?_
            refine lv_goto (tgt := 177) hx hb d_X_look_134 (by decide) ?_
            have hsp : s_X_look v_x v_M v_d v_a v_o v_lo v_hi v_ri a1 = ((v_x 6), upd v_x 0 (0 : Int32)) := (by unfold s_X_look; rw [if_neg h1, if_pos h14, if_pos h15, if_neg h16, if_pos h17])
            rw [hsp] at hE
            exact hE _ _ _ _ hP hD hS d_X_look_177
        ·
          refine lv_aload_n hx hb d_X_look_117 rfl (lv_at hl 0 rfl) ?_
          refine zz_get (C := R_X) (T := F_X) (N := 27) (v := .int (v_x 8)) hx hb hts in_X hown hK hP 0 rfl rfl 12 (by decide) mw_90 rfl d_X_look_118 ?_
          refine lv_goto (tgt := 177) hx hb d_X_look_121 (by decide) ?_
          have hsp : s_X_look v_x v_M v_d v_a v_o v_lo v_hi v_ri a1 = ((v_x 8), upd v_x 0 (0 : Int32)) := (by unfold s_X_look; rw [if_neg h1, if_pos h14, if_pos h15, if_pos h16])
          rw [hsp] at hE
          exact hE _ _ _ _ hP hD hS d_X_look_177
      ·
        refine lv_iload_n hx hb d_X_look_29 rfl (lv_at hl 1 rfl) ?_
        refine lv_if_ne (tgt := 48) hx hb d_X_look_30 (by decide) (fun h21 => ?_) (fun h21 => ?_)
        ·
          refine lv_iload_n hx hb d_X_look_48 rfl (lv_at hl 1 rfl) ?_
          refine lv_iconst (v := (5 : Int32)) hx hb d_X_look_49 (by decide) ?_
          refine lv_icmp_ne (tgt := 75) hx hb d_X_look_50 (by decide) (fun h22 => ?_) (fun h22 => ?_)
          ·
            refine lv_iload_n hx hb d_X_look_75 rfl (lv_at hl 1 rfl) ?_
            refine lv_bipush (v := (6 : Int32)) hx hb d_X_look_76 (by decide) ?_
            refine lv_icmp_ne (tgt := 88) hx hb d_X_look_78 (by decide) (fun h23 => ?_) (fun h23 => ?_)
            ·
              refine lv_iload_n hx hb d_X_look_88 rfl (lv_at hl 1 rfl) ?_
              refine lv_bipush (v := (7 : Int32)) hx hb d_X_look_89 (by decide) ?_
              refine lv_icmp_ne (tgt := 109) hx hb d_X_look_91 (by decide) (fun h24 => ?_) (fun h24 => ?_)
              ·
                refine lv_iconst (v := (-1 : Int32)) hx hb d_X_look_109 (by decide) ?_
                have hsp : s_X_look v_x v_M v_d v_a v_o v_lo v_hi v_ri a1 = ((-1 : Int32), upd v_x 0 (0 : Int32)) := (by unfold s_X_look; rw [if_neg h1, if_pos h14, if_neg h15, if_neg h21, if_neg h22, if_neg h23, if_neg h24])
                rw [hsp] at hE
                exact hE _ _ _ _ hP hD hS d_X_look_110
              ·
                refine lv_aload_n hx hb d_X_look_94 rfl (lv_at hl 0 rfl) ?_
                refine zz_get (C := R_X) (T := F_X) (N := 27) (v := .int (v_x 5)) hx hb hts in_X hown hK hP 0 rfl rfl 9 (by decide) mw_76 rfl d_X_look_95 ?_
                refine lv_if_eq (tgt := 105) hx hb d_X_look_98 (by decide) (fun h25 => ?_) (fun h25 => ?_)
                ·
                  refine lv_iconst (v := (0 : Int32)) hx hb d_X_look_105 (by decide) ?_
                  refine lv_goto (tgt := 110) hx hb d_X_look_106 (by decide) ?_
                  have hsp : s_X_look v_x v_M v_d v_a v_o v_lo v_hi v_ri a1 = ((0 : Int32), upd v_x 0 (0 : Int32)) := (by unfold s_X_look; rw [if_neg h1, if_pos h14, if_neg h15, if_neg h21, if_neg h22, if_neg h23, if_pos h24, if_pos h25])
                  rw [hsp] at hE
                  exact hE _ _ _ _ hP hD hS d_X_look_110
                ·
                  refine lv_iconst (v := (1 : Int32)) hx hb d_X_look_101 (by decide) ?_
                  refine lv_goto (tgt := 110) hx hb d_X_look_102 (by decide) ?_
                  have hsp : s_X_look v_x v_M v_d v_a v_o v_lo v_hi v_ri a1 = ((1 : Int32), upd v_x 0 (0 : Int32)) := (by unfold s_X_look; rw [if_neg h1, if_pos h14, if_neg h15, if_neg h21, if_neg h22, if_neg h23, if_pos h24, if_neg h25])
                  rw [hsp] at hE
                  exact hE _ _ _ _ hP hD hS d_X_look_110
            ·
              refine lv_aload_n hx hb d_X_look_81 rfl (lv_at hl 0 rfl) ?_
              refine zz_get (C := R_X) (T := F_X) (N := 27) (v := .int (v_x 4)) hx hb hts in_X hown hK hP 0 rfl rfl 8 (by decide) mw_75 rfl d_X_look_82 ?_
              refine lv_goto (tgt := 110) hx hb d_X_look_85 (by decide) ?_
              have hsp : s_X_look v_x v_M v_d v_a v_o v_lo v_hi v_ri a1 = ((v_x 4), upd v_x 0 (0 : Int32)) := (by unfold s_X_look; rw [if_neg h1, if_pos h14, if_neg h15, if_neg h21, if_neg h22, if_pos h23])
              rw [hsp] at hE
              exact hE _ _ _ _ hP hD hS d_X_look_110
          ·
            refine lv_aload_n hx hb d_X_look_53 rfl (lv_at hl 0 rfl) ?_
            refine zz_get (C := R_X) (T := F_X) (N := 27) (v := .int (v_x 1)) hx hb hts in_X hown hK hP 0 rfl rfl 5 (by decide) mw_70 rfl d_X_look_54 ?_
            refine lv_iconst (v := (4 : Int32)) hx hb d_X_look_57 (by decide) ?_
            refine lv_aload_n hx hb d_X_look_58 rfl (lv_at hl 0 rfl) ?_
            refine zz_get (C := R_X) (T := F_X) (N := 27) (v := .int (v_x 2)) hx hb hts in_X hown hK hP 0 rfl rfl 6 (by decide) mw_71 rfl d_X_look_59 ?_
            refine lv_imul hx hb d_X_look_62 ?_
            refine lv_iadd hx hb d_X_look_63 ?_
            refine lv_bipush (v := (8 : Int32)) hx hb d_X_look_64 (by decide) ?_
            refine lv_aload_n hx hb d_X_look_66 rfl (lv_at hl 0 rfl) ?_
            refine zz_get (C := R_X) (T := F_X) (N := 27) (v := .int (v_x 3)) hx hb hts in_X hown hK hP 0 rfl rfl 7 (by decide) mw_72 rfl d_X_look_67 ?_
            refine lv_imul hx hb d_X_look_70 ?_
            show W p l e _ s m args below meth c _ _ _ _ Q (F0 m 71 ls _)
            refine lv_iadd hx hb d_X_look_71 ?_
            refine lv_goto (tgt := 110) hx hb d_X_look_72 (by decide) ?_
            have hsp : s_X_look v_x v_M v_d v_a v_o v_lo v_hi v_ri a1 = ((((v_x 1) + ((4 : Int32) * (v_x 2))) + ((8 : Int32) * (v_x 3))), upd v_x 0 (0 : Int32)) := (by unfold s_X_look; rw [if_neg h1, if_pos h14, if_neg h15, if_neg h21, if_pos h22])
            rw [hsp] at hE
            exact hE _ _ _ _ hP hD hS d_X_look_110
        ·
          refine lv_aload_n hx hb d_X_look_33 rfl (lv_at hl 0 rfl) ?_
          refine zz_get (C := R_X) (T := F_X) (N := 27) (v := .int (v_x 7)) hx hb hts in_X hown hK hP 0 rfl rfl 11 (by decide) mw_78 rfl d_X_look_34 ?_
          refine lv_if_eq (tgt := 44) hx hb d_X_look_37 (by decide) (fun h26 => ?_) (fun h26 => ?_)
          ·
            refine lv_iconst (v := (0 : Int32)) hx hb d_X_look_44 (by decide) ?_
            refine lv_goto (tgt := 110) hx hb d_X_look_45 (by decide) ?_
            have hsp : s_X_look v_x v_M v_d v_a v_o v_lo v_hi v_ri a1 = ((0 : Int32), upd v_x 0 (0 : Int32)) := (by unfold s_X_look; rw [if_neg h1, if_pos h14, if_neg h15, if_pos h21, if_pos h26])
            rw [hsp] at hE
            exact hE _ _ _ _ hP hD hS d_X_look_110
          ·
            refine lv_iconst (v := (1 : Int32)) hx hb d_X_look_40 (by decide) ?_
            refine lv_goto (tgt := 110) hx hb d_X_look_41 (by decide) ?_
            have hsp : s_X_look v_x v_M v_d v_a v_o v_lo v_hi v_ri a1 = ((1 : Int32), upd v_x 0 (0 : Int32)) := (by unfold s_X_look; rw [if_neg h1, if_pos h14, if_neg h15, if_pos h21, if_neg h26])
            rw [hsp] at hE
            exact hE _ _ _ _ hP hD hS d_X_look_110
    ·
      refine lv_aload_n hx hb d_X_look_14 rfl (lv_at hl 0 rfl) ?_
      refine zz_get (C := R_X) (T := F_X) (N := 27) (v := .ref yO) hx hb hts in_X hown hK hP 0 rfl rfl 4 (by decide) mw_68 rfl d_X_look_15 ?_
      refine lv_iload_n hx hb d_X_look_18 rfl (lv_at hl 1 rfl) ?_
      refine lv_iconst (v := (1 : Int32)) hx hb d_X_look_19 (by decide) ?_
      refine lv_isub hx hb d_X_look_20 ?_
      refine va_iald hx hb hK hP 4 0 rfl rfl (in_own h1 h14) d_X_look_21 ?_
      have hsp : s_X_look v_x v_M v_d v_a v_o v_lo v_hi v_ri a1 = ((v_o (ix (a1 - (1 : Int32)))), upd v_x 0 (0 : Int32)) := (by unfold s_X_look; rw [if_neg h1, if_neg h14])
      rw [hsp] at hE
      exact hE _ _ _ _ hP hD hS d_X_look_22
set_option maxHeartbeats 4000000 in
set_option maxRecDepth 100000 in
theorem k_X_list (l : Launch) (D : va_G) (cI : ClassId) (sz : Nat) (yX : Nat) (yM : Nat) (yD : Nat) (yA : Nat) (yO : Nat) (yL : Nat) (yH : Nat) (yI : Nat) (v_x : Nat → Int32) (v_M : Nat → Int32) (v_d : Nat → Int32) (v_a : Nat → Int32) (v_o : Nat → Int32) (v_lo : Nat → Int32) (v_hi : Nat → Int32) (v_ri : Nat → Int32) (a1 : Int32) : zMi l y_X_list (.code y_X_list b_X_list 4 (some .int) :: wd) { frames := 1, cells := 0, slots := 0, locals := 20 } D classes [(cI, .int)] [.ref yX, .int a1] [oX yX yM yD yA yO yL yH yI v_x, ar cI yM 512 v_M, ar cI yD 8 v_d, ar cI yA 8 v_a, ar cI yO 4 v_o, ar cI yL 6 v_lo, ar cI yH 6 v_hi, ar cI yI 6 v_ri] [oX yX yM yD yA yO yL yH yI ((s_X_list v_x v_M v_d v_a v_o v_lo v_hi v_ri a1).2), ar cI yM 512 v_M, ar cI yD 8 v_d, ar cI yA 8 v_a, ar cI yO 4 v_o, ar cI yL 6 v_lo, ar cI yH 6 v_hi, ar cI yI 6 v_ri] sz (s_X_list v_x v_M v_d v_a v_o v_lo v_hi v_ri a1).1 := by
  refine met_i (by decide) (Nat.le_of_ble_eq_true rfl) rfl ?_
  intro p e s m args below meth c A Q ls hx hb hml hown hts hK hP hD hS hA hl hE
  have hl : lv_has ls 4 [(0, .ref yX), (1, .int a1)] := hl
  have hown : s.vm.findClass R_X = some m.cls := hown
  have LOOP : ∀ (n : Nat) (v_x' : Nat → Int32) (j : Nat) (x : Int32) (ls : Array Slot) (H : Heap) (locs : List Loc), s_X_list v_x v_M v_d v_a v_o v_lo v_hi v_ri a1 = s_X_list_loop v_M v_d v_a v_o v_lo v_hi v_ri a1 n v_x' j x → 32 < n + j → j ≤ 32 → lv_has ls 4 [(3, .int (nI j)), (2, .int x), (0, .ref yX), (1, .int a1)] → va_P D classes [oX yX yM yD yA yO yL yH yI v_x', ar cI yM 512 v_M, ar cI yD 8 v_d, ar cI yA 8 v_a, ar cI yO 4 v_o, ar cI yL 6 v_lo, ar cI yH 6 v_hi, ar cI yI 6 v_ri] H → va_D A [oX yX yM yD yA yO yL yH yI v_x', ar cI yM 512 v_M, ar cI yD 8 v_d, ar cI yA 8 v_a, ar cI yO 4 v_o, ar cI yL 6 v_lo, ar cI yH 6 v_hi, ar cI yI 6 v_ri] → va_S A s.heap H locs → W p l e { frames := 1, cells := 0, slots := 0, locals := 20 } s m args below meth c H locs 0 0 Q (F0 m 36 ls []) := by
    intro n
    induction n with
    | zero => intro v_x' j x ls H locs hres hf hj hl hP hD hS; exfalso; omega
    | succ n ih =>
      intro v_x' j x ls H locs hres hf hj hl hP hD hS
      refine lv_iload_n hx hb d_X_list_36 rfl (lv_at hl 0 rfl) ?_
      refine lv_bipush (v := (32 : Int32)) hx hb d_X_list_37 (by decide) ?_
      refine lv_icmp_ge (tgt := 68) hx hb d_X_list_39 (by decide) (fun h4 => ?_) (fun h4 => ?_)
      ·
        refine lv_iload_n hx hb d_X_list_68 rfl (lv_at hl 0 rfl) ?_
        have hsp : s_X_list v_x v_M v_d v_a v_o v_lo v_hi v_ri a1 = ((nI j), v_x') := (hres.trans (by rw [s_X_list_loop]; rw [if_pos h4]))
        rw [hsp] at hE
        exact hE _ _ _ _ hP hD hS d_X_list_69
      ·
        refine lv_iload_n hx hb d_X_list_42 rfl (lv_at hl 1 rfl) ?_
        refine zz_cS0 (rest := []) ⟨hx, hb, hml, hown, hts⟩ (k_X_isArea l D cI _ x) g_X_list_X_isArea_41 nd_X_isArea ⟨⟨rfl, rfl⟩, Nat.le_of_ble_eq_true rfl, Nat.le_of_ble_eq_true rfl⟩ hK hP hD hS hA rfl rfl hl.1 (Nat.le_of_ble_eq_true rfl) d_X_list_43 ⟨Nat.zero_le _, Nat.zero_le _⟩ (fun H locs hP hD hS => ?_)
        refine lv_if_eq (tgt := 68) hx hb d_X_list_46 (by decide) (fun h5 => ?_) (fun h5 => ?_)
        ·
          refine lv_iload_n hx hb d_X_list_68 rfl (lv_at hl 0 rfl) ?_
          have hsp : s_X_list v_x v_M v_d v_a v_o v_lo v_hi v_ri a1 = ((nI j), v_x') := (hres.trans (by rw [s_X_list_loop]; rw [if_neg h4, if_pos h5]))
          rw [hsp] at hE
          exact hE _ _ _ _ hP hD hS d_X_list_69
        ·
          refine lv_iinc (v := (nI (j + 1))) (lv' := [(3, .int (nI (j + 1))), (2, .int x), (0, .ref yX), (1, .int a1)]) (k := 0) hx hb d_X_list_49 hl rfl (nI_succ j).symm (by decide) rfl (fun ls hl => ?_)
          refine lv_aload_n hx hb d_X_list_52 rfl (lv_at hl 2 rfl) ?_
          refine zz_get (C := R_X) (T := F_X) (N := 27) (v := .ref yM) hx hb hts in_X hown hK hP 0 rfl rfl 1 (by decide) mw_69 rfl d_X_list_53 ?_
          refine lv_iload_n hx hb d_X_list_56 rfl (lv_at hl 1 rfl) ?_
          refine zz_cS0 (rest := [.ref yM]) ⟨hx, hb, hml, hown, hts⟩ (k_X_wordsOf l D cI _ x) g_X_list_X_wordsOf_49 nd_X_wordsOf ⟨⟨rfl, rfl⟩, Nat.le_of_ble_eq_true rfl, Nat.le_of_ble_eq_true rfl⟩ hK hP hD hS hA rfl rfl hl.1 (Nat.le_of_ble_eq_true rfl) d_X_list_57 ⟨Nat.zero_le _, Nat.zero_le _⟩ (fun H locs hP hD hS => ?_)
          refine va_iald hx hb hK hP 1 0 rfl rfl (in_w0 h5) d_X_list_60 ?_
          refine lv_bipush (v := (31 : Int32)) hx hb d_X_list_61 (by decide) ?_
          refine lv_iand hx hb d_X_list_63 ?_
          refine lv_istore_n (lv' := [(2, .int ((v_M (ix (s_X_wordsOf x))) &&& (31 : Int32))), (3, .int (nI (j + 1))), (0, .ref yX), (1, .int a1)]) hx hb d_X_list_64 rfl hl (by decide) rfl (fun ls hl => ?_)
          refine lv_goto (tgt := 36) hx hb d_X_list_65 (by decide) ?_
          exact ih v_x' (j + 1) ((v_M (ix (s_X_wordsOf x))) &&& (31 : Int32)) _ _ _ (hres.trans (by rw [s_X_list_loop]; rw [if_neg h4, if_neg h5])) (by omega) (zz_count hj h4) (lv_sub hl [1, 0, 2, 3] rfl) hP hD hS
  refine lv_aload_n hx hb d_X_list_0 rfl (lv_at hl 0 rfl) ?_
  refine lv_iconst (v := (0 : Int32)) hx hb d_X_list_1 (by decide) ?_
  refine zz_put (C := R_X) (T := F_X) (N := 27) (w' := [oX yX yM yD yA yO yL yH yI (upd v_x 0 (0 : Int32)), ar cI yM 512 v_M, ar cI yD 8 v_d, ar cI yA 8 v_a, ar cI yO 4 v_o, ar cI yL 6 v_lo, ar cI yH 6 v_hi, ar cI yI 6 v_ri]) hx hb hts in_X ty_X ty_X_ok n_X hown hK hP hD hS 0 rfl rfl 0 (by decide) mw_67 rfl rfl rfl (Nat.le_of_ble_eq_true rfl) d_X_list_2 rfl (fun H locs hP hD hS => ?_)
  refine lv_iload_n hx hb d_X_list_5 rfl (lv_at hl 1 rfl) ?_
  refine lv_if_lt (tgt := 14) hx hb d_X_list_6 (by decide) (fun h1 => ?_) (fun h1 => ?_)
  ·
    refine lv_iconst (v := (-1 : Int32)) hx hb d_X_list_14 (by decide) ?_
    have hsp : s_X_list v_x v_M v_d v_a v_o v_lo v_hi v_ri a1 = ((-1 : Int32), upd v_x 0 (0 : Int32)) := (by unfold s_X_list; rw [if_pos h1])
    rw [hsp] at hE
    exact hE _ _ _ _ hP hD hS d_X_list_15
  ·
    refine lv_iload_n hx hb d_X_list_9 rfl (lv_at hl 1 rfl) ?_
    refine lv_iconst (v := (1 : Int32)) hx hb d_X_list_10 (by decide) ?_
    refine lv_icmp_le (tgt := 16) hx hb d_X_list_11 (by decide) (fun h2 => ?_) (fun h2 => ?_)
    ·
      refine lv_aload_n hx hb d_X_list_16 rfl (lv_at hl 0 rfl) ?_
      refine zz_get (C := R_X) (T := F_X) (N := 27) (v := .ref yO) hx hb hts in_X hown hK hP 0 rfl rfl 4 (by decide) mw_68 rfl d_X_list_17 ?_
      refine lv_iload_n hx hb d_X_list_20 rfl (lv_at hl 1 rfl) ?_
      have J21_3 : ∀ (vj21_0 : Int32) (ls : Array Slot) (H : Heap) (locs : List Loc), vj21_0 = (if a1 = 0 then (1 : Int32) else (3 : Int32)) → lv_has ls 4 [(0, .ref yX), (1, .int a1)] → va_P D classes [oX yX yM yD yA yO yL yH yI (upd v_x 0 (0 : Int32)), ar cI yM 512 v_M, ar cI yD 8 v_d, ar cI yA 8 v_a, ar cI yO 4 v_o, ar cI yL 6 v_lo, ar cI yH 6 v_hi, ar cI yI 6 v_ri] H → va_D A [oX yX yM yD yA yO yL yH yI (upd v_x 0 (0 : Int32)), ar cI yM 512 v_M, ar cI yD 8 v_d, ar cI yA 8 v_a, ar cI yO 4 v_o, ar cI yL 6 v_lo, ar cI yH 6 v_hi, ar cI yI 6 v_ri] → va_S A s.heap H locs → W p l e { frames := 1, cells := 0, slots := 0, locals := 20 } s m args below meth c H locs 0 0 Q (F0 m 29 ls [.int vj21_0, .ref yO]) := by
        intro vj21_0 ls H locs evj21_0 hl hP hD hS
        subst evj21_0
        refine va_iald hx hb hK hP 4 0 rfl rfl zz_in13 d_X_list_29 ?_
        refine lv_bipush (v := (31 : Int32)) hx hb d_X_list_30 (by decide) ?_
        refine lv_iand hx hb d_X_list_32 ?_
        refine lv_istore_n (lv' := [(2, .int ((v_o (ix (if a1 = 0 then (1 : Int32) else (3 : Int32)))) &&& (31 : Int32))), (0, .ref yX), (1, .int a1)]) hx hb d_X_list_33 rfl hl (by decide) rfl (fun ls hl => ?_)
        refine lv_iconst (v := (0 : Int32)) hx hb d_X_list_34 (by decide) ?_
        refine lv_istore_n (lv' := [(3, .int (0 : Int32)), (2, .int ((v_o (ix (if a1 = 0 then (1 : Int32) else (3 : Int32)))) &&& (31 : Int32))), (0, .ref yX), (1, .int a1)]) hx hb d_X_list_35 rfl hl (by decide) rfl (fun ls hl => ?_)
        exact LOOP 33 (upd v_x 0 (0 : Int32)) 0 ((v_o (ix (if a1 = 0 then (1 : Int32) else (3 : Int32)))) &&& (31 : Int32)) _ _ _ (by unfold s_X_list; rw [if_neg h1, if_pos h2]) (by decide) (by decide) (lv_sub hl [0, 1, 2, 3] rfl) hP hD hS
      refine lv_if_ne (tgt := 28) hx hb d_X_list_21 (by decide) (fun h3 => ?_) (fun h3 => ?_)
      ·
        refine lv_iconst (v := (3 : Int32)) hx hb d_X_list_28 (by decide) ?_
        exact J21_3 (3 : Int32) _ _ _ (by rw [if_neg h3]) (lv_sub hl [0, 1] rfl) hP hD hS
      ·
        refine lv_iconst (v := (1 : Int32)) hx hb d_X_list_24 (by decide) ?_
        refine lv_goto (tgt := 29) hx hb d_X_list_25 (by decide) ?_
        exact J21_3 (1 : Int32) _ _ _ (by rw [if_pos h3]) (lv_sub hl [0, 1] rfl) hP hD hS
    ·
      refine lv_iconst (v := (-1 : Int32)) hx hb d_X_list_14 (by decide) ?_
      have hsp : s_X_list v_x v_M v_d v_a v_o v_lo v_hi v_ri a1 = ((-1 : Int32), upd v_x 0 (0 : Int32)) := (by unfold s_X_list; rw [if_neg h1, if_neg h2])
      rw [hsp] at hE
      exact hE _ _ _ _ hP hD hS d_X_list_15
