set_option maxHeartbeats 4000000 in
set_option maxRecDepth 100000 in
theorem k_X_instr0 (l : Launch) (D : va_G) (cI : ClassId) (sz : Nat) (yX : Nat) (yM : Nat) (yD : Nat) (yA : Nat) (yO : Nat) (yL : Nat) (yH : Nat) (yI : Nat) (v_x : Nat → Int32) (v_M : Nat → Int32) (v_d : Nat → Int32) (v_a : Nat → Int32) (v_o : Nat → Int32) (v_lo : Nat → Int32) (v_hi : Nat → Int32) (v_ri : Nat → Int32) (a1 : Int32) (hop : (a1 &&& (31 : Int32)) = (0 : Int32)) : zMv l y_X_instruction (.code y_X_instruction b_X_instruction 9 (none) :: wd) { frames := 4, cells := 0, slots := 0, locals := 100 } D classes [(cI, .int)] [.ref yX, .int a1] [oX yX yM yD yA yO yL yH yI v_x, ar cI yM 512 v_M, ar cI yD 8 v_d, ar cI yA 8 v_a, ar cI yO 4 v_o, ar cI yL 6 v_lo, ar cI yH 6 v_hi, ar cI yI 6 v_ri] [oX yX yM yD yA yO yL yH yI ((s_X_instr0 v_x v_M v_d v_a v_o v_lo v_hi v_ri a1).1), ar cI yM 512 v_M, ar cI yD 8 v_d, ar cI yA 8 v_a, ar cI yO 4 ((s_X_instr0 v_x v_M v_d v_a v_o v_lo v_hi v_ri a1).2), ar cI yL 6 v_lo, ar cI yH 6 v_hi, ar cI yI 6 v_ri] sz := by
  refine met_v (by decide) (Nat.le_of_ble_eq_true rfl) ?_
  intro p e s m args below meth c A Q ls hx hb hml hown hts hK hP hD hS hA hl hE
  have hl : lv_has ls 9 [(0, .ref yX), (1, .int a1)] := hl
  have hown : s.vm.findClass R_X = some m.cls := hown
  refine lv_iload_n hx hb d_X_instruction_0 rfl (lv_at hl 1 rfl) ?_
  refine lv_bipush (v := (31 : Int32)) hx hb d_X_instruction_1 (by decide) ?_
  refine lv_iand hx hb d_X_instruction_3 ?_
  refine lv_topi (fun zz ez => ?_)
  obtain rfl : zz = (0 : Int32) := ez.trans hop
  refine lv_istore_n (lv' := [(2, .int (0 : Int32)), (0, .ref yX), (1, .int a1)]) hx hb d_X_instruction_4 rfl hl (by decide) rfl (fun ls hl => ?_)
  refine lv_iload_n hx hb d_X_instruction_5 rfl (lv_at hl 2 rfl) ?_
  refine lv_iconst (v := (5 : Int32)) hx hb d_X_instruction_6 (by decide) ?_
  refine lv_ishr hx hb d_X_instruction_7 ?_
  refine lv_bipush (v := (7 : Int32)) hx hb d_X_instruction_8 (by decide) ?_
  refine lv_iand hx hb d_X_instruction_10 ?_
  refine lv_istore_n (lv' := [(3, .int ((a1 >>> ((5 : Int32) &&& 31)) &&& (7 : Int32))), (2, .int (0 : Int32)), (0, .ref yX), (1, .int a1)]) hx hb d_X_instruction_11 rfl hl (by decide) rfl (fun ls hl => ?_)
  refine lv_iload_n hx hb d_X_instruction_12 rfl (lv_at hl 3 rfl) ?_
  show W p l e _ s m args below meth c _ _ _ _ Q (F0 m 13 ls _)
  refine lv_bipush (v := (8 : Int32)) hx hb d_X_instruction_13 (by decide) ?_
  refine lv_ishr hx hb d_X_instruction_15 ?_
  refine lv_bipush (v := (7 : Int32)) hx hb d_X_instruction_16 (by decide) ?_
  refine lv_iand hx hb d_X_instruction_18 ?_
  refine lv_istore (lv' := [(4, .int ((a1 >>> ((8 : Int32) &&& 31)) &&& (7 : Int32))), (3, .int ((a1 >>> ((5 : Int32) &&& 31)) &&& (7 : Int32))), (2, .int (0 : Int32)), (0, .ref yX), (1, .int a1)]) hx hb d_X_instruction_19 hl (by decide) rfl (fun ls hl => ?_)
  refine lv_iload_n hx hb d_X_instruction_21 rfl (lv_at hl 4 rfl) ?_
  refine lv_bipush (v := (11 : Int32)) hx hb d_X_instruction_22 (by decide) ?_
  refine lv_ishr hx hb d_X_instruction_24 ?_
  refine lv_bipush (v := (7 : Int32)) hx hb d_X_instruction_25 (by decide) ?_
  refine lv_iand hx hb d_X_instruction_27 ?_
  refine lv_istore (lv' := [(5, .int ((a1 >>> ((11 : Int32) &&& 31)) &&& (7 : Int32))), (4, .int ((a1 >>> ((8 : Int32) &&& 31)) &&& (7 : Int32))), (3, .int ((a1 >>> ((5 : Int32) &&& 31)) &&& (7 : Int32))), (2, .int (0 : Int32)), (0, .ref yX), (1, .int a1)]) hx hb d_X_instruction_28 hl (by decide) rfl (fun ls hl => ?_)
  refine lv_iload_n hx hb d_X_instruction_30 rfl (lv_at hl 5 rfl) ?_
  show W p l e _ s m args below meth c _ _ _ _ Q (F0 m 31 ls _)
  refine lv_bipush (v := (16 : Int32)) hx hb d_X_instruction_31 (by decide) ?_
  refine lv_ishr hx hb d_X_instruction_33 ?_
  refine lv_istore (lv' := [(6, .int (a1 >>> ((16 : Int32) &&& 31))), (5, .int ((a1 >>> ((11 : Int32) &&& 31)) &&& (7 : Int32))), (4, .int ((a1 >>> ((8 : Int32) &&& 31)) &&& (7 : Int32))), (3, .int ((a1 >>> ((5 : Int32) &&& 31)) &&& (7 : Int32))), (2, .int (0 : Int32)), (0, .ref yX), (1, .int a1)]) hx hb d_X_instruction_34 hl (by decide) rfl (fun ls hl => ?_)
  refine lv_iload_n hx hb d_X_instruction_36 rfl (lv_at hl 4 rfl) ?_
  refine lv_bipush (v := (25 : Int32)) hx hb d_X_instruction_37 (by decide) ?_
  refine lv_icmp_eq (tgt := 66) hx hb d_X_instruction_39 (by decide) (fun hh => absurd hh (by decide)) (fun _ => ?_)
  refine lv_iload_n hx hb d_X_instruction_42 rfl (lv_at hl 4 rfl) ?_
  refine lv_bipush (v := (26 : Int32)) hx hb d_X_instruction_43 (by decide) ?_
  refine lv_icmp_eq (tgt := 66) hx hb d_X_instruction_45 (by decide) (fun hh => absurd hh (by decide)) (fun _ => ?_)
  refine lv_iload_n hx hb d_X_instruction_48 rfl (lv_at hl 4 rfl) ?_
  refine lv_bipush (v := (28 : Int32)) hx hb d_X_instruction_49 (by decide) ?_
  refine lv_icmp_eq (tgt := 66) hx hb d_X_instruction_51 (by decide) (fun hh => absurd hh (by decide)) (fun _ => ?_)
  refine lv_iload_n hx hb d_X_instruction_54 rfl (lv_at hl 4 rfl) ?_
  refine lv_bipush (v := (29 : Int32)) hx hb d_X_instruction_55 (by decide) ?_
  refine lv_icmp_eq (tgt := 66) hx hb d_X_instruction_57 (by decide) (fun hh => absurd hh (by decide)) (fun _ => ?_)
  refine lv_iload_n hx hb d_X_instruction_60 rfl (lv_at hl 4 rfl) ?_
  refine lv_bipush (v := (31 : Int32)) hx hb d_X_instruction_61 (by decide) ?_
  refine lv_icmp_ne (tgt := 70) hx hb d_X_instruction_63 (by decide) (fun _ => ?_) (fun hh => absurd hh (by decide))
  refine lv_iconst (v := (0 : Int32)) hx hb d_X_instruction_70 (by decide) ?_
  refine lv_istore (lv' := [(7, .int (0 : Int32)), (6, .int (a1 >>> ((16 : Int32) &&& 31))), (5, .int ((a1 >>> ((11 : Int32) &&& 31)) &&& (7 : Int32))), (4, .int ((a1 >>> ((8 : Int32) &&& 31)) &&& (7 : Int32))), (3, .int ((a1 >>> ((5 : Int32) &&& 31)) &&& (7 : Int32))), (2, .int (0 : Int32)), (0, .ref yX), (1, .int a1)]) hx hb d_X_instruction_71 hl (by decide) rfl (fun ls hl => ?_)
  refine lv_iload hx hb d_X_instruction_73 (lv_at hl 0 rfl) ?_
  refine lv_if_eq (tgt := 86) hx hb d_X_instruction_75 (by decide) (fun _ => ?_) (fun hh => absurd hh (by decide))
  refine lv_iload_n hx hb d_X_instruction_86 rfl (lv_at hl 5 rfl) ?_
  refine lv_bipush (v := (30 : Int32)) hx hb d_X_instruction_87 (by decide) ?_
  refine lv_icmp_ne (tgt := 111) hx hb d_X_instruction_89 (by decide) (fun _ => ?_) (fun hh => absurd hh (by decide))
  refine lv_aload_n hx hb d_X_instruction_111 rfl (lv_at hl 6 rfl) ?_
  refine zz_get (C := R_X) (T := F_X) (N := 27) (v := .ref yO) hx hb hts in_X hown hK hP 0 rfl rfl 4 (by decide) mw_68 rfl d_X_instruction_112 ?_
  refine lv_iconst (v := (0 : Int32)) hx hb d_X_instruction_115 (by decide) ?_
  refine va_iald hx hb hK hP 4 0 rfl rfl (zz_inc (by decide)) d_X_instruction_116 ?_
  refine lv_iconst (v := (1 : Int32)) hx hb d_X_instruction_117 (by decide) ?_
  refine lv_iadd hx hb d_X_instruction_118 ?_
  refine lv_istore (lv' := [(8, .int ((v_o (ix (0 : Int32))) + (1 : Int32))), (7, .int (0 : Int32)), (6, .int (a1 >>> ((16 : Int32) &&& 31))), (5, .int ((a1 >>> ((11 : Int32) &&& 31)) &&& (7 : Int32))), (4, .int ((a1 >>> ((8 : Int32) &&& 31)) &&& (7 : Int32))), (3, .int ((a1 >>> ((5 : Int32) &&& 31)) &&& (7 : Int32))), (2, .int (0 : Int32)), (0, .ref yX), (1, .int a1)]) hx hb d_X_instruction_119 hl (by decide) rfl (fun ls hl => ?_)
  refine lv_iload_n hx hb d_X_instruction_121 rfl (lv_at hl 6 rfl) ?_
  refine lv_if_le (tgt := 146) hx hb d_X_instruction_122 (by decide) (fun _ => ?_) (fun hh => absurd hh (by decide))
  refine lv_iload_n hx hb d_X_instruction_146 rfl (lv_at hl 6 rfl) ?_
  refine lv_bipush (v := (12 : Int32)) hx hb d_X_instruction_147 (by decide) ?_
  refine lv_icmp_le (tgt := 171) hx hb d_X_instruction_149 (by decide) (fun _ => ?_) (fun hh => absurd hh (by decide))
  refine lv_iload_n hx hb d_X_instruction_171 rfl (lv_at hl 6 rfl) ?_
  refine lv_bipush (v := (17 : Int32)) hx hb d_X_instruction_172 (by decide) ?_
  refine lv_icmp_le (tgt := 213) hx hb d_X_instruction_174 (by decide) (fun _ => ?_) (fun hh => absurd hh (by decide))
  refine lv_iload_n hx hb d_X_instruction_213 rfl (lv_at hl 6 rfl) ?_
  refine lv_bipush (v := (20 : Int32)) hx hb d_X_instruction_214 (by decide) ?_
  refine lv_icmp_le (tgt := 237) hx hb d_X_instruction_216 (by decide) (fun _ => ?_) (fun hh => absurd hh (by decide))
  refine lv_aload_n hx hb d_X_instruction_237 rfl (lv_at hl 7 rfl) ?_
  refine lv_iload_n hx hb d_X_instruction_238 rfl (lv_at hl 6 rfl) ?_
  refine lv_iload hx hb d_X_instruction_239 (lv_at hl 2 rfl) ?_
  refine zz_cVv (rest := []) (wr := []) (w' := [oX yX yM yD yA yO yL yH yI (s_X_system0 v_x v_M v_d v_a v_o v_lo v_hi v_ri (a1 >>> ((16 : Int32) &&& 31))), ar cI yM 512 v_M, ar cI yD 8 v_d, ar cI yA 8 v_a, ar cI yO 4 v_o, ar cI yL 6 v_lo, ar cI yH 6 v_hi, ar cI yI 6 v_ri]) ⟨hx, hb, hml, hown, hts⟩ (k_X_system0 l D cI _ yX yM yD yA yO yL yH yI v_x v_M v_d v_a v_o v_lo v_hi v_ri (a1 >>> ((16 : Int32) &&& 31))) g_X_instruction_X_system_127 nv_X_system ⟨⟨rfl, rfl⟩, Nat.le_of_ble_eq_true rfl, Nat.le_of_ble_eq_true rfl⟩ hK [0] rfl hP hD hS hA [0, 1, 2, 3, 4, 5, 6, 7] [] [0, 1, 2, 3, 4, 5, 6, 7] rfl rfl rfl rfl (by decide) rfl rfl 0 6 rfl rfl rfl rfl hl.1 (Nat.le_of_ble_eq_true rfl) d_X_instruction_241 ⟨Nat.zero_le _, Nat.zero_le _⟩ (fun H locs hP hD hS => ?_)
  refine lv_aload_n hx hb d_X_instruction_244 rfl (lv_at hl 7 rfl) ?_
  refine zz_get (C := R_X) (T := F_X) (N := 27) (v := .ref yO) hx hb hts in_X hown hK hP 0 rfl rfl 4 (by decide) mw_68 rfl d_X_instruction_245 ?_
  refine lv_iconst (v := (0 : Int32)) hx hb d_X_instruction_248 (by decide) ?_
  refine lv_aload_n hx hb d_X_instruction_249 rfl (lv_at hl 7 rfl) ?_
  refine zz_get (C := R_X) (T := F_X) (N := 27) (v := .int ((s_X_system0 v_x v_M v_d v_a v_o v_lo v_hi v_ri (a1 >>> ((16 : Int32) &&& 31))) 19)) hx hb hts in_X hown hK hP 0 rfl rfl 26 (by decide) mw_79 rfl d_X_instruction_250 ?_
  have J253_2 : ∀ (vj253_0 : Int32) (ls : Array Slot) (H : Heap) (locs : List Loc), vj253_0 = (if ((s_X_system0 v_x v_M v_d v_a v_o v_lo v_hi v_ri (a1 >>> ((16 : Int32) &&& 31))) 19) = 0 then (if ((s_X_system0 v_x v_M v_d v_a v_o v_lo v_hi v_ri (a1 >>> ((16 : Int32) &&& 31))) 7) = 0 then (v_o (ix (0 : Int32))) else ((v_o (ix (0 : Int32))) + (1 : Int32))) else (v_o (ix (0 : Int32)))) → lv_has ls 9 [(8, .int ((v_o (ix (0 : Int32))) + (1 : Int32))), (7, .int (0 : Int32)), (6, .int (a1 >>> ((16 : Int32) &&& 31))), (5, .int ((a1 >>> ((11 : Int32) &&& 31)) &&& (7 : Int32))), (4, .int ((a1 >>> ((8 : Int32) &&& 31)) &&& (7 : Int32))), (3, .int ((a1 >>> ((5 : Int32) &&& 31)) &&& (7 : Int32))), (2, .int (0 : Int32)), (0, .ref yX), (1, .int a1)] → va_P D classes [oX yX yM yD yA yO yL yH yI (s_X_system0 v_x v_M v_d v_a v_o v_lo v_hi v_ri (a1 >>> ((16 : Int32) &&& 31))), ar cI yM 512 v_M, ar cI yD 8 v_d, ar cI yA 8 v_a, ar cI yO 4 v_o, ar cI yL 6 v_lo, ar cI yH 6 v_hi, ar cI yI 6 v_ri] H → va_D A [oX yX yM yD yA yO yL yH yI (s_X_system0 v_x v_M v_d v_a v_o v_lo v_hi v_ri (a1 >>> ((16 : Int32) &&& 31))), ar cI yM 512 v_M, ar cI yD 8 v_d, ar cI yA 8 v_a, ar cI yO 4 v_o, ar cI yL 6 v_lo, ar cI yH 6 v_hi, ar cI yI 6 v_ri] → va_S A s.heap H locs → W p l e { frames := 4, cells := 0, slots := 0, locals := 100 } s m args below meth c H locs 0 0 Q (F0 m 274 ls [.int vj253_0, .int (0 : Int32), .ref yO]) := by
    intro vj253_0 ls H locs evj253_0 hl hP hD hS
    subst evj253_0
    refine zz_iast (w' := [oX yX yM yD yA yO yL yH yI (s_X_system0 v_x v_M v_d v_a v_o v_lo v_hi v_ri (a1 >>> ((16 : Int32) &&& 31))), ar cI yM 512 v_M, ar cI yD 8 v_d, ar cI yA 8 v_a, ar cI yO 4 (upd v_o (ix (0 : Int32)) (if ((s_X_system0 v_x v_M v_d v_a v_o v_lo v_hi v_ri (a1 >>> ((16 : Int32) &&& 31))) 19) = 0 then (if ((s_X_system0 v_x v_M v_d v_a v_o v_lo v_hi v_ri (a1 >>> ((16 : Int32) &&& 31))) 7) = 0 then (v_o (ix (0 : Int32))) else ((v_o (ix (0 : Int32))) + (1 : Int32))) else (v_o (ix (0 : Int32))))), ar cI yL 6 v_lo, ar cI yH 6 v_hi, ar cI yI 6 v_ri]) hx hb hK hP hD hS 4 0 rfl rfl (zz_inc (by decide)) d_X_instruction_274 rfl (fun H locs hP hD hS => ?_)
    have hsp : s_X_instr0 v_x v_M v_d v_a v_o v_lo v_hi v_ri a1 = ((s_X_system0 v_x v_M v_d v_a v_o v_lo v_hi v_ri (a1 >>> ((16 : Int32) &&& 31))), upd v_o (ix (0 : Int32)) (if ((s_X_system0 v_x v_M v_d v_a v_o v_lo v_hi v_ri (a1 >>> ((16 : Int32) &&& 31))) 19) = 0 then (if ((s_X_system0 v_x v_M v_d v_a v_o v_lo v_hi v_ri (a1 >>> ((16 : Int32) &&& 31))) 7) = 0 then (v_o (ix (0 : Int32))) else ((v_o (ix (0 : Int32))) + (1 : Int32))) else (v_o (ix (0 : Int32))))) := rfl
    rw [hsp] at hE
    exact hE _ _ _ _ hP hD hS d_X_instruction_275
  refine lv_if_ne (tgt := 268) hx hb d_X_instruction_253 (by decide) (fun h1 => ?_) (fun h1 => ?_)
  ·
    refine lv_aload_n hx hb d_X_instruction_268 rfl (lv_at hl 7 rfl) ?_
    refine zz_get (C := R_X) (T := F_X) (N := 27) (v := .ref yO) hx hb hts in_X hown hK hP 0 rfl rfl 4 (by decide) mw_68 rfl d_X_instruction_269 ?_
    refine lv_iconst (v := (0 : Int32)) hx hb d_X_instruction_272 (by decide) ?_
    refine va_iald hx hb hK hP 4 0 rfl rfl (zz_inc (by decide)) d_X_instruction_273 ?_
    exact J253_2 (v_o (ix (0 : Int32))) _ _ _ (by rw [if_neg h1]) (lv_sub hl [0, 1, 2, 3, 4, 5, 6, 7, 8] rfl) hP hD hS
  ·
    refine lv_aload_n hx hb d_X_instruction_256 rfl (lv_at hl 7 rfl) ?_
    refine zz_get (C := R_X) (T := F_X) (N := 27) (v := .int ((s_X_system0 v_x v_M v_d v_a v_o v_lo v_hi v_ri (a1 >>> ((16 : Int32) &&& 31))) 7)) hx hb hts in_X hown hK hP 0 rfl rfl 11 (by decide) mw_78 rfl d_X_instruction_257 ?_
    refine lv_if_eq (tgt := 268) hx hb d_X_instruction_260 (by decide) (fun h2 => ?_) (fun h2 => ?_)
    ·
      refine lv_aload_n hx hb d_X_instruction_268 rfl (lv_at hl 7 rfl) ?_
      refine zz_get (C := R_X) (T := F_X) (N := 27) (v := .ref yO) hx hb hts in_X hown hK hP 0 rfl rfl 4 (by decide) mw_68 rfl d_X_instruction_269 ?_
      refine lv_iconst (v := (0 : Int32)) hx hb d_X_instruction_272 (by decide) ?_
      refine va_iald hx hb hK hP 4 0 rfl rfl (zz_inc (by decide)) d_X_instruction_273 ?_
      exact J253_2 (v_o (ix (0 : Int32))) _ _ _ (by rw [if_pos h1, if_pos h2]) (lv_sub hl [0, 1, 2, 3, 4, 5, 6, 7, 8] rfl) hP hD hS
    ·
      refine lv_iload hx hb d_X_instruction_263 (lv_at hl 0 rfl) ?_
      refine lv_goto (tgt := 274) hx hb d_X_instruction_265 (by decide) ?_
      exact J253_2 ((v_o (ix (0 : Int32))) + (1 : Int32)) _ _ _ (by rw [if_pos h1, if_neg h2]) (lv_sub hl [0, 1, 2, 3, 4, 5, 6, 7, 8] rfl) hP hD hS
set_option maxHeartbeats 4000000 in
set_option maxRecDepth 100000 in
theorem k_X_instr1 (l : Launch) (D : va_G) (cI : ClassId) (sz : Nat) (yX : Nat) (yM : Nat) (yD : Nat) (yA : Nat) (yO : Nat) (yL : Nat) (yH : Nat) (yI : Nat) (v_x : Nat → Int32) (v_M : Nat → Int32) (v_d : Nat → Int32) (v_a : Nat → Int32) (v_o : Nat → Int32) (v_lo : Nat → Int32) (v_hi : Nat → Int32) (v_ri : Nat → Int32) (a1 : Int32) (hop : (a1 &&& (31 : Int32)) = (1 : Int32)) : zMv l y_X_instruction (.code y_X_instruction b_X_instruction 9 (none) :: wd) { frames := 4, cells := 0, slots := 0, locals := 100 } D classes [(cI, .int)] [.ref yX, .int a1] [oX yX yM yD yA yO yL yH yI v_x, ar cI yM 512 v_M, ar cI yD 8 v_d, ar cI yA 8 v_a, ar cI yO 4 v_o, ar cI yL 6 v_lo, ar cI yH 6 v_hi, ar cI yI 6 v_ri] [oX yX yM yD yA yO yL yH yI v_x, ar cI yM 512 v_M, ar cI yD 8 ((s_X_instr1 v_x v_M v_d v_a v_o v_lo v_hi v_ri a1).1), ar cI yA 8 v_a, ar cI yO 4 ((s_X_instr1 v_x v_M v_d v_a v_o v_lo v_hi v_ri a1).2), ar cI yL 6 v_lo, ar cI yH 6 v_hi, ar cI yI 6 v_ri] sz := by
  refine met_v (by decide) (Nat.le_of_ble_eq_true rfl) ?_
  intro p e s m args below meth c A Q ls hx hb hml hown hts hK hP hD hS hA hl hE
  have hl : lv_has ls 9 [(0, .ref yX), (1, .int a1)] := hl
  have hown : s.vm.findClass R_X = some m.cls := hown
  refine lv_iload_n hx hb d_X_instruction_0 rfl (lv_at hl 1 rfl) ?_
  refine lv_bipush (v := (31 : Int32)) hx hb d_X_instruction_1 (by decide) ?_
  refine lv_iand hx hb d_X_instruction_3 ?_
  refine lv_topi (fun zz ez => ?_)
  obtain rfl : zz = (1 : Int32) := ez.trans hop
  refine lv_istore_n (lv' := [(2, .int (1 : Int32)), (0, .ref yX), (1, .int a1)]) hx hb d_X_instruction_4 rfl hl (by decide) rfl (fun ls hl => ?_)
  refine lv_iload_n hx hb d_X_instruction_5 rfl (lv_at hl 2 rfl) ?_
  refine lv_iconst (v := (5 : Int32)) hx hb d_X_instruction_6 (by decide) ?_
  refine lv_ishr hx hb d_X_instruction_7 ?_
  refine lv_bipush (v := (7 : Int32)) hx hb d_X_instruction_8 (by decide) ?_
  refine lv_iand hx hb d_X_instruction_10 ?_
  refine lv_istore_n (lv' := [(3, .int ((a1 >>> ((5 : Int32) &&& 31)) &&& (7 : Int32))), (2, .int (1 : Int32)), (0, .ref yX), (1, .int a1)]) hx hb d_X_instruction_11 rfl hl (by decide) rfl (fun ls hl => ?_)
  refine lv_iload_n hx hb d_X_instruction_12 rfl (lv_at hl 3 rfl) ?_
  show W p l e _ s m args below meth c _ _ _ _ Q (F0 m 13 ls _)
  refine lv_bipush (v := (8 : Int32)) hx hb d_X_instruction_13 (by decide) ?_
  refine lv_ishr hx hb d_X_instruction_15 ?_
  refine lv_bipush (v := (7 : Int32)) hx hb d_X_instruction_16 (by decide) ?_
  refine lv_iand hx hb d_X_instruction_18 ?_
  refine lv_istore (lv' := [(4, .int ((a1 >>> ((8 : Int32) &&& 31)) &&& (7 : Int32))), (3, .int ((a1 >>> ((5 : Int32) &&& 31)) &&& (7 : Int32))), (2, .int (1 : Int32)), (0, .ref yX), (1, .int a1)]) hx hb d_X_instruction_19 hl (by decide) rfl (fun ls hl => ?_)
  refine lv_iload_n hx hb d_X_instruction_21 rfl (lv_at hl 4 rfl) ?_
  refine lv_bipush (v := (11 : Int32)) hx hb d_X_instruction_22 (by decide) ?_
  refine lv_ishr hx hb d_X_instruction_24 ?_
  refine lv_bipush (v := (7 : Int32)) hx hb d_X_instruction_25 (by decide) ?_
  refine lv_iand hx hb d_X_instruction_27 ?_
  refine lv_istore (lv' := [(5, .int ((a1 >>> ((11 : Int32) &&& 31)) &&& (7 : Int32))), (4, .int ((a1 >>> ((8 : Int32) &&& 31)) &&& (7 : Int32))), (3, .int ((a1 >>> ((5 : Int32) &&& 31)) &&& (7 : Int32))), (2, .int (1 : Int32)), (0, .ref yX), (1, .int a1)]) hx hb d_X_instruction_28 hl (by decide) rfl (fun ls hl => ?_)
  refine lv_iload_n hx hb d_X_instruction_30 rfl (lv_at hl 5 rfl) ?_
  show W p l e _ s m args below meth c _ _ _ _ Q (F0 m 31 ls _)
  refine lv_bipush (v := (16 : Int32)) hx hb d_X_instruction_31 (by decide) ?_
  refine lv_ishr hx hb d_X_instruction_33 ?_
  refine lv_istore (lv' := [(6, .int (a1 >>> ((16 : Int32) &&& 31))), (5, .int ((a1 >>> ((11 : Int32) &&& 31)) &&& (7 : Int32))), (4, .int ((a1 >>> ((8 : Int32) &&& 31)) &&& (7 : Int32))), (3, .int ((a1 >>> ((5 : Int32) &&& 31)) &&& (7 : Int32))), (2, .int (1 : Int32)), (0, .ref yX), (1, .int a1)]) hx hb d_X_instruction_34 hl (by decide) rfl (fun ls hl => ?_)
  refine lv_iload_n hx hb d_X_instruction_36 rfl (lv_at hl 4 rfl) ?_
  refine lv_bipush (v := (25 : Int32)) hx hb d_X_instruction_37 (by decide) ?_
  refine lv_icmp_eq (tgt := 66) hx hb d_X_instruction_39 (by decide) (fun hh => absurd hh (by decide)) (fun _ => ?_)
  refine lv_iload_n hx hb d_X_instruction_42 rfl (lv_at hl 4 rfl) ?_
  refine lv_bipush (v := (26 : Int32)) hx hb d_X_instruction_43 (by decide) ?_
  refine lv_icmp_eq (tgt := 66) hx hb d_X_instruction_45 (by decide) (fun hh => absurd hh (by decide)) (fun _ => ?_)
  refine lv_iload_n hx hb d_X_instruction_48 rfl (lv_at hl 4 rfl) ?_
  refine lv_bipush (v := (28 : Int32)) hx hb d_X_instruction_49 (by decide) ?_
  refine lv_icmp_eq (tgt := 66) hx hb d_X_instruction_51 (by decide) (fun hh => absurd hh (by decide)) (fun _ => ?_)
  refine lv_iload_n hx hb d_X_instruction_54 rfl (lv_at hl 4 rfl) ?_
  refine lv_bipush (v := (29 : Int32)) hx hb d_X_instruction_55 (by decide) ?_
  refine lv_icmp_eq (tgt := 66) hx hb d_X_instruction_57 (by decide) (fun hh => absurd hh (by decide)) (fun _ => ?_)
  refine lv_iload_n hx hb d_X_instruction_60 rfl (lv_at hl 4 rfl) ?_
  refine lv_bipush (v := (31 : Int32)) hx hb d_X_instruction_61 (by decide) ?_
  refine lv_icmp_ne (tgt := 70) hx hb d_X_instruction_63 (by decide) (fun _ => ?_) (fun hh => absurd hh (by decide))
  refine lv_iconst (v := (0 : Int32)) hx hb d_X_instruction_70 (by decide) ?_
  refine lv_istore (lv' := [(7, .int (0 : Int32)), (6, .int (a1 >>> ((16 : Int32) &&& 31))), (5, .int ((a1 >>> ((11 : Int32) &&& 31)) &&& (7 : Int32))), (4, .int ((a1 >>> ((8 : Int32) &&& 31)) &&& (7 : Int32))), (3, .int ((a1 >>> ((5 : Int32) &&& 31)) &&& (7 : Int32))), (2, .int (1 : Int32)), (0, .ref yX), (1, .int a1)]) hx hb d_X_instruction_71 hl (by decide) rfl (fun ls hl => ?_)
  refine lv_iload hx hb d_X_instruction_73 (lv_at hl 0 rfl) ?_
  refine lv_if_eq (tgt := 86) hx hb d_X_instruction_75 (by decide) (fun _ => ?_) (fun hh => absurd hh (by decide))
  refine lv_iload_n hx hb d_X_instruction_86 rfl (lv_at hl 5 rfl) ?_
  refine lv_bipush (v := (30 : Int32)) hx hb d_X_instruction_87 (by decide) ?_
  refine lv_icmp_ne (tgt := 111) hx hb d_X_instruction_89 (by decide) (fun _ => ?_) (fun hh => absurd hh (by decide))
  refine lv_aload_n hx hb d_X_instruction_111 rfl (lv_at hl 6 rfl) ?_
  refine zz_get (C := R_X) (T := F_X) (N := 27) (v := .ref yO) hx hb hts in_X hown hK hP 0 rfl rfl 4 (by decide) mw_68 rfl d_X_instruction_112 ?_
  refine lv_iconst (v := (0 : Int32)) hx hb d_X_instruction_115 (by decide) ?_
  refine va_iald hx hb hK hP 4 0 rfl rfl (zz_inc (by decide)) d_X_instruction_116 ?_
  refine lv_iconst (v := (1 : Int32)) hx hb d_X_instruction_117 (by decide) ?_
  refine lv_iadd hx hb d_X_instruction_118 ?_
  refine lv_istore (lv' := [(8, .int ((v_o (ix (0 : Int32))) + (1 : Int32))), (7, .int (0 : Int32)), (6, .int (a1 >>> ((16 : Int32) &&& 31))), (5, .int ((a1 >>> ((11 : Int32) &&& 31)) &&& (7 : Int32))), (4, .int ((a1 >>> ((8 : Int32) &&& 31)) &&& (7 : Int32))), (3, .int ((a1 >>> ((5 : Int32) &&& 31)) &&& (7 : Int32))), (2, .int (1 : Int32)), (0, .ref yX), (1, .int a1)]) hx hb d_X_instruction_119 hl (by decide) rfl (fun ls hl => ?_)
  refine lv_iload_n hx hb d_X_instruction_121 rfl (lv_at hl 6 rfl) ?_
  refine lv_if_le (tgt := 146) hx hb d_X_instruction_122 (by decide) (fun hh => absurd hh (by decide)) (fun _ => ?_)
  refine lv_iload_n hx hb d_X_instruction_125 rfl (lv_at hl 6 rfl) ?_
  refine lv_bipush (v := (13 : Int32)) hx hb d_X_instruction_126 (by decide) ?_
  refine lv_icmp_ge (tgt := 146) hx hb d_X_instruction_128 (by decide) (fun hh => absurd hh (by decide)) (fun _ => ?_)
  refine lv_aload_n hx hb d_X_instruction_131 rfl (lv_at hl 7 rfl) ?_
  refine lv_iload_n hx hb d_X_instruction_132 rfl (lv_at hl 6 rfl) ?_
  refine lv_iload_n hx hb d_X_instruction_133 rfl (lv_at hl 5 rfl) ?_
  refine lv_iload hx hb d_X_instruction_134 (lv_at hl 4 rfl) ?_
  refine lv_iload hx hb d_X_instruction_136 (lv_at hl 3 rfl) ?_
  refine lv_iload hx hb d_X_instruction_138 (lv_at hl 2 rfl) ?_
  refine zz_cVv (rest := []) (wr := []) (w' := [oX yX yM yD yA yO yL yH yI v_x, ar cI yM 512 v_M, ar cI yD 8 (s_X_reckon1 v_x v_M v_d v_a v_o v_lo v_hi v_ri ((a1 >>> ((5 : Int32) &&& 31)) &&& (7 : Int32)) ((a1 >>> ((8 : Int32) &&& 31)) &&& (7 : Int32)) ((a1 >>> ((11 : Int32) &&& 31)) &&& (7 : Int32)) (a1 >>> ((16 : Int32) &&& 31))), ar cI yA 8 v_a, ar cI yO 4 v_o, ar cI yL 6 v_lo, ar cI yH 6 v_hi, ar cI yI 6 v_ri]) ⟨hx, hb, hml, hown, hts⟩ (k_X_reckon1 l D cI _ yX yM yD yA yO yL yH yI v_x v_M v_d v_a v_o v_lo v_hi v_ri ((a1 >>> ((5 : Int32) &&& 31)) &&& (7 : Int32)) ((a1 >>> ((8 : Int32) &&& 31)) &&& (7 : Int32)) ((a1 >>> ((11 : Int32) &&& 31)) &&& (7 : Int32)) (a1 >>> ((16 : Int32) &&& 31)) (zz_in7 _) (zz_in7 _) (zz_in7 _)) g_X_instruction_X_reckon_111 nv_X_reckon ⟨⟨rfl, rfl⟩, Nat.le_of_ble_eq_true rfl, Nat.le_of_ble_eq_true rfl⟩ hK [0] rfl hP hD hS hA [0, 1, 2, 3, 4, 5, 6, 7] [] [0, 1, 2, 3, 4, 5, 6, 7] rfl rfl rfl rfl (by decide) rfl rfl 0 6 rfl rfl rfl rfl hl.1 (Nat.le_of_ble_eq_true rfl) d_X_instruction_140 ⟨Nat.zero_le _, Nat.zero_le _⟩ (fun H locs hP hD hS => ?_)
  refine lv_goto (tgt := 244) hx hb d_X_instruction_143 (by decide) ?_
  refine lv_aload_n hx hb d_X_instruction_244 rfl (lv_at hl 7 rfl) ?_
  refine zz_get (C := R_X) (T := F_X) (N := 27) (v := .ref yO) hx hb hts in_X hown hK hP 0 rfl rfl 4 (by decide) mw_68 rfl d_X_instruction_245 ?_
  refine lv_iconst (v := (0 : Int32)) hx hb d_X_instruction_248 (by decide) ?_
  show W p l e _ s m args below meth c _ _ _ _ Q (F0 m 249 ls _)
  refine lv_aload_n hx hb d_X_instruction_249 rfl (lv_at hl 7 rfl) ?_
  refine zz_get (C := R_X) (T := F_X) (N := 27) (v := .int (v_x 19)) hx hb hts in_X hown hK hP 0 rfl rfl 26 (by decide) mw_79 rfl d_X_instruction_250 ?_
  have J253_2 : ∀ (vj253_0 : Int32) (ls : Array Slot) (H : Heap) (locs : List Loc), vj253_0 = (if (v_x 19) = 0 then (if (v_x 7) = 0 then (v_o (ix (0 : Int32))) else ((v_o (ix (0 : Int32))) + (1 : Int32))) else (v_o (ix (0 : Int32)))) → lv_has ls 9 [(8, .int ((v_o (ix (0 : Int32))) + (1 : Int32))), (7, .int (0 : Int32)), (6, .int (a1 >>> ((16 : Int32) &&& 31))), (5, .int ((a1 >>> ((11 : Int32) &&& 31)) &&& (7 : Int32))), (4, .int ((a1 >>> ((8 : Int32) &&& 31)) &&& (7 : Int32))), (3, .int ((a1 >>> ((5 : Int32) &&& 31)) &&& (7 : Int32))), (2, .int (1 : Int32)), (0, .ref yX), (1, .int a1)] → va_P D classes [oX yX yM yD yA yO yL yH yI v_x, ar cI yM 512 v_M, ar cI yD 8 (s_X_reckon1 v_x v_M v_d v_a v_o v_lo v_hi v_ri ((a1 >>> ((5 : Int32) &&& 31)) &&& (7 : Int32)) ((a1 >>> ((8 : Int32) &&& 31)) &&& (7 : Int32)) ((a1 >>> ((11 : Int32) &&& 31)) &&& (7 : Int32)) (a1 >>> ((16 : Int32) &&& 31))), ar cI yA 8 v_a, ar cI yO 4 v_o, ar cI yL 6 v_lo, ar cI yH 6 v_hi, ar cI yI 6 v_ri] H → va_D A [oX yX yM yD yA yO yL yH yI v_x, ar cI yM 512 v_M, ar cI yD 8 (s_X_reckon1 v_x v_M v_d v_a v_o v_lo v_hi v_ri ((a1 >>> ((5 : Int32) &&& 31)) &&& (7 : Int32)) ((a1 >>> ((8 : Int32) &&& 31)) &&& (7 : Int32)) ((a1 >>> ((11 : Int32) &&& 31)) &&& (7 : Int32)) (a1 >>> ((16 : Int32) &&& 31))), ar cI yA 8 v_a, ar cI yO 4 v_o, ar cI yL 6 v_lo, ar cI yH 6 v_hi, ar cI yI 6 v_ri] → va_S A s.heap H locs → W p l e { frames := 4, cells := 0, slots := 0, locals := 100 } s m args below meth c H locs 0 0 Q (F0 m 274 ls [.int vj253_0, .int (0 : Int32), .ref yO]) := by
    intro vj253_0 ls H locs evj253_0 hl hP hD hS
    subst evj253_0
    refine zz_iast (w' := [oX yX yM yD yA yO yL yH yI v_x, ar cI yM 512 v_M, ar cI yD 8 (s_X_reckon1 v_x v_M v_d v_a v_o v_lo v_hi v_ri ((a1 >>> ((5 : Int32) &&& 31)) &&& (7 : Int32)) ((a1 >>> ((8 : Int32) &&& 31)) &&& (7 : Int32)) ((a1 >>> ((11 : Int32) &&& 31)) &&& (7 : Int32)) (a1 >>> ((16 : Int32) &&& 31))), ar cI yA 8 v_a, ar cI yO 4 (upd v_o (ix (0 : Int32)) (if (v_x 19) = 0 then (if (v_x 7) = 0 then (v_o (ix (0 : Int32))) else ((v_o (ix (0 : Int32))) + (1 : Int32))) else (v_o (ix (0 : Int32))))), ar cI yL 6 v_lo, ar cI yH 6 v_hi, ar cI yI 6 v_ri]) hx hb hK hP hD hS 4 0 rfl rfl (zz_inc (by decide)) d_X_instruction_274 rfl (fun H locs hP hD hS => ?_)
    have hsp : s_X_instr1 v_x v_M v_d v_a v_o v_lo v_hi v_ri a1 = ((s_X_reckon1 v_x v_M v_d v_a v_o v_lo v_hi v_ri ((a1 >>> ((5 : Int32) &&& 31)) &&& (7 : Int32)) ((a1 >>> ((8 : Int32) &&& 31)) &&& (7 : Int32)) ((a1 >>> ((11 : Int32) &&& 31)) &&& (7 : Int32)) (a1 >>> ((16 : Int32) &&& 31))), upd v_o (ix (0 : Int32)) (if (v_x 19) = 0 then (if (v_x 7) = 0 then (v_o (ix (0 : Int32))) else ((v_o (ix (0 : Int32))) + (1 : Int32))) else (v_o (ix (0 : Int32))))) := rfl
    rw [hsp] at hE
    exact hE _ _ _ _ hP hD hS d_X_instruction_275
  refine lv_if_ne (tgt := 268) hx hb d_X_instruction_253 (by decide) (fun h1 => ?_) (fun h1 => ?_)
  ·
    refine lv_aload_n hx hb d_X_instruction_268 rfl (lv_at hl 7 rfl) ?_
    refine zz_get (C := R_X) (T := F_X) (N := 27) (v := .ref yO) hx hb hts in_X hown hK hP 0 rfl rfl 4 (by decide) mw_68 rfl d_X_instruction_269 ?_
    refine lv_iconst (v := (0 : Int32)) hx hb d_X_instruction_272 (by decide) ?_
    refine va_iald hx hb hK hP 4 0 rfl rfl (zz_inc (by decide)) d_X_instruction_273 ?_
    exact J253_2 (v_o (ix (0 : Int32))) _ _ _ (by rw [if_neg h1]) (lv_sub hl [0, 1, 2, 3, 4, 5, 6, 7, 8] rfl) hP hD hS
  ·
    refine lv_aload_n hx hb d_X_instruction_256 rfl (lv_at hl 7 rfl) ?_
    refine zz_get (C := R_X) (T := F_X) (N := 27) (v := .int (v_x 7)) hx hb hts in_X hown hK hP 0 rfl rfl 11 (by decide) mw_78 rfl d_X_instruction_257 ?_
    refine lv_if_eq (tgt := 268) hx hb d_X_instruction_260 (by decide) (fun h2 => ?_) (fun h2 => ?_)
    ·
      refine lv_aload_n hx hb d_X_instruction_268 rfl (lv_at hl 7 rfl) ?_
      refine zz_get (C := R_X) (T := F_X) (N := 27) (v := .ref yO) hx hb hts in_X hown hK hP 0 rfl rfl 4 (by decide) mw_68 rfl d_X_instruction_269 ?_
      refine lv_iconst (v := (0 : Int32)) hx hb d_X_instruction_272 (by decide) ?_
      refine va_iald hx hb hK hP 4 0 rfl rfl (zz_inc (by decide)) d_X_instruction_273 ?_
      exact J253_2 (v_o (ix (0 : Int32))) _ _ _ (by rw [if_pos h1, if_pos h2]) (lv_sub hl [0, 1, 2, 3, 4, 5, 6, 7, 8] rfl) hP hD hS
    ·
      refine lv_iload hx hb d_X_instruction_263 (lv_at hl 0 rfl) ?_
      refine lv_goto (tgt := 274) hx hb d_X_instruction_265 (by decide) ?_
      exact J253_2 ((v_o (ix (0 : Int32))) + (1 : Int32)) _ _ _ (by rw [if_pos h1, if_neg h2]) (lv_sub hl [0, 1, 2, 3, 4, 5, 6, 7, 8] rfl) hP hD hS
set_option maxHeartbeats 4000000 in
set_option maxRecDepth 100000 in
theorem k_X_instr2 (l : Launch) (D : va_G) (cI : ClassId) (sz : Nat) (yX : Nat) (yM : Nat) (yD : Nat) (yA : Nat) (yO : Nat) (yL : Nat) (yH : Nat) (yI : Nat) (v_x : Nat → Int32) (v_M : Nat → Int32) (v_d : Nat → Int32) (v_a : Nat → Int32) (v_o : Nat → Int32) (v_lo : Nat → Int32) (v_hi : Nat → Int32) (v_ri : Nat → Int32) (a1 : Int32) (hop : (a1 &&& (31 : Int32)) = (2 : Int32)) : zMv l y_X_instruction (.code y_X_instruction b_X_instruction 9 (none) :: wd) { frames := 4, cells := 0, slots := 0, locals := 100 } D classes [(cI, .int)] [.ref yX, .int a1] [oX yX yM yD yA yO yL yH yI v_x, ar cI yM 512 v_M, ar cI yD 8 v_d, ar cI yA 8 v_a, ar cI yO 4 v_o, ar cI yL 6 v_lo, ar cI yH 6 v_hi, ar cI yI 6 v_ri] [oX yX yM yD yA yO yL yH yI v_x, ar cI yM 512 v_M, ar cI yD 8 ((s_X_instr2 v_x v_M v_d v_a v_o v_lo v_hi v_ri a1).1), ar cI yA 8 v_a, ar cI yO 4 ((s_X_instr2 v_x v_M v_d v_a v_o v_lo v_hi v_ri a1).2), ar cI yL 6 v_lo, ar cI yH 6 v_hi, ar cI yI 6 v_ri] sz := by
  refine met_v (by decide) (Nat.le_of_ble_eq_true rfl) ?_
  intro p e s m args below meth c A Q ls hx hb hml hown hts hK hP hD hS hA hl hE
  have hl : lv_has ls 9 [(0, .ref yX), (1, .int a1)] := hl
  have hown : s.vm.findClass R_X = some m.cls := hown
  refine lv_iload_n hx hb d_X_instruction_0 rfl (lv_at hl 1 rfl) ?_
  refine lv_bipush (v := (31 : Int32)) hx hb d_X_instruction_1 (by decide) ?_
  refine lv_iand hx hb d_X_instruction_3 ?_
  refine lv_topi (fun zz ez => ?_)
  obtain rfl : zz = (2 : Int32) := ez.trans hop
  refine lv_istore_n (lv' := [(2, .int (2 : Int32)), (0, .ref yX), (1, .int a1)]) hx hb d_X_instruction_4 rfl hl (by decide) rfl (fun ls hl => ?_)
  refine lv_iload_n hx hb d_X_instruction_5 rfl (lv_at hl 2 rfl) ?_
  refine lv_iconst (v := (5 : Int32)) hx hb d_X_instruction_6 (by decide) ?_
  refine lv_ishr hx hb d_X_instruction_7 ?_
  refine lv_bipush (v := (7 : Int32)) hx hb d_X_instruction_8 (by decide) ?_
  refine lv_iand hx hb d_X_instruction_10 ?_
  refine lv_istore_n (lv' := [(3, .int ((a1 >>> ((5 : Int32) &&& 31)) &&& (7 : Int32))), (2, .int (2 : Int32)), (0, .ref yX), (1, .int a1)]) hx hb d_X_instruction_11 rfl hl (by decide) rfl (fun ls hl => ?_)
  refine lv_iload_n hx hb d_X_instruction_12 rfl (lv_at hl 3 rfl) ?_
  show W p l e _ s m args below meth c _ _ _ _ Q (F0 m 13 ls _)
  refine lv_bipush (v := (8 : Int32)) hx hb d_X_instruction_13 (by decide) ?_
  refine lv_ishr hx hb d_X_instruction_15 ?_
  refine lv_bipush (v := (7 : Int32)) hx hb d_X_instruction_16 (by decide) ?_
  refine lv_iand hx hb d_X_instruction_18 ?_
  refine lv_istore (lv' := [(4, .int ((a1 >>> ((8 : Int32) &&& 31)) &&& (7 : Int32))), (3, .int ((a1 >>> ((5 : Int32) &&& 31)) &&& (7 : Int32))), (2, .int (2 : Int32)), (0, .ref yX), (1, .int a1)]) hx hb d_X_instruction_19 hl (by decide) rfl (fun ls hl => ?_)
  refine lv_iload_n hx hb d_X_instruction_21 rfl (lv_at hl 4 rfl) ?_
  refine lv_bipush (v := (11 : Int32)) hx hb d_X_instruction_22 (by decide) ?_
  refine lv_ishr hx hb d_X_instruction_24 ?_
  refine lv_bipush (v := (7 : Int32)) hx hb d_X_instruction_25 (by decide) ?_
  refine lv_iand hx hb d_X_instruction_27 ?_
  refine lv_istore (lv' := [(5, .int ((a1 >>> ((11 : Int32) &&& 31)) &&& (7 : Int32))), (4, .int ((a1 >>> ((8 : Int32) &&& 31)) &&& (7 : Int32))), (3, .int ((a1 >>> ((5 : Int32) &&& 31)) &&& (7 : Int32))), (2, .int (2 : Int32)), (0, .ref yX), (1, .int a1)]) hx hb d_X_instruction_28 hl (by decide) rfl (fun ls hl => ?_)
  refine lv_iload_n hx hb d_X_instruction_30 rfl (lv_at hl 5 rfl) ?_
  show W p l e _ s m args below meth c _ _ _ _ Q (F0 m 31 ls _)
  refine lv_bipush (v := (16 : Int32)) hx hb d_X_instruction_31 (by decide) ?_
  refine lv_ishr hx hb d_X_instruction_33 ?_
  refine lv_istore (lv' := [(6, .int (a1 >>> ((16 : Int32) &&& 31))), (5, .int ((a1 >>> ((11 : Int32) &&& 31)) &&& (7 : Int32))), (4, .int ((a1 >>> ((8 : Int32) &&& 31)) &&& (7 : Int32))), (3, .int ((a1 >>> ((5 : Int32) &&& 31)) &&& (7 : Int32))), (2, .int (2 : Int32)), (0, .ref yX), (1, .int a1)]) hx hb d_X_instruction_34 hl (by decide) rfl (fun ls hl => ?_)
  refine lv_iload_n hx hb d_X_instruction_36 rfl (lv_at hl 4 rfl) ?_
  refine lv_bipush (v := (25 : Int32)) hx hb d_X_instruction_37 (by decide) ?_
  refine lv_icmp_eq (tgt := 66) hx hb d_X_instruction_39 (by decide) (fun hh => absurd hh (by decide)) (fun _ => ?_)
  refine lv_iload_n hx hb d_X_instruction_42 rfl (lv_at hl 4 rfl) ?_
  refine lv_bipush (v := (26 : Int32)) hx hb d_X_instruction_43 (by decide) ?_
  refine lv_icmp_eq (tgt := 66) hx hb d_X_instruction_45 (by decide) (fun hh => absurd hh (by decide)) (fun _ => ?_)
  refine lv_iload_n hx hb d_X_instruction_48 rfl (lv_at hl 4 rfl) ?_
  refine lv_bipush (v := (28 : Int32)) hx hb d_X_instruction_49 (by decide) ?_
  refine lv_icmp_eq (tgt := 66) hx hb d_X_instruction_51 (by decide) (fun hh => absurd hh (by decide)) (fun _ => ?_)
  refine lv_iload_n hx hb d_X_instruction_54 rfl (lv_at hl 4 rfl) ?_
  refine lv_bipush (v := (29 : Int32)) hx hb d_X_instruction_55 (by decide) ?_
  refine lv_icmp_eq (tgt := 66) hx hb d_X_instruction_57 (by decide) (fun hh => absurd hh (by decide)) (fun _ => ?_)
  refine lv_iload_n hx hb d_X_instruction_60 rfl (lv_at hl 4 rfl) ?_
  refine lv_bipush (v := (31 : Int32)) hx hb d_X_instruction_61 (by decide) ?_
  refine lv_icmp_ne (tgt := 70) hx hb d_X_instruction_63 (by decide) (fun _ => ?_) (fun hh => absurd hh (by decide))
  refine lv_iconst (v := (0 : Int32)) hx hb d_X_instruction_70 (by decide) ?_
  refine lv_istore (lv' := [(7, .int (0 : Int32)), (6, .int (a1 >>> ((16 : Int32) &&& 31))), (5, .int ((a1 >>> ((11 : Int32) &&& 31)) &&& (7 : Int32))), (4, .int ((a1 >>> ((8 : Int32) &&& 31)) &&& (7 : Int32))), (3, .int ((a1 >>> ((5 : Int32) &&& 31)) &&& (7 : Int32))), (2, .int (2 : Int32)), (0, .ref yX), (1, .int a1)]) hx hb d_X_instruction_71 hl (by decide) rfl (fun ls hl => ?_)
  refine lv_iload hx hb d_X_instruction_73 (lv_at hl 0 rfl) ?_
  refine lv_if_eq (tgt := 86) hx hb d_X_instruction_75 (by decide) (fun _ => ?_) (fun hh => absurd hh (by decide))
  refine lv_iload_n hx hb d_X_instruction_86 rfl (lv_at hl 5 rfl) ?_
  refine lv_bipush (v := (30 : Int32)) hx hb d_X_instruction_87 (by decide) ?_
  refine lv_icmp_ne (tgt := 111) hx hb d_X_instruction_89 (by decide) (fun _ => ?_) (fun hh => absurd hh (by decide))
  refine lv_aload_n hx hb d_X_instruction_111 rfl (lv_at hl 6 rfl) ?_
  refine zz_get (C := R_X) (T := F_X) (N := 27) (v := .ref yO) hx hb hts in_X hown hK hP 0 rfl rfl 4 (by decide) mw_68 rfl d_X_instruction_112 ?_
  refine lv_iconst (v := (0 : Int32)) hx hb d_X_instruction_115 (by decide) ?_
  refine va_iald hx hb hK hP 4 0 rfl rfl (zz_inc (by decide)) d_X_instruction_116 ?_
  refine lv_iconst (v := (1 : Int32)) hx hb d_X_instruction_117 (by decide) ?_
  refine lv_iadd hx hb d_X_instruction_118 ?_
  refine lv_istore (lv' := [(8, .int ((v_o (ix (0 : Int32))) + (1 : Int32))), (7, .int (0 : Int32)), (6, .int (a1 >>> ((16 : Int32) &&& 31))), (5, .int ((a1 >>> ((11 : Int32) &&& 31)) &&& (7 : Int32))), (4, .int ((a1 >>> ((8 : Int32) &&& 31)) &&& (7 : Int32))), (3, .int ((a1 >>> ((5 : Int32) &&& 31)) &&& (7 : Int32))), (2, .int (2 : Int32)), (0, .ref yX), (1, .int a1)]) hx hb d_X_instruction_119 hl (by decide) rfl (fun ls hl => ?_)
  refine lv_iload_n hx hb d_X_instruction_121 rfl (lv_at hl 6 rfl) ?_
  refine lv_if_le (tgt := 146) hx hb d_X_instruction_122 (by decide) (fun hh => absurd hh (by decide)) (fun _ => ?_)
  refine lv_iload_n hx hb d_X_instruction_125 rfl (lv_at hl 6 rfl) ?_
  refine lv_bipush (v := (13 : Int32)) hx hb d_X_instruction_126 (by decide) ?_
  refine lv_icmp_ge (tgt := 146) hx hb d_X_instruction_128 (by decide) (fun hh => absurd hh (by decide)) (fun _ => ?_)
  refine lv_aload_n hx hb d_X_instruction_131 rfl (lv_at hl 7 rfl) ?_
  refine lv_iload_n hx hb d_X_instruction_132 rfl (lv_at hl 6 rfl) ?_
  refine lv_iload_n hx hb d_X_instruction_133 rfl (lv_at hl 5 rfl) ?_
  refine lv_iload hx hb d_X_instruction_134 (lv_at hl 4 rfl) ?_
  refine lv_iload hx hb d_X_instruction_136 (lv_at hl 3 rfl) ?_
  refine lv_iload hx hb d_X_instruction_138 (lv_at hl 2 rfl) ?_
  refine zz_cVv (rest := []) (wr := []) (w' := [oX yX yM yD yA yO yL yH yI v_x, ar cI yM 512 v_M, ar cI yD 8 (s_X_reckon2 v_x v_M v_d v_a v_o v_lo v_hi v_ri ((a1 >>> ((5 : Int32) &&& 31)) &&& (7 : Int32)) ((a1 >>> ((8 : Int32) &&& 31)) &&& (7 : Int32)) ((a1 >>> ((11 : Int32) &&& 31)) &&& (7 : Int32)) (a1 >>> ((16 : Int32) &&& 31))), ar cI yA 8 v_a, ar cI yO 4 v_o, ar cI yL 6 v_lo, ar cI yH 6 v_hi, ar cI yI 6 v_ri]) ⟨hx, hb, hml, hown, hts⟩ (k_X_reckon2 l D cI _ yX yM yD yA yO yL yH yI v_x v_M v_d v_a v_o v_lo v_hi v_ri ((a1 >>> ((5 : Int32) &&& 31)) &&& (7 : Int32)) ((a1 >>> ((8 : Int32) &&& 31)) &&& (7 : Int32)) ((a1 >>> ((11 : Int32) &&& 31)) &&& (7 : Int32)) (a1 >>> ((16 : Int32) &&& 31)) (zz_in7 _) (zz_in7 _) (zz_in7 _)) g_X_instruction_X_reckon_111 nv_X_reckon ⟨⟨rfl, rfl⟩, Nat.le_of_ble_eq_true rfl, Nat.le_of_ble_eq_true rfl⟩ hK [0] rfl hP hD hS hA [0, 1, 2, 3, 4, 5, 6, 7] [] [0, 1, 2, 3, 4, 5, 6, 7] rfl rfl rfl rfl (by decide) rfl rfl 0 6 rfl rfl rfl rfl hl.1 (Nat.le_of_ble_eq_true rfl) d_X_instruction_140 ⟨Nat.zero_le _, Nat.zero_le _⟩ (fun H locs hP hD hS => ?_)
  refine lv_goto (tgt := 244) hx hb d_X_instruction_143 (by decide) ?_
  refine lv_aload_n hx hb d_X_instruction_244 rfl (lv_at hl 7 rfl) ?_
  refine zz_get (C := R_X) (T := F_X) (N := 27) (v := .ref yO) hx hb hts in_X hown hK hP 0 rfl rfl 4 (by decide) mw_68 rfl d_X_instruction_245 ?_
  refine lv_iconst (v := (0 : Int32)) hx hb d_X_instruction_248 (by decide) ?_
  show W p l e _ s m args below meth c _ _ _ _ Q (F0 m 249 ls _)
  refine lv_aload_n hx hb d_X_instruction_249 rfl (lv_at hl 7 rfl) ?_
  refine zz_get (C := R_X) (T := F_X) (N := 27) (v := .int (v_x 19)) hx hb hts in_X hown hK hP 0 rfl rfl 26 (by decide) mw_79 rfl d_X_instruction_250 ?_
  have J253_2 : ∀ (vj253_0 : Int32) (ls : Array Slot) (H : Heap) (locs : List Loc), vj253_0 = (if (v_x 19) = 0 then (if (v_x 7) = 0 then (v_o (ix (0 : Int32))) else ((v_o (ix (0 : Int32))) + (1 : Int32))) else (v_o (ix (0 : Int32)))) → lv_has ls 9 [(8, .int ((v_o (ix (0 : Int32))) + (1 : Int32))), (7, .int (0 : Int32)), (6, .int (a1 >>> ((16 : Int32) &&& 31))), (5, .int ((a1 >>> ((11 : Int32) &&& 31)) &&& (7 : Int32))), (4, .int ((a1 >>> ((8 : Int32) &&& 31)) &&& (7 : Int32))), (3, .int ((a1 >>> ((5 : Int32) &&& 31)) &&& (7 : Int32))), (2, .int (2 : Int32)), (0, .ref yX), (1, .int a1)] → va_P D classes [oX yX yM yD yA yO yL yH yI v_x, ar cI yM 512 v_M, ar cI yD 8 (s_X_reckon2 v_x v_M v_d v_a v_o v_lo v_hi v_ri ((a1 >>> ((5 : Int32) &&& 31)) &&& (7 : Int32)) ((a1 >>> ((8 : Int32) &&& 31)) &&& (7 : Int32)) ((a1 >>> ((11 : Int32) &&& 31)) &&& (7 : Int32)) (a1 >>> ((16 : Int32) &&& 31))), ar cI yA 8 v_a, ar cI yO 4 v_o, ar cI yL 6 v_lo, ar cI yH 6 v_hi, ar cI yI 6 v_ri] H → va_D A [oX yX yM yD yA yO yL yH yI v_x, ar cI yM 512 v_M, ar cI yD 8 (s_X_reckon2 v_x v_M v_d v_a v_o v_lo v_hi v_ri ((a1 >>> ((5 : Int32) &&& 31)) &&& (7 : Int32)) ((a1 >>> ((8 : Int32) &&& 31)) &&& (7 : Int32)) ((a1 >>> ((11 : Int32) &&& 31)) &&& (7 : Int32)) (a1 >>> ((16 : Int32) &&& 31))), ar cI yA 8 v_a, ar cI yO 4 v_o, ar cI yL 6 v_lo, ar cI yH 6 v_hi, ar cI yI 6 v_ri] → va_S A s.heap H locs → W p l e { frames := 4, cells := 0, slots := 0, locals := 100 } s m args below meth c H locs 0 0 Q (F0 m 274 ls [.int vj253_0, .int (0 : Int32), .ref yO]) := by
    intro vj253_0 ls H locs evj253_0 hl hP hD hS
    subst evj253_0
    refine zz_iast (w' := [oX yX yM yD yA yO yL yH yI v_x, ar cI yM 512 v_M, ar cI yD 8 (s_X_reckon2 v_x v_M v_d v_a v_o v_lo v_hi v_ri ((a1 >>> ((5 : Int32) &&& 31)) &&& (7 : Int32)) ((a1 >>> ((8 : Int32) &&& 31)) &&& (7 : Int32)) ((a1 >>> ((11 : Int32) &&& 31)) &&& (7 : Int32)) (a1 >>> ((16 : Int32) &&& 31))), ar cI yA 8 v_a, ar cI yO 4 (upd v_o (ix (0 : Int32)) (if (v_x 19) = 0 then (if (v_x 7) = 0 then (v_o (ix (0 : Int32))) else ((v_o (ix (0 : Int32))) + (1 : Int32))) else (v_o (ix (0 : Int32))))), ar cI yL 6 v_lo, ar cI yH 6 v_hi, ar cI yI 6 v_ri]) hx hb hK hP hD hS 4 0 rfl rfl (zz_inc (by decide)) d_X_instruction_274 rfl (fun H locs hP hD hS => ?_)
    have hsp : s_X_instr2 v_x v_M v_d v_a v_o v_lo v_hi v_ri a1 = ((s_X_reckon2 v_x v_M v_d v_a v_o v_lo v_hi v_ri ((a1 >>> ((5 : Int32) &&& 31)) &&& (7 : Int32)) ((a1 >>> ((8 : Int32) &&& 31)) &&& (7 : Int32)) ((a1 >>> ((11 : Int32) &&& 31)) &&& (7 : Int32)) (a1 >>> ((16 : Int32) &&& 31))), upd v_o (ix (0 : Int32)) (if (v_x 19) = 0 then (if (v_x 7) = 0 then (v_o (ix (0 : Int32))) else ((v_o (ix (0 : Int32))) + (1 : Int32))) else (v_o (ix (0 : Int32))))) := rfl
    rw [hsp] at hE
    exact hE _ _ _ _ hP hD hS d_X_instruction_275
  refine lv_if_ne (tgt := 268) hx hb d_X_instruction_253 (by decide) (fun h1 => ?_) (fun h1 => ?_)
  ·
    refine lv_aload_n hx hb d_X_instruction_268 rfl (lv_at hl 7 rfl) ?_
    refine zz_get (C := R_X) (T := F_X) (N := 27) (v := .ref yO) hx hb hts in_X hown hK hP 0 rfl rfl 4 (by decide) mw_68 rfl d_X_instruction_269 ?_
    refine lv_iconst (v := (0 : Int32)) hx hb d_X_instruction_272 (by decide) ?_
    refine va_iald hx hb hK hP 4 0 rfl rfl (zz_inc (by decide)) d_X_instruction_273 ?_
    exact J253_2 (v_o (ix (0 : Int32))) _ _ _ (by rw [if_neg h1]) (lv_sub hl [0, 1, 2, 3, 4, 5, 6, 7, 8] rfl) hP hD hS
  ·
    refine lv_aload_n hx hb d_X_instruction_256 rfl (lv_at hl 7 rfl) ?_
    refine zz_get (C := R_X) (T := F_X) (N := 27) (v := .int (v_x 7)) hx hb hts in_X hown hK hP 0 rfl rfl 11 (by decide) mw_78 rfl d_X_instruction_257 ?_
    refine lv_if_eq (tgt := 268) hx hb d_X_instruction_260 (by decide) (fun h2 => ?_) (fun h2 => ?_)
    ·
      refine lv_aload_n hx hb d_X_instruction_268 rfl (lv_at hl 7 rfl) ?_
      refine zz_get (C := R_X) (T := F_X) (N := 27) (v := .ref yO) hx hb hts in_X hown hK hP 0 rfl rfl 4 (by decide) mw_68 rfl d_X_instruction_269 ?_
      refine lv_iconst (v := (0 : Int32)) hx hb d_X_instruction_272 (by decide) ?_
      refine va_iald hx hb hK hP 4 0 rfl rfl (zz_inc (by decide)) d_X_instruction_273 ?_
      exact J253_2 (v_o (ix (0 : Int32))) _ _ _ (by rw [if_pos h1, if_pos h2]) (lv_sub hl [0, 1, 2, 3, 4, 5, 6, 7, 8] rfl) hP hD hS
    ·
      refine lv_iload hx hb d_X_instruction_263 (lv_at hl 0 rfl) ?_
      refine lv_goto (tgt := 274) hx hb d_X_instruction_265 (by decide) ?_
      exact J253_2 ((v_o (ix (0 : Int32))) + (1 : Int32)) _ _ _ (by rw [if_pos h1, if_neg h2]) (lv_sub hl [0, 1, 2, 3, 4, 5, 6, 7, 8] rfl) hP hD hS
set_option maxHeartbeats 4000000 in
set_option maxRecDepth 100000 in
theorem k_X_instr3 (l : Launch) (D : va_G) (cI : ClassId) (sz : Nat) (yX : Nat) (yM : Nat) (yD : Nat) (yA : Nat) (yO : Nat) (yL : Nat) (yH : Nat) (yI : Nat) (v_x : Nat → Int32) (v_M : Nat → Int32) (v_d : Nat → Int32) (v_a : Nat → Int32) (v_o : Nat → Int32) (v_lo : Nat → Int32) (v_hi : Nat → Int32) (v_ri : Nat → Int32) (a1 : Int32) (hop : (a1 &&& (31 : Int32)) = (3 : Int32)) : zMv l y_X_instruction (.code y_X_instruction b_X_instruction 9 (none) :: wd) { frames := 4, cells := 0, slots := 0, locals := 100 } D classes [(cI, .int)] [.ref yX, .int a1] [oX yX yM yD yA yO yL yH yI v_x, ar cI yM 512 v_M, ar cI yD 8 v_d, ar cI yA 8 v_a, ar cI yO 4 v_o, ar cI yL 6 v_lo, ar cI yH 6 v_hi, ar cI yI 6 v_ri] [oX yX yM yD yA yO yL yH yI v_x, ar cI yM 512 v_M, ar cI yD 8 ((s_X_instr3 v_x v_M v_d v_a v_o v_lo v_hi v_ri a1).1), ar cI yA 8 v_a, ar cI yO 4 ((s_X_instr3 v_x v_M v_d v_a v_o v_lo v_hi v_ri a1).2), ar cI yL 6 v_lo, ar cI yH 6 v_hi, ar cI yI 6 v_ri] sz := by
  refine met_v (by decide) (Nat.le_of_ble_eq_true rfl) ?_
  intro p e s m args below meth c A Q ls hx hb hml hown hts hK hP hD hS hA hl hE
  have hl : lv_has ls 9 [(0, .ref yX), (1, .int a1)] := hl
  have hown : s.vm.findClass R_X = some m.cls := hown
  refine lv_iload_n hx hb d_X_instruction_0 rfl (lv_at hl 1 rfl) ?_
  refine lv_bipush (v := (31 : Int32)) hx hb d_X_instruction_1 (by decide) ?_
  refine lv_iand hx hb d_X_instruction_3 ?_
  refine lv_topi (fun zz ez => ?_)
  obtain rfl : zz = (3 : Int32) := ez.trans hop
  refine lv_istore_n (lv' := [(2, .int (3 : Int32)), (0, .ref yX), (1, .int a1)]) hx hb d_X_instruction_4 rfl hl (by decide) rfl (fun ls hl => ?_)
  refine lv_iload_n hx hb d_X_instruction_5 rfl (lv_at hl 2 rfl) ?_
  refine lv_iconst (v := (5 : Int32)) hx hb d_X_instruction_6 (by decide) ?_
  refine lv_ishr hx hb d_X_instruction_7 ?_
  refine lv_bipush (v := (7 : Int32)) hx hb d_X_instruction_8 (by decide) ?_
  refine lv_iand hx hb d_X_instruction_10 ?_
  refine lv_istore_n (lv' := [(3, .int ((a1 >>> ((5 : Int32) &&& 31)) &&& (7 : Int32))), (2, .int (3 : Int32)), (0, .ref yX), (1, .int a1)]) hx hb d_X_instruction_11 rfl hl (by decide) rfl (fun ls hl => ?_)
  refine lv_iload_n hx hb d_X_instruction_12 rfl (lv_at hl 3 rfl) ?_
  show W p l e _ s m args below meth c _ _ _ _ Q (F0 m 13 ls _)
  refine lv_bipush (v := (8 : Int32)) hx hb d_X_instruction_13 (by decide) ?_
  refine lv_ishr hx hb d_X_instruction_15 ?_
  refine lv_bipush (v := (7 : Int32)) hx hb d_X_instruction_16 (by decide) ?_
  refine lv_iand hx hb d_X_instruction_18 ?_
  refine lv_istore (lv' := [(4, .int ((a1 >>> ((8 : Int32) &&& 31)) &&& (7 : Int32))), (3, .int ((a1 >>> ((5 : Int32) &&& 31)) &&& (7 : Int32))), (2, .int (3 : Int32)), (0, .ref yX), (1, .int a1)]) hx hb d_X_instruction_19 hl (by decide) rfl (fun ls hl => ?_)
  refine lv_iload_n hx hb d_X_instruction_21 rfl (lv_at hl 4 rfl) ?_
  refine lv_bipush (v := (11 : Int32)) hx hb d_X_instruction_22 (by decide) ?_
  refine lv_ishr hx hb d_X_instruction_24 ?_
  refine lv_bipush (v := (7 : Int32)) hx hb d_X_instruction_25 (by decide) ?_
  refine lv_iand hx hb d_X_instruction_27 ?_
  refine lv_istore (lv' := [(5, .int ((a1 >>> ((11 : Int32) &&& 31)) &&& (7 : Int32))), (4, .int ((a1 >>> ((8 : Int32) &&& 31)) &&& (7 : Int32))), (3, .int ((a1 >>> ((5 : Int32) &&& 31)) &&& (7 : Int32))), (2, .int (3 : Int32)), (0, .ref yX), (1, .int a1)]) hx hb d_X_instruction_28 hl (by decide) rfl (fun ls hl => ?_)
  refine lv_iload_n hx hb d_X_instruction_30 rfl (lv_at hl 5 rfl) ?_
  show W p l e _ s m args below meth c _ _ _ _ Q (F0 m 31 ls _)
  refine lv_bipush (v := (16 : Int32)) hx hb d_X_instruction_31 (by decide) ?_
  refine lv_ishr hx hb d_X_instruction_33 ?_
  refine lv_istore (lv' := [(6, .int (a1 >>> ((16 : Int32) &&& 31))), (5, .int ((a1 >>> ((11 : Int32) &&& 31)) &&& (7 : Int32))), (4, .int ((a1 >>> ((8 : Int32) &&& 31)) &&& (7 : Int32))), (3, .int ((a1 >>> ((5 : Int32) &&& 31)) &&& (7 : Int32))), (2, .int (3 : Int32)), (0, .ref yX), (1, .int a1)]) hx hb d_X_instruction_34 hl (by decide) rfl (fun ls hl => ?_)
  refine lv_iload_n hx hb d_X_instruction_36 rfl (lv_at hl 4 rfl) ?_
  refine lv_bipush (v := (25 : Int32)) hx hb d_X_instruction_37 (by decide) ?_
  refine lv_icmp_eq (tgt := 66) hx hb d_X_instruction_39 (by decide) (fun hh => absurd hh (by decide)) (fun _ => ?_)
  refine lv_iload_n hx hb d_X_instruction_42 rfl (lv_at hl 4 rfl) ?_
  refine lv_bipush (v := (26 : Int32)) hx hb d_X_instruction_43 (by decide) ?_
  refine lv_icmp_eq (tgt := 66) hx hb d_X_instruction_45 (by decide) (fun hh => absurd hh (by decide)) (fun _ => ?_)
  refine lv_iload_n hx hb d_X_instruction_48 rfl (lv_at hl 4 rfl) ?_
  refine lv_bipush (v := (28 : Int32)) hx hb d_X_instruction_49 (by decide) ?_
  refine lv_icmp_eq (tgt := 66) hx hb d_X_instruction_51 (by decide) (fun hh => absurd hh (by decide)) (fun _ => ?_)
  refine lv_iload_n hx hb d_X_instruction_54 rfl (lv_at hl 4 rfl) ?_
  refine lv_bipush (v := (29 : Int32)) hx hb d_X_instruction_55 (by decide) ?_
  refine lv_icmp_eq (tgt := 66) hx hb d_X_instruction_57 (by decide) (fun hh => absurd hh (by decide)) (fun _ => ?_)
  refine lv_iload_n hx hb d_X_instruction_60 rfl (lv_at hl 4 rfl) ?_
  refine lv_bipush (v := (31 : Int32)) hx hb d_X_instruction_61 (by decide) ?_
  refine lv_icmp_ne (tgt := 70) hx hb d_X_instruction_63 (by decide) (fun _ => ?_) (fun hh => absurd hh (by decide))
  refine lv_iconst (v := (0 : Int32)) hx hb d_X_instruction_70 (by decide) ?_
  refine lv_istore (lv' := [(7, .int (0 : Int32)), (6, .int (a1 >>> ((16 : Int32) &&& 31))), (5, .int ((a1 >>> ((11 : Int32) &&& 31)) &&& (7 : Int32))), (4, .int ((a1 >>> ((8 : Int32) &&& 31)) &&& (7 : Int32))), (3, .int ((a1 >>> ((5 : Int32) &&& 31)) &&& (7 : Int32))), (2, .int (3 : Int32)), (0, .ref yX), (1, .int a1)]) hx hb d_X_instruction_71 hl (by decide) rfl (fun ls hl => ?_)
  refine lv_iload hx hb d_X_instruction_73 (lv_at hl 0 rfl) ?_
  refine lv_if_eq (tgt := 86) hx hb d_X_instruction_75 (by decide) (fun _ => ?_) (fun hh => absurd hh (by decide))
  refine lv_iload_n hx hb d_X_instruction_86 rfl (lv_at hl 5 rfl) ?_
  refine lv_bipush (v := (30 : Int32)) hx hb d_X_instruction_87 (by decide) ?_
  refine lv_icmp_ne (tgt := 111) hx hb d_X_instruction_89 (by decide) (fun _ => ?_) (fun hh => absurd hh (by decide))
  refine lv_aload_n hx hb d_X_instruction_111 rfl (lv_at hl 6 rfl) ?_
  refine zz_get (C := R_X) (T := F_X) (N := 27) (v := .ref yO) hx hb hts in_X hown hK hP 0 rfl rfl 4 (by decide) mw_68 rfl d_X_instruction_112 ?_
  refine lv_iconst (v := (0 : Int32)) hx hb d_X_instruction_115 (by decide) ?_
  refine va_iald hx hb hK hP 4 0 rfl rfl (zz_inc (by decide)) d_X_instruction_116 ?_
  refine lv_iconst (v := (1 : Int32)) hx hb d_X_instruction_117 (by decide) ?_
  refine lv_iadd hx hb d_X_instruction_118 ?_
  refine lv_istore (lv' := [(8, .int ((v_o (ix (0 : Int32))) + (1 : Int32))), (7, .int (0 : Int32)), (6, .int (a1 >>> ((16 : Int32) &&& 31))), (5, .int ((a1 >>> ((11 : Int32) &&& 31)) &&& (7 : Int32))), (4, .int ((a1 >>> ((8 : Int32) &&& 31)) &&& (7 : Int32))), (3, .int ((a1 >>> ((5 : Int32) &&& 31)) &&& (7 : Int32))), (2, .int (3 : Int32)), (0, .ref yX), (1, .int a1)]) hx hb d_X_instruction_119 hl (by decide) rfl (fun ls hl => ?_)
  refine lv_iload_n hx hb d_X_instruction_121 rfl (lv_at hl 6 rfl) ?_
  refine lv_if_le (tgt := 146) hx hb d_X_instruction_122 (by decide) (fun hh => absurd hh (by decide)) (fun _ => ?_)
  refine lv_iload_n hx hb d_X_instruction_125 rfl (lv_at hl 6 rfl) ?_
  refine lv_bipush (v := (13 : Int32)) hx hb d_X_instruction_126 (by decide) ?_
  refine lv_icmp_ge (tgt := 146) hx hb d_X_instruction_128 (by decide) (fun hh => absurd hh (by decide)) (fun _ => ?_)
  refine lv_aload_n hx hb d_X_instruction_131 rfl (lv_at hl 7 rfl) ?_
  refine lv_iload_n hx hb d_X_instruction_132 rfl (lv_at hl 6 rfl) ?_
  refine lv_iload_n hx hb d_X_instruction_133 rfl (lv_at hl 5 rfl) ?_
  refine lv_iload hx hb d_X_instruction_134 (lv_at hl 4 rfl) ?_
  refine lv_iload hx hb d_X_instruction_136 (lv_at hl 3 rfl) ?_
  refine lv_iload hx hb d_X_instruction_138 (lv_at hl 2 rfl) ?_
  refine zz_cVv (rest := []) (wr := []) (w' := [oX yX yM yD yA yO yL yH yI v_x, ar cI yM 512 v_M, ar cI yD 8 (s_X_reckon3 v_x v_M v_d v_a v_o v_lo v_hi v_ri ((a1 >>> ((5 : Int32) &&& 31)) &&& (7 : Int32)) ((a1 >>> ((8 : Int32) &&& 31)) &&& (7 : Int32)) ((a1 >>> ((11 : Int32) &&& 31)) &&& (7 : Int32)) (a1 >>> ((16 : Int32) &&& 31))), ar cI yA 8 v_a, ar cI yO 4 v_o, ar cI yL 6 v_lo, ar cI yH 6 v_hi, ar cI yI 6 v_ri]) ⟨hx, hb, hml, hown, hts⟩ (k_X_reckon3 l D cI _ yX yM yD yA yO yL yH yI v_x v_M v_d v_a v_o v_lo v_hi v_ri ((a1 >>> ((5 : Int32) &&& 31)) &&& (7 : Int32)) ((a1 >>> ((8 : Int32) &&& 31)) &&& (7 : Int32)) ((a1 >>> ((11 : Int32) &&& 31)) &&& (7 : Int32)) (a1 >>> ((16 : Int32) &&& 31)) (zz_in7 _) (zz_in7 _) (zz_in7 _)) g_X_instruction_X_reckon_111 nv_X_reckon ⟨⟨rfl, rfl⟩, Nat.le_of_ble_eq_true rfl, Nat.le_of_ble_eq_true rfl⟩ hK [0] rfl hP hD hS hA [0, 1, 2, 3, 4, 5, 6, 7] [] [0, 1, 2, 3, 4, 5, 6, 7] rfl rfl rfl rfl (by decide) rfl rfl 0 6 rfl rfl rfl rfl hl.1 (Nat.le_of_ble_eq_true rfl) d_X_instruction_140 ⟨Nat.zero_le _, Nat.zero_le _⟩ (fun H locs hP hD hS => ?_)
  refine lv_goto (tgt := 244) hx hb d_X_instruction_143 (by decide) ?_
  refine lv_aload_n hx hb d_X_instruction_244 rfl (lv_at hl 7 rfl) ?_
  refine zz_get (C := R_X) (T := F_X) (N := 27) (v := .ref yO) hx hb hts in_X hown hK hP 0 rfl rfl 4 (by decide) mw_68 rfl d_X_instruction_245 ?_
  refine lv_iconst (v := (0 : Int32)) hx hb d_X_instruction_248 (by decide) ?_
  show W p l e _ s m args below meth c _ _ _ _ Q (F0 m 249 ls _)
  refine lv_aload_n hx hb d_X_instruction_249 rfl (lv_at hl 7 rfl) ?_
  refine zz_get (C := R_X) (T := F_X) (N := 27) (v := .int (v_x 19)) hx hb hts in_X hown hK hP 0 rfl rfl 26 (by decide) mw_79 rfl d_X_instruction_250 ?_
  have J253_2 : ∀ (vj253_0 : Int32) (ls : Array Slot) (H : Heap) (locs : List Loc), vj253_0 = (if (v_x 19) = 0 then (if (v_x 7) = 0 then (v_o (ix (0 : Int32))) else ((v_o (ix (0 : Int32))) + (1 : Int32))) else (v_o (ix (0 : Int32)))) → lv_has ls 9 [(8, .int ((v_o (ix (0 : Int32))) + (1 : Int32))), (7, .int (0 : Int32)), (6, .int (a1 >>> ((16 : Int32) &&& 31))), (5, .int ((a1 >>> ((11 : Int32) &&& 31)) &&& (7 : Int32))), (4, .int ((a1 >>> ((8 : Int32) &&& 31)) &&& (7 : Int32))), (3, .int ((a1 >>> ((5 : Int32) &&& 31)) &&& (7 : Int32))), (2, .int (3 : Int32)), (0, .ref yX), (1, .int a1)] → va_P D classes [oX yX yM yD yA yO yL yH yI v_x, ar cI yM 512 v_M, ar cI yD 8 (s_X_reckon3 v_x v_M v_d v_a v_o v_lo v_hi v_ri ((a1 >>> ((5 : Int32) &&& 31)) &&& (7 : Int32)) ((a1 >>> ((8 : Int32) &&& 31)) &&& (7 : Int32)) ((a1 >>> ((11 : Int32) &&& 31)) &&& (7 : Int32)) (a1 >>> ((16 : Int32) &&& 31))), ar cI yA 8 v_a, ar cI yO 4 v_o, ar cI yL 6 v_lo, ar cI yH 6 v_hi, ar cI yI 6 v_ri] H → va_D A [oX yX yM yD yA yO yL yH yI v_x, ar cI yM 512 v_M, ar cI yD 8 (s_X_reckon3 v_x v_M v_d v_a v_o v_lo v_hi v_ri ((a1 >>> ((5 : Int32) &&& 31)) &&& (7 : Int32)) ((a1 >>> ((8 : Int32) &&& 31)) &&& (7 : Int32)) ((a1 >>> ((11 : Int32) &&& 31)) &&& (7 : Int32)) (a1 >>> ((16 : Int32) &&& 31))), ar cI yA 8 v_a, ar cI yO 4 v_o, ar cI yL 6 v_lo, ar cI yH 6 v_hi, ar cI yI 6 v_ri] → va_S A s.heap H locs → W p l e { frames := 4, cells := 0, slots := 0, locals := 100 } s m args below meth c H locs 0 0 Q (F0 m 274 ls [.int vj253_0, .int (0 : Int32), .ref yO]) := by
    intro vj253_0 ls H locs evj253_0 hl hP hD hS
    subst evj253_0
    refine zz_iast (w' := [oX yX yM yD yA yO yL yH yI v_x, ar cI yM 512 v_M, ar cI yD 8 (s_X_reckon3 v_x v_M v_d v_a v_o v_lo v_hi v_ri ((a1 >>> ((5 : Int32) &&& 31)) &&& (7 : Int32)) ((a1 >>> ((8 : Int32) &&& 31)) &&& (7 : Int32)) ((a1 >>> ((11 : Int32) &&& 31)) &&& (7 : Int32)) (a1 >>> ((16 : Int32) &&& 31))), ar cI yA 8 v_a, ar cI yO 4 (upd v_o (ix (0 : Int32)) (if (v_x 19) = 0 then (if (v_x 7) = 0 then (v_o (ix (0 : Int32))) else ((v_o (ix (0 : Int32))) + (1 : Int32))) else (v_o (ix (0 : Int32))))), ar cI yL 6 v_lo, ar cI yH 6 v_hi, ar cI yI 6 v_ri]) hx hb hK hP hD hS 4 0 rfl rfl (zz_inc (by decide)) d_X_instruction_274 rfl (fun H locs hP hD hS => ?_)
    have hsp : s_X_instr3 v_x v_M v_d v_a v_o v_lo v_hi v_ri a1 = ((s_X_reckon3 v_x v_M v_d v_a v_o v_lo v_hi v_ri ((a1 >>> ((5 : Int32) &&& 31)) &&& (7 : Int32)) ((a1 >>> ((8 : Int32) &&& 31)) &&& (7 : Int32)) ((a1 >>> ((11 : Int32) &&& 31)) &&& (7 : Int32)) (a1 >>> ((16 : Int32) &&& 31))), upd v_o (ix (0 : Int32)) (if (v_x 19) = 0 then (if (v_x 7) = 0 then (v_o (ix (0 : Int32))) else ((v_o (ix (0 : Int32))) + (1 : Int32))) else (v_o (ix (0 : Int32))))) := rfl
    rw [hsp] at hE
    exact hE _ _ _ _ hP hD hS d_X_instruction_275
  refine lv_if_ne (tgt := 268) hx hb d_X_instruction_253 (by decide) (fun h1 => ?_) (fun h1 => ?_)
  ·
    refine lv_aload_n hx hb d_X_instruction_268 rfl (lv_at hl 7 rfl) ?_
    refine zz_get (C := R_X) (T := F_X) (N := 27) (v := .ref yO) hx hb hts in_X hown hK hP 0 rfl rfl 4 (by decide) mw_68 rfl d_X_instruction_269 ?_
    refine lv_iconst (v := (0 : Int32)) hx hb d_X_instruction_272 (by decide) ?_
    refine va_iald hx hb hK hP 4 0 rfl rfl (zz_inc (by decide)) d_X_instruction_273 ?_
    exact J253_2 (v_o (ix (0 : Int32))) _ _ _ (by rw [if_neg h1]) (lv_sub hl [0, 1, 2, 3, 4, 5, 6, 7, 8] rfl) hP hD hS
  ·
    refine lv_aload_n hx hb d_X_instruction_256 rfl (lv_at hl 7 rfl) ?_
    refine zz_get (C := R_X) (T := F_X) (N := 27) (v := .int (v_x 7)) hx hb hts in_X hown hK hP 0 rfl rfl 11 (by decide) mw_78 rfl d_X_instruction_257 ?_
    refine lv_if_eq (tgt := 268) hx hb d_X_instruction_260 (by decide) (fun h2 => ?_) (fun h2 => ?_)
    ·
      refine lv_aload_n hx hb d_X_instruction_268 rfl (lv_at hl 7 rfl) ?_
      refine zz_get (C := R_X) (T := F_X) (N := 27) (v := .ref yO) hx hb hts in_X hown hK hP 0 rfl rfl 4 (by decide) mw_68 rfl d_X_instruction_269 ?_
      refine lv_iconst (v := (0 : Int32)) hx hb d_X_instruction_272 (by decide) ?_
      refine va_iald hx hb hK hP 4 0 rfl rfl (zz_inc (by decide)) d_X_instruction_273 ?_
      exact J253_2 (v_o (ix (0 : Int32))) _ _ _ (by rw [if_pos h1, if_pos h2]) (lv_sub hl [0, 1, 2, 3, 4, 5, 6, 7, 8] rfl) hP hD hS
    ·
      refine lv_iload hx hb d_X_instruction_263 (lv_at hl 0 rfl) ?_
      refine lv_goto (tgt := 274) hx hb d_X_instruction_265 (by decide) ?_
      exact J253_2 ((v_o (ix (0 : Int32))) + (1 : Int32)) _ _ _ (by rw [if_pos h1, if_neg h2]) (lv_sub hl [0, 1, 2, 3, 4, 5, 6, 7, 8] rfl) hP hD hS
set_option maxHeartbeats 4000000 in
set_option maxRecDepth 100000 in
theorem k_X_instr4 (l : Launch) (D : va_G) (cI : ClassId) (sz : Nat) (yX : Nat) (yM : Nat) (yD : Nat) (yA : Nat) (yO : Nat) (yL : Nat) (yH : Nat) (yI : Nat) (v_x : Nat → Int32) (v_M : Nat → Int32) (v_d : Nat → Int32) (v_a : Nat → Int32) (v_o : Nat → Int32) (v_lo : Nat → Int32) (v_hi : Nat → Int32) (v_ri : Nat → Int32) (a1 : Int32) (hop : (a1 &&& (31 : Int32)) = (4 : Int32)) : zMv l y_X_instruction (.code y_X_instruction b_X_instruction 9 (none) :: wd) { frames := 4, cells := 0, slots := 0, locals := 100 } D classes [(cI, .int)] [.ref yX, .int a1] [oX yX yM yD yA yO yL yH yI v_x, ar cI yM 512 v_M, ar cI yD 8 v_d, ar cI yA 8 v_a, ar cI yO 4 v_o, ar cI yL 6 v_lo, ar cI yH 6 v_hi, ar cI yI 6 v_ri] [oX yX yM yD yA yO yL yH yI v_x, ar cI yM 512 v_M, ar cI yD 8 ((s_X_instr4 v_x v_M v_d v_a v_o v_lo v_hi v_ri a1).1), ar cI yA 8 v_a, ar cI yO 4 ((s_X_instr4 v_x v_M v_d v_a v_o v_lo v_hi v_ri a1).2), ar cI yL 6 v_lo, ar cI yH 6 v_hi, ar cI yI 6 v_ri] sz := by
  refine met_v (by decide) (Nat.le_of_ble_eq_true rfl) ?_
  intro p e s m args below meth c A Q ls hx hb hml hown hts hK hP hD hS hA hl hE
  have hl : lv_has ls 9 [(0, .ref yX), (1, .int a1)] := hl
  have hown : s.vm.findClass R_X = some m.cls := hown
  refine lv_iload_n hx hb d_X_instruction_0 rfl (lv_at hl 1 rfl) ?_
  refine lv_bipush (v := (31 : Int32)) hx hb d_X_instruction_1 (by decide) ?_
  refine lv_iand hx hb d_X_instruction_3 ?_
  refine lv_topi (fun zz ez => ?_)
  obtain rfl : zz = (4 : Int32) := ez.trans hop
  refine lv_istore_n (lv' := [(2, .int (4 : Int32)), (0, .ref yX), (1, .int a1)]) hx hb d_X_instruction_4 rfl hl (by decide) rfl (fun ls hl => ?_)
  refine lv_iload_n hx hb d_X_instruction_5 rfl (lv_at hl 2 rfl) ?_
  refine lv_iconst (v := (5 : Int32)) hx hb d_X_instruction_6 (by decide) ?_
  refine lv_ishr hx hb d_X_instruction_7 ?_
  refine lv_bipush (v := (7 : Int32)) hx hb d_X_instruction_8 (by decide) ?_
  refine lv_iand hx hb d_X_instruction_10 ?_
  refine lv_istore_n (lv' := [(3, .int ((a1 >>> ((5 : Int32) &&& 31)) &&& (7 : Int32))), (2, .int (4 : Int32)), (0, .ref yX), (1, .int a1)]) hx hb d_X_instruction_11 rfl hl (by decide) rfl (fun ls hl => ?_)
  refine lv_iload_n hx hb d_X_instruction_12 rfl (lv_at hl 3 rfl) ?_
  show W p l e _ s m args below meth c _ _ _ _ Q (F0 m 13 ls _)
  refine lv_bipush (v := (8 : Int32)) hx hb d_X_instruction_13 (by decide) ?_
  refine lv_ishr hx hb d_X_instruction_15 ?_
  refine lv_bipush (v := (7 : Int32)) hx hb d_X_instruction_16 (by decide) ?_
  refine lv_iand hx hb d_X_instruction_18 ?_
  refine lv_istore (lv' := [(4, .int ((a1 >>> ((8 : Int32) &&& 31)) &&& (7 : Int32))), (3, .int ((a1 >>> ((5 : Int32) &&& 31)) &&& (7 : Int32))), (2, .int (4 : Int32)), (0, .ref yX), (1, .int a1)]) hx hb d_X_instruction_19 hl (by decide) rfl (fun ls hl => ?_)
  refine lv_iload_n hx hb d_X_instruction_21 rfl (lv_at hl 4 rfl) ?_
  refine lv_bipush (v := (11 : Int32)) hx hb d_X_instruction_22 (by decide) ?_
  refine lv_ishr hx hb d_X_instruction_24 ?_
  refine lv_bipush (v := (7 : Int32)) hx hb d_X_instruction_25 (by decide) ?_
  refine lv_iand hx hb d_X_instruction_27 ?_
  refine lv_istore (lv' := [(5, .int ((a1 >>> ((11 : Int32) &&& 31)) &&& (7 : Int32))), (4, .int ((a1 >>> ((8 : Int32) &&& 31)) &&& (7 : Int32))), (3, .int ((a1 >>> ((5 : Int32) &&& 31)) &&& (7 : Int32))), (2, .int (4 : Int32)), (0, .ref yX), (1, .int a1)]) hx hb d_X_instruction_28 hl (by decide) rfl (fun ls hl => ?_)
  refine lv_iload_n hx hb d_X_instruction_30 rfl (lv_at hl 5 rfl) ?_
  show W p l e _ s m args below meth c _ _ _ _ Q (F0 m 31 ls _)
  refine lv_bipush (v := (16 : Int32)) hx hb d_X_instruction_31 (by decide) ?_
  refine lv_ishr hx hb d_X_instruction_33 ?_
  refine lv_istore (lv' := [(6, .int (a1 >>> ((16 : Int32) &&& 31))), (5, .int ((a1 >>> ((11 : Int32) &&& 31)) &&& (7 : Int32))), (4, .int ((a1 >>> ((8 : Int32) &&& 31)) &&& (7 : Int32))), (3, .int ((a1 >>> ((5 : Int32) &&& 31)) &&& (7 : Int32))), (2, .int (4 : Int32)), (0, .ref yX), (1, .int a1)]) hx hb d_X_instruction_34 hl (by decide) rfl (fun ls hl => ?_)
  refine lv_iload_n hx hb d_X_instruction_36 rfl (lv_at hl 4 rfl) ?_
  refine lv_bipush (v := (25 : Int32)) hx hb d_X_instruction_37 (by decide) ?_
  refine lv_icmp_eq (tgt := 66) hx hb d_X_instruction_39 (by decide) (fun hh => absurd hh (by decide)) (fun _ => ?_)
  refine lv_iload_n hx hb d_X_instruction_42 rfl (lv_at hl 4 rfl) ?_
  refine lv_bipush (v := (26 : Int32)) hx hb d_X_instruction_43 (by decide) ?_
  refine lv_icmp_eq (tgt := 66) hx hb d_X_instruction_45 (by decide) (fun hh => absurd hh (by decide)) (fun _ => ?_)
  refine lv_iload_n hx hb d_X_instruction_48 rfl (lv_at hl 4 rfl) ?_
  refine lv_bipush (v := (28 : Int32)) hx hb d_X_instruction_49 (by decide) ?_
  refine lv_icmp_eq (tgt := 66) hx hb d_X_instruction_51 (by decide) (fun hh => absurd hh (by decide)) (fun _ => ?_)
  refine lv_iload_n hx hb d_X_instruction_54 rfl (lv_at hl 4 rfl) ?_
  refine lv_bipush (v := (29 : Int32)) hx hb d_X_instruction_55 (by decide) ?_
  refine lv_icmp_eq (tgt := 66) hx hb d_X_instruction_57 (by decide) (fun hh => absurd hh (by decide)) (fun _ => ?_)
  refine lv_iload_n hx hb d_X_instruction_60 rfl (lv_at hl 4 rfl) ?_
  refine lv_bipush (v := (31 : Int32)) hx hb d_X_instruction_61 (by decide) ?_
  refine lv_icmp_ne (tgt := 70) hx hb d_X_instruction_63 (by decide) (fun _ => ?_) (fun hh => absurd hh (by decide))
  refine lv_iconst (v := (0 : Int32)) hx hb d_X_instruction_70 (by decide) ?_
  refine lv_istore (lv' := [(7, .int (0 : Int32)), (6, .int (a1 >>> ((16 : Int32) &&& 31))), (5, .int ((a1 >>> ((11 : Int32) &&& 31)) &&& (7 : Int32))), (4, .int ((a1 >>> ((8 : Int32) &&& 31)) &&& (7 : Int32))), (3, .int ((a1 >>> ((5 : Int32) &&& 31)) &&& (7 : Int32))), (2, .int (4 : Int32)), (0, .ref yX), (1, .int a1)]) hx hb d_X_instruction_71 hl (by decide) rfl (fun ls hl => ?_)
  refine lv_iload hx hb d_X_instruction_73 (lv_at hl 0 rfl) ?_
  refine lv_if_eq (tgt := 86) hx hb d_X_instruction_75 (by decide) (fun _ => ?_) (fun hh => absurd hh (by decide))
  refine lv_iload_n hx hb d_X_instruction_86 rfl (lv_at hl 5 rfl) ?_
  refine lv_bipush (v := (30 : Int32)) hx hb d_X_instruction_87 (by decide) ?_
  refine lv_icmp_ne (tgt := 111) hx hb d_X_instruction_89 (by decide) (fun _ => ?_) (fun hh => absurd hh (by decide))
  refine lv_aload_n hx hb d_X_instruction_111 rfl (lv_at hl 6 rfl) ?_
  refine zz_get (C := R_X) (T := F_X) (N := 27) (v := .ref yO) hx hb hts in_X hown hK hP 0 rfl rfl 4 (by decide) mw_68 rfl d_X_instruction_112 ?_
  refine lv_iconst (v := (0 : Int32)) hx hb d_X_instruction_115 (by decide) ?_
  refine va_iald hx hb hK hP 4 0 rfl rfl (zz_inc (by decide)) d_X_instruction_116 ?_
  refine lv_iconst (v := (1 : Int32)) hx hb d_X_instruction_117 (by decide) ?_
  refine lv_iadd hx hb d_X_instruction_118 ?_
  refine lv_istore (lv' := [(8, .int ((v_o (ix (0 : Int32))) + (1 : Int32))), (7, .int (0 : Int32)), (6, .int (a1 >>> ((16 : Int32) &&& 31))), (5, .int ((a1 >>> ((11 : Int32) &&& 31)) &&& (7 : Int32))), (4, .int ((a1 >>> ((8 : Int32) &&& 31)) &&& (7 : Int32))), (3, .int ((a1 >>> ((5 : Int32) &&& 31)) &&& (7 : Int32))), (2, .int (4 : Int32)), (0, .ref yX), (1, .int a1)]) hx hb d_X_instruction_119 hl (by decide) rfl (fun ls hl => ?_)
  refine lv_iload_n hx hb d_X_instruction_121 rfl (lv_at hl 6 rfl) ?_
  refine lv_if_le (tgt := 146) hx hb d_X_instruction_122 (by decide) (fun hh => absurd hh (by decide)) (fun _ => ?_)
  refine lv_iload_n hx hb d_X_instruction_125 rfl (lv_at hl 6 rfl) ?_
  refine lv_bipush (v := (13 : Int32)) hx hb d_X_instruction_126 (by decide) ?_
  refine lv_icmp_ge (tgt := 146) hx hb d_X_instruction_128 (by decide) (fun hh => absurd hh (by decide)) (fun _ => ?_)
  refine lv_aload_n hx hb d_X_instruction_131 rfl (lv_at hl 7 rfl) ?_
  refine lv_iload_n hx hb d_X_instruction_132 rfl (lv_at hl 6 rfl) ?_
  refine lv_iload_n hx hb d_X_instruction_133 rfl (lv_at hl 5 rfl) ?_
  refine lv_iload hx hb d_X_instruction_134 (lv_at hl 4 rfl) ?_
  refine lv_iload hx hb d_X_instruction_136 (lv_at hl 3 rfl) ?_
  refine lv_iload hx hb d_X_instruction_138 (lv_at hl 2 rfl) ?_
  refine zz_cVv (rest := []) (wr := []) (w' := [oX yX yM yD yA yO yL yH yI v_x, ar cI yM 512 v_M, ar cI yD 8 (s_X_reckon4 v_x v_M v_d v_a v_o v_lo v_hi v_ri ((a1 >>> ((5 : Int32) &&& 31)) &&& (7 : Int32)) ((a1 >>> ((8 : Int32) &&& 31)) &&& (7 : Int32)) ((a1 >>> ((11 : Int32) &&& 31)) &&& (7 : Int32)) (a1 >>> ((16 : Int32) &&& 31))), ar cI yA 8 v_a, ar cI yO 4 v_o, ar cI yL 6 v_lo, ar cI yH 6 v_hi, ar cI yI 6 v_ri]) ⟨hx, hb, hml, hown, hts⟩ (k_X_reckon4 l D cI _ yX yM yD yA yO yL yH yI v_x v_M v_d v_a v_o v_lo v_hi v_ri ((a1 >>> ((5 : Int32) &&& 31)) &&& (7 : Int32)) ((a1 >>> ((8 : Int32) &&& 31)) &&& (7 : Int32)) ((a1 >>> ((11 : Int32) &&& 31)) &&& (7 : Int32)) (a1 >>> ((16 : Int32) &&& 31)) (zz_in7 _) (zz_in7 _) (zz_in7 _)) g_X_instruction_X_reckon_111 nv_X_reckon ⟨⟨rfl, rfl⟩, Nat.le_of_ble_eq_true rfl, Nat.le_of_ble_eq_true rfl⟩ hK [0] rfl hP hD hS hA [0, 1, 2, 3, 4, 5, 6, 7] [] [0, 1, 2, 3, 4, 5, 6, 7] rfl rfl rfl rfl (by decide) rfl rfl 0 6 rfl rfl rfl rfl hl.1 (Nat.le_of_ble_eq_true rfl) d_X_instruction_140 ⟨Nat.zero_le _, Nat.zero_le _⟩ (fun H locs hP hD hS => ?_)
  refine lv_goto (tgt := 244) hx hb d_X_instruction_143 (by decide) ?_
  refine lv_aload_n hx hb d_X_instruction_244 rfl (lv_at hl 7 rfl) ?_
  refine zz_get (C := R_X) (T := F_X) (N := 27) (v := .ref yO) hx hb hts in_X hown hK hP 0 rfl rfl 4 (by decide) mw_68 rfl d_X_instruction_245 ?_
  refine lv_iconst (v := (0 : Int32)) hx hb d_X_instruction_248 (by decide) ?_
  show W p l e _ s m args below meth c _ _ _ _ Q (F0 m 249 ls _)
  refine lv_aload_n hx hb d_X_instruction_249 rfl (lv_at hl 7 rfl) ?_
  refine zz_get (C := R_X) (T := F_X) (N := 27) (v := .int (v_x 19)) hx hb hts in_X hown hK hP 0 rfl rfl 26 (by decide) mw_79 rfl d_X_instruction_250 ?_
  have J253_2 : ∀ (vj253_0 : Int32) (ls : Array Slot) (H : Heap) (locs : List Loc), vj253_0 = (if (v_x 19) = 0 then (if (v_x 7) = 0 then (v_o (ix (0 : Int32))) else ((v_o (ix (0 : Int32))) + (1 : Int32))) else (v_o (ix (0 : Int32)))) → lv_has ls 9 [(8, .int ((v_o (ix (0 : Int32))) + (1 : Int32))), (7, .int (0 : Int32)), (6, .int (a1 >>> ((16 : Int32) &&& 31))), (5, .int ((a1 >>> ((11 : Int32) &&& 31)) &&& (7 : Int32))), (4, .int ((a1 >>> ((8 : Int32) &&& 31)) &&& (7 : Int32))), (3, .int ((a1 >>> ((5 : Int32) &&& 31)) &&& (7 : Int32))), (2, .int (4 : Int32)), (0, .ref yX), (1, .int a1)] → va_P D classes [oX yX yM yD yA yO yL yH yI v_x, ar cI yM 512 v_M, ar cI yD 8 (s_X_reckon4 v_x v_M v_d v_a v_o v_lo v_hi v_ri ((a1 >>> ((5 : Int32) &&& 31)) &&& (7 : Int32)) ((a1 >>> ((8 : Int32) &&& 31)) &&& (7 : Int32)) ((a1 >>> ((11 : Int32) &&& 31)) &&& (7 : Int32)) (a1 >>> ((16 : Int32) &&& 31))), ar cI yA 8 v_a, ar cI yO 4 v_o, ar cI yL 6 v_lo, ar cI yH 6 v_hi, ar cI yI 6 v_ri] H → va_D A [oX yX yM yD yA yO yL yH yI v_x, ar cI yM 512 v_M, ar cI yD 8 (s_X_reckon4 v_x v_M v_d v_a v_o v_lo v_hi v_ri ((a1 >>> ((5 : Int32) &&& 31)) &&& (7 : Int32)) ((a1 >>> ((8 : Int32) &&& 31)) &&& (7 : Int32)) ((a1 >>> ((11 : Int32) &&& 31)) &&& (7 : Int32)) (a1 >>> ((16 : Int32) &&& 31))), ar cI yA 8 v_a, ar cI yO 4 v_o, ar cI yL 6 v_lo, ar cI yH 6 v_hi, ar cI yI 6 v_ri] → va_S A s.heap H locs → W p l e { frames := 4, cells := 0, slots := 0, locals := 100 } s m args below meth c H locs 0 0 Q (F0 m 274 ls [.int vj253_0, .int (0 : Int32), .ref yO]) := by
    intro vj253_0 ls H locs evj253_0 hl hP hD hS
    subst evj253_0
    refine zz_iast (w' := [oX yX yM yD yA yO yL yH yI v_x, ar cI yM 512 v_M, ar cI yD 8 (s_X_reckon4 v_x v_M v_d v_a v_o v_lo v_hi v_ri ((a1 >>> ((5 : Int32) &&& 31)) &&& (7 : Int32)) ((a1 >>> ((8 : Int32) &&& 31)) &&& (7 : Int32)) ((a1 >>> ((11 : Int32) &&& 31)) &&& (7 : Int32)) (a1 >>> ((16 : Int32) &&& 31))), ar cI yA 8 v_a, ar cI yO 4 (upd v_o (ix (0 : Int32)) (if (v_x 19) = 0 then (if (v_x 7) = 0 then (v_o (ix (0 : Int32))) else ((v_o (ix (0 : Int32))) + (1 : Int32))) else (v_o (ix (0 : Int32))))), ar cI yL 6 v_lo, ar cI yH 6 v_hi, ar cI yI 6 v_ri]) hx hb hK hP hD hS 4 0 rfl rfl (zz_inc (by decide)) d_X_instruction_274 rfl (fun H locs hP hD hS => ?_)
    have hsp : s_X_instr4 v_x v_M v_d v_a v_o v_lo v_hi v_ri a1 = ((s_X_reckon4 v_x v_M v_d v_a v_o v_lo v_hi v_ri ((a1 >>> ((5 : Int32) &&& 31)) &&& (7 : Int32)) ((a1 >>> ((8 : Int32) &&& 31)) &&& (7 : Int32)) ((a1 >>> ((11 : Int32) &&& 31)) &&& (7 : Int32)) (a1 >>> ((16 : Int32) &&& 31))), upd v_o (ix (0 : Int32)) (if (v_x 19) = 0 then (if (v_x 7) = 0 then (v_o (ix (0 : Int32))) else ((v_o (ix (0 : Int32))) + (1 : Int32))) else (v_o (ix (0 : Int32))))) := rfl
    rw [hsp] at hE
    exact hE _ _ _ _ hP hD hS d_X_instruction_275
  refine lv_if_ne (tgt := 268) hx hb d_X_instruction_253 (by decide) (fun h1 => ?_) (fun h1 => ?_)
  ·
    refine lv_aload_n hx hb d_X_instruction_268 rfl (lv_at hl 7 rfl) ?_
    refine zz_get (C := R_X) (T := F_X) (N := 27) (v := .ref yO) hx hb hts in_X hown hK hP 0 rfl rfl 4 (by decide) mw_68 rfl d_X_instruction_269 ?_
    refine lv_iconst (v := (0 : Int32)) hx hb d_X_instruction_272 (by decide) ?_
    refine va_iald hx hb hK hP 4 0 rfl rfl (zz_inc (by decide)) d_X_instruction_273 ?_
    exact J253_2 (v_o (ix (0 : Int32))) _ _ _ (by rw [if_neg h1]) (lv_sub hl [0, 1, 2, 3, 4, 5, 6, 7, 8] rfl) hP hD hS
  ·
    refine lv_aload_n hx hb d_X_instruction_256 rfl (lv_at hl 7 rfl) ?_
    refine zz_get (C := R_X) (T := F_X) (N := 27) (v := .int (v_x 7)) hx hb hts in_X hown hK hP 0 rfl rfl 11 (by decide) mw_78 rfl d_X_instruction_257 ?_
    refine lv_if_eq (tgt := 268) hx hb d_X_instruction_260 (by decide) (fun h2 => ?_) (fun h2 => ?_)
    ·
      refine lv_aload_n hx hb d_X_instruction_268 rfl (lv_at hl 7 rfl) ?_
      refine zz_get (C := R_X) (T := F_X) (N := 27) (v := .ref yO) hx hb hts in_X hown hK hP 0 rfl rfl 4 (by decide) mw_68 rfl d_X_instruction_269 ?_
      refine lv_iconst (v := (0 : Int32)) hx hb d_X_instruction_272 (by decide) ?_
      refine va_iald hx hb hK hP 4 0 rfl rfl (zz_inc (by decide)) d_X_instruction_273 ?_
      exact J253_2 (v_o (ix (0 : Int32))) _ _ _ (by rw [if_pos h1, if_pos h2]) (lv_sub hl [0, 1, 2, 3, 4, 5, 6, 7, 8] rfl) hP hD hS
    ·
      refine lv_iload hx hb d_X_instruction_263 (lv_at hl 0 rfl) ?_
      refine lv_goto (tgt := 274) hx hb d_X_instruction_265 (by decide) ?_
      exact J253_2 ((v_o (ix (0 : Int32))) + (1 : Int32)) _ _ _ (by rw [if_pos h1, if_neg h2]) (lv_sub hl [0, 1, 2, 3, 4, 5, 6, 7, 8] rfl) hP hD hS
set_option maxHeartbeats 4000000 in
set_option maxRecDepth 100000 in
theorem k_X_instr5 (l : Launch) (D : va_G) (cI : ClassId) (sz : Nat) (yX : Nat) (yM : Nat) (yD : Nat) (yA : Nat) (yO : Nat) (yL : Nat) (yH : Nat) (yI : Nat) (v_x : Nat → Int32) (v_M : Nat → Int32) (v_d : Nat → Int32) (v_a : Nat → Int32) (v_o : Nat → Int32) (v_lo : Nat → Int32) (v_hi : Nat → Int32) (v_ri : Nat → Int32) (a1 : Int32) (hop : (a1 &&& (31 : Int32)) = (5 : Int32)) : zMv l y_X_instruction (.code y_X_instruction b_X_instruction 9 (none) :: wd) { frames := 4, cells := 0, slots := 0, locals := 100 } D classes [(cI, .int)] [.ref yX, .int a1] [oX yX yM yD yA yO yL yH yI v_x, ar cI yM 512 v_M, ar cI yD 8 v_d, ar cI yA 8 v_a, ar cI yO 4 v_o, ar cI yL 6 v_lo, ar cI yH 6 v_hi, ar cI yI 6 v_ri] [oX yX yM yD yA yO yL yH yI v_x, ar cI yM 512 v_M, ar cI yD 8 ((s_X_instr5 v_x v_M v_d v_a v_o v_lo v_hi v_ri a1).1), ar cI yA 8 v_a, ar cI yO 4 ((s_X_instr5 v_x v_M v_d v_a v_o v_lo v_hi v_ri a1).2), ar cI yL 6 v_lo, ar cI yH 6 v_hi, ar cI yI 6 v_ri] sz := by
  refine met_v (by decide) (Nat.le_of_ble_eq_true rfl) ?_
  intro p e s m args below meth c A Q ls hx hb hml hown hts hK hP hD hS hA hl hE
  have hl : lv_has ls 9 [(0, .ref yX), (1, .int a1)] := hl
  have hown : s.vm.findClass R_X = some m.cls := hown
  refine lv_iload_n hx hb d_X_instruction_0 rfl (lv_at hl 1 rfl) ?_
  refine lv_bipush (v := (31 : Int32)) hx hb d_X_instruction_1 (by decide) ?_
  refine lv_iand hx hb d_X_instruction_3 ?_
  refine lv_topi (fun zz ez => ?_)
  obtain rfl : zz = (5 : Int32) := ez.trans hop
  refine lv_istore_n (lv' := [(2, .int (5 : Int32)), (0, .ref yX), (1, .int a1)]) hx hb d_X_instruction_4 rfl hl (by decide) rfl (fun ls hl => ?_)
  refine lv_iload_n hx hb d_X_instruction_5 rfl (lv_at hl 2 rfl) ?_
  refine lv_iconst (v := (5 : Int32)) hx hb d_X_instruction_6 (by decide) ?_
  refine lv_ishr hx hb d_X_instruction_7 ?_
  refine lv_bipush (v := (7 : Int32)) hx hb d_X_instruction_8 (by decide) ?_
  refine lv_iand hx hb d_X_instruction_10 ?_
  refine lv_istore_n (lv' := [(3, .int ((a1 >>> ((5 : Int32) &&& 31)) &&& (7 : Int32))), (2, .int (5 : Int32)), (0, .ref yX), (1, .int a1)]) hx hb d_X_instruction_11 rfl hl (by decide) rfl (fun ls hl => ?_)
  refine lv_iload_n hx hb d_X_instruction_12 rfl (lv_at hl 3 rfl) ?_
  show W p l e _ s m args below meth c _ _ _ _ Q (F0 m 13 ls _)
  refine lv_bipush (v := (8 : Int32)) hx hb d_X_instruction_13 (by decide) ?_
  refine lv_ishr hx hb d_X_instruction_15 ?_
  refine lv_bipush (v := (7 : Int32)) hx hb d_X_instruction_16 (by decide) ?_
  refine lv_iand hx hb d_X_instruction_18 ?_
  refine lv_istore (lv' := [(4, .int ((a1 >>> ((8 : Int32) &&& 31)) &&& (7 : Int32))), (3, .int ((a1 >>> ((5 : Int32) &&& 31)) &&& (7 : Int32))), (2, .int (5 : Int32)), (0, .ref yX), (1, .int a1)]) hx hb d_X_instruction_19 hl (by decide) rfl (fun ls hl => ?_)
  refine lv_iload_n hx hb d_X_instruction_21 rfl (lv_at hl 4 rfl) ?_
  refine lv_bipush (v := (11 : Int32)) hx hb d_X_instruction_22 (by decide) ?_
  refine lv_ishr hx hb d_X_instruction_24 ?_
  refine lv_bipush (v := (7 : Int32)) hx hb d_X_instruction_25 (by decide) ?_
  refine lv_iand hx hb d_X_instruction_27 ?_
  refine lv_istore (lv' := [(5, .int ((a1 >>> ((11 : Int32) &&& 31)) &&& (7 : Int32))), (4, .int ((a1 >>> ((8 : Int32) &&& 31)) &&& (7 : Int32))), (3, .int ((a1 >>> ((5 : Int32) &&& 31)) &&& (7 : Int32))), (2, .int (5 : Int32)), (0, .ref yX), (1, .int a1)]) hx hb d_X_instruction_28 hl (by decide) rfl (fun ls hl => ?_)
  refine lv_iload_n hx hb d_X_instruction_30 rfl (lv_at hl 5 rfl) ?_
  show W p l e _ s m args below meth c _ _ _ _ Q (F0 m 31 ls _)
  refine lv_bipush (v := (16 : Int32)) hx hb d_X_instruction_31 (by decide) ?_
  refine lv_ishr hx hb d_X_instruction_33 ?_
  refine lv_istore (lv' := [(6, .int (a1 >>> ((16 : Int32) &&& 31))), (5, .int ((a1 >>> ((11 : Int32) &&& 31)) &&& (7 : Int32))), (4, .int ((a1 >>> ((8 : Int32) &&& 31)) &&& (7 : Int32))), (3, .int ((a1 >>> ((5 : Int32) &&& 31)) &&& (7 : Int32))), (2, .int (5 : Int32)), (0, .ref yX), (1, .int a1)]) hx hb d_X_instruction_34 hl (by decide) rfl (fun ls hl => ?_)
  refine lv_iload_n hx hb d_X_instruction_36 rfl (lv_at hl 4 rfl) ?_
  refine lv_bipush (v := (25 : Int32)) hx hb d_X_instruction_37 (by decide) ?_
  refine lv_icmp_eq (tgt := 66) hx hb d_X_instruction_39 (by decide) (fun hh => absurd hh (by decide)) (fun _ => ?_)
  refine lv_iload_n hx hb d_X_instruction_42 rfl (lv_at hl 4 rfl) ?_
  refine lv_bipush (v := (26 : Int32)) hx hb d_X_instruction_43 (by decide) ?_
  refine lv_icmp_eq (tgt := 66) hx hb d_X_instruction_45 (by decide) (fun hh => absurd hh (by decide)) (fun _ => ?_)
  refine lv_iload_n hx hb d_X_instruction_48 rfl (lv_at hl 4 rfl) ?_
  refine lv_bipush (v := (28 : Int32)) hx hb d_X_instruction_49 (by decide) ?_
  refine lv_icmp_eq (tgt := 66) hx hb d_X_instruction_51 (by decide) (fun hh => absurd hh (by decide)) (fun _ => ?_)
  refine lv_iload_n hx hb d_X_instruction_54 rfl (lv_at hl 4 rfl) ?_
  refine lv_bipush (v := (29 : Int32)) hx hb d_X_instruction_55 (by decide) ?_
  refine lv_icmp_eq (tgt := 66) hx hb d_X_instruction_57 (by decide) (fun hh => absurd hh (by decide)) (fun _ => ?_)
  refine lv_iload_n hx hb d_X_instruction_60 rfl (lv_at hl 4 rfl) ?_
  refine lv_bipush (v := (31 : Int32)) hx hb d_X_instruction_61 (by decide) ?_
  refine lv_icmp_ne (tgt := 70) hx hb d_X_instruction_63 (by decide) (fun _ => ?_) (fun hh => absurd hh (by decide))
  refine lv_iconst (v := (0 : Int32)) hx hb d_X_instruction_70 (by decide) ?_
  refine lv_istore (lv' := [(7, .int (0 : Int32)), (6, .int (a1 >>> ((16 : Int32) &&& 31))), (5, .int ((a1 >>> ((11 : Int32) &&& 31)) &&& (7 : Int32))), (4, .int ((a1 >>> ((8 : Int32) &&& 31)) &&& (7 : Int32))), (3, .int ((a1 >>> ((5 : Int32) &&& 31)) &&& (7 : Int32))), (2, .int (5 : Int32)), (0, .ref yX), (1, .int a1)]) hx hb d_X_instruction_71 hl (by decide) rfl (fun ls hl => ?_)
  refine lv_iload hx hb d_X_instruction_73 (lv_at hl 0 rfl) ?_
  refine lv_if_eq (tgt := 86) hx hb d_X_instruction_75 (by decide) (fun _ => ?_) (fun hh => absurd hh (by decide))
  refine lv_iload_n hx hb d_X_instruction_86 rfl (lv_at hl 5 rfl) ?_
  refine lv_bipush (v := (30 : Int32)) hx hb d_X_instruction_87 (by decide) ?_
  refine lv_icmp_ne (tgt := 111) hx hb d_X_instruction_89 (by decide) (fun _ => ?_) (fun hh => absurd hh (by decide))
  refine lv_aload_n hx hb d_X_instruction_111 rfl (lv_at hl 6 rfl) ?_
  refine zz_get (C := R_X) (T := F_X) (N := 27) (v := .ref yO) hx hb hts in_X hown hK hP 0 rfl rfl 4 (by decide) mw_68 rfl d_X_instruction_112 ?_
  refine lv_iconst (v := (0 : Int32)) hx hb d_X_instruction_115 (by decide) ?_
  refine va_iald hx hb hK hP 4 0 rfl rfl (zz_inc (by decide)) d_X_instruction_116 ?_
  refine lv_iconst (v := (1 : Int32)) hx hb d_X_instruction_117 (by decide) ?_
  refine lv_iadd hx hb d_X_instruction_118 ?_
  refine lv_istore (lv' := [(8, .int ((v_o (ix (0 : Int32))) + (1 : Int32))), (7, .int (0 : Int32)), (6, .int (a1 >>> ((16 : Int32) &&& 31))), (5, .int ((a1 >>> ((11 : Int32) &&& 31)) &&& (7 : Int32))), (4, .int ((a1 >>> ((8 : Int32) &&& 31)) &&& (7 : Int32))), (3, .int ((a1 >>> ((5 : Int32) &&& 31)) &&& (7 : Int32))), (2, .int (5 : Int32)), (0, .ref yX), (1, .int a1)]) hx hb d_X_instruction_119 hl (by decide) rfl (fun ls hl => ?_)
  refine lv_iload_n hx hb d_X_instruction_121 rfl (lv_at hl 6 rfl) ?_
  refine lv_if_le (tgt := 146) hx hb d_X_instruction_122 (by decide) (fun hh => absurd hh (by decide)) (fun _ => ?_)
  refine lv_iload_n hx hb d_X_instruction_125 rfl (lv_at hl 6 rfl) ?_
  refine lv_bipush (v := (13 : Int32)) hx hb d_X_instruction_126 (by decide) ?_
  refine lv_icmp_ge (tgt := 146) hx hb d_X_instruction_128 (by decide) (fun hh => absurd hh (by decide)) (fun _ => ?_)
  refine lv_aload_n hx hb d_X_instruction_131 rfl (lv_at hl 7 rfl) ?_
  refine lv_iload_n hx hb d_X_instruction_132 rfl (lv_at hl 6 rfl) ?_
  refine lv_iload_n hx hb d_X_instruction_133 rfl (lv_at hl 5 rfl) ?_
  refine lv_iload hx hb d_X_instruction_134 (lv_at hl 4 rfl) ?_
  refine lv_iload hx hb d_X_instruction_136 (lv_at hl 3 rfl) ?_
  refine lv_iload hx hb d_X_instruction_138 (lv_at hl 2 rfl) ?_
  refine zz_cVv (rest := []) (wr := []) (w' := [oX yX yM yD yA yO yL yH yI v_x, ar cI yM 512 v_M, ar cI yD 8 (s_X_reckon5 v_x v_M v_d v_a v_o v_lo v_hi v_ri ((a1 >>> ((5 : Int32) &&& 31)) &&& (7 : Int32)) ((a1 >>> ((8 : Int32) &&& 31)) &&& (7 : Int32)) ((a1 >>> ((11 : Int32) &&& 31)) &&& (7 : Int32)) (a1 >>> ((16 : Int32) &&& 31))), ar cI yA 8 v_a, ar cI yO 4 v_o, ar cI yL 6 v_lo, ar cI yH 6 v_hi, ar cI yI 6 v_ri]) ⟨hx, hb, hml, hown, hts⟩ (k_X_reckon5 l D cI _ yX yM yD yA yO yL yH yI v_x v_M v_d v_a v_o v_lo v_hi v_ri ((a1 >>> ((5 : Int32) &&& 31)) &&& (7 : Int32)) ((a1 >>> ((8 : Int32) &&& 31)) &&& (7 : Int32)) ((a1 >>> ((11 : Int32) &&& 31)) &&& (7 : Int32)) (a1 >>> ((16 : Int32) &&& 31)) (zz_in7 _) (zz_in7 _) (zz_in7 _)) g_X_instruction_X_reckon_111 nv_X_reckon ⟨⟨rfl, rfl⟩, Nat.le_of_ble_eq_true rfl, Nat.le_of_ble_eq_true rfl⟩ hK [0] rfl hP hD hS hA [0, 1, 2, 3, 4, 5, 6, 7] [] [0, 1, 2, 3, 4, 5, 6, 7] rfl rfl rfl rfl (by decide) rfl rfl 0 6 rfl rfl rfl rfl hl.1 (Nat.le_of_ble_eq_true rfl) d_X_instruction_140 ⟨Nat.zero_le _, Nat.zero_le _⟩ (fun H locs hP hD hS => ?_)
  refine lv_goto (tgt := 244) hx hb d_X_instruction_143 (by decide) ?_
  refine lv_aload_n hx hb d_X_instruction_244 rfl (lv_at hl 7 rfl) ?_
  refine zz_get (C := R_X) (T := F_X) (N := 27) (v := .ref yO) hx hb hts in_X hown hK hP 0 rfl rfl 4 (by decide) mw_68 rfl d_X_instruction_245 ?_
  refine lv_iconst (v := (0 : Int32)) hx hb d_X_instruction_248 (by decide) ?_
  show W p l e _ s m args below meth c _ _ _ _ Q (F0 m 249 ls _)
  refine lv_aload_n hx hb d_X_instruction_249 rfl (lv_at hl 7 rfl) ?_
  refine zz_get (C := R_X) (T := F_X) (N := 27) (v := .int (v_x 19)) hx hb hts in_X hown hK hP 0 rfl rfl 26 (by decide) mw_79 rfl d_X_instruction_250 ?_
  have J253_2 : ∀ (vj253_0 : Int32) (ls : Array Slot) (H : Heap) (locs : List Loc), vj253_0 = (if (v_x 19) = 0 then (if (v_x 7) = 0 then (v_o (ix (0 : Int32))) else ((v_o (ix (0 : Int32))) + (1 : Int32))) else (v_o (ix (0 : Int32)))) → lv_has ls 9 [(8, .int ((v_o (ix (0 : Int32))) + (1 : Int32))), (7, .int (0 : Int32)), (6, .int (a1 >>> ((16 : Int32) &&& 31))), (5, .int ((a1 >>> ((11 : Int32) &&& 31)) &&& (7 : Int32))), (4, .int ((a1 >>> ((8 : Int32) &&& 31)) &&& (7 : Int32))), (3, .int ((a1 >>> ((5 : Int32) &&& 31)) &&& (7 : Int32))), (2, .int (5 : Int32)), (0, .ref yX), (1, .int a1)] → va_P D classes [oX yX yM yD yA yO yL yH yI v_x, ar cI yM 512 v_M, ar cI yD 8 (s_X_reckon5 v_x v_M v_d v_a v_o v_lo v_hi v_ri ((a1 >>> ((5 : Int32) &&& 31)) &&& (7 : Int32)) ((a1 >>> ((8 : Int32) &&& 31)) &&& (7 : Int32)) ((a1 >>> ((11 : Int32) &&& 31)) &&& (7 : Int32)) (a1 >>> ((16 : Int32) &&& 31))), ar cI yA 8 v_a, ar cI yO 4 v_o, ar cI yL 6 v_lo, ar cI yH 6 v_hi, ar cI yI 6 v_ri] H → va_D A [oX yX yM yD yA yO yL yH yI v_x, ar cI yM 512 v_M, ar cI yD 8 (s_X_reckon5 v_x v_M v_d v_a v_o v_lo v_hi v_ri ((a1 >>> ((5 : Int32) &&& 31)) &&& (7 : Int32)) ((a1 >>> ((8 : Int32) &&& 31)) &&& (7 : Int32)) ((a1 >>> ((11 : Int32) &&& 31)) &&& (7 : Int32)) (a1 >>> ((16 : Int32) &&& 31))), ar cI yA 8 v_a, ar cI yO 4 v_o, ar cI yL 6 v_lo, ar cI yH 6 v_hi, ar cI yI 6 v_ri] → va_S A s.heap H locs → W p l e { frames := 4, cells := 0, slots := 0, locals := 100 } s m args below meth c H locs 0 0 Q (F0 m 274 ls [.int vj253_0, .int (0 : Int32), .ref yO]) := by
    intro vj253_0 ls H locs evj253_0 hl hP hD hS
    subst evj253_0
    refine zz_iast (w' := [oX yX yM yD yA yO yL yH yI v_x, ar cI yM 512 v_M, ar cI yD 8 (s_X_reckon5 v_x v_M v_d v_a v_o v_lo v_hi v_ri ((a1 >>> ((5 : Int32) &&& 31)) &&& (7 : Int32)) ((a1 >>> ((8 : Int32) &&& 31)) &&& (7 : Int32)) ((a1 >>> ((11 : Int32) &&& 31)) &&& (7 : Int32)) (a1 >>> ((16 : Int32) &&& 31))), ar cI yA 8 v_a, ar cI yO 4 (upd v_o (ix (0 : Int32)) (if (v_x 19) = 0 then (if (v_x 7) = 0 then (v_o (ix (0 : Int32))) else ((v_o (ix (0 : Int32))) + (1 : Int32))) else (v_o (ix (0 : Int32))))), ar cI yL 6 v_lo, ar cI yH 6 v_hi, ar cI yI 6 v_ri]) hx hb hK hP hD hS 4 0 rfl rfl (zz_inc (by decide)) d_X_instruction_274 rfl (fun H locs hP hD hS => ?_)
    have hsp : s_X_instr5 v_x v_M v_d v_a v_o v_lo v_hi v_ri a1 = ((s_X_reckon5 v_x v_M v_d v_a v_o v_lo v_hi v_ri ((a1 >>> ((5 : Int32) &&& 31)) &&& (7 : Int32)) ((a1 >>> ((8 : Int32) &&& 31)) &&& (7 : Int32)) ((a1 >>> ((11 : Int32) &&& 31)) &&& (7 : Int32)) (a1 >>> ((16 : Int32) &&& 31))), upd v_o (ix (0 : Int32)) (if (v_x 19) = 0 then (if (v_x 7) = 0 then (v_o (ix (0 : Int32))) else ((v_o (ix (0 : Int32))) + (1 : Int32))) else (v_o (ix (0 : Int32))))) := rfl
    rw [hsp] at hE
    exact hE _ _ _ _ hP hD hS d_X_instruction_275
  refine lv_if_ne (tgt := 268) hx hb d_X_instruction_253 (by decide) (fun h1 => ?_) (fun h1 => ?_)
  ·
    refine lv_aload_n hx hb d_X_instruction_268 rfl (lv_at hl 7 rfl) ?_
    refine zz_get (C := R_X) (T := F_X) (N := 27) (v := .ref yO) hx hb hts in_X hown hK hP 0 rfl rfl 4 (by decide) mw_68 rfl d_X_instruction_269 ?_
    refine lv_iconst (v := (0 : Int32)) hx hb d_X_instruction_272 (by decide) ?_
    refine va_iald hx hb hK hP 4 0 rfl rfl (zz_inc (by decide)) d_X_instruction_273 ?_
    exact J253_2 (v_o (ix (0 : Int32))) _ _ _ (by rw [if_neg h1]) (lv_sub hl [0, 1, 2, 3, 4, 5, 6, 7, 8] rfl) hP hD hS
  ·
    refine lv_aload_n hx hb d_X_instruction_256 rfl (lv_at hl 7 rfl) ?_
    refine zz_get (C := R_X) (T := F_X) (N := 27) (v := .int (v_x 7)) hx hb hts in_X hown hK hP 0 rfl rfl 11 (by decide) mw_78 rfl d_X_instruction_257 ?_
    refine lv_if_eq (tgt := 268) hx hb d_X_instruction_260 (by decide) (fun h2 => ?_) (fun h2 => ?_)
    ·
      refine lv_aload_n hx hb d_X_instruction_268 rfl (lv_at hl 7 rfl) ?_
      refine zz_get (C := R_X) (T := F_X) (N := 27) (v := .ref yO) hx hb hts in_X hown hK hP 0 rfl rfl 4 (by decide) mw_68 rfl d_X_instruction_269 ?_
      refine lv_iconst (v := (0 : Int32)) hx hb d_X_instruction_272 (by decide) ?_
      refine va_iald hx hb hK hP 4 0 rfl rfl (zz_inc (by decide)) d_X_instruction_273 ?_
      exact J253_2 (v_o (ix (0 : Int32))) _ _ _ (by rw [if_pos h1, if_pos h2]) (lv_sub hl [0, 1, 2, 3, 4, 5, 6, 7, 8] rfl) hP hD hS
    ·
      refine lv_iload hx hb d_X_instruction_263 (lv_at hl 0 rfl) ?_
      refine lv_goto (tgt := 274) hx hb d_X_instruction_265 (by decide) ?_
      exact J253_2 ((v_o (ix (0 : Int32))) + (1 : Int32)) _ _ _ (by rw [if_pos h1, if_neg h2]) (lv_sub hl [0, 1, 2, 3, 4, 5, 6, 7, 8] rfl) hP hD hS
set_option maxHeartbeats 4000000 in
set_option maxRecDepth 100000 in
theorem k_X_instr6 (l : Launch) (D : va_G) (cI : ClassId) (sz : Nat) (yX : Nat) (yM : Nat) (yD : Nat) (yA : Nat) (yO : Nat) (yL : Nat) (yH : Nat) (yI : Nat) (v_x : Nat → Int32) (v_M : Nat → Int32) (v_d : Nat → Int32) (v_a : Nat → Int32) (v_o : Nat → Int32) (v_lo : Nat → Int32) (v_hi : Nat → Int32) (v_ri : Nat → Int32) (a1 : Int32) (hop : (a1 &&& (31 : Int32)) = (6 : Int32)) : zMv l y_X_instruction (.code y_X_instruction b_X_instruction 9 (none) :: wd) { frames := 4, cells := 0, slots := 0, locals := 100 } D classes [(cI, .int)] [.ref yX, .int a1] [oX yX yM yD yA yO yL yH yI v_x, ar cI yM 512 v_M, ar cI yD 8 v_d, ar cI yA 8 v_a, ar cI yO 4 v_o, ar cI yL 6 v_lo, ar cI yH 6 v_hi, ar cI yI 6 v_ri] [oX yX yM yD yA yO yL yH yI v_x, ar cI yM 512 v_M, ar cI yD 8 ((s_X_instr6 v_x v_M v_d v_a v_o v_lo v_hi v_ri a1).1), ar cI yA 8 v_a, ar cI yO 4 ((s_X_instr6 v_x v_M v_d v_a v_o v_lo v_hi v_ri a1).2), ar cI yL 6 v_lo, ar cI yH 6 v_hi, ar cI yI 6 v_ri] sz := by
  refine met_v (by decide) (Nat.le_of_ble_eq_true rfl) ?_
  intro p e s m args below meth c A Q ls hx hb hml hown hts hK hP hD hS hA hl hE
  have hl : lv_has ls 9 [(0, .ref yX), (1, .int a1)] := hl
  have hown : s.vm.findClass R_X = some m.cls := hown
  refine lv_iload_n hx hb d_X_instruction_0 rfl (lv_at hl 1 rfl) ?_
  refine lv_bipush (v := (31 : Int32)) hx hb d_X_instruction_1 (by decide) ?_
  refine lv_iand hx hb d_X_instruction_3 ?_
  refine lv_topi (fun zz ez => ?_)
  obtain rfl : zz = (6 : Int32) := ez.trans hop
  refine lv_istore_n (lv' := [(2, .int (6 : Int32)), (0, .ref yX), (1, .int a1)]) hx hb d_X_instruction_4 rfl hl (by decide) rfl (fun ls hl => ?_)
  refine lv_iload_n hx hb d_X_instruction_5 rfl (lv_at hl 2 rfl) ?_
  refine lv_iconst (v := (5 : Int32)) hx hb d_X_instruction_6 (by decide) ?_
  refine lv_ishr hx hb d_X_instruction_7 ?_
  refine lv_bipush (v := (7 : Int32)) hx hb d_X_instruction_8 (by decide) ?_
  refine lv_iand hx hb d_X_instruction_10 ?_
  refine lv_istore_n (lv' := [(3, .int ((a1 >>> ((5 : Int32) &&& 31)) &&& (7 : Int32))), (2, .int (6 : Int32)), (0, .ref yX), (1, .int a1)]) hx hb d_X_instruction_11 rfl hl (by decide) rfl (fun ls hl => ?_)
  refine lv_iload_n hx hb d_X_instruction_12 rfl (lv_at hl 3 rfl) ?_
  show W p l e _ s m args below meth c _ _ _ _ Q (F0 m 13 ls _)
  refine lv_bipush (v := (8 : Int32)) hx hb d_X_instruction_13 (by decide) ?_
  refine lv_ishr hx hb d_X_instruction_15 ?_
  refine lv_bipush (v := (7 : Int32)) hx hb d_X_instruction_16 (by decide) ?_
  refine lv_iand hx hb d_X_instruction_18 ?_
  refine lv_istore (lv' := [(4, .int ((a1 >>> ((8 : Int32) &&& 31)) &&& (7 : Int32))), (3, .int ((a1 >>> ((5 : Int32) &&& 31)) &&& (7 : Int32))), (2, .int (6 : Int32)), (0, .ref yX), (1, .int a1)]) hx hb d_X_instruction_19 hl (by decide) rfl (fun ls hl => ?_)
  refine lv_iload_n hx hb d_X_instruction_21 rfl (lv_at hl 4 rfl) ?_
  refine lv_bipush (v := (11 : Int32)) hx hb d_X_instruction_22 (by decide) ?_
  refine lv_ishr hx hb d_X_instruction_24 ?_
  refine lv_bipush (v := (7 : Int32)) hx hb d_X_instruction_25 (by decide) ?_
  refine lv_iand hx hb d_X_instruction_27 ?_
  refine lv_istore (lv' := [(5, .int ((a1 >>> ((11 : Int32) &&& 31)) &&& (7 : Int32))), (4, .int ((a1 >>> ((8 : Int32) &&& 31)) &&& (7 : Int32))), (3, .int ((a1 >>> ((5 : Int32) &&& 31)) &&& (7 : Int32))), (2, .int (6 : Int32)), (0, .ref yX), (1, .int a1)]) hx hb d_X_instruction_28 hl (by decide) rfl (fun ls hl => ?_)
  refine lv_iload_n hx hb d_X_instruction_30 rfl (lv_at hl 5 rfl) ?_
  show W p l e _ s m args below meth c _ _ _ _ Q (F0 m 31 ls _)
  refine lv_bipush (v := (16 : Int32)) hx hb d_X_instruction_31 (by decide) ?_
  refine lv_ishr hx hb d_X_instruction_33 ?_
  refine lv_istore (lv' := [(6, .int (a1 >>> ((16 : Int32) &&& 31))), (5, .int ((a1 >>> ((11 : Int32) &&& 31)) &&& (7 : Int32))), (4, .int ((a1 >>> ((8 : Int32) &&& 31)) &&& (7 : Int32))), (3, .int ((a1 >>> ((5 : Int32) &&& 31)) &&& (7 : Int32))), (2, .int (6 : Int32)), (0, .ref yX), (1, .int a1)]) hx hb d_X_instruction_34 hl (by decide) rfl (fun ls hl => ?_)
  refine lv_iload_n hx hb d_X_instruction_36 rfl (lv_at hl 4 rfl) ?_
  refine lv_bipush (v := (25 : Int32)) hx hb d_X_instruction_37 (by decide) ?_
  refine lv_icmp_eq (tgt := 66) hx hb d_X_instruction_39 (by decide) (fun hh => absurd hh (by decide)) (fun _ => ?_)
  refine lv_iload_n hx hb d_X_instruction_42 rfl (lv_at hl 4 rfl) ?_
  refine lv_bipush (v := (26 : Int32)) hx hb d_X_instruction_43 (by decide) ?_
  refine lv_icmp_eq (tgt := 66) hx hb d_X_instruction_45 (by decide) (fun hh => absurd hh (by decide)) (fun _ => ?_)
  refine lv_iload_n hx hb d_X_instruction_48 rfl (lv_at hl 4 rfl) ?_
  refine lv_bipush (v := (28 : Int32)) hx hb d_X_instruction_49 (by decide) ?_
  refine lv_icmp_eq (tgt := 66) hx hb d_X_instruction_51 (by decide) (fun hh => absurd hh (by decide)) (fun _ => ?_)
  refine lv_iload_n hx hb d_X_instruction_54 rfl (lv_at hl 4 rfl) ?_
  refine lv_bipush (v := (29 : Int32)) hx hb d_X_instruction_55 (by decide) ?_
  refine lv_icmp_eq (tgt := 66) hx hb d_X_instruction_57 (by decide) (fun hh => absurd hh (by decide)) (fun _ => ?_)
  refine lv_iload_n hx hb d_X_instruction_60 rfl (lv_at hl 4 rfl) ?_
  refine lv_bipush (v := (31 : Int32)) hx hb d_X_instruction_61 (by decide) ?_
  refine lv_icmp_ne (tgt := 70) hx hb d_X_instruction_63 (by decide) (fun _ => ?_) (fun hh => absurd hh (by decide))
  refine lv_iconst (v := (0 : Int32)) hx hb d_X_instruction_70 (by decide) ?_
  refine lv_istore (lv' := [(7, .int (0 : Int32)), (6, .int (a1 >>> ((16 : Int32) &&& 31))), (5, .int ((a1 >>> ((11 : Int32) &&& 31)) &&& (7 : Int32))), (4, .int ((a1 >>> ((8 : Int32) &&& 31)) &&& (7 : Int32))), (3, .int ((a1 >>> ((5 : Int32) &&& 31)) &&& (7 : Int32))), (2, .int (6 : Int32)), (0, .ref yX), (1, .int a1)]) hx hb d_X_instruction_71 hl (by decide) rfl (fun ls hl => ?_)
  refine lv_iload hx hb d_X_instruction_73 (lv_at hl 0 rfl) ?_
  refine lv_if_eq (tgt := 86) hx hb d_X_instruction_75 (by decide) (fun _ => ?_) (fun hh => absurd hh (by decide))
  refine lv_iload_n hx hb d_X_instruction_86 rfl (lv_at hl 5 rfl) ?_
  refine lv_bipush (v := (30 : Int32)) hx hb d_X_instruction_87 (by decide) ?_
  refine lv_icmp_ne (tgt := 111) hx hb d_X_instruction_89 (by decide) (fun _ => ?_) (fun hh => absurd hh (by decide))
  refine lv_aload_n hx hb d_X_instruction_111 rfl (lv_at hl 6 rfl) ?_
  refine zz_get (C := R_X) (T := F_X) (N := 27) (v := .ref yO) hx hb hts in_X hown hK hP 0 rfl rfl 4 (by decide) mw_68 rfl d_X_instruction_112 ?_
  refine lv_iconst (v := (0 : Int32)) hx hb d_X_instruction_115 (by decide) ?_
  refine va_iald hx hb hK hP 4 0 rfl rfl (zz_inc (by decide)) d_X_instruction_116 ?_
  refine lv_iconst (v := (1 : Int32)) hx hb d_X_instruction_117 (by decide) ?_
  refine lv_iadd hx hb d_X_instruction_118 ?_
  refine lv_istore (lv' := [(8, .int ((v_o (ix (0 : Int32))) + (1 : Int32))), (7, .int (0 : Int32)), (6, .int (a1 >>> ((16 : Int32) &&& 31))), (5, .int ((a1 >>> ((11 : Int32) &&& 31)) &&& (7 : Int32))), (4, .int ((a1 >>> ((8 : Int32) &&& 31)) &&& (7 : Int32))), (3, .int ((a1 >>> ((5 : Int32) &&& 31)) &&& (7 : Int32))), (2, .int (6 : Int32)), (0, .ref yX), (1, .int a1)]) hx hb d_X_instruction_119 hl (by decide) rfl (fun ls hl => ?_)
  refine lv_iload_n hx hb d_X_instruction_121 rfl (lv_at hl 6 rfl) ?_
  refine lv_if_le (tgt := 146) hx hb d_X_instruction_122 (by decide) (fun hh => absurd hh (by decide)) (fun _ => ?_)
  refine lv_iload_n hx hb d_X_instruction_125 rfl (lv_at hl 6 rfl) ?_
  refine lv_bipush (v := (13 : Int32)) hx hb d_X_instruction_126 (by decide) ?_
  refine lv_icmp_ge (tgt := 146) hx hb d_X_instruction_128 (by decide) (fun hh => absurd hh (by decide)) (fun _ => ?_)
  refine lv_aload_n hx hb d_X_instruction_131 rfl (lv_at hl 7 rfl) ?_
  refine lv_iload_n hx hb d_X_instruction_132 rfl (lv_at hl 6 rfl) ?_
  refine lv_iload_n hx hb d_X_instruction_133 rfl (lv_at hl 5 rfl) ?_
  refine lv_iload hx hb d_X_instruction_134 (lv_at hl 4 rfl) ?_
  refine lv_iload hx hb d_X_instruction_136 (lv_at hl 3 rfl) ?_
  refine lv_iload hx hb d_X_instruction_138 (lv_at hl 2 rfl) ?_
  refine zz_cVv (rest := []) (wr := []) (w' := [oX yX yM yD yA yO yL yH yI v_x, ar cI yM 512 v_M, ar cI yD 8 (s_X_reckon6 v_x v_M v_d v_a v_o v_lo v_hi v_ri ((a1 >>> ((5 : Int32) &&& 31)) &&& (7 : Int32)) ((a1 >>> ((8 : Int32) &&& 31)) &&& (7 : Int32)) ((a1 >>> ((11 : Int32) &&& 31)) &&& (7 : Int32)) (a1 >>> ((16 : Int32) &&& 31))), ar cI yA 8 v_a, ar cI yO 4 v_o, ar cI yL 6 v_lo, ar cI yH 6 v_hi, ar cI yI 6 v_ri]) ⟨hx, hb, hml, hown, hts⟩ (k_X_reckon6 l D cI _ yX yM yD yA yO yL yH yI v_x v_M v_d v_a v_o v_lo v_hi v_ri ((a1 >>> ((5 : Int32) &&& 31)) &&& (7 : Int32)) ((a1 >>> ((8 : Int32) &&& 31)) &&& (7 : Int32)) ((a1 >>> ((11 : Int32) &&& 31)) &&& (7 : Int32)) (a1 >>> ((16 : Int32) &&& 31)) (zz_in7 _) (zz_in7 _) (zz_in7 _)) g_X_instruction_X_reckon_111 nv_X_reckon ⟨⟨rfl, rfl⟩, Nat.le_of_ble_eq_true rfl, Nat.le_of_ble_eq_true rfl⟩ hK [0] rfl hP hD hS hA [0, 1, 2, 3, 4, 5, 6, 7] [] [0, 1, 2, 3, 4, 5, 6, 7] rfl rfl rfl rfl (by decide) rfl rfl 0 6 rfl rfl rfl rfl hl.1 (Nat.le_of_ble_eq_true rfl) d_X_instruction_140 ⟨Nat.zero_le _, Nat.zero_le _⟩ (fun H locs hP hD hS => ?_)
  refine lv_goto (tgt := 244) hx hb d_X_instruction_143 (by decide) ?_
  refine lv_aload_n hx hb d_X_instruction_244 rfl (lv_at hl 7 rfl) ?_
  refine zz_get (C := R_X) (T := F_X) (N := 27) (v := .ref yO) hx hb hts in_X hown hK hP 0 rfl rfl 4 (by decide) mw_68 rfl d_X_instruction_245 ?_
  refine lv_iconst (v := (0 : Int32)) hx hb d_X_instruction_248 (by decide) ?_
  show W p l e _ s m args below meth c _ _ _ _ Q (F0 m 249 ls _)
  refine lv_aload_n hx hb d_X_instruction_249 rfl (lv_at hl 7 rfl) ?_
  refine zz_get (C := R_X) (T := F_X) (N := 27) (v := .int (v_x 19)) hx hb hts in_X hown hK hP 0 rfl rfl 26 (by decide) mw_79 rfl d_X_instruction_250 ?_
  have J253_2 : ∀ (vj253_0 : Int32) (ls : Array Slot) (H : Heap) (locs : List Loc), vj253_0 = (if (v_x 19) = 0 then (if (v_x 7) = 0 then (v_o (ix (0 : Int32))) else ((v_o (ix (0 : Int32))) + (1 : Int32))) else (v_o (ix (0 : Int32)))) → lv_has ls 9 [(8, .int ((v_o (ix (0 : Int32))) + (1 : Int32))), (7, .int (0 : Int32)), (6, .int (a1 >>> ((16 : Int32) &&& 31))), (5, .int ((a1 >>> ((11 : Int32) &&& 31)) &&& (7 : Int32))), (4, .int ((a1 >>> ((8 : Int32) &&& 31)) &&& (7 : Int32))), (3, .int ((a1 >>> ((5 : Int32) &&& 31)) &&& (7 : Int32))), (2, .int (6 : Int32)), (0, .ref yX), (1, .int a1)] → va_P D classes [oX yX yM yD yA yO yL yH yI v_x, ar cI yM 512 v_M, ar cI yD 8 (s_X_reckon6 v_x v_M v_d v_a v_o v_lo v_hi v_ri ((a1 >>> ((5 : Int32) &&& 31)) &&& (7 : Int32)) ((a1 >>> ((8 : Int32) &&& 31)) &&& (7 : Int32)) ((a1 >>> ((11 : Int32) &&& 31)) &&& (7 : Int32)) (a1 >>> ((16 : Int32) &&& 31))), ar cI yA 8 v_a, ar cI yO 4 v_o, ar cI yL 6 v_lo, ar cI yH 6 v_hi, ar cI yI 6 v_ri] H → va_D A [oX yX yM yD yA yO yL yH yI v_x, ar cI yM 512 v_M, ar cI yD 8 (s_X_reckon6 v_x v_M v_d v_a v_o v_lo v_hi v_ri ((a1 >>> ((5 : Int32) &&& 31)) &&& (7 : Int32)) ((a1 >>> ((8 : Int32) &&& 31)) &&& (7 : Int32)) ((a1 >>> ((11 : Int32) &&& 31)) &&& (7 : Int32)) (a1 >>> ((16 : Int32) &&& 31))), ar cI yA 8 v_a, ar cI yO 4 v_o, ar cI yL 6 v_lo, ar cI yH 6 v_hi, ar cI yI 6 v_ri] → va_S A s.heap H locs → W p l e { frames := 4, cells := 0, slots := 0, locals := 100 } s m args below meth c H locs 0 0 Q (F0 m 274 ls [.int vj253_0, .int (0 : Int32), .ref yO]) := by
    intro vj253_0 ls H locs evj253_0 hl hP hD hS
    subst evj253_0
    refine zz_iast (w' := [oX yX yM yD yA yO yL yH yI v_x, ar cI yM 512 v_M, ar cI yD 8 (s_X_reckon6 v_x v_M v_d v_a v_o v_lo v_hi v_ri ((a1 >>> ((5 : Int32) &&& 31)) &&& (7 : Int32)) ((a1 >>> ((8 : Int32) &&& 31)) &&& (7 : Int32)) ((a1 >>> ((11 : Int32) &&& 31)) &&& (7 : Int32)) (a1 >>> ((16 : Int32) &&& 31))), ar cI yA 8 v_a, ar cI yO 4 (upd v_o (ix (0 : Int32)) (if (v_x 19) = 0 then (if (v_x 7) = 0 then (v_o (ix (0 : Int32))) else ((v_o (ix (0 : Int32))) + (1 : Int32))) else (v_o (ix (0 : Int32))))), ar cI yL 6 v_lo, ar cI yH 6 v_hi, ar cI yI 6 v_ri]) hx hb hK hP hD hS 4 0 rfl rfl (zz_inc (by decide)) d_X_instruction_274 rfl (fun H locs hP hD hS => ?_)
    have hsp : s_X_instr6 v_x v_M v_d v_a v_o v_lo v_hi v_ri a1 = ((s_X_reckon6 v_x v_M v_d v_a v_o v_lo v_hi v_ri ((a1 >>> ((5 : Int32) &&& 31)) &&& (7 : Int32)) ((a1 >>> ((8 : Int32) &&& 31)) &&& (7 : Int32)) ((a1 >>> ((11 : Int32) &&& 31)) &&& (7 : Int32)) (a1 >>> ((16 : Int32) &&& 31))), upd v_o (ix (0 : Int32)) (if (v_x 19) = 0 then (if (v_x 7) = 0 then (v_o (ix (0 : Int32))) else ((v_o (ix (0 : Int32))) + (1 : Int32))) else (v_o (ix (0 : Int32))))) := rfl
    rw [hsp] at hE
    exact hE _ _ _ _ hP hD hS d_X_instruction_275
  refine lv_if_ne (tgt := 268) hx hb d_X_instruction_253 (by decide) (fun h1 => ?_) (fun h1 => ?_)
  ·
    refine lv_aload_n hx hb d_X_instruction_268 rfl (lv_at hl 7 rfl) ?_
    refine zz_get (C := R_X) (T := F_X) (N := 27) (v := .ref yO) hx hb hts in_X hown hK hP 0 rfl rfl 4 (by decide) mw_68 rfl d_X_instruction_269 ?_
    refine lv_iconst (v := (0 : Int32)) hx hb d_X_instruction_272 (by decide) ?_
    refine va_iald hx hb hK hP 4 0 rfl rfl (zz_inc (by decide)) d_X_instruction_273 ?_
    exact J253_2 (v_o (ix (0 : Int32))) _ _ _ (by rw [if_neg h1]) (lv_sub hl [0, 1, 2, 3, 4, 5, 6, 7, 8] rfl) hP hD hS
  ·
    refine lv_aload_n hx hb d_X_instruction_256 rfl (lv_at hl 7 rfl) ?_
    refine zz_get (C := R_X) (T := F_X) (N := 27) (v := .int (v_x 7)) hx hb hts in_X hown hK hP 0 rfl rfl 11 (by decide) mw_78 rfl d_X_instruction_257 ?_
    refine lv_if_eq (tgt := 268) hx hb d_X_instruction_260 (by decide) (fun h2 => ?_) (fun h2 => ?_)
    ·
      refine lv_aload_n hx hb d_X_instruction_268 rfl (lv_at hl 7 rfl) ?_
      refine zz_get (C := R_X) (T := F_X) (N := 27) (v := .ref yO) hx hb hts in_X hown hK hP 0 rfl rfl 4 (by decide) mw_68 rfl d_X_instruction_269 ?_
      refine lv_iconst (v := (0 : Int32)) hx hb d_X_instruction_272 (by decide) ?_
      refine va_iald hx hb hK hP 4 0 rfl rfl (zz_inc (by decide)) d_X_instruction_273 ?_
      exact J253_2 (v_o (ix (0 : Int32))) _ _ _ (by rw [if_pos h1, if_pos h2]) (lv_sub hl [0, 1, 2, 3, 4, 5, 6, 7, 8] rfl) hP hD hS
    ·
      refine lv_iload hx hb d_X_instruction_263 (lv_at hl 0 rfl) ?_
      refine lv_goto (tgt := 274) hx hb d_X_instruction_265 (by decide) ?_
      exact J253_2 ((v_o (ix (0 : Int32))) + (1 : Int32)) _ _ _ (by rw [if_pos h1, if_neg h2]) (lv_sub hl [0, 1, 2, 3, 4, 5, 6, 7, 8] rfl) hP hD hS
set_option maxHeartbeats 4000000 in
set_option maxRecDepth 100000 in
theorem k_X_instr7 (l : Launch) (D : va_G) (cI : ClassId) (sz : Nat) (yX : Nat) (yM : Nat) (yD : Nat) (yA : Nat) (yO : Nat) (yL : Nat) (yH : Nat) (yI : Nat) (v_x : Nat → Int32) (v_M : Nat → Int32) (v_d : Nat → Int32) (v_a : Nat → Int32) (v_o : Nat → Int32) (v_lo : Nat → Int32) (v_hi : Nat → Int32) (v_ri : Nat → Int32) (a1 : Int32) (hop : (a1 &&& (31 : Int32)) = (7 : Int32)) : zMv l y_X_instruction (.code y_X_instruction b_X_instruction 9 (none) :: wd) { frames := 4, cells := 0, slots := 0, locals := 100 } D classes [(cI, .int)] [.ref yX, .int a1] [oX yX yM yD yA yO yL yH yI v_x, ar cI yM 512 v_M, ar cI yD 8 v_d, ar cI yA 8 v_a, ar cI yO 4 v_o, ar cI yL 6 v_lo, ar cI yH 6 v_hi, ar cI yI 6 v_ri] [oX yX yM yD yA yO yL yH yI v_x, ar cI yM 512 v_M, ar cI yD 8 ((s_X_instr7 v_x v_M v_d v_a v_o v_lo v_hi v_ri a1).1), ar cI yA 8 v_a, ar cI yO 4 ((s_X_instr7 v_x v_M v_d v_a v_o v_lo v_hi v_ri a1).2), ar cI yL 6 v_lo, ar cI yH 6 v_hi, ar cI yI 6 v_ri] sz := by
  refine met_v (by decide) (Nat.le_of_ble_eq_true rfl) ?_
  intro p e s m args below meth c A Q ls hx hb hml hown hts hK hP hD hS hA hl hE
  have hl : lv_has ls 9 [(0, .ref yX), (1, .int a1)] := hl
  have hown : s.vm.findClass R_X = some m.cls := hown
  refine lv_iload_n hx hb d_X_instruction_0 rfl (lv_at hl 1 rfl) ?_
  refine lv_bipush (v := (31 : Int32)) hx hb d_X_instruction_1 (by decide) ?_
  refine lv_iand hx hb d_X_instruction_3 ?_
  refine lv_topi (fun zz ez => ?_)
  obtain rfl : zz = (7 : Int32) := ez.trans hop
  refine lv_istore_n (lv' := [(2, .int (7 : Int32)), (0, .ref yX), (1, .int a1)]) hx hb d_X_instruction_4 rfl hl (by decide) rfl (fun ls hl => ?_)
  refine lv_iload_n hx hb d_X_instruction_5 rfl (lv_at hl 2 rfl) ?_
  refine lv_iconst (v := (5 : Int32)) hx hb d_X_instruction_6 (by decide) ?_
  refine lv_ishr hx hb d_X_instruction_7 ?_
  refine lv_bipush (v := (7 : Int32)) hx hb d_X_instruction_8 (by decide) ?_
  refine lv_iand hx hb d_X_instruction_10 ?_
  refine lv_istore_n (lv' := [(3, .int ((a1 >>> ((5 : Int32) &&& 31)) &&& (7 : Int32))), (2, .int (7 : Int32)), (0, .ref yX), (1, .int a1)]) hx hb d_X_instruction_11 rfl hl (by decide) rfl (fun ls hl => ?_)
  refine lv_iload_n hx hb d_X_instruction_12 rfl (lv_at hl 3 rfl) ?_
  show W p l e _ s m args below meth c _ _ _ _ Q (F0 m 13 ls _)
  refine lv_bipush (v := (8 : Int32)) hx hb d_X_instruction_13 (by decide) ?_
  refine lv_ishr hx hb d_X_instruction_15 ?_
  refine lv_bipush (v := (7 : Int32)) hx hb d_X_instruction_16 (by decide) ?_
  refine lv_iand hx hb d_X_instruction_18 ?_
  refine lv_istore (lv' := [(4, .int ((a1 >>> ((8 : Int32) &&& 31)) &&& (7 : Int32))), (3, .int ((a1 >>> ((5 : Int32) &&& 31)) &&& (7 : Int32))), (2, .int (7 : Int32)), (0, .ref yX), (1, .int a1)]) hx hb d_X_instruction_19 hl (by decide) rfl (fun ls hl => ?_)
  refine lv_iload_n hx hb d_X_instruction_21 rfl (lv_at hl 4 rfl) ?_
  refine lv_bipush (v := (11 : Int32)) hx hb d_X_instruction_22 (by decide) ?_
  refine lv_ishr hx hb d_X_instruction_24 ?_
  refine lv_bipush (v := (7 : Int32)) hx hb d_X_instruction_25 (by decide) ?_
  refine lv_iand hx hb d_X_instruction_27 ?_
  refine lv_istore (lv' := [(5, .int ((a1 >>> ((11 : Int32) &&& 31)) &&& (7 : Int32))), (4, .int ((a1 >>> ((8 : Int32) &&& 31)) &&& (7 : Int32))), (3, .int ((a1 >>> ((5 : Int32) &&& 31)) &&& (7 : Int32))), (2, .int (7 : Int32)), (0, .ref yX), (1, .int a1)]) hx hb d_X_instruction_28 hl (by decide) rfl (fun ls hl => ?_)
  refine lv_iload_n hx hb d_X_instruction_30 rfl (lv_at hl 5 rfl) ?_
  show W p l e _ s m args below meth c _ _ _ _ Q (F0 m 31 ls _)
  refine lv_bipush (v := (16 : Int32)) hx hb d_X_instruction_31 (by decide) ?_
  refine lv_ishr hx hb d_X_instruction_33 ?_
  refine lv_istore (lv' := [(6, .int (a1 >>> ((16 : Int32) &&& 31))), (5, .int ((a1 >>> ((11 : Int32) &&& 31)) &&& (7 : Int32))), (4, .int ((a1 >>> ((8 : Int32) &&& 31)) &&& (7 : Int32))), (3, .int ((a1 >>> ((5 : Int32) &&& 31)) &&& (7 : Int32))), (2, .int (7 : Int32)), (0, .ref yX), (1, .int a1)]) hx hb d_X_instruction_34 hl (by decide) rfl (fun ls hl => ?_)
  refine lv_iload_n hx hb d_X_instruction_36 rfl (lv_at hl 4 rfl) ?_
  refine lv_bipush (v := (25 : Int32)) hx hb d_X_instruction_37 (by decide) ?_
  refine lv_icmp_eq (tgt := 66) hx hb d_X_instruction_39 (by decide) (fun hh => absurd hh (by decide)) (fun _ => ?_)
  refine lv_iload_n hx hb d_X_instruction_42 rfl (lv_at hl 4 rfl) ?_
  refine lv_bipush (v := (26 : Int32)) hx hb d_X_instruction_43 (by decide) ?_
  refine lv_icmp_eq (tgt := 66) hx hb d_X_instruction_45 (by decide) (fun hh => absurd hh (by decide)) (fun _ => ?_)
  refine lv_iload_n hx hb d_X_instruction_48 rfl (lv_at hl 4 rfl) ?_
  refine lv_bipush (v := (28 : Int32)) hx hb d_X_instruction_49 (by decide) ?_
  refine lv_icmp_eq (tgt := 66) hx hb d_X_instruction_51 (by decide) (fun hh => absurd hh (by decide)) (fun _ => ?_)
  refine lv_iload_n hx hb d_X_instruction_54 rfl (lv_at hl 4 rfl) ?_
  refine lv_bipush (v := (29 : Int32)) hx hb d_X_instruction_55 (by decide) ?_
  refine lv_icmp_eq (tgt := 66) hx hb d_X_instruction_57 (by decide) (fun hh => absurd hh (by decide)) (fun _ => ?_)
  refine lv_iload_n hx hb d_X_instruction_60 rfl (lv_at hl 4 rfl) ?_
  refine lv_bipush (v := (31 : Int32)) hx hb d_X_instruction_61 (by decide) ?_
  refine lv_icmp_ne (tgt := 70) hx hb d_X_instruction_63 (by decide) (fun _ => ?_) (fun hh => absurd hh (by decide))
  refine lv_iconst (v := (0 : Int32)) hx hb d_X_instruction_70 (by decide) ?_
  refine lv_istore (lv' := [(7, .int (0 : Int32)), (6, .int (a1 >>> ((16 : Int32) &&& 31))), (5, .int ((a1 >>> ((11 : Int32) &&& 31)) &&& (7 : Int32))), (4, .int ((a1 >>> ((8 : Int32) &&& 31)) &&& (7 : Int32))), (3, .int ((a1 >>> ((5 : Int32) &&& 31)) &&& (7 : Int32))), (2, .int (7 : Int32)), (0, .ref yX), (1, .int a1)]) hx hb d_X_instruction_71 hl (by decide) rfl (fun ls hl => ?_)
  refine lv_iload hx hb d_X_instruction_73 (lv_at hl 0 rfl) ?_
  refine lv_if_eq (tgt := 86) hx hb d_X_instruction_75 (by decide) (fun _ => ?_) (fun hh => absurd hh (by decide))
  refine lv_iload_n hx hb d_X_instruction_86 rfl (lv_at hl 5 rfl) ?_
  refine lv_bipush (v := (30 : Int32)) hx hb d_X_instruction_87 (by decide) ?_
  refine lv_icmp_ne (tgt := 111) hx hb d_X_instruction_89 (by decide) (fun _ => ?_) (fun hh => absurd hh (by decide))
  refine lv_aload_n hx hb d_X_instruction_111 rfl (lv_at hl 6 rfl) ?_
  refine zz_get (C := R_X) (T := F_X) (N := 27) (v := .ref yO) hx hb hts in_X hown hK hP 0 rfl rfl 4 (by decide) mw_68 rfl d_X_instruction_112 ?_
  refine lv_iconst (v := (0 : Int32)) hx hb d_X_instruction_115 (by decide) ?_
  refine va_iald hx hb hK hP 4 0 rfl rfl (zz_inc (by decide)) d_X_instruction_116 ?_
  refine lv_iconst (v := (1 : Int32)) hx hb d_X_instruction_117 (by decide) ?_
  refine lv_iadd hx hb d_X_instruction_118 ?_
  refine lv_istore (lv' := [(8, .int ((v_o (ix (0 : Int32))) + (1 : Int32))), (7, .int (0 : Int32)), (6, .int (a1 >>> ((16 : Int32) &&& 31))), (5, .int ((a1 >>> ((11 : Int32) &&& 31)) &&& (7 : Int32))), (4, .int ((a1 >>> ((8 : Int32) &&& 31)) &&& (7 : Int32))), (3, .int ((a1 >>> ((5 : Int32) &&& 31)) &&& (7 : Int32))), (2, .int (7 : Int32)), (0, .ref yX), (1, .int a1)]) hx hb d_X_instruction_119 hl (by decide) rfl (fun ls hl => ?_)
  refine lv_iload_n hx hb d_X_instruction_121 rfl (lv_at hl 6 rfl) ?_
  refine lv_if_le (tgt := 146) hx hb d_X_instruction_122 (by decide) (fun hh => absurd hh (by decide)) (fun _ => ?_)
  refine lv_iload_n hx hb d_X_instruction_125 rfl (lv_at hl 6 rfl) ?_
  refine lv_bipush (v := (13 : Int32)) hx hb d_X_instruction_126 (by decide) ?_
  refine lv_icmp_ge (tgt := 146) hx hb d_X_instruction_128 (by decide) (fun hh => absurd hh (by decide)) (fun _ => ?_)
  refine lv_aload_n hx hb d_X_instruction_131 rfl (lv_at hl 7 rfl) ?_
  refine lv_iload_n hx hb d_X_instruction_132 rfl (lv_at hl 6 rfl) ?_
  refine lv_iload_n hx hb d_X_instruction_133 rfl (lv_at hl 5 rfl) ?_
  refine lv_iload hx hb d_X_instruction_134 (lv_at hl 4 rfl) ?_
  refine lv_iload hx hb d_X_instruction_136 (lv_at hl 3 rfl) ?_
  refine lv_iload hx hb d_X_instruction_138 (lv_at hl 2 rfl) ?_
  refine zz_cVv (rest := []) (wr := []) (w' := [oX yX yM yD yA yO yL yH yI v_x, ar cI yM 512 v_M, ar cI yD 8 (s_X_reckon7 v_x v_M v_d v_a v_o v_lo v_hi v_ri ((a1 >>> ((5 : Int32) &&& 31)) &&& (7 : Int32)) ((a1 >>> ((8 : Int32) &&& 31)) &&& (7 : Int32)) ((a1 >>> ((11 : Int32) &&& 31)) &&& (7 : Int32)) (a1 >>> ((16 : Int32) &&& 31))), ar cI yA 8 v_a, ar cI yO 4 v_o, ar cI yL 6 v_lo, ar cI yH 6 v_hi, ar cI yI 6 v_ri]) ⟨hx, hb, hml, hown, hts⟩ (k_X_reckon7 l D cI _ yX yM yD yA yO yL yH yI v_x v_M v_d v_a v_o v_lo v_hi v_ri ((a1 >>> ((5 : Int32) &&& 31)) &&& (7 : Int32)) ((a1 >>> ((8 : Int32) &&& 31)) &&& (7 : Int32)) ((a1 >>> ((11 : Int32) &&& 31)) &&& (7 : Int32)) (a1 >>> ((16 : Int32) &&& 31)) (zz_in7 _) (zz_in7 _) (zz_in7 _)) g_X_instruction_X_reckon_111 nv_X_reckon ⟨⟨rfl, rfl⟩, Nat.le_of_ble_eq_true rfl, Nat.le_of_ble_eq_true rfl⟩ hK [0] rfl hP hD hS hA [0, 1, 2, 3, 4, 5, 6, 7] [] [0, 1, 2, 3, 4, 5, 6, 7] rfl rfl rfl rfl (by decide) rfl rfl 0 6 rfl rfl rfl rfl hl.1 (Nat.le_of_ble_eq_true rfl) d_X_instruction_140 ⟨Nat.zero_le _, Nat.zero_le _⟩ (fun H locs hP hD hS => ?_)
  refine lv_goto (tgt := 244) hx hb d_X_instruction_143 (by decide) ?_
  refine lv_aload_n hx hb d_X_instruction_244 rfl (lv_at hl 7 rfl) ?_
  refine zz_get (C := R_X) (T := F_X) (N := 27) (v := .ref yO) hx hb hts in_X hown hK hP 0 rfl rfl 4 (by decide) mw_68 rfl d_X_instruction_245 ?_
  refine lv_iconst (v := (0 : Int32)) hx hb d_X_instruction_248 (by decide) ?_
  show W p l e _ s m args below meth c _ _ _ _ Q (F0 m 249 ls _)
  refine lv_aload_n hx hb d_X_instruction_249 rfl (lv_at hl 7 rfl) ?_
  refine zz_get (C := R_X) (T := F_X) (N := 27) (v := .int (v_x 19)) hx hb hts in_X hown hK hP 0 rfl rfl 26 (by decide) mw_79 rfl d_X_instruction_250 ?_
  have J253_2 : ∀ (vj253_0 : Int32) (ls : Array Slot) (H : Heap) (locs : List Loc), vj253_0 = (if (v_x 19) = 0 then (if (v_x 7) = 0 then (v_o (ix (0 : Int32))) else ((v_o (ix (0 : Int32))) + (1 : Int32))) else (v_o (ix (0 : Int32)))) → lv_has ls 9 [(8, .int ((v_o (ix (0 : Int32))) + (1 : Int32))), (7, .int (0 : Int32)), (6, .int (a1 >>> ((16 : Int32) &&& 31))), (5, .int ((a1 >>> ((11 : Int32) &&& 31)) &&& (7 : Int32))), (4, .int ((a1 >>> ((8 : Int32) &&& 31)) &&& (7 : Int32))), (3, .int ((a1 >>> ((5 : Int32) &&& 31)) &&& (7 : Int32))), (2, .int (7 : Int32)), (0, .ref yX), (1, .int a1)] → va_P D classes [oX yX yM yD yA yO yL yH yI v_x, ar cI yM 512 v_M, ar cI yD 8 (s_X_reckon7 v_x v_M v_d v_a v_o v_lo v_hi v_ri ((a1 >>> ((5 : Int32) &&& 31)) &&& (7 : Int32)) ((a1 >>> ((8 : Int32) &&& 31)) &&& (7 : Int32)) ((a1 >>> ((11 : Int32) &&& 31)) &&& (7 : Int32)) (a1 >>> ((16 : Int32) &&& 31))), ar cI yA 8 v_a, ar cI yO 4 v_o, ar cI yL 6 v_lo, ar cI yH 6 v_hi, ar cI yI 6 v_ri] H → va_D A [oX yX yM yD yA yO yL yH yI v_x, ar cI yM 512 v_M, ar cI yD 8 (s_X_reckon7 v_x v_M v_d v_a v_o v_lo v_hi v_ri ((a1 >>> ((5 : Int32) &&& 31)) &&& (7 : Int32)) ((a1 >>> ((8 : Int32) &&& 31)) &&& (7 : Int32)) ((a1 >>> ((11 : Int32) &&& 31)) &&& (7 : Int32)) (a1 >>> ((16 : Int32) &&& 31))), ar cI yA 8 v_a, ar cI yO 4 v_o, ar cI yL 6 v_lo, ar cI yH 6 v_hi, ar cI yI 6 v_ri] → va_S A s.heap H locs → W p l e { frames := 4, cells := 0, slots := 0, locals := 100 } s m args below meth c H locs 0 0 Q (F0 m 274 ls [.int vj253_0, .int (0 : Int32), .ref yO]) := by
    intro vj253_0 ls H locs evj253_0 hl hP hD hS
    subst evj253_0
    refine zz_iast (w' := [oX yX yM yD yA yO yL yH yI v_x, ar cI yM 512 v_M, ar cI yD 8 (s_X_reckon7 v_x v_M v_d v_a v_o v_lo v_hi v_ri ((a1 >>> ((5 : Int32) &&& 31)) &&& (7 : Int32)) ((a1 >>> ((8 : Int32) &&& 31)) &&& (7 : Int32)) ((a1 >>> ((11 : Int32) &&& 31)) &&& (7 : Int32)) (a1 >>> ((16 : Int32) &&& 31))), ar cI yA 8 v_a, ar cI yO 4 (upd v_o (ix (0 : Int32)) (if (v_x 19) = 0 then (if (v_x 7) = 0 then (v_o (ix (0 : Int32))) else ((v_o (ix (0 : Int32))) + (1 : Int32))) else (v_o (ix (0 : Int32))))), ar cI yL 6 v_lo, ar cI yH 6 v_hi, ar cI yI 6 v_ri]) hx hb hK hP hD hS 4 0 rfl rfl (zz_inc (by decide)) d_X_instruction_274 rfl (fun H locs hP hD hS => ?_)
    have hsp : s_X_instr7 v_x v_M v_d v_a v_o v_lo v_hi v_ri a1 = ((s_X_reckon7 v_x v_M v_d v_a v_o v_lo v_hi v_ri ((a1 >>> ((5 : Int32) &&& 31)) &&& (7 : Int32)) ((a1 >>> ((8 : Int32) &&& 31)) &&& (7 : Int32)) ((a1 >>> ((11 : Int32) &&& 31)) &&& (7 : Int32)) (a1 >>> ((16 : Int32) &&& 31))), upd v_o (ix (0 : Int32)) (if (v_x 19) = 0 then (if (v_x 7) = 0 then (v_o (ix (0 : Int32))) else ((v_o (ix (0 : Int32))) + (1 : Int32))) else (v_o (ix (0 : Int32))))) := rfl
    rw [hsp] at hE
    exact hE _ _ _ _ hP hD hS d_X_instruction_275
  refine lv_if_ne (tgt := 268) hx hb d_X_instruction_253 (by decide) (fun h1 => ?_) (fun h1 => ?_)
  ·
    refine lv_aload_n hx hb d_X_instruction_268 rfl (lv_at hl 7 rfl) ?_
    refine zz_get (C := R_X) (T := F_X) (N := 27) (v := .ref yO) hx hb hts in_X hown hK hP 0 rfl rfl 4 (by decide) mw_68 rfl d_X_instruction_269 ?_
    refine lv_iconst (v := (0 : Int32)) hx hb d_X_instruction_272 (by decide) ?_
    refine va_iald hx hb hK hP 4 0 rfl rfl (zz_inc (by decide)) d_X_instruction_273 ?_
    exact J253_2 (v_o (ix (0 : Int32))) _ _ _ (by rw [if_neg h1]) (lv_sub hl [0, 1, 2, 3, 4, 5, 6, 7, 8] rfl) hP hD hS
  ·
    refine lv_aload_n hx hb d_X_instruction_256 rfl (lv_at hl 7 rfl) ?_
    refine zz_get (C := R_X) (T := F_X) (N := 27) (v := .int (v_x 7)) hx hb hts in_X hown hK hP 0 rfl rfl 11 (by decide) mw_78 rfl d_X_instruction_257 ?_
    refine lv_if_eq (tgt := 268) hx hb d_X_instruction_260 (by decide) (fun h2 => ?_) (fun h2 => ?_)
    ·
      refine lv_aload_n hx hb d_X_instruction_268 rfl (lv_at hl 7 rfl) ?_
      refine zz_get (C := R_X) (T := F_X) (N := 27) (v := .ref yO) hx hb hts in_X hown hK hP 0 rfl rfl 4 (by decide) mw_68 rfl d_X_instruction_269 ?_
      refine lv_iconst (v := (0 : Int32)) hx hb d_X_instruction_272 (by decide) ?_
      refine va_iald hx hb hK hP 4 0 rfl rfl (zz_inc (by decide)) d_X_instruction_273 ?_
      exact J253_2 (v_o (ix (0 : Int32))) _ _ _ (by rw [if_pos h1, if_pos h2]) (lv_sub hl [0, 1, 2, 3, 4, 5, 6, 7, 8] rfl) hP hD hS
    ·
      refine lv_iload hx hb d_X_instruction_263 (lv_at hl 0 rfl) ?_
      refine lv_goto (tgt := 274) hx hb d_X_instruction_265 (by decide) ?_
      exact J253_2 ((v_o (ix (0 : Int32))) + (1 : Int32)) _ _ _ (by rw [if_pos h1, if_neg h2]) (lv_sub hl [0, 1, 2, 3, 4, 5, 6, 7, 8] rfl) hP hD hS
set_option maxHeartbeats 4000000 in
set_option maxRecDepth 100000 in
theorem k_X_instr8 (l : Launch) (D : va_G) (cI : ClassId) (sz : Nat) (yX : Nat) (yM : Nat) (yD : Nat) (yA : Nat) (yO : Nat) (yL : Nat) (yH : Nat) (yI : Nat) (v_x : Nat → Int32) (v_M : Nat → Int32) (v_d : Nat → Int32) (v_a : Nat → Int32) (v_o : Nat → Int32) (v_lo : Nat → Int32) (v_hi : Nat → Int32) (v_ri : Nat → Int32) (a1 : Int32) (hop : (a1 &&& (31 : Int32)) = (8 : Int32)) : zMv l y_X_instruction (.code y_X_instruction b_X_instruction 9 (none) :: wd) { frames := 4, cells := 0, slots := 0, locals := 100 } D classes [(cI, .int)] [.ref yX, .int a1] [oX yX yM yD yA yO yL yH yI v_x, ar cI yM 512 v_M, ar cI yD 8 v_d, ar cI yA 8 v_a, ar cI yO 4 v_o, ar cI yL 6 v_lo, ar cI yH 6 v_hi, ar cI yI 6 v_ri] [oX yX yM yD yA yO yL yH yI v_x, ar cI yM 512 v_M, ar cI yD 8 ((s_X_instr8 v_x v_M v_d v_a v_o v_lo v_hi v_ri a1).1), ar cI yA 8 v_a, ar cI yO 4 ((s_X_instr8 v_x v_M v_d v_a v_o v_lo v_hi v_ri a1).2), ar cI yL 6 v_lo, ar cI yH 6 v_hi, ar cI yI 6 v_ri] sz := by
  refine met_v (by decide) (Nat.le_of_ble_eq_true rfl) ?_
  intro p e s m args below meth c A Q ls hx hb hml hown hts hK hP hD hS hA hl hE
  have hl : lv_has ls 9 [(0, .ref yX), (1, .int a1)] := hl
  have hown : s.vm.findClass R_X = some m.cls := hown
  refine lv_iload_n hx hb d_X_instruction_0 rfl (lv_at hl 1 rfl) ?_
  refine lv_bipush (v := (31 : Int32)) hx hb d_X_instruction_1 (by decide) ?_
  refine lv_iand hx hb d_X_instruction_3 ?_
  refine lv_topi (fun zz ez => ?_)
  obtain rfl : zz = (8 : Int32) := ez.trans hop
  refine lv_istore_n (lv' := [(2, .int (8 : Int32)), (0, .ref yX), (1, .int a1)]) hx hb d_X_instruction_4 rfl hl (by decide) rfl (fun ls hl => ?_)
  refine lv_iload_n hx hb d_X_instruction_5 rfl (lv_at hl 2 rfl) ?_
  refine lv_iconst (v := (5 : Int32)) hx hb d_X_instruction_6 (by decide) ?_
  refine lv_ishr hx hb d_X_instruction_7 ?_
  refine lv_bipush (v := (7 : Int32)) hx hb d_X_instruction_8 (by decide) ?_
  refine lv_iand hx hb d_X_instruction_10 ?_
  refine lv_istore_n (lv' := [(3, .int ((a1 >>> ((5 : Int32) &&& 31)) &&& (7 : Int32))), (2, .int (8 : Int32)), (0, .ref yX), (1, .int a1)]) hx hb d_X_instruction_11 rfl hl (by decide) rfl (fun ls hl => ?_)
  refine lv_iload_n hx hb d_X_instruction_12 rfl (lv_at hl 3 rfl) ?_
  show W p l e _ s m args below meth c _ _ _ _ Q (F0 m 13 ls _)
  refine lv_bipush (v := (8 : Int32)) hx hb d_X_instruction_13 (by decide) ?_
  refine lv_ishr hx hb d_X_instruction_15 ?_
  refine lv_bipush (v := (7 : Int32)) hx hb d_X_instruction_16 (by decide) ?_
  refine lv_iand hx hb d_X_instruction_18 ?_
  refine lv_istore (lv' := [(4, .int ((a1 >>> ((8 : Int32) &&& 31)) &&& (7 : Int32))), (3, .int ((a1 >>> ((5 : Int32) &&& 31)) &&& (7 : Int32))), (2, .int (8 : Int32)), (0, .ref yX), (1, .int a1)]) hx hb d_X_instruction_19 hl (by decide) rfl (fun ls hl => ?_)
  refine lv_iload_n hx hb d_X_instruction_21 rfl (lv_at hl 4 rfl) ?_
  refine lv_bipush (v := (11 : Int32)) hx hb d_X_instruction_22 (by decide) ?_
  refine lv_ishr hx hb d_X_instruction_24 ?_
  refine lv_bipush (v := (7 : Int32)) hx hb d_X_instruction_25 (by decide) ?_
  refine lv_iand hx hb d_X_instruction_27 ?_
  refine lv_istore (lv' := [(5, .int ((a1 >>> ((11 : Int32) &&& 31)) &&& (7 : Int32))), (4, .int ((a1 >>> ((8 : Int32) &&& 31)) &&& (7 : Int32))), (3, .int ((a1 >>> ((5 : Int32) &&& 31)) &&& (7 : Int32))), (2, .int (8 : Int32)), (0, .ref yX), (1, .int a1)]) hx hb d_X_instruction_28 hl (by decide) rfl (fun ls hl => ?_)
  refine lv_iload_n hx hb d_X_instruction_30 rfl (lv_at hl 5 rfl) ?_
  show W p l e _ s m args below meth c _ _ _ _ Q (F0 m 31 ls _)
  refine lv_bipush (v := (16 : Int32)) hx hb d_X_instruction_31 (by decide) ?_
  refine lv_ishr hx hb d_X_instruction_33 ?_
  refine lv_istore (lv' := [(6, .int (a1 >>> ((16 : Int32) &&& 31))), (5, .int ((a1 >>> ((11 : Int32) &&& 31)) &&& (7 : Int32))), (4, .int ((a1 >>> ((8 : Int32) &&& 31)) &&& (7 : Int32))), (3, .int ((a1 >>> ((5 : Int32) &&& 31)) &&& (7 : Int32))), (2, .int (8 : Int32)), (0, .ref yX), (1, .int a1)]) hx hb d_X_instruction_34 hl (by decide) rfl (fun ls hl => ?_)
  refine lv_iload_n hx hb d_X_instruction_36 rfl (lv_at hl 4 rfl) ?_
  refine lv_bipush (v := (25 : Int32)) hx hb d_X_instruction_37 (by decide) ?_
  refine lv_icmp_eq (tgt := 66) hx hb d_X_instruction_39 (by decide) (fun hh => absurd hh (by decide)) (fun _ => ?_)
  refine lv_iload_n hx hb d_X_instruction_42 rfl (lv_at hl 4 rfl) ?_
  refine lv_bipush (v := (26 : Int32)) hx hb d_X_instruction_43 (by decide) ?_
  refine lv_icmp_eq (tgt := 66) hx hb d_X_instruction_45 (by decide) (fun hh => absurd hh (by decide)) (fun _ => ?_)
  refine lv_iload_n hx hb d_X_instruction_48 rfl (lv_at hl 4 rfl) ?_
  refine lv_bipush (v := (28 : Int32)) hx hb d_X_instruction_49 (by decide) ?_
  refine lv_icmp_eq (tgt := 66) hx hb d_X_instruction_51 (by decide) (fun hh => absurd hh (by decide)) (fun _ => ?_)
  refine lv_iload_n hx hb d_X_instruction_54 rfl (lv_at hl 4 rfl) ?_
  refine lv_bipush (v := (29 : Int32)) hx hb d_X_instruction_55 (by decide) ?_
  refine lv_icmp_eq (tgt := 66) hx hb d_X_instruction_57 (by decide) (fun hh => absurd hh (by decide)) (fun _ => ?_)
  refine lv_iload_n hx hb d_X_instruction_60 rfl (lv_at hl 4 rfl) ?_
  refine lv_bipush (v := (31 : Int32)) hx hb d_X_instruction_61 (by decide) ?_
  refine lv_icmp_ne (tgt := 70) hx hb d_X_instruction_63 (by decide) (fun _ => ?_) (fun hh => absurd hh (by decide))
  refine lv_iconst (v := (0 : Int32)) hx hb d_X_instruction_70 (by decide) ?_
  refine lv_istore (lv' := [(7, .int (0 : Int32)), (6, .int (a1 >>> ((16 : Int32) &&& 31))), (5, .int ((a1 >>> ((11 : Int32) &&& 31)) &&& (7 : Int32))), (4, .int ((a1 >>> ((8 : Int32) &&& 31)) &&& (7 : Int32))), (3, .int ((a1 >>> ((5 : Int32) &&& 31)) &&& (7 : Int32))), (2, .int (8 : Int32)), (0, .ref yX), (1, .int a1)]) hx hb d_X_instruction_71 hl (by decide) rfl (fun ls hl => ?_)
  refine lv_iload hx hb d_X_instruction_73 (lv_at hl 0 rfl) ?_
  refine lv_if_eq (tgt := 86) hx hb d_X_instruction_75 (by decide) (fun _ => ?_) (fun hh => absurd hh (by decide))
  refine lv_iload_n hx hb d_X_instruction_86 rfl (lv_at hl 5 rfl) ?_
  refine lv_bipush (v := (30 : Int32)) hx hb d_X_instruction_87 (by decide) ?_
  refine lv_icmp_ne (tgt := 111) hx hb d_X_instruction_89 (by decide) (fun _ => ?_) (fun hh => absurd hh (by decide))
  refine lv_aload_n hx hb d_X_instruction_111 rfl (lv_at hl 6 rfl) ?_
  refine zz_get (C := R_X) (T := F_X) (N := 27) (v := .ref yO) hx hb hts in_X hown hK hP 0 rfl rfl 4 (by decide) mw_68 rfl d_X_instruction_112 ?_
  refine lv_iconst (v := (0 : Int32)) hx hb d_X_instruction_115 (by decide) ?_
  refine va_iald hx hb hK hP 4 0 rfl rfl (zz_inc (by decide)) d_X_instruction_116 ?_
  refine lv_iconst (v := (1 : Int32)) hx hb d_X_instruction_117 (by decide) ?_
  refine lv_iadd hx hb d_X_instruction_118 ?_
  refine lv_istore (lv' := [(8, .int ((v_o (ix (0 : Int32))) + (1 : Int32))), (7, .int (0 : Int32)), (6, .int (a1 >>> ((16 : Int32) &&& 31))), (5, .int ((a1 >>> ((11 : Int32) &&& 31)) &&& (7 : Int32))), (4, .int ((a1 >>> ((8 : Int32) &&& 31)) &&& (7 : Int32))), (3, .int ((a1 >>> ((5 : Int32) &&& 31)) &&& (7 : Int32))), (2, .int (8 : Int32)), (0, .ref yX), (1, .int a1)]) hx hb d_X_instruction_119 hl (by decide) rfl (fun ls hl => ?_)
  refine lv_iload_n hx hb d_X_instruction_121 rfl (lv_at hl 6 rfl) ?_
  refine lv_if_le (tgt := 146) hx hb d_X_instruction_122 (by decide) (fun hh => absurd hh (by decide)) (fun _ => ?_)
  refine lv_iload_n hx hb d_X_instruction_125 rfl (lv_at hl 6 rfl) ?_
  refine lv_bipush (v := (13 : Int32)) hx hb d_X_instruction_126 (by decide) ?_
  refine lv_icmp_ge (tgt := 146) hx hb d_X_instruction_128 (by decide) (fun hh => absurd hh (by decide)) (fun _ => ?_)
  refine lv_aload_n hx hb d_X_instruction_131 rfl (lv_at hl 7 rfl) ?_
  refine lv_iload_n hx hb d_X_instruction_132 rfl (lv_at hl 6 rfl) ?_
  refine lv_iload_n hx hb d_X_instruction_133 rfl (lv_at hl 5 rfl) ?_
  refine lv_iload hx hb d_X_instruction_134 (lv_at hl 4 rfl) ?_
  refine lv_iload hx hb d_X_instruction_136 (lv_at hl 3 rfl) ?_
  refine lv_iload hx hb d_X_instruction_138 (lv_at hl 2 rfl) ?_
  refine zz_cVv (rest := []) (wr := []) (w' := [oX yX yM yD yA yO yL yH yI v_x, ar cI yM 512 v_M, ar cI yD 8 (s_X_reckon8 v_x v_M v_d v_a v_o v_lo v_hi v_ri ((a1 >>> ((5 : Int32) &&& 31)) &&& (7 : Int32)) ((a1 >>> ((8 : Int32) &&& 31)) &&& (7 : Int32)) ((a1 >>> ((11 : Int32) &&& 31)) &&& (7 : Int32)) (a1 >>> ((16 : Int32) &&& 31))), ar cI yA 8 v_a, ar cI yO 4 v_o, ar cI yL 6 v_lo, ar cI yH 6 v_hi, ar cI yI 6 v_ri]) ⟨hx, hb, hml, hown, hts⟩ (k_X_reckon8 l D cI _ yX yM yD yA yO yL yH yI v_x v_M v_d v_a v_o v_lo v_hi v_ri ((a1 >>> ((5 : Int32) &&& 31)) &&& (7 : Int32)) ((a1 >>> ((8 : Int32) &&& 31)) &&& (7 : Int32)) ((a1 >>> ((11 : Int32) &&& 31)) &&& (7 : Int32)) (a1 >>> ((16 : Int32) &&& 31)) (zz_in7 _) (zz_in7 _) (zz_in7 _)) g_X_instruction_X_reckon_111 nv_X_reckon ⟨⟨rfl, rfl⟩, Nat.le_of_ble_eq_true rfl, Nat.le_of_ble_eq_true rfl⟩ hK [0] rfl hP hD hS hA [0, 1, 2, 3, 4, 5, 6, 7] [] [0, 1, 2, 3, 4, 5, 6, 7] rfl rfl rfl rfl (by decide) rfl rfl 0 6 rfl rfl rfl rfl hl.1 (Nat.le_of_ble_eq_true rfl) d_X_instruction_140 ⟨Nat.zero_le _, Nat.zero_le _⟩ (fun H locs hP hD hS => ?_)
  refine lv_goto (tgt := 244) hx hb d_X_instruction_143 (by decide) ?_
  refine lv_aload_n hx hb d_X_instruction_244 rfl (lv_at hl 7 rfl) ?_
  refine zz_get (C := R_X) (T := F_X) (N := 27) (v := .ref yO) hx hb hts in_X hown hK hP 0 rfl rfl 4 (by decide) mw_68 rfl d_X_instruction_245 ?_
  refine lv_iconst (v := (0 : Int32)) hx hb d_X_instruction_248 (by decide) ?_
  show W p l e _ s m args below meth c _ _ _ _ Q (F0 m 249 ls _)
  refine lv_aload_n hx hb d_X_instruction_249 rfl (lv_at hl 7 rfl) ?_
  refine zz_get (C := R_X) (T := F_X) (N := 27) (v := .int (v_x 19)) hx hb hts in_X hown hK hP 0 rfl rfl 26 (by decide) mw_79 rfl d_X_instruction_250 ?_
  have J253_2 : ∀ (vj253_0 : Int32) (ls : Array Slot) (H : Heap) (locs : List Loc), vj253_0 = (if (v_x 19) = 0 then (if (v_x 7) = 0 then (v_o (ix (0 : Int32))) else ((v_o (ix (0 : Int32))) + (1 : Int32))) else (v_o (ix (0 : Int32)))) → lv_has ls 9 [(8, .int ((v_o (ix (0 : Int32))) + (1 : Int32))), (7, .int (0 : Int32)), (6, .int (a1 >>> ((16 : Int32) &&& 31))), (5, .int ((a1 >>> ((11 : Int32) &&& 31)) &&& (7 : Int32))), (4, .int ((a1 >>> ((8 : Int32) &&& 31)) &&& (7 : Int32))), (3, .int ((a1 >>> ((5 : Int32) &&& 31)) &&& (7 : Int32))), (2, .int (8 : Int32)), (0, .ref yX), (1, .int a1)] → va_P D classes [oX yX yM yD yA yO yL yH yI v_x, ar cI yM 512 v_M, ar cI yD 8 (s_X_reckon8 v_x v_M v_d v_a v_o v_lo v_hi v_ri ((a1 >>> ((5 : Int32) &&& 31)) &&& (7 : Int32)) ((a1 >>> ((8 : Int32) &&& 31)) &&& (7 : Int32)) ((a1 >>> ((11 : Int32) &&& 31)) &&& (7 : Int32)) (a1 >>> ((16 : Int32) &&& 31))), ar cI yA 8 v_a, ar cI yO 4 v_o, ar cI yL 6 v_lo, ar cI yH 6 v_hi, ar cI yI 6 v_ri] H → va_D A [oX yX yM yD yA yO yL yH yI v_x, ar cI yM 512 v_M, ar cI yD 8 (s_X_reckon8 v_x v_M v_d v_a v_o v_lo v_hi v_ri ((a1 >>> ((5 : Int32) &&& 31)) &&& (7 : Int32)) ((a1 >>> ((8 : Int32) &&& 31)) &&& (7 : Int32)) ((a1 >>> ((11 : Int32) &&& 31)) &&& (7 : Int32)) (a1 >>> ((16 : Int32) &&& 31))), ar cI yA 8 v_a, ar cI yO 4 v_o, ar cI yL 6 v_lo, ar cI yH 6 v_hi, ar cI yI 6 v_ri] → va_S A s.heap H locs → W p l e { frames := 4, cells := 0, slots := 0, locals := 100 } s m args below meth c H locs 0 0 Q (F0 m 274 ls [.int vj253_0, .int (0 : Int32), .ref yO]) := by
    intro vj253_0 ls H locs evj253_0 hl hP hD hS
    subst evj253_0
    refine zz_iast (w' := [oX yX yM yD yA yO yL yH yI v_x, ar cI yM 512 v_M, ar cI yD 8 (s_X_reckon8 v_x v_M v_d v_a v_o v_lo v_hi v_ri ((a1 >>> ((5 : Int32) &&& 31)) &&& (7 : Int32)) ((a1 >>> ((8 : Int32) &&& 31)) &&& (7 : Int32)) ((a1 >>> ((11 : Int32) &&& 31)) &&& (7 : Int32)) (a1 >>> ((16 : Int32) &&& 31))), ar cI yA 8 v_a, ar cI yO 4 (upd v_o (ix (0 : Int32)) (if (v_x 19) = 0 then (if (v_x 7) = 0 then (v_o (ix (0 : Int32))) else ((v_o (ix (0 : Int32))) + (1 : Int32))) else (v_o (ix (0 : Int32))))), ar cI yL 6 v_lo, ar cI yH 6 v_hi, ar cI yI 6 v_ri]) hx hb hK hP hD hS 4 0 rfl rfl (zz_inc (by decide)) d_X_instruction_274 rfl (fun H locs hP hD hS => ?_)
    have hsp : s_X_instr8 v_x v_M v_d v_a v_o v_lo v_hi v_ri a1 = ((s_X_reckon8 v_x v_M v_d v_a v_o v_lo v_hi v_ri ((a1 >>> ((5 : Int32) &&& 31)) &&& (7 : Int32)) ((a1 >>> ((8 : Int32) &&& 31)) &&& (7 : Int32)) ((a1 >>> ((11 : Int32) &&& 31)) &&& (7 : Int32)) (a1 >>> ((16 : Int32) &&& 31))), upd v_o (ix (0 : Int32)) (if (v_x 19) = 0 then (if (v_x 7) = 0 then (v_o (ix (0 : Int32))) else ((v_o (ix (0 : Int32))) + (1 : Int32))) else (v_o (ix (0 : Int32))))) := rfl
    rw [hsp] at hE
    exact hE _ _ _ _ hP hD hS d_X_instruction_275
  refine lv_if_ne (tgt := 268) hx hb d_X_instruction_253 (by decide) (fun h1 => ?_) (fun h1 => ?_)
  ·
    refine lv_aload_n hx hb d_X_instruction_268 rfl (lv_at hl 7 rfl) ?_
    refine zz_get (C := R_X) (T := F_X) (N := 27) (v := .ref yO) hx hb hts in_X hown hK hP 0 rfl rfl 4 (by decide) mw_68 rfl d_X_instruction_269 ?_
    refine lv_iconst (v := (0 : Int32)) hx hb d_X_instruction_272 (by decide) ?_
    refine va_iald hx hb hK hP 4 0 rfl rfl (zz_inc (by decide)) d_X_instruction_273 ?_
    exact J253_2 (v_o (ix (0 : Int32))) _ _ _ (by rw [if_neg h1]) (lv_sub hl [0, 1, 2, 3, 4, 5, 6, 7, 8] rfl) hP hD hS
  ·
    refine lv_aload_n hx hb d_X_instruction_256 rfl (lv_at hl 7 rfl) ?_
    refine zz_get (C := R_X) (T := F_X) (N := 27) (v := .int (v_x 7)) hx hb hts in_X hown hK hP 0 rfl rfl 11 (by decide) mw_78 rfl d_X_instruction_257 ?_
    refine lv_if_eq (tgt := 268) hx hb d_X_instruction_260 (by decide) (fun h2 => ?_) (fun h2 => ?_)
    ·
      refine lv_aload_n hx hb d_X_instruction_268 rfl (lv_at hl 7 rfl) ?_
      refine zz_get (C := R_X) (T := F_X) (N := 27) (v := .ref yO) hx hb hts in_X hown hK hP 0 rfl rfl 4 (by decide) mw_68 rfl d_X_instruction_269 ?_
      refine lv_iconst (v := (0 : Int32)) hx hb d_X_instruction_272 (by decide) ?_
      refine va_iald hx hb hK hP 4 0 rfl rfl (zz_inc (by decide)) d_X_instruction_273 ?_
      exact J253_2 (v_o (ix (0 : Int32))) _ _ _ (by rw [if_pos h1, if_pos h2]) (lv_sub hl [0, 1, 2, 3, 4, 5, 6, 7, 8] rfl) hP hD hS
    ·
      refine lv_iload hx hb d_X_instruction_263 (lv_at hl 0 rfl) ?_
      refine lv_goto (tgt := 274) hx hb d_X_instruction_265 (by decide) ?_
      exact J253_2 ((v_o (ix (0 : Int32))) + (1 : Int32)) _ _ _ (by rw [if_pos h1, if_neg h2]) (lv_sub hl [0, 1, 2, 3, 4, 5, 6, 7, 8] rfl) hP hD hS
set_option maxHeartbeats 4000000 in
set_option maxRecDepth 100000 in
theorem k_X_instr9 (l : Launch) (D : va_G) (cI : ClassId) (sz : Nat) (yX : Nat) (yM : Nat) (yD : Nat) (yA : Nat) (yO : Nat) (yL : Nat) (yH : Nat) (yI : Nat) (v_x : Nat → Int32) (v_M : Nat → Int32) (v_d : Nat → Int32) (v_a : Nat → Int32) (v_o : Nat → Int32) (v_lo : Nat → Int32) (v_hi : Nat → Int32) (v_ri : Nat → Int32) (a1 : Int32) (hop : (a1 &&& (31 : Int32)) = (9 : Int32)) : zMv l y_X_instruction (.code y_X_instruction b_X_instruction 9 (none) :: wd) { frames := 4, cells := 0, slots := 0, locals := 100 } D classes [(cI, .int)] [.ref yX, .int a1] [oX yX yM yD yA yO yL yH yI v_x, ar cI yM 512 v_M, ar cI yD 8 v_d, ar cI yA 8 v_a, ar cI yO 4 v_o, ar cI yL 6 v_lo, ar cI yH 6 v_hi, ar cI yI 6 v_ri] [oX yX yM yD yA yO yL yH yI v_x, ar cI yM 512 v_M, ar cI yD 8 v_d, ar cI yA 8 ((s_X_instr9 v_x v_M v_d v_a v_o v_lo v_hi v_ri a1).1), ar cI yO 4 ((s_X_instr9 v_x v_M v_d v_a v_o v_lo v_hi v_ri a1).2), ar cI yL 6 v_lo, ar cI yH 6 v_hi, ar cI yI 6 v_ri] sz := by
  refine met_v (by decide) (Nat.le_of_ble_eq_true rfl) ?_
  intro p e s m args below meth c A Q ls hx hb hml hown hts hK hP hD hS hA hl hE
  have hl : lv_has ls 9 [(0, .ref yX), (1, .int a1)] := hl
  have hown : s.vm.findClass R_X = some m.cls := hown
  refine lv_iload_n hx hb d_X_instruction_0 rfl (lv_at hl 1 rfl) ?_
  refine lv_bipush (v := (31 : Int32)) hx hb d_X_instruction_1 (by decide) ?_
  refine lv_iand hx hb d_X_instruction_3 ?_
  refine lv_topi (fun zz ez => ?_)
  obtain rfl : zz = (9 : Int32) := ez.trans hop
  refine lv_istore_n (lv' := [(2, .int (9 : Int32)), (0, .ref yX), (1, .int a1)]) hx hb d_X_instruction_4 rfl hl (by decide) rfl (fun ls hl => ?_)
  refine lv_iload_n hx hb d_X_instruction_5 rfl (lv_at hl 2 rfl) ?_
  refine lv_iconst (v := (5 : Int32)) hx hb d_X_instruction_6 (by decide) ?_
  refine lv_ishr hx hb d_X_instruction_7 ?_
  refine lv_bipush (v := (7 : Int32)) hx hb d_X_instruction_8 (by decide) ?_
  refine lv_iand hx hb d_X_instruction_10 ?_
  refine lv_istore_n (lv' := [(3, .int ((a1 >>> ((5 : Int32) &&& 31)) &&& (7 : Int32))), (2, .int (9 : Int32)), (0, .ref yX), (1, .int a1)]) hx hb d_X_instruction_11 rfl hl (by decide) rfl (fun ls hl => ?_)
  refine lv_iload_n hx hb d_X_instruction_12 rfl (lv_at hl 3 rfl) ?_
  show W p l e _ s m args below meth c _ _ _ _ Q (F0 m 13 ls _)
  refine lv_bipush (v := (8 : Int32)) hx hb d_X_instruction_13 (by decide) ?_
  refine lv_ishr hx hb d_X_instruction_15 ?_
  refine lv_bipush (v := (7 : Int32)) hx hb d_X_instruction_16 (by decide) ?_
  refine lv_iand hx hb d_X_instruction_18 ?_
  refine lv_istore (lv' := [(4, .int ((a1 >>> ((8 : Int32) &&& 31)) &&& (7 : Int32))), (3, .int ((a1 >>> ((5 : Int32) &&& 31)) &&& (7 : Int32))), (2, .int (9 : Int32)), (0, .ref yX), (1, .int a1)]) hx hb d_X_instruction_19 hl (by decide) rfl (fun ls hl => ?_)
  refine lv_iload_n hx hb d_X_instruction_21 rfl (lv_at hl 4 rfl) ?_
  refine lv_bipush (v := (11 : Int32)) hx hb d_X_instruction_22 (by decide) ?_
  refine lv_ishr hx hb d_X_instruction_24 ?_
  refine lv_bipush (v := (7 : Int32)) hx hb d_X_instruction_25 (by decide) ?_
  refine lv_iand hx hb d_X_instruction_27 ?_
  refine lv_istore (lv' := [(5, .int ((a1 >>> ((11 : Int32) &&& 31)) &&& (7 : Int32))), (4, .int ((a1 >>> ((8 : Int32) &&& 31)) &&& (7 : Int32))), (3, .int ((a1 >>> ((5 : Int32) &&& 31)) &&& (7 : Int32))), (2, .int (9 : Int32)), (0, .ref yX), (1, .int a1)]) hx hb d_X_instruction_28 hl (by decide) rfl (fun ls hl => ?_)
  refine lv_iload_n hx hb d_X_instruction_30 rfl (lv_at hl 5 rfl) ?_
  show W p l e _ s m args below meth c _ _ _ _ Q (F0 m 31 ls _)
  refine lv_bipush (v := (16 : Int32)) hx hb d_X_instruction_31 (by decide) ?_
  refine lv_ishr hx hb d_X_instruction_33 ?_
  refine lv_istore (lv' := [(6, .int (a1 >>> ((16 : Int32) &&& 31))), (5, .int ((a1 >>> ((11 : Int32) &&& 31)) &&& (7 : Int32))), (4, .int ((a1 >>> ((8 : Int32) &&& 31)) &&& (7 : Int32))), (3, .int ((a1 >>> ((5 : Int32) &&& 31)) &&& (7 : Int32))), (2, .int (9 : Int32)), (0, .ref yX), (1, .int a1)]) hx hb d_X_instruction_34 hl (by decide) rfl (fun ls hl => ?_)
  refine lv_iload_n hx hb d_X_instruction_36 rfl (lv_at hl 4 rfl) ?_
  refine lv_bipush (v := (25 : Int32)) hx hb d_X_instruction_37 (by decide) ?_
  refine lv_icmp_eq (tgt := 66) hx hb d_X_instruction_39 (by decide) (fun hh => absurd hh (by decide)) (fun _ => ?_)
  refine lv_iload_n hx hb d_X_instruction_42 rfl (lv_at hl 4 rfl) ?_
  refine lv_bipush (v := (26 : Int32)) hx hb d_X_instruction_43 (by decide) ?_
  refine lv_icmp_eq (tgt := 66) hx hb d_X_instruction_45 (by decide) (fun hh => absurd hh (by decide)) (fun _ => ?_)
  refine lv_iload_n hx hb d_X_instruction_48 rfl (lv_at hl 4 rfl) ?_
  refine lv_bipush (v := (28 : Int32)) hx hb d_X_instruction_49 (by decide) ?_
  refine lv_icmp_eq (tgt := 66) hx hb d_X_instruction_51 (by decide) (fun hh => absurd hh (by decide)) (fun _ => ?_)
  refine lv_iload_n hx hb d_X_instruction_54 rfl (lv_at hl 4 rfl) ?_
  refine lv_bipush (v := (29 : Int32)) hx hb d_X_instruction_55 (by decide) ?_
  refine lv_icmp_eq (tgt := 66) hx hb d_X_instruction_57 (by decide) (fun hh => absurd hh (by decide)) (fun _ => ?_)
  refine lv_iload_n hx hb d_X_instruction_60 rfl (lv_at hl 4 rfl) ?_
  refine lv_bipush (v := (31 : Int32)) hx hb d_X_instruction_61 (by decide) ?_
  refine lv_icmp_ne (tgt := 70) hx hb d_X_instruction_63 (by decide) (fun _ => ?_) (fun hh => absurd hh (by decide))
  refine lv_iconst (v := (0 : Int32)) hx hb d_X_instruction_70 (by decide) ?_
  refine lv_istore (lv' := [(7, .int (0 : Int32)), (6, .int (a1 >>> ((16 : Int32) &&& 31))), (5, .int ((a1 >>> ((11 : Int32) &&& 31)) &&& (7 : Int32))), (4, .int ((a1 >>> ((8 : Int32) &&& 31)) &&& (7 : Int32))), (3, .int ((a1 >>> ((5 : Int32) &&& 31)) &&& (7 : Int32))), (2, .int (9 : Int32)), (0, .ref yX), (1, .int a1)]) hx hb d_X_instruction_71 hl (by decide) rfl (fun ls hl => ?_)
  refine lv_iload hx hb d_X_instruction_73 (lv_at hl 0 rfl) ?_
  refine lv_if_eq (tgt := 86) hx hb d_X_instruction_75 (by decide) (fun _ => ?_) (fun hh => absurd hh (by decide))
  refine lv_iload_n hx hb d_X_instruction_86 rfl (lv_at hl 5 rfl) ?_
  refine lv_bipush (v := (30 : Int32)) hx hb d_X_instruction_87 (by decide) ?_
  refine lv_icmp_ne (tgt := 111) hx hb d_X_instruction_89 (by decide) (fun _ => ?_) (fun hh => absurd hh (by decide))
  refine lv_aload_n hx hb d_X_instruction_111 rfl (lv_at hl 6 rfl) ?_
  refine zz_get (C := R_X) (T := F_X) (N := 27) (v := .ref yO) hx hb hts in_X hown hK hP 0 rfl rfl 4 (by decide) mw_68 rfl d_X_instruction_112 ?_
  refine lv_iconst (v := (0 : Int32)) hx hb d_X_instruction_115 (by decide) ?_
  refine va_iald hx hb hK hP 4 0 rfl rfl (zz_inc (by decide)) d_X_instruction_116 ?_
  refine lv_iconst (v := (1 : Int32)) hx hb d_X_instruction_117 (by decide) ?_
  refine lv_iadd hx hb d_X_instruction_118 ?_
  refine lv_istore (lv' := [(8, .int ((v_o (ix (0 : Int32))) + (1 : Int32))), (7, .int (0 : Int32)), (6, .int (a1 >>> ((16 : Int32) &&& 31))), (5, .int ((a1 >>> ((11 : Int32) &&& 31)) &&& (7 : Int32))), (4, .int ((a1 >>> ((8 : Int32) &&& 31)) &&& (7 : Int32))), (3, .int ((a1 >>> ((5 : Int32) &&& 31)) &&& (7 : Int32))), (2, .int (9 : Int32)), (0, .ref yX), (1, .int a1)]) hx hb d_X_instruction_119 hl (by decide) rfl (fun ls hl => ?_)
  refine lv_iload_n hx hb d_X_instruction_121 rfl (lv_at hl 6 rfl) ?_
  refine lv_if_le (tgt := 146) hx hb d_X_instruction_122 (by decide) (fun hh => absurd hh (by decide)) (fun _ => ?_)
  refine lv_iload_n hx hb d_X_instruction_125 rfl (lv_at hl 6 rfl) ?_
  refine lv_bipush (v := (13 : Int32)) hx hb d_X_instruction_126 (by decide) ?_
  refine lv_icmp_ge (tgt := 146) hx hb d_X_instruction_128 (by decide) (fun hh => absurd hh (by decide)) (fun _ => ?_)
  refine lv_aload_n hx hb d_X_instruction_131 rfl (lv_at hl 7 rfl) ?_
  refine lv_iload_n hx hb d_X_instruction_132 rfl (lv_at hl 6 rfl) ?_
  refine lv_iload_n hx hb d_X_instruction_133 rfl (lv_at hl 5 rfl) ?_
  refine lv_iload hx hb d_X_instruction_134 (lv_at hl 4 rfl) ?_
  refine lv_iload hx hb d_X_instruction_136 (lv_at hl 3 rfl) ?_
  refine lv_iload hx hb d_X_instruction_138 (lv_at hl 2 rfl) ?_
  refine zz_cVv (rest := []) (wr := []) (w' := [oX yX yM yD yA yO yL yH yI v_x, ar cI yM 512 v_M, ar cI yD 8 v_d, ar cI yA 8 (s_X_reckon9 v_x v_M v_d v_a v_o v_lo v_hi v_ri ((a1 >>> ((5 : Int32) &&& 31)) &&& (7 : Int32)) ((a1 >>> ((8 : Int32) &&& 31)) &&& (7 : Int32)) ((a1 >>> ((11 : Int32) &&& 31)) &&& (7 : Int32)) (a1 >>> ((16 : Int32) &&& 31))), ar cI yO 4 v_o, ar cI yL 6 v_lo, ar cI yH 6 v_hi, ar cI yI 6 v_ri]) ⟨hx, hb, hml, hown, hts⟩ (k_X_reckon9 l D cI _ yX yM yD yA yO yL yH yI v_x v_M v_d v_a v_o v_lo v_hi v_ri ((a1 >>> ((5 : Int32) &&& 31)) &&& (7 : Int32)) ((a1 >>> ((8 : Int32) &&& 31)) &&& (7 : Int32)) ((a1 >>> ((11 : Int32) &&& 31)) &&& (7 : Int32)) (a1 >>> ((16 : Int32) &&& 31)) (zz_in7 _) (zz_in7 _) (zz_in7 _)) g_X_instruction_X_reckon_111 nv_X_reckon ⟨⟨rfl, rfl⟩, Nat.le_of_ble_eq_true rfl, Nat.le_of_ble_eq_true rfl⟩ hK [0] rfl hP hD hS hA [0, 1, 2, 3, 4, 5, 6, 7] [] [0, 1, 2, 3, 4, 5, 6, 7] rfl rfl rfl rfl (by decide) rfl rfl 0 6 rfl rfl rfl rfl hl.1 (Nat.le_of_ble_eq_true rfl) d_X_instruction_140 ⟨Nat.zero_le _, Nat.zero_le _⟩ (fun H locs hP hD hS => ?_)
  refine lv_goto (tgt := 244) hx hb d_X_instruction_143 (by decide) ?_
  refine lv_aload_n hx hb d_X_instruction_244 rfl (lv_at hl 7 rfl) ?_
  refine zz_get (C := R_X) (T := F_X) (N := 27) (v := .ref yO) hx hb hts in_X hown hK hP 0 rfl rfl 4 (by decide) mw_68 rfl d_X_instruction_245 ?_
  refine lv_iconst (v := (0 : Int32)) hx hb d_X_instruction_248 (by decide) ?_
  show W p l e _ s m args below meth c _ _ _ _ Q (F0 m 249 ls _)
  refine lv_aload_n hx hb d_X_instruction_249 rfl (lv_at hl 7 rfl) ?_
  refine zz_get (C := R_X) (T := F_X) (N := 27) (v := .int (v_x 19)) hx hb hts in_X hown hK hP 0 rfl rfl 26 (by decide) mw_79 rfl d_X_instruction_250 ?_
  have J253_2 : ∀ (vj253_0 : Int32) (ls : Array Slot) (H : Heap) (locs : List Loc), vj253_0 = (if (v_x 19) = 0 then (if (v_x 7) = 0 then (v_o (ix (0 : Int32))) else ((v_o (ix (0 : Int32))) + (1 : Int32))) else (v_o (ix (0 : Int32)))) → lv_has ls 9 [(8, .int ((v_o (ix (0 : Int32))) + (1 : Int32))), (7, .int (0 : Int32)), (6, .int (a1 >>> ((16 : Int32) &&& 31))), (5, .int ((a1 >>> ((11 : Int32) &&& 31)) &&& (7 : Int32))), (4, .int ((a1 >>> ((8 : Int32) &&& 31)) &&& (7 : Int32))), (3, .int ((a1 >>> ((5 : Int32) &&& 31)) &&& (7 : Int32))), (2, .int (9 : Int32)), (0, .ref yX), (1, .int a1)] → va_P D classes [oX yX yM yD yA yO yL yH yI v_x, ar cI yM 512 v_M, ar cI yD 8 v_d, ar cI yA 8 (s_X_reckon9 v_x v_M v_d v_a v_o v_lo v_hi v_ri ((a1 >>> ((5 : Int32) &&& 31)) &&& (7 : Int32)) ((a1 >>> ((8 : Int32) &&& 31)) &&& (7 : Int32)) ((a1 >>> ((11 : Int32) &&& 31)) &&& (7 : Int32)) (a1 >>> ((16 : Int32) &&& 31))), ar cI yO 4 v_o, ar cI yL 6 v_lo, ar cI yH 6 v_hi, ar cI yI 6 v_ri] H → va_D A [oX yX yM yD yA yO yL yH yI v_x, ar cI yM 512 v_M, ar cI yD 8 v_d, ar cI yA 8 (s_X_reckon9 v_x v_M v_d v_a v_o v_lo v_hi v_ri ((a1 >>> ((5 : Int32) &&& 31)) &&& (7 : Int32)) ((a1 >>> ((8 : Int32) &&& 31)) &&& (7 : Int32)) ((a1 >>> ((11 : Int32) &&& 31)) &&& (7 : Int32)) (a1 >>> ((16 : Int32) &&& 31))), ar cI yO 4 v_o, ar cI yL 6 v_lo, ar cI yH 6 v_hi, ar cI yI 6 v_ri] → va_S A s.heap H locs → W p l e { frames := 4, cells := 0, slots := 0, locals := 100 } s m args below meth c H locs 0 0 Q (F0 m 274 ls [.int vj253_0, .int (0 : Int32), .ref yO]) := by
    intro vj253_0 ls H locs evj253_0 hl hP hD hS
    subst evj253_0
    refine zz_iast (w' := [oX yX yM yD yA yO yL yH yI v_x, ar cI yM 512 v_M, ar cI yD 8 v_d, ar cI yA 8 (s_X_reckon9 v_x v_M v_d v_a v_o v_lo v_hi v_ri ((a1 >>> ((5 : Int32) &&& 31)) &&& (7 : Int32)) ((a1 >>> ((8 : Int32) &&& 31)) &&& (7 : Int32)) ((a1 >>> ((11 : Int32) &&& 31)) &&& (7 : Int32)) (a1 >>> ((16 : Int32) &&& 31))), ar cI yO 4 (upd v_o (ix (0 : Int32)) (if (v_x 19) = 0 then (if (v_x 7) = 0 then (v_o (ix (0 : Int32))) else ((v_o (ix (0 : Int32))) + (1 : Int32))) else (v_o (ix (0 : Int32))))), ar cI yL 6 v_lo, ar cI yH 6 v_hi, ar cI yI 6 v_ri]) hx hb hK hP hD hS 4 0 rfl rfl (zz_inc (by decide)) d_X_instruction_274 rfl (fun H locs hP hD hS => ?_)
    have hsp : s_X_instr9 v_x v_M v_d v_a v_o v_lo v_hi v_ri a1 = ((s_X_reckon9 v_x v_M v_d v_a v_o v_lo v_hi v_ri ((a1 >>> ((5 : Int32) &&& 31)) &&& (7 : Int32)) ((a1 >>> ((8 : Int32) &&& 31)) &&& (7 : Int32)) ((a1 >>> ((11 : Int32) &&& 31)) &&& (7 : Int32)) (a1 >>> ((16 : Int32) &&& 31))), upd v_o (ix (0 : Int32)) (if (v_x 19) = 0 then (if (v_x 7) = 0 then (v_o (ix (0 : Int32))) else ((v_o (ix (0 : Int32))) + (1 : Int32))) else (v_o (ix (0 : Int32))))) := rfl
    rw [hsp] at hE
    exact hE _ _ _ _ hP hD hS d_X_instruction_275
  refine lv_if_ne (tgt := 268) hx hb d_X_instruction_253 (by decide) (fun h1 => ?_) (fun h1 => ?_)
  ·
    refine lv_aload_n hx hb d_X_instruction_268 rfl (lv_at hl 7 rfl) ?_
    refine zz_get (C := R_X) (T := F_X) (N := 27) (v := .ref yO) hx hb hts in_X hown hK hP 0 rfl rfl 4 (by decide) mw_68 rfl d_X_instruction_269 ?_
    refine lv_iconst (v := (0 : Int32)) hx hb d_X_instruction_272 (by decide) ?_
    refine va_iald hx hb hK hP 4 0 rfl rfl (zz_inc (by decide)) d_X_instruction_273 ?_
    exact J253_2 (v_o (ix (0 : Int32))) _ _ _ (by rw [if_neg h1]) (lv_sub hl [0, 1, 2, 3, 4, 5, 6, 7, 8] rfl) hP hD hS
  ·
    refine lv_aload_n hx hb d_X_instruction_256 rfl (lv_at hl 7 rfl) ?_
    refine zz_get (C := R_X) (T := F_X) (N := 27) (v := .int (v_x 7)) hx hb hts in_X hown hK hP 0 rfl rfl 11 (by decide) mw_78 rfl d_X_instruction_257 ?_
    refine lv_if_eq (tgt := 268) hx hb d_X_instruction_260 (by decide) (fun h2 => ?_) (fun h2 => ?_)
    ·
      refine lv_aload_n hx hb d_X_instruction_268 rfl (lv_at hl 7 rfl) ?_
      refine zz_get (C := R_X) (T := F_X) (N := 27) (v := .ref yO) hx hb hts in_X hown hK hP 0 rfl rfl 4 (by decide) mw_68 rfl d_X_instruction_269 ?_
      refine lv_iconst (v := (0 : Int32)) hx hb d_X_instruction_272 (by decide) ?_
      refine va_iald hx hb hK hP 4 0 rfl rfl (zz_inc (by decide)) d_X_instruction_273 ?_
      exact J253_2 (v_o (ix (0 : Int32))) _ _ _ (by rw [if_pos h1, if_pos h2]) (lv_sub hl [0, 1, 2, 3, 4, 5, 6, 7, 8] rfl) hP hD hS
    ·
      refine lv_iload hx hb d_X_instruction_263 (lv_at hl 0 rfl) ?_
      refine lv_goto (tgt := 274) hx hb d_X_instruction_265 (by decide) ?_
      exact J253_2 ((v_o (ix (0 : Int32))) + (1 : Int32)) _ _ _ (by rw [if_pos h1, if_neg h2]) (lv_sub hl [0, 1, 2, 3, 4, 5, 6, 7, 8] rfl) hP hD hS
set_option maxHeartbeats 4000000 in
set_option maxRecDepth 100000 in
theorem k_X_instr10 (l : Launch) (D : va_G) (cI : ClassId) (sz : Nat) (yX : Nat) (yM : Nat) (yD : Nat) (yA : Nat) (yO : Nat) (yL : Nat) (yH : Nat) (yI : Nat) (v_x : Nat → Int32) (v_M : Nat → Int32) (v_d : Nat → Int32) (v_a : Nat → Int32) (v_o : Nat → Int32) (v_lo : Nat → Int32) (v_hi : Nat → Int32) (v_ri : Nat → Int32) (a1 : Int32) (hop : (a1 &&& (31 : Int32)) = (10 : Int32)) : zMv l y_X_instruction (.code y_X_instruction b_X_instruction 9 (none) :: wd) { frames := 4, cells := 0, slots := 0, locals := 100 } D classes [(cI, .int)] [.ref yX, .int a1] [oX yX yM yD yA yO yL yH yI v_x, ar cI yM 512 v_M, ar cI yD 8 v_d, ar cI yA 8 v_a, ar cI yO 4 v_o, ar cI yL 6 v_lo, ar cI yH 6 v_hi, ar cI yI 6 v_ri] [oX yX yM yD yA yO yL yH yI v_x, ar cI yM 512 v_M, ar cI yD 8 v_d, ar cI yA 8 ((s_X_instr10 v_x v_M v_d v_a v_o v_lo v_hi v_ri a1).1), ar cI yO 4 ((s_X_instr10 v_x v_M v_d v_a v_o v_lo v_hi v_ri a1).2), ar cI yL 6 v_lo, ar cI yH 6 v_hi, ar cI yI 6 v_ri] sz := by
  refine met_v (by decide) (Nat.le_of_ble_eq_true rfl) ?_
  intro p e s m args below meth c A Q ls hx hb hml hown hts hK hP hD hS hA hl hE
  have hl : lv_has ls 9 [(0, .ref yX), (1, .int a1)] := hl
  have hown : s.vm.findClass R_X = some m.cls := hown
  refine lv_iload_n hx hb d_X_instruction_0 rfl (lv_at hl 1 rfl) ?_
  refine lv_bipush (v := (31 : Int32)) hx hb d_X_instruction_1 (by decide) ?_
  refine lv_iand hx hb d_X_instruction_3 ?_
  refine lv_topi (fun zz ez => ?_)
  obtain rfl : zz = (10 : Int32) := ez.trans hop
  refine lv_istore_n (lv' := [(2, .int (10 : Int32)), (0, .ref yX), (1, .int a1)]) hx hb d_X_instruction_4 rfl hl (by decide) rfl (fun ls hl => ?_)
  refine lv_iload_n hx hb d_X_instruction_5 rfl (lv_at hl 2 rfl) ?_
  refine lv_iconst (v := (5 : Int32)) hx hb d_X_instruction_6 (by decide) ?_
  refine lv_ishr hx hb d_X_instruction_7 ?_
  refine lv_bipush (v := (7 : Int32)) hx hb d_X_instruction_8 (by decide) ?_
  refine lv_iand hx hb d_X_instruction_10 ?_
  refine lv_istore_n (lv' := [(3, .int ((a1 >>> ((5 : Int32) &&& 31)) &&& (7 : Int32))), (2, .int (10 : Int32)), (0, .ref yX), (1, .int a1)]) hx hb d_X_instruction_11 rfl hl (by decide) rfl (fun ls hl => ?_)
  refine lv_iload_n hx hb d_X_instruction_12 rfl (lv_at hl 3 rfl) ?_
  show W p l e _ s m args below meth c _ _ _ _ Q (F0 m 13 ls _)
  refine lv_bipush (v := (8 : Int32)) hx hb d_X_instruction_13 (by decide) ?_
  refine lv_ishr hx hb d_X_instruction_15 ?_
  refine lv_bipush (v := (7 : Int32)) hx hb d_X_instruction_16 (by decide) ?_
  refine lv_iand hx hb d_X_instruction_18 ?_
  refine lv_istore (lv' := [(4, .int ((a1 >>> ((8 : Int32) &&& 31)) &&& (7 : Int32))), (3, .int ((a1 >>> ((5 : Int32) &&& 31)) &&& (7 : Int32))), (2, .int (10 : Int32)), (0, .ref yX), (1, .int a1)]) hx hb d_X_instruction_19 hl (by decide) rfl (fun ls hl => ?_)
  refine lv_iload_n hx hb d_X_instruction_21 rfl (lv_at hl 4 rfl) ?_
  refine lv_bipush (v := (11 : Int32)) hx hb d_X_instruction_22 (by decide) ?_
  refine lv_ishr hx hb d_X_instruction_24 ?_
  refine lv_bipush (v := (7 : Int32)) hx hb d_X_instruction_25 (by decide) ?_
  refine lv_iand hx hb d_X_instruction_27 ?_
  refine lv_istore (lv' := [(5, .int ((a1 >>> ((11 : Int32) &&& 31)) &&& (7 : Int32))), (4, .int ((a1 >>> ((8 : Int32) &&& 31)) &&& (7 : Int32))), (3, .int ((a1 >>> ((5 : Int32) &&& 31)) &&& (7 : Int32))), (2, .int (10 : Int32)), (0, .ref yX), (1, .int a1)]) hx hb d_X_instruction_28 hl (by decide) rfl (fun ls hl => ?_)
  refine lv_iload_n hx hb d_X_instruction_30 rfl (lv_at hl 5 rfl) ?_
  show W p l e _ s m args below meth c _ _ _ _ Q (F0 m 31 ls _)
  refine lv_bipush (v := (16 : Int32)) hx hb d_X_instruction_31 (by decide) ?_
  refine lv_ishr hx hb d_X_instruction_33 ?_
  refine lv_istore (lv' := [(6, .int (a1 >>> ((16 : Int32) &&& 31))), (5, .int ((a1 >>> ((11 : Int32) &&& 31)) &&& (7 : Int32))), (4, .int ((a1 >>> ((8 : Int32) &&& 31)) &&& (7 : Int32))), (3, .int ((a1 >>> ((5 : Int32) &&& 31)) &&& (7 : Int32))), (2, .int (10 : Int32)), (0, .ref yX), (1, .int a1)]) hx hb d_X_instruction_34 hl (by decide) rfl (fun ls hl => ?_)
  refine lv_iload_n hx hb d_X_instruction_36 rfl (lv_at hl 4 rfl) ?_
  refine lv_bipush (v := (25 : Int32)) hx hb d_X_instruction_37 (by decide) ?_
  refine lv_icmp_eq (tgt := 66) hx hb d_X_instruction_39 (by decide) (fun hh => absurd hh (by decide)) (fun _ => ?_)
  refine lv_iload_n hx hb d_X_instruction_42 rfl (lv_at hl 4 rfl) ?_
  refine lv_bipush (v := (26 : Int32)) hx hb d_X_instruction_43 (by decide) ?_
  refine lv_icmp_eq (tgt := 66) hx hb d_X_instruction_45 (by decide) (fun hh => absurd hh (by decide)) (fun _ => ?_)
  refine lv_iload_n hx hb d_X_instruction_48 rfl (lv_at hl 4 rfl) ?_
  refine lv_bipush (v := (28 : Int32)) hx hb d_X_instruction_49 (by decide) ?_
  refine lv_icmp_eq (tgt := 66) hx hb d_X_instruction_51 (by decide) (fun hh => absurd hh (by decide)) (fun _ => ?_)
  refine lv_iload_n hx hb d_X_instruction_54 rfl (lv_at hl 4 rfl) ?_
  refine lv_bipush (v := (29 : Int32)) hx hb d_X_instruction_55 (by decide) ?_
  refine lv_icmp_eq (tgt := 66) hx hb d_X_instruction_57 (by decide) (fun hh => absurd hh (by decide)) (fun _ => ?_)
  refine lv_iload_n hx hb d_X_instruction_60 rfl (lv_at hl 4 rfl) ?_
  refine lv_bipush (v := (31 : Int32)) hx hb d_X_instruction_61 (by decide) ?_
  refine lv_icmp_ne (tgt := 70) hx hb d_X_instruction_63 (by decide) (fun _ => ?_) (fun hh => absurd hh (by decide))
  refine lv_iconst (v := (0 : Int32)) hx hb d_X_instruction_70 (by decide) ?_
  refine lv_istore (lv' := [(7, .int (0 : Int32)), (6, .int (a1 >>> ((16 : Int32) &&& 31))), (5, .int ((a1 >>> ((11 : Int32) &&& 31)) &&& (7 : Int32))), (4, .int ((a1 >>> ((8 : Int32) &&& 31)) &&& (7 : Int32))), (3, .int ((a1 >>> ((5 : Int32) &&& 31)) &&& (7 : Int32))), (2, .int (10 : Int32)), (0, .ref yX), (1, .int a1)]) hx hb d_X_instruction_71 hl (by decide) rfl (fun ls hl => ?_)
  refine lv_iload hx hb d_X_instruction_73 (lv_at hl 0 rfl) ?_
  refine lv_if_eq (tgt := 86) hx hb d_X_instruction_75 (by decide) (fun _ => ?_) (fun hh => absurd hh (by decide))
  refine lv_iload_n hx hb d_X_instruction_86 rfl (lv_at hl 5 rfl) ?_
  refine lv_bipush (v := (30 : Int32)) hx hb d_X_instruction_87 (by decide) ?_
  refine lv_icmp_ne (tgt := 111) hx hb d_X_instruction_89 (by decide) (fun _ => ?_) (fun hh => absurd hh (by decide))
  refine lv_aload_n hx hb d_X_instruction_111 rfl (lv_at hl 6 rfl) ?_
  refine zz_get (C := R_X) (T := F_X) (N := 27) (v := .ref yO) hx hb hts in_X hown hK hP 0 rfl rfl 4 (by decide) mw_68 rfl d_X_instruction_112 ?_
  refine lv_iconst (v := (0 : Int32)) hx hb d_X_instruction_115 (by decide) ?_
  refine va_iald hx hb hK hP 4 0 rfl rfl (zz_inc (by decide)) d_X_instruction_116 ?_
  refine lv_iconst (v := (1 : Int32)) hx hb d_X_instruction_117 (by decide) ?_
  refine lv_iadd hx hb d_X_instruction_118 ?_
  refine lv_istore (lv' := [(8, .int ((v_o (ix (0 : Int32))) + (1 : Int32))), (7, .int (0 : Int32)), (6, .int (a1 >>> ((16 : Int32) &&& 31))), (5, .int ((a1 >>> ((11 : Int32) &&& 31)) &&& (7 : Int32))), (4, .int ((a1 >>> ((8 : Int32) &&& 31)) &&& (7 : Int32))), (3, .int ((a1 >>> ((5 : Int32) &&& 31)) &&& (7 : Int32))), (2, .int (10 : Int32)), (0, .ref yX), (1, .int a1)]) hx hb d_X_instruction_119 hl (by decide) rfl (fun ls hl => ?_)
  refine lv_iload_n hx hb d_X_instruction_121 rfl (lv_at hl 6 rfl) ?_
  refine lv_if_le (tgt := 146) hx hb d_X_instruction_122 (by decide) (fun hh => absurd hh (by decide)) (fun _ => ?_)
  refine lv_iload_n hx hb d_X_instruction_125 rfl (lv_at hl 6 rfl) ?_
  refine lv_bipush (v := (13 : Int32)) hx hb d_X_instruction_126 (by decide) ?_
  refine lv_icmp_ge (tgt := 146) hx hb d_X_instruction_128 (by decide) (fun hh => absurd hh (by decide)) (fun _ => ?_)
  refine lv_aload_n hx hb d_X_instruction_131 rfl (lv_at hl 7 rfl) ?_
  refine lv_iload_n hx hb d_X_instruction_132 rfl (lv_at hl 6 rfl) ?_
  refine lv_iload_n hx hb d_X_instruction_133 rfl (lv_at hl 5 rfl) ?_
  refine lv_iload hx hb d_X_instruction_134 (lv_at hl 4 rfl) ?_
  refine lv_iload hx hb d_X_instruction_136 (lv_at hl 3 rfl) ?_
  refine lv_iload hx hb d_X_instruction_138 (lv_at hl 2 rfl) ?_
  refine zz_cVv (rest := []) (wr := []) (w' := [oX yX yM yD yA yO yL yH yI v_x, ar cI yM 512 v_M, ar cI yD 8 v_d, ar cI yA 8 (s_X_reckon10 v_x v_M v_d v_a v_o v_lo v_hi v_ri ((a1 >>> ((5 : Int32) &&& 31)) &&& (7 : Int32)) ((a1 >>> ((8 : Int32) &&& 31)) &&& (7 : Int32)) ((a1 >>> ((11 : Int32) &&& 31)) &&& (7 : Int32)) (a1 >>> ((16 : Int32) &&& 31))), ar cI yO 4 v_o, ar cI yL 6 v_lo, ar cI yH 6 v_hi, ar cI yI 6 v_ri]) ⟨hx, hb, hml, hown, hts⟩ (k_X_reckon10 l D cI _ yX yM yD yA yO yL yH yI v_x v_M v_d v_a v_o v_lo v_hi v_ri ((a1 >>> ((5 : Int32) &&& 31)) &&& (7 : Int32)) ((a1 >>> ((8 : Int32) &&& 31)) &&& (7 : Int32)) ((a1 >>> ((11 : Int32) &&& 31)) &&& (7 : Int32)) (a1 >>> ((16 : Int32) &&& 31)) (zz_in7 _) (zz_in7 _) (zz_in7 _)) g_X_instruction_X_reckon_111 nv_X_reckon ⟨⟨rfl, rfl⟩, Nat.le_of_ble_eq_true rfl, Nat.le_of_ble_eq_true rfl⟩ hK [0] rfl hP hD hS hA [0, 1, 2, 3, 4, 5, 6, 7] [] [0, 1, 2, 3, 4, 5, 6, 7] rfl rfl rfl rfl (by decide) rfl rfl 0 6 rfl rfl rfl rfl hl.1 (Nat.le_of_ble_eq_true rfl) d_X_instruction_140 ⟨Nat.zero_le _, Nat.zero_le _⟩ (fun H locs hP hD hS => ?_)
  refine lv_goto (tgt := 244) hx hb d_X_instruction_143 (by decide) ?_
  refine lv_aload_n hx hb d_X_instruction_244 rfl (lv_at hl 7 rfl) ?_
  refine zz_get (C := R_X) (T := F_X) (N := 27) (v := .ref yO) hx hb hts in_X hown hK hP 0 rfl rfl 4 (by decide) mw_68 rfl d_X_instruction_245 ?_
  refine lv_iconst (v := (0 : Int32)) hx hb d_X_instruction_248 (by decide) ?_
  show W p l e _ s m args below meth c _ _ _ _ Q (F0 m 249 ls _)
  refine lv_aload_n hx hb d_X_instruction_249 rfl (lv_at hl 7 rfl) ?_
  refine zz_get (C := R_X) (T := F_X) (N := 27) (v := .int (v_x 19)) hx hb hts in_X hown hK hP 0 rfl rfl 26 (by decide) mw_79 rfl d_X_instruction_250 ?_
  have J253_2 : ∀ (vj253_0 : Int32) (ls : Array Slot) (H : Heap) (locs : List Loc), vj253_0 = (if (v_x 19) = 0 then (if (v_x 7) = 0 then (v_o (ix (0 : Int32))) else ((v_o (ix (0 : Int32))) + (1 : Int32))) else (v_o (ix (0 : Int32)))) → lv_has ls 9 [(8, .int ((v_o (ix (0 : Int32))) + (1 : Int32))), (7, .int (0 : Int32)), (6, .int (a1 >>> ((16 : Int32) &&& 31))), (5, .int ((a1 >>> ((11 : Int32) &&& 31)) &&& (7 : Int32))), (4, .int ((a1 >>> ((8 : Int32) &&& 31)) &&& (7 : Int32))), (3, .int ((a1 >>> ((5 : Int32) &&& 31)) &&& (7 : Int32))), (2, .int (10 : Int32)), (0, .ref yX), (1, .int a1)] → va_P D classes [oX yX yM yD yA yO yL yH yI v_x, ar cI yM 512 v_M, ar cI yD 8 v_d, ar cI yA 8 (s_X_reckon10 v_x v_M v_d v_a v_o v_lo v_hi v_ri ((a1 >>> ((5 : Int32) &&& 31)) &&& (7 : Int32)) ((a1 >>> ((8 : Int32) &&& 31)) &&& (7 : Int32)) ((a1 >>> ((11 : Int32) &&& 31)) &&& (7 : Int32)) (a1 >>> ((16 : Int32) &&& 31))), ar cI yO 4 v_o, ar cI yL 6 v_lo, ar cI yH 6 v_hi, ar cI yI 6 v_ri] H → va_D A [oX yX yM yD yA yO yL yH yI v_x, ar cI yM 512 v_M, ar cI yD 8 v_d, ar cI yA 8 (s_X_reckon10 v_x v_M v_d v_a v_o v_lo v_hi v_ri ((a1 >>> ((5 : Int32) &&& 31)) &&& (7 : Int32)) ((a1 >>> ((8 : Int32) &&& 31)) &&& (7 : Int32)) ((a1 >>> ((11 : Int32) &&& 31)) &&& (7 : Int32)) (a1 >>> ((16 : Int32) &&& 31))), ar cI yO 4 v_o, ar cI yL 6 v_lo, ar cI yH 6 v_hi, ar cI yI 6 v_ri] → va_S A s.heap H locs → W p l e { frames := 4, cells := 0, slots := 0, locals := 100 } s m args below meth c H locs 0 0 Q (F0 m 274 ls [.int vj253_0, .int (0 : Int32), .ref yO]) := by
    intro vj253_0 ls H locs evj253_0 hl hP hD hS
    subst evj253_0
    refine zz_iast (w' := [oX yX yM yD yA yO yL yH yI v_x, ar cI yM 512 v_M, ar cI yD 8 v_d, ar cI yA 8 (s_X_reckon10 v_x v_M v_d v_a v_o v_lo v_hi v_ri ((a1 >>> ((5 : Int32) &&& 31)) &&& (7 : Int32)) ((a1 >>> ((8 : Int32) &&& 31)) &&& (7 : Int32)) ((a1 >>> ((11 : Int32) &&& 31)) &&& (7 : Int32)) (a1 >>> ((16 : Int32) &&& 31))), ar cI yO 4 (upd v_o (ix (0 : Int32)) (if (v_x 19) = 0 then (if (v_x 7) = 0 then (v_o (ix (0 : Int32))) else ((v_o (ix (0 : Int32))) + (1 : Int32))) else (v_o (ix (0 : Int32))))), ar cI yL 6 v_lo, ar cI yH 6 v_hi, ar cI yI 6 v_ri]) hx hb hK hP hD hS 4 0 rfl rfl (zz_inc (by decide)) d_X_instruction_274 rfl (fun H locs hP hD hS => ?_)
    have hsp : s_X_instr10 v_x v_M v_d v_a v_o v_lo v_hi v_ri a1 = ((s_X_reckon10 v_x v_M v_d v_a v_o v_lo v_hi v_ri ((a1 >>> ((5 : Int32) &&& 31)) &&& (7 : Int32)) ((a1 >>> ((8 : Int32) &&& 31)) &&& (7 : Int32)) ((a1 >>> ((11 : Int32) &&& 31)) &&& (7 : Int32)) (a1 >>> ((16 : Int32) &&& 31))), upd v_o (ix (0 : Int32)) (if (v_x 19) = 0 then (if (v_x 7) = 0 then (v_o (ix (0 : Int32))) else ((v_o (ix (0 : Int32))) + (1 : Int32))) else (v_o (ix (0 : Int32))))) := rfl
    rw [hsp] at hE
    exact hE _ _ _ _ hP hD hS d_X_instruction_275
  refine lv_if_ne (tgt := 268) hx hb d_X_instruction_253 (by decide) (fun h1 => ?_) (fun h1 => ?_)
  ·
    refine lv_aload_n hx hb d_X_instruction_268 rfl (lv_at hl 7 rfl) ?_
    refine zz_get (C := R_X) (T := F_X) (N := 27) (v := .ref yO) hx hb hts in_X hown hK hP 0 rfl rfl 4 (by decide) mw_68 rfl d_X_instruction_269 ?_
    refine lv_iconst (v := (0 : Int32)) hx hb d_X_instruction_272 (by decide) ?_
    refine va_iald hx hb hK hP 4 0 rfl rfl (zz_inc (by decide)) d_X_instruction_273 ?_
    exact J253_2 (v_o (ix (0 : Int32))) _ _ _ (by rw [if_neg h1]) (lv_sub hl [0, 1, 2, 3, 4, 5, 6, 7, 8] rfl) hP hD hS
  ·
    refine lv_aload_n hx hb d_X_instruction_256 rfl (lv_at hl 7 rfl) ?_
    refine zz_get (C := R_X) (T := F_X) (N := 27) (v := .int (v_x 7)) hx hb hts in_X hown hK hP 0 rfl rfl 11 (by decide) mw_78 rfl d_X_instruction_257 ?_
    refine lv_if_eq (tgt := 268) hx hb d_X_instruction_260 (by decide) (fun h2 => ?_) (fun h2 => ?_)
    ·
      refine lv_aload_n hx hb d_X_instruction_268 rfl (lv_at hl 7 rfl) ?_
      refine zz_get (C := R_X) (T := F_X) (N := 27) (v := .ref yO) hx hb hts in_X hown hK hP 0 rfl rfl 4 (by decide) mw_68 rfl d_X_instruction_269 ?_
      refine lv_iconst (v := (0 : Int32)) hx hb d_X_instruction_272 (by decide) ?_
      refine va_iald hx hb hK hP 4 0 rfl rfl (zz_inc (by decide)) d_X_instruction_273 ?_
      exact J253_2 (v_o (ix (0 : Int32))) _ _ _ (by rw [if_pos h1, if_pos h2]) (lv_sub hl [0, 1, 2, 3, 4, 5, 6, 7, 8] rfl) hP hD hS
    ·
      refine lv_iload hx hb d_X_instruction_263 (lv_at hl 0 rfl) ?_
      refine lv_goto (tgt := 274) hx hb d_X_instruction_265 (by decide) ?_
      exact J253_2 ((v_o (ix (0 : Int32))) + (1 : Int32)) _ _ _ (by rw [if_pos h1, if_neg h2]) (lv_sub hl [0, 1, 2, 3, 4, 5, 6, 7, 8] rfl) hP hD hS
set_option maxHeartbeats 4000000 in
set_option maxRecDepth 100000 in
theorem k_X_instr11 (l : Launch) (D : va_G) (cI : ClassId) (sz : Nat) (yX : Nat) (yM : Nat) (yD : Nat) (yA : Nat) (yO : Nat) (yL : Nat) (yH : Nat) (yI : Nat) (v_x : Nat → Int32) (v_M : Nat → Int32) (v_d : Nat → Int32) (v_a : Nat → Int32) (v_o : Nat → Int32) (v_lo : Nat → Int32) (v_hi : Nat → Int32) (v_ri : Nat → Int32) (a1 : Int32) (hop : (a1 &&& (31 : Int32)) = (11 : Int32)) : zMv l y_X_instruction (.code y_X_instruction b_X_instruction 9 (none) :: wd) { frames := 4, cells := 0, slots := 0, locals := 100 } D classes [(cI, .int)] [.ref yX, .int a1] [oX yX yM yD yA yO yL yH yI v_x, ar cI yM 512 v_M, ar cI yD 8 v_d, ar cI yA 8 v_a, ar cI yO 4 v_o, ar cI yL 6 v_lo, ar cI yH 6 v_hi, ar cI yI 6 v_ri] [oX yX yM yD yA yO yL yH yI v_x, ar cI yM 512 v_M, ar cI yD 8 v_d, ar cI yA 8 ((s_X_instr11 v_x v_M v_d v_a v_o v_lo v_hi v_ri a1).1), ar cI yO 4 ((s_X_instr11 v_x v_M v_d v_a v_o v_lo v_hi v_ri a1).2), ar cI yL 6 v_lo, ar cI yH 6 v_hi, ar cI yI 6 v_ri] sz := by
  refine met_v (by decide) (Nat.le_of_ble_eq_true rfl) ?_
  intro p e s m args below meth c A Q ls hx hb hml hown hts hK hP hD hS hA hl hE
  have hl : lv_has ls 9 [(0, .ref yX), (1, .int a1)] := hl
  have hown : s.vm.findClass R_X = some m.cls := hown
  refine lv_iload_n hx hb d_X_instruction_0 rfl (lv_at hl 1 rfl) ?_
  refine lv_bipush (v := (31 : Int32)) hx hb d_X_instruction_1 (by decide) ?_
  refine lv_iand hx hb d_X_instruction_3 ?_
  refine lv_topi (fun zz ez => ?_)
  obtain rfl : zz = (11 : Int32) := ez.trans hop
  refine lv_istore_n (lv' := [(2, .int (11 : Int32)), (0, .ref yX), (1, .int a1)]) hx hb d_X_instruction_4 rfl hl (by decide) rfl (fun ls hl => ?_)
  refine lv_iload_n hx hb d_X_instruction_5 rfl (lv_at hl 2 rfl) ?_
  refine lv_iconst (v := (5 : Int32)) hx hb d_X_instruction_6 (by decide) ?_
  refine lv_ishr hx hb d_X_instruction_7 ?_
  refine lv_bipush (v := (7 : Int32)) hx hb d_X_instruction_8 (by decide) ?_
  refine lv_iand hx hb d_X_instruction_10 ?_
  refine lv_istore_n (lv' := [(3, .int ((a1 >>> ((5 : Int32) &&& 31)) &&& (7 : Int32))), (2, .int (11 : Int32)), (0, .ref yX), (1, .int a1)]) hx hb d_X_instruction_11 rfl hl (by decide) rfl (fun ls hl => ?_)
  refine lv_iload_n hx hb d_X_instruction_12 rfl (lv_at hl 3 rfl) ?_
  show W p l e _ s m args below meth c _ _ _ _ Q (F0 m 13 ls _)
  refine lv_bipush (v := (8 : Int32)) hx hb d_X_instruction_13 (by decide) ?_
  refine lv_ishr hx hb d_X_instruction_15 ?_
  refine lv_bipush (v := (7 : Int32)) hx hb d_X_instruction_16 (by decide) ?_
  refine lv_iand hx hb d_X_instruction_18 ?_
  refine lv_istore (lv' := [(4, .int ((a1 >>> ((8 : Int32) &&& 31)) &&& (7 : Int32))), (3, .int ((a1 >>> ((5 : Int32) &&& 31)) &&& (7 : Int32))), (2, .int (11 : Int32)), (0, .ref yX), (1, .int a1)]) hx hb d_X_instruction_19 hl (by decide) rfl (fun ls hl => ?_)
  refine lv_iload_n hx hb d_X_instruction_21 rfl (lv_at hl 4 rfl) ?_
  refine lv_bipush (v := (11 : Int32)) hx hb d_X_instruction_22 (by decide) ?_
  refine lv_ishr hx hb d_X_instruction_24 ?_
  refine lv_bipush (v := (7 : Int32)) hx hb d_X_instruction_25 (by decide) ?_
  refine lv_iand hx hb d_X_instruction_27 ?_
  refine lv_istore (lv' := [(5, .int ((a1 >>> ((11 : Int32) &&& 31)) &&& (7 : Int32))), (4, .int ((a1 >>> ((8 : Int32) &&& 31)) &&& (7 : Int32))), (3, .int ((a1 >>> ((5 : Int32) &&& 31)) &&& (7 : Int32))), (2, .int (11 : Int32)), (0, .ref yX), (1, .int a1)]) hx hb d_X_instruction_28 hl (by decide) rfl (fun ls hl => ?_)
  refine lv_iload_n hx hb d_X_instruction_30 rfl (lv_at hl 5 rfl) ?_
  show W p l e _ s m args below meth c _ _ _ _ Q (F0 m 31 ls _)
  refine lv_bipush (v := (16 : Int32)) hx hb d_X_instruction_31 (by decide) ?_
  refine lv_ishr hx hb d_X_instruction_33 ?_
  refine lv_istore (lv' := [(6, .int (a1 >>> ((16 : Int32) &&& 31))), (5, .int ((a1 >>> ((11 : Int32) &&& 31)) &&& (7 : Int32))), (4, .int ((a1 >>> ((8 : Int32) &&& 31)) &&& (7 : Int32))), (3, .int ((a1 >>> ((5 : Int32) &&& 31)) &&& (7 : Int32))), (2, .int (11 : Int32)), (0, .ref yX), (1, .int a1)]) hx hb d_X_instruction_34 hl (by decide) rfl (fun ls hl => ?_)
  refine lv_iload_n hx hb d_X_instruction_36 rfl (lv_at hl 4 rfl) ?_
  refine lv_bipush (v := (25 : Int32)) hx hb d_X_instruction_37 (by decide) ?_
  refine lv_icmp_eq (tgt := 66) hx hb d_X_instruction_39 (by decide) (fun hh => absurd hh (by decide)) (fun _ => ?_)
  refine lv_iload_n hx hb d_X_instruction_42 rfl (lv_at hl 4 rfl) ?_
  refine lv_bipush (v := (26 : Int32)) hx hb d_X_instruction_43 (by decide) ?_
  refine lv_icmp_eq (tgt := 66) hx hb d_X_instruction_45 (by decide) (fun hh => absurd hh (by decide)) (fun _ => ?_)
  refine lv_iload_n hx hb d_X_instruction_48 rfl (lv_at hl 4 rfl) ?_
  refine lv_bipush (v := (28 : Int32)) hx hb d_X_instruction_49 (by decide) ?_
  refine lv_icmp_eq (tgt := 66) hx hb d_X_instruction_51 (by decide) (fun hh => absurd hh (by decide)) (fun _ => ?_)
  refine lv_iload_n hx hb d_X_instruction_54 rfl (lv_at hl 4 rfl) ?_
  refine lv_bipush (v := (29 : Int32)) hx hb d_X_instruction_55 (by decide) ?_
  refine lv_icmp_eq (tgt := 66) hx hb d_X_instruction_57 (by decide) (fun hh => absurd hh (by decide)) (fun _ => ?_)
  refine lv_iload_n hx hb d_X_instruction_60 rfl (lv_at hl 4 rfl) ?_
  refine lv_bipush (v := (31 : Int32)) hx hb d_X_instruction_61 (by decide) ?_
  refine lv_icmp_ne (tgt := 70) hx hb d_X_instruction_63 (by decide) (fun _ => ?_) (fun hh => absurd hh (by decide))
  refine lv_iconst (v := (0 : Int32)) hx hb d_X_instruction_70 (by decide) ?_
  refine lv_istore (lv' := [(7, .int (0 : Int32)), (6, .int (a1 >>> ((16 : Int32) &&& 31))), (5, .int ((a1 >>> ((11 : Int32) &&& 31)) &&& (7 : Int32))), (4, .int ((a1 >>> ((8 : Int32) &&& 31)) &&& (7 : Int32))), (3, .int ((a1 >>> ((5 : Int32) &&& 31)) &&& (7 : Int32))), (2, .int (11 : Int32)), (0, .ref yX), (1, .int a1)]) hx hb d_X_instruction_71 hl (by decide) rfl (fun ls hl => ?_)
  refine lv_iload hx hb d_X_instruction_73 (lv_at hl 0 rfl) ?_
  refine lv_if_eq (tgt := 86) hx hb d_X_instruction_75 (by decide) (fun _ => ?_) (fun hh => absurd hh (by decide))
  refine lv_iload_n hx hb d_X_instruction_86 rfl (lv_at hl 5 rfl) ?_
  refine lv_bipush (v := (30 : Int32)) hx hb d_X_instruction_87 (by decide) ?_
  refine lv_icmp_ne (tgt := 111) hx hb d_X_instruction_89 (by decide) (fun _ => ?_) (fun hh => absurd hh (by decide))
  refine lv_aload_n hx hb d_X_instruction_111 rfl (lv_at hl 6 rfl) ?_
  refine zz_get (C := R_X) (T := F_X) (N := 27) (v := .ref yO) hx hb hts in_X hown hK hP 0 rfl rfl 4 (by decide) mw_68 rfl d_X_instruction_112 ?_
  refine lv_iconst (v := (0 : Int32)) hx hb d_X_instruction_115 (by decide) ?_
  refine va_iald hx hb hK hP 4 0 rfl rfl (zz_inc (by decide)) d_X_instruction_116 ?_
  refine lv_iconst (v := (1 : Int32)) hx hb d_X_instruction_117 (by decide) ?_
  refine lv_iadd hx hb d_X_instruction_118 ?_
  refine lv_istore (lv' := [(8, .int ((v_o (ix (0 : Int32))) + (1 : Int32))), (7, .int (0 : Int32)), (6, .int (a1 >>> ((16 : Int32) &&& 31))), (5, .int ((a1 >>> ((11 : Int32) &&& 31)) &&& (7 : Int32))), (4, .int ((a1 >>> ((8 : Int32) &&& 31)) &&& (7 : Int32))), (3, .int ((a1 >>> ((5 : Int32) &&& 31)) &&& (7 : Int32))), (2, .int (11 : Int32)), (0, .ref yX), (1, .int a1)]) hx hb d_X_instruction_119 hl (by decide) rfl (fun ls hl => ?_)
  refine lv_iload_n hx hb d_X_instruction_121 rfl (lv_at hl 6 rfl) ?_
  refine lv_if_le (tgt := 146) hx hb d_X_instruction_122 (by decide) (fun hh => absurd hh (by decide)) (fun _ => ?_)
  refine lv_iload_n hx hb d_X_instruction_125 rfl (lv_at hl 6 rfl) ?_
  refine lv_bipush (v := (13 : Int32)) hx hb d_X_instruction_126 (by decide) ?_
  refine lv_icmp_ge (tgt := 146) hx hb d_X_instruction_128 (by decide) (fun hh => absurd hh (by decide)) (fun _ => ?_)
  refine lv_aload_n hx hb d_X_instruction_131 rfl (lv_at hl 7 rfl) ?_
  refine lv_iload_n hx hb d_X_instruction_132 rfl (lv_at hl 6 rfl) ?_
  refine lv_iload_n hx hb d_X_instruction_133 rfl (lv_at hl 5 rfl) ?_
  refine lv_iload hx hb d_X_instruction_134 (lv_at hl 4 rfl) ?_
  refine lv_iload hx hb d_X_instruction_136 (lv_at hl 3 rfl) ?_
  refine lv_iload hx hb d_X_instruction_138 (lv_at hl 2 rfl) ?_
  refine zz_cVv (rest := []) (wr := []) (w' := [oX yX yM yD yA yO yL yH yI v_x, ar cI yM 512 v_M, ar cI yD 8 v_d, ar cI yA 8 (s_X_reckon11 v_x v_M v_d v_a v_o v_lo v_hi v_ri ((a1 >>> ((5 : Int32) &&& 31)) &&& (7 : Int32)) ((a1 >>> ((8 : Int32) &&& 31)) &&& (7 : Int32)) ((a1 >>> ((11 : Int32) &&& 31)) &&& (7 : Int32)) (a1 >>> ((16 : Int32) &&& 31))), ar cI yO 4 v_o, ar cI yL 6 v_lo, ar cI yH 6 v_hi, ar cI yI 6 v_ri]) ⟨hx, hb, hml, hown, hts⟩ (k_X_reckon11 l D cI _ yX yM yD yA yO yL yH yI v_x v_M v_d v_a v_o v_lo v_hi v_ri ((a1 >>> ((5 : Int32) &&& 31)) &&& (7 : Int32)) ((a1 >>> ((8 : Int32) &&& 31)) &&& (7 : Int32)) ((a1 >>> ((11 : Int32) &&& 31)) &&& (7 : Int32)) (a1 >>> ((16 : Int32) &&& 31)) (zz_in7 _) (zz_in7 _) (zz_in7 _)) g_X_instruction_X_reckon_111 nv_X_reckon ⟨⟨rfl, rfl⟩, Nat.le_of_ble_eq_true rfl, Nat.le_of_ble_eq_true rfl⟩ hK [0] rfl hP hD hS hA [0, 1, 2, 3, 4, 5, 6, 7] [] [0, 1, 2, 3, 4, 5, 6, 7] rfl rfl rfl rfl (by decide) rfl rfl 0 6 rfl rfl rfl rfl hl.1 (Nat.le_of_ble_eq_true rfl) d_X_instruction_140 ⟨Nat.zero_le _, Nat.zero_le _⟩ (fun H locs hP hD hS => ?_)
  refine lv_goto (tgt := 244) hx hb d_X_instruction_143 (by decide) ?_
  refine lv_aload_n hx hb d_X_instruction_244 rfl (lv_at hl 7 rfl) ?_
  refine zz_get (C := R_X) (T := F_X) (N := 27) (v := .ref yO) hx hb hts in_X hown hK hP 0 rfl rfl 4 (by decide) mw_68 rfl d_X_instruction_245 ?_
  refine lv_iconst (v := (0 : Int32)) hx hb d_X_instruction_248 (by decide) ?_
  show W p l e _ s m args below meth c _ _ _ _ Q (F0 m 249 ls _)
  refine lv_aload_n hx hb d_X_instruction_249 rfl (lv_at hl 7 rfl) ?_
  refine zz_get (C := R_X) (T := F_X) (N := 27) (v := .int (v_x 19)) hx hb hts in_X hown hK hP 0 rfl rfl 26 (by decide) mw_79 rfl d_X_instruction_250 ?_
  have J253_2 : ∀ (vj253_0 : Int32) (ls : Array Slot) (H : Heap) (locs : List Loc), vj253_0 = (if (v_x 19) = 0 then (if (v_x 7) = 0 then (v_o (ix (0 : Int32))) else ((v_o (ix (0 : Int32))) + (1 : Int32))) else (v_o (ix (0 : Int32)))) → lv_has ls 9 [(8, .int ((v_o (ix (0 : Int32))) + (1 : Int32))), (7, .int (0 : Int32)), (6, .int (a1 >>> ((16 : Int32) &&& 31))), (5, .int ((a1 >>> ((11 : Int32) &&& 31)) &&& (7 : Int32))), (4, .int ((a1 >>> ((8 : Int32) &&& 31)) &&& (7 : Int32))), (3, .int ((a1 >>> ((5 : Int32) &&& 31)) &&& (7 : Int32))), (2, .int (11 : Int32)), (0, .ref yX), (1, .int a1)] → va_P D classes [oX yX yM yD yA yO yL yH yI v_x, ar cI yM 512 v_M, ar cI yD 8 v_d, ar cI yA 8 (s_X_reckon11 v_x v_M v_d v_a v_o v_lo v_hi v_ri ((a1 >>> ((5 : Int32) &&& 31)) &&& (7 : Int32)) ((a1 >>> ((8 : Int32) &&& 31)) &&& (7 : Int32)) ((a1 >>> ((11 : Int32) &&& 31)) &&& (7 : Int32)) (a1 >>> ((16 : Int32) &&& 31))), ar cI yO 4 v_o, ar cI yL 6 v_lo, ar cI yH 6 v_hi, ar cI yI 6 v_ri] H → va_D A [oX yX yM yD yA yO yL yH yI v_x, ar cI yM 512 v_M, ar cI yD 8 v_d, ar cI yA 8 (s_X_reckon11 v_x v_M v_d v_a v_o v_lo v_hi v_ri ((a1 >>> ((5 : Int32) &&& 31)) &&& (7 : Int32)) ((a1 >>> ((8 : Int32) &&& 31)) &&& (7 : Int32)) ((a1 >>> ((11 : Int32) &&& 31)) &&& (7 : Int32)) (a1 >>> ((16 : Int32) &&& 31))), ar cI yO 4 v_o, ar cI yL 6 v_lo, ar cI yH 6 v_hi, ar cI yI 6 v_ri] → va_S A s.heap H locs → W p l e { frames := 4, cells := 0, slots := 0, locals := 100 } s m args below meth c H locs 0 0 Q (F0 m 274 ls [.int vj253_0, .int (0 : Int32), .ref yO]) := by
    intro vj253_0 ls H locs evj253_0 hl hP hD hS
    subst evj253_0
    refine zz_iast (w' := [oX yX yM yD yA yO yL yH yI v_x, ar cI yM 512 v_M, ar cI yD 8 v_d, ar cI yA 8 (s_X_reckon11 v_x v_M v_d v_a v_o v_lo v_hi v_ri ((a1 >>> ((5 : Int32) &&& 31)) &&& (7 : Int32)) ((a1 >>> ((8 : Int32) &&& 31)) &&& (7 : Int32)) ((a1 >>> ((11 : Int32) &&& 31)) &&& (7 : Int32)) (a1 >>> ((16 : Int32) &&& 31))), ar cI yO 4 (upd v_o (ix (0 : Int32)) (if (v_x 19) = 0 then (if (v_x 7) = 0 then (v_o (ix (0 : Int32))) else ((v_o (ix (0 : Int32))) + (1 : Int32))) else (v_o (ix (0 : Int32))))), ar cI yL 6 v_lo, ar cI yH 6 v_hi, ar cI yI 6 v_ri]) hx hb hK hP hD hS 4 0 rfl rfl (zz_inc (by decide)) d_X_instruction_274 rfl (fun H locs hP hD hS => ?_)
    have hsp : s_X_instr11 v_x v_M v_d v_a v_o v_lo v_hi v_ri a1 = ((s_X_reckon11 v_x v_M v_d v_a v_o v_lo v_hi v_ri ((a1 >>> ((5 : Int32) &&& 31)) &&& (7 : Int32)) ((a1 >>> ((8 : Int32) &&& 31)) &&& (7 : Int32)) ((a1 >>> ((11 : Int32) &&& 31)) &&& (7 : Int32)) (a1 >>> ((16 : Int32) &&& 31))), upd v_o (ix (0 : Int32)) (if (v_x 19) = 0 then (if (v_x 7) = 0 then (v_o (ix (0 : Int32))) else ((v_o (ix (0 : Int32))) + (1 : Int32))) else (v_o (ix (0 : Int32))))) := rfl
    rw [hsp] at hE
    exact hE _ _ _ _ hP hD hS d_X_instruction_275
  refine lv_if_ne (tgt := 268) hx hb d_X_instruction_253 (by decide) (fun h1 => ?_) (fun h1 => ?_)
  ·
    refine lv_aload_n hx hb d_X_instruction_268 rfl (lv_at hl 7 rfl) ?_
    refine zz_get (C := R_X) (T := F_X) (N := 27) (v := .ref yO) hx hb hts in_X hown hK hP 0 rfl rfl 4 (by decide) mw_68 rfl d_X_instruction_269 ?_
    refine lv_iconst (v := (0 : Int32)) hx hb d_X_instruction_272 (by decide) ?_
    refine va_iald hx hb hK hP 4 0 rfl rfl (zz_inc (by decide)) d_X_instruction_273 ?_
    exact J253_2 (v_o (ix (0 : Int32))) _ _ _ (by rw [if_neg h1]) (lv_sub hl [0, 1, 2, 3, 4, 5, 6, 7, 8] rfl) hP hD hS
  ·
    refine lv_aload_n hx hb d_X_instruction_256 rfl (lv_at hl 7 rfl) ?_
    refine zz_get (C := R_X) (T := F_X) (N := 27) (v := .int (v_x 7)) hx hb hts in_X hown hK hP 0 rfl rfl 11 (by decide) mw_78 rfl d_X_instruction_257 ?_
    refine lv_if_eq (tgt := 268) hx hb d_X_instruction_260 (by decide) (fun h2 => ?_) (fun h2 => ?_)
    ·
      refine lv_aload_n hx hb d_X_instruction_268 rfl (lv_at hl 7 rfl) ?_
      refine zz_get (C := R_X) (T := F_X) (N := 27) (v := .ref yO) hx hb hts in_X hown hK hP 0 rfl rfl 4 (by decide) mw_68 rfl d_X_instruction_269 ?_
      refine lv_iconst (v := (0 : Int32)) hx hb d_X_instruction_272 (by decide) ?_
      refine va_iald hx hb hK hP 4 0 rfl rfl (zz_inc (by decide)) d_X_instruction_273 ?_
      exact J253_2 (v_o (ix (0 : Int32))) _ _ _ (by rw [if_pos h1, if_pos h2]) (lv_sub hl [0, 1, 2, 3, 4, 5, 6, 7, 8] rfl) hP hD hS
    ·
      refine lv_iload hx hb d_X_instruction_263 (lv_at hl 0 rfl) ?_
      refine lv_goto (tgt := 274) hx hb d_X_instruction_265 (by decide) ?_
      exact J253_2 ((v_o (ix (0 : Int32))) + (1 : Int32)) _ _ _ (by rw [if_pos h1, if_neg h2]) (lv_sub hl [0, 1, 2, 3, 4, 5, 6, 7, 8] rfl) hP hD hS
set_option maxHeartbeats 4000000 in
set_option maxRecDepth 100000 in
theorem k_X_instr12 (l : Launch) (D : va_G) (cI : ClassId) (sz : Nat) (yX : Nat) (yM : Nat) (yD : Nat) (yA : Nat) (yO : Nat) (yL : Nat) (yH : Nat) (yI : Nat) (v_x : Nat → Int32) (v_M : Nat → Int32) (v_d : Nat → Int32) (v_a : Nat → Int32) (v_o : Nat → Int32) (v_lo : Nat → Int32) (v_hi : Nat → Int32) (v_ri : Nat → Int32) (a1 : Int32) (hop : (a1 &&& (31 : Int32)) = (12 : Int32)) : zMv l y_X_instruction (.code y_X_instruction b_X_instruction 9 (none) :: wd) { frames := 4, cells := 0, slots := 0, locals := 100 } D classes [(cI, .int)] [.ref yX, .int a1] [oX yX yM yD yA yO yL yH yI v_x, ar cI yM 512 v_M, ar cI yD 8 v_d, ar cI yA 8 v_a, ar cI yO 4 v_o, ar cI yL 6 v_lo, ar cI yH 6 v_hi, ar cI yI 6 v_ri] [oX yX yM yD yA yO yL yH yI v_x, ar cI yM 512 v_M, ar cI yD 8 ((s_X_instr12 v_x v_M v_d v_a v_o v_lo v_hi v_ri a1).1), ar cI yA 8 v_a, ar cI yO 4 ((s_X_instr12 v_x v_M v_d v_a v_o v_lo v_hi v_ri a1).2), ar cI yL 6 v_lo, ar cI yH 6 v_hi, ar cI yI 6 v_ri] sz := by
  refine met_v (by decide) (Nat.le_of_ble_eq_true rfl) ?_
  intro p e s m args below meth c A Q ls hx hb hml hown hts hK hP hD hS hA hl hE
  have hl : lv_has ls 9 [(0, .ref yX), (1, .int a1)] := hl
  have hown : s.vm.findClass R_X = some m.cls := hown
  refine lv_iload_n hx hb d_X_instruction_0 rfl (lv_at hl 1 rfl) ?_
  refine lv_bipush (v := (31 : Int32)) hx hb d_X_instruction_1 (by decide) ?_
  refine lv_iand hx hb d_X_instruction_3 ?_
  refine lv_topi (fun zz ez => ?_)
  obtain rfl : zz = (12 : Int32) := ez.trans hop
  refine lv_istore_n (lv' := [(2, .int (12 : Int32)), (0, .ref yX), (1, .int a1)]) hx hb d_X_instruction_4 rfl hl (by decide) rfl (fun ls hl => ?_)
  refine lv_iload_n hx hb d_X_instruction_5 rfl (lv_at hl 2 rfl) ?_
  refine lv_iconst (v := (5 : Int32)) hx hb d_X_instruction_6 (by decide) ?_
  refine lv_ishr hx hb d_X_instruction_7 ?_
  refine lv_bipush (v := (7 : Int32)) hx hb d_X_instruction_8 (by decide) ?_
  refine lv_iand hx hb d_X_instruction_10 ?_
  refine lv_istore_n (lv' := [(3, .int ((a1 >>> ((5 : Int32) &&& 31)) &&& (7 : Int32))), (2, .int (12 : Int32)), (0, .ref yX), (1, .int a1)]) hx hb d_X_instruction_11 rfl hl (by decide) rfl (fun ls hl => ?_)
  refine lv_iload_n hx hb d_X_instruction_12 rfl (lv_at hl 3 rfl) ?_
  show W p l e _ s m args below meth c _ _ _ _ Q (F0 m 13 ls _)
  refine lv_bipush (v := (8 : Int32)) hx hb d_X_instruction_13 (by decide) ?_
  refine lv_ishr hx hb d_X_instruction_15 ?_
  refine lv_bipush (v := (7 : Int32)) hx hb d_X_instruction_16 (by decide) ?_
  refine lv_iand hx hb d_X_instruction_18 ?_
  refine lv_istore (lv' := [(4, .int ((a1 >>> ((8 : Int32) &&& 31)) &&& (7 : Int32))), (3, .int ((a1 >>> ((5 : Int32) &&& 31)) &&& (7 : Int32))), (2, .int (12 : Int32)), (0, .ref yX), (1, .int a1)]) hx hb d_X_instruction_19 hl (by decide) rfl (fun ls hl => ?_)
  refine lv_iload_n hx hb d_X_instruction_21 rfl (lv_at hl 4 rfl) ?_
  refine lv_bipush (v := (11 : Int32)) hx hb d_X_instruction_22 (by decide) ?_
  refine lv_ishr hx hb d_X_instruction_24 ?_
  refine lv_bipush (v := (7 : Int32)) hx hb d_X_instruction_25 (by decide) ?_
  refine lv_iand hx hb d_X_instruction_27 ?_
  refine lv_istore (lv' := [(5, .int ((a1 >>> ((11 : Int32) &&& 31)) &&& (7 : Int32))), (4, .int ((a1 >>> ((8 : Int32) &&& 31)) &&& (7 : Int32))), (3, .int ((a1 >>> ((5 : Int32) &&& 31)) &&& (7 : Int32))), (2, .int (12 : Int32)), (0, .ref yX), (1, .int a1)]) hx hb d_X_instruction_28 hl (by decide) rfl (fun ls hl => ?_)
  refine lv_iload_n hx hb d_X_instruction_30 rfl (lv_at hl 5 rfl) ?_
  show W p l e _ s m args below meth c _ _ _ _ Q (F0 m 31 ls _)
  refine lv_bipush (v := (16 : Int32)) hx hb d_X_instruction_31 (by decide) ?_
  refine lv_ishr hx hb d_X_instruction_33 ?_
  refine lv_istore (lv' := [(6, .int (a1 >>> ((16 : Int32) &&& 31))), (5, .int ((a1 >>> ((11 : Int32) &&& 31)) &&& (7 : Int32))), (4, .int ((a1 >>> ((8 : Int32) &&& 31)) &&& (7 : Int32))), (3, .int ((a1 >>> ((5 : Int32) &&& 31)) &&& (7 : Int32))), (2, .int (12 : Int32)), (0, .ref yX), (1, .int a1)]) hx hb d_X_instruction_34 hl (by decide) rfl (fun ls hl => ?_)
  refine lv_iload_n hx hb d_X_instruction_36 rfl (lv_at hl 4 rfl) ?_
  refine lv_bipush (v := (25 : Int32)) hx hb d_X_instruction_37 (by decide) ?_
  refine lv_icmp_eq (tgt := 66) hx hb d_X_instruction_39 (by decide) (fun hh => absurd hh (by decide)) (fun _ => ?_)
  refine lv_iload_n hx hb d_X_instruction_42 rfl (lv_at hl 4 rfl) ?_
  refine lv_bipush (v := (26 : Int32)) hx hb d_X_instruction_43 (by decide) ?_
  refine lv_icmp_eq (tgt := 66) hx hb d_X_instruction_45 (by decide) (fun hh => absurd hh (by decide)) (fun _ => ?_)
  refine lv_iload_n hx hb d_X_instruction_48 rfl (lv_at hl 4 rfl) ?_
  refine lv_bipush (v := (28 : Int32)) hx hb d_X_instruction_49 (by decide) ?_
  refine lv_icmp_eq (tgt := 66) hx hb d_X_instruction_51 (by decide) (fun hh => absurd hh (by decide)) (fun _ => ?_)
  refine lv_iload_n hx hb d_X_instruction_54 rfl (lv_at hl 4 rfl) ?_
  refine lv_bipush (v := (29 : Int32)) hx hb d_X_instruction_55 (by decide) ?_
  refine lv_icmp_eq (tgt := 66) hx hb d_X_instruction_57 (by decide) (fun hh => absurd hh (by decide)) (fun _ => ?_)
  refine lv_iload_n hx hb d_X_instruction_60 rfl (lv_at hl 4 rfl) ?_
  refine lv_bipush (v := (31 : Int32)) hx hb d_X_instruction_61 (by decide) ?_
  refine lv_icmp_ne (tgt := 70) hx hb d_X_instruction_63 (by decide) (fun _ => ?_) (fun hh => absurd hh (by decide))
  refine lv_iconst (v := (0 : Int32)) hx hb d_X_instruction_70 (by decide) ?_
  refine lv_istore (lv' := [(7, .int (0 : Int32)), (6, .int (a1 >>> ((16 : Int32) &&& 31))), (5, .int ((a1 >>> ((11 : Int32) &&& 31)) &&& (7 : Int32))), (4, .int ((a1 >>> ((8 : Int32) &&& 31)) &&& (7 : Int32))), (3, .int ((a1 >>> ((5 : Int32) &&& 31)) &&& (7 : Int32))), (2, .int (12 : Int32)), (0, .ref yX), (1, .int a1)]) hx hb d_X_instruction_71 hl (by decide) rfl (fun ls hl => ?_)
  refine lv_iload hx hb d_X_instruction_73 (lv_at hl 0 rfl) ?_
  refine lv_if_eq (tgt := 86) hx hb d_X_instruction_75 (by decide) (fun _ => ?_) (fun hh => absurd hh (by decide))
  refine lv_iload_n hx hb d_X_instruction_86 rfl (lv_at hl 5 rfl) ?_
  refine lv_bipush (v := (30 : Int32)) hx hb d_X_instruction_87 (by decide) ?_
  refine lv_icmp_ne (tgt := 111) hx hb d_X_instruction_89 (by decide) (fun _ => ?_) (fun hh => absurd hh (by decide))
  refine lv_aload_n hx hb d_X_instruction_111 rfl (lv_at hl 6 rfl) ?_
  refine zz_get (C := R_X) (T := F_X) (N := 27) (v := .ref yO) hx hb hts in_X hown hK hP 0 rfl rfl 4 (by decide) mw_68 rfl d_X_instruction_112 ?_
  refine lv_iconst (v := (0 : Int32)) hx hb d_X_instruction_115 (by decide) ?_
  refine va_iald hx hb hK hP 4 0 rfl rfl (zz_inc (by decide)) d_X_instruction_116 ?_
  refine lv_iconst (v := (1 : Int32)) hx hb d_X_instruction_117 (by decide) ?_
  refine lv_iadd hx hb d_X_instruction_118 ?_
  refine lv_istore (lv' := [(8, .int ((v_o (ix (0 : Int32))) + (1 : Int32))), (7, .int (0 : Int32)), (6, .int (a1 >>> ((16 : Int32) &&& 31))), (5, .int ((a1 >>> ((11 : Int32) &&& 31)) &&& (7 : Int32))), (4, .int ((a1 >>> ((8 : Int32) &&& 31)) &&& (7 : Int32))), (3, .int ((a1 >>> ((5 : Int32) &&& 31)) &&& (7 : Int32))), (2, .int (12 : Int32)), (0, .ref yX), (1, .int a1)]) hx hb d_X_instruction_119 hl (by decide) rfl (fun ls hl => ?_)
  refine lv_iload_n hx hb d_X_instruction_121 rfl (lv_at hl 6 rfl) ?_
  refine lv_if_le (tgt := 146) hx hb d_X_instruction_122 (by decide) (fun hh => absurd hh (by decide)) (fun _ => ?_)
  refine lv_iload_n hx hb d_X_instruction_125 rfl (lv_at hl 6 rfl) ?_
  refine lv_bipush (v := (13 : Int32)) hx hb d_X_instruction_126 (by decide) ?_
  refine lv_icmp_ge (tgt := 146) hx hb d_X_instruction_128 (by decide) (fun hh => absurd hh (by decide)) (fun _ => ?_)
  refine lv_aload_n hx hb d_X_instruction_131 rfl (lv_at hl 7 rfl) ?_
  refine lv_iload_n hx hb d_X_instruction_132 rfl (lv_at hl 6 rfl) ?_
  refine lv_iload_n hx hb d_X_instruction_133 rfl (lv_at hl 5 rfl) ?_
  refine lv_iload hx hb d_X_instruction_134 (lv_at hl 4 rfl) ?_
  refine lv_iload hx hb d_X_instruction_136 (lv_at hl 3 rfl) ?_
  refine lv_iload hx hb d_X_instruction_138 (lv_at hl 2 rfl) ?_
  refine zz_cVv (rest := []) (wr := []) (w' := [oX yX yM yD yA yO yL yH yI v_x, ar cI yM 512 v_M, ar cI yD 8 (s_X_reckon12 v_x v_M v_d v_a v_o v_lo v_hi v_ri ((a1 >>> ((5 : Int32) &&& 31)) &&& (7 : Int32)) ((a1 >>> ((8 : Int32) &&& 31)) &&& (7 : Int32)) ((a1 >>> ((11 : Int32) &&& 31)) &&& (7 : Int32)) (a1 >>> ((16 : Int32) &&& 31))), ar cI yA 8 v_a, ar cI yO 4 v_o, ar cI yL 6 v_lo, ar cI yH 6 v_hi, ar cI yI 6 v_ri]) ⟨hx, hb, hml, hown, hts⟩ (k_X_reckon12 l D cI _ yX yM yD yA yO yL yH yI v_x v_M v_d v_a v_o v_lo v_hi v_ri ((a1 >>> ((5 : Int32) &&& 31)) &&& (7 : Int32)) ((a1 >>> ((8 : Int32) &&& 31)) &&& (7 : Int32)) ((a1 >>> ((11 : Int32) &&& 31)) &&& (7 : Int32)) (a1 >>> ((16 : Int32) &&& 31)) (zz_in7 _) (zz_in7 _) (zz_in7 _)) g_X_instruction_X_reckon_111 nv_X_reckon ⟨⟨rfl, rfl⟩, Nat.le_of_ble_eq_true rfl, Nat.le_of_ble_eq_true rfl⟩ hK [0] rfl hP hD hS hA [0, 1, 2, 3, 4, 5, 6, 7] [] [0, 1, 2, 3, 4, 5, 6, 7] rfl rfl rfl rfl (by decide) rfl rfl 0 6 rfl rfl rfl rfl hl.1 (Nat.le_of_ble_eq_true rfl) d_X_instruction_140 ⟨Nat.zero_le _, Nat.zero_le _⟩ (fun H locs hP hD hS => ?_)
  refine lv_goto (tgt := 244) hx hb d_X_instruction_143 (by decide) ?_
  refine lv_aload_n hx hb d_X_instruction_244 rfl (lv_at hl 7 rfl) ?_
  refine zz_get (C := R_X) (T := F_X) (N := 27) (v := .ref yO) hx hb hts in_X hown hK hP 0 rfl rfl 4 (by decide) mw_68 rfl d_X_instruction_245 ?_
  refine lv_iconst (v := (0 : Int32)) hx hb d_X_instruction_248 (by decide) ?_
  show W p l e _ s m args below meth c _ _ _ _ Q (F0 m 249 ls _)
  refine lv_aload_n hx hb d_X_instruction_249 rfl (lv_at hl 7 rfl) ?_
  refine zz_get (C := R_X) (T := F_X) (N := 27) (v := .int (v_x 19)) hx hb hts in_X hown hK hP 0 rfl rfl 26 (by decide) mw_79 rfl d_X_instruction_250 ?_
  have J253_2 : ∀ (vj253_0 : Int32) (ls : Array Slot) (H : Heap) (locs : List Loc), vj253_0 = (if (v_x 19) = 0 then (if (v_x 7) = 0 then (v_o (ix (0 : Int32))) else ((v_o (ix (0 : Int32))) + (1 : Int32))) else (v_o (ix (0 : Int32)))) → lv_has ls 9 [(8, .int ((v_o (ix (0 : Int32))) + (1 : Int32))), (7, .int (0 : Int32)), (6, .int (a1 >>> ((16 : Int32) &&& 31))), (5, .int ((a1 >>> ((11 : Int32) &&& 31)) &&& (7 : Int32))), (4, .int ((a1 >>> ((8 : Int32) &&& 31)) &&& (7 : Int32))), (3, .int ((a1 >>> ((5 : Int32) &&& 31)) &&& (7 : Int32))), (2, .int (12 : Int32)), (0, .ref yX), (1, .int a1)] → va_P D classes [oX yX yM yD yA yO yL yH yI v_x, ar cI yM 512 v_M, ar cI yD 8 (s_X_reckon12 v_x v_M v_d v_a v_o v_lo v_hi v_ri ((a1 >>> ((5 : Int32) &&& 31)) &&& (7 : Int32)) ((a1 >>> ((8 : Int32) &&& 31)) &&& (7 : Int32)) ((a1 >>> ((11 : Int32) &&& 31)) &&& (7 : Int32)) (a1 >>> ((16 : Int32) &&& 31))), ar cI yA 8 v_a, ar cI yO 4 v_o, ar cI yL 6 v_lo, ar cI yH 6 v_hi, ar cI yI 6 v_ri] H → va_D A [oX yX yM yD yA yO yL yH yI v_x, ar cI yM 512 v_M, ar cI yD 8 (s_X_reckon12 v_x v_M v_d v_a v_o v_lo v_hi v_ri ((a1 >>> ((5 : Int32) &&& 31)) &&& (7 : Int32)) ((a1 >>> ((8 : Int32) &&& 31)) &&& (7 : Int32)) ((a1 >>> ((11 : Int32) &&& 31)) &&& (7 : Int32)) (a1 >>> ((16 : Int32) &&& 31))), ar cI yA 8 v_a, ar cI yO 4 v_o, ar cI yL 6 v_lo, ar cI yH 6 v_hi, ar cI yI 6 v_ri] → va_S A s.heap H locs → W p l e { frames := 4, cells := 0, slots := 0, locals := 100 } s m args below meth c H locs 0 0 Q (F0 m 274 ls [.int vj253_0, .int (0 : Int32), .ref yO]) := by
    intro vj253_0 ls H locs evj253_0 hl hP hD hS
    subst evj253_0
    refine zz_iast (w' := [oX yX yM yD yA yO yL yH yI v_x, ar cI yM 512 v_M, ar cI yD 8 (s_X_reckon12 v_x v_M v_d v_a v_o v_lo v_hi v_ri ((a1 >>> ((5 : Int32) &&& 31)) &&& (7 : Int32)) ((a1 >>> ((8 : Int32) &&& 31)) &&& (7 : Int32)) ((a1 >>> ((11 : Int32) &&& 31)) &&& (7 : Int32)) (a1 >>> ((16 : Int32) &&& 31))), ar cI yA 8 v_a, ar cI yO 4 (upd v_o (ix (0 : Int32)) (if (v_x 19) = 0 then (if (v_x 7) = 0 then (v_o (ix (0 : Int32))) else ((v_o (ix (0 : Int32))) + (1 : Int32))) else (v_o (ix (0 : Int32))))), ar cI yL 6 v_lo, ar cI yH 6 v_hi, ar cI yI 6 v_ri]) hx hb hK hP hD hS 4 0 rfl rfl (zz_inc (by decide)) d_X_instruction_274 rfl (fun H locs hP hD hS => ?_)
    have hsp : s_X_instr12 v_x v_M v_d v_a v_o v_lo v_hi v_ri a1 = ((s_X_reckon12 v_x v_M v_d v_a v_o v_lo v_hi v_ri ((a1 >>> ((5 : Int32) &&& 31)) &&& (7 : Int32)) ((a1 >>> ((8 : Int32) &&& 31)) &&& (7 : Int32)) ((a1 >>> ((11 : Int32) &&& 31)) &&& (7 : Int32)) (a1 >>> ((16 : Int32) &&& 31))), upd v_o (ix (0 : Int32)) (if (v_x 19) = 0 then (if (v_x 7) = 0 then (v_o (ix (0 : Int32))) else ((v_o (ix (0 : Int32))) + (1 : Int32))) else (v_o (ix (0 : Int32))))) := rfl
    rw [hsp] at hE
    exact hE _ _ _ _ hP hD hS d_X_instruction_275
  refine lv_if_ne (tgt := 268) hx hb d_X_instruction_253 (by decide) (fun h1 => ?_) (fun h1 => ?_)
  ·
    refine lv_aload_n hx hb d_X_instruction_268 rfl (lv_at hl 7 rfl) ?_
    refine zz_get (C := R_X) (T := F_X) (N := 27) (v := .ref yO) hx hb hts in_X hown hK hP 0 rfl rfl 4 (by decide) mw_68 rfl d_X_instruction_269 ?_
    refine lv_iconst (v := (0 : Int32)) hx hb d_X_instruction_272 (by decide) ?_
    refine va_iald hx hb hK hP 4 0 rfl rfl (zz_inc (by decide)) d_X_instruction_273 ?_
    exact J253_2 (v_o (ix (0 : Int32))) _ _ _ (by rw [if_neg h1]) (lv_sub hl [0, 1, 2, 3, 4, 5, 6, 7, 8] rfl) hP hD hS
  ·
    refine lv_aload_n hx hb d_X_instruction_256 rfl (lv_at hl 7 rfl) ?_
    refine zz_get (C := R_X) (T := F_X) (N := 27) (v := .int (v_x 7)) hx hb hts in_X hown hK hP 0 rfl rfl 11 (by decide) mw_78 rfl d_X_instruction_257 ?_
    refine lv_if_eq (tgt := 268) hx hb d_X_instruction_260 (by decide) (fun h2 => ?_) (fun h2 => ?_)
    ·
      refine lv_aload_n hx hb d_X_instruction_268 rfl (lv_at hl 7 rfl) ?_
      refine zz_get (C := R_X) (T := F_X) (N := 27) (v := .ref yO) hx hb hts in_X hown hK hP 0 rfl rfl 4 (by decide) mw_68 rfl d_X_instruction_269 ?_
      refine lv_iconst (v := (0 : Int32)) hx hb d_X_instruction_272 (by decide) ?_
      refine va_iald hx hb hK hP 4 0 rfl rfl (zz_inc (by decide)) d_X_instruction_273 ?_
      exact J253_2 (v_o (ix (0 : Int32))) _ _ _ (by rw [if_pos h1, if_pos h2]) (lv_sub hl [0, 1, 2, 3, 4, 5, 6, 7, 8] rfl) hP hD hS
    ·
      refine lv_iload hx hb d_X_instruction_263 (lv_at hl 0 rfl) ?_
      refine lv_goto (tgt := 274) hx hb d_X_instruction_265 (by decide) ?_
      exact J253_2 ((v_o (ix (0 : Int32))) + (1 : Int32)) _ _ _ (by rw [if_pos h1, if_neg h2]) (lv_sub hl [0, 1, 2, 3, 4, 5, 6, 7, 8] rfl) hP hD hS
set_option maxHeartbeats 4000000 in
set_option maxRecDepth 100000 in
theorem k_X_instr13 (l : Launch) (D : va_G) (cI : ClassId) (sz : Nat) (yX : Nat) (yM : Nat) (yD : Nat) (yA : Nat) (yO : Nat) (yL : Nat) (yH : Nat) (yI : Nat) (v_x : Nat → Int32) (v_M : Nat → Int32) (v_d : Nat → Int32) (v_a : Nat → Int32) (v_o : Nat → Int32) (v_lo : Nat → Int32) (v_hi : Nat → Int32) (v_ri : Nat → Int32) (a1 : Int32) (hop : (a1 &&& (31 : Int32)) = (13 : Int32)) (hset : v_x 2 = 0 ∨ v_x 2 = 1) : zMv l y_X_instruction (.code y_X_instruction b_X_instruction 9 (none) :: wd) { frames := 4, cells := 0, slots := 0, locals := 100 } D classes [(cI, .int)] [.ref yX, .int a1] [oX yX yM yD yA yO yL yH yI v_x, ar cI yM 512 v_M, ar cI yD 8 v_d, ar cI yA 8 v_a, ar cI yO 4 v_o, ar cI yL 6 v_lo, ar cI yH 6 v_hi, ar cI yI 6 v_ri] [oX yX yM yD yA yO yL yH yI ((s_X_instr13 v_x v_M v_d v_a v_o v_lo v_hi v_ri a1).1), ar cI yM 512 v_M, ar cI yD 8 ((s_X_instr13 v_x v_M v_d v_a v_o v_lo v_hi v_ri a1).2.1), ar cI yA 8 v_a, ar cI yO 4 ((s_X_instr13 v_x v_M v_d v_a v_o v_lo v_hi v_ri a1).2.2), ar cI yL 6 v_lo, ar cI yH 6 v_hi, ar cI yI 6 v_ri] sz := by
  refine met_v (by decide) (Nat.le_of_ble_eq_true rfl) ?_
  intro p e s m args below meth c A Q ls hx hb hml hown hts hK hP hD hS hA hl hE
  have hl : lv_has ls 9 [(0, .ref yX), (1, .int a1)] := hl
  have hown : s.vm.findClass R_X = some m.cls := hown
  refine lv_iload_n hx hb d_X_instruction_0 rfl (lv_at hl 1 rfl) ?_
  refine lv_bipush (v := (31 : Int32)) hx hb d_X_instruction_1 (by decide) ?_
  refine lv_iand hx hb d_X_instruction_3 ?_
  refine lv_topi (fun zz ez => ?_)
  obtain rfl : zz = (13 : Int32) := ez.trans hop
  refine lv_istore_n (lv' := [(2, .int (13 : Int32)), (0, .ref yX), (1, .int a1)]) hx hb d_X_instruction_4 rfl hl (by decide) rfl (fun ls hl => ?_)
  refine lv_iload_n hx hb d_X_instruction_5 rfl (lv_at hl 2 rfl) ?_
  refine lv_iconst (v := (5 : Int32)) hx hb d_X_instruction_6 (by decide) ?_
  refine lv_ishr hx hb d_X_instruction_7 ?_
  refine lv_bipush (v := (7 : Int32)) hx hb d_X_instruction_8 (by decide) ?_
  refine lv_iand hx hb d_X_instruction_10 ?_
  refine lv_istore_n (lv' := [(3, .int ((a1 >>> ((5 : Int32) &&& 31)) &&& (7 : Int32))), (2, .int (13 : Int32)), (0, .ref yX), (1, .int a1)]) hx hb d_X_instruction_11 rfl hl (by decide) rfl (fun ls hl => ?_)
  refine lv_iload_n hx hb d_X_instruction_12 rfl (lv_at hl 3 rfl) ?_
  show W p l e _ s m args below meth c _ _ _ _ Q (F0 m 13 ls _)
  refine lv_bipush (v := (8 : Int32)) hx hb d_X_instruction_13 (by decide) ?_
  refine lv_ishr hx hb d_X_instruction_15 ?_
  refine lv_bipush (v := (7 : Int32)) hx hb d_X_instruction_16 (by decide) ?_
  refine lv_iand hx hb d_X_instruction_18 ?_
  refine lv_istore (lv' := [(4, .int ((a1 >>> ((8 : Int32) &&& 31)) &&& (7 : Int32))), (3, .int ((a1 >>> ((5 : Int32) &&& 31)) &&& (7 : Int32))), (2, .int (13 : Int32)), (0, .ref yX), (1, .int a1)]) hx hb d_X_instruction_19 hl (by decide) rfl (fun ls hl => ?_)
  refine lv_iload_n hx hb d_X_instruction_21 rfl (lv_at hl 4 rfl) ?_
  refine lv_bipush (v := (11 : Int32)) hx hb d_X_instruction_22 (by decide) ?_
  refine lv_ishr hx hb d_X_instruction_24 ?_
  refine lv_bipush (v := (7 : Int32)) hx hb d_X_instruction_25 (by decide) ?_
  refine lv_iand hx hb d_X_instruction_27 ?_
  refine lv_istore (lv' := [(5, .int ((a1 >>> ((11 : Int32) &&& 31)) &&& (7 : Int32))), (4, .int ((a1 >>> ((8 : Int32) &&& 31)) &&& (7 : Int32))), (3, .int ((a1 >>> ((5 : Int32) &&& 31)) &&& (7 : Int32))), (2, .int (13 : Int32)), (0, .ref yX), (1, .int a1)]) hx hb d_X_instruction_28 hl (by decide) rfl (fun ls hl => ?_)
  refine lv_iload_n hx hb d_X_instruction_30 rfl (lv_at hl 5 rfl) ?_
  show W p l e _ s m args below meth c _ _ _ _ Q (F0 m 31 ls _)
  refine lv_bipush (v := (16 : Int32)) hx hb d_X_instruction_31 (by decide) ?_
  refine lv_ishr hx hb d_X_instruction_33 ?_
  refine lv_istore (lv' := [(6, .int (a1 >>> ((16 : Int32) &&& 31))), (5, .int ((a1 >>> ((11 : Int32) &&& 31)) &&& (7 : Int32))), (4, .int ((a1 >>> ((8 : Int32) &&& 31)) &&& (7 : Int32))), (3, .int ((a1 >>> ((5 : Int32) &&& 31)) &&& (7 : Int32))), (2, .int (13 : Int32)), (0, .ref yX), (1, .int a1)]) hx hb d_X_instruction_34 hl (by decide) rfl (fun ls hl => ?_)
  refine lv_iload_n hx hb d_X_instruction_36 rfl (lv_at hl 4 rfl) ?_
  refine lv_bipush (v := (25 : Int32)) hx hb d_X_instruction_37 (by decide) ?_
  refine lv_icmp_eq (tgt := 66) hx hb d_X_instruction_39 (by decide) (fun hh => absurd hh (by decide)) (fun _ => ?_)
  refine lv_iload_n hx hb d_X_instruction_42 rfl (lv_at hl 4 rfl) ?_
  refine lv_bipush (v := (26 : Int32)) hx hb d_X_instruction_43 (by decide) ?_
  refine lv_icmp_eq (tgt := 66) hx hb d_X_instruction_45 (by decide) (fun hh => absurd hh (by decide)) (fun _ => ?_)
  refine lv_iload_n hx hb d_X_instruction_48 rfl (lv_at hl 4 rfl) ?_
  refine lv_bipush (v := (28 : Int32)) hx hb d_X_instruction_49 (by decide) ?_
  refine lv_icmp_eq (tgt := 66) hx hb d_X_instruction_51 (by decide) (fun hh => absurd hh (by decide)) (fun _ => ?_)
  refine lv_iload_n hx hb d_X_instruction_54 rfl (lv_at hl 4 rfl) ?_
  refine lv_bipush (v := (29 : Int32)) hx hb d_X_instruction_55 (by decide) ?_
  refine lv_icmp_eq (tgt := 66) hx hb d_X_instruction_57 (by decide) (fun hh => absurd hh (by decide)) (fun _ => ?_)
  refine lv_iload_n hx hb d_X_instruction_60 rfl (lv_at hl 4 rfl) ?_
  refine lv_bipush (v := (31 : Int32)) hx hb d_X_instruction_61 (by decide) ?_
  refine lv_icmp_ne (tgt := 70) hx hb d_X_instruction_63 (by decide) (fun _ => ?_) (fun hh => absurd hh (by decide))
  refine lv_iconst (v := (0 : Int32)) hx hb d_X_instruction_70 (by decide) ?_
  refine lv_istore (lv' := [(7, .int (0 : Int32)), (6, .int (a1 >>> ((16 : Int32) &&& 31))), (5, .int ((a1 >>> ((11 : Int32) &&& 31)) &&& (7 : Int32))), (4, .int ((a1 >>> ((8 : Int32) &&& 31)) &&& (7 : Int32))), (3, .int ((a1 >>> ((5 : Int32) &&& 31)) &&& (7 : Int32))), (2, .int (13 : Int32)), (0, .ref yX), (1, .int a1)]) hx hb d_X_instruction_71 hl (by decide) rfl (fun ls hl => ?_)
  refine lv_iload hx hb d_X_instruction_73 (lv_at hl 0 rfl) ?_
  refine lv_if_eq (tgt := 86) hx hb d_X_instruction_75 (by decide) (fun _ => ?_) (fun hh => absurd hh (by decide))
  refine lv_iload_n hx hb d_X_instruction_86 rfl (lv_at hl 5 rfl) ?_
  refine lv_bipush (v := (30 : Int32)) hx hb d_X_instruction_87 (by decide) ?_
  refine lv_icmp_ne (tgt := 111) hx hb d_X_instruction_89 (by decide) (fun _ => ?_) (fun hh => absurd hh (by decide))
  refine lv_aload_n hx hb d_X_instruction_111 rfl (lv_at hl 6 rfl) ?_
  refine zz_get (C := R_X) (T := F_X) (N := 27) (v := .ref yO) hx hb hts in_X hown hK hP 0 rfl rfl 4 (by decide) mw_68 rfl d_X_instruction_112 ?_
  refine lv_iconst (v := (0 : Int32)) hx hb d_X_instruction_115 (by decide) ?_
  refine va_iald hx hb hK hP 4 0 rfl rfl (zz_inc (by decide)) d_X_instruction_116 ?_
  refine lv_iconst (v := (1 : Int32)) hx hb d_X_instruction_117 (by decide) ?_
  refine lv_iadd hx hb d_X_instruction_118 ?_
  refine lv_istore (lv' := [(8, .int ((v_o (ix (0 : Int32))) + (1 : Int32))), (7, .int (0 : Int32)), (6, .int (a1 >>> ((16 : Int32) &&& 31))), (5, .int ((a1 >>> ((11 : Int32) &&& 31)) &&& (7 : Int32))), (4, .int ((a1 >>> ((8 : Int32) &&& 31)) &&& (7 : Int32))), (3, .int ((a1 >>> ((5 : Int32) &&& 31)) &&& (7 : Int32))), (2, .int (13 : Int32)), (0, .ref yX), (1, .int a1)]) hx hb d_X_instruction_119 hl (by decide) rfl (fun ls hl => ?_)
  refine lv_iload_n hx hb d_X_instruction_121 rfl (lv_at hl 6 rfl) ?_
  refine lv_if_le (tgt := 146) hx hb d_X_instruction_122 (by decide) (fun hh => absurd hh (by decide)) (fun _ => ?_)
  refine lv_iload_n hx hb d_X_instruction_125 rfl (lv_at hl 6 rfl) ?_
  refine lv_bipush (v := (13 : Int32)) hx hb d_X_instruction_126 (by decide) ?_
  refine lv_icmp_ge (tgt := 146) hx hb d_X_instruction_128 (by decide) (fun _ => ?_) (fun hh => absurd hh (by decide))
  refine lv_iload_n hx hb d_X_instruction_146 rfl (lv_at hl 6 rfl) ?_
  refine lv_bipush (v := (12 : Int32)) hx hb d_X_instruction_147 (by decide) ?_
  refine lv_icmp_le (tgt := 171) hx hb d_X_instruction_149 (by decide) (fun hh => absurd hh (by decide)) (fun _ => ?_)
  refine lv_iload_n hx hb d_X_instruction_152 rfl (lv_at hl 6 rfl) ?_
  refine lv_bipush (v := (18 : Int32)) hx hb d_X_instruction_153 (by decide) ?_
  refine lv_icmp_ge (tgt := 171) hx hb d_X_instruction_155 (by decide) (fun hh => absurd hh (by decide)) (fun _ => ?_)
  refine lv_aload_n hx hb d_X_instruction_158 rfl (lv_at hl 7 rfl) ?_
  refine lv_iload_n hx hb d_X_instruction_159 rfl (lv_at hl 6 rfl) ?_
  refine lv_iload_n hx hb d_X_instruction_160 rfl (lv_at hl 5 rfl) ?_
  refine lv_iload hx hb d_X_instruction_161 (lv_at hl 4 rfl) ?_
  refine lv_iload hx hb d_X_instruction_163 (lv_at hl 2 rfl) ?_
  refine zz_cVv (rest := []) (wr := []) (w' := [oX yX yM yD yA yO yL yH yI ((s_X_move13 v_x v_M v_d v_a v_o v_lo v_hi v_ri ((a1 >>> ((5 : Int32) &&& 31)) &&& (7 : Int32)) ((a1 >>> ((8 : Int32) &&& 31)) &&& (7 : Int32)) (a1 >>> ((16 : Int32) &&& 31))).1), ar cI yM 512 v_M, ar cI yD 8 ((s_X_move13 v_x v_M v_d v_a v_o v_lo v_hi v_ri ((a1 >>> ((5 : Int32) &&& 31)) &&& (7 : Int32)) ((a1 >>> ((8 : Int32) &&& 31)) &&& (7 : Int32)) (a1 >>> ((16 : Int32) &&& 31))).2), ar cI yA 8 v_a, ar cI yO 4 v_o, ar cI yL 6 v_lo, ar cI yH 6 v_hi, ar cI yI 6 v_ri]) ⟨hx, hb, hml, hown, hts⟩ (k_X_move13 l D cI _ yX yM yD yA yO yL yH yI v_x v_M v_d v_a v_o v_lo v_hi v_ri ((a1 >>> ((5 : Int32) &&& 31)) &&& (7 : Int32)) ((a1 >>> ((8 : Int32) &&& 31)) &&& (7 : Int32)) (a1 >>> ((16 : Int32) &&& 31)) (zz_in7 _) (zz_in7 _) hset) g_X_instruction_X_move_115 nv_X_move ⟨⟨rfl, rfl⟩, Nat.le_of_ble_eq_true rfl, Nat.le_of_ble_eq_true rfl⟩ hK [0] rfl hP hD hS hA [0, 1, 2, 3, 4, 5, 6, 7] [] [0, 1, 2, 3, 4, 5, 6, 7] rfl rfl rfl rfl (by decide) rfl rfl 0 6 rfl rfl rfl rfl hl.1 (Nat.le_of_ble_eq_true rfl) d_X_instruction_165 ⟨Nat.zero_le _, Nat.zero_le _⟩ (fun H locs hP hD hS => ?_)
  refine lv_goto (tgt := 244) hx hb d_X_instruction_168 (by decide) ?_
  refine lv_aload_n hx hb d_X_instruction_244 rfl (lv_at hl 7 rfl) ?_
  refine zz_get (C := R_X) (T := F_X) (N := 27) (v := .ref yO) hx hb hts in_X hown hK hP 0 rfl rfl 4 (by decide) mw_68 rfl d_X_instruction_245 ?_
  refine lv_iconst (v := (0 : Int32)) hx hb d_X_instruction_248 (by decide) ?_
  refine lv_aload_n hx hb d_X_instruction_249 rfl (lv_at hl 7 rfl) ?_
  show W p l e _ s m args below meth c _ _ _ _ Q (F0 m 250 ls _)
  refine zz_get (C := R_X) (T := F_X) (N := 27) (v := .int (((s_X_move13 v_x v_M v_d v_a v_o v_lo v_hi v_ri ((a1 >>> ((5 : Int32) &&& 31)) &&& (7 : Int32)) ((a1 >>> ((8 : Int32) &&& 31)) &&& (7 : Int32)) (a1 >>> ((16 : Int32) &&& 31))).1) 19)) hx hb hts in_X hown hK hP 0 rfl rfl 26 (by decide) mw_79 rfl d_X_instruction_250 ?_
  have J253_2 : ∀ (vj253_0 : Int32) (ls : Array Slot) (H : Heap) (locs : List Loc), vj253_0 = (if (((s_X_move13 v_x v_M v_d v_a v_o v_lo v_hi v_ri ((a1 >>> ((5 : Int32) &&& 31)) &&& (7 : Int32)) ((a1 >>> ((8 : Int32) &&& 31)) &&& (7 : Int32)) (a1 >>> ((16 : Int32) &&& 31))).1) 19) = 0 then (if (((s_X_move13 v_x v_M v_d v_a v_o v_lo v_hi v_ri ((a1 >>> ((5 : Int32) &&& 31)) &&& (7 : Int32)) ((a1 >>> ((8 : Int32) &&& 31)) &&& (7 : Int32)) (a1 >>> ((16 : Int32) &&& 31))).1) 7) = 0 then (v_o (ix (0 : Int32))) else ((v_o (ix (0 : Int32))) + (1 : Int32))) else (v_o (ix (0 : Int32)))) → lv_has ls 9 [(8, .int ((v_o (ix (0 : Int32))) + (1 : Int32))), (7, .int (0 : Int32)), (6, .int (a1 >>> ((16 : Int32) &&& 31))), (5, .int ((a1 >>> ((11 : Int32) &&& 31)) &&& (7 : Int32))), (4, .int ((a1 >>> ((8 : Int32) &&& 31)) &&& (7 : Int32))), (3, .int ((a1 >>> ((5 : Int32) &&& 31)) &&& (7 : Int32))), (2, .int (13 : Int32)), (0, .ref yX), (1, .int a1)] → va_P D classes [oX yX yM yD yA yO yL yH yI ((s_X_move13 v_x v_M v_d v_a v_o v_lo v_hi v_ri ((a1 >>> ((5 : Int32) &&& 31)) &&& (7 : Int32)) ((a1 >>> ((8 : Int32) &&& 31)) &&& (7 : Int32)) (a1 >>> ((16 : Int32) &&& 31))).1), ar cI yM 512 v_M, ar cI yD 8 ((s_X_move13 v_x v_M v_d v_a v_o v_lo v_hi v_ri ((a1 >>> ((5 : Int32) &&& 31)) &&& (7 : Int32)) ((a1 >>> ((8 : Int32) &&& 31)) &&& (7 : Int32)) (a1 >>> ((16 : Int32) &&& 31))).2), ar cI yA 8 v_a, ar cI yO 4 v_o, ar cI yL 6 v_lo, ar cI yH 6 v_hi, ar cI yI 6 v_ri] H → va_D A [oX yX yM yD yA yO yL yH yI ((s_X_move13 v_x v_M v_d v_a v_o v_lo v_hi v_ri ((a1 >>> ((5 : Int32) &&& 31)) &&& (7 : Int32)) ((a1 >>> ((8 : Int32) &&& 31)) &&& (7 : Int32)) (a1 >>> ((16 : Int32) &&& 31))).1), ar cI yM 512 v_M, ar cI yD 8 ((s_X_move13 v_x v_M v_d v_a v_o v_lo v_hi v_ri ((a1 >>> ((5 : Int32) &&& 31)) &&& (7 : Int32)) ((a1 >>> ((8 : Int32) &&& 31)) &&& (7 : Int32)) (a1 >>> ((16 : Int32) &&& 31))).2), ar cI yA 8 v_a, ar cI yO 4 v_o, ar cI yL 6 v_lo, ar cI yH 6 v_hi, ar cI yI 6 v_ri] → va_S A s.heap H locs → W p l e { frames := 4, cells := 0, slots := 0, locals := 100 } s m args below meth c H locs 0 0 Q (F0 m 274 ls [.int vj253_0, .int (0 : Int32), .ref yO]) := by
    intro vj253_0 ls H locs evj253_0 hl hP hD hS
    subst evj253_0
    refine zz_iast (w' := [oX yX yM yD yA yO yL yH yI ((s_X_move13 v_x v_M v_d v_a v_o v_lo v_hi v_ri ((a1 >>> ((5 : Int32) &&& 31)) &&& (7 : Int32)) ((a1 >>> ((8 : Int32) &&& 31)) &&& (7 : Int32)) (a1 >>> ((16 : Int32) &&& 31))).1), ar cI yM 512 v_M, ar cI yD 8 ((s_X_move13 v_x v_M v_d v_a v_o v_lo v_hi v_ri ((a1 >>> ((5 : Int32) &&& 31)) &&& (7 : Int32)) ((a1 >>> ((8 : Int32) &&& 31)) &&& (7 : Int32)) (a1 >>> ((16 : Int32) &&& 31))).2), ar cI yA 8 v_a, ar cI yO 4 (upd v_o (ix (0 : Int32)) (if (((s_X_move13 v_x v_M v_d v_a v_o v_lo v_hi v_ri ((a1 >>> ((5 : Int32) &&& 31)) &&& (7 : Int32)) ((a1 >>> ((8 : Int32) &&& 31)) &&& (7 : Int32)) (a1 >>> ((16 : Int32) &&& 31))).1) 19) = 0 then (if (((s_X_move13 v_x v_M v_d v_a v_o v_lo v_hi v_ri ((a1 >>> ((5 : Int32) &&& 31)) &&& (7 : Int32)) ((a1 >>> ((8 : Int32) &&& 31)) &&& (7 : Int32)) (a1 >>> ((16 : Int32) &&& 31))).1) 7) = 0 then (v_o (ix (0 : Int32))) else ((v_o (ix (0 : Int32))) + (1 : Int32))) else (v_o (ix (0 : Int32))))), ar cI yL 6 v_lo, ar cI yH 6 v_hi, ar cI yI 6 v_ri]) hx hb hK hP hD hS 4 0 rfl rfl (zz_inc (by decide)) d_X_instruction_274 rfl (fun H locs hP hD hS => ?_)
    have hsp : s_X_instr13 v_x v_M v_d v_a v_o v_lo v_hi v_ri a1 = ((s_X_move13 v_x v_M v_d v_a v_o v_lo v_hi v_ri ((a1 >>> ((5 : Int32) &&& 31)) &&& (7 : Int32)) ((a1 >>> ((8 : Int32) &&& 31)) &&& (7 : Int32)) (a1 >>> ((16 : Int32) &&& 31))).1, (s_X_move13 v_x v_M v_d v_a v_o v_lo v_hi v_ri ((a1 >>> ((5 : Int32) &&& 31)) &&& (7 : Int32)) ((a1 >>> ((8 : Int32) &&& 31)) &&& (7 : Int32)) (a1 >>> ((16 : Int32) &&& 31))).2, upd v_o (ix (0 : Int32)) (if (((s_X_move13 v_x v_M v_d v_a v_o v_lo v_hi v_ri ((a1 >>> ((5 : Int32) &&& 31)) &&& (7 : Int32)) ((a1 >>> ((8 : Int32) &&& 31)) &&& (7 : Int32)) (a1 >>> ((16 : Int32) &&& 31))).1) 19) = 0 then (if (((s_X_move13 v_x v_M v_d v_a v_o v_lo v_hi v_ri ((a1 >>> ((5 : Int32) &&& 31)) &&& (7 : Int32)) ((a1 >>> ((8 : Int32) &&& 31)) &&& (7 : Int32)) (a1 >>> ((16 : Int32) &&& 31))).1) 7) = 0 then (v_o (ix (0 : Int32))) else ((v_o (ix (0 : Int32))) + (1 : Int32))) else (v_o (ix (0 : Int32))))) := rfl
    rw [hsp] at hE
    exact hE _ _ _ _ hP hD hS d_X_instruction_275
  refine lv_if_ne (tgt := 268) hx hb d_X_instruction_253 (by decide) (fun h1 => ?_) (fun h1 => ?_)
  ·
    refine lv_aload_n hx hb d_X_instruction_268 rfl (lv_at hl 7 rfl) ?_
    refine zz_get (C := R_X) (T := F_X) (N := 27) (v := .ref yO) hx hb hts in_X hown hK hP 0 rfl rfl 4 (by decide) mw_68 rfl d_X_instruction_269 ?_
    refine lv_iconst (v := (0 : Int32)) hx hb d_X_instruction_272 (by decide) ?_
    refine va_iald hx hb hK hP 4 0 rfl rfl (zz_inc (by decide)) d_X_instruction_273 ?_
    exact J253_2 (v_o (ix (0 : Int32))) _ _ _ (by rw [if_neg h1]) (lv_sub hl [0, 1, 2, 3, 4, 5, 6, 7, 8] rfl) hP hD hS
  ·
    refine lv_aload_n hx hb d_X_instruction_256 rfl (lv_at hl 7 rfl) ?_
    refine zz_get (C := R_X) (T := F_X) (N := 27) (v := .int (((s_X_move13 v_x v_M v_d v_a v_o v_lo v_hi v_ri ((a1 >>> ((5 : Int32) &&& 31)) &&& (7 : Int32)) ((a1 >>> ((8 : Int32) &&& 31)) &&& (7 : Int32)) (a1 >>> ((16 : Int32) &&& 31))).1) 7)) hx hb hts in_X hown hK hP 0 rfl rfl 11 (by decide) mw_78 rfl d_X_instruction_257 ?_
    refine lv_if_eq (tgt := 268) hx hb d_X_instruction_260 (by decide) (fun h2 => ?_) (fun h2 => ?_)
    ·
      refine lv_aload_n hx hb d_X_instruction_268 rfl (lv_at hl 7 rfl) ?_
      refine zz_get (C := R_X) (T := F_X) (N := 27) (v := .ref yO) hx hb hts in_X hown hK hP 0 rfl rfl 4 (by decide) mw_68 rfl d_X_instruction_269 ?_
      refine lv_iconst (v := (0 : Int32)) hx hb d_X_instruction_272 (by decide) ?_
      refine va_iald hx hb hK hP 4 0 rfl rfl (zz_inc (by decide)) d_X_instruction_273 ?_
      exact J253_2 (v_o (ix (0 : Int32))) _ _ _ (by rw [if_pos h1, if_pos h2]) (lv_sub hl [0, 1, 2, 3, 4, 5, 6, 7, 8] rfl) hP hD hS
    ·
      refine lv_iload hx hb d_X_instruction_263 (lv_at hl 0 rfl) ?_
      refine lv_goto (tgt := 274) hx hb d_X_instruction_265 (by decide) ?_
      exact J253_2 ((v_o (ix (0 : Int32))) + (1 : Int32)) _ _ _ (by rw [if_pos h1, if_neg h2]) (lv_sub hl [0, 1, 2, 3, 4, 5, 6, 7, 8] rfl) hP hD hS
set_option maxHeartbeats 4000000 in
set_option maxRecDepth 100000 in
theorem k_X_instr14 (l : Launch) (D : va_G) (cI : ClassId) (sz : Nat) (yX : Nat) (yM : Nat) (yD : Nat) (yA : Nat) (yO : Nat) (yL : Nat) (yH : Nat) (yI : Nat) (v_x : Nat → Int32) (v_M : Nat → Int32) (v_d : Nat → Int32) (v_a : Nat → Int32) (v_o : Nat → Int32) (v_lo : Nat → Int32) (v_hi : Nat → Int32) (v_ri : Nat → Int32) (a1 : Int32) (hop : (a1 &&& (31 : Int32)) = (14 : Int32)) (hset : v_x 2 = 0 ∨ v_x 2 = 1) : zMv l y_X_instruction (.code y_X_instruction b_X_instruction 9 (none) :: wd) { frames := 4, cells := 0, slots := 0, locals := 100 } D classes [(cI, .int)] [.ref yX, .int a1] [oX yX yM yD yA yO yL yH yI v_x, ar cI yM 512 v_M, ar cI yD 8 v_d, ar cI yA 8 v_a, ar cI yO 4 v_o, ar cI yL 6 v_lo, ar cI yH 6 v_hi, ar cI yI 6 v_ri] [oX yX yM yD yA yO yL yH yI ((s_X_instr14 v_x v_M v_d v_a v_o v_lo v_hi v_ri a1).1), ar cI yM 512 ((s_X_instr14 v_x v_M v_d v_a v_o v_lo v_hi v_ri a1).2.1), ar cI yD 8 v_d, ar cI yA 8 v_a, ar cI yO 4 ((s_X_instr14 v_x v_M v_d v_a v_o v_lo v_hi v_ri a1).2.2), ar cI yL 6 v_lo, ar cI yH 6 v_hi, ar cI yI 6 v_ri] sz := by
  refine met_v (by decide) (Nat.le_of_ble_eq_true rfl) ?_
  intro p e s m args below meth c A Q ls hx hb hml hown hts hK hP hD hS hA hl hE
  have hl : lv_has ls 9 [(0, .ref yX), (1, .int a1)] := hl
  have hown : s.vm.findClass R_X = some m.cls := hown
  refine lv_iload_n hx hb d_X_instruction_0 rfl (lv_at hl 1 rfl) ?_
  refine lv_bipush (v := (31 : Int32)) hx hb d_X_instruction_1 (by decide) ?_
  refine lv_iand hx hb d_X_instruction_3 ?_
  refine lv_topi (fun zz ez => ?_)
  obtain rfl : zz = (14 : Int32) := ez.trans hop
  refine lv_istore_n (lv' := [(2, .int (14 : Int32)), (0, .ref yX), (1, .int a1)]) hx hb d_X_instruction_4 rfl hl (by decide) rfl (fun ls hl => ?_)
  refine lv_iload_n hx hb d_X_instruction_5 rfl (lv_at hl 2 rfl) ?_
  refine lv_iconst (v := (5 : Int32)) hx hb d_X_instruction_6 (by decide) ?_
  refine lv_ishr hx hb d_X_instruction_7 ?_
  refine lv_bipush (v := (7 : Int32)) hx hb d_X_instruction_8 (by decide) ?_
  refine lv_iand hx hb d_X_instruction_10 ?_
  refine lv_istore_n (lv' := [(3, .int ((a1 >>> ((5 : Int32) &&& 31)) &&& (7 : Int32))), (2, .int (14 : Int32)), (0, .ref yX), (1, .int a1)]) hx hb d_X_instruction_11 rfl hl (by decide) rfl (fun ls hl => ?_)
  refine lv_iload_n hx hb d_X_instruction_12 rfl (lv_at hl 3 rfl) ?_
  show W p l e _ s m args below meth c _ _ _ _ Q (F0 m 13 ls _)
  refine lv_bipush (v := (8 : Int32)) hx hb d_X_instruction_13 (by decide) ?_
  refine lv_ishr hx hb d_X_instruction_15 ?_
  refine lv_bipush (v := (7 : Int32)) hx hb d_X_instruction_16 (by decide) ?_
  refine lv_iand hx hb d_X_instruction_18 ?_
  refine lv_istore (lv' := [(4, .int ((a1 >>> ((8 : Int32) &&& 31)) &&& (7 : Int32))), (3, .int ((a1 >>> ((5 : Int32) &&& 31)) &&& (7 : Int32))), (2, .int (14 : Int32)), (0, .ref yX), (1, .int a1)]) hx hb d_X_instruction_19 hl (by decide) rfl (fun ls hl => ?_)
  refine lv_iload_n hx hb d_X_instruction_21 rfl (lv_at hl 4 rfl) ?_
  refine lv_bipush (v := (11 : Int32)) hx hb d_X_instruction_22 (by decide) ?_
  refine lv_ishr hx hb d_X_instruction_24 ?_
  refine lv_bipush (v := (7 : Int32)) hx hb d_X_instruction_25 (by decide) ?_
  refine lv_iand hx hb d_X_instruction_27 ?_
  refine lv_istore (lv' := [(5, .int ((a1 >>> ((11 : Int32) &&& 31)) &&& (7 : Int32))), (4, .int ((a1 >>> ((8 : Int32) &&& 31)) &&& (7 : Int32))), (3, .int ((a1 >>> ((5 : Int32) &&& 31)) &&& (7 : Int32))), (2, .int (14 : Int32)), (0, .ref yX), (1, .int a1)]) hx hb d_X_instruction_28 hl (by decide) rfl (fun ls hl => ?_)
  refine lv_iload_n hx hb d_X_instruction_30 rfl (lv_at hl 5 rfl) ?_
  show W p l e _ s m args below meth c _ _ _ _ Q (F0 m 31 ls _)
  refine lv_bipush (v := (16 : Int32)) hx hb d_X_instruction_31 (by decide) ?_
  refine lv_ishr hx hb d_X_instruction_33 ?_
  refine lv_istore (lv' := [(6, .int (a1 >>> ((16 : Int32) &&& 31))), (5, .int ((a1 >>> ((11 : Int32) &&& 31)) &&& (7 : Int32))), (4, .int ((a1 >>> ((8 : Int32) &&& 31)) &&& (7 : Int32))), (3, .int ((a1 >>> ((5 : Int32) &&& 31)) &&& (7 : Int32))), (2, .int (14 : Int32)), (0, .ref yX), (1, .int a1)]) hx hb d_X_instruction_34 hl (by decide) rfl (fun ls hl => ?_)
  refine lv_iload_n hx hb d_X_instruction_36 rfl (lv_at hl 4 rfl) ?_
  refine lv_bipush (v := (25 : Int32)) hx hb d_X_instruction_37 (by decide) ?_
  refine lv_icmp_eq (tgt := 66) hx hb d_X_instruction_39 (by decide) (fun hh => absurd hh (by decide)) (fun _ => ?_)
  refine lv_iload_n hx hb d_X_instruction_42 rfl (lv_at hl 4 rfl) ?_
  refine lv_bipush (v := (26 : Int32)) hx hb d_X_instruction_43 (by decide) ?_
  refine lv_icmp_eq (tgt := 66) hx hb d_X_instruction_45 (by decide) (fun hh => absurd hh (by decide)) (fun _ => ?_)
  refine lv_iload_n hx hb d_X_instruction_48 rfl (lv_at hl 4 rfl) ?_
  refine lv_bipush (v := (28 : Int32)) hx hb d_X_instruction_49 (by decide) ?_
  refine lv_icmp_eq (tgt := 66) hx hb d_X_instruction_51 (by decide) (fun hh => absurd hh (by decide)) (fun _ => ?_)
  refine lv_iload_n hx hb d_X_instruction_54 rfl (lv_at hl 4 rfl) ?_
  refine lv_bipush (v := (29 : Int32)) hx hb d_X_instruction_55 (by decide) ?_
  refine lv_icmp_eq (tgt := 66) hx hb d_X_instruction_57 (by decide) (fun hh => absurd hh (by decide)) (fun _ => ?_)
  refine lv_iload_n hx hb d_X_instruction_60 rfl (lv_at hl 4 rfl) ?_
  refine lv_bipush (v := (31 : Int32)) hx hb d_X_instruction_61 (by decide) ?_
  refine lv_icmp_ne (tgt := 70) hx hb d_X_instruction_63 (by decide) (fun _ => ?_) (fun hh => absurd hh (by decide))
  refine lv_iconst (v := (0 : Int32)) hx hb d_X_instruction_70 (by decide) ?_
  refine lv_istore (lv' := [(7, .int (0 : Int32)), (6, .int (a1 >>> ((16 : Int32) &&& 31))), (5, .int ((a1 >>> ((11 : Int32) &&& 31)) &&& (7 : Int32))), (4, .int ((a1 >>> ((8 : Int32) &&& 31)) &&& (7 : Int32))), (3, .int ((a1 >>> ((5 : Int32) &&& 31)) &&& (7 : Int32))), (2, .int (14 : Int32)), (0, .ref yX), (1, .int a1)]) hx hb d_X_instruction_71 hl (by decide) rfl (fun ls hl => ?_)
  refine lv_iload hx hb d_X_instruction_73 (lv_at hl 0 rfl) ?_
  refine lv_if_eq (tgt := 86) hx hb d_X_instruction_75 (by decide) (fun _ => ?_) (fun hh => absurd hh (by decide))
  refine lv_iload_n hx hb d_X_instruction_86 rfl (lv_at hl 5 rfl) ?_
  refine lv_bipush (v := (30 : Int32)) hx hb d_X_instruction_87 (by decide) ?_
  refine lv_icmp_ne (tgt := 111) hx hb d_X_instruction_89 (by decide) (fun _ => ?_) (fun hh => absurd hh (by decide))
  refine lv_aload_n hx hb d_X_instruction_111 rfl (lv_at hl 6 rfl) ?_
  refine zz_get (C := R_X) (T := F_X) (N := 27) (v := .ref yO) hx hb hts in_X hown hK hP 0 rfl rfl 4 (by decide) mw_68 rfl d_X_instruction_112 ?_
  refine lv_iconst (v := (0 : Int32)) hx hb d_X_instruction_115 (by decide) ?_
  refine va_iald hx hb hK hP 4 0 rfl rfl (zz_inc (by decide)) d_X_instruction_116 ?_
  refine lv_iconst (v := (1 : Int32)) hx hb d_X_instruction_117 (by decide) ?_
  refine lv_iadd hx hb d_X_instruction_118 ?_
  refine lv_istore (lv' := [(8, .int ((v_o (ix (0 : Int32))) + (1 : Int32))), (7, .int (0 : Int32)), (6, .int (a1 >>> ((16 : Int32) &&& 31))), (5, .int ((a1 >>> ((11 : Int32) &&& 31)) &&& (7 : Int32))), (4, .int ((a1 >>> ((8 : Int32) &&& 31)) &&& (7 : Int32))), (3, .int ((a1 >>> ((5 : Int32) &&& 31)) &&& (7 : Int32))), (2, .int (14 : Int32)), (0, .ref yX), (1, .int a1)]) hx hb d_X_instruction_119 hl (by decide) rfl (fun ls hl => ?_)
  refine lv_iload_n hx hb d_X_instruction_121 rfl (lv_at hl 6 rfl) ?_
  refine lv_if_le (tgt := 146) hx hb d_X_instruction_122 (by decide) (fun hh => absurd hh (by decide)) (fun _ => ?_)
  refine lv_iload_n hx hb d_X_instruction_125 rfl (lv_at hl 6 rfl) ?_
  refine lv_bipush (v := (13 : Int32)) hx hb d_X_instruction_126 (by decide) ?_
  refine lv_icmp_ge (tgt := 146) hx hb d_X_instruction_128 (by decide) (fun _ => ?_) (fun hh => absurd hh (by decide))
  refine lv_iload_n hx hb d_X_instruction_146 rfl (lv_at hl 6 rfl) ?_
  refine lv_bipush (v := (12 : Int32)) hx hb d_X_instruction_147 (by decide) ?_
  refine lv_icmp_le (tgt := 171) hx hb d_X_instruction_149 (by decide) (fun hh => absurd hh (by decide)) (fun _ => ?_)
  refine lv_iload_n hx hb d_X_instruction_152 rfl (lv_at hl 6 rfl) ?_
  refine lv_bipush (v := (18 : Int32)) hx hb d_X_instruction_153 (by decide) ?_
  refine lv_icmp_ge (tgt := 171) hx hb d_X_instruction_155 (by decide) (fun hh => absurd hh (by decide)) (fun _ => ?_)
  refine lv_aload_n hx hb d_X_instruction_158 rfl (lv_at hl 7 rfl) ?_
  refine lv_iload_n hx hb d_X_instruction_159 rfl (lv_at hl 6 rfl) ?_
  refine lv_iload_n hx hb d_X_instruction_160 rfl (lv_at hl 5 rfl) ?_
  refine lv_iload hx hb d_X_instruction_161 (lv_at hl 4 rfl) ?_
  refine lv_iload hx hb d_X_instruction_163 (lv_at hl 2 rfl) ?_
  refine zz_cVv (rest := []) (wr := []) (w' := [oX yX yM yD yA yO yL yH yI ((s_X_move14 v_x v_M v_d v_a v_o v_lo v_hi v_ri ((a1 >>> ((5 : Int32) &&& 31)) &&& (7 : Int32)) ((a1 >>> ((8 : Int32) &&& 31)) &&& (7 : Int32)) (a1 >>> ((16 : Int32) &&& 31))).1), ar cI yM 512 ((s_X_move14 v_x v_M v_d v_a v_o v_lo v_hi v_ri ((a1 >>> ((5 : Int32) &&& 31)) &&& (7 : Int32)) ((a1 >>> ((8 : Int32) &&& 31)) &&& (7 : Int32)) (a1 >>> ((16 : Int32) &&& 31))).2), ar cI yD 8 v_d, ar cI yA 8 v_a, ar cI yO 4 v_o, ar cI yL 6 v_lo, ar cI yH 6 v_hi, ar cI yI 6 v_ri]) ⟨hx, hb, hml, hown, hts⟩ (k_X_move14 l D cI _ yX yM yD yA yO yL yH yI v_x v_M v_d v_a v_o v_lo v_hi v_ri ((a1 >>> ((5 : Int32) &&& 31)) &&& (7 : Int32)) ((a1 >>> ((8 : Int32) &&& 31)) &&& (7 : Int32)) (a1 >>> ((16 : Int32) &&& 31)) (zz_in7 _) (zz_in7 _) hset) g_X_instruction_X_move_115 nv_X_move ⟨⟨rfl, rfl⟩, Nat.le_of_ble_eq_true rfl, Nat.le_of_ble_eq_true rfl⟩ hK [0] rfl hP hD hS hA [0, 1, 2, 3, 4, 5, 6, 7] [] [0, 1, 2, 3, 4, 5, 6, 7] rfl rfl rfl rfl (by decide) rfl rfl 0 6 rfl rfl rfl rfl hl.1 (Nat.le_of_ble_eq_true rfl) d_X_instruction_165 ⟨Nat.zero_le _, Nat.zero_le _⟩ (fun H locs hP hD hS => ?_)
  refine lv_goto (tgt := 244) hx hb d_X_instruction_168 (by decide) ?_
  refine lv_aload_n hx hb d_X_instruction_244 rfl (lv_at hl 7 rfl) ?_
  refine zz_get (C := R_X) (T := F_X) (N := 27) (v := .ref yO) hx hb hts in_X hown hK hP 0 rfl rfl 4 (by decide) mw_68 rfl d_X_instruction_245 ?_
  refine lv_iconst (v := (0 : Int32)) hx hb d_X_instruction_248 (by decide) ?_
  refine lv_aload_n hx hb d_X_instruction_249 rfl (lv_at hl 7 rfl) ?_
  show W p l e _ s m args below meth c _ _ _ _ Q (F0 m 250 ls _)
  refine zz_get (C := R_X) (T := F_X) (N := 27) (v := .int (((s_X_move14 v_x v_M v_d v_a v_o v_lo v_hi v_ri ((a1 >>> ((5 : Int32) &&& 31)) &&& (7 : Int32)) ((a1 >>> ((8 : Int32) &&& 31)) &&& (7 : Int32)) (a1 >>> ((16 : Int32) &&& 31))).1) 19)) hx hb hts in_X hown hK hP 0 rfl rfl 26 (by decide) mw_79 rfl d_X_instruction_250 ?_
  have J253_2 : ∀ (vj253_0 : Int32) (ls : Array Slot) (H : Heap) (locs : List Loc), vj253_0 = (if (((s_X_move14 v_x v_M v_d v_a v_o v_lo v_hi v_ri ((a1 >>> ((5 : Int32) &&& 31)) &&& (7 : Int32)) ((a1 >>> ((8 : Int32) &&& 31)) &&& (7 : Int32)) (a1 >>> ((16 : Int32) &&& 31))).1) 19) = 0 then (if (((s_X_move14 v_x v_M v_d v_a v_o v_lo v_hi v_ri ((a1 >>> ((5 : Int32) &&& 31)) &&& (7 : Int32)) ((a1 >>> ((8 : Int32) &&& 31)) &&& (7 : Int32)) (a1 >>> ((16 : Int32) &&& 31))).1) 7) = 0 then (v_o (ix (0 : Int32))) else ((v_o (ix (0 : Int32))) + (1 : Int32))) else (v_o (ix (0 : Int32)))) → lv_has ls 9 [(8, .int ((v_o (ix (0 : Int32))) + (1 : Int32))), (7, .int (0 : Int32)), (6, .int (a1 >>> ((16 : Int32) &&& 31))), (5, .int ((a1 >>> ((11 : Int32) &&& 31)) &&& (7 : Int32))), (4, .int ((a1 >>> ((8 : Int32) &&& 31)) &&& (7 : Int32))), (3, .int ((a1 >>> ((5 : Int32) &&& 31)) &&& (7 : Int32))), (2, .int (14 : Int32)), (0, .ref yX), (1, .int a1)] → va_P D classes [oX yX yM yD yA yO yL yH yI ((s_X_move14 v_x v_M v_d v_a v_o v_lo v_hi v_ri ((a1 >>> ((5 : Int32) &&& 31)) &&& (7 : Int32)) ((a1 >>> ((8 : Int32) &&& 31)) &&& (7 : Int32)) (a1 >>> ((16 : Int32) &&& 31))).1), ar cI yM 512 ((s_X_move14 v_x v_M v_d v_a v_o v_lo v_hi v_ri ((a1 >>> ((5 : Int32) &&& 31)) &&& (7 : Int32)) ((a1 >>> ((8 : Int32) &&& 31)) &&& (7 : Int32)) (a1 >>> ((16 : Int32) &&& 31))).2), ar cI yD 8 v_d, ar cI yA 8 v_a, ar cI yO 4 v_o, ar cI yL 6 v_lo, ar cI yH 6 v_hi, ar cI yI 6 v_ri] H → va_D A [oX yX yM yD yA yO yL yH yI ((s_X_move14 v_x v_M v_d v_a v_o v_lo v_hi v_ri ((a1 >>> ((5 : Int32) &&& 31)) &&& (7 : Int32)) ((a1 >>> ((8 : Int32) &&& 31)) &&& (7 : Int32)) (a1 >>> ((16 : Int32) &&& 31))).1), ar cI yM 512 ((s_X_move14 v_x v_M v_d v_a v_o v_lo v_hi v_ri ((a1 >>> ((5 : Int32) &&& 31)) &&& (7 : Int32)) ((a1 >>> ((8 : Int32) &&& 31)) &&& (7 : Int32)) (a1 >>> ((16 : Int32) &&& 31))).2), ar cI yD 8 v_d, ar cI yA 8 v_a, ar cI yO 4 v_o, ar cI yL 6 v_lo, ar cI yH 6 v_hi, ar cI yI 6 v_ri] → va_S A s.heap H locs → W p l e { frames := 4, cells := 0, slots := 0, locals := 100 } s m args below meth c H locs 0 0 Q (F0 m 274 ls [.int vj253_0, .int (0 : Int32), .ref yO]) := by
    intro vj253_0 ls H locs evj253_0 hl hP hD hS
    subst evj253_0
    refine zz_iast (w' := [oX yX yM yD yA yO yL yH yI ((s_X_move14 v_x v_M v_d v_a v_o v_lo v_hi v_ri ((a1 >>> ((5 : Int32) &&& 31)) &&& (7 : Int32)) ((a1 >>> ((8 : Int32) &&& 31)) &&& (7 : Int32)) (a1 >>> ((16 : Int32) &&& 31))).1), ar cI yM 512 ((s_X_move14 v_x v_M v_d v_a v_o v_lo v_hi v_ri ((a1 >>> ((5 : Int32) &&& 31)) &&& (7 : Int32)) ((a1 >>> ((8 : Int32) &&& 31)) &&& (7 : Int32)) (a1 >>> ((16 : Int32) &&& 31))).2), ar cI yD 8 v_d, ar cI yA 8 v_a, ar cI yO 4 (upd v_o (ix (0 : Int32)) (if (((s_X_move14 v_x v_M v_d v_a v_o v_lo v_hi v_ri ((a1 >>> ((5 : Int32) &&& 31)) &&& (7 : Int32)) ((a1 >>> ((8 : Int32) &&& 31)) &&& (7 : Int32)) (a1 >>> ((16 : Int32) &&& 31))).1) 19) = 0 then (if (((s_X_move14 v_x v_M v_d v_a v_o v_lo v_hi v_ri ((a1 >>> ((5 : Int32) &&& 31)) &&& (7 : Int32)) ((a1 >>> ((8 : Int32) &&& 31)) &&& (7 : Int32)) (a1 >>> ((16 : Int32) &&& 31))).1) 7) = 0 then (v_o (ix (0 : Int32))) else ((v_o (ix (0 : Int32))) + (1 : Int32))) else (v_o (ix (0 : Int32))))), ar cI yL 6 v_lo, ar cI yH 6 v_hi, ar cI yI 6 v_ri]) hx hb hK hP hD hS 4 0 rfl rfl (zz_inc (by decide)) d_X_instruction_274 rfl (fun H locs hP hD hS => ?_)
    have hsp : s_X_instr14 v_x v_M v_d v_a v_o v_lo v_hi v_ri a1 = ((s_X_move14 v_x v_M v_d v_a v_o v_lo v_hi v_ri ((a1 >>> ((5 : Int32) &&& 31)) &&& (7 : Int32)) ((a1 >>> ((8 : Int32) &&& 31)) &&& (7 : Int32)) (a1 >>> ((16 : Int32) &&& 31))).1, (s_X_move14 v_x v_M v_d v_a v_o v_lo v_hi v_ri ((a1 >>> ((5 : Int32) &&& 31)) &&& (7 : Int32)) ((a1 >>> ((8 : Int32) &&& 31)) &&& (7 : Int32)) (a1 >>> ((16 : Int32) &&& 31))).2, upd v_o (ix (0 : Int32)) (if (((s_X_move14 v_x v_M v_d v_a v_o v_lo v_hi v_ri ((a1 >>> ((5 : Int32) &&& 31)) &&& (7 : Int32)) ((a1 >>> ((8 : Int32) &&& 31)) &&& (7 : Int32)) (a1 >>> ((16 : Int32) &&& 31))).1) 19) = 0 then (if (((s_X_move14 v_x v_M v_d v_a v_o v_lo v_hi v_ri ((a1 >>> ((5 : Int32) &&& 31)) &&& (7 : Int32)) ((a1 >>> ((8 : Int32) &&& 31)) &&& (7 : Int32)) (a1 >>> ((16 : Int32) &&& 31))).1) 7) = 0 then (v_o (ix (0 : Int32))) else ((v_o (ix (0 : Int32))) + (1 : Int32))) else (v_o (ix (0 : Int32))))) := rfl
    rw [hsp] at hE
    exact hE _ _ _ _ hP hD hS d_X_instruction_275
  refine lv_if_ne (tgt := 268) hx hb d_X_instruction_253 (by decide) (fun h1 => ?_) (fun h1 => ?_)
  ·
    refine lv_aload_n hx hb d_X_instruction_268 rfl (lv_at hl 7 rfl) ?_
    refine zz_get (C := R_X) (T := F_X) (N := 27) (v := .ref yO) hx hb hts in_X hown hK hP 0 rfl rfl 4 (by decide) mw_68 rfl d_X_instruction_269 ?_
    refine lv_iconst (v := (0 : Int32)) hx hb d_X_instruction_272 (by decide) ?_
    refine va_iald hx hb hK hP 4 0 rfl rfl (zz_inc (by decide)) d_X_instruction_273 ?_
    exact J253_2 (v_o (ix (0 : Int32))) _ _ _ (by rw [if_neg h1]) (lv_sub hl [0, 1, 2, 3, 4, 5, 6, 7, 8] rfl) hP hD hS
  ·
    refine lv_aload_n hx hb d_X_instruction_256 rfl (lv_at hl 7 rfl) ?_
    refine zz_get (C := R_X) (T := F_X) (N := 27) (v := .int (((s_X_move14 v_x v_M v_d v_a v_o v_lo v_hi v_ri ((a1 >>> ((5 : Int32) &&& 31)) &&& (7 : Int32)) ((a1 >>> ((8 : Int32) &&& 31)) &&& (7 : Int32)) (a1 >>> ((16 : Int32) &&& 31))).1) 7)) hx hb hts in_X hown hK hP 0 rfl rfl 11 (by decide) mw_78 rfl d_X_instruction_257 ?_
    refine lv_if_eq (tgt := 268) hx hb d_X_instruction_260 (by decide) (fun h2 => ?_) (fun h2 => ?_)
    ·
      refine lv_aload_n hx hb d_X_instruction_268 rfl (lv_at hl 7 rfl) ?_
      refine zz_get (C := R_X) (T := F_X) (N := 27) (v := .ref yO) hx hb hts in_X hown hK hP 0 rfl rfl 4 (by decide) mw_68 rfl d_X_instruction_269 ?_
      refine lv_iconst (v := (0 : Int32)) hx hb d_X_instruction_272 (by decide) ?_
      refine va_iald hx hb hK hP 4 0 rfl rfl (zz_inc (by decide)) d_X_instruction_273 ?_
      exact J253_2 (v_o (ix (0 : Int32))) _ _ _ (by rw [if_pos h1, if_pos h2]) (lv_sub hl [0, 1, 2, 3, 4, 5, 6, 7, 8] rfl) hP hD hS
    ·
      refine lv_iload hx hb d_X_instruction_263 (lv_at hl 0 rfl) ?_
      refine lv_goto (tgt := 274) hx hb d_X_instruction_265 (by decide) ?_
      exact J253_2 ((v_o (ix (0 : Int32))) + (1 : Int32)) _ _ _ (by rw [if_pos h1, if_neg h2]) (lv_sub hl [0, 1, 2, 3, 4, 5, 6, 7, 8] rfl) hP hD hS
set_option maxHeartbeats 4000000 in
set_option maxRecDepth 100000 in
theorem k_X_instr15 (l : Launch) (D : va_G) (cI : ClassId) (sz : Nat) (yX : Nat) (yM : Nat) (yD : Nat) (yA : Nat) (yO : Nat) (yL : Nat) (yH : Nat) (yI : Nat) (v_x : Nat → Int32) (v_M : Nat → Int32) (v_d : Nat → Int32) (v_a : Nat → Int32) (v_o : Nat → Int32) (v_lo : Nat → Int32) (v_hi : Nat → Int32) (v_ri : Nat → Int32) (a1 : Int32) (hop : (a1 &&& (31 : Int32)) = (15 : Int32)) (hset : v_x 2 = 0 ∨ v_x 2 = 1) : zMv l y_X_instruction (.code y_X_instruction b_X_instruction 9 (none) :: wd) { frames := 4, cells := 0, slots := 0, locals := 100 } D classes [(cI, .int)] [.ref yX, .int a1] [oX yX yM yD yA yO yL yH yI v_x, ar cI yM 512 v_M, ar cI yD 8 v_d, ar cI yA 8 v_a, ar cI yO 4 v_o, ar cI yL 6 v_lo, ar cI yH 6 v_hi, ar cI yI 6 v_ri] [oX yX yM yD yA yO yL yH yI ((s_X_instr15 v_x v_M v_d v_a v_o v_lo v_hi v_ri a1).1), ar cI yM 512 v_M, ar cI yD 8 ((s_X_instr15 v_x v_M v_d v_a v_o v_lo v_hi v_ri a1).2.1), ar cI yA 8 ((s_X_instr15 v_x v_M v_d v_a v_o v_lo v_hi v_ri a1).2.2.1), ar cI yO 4 ((s_X_instr15 v_x v_M v_d v_a v_o v_lo v_hi v_ri a1).2.2.2), ar cI yL 6 v_lo, ar cI yH 6 v_hi, ar cI yI 6 v_ri] sz := by
  refine met_v (by decide) (Nat.le_of_ble_eq_true rfl) ?_
  intro p e s m args below meth c A Q ls hx hb hml hown hts hK hP hD hS hA hl hE
  have hl : lv_has ls 9 [(0, .ref yX), (1, .int a1)] := hl
  have hown : s.vm.findClass R_X = some m.cls := hown
  refine lv_iload_n hx hb d_X_instruction_0 rfl (lv_at hl 1 rfl) ?_
  refine lv_bipush (v := (31 : Int32)) hx hb d_X_instruction_1 (by decide) ?_
  refine lv_iand hx hb d_X_instruction_3 ?_
  refine lv_topi (fun zz ez => ?_)
  obtain rfl : zz = (15 : Int32) := ez.trans hop
  refine lv_istore_n (lv' := [(2, .int (15 : Int32)), (0, .ref yX), (1, .int a1)]) hx hb d_X_instruction_4 rfl hl (by decide) rfl (fun ls hl => ?_)
  refine lv_iload_n hx hb d_X_instruction_5 rfl (lv_at hl 2 rfl) ?_
  refine lv_iconst (v := (5 : Int32)) hx hb d_X_instruction_6 (by decide) ?_
  refine lv_ishr hx hb d_X_instruction_7 ?_
  refine lv_bipush (v := (7 : Int32)) hx hb d_X_instruction_8 (by decide) ?_
  refine lv_iand hx hb d_X_instruction_10 ?_
  refine lv_istore_n (lv' := [(3, .int ((a1 >>> ((5 : Int32) &&& 31)) &&& (7 : Int32))), (2, .int (15 : Int32)), (0, .ref yX), (1, .int a1)]) hx hb d_X_instruction_11 rfl hl (by decide) rfl (fun ls hl => ?_)
  refine lv_iload_n hx hb d_X_instruction_12 rfl (lv_at hl 3 rfl) ?_
  show W p l e _ s m args below meth c _ _ _ _ Q (F0 m 13 ls _)
  refine lv_bipush (v := (8 : Int32)) hx hb d_X_instruction_13 (by decide) ?_
  refine lv_ishr hx hb d_X_instruction_15 ?_
  refine lv_bipush (v := (7 : Int32)) hx hb d_X_instruction_16 (by decide) ?_
  refine lv_iand hx hb d_X_instruction_18 ?_
  refine lv_istore (lv' := [(4, .int ((a1 >>> ((8 : Int32) &&& 31)) &&& (7 : Int32))), (3, .int ((a1 >>> ((5 : Int32) &&& 31)) &&& (7 : Int32))), (2, .int (15 : Int32)), (0, .ref yX), (1, .int a1)]) hx hb d_X_instruction_19 hl (by decide) rfl (fun ls hl => ?_)
  refine lv_iload_n hx hb d_X_instruction_21 rfl (lv_at hl 4 rfl) ?_
  refine lv_bipush (v := (11 : Int32)) hx hb d_X_instruction_22 (by decide) ?_
  refine lv_ishr hx hb d_X_instruction_24 ?_
  refine lv_bipush (v := (7 : Int32)) hx hb d_X_instruction_25 (by decide) ?_
  refine lv_iand hx hb d_X_instruction_27 ?_
  refine lv_istore (lv' := [(5, .int ((a1 >>> ((11 : Int32) &&& 31)) &&& (7 : Int32))), (4, .int ((a1 >>> ((8 : Int32) &&& 31)) &&& (7 : Int32))), (3, .int ((a1 >>> ((5 : Int32) &&& 31)) &&& (7 : Int32))), (2, .int (15 : Int32)), (0, .ref yX), (1, .int a1)]) hx hb d_X_instruction_28 hl (by decide) rfl (fun ls hl => ?_)
  refine lv_iload_n hx hb d_X_instruction_30 rfl (lv_at hl 5 rfl) ?_
  show W p l e _ s m args below meth c _ _ _ _ Q (F0 m 31 ls _)
  refine lv_bipush (v := (16 : Int32)) hx hb d_X_instruction_31 (by decide) ?_
  refine lv_ishr hx hb d_X_instruction_33 ?_
  refine lv_istore (lv' := [(6, .int (a1 >>> ((16 : Int32) &&& 31))), (5, .int ((a1 >>> ((11 : Int32) &&& 31)) &&& (7 : Int32))), (4, .int ((a1 >>> ((8 : Int32) &&& 31)) &&& (7 : Int32))), (3, .int ((a1 >>> ((5 : Int32) &&& 31)) &&& (7 : Int32))), (2, .int (15 : Int32)), (0, .ref yX), (1, .int a1)]) hx hb d_X_instruction_34 hl (by decide) rfl (fun ls hl => ?_)
  refine lv_iload_n hx hb d_X_instruction_36 rfl (lv_at hl 4 rfl) ?_
  refine lv_bipush (v := (25 : Int32)) hx hb d_X_instruction_37 (by decide) ?_
  refine lv_icmp_eq (tgt := 66) hx hb d_X_instruction_39 (by decide) (fun hh => absurd hh (by decide)) (fun _ => ?_)
  refine lv_iload_n hx hb d_X_instruction_42 rfl (lv_at hl 4 rfl) ?_
  refine lv_bipush (v := (26 : Int32)) hx hb d_X_instruction_43 (by decide) ?_
  refine lv_icmp_eq (tgt := 66) hx hb d_X_instruction_45 (by decide) (fun hh => absurd hh (by decide)) (fun _ => ?_)
  refine lv_iload_n hx hb d_X_instruction_48 rfl (lv_at hl 4 rfl) ?_
  refine lv_bipush (v := (28 : Int32)) hx hb d_X_instruction_49 (by decide) ?_
  refine lv_icmp_eq (tgt := 66) hx hb d_X_instruction_51 (by decide) (fun hh => absurd hh (by decide)) (fun _ => ?_)
  refine lv_iload_n hx hb d_X_instruction_54 rfl (lv_at hl 4 rfl) ?_
  refine lv_bipush (v := (29 : Int32)) hx hb d_X_instruction_55 (by decide) ?_
  refine lv_icmp_eq (tgt := 66) hx hb d_X_instruction_57 (by decide) (fun hh => absurd hh (by decide)) (fun _ => ?_)
  refine lv_iload_n hx hb d_X_instruction_60 rfl (lv_at hl 4 rfl) ?_
  refine lv_bipush (v := (31 : Int32)) hx hb d_X_instruction_61 (by decide) ?_
  refine lv_icmp_ne (tgt := 70) hx hb d_X_instruction_63 (by decide) (fun _ => ?_) (fun hh => absurd hh (by decide))
  refine lv_iconst (v := (0 : Int32)) hx hb d_X_instruction_70 (by decide) ?_
  refine lv_istore (lv' := [(7, .int (0 : Int32)), (6, .int (a1 >>> ((16 : Int32) &&& 31))), (5, .int ((a1 >>> ((11 : Int32) &&& 31)) &&& (7 : Int32))), (4, .int ((a1 >>> ((8 : Int32) &&& 31)) &&& (7 : Int32))), (3, .int ((a1 >>> ((5 : Int32) &&& 31)) &&& (7 : Int32))), (2, .int (15 : Int32)), (0, .ref yX), (1, .int a1)]) hx hb d_X_instruction_71 hl (by decide) rfl (fun ls hl => ?_)
  refine lv_iload hx hb d_X_instruction_73 (lv_at hl 0 rfl) ?_
  refine lv_if_eq (tgt := 86) hx hb d_X_instruction_75 (by decide) (fun _ => ?_) (fun hh => absurd hh (by decide))
  refine lv_iload_n hx hb d_X_instruction_86 rfl (lv_at hl 5 rfl) ?_
  refine lv_bipush (v := (30 : Int32)) hx hb d_X_instruction_87 (by decide) ?_
  refine lv_icmp_ne (tgt := 111) hx hb d_X_instruction_89 (by decide) (fun _ => ?_) (fun hh => absurd hh (by decide))
  refine lv_aload_n hx hb d_X_instruction_111 rfl (lv_at hl 6 rfl) ?_
  refine zz_get (C := R_X) (T := F_X) (N := 27) (v := .ref yO) hx hb hts in_X hown hK hP 0 rfl rfl 4 (by decide) mw_68 rfl d_X_instruction_112 ?_
  refine lv_iconst (v := (0 : Int32)) hx hb d_X_instruction_115 (by decide) ?_
  refine va_iald hx hb hK hP 4 0 rfl rfl (zz_inc (by decide)) d_X_instruction_116 ?_
  refine lv_iconst (v := (1 : Int32)) hx hb d_X_instruction_117 (by decide) ?_
  refine lv_iadd hx hb d_X_instruction_118 ?_
  refine lv_istore (lv' := [(8, .int ((v_o (ix (0 : Int32))) + (1 : Int32))), (7, .int (0 : Int32)), (6, .int (a1 >>> ((16 : Int32) &&& 31))), (5, .int ((a1 >>> ((11 : Int32) &&& 31)) &&& (7 : Int32))), (4, .int ((a1 >>> ((8 : Int32) &&& 31)) &&& (7 : Int32))), (3, .int ((a1 >>> ((5 : Int32) &&& 31)) &&& (7 : Int32))), (2, .int (15 : Int32)), (0, .ref yX), (1, .int a1)]) hx hb d_X_instruction_119 hl (by decide) rfl (fun ls hl => ?_)
  refine lv_iload_n hx hb d_X_instruction_121 rfl (lv_at hl 6 rfl) ?_
  refine lv_if_le (tgt := 146) hx hb d_X_instruction_122 (by decide) (fun hh => absurd hh (by decide)) (fun _ => ?_)
  refine lv_iload_n hx hb d_X_instruction_125 rfl (lv_at hl 6 rfl) ?_
  refine lv_bipush (v := (13 : Int32)) hx hb d_X_instruction_126 (by decide) ?_
  refine lv_icmp_ge (tgt := 146) hx hb d_X_instruction_128 (by decide) (fun _ => ?_) (fun hh => absurd hh (by decide))
  refine lv_iload_n hx hb d_X_instruction_146 rfl (lv_at hl 6 rfl) ?_
  refine lv_bipush (v := (12 : Int32)) hx hb d_X_instruction_147 (by decide) ?_
  refine lv_icmp_le (tgt := 171) hx hb d_X_instruction_149 (by decide) (fun hh => absurd hh (by decide)) (fun _ => ?_)
  refine lv_iload_n hx hb d_X_instruction_152 rfl (lv_at hl 6 rfl) ?_
  refine lv_bipush (v := (18 : Int32)) hx hb d_X_instruction_153 (by decide) ?_
  refine lv_icmp_ge (tgt := 171) hx hb d_X_instruction_155 (by decide) (fun hh => absurd hh (by decide)) (fun _ => ?_)
  refine lv_aload_n hx hb d_X_instruction_158 rfl (lv_at hl 7 rfl) ?_
  refine lv_iload_n hx hb d_X_instruction_159 rfl (lv_at hl 6 rfl) ?_
  refine lv_iload_n hx hb d_X_instruction_160 rfl (lv_at hl 5 rfl) ?_
  refine lv_iload hx hb d_X_instruction_161 (lv_at hl 4 rfl) ?_
  refine lv_iload hx hb d_X_instruction_163 (lv_at hl 2 rfl) ?_
  refine zz_cVv (rest := []) (wr := []) (w' := [oX yX yM yD yA yO yL yH yI ((s_X_move15 v_x v_M v_d v_a v_o v_lo v_hi v_ri ((a1 >>> ((5 : Int32) &&& 31)) &&& (7 : Int32)) ((a1 >>> ((8 : Int32) &&& 31)) &&& (7 : Int32)) (a1 >>> ((16 : Int32) &&& 31))).1), ar cI yM 512 v_M, ar cI yD 8 ((s_X_move15 v_x v_M v_d v_a v_o v_lo v_hi v_ri ((a1 >>> ((5 : Int32) &&& 31)) &&& (7 : Int32)) ((a1 >>> ((8 : Int32) &&& 31)) &&& (7 : Int32)) (a1 >>> ((16 : Int32) &&& 31))).2.1), ar cI yA 8 ((s_X_move15 v_x v_M v_d v_a v_o v_lo v_hi v_ri ((a1 >>> ((5 : Int32) &&& 31)) &&& (7 : Int32)) ((a1 >>> ((8 : Int32) &&& 31)) &&& (7 : Int32)) (a1 >>> ((16 : Int32) &&& 31))).2.2), ar cI yO 4 v_o, ar cI yL 6 v_lo, ar cI yH 6 v_hi, ar cI yI 6 v_ri]) ⟨hx, hb, hml, hown, hts⟩ (k_X_move15 l D cI _ yX yM yD yA yO yL yH yI v_x v_M v_d v_a v_o v_lo v_hi v_ri ((a1 >>> ((5 : Int32) &&& 31)) &&& (7 : Int32)) ((a1 >>> ((8 : Int32) &&& 31)) &&& (7 : Int32)) (a1 >>> ((16 : Int32) &&& 31)) (zz_in7 _) (zz_in7 _) hset) g_X_instruction_X_move_115 nv_X_move ⟨⟨rfl, rfl⟩, Nat.le_of_ble_eq_true rfl, Nat.le_of_ble_eq_true rfl⟩ hK [0] rfl hP hD hS hA [0, 1, 2, 3, 4, 5, 6, 7] [] [0, 1, 2, 3, 4, 5, 6, 7] rfl rfl rfl rfl (by decide) rfl rfl 0 6 rfl rfl rfl rfl hl.1 (Nat.le_of_ble_eq_true rfl) d_X_instruction_165 ⟨Nat.zero_le _, Nat.zero_le _⟩ (fun H locs hP hD hS => ?_)
  refine lv_goto (tgt := 244) hx hb d_X_instruction_168 (by decide) ?_
  refine lv_aload_n hx hb d_X_instruction_244 rfl (lv_at hl 7 rfl) ?_
  refine zz_get (C := R_X) (T := F_X) (N := 27) (v := .ref yO) hx hb hts in_X hown hK hP 0 rfl rfl 4 (by decide) mw_68 rfl d_X_instruction_245 ?_
  refine lv_iconst (v := (0 : Int32)) hx hb d_X_instruction_248 (by decide) ?_
  refine lv_aload_n hx hb d_X_instruction_249 rfl (lv_at hl 7 rfl) ?_
  show W p l e _ s m args below meth c _ _ _ _ Q (F0 m 250 ls _)
  refine zz_get (C := R_X) (T := F_X) (N := 27) (v := .int (((s_X_move15 v_x v_M v_d v_a v_o v_lo v_hi v_ri ((a1 >>> ((5 : Int32) &&& 31)) &&& (7 : Int32)) ((a1 >>> ((8 : Int32) &&& 31)) &&& (7 : Int32)) (a1 >>> ((16 : Int32) &&& 31))).1) 19)) hx hb hts in_X hown hK hP 0 rfl rfl 26 (by decide) mw_79 rfl d_X_instruction_250 ?_
  have J253_2 : ∀ (vj253_0 : Int32) (ls : Array Slot) (H : Heap) (locs : List Loc), vj253_0 = (if (((s_X_move15 v_x v_M v_d v_a v_o v_lo v_hi v_ri ((a1 >>> ((5 : Int32) &&& 31)) &&& (7 : Int32)) ((a1 >>> ((8 : Int32) &&& 31)) &&& (7 : Int32)) (a1 >>> ((16 : Int32) &&& 31))).1) 19) = 0 then (if (((s_X_move15 v_x v_M v_d v_a v_o v_lo v_hi v_ri ((a1 >>> ((5 : Int32) &&& 31)) &&& (7 : Int32)) ((a1 >>> ((8 : Int32) &&& 31)) &&& (7 : Int32)) (a1 >>> ((16 : Int32) &&& 31))).1) 7) = 0 then (v_o (ix (0 : Int32))) else ((v_o (ix (0 : Int32))) + (1 : Int32))) else (v_o (ix (0 : Int32)))) → lv_has ls 9 [(8, .int ((v_o (ix (0 : Int32))) + (1 : Int32))), (7, .int (0 : Int32)), (6, .int (a1 >>> ((16 : Int32) &&& 31))), (5, .int ((a1 >>> ((11 : Int32) &&& 31)) &&& (7 : Int32))), (4, .int ((a1 >>> ((8 : Int32) &&& 31)) &&& (7 : Int32))), (3, .int ((a1 >>> ((5 : Int32) &&& 31)) &&& (7 : Int32))), (2, .int (15 : Int32)), (0, .ref yX), (1, .int a1)] → va_P D classes [oX yX yM yD yA yO yL yH yI ((s_X_move15 v_x v_M v_d v_a v_o v_lo v_hi v_ri ((a1 >>> ((5 : Int32) &&& 31)) &&& (7 : Int32)) ((a1 >>> ((8 : Int32) &&& 31)) &&& (7 : Int32)) (a1 >>> ((16 : Int32) &&& 31))).1), ar cI yM 512 v_M, ar cI yD 8 ((s_X_move15 v_x v_M v_d v_a v_o v_lo v_hi v_ri ((a1 >>> ((5 : Int32) &&& 31)) &&& (7 : Int32)) ((a1 >>> ((8 : Int32) &&& 31)) &&& (7 : Int32)) (a1 >>> ((16 : Int32) &&& 31))).2.1), ar cI yA 8 ((s_X_move15 v_x v_M v_d v_a v_o v_lo v_hi v_ri ((a1 >>> ((5 : Int32) &&& 31)) &&& (7 : Int32)) ((a1 >>> ((8 : Int32) &&& 31)) &&& (7 : Int32)) (a1 >>> ((16 : Int32) &&& 31))).2.2), ar cI yO 4 v_o, ar cI yL 6 v_lo, ar cI yH 6 v_hi, ar cI yI 6 v_ri] H → va_D A [oX yX yM yD yA yO yL yH yI ((s_X_move15 v_x v_M v_d v_a v_o v_lo v_hi v_ri ((a1 >>> ((5 : Int32) &&& 31)) &&& (7 : Int32)) ((a1 >>> ((8 : Int32) &&& 31)) &&& (7 : Int32)) (a1 >>> ((16 : Int32) &&& 31))).1), ar cI yM 512 v_M, ar cI yD 8 ((s_X_move15 v_x v_M v_d v_a v_o v_lo v_hi v_ri ((a1 >>> ((5 : Int32) &&& 31)) &&& (7 : Int32)) ((a1 >>> ((8 : Int32) &&& 31)) &&& (7 : Int32)) (a1 >>> ((16 : Int32) &&& 31))).2.1), ar cI yA 8 ((s_X_move15 v_x v_M v_d v_a v_o v_lo v_hi v_ri ((a1 >>> ((5 : Int32) &&& 31)) &&& (7 : Int32)) ((a1 >>> ((8 : Int32) &&& 31)) &&& (7 : Int32)) (a1 >>> ((16 : Int32) &&& 31))).2.2), ar cI yO 4 v_o, ar cI yL 6 v_lo, ar cI yH 6 v_hi, ar cI yI 6 v_ri] → va_S A s.heap H locs → W p l e { frames := 4, cells := 0, slots := 0, locals := 100 } s m args below meth c H locs 0 0 Q (F0 m 274 ls [.int vj253_0, .int (0 : Int32), .ref yO]) := by
    intro vj253_0 ls H locs evj253_0 hl hP hD hS
    subst evj253_0
    refine zz_iast (w' := [oX yX yM yD yA yO yL yH yI ((s_X_move15 v_x v_M v_d v_a v_o v_lo v_hi v_ri ((a1 >>> ((5 : Int32) &&& 31)) &&& (7 : Int32)) ((a1 >>> ((8 : Int32) &&& 31)) &&& (7 : Int32)) (a1 >>> ((16 : Int32) &&& 31))).1), ar cI yM 512 v_M, ar cI yD 8 ((s_X_move15 v_x v_M v_d v_a v_o v_lo v_hi v_ri ((a1 >>> ((5 : Int32) &&& 31)) &&& (7 : Int32)) ((a1 >>> ((8 : Int32) &&& 31)) &&& (7 : Int32)) (a1 >>> ((16 : Int32) &&& 31))).2.1), ar cI yA 8 ((s_X_move15 v_x v_M v_d v_a v_o v_lo v_hi v_ri ((a1 >>> ((5 : Int32) &&& 31)) &&& (7 : Int32)) ((a1 >>> ((8 : Int32) &&& 31)) &&& (7 : Int32)) (a1 >>> ((16 : Int32) &&& 31))).2.2), ar cI yO 4 (upd v_o (ix (0 : Int32)) (if (((s_X_move15 v_x v_M v_d v_a v_o v_lo v_hi v_ri ((a1 >>> ((5 : Int32) &&& 31)) &&& (7 : Int32)) ((a1 >>> ((8 : Int32) &&& 31)) &&& (7 : Int32)) (a1 >>> ((16 : Int32) &&& 31))).1) 19) = 0 then (if (((s_X_move15 v_x v_M v_d v_a v_o v_lo v_hi v_ri ((a1 >>> ((5 : Int32) &&& 31)) &&& (7 : Int32)) ((a1 >>> ((8 : Int32) &&& 31)) &&& (7 : Int32)) (a1 >>> ((16 : Int32) &&& 31))).1) 7) = 0 then (v_o (ix (0 : Int32))) else ((v_o (ix (0 : Int32))) + (1 : Int32))) else (v_o (ix (0 : Int32))))), ar cI yL 6 v_lo, ar cI yH 6 v_hi, ar cI yI 6 v_ri]) hx hb hK hP hD hS 4 0 rfl rfl (zz_inc (by decide)) d_X_instruction_274 rfl (fun H locs hP hD hS => ?_)
    have hsp : s_X_instr15 v_x v_M v_d v_a v_o v_lo v_hi v_ri a1 = ((s_X_move15 v_x v_M v_d v_a v_o v_lo v_hi v_ri ((a1 >>> ((5 : Int32) &&& 31)) &&& (7 : Int32)) ((a1 >>> ((8 : Int32) &&& 31)) &&& (7 : Int32)) (a1 >>> ((16 : Int32) &&& 31))).1, (s_X_move15 v_x v_M v_d v_a v_o v_lo v_hi v_ri ((a1 >>> ((5 : Int32) &&& 31)) &&& (7 : Int32)) ((a1 >>> ((8 : Int32) &&& 31)) &&& (7 : Int32)) (a1 >>> ((16 : Int32) &&& 31))).2.1, (s_X_move15 v_x v_M v_d v_a v_o v_lo v_hi v_ri ((a1 >>> ((5 : Int32) &&& 31)) &&& (7 : Int32)) ((a1 >>> ((8 : Int32) &&& 31)) &&& (7 : Int32)) (a1 >>> ((16 : Int32) &&& 31))).2.2, upd v_o (ix (0 : Int32)) (if (((s_X_move15 v_x v_M v_d v_a v_o v_lo v_hi v_ri ((a1 >>> ((5 : Int32) &&& 31)) &&& (7 : Int32)) ((a1 >>> ((8 : Int32) &&& 31)) &&& (7 : Int32)) (a1 >>> ((16 : Int32) &&& 31))).1) 19) = 0 then (if (((s_X_move15 v_x v_M v_d v_a v_o v_lo v_hi v_ri ((a1 >>> ((5 : Int32) &&& 31)) &&& (7 : Int32)) ((a1 >>> ((8 : Int32) &&& 31)) &&& (7 : Int32)) (a1 >>> ((16 : Int32) &&& 31))).1) 7) = 0 then (v_o (ix (0 : Int32))) else ((v_o (ix (0 : Int32))) + (1 : Int32))) else (v_o (ix (0 : Int32))))) := rfl
    rw [hsp] at hE
    exact hE _ _ _ _ hP hD hS d_X_instruction_275
  refine lv_if_ne (tgt := 268) hx hb d_X_instruction_253 (by decide) (fun h1 => ?_) (fun h1 => ?_)
  ·
    refine lv_aload_n hx hb d_X_instruction_268 rfl (lv_at hl 7 rfl) ?_
    refine zz_get (C := R_X) (T := F_X) (N := 27) (v := .ref yO) hx hb hts in_X hown hK hP 0 rfl rfl 4 (by decide) mw_68 rfl d_X_instruction_269 ?_
    refine lv_iconst (v := (0 : Int32)) hx hb d_X_instruction_272 (by decide) ?_
    refine va_iald hx hb hK hP 4 0 rfl rfl (zz_inc (by decide)) d_X_instruction_273 ?_
    exact J253_2 (v_o (ix (0 : Int32))) _ _ _ (by rw [if_neg h1]) (lv_sub hl [0, 1, 2, 3, 4, 5, 6, 7, 8] rfl) hP hD hS
  ·
    refine lv_aload_n hx hb d_X_instruction_256 rfl (lv_at hl 7 rfl) ?_
    refine zz_get (C := R_X) (T := F_X) (N := 27) (v := .int (((s_X_move15 v_x v_M v_d v_a v_o v_lo v_hi v_ri ((a1 >>> ((5 : Int32) &&& 31)) &&& (7 : Int32)) ((a1 >>> ((8 : Int32) &&& 31)) &&& (7 : Int32)) (a1 >>> ((16 : Int32) &&& 31))).1) 7)) hx hb hts in_X hown hK hP 0 rfl rfl 11 (by decide) mw_78 rfl d_X_instruction_257 ?_
    refine lv_if_eq (tgt := 268) hx hb d_X_instruction_260 (by decide) (fun h2 => ?_) (fun h2 => ?_)
    ·
      refine lv_aload_n hx hb d_X_instruction_268 rfl (lv_at hl 7 rfl) ?_
      refine zz_get (C := R_X) (T := F_X) (N := 27) (v := .ref yO) hx hb hts in_X hown hK hP 0 rfl rfl 4 (by decide) mw_68 rfl d_X_instruction_269 ?_
      refine lv_iconst (v := (0 : Int32)) hx hb d_X_instruction_272 (by decide) ?_
      refine va_iald hx hb hK hP 4 0 rfl rfl (zz_inc (by decide)) d_X_instruction_273 ?_
      exact J253_2 (v_o (ix (0 : Int32))) _ _ _ (by rw [if_pos h1, if_pos h2]) (lv_sub hl [0, 1, 2, 3, 4, 5, 6, 7, 8] rfl) hP hD hS
    ·
      refine lv_iload hx hb d_X_instruction_263 (lv_at hl 0 rfl) ?_
      refine lv_goto (tgt := 274) hx hb d_X_instruction_265 (by decide) ?_
      exact J253_2 ((v_o (ix (0 : Int32))) + (1 : Int32)) _ _ _ (by rw [if_pos h1, if_neg h2]) (lv_sub hl [0, 1, 2, 3, 4, 5, 6, 7, 8] rfl) hP hD hS
set_option maxHeartbeats 4000000 in
set_option maxRecDepth 100000 in
theorem k_X_instr16 (l : Launch) (D : va_G) (cI : ClassId) (sz : Nat) (yX : Nat) (yM : Nat) (yD : Nat) (yA : Nat) (yO : Nat) (yL : Nat) (yH : Nat) (yI : Nat) (v_x : Nat → Int32) (v_M : Nat → Int32) (v_d : Nat → Int32) (v_a : Nat → Int32) (v_o : Nat → Int32) (v_lo : Nat → Int32) (v_hi : Nat → Int32) (v_ri : Nat → Int32) (a1 : Int32) (hop : (a1 &&& (31 : Int32)) = (16 : Int32)) (hset : v_x 2 = 0 ∨ v_x 2 = 1) : zMv l y_X_instruction (.code y_X_instruction b_X_instruction 9 (none) :: wd) { frames := 4, cells := 0, slots := 0, locals := 100 } D classes [(cI, .int)] [.ref yX, .int a1] [oX yX yM yD yA yO yL yH yI v_x, ar cI yM 512 v_M, ar cI yD 8 v_d, ar cI yA 8 v_a, ar cI yO 4 v_o, ar cI yL 6 v_lo, ar cI yH 6 v_hi, ar cI yI 6 v_ri] [oX yX yM yD yA yO yL yH yI ((s_X_instr16 v_x v_M v_d v_a v_o v_lo v_hi v_ri a1).1), ar cI yM 512 ((s_X_instr16 v_x v_M v_d v_a v_o v_lo v_hi v_ri a1).2.1), ar cI yD 8 v_d, ar cI yA 8 ((s_X_instr16 v_x v_M v_d v_a v_o v_lo v_hi v_ri a1).2.2.1), ar cI yO 4 ((s_X_instr16 v_x v_M v_d v_a v_o v_lo v_hi v_ri a1).2.2.2), ar cI yL 6 v_lo, ar cI yH 6 v_hi, ar cI yI 6 v_ri] sz := by
  refine met_v (by decide) (Nat.le_of_ble_eq_true rfl) ?_
  intro p e s m args below meth c A Q ls hx hb hml hown hts hK hP hD hS hA hl hE
  have hl : lv_has ls 9 [(0, .ref yX), (1, .int a1)] := hl
  have hown : s.vm.findClass R_X = some m.cls := hown
  refine lv_iload_n hx hb d_X_instruction_0 rfl (lv_at hl 1 rfl) ?_
  refine lv_bipush (v := (31 : Int32)) hx hb d_X_instruction_1 (by decide) ?_
  refine lv_iand hx hb d_X_instruction_3 ?_
  refine lv_topi (fun zz ez => ?_)
  obtain rfl : zz = (16 : Int32) := ez.trans hop
  refine lv_istore_n (lv' := [(2, .int (16 : Int32)), (0, .ref yX), (1, .int a1)]) hx hb d_X_instruction_4 rfl hl (by decide) rfl (fun ls hl => ?_)
  refine lv_iload_n hx hb d_X_instruction_5 rfl (lv_at hl 2 rfl) ?_
  refine lv_iconst (v := (5 : Int32)) hx hb d_X_instruction_6 (by decide) ?_
  refine lv_ishr hx hb d_X_instruction_7 ?_
  refine lv_bipush (v := (7 : Int32)) hx hb d_X_instruction_8 (by decide) ?_
  refine lv_iand hx hb d_X_instruction_10 ?_
  refine lv_istore_n (lv' := [(3, .int ((a1 >>> ((5 : Int32) &&& 31)) &&& (7 : Int32))), (2, .int (16 : Int32)), (0, .ref yX), (1, .int a1)]) hx hb d_X_instruction_11 rfl hl (by decide) rfl (fun ls hl => ?_)
  refine lv_iload_n hx hb d_X_instruction_12 rfl (lv_at hl 3 rfl) ?_
  show W p l e _ s m args below meth c _ _ _ _ Q (F0 m 13 ls _)
  refine lv_bipush (v := (8 : Int32)) hx hb d_X_instruction_13 (by decide) ?_
  refine lv_ishr hx hb d_X_instruction_15 ?_
  refine lv_bipush (v := (7 : Int32)) hx hb d_X_instruction_16 (by decide) ?_
  refine lv_iand hx hb d_X_instruction_18 ?_
  refine lv_istore (lv' := [(4, .int ((a1 >>> ((8 : Int32) &&& 31)) &&& (7 : Int32))), (3, .int ((a1 >>> ((5 : Int32) &&& 31)) &&& (7 : Int32))), (2, .int (16 : Int32)), (0, .ref yX), (1, .int a1)]) hx hb d_X_instruction_19 hl (by decide) rfl (fun ls hl => ?_)
  refine lv_iload_n hx hb d_X_instruction_21 rfl (lv_at hl 4 rfl) ?_
  refine lv_bipush (v := (11 : Int32)) hx hb d_X_instruction_22 (by decide) ?_
  refine lv_ishr hx hb d_X_instruction_24 ?_
  refine lv_bipush (v := (7 : Int32)) hx hb d_X_instruction_25 (by decide) ?_
  refine lv_iand hx hb d_X_instruction_27 ?_
  refine lv_istore (lv' := [(5, .int ((a1 >>> ((11 : Int32) &&& 31)) &&& (7 : Int32))), (4, .int ((a1 >>> ((8 : Int32) &&& 31)) &&& (7 : Int32))), (3, .int ((a1 >>> ((5 : Int32) &&& 31)) &&& (7 : Int32))), (2, .int (16 : Int32)), (0, .ref yX), (1, .int a1)]) hx hb d_X_instruction_28 hl (by decide) rfl (fun ls hl => ?_)
  refine lv_iload_n hx hb d_X_instruction_30 rfl (lv_at hl 5 rfl) ?_
  show W p l e _ s m args below meth c _ _ _ _ Q (F0 m 31 ls _)
  refine lv_bipush (v := (16 : Int32)) hx hb d_X_instruction_31 (by decide) ?_
  refine lv_ishr hx hb d_X_instruction_33 ?_
  refine lv_istore (lv' := [(6, .int (a1 >>> ((16 : Int32) &&& 31))), (5, .int ((a1 >>> ((11 : Int32) &&& 31)) &&& (7 : Int32))), (4, .int ((a1 >>> ((8 : Int32) &&& 31)) &&& (7 : Int32))), (3, .int ((a1 >>> ((5 : Int32) &&& 31)) &&& (7 : Int32))), (2, .int (16 : Int32)), (0, .ref yX), (1, .int a1)]) hx hb d_X_instruction_34 hl (by decide) rfl (fun ls hl => ?_)
  refine lv_iload_n hx hb d_X_instruction_36 rfl (lv_at hl 4 rfl) ?_
  refine lv_bipush (v := (25 : Int32)) hx hb d_X_instruction_37 (by decide) ?_
  refine lv_icmp_eq (tgt := 66) hx hb d_X_instruction_39 (by decide) (fun hh => absurd hh (by decide)) (fun _ => ?_)
  refine lv_iload_n hx hb d_X_instruction_42 rfl (lv_at hl 4 rfl) ?_
  refine lv_bipush (v := (26 : Int32)) hx hb d_X_instruction_43 (by decide) ?_
  refine lv_icmp_eq (tgt := 66) hx hb d_X_instruction_45 (by decide) (fun hh => absurd hh (by decide)) (fun _ => ?_)
  refine lv_iload_n hx hb d_X_instruction_48 rfl (lv_at hl 4 rfl) ?_
  refine lv_bipush (v := (28 : Int32)) hx hb d_X_instruction_49 (by decide) ?_
  refine lv_icmp_eq (tgt := 66) hx hb d_X_instruction_51 (by decide) (fun hh => absurd hh (by decide)) (fun _ => ?_)
  refine lv_iload_n hx hb d_X_instruction_54 rfl (lv_at hl 4 rfl) ?_
  refine lv_bipush (v := (29 : Int32)) hx hb d_X_instruction_55 (by decide) ?_
  refine lv_icmp_eq (tgt := 66) hx hb d_X_instruction_57 (by decide) (fun hh => absurd hh (by decide)) (fun _ => ?_)
  refine lv_iload_n hx hb d_X_instruction_60 rfl (lv_at hl 4 rfl) ?_
  refine lv_bipush (v := (31 : Int32)) hx hb d_X_instruction_61 (by decide) ?_
  refine lv_icmp_ne (tgt := 70) hx hb d_X_instruction_63 (by decide) (fun _ => ?_) (fun hh => absurd hh (by decide))
  refine lv_iconst (v := (0 : Int32)) hx hb d_X_instruction_70 (by decide) ?_
  refine lv_istore (lv' := [(7, .int (0 : Int32)), (6, .int (a1 >>> ((16 : Int32) &&& 31))), (5, .int ((a1 >>> ((11 : Int32) &&& 31)) &&& (7 : Int32))), (4, .int ((a1 >>> ((8 : Int32) &&& 31)) &&& (7 : Int32))), (3, .int ((a1 >>> ((5 : Int32) &&& 31)) &&& (7 : Int32))), (2, .int (16 : Int32)), (0, .ref yX), (1, .int a1)]) hx hb d_X_instruction_71 hl (by decide) rfl (fun ls hl => ?_)
  refine lv_iload hx hb d_X_instruction_73 (lv_at hl 0 rfl) ?_
  refine lv_if_eq (tgt := 86) hx hb d_X_instruction_75 (by decide) (fun _ => ?_) (fun hh => absurd hh (by decide))
  refine lv_iload_n hx hb d_X_instruction_86 rfl (lv_at hl 5 rfl) ?_
  refine lv_bipush (v := (30 : Int32)) hx hb d_X_instruction_87 (by decide) ?_
  refine lv_icmp_ne (tgt := 111) hx hb d_X_instruction_89 (by decide) (fun _ => ?_) (fun hh => absurd hh (by decide))
  refine lv_aload_n hx hb d_X_instruction_111 rfl (lv_at hl 6 rfl) ?_
  refine zz_get (C := R_X) (T := F_X) (N := 27) (v := .ref yO) hx hb hts in_X hown hK hP 0 rfl rfl 4 (by decide) mw_68 rfl d_X_instruction_112 ?_
  refine lv_iconst (v := (0 : Int32)) hx hb d_X_instruction_115 (by decide) ?_
  refine va_iald hx hb hK hP 4 0 rfl rfl (zz_inc (by decide)) d_X_instruction_116 ?_
  refine lv_iconst (v := (1 : Int32)) hx hb d_X_instruction_117 (by decide) ?_
  refine lv_iadd hx hb d_X_instruction_118 ?_
  refine lv_istore (lv' := [(8, .int ((v_o (ix (0 : Int32))) + (1 : Int32))), (7, .int (0 : Int32)), (6, .int (a1 >>> ((16 : Int32) &&& 31))), (5, .int ((a1 >>> ((11 : Int32) &&& 31)) &&& (7 : Int32))), (4, .int ((a1 >>> ((8 : Int32) &&& 31)) &&& (7 : Int32))), (3, .int ((a1 >>> ((5 : Int32) &&& 31)) &&& (7 : Int32))), (2, .int (16 : Int32)), (0, .ref yX), (1, .int a1)]) hx hb d_X_instruction_119 hl (by decide) rfl (fun ls hl => ?_)
  refine lv_iload_n hx hb d_X_instruction_121 rfl (lv_at hl 6 rfl) ?_
  refine lv_if_le (tgt := 146) hx hb d_X_instruction_122 (by decide) (fun hh => absurd hh (by decide)) (fun _ => ?_)
  refine lv_iload_n hx hb d_X_instruction_125 rfl (lv_at hl 6 rfl) ?_
  refine lv_bipush (v := (13 : Int32)) hx hb d_X_instruction_126 (by decide) ?_
  refine lv_icmp_ge (tgt := 146) hx hb d_X_instruction_128 (by decide) (fun _ => ?_) (fun hh => absurd hh (by decide))
  refine lv_iload_n hx hb d_X_instruction_146 rfl (lv_at hl 6 rfl) ?_
  refine lv_bipush (v := (12 : Int32)) hx hb d_X_instruction_147 (by decide) ?_
  refine lv_icmp_le (tgt := 171) hx hb d_X_instruction_149 (by decide) (fun hh => absurd hh (by decide)) (fun _ => ?_)
  refine lv_iload_n hx hb d_X_instruction_152 rfl (lv_at hl 6 rfl) ?_
  refine lv_bipush (v := (18 : Int32)) hx hb d_X_instruction_153 (by decide) ?_
  refine lv_icmp_ge (tgt := 171) hx hb d_X_instruction_155 (by decide) (fun hh => absurd hh (by decide)) (fun _ => ?_)
  refine lv_aload_n hx hb d_X_instruction_158 rfl (lv_at hl 7 rfl) ?_
  refine lv_iload_n hx hb d_X_instruction_159 rfl (lv_at hl 6 rfl) ?_
  refine lv_iload_n hx hb d_X_instruction_160 rfl (lv_at hl 5 rfl) ?_
  refine lv_iload hx hb d_X_instruction_161 (lv_at hl 4 rfl) ?_
  refine lv_iload hx hb d_X_instruction_163 (lv_at hl 2 rfl) ?_
  refine zz_cVv (rest := []) (wr := []) (w' := [oX yX yM yD yA yO yL yH yI ((s_X_move16 v_x v_M v_d v_a v_o v_lo v_hi v_ri ((a1 >>> ((5 : Int32) &&& 31)) &&& (7 : Int32)) ((a1 >>> ((8 : Int32) &&& 31)) &&& (7 : Int32)) (a1 >>> ((16 : Int32) &&& 31))).1), ar cI yM 512 ((s_X_move16 v_x v_M v_d v_a v_o v_lo v_hi v_ri ((a1 >>> ((5 : Int32) &&& 31)) &&& (7 : Int32)) ((a1 >>> ((8 : Int32) &&& 31)) &&& (7 : Int32)) (a1 >>> ((16 : Int32) &&& 31))).2.1), ar cI yD 8 v_d, ar cI yA 8 ((s_X_move16 v_x v_M v_d v_a v_o v_lo v_hi v_ri ((a1 >>> ((5 : Int32) &&& 31)) &&& (7 : Int32)) ((a1 >>> ((8 : Int32) &&& 31)) &&& (7 : Int32)) (a1 >>> ((16 : Int32) &&& 31))).2.2), ar cI yO 4 v_o, ar cI yL 6 v_lo, ar cI yH 6 v_hi, ar cI yI 6 v_ri]) ⟨hx, hb, hml, hown, hts⟩ (k_X_move16 l D cI _ yX yM yD yA yO yL yH yI v_x v_M v_d v_a v_o v_lo v_hi v_ri ((a1 >>> ((5 : Int32) &&& 31)) &&& (7 : Int32)) ((a1 >>> ((8 : Int32) &&& 31)) &&& (7 : Int32)) (a1 >>> ((16 : Int32) &&& 31)) (zz_in7 _) (zz_in7 _) hset) g_X_instruction_X_move_115 nv_X_move ⟨⟨rfl, rfl⟩, Nat.le_of_ble_eq_true rfl, Nat.le_of_ble_eq_true rfl⟩ hK [0] rfl hP hD hS hA [0, 1, 2, 3, 4, 5, 6, 7] [] [0, 1, 2, 3, 4, 5, 6, 7] rfl rfl rfl rfl (by decide) rfl rfl 0 6 rfl rfl rfl rfl hl.1 (Nat.le_of_ble_eq_true rfl) d_X_instruction_165 ⟨Nat.zero_le _, Nat.zero_le _⟩ (fun H locs hP hD hS => ?_)
  refine lv_goto (tgt := 244) hx hb d_X_instruction_168 (by decide) ?_
  refine lv_aload_n hx hb d_X_instruction_244 rfl (lv_at hl 7 rfl) ?_
  refine zz_get (C := R_X) (T := F_X) (N := 27) (v := .ref yO) hx hb hts in_X hown hK hP 0 rfl rfl 4 (by decide) mw_68 rfl d_X_instruction_245 ?_
  refine lv_iconst (v := (0 : Int32)) hx hb d_X_instruction_248 (by decide) ?_
  refine lv_aload_n hx hb d_X_instruction_249 rfl (lv_at hl 7 rfl) ?_
  show W p l e _ s m args below meth c _ _ _ _ Q (F0 m 250 ls _)
  refine zz_get (C := R_X) (T := F_X) (N := 27) (v := .int (((s_X_move16 v_x v_M v_d v_a v_o v_lo v_hi v_ri ((a1 >>> ((5 : Int32) &&& 31)) &&& (7 : Int32)) ((a1 >>> ((8 : Int32) &&& 31)) &&& (7 : Int32)) (a1 >>> ((16 : Int32) &&& 31))).1) 19)) hx hb hts in_X hown hK hP 0 rfl rfl 26 (by decide) mw_79 rfl d_X_instruction_250 ?_
  have J253_2 : ∀ (vj253_0 : Int32) (ls : Array Slot) (H : Heap) (locs : List Loc), vj253_0 = (if (((s_X_move16 v_x v_M v_d v_a v_o v_lo v_hi v_ri ((a1 >>> ((5 : Int32) &&& 31)) &&& (7 : Int32)) ((a1 >>> ((8 : Int32) &&& 31)) &&& (7 : Int32)) (a1 >>> ((16 : Int32) &&& 31))).1) 19) = 0 then (if (((s_X_move16 v_x v_M v_d v_a v_o v_lo v_hi v_ri ((a1 >>> ((5 : Int32) &&& 31)) &&& (7 : Int32)) ((a1 >>> ((8 : Int32) &&& 31)) &&& (7 : Int32)) (a1 >>> ((16 : Int32) &&& 31))).1) 7) = 0 then (v_o (ix (0 : Int32))) else ((v_o (ix (0 : Int32))) + (1 : Int32))) else (v_o (ix (0 : Int32)))) → lv_has ls 9 [(8, .int ((v_o (ix (0 : Int32))) + (1 : Int32))), (7, .int (0 : Int32)), (6, .int (a1 >>> ((16 : Int32) &&& 31))), (5, .int ((a1 >>> ((11 : Int32) &&& 31)) &&& (7 : Int32))), (4, .int ((a1 >>> ((8 : Int32) &&& 31)) &&& (7 : Int32))), (3, .int ((a1 >>> ((5 : Int32) &&& 31)) &&& (7 : Int32))), (2, .int (16 : Int32)), (0, .ref yX), (1, .int a1)] → va_P D classes [oX yX yM yD yA yO yL yH yI ((s_X_move16 v_x v_M v_d v_a v_o v_lo v_hi v_ri ((a1 >>> ((5 : Int32) &&& 31)) &&& (7 : Int32)) ((a1 >>> ((8 : Int32) &&& 31)) &&& (7 : Int32)) (a1 >>> ((16 : Int32) &&& 31))).1), ar cI yM 512 ((s_X_move16 v_x v_M v_d v_a v_o v_lo v_hi v_ri ((a1 >>> ((5 : Int32) &&& 31)) &&& (7 : Int32)) ((a1 >>> ((8 : Int32) &&& 31)) &&& (7 : Int32)) (a1 >>> ((16 : Int32) &&& 31))).2.1), ar cI yD 8 v_d, ar cI yA 8 ((s_X_move16 v_x v_M v_d v_a v_o v_lo v_hi v_ri ((a1 >>> ((5 : Int32) &&& 31)) &&& (7 : Int32)) ((a1 >>> ((8 : Int32) &&& 31)) &&& (7 : Int32)) (a1 >>> ((16 : Int32) &&& 31))).2.2), ar cI yO 4 v_o, ar cI yL 6 v_lo, ar cI yH 6 v_hi, ar cI yI 6 v_ri] H → va_D A [oX yX yM yD yA yO yL yH yI ((s_X_move16 v_x v_M v_d v_a v_o v_lo v_hi v_ri ((a1 >>> ((5 : Int32) &&& 31)) &&& (7 : Int32)) ((a1 >>> ((8 : Int32) &&& 31)) &&& (7 : Int32)) (a1 >>> ((16 : Int32) &&& 31))).1), ar cI yM 512 ((s_X_move16 v_x v_M v_d v_a v_o v_lo v_hi v_ri ((a1 >>> ((5 : Int32) &&& 31)) &&& (7 : Int32)) ((a1 >>> ((8 : Int32) &&& 31)) &&& (7 : Int32)) (a1 >>> ((16 : Int32) &&& 31))).2.1), ar cI yD 8 v_d, ar cI yA 8 ((s_X_move16 v_x v_M v_d v_a v_o v_lo v_hi v_ri ((a1 >>> ((5 : Int32) &&& 31)) &&& (7 : Int32)) ((a1 >>> ((8 : Int32) &&& 31)) &&& (7 : Int32)) (a1 >>> ((16 : Int32) &&& 31))).2.2), ar cI yO 4 v_o, ar cI yL 6 v_lo, ar cI yH 6 v_hi, ar cI yI 6 v_ri] → va_S A s.heap H locs → W p l e { frames := 4, cells := 0, slots := 0, locals := 100 } s m args below meth c H locs 0 0 Q (F0 m 274 ls [.int vj253_0, .int (0 : Int32), .ref yO]) := by
    intro vj253_0 ls H locs evj253_0 hl hP hD hS
    subst evj253_0
    refine zz_iast (w' := [oX yX yM yD yA yO yL yH yI ((s_X_move16 v_x v_M v_d v_a v_o v_lo v_hi v_ri ((a1 >>> ((5 : Int32) &&& 31)) &&& (7 : Int32)) ((a1 >>> ((8 : Int32) &&& 31)) &&& (7 : Int32)) (a1 >>> ((16 : Int32) &&& 31))).1), ar cI yM 512 ((s_X_move16 v_x v_M v_d v_a v_o v_lo v_hi v_ri ((a1 >>> ((5 : Int32) &&& 31)) &&& (7 : Int32)) ((a1 >>> ((8 : Int32) &&& 31)) &&& (7 : Int32)) (a1 >>> ((16 : Int32) &&& 31))).2.1), ar cI yD 8 v_d, ar cI yA 8 ((s_X_move16 v_x v_M v_d v_a v_o v_lo v_hi v_ri ((a1 >>> ((5 : Int32) &&& 31)) &&& (7 : Int32)) ((a1 >>> ((8 : Int32) &&& 31)) &&& (7 : Int32)) (a1 >>> ((16 : Int32) &&& 31))).2.2), ar cI yO 4 (upd v_o (ix (0 : Int32)) (if (((s_X_move16 v_x v_M v_d v_a v_o v_lo v_hi v_ri ((a1 >>> ((5 : Int32) &&& 31)) &&& (7 : Int32)) ((a1 >>> ((8 : Int32) &&& 31)) &&& (7 : Int32)) (a1 >>> ((16 : Int32) &&& 31))).1) 19) = 0 then (if (((s_X_move16 v_x v_M v_d v_a v_o v_lo v_hi v_ri ((a1 >>> ((5 : Int32) &&& 31)) &&& (7 : Int32)) ((a1 >>> ((8 : Int32) &&& 31)) &&& (7 : Int32)) (a1 >>> ((16 : Int32) &&& 31))).1) 7) = 0 then (v_o (ix (0 : Int32))) else ((v_o (ix (0 : Int32))) + (1 : Int32))) else (v_o (ix (0 : Int32))))), ar cI yL 6 v_lo, ar cI yH 6 v_hi, ar cI yI 6 v_ri]) hx hb hK hP hD hS 4 0 rfl rfl (zz_inc (by decide)) d_X_instruction_274 rfl (fun H locs hP hD hS => ?_)
    have hsp : s_X_instr16 v_x v_M v_d v_a v_o v_lo v_hi v_ri a1 = ((s_X_move16 v_x v_M v_d v_a v_o v_lo v_hi v_ri ((a1 >>> ((5 : Int32) &&& 31)) &&& (7 : Int32)) ((a1 >>> ((8 : Int32) &&& 31)) &&& (7 : Int32)) (a1 >>> ((16 : Int32) &&& 31))).1, (s_X_move16 v_x v_M v_d v_a v_o v_lo v_hi v_ri ((a1 >>> ((5 : Int32) &&& 31)) &&& (7 : Int32)) ((a1 >>> ((8 : Int32) &&& 31)) &&& (7 : Int32)) (a1 >>> ((16 : Int32) &&& 31))).2.1, (s_X_move16 v_x v_M v_d v_a v_o v_lo v_hi v_ri ((a1 >>> ((5 : Int32) &&& 31)) &&& (7 : Int32)) ((a1 >>> ((8 : Int32) &&& 31)) &&& (7 : Int32)) (a1 >>> ((16 : Int32) &&& 31))).2.2, upd v_o (ix (0 : Int32)) (if (((s_X_move16 v_x v_M v_d v_a v_o v_lo v_hi v_ri ((a1 >>> ((5 : Int32) &&& 31)) &&& (7 : Int32)) ((a1 >>> ((8 : Int32) &&& 31)) &&& (7 : Int32)) (a1 >>> ((16 : Int32) &&& 31))).1) 19) = 0 then (if (((s_X_move16 v_x v_M v_d v_a v_o v_lo v_hi v_ri ((a1 >>> ((5 : Int32) &&& 31)) &&& (7 : Int32)) ((a1 >>> ((8 : Int32) &&& 31)) &&& (7 : Int32)) (a1 >>> ((16 : Int32) &&& 31))).1) 7) = 0 then (v_o (ix (0 : Int32))) else ((v_o (ix (0 : Int32))) + (1 : Int32))) else (v_o (ix (0 : Int32))))) := rfl
    rw [hsp] at hE
    exact hE _ _ _ _ hP hD hS d_X_instruction_275
  refine lv_if_ne (tgt := 268) hx hb d_X_instruction_253 (by decide) (fun h1 => ?_) (fun h1 => ?_)
  ·
    refine lv_aload_n hx hb d_X_instruction_268 rfl (lv_at hl 7 rfl) ?_
    refine zz_get (C := R_X) (T := F_X) (N := 27) (v := .ref yO) hx hb hts in_X hown hK hP 0 rfl rfl 4 (by decide) mw_68 rfl d_X_instruction_269 ?_
    refine lv_iconst (v := (0 : Int32)) hx hb d_X_instruction_272 (by decide) ?_
    refine va_iald hx hb hK hP 4 0 rfl rfl (zz_inc (by decide)) d_X_instruction_273 ?_
    exact J253_2 (v_o (ix (0 : Int32))) _ _ _ (by rw [if_neg h1]) (lv_sub hl [0, 1, 2, 3, 4, 5, 6, 7, 8] rfl) hP hD hS
  ·
    refine lv_aload_n hx hb d_X_instruction_256 rfl (lv_at hl 7 rfl) ?_
    refine zz_get (C := R_X) (T := F_X) (N := 27) (v := .int (((s_X_move16 v_x v_M v_d v_a v_o v_lo v_hi v_ri ((a1 >>> ((5 : Int32) &&& 31)) &&& (7 : Int32)) ((a1 >>> ((8 : Int32) &&& 31)) &&& (7 : Int32)) (a1 >>> ((16 : Int32) &&& 31))).1) 7)) hx hb hts in_X hown hK hP 0 rfl rfl 11 (by decide) mw_78 rfl d_X_instruction_257 ?_
    refine lv_if_eq (tgt := 268) hx hb d_X_instruction_260 (by decide) (fun h2 => ?_) (fun h2 => ?_)
    ·
      refine lv_aload_n hx hb d_X_instruction_268 rfl (lv_at hl 7 rfl) ?_
      refine zz_get (C := R_X) (T := F_X) (N := 27) (v := .ref yO) hx hb hts in_X hown hK hP 0 rfl rfl 4 (by decide) mw_68 rfl d_X_instruction_269 ?_
      refine lv_iconst (v := (0 : Int32)) hx hb d_X_instruction_272 (by decide) ?_
      refine va_iald hx hb hK hP 4 0 rfl rfl (zz_inc (by decide)) d_X_instruction_273 ?_
      exact J253_2 (v_o (ix (0 : Int32))) _ _ _ (by rw [if_pos h1, if_pos h2]) (lv_sub hl [0, 1, 2, 3, 4, 5, 6, 7, 8] rfl) hP hD hS
    ·
      refine lv_iload hx hb d_X_instruction_263 (lv_at hl 0 rfl) ?_
      refine lv_goto (tgt := 274) hx hb d_X_instruction_265 (by decide) ?_
      exact J253_2 ((v_o (ix (0 : Int32))) + (1 : Int32)) _ _ _ (by rw [if_pos h1, if_neg h2]) (lv_sub hl [0, 1, 2, 3, 4, 5, 6, 7, 8] rfl) hP hD hS
set_option maxHeartbeats 4000000 in
set_option maxRecDepth 100000 in
theorem k_X_instr17 (l : Launch) (D : va_G) (cI : ClassId) (sz : Nat) (yX : Nat) (yM : Nat) (yD : Nat) (yA : Nat) (yO : Nat) (yL : Nat) (yH : Nat) (yI : Nat) (v_x : Nat → Int32) (v_M : Nat → Int32) (v_d : Nat → Int32) (v_a : Nat → Int32) (v_o : Nat → Int32) (v_lo : Nat → Int32) (v_hi : Nat → Int32) (v_ri : Nat → Int32) (a1 : Int32) (hop : (a1 &&& (31 : Int32)) = (17 : Int32)) (hset : v_x 2 = 0 ∨ v_x 2 = 1) : zMv l y_X_instruction (.code y_X_instruction b_X_instruction 9 (none) :: wd) { frames := 4, cells := 0, slots := 0, locals := 100 } D classes [(cI, .int)] [.ref yX, .int a1] [oX yX yM yD yA yO yL yH yI v_x, ar cI yM 512 v_M, ar cI yD 8 v_d, ar cI yA 8 v_a, ar cI yO 4 v_o, ar cI yL 6 v_lo, ar cI yH 6 v_hi, ar cI yI 6 v_ri] [oX yX yM yD yA yO yL yH yI ((s_X_instr17 v_x v_M v_d v_a v_o v_lo v_hi v_ri a1).1), ar cI yM 512 v_M, ar cI yD 8 ((s_X_instr17 v_x v_M v_d v_a v_o v_lo v_hi v_ri a1).2.1), ar cI yA 8 ((s_X_instr17 v_x v_M v_d v_a v_o v_lo v_hi v_ri a1).2.2.1), ar cI yO 4 ((s_X_instr17 v_x v_M v_d v_a v_o v_lo v_hi v_ri a1).2.2.2), ar cI yL 6 v_lo, ar cI yH 6 v_hi, ar cI yI 6 v_ri] sz := by
  refine met_v (by decide) (Nat.le_of_ble_eq_true rfl) ?_
  intro p e s m args below meth c A Q ls hx hb hml hown hts hK hP hD hS hA hl hE
  have hl : lv_has ls 9 [(0, .ref yX), (1, .int a1)] := hl
  have hown : s.vm.findClass R_X = some m.cls := hown
  refine lv_iload_n hx hb d_X_instruction_0 rfl (lv_at hl 1 rfl) ?_
  refine lv_bipush (v := (31 : Int32)) hx hb d_X_instruction_1 (by decide) ?_
  refine lv_iand hx hb d_X_instruction_3 ?_
  refine lv_topi (fun zz ez => ?_)
  obtain rfl : zz = (17 : Int32) := ez.trans hop
  refine lv_istore_n (lv' := [(2, .int (17 : Int32)), (0, .ref yX), (1, .int a1)]) hx hb d_X_instruction_4 rfl hl (by decide) rfl (fun ls hl => ?_)
  refine lv_iload_n hx hb d_X_instruction_5 rfl (lv_at hl 2 rfl) ?_
  refine lv_iconst (v := (5 : Int32)) hx hb d_X_instruction_6 (by decide) ?_
  refine lv_ishr hx hb d_X_instruction_7 ?_
  refine lv_bipush (v := (7 : Int32)) hx hb d_X_instruction_8 (by decide) ?_
  refine lv_iand hx hb d_X_instruction_10 ?_
  refine lv_istore_n (lv' := [(3, .int ((a1 >>> ((5 : Int32) &&& 31)) &&& (7 : Int32))), (2, .int (17 : Int32)), (0, .ref yX), (1, .int a1)]) hx hb d_X_instruction_11 rfl hl (by decide) rfl (fun ls hl => ?_)
  refine lv_iload_n hx hb d_X_instruction_12 rfl (lv_at hl 3 rfl) ?_
  show W p l e _ s m args below meth c _ _ _ _ Q (F0 m 13 ls _)
  refine lv_bipush (v := (8 : Int32)) hx hb d_X_instruction_13 (by decide) ?_
  refine lv_ishr hx hb d_X_instruction_15 ?_
  refine lv_bipush (v := (7 : Int32)) hx hb d_X_instruction_16 (by decide) ?_
  refine lv_iand hx hb d_X_instruction_18 ?_
  refine lv_istore (lv' := [(4, .int ((a1 >>> ((8 : Int32) &&& 31)) &&& (7 : Int32))), (3, .int ((a1 >>> ((5 : Int32) &&& 31)) &&& (7 : Int32))), (2, .int (17 : Int32)), (0, .ref yX), (1, .int a1)]) hx hb d_X_instruction_19 hl (by decide) rfl (fun ls hl => ?_)
  refine lv_iload_n hx hb d_X_instruction_21 rfl (lv_at hl 4 rfl) ?_
  refine lv_bipush (v := (11 : Int32)) hx hb d_X_instruction_22 (by decide) ?_
  refine lv_ishr hx hb d_X_instruction_24 ?_
  refine lv_bipush (v := (7 : Int32)) hx hb d_X_instruction_25 (by decide) ?_
  refine lv_iand hx hb d_X_instruction_27 ?_
  refine lv_istore (lv' := [(5, .int ((a1 >>> ((11 : Int32) &&& 31)) &&& (7 : Int32))), (4, .int ((a1 >>> ((8 : Int32) &&& 31)) &&& (7 : Int32))), (3, .int ((a1 >>> ((5 : Int32) &&& 31)) &&& (7 : Int32))), (2, .int (17 : Int32)), (0, .ref yX), (1, .int a1)]) hx hb d_X_instruction_28 hl (by decide) rfl (fun ls hl => ?_)
  refine lv_iload_n hx hb d_X_instruction_30 rfl (lv_at hl 5 rfl) ?_
  show W p l e _ s m args below meth c _ _ _ _ Q (F0 m 31 ls _)
  refine lv_bipush (v := (16 : Int32)) hx hb d_X_instruction_31 (by decide) ?_
  refine lv_ishr hx hb d_X_instruction_33 ?_
  refine lv_istore (lv' := [(6, .int (a1 >>> ((16 : Int32) &&& 31))), (5, .int ((a1 >>> ((11 : Int32) &&& 31)) &&& (7 : Int32))), (4, .int ((a1 >>> ((8 : Int32) &&& 31)) &&& (7 : Int32))), (3, .int ((a1 >>> ((5 : Int32) &&& 31)) &&& (7 : Int32))), (2, .int (17 : Int32)), (0, .ref yX), (1, .int a1)]) hx hb d_X_instruction_34 hl (by decide) rfl (fun ls hl => ?_)
  refine lv_iload_n hx hb d_X_instruction_36 rfl (lv_at hl 4 rfl) ?_
  refine lv_bipush (v := (25 : Int32)) hx hb d_X_instruction_37 (by decide) ?_
  refine lv_icmp_eq (tgt := 66) hx hb d_X_instruction_39 (by decide) (fun hh => absurd hh (by decide)) (fun _ => ?_)
  refine lv_iload_n hx hb d_X_instruction_42 rfl (lv_at hl 4 rfl) ?_
  refine lv_bipush (v := (26 : Int32)) hx hb d_X_instruction_43 (by decide) ?_
  refine lv_icmp_eq (tgt := 66) hx hb d_X_instruction_45 (by decide) (fun hh => absurd hh (by decide)) (fun _ => ?_)
  refine lv_iload_n hx hb d_X_instruction_48 rfl (lv_at hl 4 rfl) ?_
  refine lv_bipush (v := (28 : Int32)) hx hb d_X_instruction_49 (by decide) ?_
  refine lv_icmp_eq (tgt := 66) hx hb d_X_instruction_51 (by decide) (fun hh => absurd hh (by decide)) (fun _ => ?_)
  refine lv_iload_n hx hb d_X_instruction_54 rfl (lv_at hl 4 rfl) ?_
  refine lv_bipush (v := (29 : Int32)) hx hb d_X_instruction_55 (by decide) ?_
  refine lv_icmp_eq (tgt := 66) hx hb d_X_instruction_57 (by decide) (fun hh => absurd hh (by decide)) (fun _ => ?_)
  refine lv_iload_n hx hb d_X_instruction_60 rfl (lv_at hl 4 rfl) ?_
  refine lv_bipush (v := (31 : Int32)) hx hb d_X_instruction_61 (by decide) ?_
  refine lv_icmp_ne (tgt := 70) hx hb d_X_instruction_63 (by decide) (fun _ => ?_) (fun hh => absurd hh (by decide))
  refine lv_iconst (v := (0 : Int32)) hx hb d_X_instruction_70 (by decide) ?_
  refine lv_istore (lv' := [(7, .int (0 : Int32)), (6, .int (a1 >>> ((16 : Int32) &&& 31))), (5, .int ((a1 >>> ((11 : Int32) &&& 31)) &&& (7 : Int32))), (4, .int ((a1 >>> ((8 : Int32) &&& 31)) &&& (7 : Int32))), (3, .int ((a1 >>> ((5 : Int32) &&& 31)) &&& (7 : Int32))), (2, .int (17 : Int32)), (0, .ref yX), (1, .int a1)]) hx hb d_X_instruction_71 hl (by decide) rfl (fun ls hl => ?_)
  refine lv_iload hx hb d_X_instruction_73 (lv_at hl 0 rfl) ?_
  refine lv_if_eq (tgt := 86) hx hb d_X_instruction_75 (by decide) (fun _ => ?_) (fun hh => absurd hh (by decide))
  refine lv_iload_n hx hb d_X_instruction_86 rfl (lv_at hl 5 rfl) ?_
  refine lv_bipush (v := (30 : Int32)) hx hb d_X_instruction_87 (by decide) ?_
  refine lv_icmp_ne (tgt := 111) hx hb d_X_instruction_89 (by decide) (fun _ => ?_) (fun hh => absurd hh (by decide))
  refine lv_aload_n hx hb d_X_instruction_111 rfl (lv_at hl 6 rfl) ?_
  refine zz_get (C := R_X) (T := F_X) (N := 27) (v := .ref yO) hx hb hts in_X hown hK hP 0 rfl rfl 4 (by decide) mw_68 rfl d_X_instruction_112 ?_
  refine lv_iconst (v := (0 : Int32)) hx hb d_X_instruction_115 (by decide) ?_
  refine va_iald hx hb hK hP 4 0 rfl rfl (zz_inc (by decide)) d_X_instruction_116 ?_
  refine lv_iconst (v := (1 : Int32)) hx hb d_X_instruction_117 (by decide) ?_
  refine lv_iadd hx hb d_X_instruction_118 ?_
  refine lv_istore (lv' := [(8, .int ((v_o (ix (0 : Int32))) + (1 : Int32))), (7, .int (0 : Int32)), (6, .int (a1 >>> ((16 : Int32) &&& 31))), (5, .int ((a1 >>> ((11 : Int32) &&& 31)) &&& (7 : Int32))), (4, .int ((a1 >>> ((8 : Int32) &&& 31)) &&& (7 : Int32))), (3, .int ((a1 >>> ((5 : Int32) &&& 31)) &&& (7 : Int32))), (2, .int (17 : Int32)), (0, .ref yX), (1, .int a1)]) hx hb d_X_instruction_119 hl (by decide) rfl (fun ls hl => ?_)
  refine lv_iload_n hx hb d_X_instruction_121 rfl (lv_at hl 6 rfl) ?_
  refine lv_if_le (tgt := 146) hx hb d_X_instruction_122 (by decide) (fun hh => absurd hh (by decide)) (fun _ => ?_)
  refine lv_iload_n hx hb d_X_instruction_125 rfl (lv_at hl 6 rfl) ?_
  refine lv_bipush (v := (13 : Int32)) hx hb d_X_instruction_126 (by decide) ?_
  refine lv_icmp_ge (tgt := 146) hx hb d_X_instruction_128 (by decide) (fun _ => ?_) (fun hh => absurd hh (by decide))
  refine lv_iload_n hx hb d_X_instruction_146 rfl (lv_at hl 6 rfl) ?_
  refine lv_bipush (v := (12 : Int32)) hx hb d_X_instruction_147 (by decide) ?_
  refine lv_icmp_le (tgt := 171) hx hb d_X_instruction_149 (by decide) (fun hh => absurd hh (by decide)) (fun _ => ?_)
  refine lv_iload_n hx hb d_X_instruction_152 rfl (lv_at hl 6 rfl) ?_
  refine lv_bipush (v := (18 : Int32)) hx hb d_X_instruction_153 (by decide) ?_
  refine lv_icmp_ge (tgt := 171) hx hb d_X_instruction_155 (by decide) (fun hh => absurd hh (by decide)) (fun _ => ?_)
  refine lv_aload_n hx hb d_X_instruction_158 rfl (lv_at hl 7 rfl) ?_
  refine lv_iload_n hx hb d_X_instruction_159 rfl (lv_at hl 6 rfl) ?_
  refine lv_iload_n hx hb d_X_instruction_160 rfl (lv_at hl 5 rfl) ?_
  refine lv_iload hx hb d_X_instruction_161 (lv_at hl 4 rfl) ?_
  refine lv_iload hx hb d_X_instruction_163 (lv_at hl 2 rfl) ?_
  refine zz_cVv (rest := []) (wr := []) (w' := [oX yX yM yD yA yO yL yH yI ((s_X_move17 v_x v_M v_d v_a v_o v_lo v_hi v_ri ((a1 >>> ((5 : Int32) &&& 31)) &&& (7 : Int32)) ((a1 >>> ((8 : Int32) &&& 31)) &&& (7 : Int32)) (a1 >>> ((16 : Int32) &&& 31))).1), ar cI yM 512 v_M, ar cI yD 8 ((s_X_move17 v_x v_M v_d v_a v_o v_lo v_hi v_ri ((a1 >>> ((5 : Int32) &&& 31)) &&& (7 : Int32)) ((a1 >>> ((8 : Int32) &&& 31)) &&& (7 : Int32)) (a1 >>> ((16 : Int32) &&& 31))).2.1), ar cI yA 8 ((s_X_move17 v_x v_M v_d v_a v_o v_lo v_hi v_ri ((a1 >>> ((5 : Int32) &&& 31)) &&& (7 : Int32)) ((a1 >>> ((8 : Int32) &&& 31)) &&& (7 : Int32)) (a1 >>> ((16 : Int32) &&& 31))).2.2), ar cI yO 4 v_o, ar cI yL 6 v_lo, ar cI yH 6 v_hi, ar cI yI 6 v_ri]) ⟨hx, hb, hml, hown, hts⟩ (k_X_move17 l D cI _ yX yM yD yA yO yL yH yI v_x v_M v_d v_a v_o v_lo v_hi v_ri ((a1 >>> ((5 : Int32) &&& 31)) &&& (7 : Int32)) ((a1 >>> ((8 : Int32) &&& 31)) &&& (7 : Int32)) (a1 >>> ((16 : Int32) &&& 31)) (zz_in7 _) (zz_in7 _) hset) g_X_instruction_X_move_115 nv_X_move ⟨⟨rfl, rfl⟩, Nat.le_of_ble_eq_true rfl, Nat.le_of_ble_eq_true rfl⟩ hK [0] rfl hP hD hS hA [0, 1, 2, 3, 4, 5, 6, 7] [] [0, 1, 2, 3, 4, 5, 6, 7] rfl rfl rfl rfl (by decide) rfl rfl 0 6 rfl rfl rfl rfl hl.1 (Nat.le_of_ble_eq_true rfl) d_X_instruction_165 ⟨Nat.zero_le _, Nat.zero_le _⟩ (fun H locs hP hD hS => ?_)
  refine lv_goto (tgt := 244) hx hb d_X_instruction_168 (by decide) ?_
  refine lv_aload_n hx hb d_X_instruction_244 rfl (lv_at hl 7 rfl) ?_
  refine zz_get (C := R_X) (T := F_X) (N := 27) (v := .ref yO) hx hb hts in_X hown hK hP 0 rfl rfl 4 (by decide) mw_68 rfl d_X_instruction_245 ?_
  refine lv_iconst (v := (0 : Int32)) hx hb d_X_instruction_248 (by decide) ?_
  refine lv_aload_n hx hb d_X_instruction_249 rfl (lv_at hl 7 rfl) ?_
  show W p l e _ s m args below meth c _ _ _ _ Q (F0 m 250 ls _)
  refine zz_get (C := R_X) (T := F_X) (N := 27) (v := .int (((s_X_move17 v_x v_M v_d v_a v_o v_lo v_hi v_ri ((a1 >>> ((5 : Int32) &&& 31)) &&& (7 : Int32)) ((a1 >>> ((8 : Int32) &&& 31)) &&& (7 : Int32)) (a1 >>> ((16 : Int32) &&& 31))).1) 19)) hx hb hts in_X hown hK hP 0 rfl rfl 26 (by decide) mw_79 rfl d_X_instruction_250 ?_
  have J253_2 : ∀ (vj253_0 : Int32) (ls : Array Slot) (H : Heap) (locs : List Loc), vj253_0 = (if (((s_X_move17 v_x v_M v_d v_a v_o v_lo v_hi v_ri ((a1 >>> ((5 : Int32) &&& 31)) &&& (7 : Int32)) ((a1 >>> ((8 : Int32) &&& 31)) &&& (7 : Int32)) (a1 >>> ((16 : Int32) &&& 31))).1) 19) = 0 then (if (((s_X_move17 v_x v_M v_d v_a v_o v_lo v_hi v_ri ((a1 >>> ((5 : Int32) &&& 31)) &&& (7 : Int32)) ((a1 >>> ((8 : Int32) &&& 31)) &&& (7 : Int32)) (a1 >>> ((16 : Int32) &&& 31))).1) 7) = 0 then (v_o (ix (0 : Int32))) else ((v_o (ix (0 : Int32))) + (1 : Int32))) else (v_o (ix (0 : Int32)))) → lv_has ls 9 [(8, .int ((v_o (ix (0 : Int32))) + (1 : Int32))), (7, .int (0 : Int32)), (6, .int (a1 >>> ((16 : Int32) &&& 31))), (5, .int ((a1 >>> ((11 : Int32) &&& 31)) &&& (7 : Int32))), (4, .int ((a1 >>> ((8 : Int32) &&& 31)) &&& (7 : Int32))), (3, .int ((a1 >>> ((5 : Int32) &&& 31)) &&& (7 : Int32))), (2, .int (17 : Int32)), (0, .ref yX), (1, .int a1)] → va_P D classes [oX yX yM yD yA yO yL yH yI ((s_X_move17 v_x v_M v_d v_a v_o v_lo v_hi v_ri ((a1 >>> ((5 : Int32) &&& 31)) &&& (7 : Int32)) ((a1 >>> ((8 : Int32) &&& 31)) &&& (7 : Int32)) (a1 >>> ((16 : Int32) &&& 31))).1), ar cI yM 512 v_M, ar cI yD 8 ((s_X_move17 v_x v_M v_d v_a v_o v_lo v_hi v_ri ((a1 >>> ((5 : Int32) &&& 31)) &&& (7 : Int32)) ((a1 >>> ((8 : Int32) &&& 31)) &&& (7 : Int32)) (a1 >>> ((16 : Int32) &&& 31))).2.1), ar cI yA 8 ((s_X_move17 v_x v_M v_d v_a v_o v_lo v_hi v_ri ((a1 >>> ((5 : Int32) &&& 31)) &&& (7 : Int32)) ((a1 >>> ((8 : Int32) &&& 31)) &&& (7 : Int32)) (a1 >>> ((16 : Int32) &&& 31))).2.2), ar cI yO 4 v_o, ar cI yL 6 v_lo, ar cI yH 6 v_hi, ar cI yI 6 v_ri] H → va_D A [oX yX yM yD yA yO yL yH yI ((s_X_move17 v_x v_M v_d v_a v_o v_lo v_hi v_ri ((a1 >>> ((5 : Int32) &&& 31)) &&& (7 : Int32)) ((a1 >>> ((8 : Int32) &&& 31)) &&& (7 : Int32)) (a1 >>> ((16 : Int32) &&& 31))).1), ar cI yM 512 v_M, ar cI yD 8 ((s_X_move17 v_x v_M v_d v_a v_o v_lo v_hi v_ri ((a1 >>> ((5 : Int32) &&& 31)) &&& (7 : Int32)) ((a1 >>> ((8 : Int32) &&& 31)) &&& (7 : Int32)) (a1 >>> ((16 : Int32) &&& 31))).2.1), ar cI yA 8 ((s_X_move17 v_x v_M v_d v_a v_o v_lo v_hi v_ri ((a1 >>> ((5 : Int32) &&& 31)) &&& (7 : Int32)) ((a1 >>> ((8 : Int32) &&& 31)) &&& (7 : Int32)) (a1 >>> ((16 : Int32) &&& 31))).2.2), ar cI yO 4 v_o, ar cI yL 6 v_lo, ar cI yH 6 v_hi, ar cI yI 6 v_ri] → va_S A s.heap H locs → W p l e { frames := 4, cells := 0, slots := 0, locals := 100 } s m args below meth c H locs 0 0 Q (F0 m 274 ls [.int vj253_0, .int (0 : Int32), .ref yO]) := by
    intro vj253_0 ls H locs evj253_0 hl hP hD hS
    subst evj253_0
    refine zz_iast (w' := [oX yX yM yD yA yO yL yH yI ((s_X_move17 v_x v_M v_d v_a v_o v_lo v_hi v_ri ((a1 >>> ((5 : Int32) &&& 31)) &&& (7 : Int32)) ((a1 >>> ((8 : Int32) &&& 31)) &&& (7 : Int32)) (a1 >>> ((16 : Int32) &&& 31))).1), ar cI yM 512 v_M, ar cI yD 8 ((s_X_move17 v_x v_M v_d v_a v_o v_lo v_hi v_ri ((a1 >>> ((5 : Int32) &&& 31)) &&& (7 : Int32)) ((a1 >>> ((8 : Int32) &&& 31)) &&& (7 : Int32)) (a1 >>> ((16 : Int32) &&& 31))).2.1), ar cI yA 8 ((s_X_move17 v_x v_M v_d v_a v_o v_lo v_hi v_ri ((a1 >>> ((5 : Int32) &&& 31)) &&& (7 : Int32)) ((a1 >>> ((8 : Int32) &&& 31)) &&& (7 : Int32)) (a1 >>> ((16 : Int32) &&& 31))).2.2), ar cI yO 4 (upd v_o (ix (0 : Int32)) (if (((s_X_move17 v_x v_M v_d v_a v_o v_lo v_hi v_ri ((a1 >>> ((5 : Int32) &&& 31)) &&& (7 : Int32)) ((a1 >>> ((8 : Int32) &&& 31)) &&& (7 : Int32)) (a1 >>> ((16 : Int32) &&& 31))).1) 19) = 0 then (if (((s_X_move17 v_x v_M v_d v_a v_o v_lo v_hi v_ri ((a1 >>> ((5 : Int32) &&& 31)) &&& (7 : Int32)) ((a1 >>> ((8 : Int32) &&& 31)) &&& (7 : Int32)) (a1 >>> ((16 : Int32) &&& 31))).1) 7) = 0 then (v_o (ix (0 : Int32))) else ((v_o (ix (0 : Int32))) + (1 : Int32))) else (v_o (ix (0 : Int32))))), ar cI yL 6 v_lo, ar cI yH 6 v_hi, ar cI yI 6 v_ri]) hx hb hK hP hD hS 4 0 rfl rfl (zz_inc (by decide)) d_X_instruction_274 rfl (fun H locs hP hD hS => ?_)
    have hsp : s_X_instr17 v_x v_M v_d v_a v_o v_lo v_hi v_ri a1 = ((s_X_move17 v_x v_M v_d v_a v_o v_lo v_hi v_ri ((a1 >>> ((5 : Int32) &&& 31)) &&& (7 : Int32)) ((a1 >>> ((8 : Int32) &&& 31)) &&& (7 : Int32)) (a1 >>> ((16 : Int32) &&& 31))).1, (s_X_move17 v_x v_M v_d v_a v_o v_lo v_hi v_ri ((a1 >>> ((5 : Int32) &&& 31)) &&& (7 : Int32)) ((a1 >>> ((8 : Int32) &&& 31)) &&& (7 : Int32)) (a1 >>> ((16 : Int32) &&& 31))).2.1, (s_X_move17 v_x v_M v_d v_a v_o v_lo v_hi v_ri ((a1 >>> ((5 : Int32) &&& 31)) &&& (7 : Int32)) ((a1 >>> ((8 : Int32) &&& 31)) &&& (7 : Int32)) (a1 >>> ((16 : Int32) &&& 31))).2.2, upd v_o (ix (0 : Int32)) (if (((s_X_move17 v_x v_M v_d v_a v_o v_lo v_hi v_ri ((a1 >>> ((5 : Int32) &&& 31)) &&& (7 : Int32)) ((a1 >>> ((8 : Int32) &&& 31)) &&& (7 : Int32)) (a1 >>> ((16 : Int32) &&& 31))).1) 19) = 0 then (if (((s_X_move17 v_x v_M v_d v_a v_o v_lo v_hi v_ri ((a1 >>> ((5 : Int32) &&& 31)) &&& (7 : Int32)) ((a1 >>> ((8 : Int32) &&& 31)) &&& (7 : Int32)) (a1 >>> ((16 : Int32) &&& 31))).1) 7) = 0 then (v_o (ix (0 : Int32))) else ((v_o (ix (0 : Int32))) + (1 : Int32))) else (v_o (ix (0 : Int32))))) := rfl
    rw [hsp] at hE
    exact hE _ _ _ _ hP hD hS d_X_instruction_275
  refine lv_if_ne (tgt := 268) hx hb d_X_instruction_253 (by decide) (fun h1 => ?_) (fun h1 => ?_)
  ·
    refine lv_aload_n hx hb d_X_instruction_268 rfl (lv_at hl 7 rfl) ?_
    refine zz_get (C := R_X) (T := F_X) (N := 27) (v := .ref yO) hx hb hts in_X hown hK hP 0 rfl rfl 4 (by decide) mw_68 rfl d_X_instruction_269 ?_
    refine lv_iconst (v := (0 : Int32)) hx hb d_X_instruction_272 (by decide) ?_
    refine va_iald hx hb hK hP 4 0 rfl rfl (zz_inc (by decide)) d_X_instruction_273 ?_
    exact J253_2 (v_o (ix (0 : Int32))) _ _ _ (by rw [if_neg h1]) (lv_sub hl [0, 1, 2, 3, 4, 5, 6, 7, 8] rfl) hP hD hS
  ·
    refine lv_aload_n hx hb d_X_instruction_256 rfl (lv_at hl 7 rfl) ?_
    refine zz_get (C := R_X) (T := F_X) (N := 27) (v := .int (((s_X_move17 v_x v_M v_d v_a v_o v_lo v_hi v_ri ((a1 >>> ((5 : Int32) &&& 31)) &&& (7 : Int32)) ((a1 >>> ((8 : Int32) &&& 31)) &&& (7 : Int32)) (a1 >>> ((16 : Int32) &&& 31))).1) 7)) hx hb hts in_X hown hK hP 0 rfl rfl 11 (by decide) mw_78 rfl d_X_instruction_257 ?_
    refine lv_if_eq (tgt := 268) hx hb d_X_instruction_260 (by decide) (fun h2 => ?_) (fun h2 => ?_)
    ·
      refine lv_aload_n hx hb d_X_instruction_268 rfl (lv_at hl 7 rfl) ?_
      refine zz_get (C := R_X) (T := F_X) (N := 27) (v := .ref yO) hx hb hts in_X hown hK hP 0 rfl rfl 4 (by decide) mw_68 rfl d_X_instruction_269 ?_
      refine lv_iconst (v := (0 : Int32)) hx hb d_X_instruction_272 (by decide) ?_
      refine va_iald hx hb hK hP 4 0 rfl rfl (zz_inc (by decide)) d_X_instruction_273 ?_
      exact J253_2 (v_o (ix (0 : Int32))) _ _ _ (by rw [if_pos h1, if_pos h2]) (lv_sub hl [0, 1, 2, 3, 4, 5, 6, 7, 8] rfl) hP hD hS
    ·
      refine lv_iload hx hb d_X_instruction_263 (lv_at hl 0 rfl) ?_
      refine lv_goto (tgt := 274) hx hb d_X_instruction_265 (by decide) ?_
      exact J253_2 ((v_o (ix (0 : Int32))) + (1 : Int32)) _ _ _ (by rw [if_pos h1, if_neg h2]) (lv_sub hl [0, 1, 2, 3, 4, 5, 6, 7, 8] rfl) hP hD hS
set_option maxHeartbeats 4000000 in
set_option maxRecDepth 100000 in
theorem k_X_instr18 (l : Launch) (D : va_G) (cI : ClassId) (sz : Nat) (yX : Nat) (yM : Nat) (yD : Nat) (yA : Nat) (yO : Nat) (yL : Nat) (yH : Nat) (yI : Nat) (v_x : Nat → Int32) (v_M : Nat → Int32) (v_d : Nat → Int32) (v_a : Nat → Int32) (v_o : Nat → Int32) (v_lo : Nat → Int32) (v_hi : Nat → Int32) (v_ri : Nat → Int32) (a1 : Int32) (hop : (a1 &&& (31 : Int32)) = (18 : Int32)) : zMv l y_X_instruction (.code y_X_instruction b_X_instruction 9 (none) :: wd) { frames := 4, cells := 0, slots := 0, locals := 100 } D classes [(cI, .int)] [.ref yX, .int a1] [oX yX yM yD yA yO yL yH yI v_x, ar cI yM 512 v_M, ar cI yD 8 v_d, ar cI yA 8 v_a, ar cI yO 4 v_o, ar cI yL 6 v_lo, ar cI yH 6 v_hi, ar cI yI 6 v_ri] [oX yX yM yD yA yO yL yH yI v_x, ar cI yM 512 v_M, ar cI yD 8 v_d, ar cI yA 8 v_a, ar cI yO 4 (s_X_instr18 v_x v_M v_d v_a v_o v_lo v_hi v_ri a1), ar cI yL 6 v_lo, ar cI yH 6 v_hi, ar cI yI 6 v_ri] sz := by
  refine met_v (by decide) (Nat.le_of_ble_eq_true rfl) ?_
  intro p e s m args below meth c A Q ls hx hb hml hown hts hK hP hD hS hA hl hE
  have hl : lv_has ls 9 [(0, .ref yX), (1, .int a1)] := hl
  have hown : s.vm.findClass R_X = some m.cls := hown
  refine lv_iload_n hx hb d_X_instruction_0 rfl (lv_at hl 1 rfl) ?_
  refine lv_bipush (v := (31 : Int32)) hx hb d_X_instruction_1 (by decide) ?_
  refine lv_iand hx hb d_X_instruction_3 ?_
  refine lv_topi (fun zz ez => ?_)
  obtain rfl : zz = (18 : Int32) := ez.trans hop
  refine lv_istore_n (lv' := [(2, .int (18 : Int32)), (0, .ref yX), (1, .int a1)]) hx hb d_X_instruction_4 rfl hl (by decide) rfl (fun ls hl => ?_)
  refine lv_iload_n hx hb d_X_instruction_5 rfl (lv_at hl 2 rfl) ?_
  refine lv_iconst (v := (5 : Int32)) hx hb d_X_instruction_6 (by decide) ?_
  refine lv_ishr hx hb d_X_instruction_7 ?_
  refine lv_bipush (v := (7 : Int32)) hx hb d_X_instruction_8 (by decide) ?_
  refine lv_iand hx hb d_X_instruction_10 ?_
  refine lv_istore_n (lv' := [(3, .int ((a1 >>> ((5 : Int32) &&& 31)) &&& (7 : Int32))), (2, .int (18 : Int32)), (0, .ref yX), (1, .int a1)]) hx hb d_X_instruction_11 rfl hl (by decide) rfl (fun ls hl => ?_)
  refine lv_iload_n hx hb d_X_instruction_12 rfl (lv_at hl 3 rfl) ?_
  show W p l e _ s m args below meth c _ _ _ _ Q (F0 m 13 ls _)
  refine lv_bipush (v := (8 : Int32)) hx hb d_X_instruction_13 (by decide) ?_
  refine lv_ishr hx hb d_X_instruction_15 ?_
  refine lv_bipush (v := (7 : Int32)) hx hb d_X_instruction_16 (by decide) ?_
  refine lv_iand hx hb d_X_instruction_18 ?_
  refine lv_istore (lv' := [(4, .int ((a1 >>> ((8 : Int32) &&& 31)) &&& (7 : Int32))), (3, .int ((a1 >>> ((5 : Int32) &&& 31)) &&& (7 : Int32))), (2, .int (18 : Int32)), (0, .ref yX), (1, .int a1)]) hx hb d_X_instruction_19 hl (by decide) rfl (fun ls hl => ?_)
  refine lv_iload_n hx hb d_X_instruction_21 rfl (lv_at hl 4 rfl) ?_
  refine lv_bipush (v := (11 : Int32)) hx hb d_X_instruction_22 (by decide) ?_
  refine lv_ishr hx hb d_X_instruction_24 ?_
  refine lv_bipush (v := (7 : Int32)) hx hb d_X_instruction_25 (by decide) ?_
  refine lv_iand hx hb d_X_instruction_27 ?_
  refine lv_istore (lv' := [(5, .int ((a1 >>> ((11 : Int32) &&& 31)) &&& (7 : Int32))), (4, .int ((a1 >>> ((8 : Int32) &&& 31)) &&& (7 : Int32))), (3, .int ((a1 >>> ((5 : Int32) &&& 31)) &&& (7 : Int32))), (2, .int (18 : Int32)), (0, .ref yX), (1, .int a1)]) hx hb d_X_instruction_28 hl (by decide) rfl (fun ls hl => ?_)
  refine lv_iload_n hx hb d_X_instruction_30 rfl (lv_at hl 5 rfl) ?_
  show W p l e _ s m args below meth c _ _ _ _ Q (F0 m 31 ls _)
  refine lv_bipush (v := (16 : Int32)) hx hb d_X_instruction_31 (by decide) ?_
  refine lv_ishr hx hb d_X_instruction_33 ?_
  refine lv_istore (lv' := [(6, .int (a1 >>> ((16 : Int32) &&& 31))), (5, .int ((a1 >>> ((11 : Int32) &&& 31)) &&& (7 : Int32))), (4, .int ((a1 >>> ((8 : Int32) &&& 31)) &&& (7 : Int32))), (3, .int ((a1 >>> ((5 : Int32) &&& 31)) &&& (7 : Int32))), (2, .int (18 : Int32)), (0, .ref yX), (1, .int a1)]) hx hb d_X_instruction_34 hl (by decide) rfl (fun ls hl => ?_)
  refine lv_iload_n hx hb d_X_instruction_36 rfl (lv_at hl 4 rfl) ?_
  refine lv_bipush (v := (25 : Int32)) hx hb d_X_instruction_37 (by decide) ?_
  refine lv_icmp_eq (tgt := 66) hx hb d_X_instruction_39 (by decide) (fun hh => absurd hh (by decide)) (fun _ => ?_)
  refine lv_iload_n hx hb d_X_instruction_42 rfl (lv_at hl 4 rfl) ?_
  refine lv_bipush (v := (26 : Int32)) hx hb d_X_instruction_43 (by decide) ?_
  refine lv_icmp_eq (tgt := 66) hx hb d_X_instruction_45 (by decide) (fun hh => absurd hh (by decide)) (fun _ => ?_)
  refine lv_iload_n hx hb d_X_instruction_48 rfl (lv_at hl 4 rfl) ?_
  refine lv_bipush (v := (28 : Int32)) hx hb d_X_instruction_49 (by decide) ?_
  refine lv_icmp_eq (tgt := 66) hx hb d_X_instruction_51 (by decide) (fun hh => absurd hh (by decide)) (fun _ => ?_)
  refine lv_iload_n hx hb d_X_instruction_54 rfl (lv_at hl 4 rfl) ?_
  refine lv_bipush (v := (29 : Int32)) hx hb d_X_instruction_55 (by decide) ?_
  refine lv_icmp_eq (tgt := 66) hx hb d_X_instruction_57 (by decide) (fun hh => absurd hh (by decide)) (fun _ => ?_)
  refine lv_iload_n hx hb d_X_instruction_60 rfl (lv_at hl 4 rfl) ?_
  refine lv_bipush (v := (31 : Int32)) hx hb d_X_instruction_61 (by decide) ?_
  refine lv_icmp_ne (tgt := 70) hx hb d_X_instruction_63 (by decide) (fun _ => ?_) (fun hh => absurd hh (by decide))
  refine lv_iconst (v := (0 : Int32)) hx hb d_X_instruction_70 (by decide) ?_
  refine lv_istore (lv' := [(7, .int (0 : Int32)), (6, .int (a1 >>> ((16 : Int32) &&& 31))), (5, .int ((a1 >>> ((11 : Int32) &&& 31)) &&& (7 : Int32))), (4, .int ((a1 >>> ((8 : Int32) &&& 31)) &&& (7 : Int32))), (3, .int ((a1 >>> ((5 : Int32) &&& 31)) &&& (7 : Int32))), (2, .int (18 : Int32)), (0, .ref yX), (1, .int a1)]) hx hb d_X_instruction_71 hl (by decide) rfl (fun ls hl => ?_)
  refine lv_iload hx hb d_X_instruction_73 (lv_at hl 0 rfl) ?_
  refine lv_if_eq (tgt := 86) hx hb d_X_instruction_75 (by decide) (fun _ => ?_) (fun hh => absurd hh (by decide))
  refine lv_iload_n hx hb d_X_instruction_86 rfl (lv_at hl 5 rfl) ?_
  refine lv_bipush (v := (30 : Int32)) hx hb d_X_instruction_87 (by decide) ?_
  refine lv_icmp_ne (tgt := 111) hx hb d_X_instruction_89 (by decide) (fun _ => ?_) (fun hh => absurd hh (by decide))
  refine lv_aload_n hx hb d_X_instruction_111 rfl (lv_at hl 6 rfl) ?_
  refine zz_get (C := R_X) (T := F_X) (N := 27) (v := .ref yO) hx hb hts in_X hown hK hP 0 rfl rfl 4 (by decide) mw_68 rfl d_X_instruction_112 ?_
  refine lv_iconst (v := (0 : Int32)) hx hb d_X_instruction_115 (by decide) ?_
  refine va_iald hx hb hK hP 4 0 rfl rfl (zz_inc (by decide)) d_X_instruction_116 ?_
  refine lv_iconst (v := (1 : Int32)) hx hb d_X_instruction_117 (by decide) ?_
  refine lv_iadd hx hb d_X_instruction_118 ?_
  refine lv_istore (lv' := [(8, .int ((v_o (ix (0 : Int32))) + (1 : Int32))), (7, .int (0 : Int32)), (6, .int (a1 >>> ((16 : Int32) &&& 31))), (5, .int ((a1 >>> ((11 : Int32) &&& 31)) &&& (7 : Int32))), (4, .int ((a1 >>> ((8 : Int32) &&& 31)) &&& (7 : Int32))), (3, .int ((a1 >>> ((5 : Int32) &&& 31)) &&& (7 : Int32))), (2, .int (18 : Int32)), (0, .ref yX), (1, .int a1)]) hx hb d_X_instruction_119 hl (by decide) rfl (fun ls hl => ?_)
  refine lv_iload_n hx hb d_X_instruction_121 rfl (lv_at hl 6 rfl) ?_
  refine lv_if_le (tgt := 146) hx hb d_X_instruction_122 (by decide) (fun hh => absurd hh (by decide)) (fun _ => ?_)
  refine lv_iload_n hx hb d_X_instruction_125 rfl (lv_at hl 6 rfl) ?_
  refine lv_bipush (v := (13 : Int32)) hx hb d_X_instruction_126 (by decide) ?_
  refine lv_icmp_ge (tgt := 146) hx hb d_X_instruction_128 (by decide) (fun _ => ?_) (fun hh => absurd hh (by decide))
  refine lv_iload_n hx hb d_X_instruction_146 rfl (lv_at hl 6 rfl) ?_
  refine lv_bipush (v := (12 : Int32)) hx hb d_X_instruction_147 (by decide) ?_
  refine lv_icmp_le (tgt := 171) hx hb d_X_instruction_149 (by decide) (fun hh => absurd hh (by decide)) (fun _ => ?_)
  refine lv_iload_n hx hb d_X_instruction_152 rfl (lv_at hl 6 rfl) ?_
  refine lv_bipush (v := (18 : Int32)) hx hb d_X_instruction_153 (by decide) ?_
  refine lv_icmp_ge (tgt := 171) hx hb d_X_instruction_155 (by decide) (fun _ => ?_) (fun hh => absurd hh (by decide))
  refine lv_iload_n hx hb d_X_instruction_171 rfl (lv_at hl 6 rfl) ?_
  refine lv_bipush (v := (17 : Int32)) hx hb d_X_instruction_172 (by decide) ?_
  refine lv_icmp_le (tgt := 213) hx hb d_X_instruction_174 (by decide) (fun hh => absurd hh (by decide)) (fun _ => ?_)
  refine lv_iload_n hx hb d_X_instruction_177 rfl (lv_at hl 6 rfl) ?_
  refine lv_bipush (v := (21 : Int32)) hx hb d_X_instruction_178 (by decide) ?_
  refine lv_icmp_ge (tgt := 213) hx hb d_X_instruction_180 (by decide) (fun hh => absurd hh (by decide)) (fun _ => ?_)
  refine lv_iload_n hx hb d_X_instruction_183 rfl (lv_at hl 6 rfl) ?_
  refine lv_aload_n hx hb d_X_instruction_184 rfl (lv_at hl 7 rfl) ?_
  refine zz_get (C := R_X) (T := F_X) (N := 27) (v := .ref yO) hx hb hts in_X hown hK hP 0 rfl rfl 4 (by decide) mw_68 rfl d_X_instruction_185 ?_
  refine lv_iconst (v := (0 : Int32)) hx hb d_X_instruction_188 (by decide) ?_
  refine va_iald hx hb hK hP 4 0 rfl rfl (zz_inc (by decide)) d_X_instruction_189 ?_
  refine lv_iload hx hb d_X_instruction_190 (lv_at hl 2 rfl) ?_
  refine lv_aload_n hx hb d_X_instruction_192 rfl (lv_at hl 7 rfl) ?_
  refine zz_get (C := R_X) (T := F_X) (N := 27) (v := .ref yD) hx hb hts in_X hown hK hP 0 rfl rfl 2 (by decide) mw_74 rfl d_X_instruction_193 ?_
  refine lv_iload_n hx hb d_X_instruction_196 rfl (lv_at hl 5 rfl) ?_
  refine va_iald hx hb hK hP 2 0 rfl rfl (zz_in7 _) d_X_instruction_197 ?_
  refine lv_aload_n hx hb d_X_instruction_198 rfl (lv_at hl 7 rfl) ?_
  show W p l e _ s m args below meth c _ _ _ _ Q (F0 m 199 ls _)
  refine zz_get (C := R_X) (T := F_X) (N := 27) (v := .ref yD) hx hb hts in_X hown hK hP 0 rfl rfl 2 (by decide) mw_74 rfl d_X_instruction_199 ?_
  refine lv_iload hx hb d_X_instruction_202 (lv_at hl 4 rfl) ?_
  refine va_iald hx hb hK hP 2 0 rfl rfl (zz_in7 _) d_X_instruction_204 ?_
  refine zz_cS0 (rest := []) ⟨hx, hb, hml, hown, hts⟩ (k_X_jump18 l D cI _ (v_o (ix (0 : Int32))) (a1 >>> ((16 : Int32) &&& 31)) (v_d (ix ((a1 >>> ((5 : Int32) &&& 31)) &&& (7 : Int32)))) (v_d (ix ((a1 >>> ((8 : Int32) &&& 31)) &&& (7 : Int32))))) g_X_instruction_X_jump_119 nd_X_jump ⟨⟨rfl, rfl⟩, Nat.le_of_ble_eq_true rfl, Nat.le_of_ble_eq_true rfl⟩ hK hP hD hS hA rfl rfl hl.1 (Nat.le_of_ble_eq_true rfl) d_X_instruction_205 ⟨Nat.zero_le _, Nat.zero_le _⟩ (fun H locs hP hD hS => ?_)
  refine lv_istore (lv' := [(8, .int (s_X_jump18 (v_o (ix (0 : Int32))) (a1 >>> ((16 : Int32) &&& 31)) (v_d (ix ((a1 >>> ((5 : Int32) &&& 31)) &&& (7 : Int32)))) (v_d (ix ((a1 >>> ((8 : Int32) &&& 31)) &&& (7 : Int32)))))), (7, .int (0 : Int32)), (6, .int (a1 >>> ((16 : Int32) &&& 31))), (5, .int ((a1 >>> ((11 : Int32) &&& 31)) &&& (7 : Int32))), (4, .int ((a1 >>> ((8 : Int32) &&& 31)) &&& (7 : Int32))), (3, .int ((a1 >>> ((5 : Int32) &&& 31)) &&& (7 : Int32))), (2, .int (18 : Int32)), (0, .ref yX), (1, .int a1)]) hx hb d_X_instruction_208 hl (by decide) rfl (fun ls hl => ?_)
  refine lv_goto (tgt := 244) hx hb d_X_instruction_210 (by decide) ?_
  refine lv_aload_n hx hb d_X_instruction_244 rfl (lv_at hl 7 rfl) ?_
  refine zz_get (C := R_X) (T := F_X) (N := 27) (v := .ref yO) hx hb hts in_X hown hK hP 0 rfl rfl 4 (by decide) mw_68 rfl d_X_instruction_245 ?_
  refine lv_iconst (v := (0 : Int32)) hx hb d_X_instruction_248 (by decide) ?_
  refine lv_aload_n hx hb d_X_instruction_249 rfl (lv_at hl 7 rfl) ?_
  refine zz_get (C := R_X) (T := F_X) (N := 27) (v := .int (v_x 19)) hx hb hts in_X hown hK hP 0 rfl rfl 26 (by decide) mw_79 rfl d_X_instruction_250 ?_
  have J253_2 : ∀ (vj253_0 : Int32) (ls : Array Slot) (H : Heap) (locs : List Loc), vj253_0 = (if (v_x 19) = 0 then (if (v_x 7) = 0 then (v_o (ix (0 : Int32))) else (s_X_jump18 (v_o (ix (0 : Int32))) (a1 >>> ((16 : Int32) &&& 31)) (v_d (ix ((a1 >>> ((5 : Int32) &&& 31)) &&& (7 : Int32)))) (v_d (ix ((a1 >>> ((8 : Int32) &&& 31)) &&& (7 : Int32)))))) else (v_o (ix (0 : Int32)))) → lv_has ls 9 [(8, .int (s_X_jump18 (v_o (ix (0 : Int32))) (a1 >>> ((16 : Int32) &&& 31)) (v_d (ix ((a1 >>> ((5 : Int32) &&& 31)) &&& (7 : Int32)))) (v_d (ix ((a1 >>> ((8 : Int32) &&& 31)) &&& (7 : Int32)))))), (7, .int (0 : Int32)), (6, .int (a1 >>> ((16 : Int32) &&& 31))), (5, .int ((a1 >>> ((11 : Int32) &&& 31)) &&& (7 : Int32))), (4, .int ((a1 >>> ((8 : Int32) &&& 31)) &&& (7 : Int32))), (3, .int ((a1 >>> ((5 : Int32) &&& 31)) &&& (7 : Int32))), (2, .int (18 : Int32)), (0, .ref yX), (1, .int a1)] → va_P D classes [oX yX yM yD yA yO yL yH yI v_x, ar cI yM 512 v_M, ar cI yD 8 v_d, ar cI yA 8 v_a, ar cI yO 4 v_o, ar cI yL 6 v_lo, ar cI yH 6 v_hi, ar cI yI 6 v_ri] H → va_D A [oX yX yM yD yA yO yL yH yI v_x, ar cI yM 512 v_M, ar cI yD 8 v_d, ar cI yA 8 v_a, ar cI yO 4 v_o, ar cI yL 6 v_lo, ar cI yH 6 v_hi, ar cI yI 6 v_ri] → va_S A s.heap H locs → W p l e { frames := 4, cells := 0, slots := 0, locals := 100 } s m args below meth c H locs 0 0 Q (F0 m 274 ls [.int vj253_0, .int (0 : Int32), .ref yO]) := by
    intro vj253_0 ls H locs evj253_0 hl hP hD hS
    subst evj253_0
    refine zz_iast (w' := [oX yX yM yD yA yO yL yH yI v_x, ar cI yM 512 v_M, ar cI yD 8 v_d, ar cI yA 8 v_a, ar cI yO 4 (upd v_o (ix (0 : Int32)) (if (v_x 19) = 0 then (if (v_x 7) = 0 then (v_o (ix (0 : Int32))) else (s_X_jump18 (v_o (ix (0 : Int32))) (a1 >>> ((16 : Int32) &&& 31)) (v_d (ix ((a1 >>> ((5 : Int32) &&& 31)) &&& (7 : Int32)))) (v_d (ix ((a1 >>> ((8 : Int32) &&& 31)) &&& (7 : Int32)))))) else (v_o (ix (0 : Int32))))), ar cI yL 6 v_lo, ar cI yH 6 v_hi, ar cI yI 6 v_ri]) hx hb hK hP hD hS 4 0 rfl rfl (zz_inc (by decide)) d_X_instruction_274 rfl (fun H locs hP hD hS => ?_)
    have hsp : s_X_instr18 v_x v_M v_d v_a v_o v_lo v_hi v_ri a1 = (upd v_o (ix (0 : Int32)) (if (v_x 19) = 0 then (if (v_x 7) = 0 then (v_o (ix (0 : Int32))) else (s_X_jump18 (v_o (ix (0 : Int32))) (a1 >>> ((16 : Int32) &&& 31)) (v_d (ix ((a1 >>> ((5 : Int32) &&& 31)) &&& (7 : Int32)))) (v_d (ix ((a1 >>> ((8 : Int32) &&& 31)) &&& (7 : Int32)))))) else (v_o (ix (0 : Int32))))) := rfl
    rw [hsp] at hE
    exact hE _ _ _ _ hP hD hS d_X_instruction_275
  refine lv_if_ne (tgt := 268) hx hb d_X_instruction_253 (by decide) (fun h1 => ?_) (fun h1 => ?_)
  ·
    refine lv_aload_n hx hb d_X_instruction_268 rfl (lv_at hl 7 rfl) ?_
    refine zz_get (C := R_X) (T := F_X) (N := 27) (v := .ref yO) hx hb hts in_X hown hK hP 0 rfl rfl 4 (by decide) mw_68 rfl d_X_instruction_269 ?_
    refine lv_iconst (v := (0 : Int32)) hx hb d_X_instruction_272 (by decide) ?_
    refine va_iald hx hb hK hP 4 0 rfl rfl (zz_inc (by decide)) d_X_instruction_273 ?_
    exact J253_2 (v_o (ix (0 : Int32))) _ _ _ (by rw [if_neg h1]) (lv_sub hl [0, 1, 2, 3, 4, 5, 6, 7, 8] rfl) hP hD hS
  ·
    refine lv_aload_n hx hb d_X_instruction_256 rfl (lv_at hl 7 rfl) ?_
    refine zz_get (C := R_X) (T := F_X) (N := 27) (v := .int (v_x 7)) hx hb hts in_X hown hK hP 0 rfl rfl 11 (by decide) mw_78 rfl d_X_instruction_257 ?_
    refine lv_if_eq (tgt := 268) hx hb d_X_instruction_260 (by decide) (fun h2 => ?_) (fun h2 => ?_)
    ·
      refine lv_aload_n hx hb d_X_instruction_268 rfl (lv_at hl 7 rfl) ?_
      refine zz_get (C := R_X) (T := F_X) (N := 27) (v := .ref yO) hx hb hts in_X hown hK hP 0 rfl rfl 4 (by decide) mw_68 rfl d_X_instruction_269 ?_
      refine lv_iconst (v := (0 : Int32)) hx hb d_X_instruction_272 (by decide) ?_
      refine va_iald hx hb hK hP 4 0 rfl rfl (zz_inc (by decide)) d_X_instruction_273 ?_
      exact J253_2 (v_o (ix (0 : Int32))) _ _ _ (by rw [if_pos h1, if_pos h2]) (lv_sub hl [0, 1, 2, 3, 4, 5, 6, 7, 8] rfl) hP hD hS
    ·
      refine lv_iload hx hb d_X_instruction_263 (lv_at hl 0 rfl) ?_
      refine lv_goto (tgt := 274) hx hb d_X_instruction_265 (by decide) ?_
      exact J253_2 (s_X_jump18 (v_o (ix (0 : Int32))) (a1 >>> ((16 : Int32) &&& 31)) (v_d (ix ((a1 >>> ((5 : Int32) &&& 31)) &&& (7 : Int32)))) (v_d (ix ((a1 >>> ((8 : Int32) &&& 31)) &&& (7 : Int32))))) _ _ _ (by rw [if_pos h1, if_neg h2]) (lv_sub hl [0, 1, 2, 3, 4, 5, 6, 7, 8] rfl) hP hD hS
set_option maxHeartbeats 4000000 in
set_option maxRecDepth 100000 in
theorem k_X_instr19 (l : Launch) (D : va_G) (cI : ClassId) (sz : Nat) (yX : Nat) (yM : Nat) (yD : Nat) (yA : Nat) (yO : Nat) (yL : Nat) (yH : Nat) (yI : Nat) (v_x : Nat → Int32) (v_M : Nat → Int32) (v_d : Nat → Int32) (v_a : Nat → Int32) (v_o : Nat → Int32) (v_lo : Nat → Int32) (v_hi : Nat → Int32) (v_ri : Nat → Int32) (a1 : Int32) (hop : (a1 &&& (31 : Int32)) = (19 : Int32)) : zMv l y_X_instruction (.code y_X_instruction b_X_instruction 9 (none) :: wd) { frames := 4, cells := 0, slots := 0, locals := 100 } D classes [(cI, .int)] [.ref yX, .int a1] [oX yX yM yD yA yO yL yH yI v_x, ar cI yM 512 v_M, ar cI yD 8 v_d, ar cI yA 8 v_a, ar cI yO 4 v_o, ar cI yL 6 v_lo, ar cI yH 6 v_hi, ar cI yI 6 v_ri] [oX yX yM yD yA yO yL yH yI v_x, ar cI yM 512 v_M, ar cI yD 8 v_d, ar cI yA 8 v_a, ar cI yO 4 (s_X_instr19 v_x v_M v_d v_a v_o v_lo v_hi v_ri a1), ar cI yL 6 v_lo, ar cI yH 6 v_hi, ar cI yI 6 v_ri] sz := by
  refine met_v (by decide) (Nat.le_of_ble_eq_true rfl) ?_
  intro p e s m args below meth c A Q ls hx hb hml hown hts hK hP hD hS hA hl hE
  have hl : lv_has ls 9 [(0, .ref yX), (1, .int a1)] := hl
  have hown : s.vm.findClass R_X = some m.cls := hown
  refine lv_iload_n hx hb d_X_instruction_0 rfl (lv_at hl 1 rfl) ?_
  refine lv_bipush (v := (31 : Int32)) hx hb d_X_instruction_1 (by decide) ?_
  refine lv_iand hx hb d_X_instruction_3 ?_
  refine lv_topi (fun zz ez => ?_)
  obtain rfl : zz = (19 : Int32) := ez.trans hop
  refine lv_istore_n (lv' := [(2, .int (19 : Int32)), (0, .ref yX), (1, .int a1)]) hx hb d_X_instruction_4 rfl hl (by decide) rfl (fun ls hl => ?_)
  refine lv_iload_n hx hb d_X_instruction_5 rfl (lv_at hl 2 rfl) ?_
  refine lv_iconst (v := (5 : Int32)) hx hb d_X_instruction_6 (by decide) ?_
  refine lv_ishr hx hb d_X_instruction_7 ?_
  refine lv_bipush (v := (7 : Int32)) hx hb d_X_instruction_8 (by decide) ?_
  refine lv_iand hx hb d_X_instruction_10 ?_
  refine lv_istore_n (lv' := [(3, .int ((a1 >>> ((5 : Int32) &&& 31)) &&& (7 : Int32))), (2, .int (19 : Int32)), (0, .ref yX), (1, .int a1)]) hx hb d_X_instruction_11 rfl hl (by decide) rfl (fun ls hl => ?_)
  refine lv_iload_n hx hb d_X_instruction_12 rfl (lv_at hl 3 rfl) ?_
  show W p l e _ s m args below meth c _ _ _ _ Q (F0 m 13 ls _)
  refine lv_bipush (v := (8 : Int32)) hx hb d_X_instruction_13 (by decide) ?_
  refine lv_ishr hx hb d_X_instruction_15 ?_
  refine lv_bipush (v := (7 : Int32)) hx hb d_X_instruction_16 (by decide) ?_
  refine lv_iand hx hb d_X_instruction_18 ?_
  refine lv_istore (lv' := [(4, .int ((a1 >>> ((8 : Int32) &&& 31)) &&& (7 : Int32))), (3, .int ((a1 >>> ((5 : Int32) &&& 31)) &&& (7 : Int32))), (2, .int (19 : Int32)), (0, .ref yX), (1, .int a1)]) hx hb d_X_instruction_19 hl (by decide) rfl (fun ls hl => ?_)
  refine lv_iload_n hx hb d_X_instruction_21 rfl (lv_at hl 4 rfl) ?_
  refine lv_bipush (v := (11 : Int32)) hx hb d_X_instruction_22 (by decide) ?_
  refine lv_ishr hx hb d_X_instruction_24 ?_
  refine lv_bipush (v := (7 : Int32)) hx hb d_X_instruction_25 (by decide) ?_
  refine lv_iand hx hb d_X_instruction_27 ?_
  refine lv_istore (lv' := [(5, .int ((a1 >>> ((11 : Int32) &&& 31)) &&& (7 : Int32))), (4, .int ((a1 >>> ((8 : Int32) &&& 31)) &&& (7 : Int32))), (3, .int ((a1 >>> ((5 : Int32) &&& 31)) &&& (7 : Int32))), (2, .int (19 : Int32)), (0, .ref yX), (1, .int a1)]) hx hb d_X_instruction_28 hl (by decide) rfl (fun ls hl => ?_)
  refine lv_iload_n hx hb d_X_instruction_30 rfl (lv_at hl 5 rfl) ?_
  show W p l e _ s m args below meth c _ _ _ _ Q (F0 m 31 ls _)
  refine lv_bipush (v := (16 : Int32)) hx hb d_X_instruction_31 (by decide) ?_
  refine lv_ishr hx hb d_X_instruction_33 ?_
  refine lv_istore (lv' := [(6, .int (a1 >>> ((16 : Int32) &&& 31))), (5, .int ((a1 >>> ((11 : Int32) &&& 31)) &&& (7 : Int32))), (4, .int ((a1 >>> ((8 : Int32) &&& 31)) &&& (7 : Int32))), (3, .int ((a1 >>> ((5 : Int32) &&& 31)) &&& (7 : Int32))), (2, .int (19 : Int32)), (0, .ref yX), (1, .int a1)]) hx hb d_X_instruction_34 hl (by decide) rfl (fun ls hl => ?_)
  refine lv_iload_n hx hb d_X_instruction_36 rfl (lv_at hl 4 rfl) ?_
  refine lv_bipush (v := (25 : Int32)) hx hb d_X_instruction_37 (by decide) ?_
  refine lv_icmp_eq (tgt := 66) hx hb d_X_instruction_39 (by decide) (fun hh => absurd hh (by decide)) (fun _ => ?_)
  refine lv_iload_n hx hb d_X_instruction_42 rfl (lv_at hl 4 rfl) ?_
  refine lv_bipush (v := (26 : Int32)) hx hb d_X_instruction_43 (by decide) ?_
  refine lv_icmp_eq (tgt := 66) hx hb d_X_instruction_45 (by decide) (fun hh => absurd hh (by decide)) (fun _ => ?_)
  refine lv_iload_n hx hb d_X_instruction_48 rfl (lv_at hl 4 rfl) ?_
  refine lv_bipush (v := (28 : Int32)) hx hb d_X_instruction_49 (by decide) ?_
  refine lv_icmp_eq (tgt := 66) hx hb d_X_instruction_51 (by decide) (fun hh => absurd hh (by decide)) (fun _ => ?_)
  refine lv_iload_n hx hb d_X_instruction_54 rfl (lv_at hl 4 rfl) ?_
  refine lv_bipush (v := (29 : Int32)) hx hb d_X_instruction_55 (by decide) ?_
  refine lv_icmp_eq (tgt := 66) hx hb d_X_instruction_57 (by decide) (fun hh => absurd hh (by decide)) (fun _ => ?_)
  refine lv_iload_n hx hb d_X_instruction_60 rfl (lv_at hl 4 rfl) ?_
  refine lv_bipush (v := (31 : Int32)) hx hb d_X_instruction_61 (by decide) ?_
  refine lv_icmp_ne (tgt := 70) hx hb d_X_instruction_63 (by decide) (fun _ => ?_) (fun hh => absurd hh (by decide))
  refine lv_iconst (v := (0 : Int32)) hx hb d_X_instruction_70 (by decide) ?_
  refine lv_istore (lv' := [(7, .int (0 : Int32)), (6, .int (a1 >>> ((16 : Int32) &&& 31))), (5, .int ((a1 >>> ((11 : Int32) &&& 31)) &&& (7 : Int32))), (4, .int ((a1 >>> ((8 : Int32) &&& 31)) &&& (7 : Int32))), (3, .int ((a1 >>> ((5 : Int32) &&& 31)) &&& (7 : Int32))), (2, .int (19 : Int32)), (0, .ref yX), (1, .int a1)]) hx hb d_X_instruction_71 hl (by decide) rfl (fun ls hl => ?_)
  refine lv_iload hx hb d_X_instruction_73 (lv_at hl 0 rfl) ?_
  refine lv_if_eq (tgt := 86) hx hb d_X_instruction_75 (by decide) (fun _ => ?_) (fun hh => absurd hh (by decide))
  refine lv_iload_n hx hb d_X_instruction_86 rfl (lv_at hl 5 rfl) ?_
  refine lv_bipush (v := (30 : Int32)) hx hb d_X_instruction_87 (by decide) ?_
  refine lv_icmp_ne (tgt := 111) hx hb d_X_instruction_89 (by decide) (fun _ => ?_) (fun hh => absurd hh (by decide))
  refine lv_aload_n hx hb d_X_instruction_111 rfl (lv_at hl 6 rfl) ?_
  refine zz_get (C := R_X) (T := F_X) (N := 27) (v := .ref yO) hx hb hts in_X hown hK hP 0 rfl rfl 4 (by decide) mw_68 rfl d_X_instruction_112 ?_
  refine lv_iconst (v := (0 : Int32)) hx hb d_X_instruction_115 (by decide) ?_
  refine va_iald hx hb hK hP 4 0 rfl rfl (zz_inc (by decide)) d_X_instruction_116 ?_
  refine lv_iconst (v := (1 : Int32)) hx hb d_X_instruction_117 (by decide) ?_
  refine lv_iadd hx hb d_X_instruction_118 ?_
  refine lv_istore (lv' := [(8, .int ((v_o (ix (0 : Int32))) + (1 : Int32))), (7, .int (0 : Int32)), (6, .int (a1 >>> ((16 : Int32) &&& 31))), (5, .int ((a1 >>> ((11 : Int32) &&& 31)) &&& (7 : Int32))), (4, .int ((a1 >>> ((8 : Int32) &&& 31)) &&& (7 : Int32))), (3, .int ((a1 >>> ((5 : Int32) &&& 31)) &&& (7 : Int32))), (2, .int (19 : Int32)), (0, .ref yX), (1, .int a1)]) hx hb d_X_instruction_119 hl (by decide) rfl (fun ls hl => ?_)
  refine lv_iload_n hx hb d_X_instruction_121 rfl (lv_at hl 6 rfl) ?_
  refine lv_if_le (tgt := 146) hx hb d_X_instruction_122 (by decide) (fun hh => absurd hh (by decide)) (fun _ => ?_)
  refine lv_iload_n hx hb d_X_instruction_125 rfl (lv_at hl 6 rfl) ?_
  refine lv_bipush (v := (13 : Int32)) hx hb d_X_instruction_126 (by decide) ?_
  refine lv_icmp_ge (tgt := 146) hx hb d_X_instruction_128 (by decide) (fun _ => ?_) (fun hh => absurd hh (by decide))
  refine lv_iload_n hx hb d_X_instruction_146 rfl (lv_at hl 6 rfl) ?_
  refine lv_bipush (v := (12 : Int32)) hx hb d_X_instruction_147 (by decide) ?_
  refine lv_icmp_le (tgt := 171) hx hb d_X_instruction_149 (by decide) (fun hh => absurd hh (by decide)) (fun _ => ?_)
  refine lv_iload_n hx hb d_X_instruction_152 rfl (lv_at hl 6 rfl) ?_
  refine lv_bipush (v := (18 : Int32)) hx hb d_X_instruction_153 (by decide) ?_
  refine lv_icmp_ge (tgt := 171) hx hb d_X_instruction_155 (by decide) (fun _ => ?_) (fun hh => absurd hh (by decide))
  refine lv_iload_n hx hb d_X_instruction_171 rfl (lv_at hl 6 rfl) ?_
  refine lv_bipush (v := (17 : Int32)) hx hb d_X_instruction_172 (by decide) ?_
  refine lv_icmp_le (tgt := 213) hx hb d_X_instruction_174 (by decide) (fun hh => absurd hh (by decide)) (fun _ => ?_)
  refine lv_iload_n hx hb d_X_instruction_177 rfl (lv_at hl 6 rfl) ?_
  refine lv_bipush (v := (21 : Int32)) hx hb d_X_instruction_178 (by decide) ?_
  refine lv_icmp_ge (tgt := 213) hx hb d_X_instruction_180 (by decide) (fun hh => absurd hh (by decide)) (fun _ => ?_)
  refine lv_iload_n hx hb d_X_instruction_183 rfl (lv_at hl 6 rfl) ?_
  refine lv_aload_n hx hb d_X_instruction_184 rfl (lv_at hl 7 rfl) ?_
  refine zz_get (C := R_X) (T := F_X) (N := 27) (v := .ref yO) hx hb hts in_X hown hK hP 0 rfl rfl 4 (by decide) mw_68 rfl d_X_instruction_185 ?_
  refine lv_iconst (v := (0 : Int32)) hx hb d_X_instruction_188 (by decide) ?_
  refine va_iald hx hb hK hP 4 0 rfl rfl (zz_inc (by decide)) d_X_instruction_189 ?_
  refine lv_iload hx hb d_X_instruction_190 (lv_at hl 2 rfl) ?_
  refine lv_aload_n hx hb d_X_instruction_192 rfl (lv_at hl 7 rfl) ?_
  refine zz_get (C := R_X) (T := F_X) (N := 27) (v := .ref yD) hx hb hts in_X hown hK hP 0 rfl rfl 2 (by decide) mw_74 rfl d_X_instruction_193 ?_
  refine lv_iload_n hx hb d_X_instruction_196 rfl (lv_at hl 5 rfl) ?_
  refine va_iald hx hb hK hP 2 0 rfl rfl (zz_in7 _) d_X_instruction_197 ?_
  refine lv_aload_n hx hb d_X_instruction_198 rfl (lv_at hl 7 rfl) ?_
  show W p l e _ s m args below meth c _ _ _ _ Q (F0 m 199 ls _)
  refine zz_get (C := R_X) (T := F_X) (N := 27) (v := .ref yD) hx hb hts in_X hown hK hP 0 rfl rfl 2 (by decide) mw_74 rfl d_X_instruction_199 ?_
  refine lv_iload hx hb d_X_instruction_202 (lv_at hl 4 rfl) ?_
  refine va_iald hx hb hK hP 2 0 rfl rfl (zz_in7 _) d_X_instruction_204 ?_
  refine zz_cS0 (rest := []) ⟨hx, hb, hml, hown, hts⟩ (k_X_jump19 l D cI _ (v_o (ix (0 : Int32))) (a1 >>> ((16 : Int32) &&& 31)) (v_d (ix ((a1 >>> ((5 : Int32) &&& 31)) &&& (7 : Int32)))) (v_d (ix ((a1 >>> ((8 : Int32) &&& 31)) &&& (7 : Int32))))) g_X_instruction_X_jump_119 nd_X_jump ⟨⟨rfl, rfl⟩, Nat.le_of_ble_eq_true rfl, Nat.le_of_ble_eq_true rfl⟩ hK hP hD hS hA rfl rfl hl.1 (Nat.le_of_ble_eq_true rfl) d_X_instruction_205 ⟨Nat.zero_le _, Nat.zero_le _⟩ (fun H locs hP hD hS => ?_)
  refine lv_istore (lv' := [(8, .int (s_X_jump19 (v_o (ix (0 : Int32))) (a1 >>> ((16 : Int32) &&& 31)) (v_d (ix ((a1 >>> ((5 : Int32) &&& 31)) &&& (7 : Int32)))) (v_d (ix ((a1 >>> ((8 : Int32) &&& 31)) &&& (7 : Int32)))))), (7, .int (0 : Int32)), (6, .int (a1 >>> ((16 : Int32) &&& 31))), (5, .int ((a1 >>> ((11 : Int32) &&& 31)) &&& (7 : Int32))), (4, .int ((a1 >>> ((8 : Int32) &&& 31)) &&& (7 : Int32))), (3, .int ((a1 >>> ((5 : Int32) &&& 31)) &&& (7 : Int32))), (2, .int (19 : Int32)), (0, .ref yX), (1, .int a1)]) hx hb d_X_instruction_208 hl (by decide) rfl (fun ls hl => ?_)
  refine lv_goto (tgt := 244) hx hb d_X_instruction_210 (by decide) ?_
  refine lv_aload_n hx hb d_X_instruction_244 rfl (lv_at hl 7 rfl) ?_
  refine zz_get (C := R_X) (T := F_X) (N := 27) (v := .ref yO) hx hb hts in_X hown hK hP 0 rfl rfl 4 (by decide) mw_68 rfl d_X_instruction_245 ?_
  refine lv_iconst (v := (0 : Int32)) hx hb d_X_instruction_248 (by decide) ?_
  refine lv_aload_n hx hb d_X_instruction_249 rfl (lv_at hl 7 rfl) ?_
  refine zz_get (C := R_X) (T := F_X) (N := 27) (v := .int (v_x 19)) hx hb hts in_X hown hK hP 0 rfl rfl 26 (by decide) mw_79 rfl d_X_instruction_250 ?_
  have J253_2 : ∀ (vj253_0 : Int32) (ls : Array Slot) (H : Heap) (locs : List Loc), vj253_0 = (if (v_x 19) = 0 then (if (v_x 7) = 0 then (v_o (ix (0 : Int32))) else (s_X_jump19 (v_o (ix (0 : Int32))) (a1 >>> ((16 : Int32) &&& 31)) (v_d (ix ((a1 >>> ((5 : Int32) &&& 31)) &&& (7 : Int32)))) (v_d (ix ((a1 >>> ((8 : Int32) &&& 31)) &&& (7 : Int32)))))) else (v_o (ix (0 : Int32)))) → lv_has ls 9 [(8, .int (s_X_jump19 (v_o (ix (0 : Int32))) (a1 >>> ((16 : Int32) &&& 31)) (v_d (ix ((a1 >>> ((5 : Int32) &&& 31)) &&& (7 : Int32)))) (v_d (ix ((a1 >>> ((8 : Int32) &&& 31)) &&& (7 : Int32)))))), (7, .int (0 : Int32)), (6, .int (a1 >>> ((16 : Int32) &&& 31))), (5, .int ((a1 >>> ((11 : Int32) &&& 31)) &&& (7 : Int32))), (4, .int ((a1 >>> ((8 : Int32) &&& 31)) &&& (7 : Int32))), (3, .int ((a1 >>> ((5 : Int32) &&& 31)) &&& (7 : Int32))), (2, .int (19 : Int32)), (0, .ref yX), (1, .int a1)] → va_P D classes [oX yX yM yD yA yO yL yH yI v_x, ar cI yM 512 v_M, ar cI yD 8 v_d, ar cI yA 8 v_a, ar cI yO 4 v_o, ar cI yL 6 v_lo, ar cI yH 6 v_hi, ar cI yI 6 v_ri] H → va_D A [oX yX yM yD yA yO yL yH yI v_x, ar cI yM 512 v_M, ar cI yD 8 v_d, ar cI yA 8 v_a, ar cI yO 4 v_o, ar cI yL 6 v_lo, ar cI yH 6 v_hi, ar cI yI 6 v_ri] → va_S A s.heap H locs → W p l e { frames := 4, cells := 0, slots := 0, locals := 100 } s m args below meth c H locs 0 0 Q (F0 m 274 ls [.int vj253_0, .int (0 : Int32), .ref yO]) := by
    intro vj253_0 ls H locs evj253_0 hl hP hD hS
    subst evj253_0
    refine zz_iast (w' := [oX yX yM yD yA yO yL yH yI v_x, ar cI yM 512 v_M, ar cI yD 8 v_d, ar cI yA 8 v_a, ar cI yO 4 (upd v_o (ix (0 : Int32)) (if (v_x 19) = 0 then (if (v_x 7) = 0 then (v_o (ix (0 : Int32))) else (s_X_jump19 (v_o (ix (0 : Int32))) (a1 >>> ((16 : Int32) &&& 31)) (v_d (ix ((a1 >>> ((5 : Int32) &&& 31)) &&& (7 : Int32)))) (v_d (ix ((a1 >>> ((8 : Int32) &&& 31)) &&& (7 : Int32)))))) else (v_o (ix (0 : Int32))))), ar cI yL 6 v_lo, ar cI yH 6 v_hi, ar cI yI 6 v_ri]) hx hb hK hP hD hS 4 0 rfl rfl (zz_inc (by decide)) d_X_instruction_274 rfl (fun H locs hP hD hS => ?_)
    have hsp : s_X_instr19 v_x v_M v_d v_a v_o v_lo v_hi v_ri a1 = (upd v_o (ix (0 : Int32)) (if (v_x 19) = 0 then (if (v_x 7) = 0 then (v_o (ix (0 : Int32))) else (s_X_jump19 (v_o (ix (0 : Int32))) (a1 >>> ((16 : Int32) &&& 31)) (v_d (ix ((a1 >>> ((5 : Int32) &&& 31)) &&& (7 : Int32)))) (v_d (ix ((a1 >>> ((8 : Int32) &&& 31)) &&& (7 : Int32)))))) else (v_o (ix (0 : Int32))))) := rfl
    rw [hsp] at hE
    exact hE _ _ _ _ hP hD hS d_X_instruction_275
  refine lv_if_ne (tgt := 268) hx hb d_X_instruction_253 (by decide) (fun h1 => ?_) (fun h1 => ?_)
  ·
    refine lv_aload_n hx hb d_X_instruction_268 rfl (lv_at hl 7 rfl) ?_
    refine zz_get (C := R_X) (T := F_X) (N := 27) (v := .ref yO) hx hb hts in_X hown hK hP 0 rfl rfl 4 (by decide) mw_68 rfl d_X_instruction_269 ?_
    refine lv_iconst (v := (0 : Int32)) hx hb d_X_instruction_272 (by decide) ?_
    refine va_iald hx hb hK hP 4 0 rfl rfl (zz_inc (by decide)) d_X_instruction_273 ?_
    exact J253_2 (v_o (ix (0 : Int32))) _ _ _ (by rw [if_neg h1]) (lv_sub hl [0, 1, 2, 3, 4, 5, 6, 7, 8] rfl) hP hD hS
  ·
    refine lv_aload_n hx hb d_X_instruction_256 rfl (lv_at hl 7 rfl) ?_
    refine zz_get (C := R_X) (T := F_X) (N := 27) (v := .int (v_x 7)) hx hb hts in_X hown hK hP 0 rfl rfl 11 (by decide) mw_78 rfl d_X_instruction_257 ?_
    refine lv_if_eq (tgt := 268) hx hb d_X_instruction_260 (by decide) (fun h2 => ?_) (fun h2 => ?_)
    ·
      refine lv_aload_n hx hb d_X_instruction_268 rfl (lv_at hl 7 rfl) ?_
      refine zz_get (C := R_X) (T := F_X) (N := 27) (v := .ref yO) hx hb hts in_X hown hK hP 0 rfl rfl 4 (by decide) mw_68 rfl d_X_instruction_269 ?_
      refine lv_iconst (v := (0 : Int32)) hx hb d_X_instruction_272 (by decide) ?_
      refine va_iald hx hb hK hP 4 0 rfl rfl (zz_inc (by decide)) d_X_instruction_273 ?_
      exact J253_2 (v_o (ix (0 : Int32))) _ _ _ (by rw [if_pos h1, if_pos h2]) (lv_sub hl [0, 1, 2, 3, 4, 5, 6, 7, 8] rfl) hP hD hS
    ·
      refine lv_iload hx hb d_X_instruction_263 (lv_at hl 0 rfl) ?_
      refine lv_goto (tgt := 274) hx hb d_X_instruction_265 (by decide) ?_
      exact J253_2 (s_X_jump19 (v_o (ix (0 : Int32))) (a1 >>> ((16 : Int32) &&& 31)) (v_d (ix ((a1 >>> ((5 : Int32) &&& 31)) &&& (7 : Int32)))) (v_d (ix ((a1 >>> ((8 : Int32) &&& 31)) &&& (7 : Int32))))) _ _ _ (by rw [if_pos h1, if_neg h2]) (lv_sub hl [0, 1, 2, 3, 4, 5, 6, 7, 8] rfl) hP hD hS
set_option maxHeartbeats 4000000 in
set_option maxRecDepth 100000 in
theorem k_X_instr20 (l : Launch) (D : va_G) (cI : ClassId) (sz : Nat) (yX : Nat) (yM : Nat) (yD : Nat) (yA : Nat) (yO : Nat) (yL : Nat) (yH : Nat) (yI : Nat) (v_x : Nat → Int32) (v_M : Nat → Int32) (v_d : Nat → Int32) (v_a : Nat → Int32) (v_o : Nat → Int32) (v_lo : Nat → Int32) (v_hi : Nat → Int32) (v_ri : Nat → Int32) (a1 : Int32) (hop : (a1 &&& (31 : Int32)) = (20 : Int32)) : zMv l y_X_instruction (.code y_X_instruction b_X_instruction 9 (none) :: wd) { frames := 4, cells := 0, slots := 0, locals := 100 } D classes [(cI, .int)] [.ref yX, .int a1] [oX yX yM yD yA yO yL yH yI v_x, ar cI yM 512 v_M, ar cI yD 8 v_d, ar cI yA 8 v_a, ar cI yO 4 v_o, ar cI yL 6 v_lo, ar cI yH 6 v_hi, ar cI yI 6 v_ri] [oX yX yM yD yA yO yL yH yI v_x, ar cI yM 512 v_M, ar cI yD 8 v_d, ar cI yA 8 v_a, ar cI yO 4 (s_X_instr20 v_x v_M v_d v_a v_o v_lo v_hi v_ri a1), ar cI yL 6 v_lo, ar cI yH 6 v_hi, ar cI yI 6 v_ri] sz := by
  refine met_v (by decide) (Nat.le_of_ble_eq_true rfl) ?_
  intro p e s m args below meth c A Q ls hx hb hml hown hts hK hP hD hS hA hl hE
  have hl : lv_has ls 9 [(0, .ref yX), (1, .int a1)] := hl
  have hown : s.vm.findClass R_X = some m.cls := hown
  refine lv_iload_n hx hb d_X_instruction_0 rfl (lv_at hl 1 rfl) ?_
  refine lv_bipush (v := (31 : Int32)) hx hb d_X_instruction_1 (by decide) ?_
  refine lv_iand hx hb d_X_instruction_3 ?_
  refine lv_topi (fun zz ez => ?_)
  obtain rfl : zz = (20 : Int32) := ez.trans hop
  refine lv_istore_n (lv' := [(2, .int (20 : Int32)), (0, .ref yX), (1, .int a1)]) hx hb d_X_instruction_4 rfl hl (by decide) rfl (fun ls hl => ?_)
  refine lv_iload_n hx hb d_X_instruction_5 rfl (lv_at hl 2 rfl) ?_
  refine lv_iconst (v := (5 : Int32)) hx hb d_X_instruction_6 (by decide) ?_
  refine lv_ishr hx hb d_X_instruction_7 ?_
  refine lv_bipush (v := (7 : Int32)) hx hb d_X_instruction_8 (by decide) ?_
  refine lv_iand hx hb d_X_instruction_10 ?_
  refine lv_istore_n (lv' := [(3, .int ((a1 >>> ((5 : Int32) &&& 31)) &&& (7 : Int32))), (2, .int (20 : Int32)), (0, .ref yX), (1, .int a1)]) hx hb d_X_instruction_11 rfl hl (by decide) rfl (fun ls hl => ?_)
  refine lv_iload_n hx hb d_X_instruction_12 rfl (lv_at hl 3 rfl) ?_
  show W p l e _ s m args below meth c _ _ _ _ Q (F0 m 13 ls _)
  refine lv_bipush (v := (8 : Int32)) hx hb d_X_instruction_13 (by decide) ?_
  refine lv_ishr hx hb d_X_instruction_15 ?_
  refine lv_bipush (v := (7 : Int32)) hx hb d_X_instruction_16 (by decide) ?_
  refine lv_iand hx hb d_X_instruction_18 ?_
  refine lv_istore (lv' := [(4, .int ((a1 >>> ((8 : Int32) &&& 31)) &&& (7 : Int32))), (3, .int ((a1 >>> ((5 : Int32) &&& 31)) &&& (7 : Int32))), (2, .int (20 : Int32)), (0, .ref yX), (1, .int a1)]) hx hb d_X_instruction_19 hl (by decide) rfl (fun ls hl => ?_)
  refine lv_iload_n hx hb d_X_instruction_21 rfl (lv_at hl 4 rfl) ?_
  refine lv_bipush (v := (11 : Int32)) hx hb d_X_instruction_22 (by decide) ?_
  refine lv_ishr hx hb d_X_instruction_24 ?_
  refine lv_bipush (v := (7 : Int32)) hx hb d_X_instruction_25 (by decide) ?_
  refine lv_iand hx hb d_X_instruction_27 ?_
  refine lv_istore (lv' := [(5, .int ((a1 >>> ((11 : Int32) &&& 31)) &&& (7 : Int32))), (4, .int ((a1 >>> ((8 : Int32) &&& 31)) &&& (7 : Int32))), (3, .int ((a1 >>> ((5 : Int32) &&& 31)) &&& (7 : Int32))), (2, .int (20 : Int32)), (0, .ref yX), (1, .int a1)]) hx hb d_X_instruction_28 hl (by decide) rfl (fun ls hl => ?_)
  refine lv_iload_n hx hb d_X_instruction_30 rfl (lv_at hl 5 rfl) ?_
  show W p l e _ s m args below meth c _ _ _ _ Q (F0 m 31 ls _)
  refine lv_bipush (v := (16 : Int32)) hx hb d_X_instruction_31 (by decide) ?_
  refine lv_ishr hx hb d_X_instruction_33 ?_
  refine lv_istore (lv' := [(6, .int (a1 >>> ((16 : Int32) &&& 31))), (5, .int ((a1 >>> ((11 : Int32) &&& 31)) &&& (7 : Int32))), (4, .int ((a1 >>> ((8 : Int32) &&& 31)) &&& (7 : Int32))), (3, .int ((a1 >>> ((5 : Int32) &&& 31)) &&& (7 : Int32))), (2, .int (20 : Int32)), (0, .ref yX), (1, .int a1)]) hx hb d_X_instruction_34 hl (by decide) rfl (fun ls hl => ?_)
  refine lv_iload_n hx hb d_X_instruction_36 rfl (lv_at hl 4 rfl) ?_
  refine lv_bipush (v := (25 : Int32)) hx hb d_X_instruction_37 (by decide) ?_
  refine lv_icmp_eq (tgt := 66) hx hb d_X_instruction_39 (by decide) (fun hh => absurd hh (by decide)) (fun _ => ?_)
  refine lv_iload_n hx hb d_X_instruction_42 rfl (lv_at hl 4 rfl) ?_
  refine lv_bipush (v := (26 : Int32)) hx hb d_X_instruction_43 (by decide) ?_
  refine lv_icmp_eq (tgt := 66) hx hb d_X_instruction_45 (by decide) (fun hh => absurd hh (by decide)) (fun _ => ?_)
  refine lv_iload_n hx hb d_X_instruction_48 rfl (lv_at hl 4 rfl) ?_
  refine lv_bipush (v := (28 : Int32)) hx hb d_X_instruction_49 (by decide) ?_
  refine lv_icmp_eq (tgt := 66) hx hb d_X_instruction_51 (by decide) (fun hh => absurd hh (by decide)) (fun _ => ?_)
  refine lv_iload_n hx hb d_X_instruction_54 rfl (lv_at hl 4 rfl) ?_
  refine lv_bipush (v := (29 : Int32)) hx hb d_X_instruction_55 (by decide) ?_
  refine lv_icmp_eq (tgt := 66) hx hb d_X_instruction_57 (by decide) (fun hh => absurd hh (by decide)) (fun _ => ?_)
  refine lv_iload_n hx hb d_X_instruction_60 rfl (lv_at hl 4 rfl) ?_
  refine lv_bipush (v := (31 : Int32)) hx hb d_X_instruction_61 (by decide) ?_
  refine lv_icmp_ne (tgt := 70) hx hb d_X_instruction_63 (by decide) (fun _ => ?_) (fun hh => absurd hh (by decide))
  refine lv_iconst (v := (0 : Int32)) hx hb d_X_instruction_70 (by decide) ?_
  refine lv_istore (lv' := [(7, .int (0 : Int32)), (6, .int (a1 >>> ((16 : Int32) &&& 31))), (5, .int ((a1 >>> ((11 : Int32) &&& 31)) &&& (7 : Int32))), (4, .int ((a1 >>> ((8 : Int32) &&& 31)) &&& (7 : Int32))), (3, .int ((a1 >>> ((5 : Int32) &&& 31)) &&& (7 : Int32))), (2, .int (20 : Int32)), (0, .ref yX), (1, .int a1)]) hx hb d_X_instruction_71 hl (by decide) rfl (fun ls hl => ?_)
  refine lv_iload hx hb d_X_instruction_73 (lv_at hl 0 rfl) ?_
  refine lv_if_eq (tgt := 86) hx hb d_X_instruction_75 (by decide) (fun _ => ?_) (fun hh => absurd hh (by decide))
  refine lv_iload_n hx hb d_X_instruction_86 rfl (lv_at hl 5 rfl) ?_
  refine lv_bipush (v := (30 : Int32)) hx hb d_X_instruction_87 (by decide) ?_
  refine lv_icmp_ne (tgt := 111) hx hb d_X_instruction_89 (by decide) (fun _ => ?_) (fun hh => absurd hh (by decide))
  refine lv_aload_n hx hb d_X_instruction_111 rfl (lv_at hl 6 rfl) ?_
  refine zz_get (C := R_X) (T := F_X) (N := 27) (v := .ref yO) hx hb hts in_X hown hK hP 0 rfl rfl 4 (by decide) mw_68 rfl d_X_instruction_112 ?_
  refine lv_iconst (v := (0 : Int32)) hx hb d_X_instruction_115 (by decide) ?_
  refine va_iald hx hb hK hP 4 0 rfl rfl (zz_inc (by decide)) d_X_instruction_116 ?_
  refine lv_iconst (v := (1 : Int32)) hx hb d_X_instruction_117 (by decide) ?_
  refine lv_iadd hx hb d_X_instruction_118 ?_
  refine lv_istore (lv' := [(8, .int ((v_o (ix (0 : Int32))) + (1 : Int32))), (7, .int (0 : Int32)), (6, .int (a1 >>> ((16 : Int32) &&& 31))), (5, .int ((a1 >>> ((11 : Int32) &&& 31)) &&& (7 : Int32))), (4, .int ((a1 >>> ((8 : Int32) &&& 31)) &&& (7 : Int32))), (3, .int ((a1 >>> ((5 : Int32) &&& 31)) &&& (7 : Int32))), (2, .int (20 : Int32)), (0, .ref yX), (1, .int a1)]) hx hb d_X_instruction_119 hl (by decide) rfl (fun ls hl => ?_)
  refine lv_iload_n hx hb d_X_instruction_121 rfl (lv_at hl 6 rfl) ?_
  refine lv_if_le (tgt := 146) hx hb d_X_instruction_122 (by decide) (fun hh => absurd hh (by decide)) (fun _ => ?_)
  refine lv_iload_n hx hb d_X_instruction_125 rfl (lv_at hl 6 rfl) ?_
  refine lv_bipush (v := (13 : Int32)) hx hb d_X_instruction_126 (by decide) ?_
  refine lv_icmp_ge (tgt := 146) hx hb d_X_instruction_128 (by decide) (fun _ => ?_) (fun hh => absurd hh (by decide))
  refine lv_iload_n hx hb d_X_instruction_146 rfl (lv_at hl 6 rfl) ?_
  refine lv_bipush (v := (12 : Int32)) hx hb d_X_instruction_147 (by decide) ?_
  refine lv_icmp_le (tgt := 171) hx hb d_X_instruction_149 (by decide) (fun hh => absurd hh (by decide)) (fun _ => ?_)
  refine lv_iload_n hx hb d_X_instruction_152 rfl (lv_at hl 6 rfl) ?_
  refine lv_bipush (v := (18 : Int32)) hx hb d_X_instruction_153 (by decide) ?_
  refine lv_icmp_ge (tgt := 171) hx hb d_X_instruction_155 (by decide) (fun _ => ?_) (fun hh => absurd hh (by decide))
  refine lv_iload_n hx hb d_X_instruction_171 rfl (lv_at hl 6 rfl) ?_
  refine lv_bipush (v := (17 : Int32)) hx hb d_X_instruction_172 (by decide) ?_
  refine lv_icmp_le (tgt := 213) hx hb d_X_instruction_174 (by decide) (fun hh => absurd hh (by decide)) (fun _ => ?_)
  refine lv_iload_n hx hb d_X_instruction_177 rfl (lv_at hl 6 rfl) ?_
  refine lv_bipush (v := (21 : Int32)) hx hb d_X_instruction_178 (by decide) ?_
  refine lv_icmp_ge (tgt := 213) hx hb d_X_instruction_180 (by decide) (fun hh => absurd hh (by decide)) (fun _ => ?_)
  refine lv_iload_n hx hb d_X_instruction_183 rfl (lv_at hl 6 rfl) ?_
  refine lv_aload_n hx hb d_X_instruction_184 rfl (lv_at hl 7 rfl) ?_
  refine zz_get (C := R_X) (T := F_X) (N := 27) (v := .ref yO) hx hb hts in_X hown hK hP 0 rfl rfl 4 (by decide) mw_68 rfl d_X_instruction_185 ?_
  refine lv_iconst (v := (0 : Int32)) hx hb d_X_instruction_188 (by decide) ?_
  refine va_iald hx hb hK hP 4 0 rfl rfl (zz_inc (by decide)) d_X_instruction_189 ?_
  refine lv_iload hx hb d_X_instruction_190 (lv_at hl 2 rfl) ?_
  refine lv_aload_n hx hb d_X_instruction_192 rfl (lv_at hl 7 rfl) ?_
  refine zz_get (C := R_X) (T := F_X) (N := 27) (v := .ref yD) hx hb hts in_X hown hK hP 0 rfl rfl 2 (by decide) mw_74 rfl d_X_instruction_193 ?_
  refine lv_iload_n hx hb d_X_instruction_196 rfl (lv_at hl 5 rfl) ?_
  refine va_iald hx hb hK hP 2 0 rfl rfl (zz_in7 _) d_X_instruction_197 ?_
  refine lv_aload_n hx hb d_X_instruction_198 rfl (lv_at hl 7 rfl) ?_
  show W p l e _ s m args below meth c _ _ _ _ Q (F0 m 199 ls _)
  refine zz_get (C := R_X) (T := F_X) (N := 27) (v := .ref yD) hx hb hts in_X hown hK hP 0 rfl rfl 2 (by decide) mw_74 rfl d_X_instruction_199 ?_
  refine lv_iload hx hb d_X_instruction_202 (lv_at hl 4 rfl) ?_
  refine va_iald hx hb hK hP 2 0 rfl rfl (zz_in7 _) d_X_instruction_204 ?_
  refine zz_cS0 (rest := []) ⟨hx, hb, hml, hown, hts⟩ (k_X_jump20 l D cI _ (v_o (ix (0 : Int32))) (a1 >>> ((16 : Int32) &&& 31)) (v_d (ix ((a1 >>> ((5 : Int32) &&& 31)) &&& (7 : Int32)))) (v_d (ix ((a1 >>> ((8 : Int32) &&& 31)) &&& (7 : Int32))))) g_X_instruction_X_jump_119 nd_X_jump ⟨⟨rfl, rfl⟩, Nat.le_of_ble_eq_true rfl, Nat.le_of_ble_eq_true rfl⟩ hK hP hD hS hA rfl rfl hl.1 (Nat.le_of_ble_eq_true rfl) d_X_instruction_205 ⟨Nat.zero_le _, Nat.zero_le _⟩ (fun H locs hP hD hS => ?_)
  refine lv_istore (lv' := [(8, .int (s_X_jump20 (v_o (ix (0 : Int32))) (a1 >>> ((16 : Int32) &&& 31)) (v_d (ix ((a1 >>> ((5 : Int32) &&& 31)) &&& (7 : Int32)))) (v_d (ix ((a1 >>> ((8 : Int32) &&& 31)) &&& (7 : Int32)))))), (7, .int (0 : Int32)), (6, .int (a1 >>> ((16 : Int32) &&& 31))), (5, .int ((a1 >>> ((11 : Int32) &&& 31)) &&& (7 : Int32))), (4, .int ((a1 >>> ((8 : Int32) &&& 31)) &&& (7 : Int32))), (3, .int ((a1 >>> ((5 : Int32) &&& 31)) &&& (7 : Int32))), (2, .int (20 : Int32)), (0, .ref yX), (1, .int a1)]) hx hb d_X_instruction_208 hl (by decide) rfl (fun ls hl => ?_)
  refine lv_goto (tgt := 244) hx hb d_X_instruction_210 (by decide) ?_
  refine lv_aload_n hx hb d_X_instruction_244 rfl (lv_at hl 7 rfl) ?_
  refine zz_get (C := R_X) (T := F_X) (N := 27) (v := .ref yO) hx hb hts in_X hown hK hP 0 rfl rfl 4 (by decide) mw_68 rfl d_X_instruction_245 ?_
  refine lv_iconst (v := (0 : Int32)) hx hb d_X_instruction_248 (by decide) ?_
  refine lv_aload_n hx hb d_X_instruction_249 rfl (lv_at hl 7 rfl) ?_
  refine zz_get (C := R_X) (T := F_X) (N := 27) (v := .int (v_x 19)) hx hb hts in_X hown hK hP 0 rfl rfl 26 (by decide) mw_79 rfl d_X_instruction_250 ?_
  have J253_2 : ∀ (vj253_0 : Int32) (ls : Array Slot) (H : Heap) (locs : List Loc), vj253_0 = (if (v_x 19) = 0 then (if (v_x 7) = 0 then (v_o (ix (0 : Int32))) else (s_X_jump20 (v_o (ix (0 : Int32))) (a1 >>> ((16 : Int32) &&& 31)) (v_d (ix ((a1 >>> ((5 : Int32) &&& 31)) &&& (7 : Int32)))) (v_d (ix ((a1 >>> ((8 : Int32) &&& 31)) &&& (7 : Int32)))))) else (v_o (ix (0 : Int32)))) → lv_has ls 9 [(8, .int (s_X_jump20 (v_o (ix (0 : Int32))) (a1 >>> ((16 : Int32) &&& 31)) (v_d (ix ((a1 >>> ((5 : Int32) &&& 31)) &&& (7 : Int32)))) (v_d (ix ((a1 >>> ((8 : Int32) &&& 31)) &&& (7 : Int32)))))), (7, .int (0 : Int32)), (6, .int (a1 >>> ((16 : Int32) &&& 31))), (5, .int ((a1 >>> ((11 : Int32) &&& 31)) &&& (7 : Int32))), (4, .int ((a1 >>> ((8 : Int32) &&& 31)) &&& (7 : Int32))), (3, .int ((a1 >>> ((5 : Int32) &&& 31)) &&& (7 : Int32))), (2, .int (20 : Int32)), (0, .ref yX), (1, .int a1)] → va_P D classes [oX yX yM yD yA yO yL yH yI v_x, ar cI yM 512 v_M, ar cI yD 8 v_d, ar cI yA 8 v_a, ar cI yO 4 v_o, ar cI yL 6 v_lo, ar cI yH 6 v_hi, ar cI yI 6 v_ri] H → va_D A [oX yX yM yD yA yO yL yH yI v_x, ar cI yM 512 v_M, ar cI yD 8 v_d, ar cI yA 8 v_a, ar cI yO 4 v_o, ar cI yL 6 v_lo, ar cI yH 6 v_hi, ar cI yI 6 v_ri] → va_S A s.heap H locs → W p l e { frames := 4, cells := 0, slots := 0, locals := 100 } s m args below meth c H locs 0 0 Q (F0 m 274 ls [.int vj253_0, .int (0 : Int32), .ref yO]) := by
    intro vj253_0 ls H locs evj253_0 hl hP hD hS
    subst evj253_0
    refine zz_iast (w' := [oX yX yM yD yA yO yL yH yI v_x, ar cI yM 512 v_M, ar cI yD 8 v_d, ar cI yA 8 v_a, ar cI yO 4 (upd v_o (ix (0 : Int32)) (if (v_x 19) = 0 then (if (v_x 7) = 0 then (v_o (ix (0 : Int32))) else (s_X_jump20 (v_o (ix (0 : Int32))) (a1 >>> ((16 : Int32) &&& 31)) (v_d (ix ((a1 >>> ((5 : Int32) &&& 31)) &&& (7 : Int32)))) (v_d (ix ((a1 >>> ((8 : Int32) &&& 31)) &&& (7 : Int32)))))) else (v_o (ix (0 : Int32))))), ar cI yL 6 v_lo, ar cI yH 6 v_hi, ar cI yI 6 v_ri]) hx hb hK hP hD hS 4 0 rfl rfl (zz_inc (by decide)) d_X_instruction_274 rfl (fun H locs hP hD hS => ?_)
    have hsp : s_X_instr20 v_x v_M v_d v_a v_o v_lo v_hi v_ri a1 = (upd v_o (ix (0 : Int32)) (if (v_x 19) = 0 then (if (v_x 7) = 0 then (v_o (ix (0 : Int32))) else (s_X_jump20 (v_o (ix (0 : Int32))) (a1 >>> ((16 : Int32) &&& 31)) (v_d (ix ((a1 >>> ((5 : Int32) &&& 31)) &&& (7 : Int32)))) (v_d (ix ((a1 >>> ((8 : Int32) &&& 31)) &&& (7 : Int32)))))) else (v_o (ix (0 : Int32))))) := rfl
    rw [hsp] at hE
    exact hE _ _ _ _ hP hD hS d_X_instruction_275
  refine lv_if_ne (tgt := 268) hx hb d_X_instruction_253 (by decide) (fun h1 => ?_) (fun h1 => ?_)
  ·
    refine lv_aload_n hx hb d_X_instruction_268 rfl (lv_at hl 7 rfl) ?_
    refine zz_get (C := R_X) (T := F_X) (N := 27) (v := .ref yO) hx hb hts in_X hown hK hP 0 rfl rfl 4 (by decide) mw_68 rfl d_X_instruction_269 ?_
    refine lv_iconst (v := (0 : Int32)) hx hb d_X_instruction_272 (by decide) ?_
    refine va_iald hx hb hK hP 4 0 rfl rfl (zz_inc (by decide)) d_X_instruction_273 ?_
    exact J253_2 (v_o (ix (0 : Int32))) _ _ _ (by rw [if_neg h1]) (lv_sub hl [0, 1, 2, 3, 4, 5, 6, 7, 8] rfl) hP hD hS
  ·
    refine lv_aload_n hx hb d_X_instruction_256 rfl (lv_at hl 7 rfl) ?_
    refine zz_get (C := R_X) (T := F_X) (N := 27) (v := .int (v_x 7)) hx hb hts in_X hown hK hP 0 rfl rfl 11 (by decide) mw_78 rfl d_X_instruction_257 ?_
    refine lv_if_eq (tgt := 268) hx hb d_X_instruction_260 (by decide) (fun h2 => ?_) (fun h2 => ?_)
    ·
      refine lv_aload_n hx hb d_X_instruction_268 rfl (lv_at hl 7 rfl) ?_
      refine zz_get (C := R_X) (T := F_X) (N := 27) (v := .ref yO) hx hb hts in_X hown hK hP 0 rfl rfl 4 (by decide) mw_68 rfl d_X_instruction_269 ?_
      refine lv_iconst (v := (0 : Int32)) hx hb d_X_instruction_272 (by decide) ?_
      refine va_iald hx hb hK hP 4 0 rfl rfl (zz_inc (by decide)) d_X_instruction_273 ?_
      exact J253_2 (v_o (ix (0 : Int32))) _ _ _ (by rw [if_pos h1, if_pos h2]) (lv_sub hl [0, 1, 2, 3, 4, 5, 6, 7, 8] rfl) hP hD hS
    ·
      refine lv_iload hx hb d_X_instruction_263 (lv_at hl 0 rfl) ?_
      refine lv_goto (tgt := 274) hx hb d_X_instruction_265 (by decide) ?_
      exact J253_2 (s_X_jump20 (v_o (ix (0 : Int32))) (a1 >>> ((16 : Int32) &&& 31)) (v_d (ix ((a1 >>> ((5 : Int32) &&& 31)) &&& (7 : Int32)))) (v_d (ix ((a1 >>> ((8 : Int32) &&& 31)) &&& (7 : Int32))))) _ _ _ (by rw [if_pos h1, if_neg h2]) (lv_sub hl [0, 1, 2, 3, 4, 5, 6, 7, 8] rfl) hP hD hS
set_option maxHeartbeats 4000000 in
set_option maxRecDepth 100000 in
theorem k_X_instr21 (l : Launch) (D : va_G) (cI : ClassId) (sz : Nat) (yX : Nat) (yM : Nat) (yD : Nat) (yA : Nat) (yO : Nat) (yL : Nat) (yH : Nat) (yI : Nat) (v_x : Nat → Int32) (v_M : Nat → Int32) (v_d : Nat → Int32) (v_a : Nat → Int32) (v_o : Nat → Int32) (v_lo : Nat → Int32) (v_hi : Nat → Int32) (v_ri : Nat → Int32) (a1 : Int32) (hop : (a1 &&& (31 : Int32)) = (21 : Int32)) : zMv l y_X_instruction (.code y_X_instruction b_X_instruction 9 (none) :: wd) { frames := 4, cells := 0, slots := 0, locals := 100 } D classes [(cI, .int)] [.ref yX, .int a1] [oX yX yM yD yA yO yL yH yI v_x, ar cI yM 512 v_M, ar cI yD 8 v_d, ar cI yA 8 v_a, ar cI yO 4 v_o, ar cI yL 6 v_lo, ar cI yH 6 v_hi, ar cI yI 6 v_ri] [oX yX yM yD yA yO yL yH yI ((s_X_instr21 v_x v_M v_d v_a v_o v_lo v_hi v_ri a1).1), ar cI yM 512 ((s_X_instr21 v_x v_M v_d v_a v_o v_lo v_hi v_ri a1).2.1), ar cI yD 8 v_d, ar cI yA 8 ((s_X_instr21 v_x v_M v_d v_a v_o v_lo v_hi v_ri a1).2.2.1), ar cI yO 4 ((s_X_instr21 v_x v_M v_d v_a v_o v_lo v_hi v_ri a1).2.2.2), ar cI yL 6 v_lo, ar cI yH 6 v_hi, ar cI yI 6 v_ri] sz := by
  refine met_v (by decide) (Nat.le_of_ble_eq_true rfl) ?_
  intro p e s m args below meth c A Q ls hx hb hml hown hts hK hP hD hS hA hl hE
  have hl : lv_has ls 9 [(0, .ref yX), (1, .int a1)] := hl
  have hown : s.vm.findClass R_X = some m.cls := hown
  refine lv_iload_n hx hb d_X_instruction_0 rfl (lv_at hl 1 rfl) ?_
  refine lv_bipush (v := (31 : Int32)) hx hb d_X_instruction_1 (by decide) ?_
  refine lv_iand hx hb d_X_instruction_3 ?_
  refine lv_topi (fun zz ez => ?_)
  obtain rfl : zz = (21 : Int32) := ez.trans hop
  refine lv_istore_n (lv' := [(2, .int (21 : Int32)), (0, .ref yX), (1, .int a1)]) hx hb d_X_instruction_4 rfl hl (by decide) rfl (fun ls hl => ?_)
  refine lv_iload_n hx hb d_X_instruction_5 rfl (lv_at hl 2 rfl) ?_
  refine lv_iconst (v := (5 : Int32)) hx hb d_X_instruction_6 (by decide) ?_
  refine lv_ishr hx hb d_X_instruction_7 ?_
  refine lv_bipush (v := (7 : Int32)) hx hb d_X_instruction_8 (by decide) ?_
  refine lv_iand hx hb d_X_instruction_10 ?_
  refine lv_istore_n (lv' := [(3, .int ((a1 >>> ((5 : Int32) &&& 31)) &&& (7 : Int32))), (2, .int (21 : Int32)), (0, .ref yX), (1, .int a1)]) hx hb d_X_instruction_11 rfl hl (by decide) rfl (fun ls hl => ?_)
  refine lv_iload_n hx hb d_X_instruction_12 rfl (lv_at hl 3 rfl) ?_
  show W p l e _ s m args below meth c _ _ _ _ Q (F0 m 13 ls _)
  refine lv_bipush (v := (8 : Int32)) hx hb d_X_instruction_13 (by decide) ?_
  refine lv_ishr hx hb d_X_instruction_15 ?_
  refine lv_bipush (v := (7 : Int32)) hx hb d_X_instruction_16 (by decide) ?_
  refine lv_iand hx hb d_X_instruction_18 ?_
  refine lv_istore (lv' := [(4, .int ((a1 >>> ((8 : Int32) &&& 31)) &&& (7 : Int32))), (3, .int ((a1 >>> ((5 : Int32) &&& 31)) &&& (7 : Int32))), (2, .int (21 : Int32)), (0, .ref yX), (1, .int a1)]) hx hb d_X_instruction_19 hl (by decide) rfl (fun ls hl => ?_)
  refine lv_iload_n hx hb d_X_instruction_21 rfl (lv_at hl 4 rfl) ?_
  refine lv_bipush (v := (11 : Int32)) hx hb d_X_instruction_22 (by decide) ?_
  refine lv_ishr hx hb d_X_instruction_24 ?_
  refine lv_bipush (v := (7 : Int32)) hx hb d_X_instruction_25 (by decide) ?_
  refine lv_iand hx hb d_X_instruction_27 ?_
  refine lv_istore (lv' := [(5, .int ((a1 >>> ((11 : Int32) &&& 31)) &&& (7 : Int32))), (4, .int ((a1 >>> ((8 : Int32) &&& 31)) &&& (7 : Int32))), (3, .int ((a1 >>> ((5 : Int32) &&& 31)) &&& (7 : Int32))), (2, .int (21 : Int32)), (0, .ref yX), (1, .int a1)]) hx hb d_X_instruction_28 hl (by decide) rfl (fun ls hl => ?_)
  refine lv_iload_n hx hb d_X_instruction_30 rfl (lv_at hl 5 rfl) ?_
  show W p l e _ s m args below meth c _ _ _ _ Q (F0 m 31 ls _)
  refine lv_bipush (v := (16 : Int32)) hx hb d_X_instruction_31 (by decide) ?_
  refine lv_ishr hx hb d_X_instruction_33 ?_
  refine lv_istore (lv' := [(6, .int (a1 >>> ((16 : Int32) &&& 31))), (5, .int ((a1 >>> ((11 : Int32) &&& 31)) &&& (7 : Int32))), (4, .int ((a1 >>> ((8 : Int32) &&& 31)) &&& (7 : Int32))), (3, .int ((a1 >>> ((5 : Int32) &&& 31)) &&& (7 : Int32))), (2, .int (21 : Int32)), (0, .ref yX), (1, .int a1)]) hx hb d_X_instruction_34 hl (by decide) rfl (fun ls hl => ?_)
  refine lv_iload_n hx hb d_X_instruction_36 rfl (lv_at hl 4 rfl) ?_
  refine lv_bipush (v := (25 : Int32)) hx hb d_X_instruction_37 (by decide) ?_
  refine lv_icmp_eq (tgt := 66) hx hb d_X_instruction_39 (by decide) (fun hh => absurd hh (by decide)) (fun _ => ?_)
  refine lv_iload_n hx hb d_X_instruction_42 rfl (lv_at hl 4 rfl) ?_
  refine lv_bipush (v := (26 : Int32)) hx hb d_X_instruction_43 (by decide) ?_
  refine lv_icmp_eq (tgt := 66) hx hb d_X_instruction_45 (by decide) (fun hh => absurd hh (by decide)) (fun _ => ?_)
  refine lv_iload_n hx hb d_X_instruction_48 rfl (lv_at hl 4 rfl) ?_
  refine lv_bipush (v := (28 : Int32)) hx hb d_X_instruction_49 (by decide) ?_
  refine lv_icmp_eq (tgt := 66) hx hb d_X_instruction_51 (by decide) (fun hh => absurd hh (by decide)) (fun _ => ?_)
  refine lv_iload_n hx hb d_X_instruction_54 rfl (lv_at hl 4 rfl) ?_
  refine lv_bipush (v := (29 : Int32)) hx hb d_X_instruction_55 (by decide) ?_
  refine lv_icmp_eq (tgt := 66) hx hb d_X_instruction_57 (by decide) (fun hh => absurd hh (by decide)) (fun _ => ?_)
  refine lv_iload_n hx hb d_X_instruction_60 rfl (lv_at hl 4 rfl) ?_
  refine lv_bipush (v := (31 : Int32)) hx hb d_X_instruction_61 (by decide) ?_
  refine lv_icmp_ne (tgt := 70) hx hb d_X_instruction_63 (by decide) (fun _ => ?_) (fun hh => absurd hh (by decide))
  refine lv_iconst (v := (0 : Int32)) hx hb d_X_instruction_70 (by decide) ?_
  refine lv_istore (lv' := [(7, .int (0 : Int32)), (6, .int (a1 >>> ((16 : Int32) &&& 31))), (5, .int ((a1 >>> ((11 : Int32) &&& 31)) &&& (7 : Int32))), (4, .int ((a1 >>> ((8 : Int32) &&& 31)) &&& (7 : Int32))), (3, .int ((a1 >>> ((5 : Int32) &&& 31)) &&& (7 : Int32))), (2, .int (21 : Int32)), (0, .ref yX), (1, .int a1)]) hx hb d_X_instruction_71 hl (by decide) rfl (fun ls hl => ?_)
  refine lv_iload hx hb d_X_instruction_73 (lv_at hl 0 rfl) ?_
  refine lv_if_eq (tgt := 86) hx hb d_X_instruction_75 (by decide) (fun _ => ?_) (fun hh => absurd hh (by decide))
  refine lv_iload_n hx hb d_X_instruction_86 rfl (lv_at hl 5 rfl) ?_
  refine lv_bipush (v := (30 : Int32)) hx hb d_X_instruction_87 (by decide) ?_
  refine lv_icmp_ne (tgt := 111) hx hb d_X_instruction_89 (by decide) (fun _ => ?_) (fun hh => absurd hh (by decide))
  refine lv_aload_n hx hb d_X_instruction_111 rfl (lv_at hl 6 rfl) ?_
  refine zz_get (C := R_X) (T := F_X) (N := 27) (v := .ref yO) hx hb hts in_X hown hK hP 0 rfl rfl 4 (by decide) mw_68 rfl d_X_instruction_112 ?_
  refine lv_iconst (v := (0 : Int32)) hx hb d_X_instruction_115 (by decide) ?_
  refine va_iald hx hb hK hP 4 0 rfl rfl (zz_inc (by decide)) d_X_instruction_116 ?_
  refine lv_iconst (v := (1 : Int32)) hx hb d_X_instruction_117 (by decide) ?_
  refine lv_iadd hx hb d_X_instruction_118 ?_
  refine lv_istore (lv' := [(8, .int ((v_o (ix (0 : Int32))) + (1 : Int32))), (7, .int (0 : Int32)), (6, .int (a1 >>> ((16 : Int32) &&& 31))), (5, .int ((a1 >>> ((11 : Int32) &&& 31)) &&& (7 : Int32))), (4, .int ((a1 >>> ((8 : Int32) &&& 31)) &&& (7 : Int32))), (3, .int ((a1 >>> ((5 : Int32) &&& 31)) &&& (7 : Int32))), (2, .int (21 : Int32)), (0, .ref yX), (1, .int a1)]) hx hb d_X_instruction_119 hl (by decide) rfl (fun ls hl => ?_)
  refine lv_iload_n hx hb d_X_instruction_121 rfl (lv_at hl 6 rfl) ?_
  refine lv_if_le (tgt := 146) hx hb d_X_instruction_122 (by decide) (fun hh => absurd hh (by decide)) (fun _ => ?_)
  refine lv_iload_n hx hb d_X_instruction_125 rfl (lv_at hl 6 rfl) ?_
  refine lv_bipush (v := (13 : Int32)) hx hb d_X_instruction_126 (by decide) ?_
  refine lv_icmp_ge (tgt := 146) hx hb d_X_instruction_128 (by decide) (fun _ => ?_) (fun hh => absurd hh (by decide))
  refine lv_iload_n hx hb d_X_instruction_146 rfl (lv_at hl 6 rfl) ?_
  refine lv_bipush (v := (12 : Int32)) hx hb d_X_instruction_147 (by decide) ?_
  refine lv_icmp_le (tgt := 171) hx hb d_X_instruction_149 (by decide) (fun hh => absurd hh (by decide)) (fun _ => ?_)
  refine lv_iload_n hx hb d_X_instruction_152 rfl (lv_at hl 6 rfl) ?_
  refine lv_bipush (v := (18 : Int32)) hx hb d_X_instruction_153 (by decide) ?_
  refine lv_icmp_ge (tgt := 171) hx hb d_X_instruction_155 (by decide) (fun _ => ?_) (fun hh => absurd hh (by decide))
  refine lv_iload_n hx hb d_X_instruction_171 rfl (lv_at hl 6 rfl) ?_
  refine lv_bipush (v := (17 : Int32)) hx hb d_X_instruction_172 (by decide) ?_
  refine lv_icmp_le (tgt := 213) hx hb d_X_instruction_174 (by decide) (fun hh => absurd hh (by decide)) (fun _ => ?_)
  refine lv_iload_n hx hb d_X_instruction_177 rfl (lv_at hl 6 rfl) ?_
  refine lv_bipush (v := (21 : Int32)) hx hb d_X_instruction_178 (by decide) ?_
  refine lv_icmp_ge (tgt := 213) hx hb d_X_instruction_180 (by decide) (fun _ => ?_) (fun hh => absurd hh (by decide))
  refine lv_iload_n hx hb d_X_instruction_213 rfl (lv_at hl 6 rfl) ?_
  refine lv_bipush (v := (20 : Int32)) hx hb d_X_instruction_214 (by decide) ?_
  refine lv_icmp_le (tgt := 237) hx hb d_X_instruction_216 (by decide) (fun hh => absurd hh (by decide)) (fun _ => ?_)
  refine lv_iload_n hx hb d_X_instruction_219 rfl (lv_at hl 6 rfl) ?_
  refine lv_bipush (v := (27 : Int32)) hx hb d_X_instruction_220 (by decide) ?_
  refine lv_icmp_ge (tgt := 237) hx hb d_X_instruction_222 (by decide) (fun hh => absurd hh (by decide)) (fun _ => ?_)
  refine lv_aload_n hx hb d_X_instruction_225 rfl (lv_at hl 7 rfl) ?_
  refine lv_iload_n hx hb d_X_instruction_226 rfl (lv_at hl 6 rfl) ?_
  refine lv_iload hx hb d_X_instruction_227 (lv_at hl 2 rfl) ?_
  refine zz_cVi (rest := []) (wr := []) (w' := [oX yX yM yD yA yO yL yH yI ((s_X_context21 v_x v_M v_d v_a v_o v_lo v_hi v_ri (a1 >>> ((16 : Int32) &&& 31))).2.1), ar cI yM 512 ((s_X_context21 v_x v_M v_d v_a v_o v_lo v_hi v_ri (a1 >>> ((16 : Int32) &&& 31))).2.2.1), ar cI yD 8 v_d, ar cI yA 8 ((s_X_context21 v_x v_M v_d v_a v_o v_lo v_hi v_ri (a1 >>> ((16 : Int32) &&& 31))).2.2.2.1), ar cI yO 4 ((s_X_context21 v_x v_M v_d v_a v_o v_lo v_hi v_ri (a1 >>> ((16 : Int32) &&& 31))).2.2.2.2), ar cI yL 6 v_lo, ar cI yH 6 v_hi, ar cI yI 6 v_ri]) ⟨hx, hb, hml, hown, hts⟩ (k_X_context21 l D cI _ yX yM yD yA yO yL yH yI v_x v_M v_d v_a v_o v_lo v_hi v_ri (a1 >>> ((16 : Int32) &&& 31))) g_X_instruction_X_context_123 nv_X_context ⟨⟨rfl, rfl⟩, Nat.le_of_ble_eq_true rfl, Nat.le_of_ble_eq_true rfl⟩ hK [0] rfl hP hD hS hA [0, 1, 2, 3, 4, 5, 6, 7] [] [0, 1, 2, 3, 4, 5, 6, 7] rfl rfl rfl rfl (by decide) rfl rfl 0 6 rfl rfl rfl rfl hl.1 (Nat.le_of_ble_eq_true rfl) d_X_instruction_229 ⟨Nat.zero_le _, Nat.zero_le _⟩ (fun H locs hP hD hS => ?_)
  refine lv_istore (lv' := [(8, .int ((s_X_context21 v_x v_M v_d v_a v_o v_lo v_hi v_ri (a1 >>> ((16 : Int32) &&& 31))).1)), (7, .int (0 : Int32)), (6, .int (a1 >>> ((16 : Int32) &&& 31))), (5, .int ((a1 >>> ((11 : Int32) &&& 31)) &&& (7 : Int32))), (4, .int ((a1 >>> ((8 : Int32) &&& 31)) &&& (7 : Int32))), (3, .int ((a1 >>> ((5 : Int32) &&& 31)) &&& (7 : Int32))), (2, .int (21 : Int32)), (0, .ref yX), (1, .int a1)]) hx hb d_X_instruction_232 hl (by decide) rfl (fun ls hl => ?_)
  refine lv_goto (tgt := 244) hx hb d_X_instruction_234 (by decide) ?_
  refine lv_aload_n hx hb d_X_instruction_244 rfl (lv_at hl 7 rfl) ?_
  refine zz_get (C := R_X) (T := F_X) (N := 27) (v := .ref yO) hx hb hts in_X hown hK hP 0 rfl rfl 4 (by decide) mw_68 rfl d_X_instruction_245 ?_
  refine lv_iconst (v := (0 : Int32)) hx hb d_X_instruction_248 (by decide) ?_
  refine lv_aload_n hx hb d_X_instruction_249 rfl (lv_at hl 7 rfl) ?_
  refine zz_get (C := R_X) (T := F_X) (N := 27) (v := .int (((s_X_context21 v_x v_M v_d v_a v_o v_lo v_hi v_ri (a1 >>> ((16 : Int32) &&& 31))).2.1) 19)) hx hb hts in_X hown hK hP 0 rfl rfl 26 (by decide) mw_79 rfl d_X_instruction_250 ?_
  show W p l e _ s m args below meth c _ _ _ _ Q (F0 m 253 ls _)
  have J253_2 : ∀ (vj253_0 : Int32) (ls : Array Slot) (H : Heap) (locs : List Loc), vj253_0 = (if (((s_X_context21 v_x v_M v_d v_a v_o v_lo v_hi v_ri (a1 >>> ((16 : Int32) &&& 31))).2.1) 19) = 0 then (if (((s_X_context21 v_x v_M v_d v_a v_o v_lo v_hi v_ri (a1 >>> ((16 : Int32) &&& 31))).2.1) 7) = 0 then (((s_X_context21 v_x v_M v_d v_a v_o v_lo v_hi v_ri (a1 >>> ((16 : Int32) &&& 31))).2.2.2.2) (ix (0 : Int32))) else (s_X_context21 v_x v_M v_d v_a v_o v_lo v_hi v_ri (a1 >>> ((16 : Int32) &&& 31))).1) else (((s_X_context21 v_x v_M v_d v_a v_o v_lo v_hi v_ri (a1 >>> ((16 : Int32) &&& 31))).2.2.2.2) (ix (0 : Int32)))) → lv_has ls 9 [(8, .int ((s_X_context21 v_x v_M v_d v_a v_o v_lo v_hi v_ri (a1 >>> ((16 : Int32) &&& 31))).1)), (7, .int (0 : Int32)), (6, .int (a1 >>> ((16 : Int32) &&& 31))), (5, .int ((a1 >>> ((11 : Int32) &&& 31)) &&& (7 : Int32))), (4, .int ((a1 >>> ((8 : Int32) &&& 31)) &&& (7 : Int32))), (3, .int ((a1 >>> ((5 : Int32) &&& 31)) &&& (7 : Int32))), (2, .int (21 : Int32)), (0, .ref yX), (1, .int a1)] → va_P D classes [oX yX yM yD yA yO yL yH yI ((s_X_context21 v_x v_M v_d v_a v_o v_lo v_hi v_ri (a1 >>> ((16 : Int32) &&& 31))).2.1), ar cI yM 512 ((s_X_context21 v_x v_M v_d v_a v_o v_lo v_hi v_ri (a1 >>> ((16 : Int32) &&& 31))).2.2.1), ar cI yD 8 v_d, ar cI yA 8 ((s_X_context21 v_x v_M v_d v_a v_o v_lo v_hi v_ri (a1 >>> ((16 : Int32) &&& 31))).2.2.2.1), ar cI yO 4 ((s_X_context21 v_x v_M v_d v_a v_o v_lo v_hi v_ri (a1 >>> ((16 : Int32) &&& 31))).2.2.2.2), ar cI yL 6 v_lo, ar cI yH 6 v_hi, ar cI yI 6 v_ri] H → va_D A [oX yX yM yD yA yO yL yH yI ((s_X_context21 v_x v_M v_d v_a v_o v_lo v_hi v_ri (a1 >>> ((16 : Int32) &&& 31))).2.1), ar cI yM 512 ((s_X_context21 v_x v_M v_d v_a v_o v_lo v_hi v_ri (a1 >>> ((16 : Int32) &&& 31))).2.2.1), ar cI yD 8 v_d, ar cI yA 8 ((s_X_context21 v_x v_M v_d v_a v_o v_lo v_hi v_ri (a1 >>> ((16 : Int32) &&& 31))).2.2.2.1), ar cI yO 4 ((s_X_context21 v_x v_M v_d v_a v_o v_lo v_hi v_ri (a1 >>> ((16 : Int32) &&& 31))).2.2.2.2), ar cI yL 6 v_lo, ar cI yH 6 v_hi, ar cI yI 6 v_ri] → va_S A s.heap H locs → W p l e { frames := 4, cells := 0, slots := 0, locals := 100 } s m args below meth c H locs 0 0 Q (F0 m 274 ls [.int vj253_0, .int (0 : Int32), .ref yO]) := by
    intro vj253_0 ls H locs evj253_0 hl hP hD hS
    subst evj253_0
    refine zz_iast (w' := [oX yX yM yD yA yO yL yH yI ((s_X_context21 v_x v_M v_d v_a v_o v_lo v_hi v_ri (a1 >>> ((16 : Int32) &&& 31))).2.1), ar cI yM 512 ((s_X_context21 v_x v_M v_d v_a v_o v_lo v_hi v_ri (a1 >>> ((16 : Int32) &&& 31))).2.2.1), ar cI yD 8 v_d, ar cI yA 8 ((s_X_context21 v_x v_M v_d v_a v_o v_lo v_hi v_ri (a1 >>> ((16 : Int32) &&& 31))).2.2.2.1), ar cI yO 4 (upd ((s_X_context21 v_x v_M v_d v_a v_o v_lo v_hi v_ri (a1 >>> ((16 : Int32) &&& 31))).2.2.2.2) (ix (0 : Int32)) (if (((s_X_context21 v_x v_M v_d v_a v_o v_lo v_hi v_ri (a1 >>> ((16 : Int32) &&& 31))).2.1) 19) = 0 then (if (((s_X_context21 v_x v_M v_d v_a v_o v_lo v_hi v_ri (a1 >>> ((16 : Int32) &&& 31))).2.1) 7) = 0 then (((s_X_context21 v_x v_M v_d v_a v_o v_lo v_hi v_ri (a1 >>> ((16 : Int32) &&& 31))).2.2.2.2) (ix (0 : Int32))) else (s_X_context21 v_x v_M v_d v_a v_o v_lo v_hi v_ri (a1 >>> ((16 : Int32) &&& 31))).1) else (((s_X_context21 v_x v_M v_d v_a v_o v_lo v_hi v_ri (a1 >>> ((16 : Int32) &&& 31))).2.2.2.2) (ix (0 : Int32))))), ar cI yL 6 v_lo, ar cI yH 6 v_hi, ar cI yI 6 v_ri]) hx hb hK hP hD hS 4 0 rfl rfl (zz_inc (by decide)) d_X_instruction_274 rfl (fun H locs hP hD hS => ?_)
    have hsp : s_X_instr21 v_x v_M v_d v_a v_o v_lo v_hi v_ri a1 = ((s_X_context21 v_x v_M v_d v_a v_o v_lo v_hi v_ri (a1 >>> ((16 : Int32) &&& 31))).2.1, (s_X_context21 v_x v_M v_d v_a v_o v_lo v_hi v_ri (a1 >>> ((16 : Int32) &&& 31))).2.2.1, (s_X_context21 v_x v_M v_d v_a v_o v_lo v_hi v_ri (a1 >>> ((16 : Int32) &&& 31))).2.2.2.1, upd ((s_X_context21 v_x v_M v_d v_a v_o v_lo v_hi v_ri (a1 >>> ((16 : Int32) &&& 31))).2.2.2.2) (ix (0 : Int32)) (if (((s_X_context21 v_x v_M v_d v_a v_o v_lo v_hi v_ri (a1 >>> ((16 : Int32) &&& 31))).2.1) 19) = 0 then (if (((s_X_context21 v_x v_M v_d v_a v_o v_lo v_hi v_ri (a1 >>> ((16 : Int32) &&& 31))).2.1) 7) = 0 then (((s_X_context21 v_x v_M v_d v_a v_o v_lo v_hi v_ri (a1 >>> ((16 : Int32) &&& 31))).2.2.2.2) (ix (0 : Int32))) else (s_X_context21 v_x v_M v_d v_a v_o v_lo v_hi v_ri (a1 >>> ((16 : Int32) &&& 31))).1) else (((s_X_context21 v_x v_M v_d v_a v_o v_lo v_hi v_ri (a1 >>> ((16 : Int32) &&& 31))).2.2.2.2) (ix (0 : Int32))))) := rfl
    rw [hsp] at hE
    exact hE _ _ _ _ hP hD hS d_X_instruction_275
  refine lv_if_ne (tgt := 268) hx hb d_X_instruction_253 (by decide) (fun h1 => ?_) (fun h1 => ?_)
  ·
    refine lv_aload_n hx hb d_X_instruction_268 rfl (lv_at hl 7 rfl) ?_
    refine zz_get (C := R_X) (T := F_X) (N := 27) (v := .ref yO) hx hb hts in_X hown hK hP 0 rfl rfl 4 (by decide) mw_68 rfl d_X_instruction_269 ?_
    refine lv_iconst (v := (0 : Int32)) hx hb d_X_instruction_272 (by decide) ?_
    refine va_iald hx hb hK hP 4 0 rfl rfl (zz_inc (by decide)) d_X_instruction_273 ?_
    exact J253_2 (((s_X_context21 v_x v_M v_d v_a v_o v_lo v_hi v_ri (a1 >>> ((16 : Int32) &&& 31))).2.2.2.2) (ix (0 : Int32))) _ _ _ (by rw [if_neg h1]) (lv_sub hl [0, 1, 2, 3, 4, 5, 6, 7, 8] rfl) hP hD hS
  ·
    refine lv_aload_n hx hb d_X_instruction_256 rfl (lv_at hl 7 rfl) ?_
    refine zz_get (C := R_X) (T := F_X) (N := 27) (v := .int (((s_X_context21 v_x v_M v_d v_a v_o v_lo v_hi v_ri (a1 >>> ((16 : Int32) &&& 31))).2.1) 7)) hx hb hts in_X hown hK hP 0 rfl rfl 11 (by decide) mw_78 rfl d_X_instruction_257 ?_
    refine lv_if_eq (tgt := 268) hx hb d_X_instruction_260 (by decide) (fun h2 => ?_) (fun h2 => ?_)
    ·
      refine lv_aload_n hx hb d_X_instruction_268 rfl (lv_at hl 7 rfl) ?_
      refine zz_get (C := R_X) (T := F_X) (N := 27) (v := .ref yO) hx hb hts in_X hown hK hP 0 rfl rfl 4 (by decide) mw_68 rfl d_X_instruction_269 ?_
      refine lv_iconst (v := (0 : Int32)) hx hb d_X_instruction_272 (by decide) ?_
      refine va_iald hx hb hK hP 4 0 rfl rfl (zz_inc (by decide)) d_X_instruction_273 ?_
      exact J253_2 (((s_X_context21 v_x v_M v_d v_a v_o v_lo v_hi v_ri (a1 >>> ((16 : Int32) &&& 31))).2.2.2.2) (ix (0 : Int32))) _ _ _ (by rw [if_pos h1, if_pos h2]) (lv_sub hl [0, 1, 2, 3, 4, 5, 6, 7, 8] rfl) hP hD hS
    ·
      refine lv_iload hx hb d_X_instruction_263 (lv_at hl 0 rfl) ?_
      refine lv_goto (tgt := 274) hx hb d_X_instruction_265 (by decide) ?_
      exact J253_2 ((s_X_context21 v_x v_M v_d v_a v_o v_lo v_hi v_ri (a1 >>> ((16 : Int32) &&& 31))).1) _ _ _ (by rw [if_pos h1, if_neg h2]) (lv_sub hl [0, 1, 2, 3, 4, 5, 6, 7, 8] rfl) hP hD hS
set_option maxHeartbeats 4000000 in
set_option maxRecDepth 100000 in
theorem k_X_instr22 (l : Launch) (D : va_G) (cI : ClassId) (sz : Nat) (yX : Nat) (yM : Nat) (yD : Nat) (yA : Nat) (yO : Nat) (yL : Nat) (yH : Nat) (yI : Nat) (v_x : Nat → Int32) (v_M : Nat → Int32) (v_d : Nat → Int32) (v_a : Nat → Int32) (v_o : Nat → Int32) (v_lo : Nat → Int32) (v_hi : Nat → Int32) (v_ri : Nat → Int32) (a1 : Int32) (hop : (a1 &&& (31 : Int32)) = (22 : Int32)) (heb : v_x 5 = 0 ∨ v_x 5 = 1) : zMv l y_X_instruction (.code y_X_instruction b_X_instruction 9 (none) :: wd) { frames := 4, cells := 0, slots := 0, locals := 100 } D classes [(cI, .int)] [.ref yX, .int a1] [oX yX yM yD yA yO yL yH yI v_x, ar cI yM 512 v_M, ar cI yD 8 v_d, ar cI yA 8 v_a, ar cI yO 4 v_o, ar cI yL 6 v_lo, ar cI yH 6 v_hi, ar cI yI 6 v_ri] [oX yX yM yD yA yO yL yH yI ((s_X_instr22 v_x v_M v_d v_a v_o v_lo v_hi v_ri a1).1), ar cI yM 512 ((s_X_instr22 v_x v_M v_d v_a v_o v_lo v_hi v_ri a1).2.1), ar cI yD 8 ((s_X_instr22 v_x v_M v_d v_a v_o v_lo v_hi v_ri a1).2.2.1), ar cI yA 8 ((s_X_instr22 v_x v_M v_d v_a v_o v_lo v_hi v_ri a1).2.2.2.1), ar cI yO 4 ((s_X_instr22 v_x v_M v_d v_a v_o v_lo v_hi v_ri a1).2.2.2.2), ar cI yL 6 v_lo, ar cI yH 6 v_hi, ar cI yI 6 v_ri] sz := by
  refine met_v (by decide) (Nat.le_of_ble_eq_true rfl) ?_
  intro p e s m args below meth c A Q ls hx hb hml hown hts hK hP hD hS hA hl hE
  have hl : lv_has ls 9 [(0, .ref yX), (1, .int a1)] := hl
  have hown : s.vm.findClass R_X = some m.cls := hown
  refine lv_iload_n hx hb d_X_instruction_0 rfl (lv_at hl 1 rfl) ?_
  refine lv_bipush (v := (31 : Int32)) hx hb d_X_instruction_1 (by decide) ?_
  refine lv_iand hx hb d_X_instruction_3 ?_
  refine lv_topi (fun zz ez => ?_)
  obtain rfl : zz = (22 : Int32) := ez.trans hop
  refine lv_istore_n (lv' := [(2, .int (22 : Int32)), (0, .ref yX), (1, .int a1)]) hx hb d_X_instruction_4 rfl hl (by decide) rfl (fun ls hl => ?_)
  refine lv_iload_n hx hb d_X_instruction_5 rfl (lv_at hl 2 rfl) ?_
  refine lv_iconst (v := (5 : Int32)) hx hb d_X_instruction_6 (by decide) ?_
  refine lv_ishr hx hb d_X_instruction_7 ?_
  refine lv_bipush (v := (7 : Int32)) hx hb d_X_instruction_8 (by decide) ?_
  refine lv_iand hx hb d_X_instruction_10 ?_
  refine lv_istore_n (lv' := [(3, .int ((a1 >>> ((5 : Int32) &&& 31)) &&& (7 : Int32))), (2, .int (22 : Int32)), (0, .ref yX), (1, .int a1)]) hx hb d_X_instruction_11 rfl hl (by decide) rfl (fun ls hl => ?_)
  refine lv_iload_n hx hb d_X_instruction_12 rfl (lv_at hl 3 rfl) ?_
  show W p l e _ s m args below meth c _ _ _ _ Q (F0 m 13 ls _)
  refine lv_bipush (v := (8 : Int32)) hx hb d_X_instruction_13 (by decide) ?_
  refine lv_ishr hx hb d_X_instruction_15 ?_
  refine lv_bipush (v := (7 : Int32)) hx hb d_X_instruction_16 (by decide) ?_
  refine lv_iand hx hb d_X_instruction_18 ?_
  refine lv_istore (lv' := [(4, .int ((a1 >>> ((8 : Int32) &&& 31)) &&& (7 : Int32))), (3, .int ((a1 >>> ((5 : Int32) &&& 31)) &&& (7 : Int32))), (2, .int (22 : Int32)), (0, .ref yX), (1, .int a1)]) hx hb d_X_instruction_19 hl (by decide) rfl (fun ls hl => ?_)
  refine lv_iload_n hx hb d_X_instruction_21 rfl (lv_at hl 4 rfl) ?_
  refine lv_bipush (v := (11 : Int32)) hx hb d_X_instruction_22 (by decide) ?_
  refine lv_ishr hx hb d_X_instruction_24 ?_
  refine lv_bipush (v := (7 : Int32)) hx hb d_X_instruction_25 (by decide) ?_
  refine lv_iand hx hb d_X_instruction_27 ?_
  refine lv_istore (lv' := [(5, .int ((a1 >>> ((11 : Int32) &&& 31)) &&& (7 : Int32))), (4, .int ((a1 >>> ((8 : Int32) &&& 31)) &&& (7 : Int32))), (3, .int ((a1 >>> ((5 : Int32) &&& 31)) &&& (7 : Int32))), (2, .int (22 : Int32)), (0, .ref yX), (1, .int a1)]) hx hb d_X_instruction_28 hl (by decide) rfl (fun ls hl => ?_)
  refine lv_iload_n hx hb d_X_instruction_30 rfl (lv_at hl 5 rfl) ?_
  show W p l e _ s m args below meth c _ _ _ _ Q (F0 m 31 ls _)
  refine lv_bipush (v := (16 : Int32)) hx hb d_X_instruction_31 (by decide) ?_
  refine lv_ishr hx hb d_X_instruction_33 ?_
  refine lv_istore (lv' := [(6, .int (a1 >>> ((16 : Int32) &&& 31))), (5, .int ((a1 >>> ((11 : Int32) &&& 31)) &&& (7 : Int32))), (4, .int ((a1 >>> ((8 : Int32) &&& 31)) &&& (7 : Int32))), (3, .int ((a1 >>> ((5 : Int32) &&& 31)) &&& (7 : Int32))), (2, .int (22 : Int32)), (0, .ref yX), (1, .int a1)]) hx hb d_X_instruction_34 hl (by decide) rfl (fun ls hl => ?_)
  refine lv_iload_n hx hb d_X_instruction_36 rfl (lv_at hl 4 rfl) ?_
  refine lv_bipush (v := (25 : Int32)) hx hb d_X_instruction_37 (by decide) ?_
  refine lv_icmp_eq (tgt := 66) hx hb d_X_instruction_39 (by decide) (fun hh => absurd hh (by decide)) (fun _ => ?_)
  refine lv_iload_n hx hb d_X_instruction_42 rfl (lv_at hl 4 rfl) ?_
  refine lv_bipush (v := (26 : Int32)) hx hb d_X_instruction_43 (by decide) ?_
  refine lv_icmp_eq (tgt := 66) hx hb d_X_instruction_45 (by decide) (fun hh => absurd hh (by decide)) (fun _ => ?_)
  refine lv_iload_n hx hb d_X_instruction_48 rfl (lv_at hl 4 rfl) ?_
  refine lv_bipush (v := (28 : Int32)) hx hb d_X_instruction_49 (by decide) ?_
  refine lv_icmp_eq (tgt := 66) hx hb d_X_instruction_51 (by decide) (fun hh => absurd hh (by decide)) (fun _ => ?_)
  refine lv_iload_n hx hb d_X_instruction_54 rfl (lv_at hl 4 rfl) ?_
  refine lv_bipush (v := (29 : Int32)) hx hb d_X_instruction_55 (by decide) ?_
  refine lv_icmp_eq (tgt := 66) hx hb d_X_instruction_57 (by decide) (fun hh => absurd hh (by decide)) (fun _ => ?_)
  refine lv_iload_n hx hb d_X_instruction_60 rfl (lv_at hl 4 rfl) ?_
  refine lv_bipush (v := (31 : Int32)) hx hb d_X_instruction_61 (by decide) ?_
  refine lv_icmp_ne (tgt := 70) hx hb d_X_instruction_63 (by decide) (fun _ => ?_) (fun hh => absurd hh (by decide))
  refine lv_iconst (v := (0 : Int32)) hx hb d_X_instruction_70 (by decide) ?_
  refine lv_istore (lv' := [(7, .int (0 : Int32)), (6, .int (a1 >>> ((16 : Int32) &&& 31))), (5, .int ((a1 >>> ((11 : Int32) &&& 31)) &&& (7 : Int32))), (4, .int ((a1 >>> ((8 : Int32) &&& 31)) &&& (7 : Int32))), (3, .int ((a1 >>> ((5 : Int32) &&& 31)) &&& (7 : Int32))), (2, .int (22 : Int32)), (0, .ref yX), (1, .int a1)]) hx hb d_X_instruction_71 hl (by decide) rfl (fun ls hl => ?_)
  refine lv_iload hx hb d_X_instruction_73 (lv_at hl 0 rfl) ?_
  refine lv_if_eq (tgt := 86) hx hb d_X_instruction_75 (by decide) (fun _ => ?_) (fun hh => absurd hh (by decide))
  refine lv_iload_n hx hb d_X_instruction_86 rfl (lv_at hl 5 rfl) ?_
  refine lv_bipush (v := (30 : Int32)) hx hb d_X_instruction_87 (by decide) ?_
  refine lv_icmp_ne (tgt := 111) hx hb d_X_instruction_89 (by decide) (fun _ => ?_) (fun hh => absurd hh (by decide))
  refine lv_aload_n hx hb d_X_instruction_111 rfl (lv_at hl 6 rfl) ?_
  refine zz_get (C := R_X) (T := F_X) (N := 27) (v := .ref yO) hx hb hts in_X hown hK hP 0 rfl rfl 4 (by decide) mw_68 rfl d_X_instruction_112 ?_
  refine lv_iconst (v := (0 : Int32)) hx hb d_X_instruction_115 (by decide) ?_
  refine va_iald hx hb hK hP 4 0 rfl rfl (zz_inc (by decide)) d_X_instruction_116 ?_
  refine lv_iconst (v := (1 : Int32)) hx hb d_X_instruction_117 (by decide) ?_
  refine lv_iadd hx hb d_X_instruction_118 ?_
  refine lv_istore (lv' := [(8, .int ((v_o (ix (0 : Int32))) + (1 : Int32))), (7, .int (0 : Int32)), (6, .int (a1 >>> ((16 : Int32) &&& 31))), (5, .int ((a1 >>> ((11 : Int32) &&& 31)) &&& (7 : Int32))), (4, .int ((a1 >>> ((8 : Int32) &&& 31)) &&& (7 : Int32))), (3, .int ((a1 >>> ((5 : Int32) &&& 31)) &&& (7 : Int32))), (2, .int (22 : Int32)), (0, .ref yX), (1, .int a1)]) hx hb d_X_instruction_119 hl (by decide) rfl (fun ls hl => ?_)
  refine lv_iload_n hx hb d_X_instruction_121 rfl (lv_at hl 6 rfl) ?_
  refine lv_if_le (tgt := 146) hx hb d_X_instruction_122 (by decide) (fun hh => absurd hh (by decide)) (fun _ => ?_)
  refine lv_iload_n hx hb d_X_instruction_125 rfl (lv_at hl 6 rfl) ?_
  refine lv_bipush (v := (13 : Int32)) hx hb d_X_instruction_126 (by decide) ?_
  refine lv_icmp_ge (tgt := 146) hx hb d_X_instruction_128 (by decide) (fun _ => ?_) (fun hh => absurd hh (by decide))
  refine lv_iload_n hx hb d_X_instruction_146 rfl (lv_at hl 6 rfl) ?_
  refine lv_bipush (v := (12 : Int32)) hx hb d_X_instruction_147 (by decide) ?_
  refine lv_icmp_le (tgt := 171) hx hb d_X_instruction_149 (by decide) (fun hh => absurd hh (by decide)) (fun _ => ?_)
  refine lv_iload_n hx hb d_X_instruction_152 rfl (lv_at hl 6 rfl) ?_
  refine lv_bipush (v := (18 : Int32)) hx hb d_X_instruction_153 (by decide) ?_
  refine lv_icmp_ge (tgt := 171) hx hb d_X_instruction_155 (by decide) (fun _ => ?_) (fun hh => absurd hh (by decide))
  refine lv_iload_n hx hb d_X_instruction_171 rfl (lv_at hl 6 rfl) ?_
  refine lv_bipush (v := (17 : Int32)) hx hb d_X_instruction_172 (by decide) ?_
  refine lv_icmp_le (tgt := 213) hx hb d_X_instruction_174 (by decide) (fun hh => absurd hh (by decide)) (fun _ => ?_)
  refine lv_iload_n hx hb d_X_instruction_177 rfl (lv_at hl 6 rfl) ?_
  refine lv_bipush (v := (21 : Int32)) hx hb d_X_instruction_178 (by decide) ?_
  refine lv_icmp_ge (tgt := 213) hx hb d_X_instruction_180 (by decide) (fun _ => ?_) (fun hh => absurd hh (by decide))
  refine lv_iload_n hx hb d_X_instruction_213 rfl (lv_at hl 6 rfl) ?_
  refine lv_bipush (v := (20 : Int32)) hx hb d_X_instruction_214 (by decide) ?_
  refine lv_icmp_le (tgt := 237) hx hb d_X_instruction_216 (by decide) (fun hh => absurd hh (by decide)) (fun _ => ?_)
  refine lv_iload_n hx hb d_X_instruction_219 rfl (lv_at hl 6 rfl) ?_
  refine lv_bipush (v := (27 : Int32)) hx hb d_X_instruction_220 (by decide) ?_
  refine lv_icmp_ge (tgt := 237) hx hb d_X_instruction_222 (by decide) (fun hh => absurd hh (by decide)) (fun _ => ?_)
  refine lv_aload_n hx hb d_X_instruction_225 rfl (lv_at hl 7 rfl) ?_
  refine lv_iload_n hx hb d_X_instruction_226 rfl (lv_at hl 6 rfl) ?_
  refine lv_iload hx hb d_X_instruction_227 (lv_at hl 2 rfl) ?_
  refine zz_cVi (rest := []) (wr := []) (w' := [oX yX yM yD yA yO yL yH yI ((s_X_context22 v_x v_M v_d v_a v_o v_lo v_hi v_ri (a1 >>> ((16 : Int32) &&& 31))).2.1), ar cI yM 512 ((s_X_context22 v_x v_M v_d v_a v_o v_lo v_hi v_ri (a1 >>> ((16 : Int32) &&& 31))).2.2.1), ar cI yD 8 ((s_X_context22 v_x v_M v_d v_a v_o v_lo v_hi v_ri (a1 >>> ((16 : Int32) &&& 31))).2.2.2.1), ar cI yA 8 ((s_X_context22 v_x v_M v_d v_a v_o v_lo v_hi v_ri (a1 >>> ((16 : Int32) &&& 31))).2.2.2.2.1), ar cI yO 4 ((s_X_context22 v_x v_M v_d v_a v_o v_lo v_hi v_ri (a1 >>> ((16 : Int32) &&& 31))).2.2.2.2.2), ar cI yL 6 v_lo, ar cI yH 6 v_hi, ar cI yI 6 v_ri]) ⟨hx, hb, hml, hown, hts⟩ (k_X_context22 l D cI _ yX yM yD yA yO yL yH yI v_x v_M v_d v_a v_o v_lo v_hi v_ri (a1 >>> ((16 : Int32) &&& 31)) heb) g_X_instruction_X_context_123 nv_X_context ⟨⟨rfl, rfl⟩, Nat.le_of_ble_eq_true rfl, Nat.le_of_ble_eq_true rfl⟩ hK [0] rfl hP hD hS hA [0, 1, 2, 3, 4, 5, 6, 7] [] [0, 1, 2, 3, 4, 5, 6, 7] rfl rfl rfl rfl (by decide) rfl rfl 0 6 rfl rfl rfl rfl hl.1 (Nat.le_of_ble_eq_true rfl) d_X_instruction_229 ⟨Nat.zero_le _, Nat.zero_le _⟩ (fun H locs hP hD hS => ?_)
  refine lv_istore (lv' := [(8, .int ((s_X_context22 v_x v_M v_d v_a v_o v_lo v_hi v_ri (a1 >>> ((16 : Int32) &&& 31))).1)), (7, .int (0 : Int32)), (6, .int (a1 >>> ((16 : Int32) &&& 31))), (5, .int ((a1 >>> ((11 : Int32) &&& 31)) &&& (7 : Int32))), (4, .int ((a1 >>> ((8 : Int32) &&& 31)) &&& (7 : Int32))), (3, .int ((a1 >>> ((5 : Int32) &&& 31)) &&& (7 : Int32))), (2, .int (22 : Int32)), (0, .ref yX), (1, .int a1)]) hx hb d_X_instruction_232 hl (by decide) rfl (fun ls hl => ?_)
  refine lv_goto (tgt := 244) hx hb d_X_instruction_234 (by decide) ?_
  refine lv_aload_n hx hb d_X_instruction_244 rfl (lv_at hl 7 rfl) ?_
  refine zz_get (C := R_X) (T := F_X) (N := 27) (v := .ref yO) hx hb hts in_X hown hK hP 0 rfl rfl 4 (by decide) mw_68 rfl d_X_instruction_245 ?_
  refine lv_iconst (v := (0 : Int32)) hx hb d_X_instruction_248 (by decide) ?_
  refine lv_aload_n hx hb d_X_instruction_249 rfl (lv_at hl 7 rfl) ?_
  refine zz_get (C := R_X) (T := F_X) (N := 27) (v := .int (((s_X_context22 v_x v_M v_d v_a v_o v_lo v_hi v_ri (a1 >>> ((16 : Int32) &&& 31))).2.1) 19)) hx hb hts in_X hown hK hP 0 rfl rfl 26 (by decide) mw_79 rfl d_X_instruction_250 ?_
  show W p l e _ s m args below meth c _ _ _ _ Q (F0 m 253 ls _)
  have J253_2 : ∀ (vj253_0 : Int32) (ls : Array Slot) (H : Heap) (locs : List Loc), vj253_0 = (if (((s_X_context22 v_x v_M v_d v_a v_o v_lo v_hi v_ri (a1 >>> ((16 : Int32) &&& 31))).2.1) 19) = 0 then (if (((s_X_context22 v_x v_M v_d v_a v_o v_lo v_hi v_ri (a1 >>> ((16 : Int32) &&& 31))).2.1) 7) = 0 then (((s_X_context22 v_x v_M v_d v_a v_o v_lo v_hi v_ri (a1 >>> ((16 : Int32) &&& 31))).2.2.2.2.2) (ix (0 : Int32))) else (s_X_context22 v_x v_M v_d v_a v_o v_lo v_hi v_ri (a1 >>> ((16 : Int32) &&& 31))).1) else (((s_X_context22 v_x v_M v_d v_a v_o v_lo v_hi v_ri (a1 >>> ((16 : Int32) &&& 31))).2.2.2.2.2) (ix (0 : Int32)))) → lv_has ls 9 [(8, .int ((s_X_context22 v_x v_M v_d v_a v_o v_lo v_hi v_ri (a1 >>> ((16 : Int32) &&& 31))).1)), (7, .int (0 : Int32)), (6, .int (a1 >>> ((16 : Int32) &&& 31))), (5, .int ((a1 >>> ((11 : Int32) &&& 31)) &&& (7 : Int32))), (4, .int ((a1 >>> ((8 : Int32) &&& 31)) &&& (7 : Int32))), (3, .int ((a1 >>> ((5 : Int32) &&& 31)) &&& (7 : Int32))), (2, .int (22 : Int32)), (0, .ref yX), (1, .int a1)] → va_P D classes [oX yX yM yD yA yO yL yH yI ((s_X_context22 v_x v_M v_d v_a v_o v_lo v_hi v_ri (a1 >>> ((16 : Int32) &&& 31))).2.1), ar cI yM 512 ((s_X_context22 v_x v_M v_d v_a v_o v_lo v_hi v_ri (a1 >>> ((16 : Int32) &&& 31))).2.2.1), ar cI yD 8 ((s_X_context22 v_x v_M v_d v_a v_o v_lo v_hi v_ri (a1 >>> ((16 : Int32) &&& 31))).2.2.2.1), ar cI yA 8 ((s_X_context22 v_x v_M v_d v_a v_o v_lo v_hi v_ri (a1 >>> ((16 : Int32) &&& 31))).2.2.2.2.1), ar cI yO 4 ((s_X_context22 v_x v_M v_d v_a v_o v_lo v_hi v_ri (a1 >>> ((16 : Int32) &&& 31))).2.2.2.2.2), ar cI yL 6 v_lo, ar cI yH 6 v_hi, ar cI yI 6 v_ri] H → va_D A [oX yX yM yD yA yO yL yH yI ((s_X_context22 v_x v_M v_d v_a v_o v_lo v_hi v_ri (a1 >>> ((16 : Int32) &&& 31))).2.1), ar cI yM 512 ((s_X_context22 v_x v_M v_d v_a v_o v_lo v_hi v_ri (a1 >>> ((16 : Int32) &&& 31))).2.2.1), ar cI yD 8 ((s_X_context22 v_x v_M v_d v_a v_o v_lo v_hi v_ri (a1 >>> ((16 : Int32) &&& 31))).2.2.2.1), ar cI yA 8 ((s_X_context22 v_x v_M v_d v_a v_o v_lo v_hi v_ri (a1 >>> ((16 : Int32) &&& 31))).2.2.2.2.1), ar cI yO 4 ((s_X_context22 v_x v_M v_d v_a v_o v_lo v_hi v_ri (a1 >>> ((16 : Int32) &&& 31))).2.2.2.2.2), ar cI yL 6 v_lo, ar cI yH 6 v_hi, ar cI yI 6 v_ri] → va_S A s.heap H locs → W p l e { frames := 4, cells := 0, slots := 0, locals := 100 } s m args below meth c H locs 0 0 Q (F0 m 274 ls [.int vj253_0, .int (0 : Int32), .ref yO]) := by
    intro vj253_0 ls H locs evj253_0 hl hP hD hS
    subst evj253_0
    refine zz_iast (w' := [oX yX yM yD yA yO yL yH yI ((s_X_context22 v_x v_M v_d v_a v_o v_lo v_hi v_ri (a1 >>> ((16 : Int32) &&& 31))).2.1), ar cI yM 512 ((s_X_context22 v_x v_M v_d v_a v_o v_lo v_hi v_ri (a1 >>> ((16 : Int32) &&& 31))).2.2.1), ar cI yD 8 ((s_X_context22 v_x v_M v_d v_a v_o v_lo v_hi v_ri (a1 >>> ((16 : Int32) &&& 31))).2.2.2.1), ar cI yA 8 ((s_X_context22 v_x v_M v_d v_a v_o v_lo v_hi v_ri (a1 >>> ((16 : Int32) &&& 31))).2.2.2.2.1), ar cI yO 4 (upd ((s_X_context22 v_x v_M v_d v_a v_o v_lo v_hi v_ri (a1 >>> ((16 : Int32) &&& 31))).2.2.2.2.2) (ix (0 : Int32)) (if (((s_X_context22 v_x v_M v_d v_a v_o v_lo v_hi v_ri (a1 >>> ((16 : Int32) &&& 31))).2.1) 19) = 0 then (if (((s_X_context22 v_x v_M v_d v_a v_o v_lo v_hi v_ri (a1 >>> ((16 : Int32) &&& 31))).2.1) 7) = 0 then (((s_X_context22 v_x v_M v_d v_a v_o v_lo v_hi v_ri (a1 >>> ((16 : Int32) &&& 31))).2.2.2.2.2) (ix (0 : Int32))) else (s_X_context22 v_x v_M v_d v_a v_o v_lo v_hi v_ri (a1 >>> ((16 : Int32) &&& 31))).1) else (((s_X_context22 v_x v_M v_d v_a v_o v_lo v_hi v_ri (a1 >>> ((16 : Int32) &&& 31))).2.2.2.2.2) (ix (0 : Int32))))), ar cI yL 6 v_lo, ar cI yH 6 v_hi, ar cI yI 6 v_ri]) hx hb hK hP hD hS 4 0 rfl rfl (zz_inc (by decide)) d_X_instruction_274 rfl (fun H locs hP hD hS => ?_)
    have hsp : s_X_instr22 v_x v_M v_d v_a v_o v_lo v_hi v_ri a1 = ((s_X_context22 v_x v_M v_d v_a v_o v_lo v_hi v_ri (a1 >>> ((16 : Int32) &&& 31))).2.1, (s_X_context22 v_x v_M v_d v_a v_o v_lo v_hi v_ri (a1 >>> ((16 : Int32) &&& 31))).2.2.1, (s_X_context22 v_x v_M v_d v_a v_o v_lo v_hi v_ri (a1 >>> ((16 : Int32) &&& 31))).2.2.2.1, (s_X_context22 v_x v_M v_d v_a v_o v_lo v_hi v_ri (a1 >>> ((16 : Int32) &&& 31))).2.2.2.2.1, upd ((s_X_context22 v_x v_M v_d v_a v_o v_lo v_hi v_ri (a1 >>> ((16 : Int32) &&& 31))).2.2.2.2.2) (ix (0 : Int32)) (if (((s_X_context22 v_x v_M v_d v_a v_o v_lo v_hi v_ri (a1 >>> ((16 : Int32) &&& 31))).2.1) 19) = 0 then (if (((s_X_context22 v_x v_M v_d v_a v_o v_lo v_hi v_ri (a1 >>> ((16 : Int32) &&& 31))).2.1) 7) = 0 then (((s_X_context22 v_x v_M v_d v_a v_o v_lo v_hi v_ri (a1 >>> ((16 : Int32) &&& 31))).2.2.2.2.2) (ix (0 : Int32))) else (s_X_context22 v_x v_M v_d v_a v_o v_lo v_hi v_ri (a1 >>> ((16 : Int32) &&& 31))).1) else (((s_X_context22 v_x v_M v_d v_a v_o v_lo v_hi v_ri (a1 >>> ((16 : Int32) &&& 31))).2.2.2.2.2) (ix (0 : Int32))))) := rfl
    rw [hsp] at hE
    exact hE _ _ _ _ hP hD hS d_X_instruction_275
  refine lv_if_ne (tgt := 268) hx hb d_X_instruction_253 (by decide) (fun h1 => ?_) (fun h1 => ?_)
  ·
    refine lv_aload_n hx hb d_X_instruction_268 rfl (lv_at hl 7 rfl) ?_
    refine zz_get (C := R_X) (T := F_X) (N := 27) (v := .ref yO) hx hb hts in_X hown hK hP 0 rfl rfl 4 (by decide) mw_68 rfl d_X_instruction_269 ?_
    refine lv_iconst (v := (0 : Int32)) hx hb d_X_instruction_272 (by decide) ?_
    refine va_iald hx hb hK hP 4 0 rfl rfl (zz_inc (by decide)) d_X_instruction_273 ?_
    exact J253_2 (((s_X_context22 v_x v_M v_d v_a v_o v_lo v_hi v_ri (a1 >>> ((16 : Int32) &&& 31))).2.2.2.2.2) (ix (0 : Int32))) _ _ _ (by rw [if_neg h1]) (lv_sub hl [0, 1, 2, 3, 4, 5, 6, 7, 8] rfl) hP hD hS
  ·
    refine lv_aload_n hx hb d_X_instruction_256 rfl (lv_at hl 7 rfl) ?_
    refine zz_get (C := R_X) (T := F_X) (N := 27) (v := .int (((s_X_context22 v_x v_M v_d v_a v_o v_lo v_hi v_ri (a1 >>> ((16 : Int32) &&& 31))).2.1) 7)) hx hb hts in_X hown hK hP 0 rfl rfl 11 (by decide) mw_78 rfl d_X_instruction_257 ?_
    refine lv_if_eq (tgt := 268) hx hb d_X_instruction_260 (by decide) (fun h2 => ?_) (fun h2 => ?_)
    ·
      refine lv_aload_n hx hb d_X_instruction_268 rfl (lv_at hl 7 rfl) ?_
      refine zz_get (C := R_X) (T := F_X) (N := 27) (v := .ref yO) hx hb hts in_X hown hK hP 0 rfl rfl 4 (by decide) mw_68 rfl d_X_instruction_269 ?_
      refine lv_iconst (v := (0 : Int32)) hx hb d_X_instruction_272 (by decide) ?_
      refine va_iald hx hb hK hP 4 0 rfl rfl (zz_inc (by decide)) d_X_instruction_273 ?_
      exact J253_2 (((s_X_context22 v_x v_M v_d v_a v_o v_lo v_hi v_ri (a1 >>> ((16 : Int32) &&& 31))).2.2.2.2.2) (ix (0 : Int32))) _ _ _ (by rw [if_pos h1, if_pos h2]) (lv_sub hl [0, 1, 2, 3, 4, 5, 6, 7, 8] rfl) hP hD hS
    ·
      refine lv_iload hx hb d_X_instruction_263 (lv_at hl 0 rfl) ?_
      refine lv_goto (tgt := 274) hx hb d_X_instruction_265 (by decide) ?_
      exact J253_2 ((s_X_context22 v_x v_M v_d v_a v_o v_lo v_hi v_ri (a1 >>> ((16 : Int32) &&& 31))).1) _ _ _ (by rw [if_pos h1, if_neg h2]) (lv_sub hl [0, 1, 2, 3, 4, 5, 6, 7, 8] rfl) hP hD hS
set_option maxHeartbeats 4000000 in
set_option maxRecDepth 100000 in
theorem k_X_instr23 (l : Launch) (D : va_G) (cI : ClassId) (sz : Nat) (yX : Nat) (yM : Nat) (yD : Nat) (yA : Nat) (yO : Nat) (yL : Nat) (yH : Nat) (yI : Nat) (v_x : Nat → Int32) (v_M : Nat → Int32) (v_d : Nat → Int32) (v_a : Nat → Int32) (v_o : Nat → Int32) (v_lo : Nat → Int32) (v_hi : Nat → Int32) (v_ri : Nat → Int32) (a1 : Int32) (hop : (a1 &&& (31 : Int32)) = (23 : Int32)) : zMv l y_X_instruction (.code y_X_instruction b_X_instruction 9 (none) :: wd) { frames := 4, cells := 0, slots := 0, locals := 100 } D classes [(cI, .int)] [.ref yX, .int a1] [oX yX yM yD yA yO yL yH yI v_x, ar cI yM 512 v_M, ar cI yD 8 v_d, ar cI yA 8 v_a, ar cI yO 4 v_o, ar cI yL 6 v_lo, ar cI yH 6 v_hi, ar cI yI 6 v_ri] [oX yX yM yD yA yO yL yH yI ((s_X_instr23 v_x v_M v_d v_a v_o v_lo v_hi v_ri a1).1), ar cI yM 512 ((s_X_instr23 v_x v_M v_d v_a v_o v_lo v_hi v_ri a1).2.1), ar cI yD 8 v_d, ar cI yA 8 v_a, ar cI yO 4 ((s_X_instr23 v_x v_M v_d v_a v_o v_lo v_hi v_ri a1).2.2), ar cI yL 6 v_lo, ar cI yH 6 v_hi, ar cI yI 6 v_ri] sz := by
  refine met_v (by decide) (Nat.le_of_ble_eq_true rfl) ?_
  intro p e s m args below meth c A Q ls hx hb hml hown hts hK hP hD hS hA hl hE
  have hl : lv_has ls 9 [(0, .ref yX), (1, .int a1)] := hl
  have hown : s.vm.findClass R_X = some m.cls := hown
  refine lv_iload_n hx hb d_X_instruction_0 rfl (lv_at hl 1 rfl) ?_
  refine lv_bipush (v := (31 : Int32)) hx hb d_X_instruction_1 (by decide) ?_
  refine lv_iand hx hb d_X_instruction_3 ?_
  refine lv_topi (fun zz ez => ?_)
  obtain rfl : zz = (23 : Int32) := ez.trans hop
  refine lv_istore_n (lv' := [(2, .int (23 : Int32)), (0, .ref yX), (1, .int a1)]) hx hb d_X_instruction_4 rfl hl (by decide) rfl (fun ls hl => ?_)
  refine lv_iload_n hx hb d_X_instruction_5 rfl (lv_at hl 2 rfl) ?_
  refine lv_iconst (v := (5 : Int32)) hx hb d_X_instruction_6 (by decide) ?_
  refine lv_ishr hx hb d_X_instruction_7 ?_
  refine lv_bipush (v := (7 : Int32)) hx hb d_X_instruction_8 (by decide) ?_
  refine lv_iand hx hb d_X_instruction_10 ?_
  refine lv_istore_n (lv' := [(3, .int ((a1 >>> ((5 : Int32) &&& 31)) &&& (7 : Int32))), (2, .int (23 : Int32)), (0, .ref yX), (1, .int a1)]) hx hb d_X_instruction_11 rfl hl (by decide) rfl (fun ls hl => ?_)
  refine lv_iload_n hx hb d_X_instruction_12 rfl (lv_at hl 3 rfl) ?_
  show W p l e _ s m args below meth c _ _ _ _ Q (F0 m 13 ls _)
  refine lv_bipush (v := (8 : Int32)) hx hb d_X_instruction_13 (by decide) ?_
  refine lv_ishr hx hb d_X_instruction_15 ?_
  refine lv_bipush (v := (7 : Int32)) hx hb d_X_instruction_16 (by decide) ?_
  refine lv_iand hx hb d_X_instruction_18 ?_
  refine lv_istore (lv' := [(4, .int ((a1 >>> ((8 : Int32) &&& 31)) &&& (7 : Int32))), (3, .int ((a1 >>> ((5 : Int32) &&& 31)) &&& (7 : Int32))), (2, .int (23 : Int32)), (0, .ref yX), (1, .int a1)]) hx hb d_X_instruction_19 hl (by decide) rfl (fun ls hl => ?_)
  refine lv_iload_n hx hb d_X_instruction_21 rfl (lv_at hl 4 rfl) ?_
  refine lv_bipush (v := (11 : Int32)) hx hb d_X_instruction_22 (by decide) ?_
  refine lv_ishr hx hb d_X_instruction_24 ?_
  refine lv_bipush (v := (7 : Int32)) hx hb d_X_instruction_25 (by decide) ?_
  refine lv_iand hx hb d_X_instruction_27 ?_
  refine lv_istore (lv' := [(5, .int ((a1 >>> ((11 : Int32) &&& 31)) &&& (7 : Int32))), (4, .int ((a1 >>> ((8 : Int32) &&& 31)) &&& (7 : Int32))), (3, .int ((a1 >>> ((5 : Int32) &&& 31)) &&& (7 : Int32))), (2, .int (23 : Int32)), (0, .ref yX), (1, .int a1)]) hx hb d_X_instruction_28 hl (by decide) rfl (fun ls hl => ?_)
  refine lv_iload_n hx hb d_X_instruction_30 rfl (lv_at hl 5 rfl) ?_
  show W p l e _ s m args below meth c _ _ _ _ Q (F0 m 31 ls _)
  refine lv_bipush (v := (16 : Int32)) hx hb d_X_instruction_31 (by decide) ?_
  refine lv_ishr hx hb d_X_instruction_33 ?_
  refine lv_istore (lv' := [(6, .int (a1 >>> ((16 : Int32) &&& 31))), (5, .int ((a1 >>> ((11 : Int32) &&& 31)) &&& (7 : Int32))), (4, .int ((a1 >>> ((8 : Int32) &&& 31)) &&& (7 : Int32))), (3, .int ((a1 >>> ((5 : Int32) &&& 31)) &&& (7 : Int32))), (2, .int (23 : Int32)), (0, .ref yX), (1, .int a1)]) hx hb d_X_instruction_34 hl (by decide) rfl (fun ls hl => ?_)
  refine lv_iload_n hx hb d_X_instruction_36 rfl (lv_at hl 4 rfl) ?_
  refine lv_bipush (v := (25 : Int32)) hx hb d_X_instruction_37 (by decide) ?_
  refine lv_icmp_eq (tgt := 66) hx hb d_X_instruction_39 (by decide) (fun hh => absurd hh (by decide)) (fun _ => ?_)
  refine lv_iload_n hx hb d_X_instruction_42 rfl (lv_at hl 4 rfl) ?_
  refine lv_bipush (v := (26 : Int32)) hx hb d_X_instruction_43 (by decide) ?_
  refine lv_icmp_eq (tgt := 66) hx hb d_X_instruction_45 (by decide) (fun hh => absurd hh (by decide)) (fun _ => ?_)
  refine lv_iload_n hx hb d_X_instruction_48 rfl (lv_at hl 4 rfl) ?_
  refine lv_bipush (v := (28 : Int32)) hx hb d_X_instruction_49 (by decide) ?_
  refine lv_icmp_eq (tgt := 66) hx hb d_X_instruction_51 (by decide) (fun hh => absurd hh (by decide)) (fun _ => ?_)
  refine lv_iload_n hx hb d_X_instruction_54 rfl (lv_at hl 4 rfl) ?_
  refine lv_bipush (v := (29 : Int32)) hx hb d_X_instruction_55 (by decide) ?_
  refine lv_icmp_eq (tgt := 66) hx hb d_X_instruction_57 (by decide) (fun hh => absurd hh (by decide)) (fun _ => ?_)
  refine lv_iload_n hx hb d_X_instruction_60 rfl (lv_at hl 4 rfl) ?_
  refine lv_bipush (v := (31 : Int32)) hx hb d_X_instruction_61 (by decide) ?_
  refine lv_icmp_ne (tgt := 70) hx hb d_X_instruction_63 (by decide) (fun _ => ?_) (fun hh => absurd hh (by decide))
  refine lv_iconst (v := (0 : Int32)) hx hb d_X_instruction_70 (by decide) ?_
  refine lv_istore (lv' := [(7, .int (0 : Int32)), (6, .int (a1 >>> ((16 : Int32) &&& 31))), (5, .int ((a1 >>> ((11 : Int32) &&& 31)) &&& (7 : Int32))), (4, .int ((a1 >>> ((8 : Int32) &&& 31)) &&& (7 : Int32))), (3, .int ((a1 >>> ((5 : Int32) &&& 31)) &&& (7 : Int32))), (2, .int (23 : Int32)), (0, .ref yX), (1, .int a1)]) hx hb d_X_instruction_71 hl (by decide) rfl (fun ls hl => ?_)
  refine lv_iload hx hb d_X_instruction_73 (lv_at hl 0 rfl) ?_
  refine lv_if_eq (tgt := 86) hx hb d_X_instruction_75 (by decide) (fun _ => ?_) (fun hh => absurd hh (by decide))
  refine lv_iload_n hx hb d_X_instruction_86 rfl (lv_at hl 5 rfl) ?_
  refine lv_bipush (v := (30 : Int32)) hx hb d_X_instruction_87 (by decide) ?_
  refine lv_icmp_ne (tgt := 111) hx hb d_X_instruction_89 (by decide) (fun _ => ?_) (fun hh => absurd hh (by decide))
  refine lv_aload_n hx hb d_X_instruction_111 rfl (lv_at hl 6 rfl) ?_
  refine zz_get (C := R_X) (T := F_X) (N := 27) (v := .ref yO) hx hb hts in_X hown hK hP 0 rfl rfl 4 (by decide) mw_68 rfl d_X_instruction_112 ?_
  refine lv_iconst (v := (0 : Int32)) hx hb d_X_instruction_115 (by decide) ?_
  refine va_iald hx hb hK hP 4 0 rfl rfl (zz_inc (by decide)) d_X_instruction_116 ?_
  refine lv_iconst (v := (1 : Int32)) hx hb d_X_instruction_117 (by decide) ?_
  refine lv_iadd hx hb d_X_instruction_118 ?_
  refine lv_istore (lv' := [(8, .int ((v_o (ix (0 : Int32))) + (1 : Int32))), (7, .int (0 : Int32)), (6, .int (a1 >>> ((16 : Int32) &&& 31))), (5, .int ((a1 >>> ((11 : Int32) &&& 31)) &&& (7 : Int32))), (4, .int ((a1 >>> ((8 : Int32) &&& 31)) &&& (7 : Int32))), (3, .int ((a1 >>> ((5 : Int32) &&& 31)) &&& (7 : Int32))), (2, .int (23 : Int32)), (0, .ref yX), (1, .int a1)]) hx hb d_X_instruction_119 hl (by decide) rfl (fun ls hl => ?_)
  refine lv_iload_n hx hb d_X_instruction_121 rfl (lv_at hl 6 rfl) ?_
  refine lv_if_le (tgt := 146) hx hb d_X_instruction_122 (by decide) (fun hh => absurd hh (by decide)) (fun _ => ?_)
  refine lv_iload_n hx hb d_X_instruction_125 rfl (lv_at hl 6 rfl) ?_
  refine lv_bipush (v := (13 : Int32)) hx hb d_X_instruction_126 (by decide) ?_
  refine lv_icmp_ge (tgt := 146) hx hb d_X_instruction_128 (by decide) (fun _ => ?_) (fun hh => absurd hh (by decide))
  refine lv_iload_n hx hb d_X_instruction_146 rfl (lv_at hl 6 rfl) ?_
  refine lv_bipush (v := (12 : Int32)) hx hb d_X_instruction_147 (by decide) ?_
  refine lv_icmp_le (tgt := 171) hx hb d_X_instruction_149 (by decide) (fun hh => absurd hh (by decide)) (fun _ => ?_)
  refine lv_iload_n hx hb d_X_instruction_152 rfl (lv_at hl 6 rfl) ?_
  refine lv_bipush (v := (18 : Int32)) hx hb d_X_instruction_153 (by decide) ?_
  refine lv_icmp_ge (tgt := 171) hx hb d_X_instruction_155 (by decide) (fun _ => ?_) (fun hh => absurd hh (by decide))
  refine lv_iload_n hx hb d_X_instruction_171 rfl (lv_at hl 6 rfl) ?_
  refine lv_bipush (v := (17 : Int32)) hx hb d_X_instruction_172 (by decide) ?_
  refine lv_icmp_le (tgt := 213) hx hb d_X_instruction_174 (by decide) (fun hh => absurd hh (by decide)) (fun _ => ?_)
  refine lv_iload_n hx hb d_X_instruction_177 rfl (lv_at hl 6 rfl) ?_
  refine lv_bipush (v := (21 : Int32)) hx hb d_X_instruction_178 (by decide) ?_
  refine lv_icmp_ge (tgt := 213) hx hb d_X_instruction_180 (by decide) (fun _ => ?_) (fun hh => absurd hh (by decide))
  refine lv_iload_n hx hb d_X_instruction_213 rfl (lv_at hl 6 rfl) ?_
  refine lv_bipush (v := (20 : Int32)) hx hb d_X_instruction_214 (by decide) ?_
  refine lv_icmp_le (tgt := 237) hx hb d_X_instruction_216 (by decide) (fun hh => absurd hh (by decide)) (fun _ => ?_)
  refine lv_iload_n hx hb d_X_instruction_219 rfl (lv_at hl 6 rfl) ?_
  refine lv_bipush (v := (27 : Int32)) hx hb d_X_instruction_220 (by decide) ?_
  refine lv_icmp_ge (tgt := 237) hx hb d_X_instruction_222 (by decide) (fun hh => absurd hh (by decide)) (fun _ => ?_)
  refine lv_aload_n hx hb d_X_instruction_225 rfl (lv_at hl 7 rfl) ?_
  refine lv_iload_n hx hb d_X_instruction_226 rfl (lv_at hl 6 rfl) ?_
  refine lv_iload hx hb d_X_instruction_227 (lv_at hl 2 rfl) ?_
  refine zz_cVi (rest := []) (wr := []) (w' := [oX yX yM yD yA yO yL yH yI ((s_X_context23 v_x v_M v_d v_a v_o v_lo v_hi v_ri (a1 >>> ((16 : Int32) &&& 31))).2.1), ar cI yM 512 ((s_X_context23 v_x v_M v_d v_a v_o v_lo v_hi v_ri (a1 >>> ((16 : Int32) &&& 31))).2.2.1), ar cI yD 8 v_d, ar cI yA 8 v_a, ar cI yO 4 ((s_X_context23 v_x v_M v_d v_a v_o v_lo v_hi v_ri (a1 >>> ((16 : Int32) &&& 31))).2.2.2), ar cI yL 6 v_lo, ar cI yH 6 v_hi, ar cI yI 6 v_ri]) ⟨hx, hb, hml, hown, hts⟩ (k_X_context23 l D cI _ yX yM yD yA yO yL yH yI v_x v_M v_d v_a v_o v_lo v_hi v_ri (a1 >>> ((16 : Int32) &&& 31))) g_X_instruction_X_context_123 nv_X_context ⟨⟨rfl, rfl⟩, Nat.le_of_ble_eq_true rfl, Nat.le_of_ble_eq_true rfl⟩ hK [0] rfl hP hD hS hA [0, 1, 2, 3, 4, 5, 6, 7] [] [0, 1, 2, 3, 4, 5, 6, 7] rfl rfl rfl rfl (by decide) rfl rfl 0 6 rfl rfl rfl rfl hl.1 (Nat.le_of_ble_eq_true rfl) d_X_instruction_229 ⟨Nat.zero_le _, Nat.zero_le _⟩ (fun H locs hP hD hS => ?_)
  refine lv_istore (lv' := [(8, .int ((s_X_context23 v_x v_M v_d v_a v_o v_lo v_hi v_ri (a1 >>> ((16 : Int32) &&& 31))).1)), (7, .int (0 : Int32)), (6, .int (a1 >>> ((16 : Int32) &&& 31))), (5, .int ((a1 >>> ((11 : Int32) &&& 31)) &&& (7 : Int32))), (4, .int ((a1 >>> ((8 : Int32) &&& 31)) &&& (7 : Int32))), (3, .int ((a1 >>> ((5 : Int32) &&& 31)) &&& (7 : Int32))), (2, .int (23 : Int32)), (0, .ref yX), (1, .int a1)]) hx hb d_X_instruction_232 hl (by decide) rfl (fun ls hl => ?_)
  refine lv_goto (tgt := 244) hx hb d_X_instruction_234 (by decide) ?_
  refine lv_aload_n hx hb d_X_instruction_244 rfl (lv_at hl 7 rfl) ?_
  refine zz_get (C := R_X) (T := F_X) (N := 27) (v := .ref yO) hx hb hts in_X hown hK hP 0 rfl rfl 4 (by decide) mw_68 rfl d_X_instruction_245 ?_
  refine lv_iconst (v := (0 : Int32)) hx hb d_X_instruction_248 (by decide) ?_
  refine lv_aload_n hx hb d_X_instruction_249 rfl (lv_at hl 7 rfl) ?_
  refine zz_get (C := R_X) (T := F_X) (N := 27) (v := .int (((s_X_context23 v_x v_M v_d v_a v_o v_lo v_hi v_ri (a1 >>> ((16 : Int32) &&& 31))).2.1) 19)) hx hb hts in_X hown hK hP 0 rfl rfl 26 (by decide) mw_79 rfl d_X_instruction_250 ?_
  show W p l e _ s m args below meth c _ _ _ _ Q (F0 m 253 ls _)
  have J253_2 : ∀ (vj253_0 : Int32) (ls : Array Slot) (H : Heap) (locs : List Loc), vj253_0 = (if (((s_X_context23 v_x v_M v_d v_a v_o v_lo v_hi v_ri (a1 >>> ((16 : Int32) &&& 31))).2.1) 19) = 0 then (if (((s_X_context23 v_x v_M v_d v_a v_o v_lo v_hi v_ri (a1 >>> ((16 : Int32) &&& 31))).2.1) 7) = 0 then (((s_X_context23 v_x v_M v_d v_a v_o v_lo v_hi v_ri (a1 >>> ((16 : Int32) &&& 31))).2.2.2) (ix (0 : Int32))) else (s_X_context23 v_x v_M v_d v_a v_o v_lo v_hi v_ri (a1 >>> ((16 : Int32) &&& 31))).1) else (((s_X_context23 v_x v_M v_d v_a v_o v_lo v_hi v_ri (a1 >>> ((16 : Int32) &&& 31))).2.2.2) (ix (0 : Int32)))) → lv_has ls 9 [(8, .int ((s_X_context23 v_x v_M v_d v_a v_o v_lo v_hi v_ri (a1 >>> ((16 : Int32) &&& 31))).1)), (7, .int (0 : Int32)), (6, .int (a1 >>> ((16 : Int32) &&& 31))), (5, .int ((a1 >>> ((11 : Int32) &&& 31)) &&& (7 : Int32))), (4, .int ((a1 >>> ((8 : Int32) &&& 31)) &&& (7 : Int32))), (3, .int ((a1 >>> ((5 : Int32) &&& 31)) &&& (7 : Int32))), (2, .int (23 : Int32)), (0, .ref yX), (1, .int a1)] → va_P D classes [oX yX yM yD yA yO yL yH yI ((s_X_context23 v_x v_M v_d v_a v_o v_lo v_hi v_ri (a1 >>> ((16 : Int32) &&& 31))).2.1), ar cI yM 512 ((s_X_context23 v_x v_M v_d v_a v_o v_lo v_hi v_ri (a1 >>> ((16 : Int32) &&& 31))).2.2.1), ar cI yD 8 v_d, ar cI yA 8 v_a, ar cI yO 4 ((s_X_context23 v_x v_M v_d v_a v_o v_lo v_hi v_ri (a1 >>> ((16 : Int32) &&& 31))).2.2.2), ar cI yL 6 v_lo, ar cI yH 6 v_hi, ar cI yI 6 v_ri] H → va_D A [oX yX yM yD yA yO yL yH yI ((s_X_context23 v_x v_M v_d v_a v_o v_lo v_hi v_ri (a1 >>> ((16 : Int32) &&& 31))).2.1), ar cI yM 512 ((s_X_context23 v_x v_M v_d v_a v_o v_lo v_hi v_ri (a1 >>> ((16 : Int32) &&& 31))).2.2.1), ar cI yD 8 v_d, ar cI yA 8 v_a, ar cI yO 4 ((s_X_context23 v_x v_M v_d v_a v_o v_lo v_hi v_ri (a1 >>> ((16 : Int32) &&& 31))).2.2.2), ar cI yL 6 v_lo, ar cI yH 6 v_hi, ar cI yI 6 v_ri] → va_S A s.heap H locs → W p l e { frames := 4, cells := 0, slots := 0, locals := 100 } s m args below meth c H locs 0 0 Q (F0 m 274 ls [.int vj253_0, .int (0 : Int32), .ref yO]) := by
    intro vj253_0 ls H locs evj253_0 hl hP hD hS
    subst evj253_0
    refine zz_iast (w' := [oX yX yM yD yA yO yL yH yI ((s_X_context23 v_x v_M v_d v_a v_o v_lo v_hi v_ri (a1 >>> ((16 : Int32) &&& 31))).2.1), ar cI yM 512 ((s_X_context23 v_x v_M v_d v_a v_o v_lo v_hi v_ri (a1 >>> ((16 : Int32) &&& 31))).2.2.1), ar cI yD 8 v_d, ar cI yA 8 v_a, ar cI yO 4 (upd ((s_X_context23 v_x v_M v_d v_a v_o v_lo v_hi v_ri (a1 >>> ((16 : Int32) &&& 31))).2.2.2) (ix (0 : Int32)) (if (((s_X_context23 v_x v_M v_d v_a v_o v_lo v_hi v_ri (a1 >>> ((16 : Int32) &&& 31))).2.1) 19) = 0 then (if (((s_X_context23 v_x v_M v_d v_a v_o v_lo v_hi v_ri (a1 >>> ((16 : Int32) &&& 31))).2.1) 7) = 0 then (((s_X_context23 v_x v_M v_d v_a v_o v_lo v_hi v_ri (a1 >>> ((16 : Int32) &&& 31))).2.2.2) (ix (0 : Int32))) else (s_X_context23 v_x v_M v_d v_a v_o v_lo v_hi v_ri (a1 >>> ((16 : Int32) &&& 31))).1) else (((s_X_context23 v_x v_M v_d v_a v_o v_lo v_hi v_ri (a1 >>> ((16 : Int32) &&& 31))).2.2.2) (ix (0 : Int32))))), ar cI yL 6 v_lo, ar cI yH 6 v_hi, ar cI yI 6 v_ri]) hx hb hK hP hD hS 4 0 rfl rfl (zz_inc (by decide)) d_X_instruction_274 rfl (fun H locs hP hD hS => ?_)
    have hsp : s_X_instr23 v_x v_M v_d v_a v_o v_lo v_hi v_ri a1 = ((s_X_context23 v_x v_M v_d v_a v_o v_lo v_hi v_ri (a1 >>> ((16 : Int32) &&& 31))).2.1, (s_X_context23 v_x v_M v_d v_a v_o v_lo v_hi v_ri (a1 >>> ((16 : Int32) &&& 31))).2.2.1, upd ((s_X_context23 v_x v_M v_d v_a v_o v_lo v_hi v_ri (a1 >>> ((16 : Int32) &&& 31))).2.2.2) (ix (0 : Int32)) (if (((s_X_context23 v_x v_M v_d v_a v_o v_lo v_hi v_ri (a1 >>> ((16 : Int32) &&& 31))).2.1) 19) = 0 then (if (((s_X_context23 v_x v_M v_d v_a v_o v_lo v_hi v_ri (a1 >>> ((16 : Int32) &&& 31))).2.1) 7) = 0 then (((s_X_context23 v_x v_M v_d v_a v_o v_lo v_hi v_ri (a1 >>> ((16 : Int32) &&& 31))).2.2.2) (ix (0 : Int32))) else (s_X_context23 v_x v_M v_d v_a v_o v_lo v_hi v_ri (a1 >>> ((16 : Int32) &&& 31))).1) else (((s_X_context23 v_x v_M v_d v_a v_o v_lo v_hi v_ri (a1 >>> ((16 : Int32) &&& 31))).2.2.2) (ix (0 : Int32))))) := rfl
    rw [hsp] at hE
    exact hE _ _ _ _ hP hD hS d_X_instruction_275
  refine lv_if_ne (tgt := 268) hx hb d_X_instruction_253 (by decide) (fun h1 => ?_) (fun h1 => ?_)
  ·
    refine lv_aload_n hx hb d_X_instruction_268 rfl (lv_at hl 7 rfl) ?_
    refine zz_get (C := R_X) (T := F_X) (N := 27) (v := .ref yO) hx hb hts in_X hown hK hP 0 rfl rfl 4 (by decide) mw_68 rfl d_X_instruction_269 ?_
    refine lv_iconst (v := (0 : Int32)) hx hb d_X_instruction_272 (by decide) ?_
    refine va_iald hx hb hK hP 4 0 rfl rfl (zz_inc (by decide)) d_X_instruction_273 ?_
    exact J253_2 (((s_X_context23 v_x v_M v_d v_a v_o v_lo v_hi v_ri (a1 >>> ((16 : Int32) &&& 31))).2.2.2) (ix (0 : Int32))) _ _ _ (by rw [if_neg h1]) (lv_sub hl [0, 1, 2, 3, 4, 5, 6, 7, 8] rfl) hP hD hS
  ·
    refine lv_aload_n hx hb d_X_instruction_256 rfl (lv_at hl 7 rfl) ?_
    refine zz_get (C := R_X) (T := F_X) (N := 27) (v := .int (((s_X_context23 v_x v_M v_d v_a v_o v_lo v_hi v_ri (a1 >>> ((16 : Int32) &&& 31))).2.1) 7)) hx hb hts in_X hown hK hP 0 rfl rfl 11 (by decide) mw_78 rfl d_X_instruction_257 ?_
    refine lv_if_eq (tgt := 268) hx hb d_X_instruction_260 (by decide) (fun h2 => ?_) (fun h2 => ?_)
    ·
      refine lv_aload_n hx hb d_X_instruction_268 rfl (lv_at hl 7 rfl) ?_
      refine zz_get (C := R_X) (T := F_X) (N := 27) (v := .ref yO) hx hb hts in_X hown hK hP 0 rfl rfl 4 (by decide) mw_68 rfl d_X_instruction_269 ?_
      refine lv_iconst (v := (0 : Int32)) hx hb d_X_instruction_272 (by decide) ?_
      refine va_iald hx hb hK hP 4 0 rfl rfl (zz_inc (by decide)) d_X_instruction_273 ?_
      exact J253_2 (((s_X_context23 v_x v_M v_d v_a v_o v_lo v_hi v_ri (a1 >>> ((16 : Int32) &&& 31))).2.2.2) (ix (0 : Int32))) _ _ _ (by rw [if_pos h1, if_pos h2]) (lv_sub hl [0, 1, 2, 3, 4, 5, 6, 7, 8] rfl) hP hD hS
    ·
      refine lv_iload hx hb d_X_instruction_263 (lv_at hl 0 rfl) ?_
      refine lv_goto (tgt := 274) hx hb d_X_instruction_265 (by decide) ?_
      exact J253_2 ((s_X_context23 v_x v_M v_d v_a v_o v_lo v_hi v_ri (a1 >>> ((16 : Int32) &&& 31))).1) _ _ _ (by rw [if_pos h1, if_neg h2]) (lv_sub hl [0, 1, 2, 3, 4, 5, 6, 7, 8] rfl) hP hD hS
set_option maxHeartbeats 4000000 in
set_option maxRecDepth 100000 in
theorem k_X_instr24 (l : Launch) (D : va_G) (cI : ClassId) (sz : Nat) (yX : Nat) (yM : Nat) (yD : Nat) (yA : Nat) (yO : Nat) (yL : Nat) (yH : Nat) (yI : Nat) (v_x : Nat → Int32) (v_M : Nat → Int32) (v_d : Nat → Int32) (v_a : Nat → Int32) (v_o : Nat → Int32) (v_lo : Nat → Int32) (v_hi : Nat → Int32) (v_ri : Nat → Int32) (a1 : Int32) (hop : (a1 &&& (31 : Int32)) = (24 : Int32)) : zMv l y_X_instruction (.code y_X_instruction b_X_instruction 9 (none) :: wd) { frames := 4, cells := 0, slots := 0, locals := 100 } D classes [(cI, .int)] [.ref yX, .int a1] [oX yX yM yD yA yO yL yH yI v_x, ar cI yM 512 v_M, ar cI yD 8 v_d, ar cI yA 8 v_a, ar cI yO 4 v_o, ar cI yL 6 v_lo, ar cI yH 6 v_hi, ar cI yI 6 v_ri] [oX yX yM yD yA yO yL yH yI ((s_X_instr24 v_x v_M v_d v_a v_o v_lo v_hi v_ri a1).1), ar cI yM 512 ((s_X_instr24 v_x v_M v_d v_a v_o v_lo v_hi v_ri a1).2.1), ar cI yD 8 ((s_X_instr24 v_x v_M v_d v_a v_o v_lo v_hi v_ri a1).2.2.1), ar cI yA 8 ((s_X_instr24 v_x v_M v_d v_a v_o v_lo v_hi v_ri a1).2.2.2.1), ar cI yO 4 ((s_X_instr24 v_x v_M v_d v_a v_o v_lo v_hi v_ri a1).2.2.2.2), ar cI yL 6 v_lo, ar cI yH 6 v_hi, ar cI yI 6 v_ri] sz := by
  refine met_v (by decide) (Nat.le_of_ble_eq_true rfl) ?_
  intro p e s m args below meth c A Q ls hx hb hml hown hts hK hP hD hS hA hl hE
  have hl : lv_has ls 9 [(0, .ref yX), (1, .int a1)] := hl
  have hown : s.vm.findClass R_X = some m.cls := hown
  refine lv_iload_n hx hb d_X_instruction_0 rfl (lv_at hl 1 rfl) ?_
  refine lv_bipush (v := (31 : Int32)) hx hb d_X_instruction_1 (by decide) ?_
  refine lv_iand hx hb d_X_instruction_3 ?_
  refine lv_topi (fun zz ez => ?_)
  obtain rfl : zz = (24 : Int32) := ez.trans hop
  refine lv_istore_n (lv' := [(2, .int (24 : Int32)), (0, .ref yX), (1, .int a1)]) hx hb d_X_instruction_4 rfl hl (by decide) rfl (fun ls hl => ?_)
  refine lv_iload_n hx hb d_X_instruction_5 rfl (lv_at hl 2 rfl) ?_
  refine lv_iconst (v := (5 : Int32)) hx hb d_X_instruction_6 (by decide) ?_
  refine lv_ishr hx hb d_X_instruction_7 ?_
  refine lv_bipush (v := (7 : Int32)) hx hb d_X_instruction_8 (by decide) ?_
  refine lv_iand hx hb d_X_instruction_10 ?_
  refine lv_istore_n (lv' := [(3, .int ((a1 >>> ((5 : Int32) &&& 31)) &&& (7 : Int32))), (2, .int (24 : Int32)), (0, .ref yX), (1, .int a1)]) hx hb d_X_instruction_11 rfl hl (by decide) rfl (fun ls hl => ?_)
  refine lv_iload_n hx hb d_X_instruction_12 rfl (lv_at hl 3 rfl) ?_
  show W p l e _ s m args below meth c _ _ _ _ Q (F0 m 13 ls _)
  refine lv_bipush (v := (8 : Int32)) hx hb d_X_instruction_13 (by decide) ?_
  refine lv_ishr hx hb d_X_instruction_15 ?_
  refine lv_bipush (v := (7 : Int32)) hx hb d_X_instruction_16 (by decide) ?_
  refine lv_iand hx hb d_X_instruction_18 ?_
  refine lv_istore (lv' := [(4, .int ((a1 >>> ((8 : Int32) &&& 31)) &&& (7 : Int32))), (3, .int ((a1 >>> ((5 : Int32) &&& 31)) &&& (7 : Int32))), (2, .int (24 : Int32)), (0, .ref yX), (1, .int a1)]) hx hb d_X_instruction_19 hl (by decide) rfl (fun ls hl => ?_)
  refine lv_iload_n hx hb d_X_instruction_21 rfl (lv_at hl 4 rfl) ?_
  refine lv_bipush (v := (11 : Int32)) hx hb d_X_instruction_22 (by decide) ?_
  refine lv_ishr hx hb d_X_instruction_24 ?_
  refine lv_bipush (v := (7 : Int32)) hx hb d_X_instruction_25 (by decide) ?_
  refine lv_iand hx hb d_X_instruction_27 ?_
  refine lv_istore (lv' := [(5, .int ((a1 >>> ((11 : Int32) &&& 31)) &&& (7 : Int32))), (4, .int ((a1 >>> ((8 : Int32) &&& 31)) &&& (7 : Int32))), (3, .int ((a1 >>> ((5 : Int32) &&& 31)) &&& (7 : Int32))), (2, .int (24 : Int32)), (0, .ref yX), (1, .int a1)]) hx hb d_X_instruction_28 hl (by decide) rfl (fun ls hl => ?_)
  refine lv_iload_n hx hb d_X_instruction_30 rfl (lv_at hl 5 rfl) ?_
  show W p l e _ s m args below meth c _ _ _ _ Q (F0 m 31 ls _)
  refine lv_bipush (v := (16 : Int32)) hx hb d_X_instruction_31 (by decide) ?_
  refine lv_ishr hx hb d_X_instruction_33 ?_
  refine lv_istore (lv' := [(6, .int (a1 >>> ((16 : Int32) &&& 31))), (5, .int ((a1 >>> ((11 : Int32) &&& 31)) &&& (7 : Int32))), (4, .int ((a1 >>> ((8 : Int32) &&& 31)) &&& (7 : Int32))), (3, .int ((a1 >>> ((5 : Int32) &&& 31)) &&& (7 : Int32))), (2, .int (24 : Int32)), (0, .ref yX), (1, .int a1)]) hx hb d_X_instruction_34 hl (by decide) rfl (fun ls hl => ?_)
  refine lv_iload_n hx hb d_X_instruction_36 rfl (lv_at hl 4 rfl) ?_
  refine lv_bipush (v := (25 : Int32)) hx hb d_X_instruction_37 (by decide) ?_
  refine lv_icmp_eq (tgt := 66) hx hb d_X_instruction_39 (by decide) (fun hh => absurd hh (by decide)) (fun _ => ?_)
  refine lv_iload_n hx hb d_X_instruction_42 rfl (lv_at hl 4 rfl) ?_
  refine lv_bipush (v := (26 : Int32)) hx hb d_X_instruction_43 (by decide) ?_
  refine lv_icmp_eq (tgt := 66) hx hb d_X_instruction_45 (by decide) (fun hh => absurd hh (by decide)) (fun _ => ?_)
  refine lv_iload_n hx hb d_X_instruction_48 rfl (lv_at hl 4 rfl) ?_
  refine lv_bipush (v := (28 : Int32)) hx hb d_X_instruction_49 (by decide) ?_
  refine lv_icmp_eq (tgt := 66) hx hb d_X_instruction_51 (by decide) (fun hh => absurd hh (by decide)) (fun _ => ?_)
  refine lv_iload_n hx hb d_X_instruction_54 rfl (lv_at hl 4 rfl) ?_
  refine lv_bipush (v := (29 : Int32)) hx hb d_X_instruction_55 (by decide) ?_
  refine lv_icmp_eq (tgt := 66) hx hb d_X_instruction_57 (by decide) (fun hh => absurd hh (by decide)) (fun _ => ?_)
  refine lv_iload_n hx hb d_X_instruction_60 rfl (lv_at hl 4 rfl) ?_
  refine lv_bipush (v := (31 : Int32)) hx hb d_X_instruction_61 (by decide) ?_
  refine lv_icmp_ne (tgt := 70) hx hb d_X_instruction_63 (by decide) (fun _ => ?_) (fun hh => absurd hh (by decide))
  refine lv_iconst (v := (0 : Int32)) hx hb d_X_instruction_70 (by decide) ?_
  refine lv_istore (lv' := [(7, .int (0 : Int32)), (6, .int (a1 >>> ((16 : Int32) &&& 31))), (5, .int ((a1 >>> ((11 : Int32) &&& 31)) &&& (7 : Int32))), (4, .int ((a1 >>> ((8 : Int32) &&& 31)) &&& (7 : Int32))), (3, .int ((a1 >>> ((5 : Int32) &&& 31)) &&& (7 : Int32))), (2, .int (24 : Int32)), (0, .ref yX), (1, .int a1)]) hx hb d_X_instruction_71 hl (by decide) rfl (fun ls hl => ?_)
  refine lv_iload hx hb d_X_instruction_73 (lv_at hl 0 rfl) ?_
  refine lv_if_eq (tgt := 86) hx hb d_X_instruction_75 (by decide) (fun _ => ?_) (fun hh => absurd hh (by decide))
  refine lv_iload_n hx hb d_X_instruction_86 rfl (lv_at hl 5 rfl) ?_
  refine lv_bipush (v := (30 : Int32)) hx hb d_X_instruction_87 (by decide) ?_
  refine lv_icmp_ne (tgt := 111) hx hb d_X_instruction_89 (by decide) (fun _ => ?_) (fun hh => absurd hh (by decide))
  refine lv_aload_n hx hb d_X_instruction_111 rfl (lv_at hl 6 rfl) ?_
  refine zz_get (C := R_X) (T := F_X) (N := 27) (v := .ref yO) hx hb hts in_X hown hK hP 0 rfl rfl 4 (by decide) mw_68 rfl d_X_instruction_112 ?_
  refine lv_iconst (v := (0 : Int32)) hx hb d_X_instruction_115 (by decide) ?_
  refine va_iald hx hb hK hP 4 0 rfl rfl (zz_inc (by decide)) d_X_instruction_116 ?_
  refine lv_iconst (v := (1 : Int32)) hx hb d_X_instruction_117 (by decide) ?_
  refine lv_iadd hx hb d_X_instruction_118 ?_
  refine lv_istore (lv' := [(8, .int ((v_o (ix (0 : Int32))) + (1 : Int32))), (7, .int (0 : Int32)), (6, .int (a1 >>> ((16 : Int32) &&& 31))), (5, .int ((a1 >>> ((11 : Int32) &&& 31)) &&& (7 : Int32))), (4, .int ((a1 >>> ((8 : Int32) &&& 31)) &&& (7 : Int32))), (3, .int ((a1 >>> ((5 : Int32) &&& 31)) &&& (7 : Int32))), (2, .int (24 : Int32)), (0, .ref yX), (1, .int a1)]) hx hb d_X_instruction_119 hl (by decide) rfl (fun ls hl => ?_)
  refine lv_iload_n hx hb d_X_instruction_121 rfl (lv_at hl 6 rfl) ?_
  refine lv_if_le (tgt := 146) hx hb d_X_instruction_122 (by decide) (fun hh => absurd hh (by decide)) (fun _ => ?_)
  refine lv_iload_n hx hb d_X_instruction_125 rfl (lv_at hl 6 rfl) ?_
  refine lv_bipush (v := (13 : Int32)) hx hb d_X_instruction_126 (by decide) ?_
  refine lv_icmp_ge (tgt := 146) hx hb d_X_instruction_128 (by decide) (fun _ => ?_) (fun hh => absurd hh (by decide))
  refine lv_iload_n hx hb d_X_instruction_146 rfl (lv_at hl 6 rfl) ?_
  refine lv_bipush (v := (12 : Int32)) hx hb d_X_instruction_147 (by decide) ?_
  refine lv_icmp_le (tgt := 171) hx hb d_X_instruction_149 (by decide) (fun hh => absurd hh (by decide)) (fun _ => ?_)
  refine lv_iload_n hx hb d_X_instruction_152 rfl (lv_at hl 6 rfl) ?_
  refine lv_bipush (v := (18 : Int32)) hx hb d_X_instruction_153 (by decide) ?_
  refine lv_icmp_ge (tgt := 171) hx hb d_X_instruction_155 (by decide) (fun _ => ?_) (fun hh => absurd hh (by decide))
  refine lv_iload_n hx hb d_X_instruction_171 rfl (lv_at hl 6 rfl) ?_
  refine lv_bipush (v := (17 : Int32)) hx hb d_X_instruction_172 (by decide) ?_
  refine lv_icmp_le (tgt := 213) hx hb d_X_instruction_174 (by decide) (fun hh => absurd hh (by decide)) (fun _ => ?_)
  refine lv_iload_n hx hb d_X_instruction_177 rfl (lv_at hl 6 rfl) ?_
  refine lv_bipush (v := (21 : Int32)) hx hb d_X_instruction_178 (by decide) ?_
  refine lv_icmp_ge (tgt := 213) hx hb d_X_instruction_180 (by decide) (fun _ => ?_) (fun hh => absurd hh (by decide))
  refine lv_iload_n hx hb d_X_instruction_213 rfl (lv_at hl 6 rfl) ?_
  refine lv_bipush (v := (20 : Int32)) hx hb d_X_instruction_214 (by decide) ?_
  refine lv_icmp_le (tgt := 237) hx hb d_X_instruction_216 (by decide) (fun hh => absurd hh (by decide)) (fun _ => ?_)
  refine lv_iload_n hx hb d_X_instruction_219 rfl (lv_at hl 6 rfl) ?_
  refine lv_bipush (v := (27 : Int32)) hx hb d_X_instruction_220 (by decide) ?_
  refine lv_icmp_ge (tgt := 237) hx hb d_X_instruction_222 (by decide) (fun hh => absurd hh (by decide)) (fun _ => ?_)
  refine lv_aload_n hx hb d_X_instruction_225 rfl (lv_at hl 7 rfl) ?_
  refine lv_iload_n hx hb d_X_instruction_226 rfl (lv_at hl 6 rfl) ?_
  refine lv_iload hx hb d_X_instruction_227 (lv_at hl 2 rfl) ?_
  refine zz_cVi (rest := []) (wr := []) (w' := [oX yX yM yD yA yO yL yH yI ((s_X_context24 v_x v_M v_d v_a v_o v_lo v_hi v_ri (a1 >>> ((16 : Int32) &&& 31))).2.1), ar cI yM 512 ((s_X_context24 v_x v_M v_d v_a v_o v_lo v_hi v_ri (a1 >>> ((16 : Int32) &&& 31))).2.2.1), ar cI yD 8 ((s_X_context24 v_x v_M v_d v_a v_o v_lo v_hi v_ri (a1 >>> ((16 : Int32) &&& 31))).2.2.2.1), ar cI yA 8 ((s_X_context24 v_x v_M v_d v_a v_o v_lo v_hi v_ri (a1 >>> ((16 : Int32) &&& 31))).2.2.2.2.1), ar cI yO 4 ((s_X_context24 v_x v_M v_d v_a v_o v_lo v_hi v_ri (a1 >>> ((16 : Int32) &&& 31))).2.2.2.2.2), ar cI yL 6 v_lo, ar cI yH 6 v_hi, ar cI yI 6 v_ri]) ⟨hx, hb, hml, hown, hts⟩ (k_X_context24 l D cI _ yX yM yD yA yO yL yH yI v_x v_M v_d v_a v_o v_lo v_hi v_ri (a1 >>> ((16 : Int32) &&& 31))) g_X_instruction_X_context_123 nv_X_context ⟨⟨rfl, rfl⟩, Nat.le_of_ble_eq_true rfl, Nat.le_of_ble_eq_true rfl⟩ hK [0] rfl hP hD hS hA [0, 1, 2, 3, 4, 5, 6, 7] [] [0, 1, 2, 3, 4, 5, 6, 7] rfl rfl rfl rfl (by decide) rfl rfl 0 6 rfl rfl rfl rfl hl.1 (Nat.le_of_ble_eq_true rfl) d_X_instruction_229 ⟨Nat.zero_le _, Nat.zero_le _⟩ (fun H locs hP hD hS => ?_)
  refine lv_istore (lv' := [(8, .int ((s_X_context24 v_x v_M v_d v_a v_o v_lo v_hi v_ri (a1 >>> ((16 : Int32) &&& 31))).1)), (7, .int (0 : Int32)), (6, .int (a1 >>> ((16 : Int32) &&& 31))), (5, .int ((a1 >>> ((11 : Int32) &&& 31)) &&& (7 : Int32))), (4, .int ((a1 >>> ((8 : Int32) &&& 31)) &&& (7 : Int32))), (3, .int ((a1 >>> ((5 : Int32) &&& 31)) &&& (7 : Int32))), (2, .int (24 : Int32)), (0, .ref yX), (1, .int a1)]) hx hb d_X_instruction_232 hl (by decide) rfl (fun ls hl => ?_)
  refine lv_goto (tgt := 244) hx hb d_X_instruction_234 (by decide) ?_
  refine lv_aload_n hx hb d_X_instruction_244 rfl (lv_at hl 7 rfl) ?_
  refine zz_get (C := R_X) (T := F_X) (N := 27) (v := .ref yO) hx hb hts in_X hown hK hP 0 rfl rfl 4 (by decide) mw_68 rfl d_X_instruction_245 ?_
  refine lv_iconst (v := (0 : Int32)) hx hb d_X_instruction_248 (by decide) ?_
  refine lv_aload_n hx hb d_X_instruction_249 rfl (lv_at hl 7 rfl) ?_
  refine zz_get (C := R_X) (T := F_X) (N := 27) (v := .int (((s_X_context24 v_x v_M v_d v_a v_o v_lo v_hi v_ri (a1 >>> ((16 : Int32) &&& 31))).2.1) 19)) hx hb hts in_X hown hK hP 0 rfl rfl 26 (by decide) mw_79 rfl d_X_instruction_250 ?_
  show W p l e _ s m args below meth c _ _ _ _ Q (F0 m 253 ls _)
  have J253_2 : ∀ (vj253_0 : Int32) (ls : Array Slot) (H : Heap) (locs : List Loc), vj253_0 = (if (((s_X_context24 v_x v_M v_d v_a v_o v_lo v_hi v_ri (a1 >>> ((16 : Int32) &&& 31))).2.1) 19) = 0 then (if (((s_X_context24 v_x v_M v_d v_a v_o v_lo v_hi v_ri (a1 >>> ((16 : Int32) &&& 31))).2.1) 7) = 0 then (((s_X_context24 v_x v_M v_d v_a v_o v_lo v_hi v_ri (a1 >>> ((16 : Int32) &&& 31))).2.2.2.2.2) (ix (0 : Int32))) else (s_X_context24 v_x v_M v_d v_a v_o v_lo v_hi v_ri (a1 >>> ((16 : Int32) &&& 31))).1) else (((s_X_context24 v_x v_M v_d v_a v_o v_lo v_hi v_ri (a1 >>> ((16 : Int32) &&& 31))).2.2.2.2.2) (ix (0 : Int32)))) → lv_has ls 9 [(8, .int ((s_X_context24 v_x v_M v_d v_a v_o v_lo v_hi v_ri (a1 >>> ((16 : Int32) &&& 31))).1)), (7, .int (0 : Int32)), (6, .int (a1 >>> ((16 : Int32) &&& 31))), (5, .int ((a1 >>> ((11 : Int32) &&& 31)) &&& (7 : Int32))), (4, .int ((a1 >>> ((8 : Int32) &&& 31)) &&& (7 : Int32))), (3, .int ((a1 >>> ((5 : Int32) &&& 31)) &&& (7 : Int32))), (2, .int (24 : Int32)), (0, .ref yX), (1, .int a1)] → va_P D classes [oX yX yM yD yA yO yL yH yI ((s_X_context24 v_x v_M v_d v_a v_o v_lo v_hi v_ri (a1 >>> ((16 : Int32) &&& 31))).2.1), ar cI yM 512 ((s_X_context24 v_x v_M v_d v_a v_o v_lo v_hi v_ri (a1 >>> ((16 : Int32) &&& 31))).2.2.1), ar cI yD 8 ((s_X_context24 v_x v_M v_d v_a v_o v_lo v_hi v_ri (a1 >>> ((16 : Int32) &&& 31))).2.2.2.1), ar cI yA 8 ((s_X_context24 v_x v_M v_d v_a v_o v_lo v_hi v_ri (a1 >>> ((16 : Int32) &&& 31))).2.2.2.2.1), ar cI yO 4 ((s_X_context24 v_x v_M v_d v_a v_o v_lo v_hi v_ri (a1 >>> ((16 : Int32) &&& 31))).2.2.2.2.2), ar cI yL 6 v_lo, ar cI yH 6 v_hi, ar cI yI 6 v_ri] H → va_D A [oX yX yM yD yA yO yL yH yI ((s_X_context24 v_x v_M v_d v_a v_o v_lo v_hi v_ri (a1 >>> ((16 : Int32) &&& 31))).2.1), ar cI yM 512 ((s_X_context24 v_x v_M v_d v_a v_o v_lo v_hi v_ri (a1 >>> ((16 : Int32) &&& 31))).2.2.1), ar cI yD 8 ((s_X_context24 v_x v_M v_d v_a v_o v_lo v_hi v_ri (a1 >>> ((16 : Int32) &&& 31))).2.2.2.1), ar cI yA 8 ((s_X_context24 v_x v_M v_d v_a v_o v_lo v_hi v_ri (a1 >>> ((16 : Int32) &&& 31))).2.2.2.2.1), ar cI yO 4 ((s_X_context24 v_x v_M v_d v_a v_o v_lo v_hi v_ri (a1 >>> ((16 : Int32) &&& 31))).2.2.2.2.2), ar cI yL 6 v_lo, ar cI yH 6 v_hi, ar cI yI 6 v_ri] → va_S A s.heap H locs → W p l e { frames := 4, cells := 0, slots := 0, locals := 100 } s m args below meth c H locs 0 0 Q (F0 m 274 ls [.int vj253_0, .int (0 : Int32), .ref yO]) := by
    intro vj253_0 ls H locs evj253_0 hl hP hD hS
    subst evj253_0
    refine zz_iast (w' := [oX yX yM yD yA yO yL yH yI ((s_X_context24 v_x v_M v_d v_a v_o v_lo v_hi v_ri (a1 >>> ((16 : Int32) &&& 31))).2.1), ar cI yM 512 ((s_X_context24 v_x v_M v_d v_a v_o v_lo v_hi v_ri (a1 >>> ((16 : Int32) &&& 31))).2.2.1), ar cI yD 8 ((s_X_context24 v_x v_M v_d v_a v_o v_lo v_hi v_ri (a1 >>> ((16 : Int32) &&& 31))).2.2.2.1), ar cI yA 8 ((s_X_context24 v_x v_M v_d v_a v_o v_lo v_hi v_ri (a1 >>> ((16 : Int32) &&& 31))).2.2.2.2.1), ar cI yO 4 (upd ((s_X_context24 v_x v_M v_d v_a v_o v_lo v_hi v_ri (a1 >>> ((16 : Int32) &&& 31))).2.2.2.2.2) (ix (0 : Int32)) (if (((s_X_context24 v_x v_M v_d v_a v_o v_lo v_hi v_ri (a1 >>> ((16 : Int32) &&& 31))).2.1) 19) = 0 then (if (((s_X_context24 v_x v_M v_d v_a v_o v_lo v_hi v_ri (a1 >>> ((16 : Int32) &&& 31))).2.1) 7) = 0 then (((s_X_context24 v_x v_M v_d v_a v_o v_lo v_hi v_ri (a1 >>> ((16 : Int32) &&& 31))).2.2.2.2.2) (ix (0 : Int32))) else (s_X_context24 v_x v_M v_d v_a v_o v_lo v_hi v_ri (a1 >>> ((16 : Int32) &&& 31))).1) else (((s_X_context24 v_x v_M v_d v_a v_o v_lo v_hi v_ri (a1 >>> ((16 : Int32) &&& 31))).2.2.2.2.2) (ix (0 : Int32))))), ar cI yL 6 v_lo, ar cI yH 6 v_hi, ar cI yI 6 v_ri]) hx hb hK hP hD hS 4 0 rfl rfl (zz_inc (by decide)) d_X_instruction_274 rfl (fun H locs hP hD hS => ?_)
    have hsp : s_X_instr24 v_x v_M v_d v_a v_o v_lo v_hi v_ri a1 = ((s_X_context24 v_x v_M v_d v_a v_o v_lo v_hi v_ri (a1 >>> ((16 : Int32) &&& 31))).2.1, (s_X_context24 v_x v_M v_d v_a v_o v_lo v_hi v_ri (a1 >>> ((16 : Int32) &&& 31))).2.2.1, (s_X_context24 v_x v_M v_d v_a v_o v_lo v_hi v_ri (a1 >>> ((16 : Int32) &&& 31))).2.2.2.1, (s_X_context24 v_x v_M v_d v_a v_o v_lo v_hi v_ri (a1 >>> ((16 : Int32) &&& 31))).2.2.2.2.1, upd ((s_X_context24 v_x v_M v_d v_a v_o v_lo v_hi v_ri (a1 >>> ((16 : Int32) &&& 31))).2.2.2.2.2) (ix (0 : Int32)) (if (((s_X_context24 v_x v_M v_d v_a v_o v_lo v_hi v_ri (a1 >>> ((16 : Int32) &&& 31))).2.1) 19) = 0 then (if (((s_X_context24 v_x v_M v_d v_a v_o v_lo v_hi v_ri (a1 >>> ((16 : Int32) &&& 31))).2.1) 7) = 0 then (((s_X_context24 v_x v_M v_d v_a v_o v_lo v_hi v_ri (a1 >>> ((16 : Int32) &&& 31))).2.2.2.2.2) (ix (0 : Int32))) else (s_X_context24 v_x v_M v_d v_a v_o v_lo v_hi v_ri (a1 >>> ((16 : Int32) &&& 31))).1) else (((s_X_context24 v_x v_M v_d v_a v_o v_lo v_hi v_ri (a1 >>> ((16 : Int32) &&& 31))).2.2.2.2.2) (ix (0 : Int32))))) := rfl
    rw [hsp] at hE
    exact hE _ _ _ _ hP hD hS d_X_instruction_275
  refine lv_if_ne (tgt := 268) hx hb d_X_instruction_253 (by decide) (fun h1 => ?_) (fun h1 => ?_)
  ·
    refine lv_aload_n hx hb d_X_instruction_268 rfl (lv_at hl 7 rfl) ?_
    refine zz_get (C := R_X) (T := F_X) (N := 27) (v := .ref yO) hx hb hts in_X hown hK hP 0 rfl rfl 4 (by decide) mw_68 rfl d_X_instruction_269 ?_
    refine lv_iconst (v := (0 : Int32)) hx hb d_X_instruction_272 (by decide) ?_
    refine va_iald hx hb hK hP 4 0 rfl rfl (zz_inc (by decide)) d_X_instruction_273 ?_
    exact J253_2 (((s_X_context24 v_x v_M v_d v_a v_o v_lo v_hi v_ri (a1 >>> ((16 : Int32) &&& 31))).2.2.2.2.2) (ix (0 : Int32))) _ _ _ (by rw [if_neg h1]) (lv_sub hl [0, 1, 2, 3, 4, 5, 6, 7, 8] rfl) hP hD hS
  ·
    refine lv_aload_n hx hb d_X_instruction_256 rfl (lv_at hl 7 rfl) ?_
    refine zz_get (C := R_X) (T := F_X) (N := 27) (v := .int (((s_X_context24 v_x v_M v_d v_a v_o v_lo v_hi v_ri (a1 >>> ((16 : Int32) &&& 31))).2.1) 7)) hx hb hts in_X hown hK hP 0 rfl rfl 11 (by decide) mw_78 rfl d_X_instruction_257 ?_
    refine lv_if_eq (tgt := 268) hx hb d_X_instruction_260 (by decide) (fun h2 => ?_) (fun h2 => ?_)
    ·
      refine lv_aload_n hx hb d_X_instruction_268 rfl (lv_at hl 7 rfl) ?_
      refine zz_get (C := R_X) (T := F_X) (N := 27) (v := .ref yO) hx hb hts in_X hown hK hP 0 rfl rfl 4 (by decide) mw_68 rfl d_X_instruction_269 ?_
      refine lv_iconst (v := (0 : Int32)) hx hb d_X_instruction_272 (by decide) ?_
      refine va_iald hx hb hK hP 4 0 rfl rfl (zz_inc (by decide)) d_X_instruction_273 ?_
      exact J253_2 (((s_X_context24 v_x v_M v_d v_a v_o v_lo v_hi v_ri (a1 >>> ((16 : Int32) &&& 31))).2.2.2.2.2) (ix (0 : Int32))) _ _ _ (by rw [if_pos h1, if_pos h2]) (lv_sub hl [0, 1, 2, 3, 4, 5, 6, 7, 8] rfl) hP hD hS
    ·
      refine lv_iload hx hb d_X_instruction_263 (lv_at hl 0 rfl) ?_
      refine lv_goto (tgt := 274) hx hb d_X_instruction_265 (by decide) ?_
      exact J253_2 ((s_X_context24 v_x v_M v_d v_a v_o v_lo v_hi v_ri (a1 >>> ((16 : Int32) &&& 31))).1) _ _ _ (by rw [if_pos h1, if_neg h2]) (lv_sub hl [0, 1, 2, 3, 4, 5, 6, 7, 8] rfl) hP hD hS
set_option maxHeartbeats 4000000 in
set_option maxRecDepth 100000 in
theorem k_X_instr25 (l : Launch) (D : va_G) (cI : ClassId) (sz : Nat) (yX : Nat) (yM : Nat) (yD : Nat) (yA : Nat) (yO : Nat) (yL : Nat) (yH : Nat) (yI : Nat) (v_x : Nat → Int32) (v_M : Nat → Int32) (v_d : Nat → Int32) (v_a : Nat → Int32) (v_o : Nat → Int32) (v_lo : Nat → Int32) (v_hi : Nat → Int32) (v_ri : Nat → Int32) (a1 : Int32) (hop : (a1 &&& (31 : Int32)) = (25 : Int32)) : zMv l y_X_instruction (.code y_X_instruction b_X_instruction 9 (none) :: wd) { frames := 4, cells := 0, slots := 0, locals := 100 } D classes [(cI, .int)] [.ref yX, .int a1] [oX yX yM yD yA yO yL yH yI v_x, ar cI yM 512 v_M, ar cI yD 8 v_d, ar cI yA 8 v_a, ar cI yO 4 v_o, ar cI yL 6 v_lo, ar cI yH 6 v_hi, ar cI yI 6 v_ri] [oX yX yM yD yA yO yL yH yI ((s_X_instr25 v_x v_M v_d v_a v_o v_lo v_hi v_ri a1).1), ar cI yM 512 ((s_X_instr25 v_x v_M v_d v_a v_o v_lo v_hi v_ri a1).2.1), ar cI yD 8 v_d, ar cI yA 8 v_a, ar cI yO 4 ((s_X_instr25 v_x v_M v_d v_a v_o v_lo v_hi v_ri a1).2.2), ar cI yL 6 v_lo, ar cI yH 6 v_hi, ar cI yI 6 v_ri] sz := by
  refine met_v (by decide) (Nat.le_of_ble_eq_true rfl) ?_
  intro p e s m args below meth c A Q ls hx hb hml hown hts hK hP hD hS hA hl hE
  have hl : lv_has ls 9 [(0, .ref yX), (1, .int a1)] := hl
  have hown : s.vm.findClass R_X = some m.cls := hown
  refine lv_iload_n hx hb d_X_instruction_0 rfl (lv_at hl 1 rfl) ?_
  refine lv_bipush (v := (31 : Int32)) hx hb d_X_instruction_1 (by decide) ?_
  refine lv_iand hx hb d_X_instruction_3 ?_
  refine lv_topi (fun zz ez => ?_)
  obtain rfl : zz = (25 : Int32) := ez.trans hop
  refine lv_istore_n (lv' := [(2, .int (25 : Int32)), (0, .ref yX), (1, .int a1)]) hx hb d_X_instruction_4 rfl hl (by decide) rfl (fun ls hl => ?_)
  refine lv_iload_n hx hb d_X_instruction_5 rfl (lv_at hl 2 rfl) ?_
  refine lv_iconst (v := (5 : Int32)) hx hb d_X_instruction_6 (by decide) ?_
  refine lv_ishr hx hb d_X_instruction_7 ?_
  refine lv_bipush (v := (7 : Int32)) hx hb d_X_instruction_8 (by decide) ?_
  refine lv_iand hx hb d_X_instruction_10 ?_
  refine lv_istore_n (lv' := [(3, .int ((a1 >>> ((5 : Int32) &&& 31)) &&& (7 : Int32))), (2, .int (25 : Int32)), (0, .ref yX), (1, .int a1)]) hx hb d_X_instruction_11 rfl hl (by decide) rfl (fun ls hl => ?_)
  refine lv_iload_n hx hb d_X_instruction_12 rfl (lv_at hl 3 rfl) ?_
  show W p l e _ s m args below meth c _ _ _ _ Q (F0 m 13 ls _)
  refine lv_bipush (v := (8 : Int32)) hx hb d_X_instruction_13 (by decide) ?_
  refine lv_ishr hx hb d_X_instruction_15 ?_
  refine lv_bipush (v := (7 : Int32)) hx hb d_X_instruction_16 (by decide) ?_
  refine lv_iand hx hb d_X_instruction_18 ?_
  refine lv_istore (lv' := [(4, .int ((a1 >>> ((8 : Int32) &&& 31)) &&& (7 : Int32))), (3, .int ((a1 >>> ((5 : Int32) &&& 31)) &&& (7 : Int32))), (2, .int (25 : Int32)), (0, .ref yX), (1, .int a1)]) hx hb d_X_instruction_19 hl (by decide) rfl (fun ls hl => ?_)
  refine lv_iload_n hx hb d_X_instruction_21 rfl (lv_at hl 4 rfl) ?_
  refine lv_bipush (v := (11 : Int32)) hx hb d_X_instruction_22 (by decide) ?_
  refine lv_ishr hx hb d_X_instruction_24 ?_
  refine lv_bipush (v := (7 : Int32)) hx hb d_X_instruction_25 (by decide) ?_
  refine lv_iand hx hb d_X_instruction_27 ?_
  refine lv_istore (lv' := [(5, .int ((a1 >>> ((11 : Int32) &&& 31)) &&& (7 : Int32))), (4, .int ((a1 >>> ((8 : Int32) &&& 31)) &&& (7 : Int32))), (3, .int ((a1 >>> ((5 : Int32) &&& 31)) &&& (7 : Int32))), (2, .int (25 : Int32)), (0, .ref yX), (1, .int a1)]) hx hb d_X_instruction_28 hl (by decide) rfl (fun ls hl => ?_)
  refine lv_iload_n hx hb d_X_instruction_30 rfl (lv_at hl 5 rfl) ?_
  show W p l e _ s m args below meth c _ _ _ _ Q (F0 m 31 ls _)
  refine lv_bipush (v := (16 : Int32)) hx hb d_X_instruction_31 (by decide) ?_
  refine lv_ishr hx hb d_X_instruction_33 ?_
  refine lv_istore (lv' := [(6, .int (a1 >>> ((16 : Int32) &&& 31))), (5, .int ((a1 >>> ((11 : Int32) &&& 31)) &&& (7 : Int32))), (4, .int ((a1 >>> ((8 : Int32) &&& 31)) &&& (7 : Int32))), (3, .int ((a1 >>> ((5 : Int32) &&& 31)) &&& (7 : Int32))), (2, .int (25 : Int32)), (0, .ref yX), (1, .int a1)]) hx hb d_X_instruction_34 hl (by decide) rfl (fun ls hl => ?_)
  refine lv_iload_n hx hb d_X_instruction_36 rfl (lv_at hl 4 rfl) ?_
  refine lv_bipush (v := (25 : Int32)) hx hb d_X_instruction_37 (by decide) ?_
  refine lv_icmp_eq (tgt := 66) hx hb d_X_instruction_39 (by decide) (fun _ => ?_) (fun hh => absurd hh (by decide))
  refine lv_iconst (v := (1 : Int32)) hx hb d_X_instruction_66 (by decide) ?_
  refine lv_goto (tgt := 71) hx hb d_X_instruction_67 (by decide) ?_
  refine lv_istore (lv' := [(7, .int (1 : Int32)), (6, .int (a1 >>> ((16 : Int32) &&& 31))), (5, .int ((a1 >>> ((11 : Int32) &&& 31)) &&& (7 : Int32))), (4, .int ((a1 >>> ((8 : Int32) &&& 31)) &&& (7 : Int32))), (3, .int ((a1 >>> ((5 : Int32) &&& 31)) &&& (7 : Int32))), (2, .int (25 : Int32)), (0, .ref yX), (1, .int a1)]) hx hb d_X_instruction_71 hl (by decide) rfl (fun ls hl => ?_)
  refine lv_iload hx hb d_X_instruction_73 (lv_at hl 0 rfl) ?_
  refine lv_if_eq (tgt := 86) hx hb d_X_instruction_75 (by decide) (fun hh => absurd hh (by decide)) (fun _ => ?_)
  refine lv_aload_n hx hb d_X_instruction_78 rfl (lv_at hl 6 rfl) ?_
  refine zz_get (C := R_X) (T := F_X) (N := 27) (v := .int (v_x 1)) hx hb hts in_X hown hK hP 0 rfl rfl 5 (by decide) mw_70 rfl d_X_instruction_79 ?_
  refine lv_iconst (v := (2 : Int32)) hx hb d_X_instruction_82 (by decide) ?_
  refine lv_icmp_ne (tgt := 103) hx hb d_X_instruction_83 (by decide) (fun h1 => ?_) (fun h1 => ?_)
  ·
    refine lv_aload_n hx hb d_X_instruction_103 rfl (lv_at hl 6 rfl) ?_
    refine lv_sipush (v := (257 : Int32)) hx hb d_X_instruction_104 (by decide) ?_
    refine zz_put (C := R_X) (T := F_X) (N := 27) (w' := [oX yX yM yD yA yO yL yH yI (upd v_x 19 (257 : Int32)), ar cI yM 512 v_M, ar cI yD 8 v_d, ar cI yA 8 v_a, ar cI yO 4 v_o, ar cI yL 6 v_lo, ar cI yH 6 v_hi, ar cI yI 6 v_ri]) hx hb hts in_X ty_X ty_X_ok n_X hown hK hP hD hS 0 rfl rfl 26 (by decide) mw_79 rfl rfl rfl (Nat.le_of_ble_eq_true rfl) d_X_instruction_107 rfl (fun H locs hP hD hS => ?_)
    have hsp : s_X_instr25 v_x v_M v_d v_a v_o v_lo v_hi v_ri a1 = (upd v_x 19 (257 : Int32), v_M, v_o) := (by unfold s_X_instr25; rw [if_neg h1])
    rw [hsp] at hE
    exact hE _ _ _ _ hP hD hS d_X_instruction_110
  ·
    refine lv_iload_n hx hb d_X_instruction_86 rfl (lv_at hl 5 rfl) ?_
    refine lv_bipush (v := (30 : Int32)) hx hb d_X_instruction_87 (by decide) ?_
    refine lv_icmp_ne (tgt := 111) hx hb d_X_instruction_89 (by decide) (fun _ => ?_) (fun hh => absurd hh (by decide))
    refine lv_aload_n hx hb d_X_instruction_111 rfl (lv_at hl 6 rfl) ?_
    refine zz_get (C := R_X) (T := F_X) (N := 27) (v := .ref yO) hx hb hts in_X hown hK hP 0 rfl rfl 4 (by decide) mw_68 rfl d_X_instruction_112 ?_
    refine lv_iconst (v := (0 : Int32)) hx hb d_X_instruction_115 (by decide) ?_
    refine va_iald hx hb hK hP 4 0 rfl rfl (zz_inc (by decide)) d_X_instruction_116 ?_
    refine lv_iconst (v := (1 : Int32)) hx hb d_X_instruction_117 (by decide) ?_
    refine lv_iadd hx hb d_X_instruction_118 ?_
    refine lv_istore (lv' := [(8, .int ((v_o (ix (0 : Int32))) + (1 : Int32))), (7, .int (1 : Int32)), (6, .int (a1 >>> ((16 : Int32) &&& 31))), (5, .int ((a1 >>> ((11 : Int32) &&& 31)) &&& (7 : Int32))), (4, .int ((a1 >>> ((8 : Int32) &&& 31)) &&& (7 : Int32))), (3, .int ((a1 >>> ((5 : Int32) &&& 31)) &&& (7 : Int32))), (2, .int (25 : Int32)), (0, .ref yX), (1, .int a1)]) hx hb d_X_instruction_119 hl (by decide) rfl (fun ls hl => ?_)
    refine lv_iload_n hx hb d_X_instruction_121 rfl (lv_at hl 6 rfl) ?_
    refine lv_if_le (tgt := 146) hx hb d_X_instruction_122 (by decide) (fun hh => absurd hh (by decide)) (fun _ => ?_)
    refine lv_iload_n hx hb d_X_instruction_125 rfl (lv_at hl 6 rfl) ?_
    refine lv_bipush (v := (13 : Int32)) hx hb d_X_instruction_126 (by decide) ?_
    refine lv_icmp_ge (tgt := 146) hx hb d_X_instruction_128 (by decide) (fun _ => ?_) (fun hh => absurd hh (by decide))
    refine lv_iload_n hx hb d_X_instruction_146 rfl (lv_at hl 6 rfl) ?_
    refine lv_bipush (v := (12 : Int32)) hx hb d_X_instruction_147 (by decide) ?_
    refine lv_icmp_le (tgt := 171) hx hb d_X_instruction_149 (by decide) (fun hh => absurd hh (by decide)) (fun _ => ?_)
    refine lv_iload_n hx hb d_X_instruction_152 rfl (lv_at hl 6 rfl) ?_
    refine lv_bipush (v := (18 : Int32)) hx hb d_X_instruction_153 (by decide) ?_
    refine lv_icmp_ge (tgt := 171) hx hb d_X_instruction_155 (by decide) (fun _ => ?_) (fun hh => absurd hh (by decide))
    refine lv_iload_n hx hb d_X_instruction_171 rfl (lv_at hl 6 rfl) ?_
    refine lv_bipush (v := (17 : Int32)) hx hb d_X_instruction_172 (by decide) ?_
    refine lv_icmp_le (tgt := 213) hx hb d_X_instruction_174 (by decide) (fun hh => absurd hh (by decide)) (fun _ => ?_)
    refine lv_iload_n hx hb d_X_instruction_177 rfl (lv_at hl 6 rfl) ?_
    refine lv_bipush (v := (21 : Int32)) hx hb d_X_instruction_178 (by decide) ?_
    refine lv_icmp_ge (tgt := 213) hx hb d_X_instruction_180 (by decide) (fun _ => ?_) (fun hh => absurd hh (by decide))
    refine lv_iload_n hx hb d_X_instruction_213 rfl (lv_at hl 6 rfl) ?_
    refine lv_bipush (v := (20 : Int32)) hx hb d_X_instruction_214 (by decide) ?_
    refine lv_icmp_le (tgt := 237) hx hb d_X_instruction_216 (by decide) (fun hh => absurd hh (by decide)) (fun _ => ?_)
    refine lv_iload_n hx hb d_X_instruction_219 rfl (lv_at hl 6 rfl) ?_
    refine lv_bipush (v := (27 : Int32)) hx hb d_X_instruction_220 (by decide) ?_
    refine lv_icmp_ge (tgt := 237) hx hb d_X_instruction_222 (by decide) (fun hh => absurd hh (by decide)) (fun _ => ?_)
    refine lv_aload_n hx hb d_X_instruction_225 rfl (lv_at hl 7 rfl) ?_
    refine lv_iload_n hx hb d_X_instruction_226 rfl (lv_at hl 6 rfl) ?_
    refine lv_iload hx hb d_X_instruction_227 (lv_at hl 2 rfl) ?_
    refine zz_cVi (rest := []) (wr := []) (w' := [oX yX yM yD yA yO yL yH yI ((s_X_context25 v_x v_M v_d v_a v_o v_lo v_hi v_ri (a1 >>> ((16 : Int32) &&& 31))).2.1), ar cI yM 512 ((s_X_context25 v_x v_M v_d v_a v_o v_lo v_hi v_ri (a1 >>> ((16 : Int32) &&& 31))).2.2.1), ar cI yD 8 v_d, ar cI yA 8 v_a, ar cI yO 4 ((s_X_context25 v_x v_M v_d v_a v_o v_lo v_hi v_ri (a1 >>> ((16 : Int32) &&& 31))).2.2.2), ar cI yL 6 v_lo, ar cI yH 6 v_hi, ar cI yI 6 v_ri]) ⟨hx, hb, hml, hown, hts⟩ (k_X_context25 l D cI _ yX yM yD yA yO yL yH yI v_x v_M v_d v_a v_o v_lo v_hi v_ri (a1 >>> ((16 : Int32) &&& 31))) g_X_instruction_X_context_123 nv_X_context ⟨⟨rfl, rfl⟩, Nat.le_of_ble_eq_true rfl, Nat.le_of_ble_eq_true rfl⟩ hK [0] rfl hP hD hS hA [0, 1, 2, 3, 4, 5, 6, 7] [] [0, 1, 2, 3, 4, 5, 6, 7] rfl rfl rfl rfl (by decide) rfl rfl 0 6 rfl rfl rfl rfl hl.1 (Nat.le_of_ble_eq_true rfl) d_X_instruction_229 ⟨Nat.zero_le _, Nat.zero_le _⟩ (fun H locs hP hD hS => ?_)
    refine lv_istore (lv' := [(8, .int ((s_X_context25 v_x v_M v_d v_a v_o v_lo v_hi v_ri (a1 >>> ((16 : Int32) &&& 31))).1)), (7, .int (1 : Int32)), (6, .int (a1 >>> ((16 : Int32) &&& 31))), (5, .int ((a1 >>> ((11 : Int32) &&& 31)) &&& (7 : Int32))), (4, .int ((a1 >>> ((8 : Int32) &&& 31)) &&& (7 : Int32))), (3, .int ((a1 >>> ((5 : Int32) &&& 31)) &&& (7 : Int32))), (2, .int (25 : Int32)), (0, .ref yX), (1, .int a1)]) hx hb d_X_instruction_232 hl (by decide) rfl (fun ls hl => ?_)
    refine lv_goto (tgt := 244) hx hb d_X_instruction_234 (by decide) ?_
    refine lv_aload_n hx hb d_X_instruction_244 rfl (lv_at hl 7 rfl) ?_
    refine zz_get (C := R_X) (T := F_X) (N := 27) (v := .ref yO) hx hb hts in_X hown hK hP 0 rfl rfl 4 (by decide) mw_68 rfl d_X_instruction_245 ?_
    refine lv_iconst (v := (0 : Int32)) hx hb d_X_instruction_248 (by decide) ?_
    refine lv_aload_n hx hb d_X_instruction_249 rfl (lv_at hl 7 rfl) ?_
    refine zz_get (C := R_X) (T := F_X) (N := 27) (v := .int (((s_X_context25 v_x v_M v_d v_a v_o v_lo v_hi v_ri (a1 >>> ((16 : Int32) &&& 31))).2.1) 19)) hx hb hts in_X hown hK hP 0 rfl rfl 26 (by decide) mw_79 rfl d_X_instruction_250 ?_
    show W p l e _ s m args below meth c _ _ _ _ Q (F0 m 253 ls _)
    have J253_3 : ∀ (vj253_0 : Int32) (ls : Array Slot) (H : Heap) (locs : List Loc), vj253_0 = (if (((s_X_context25 v_x v_M v_d v_a v_o v_lo v_hi v_ri (a1 >>> ((16 : Int32) &&& 31))).2.1) 19) = 0 then (if (((s_X_context25 v_x v_M v_d v_a v_o v_lo v_hi v_ri (a1 >>> ((16 : Int32) &&& 31))).2.1) 7) = 0 then (((s_X_context25 v_x v_M v_d v_a v_o v_lo v_hi v_ri (a1 >>> ((16 : Int32) &&& 31))).2.2.2) (ix (0 : Int32))) else (s_X_context25 v_x v_M v_d v_a v_o v_lo v_hi v_ri (a1 >>> ((16 : Int32) &&& 31))).1) else (((s_X_context25 v_x v_M v_d v_a v_o v_lo v_hi v_ri (a1 >>> ((16 : Int32) &&& 31))).2.2.2) (ix (0 : Int32)))) → lv_has ls 9 [(8, .int ((s_X_context25 v_x v_M v_d v_a v_o v_lo v_hi v_ri (a1 >>> ((16 : Int32) &&& 31))).1)), (7, .int (1 : Int32)), (6, .int (a1 >>> ((16 : Int32) &&& 31))), (5, .int ((a1 >>> ((11 : Int32) &&& 31)) &&& (7 : Int32))), (4, .int ((a1 >>> ((8 : Int32) &&& 31)) &&& (7 : Int32))), (3, .int ((a1 >>> ((5 : Int32) &&& 31)) &&& (7 : Int32))), (2, .int (25 : Int32)), (0, .ref yX), (1, .int a1)] → va_P D classes [oX yX yM yD yA yO yL yH yI ((s_X_context25 v_x v_M v_d v_a v_o v_lo v_hi v_ri (a1 >>> ((16 : Int32) &&& 31))).2.1), ar cI yM 512 ((s_X_context25 v_x v_M v_d v_a v_o v_lo v_hi v_ri (a1 >>> ((16 : Int32) &&& 31))).2.2.1), ar cI yD 8 v_d, ar cI yA 8 v_a, ar cI yO 4 ((s_X_context25 v_x v_M v_d v_a v_o v_lo v_hi v_ri (a1 >>> ((16 : Int32) &&& 31))).2.2.2), ar cI yL 6 v_lo, ar cI yH 6 v_hi, ar cI yI 6 v_ri] H → va_D A [oX yX yM yD yA yO yL yH yI ((s_X_context25 v_x v_M v_d v_a v_o v_lo v_hi v_ri (a1 >>> ((16 : Int32) &&& 31))).2.1), ar cI yM 512 ((s_X_context25 v_x v_M v_d v_a v_o v_lo v_hi v_ri (a1 >>> ((16 : Int32) &&& 31))).2.2.1), ar cI yD 8 v_d, ar cI yA 8 v_a, ar cI yO 4 ((s_X_context25 v_x v_M v_d v_a v_o v_lo v_hi v_ri (a1 >>> ((16 : Int32) &&& 31))).2.2.2), ar cI yL 6 v_lo, ar cI yH 6 v_hi, ar cI yI 6 v_ri] → va_S A s.heap H locs → W p l e { frames := 4, cells := 0, slots := 0, locals := 100 } s m args below meth c H locs 0 0 Q (F0 m 274 ls [.int vj253_0, .int (0 : Int32), .ref yO]) := by
      intro vj253_0 ls H locs evj253_0 hl hP hD hS
      subst evj253_0
      refine zz_iast (w' := [oX yX yM yD yA yO yL yH yI ((s_X_context25 v_x v_M v_d v_a v_o v_lo v_hi v_ri (a1 >>> ((16 : Int32) &&& 31))).2.1), ar cI yM 512 ((s_X_context25 v_x v_M v_d v_a v_o v_lo v_hi v_ri (a1 >>> ((16 : Int32) &&& 31))).2.2.1), ar cI yD 8 v_d, ar cI yA 8 v_a, ar cI yO 4 (upd ((s_X_context25 v_x v_M v_d v_a v_o v_lo v_hi v_ri (a1 >>> ((16 : Int32) &&& 31))).2.2.2) (ix (0 : Int32)) (if (((s_X_context25 v_x v_M v_d v_a v_o v_lo v_hi v_ri (a1 >>> ((16 : Int32) &&& 31))).2.1) 19) = 0 then (if (((s_X_context25 v_x v_M v_d v_a v_o v_lo v_hi v_ri (a1 >>> ((16 : Int32) &&& 31))).2.1) 7) = 0 then (((s_X_context25 v_x v_M v_d v_a v_o v_lo v_hi v_ri (a1 >>> ((16 : Int32) &&& 31))).2.2.2) (ix (0 : Int32))) else (s_X_context25 v_x v_M v_d v_a v_o v_lo v_hi v_ri (a1 >>> ((16 : Int32) &&& 31))).1) else (((s_X_context25 v_x v_M v_d v_a v_o v_lo v_hi v_ri (a1 >>> ((16 : Int32) &&& 31))).2.2.2) (ix (0 : Int32))))), ar cI yL 6 v_lo, ar cI yH 6 v_hi, ar cI yI 6 v_ri]) hx hb hK hP hD hS 4 0 rfl rfl (zz_inc (by decide)) d_X_instruction_274 rfl (fun H locs hP hD hS => ?_)
      have hsp : s_X_instr25 v_x v_M v_d v_a v_o v_lo v_hi v_ri a1 = ((s_X_context25 v_x v_M v_d v_a v_o v_lo v_hi v_ri (a1 >>> ((16 : Int32) &&& 31))).2.1, (s_X_context25 v_x v_M v_d v_a v_o v_lo v_hi v_ri (a1 >>> ((16 : Int32) &&& 31))).2.2.1, upd ((s_X_context25 v_x v_M v_d v_a v_o v_lo v_hi v_ri (a1 >>> ((16 : Int32) &&& 31))).2.2.2) (ix (0 : Int32)) (if (((s_X_context25 v_x v_M v_d v_a v_o v_lo v_hi v_ri (a1 >>> ((16 : Int32) &&& 31))).2.1) 19) = 0 then (if (((s_X_context25 v_x v_M v_d v_a v_o v_lo v_hi v_ri (a1 >>> ((16 : Int32) &&& 31))).2.1) 7) = 0 then (((s_X_context25 v_x v_M v_d v_a v_o v_lo v_hi v_ri (a1 >>> ((16 : Int32) &&& 31))).2.2.2) (ix (0 : Int32))) else (s_X_context25 v_x v_M v_d v_a v_o v_lo v_hi v_ri (a1 >>> ((16 : Int32) &&& 31))).1) else (((s_X_context25 v_x v_M v_d v_a v_o v_lo v_hi v_ri (a1 >>> ((16 : Int32) &&& 31))).2.2.2) (ix (0 : Int32))))) := (by unfold s_X_instr25; rw [if_pos h1])
      rw [hsp] at hE
      exact hE _ _ _ _ hP hD hS d_X_instruction_275
    refine lv_if_ne (tgt := 268) hx hb d_X_instruction_253 (by decide) (fun h2 => ?_) (fun h2 => ?_)
    ·
      refine lv_aload_n hx hb d_X_instruction_268 rfl (lv_at hl 7 rfl) ?_
      refine zz_get (C := R_X) (T := F_X) (N := 27) (v := .ref yO) hx hb hts in_X hown hK hP 0 rfl rfl 4 (by decide) mw_68 rfl d_X_instruction_269 ?_
      refine lv_iconst (v := (0 : Int32)) hx hb d_X_instruction_272 (by decide) ?_
      refine va_iald hx hb hK hP 4 0 rfl rfl (zz_inc (by decide)) d_X_instruction_273 ?_
      exact J253_3 (((s_X_context25 v_x v_M v_d v_a v_o v_lo v_hi v_ri (a1 >>> ((16 : Int32) &&& 31))).2.2.2) (ix (0 : Int32))) _ _ _ (by rw [if_neg h2]) (lv_sub hl [0, 1, 2, 3, 4, 5, 6, 7, 8] rfl) hP hD hS
    ·
      refine lv_aload_n hx hb d_X_instruction_256 rfl (lv_at hl 7 rfl) ?_
      refine zz_get (C := R_X) (T := F_X) (N := 27) (v := .int (((s_X_context25 v_x v_M v_d v_a v_o v_lo v_hi v_ri (a1 >>> ((16 : Int32) &&& 31))).2.1) 7)) hx hb hts in_X hown hK hP 0 rfl rfl 11 (by decide) mw_78 rfl d_X_instruction_257 ?_
      refine lv_if_eq (tgt := 268) hx hb d_X_instruction_260 (by decide) (fun h3 => ?_) (fun h3 => ?_)
      ·
        refine lv_aload_n hx hb d_X_instruction_268 rfl (lv_at hl 7 rfl) ?_
        refine zz_get (C := R_X) (T := F_X) (N := 27) (v := .ref yO) hx hb hts in_X hown hK hP 0 rfl rfl 4 (by decide) mw_68 rfl d_X_instruction_269 ?_
        refine lv_iconst (v := (0 : Int32)) hx hb d_X_instruction_272 (by decide) ?_
        refine va_iald hx hb hK hP 4 0 rfl rfl (zz_inc (by decide)) d_X_instruction_273 ?_
        exact J253_3 (((s_X_context25 v_x v_M v_d v_a v_o v_lo v_hi v_ri (a1 >>> ((16 : Int32) &&& 31))).2.2.2) (ix (0 : Int32))) _ _ _ (by rw [if_pos h2, if_pos h3]) (lv_sub hl [0, 1, 2, 3, 4, 5, 6, 7, 8] rfl) hP hD hS
      ·
        refine lv_iload hx hb d_X_instruction_263 (lv_at hl 0 rfl) ?_
        refine lv_goto (tgt := 274) hx hb d_X_instruction_265 (by decide) ?_
        exact J253_3 ((s_X_context25 v_x v_M v_d v_a v_o v_lo v_hi v_ri (a1 >>> ((16 : Int32) &&& 31))).1) _ _ _ (by rw [if_pos h2, if_neg h3]) (lv_sub hl [0, 1, 2, 3, 4, 5, 6, 7, 8] rfl) hP hD hS
set_option maxHeartbeats 4000000 in
set_option maxRecDepth 100000 in
theorem k_X_instr26 (l : Launch) (D : va_G) (cI : ClassId) (sz : Nat) (yX : Nat) (yM : Nat) (yD : Nat) (yA : Nat) (yO : Nat) (yL : Nat) (yH : Nat) (yI : Nat) (v_x : Nat → Int32) (v_M : Nat → Int32) (v_d : Nat → Int32) (v_a : Nat → Int32) (v_o : Nat → Int32) (v_lo : Nat → Int32) (v_hi : Nat → Int32) (v_ri : Nat → Int32) (a1 : Int32) (hop : (a1 &&& (31 : Int32)) = (26 : Int32)) : zMv l y_X_instruction (.code y_X_instruction b_X_instruction 9 (none) :: wd) { frames := 4, cells := 0, slots := 0, locals := 100 } D classes [(cI, .int)] [.ref yX, .int a1] [oX yX yM yD yA yO yL yH yI v_x, ar cI yM 512 v_M, ar cI yD 8 v_d, ar cI yA 8 v_a, ar cI yO 4 v_o, ar cI yL 6 v_lo, ar cI yH 6 v_hi, ar cI yI 6 v_ri] [oX yX yM yD yA yO yL yH yI ((s_X_instr26 v_x v_M v_d v_a v_o v_lo v_hi v_ri a1).1), ar cI yM 512 ((s_X_instr26 v_x v_M v_d v_a v_o v_lo v_hi v_ri a1).2.1), ar cI yD 8 ((s_X_instr26 v_x v_M v_d v_a v_o v_lo v_hi v_ri a1).2.2.1), ar cI yA 8 ((s_X_instr26 v_x v_M v_d v_a v_o v_lo v_hi v_ri a1).2.2.2.1), ar cI yO 4 ((s_X_instr26 v_x v_M v_d v_a v_o v_lo v_hi v_ri a1).2.2.2.2), ar cI yL 6 v_lo, ar cI yH 6 v_hi, ar cI yI 6 v_ri] sz := by
  refine met_v (by decide) (Nat.le_of_ble_eq_true rfl) ?_
  intro p e s m args below meth c A Q ls hx hb hml hown hts hK hP hD hS hA hl hE
  have hl : lv_has ls 9 [(0, .ref yX), (1, .int a1)] := hl
  have hown : s.vm.findClass R_X = some m.cls := hown
  refine lv_iload_n hx hb d_X_instruction_0 rfl (lv_at hl 1 rfl) ?_
  refine lv_bipush (v := (31 : Int32)) hx hb d_X_instruction_1 (by decide) ?_
  refine lv_iand hx hb d_X_instruction_3 ?_
  refine lv_topi (fun zz ez => ?_)
  obtain rfl : zz = (26 : Int32) := ez.trans hop
  refine lv_istore_n (lv' := [(2, .int (26 : Int32)), (0, .ref yX), (1, .int a1)]) hx hb d_X_instruction_4 rfl hl (by decide) rfl (fun ls hl => ?_)
  refine lv_iload_n hx hb d_X_instruction_5 rfl (lv_at hl 2 rfl) ?_
  refine lv_iconst (v := (5 : Int32)) hx hb d_X_instruction_6 (by decide) ?_
  refine lv_ishr hx hb d_X_instruction_7 ?_
  refine lv_bipush (v := (7 : Int32)) hx hb d_X_instruction_8 (by decide) ?_
  refine lv_iand hx hb d_X_instruction_10 ?_
  refine lv_istore_n (lv' := [(3, .int ((a1 >>> ((5 : Int32) &&& 31)) &&& (7 : Int32))), (2, .int (26 : Int32)), (0, .ref yX), (1, .int a1)]) hx hb d_X_instruction_11 rfl hl (by decide) rfl (fun ls hl => ?_)
  refine lv_iload_n hx hb d_X_instruction_12 rfl (lv_at hl 3 rfl) ?_
  show W p l e _ s m args below meth c _ _ _ _ Q (F0 m 13 ls _)
  refine lv_bipush (v := (8 : Int32)) hx hb d_X_instruction_13 (by decide) ?_
  refine lv_ishr hx hb d_X_instruction_15 ?_
  refine lv_bipush (v := (7 : Int32)) hx hb d_X_instruction_16 (by decide) ?_
  refine lv_iand hx hb d_X_instruction_18 ?_
  refine lv_istore (lv' := [(4, .int ((a1 >>> ((8 : Int32) &&& 31)) &&& (7 : Int32))), (3, .int ((a1 >>> ((5 : Int32) &&& 31)) &&& (7 : Int32))), (2, .int (26 : Int32)), (0, .ref yX), (1, .int a1)]) hx hb d_X_instruction_19 hl (by decide) rfl (fun ls hl => ?_)
  refine lv_iload_n hx hb d_X_instruction_21 rfl (lv_at hl 4 rfl) ?_
  refine lv_bipush (v := (11 : Int32)) hx hb d_X_instruction_22 (by decide) ?_
  refine lv_ishr hx hb d_X_instruction_24 ?_
  refine lv_bipush (v := (7 : Int32)) hx hb d_X_instruction_25 (by decide) ?_
  refine lv_iand hx hb d_X_instruction_27 ?_
  refine lv_istore (lv' := [(5, .int ((a1 >>> ((11 : Int32) &&& 31)) &&& (7 : Int32))), (4, .int ((a1 >>> ((8 : Int32) &&& 31)) &&& (7 : Int32))), (3, .int ((a1 >>> ((5 : Int32) &&& 31)) &&& (7 : Int32))), (2, .int (26 : Int32)), (0, .ref yX), (1, .int a1)]) hx hb d_X_instruction_28 hl (by decide) rfl (fun ls hl => ?_)
  refine lv_iload_n hx hb d_X_instruction_30 rfl (lv_at hl 5 rfl) ?_
  show W p l e _ s m args below meth c _ _ _ _ Q (F0 m 31 ls _)
  refine lv_bipush (v := (16 : Int32)) hx hb d_X_instruction_31 (by decide) ?_
  refine lv_ishr hx hb d_X_instruction_33 ?_
  refine lv_istore (lv' := [(6, .int (a1 >>> ((16 : Int32) &&& 31))), (5, .int ((a1 >>> ((11 : Int32) &&& 31)) &&& (7 : Int32))), (4, .int ((a1 >>> ((8 : Int32) &&& 31)) &&& (7 : Int32))), (3, .int ((a1 >>> ((5 : Int32) &&& 31)) &&& (7 : Int32))), (2, .int (26 : Int32)), (0, .ref yX), (1, .int a1)]) hx hb d_X_instruction_34 hl (by decide) rfl (fun ls hl => ?_)
  refine lv_iload_n hx hb d_X_instruction_36 rfl (lv_at hl 4 rfl) ?_
  refine lv_bipush (v := (25 : Int32)) hx hb d_X_instruction_37 (by decide) ?_
  refine lv_icmp_eq (tgt := 66) hx hb d_X_instruction_39 (by decide) (fun hh => absurd hh (by decide)) (fun _ => ?_)
  refine lv_iload_n hx hb d_X_instruction_42 rfl (lv_at hl 4 rfl) ?_
  refine lv_bipush (v := (26 : Int32)) hx hb d_X_instruction_43 (by decide) ?_
  refine lv_icmp_eq (tgt := 66) hx hb d_X_instruction_45 (by decide) (fun _ => ?_) (fun hh => absurd hh (by decide))
  refine lv_iconst (v := (1 : Int32)) hx hb d_X_instruction_66 (by decide) ?_
  refine lv_goto (tgt := 71) hx hb d_X_instruction_67 (by decide) ?_
  refine lv_istore (lv' := [(7, .int (1 : Int32)), (6, .int (a1 >>> ((16 : Int32) &&& 31))), (5, .int ((a1 >>> ((11 : Int32) &&& 31)) &&& (7 : Int32))), (4, .int ((a1 >>> ((8 : Int32) &&& 31)) &&& (7 : Int32))), (3, .int ((a1 >>> ((5 : Int32) &&& 31)) &&& (7 : Int32))), (2, .int (26 : Int32)), (0, .ref yX), (1, .int a1)]) hx hb d_X_instruction_71 hl (by decide) rfl (fun ls hl => ?_)
  refine lv_iload hx hb d_X_instruction_73 (lv_at hl 0 rfl) ?_
  refine lv_if_eq (tgt := 86) hx hb d_X_instruction_75 (by decide) (fun hh => absurd hh (by decide)) (fun _ => ?_)
  refine lv_aload_n hx hb d_X_instruction_78 rfl (lv_at hl 6 rfl) ?_
  refine zz_get (C := R_X) (T := F_X) (N := 27) (v := .int (v_x 1)) hx hb hts in_X hown hK hP 0 rfl rfl 5 (by decide) mw_70 rfl d_X_instruction_79 ?_
  refine lv_iconst (v := (2 : Int32)) hx hb d_X_instruction_82 (by decide) ?_
  refine lv_icmp_ne (tgt := 103) hx hb d_X_instruction_83 (by decide) (fun h1 => ?_) (fun h1 => ?_)
  ·
    refine lv_aload_n hx hb d_X_instruction_103 rfl (lv_at hl 6 rfl) ?_
    refine lv_sipush (v := (257 : Int32)) hx hb d_X_instruction_104 (by decide) ?_
    refine zz_put (C := R_X) (T := F_X) (N := 27) (w' := [oX yX yM yD yA yO yL yH yI (upd v_x 19 (257 : Int32)), ar cI yM 512 v_M, ar cI yD 8 v_d, ar cI yA 8 v_a, ar cI yO 4 v_o, ar cI yL 6 v_lo, ar cI yH 6 v_hi, ar cI yI 6 v_ri]) hx hb hts in_X ty_X ty_X_ok n_X hown hK hP hD hS 0 rfl rfl 26 (by decide) mw_79 rfl rfl rfl (Nat.le_of_ble_eq_true rfl) d_X_instruction_107 rfl (fun H locs hP hD hS => ?_)
    have hsp : s_X_instr26 v_x v_M v_d v_a v_o v_lo v_hi v_ri a1 = (upd v_x 19 (257 : Int32), v_M, v_d, v_a, v_o) := (by unfold s_X_instr26; rw [if_neg h1])
    rw [hsp] at hE
    exact hE _ _ _ _ hP hD hS d_X_instruction_110
  ·
    refine lv_iload_n hx hb d_X_instruction_86 rfl (lv_at hl 5 rfl) ?_
    refine lv_bipush (v := (30 : Int32)) hx hb d_X_instruction_87 (by decide) ?_
    refine lv_icmp_ne (tgt := 111) hx hb d_X_instruction_89 (by decide) (fun _ => ?_) (fun hh => absurd hh (by decide))
    refine lv_aload_n hx hb d_X_instruction_111 rfl (lv_at hl 6 rfl) ?_
    refine zz_get (C := R_X) (T := F_X) (N := 27) (v := .ref yO) hx hb hts in_X hown hK hP 0 rfl rfl 4 (by decide) mw_68 rfl d_X_instruction_112 ?_
    refine lv_iconst (v := (0 : Int32)) hx hb d_X_instruction_115 (by decide) ?_
    refine va_iald hx hb hK hP 4 0 rfl rfl (zz_inc (by decide)) d_X_instruction_116 ?_
    refine lv_iconst (v := (1 : Int32)) hx hb d_X_instruction_117 (by decide) ?_
    refine lv_iadd hx hb d_X_instruction_118 ?_
    refine lv_istore (lv' := [(8, .int ((v_o (ix (0 : Int32))) + (1 : Int32))), (7, .int (1 : Int32)), (6, .int (a1 >>> ((16 : Int32) &&& 31))), (5, .int ((a1 >>> ((11 : Int32) &&& 31)) &&& (7 : Int32))), (4, .int ((a1 >>> ((8 : Int32) &&& 31)) &&& (7 : Int32))), (3, .int ((a1 >>> ((5 : Int32) &&& 31)) &&& (7 : Int32))), (2, .int (26 : Int32)), (0, .ref yX), (1, .int a1)]) hx hb d_X_instruction_119 hl (by decide) rfl (fun ls hl => ?_)
    refine lv_iload_n hx hb d_X_instruction_121 rfl (lv_at hl 6 rfl) ?_
    refine lv_if_le (tgt := 146) hx hb d_X_instruction_122 (by decide) (fun hh => absurd hh (by decide)) (fun _ => ?_)
    refine lv_iload_n hx hb d_X_instruction_125 rfl (lv_at hl 6 rfl) ?_
    refine lv_bipush (v := (13 : Int32)) hx hb d_X_instruction_126 (by decide) ?_
    refine lv_icmp_ge (tgt := 146) hx hb d_X_instruction_128 (by decide) (fun _ => ?_) (fun hh => absurd hh (by decide))
    refine lv_iload_n hx hb d_X_instruction_146 rfl (lv_at hl 6 rfl) ?_
    refine lv_bipush (v := (12 : Int32)) hx hb d_X_instruction_147 (by decide) ?_
    refine lv_icmp_le (tgt := 171) hx hb d_X_instruction_149 (by decide) (fun hh => absurd hh (by decide)) (fun _ => ?_)
    refine lv_iload_n hx hb d_X_instruction_152 rfl (lv_at hl 6 rfl) ?_
    refine lv_bipush (v := (18 : Int32)) hx hb d_X_instruction_153 (by decide) ?_
    refine lv_icmp_ge (tgt := 171) hx hb d_X_instruction_155 (by decide) (fun _ => ?_) (fun hh => absurd hh (by decide))
    refine lv_iload_n hx hb d_X_instruction_171 rfl (lv_at hl 6 rfl) ?_
    refine lv_bipush (v := (17 : Int32)) hx hb d_X_instruction_172 (by decide) ?_
    refine lv_icmp_le (tgt := 213) hx hb d_X_instruction_174 (by decide) (fun hh => absurd hh (by decide)) (fun _ => ?_)
    refine lv_iload_n hx hb d_X_instruction_177 rfl (lv_at hl 6 rfl) ?_
    refine lv_bipush (v := (21 : Int32)) hx hb d_X_instruction_178 (by decide) ?_
    refine lv_icmp_ge (tgt := 213) hx hb d_X_instruction_180 (by decide) (fun _ => ?_) (fun hh => absurd hh (by decide))
    refine lv_iload_n hx hb d_X_instruction_213 rfl (lv_at hl 6 rfl) ?_
    refine lv_bipush (v := (20 : Int32)) hx hb d_X_instruction_214 (by decide) ?_
    refine lv_icmp_le (tgt := 237) hx hb d_X_instruction_216 (by decide) (fun hh => absurd hh (by decide)) (fun _ => ?_)
    refine lv_iload_n hx hb d_X_instruction_219 rfl (lv_at hl 6 rfl) ?_
    refine lv_bipush (v := (27 : Int32)) hx hb d_X_instruction_220 (by decide) ?_
    refine lv_icmp_ge (tgt := 237) hx hb d_X_instruction_222 (by decide) (fun hh => absurd hh (by decide)) (fun _ => ?_)
    refine lv_aload_n hx hb d_X_instruction_225 rfl (lv_at hl 7 rfl) ?_
    refine lv_iload_n hx hb d_X_instruction_226 rfl (lv_at hl 6 rfl) ?_
    refine lv_iload hx hb d_X_instruction_227 (lv_at hl 2 rfl) ?_
    refine zz_cVi (rest := []) (wr := []) (w' := [oX yX yM yD yA yO yL yH yI ((s_X_context26 v_x v_M v_d v_a v_o v_lo v_hi v_ri (a1 >>> ((16 : Int32) &&& 31))).2.1), ar cI yM 512 ((s_X_context26 v_x v_M v_d v_a v_o v_lo v_hi v_ri (a1 >>> ((16 : Int32) &&& 31))).2.2.1), ar cI yD 8 ((s_X_context26 v_x v_M v_d v_a v_o v_lo v_hi v_ri (a1 >>> ((16 : Int32) &&& 31))).2.2.2.1), ar cI yA 8 ((s_X_context26 v_x v_M v_d v_a v_o v_lo v_hi v_ri (a1 >>> ((16 : Int32) &&& 31))).2.2.2.2.1), ar cI yO 4 ((s_X_context26 v_x v_M v_d v_a v_o v_lo v_hi v_ri (a1 >>> ((16 : Int32) &&& 31))).2.2.2.2.2), ar cI yL 6 v_lo, ar cI yH 6 v_hi, ar cI yI 6 v_ri]) ⟨hx, hb, hml, hown, hts⟩ (k_X_context26 l D cI _ yX yM yD yA yO yL yH yI v_x v_M v_d v_a v_o v_lo v_hi v_ri (a1 >>> ((16 : Int32) &&& 31))) g_X_instruction_X_context_123 nv_X_context ⟨⟨rfl, rfl⟩, Nat.le_of_ble_eq_true rfl, Nat.le_of_ble_eq_true rfl⟩ hK [0] rfl hP hD hS hA [0, 1, 2, 3, 4, 5, 6, 7] [] [0, 1, 2, 3, 4, 5, 6, 7] rfl rfl rfl rfl (by decide) rfl rfl 0 6 rfl rfl rfl rfl hl.1 (Nat.le_of_ble_eq_true rfl) d_X_instruction_229 ⟨Nat.zero_le _, Nat.zero_le _⟩ (fun H locs hP hD hS => ?_)
    refine lv_istore (lv' := [(8, .int ((s_X_context26 v_x v_M v_d v_a v_o v_lo v_hi v_ri (a1 >>> ((16 : Int32) &&& 31))).1)), (7, .int (1 : Int32)), (6, .int (a1 >>> ((16 : Int32) &&& 31))), (5, .int ((a1 >>> ((11 : Int32) &&& 31)) &&& (7 : Int32))), (4, .int ((a1 >>> ((8 : Int32) &&& 31)) &&& (7 : Int32))), (3, .int ((a1 >>> ((5 : Int32) &&& 31)) &&& (7 : Int32))), (2, .int (26 : Int32)), (0, .ref yX), (1, .int a1)]) hx hb d_X_instruction_232 hl (by decide) rfl (fun ls hl => ?_)
    refine lv_goto (tgt := 244) hx hb d_X_instruction_234 (by decide) ?_
    refine lv_aload_n hx hb d_X_instruction_244 rfl (lv_at hl 7 rfl) ?_
    refine zz_get (C := R_X) (T := F_X) (N := 27) (v := .ref yO) hx hb hts in_X hown hK hP 0 rfl rfl 4 (by decide) mw_68 rfl d_X_instruction_245 ?_
    refine lv_iconst (v := (0 : Int32)) hx hb d_X_instruction_248 (by decide) ?_
    refine lv_aload_n hx hb d_X_instruction_249 rfl (lv_at hl 7 rfl) ?_
    refine zz_get (C := R_X) (T := F_X) (N := 27) (v := .int (((s_X_context26 v_x v_M v_d v_a v_o v_lo v_hi v_ri (a1 >>> ((16 : Int32) &&& 31))).2.1) 19)) hx hb hts in_X hown hK hP 0 rfl rfl 26 (by decide) mw_79 rfl d_X_instruction_250 ?_
    show W p l e _ s m args below meth c _ _ _ _ Q (F0 m 253 ls _)
    have J253_3 : ∀ (vj253_0 : Int32) (ls : Array Slot) (H : Heap) (locs : List Loc), vj253_0 = (if (((s_X_context26 v_x v_M v_d v_a v_o v_lo v_hi v_ri (a1 >>> ((16 : Int32) &&& 31))).2.1) 19) = 0 then (if (((s_X_context26 v_x v_M v_d v_a v_o v_lo v_hi v_ri (a1 >>> ((16 : Int32) &&& 31))).2.1) 7) = 0 then (((s_X_context26 v_x v_M v_d v_a v_o v_lo v_hi v_ri (a1 >>> ((16 : Int32) &&& 31))).2.2.2.2.2) (ix (0 : Int32))) else (s_X_context26 v_x v_M v_d v_a v_o v_lo v_hi v_ri (a1 >>> ((16 : Int32) &&& 31))).1) else (((s_X_context26 v_x v_M v_d v_a v_o v_lo v_hi v_ri (a1 >>> ((16 : Int32) &&& 31))).2.2.2.2.2) (ix (0 : Int32)))) → lv_has ls 9 [(8, .int ((s_X_context26 v_x v_M v_d v_a v_o v_lo v_hi v_ri (a1 >>> ((16 : Int32) &&& 31))).1)), (7, .int (1 : Int32)), (6, .int (a1 >>> ((16 : Int32) &&& 31))), (5, .int ((a1 >>> ((11 : Int32) &&& 31)) &&& (7 : Int32))), (4, .int ((a1 >>> ((8 : Int32) &&& 31)) &&& (7 : Int32))), (3, .int ((a1 >>> ((5 : Int32) &&& 31)) &&& (7 : Int32))), (2, .int (26 : Int32)), (0, .ref yX), (1, .int a1)] → va_P D classes [oX yX yM yD yA yO yL yH yI ((s_X_context26 v_x v_M v_d v_a v_o v_lo v_hi v_ri (a1 >>> ((16 : Int32) &&& 31))).2.1), ar cI yM 512 ((s_X_context26 v_x v_M v_d v_a v_o v_lo v_hi v_ri (a1 >>> ((16 : Int32) &&& 31))).2.2.1), ar cI yD 8 ((s_X_context26 v_x v_M v_d v_a v_o v_lo v_hi v_ri (a1 >>> ((16 : Int32) &&& 31))).2.2.2.1), ar cI yA 8 ((s_X_context26 v_x v_M v_d v_a v_o v_lo v_hi v_ri (a1 >>> ((16 : Int32) &&& 31))).2.2.2.2.1), ar cI yO 4 ((s_X_context26 v_x v_M v_d v_a v_o v_lo v_hi v_ri (a1 >>> ((16 : Int32) &&& 31))).2.2.2.2.2), ar cI yL 6 v_lo, ar cI yH 6 v_hi, ar cI yI 6 v_ri] H → va_D A [oX yX yM yD yA yO yL yH yI ((s_X_context26 v_x v_M v_d v_a v_o v_lo v_hi v_ri (a1 >>> ((16 : Int32) &&& 31))).2.1), ar cI yM 512 ((s_X_context26 v_x v_M v_d v_a v_o v_lo v_hi v_ri (a1 >>> ((16 : Int32) &&& 31))).2.2.1), ar cI yD 8 ((s_X_context26 v_x v_M v_d v_a v_o v_lo v_hi v_ri (a1 >>> ((16 : Int32) &&& 31))).2.2.2.1), ar cI yA 8 ((s_X_context26 v_x v_M v_d v_a v_o v_lo v_hi v_ri (a1 >>> ((16 : Int32) &&& 31))).2.2.2.2.1), ar cI yO 4 ((s_X_context26 v_x v_M v_d v_a v_o v_lo v_hi v_ri (a1 >>> ((16 : Int32) &&& 31))).2.2.2.2.2), ar cI yL 6 v_lo, ar cI yH 6 v_hi, ar cI yI 6 v_ri] → va_S A s.heap H locs → W p l e { frames := 4, cells := 0, slots := 0, locals := 100 } s m args below meth c H locs 0 0 Q (F0 m 274 ls [.int vj253_0, .int (0 : Int32), .ref yO]) := by
      intro vj253_0 ls H locs evj253_0 hl hP hD hS
      subst evj253_0
      refine zz_iast (w' := [oX yX yM yD yA yO yL yH yI ((s_X_context26 v_x v_M v_d v_a v_o v_lo v_hi v_ri (a1 >>> ((16 : Int32) &&& 31))).2.1), ar cI yM 512 ((s_X_context26 v_x v_M v_d v_a v_o v_lo v_hi v_ri (a1 >>> ((16 : Int32) &&& 31))).2.2.1), ar cI yD 8 ((s_X_context26 v_x v_M v_d v_a v_o v_lo v_hi v_ri (a1 >>> ((16 : Int32) &&& 31))).2.2.2.1), ar cI yA 8 ((s_X_context26 v_x v_M v_d v_a v_o v_lo v_hi v_ri (a1 >>> ((16 : Int32) &&& 31))).2.2.2.2.1), ar cI yO 4 (upd ((s_X_context26 v_x v_M v_d v_a v_o v_lo v_hi v_ri (a1 >>> ((16 : Int32) &&& 31))).2.2.2.2.2) (ix (0 : Int32)) (if (((s_X_context26 v_x v_M v_d v_a v_o v_lo v_hi v_ri (a1 >>> ((16 : Int32) &&& 31))).2.1) 19) = 0 then (if (((s_X_context26 v_x v_M v_d v_a v_o v_lo v_hi v_ri (a1 >>> ((16 : Int32) &&& 31))).2.1) 7) = 0 then (((s_X_context26 v_x v_M v_d v_a v_o v_lo v_hi v_ri (a1 >>> ((16 : Int32) &&& 31))).2.2.2.2.2) (ix (0 : Int32))) else (s_X_context26 v_x v_M v_d v_a v_o v_lo v_hi v_ri (a1 >>> ((16 : Int32) &&& 31))).1) else (((s_X_context26 v_x v_M v_d v_a v_o v_lo v_hi v_ri (a1 >>> ((16 : Int32) &&& 31))).2.2.2.2.2) (ix (0 : Int32))))), ar cI yL 6 v_lo, ar cI yH 6 v_hi, ar cI yI 6 v_ri]) hx hb hK hP hD hS 4 0 rfl rfl (zz_inc (by decide)) d_X_instruction_274 rfl (fun H locs hP hD hS => ?_)
      have hsp : s_X_instr26 v_x v_M v_d v_a v_o v_lo v_hi v_ri a1 = ((s_X_context26 v_x v_M v_d v_a v_o v_lo v_hi v_ri (a1 >>> ((16 : Int32) &&& 31))).2.1, (s_X_context26 v_x v_M v_d v_a v_o v_lo v_hi v_ri (a1 >>> ((16 : Int32) &&& 31))).2.2.1, (s_X_context26 v_x v_M v_d v_a v_o v_lo v_hi v_ri (a1 >>> ((16 : Int32) &&& 31))).2.2.2.1, (s_X_context26 v_x v_M v_d v_a v_o v_lo v_hi v_ri (a1 >>> ((16 : Int32) &&& 31))).2.2.2.2.1, upd ((s_X_context26 v_x v_M v_d v_a v_o v_lo v_hi v_ri (a1 >>> ((16 : Int32) &&& 31))).2.2.2.2.2) (ix (0 : Int32)) (if (((s_X_context26 v_x v_M v_d v_a v_o v_lo v_hi v_ri (a1 >>> ((16 : Int32) &&& 31))).2.1) 19) = 0 then (if (((s_X_context26 v_x v_M v_d v_a v_o v_lo v_hi v_ri (a1 >>> ((16 : Int32) &&& 31))).2.1) 7) = 0 then (((s_X_context26 v_x v_M v_d v_a v_o v_lo v_hi v_ri (a1 >>> ((16 : Int32) &&& 31))).2.2.2.2.2) (ix (0 : Int32))) else (s_X_context26 v_x v_M v_d v_a v_o v_lo v_hi v_ri (a1 >>> ((16 : Int32) &&& 31))).1) else (((s_X_context26 v_x v_M v_d v_a v_o v_lo v_hi v_ri (a1 >>> ((16 : Int32) &&& 31))).2.2.2.2.2) (ix (0 : Int32))))) := (by unfold s_X_instr26; rw [if_pos h1])
      rw [hsp] at hE
      exact hE _ _ _ _ hP hD hS d_X_instruction_275
    refine lv_if_ne (tgt := 268) hx hb d_X_instruction_253 (by decide) (fun h2 => ?_) (fun h2 => ?_)
    ·
      refine lv_aload_n hx hb d_X_instruction_268 rfl (lv_at hl 7 rfl) ?_
      refine zz_get (C := R_X) (T := F_X) (N := 27) (v := .ref yO) hx hb hts in_X hown hK hP 0 rfl rfl 4 (by decide) mw_68 rfl d_X_instruction_269 ?_
      refine lv_iconst (v := (0 : Int32)) hx hb d_X_instruction_272 (by decide) ?_
      refine va_iald hx hb hK hP 4 0 rfl rfl (zz_inc (by decide)) d_X_instruction_273 ?_
      exact J253_3 (((s_X_context26 v_x v_M v_d v_a v_o v_lo v_hi v_ri (a1 >>> ((16 : Int32) &&& 31))).2.2.2.2.2) (ix (0 : Int32))) _ _ _ (by rw [if_neg h2]) (lv_sub hl [0, 1, 2, 3, 4, 5, 6, 7, 8] rfl) hP hD hS
    ·
      refine lv_aload_n hx hb d_X_instruction_256 rfl (lv_at hl 7 rfl) ?_
      refine zz_get (C := R_X) (T := F_X) (N := 27) (v := .int (((s_X_context26 v_x v_M v_d v_a v_o v_lo v_hi v_ri (a1 >>> ((16 : Int32) &&& 31))).2.1) 7)) hx hb hts in_X hown hK hP 0 rfl rfl 11 (by decide) mw_78 rfl d_X_instruction_257 ?_
      refine lv_if_eq (tgt := 268) hx hb d_X_instruction_260 (by decide) (fun h3 => ?_) (fun h3 => ?_)
      ·
        refine lv_aload_n hx hb d_X_instruction_268 rfl (lv_at hl 7 rfl) ?_
        refine zz_get (C := R_X) (T := F_X) (N := 27) (v := .ref yO) hx hb hts in_X hown hK hP 0 rfl rfl 4 (by decide) mw_68 rfl d_X_instruction_269 ?_
        refine lv_iconst (v := (0 : Int32)) hx hb d_X_instruction_272 (by decide) ?_
        refine va_iald hx hb hK hP 4 0 rfl rfl (zz_inc (by decide)) d_X_instruction_273 ?_
        exact J253_3 (((s_X_context26 v_x v_M v_d v_a v_o v_lo v_hi v_ri (a1 >>> ((16 : Int32) &&& 31))).2.2.2.2.2) (ix (0 : Int32))) _ _ _ (by rw [if_pos h2, if_pos h3]) (lv_sub hl [0, 1, 2, 3, 4, 5, 6, 7, 8] rfl) hP hD hS
      ·
        refine lv_iload hx hb d_X_instruction_263 (lv_at hl 0 rfl) ?_
        refine lv_goto (tgt := 274) hx hb d_X_instruction_265 (by decide) ?_
        exact J253_3 ((s_X_context26 v_x v_M v_d v_a v_o v_lo v_hi v_ri (a1 >>> ((16 : Int32) &&& 31))).1) _ _ _ (by rw [if_pos h2, if_neg h3]) (lv_sub hl [0, 1, 2, 3, 4, 5, 6, 7, 8] rfl) hP hD hS
set_option maxHeartbeats 4000000 in
set_option maxRecDepth 100000 in
theorem k_X_instr27 (l : Launch) (D : va_G) (cI : ClassId) (sz : Nat) (yX : Nat) (yM : Nat) (yD : Nat) (yA : Nat) (yO : Nat) (yL : Nat) (yH : Nat) (yI : Nat) (v_x : Nat → Int32) (v_M : Nat → Int32) (v_d : Nat → Int32) (v_a : Nat → Int32) (v_o : Nat → Int32) (v_lo : Nat → Int32) (v_hi : Nat → Int32) (v_ri : Nat → Int32) (a1 : Int32) (hop : (a1 &&& (31 : Int32)) = (27 : Int32)) : zMv l y_X_instruction (.code y_X_instruction b_X_instruction 9 (none) :: wd) { frames := 4, cells := 0, slots := 0, locals := 100 } D classes [(cI, .int)] [.ref yX, .int a1] [oX yX yM yD yA yO yL yH yI v_x, ar cI yM 512 v_M, ar cI yD 8 v_d, ar cI yA 8 v_a, ar cI yO 4 v_o, ar cI yL 6 v_lo, ar cI yH 6 v_hi, ar cI yI 6 v_ri] [oX yX yM yD yA yO yL yH yI ((s_X_instr27 v_x v_M v_d v_a v_o v_lo v_hi v_ri a1).1), ar cI yM 512 v_M, ar cI yD 8 v_d, ar cI yA 8 v_a, ar cI yO 4 ((s_X_instr27 v_x v_M v_d v_a v_o v_lo v_hi v_ri a1).2), ar cI yL 6 v_lo, ar cI yH 6 v_hi, ar cI yI 6 v_ri] sz := by
  refine met_v (by decide) (Nat.le_of_ble_eq_true rfl) ?_
  intro p e s m args below meth c A Q ls hx hb hml hown hts hK hP hD hS hA hl hE
  have hl : lv_has ls 9 [(0, .ref yX), (1, .int a1)] := hl
  have hown : s.vm.findClass R_X = some m.cls := hown
  refine lv_iload_n hx hb d_X_instruction_0 rfl (lv_at hl 1 rfl) ?_
  refine lv_bipush (v := (31 : Int32)) hx hb d_X_instruction_1 (by decide) ?_
  refine lv_iand hx hb d_X_instruction_3 ?_
  refine lv_topi (fun zz ez => ?_)
  obtain rfl : zz = (27 : Int32) := ez.trans hop
  refine lv_istore_n (lv' := [(2, .int (27 : Int32)), (0, .ref yX), (1, .int a1)]) hx hb d_X_instruction_4 rfl hl (by decide) rfl (fun ls hl => ?_)
  refine lv_iload_n hx hb d_X_instruction_5 rfl (lv_at hl 2 rfl) ?_
  refine lv_iconst (v := (5 : Int32)) hx hb d_X_instruction_6 (by decide) ?_
  refine lv_ishr hx hb d_X_instruction_7 ?_
  refine lv_bipush (v := (7 : Int32)) hx hb d_X_instruction_8 (by decide) ?_
  refine lv_iand hx hb d_X_instruction_10 ?_
  refine lv_istore_n (lv' := [(3, .int ((a1 >>> ((5 : Int32) &&& 31)) &&& (7 : Int32))), (2, .int (27 : Int32)), (0, .ref yX), (1, .int a1)]) hx hb d_X_instruction_11 rfl hl (by decide) rfl (fun ls hl => ?_)
  refine lv_iload_n hx hb d_X_instruction_12 rfl (lv_at hl 3 rfl) ?_
  show W p l e _ s m args below meth c _ _ _ _ Q (F0 m 13 ls _)
  refine lv_bipush (v := (8 : Int32)) hx hb d_X_instruction_13 (by decide) ?_
  refine lv_ishr hx hb d_X_instruction_15 ?_
  refine lv_bipush (v := (7 : Int32)) hx hb d_X_instruction_16 (by decide) ?_
  refine lv_iand hx hb d_X_instruction_18 ?_
  refine lv_istore (lv' := [(4, .int ((a1 >>> ((8 : Int32) &&& 31)) &&& (7 : Int32))), (3, .int ((a1 >>> ((5 : Int32) &&& 31)) &&& (7 : Int32))), (2, .int (27 : Int32)), (0, .ref yX), (1, .int a1)]) hx hb d_X_instruction_19 hl (by decide) rfl (fun ls hl => ?_)
  refine lv_iload_n hx hb d_X_instruction_21 rfl (lv_at hl 4 rfl) ?_
  refine lv_bipush (v := (11 : Int32)) hx hb d_X_instruction_22 (by decide) ?_
  refine lv_ishr hx hb d_X_instruction_24 ?_
  refine lv_bipush (v := (7 : Int32)) hx hb d_X_instruction_25 (by decide) ?_
  refine lv_iand hx hb d_X_instruction_27 ?_
  refine lv_istore (lv' := [(5, .int ((a1 >>> ((11 : Int32) &&& 31)) &&& (7 : Int32))), (4, .int ((a1 >>> ((8 : Int32) &&& 31)) &&& (7 : Int32))), (3, .int ((a1 >>> ((5 : Int32) &&& 31)) &&& (7 : Int32))), (2, .int (27 : Int32)), (0, .ref yX), (1, .int a1)]) hx hb d_X_instruction_28 hl (by decide) rfl (fun ls hl => ?_)
  refine lv_iload_n hx hb d_X_instruction_30 rfl (lv_at hl 5 rfl) ?_
  show W p l e _ s m args below meth c _ _ _ _ Q (F0 m 31 ls _)
  refine lv_bipush (v := (16 : Int32)) hx hb d_X_instruction_31 (by decide) ?_
  refine lv_ishr hx hb d_X_instruction_33 ?_
  refine lv_istore (lv' := [(6, .int (a1 >>> ((16 : Int32) &&& 31))), (5, .int ((a1 >>> ((11 : Int32) &&& 31)) &&& (7 : Int32))), (4, .int ((a1 >>> ((8 : Int32) &&& 31)) &&& (7 : Int32))), (3, .int ((a1 >>> ((5 : Int32) &&& 31)) &&& (7 : Int32))), (2, .int (27 : Int32)), (0, .ref yX), (1, .int a1)]) hx hb d_X_instruction_34 hl (by decide) rfl (fun ls hl => ?_)
  refine lv_iload_n hx hb d_X_instruction_36 rfl (lv_at hl 4 rfl) ?_
  refine lv_bipush (v := (25 : Int32)) hx hb d_X_instruction_37 (by decide) ?_
  refine lv_icmp_eq (tgt := 66) hx hb d_X_instruction_39 (by decide) (fun hh => absurd hh (by decide)) (fun _ => ?_)
  refine lv_iload_n hx hb d_X_instruction_42 rfl (lv_at hl 4 rfl) ?_
  refine lv_bipush (v := (26 : Int32)) hx hb d_X_instruction_43 (by decide) ?_
  refine lv_icmp_eq (tgt := 66) hx hb d_X_instruction_45 (by decide) (fun hh => absurd hh (by decide)) (fun _ => ?_)
  refine lv_iload_n hx hb d_X_instruction_48 rfl (lv_at hl 4 rfl) ?_
  refine lv_bipush (v := (28 : Int32)) hx hb d_X_instruction_49 (by decide) ?_
  refine lv_icmp_eq (tgt := 66) hx hb d_X_instruction_51 (by decide) (fun hh => absurd hh (by decide)) (fun _ => ?_)
  refine lv_iload_n hx hb d_X_instruction_54 rfl (lv_at hl 4 rfl) ?_
  refine lv_bipush (v := (29 : Int32)) hx hb d_X_instruction_55 (by decide) ?_
  refine lv_icmp_eq (tgt := 66) hx hb d_X_instruction_57 (by decide) (fun hh => absurd hh (by decide)) (fun _ => ?_)
  refine lv_iload_n hx hb d_X_instruction_60 rfl (lv_at hl 4 rfl) ?_
  refine lv_bipush (v := (31 : Int32)) hx hb d_X_instruction_61 (by decide) ?_
  refine lv_icmp_ne (tgt := 70) hx hb d_X_instruction_63 (by decide) (fun _ => ?_) (fun hh => absurd hh (by decide))
  refine lv_iconst (v := (0 : Int32)) hx hb d_X_instruction_70 (by decide) ?_
  refine lv_istore (lv' := [(7, .int (0 : Int32)), (6, .int (a1 >>> ((16 : Int32) &&& 31))), (5, .int ((a1 >>> ((11 : Int32) &&& 31)) &&& (7 : Int32))), (4, .int ((a1 >>> ((8 : Int32) &&& 31)) &&& (7 : Int32))), (3, .int ((a1 >>> ((5 : Int32) &&& 31)) &&& (7 : Int32))), (2, .int (27 : Int32)), (0, .ref yX), (1, .int a1)]) hx hb d_X_instruction_71 hl (by decide) rfl (fun ls hl => ?_)
  refine lv_iload hx hb d_X_instruction_73 (lv_at hl 0 rfl) ?_
  refine lv_if_eq (tgt := 86) hx hb d_X_instruction_75 (by decide) (fun _ => ?_) (fun hh => absurd hh (by decide))
  refine lv_iload_n hx hb d_X_instruction_86 rfl (lv_at hl 5 rfl) ?_
  refine lv_bipush (v := (30 : Int32)) hx hb d_X_instruction_87 (by decide) ?_
  refine lv_icmp_ne (tgt := 111) hx hb d_X_instruction_89 (by decide) (fun _ => ?_) (fun hh => absurd hh (by decide))
  refine lv_aload_n hx hb d_X_instruction_111 rfl (lv_at hl 6 rfl) ?_
  refine zz_get (C := R_X) (T := F_X) (N := 27) (v := .ref yO) hx hb hts in_X hown hK hP 0 rfl rfl 4 (by decide) mw_68 rfl d_X_instruction_112 ?_
  refine lv_iconst (v := (0 : Int32)) hx hb d_X_instruction_115 (by decide) ?_
  refine va_iald hx hb hK hP 4 0 rfl rfl (zz_inc (by decide)) d_X_instruction_116 ?_
  refine lv_iconst (v := (1 : Int32)) hx hb d_X_instruction_117 (by decide) ?_
  refine lv_iadd hx hb d_X_instruction_118 ?_
  refine lv_istore (lv' := [(8, .int ((v_o (ix (0 : Int32))) + (1 : Int32))), (7, .int (0 : Int32)), (6, .int (a1 >>> ((16 : Int32) &&& 31))), (5, .int ((a1 >>> ((11 : Int32) &&& 31)) &&& (7 : Int32))), (4, .int ((a1 >>> ((8 : Int32) &&& 31)) &&& (7 : Int32))), (3, .int ((a1 >>> ((5 : Int32) &&& 31)) &&& (7 : Int32))), (2, .int (27 : Int32)), (0, .ref yX), (1, .int a1)]) hx hb d_X_instruction_119 hl (by decide) rfl (fun ls hl => ?_)
  refine lv_iload_n hx hb d_X_instruction_121 rfl (lv_at hl 6 rfl) ?_
  refine lv_if_le (tgt := 146) hx hb d_X_instruction_122 (by decide) (fun hh => absurd hh (by decide)) (fun _ => ?_)
  refine lv_iload_n hx hb d_X_instruction_125 rfl (lv_at hl 6 rfl) ?_
  refine lv_bipush (v := (13 : Int32)) hx hb d_X_instruction_126 (by decide) ?_
  refine lv_icmp_ge (tgt := 146) hx hb d_X_instruction_128 (by decide) (fun _ => ?_) (fun hh => absurd hh (by decide))
  refine lv_iload_n hx hb d_X_instruction_146 rfl (lv_at hl 6 rfl) ?_
  refine lv_bipush (v := (12 : Int32)) hx hb d_X_instruction_147 (by decide) ?_
  refine lv_icmp_le (tgt := 171) hx hb d_X_instruction_149 (by decide) (fun hh => absurd hh (by decide)) (fun _ => ?_)
  refine lv_iload_n hx hb d_X_instruction_152 rfl (lv_at hl 6 rfl) ?_
  refine lv_bipush (v := (18 : Int32)) hx hb d_X_instruction_153 (by decide) ?_
  refine lv_icmp_ge (tgt := 171) hx hb d_X_instruction_155 (by decide) (fun _ => ?_) (fun hh => absurd hh (by decide))
  refine lv_iload_n hx hb d_X_instruction_171 rfl (lv_at hl 6 rfl) ?_
  refine lv_bipush (v := (17 : Int32)) hx hb d_X_instruction_172 (by decide) ?_
  refine lv_icmp_le (tgt := 213) hx hb d_X_instruction_174 (by decide) (fun hh => absurd hh (by decide)) (fun _ => ?_)
  refine lv_iload_n hx hb d_X_instruction_177 rfl (lv_at hl 6 rfl) ?_
  refine lv_bipush (v := (21 : Int32)) hx hb d_X_instruction_178 (by decide) ?_
  refine lv_icmp_ge (tgt := 213) hx hb d_X_instruction_180 (by decide) (fun _ => ?_) (fun hh => absurd hh (by decide))
  refine lv_iload_n hx hb d_X_instruction_213 rfl (lv_at hl 6 rfl) ?_
  refine lv_bipush (v := (20 : Int32)) hx hb d_X_instruction_214 (by decide) ?_
  refine lv_icmp_le (tgt := 237) hx hb d_X_instruction_216 (by decide) (fun hh => absurd hh (by decide)) (fun _ => ?_)
  refine lv_iload_n hx hb d_X_instruction_219 rfl (lv_at hl 6 rfl) ?_
  refine lv_bipush (v := (27 : Int32)) hx hb d_X_instruction_220 (by decide) ?_
  refine lv_icmp_ge (tgt := 237) hx hb d_X_instruction_222 (by decide) (fun _ => ?_) (fun hh => absurd hh (by decide))
  refine lv_aload_n hx hb d_X_instruction_237 rfl (lv_at hl 7 rfl) ?_
  refine lv_iload_n hx hb d_X_instruction_238 rfl (lv_at hl 6 rfl) ?_
  refine lv_iload hx hb d_X_instruction_239 (lv_at hl 2 rfl) ?_
  refine zz_cVv (rest := []) (wr := []) (w' := [oX yX yM yD yA yO yL yH yI (s_X_system27 v_x v_M v_d v_a v_o v_lo v_hi v_ri (a1 >>> ((16 : Int32) &&& 31))), ar cI yM 512 v_M, ar cI yD 8 v_d, ar cI yA 8 v_a, ar cI yO 4 v_o, ar cI yL 6 v_lo, ar cI yH 6 v_hi, ar cI yI 6 v_ri]) ⟨hx, hb, hml, hown, hts⟩ (k_X_system27 l D cI _ yX yM yD yA yO yL yH yI v_x v_M v_d v_a v_o v_lo v_hi v_ri (a1 >>> ((16 : Int32) &&& 31))) g_X_instruction_X_system_127 nv_X_system ⟨⟨rfl, rfl⟩, Nat.le_of_ble_eq_true rfl, Nat.le_of_ble_eq_true rfl⟩ hK [0] rfl hP hD hS hA [0, 1, 2, 3, 4, 5, 6, 7] [] [0, 1, 2, 3, 4, 5, 6, 7] rfl rfl rfl rfl (by decide) rfl rfl 0 6 rfl rfl rfl rfl hl.1 (Nat.le_of_ble_eq_true rfl) d_X_instruction_241 ⟨Nat.zero_le _, Nat.zero_le _⟩ (fun H locs hP hD hS => ?_)
  refine lv_aload_n hx hb d_X_instruction_244 rfl (lv_at hl 7 rfl) ?_
  refine zz_get (C := R_X) (T := F_X) (N := 27) (v := .ref yO) hx hb hts in_X hown hK hP 0 rfl rfl 4 (by decide) mw_68 rfl d_X_instruction_245 ?_
  refine lv_iconst (v := (0 : Int32)) hx hb d_X_instruction_248 (by decide) ?_
  refine lv_aload_n hx hb d_X_instruction_249 rfl (lv_at hl 7 rfl) ?_
  refine zz_get (C := R_X) (T := F_X) (N := 27) (v := .int ((s_X_system27 v_x v_M v_d v_a v_o v_lo v_hi v_ri (a1 >>> ((16 : Int32) &&& 31))) 19)) hx hb hts in_X hown hK hP 0 rfl rfl 26 (by decide) mw_79 rfl d_X_instruction_250 ?_
  have J253_2 : ∀ (vj253_0 : Int32) (ls : Array Slot) (H : Heap) (locs : List Loc), vj253_0 = (if ((s_X_system27 v_x v_M v_d v_a v_o v_lo v_hi v_ri (a1 >>> ((16 : Int32) &&& 31))) 19) = 0 then (if ((s_X_system27 v_x v_M v_d v_a v_o v_lo v_hi v_ri (a1 >>> ((16 : Int32) &&& 31))) 7) = 0 then (v_o (ix (0 : Int32))) else ((v_o (ix (0 : Int32))) + (1 : Int32))) else (v_o (ix (0 : Int32)))) → lv_has ls 9 [(8, .int ((v_o (ix (0 : Int32))) + (1 : Int32))), (7, .int (0 : Int32)), (6, .int (a1 >>> ((16 : Int32) &&& 31))), (5, .int ((a1 >>> ((11 : Int32) &&& 31)) &&& (7 : Int32))), (4, .int ((a1 >>> ((8 : Int32) &&& 31)) &&& (7 : Int32))), (3, .int ((a1 >>> ((5 : Int32) &&& 31)) &&& (7 : Int32))), (2, .int (27 : Int32)), (0, .ref yX), (1, .int a1)] → va_P D classes [oX yX yM yD yA yO yL yH yI (s_X_system27 v_x v_M v_d v_a v_o v_lo v_hi v_ri (a1 >>> ((16 : Int32) &&& 31))), ar cI yM 512 v_M, ar cI yD 8 v_d, ar cI yA 8 v_a, ar cI yO 4 v_o, ar cI yL 6 v_lo, ar cI yH 6 v_hi, ar cI yI 6 v_ri] H → va_D A [oX yX yM yD yA yO yL yH yI (s_X_system27 v_x v_M v_d v_a v_o v_lo v_hi v_ri (a1 >>> ((16 : Int32) &&& 31))), ar cI yM 512 v_M, ar cI yD 8 v_d, ar cI yA 8 v_a, ar cI yO 4 v_o, ar cI yL 6 v_lo, ar cI yH 6 v_hi, ar cI yI 6 v_ri] → va_S A s.heap H locs → W p l e { frames := 4, cells := 0, slots := 0, locals := 100 } s m args below meth c H locs 0 0 Q (F0 m 274 ls [.int vj253_0, .int (0 : Int32), .ref yO]) := by
    intro vj253_0 ls H locs evj253_0 hl hP hD hS
    subst evj253_0
    refine zz_iast (w' := [oX yX yM yD yA yO yL yH yI (s_X_system27 v_x v_M v_d v_a v_o v_lo v_hi v_ri (a1 >>> ((16 : Int32) &&& 31))), ar cI yM 512 v_M, ar cI yD 8 v_d, ar cI yA 8 v_a, ar cI yO 4 (upd v_o (ix (0 : Int32)) (if ((s_X_system27 v_x v_M v_d v_a v_o v_lo v_hi v_ri (a1 >>> ((16 : Int32) &&& 31))) 19) = 0 then (if ((s_X_system27 v_x v_M v_d v_a v_o v_lo v_hi v_ri (a1 >>> ((16 : Int32) &&& 31))) 7) = 0 then (v_o (ix (0 : Int32))) else ((v_o (ix (0 : Int32))) + (1 : Int32))) else (v_o (ix (0 : Int32))))), ar cI yL 6 v_lo, ar cI yH 6 v_hi, ar cI yI 6 v_ri]) hx hb hK hP hD hS 4 0 rfl rfl (zz_inc (by decide)) d_X_instruction_274 rfl (fun H locs hP hD hS => ?_)
    have hsp : s_X_instr27 v_x v_M v_d v_a v_o v_lo v_hi v_ri a1 = ((s_X_system27 v_x v_M v_d v_a v_o v_lo v_hi v_ri (a1 >>> ((16 : Int32) &&& 31))), upd v_o (ix (0 : Int32)) (if ((s_X_system27 v_x v_M v_d v_a v_o v_lo v_hi v_ri (a1 >>> ((16 : Int32) &&& 31))) 19) = 0 then (if ((s_X_system27 v_x v_M v_d v_a v_o v_lo v_hi v_ri (a1 >>> ((16 : Int32) &&& 31))) 7) = 0 then (v_o (ix (0 : Int32))) else ((v_o (ix (0 : Int32))) + (1 : Int32))) else (v_o (ix (0 : Int32))))) := rfl
    rw [hsp] at hE
    exact hE _ _ _ _ hP hD hS d_X_instruction_275
  refine lv_if_ne (tgt := 268) hx hb d_X_instruction_253 (by decide) (fun h1 => ?_) (fun h1 => ?_)
  ·
    refine lv_aload_n hx hb d_X_instruction_268 rfl (lv_at hl 7 rfl) ?_
    refine zz_get (C := R_X) (T := F_X) (N := 27) (v := .ref yO) hx hb hts in_X hown hK hP 0 rfl rfl 4 (by decide) mw_68 rfl d_X_instruction_269 ?_
    refine lv_iconst (v := (0 : Int32)) hx hb d_X_instruction_272 (by decide) ?_
    refine va_iald hx hb hK hP 4 0 rfl rfl (zz_inc (by decide)) d_X_instruction_273 ?_
    exact J253_2 (v_o (ix (0 : Int32))) _ _ _ (by rw [if_neg h1]) (lv_sub hl [0, 1, 2, 3, 4, 5, 6, 7, 8] rfl) hP hD hS
  ·
    refine lv_aload_n hx hb d_X_instruction_256 rfl (lv_at hl 7 rfl) ?_
    refine zz_get (C := R_X) (T := F_X) (N := 27) (v := .int ((s_X_system27 v_x v_M v_d v_a v_o v_lo v_hi v_ri (a1 >>> ((16 : Int32) &&& 31))) 7)) hx hb hts in_X hown hK hP 0 rfl rfl 11 (by decide) mw_78 rfl d_X_instruction_257 ?_
    refine lv_if_eq (tgt := 268) hx hb d_X_instruction_260 (by decide) (fun h2 => ?_) (fun h2 => ?_)
    ·
      refine lv_aload_n hx hb d_X_instruction_268 rfl (lv_at hl 7 rfl) ?_
      refine zz_get (C := R_X) (T := F_X) (N := 27) (v := .ref yO) hx hb hts in_X hown hK hP 0 rfl rfl 4 (by decide) mw_68 rfl d_X_instruction_269 ?_
      refine lv_iconst (v := (0 : Int32)) hx hb d_X_instruction_272 (by decide) ?_
      refine va_iald hx hb hK hP 4 0 rfl rfl (zz_inc (by decide)) d_X_instruction_273 ?_
      exact J253_2 (v_o (ix (0 : Int32))) _ _ _ (by rw [if_pos h1, if_pos h2]) (lv_sub hl [0, 1, 2, 3, 4, 5, 6, 7, 8] rfl) hP hD hS
    ·
      refine lv_iload hx hb d_X_instruction_263 (lv_at hl 0 rfl) ?_
      refine lv_goto (tgt := 274) hx hb d_X_instruction_265 (by decide) ?_
      exact J253_2 ((v_o (ix (0 : Int32))) + (1 : Int32)) _ _ _ (by rw [if_pos h1, if_neg h2]) (lv_sub hl [0, 1, 2, 3, 4, 5, 6, 7, 8] rfl) hP hD hS
set_option maxHeartbeats 4000000 in
set_option maxRecDepth 100000 in
theorem k_X_instr28 (l : Launch) (D : va_G) (cI : ClassId) (sz : Nat) (yX : Nat) (yM : Nat) (yD : Nat) (yA : Nat) (yO : Nat) (yL : Nat) (yH : Nat) (yI : Nat) (v_x : Nat → Int32) (v_M : Nat → Int32) (v_d : Nat → Int32) (v_a : Nat → Int32) (v_o : Nat → Int32) (v_lo : Nat → Int32) (v_hi : Nat → Int32) (v_ri : Nat → Int32) (a1 : Int32) (hop : (a1 &&& (31 : Int32)) = (28 : Int32)) : zMv l y_X_instruction (.code y_X_instruction b_X_instruction 9 (none) :: wd) { frames := 4, cells := 0, slots := 0, locals := 100 } D classes [(cI, .int)] [.ref yX, .int a1] [oX yX yM yD yA yO yL yH yI v_x, ar cI yM 512 v_M, ar cI yD 8 v_d, ar cI yA 8 v_a, ar cI yO 4 v_o, ar cI yL 6 v_lo, ar cI yH 6 v_hi, ar cI yI 6 v_ri] [oX yX yM yD yA yO yL yH yI ((s_X_instr28 v_x v_M v_d v_a v_o v_lo v_hi v_ri a1).1), ar cI yM 512 v_M, ar cI yD 8 v_d, ar cI yA 8 v_a, ar cI yO 4 ((s_X_instr28 v_x v_M v_d v_a v_o v_lo v_hi v_ri a1).2), ar cI yL 6 v_lo, ar cI yH 6 v_hi, ar cI yI 6 v_ri] sz := by
  refine met_v (by decide) (Nat.le_of_ble_eq_true rfl) ?_
  intro p e s m args below meth c A Q ls hx hb hml hown hts hK hP hD hS hA hl hE
  have hl : lv_has ls 9 [(0, .ref yX), (1, .int a1)] := hl
  have hown : s.vm.findClass R_X = some m.cls := hown
  refine lv_iload_n hx hb d_X_instruction_0 rfl (lv_at hl 1 rfl) ?_
  refine lv_bipush (v := (31 : Int32)) hx hb d_X_instruction_1 (by decide) ?_
  refine lv_iand hx hb d_X_instruction_3 ?_
  refine lv_topi (fun zz ez => ?_)
  obtain rfl : zz = (28 : Int32) := ez.trans hop
  refine lv_istore_n (lv' := [(2, .int (28 : Int32)), (0, .ref yX), (1, .int a1)]) hx hb d_X_instruction_4 rfl hl (by decide) rfl (fun ls hl => ?_)
  refine lv_iload_n hx hb d_X_instruction_5 rfl (lv_at hl 2 rfl) ?_
  refine lv_iconst (v := (5 : Int32)) hx hb d_X_instruction_6 (by decide) ?_
  refine lv_ishr hx hb d_X_instruction_7 ?_
  refine lv_bipush (v := (7 : Int32)) hx hb d_X_instruction_8 (by decide) ?_
  refine lv_iand hx hb d_X_instruction_10 ?_
  refine lv_istore_n (lv' := [(3, .int ((a1 >>> ((5 : Int32) &&& 31)) &&& (7 : Int32))), (2, .int (28 : Int32)), (0, .ref yX), (1, .int a1)]) hx hb d_X_instruction_11 rfl hl (by decide) rfl (fun ls hl => ?_)
  refine lv_iload_n hx hb d_X_instruction_12 rfl (lv_at hl 3 rfl) ?_
  show W p l e _ s m args below meth c _ _ _ _ Q (F0 m 13 ls _)
  refine lv_bipush (v := (8 : Int32)) hx hb d_X_instruction_13 (by decide) ?_
  refine lv_ishr hx hb d_X_instruction_15 ?_
  refine lv_bipush (v := (7 : Int32)) hx hb d_X_instruction_16 (by decide) ?_
  refine lv_iand hx hb d_X_instruction_18 ?_
  refine lv_istore (lv' := [(4, .int ((a1 >>> ((8 : Int32) &&& 31)) &&& (7 : Int32))), (3, .int ((a1 >>> ((5 : Int32) &&& 31)) &&& (7 : Int32))), (2, .int (28 : Int32)), (0, .ref yX), (1, .int a1)]) hx hb d_X_instruction_19 hl (by decide) rfl (fun ls hl => ?_)
  refine lv_iload_n hx hb d_X_instruction_21 rfl (lv_at hl 4 rfl) ?_
  refine lv_bipush (v := (11 : Int32)) hx hb d_X_instruction_22 (by decide) ?_
  refine lv_ishr hx hb d_X_instruction_24 ?_
  refine lv_bipush (v := (7 : Int32)) hx hb d_X_instruction_25 (by decide) ?_
  refine lv_iand hx hb d_X_instruction_27 ?_
  refine lv_istore (lv' := [(5, .int ((a1 >>> ((11 : Int32) &&& 31)) &&& (7 : Int32))), (4, .int ((a1 >>> ((8 : Int32) &&& 31)) &&& (7 : Int32))), (3, .int ((a1 >>> ((5 : Int32) &&& 31)) &&& (7 : Int32))), (2, .int (28 : Int32)), (0, .ref yX), (1, .int a1)]) hx hb d_X_instruction_28 hl (by decide) rfl (fun ls hl => ?_)
  refine lv_iload_n hx hb d_X_instruction_30 rfl (lv_at hl 5 rfl) ?_
  show W p l e _ s m args below meth c _ _ _ _ Q (F0 m 31 ls _)
  refine lv_bipush (v := (16 : Int32)) hx hb d_X_instruction_31 (by decide) ?_
  refine lv_ishr hx hb d_X_instruction_33 ?_
  refine lv_istore (lv' := [(6, .int (a1 >>> ((16 : Int32) &&& 31))), (5, .int ((a1 >>> ((11 : Int32) &&& 31)) &&& (7 : Int32))), (4, .int ((a1 >>> ((8 : Int32) &&& 31)) &&& (7 : Int32))), (3, .int ((a1 >>> ((5 : Int32) &&& 31)) &&& (7 : Int32))), (2, .int (28 : Int32)), (0, .ref yX), (1, .int a1)]) hx hb d_X_instruction_34 hl (by decide) rfl (fun ls hl => ?_)
  refine lv_iload_n hx hb d_X_instruction_36 rfl (lv_at hl 4 rfl) ?_
  refine lv_bipush (v := (25 : Int32)) hx hb d_X_instruction_37 (by decide) ?_
  refine lv_icmp_eq (tgt := 66) hx hb d_X_instruction_39 (by decide) (fun hh => absurd hh (by decide)) (fun _ => ?_)
  refine lv_iload_n hx hb d_X_instruction_42 rfl (lv_at hl 4 rfl) ?_
  refine lv_bipush (v := (26 : Int32)) hx hb d_X_instruction_43 (by decide) ?_
  refine lv_icmp_eq (tgt := 66) hx hb d_X_instruction_45 (by decide) (fun hh => absurd hh (by decide)) (fun _ => ?_)
  refine lv_iload_n hx hb d_X_instruction_48 rfl (lv_at hl 4 rfl) ?_
  refine lv_bipush (v := (28 : Int32)) hx hb d_X_instruction_49 (by decide) ?_
  refine lv_icmp_eq (tgt := 66) hx hb d_X_instruction_51 (by decide) (fun _ => ?_) (fun hh => absurd hh (by decide))
  refine lv_iconst (v := (1 : Int32)) hx hb d_X_instruction_66 (by decide) ?_
  refine lv_goto (tgt := 71) hx hb d_X_instruction_67 (by decide) ?_
  refine lv_istore (lv' := [(7, .int (1 : Int32)), (6, .int (a1 >>> ((16 : Int32) &&& 31))), (5, .int ((a1 >>> ((11 : Int32) &&& 31)) &&& (7 : Int32))), (4, .int ((a1 >>> ((8 : Int32) &&& 31)) &&& (7 : Int32))), (3, .int ((a1 >>> ((5 : Int32) &&& 31)) &&& (7 : Int32))), (2, .int (28 : Int32)), (0, .ref yX), (1, .int a1)]) hx hb d_X_instruction_71 hl (by decide) rfl (fun ls hl => ?_)
  refine lv_iload hx hb d_X_instruction_73 (lv_at hl 0 rfl) ?_
  refine lv_if_eq (tgt := 86) hx hb d_X_instruction_75 (by decide) (fun hh => absurd hh (by decide)) (fun _ => ?_)
  refine lv_aload_n hx hb d_X_instruction_78 rfl (lv_at hl 6 rfl) ?_
  refine zz_get (C := R_X) (T := F_X) (N := 27) (v := .int (v_x 1)) hx hb hts in_X hown hK hP 0 rfl rfl 5 (by decide) mw_70 rfl d_X_instruction_79 ?_
  refine lv_iconst (v := (2 : Int32)) hx hb d_X_instruction_82 (by decide) ?_
  refine lv_icmp_ne (tgt := 103) hx hb d_X_instruction_83 (by decide) (fun h1 => ?_) (fun h1 => ?_)
  ·
    refine lv_aload_n hx hb d_X_instruction_103 rfl (lv_at hl 6 rfl) ?_
    refine lv_sipush (v := (257 : Int32)) hx hb d_X_instruction_104 (by decide) ?_
    refine zz_put (C := R_X) (T := F_X) (N := 27) (w' := [oX yX yM yD yA yO yL yH yI (upd v_x 19 (257 : Int32)), ar cI yM 512 v_M, ar cI yD 8 v_d, ar cI yA 8 v_a, ar cI yO 4 v_o, ar cI yL 6 v_lo, ar cI yH 6 v_hi, ar cI yI 6 v_ri]) hx hb hts in_X ty_X ty_X_ok n_X hown hK hP hD hS 0 rfl rfl 26 (by decide) mw_79 rfl rfl rfl (Nat.le_of_ble_eq_true rfl) d_X_instruction_107 rfl (fun H locs hP hD hS => ?_)
    have hsp : s_X_instr28 v_x v_M v_d v_a v_o v_lo v_hi v_ri a1 = (upd v_x 19 (257 : Int32), v_o) := (by unfold s_X_instr28; rw [if_neg h1])
    rw [hsp] at hE
    exact hE _ _ _ _ hP hD hS d_X_instruction_110
  ·
    refine lv_iload_n hx hb d_X_instruction_86 rfl (lv_at hl 5 rfl) ?_
    refine lv_bipush (v := (30 : Int32)) hx hb d_X_instruction_87 (by decide) ?_
    refine lv_icmp_ne (tgt := 111) hx hb d_X_instruction_89 (by decide) (fun _ => ?_) (fun hh => absurd hh (by decide))
    refine lv_aload_n hx hb d_X_instruction_111 rfl (lv_at hl 6 rfl) ?_
    refine zz_get (C := R_X) (T := F_X) (N := 27) (v := .ref yO) hx hb hts in_X hown hK hP 0 rfl rfl 4 (by decide) mw_68 rfl d_X_instruction_112 ?_
    refine lv_iconst (v := (0 : Int32)) hx hb d_X_instruction_115 (by decide) ?_
    refine va_iald hx hb hK hP 4 0 rfl rfl (zz_inc (by decide)) d_X_instruction_116 ?_
    refine lv_iconst (v := (1 : Int32)) hx hb d_X_instruction_117 (by decide) ?_
    refine lv_iadd hx hb d_X_instruction_118 ?_
    refine lv_istore (lv' := [(8, .int ((v_o (ix (0 : Int32))) + (1 : Int32))), (7, .int (1 : Int32)), (6, .int (a1 >>> ((16 : Int32) &&& 31))), (5, .int ((a1 >>> ((11 : Int32) &&& 31)) &&& (7 : Int32))), (4, .int ((a1 >>> ((8 : Int32) &&& 31)) &&& (7 : Int32))), (3, .int ((a1 >>> ((5 : Int32) &&& 31)) &&& (7 : Int32))), (2, .int (28 : Int32)), (0, .ref yX), (1, .int a1)]) hx hb d_X_instruction_119 hl (by decide) rfl (fun ls hl => ?_)
    refine lv_iload_n hx hb d_X_instruction_121 rfl (lv_at hl 6 rfl) ?_
    refine lv_if_le (tgt := 146) hx hb d_X_instruction_122 (by decide) (fun hh => absurd hh (by decide)) (fun _ => ?_)
    refine lv_iload_n hx hb d_X_instruction_125 rfl (lv_at hl 6 rfl) ?_
    refine lv_bipush (v := (13 : Int32)) hx hb d_X_instruction_126 (by decide) ?_
    refine lv_icmp_ge (tgt := 146) hx hb d_X_instruction_128 (by decide) (fun _ => ?_) (fun hh => absurd hh (by decide))
    refine lv_iload_n hx hb d_X_instruction_146 rfl (lv_at hl 6 rfl) ?_
    refine lv_bipush (v := (12 : Int32)) hx hb d_X_instruction_147 (by decide) ?_
    refine lv_icmp_le (tgt := 171) hx hb d_X_instruction_149 (by decide) (fun hh => absurd hh (by decide)) (fun _ => ?_)
    refine lv_iload_n hx hb d_X_instruction_152 rfl (lv_at hl 6 rfl) ?_
    refine lv_bipush (v := (18 : Int32)) hx hb d_X_instruction_153 (by decide) ?_
    refine lv_icmp_ge (tgt := 171) hx hb d_X_instruction_155 (by decide) (fun _ => ?_) (fun hh => absurd hh (by decide))
    refine lv_iload_n hx hb d_X_instruction_171 rfl (lv_at hl 6 rfl) ?_
    refine lv_bipush (v := (17 : Int32)) hx hb d_X_instruction_172 (by decide) ?_
    refine lv_icmp_le (tgt := 213) hx hb d_X_instruction_174 (by decide) (fun hh => absurd hh (by decide)) (fun _ => ?_)
    refine lv_iload_n hx hb d_X_instruction_177 rfl (lv_at hl 6 rfl) ?_
    refine lv_bipush (v := (21 : Int32)) hx hb d_X_instruction_178 (by decide) ?_
    refine lv_icmp_ge (tgt := 213) hx hb d_X_instruction_180 (by decide) (fun _ => ?_) (fun hh => absurd hh (by decide))
    refine lv_iload_n hx hb d_X_instruction_213 rfl (lv_at hl 6 rfl) ?_
    refine lv_bipush (v := (20 : Int32)) hx hb d_X_instruction_214 (by decide) ?_
    refine lv_icmp_le (tgt := 237) hx hb d_X_instruction_216 (by decide) (fun hh => absurd hh (by decide)) (fun _ => ?_)
    refine lv_iload_n hx hb d_X_instruction_219 rfl (lv_at hl 6 rfl) ?_
    refine lv_bipush (v := (27 : Int32)) hx hb d_X_instruction_220 (by decide) ?_
    refine lv_icmp_ge (tgt := 237) hx hb d_X_instruction_222 (by decide) (fun _ => ?_) (fun hh => absurd hh (by decide))
    refine lv_aload_n hx hb d_X_instruction_237 rfl (lv_at hl 7 rfl) ?_
    refine lv_iload_n hx hb d_X_instruction_238 rfl (lv_at hl 6 rfl) ?_
    refine lv_iload hx hb d_X_instruction_239 (lv_at hl 2 rfl) ?_
    refine zz_cVv (rest := []) (wr := []) (w' := [oX yX yM yD yA yO yL yH yI (s_X_system28 v_x v_M v_d v_a v_o v_lo v_hi v_ri (a1 >>> ((16 : Int32) &&& 31))), ar cI yM 512 v_M, ar cI yD 8 v_d, ar cI yA 8 v_a, ar cI yO 4 v_o, ar cI yL 6 v_lo, ar cI yH 6 v_hi, ar cI yI 6 v_ri]) ⟨hx, hb, hml, hown, hts⟩ (k_X_system28 l D cI _ yX yM yD yA yO yL yH yI v_x v_M v_d v_a v_o v_lo v_hi v_ri (a1 >>> ((16 : Int32) &&& 31))) g_X_instruction_X_system_127 nv_X_system ⟨⟨rfl, rfl⟩, Nat.le_of_ble_eq_true rfl, Nat.le_of_ble_eq_true rfl⟩ hK [0] rfl hP hD hS hA [0, 1, 2, 3, 4, 5, 6, 7] [] [0, 1, 2, 3, 4, 5, 6, 7] rfl rfl rfl rfl (by decide) rfl rfl 0 6 rfl rfl rfl rfl hl.1 (Nat.le_of_ble_eq_true rfl) d_X_instruction_241 ⟨Nat.zero_le _, Nat.zero_le _⟩ (fun H locs hP hD hS => ?_)
    refine lv_aload_n hx hb d_X_instruction_244 rfl (lv_at hl 7 rfl) ?_
    refine zz_get (C := R_X) (T := F_X) (N := 27) (v := .ref yO) hx hb hts in_X hown hK hP 0 rfl rfl 4 (by decide) mw_68 rfl d_X_instruction_245 ?_
    refine lv_iconst (v := (0 : Int32)) hx hb d_X_instruction_248 (by decide) ?_
    refine lv_aload_n hx hb d_X_instruction_249 rfl (lv_at hl 7 rfl) ?_
    refine zz_get (C := R_X) (T := F_X) (N := 27) (v := .int ((s_X_system28 v_x v_M v_d v_a v_o v_lo v_hi v_ri (a1 >>> ((16 : Int32) &&& 31))) 19)) hx hb hts in_X hown hK hP 0 rfl rfl 26 (by decide) mw_79 rfl d_X_instruction_250 ?_
    have J253_3 : ∀ (vj253_0 : Int32) (ls : Array Slot) (H : Heap) (locs : List Loc), vj253_0 = (if ((s_X_system28 v_x v_M v_d v_a v_o v_lo v_hi v_ri (a1 >>> ((16 : Int32) &&& 31))) 19) = 0 then (if ((s_X_system28 v_x v_M v_d v_a v_o v_lo v_hi v_ri (a1 >>> ((16 : Int32) &&& 31))) 7) = 0 then (v_o (ix (0 : Int32))) else ((v_o (ix (0 : Int32))) + (1 : Int32))) else (v_o (ix (0 : Int32)))) → lv_has ls 9 [(8, .int ((v_o (ix (0 : Int32))) + (1 : Int32))), (7, .int (1 : Int32)), (6, .int (a1 >>> ((16 : Int32) &&& 31))), (5, .int ((a1 >>> ((11 : Int32) &&& 31)) &&& (7 : Int32))), (4, .int ((a1 >>> ((8 : Int32) &&& 31)) &&& (7 : Int32))), (3, .int ((a1 >>> ((5 : Int32) &&& 31)) &&& (7 : Int32))), (2, .int (28 : Int32)), (0, .ref yX), (1, .int a1)] → va_P D classes [oX yX yM yD yA yO yL yH yI (s_X_system28 v_x v_M v_d v_a v_o v_lo v_hi v_ri (a1 >>> ((16 : Int32) &&& 31))), ar cI yM 512 v_M, ar cI yD 8 v_d, ar cI yA 8 v_a, ar cI yO 4 v_o, ar cI yL 6 v_lo, ar cI yH 6 v_hi, ar cI yI 6 v_ri] H → va_D A [oX yX yM yD yA yO yL yH yI (s_X_system28 v_x v_M v_d v_a v_o v_lo v_hi v_ri (a1 >>> ((16 : Int32) &&& 31))), ar cI yM 512 v_M, ar cI yD 8 v_d, ar cI yA 8 v_a, ar cI yO 4 v_o, ar cI yL 6 v_lo, ar cI yH 6 v_hi, ar cI yI 6 v_ri] → va_S A s.heap H locs → W p l e { frames := 4, cells := 0, slots := 0, locals := 100 } s m args below meth c H locs 0 0 Q (F0 m 274 ls [.int vj253_0, .int (0 : Int32), .ref yO]) := by
      intro vj253_0 ls H locs evj253_0 hl hP hD hS
      subst evj253_0
      refine zz_iast (w' := [oX yX yM yD yA yO yL yH yI (s_X_system28 v_x v_M v_d v_a v_o v_lo v_hi v_ri (a1 >>> ((16 : Int32) &&& 31))), ar cI yM 512 v_M, ar cI yD 8 v_d, ar cI yA 8 v_a, ar cI yO 4 (upd v_o (ix (0 : Int32)) (if ((s_X_system28 v_x v_M v_d v_a v_o v_lo v_hi v_ri (a1 >>> ((16 : Int32) &&& 31))) 19) = 0 then (if ((s_X_system28 v_x v_M v_d v_a v_o v_lo v_hi v_ri (a1 >>> ((16 : Int32) &&& 31))) 7) = 0 then (v_o (ix (0 : Int32))) else ((v_o (ix (0 : Int32))) + (1 : Int32))) else (v_o (ix (0 : Int32))))), ar cI yL 6 v_lo, ar cI yH 6 v_hi, ar cI yI 6 v_ri]) hx hb hK hP hD hS 4 0 rfl rfl (zz_inc (by decide)) d_X_instruction_274 rfl (fun H locs hP hD hS => ?_)
      have hsp : s_X_instr28 v_x v_M v_d v_a v_o v_lo v_hi v_ri a1 = ((s_X_system28 v_x v_M v_d v_a v_o v_lo v_hi v_ri (a1 >>> ((16 : Int32) &&& 31))), upd v_o (ix (0 : Int32)) (if ((s_X_system28 v_x v_M v_d v_a v_o v_lo v_hi v_ri (a1 >>> ((16 : Int32) &&& 31))) 19) = 0 then (if ((s_X_system28 v_x v_M v_d v_a v_o v_lo v_hi v_ri (a1 >>> ((16 : Int32) &&& 31))) 7) = 0 then (v_o (ix (0 : Int32))) else ((v_o (ix (0 : Int32))) + (1 : Int32))) else (v_o (ix (0 : Int32))))) := (by unfold s_X_instr28; rw [if_pos h1])
      rw [hsp] at hE
      exact hE _ _ _ _ hP hD hS d_X_instruction_275
    refine lv_if_ne (tgt := 268) hx hb d_X_instruction_253 (by decide) (fun h2 => ?_) (fun h2 => ?_)
    ·
      refine lv_aload_n hx hb d_X_instruction_268 rfl (lv_at hl 7 rfl) ?_
      refine zz_get (C := R_X) (T := F_X) (N := 27) (v := .ref yO) hx hb hts in_X hown hK hP 0 rfl rfl 4 (by decide) mw_68 rfl d_X_instruction_269 ?_
      refine lv_iconst (v := (0 : Int32)) hx hb d_X_instruction_272 (by decide) ?_
      refine va_iald hx hb hK hP 4 0 rfl rfl (zz_inc (by decide)) d_X_instruction_273 ?_
      exact J253_3 (v_o (ix (0 : Int32))) _ _ _ (by rw [if_neg h2]) (lv_sub hl [0, 1, 2, 3, 4, 5, 6, 7, 8] rfl) hP hD hS
    ·
      refine lv_aload_n hx hb d_X_instruction_256 rfl (lv_at hl 7 rfl) ?_
      refine zz_get (C := R_X) (T := F_X) (N := 27) (v := .int ((s_X_system28 v_x v_M v_d v_a v_o v_lo v_hi v_ri (a1 >>> ((16 : Int32) &&& 31))) 7)) hx hb hts in_X hown hK hP 0 rfl rfl 11 (by decide) mw_78 rfl d_X_instruction_257 ?_
      refine lv_if_eq (tgt := 268) hx hb d_X_instruction_260 (by decide) (fun h3 => ?_) (fun h3 => ?_)
      ·
        refine lv_aload_n hx hb d_X_instruction_268 rfl (lv_at hl 7 rfl) ?_
        refine zz_get (C := R_X) (T := F_X) (N := 27) (v := .ref yO) hx hb hts in_X hown hK hP 0 rfl rfl 4 (by decide) mw_68 rfl d_X_instruction_269 ?_
        refine lv_iconst (v := (0 : Int32)) hx hb d_X_instruction_272 (by decide) ?_
        refine va_iald hx hb hK hP 4 0 rfl rfl (zz_inc (by decide)) d_X_instruction_273 ?_
        exact J253_3 (v_o (ix (0 : Int32))) _ _ _ (by rw [if_pos h2, if_pos h3]) (lv_sub hl [0, 1, 2, 3, 4, 5, 6, 7, 8] rfl) hP hD hS
      ·
        refine lv_iload hx hb d_X_instruction_263 (lv_at hl 0 rfl) ?_
        refine lv_goto (tgt := 274) hx hb d_X_instruction_265 (by decide) ?_
        exact J253_3 ((v_o (ix (0 : Int32))) + (1 : Int32)) _ _ _ (by rw [if_pos h2, if_neg h3]) (lv_sub hl [0, 1, 2, 3, 4, 5, 6, 7, 8] rfl) hP hD hS
set_option maxHeartbeats 4000000 in
set_option maxRecDepth 100000 in
theorem k_X_instr29 (l : Launch) (D : va_G) (cI : ClassId) (sz : Nat) (yX : Nat) (yM : Nat) (yD : Nat) (yA : Nat) (yO : Nat) (yL : Nat) (yH : Nat) (yI : Nat) (v_x : Nat → Int32) (v_M : Nat → Int32) (v_d : Nat → Int32) (v_a : Nat → Int32) (v_o : Nat → Int32) (v_lo : Nat → Int32) (v_hi : Nat → Int32) (v_ri : Nat → Int32) (a1 : Int32) (hop : (a1 &&& (31 : Int32)) = (29 : Int32)) : zMv l y_X_instruction (.code y_X_instruction b_X_instruction 9 (none) :: wd) { frames := 4, cells := 0, slots := 0, locals := 100 } D classes [(cI, .int)] [.ref yX, .int a1] [oX yX yM yD yA yO yL yH yI v_x, ar cI yM 512 v_M, ar cI yD 8 v_d, ar cI yA 8 v_a, ar cI yO 4 v_o, ar cI yL 6 v_lo, ar cI yH 6 v_hi, ar cI yI 6 v_ri] [oX yX yM yD yA yO yL yH yI ((s_X_instr29 v_x v_M v_d v_a v_o v_lo v_hi v_ri a1).1), ar cI yM 512 v_M, ar cI yD 8 v_d, ar cI yA 8 v_a, ar cI yO 4 ((s_X_instr29 v_x v_M v_d v_a v_o v_lo v_hi v_ri a1).2), ar cI yL 6 v_lo, ar cI yH 6 v_hi, ar cI yI 6 v_ri] sz := by
  refine met_v (by decide) (Nat.le_of_ble_eq_true rfl) ?_
  intro p e s m args below meth c A Q ls hx hb hml hown hts hK hP hD hS hA hl hE
  have hl : lv_has ls 9 [(0, .ref yX), (1, .int a1)] := hl
  have hown : s.vm.findClass R_X = some m.cls := hown
  refine lv_iload_n hx hb d_X_instruction_0 rfl (lv_at hl 1 rfl) ?_
  refine lv_bipush (v := (31 : Int32)) hx hb d_X_instruction_1 (by decide) ?_
  refine lv_iand hx hb d_X_instruction_3 ?_
  refine lv_topi (fun zz ez => ?_)
  obtain rfl : zz = (29 : Int32) := ez.trans hop
  refine lv_istore_n (lv' := [(2, .int (29 : Int32)), (0, .ref yX), (1, .int a1)]) hx hb d_X_instruction_4 rfl hl (by decide) rfl (fun ls hl => ?_)
  refine lv_iload_n hx hb d_X_instruction_5 rfl (lv_at hl 2 rfl) ?_
  refine lv_iconst (v := (5 : Int32)) hx hb d_X_instruction_6 (by decide) ?_
  refine lv_ishr hx hb d_X_instruction_7 ?_
  refine lv_bipush (v := (7 : Int32)) hx hb d_X_instruction_8 (by decide) ?_
  refine lv_iand hx hb d_X_instruction_10 ?_
  refine lv_istore_n (lv' := [(3, .int ((a1 >>> ((5 : Int32) &&& 31)) &&& (7 : Int32))), (2, .int (29 : Int32)), (0, .ref yX), (1, .int a1)]) hx hb d_X_instruction_11 rfl hl (by decide) rfl (fun ls hl => ?_)
  refine lv_iload_n hx hb d_X_instruction_12 rfl (lv_at hl 3 rfl) ?_
  show W p l e _ s m args below meth c _ _ _ _ Q (F0 m 13 ls _)
  refine lv_bipush (v := (8 : Int32)) hx hb d_X_instruction_13 (by decide) ?_
  refine lv_ishr hx hb d_X_instruction_15 ?_
  refine lv_bipush (v := (7 : Int32)) hx hb d_X_instruction_16 (by decide) ?_
  refine lv_iand hx hb d_X_instruction_18 ?_
  refine lv_istore (lv' := [(4, .int ((a1 >>> ((8 : Int32) &&& 31)) &&& (7 : Int32))), (3, .int ((a1 >>> ((5 : Int32) &&& 31)) &&& (7 : Int32))), (2, .int (29 : Int32)), (0, .ref yX), (1, .int a1)]) hx hb d_X_instruction_19 hl (by decide) rfl (fun ls hl => ?_)
  refine lv_iload_n hx hb d_X_instruction_21 rfl (lv_at hl 4 rfl) ?_
  refine lv_bipush (v := (11 : Int32)) hx hb d_X_instruction_22 (by decide) ?_
  refine lv_ishr hx hb d_X_instruction_24 ?_
  refine lv_bipush (v := (7 : Int32)) hx hb d_X_instruction_25 (by decide) ?_
  refine lv_iand hx hb d_X_instruction_27 ?_
  refine lv_istore (lv' := [(5, .int ((a1 >>> ((11 : Int32) &&& 31)) &&& (7 : Int32))), (4, .int ((a1 >>> ((8 : Int32) &&& 31)) &&& (7 : Int32))), (3, .int ((a1 >>> ((5 : Int32) &&& 31)) &&& (7 : Int32))), (2, .int (29 : Int32)), (0, .ref yX), (1, .int a1)]) hx hb d_X_instruction_28 hl (by decide) rfl (fun ls hl => ?_)
  refine lv_iload_n hx hb d_X_instruction_30 rfl (lv_at hl 5 rfl) ?_
  show W p l e _ s m args below meth c _ _ _ _ Q (F0 m 31 ls _)
  refine lv_bipush (v := (16 : Int32)) hx hb d_X_instruction_31 (by decide) ?_
  refine lv_ishr hx hb d_X_instruction_33 ?_
  refine lv_istore (lv' := [(6, .int (a1 >>> ((16 : Int32) &&& 31))), (5, .int ((a1 >>> ((11 : Int32) &&& 31)) &&& (7 : Int32))), (4, .int ((a1 >>> ((8 : Int32) &&& 31)) &&& (7 : Int32))), (3, .int ((a1 >>> ((5 : Int32) &&& 31)) &&& (7 : Int32))), (2, .int (29 : Int32)), (0, .ref yX), (1, .int a1)]) hx hb d_X_instruction_34 hl (by decide) rfl (fun ls hl => ?_)
  refine lv_iload_n hx hb d_X_instruction_36 rfl (lv_at hl 4 rfl) ?_
  refine lv_bipush (v := (25 : Int32)) hx hb d_X_instruction_37 (by decide) ?_
  refine lv_icmp_eq (tgt := 66) hx hb d_X_instruction_39 (by decide) (fun hh => absurd hh (by decide)) (fun _ => ?_)
  refine lv_iload_n hx hb d_X_instruction_42 rfl (lv_at hl 4 rfl) ?_
  refine lv_bipush (v := (26 : Int32)) hx hb d_X_instruction_43 (by decide) ?_
  refine lv_icmp_eq (tgt := 66) hx hb d_X_instruction_45 (by decide) (fun hh => absurd hh (by decide)) (fun _ => ?_)
  refine lv_iload_n hx hb d_X_instruction_48 rfl (lv_at hl 4 rfl) ?_
  refine lv_bipush (v := (28 : Int32)) hx hb d_X_instruction_49 (by decide) ?_
  refine lv_icmp_eq (tgt := 66) hx hb d_X_instruction_51 (by decide) (fun hh => absurd hh (by decide)) (fun _ => ?_)
  refine lv_iload_n hx hb d_X_instruction_54 rfl (lv_at hl 4 rfl) ?_
  refine lv_bipush (v := (29 : Int32)) hx hb d_X_instruction_55 (by decide) ?_
  refine lv_icmp_eq (tgt := 66) hx hb d_X_instruction_57 (by decide) (fun _ => ?_) (fun hh => absurd hh (by decide))
  refine lv_iconst (v := (1 : Int32)) hx hb d_X_instruction_66 (by decide) ?_
  refine lv_goto (tgt := 71) hx hb d_X_instruction_67 (by decide) ?_
  refine lv_istore (lv' := [(7, .int (1 : Int32)), (6, .int (a1 >>> ((16 : Int32) &&& 31))), (5, .int ((a1 >>> ((11 : Int32) &&& 31)) &&& (7 : Int32))), (4, .int ((a1 >>> ((8 : Int32) &&& 31)) &&& (7 : Int32))), (3, .int ((a1 >>> ((5 : Int32) &&& 31)) &&& (7 : Int32))), (2, .int (29 : Int32)), (0, .ref yX), (1, .int a1)]) hx hb d_X_instruction_71 hl (by decide) rfl (fun ls hl => ?_)
  refine lv_iload hx hb d_X_instruction_73 (lv_at hl 0 rfl) ?_
  refine lv_if_eq (tgt := 86) hx hb d_X_instruction_75 (by decide) (fun hh => absurd hh (by decide)) (fun _ => ?_)
  refine lv_aload_n hx hb d_X_instruction_78 rfl (lv_at hl 6 rfl) ?_
  refine zz_get (C := R_X) (T := F_X) (N := 27) (v := .int (v_x 1)) hx hb hts in_X hown hK hP 0 rfl rfl 5 (by decide) mw_70 rfl d_X_instruction_79 ?_
  refine lv_iconst (v := (2 : Int32)) hx hb d_X_instruction_82 (by decide) ?_
  refine lv_icmp_ne (tgt := 103) hx hb d_X_instruction_83 (by decide) (fun h1 => ?_) (fun h1 => ?_)
  ·
    refine lv_aload_n hx hb d_X_instruction_103 rfl (lv_at hl 6 rfl) ?_
    refine lv_sipush (v := (257 : Int32)) hx hb d_X_instruction_104 (by decide) ?_
    refine zz_put (C := R_X) (T := F_X) (N := 27) (w' := [oX yX yM yD yA yO yL yH yI (upd v_x 19 (257 : Int32)), ar cI yM 512 v_M, ar cI yD 8 v_d, ar cI yA 8 v_a, ar cI yO 4 v_o, ar cI yL 6 v_lo, ar cI yH 6 v_hi, ar cI yI 6 v_ri]) hx hb hts in_X ty_X ty_X_ok n_X hown hK hP hD hS 0 rfl rfl 26 (by decide) mw_79 rfl rfl rfl (Nat.le_of_ble_eq_true rfl) d_X_instruction_107 rfl (fun H locs hP hD hS => ?_)
    have hsp : s_X_instr29 v_x v_M v_d v_a v_o v_lo v_hi v_ri a1 = (upd v_x 19 (257 : Int32), v_o) := (by unfold s_X_instr29; rw [if_neg h1])
    rw [hsp] at hE
    exact hE _ _ _ _ hP hD hS d_X_instruction_110
  ·
    refine lv_iload_n hx hb d_X_instruction_86 rfl (lv_at hl 5 rfl) ?_
    refine lv_bipush (v := (30 : Int32)) hx hb d_X_instruction_87 (by decide) ?_
    refine lv_icmp_ne (tgt := 111) hx hb d_X_instruction_89 (by decide) (fun _ => ?_) (fun hh => absurd hh (by decide))
    refine lv_aload_n hx hb d_X_instruction_111 rfl (lv_at hl 6 rfl) ?_
    refine zz_get (C := R_X) (T := F_X) (N := 27) (v := .ref yO) hx hb hts in_X hown hK hP 0 rfl rfl 4 (by decide) mw_68 rfl d_X_instruction_112 ?_
    refine lv_iconst (v := (0 : Int32)) hx hb d_X_instruction_115 (by decide) ?_
    refine va_iald hx hb hK hP 4 0 rfl rfl (zz_inc (by decide)) d_X_instruction_116 ?_
    refine lv_iconst (v := (1 : Int32)) hx hb d_X_instruction_117 (by decide) ?_
    refine lv_iadd hx hb d_X_instruction_118 ?_
    refine lv_istore (lv' := [(8, .int ((v_o (ix (0 : Int32))) + (1 : Int32))), (7, .int (1 : Int32)), (6, .int (a1 >>> ((16 : Int32) &&& 31))), (5, .int ((a1 >>> ((11 : Int32) &&& 31)) &&& (7 : Int32))), (4, .int ((a1 >>> ((8 : Int32) &&& 31)) &&& (7 : Int32))), (3, .int ((a1 >>> ((5 : Int32) &&& 31)) &&& (7 : Int32))), (2, .int (29 : Int32)), (0, .ref yX), (1, .int a1)]) hx hb d_X_instruction_119 hl (by decide) rfl (fun ls hl => ?_)
    refine lv_iload_n hx hb d_X_instruction_121 rfl (lv_at hl 6 rfl) ?_
    refine lv_if_le (tgt := 146) hx hb d_X_instruction_122 (by decide) (fun hh => absurd hh (by decide)) (fun _ => ?_)
    refine lv_iload_n hx hb d_X_instruction_125 rfl (lv_at hl 6 rfl) ?_
    refine lv_bipush (v := (13 : Int32)) hx hb d_X_instruction_126 (by decide) ?_
    refine lv_icmp_ge (tgt := 146) hx hb d_X_instruction_128 (by decide) (fun _ => ?_) (fun hh => absurd hh (by decide))
    refine lv_iload_n hx hb d_X_instruction_146 rfl (lv_at hl 6 rfl) ?_
    refine lv_bipush (v := (12 : Int32)) hx hb d_X_instruction_147 (by decide) ?_
    refine lv_icmp_le (tgt := 171) hx hb d_X_instruction_149 (by decide) (fun hh => absurd hh (by decide)) (fun _ => ?_)
    refine lv_iload_n hx hb d_X_instruction_152 rfl (lv_at hl 6 rfl) ?_
    refine lv_bipush (v := (18 : Int32)) hx hb d_X_instruction_153 (by decide) ?_
    refine lv_icmp_ge (tgt := 171) hx hb d_X_instruction_155 (by decide) (fun _ => ?_) (fun hh => absurd hh (by decide))
    refine lv_iload_n hx hb d_X_instruction_171 rfl (lv_at hl 6 rfl) ?_
    refine lv_bipush (v := (17 : Int32)) hx hb d_X_instruction_172 (by decide) ?_
    refine lv_icmp_le (tgt := 213) hx hb d_X_instruction_174 (by decide) (fun hh => absurd hh (by decide)) (fun _ => ?_)
    refine lv_iload_n hx hb d_X_instruction_177 rfl (lv_at hl 6 rfl) ?_
    refine lv_bipush (v := (21 : Int32)) hx hb d_X_instruction_178 (by decide) ?_
    refine lv_icmp_ge (tgt := 213) hx hb d_X_instruction_180 (by decide) (fun _ => ?_) (fun hh => absurd hh (by decide))
    refine lv_iload_n hx hb d_X_instruction_213 rfl (lv_at hl 6 rfl) ?_
    refine lv_bipush (v := (20 : Int32)) hx hb d_X_instruction_214 (by decide) ?_
    refine lv_icmp_le (tgt := 237) hx hb d_X_instruction_216 (by decide) (fun hh => absurd hh (by decide)) (fun _ => ?_)
    refine lv_iload_n hx hb d_X_instruction_219 rfl (lv_at hl 6 rfl) ?_
    refine lv_bipush (v := (27 : Int32)) hx hb d_X_instruction_220 (by decide) ?_
    refine lv_icmp_ge (tgt := 237) hx hb d_X_instruction_222 (by decide) (fun _ => ?_) (fun hh => absurd hh (by decide))
    refine lv_aload_n hx hb d_X_instruction_237 rfl (lv_at hl 7 rfl) ?_
    refine lv_iload_n hx hb d_X_instruction_238 rfl (lv_at hl 6 rfl) ?_
    refine lv_iload hx hb d_X_instruction_239 (lv_at hl 2 rfl) ?_
    refine zz_cVv (rest := []) (wr := []) (w' := [oX yX yM yD yA yO yL yH yI (s_X_system29 v_x v_M v_d v_a v_o v_lo v_hi v_ri (a1 >>> ((16 : Int32) &&& 31))), ar cI yM 512 v_M, ar cI yD 8 v_d, ar cI yA 8 v_a, ar cI yO 4 v_o, ar cI yL 6 v_lo, ar cI yH 6 v_hi, ar cI yI 6 v_ri]) ⟨hx, hb, hml, hown, hts⟩ (k_X_system29 l D cI _ yX yM yD yA yO yL yH yI v_x v_M v_d v_a v_o v_lo v_hi v_ri (a1 >>> ((16 : Int32) &&& 31))) g_X_instruction_X_system_127 nv_X_system ⟨⟨rfl, rfl⟩, Nat.le_of_ble_eq_true rfl, Nat.le_of_ble_eq_true rfl⟩ hK [0] rfl hP hD hS hA [0, 1, 2, 3, 4, 5, 6, 7] [] [0, 1, 2, 3, 4, 5, 6, 7] rfl rfl rfl rfl (by decide) rfl rfl 0 6 rfl rfl rfl rfl hl.1 (Nat.le_of_ble_eq_true rfl) d_X_instruction_241 ⟨Nat.zero_le _, Nat.zero_le _⟩ (fun H locs hP hD hS => ?_)
    refine lv_aload_n hx hb d_X_instruction_244 rfl (lv_at hl 7 rfl) ?_
    refine zz_get (C := R_X) (T := F_X) (N := 27) (v := .ref yO) hx hb hts in_X hown hK hP 0 rfl rfl 4 (by decide) mw_68 rfl d_X_instruction_245 ?_
    refine lv_iconst (v := (0 : Int32)) hx hb d_X_instruction_248 (by decide) ?_
    refine lv_aload_n hx hb d_X_instruction_249 rfl (lv_at hl 7 rfl) ?_
    refine zz_get (C := R_X) (T := F_X) (N := 27) (v := .int ((s_X_system29 v_x v_M v_d v_a v_o v_lo v_hi v_ri (a1 >>> ((16 : Int32) &&& 31))) 19)) hx hb hts in_X hown hK hP 0 rfl rfl 26 (by decide) mw_79 rfl d_X_instruction_250 ?_
    have J253_3 : ∀ (vj253_0 : Int32) (ls : Array Slot) (H : Heap) (locs : List Loc), vj253_0 = (if ((s_X_system29 v_x v_M v_d v_a v_o v_lo v_hi v_ri (a1 >>> ((16 : Int32) &&& 31))) 19) = 0 then (if ((s_X_system29 v_x v_M v_d v_a v_o v_lo v_hi v_ri (a1 >>> ((16 : Int32) &&& 31))) 7) = 0 then (v_o (ix (0 : Int32))) else ((v_o (ix (0 : Int32))) + (1 : Int32))) else (v_o (ix (0 : Int32)))) → lv_has ls 9 [(8, .int ((v_o (ix (0 : Int32))) + (1 : Int32))), (7, .int (1 : Int32)), (6, .int (a1 >>> ((16 : Int32) &&& 31))), (5, .int ((a1 >>> ((11 : Int32) &&& 31)) &&& (7 : Int32))), (4, .int ((a1 >>> ((8 : Int32) &&& 31)) &&& (7 : Int32))), (3, .int ((a1 >>> ((5 : Int32) &&& 31)) &&& (7 : Int32))), (2, .int (29 : Int32)), (0, .ref yX), (1, .int a1)] → va_P D classes [oX yX yM yD yA yO yL yH yI (s_X_system29 v_x v_M v_d v_a v_o v_lo v_hi v_ri (a1 >>> ((16 : Int32) &&& 31))), ar cI yM 512 v_M, ar cI yD 8 v_d, ar cI yA 8 v_a, ar cI yO 4 v_o, ar cI yL 6 v_lo, ar cI yH 6 v_hi, ar cI yI 6 v_ri] H → va_D A [oX yX yM yD yA yO yL yH yI (s_X_system29 v_x v_M v_d v_a v_o v_lo v_hi v_ri (a1 >>> ((16 : Int32) &&& 31))), ar cI yM 512 v_M, ar cI yD 8 v_d, ar cI yA 8 v_a, ar cI yO 4 v_o, ar cI yL 6 v_lo, ar cI yH 6 v_hi, ar cI yI 6 v_ri] → va_S A s.heap H locs → W p l e { frames := 4, cells := 0, slots := 0, locals := 100 } s m args below meth c H locs 0 0 Q (F0 m 274 ls [.int vj253_0, .int (0 : Int32), .ref yO]) := by
      intro vj253_0 ls H locs evj253_0 hl hP hD hS
      subst evj253_0
      refine zz_iast (w' := [oX yX yM yD yA yO yL yH yI (s_X_system29 v_x v_M v_d v_a v_o v_lo v_hi v_ri (a1 >>> ((16 : Int32) &&& 31))), ar cI yM 512 v_M, ar cI yD 8 v_d, ar cI yA 8 v_a, ar cI yO 4 (upd v_o (ix (0 : Int32)) (if ((s_X_system29 v_x v_M v_d v_a v_o v_lo v_hi v_ri (a1 >>> ((16 : Int32) &&& 31))) 19) = 0 then (if ((s_X_system29 v_x v_M v_d v_a v_o v_lo v_hi v_ri (a1 >>> ((16 : Int32) &&& 31))) 7) = 0 then (v_o (ix (0 : Int32))) else ((v_o (ix (0 : Int32))) + (1 : Int32))) else (v_o (ix (0 : Int32))))), ar cI yL 6 v_lo, ar cI yH 6 v_hi, ar cI yI 6 v_ri]) hx hb hK hP hD hS 4 0 rfl rfl (zz_inc (by decide)) d_X_instruction_274 rfl (fun H locs hP hD hS => ?_)
      have hsp : s_X_instr29 v_x v_M v_d v_a v_o v_lo v_hi v_ri a1 = ((s_X_system29 v_x v_M v_d v_a v_o v_lo v_hi v_ri (a1 >>> ((16 : Int32) &&& 31))), upd v_o (ix (0 : Int32)) (if ((s_X_system29 v_x v_M v_d v_a v_o v_lo v_hi v_ri (a1 >>> ((16 : Int32) &&& 31))) 19) = 0 then (if ((s_X_system29 v_x v_M v_d v_a v_o v_lo v_hi v_ri (a1 >>> ((16 : Int32) &&& 31))) 7) = 0 then (v_o (ix (0 : Int32))) else ((v_o (ix (0 : Int32))) + (1 : Int32))) else (v_o (ix (0 : Int32))))) := (by unfold s_X_instr29; rw [if_pos h1])
      rw [hsp] at hE
      exact hE _ _ _ _ hP hD hS d_X_instruction_275
    refine lv_if_ne (tgt := 268) hx hb d_X_instruction_253 (by decide) (fun h2 => ?_) (fun h2 => ?_)
    ·
      refine lv_aload_n hx hb d_X_instruction_268 rfl (lv_at hl 7 rfl) ?_
      refine zz_get (C := R_X) (T := F_X) (N := 27) (v := .ref yO) hx hb hts in_X hown hK hP 0 rfl rfl 4 (by decide) mw_68 rfl d_X_instruction_269 ?_
      refine lv_iconst (v := (0 : Int32)) hx hb d_X_instruction_272 (by decide) ?_
      refine va_iald hx hb hK hP 4 0 rfl rfl (zz_inc (by decide)) d_X_instruction_273 ?_
      exact J253_3 (v_o (ix (0 : Int32))) _ _ _ (by rw [if_neg h2]) (lv_sub hl [0, 1, 2, 3, 4, 5, 6, 7, 8] rfl) hP hD hS
    ·
      refine lv_aload_n hx hb d_X_instruction_256 rfl (lv_at hl 7 rfl) ?_
      refine zz_get (C := R_X) (T := F_X) (N := 27) (v := .int ((s_X_system29 v_x v_M v_d v_a v_o v_lo v_hi v_ri (a1 >>> ((16 : Int32) &&& 31))) 7)) hx hb hts in_X hown hK hP 0 rfl rfl 11 (by decide) mw_78 rfl d_X_instruction_257 ?_
      refine lv_if_eq (tgt := 268) hx hb d_X_instruction_260 (by decide) (fun h3 => ?_) (fun h3 => ?_)
      ·
        refine lv_aload_n hx hb d_X_instruction_268 rfl (lv_at hl 7 rfl) ?_
        refine zz_get (C := R_X) (T := F_X) (N := 27) (v := .ref yO) hx hb hts in_X hown hK hP 0 rfl rfl 4 (by decide) mw_68 rfl d_X_instruction_269 ?_
        refine lv_iconst (v := (0 : Int32)) hx hb d_X_instruction_272 (by decide) ?_
        refine va_iald hx hb hK hP 4 0 rfl rfl (zz_inc (by decide)) d_X_instruction_273 ?_
        exact J253_3 (v_o (ix (0 : Int32))) _ _ _ (by rw [if_pos h2, if_pos h3]) (lv_sub hl [0, 1, 2, 3, 4, 5, 6, 7, 8] rfl) hP hD hS
      ·
        refine lv_iload hx hb d_X_instruction_263 (lv_at hl 0 rfl) ?_
        refine lv_goto (tgt := 274) hx hb d_X_instruction_265 (by decide) ?_
        exact J253_3 ((v_o (ix (0 : Int32))) + (1 : Int32)) _ _ _ (by rw [if_pos h2, if_neg h3]) (lv_sub hl [0, 1, 2, 3, 4, 5, 6, 7, 8] rfl) hP hD hS
set_option maxHeartbeats 4000000 in
set_option maxRecDepth 100000 in
theorem k_X_instr30 (l : Launch) (D : va_G) (cI : ClassId) (sz : Nat) (yX : Nat) (yM : Nat) (yD : Nat) (yA : Nat) (yO : Nat) (yL : Nat) (yH : Nat) (yI : Nat) (v_x : Nat → Int32) (v_M : Nat → Int32) (v_d : Nat → Int32) (v_a : Nat → Int32) (v_o : Nat → Int32) (v_lo : Nat → Int32) (v_hi : Nat → Int32) (v_ri : Nat → Int32) (a1 : Int32) (hop : (a1 &&& (31 : Int32)) = (30 : Int32)) : zMv l y_X_instruction (.code y_X_instruction b_X_instruction 9 (none) :: wd) { frames := 4, cells := 0, slots := 0, locals := 100 } D classes [(cI, .int)] [.ref yX, .int a1] [oX yX yM yD yA yO yL yH yI v_x, ar cI yM 512 v_M, ar cI yD 8 v_d, ar cI yA 8 v_a, ar cI yO 4 v_o, ar cI yL 6 v_lo, ar cI yH 6 v_hi, ar cI yI 6 v_ri] [oX yX yM yD yA yO yL yH yI ((s_X_instr30 v_x v_M v_d v_a v_o v_lo v_hi v_ri a1).1), ar cI yM 512 v_M, ar cI yD 8 v_d, ar cI yA 8 v_a, ar cI yO 4 ((s_X_instr30 v_x v_M v_d v_a v_o v_lo v_hi v_ri a1).2), ar cI yL 6 v_lo, ar cI yH 6 v_hi, ar cI yI 6 v_ri] sz := by
  refine met_v (by decide) (Nat.le_of_ble_eq_true rfl) ?_
  intro p e s m args below meth c A Q ls hx hb hml hown hts hK hP hD hS hA hl hE
  have hl : lv_has ls 9 [(0, .ref yX), (1, .int a1)] := hl
  have hown : s.vm.findClass R_X = some m.cls := hown
  refine lv_iload_n hx hb d_X_instruction_0 rfl (lv_at hl 1 rfl) ?_
  refine lv_bipush (v := (31 : Int32)) hx hb d_X_instruction_1 (by decide) ?_
  refine lv_iand hx hb d_X_instruction_3 ?_
  refine lv_topi (fun zz ez => ?_)
  obtain rfl : zz = (30 : Int32) := ez.trans hop
  refine lv_istore_n (lv' := [(2, .int (30 : Int32)), (0, .ref yX), (1, .int a1)]) hx hb d_X_instruction_4 rfl hl (by decide) rfl (fun ls hl => ?_)
  refine lv_iload_n hx hb d_X_instruction_5 rfl (lv_at hl 2 rfl) ?_
  refine lv_iconst (v := (5 : Int32)) hx hb d_X_instruction_6 (by decide) ?_
  refine lv_ishr hx hb d_X_instruction_7 ?_
  refine lv_bipush (v := (7 : Int32)) hx hb d_X_instruction_8 (by decide) ?_
  refine lv_iand hx hb d_X_instruction_10 ?_
  refine lv_istore_n (lv' := [(3, .int ((a1 >>> ((5 : Int32) &&& 31)) &&& (7 : Int32))), (2, .int (30 : Int32)), (0, .ref yX), (1, .int a1)]) hx hb d_X_instruction_11 rfl hl (by decide) rfl (fun ls hl => ?_)
  refine lv_iload_n hx hb d_X_instruction_12 rfl (lv_at hl 3 rfl) ?_
  show W p l e _ s m args below meth c _ _ _ _ Q (F0 m 13 ls _)
  refine lv_bipush (v := (8 : Int32)) hx hb d_X_instruction_13 (by decide) ?_
  refine lv_ishr hx hb d_X_instruction_15 ?_
  refine lv_bipush (v := (7 : Int32)) hx hb d_X_instruction_16 (by decide) ?_
  refine lv_iand hx hb d_X_instruction_18 ?_
  refine lv_istore (lv' := [(4, .int ((a1 >>> ((8 : Int32) &&& 31)) &&& (7 : Int32))), (3, .int ((a1 >>> ((5 : Int32) &&& 31)) &&& (7 : Int32))), (2, .int (30 : Int32)), (0, .ref yX), (1, .int a1)]) hx hb d_X_instruction_19 hl (by decide) rfl (fun ls hl => ?_)
  refine lv_iload_n hx hb d_X_instruction_21 rfl (lv_at hl 4 rfl) ?_
  refine lv_bipush (v := (11 : Int32)) hx hb d_X_instruction_22 (by decide) ?_
  refine lv_ishr hx hb d_X_instruction_24 ?_
  refine lv_bipush (v := (7 : Int32)) hx hb d_X_instruction_25 (by decide) ?_
  refine lv_iand hx hb d_X_instruction_27 ?_
  refine lv_istore (lv' := [(5, .int ((a1 >>> ((11 : Int32) &&& 31)) &&& (7 : Int32))), (4, .int ((a1 >>> ((8 : Int32) &&& 31)) &&& (7 : Int32))), (3, .int ((a1 >>> ((5 : Int32) &&& 31)) &&& (7 : Int32))), (2, .int (30 : Int32)), (0, .ref yX), (1, .int a1)]) hx hb d_X_instruction_28 hl (by decide) rfl (fun ls hl => ?_)
  refine lv_iload_n hx hb d_X_instruction_30 rfl (lv_at hl 5 rfl) ?_
  show W p l e _ s m args below meth c _ _ _ _ Q (F0 m 31 ls _)
  refine lv_bipush (v := (16 : Int32)) hx hb d_X_instruction_31 (by decide) ?_
  refine lv_ishr hx hb d_X_instruction_33 ?_
  refine lv_istore (lv' := [(6, .int (a1 >>> ((16 : Int32) &&& 31))), (5, .int ((a1 >>> ((11 : Int32) &&& 31)) &&& (7 : Int32))), (4, .int ((a1 >>> ((8 : Int32) &&& 31)) &&& (7 : Int32))), (3, .int ((a1 >>> ((5 : Int32) &&& 31)) &&& (7 : Int32))), (2, .int (30 : Int32)), (0, .ref yX), (1, .int a1)]) hx hb d_X_instruction_34 hl (by decide) rfl (fun ls hl => ?_)
  refine lv_iload_n hx hb d_X_instruction_36 rfl (lv_at hl 4 rfl) ?_
  refine lv_bipush (v := (25 : Int32)) hx hb d_X_instruction_37 (by decide) ?_
  refine lv_icmp_eq (tgt := 66) hx hb d_X_instruction_39 (by decide) (fun hh => absurd hh (by decide)) (fun _ => ?_)
  refine lv_iload_n hx hb d_X_instruction_42 rfl (lv_at hl 4 rfl) ?_
  refine lv_bipush (v := (26 : Int32)) hx hb d_X_instruction_43 (by decide) ?_
  refine lv_icmp_eq (tgt := 66) hx hb d_X_instruction_45 (by decide) (fun hh => absurd hh (by decide)) (fun _ => ?_)
  refine lv_iload_n hx hb d_X_instruction_48 rfl (lv_at hl 4 rfl) ?_
  refine lv_bipush (v := (28 : Int32)) hx hb d_X_instruction_49 (by decide) ?_
  refine lv_icmp_eq (tgt := 66) hx hb d_X_instruction_51 (by decide) (fun hh => absurd hh (by decide)) (fun _ => ?_)
  refine lv_iload_n hx hb d_X_instruction_54 rfl (lv_at hl 4 rfl) ?_
  refine lv_bipush (v := (29 : Int32)) hx hb d_X_instruction_55 (by decide) ?_
  refine lv_icmp_eq (tgt := 66) hx hb d_X_instruction_57 (by decide) (fun hh => absurd hh (by decide)) (fun _ => ?_)
  refine lv_iload_n hx hb d_X_instruction_60 rfl (lv_at hl 4 rfl) ?_
  refine lv_bipush (v := (31 : Int32)) hx hb d_X_instruction_61 (by decide) ?_
  refine lv_icmp_ne (tgt := 70) hx hb d_X_instruction_63 (by decide) (fun _ => ?_) (fun hh => absurd hh (by decide))
  refine lv_iconst (v := (0 : Int32)) hx hb d_X_instruction_70 (by decide) ?_
  refine lv_istore (lv' := [(7, .int (0 : Int32)), (6, .int (a1 >>> ((16 : Int32) &&& 31))), (5, .int ((a1 >>> ((11 : Int32) &&& 31)) &&& (7 : Int32))), (4, .int ((a1 >>> ((8 : Int32) &&& 31)) &&& (7 : Int32))), (3, .int ((a1 >>> ((5 : Int32) &&& 31)) &&& (7 : Int32))), (2, .int (30 : Int32)), (0, .ref yX), (1, .int a1)]) hx hb d_X_instruction_71 hl (by decide) rfl (fun ls hl => ?_)
  refine lv_iload hx hb d_X_instruction_73 (lv_at hl 0 rfl) ?_
  refine lv_if_eq (tgt := 86) hx hb d_X_instruction_75 (by decide) (fun _ => ?_) (fun hh => absurd hh (by decide))
  refine lv_iload_n hx hb d_X_instruction_86 rfl (lv_at hl 5 rfl) ?_
  refine lv_bipush (v := (30 : Int32)) hx hb d_X_instruction_87 (by decide) ?_
  refine lv_icmp_ne (tgt := 111) hx hb d_X_instruction_89 (by decide) (fun hh => absurd hh (by decide)) (fun _ => ?_)
  refine lv_iload hx hb d_X_instruction_92 (lv_at hl 1 rfl) ?_
  refine lv_iconst (v := (1 : Int32)) hx hb d_X_instruction_94 (by decide) ?_
  refine lv_iand hx hb d_X_instruction_95 ?_
  refine lv_aload_n hx hb d_X_instruction_96 rfl (lv_at hl 6 rfl) ?_
  refine zz_get (C := R_X) (T := F_X) (N := 27) (v := .int (v_x 1)) hx hb hts in_X hown hK hP 0 rfl rfl 5 (by decide) mw_70 rfl d_X_instruction_97 ?_
  refine lv_icmp_le (tgt := 111) hx hb d_X_instruction_100 (by decide) (fun h1 => ?_) (fun h1 => ?_)
  ·
    refine lv_aload_n hx hb d_X_instruction_111 rfl (lv_at hl 6 rfl) ?_
    refine zz_get (C := R_X) (T := F_X) (N := 27) (v := .ref yO) hx hb hts in_X hown hK hP 0 rfl rfl 4 (by decide) mw_68 rfl d_X_instruction_112 ?_
    refine lv_iconst (v := (0 : Int32)) hx hb d_X_instruction_115 (by decide) ?_
    refine va_iald hx hb hK hP 4 0 rfl rfl (zz_inc (by decide)) d_X_instruction_116 ?_
    refine lv_iconst (v := (1 : Int32)) hx hb d_X_instruction_117 (by decide) ?_
    refine lv_iadd hx hb d_X_instruction_118 ?_
    refine lv_istore (lv' := [(8, .int ((v_o (ix (0 : Int32))) + (1 : Int32))), (7, .int (0 : Int32)), (6, .int (a1 >>> ((16 : Int32) &&& 31))), (5, .int ((a1 >>> ((11 : Int32) &&& 31)) &&& (7 : Int32))), (4, .int ((a1 >>> ((8 : Int32) &&& 31)) &&& (7 : Int32))), (3, .int ((a1 >>> ((5 : Int32) &&& 31)) &&& (7 : Int32))), (2, .int (30 : Int32)), (0, .ref yX), (1, .int a1)]) hx hb d_X_instruction_119 hl (by decide) rfl (fun ls hl => ?_)
    refine lv_iload_n hx hb d_X_instruction_121 rfl (lv_at hl 6 rfl) ?_
    refine lv_if_le (tgt := 146) hx hb d_X_instruction_122 (by decide) (fun hh => absurd hh (by decide)) (fun _ => ?_)
    refine lv_iload_n hx hb d_X_instruction_125 rfl (lv_at hl 6 rfl) ?_
    refine lv_bipush (v := (13 : Int32)) hx hb d_X_instruction_126 (by decide) ?_
    refine lv_icmp_ge (tgt := 146) hx hb d_X_instruction_128 (by decide) (fun _ => ?_) (fun hh => absurd hh (by decide))
    refine lv_iload_n hx hb d_X_instruction_146 rfl (lv_at hl 6 rfl) ?_
    refine lv_bipush (v := (12 : Int32)) hx hb d_X_instruction_147 (by decide) ?_
    refine lv_icmp_le (tgt := 171) hx hb d_X_instruction_149 (by decide) (fun hh => absurd hh (by decide)) (fun _ => ?_)
    refine lv_iload_n hx hb d_X_instruction_152 rfl (lv_at hl 6 rfl) ?_
    refine lv_bipush (v := (18 : Int32)) hx hb d_X_instruction_153 (by decide) ?_
    refine lv_icmp_ge (tgt := 171) hx hb d_X_instruction_155 (by decide) (fun _ => ?_) (fun hh => absurd hh (by decide))
    refine lv_iload_n hx hb d_X_instruction_171 rfl (lv_at hl 6 rfl) ?_
    refine lv_bipush (v := (17 : Int32)) hx hb d_X_instruction_172 (by decide) ?_
    refine lv_icmp_le (tgt := 213) hx hb d_X_instruction_174 (by decide) (fun hh => absurd hh (by decide)) (fun _ => ?_)
    refine lv_iload_n hx hb d_X_instruction_177 rfl (lv_at hl 6 rfl) ?_
    refine lv_bipush (v := (21 : Int32)) hx hb d_X_instruction_178 (by decide) ?_
    refine lv_icmp_ge (tgt := 213) hx hb d_X_instruction_180 (by decide) (fun _ => ?_) (fun hh => absurd hh (by decide))
    refine lv_iload_n hx hb d_X_instruction_213 rfl (lv_at hl 6 rfl) ?_
    refine lv_bipush (v := (20 : Int32)) hx hb d_X_instruction_214 (by decide) ?_
    refine lv_icmp_le (tgt := 237) hx hb d_X_instruction_216 (by decide) (fun hh => absurd hh (by decide)) (fun _ => ?_)
    refine lv_iload_n hx hb d_X_instruction_219 rfl (lv_at hl 6 rfl) ?_
    refine lv_bipush (v := (27 : Int32)) hx hb d_X_instruction_220 (by decide) ?_
    refine lv_icmp_ge (tgt := 237) hx hb d_X_instruction_222 (by decide) (fun _ => ?_) (fun hh => absurd hh (by decide))
    refine lv_aload_n hx hb d_X_instruction_237 rfl (lv_at hl 7 rfl) ?_
    refine lv_iload_n hx hb d_X_instruction_238 rfl (lv_at hl 6 rfl) ?_
    refine lv_iload hx hb d_X_instruction_239 (lv_at hl 2 rfl) ?_
    refine zz_cVv (rest := []) (wr := []) (w' := [oX yX yM yD yA yO yL yH yI (s_X_system30 v_x v_M v_d v_a v_o v_lo v_hi v_ri (a1 >>> ((16 : Int32) &&& 31))), ar cI yM 512 v_M, ar cI yD 8 v_d, ar cI yA 8 v_a, ar cI yO 4 v_o, ar cI yL 6 v_lo, ar cI yH 6 v_hi, ar cI yI 6 v_ri]) ⟨hx, hb, hml, hown, hts⟩ (k_X_system30 l D cI _ yX yM yD yA yO yL yH yI v_x v_M v_d v_a v_o v_lo v_hi v_ri (a1 >>> ((16 : Int32) &&& 31))) g_X_instruction_X_system_127 nv_X_system ⟨⟨rfl, rfl⟩, Nat.le_of_ble_eq_true rfl, Nat.le_of_ble_eq_true rfl⟩ hK [0] rfl hP hD hS hA [0, 1, 2, 3, 4, 5, 6, 7] [] [0, 1, 2, 3, 4, 5, 6, 7] rfl rfl rfl rfl (by decide) rfl rfl 0 6 rfl rfl rfl rfl hl.1 (Nat.le_of_ble_eq_true rfl) d_X_instruction_241 ⟨Nat.zero_le _, Nat.zero_le _⟩ (fun H locs hP hD hS => ?_)
    refine lv_aload_n hx hb d_X_instruction_244 rfl (lv_at hl 7 rfl) ?_
    refine zz_get (C := R_X) (T := F_X) (N := 27) (v := .ref yO) hx hb hts in_X hown hK hP 0 rfl rfl 4 (by decide) mw_68 rfl d_X_instruction_245 ?_
    refine lv_iconst (v := (0 : Int32)) hx hb d_X_instruction_248 (by decide) ?_
    refine lv_aload_n hx hb d_X_instruction_249 rfl (lv_at hl 7 rfl) ?_
    refine zz_get (C := R_X) (T := F_X) (N := 27) (v := .int ((s_X_system30 v_x v_M v_d v_a v_o v_lo v_hi v_ri (a1 >>> ((16 : Int32) &&& 31))) 19)) hx hb hts in_X hown hK hP 0 rfl rfl 26 (by decide) mw_79 rfl d_X_instruction_250 ?_
    have J253_3 : ∀ (vj253_0 : Int32) (ls : Array Slot) (H : Heap) (locs : List Loc), vj253_0 = (if ((s_X_system30 v_x v_M v_d v_a v_o v_lo v_hi v_ri (a1 >>> ((16 : Int32) &&& 31))) 19) = 0 then (if ((s_X_system30 v_x v_M v_d v_a v_o v_lo v_hi v_ri (a1 >>> ((16 : Int32) &&& 31))) 7) = 0 then (v_o (ix (0 : Int32))) else ((v_o (ix (0 : Int32))) + (1 : Int32))) else (v_o (ix (0 : Int32)))) → lv_has ls 9 [(8, .int ((v_o (ix (0 : Int32))) + (1 : Int32))), (7, .int (0 : Int32)), (6, .int (a1 >>> ((16 : Int32) &&& 31))), (5, .int ((a1 >>> ((11 : Int32) &&& 31)) &&& (7 : Int32))), (4, .int ((a1 >>> ((8 : Int32) &&& 31)) &&& (7 : Int32))), (3, .int ((a1 >>> ((5 : Int32) &&& 31)) &&& (7 : Int32))), (2, .int (30 : Int32)), (0, .ref yX), (1, .int a1)] → va_P D classes [oX yX yM yD yA yO yL yH yI (s_X_system30 v_x v_M v_d v_a v_o v_lo v_hi v_ri (a1 >>> ((16 : Int32) &&& 31))), ar cI yM 512 v_M, ar cI yD 8 v_d, ar cI yA 8 v_a, ar cI yO 4 v_o, ar cI yL 6 v_lo, ar cI yH 6 v_hi, ar cI yI 6 v_ri] H → va_D A [oX yX yM yD yA yO yL yH yI (s_X_system30 v_x v_M v_d v_a v_o v_lo v_hi v_ri (a1 >>> ((16 : Int32) &&& 31))), ar cI yM 512 v_M, ar cI yD 8 v_d, ar cI yA 8 v_a, ar cI yO 4 v_o, ar cI yL 6 v_lo, ar cI yH 6 v_hi, ar cI yI 6 v_ri] → va_S A s.heap H locs → W p l e { frames := 4, cells := 0, slots := 0, locals := 100 } s m args below meth c H locs 0 0 Q (F0 m 274 ls [.int vj253_0, .int (0 : Int32), .ref yO]) := by
      intro vj253_0 ls H locs evj253_0 hl hP hD hS
      subst evj253_0
      refine zz_iast (w' := [oX yX yM yD yA yO yL yH yI (s_X_system30 v_x v_M v_d v_a v_o v_lo v_hi v_ri (a1 >>> ((16 : Int32) &&& 31))), ar cI yM 512 v_M, ar cI yD 8 v_d, ar cI yA 8 v_a, ar cI yO 4 (upd v_o (ix (0 : Int32)) (if ((s_X_system30 v_x v_M v_d v_a v_o v_lo v_hi v_ri (a1 >>> ((16 : Int32) &&& 31))) 19) = 0 then (if ((s_X_system30 v_x v_M v_d v_a v_o v_lo v_hi v_ri (a1 >>> ((16 : Int32) &&& 31))) 7) = 0 then (v_o (ix (0 : Int32))) else ((v_o (ix (0 : Int32))) + (1 : Int32))) else (v_o (ix (0 : Int32))))), ar cI yL 6 v_lo, ar cI yH 6 v_hi, ar cI yI 6 v_ri]) hx hb hK hP hD hS 4 0 rfl rfl (zz_inc (by decide)) d_X_instruction_274 rfl (fun H locs hP hD hS => ?_)
      have hsp : s_X_instr30 v_x v_M v_d v_a v_o v_lo v_hi v_ri a1 = ((s_X_system30 v_x v_M v_d v_a v_o v_lo v_hi v_ri (a1 >>> ((16 : Int32) &&& 31))), upd v_o (ix (0 : Int32)) (if ((s_X_system30 v_x v_M v_d v_a v_o v_lo v_hi v_ri (a1 >>> ((16 : Int32) &&& 31))) 19) = 0 then (if ((s_X_system30 v_x v_M v_d v_a v_o v_lo v_hi v_ri (a1 >>> ((16 : Int32) &&& 31))) 7) = 0 then (v_o (ix (0 : Int32))) else ((v_o (ix (0 : Int32))) + (1 : Int32))) else (v_o (ix (0 : Int32))))) := (by unfold s_X_instr30; rw [if_pos h1])
      rw [hsp] at hE
      exact hE _ _ _ _ hP hD hS d_X_instruction_275
    refine lv_if_ne (tgt := 268) hx hb d_X_instruction_253 (by decide) (fun h2 => ?_) (fun h2 => ?_)
    ·
      refine lv_aload_n hx hb d_X_instruction_268 rfl (lv_at hl 7 rfl) ?_
      refine zz_get (C := R_X) (T := F_X) (N := 27) (v := .ref yO) hx hb hts in_X hown hK hP 0 rfl rfl 4 (by decide) mw_68 rfl d_X_instruction_269 ?_
      refine lv_iconst (v := (0 : Int32)) hx hb d_X_instruction_272 (by decide) ?_
      refine va_iald hx hb hK hP 4 0 rfl rfl (zz_inc (by decide)) d_X_instruction_273 ?_
      exact J253_3 (v_o (ix (0 : Int32))) _ _ _ (by rw [if_neg h2]) (lv_sub hl [0, 1, 2, 3, 4, 5, 6, 7, 8] rfl) hP hD hS
    ·
      refine lv_aload_n hx hb d_X_instruction_256 rfl (lv_at hl 7 rfl) ?_
      refine zz_get (C := R_X) (T := F_X) (N := 27) (v := .int ((s_X_system30 v_x v_M v_d v_a v_o v_lo v_hi v_ri (a1 >>> ((16 : Int32) &&& 31))) 7)) hx hb hts in_X hown hK hP 0 rfl rfl 11 (by decide) mw_78 rfl d_X_instruction_257 ?_
      refine lv_if_eq (tgt := 268) hx hb d_X_instruction_260 (by decide) (fun h3 => ?_) (fun h3 => ?_)
      ·
        refine lv_aload_n hx hb d_X_instruction_268 rfl (lv_at hl 7 rfl) ?_
        refine zz_get (C := R_X) (T := F_X) (N := 27) (v := .ref yO) hx hb hts in_X hown hK hP 0 rfl rfl 4 (by decide) mw_68 rfl d_X_instruction_269 ?_
        refine lv_iconst (v := (0 : Int32)) hx hb d_X_instruction_272 (by decide) ?_
        refine va_iald hx hb hK hP 4 0 rfl rfl (zz_inc (by decide)) d_X_instruction_273 ?_
        exact J253_3 (v_o (ix (0 : Int32))) _ _ _ (by rw [if_pos h2, if_pos h3]) (lv_sub hl [0, 1, 2, 3, 4, 5, 6, 7, 8] rfl) hP hD hS
      ·
        refine lv_iload hx hb d_X_instruction_263 (lv_at hl 0 rfl) ?_
        refine lv_goto (tgt := 274) hx hb d_X_instruction_265 (by decide) ?_
        exact J253_3 ((v_o (ix (0 : Int32))) + (1 : Int32)) _ _ _ (by rw [if_pos h2, if_neg h3]) (lv_sub hl [0, 1, 2, 3, 4, 5, 6, 7, 8] rfl) hP hD hS
  ·
    refine lv_aload_n hx hb d_X_instruction_103 rfl (lv_at hl 6 rfl) ?_
    refine lv_sipush (v := (257 : Int32)) hx hb d_X_instruction_104 (by decide) ?_
    refine zz_put (C := R_X) (T := F_X) (N := 27) (w' := [oX yX yM yD yA yO yL yH yI (upd v_x 19 (257 : Int32)), ar cI yM 512 v_M, ar cI yD 8 v_d, ar cI yA 8 v_a, ar cI yO 4 v_o, ar cI yL 6 v_lo, ar cI yH 6 v_hi, ar cI yI 6 v_ri]) hx hb hts in_X ty_X ty_X_ok n_X hown hK hP hD hS 0 rfl rfl 26 (by decide) mw_79 rfl rfl rfl (Nat.le_of_ble_eq_true rfl) d_X_instruction_107 rfl (fun H locs hP hD hS => ?_)
    have hsp : s_X_instr30 v_x v_M v_d v_a v_o v_lo v_hi v_ri a1 = (upd v_x 19 (257 : Int32), v_o) := (by unfold s_X_instr30; rw [if_neg h1])
    rw [hsp] at hE
    exact hE _ _ _ _ hP hD hS d_X_instruction_110
set_option maxHeartbeats 4000000 in
set_option maxRecDepth 100000 in
theorem k_X_instr31 (l : Launch) (D : va_G) (cI : ClassId) (sz : Nat) (yX : Nat) (yM : Nat) (yD : Nat) (yA : Nat) (yO : Nat) (yL : Nat) (yH : Nat) (yI : Nat) (v_x : Nat → Int32) (v_M : Nat → Int32) (v_d : Nat → Int32) (v_a : Nat → Int32) (v_o : Nat → Int32) (v_lo : Nat → Int32) (v_hi : Nat → Int32) (v_ri : Nat → Int32) (a1 : Int32) (hop : (a1 &&& (31 : Int32)) = (31 : Int32)) : zMv l y_X_instruction (.code y_X_instruction b_X_instruction 9 (none) :: wd) { frames := 4, cells := 0, slots := 0, locals := 100 } D classes [(cI, .int)] [.ref yX, .int a1] [oX yX yM yD yA yO yL yH yI v_x, ar cI yM 512 v_M, ar cI yD 8 v_d, ar cI yA 8 v_a, ar cI yO 4 v_o, ar cI yL 6 v_lo, ar cI yH 6 v_hi, ar cI yI 6 v_ri] [oX yX yM yD yA yO yL yH yI ((s_X_instr31 v_x v_M v_d v_a v_o v_lo v_hi v_ri a1).1), ar cI yM 512 v_M, ar cI yD 8 v_d, ar cI yA 8 v_a, ar cI yO 4 ((s_X_instr31 v_x v_M v_d v_a v_o v_lo v_hi v_ri a1).2), ar cI yL 6 v_lo, ar cI yH 6 v_hi, ar cI yI 6 v_ri] sz := by
  refine met_v (by decide) (Nat.le_of_ble_eq_true rfl) ?_
  intro p e s m args below meth c A Q ls hx hb hml hown hts hK hP hD hS hA hl hE
  have hl : lv_has ls 9 [(0, .ref yX), (1, .int a1)] := hl
  have hown : s.vm.findClass R_X = some m.cls := hown
  refine lv_iload_n hx hb d_X_instruction_0 rfl (lv_at hl 1 rfl) ?_
  refine lv_bipush (v := (31 : Int32)) hx hb d_X_instruction_1 (by decide) ?_
  refine lv_iand hx hb d_X_instruction_3 ?_
  refine lv_topi (fun zz ez => ?_)
  obtain rfl : zz = (31 : Int32) := ez.trans hop
  refine lv_istore_n (lv' := [(2, .int (31 : Int32)), (0, .ref yX), (1, .int a1)]) hx hb d_X_instruction_4 rfl hl (by decide) rfl (fun ls hl => ?_)
  refine lv_iload_n hx hb d_X_instruction_5 rfl (lv_at hl 2 rfl) ?_
  refine lv_iconst (v := (5 : Int32)) hx hb d_X_instruction_6 (by decide) ?_
  refine lv_ishr hx hb d_X_instruction_7 ?_
  refine lv_bipush (v := (7 : Int32)) hx hb d_X_instruction_8 (by decide) ?_
  refine lv_iand hx hb d_X_instruction_10 ?_
  refine lv_istore_n (lv' := [(3, .int ((a1 >>> ((5 : Int32) &&& 31)) &&& (7 : Int32))), (2, .int (31 : Int32)), (0, .ref yX), (1, .int a1)]) hx hb d_X_instruction_11 rfl hl (by decide) rfl (fun ls hl => ?_)
  refine lv_iload_n hx hb d_X_instruction_12 rfl (lv_at hl 3 rfl) ?_
  show W p l e _ s m args below meth c _ _ _ _ Q (F0 m 13 ls _)
  refine lv_bipush (v := (8 : Int32)) hx hb d_X_instruction_13 (by decide) ?_
  refine lv_ishr hx hb d_X_instruction_15 ?_
  refine lv_bipush (v := (7 : Int32)) hx hb d_X_instruction_16 (by decide) ?_
  refine lv_iand hx hb d_X_instruction_18 ?_
  refine lv_istore (lv' := [(4, .int ((a1 >>> ((8 : Int32) &&& 31)) &&& (7 : Int32))), (3, .int ((a1 >>> ((5 : Int32) &&& 31)) &&& (7 : Int32))), (2, .int (31 : Int32)), (0, .ref yX), (1, .int a1)]) hx hb d_X_instruction_19 hl (by decide) rfl (fun ls hl => ?_)
  refine lv_iload_n hx hb d_X_instruction_21 rfl (lv_at hl 4 rfl) ?_
  refine lv_bipush (v := (11 : Int32)) hx hb d_X_instruction_22 (by decide) ?_
  refine lv_ishr hx hb d_X_instruction_24 ?_
  refine lv_bipush (v := (7 : Int32)) hx hb d_X_instruction_25 (by decide) ?_
  refine lv_iand hx hb d_X_instruction_27 ?_
  refine lv_istore (lv' := [(5, .int ((a1 >>> ((11 : Int32) &&& 31)) &&& (7 : Int32))), (4, .int ((a1 >>> ((8 : Int32) &&& 31)) &&& (7 : Int32))), (3, .int ((a1 >>> ((5 : Int32) &&& 31)) &&& (7 : Int32))), (2, .int (31 : Int32)), (0, .ref yX), (1, .int a1)]) hx hb d_X_instruction_28 hl (by decide) rfl (fun ls hl => ?_)
  refine lv_iload_n hx hb d_X_instruction_30 rfl (lv_at hl 5 rfl) ?_
  show W p l e _ s m args below meth c _ _ _ _ Q (F0 m 31 ls _)
  refine lv_bipush (v := (16 : Int32)) hx hb d_X_instruction_31 (by decide) ?_
  refine lv_ishr hx hb d_X_instruction_33 ?_
  refine lv_istore (lv' := [(6, .int (a1 >>> ((16 : Int32) &&& 31))), (5, .int ((a1 >>> ((11 : Int32) &&& 31)) &&& (7 : Int32))), (4, .int ((a1 >>> ((8 : Int32) &&& 31)) &&& (7 : Int32))), (3, .int ((a1 >>> ((5 : Int32) &&& 31)) &&& (7 : Int32))), (2, .int (31 : Int32)), (0, .ref yX), (1, .int a1)]) hx hb d_X_instruction_34 hl (by decide) rfl (fun ls hl => ?_)
  refine lv_iload_n hx hb d_X_instruction_36 rfl (lv_at hl 4 rfl) ?_
  refine lv_bipush (v := (25 : Int32)) hx hb d_X_instruction_37 (by decide) ?_
  refine lv_icmp_eq (tgt := 66) hx hb d_X_instruction_39 (by decide) (fun hh => absurd hh (by decide)) (fun _ => ?_)
  refine lv_iload_n hx hb d_X_instruction_42 rfl (lv_at hl 4 rfl) ?_
  refine lv_bipush (v := (26 : Int32)) hx hb d_X_instruction_43 (by decide) ?_
  refine lv_icmp_eq (tgt := 66) hx hb d_X_instruction_45 (by decide) (fun hh => absurd hh (by decide)) (fun _ => ?_)
  refine lv_iload_n hx hb d_X_instruction_48 rfl (lv_at hl 4 rfl) ?_
  refine lv_bipush (v := (28 : Int32)) hx hb d_X_instruction_49 (by decide) ?_
  refine lv_icmp_eq (tgt := 66) hx hb d_X_instruction_51 (by decide) (fun hh => absurd hh (by decide)) (fun _ => ?_)
  refine lv_iload_n hx hb d_X_instruction_54 rfl (lv_at hl 4 rfl) ?_
  refine lv_bipush (v := (29 : Int32)) hx hb d_X_instruction_55 (by decide) ?_
  refine lv_icmp_eq (tgt := 66) hx hb d_X_instruction_57 (by decide) (fun hh => absurd hh (by decide)) (fun _ => ?_)
  refine lv_iload_n hx hb d_X_instruction_60 rfl (lv_at hl 4 rfl) ?_
  refine lv_bipush (v := (31 : Int32)) hx hb d_X_instruction_61 (by decide) ?_
  refine lv_icmp_ne (tgt := 70) hx hb d_X_instruction_63 (by decide) (fun hh => absurd hh (by decide)) (fun _ => ?_)
  refine lv_iconst (v := (1 : Int32)) hx hb d_X_instruction_66 (by decide) ?_
  refine lv_goto (tgt := 71) hx hb d_X_instruction_67 (by decide) ?_
  refine lv_istore (lv' := [(7, .int (1 : Int32)), (6, .int (a1 >>> ((16 : Int32) &&& 31))), (5, .int ((a1 >>> ((11 : Int32) &&& 31)) &&& (7 : Int32))), (4, .int ((a1 >>> ((8 : Int32) &&& 31)) &&& (7 : Int32))), (3, .int ((a1 >>> ((5 : Int32) &&& 31)) &&& (7 : Int32))), (2, .int (31 : Int32)), (0, .ref yX), (1, .int a1)]) hx hb d_X_instruction_71 hl (by decide) rfl (fun ls hl => ?_)
  refine lv_iload hx hb d_X_instruction_73 (lv_at hl 0 rfl) ?_
  refine lv_if_eq (tgt := 86) hx hb d_X_instruction_75 (by decide) (fun hh => absurd hh (by decide)) (fun _ => ?_)
  refine lv_aload_n hx hb d_X_instruction_78 rfl (lv_at hl 6 rfl) ?_
  refine zz_get (C := R_X) (T := F_X) (N := 27) (v := .int (v_x 1)) hx hb hts in_X hown hK hP 0 rfl rfl 5 (by decide) mw_70 rfl d_X_instruction_79 ?_
  refine lv_iconst (v := (2 : Int32)) hx hb d_X_instruction_82 (by decide) ?_
  refine lv_icmp_ne (tgt := 103) hx hb d_X_instruction_83 (by decide) (fun h1 => ?_) (fun h1 => ?_)
  ·
    refine lv_aload_n hx hb d_X_instruction_103 rfl (lv_at hl 6 rfl) ?_
    refine lv_sipush (v := (257 : Int32)) hx hb d_X_instruction_104 (by decide) ?_
    refine zz_put (C := R_X) (T := F_X) (N := 27) (w' := [oX yX yM yD yA yO yL yH yI (upd v_x 19 (257 : Int32)), ar cI yM 512 v_M, ar cI yD 8 v_d, ar cI yA 8 v_a, ar cI yO 4 v_o, ar cI yL 6 v_lo, ar cI yH 6 v_hi, ar cI yI 6 v_ri]) hx hb hts in_X ty_X ty_X_ok n_X hown hK hP hD hS 0 rfl rfl 26 (by decide) mw_79 rfl rfl rfl (Nat.le_of_ble_eq_true rfl) d_X_instruction_107 rfl (fun H locs hP hD hS => ?_)
    have hsp : s_X_instr31 v_x v_M v_d v_a v_o v_lo v_hi v_ri a1 = (upd v_x 19 (257 : Int32), v_o) := (by unfold s_X_instr31; rw [if_neg h1])
    rw [hsp] at hE
    exact hE _ _ _ _ hP hD hS d_X_instruction_110
  ·
    refine lv_iload_n hx hb d_X_instruction_86 rfl (lv_at hl 5 rfl) ?_
    refine lv_bipush (v := (30 : Int32)) hx hb d_X_instruction_87 (by decide) ?_
    refine lv_icmp_ne (tgt := 111) hx hb d_X_instruction_89 (by decide) (fun _ => ?_) (fun hh => absurd hh (by decide))
    refine lv_aload_n hx hb d_X_instruction_111 rfl (lv_at hl 6 rfl) ?_
    refine zz_get (C := R_X) (T := F_X) (N := 27) (v := .ref yO) hx hb hts in_X hown hK hP 0 rfl rfl 4 (by decide) mw_68 rfl d_X_instruction_112 ?_
    refine lv_iconst (v := (0 : Int32)) hx hb d_X_instruction_115 (by decide) ?_
    refine va_iald hx hb hK hP 4 0 rfl rfl (zz_inc (by decide)) d_X_instruction_116 ?_
    refine lv_iconst (v := (1 : Int32)) hx hb d_X_instruction_117 (by decide) ?_
    refine lv_iadd hx hb d_X_instruction_118 ?_
    refine lv_istore (lv' := [(8, .int ((v_o (ix (0 : Int32))) + (1 : Int32))), (7, .int (1 : Int32)), (6, .int (a1 >>> ((16 : Int32) &&& 31))), (5, .int ((a1 >>> ((11 : Int32) &&& 31)) &&& (7 : Int32))), (4, .int ((a1 >>> ((8 : Int32) &&& 31)) &&& (7 : Int32))), (3, .int ((a1 >>> ((5 : Int32) &&& 31)) &&& (7 : Int32))), (2, .int (31 : Int32)), (0, .ref yX), (1, .int a1)]) hx hb d_X_instruction_119 hl (by decide) rfl (fun ls hl => ?_)
    refine lv_iload_n hx hb d_X_instruction_121 rfl (lv_at hl 6 rfl) ?_
    refine lv_if_le (tgt := 146) hx hb d_X_instruction_122 (by decide) (fun hh => absurd hh (by decide)) (fun _ => ?_)
    refine lv_iload_n hx hb d_X_instruction_125 rfl (lv_at hl 6 rfl) ?_
    refine lv_bipush (v := (13 : Int32)) hx hb d_X_instruction_126 (by decide) ?_
    refine lv_icmp_ge (tgt := 146) hx hb d_X_instruction_128 (by decide) (fun _ => ?_) (fun hh => absurd hh (by decide))
    refine lv_iload_n hx hb d_X_instruction_146 rfl (lv_at hl 6 rfl) ?_
    refine lv_bipush (v := (12 : Int32)) hx hb d_X_instruction_147 (by decide) ?_
    refine lv_icmp_le (tgt := 171) hx hb d_X_instruction_149 (by decide) (fun hh => absurd hh (by decide)) (fun _ => ?_)
    refine lv_iload_n hx hb d_X_instruction_152 rfl (lv_at hl 6 rfl) ?_
    refine lv_bipush (v := (18 : Int32)) hx hb d_X_instruction_153 (by decide) ?_
    refine lv_icmp_ge (tgt := 171) hx hb d_X_instruction_155 (by decide) (fun _ => ?_) (fun hh => absurd hh (by decide))
    refine lv_iload_n hx hb d_X_instruction_171 rfl (lv_at hl 6 rfl) ?_
    refine lv_bipush (v := (17 : Int32)) hx hb d_X_instruction_172 (by decide) ?_
    refine lv_icmp_le (tgt := 213) hx hb d_X_instruction_174 (by decide) (fun hh => absurd hh (by decide)) (fun _ => ?_)
    refine lv_iload_n hx hb d_X_instruction_177 rfl (lv_at hl 6 rfl) ?_
    refine lv_bipush (v := (21 : Int32)) hx hb d_X_instruction_178 (by decide) ?_
    refine lv_icmp_ge (tgt := 213) hx hb d_X_instruction_180 (by decide) (fun _ => ?_) (fun hh => absurd hh (by decide))
    refine lv_iload_n hx hb d_X_instruction_213 rfl (lv_at hl 6 rfl) ?_
    refine lv_bipush (v := (20 : Int32)) hx hb d_X_instruction_214 (by decide) ?_
    refine lv_icmp_le (tgt := 237) hx hb d_X_instruction_216 (by decide) (fun hh => absurd hh (by decide)) (fun _ => ?_)
    refine lv_iload_n hx hb d_X_instruction_219 rfl (lv_at hl 6 rfl) ?_
    refine lv_bipush (v := (27 : Int32)) hx hb d_X_instruction_220 (by decide) ?_
    refine lv_icmp_ge (tgt := 237) hx hb d_X_instruction_222 (by decide) (fun _ => ?_) (fun hh => absurd hh (by decide))
    refine lv_aload_n hx hb d_X_instruction_237 rfl (lv_at hl 7 rfl) ?_
    refine lv_iload_n hx hb d_X_instruction_238 rfl (lv_at hl 6 rfl) ?_
    refine lv_iload hx hb d_X_instruction_239 (lv_at hl 2 rfl) ?_
    refine zz_cVv (rest := []) (wr := []) (w' := [oX yX yM yD yA yO yL yH yI (s_X_system31 v_x v_M v_d v_a v_o v_lo v_hi v_ri (a1 >>> ((16 : Int32) &&& 31))), ar cI yM 512 v_M, ar cI yD 8 v_d, ar cI yA 8 v_a, ar cI yO 4 v_o, ar cI yL 6 v_lo, ar cI yH 6 v_hi, ar cI yI 6 v_ri]) ⟨hx, hb, hml, hown, hts⟩ (k_X_system31 l D cI _ yX yM yD yA yO yL yH yI v_x v_M v_d v_a v_o v_lo v_hi v_ri (a1 >>> ((16 : Int32) &&& 31))) g_X_instruction_X_system_127 nv_X_system ⟨⟨rfl, rfl⟩, Nat.le_of_ble_eq_true rfl, Nat.le_of_ble_eq_true rfl⟩ hK [0] rfl hP hD hS hA [0, 1, 2, 3, 4, 5, 6, 7] [] [0, 1, 2, 3, 4, 5, 6, 7] rfl rfl rfl rfl (by decide) rfl rfl 0 6 rfl rfl rfl rfl hl.1 (Nat.le_of_ble_eq_true rfl) d_X_instruction_241 ⟨Nat.zero_le _, Nat.zero_le _⟩ (fun H locs hP hD hS => ?_)
    refine lv_aload_n hx hb d_X_instruction_244 rfl (lv_at hl 7 rfl) ?_
    refine zz_get (C := R_X) (T := F_X) (N := 27) (v := .ref yO) hx hb hts in_X hown hK hP 0 rfl rfl 4 (by decide) mw_68 rfl d_X_instruction_245 ?_
    refine lv_iconst (v := (0 : Int32)) hx hb d_X_instruction_248 (by decide) ?_
    refine lv_aload_n hx hb d_X_instruction_249 rfl (lv_at hl 7 rfl) ?_
    refine zz_get (C := R_X) (T := F_X) (N := 27) (v := .int ((s_X_system31 v_x v_M v_d v_a v_o v_lo v_hi v_ri (a1 >>> ((16 : Int32) &&& 31))) 19)) hx hb hts in_X hown hK hP 0 rfl rfl 26 (by decide) mw_79 rfl d_X_instruction_250 ?_
    have J253_3 : ∀ (vj253_0 : Int32) (ls : Array Slot) (H : Heap) (locs : List Loc), vj253_0 = (if ((s_X_system31 v_x v_M v_d v_a v_o v_lo v_hi v_ri (a1 >>> ((16 : Int32) &&& 31))) 19) = 0 then (if ((s_X_system31 v_x v_M v_d v_a v_o v_lo v_hi v_ri (a1 >>> ((16 : Int32) &&& 31))) 7) = 0 then (v_o (ix (0 : Int32))) else ((v_o (ix (0 : Int32))) + (1 : Int32))) else (v_o (ix (0 : Int32)))) → lv_has ls 9 [(8, .int ((v_o (ix (0 : Int32))) + (1 : Int32))), (7, .int (1 : Int32)), (6, .int (a1 >>> ((16 : Int32) &&& 31))), (5, .int ((a1 >>> ((11 : Int32) &&& 31)) &&& (7 : Int32))), (4, .int ((a1 >>> ((8 : Int32) &&& 31)) &&& (7 : Int32))), (3, .int ((a1 >>> ((5 : Int32) &&& 31)) &&& (7 : Int32))), (2, .int (31 : Int32)), (0, .ref yX), (1, .int a1)] → va_P D classes [oX yX yM yD yA yO yL yH yI (s_X_system31 v_x v_M v_d v_a v_o v_lo v_hi v_ri (a1 >>> ((16 : Int32) &&& 31))), ar cI yM 512 v_M, ar cI yD 8 v_d, ar cI yA 8 v_a, ar cI yO 4 v_o, ar cI yL 6 v_lo, ar cI yH 6 v_hi, ar cI yI 6 v_ri] H → va_D A [oX yX yM yD yA yO yL yH yI (s_X_system31 v_x v_M v_d v_a v_o v_lo v_hi v_ri (a1 >>> ((16 : Int32) &&& 31))), ar cI yM 512 v_M, ar cI yD 8 v_d, ar cI yA 8 v_a, ar cI yO 4 v_o, ar cI yL 6 v_lo, ar cI yH 6 v_hi, ar cI yI 6 v_ri] → va_S A s.heap H locs → W p l e { frames := 4, cells := 0, slots := 0, locals := 100 } s m args below meth c H locs 0 0 Q (F0 m 274 ls [.int vj253_0, .int (0 : Int32), .ref yO]) := by
      intro vj253_0 ls H locs evj253_0 hl hP hD hS
      subst evj253_0
      refine zz_iast (w' := [oX yX yM yD yA yO yL yH yI (s_X_system31 v_x v_M v_d v_a v_o v_lo v_hi v_ri (a1 >>> ((16 : Int32) &&& 31))), ar cI yM 512 v_M, ar cI yD 8 v_d, ar cI yA 8 v_a, ar cI yO 4 (upd v_o (ix (0 : Int32)) (if ((s_X_system31 v_x v_M v_d v_a v_o v_lo v_hi v_ri (a1 >>> ((16 : Int32) &&& 31))) 19) = 0 then (if ((s_X_system31 v_x v_M v_d v_a v_o v_lo v_hi v_ri (a1 >>> ((16 : Int32) &&& 31))) 7) = 0 then (v_o (ix (0 : Int32))) else ((v_o (ix (0 : Int32))) + (1 : Int32))) else (v_o (ix (0 : Int32))))), ar cI yL 6 v_lo, ar cI yH 6 v_hi, ar cI yI 6 v_ri]) hx hb hK hP hD hS 4 0 rfl rfl (zz_inc (by decide)) d_X_instruction_274 rfl (fun H locs hP hD hS => ?_)
      have hsp : s_X_instr31 v_x v_M v_d v_a v_o v_lo v_hi v_ri a1 = ((s_X_system31 v_x v_M v_d v_a v_o v_lo v_hi v_ri (a1 >>> ((16 : Int32) &&& 31))), upd v_o (ix (0 : Int32)) (if ((s_X_system31 v_x v_M v_d v_a v_o v_lo v_hi v_ri (a1 >>> ((16 : Int32) &&& 31))) 19) = 0 then (if ((s_X_system31 v_x v_M v_d v_a v_o v_lo v_hi v_ri (a1 >>> ((16 : Int32) &&& 31))) 7) = 0 then (v_o (ix (0 : Int32))) else ((v_o (ix (0 : Int32))) + (1 : Int32))) else (v_o (ix (0 : Int32))))) := (by unfold s_X_instr31; rw [if_pos h1])
      rw [hsp] at hE
      exact hE _ _ _ _ hP hD hS d_X_instruction_275
    refine lv_if_ne (tgt := 268) hx hb d_X_instruction_253 (by decide) (fun h2 => ?_) (fun h2 => ?_)
    ·
      refine lv_aload_n hx hb d_X_instruction_268 rfl (lv_at hl 7 rfl) ?_
      refine zz_get (C := R_X) (T := F_X) (N := 27) (v := .ref yO) hx hb hts in_X hown hK hP 0 rfl rfl 4 (by decide) mw_68 rfl d_X_instruction_269 ?_
      refine lv_iconst (v := (0 : Int32)) hx hb d_X_instruction_272 (by decide) ?_
      refine va_iald hx hb hK hP 4 0 rfl rfl (zz_inc (by decide)) d_X_instruction_273 ?_
      exact J253_3 (v_o (ix (0 : Int32))) _ _ _ (by rw [if_neg h2]) (lv_sub hl [0, 1, 2, 3, 4, 5, 6, 7, 8] rfl) hP hD hS
    ·
      refine lv_aload_n hx hb d_X_instruction_256 rfl (lv_at hl 7 rfl) ?_
      refine zz_get (C := R_X) (T := F_X) (N := 27) (v := .int ((s_X_system31 v_x v_M v_d v_a v_o v_lo v_hi v_ri (a1 >>> ((16 : Int32) &&& 31))) 7)) hx hb hts in_X hown hK hP 0 rfl rfl 11 (by decide) mw_78 rfl d_X_instruction_257 ?_
      refine lv_if_eq (tgt := 268) hx hb d_X_instruction_260 (by decide) (fun h3 => ?_) (fun h3 => ?_)
      ·
        refine lv_aload_n hx hb d_X_instruction_268 rfl (lv_at hl 7 rfl) ?_
        refine zz_get (C := R_X) (T := F_X) (N := 27) (v := .ref yO) hx hb hts in_X hown hK hP 0 rfl rfl 4 (by decide) mw_68 rfl d_X_instruction_269 ?_
        refine lv_iconst (v := (0 : Int32)) hx hb d_X_instruction_272 (by decide) ?_
        refine va_iald hx hb hK hP 4 0 rfl rfl (zz_inc (by decide)) d_X_instruction_273 ?_
        exact J253_3 (v_o (ix (0 : Int32))) _ _ _ (by rw [if_pos h2, if_pos h3]) (lv_sub hl [0, 1, 2, 3, 4, 5, 6, 7, 8] rfl) hP hD hS
      ·
        refine lv_iload hx hb d_X_instruction_263 (lv_at hl 0 rfl) ?_
        refine lv_goto (tgt := 274) hx hb d_X_instruction_265 (by decide) ?_
        exact J253_3 ((v_o (ix (0 : Int32))) + (1 : Int32)) _ _ _ (by rw [if_pos h2, if_neg h3]) (lv_sub hl [0, 1, 2, 3, 4, 5, 6, 7, 8] rfl) hP hD hS
set_option maxHeartbeats 4000000 in
set_option maxRecDepth 100000 in
theorem k_X_instr (l : Launch) (D : va_G) (cI : ClassId) (sz : Nat) (yX : Nat) (yM : Nat) (yD : Nat) (yA : Nat) (yO : Nat) (yL : Nat) (yH : Nat) (yI : Nat) (v_x : Nat → Int32) (v_M : Nat → Int32) (v_d : Nat → Int32) (v_a : Nat → Int32) (v_o : Nat → Int32) (v_lo : Nat → Int32) (v_hi : Nat → Int32) (v_ri : Nat → Int32) (a1 : Int32) (hset : v_x 2 = 0 ∨ v_x 2 = 1) (heb : v_x 5 = 0 ∨ v_x 5 = 1) : zMv l y_X_instruction (.code y_X_instruction b_X_instruction 9 (none) :: wd) { frames := 4, cells := 0, slots := 0, locals := 100 } D classes [(cI, .int)] [.ref yX, .int a1] [oX yX yM yD yA yO yL yH yI v_x, ar cI yM 512 v_M, ar cI yD 8 v_d, ar cI yA 8 v_a, ar cI yO 4 v_o, ar cI yL 6 v_lo, ar cI yH 6 v_hi, ar cI yI 6 v_ri] [oX yX yM yD yA yO yL yH yI ((s_X_instr v_x v_M v_d v_a v_o v_lo v_hi v_ri a1).1), ar cI yM 512 ((s_X_instr v_x v_M v_d v_a v_o v_lo v_hi v_ri a1).2.1), ar cI yD 8 ((s_X_instr v_x v_M v_d v_a v_o v_lo v_hi v_ri a1).2.2.1), ar cI yA 8 ((s_X_instr v_x v_M v_d v_a v_o v_lo v_hi v_ri a1).2.2.2.1), ar cI yO 4 ((s_X_instr v_x v_M v_d v_a v_o v_lo v_hi v_ri a1).2.2.2.2), ar cI yL 6 v_lo, ar cI yH 6 v_hi, ar cI yI 6 v_ri] sz := by
  obtain ⟨j, hj, hop⟩ := pk_andE a1 (m := (31 : Int32)) 5 (by decide)
  have hj : j < 32 := hj
  match j, hj, hop with
  | 0, _, hop => have hop : (a1 &&& (31 : Int32)) = (0 : Int32) := hop; rw [e_X_instr0 v_x v_M v_d v_a v_o v_lo v_hi v_ri a1 hop]; exact k_X_instr0 l D cI sz yX yM yD yA yO yL yH yI v_x v_M v_d v_a v_o v_lo v_hi v_ri a1 hop
  | 1, _, hop => have hop : (a1 &&& (31 : Int32)) = (1 : Int32) := hop; rw [e_X_instr1 v_x v_M v_d v_a v_o v_lo v_hi v_ri a1 hop]; exact k_X_instr1 l D cI sz yX yM yD yA yO yL yH yI v_x v_M v_d v_a v_o v_lo v_hi v_ri a1 hop
  | 2, _, hop => have hop : (a1 &&& (31 : Int32)) = (2 : Int32) := hop; rw [e_X_instr2 v_x v_M v_d v_a v_o v_lo v_hi v_ri a1 hop]; exact k_X_instr2 l D cI sz yX yM yD yA yO yL yH yI v_x v_M v_d v_a v_o v_lo v_hi v_ri a1 hop
  | 3, _, hop => have hop : (a1 &&& (31 : Int32)) = (3 : Int32) := hop; rw [e_X_instr3 v_x v_M v_d v_a v_o v_lo v_hi v_ri a1 hop]; exact k_X_instr3 l D cI sz yX yM yD yA yO yL yH yI v_x v_M v_d v_a v_o v_lo v_hi v_ri a1 hop
  | 4, _, hop => have hop : (a1 &&& (31 : Int32)) = (4 : Int32) := hop; rw [e_X_instr4 v_x v_M v_d v_a v_o v_lo v_hi v_ri a1 hop]; exact k_X_instr4 l D cI sz yX yM yD yA yO yL yH yI v_x v_M v_d v_a v_o v_lo v_hi v_ri a1 hop
  | 5, _, hop => have hop : (a1 &&& (31 : Int32)) = (5 : Int32) := hop; rw [e_X_instr5 v_x v_M v_d v_a v_o v_lo v_hi v_ri a1 hop]; exact k_X_instr5 l D cI sz yX yM yD yA yO yL yH yI v_x v_M v_d v_a v_o v_lo v_hi v_ri a1 hop
  | 6, _, hop => have hop : (a1 &&& (31 : Int32)) = (6 : Int32) := hop; rw [e_X_instr6 v_x v_M v_d v_a v_o v_lo v_hi v_ri a1 hop]; exact k_X_instr6 l D cI sz yX yM yD yA yO yL yH yI v_x v_M v_d v_a v_o v_lo v_hi v_ri a1 hop
  | 7, _, hop => have hop : (a1 &&& (31 : Int32)) = (7 : Int32) := hop; rw [e_X_instr7 v_x v_M v_d v_a v_o v_lo v_hi v_ri a1 hop]; exact k_X_instr7 l D cI sz yX yM yD yA yO yL yH yI v_x v_M v_d v_a v_o v_lo v_hi v_ri a1 hop
  | 8, _, hop => have hop : (a1 &&& (31 : Int32)) = (8 : Int32) := hop; rw [e_X_instr8 v_x v_M v_d v_a v_o v_lo v_hi v_ri a1 hop]; exact k_X_instr8 l D cI sz yX yM yD yA yO yL yH yI v_x v_M v_d v_a v_o v_lo v_hi v_ri a1 hop
  | 9, _, hop => have hop : (a1 &&& (31 : Int32)) = (9 : Int32) := hop; rw [e_X_instr9 v_x v_M v_d v_a v_o v_lo v_hi v_ri a1 hop]; exact k_X_instr9 l D cI sz yX yM yD yA yO yL yH yI v_x v_M v_d v_a v_o v_lo v_hi v_ri a1 hop
  | 10, _, hop => have hop : (a1 &&& (31 : Int32)) = (10 : Int32) := hop; rw [e_X_instr10 v_x v_M v_d v_a v_o v_lo v_hi v_ri a1 hop]; exact k_X_instr10 l D cI sz yX yM yD yA yO yL yH yI v_x v_M v_d v_a v_o v_lo v_hi v_ri a1 hop
  | 11, _, hop => have hop : (a1 &&& (31 : Int32)) = (11 : Int32) := hop; rw [e_X_instr11 v_x v_M v_d v_a v_o v_lo v_hi v_ri a1 hop]; exact k_X_instr11 l D cI sz yX yM yD yA yO yL yH yI v_x v_M v_d v_a v_o v_lo v_hi v_ri a1 hop
  | 12, _, hop => have hop : (a1 &&& (31 : Int32)) = (12 : Int32) := hop; rw [e_X_instr12 v_x v_M v_d v_a v_o v_lo v_hi v_ri a1 hop]; exact k_X_instr12 l D cI sz yX yM yD yA yO yL yH yI v_x v_M v_d v_a v_o v_lo v_hi v_ri a1 hop
  | 13, _, hop => have hop : (a1 &&& (31 : Int32)) = (13 : Int32) := hop; rw [e_X_instr13 v_x v_M v_d v_a v_o v_lo v_hi v_ri a1 hop]; exact k_X_instr13 l D cI sz yX yM yD yA yO yL yH yI v_x v_M v_d v_a v_o v_lo v_hi v_ri a1 hop hset
  | 14, _, hop => have hop : (a1 &&& (31 : Int32)) = (14 : Int32) := hop; rw [e_X_instr14 v_x v_M v_d v_a v_o v_lo v_hi v_ri a1 hop]; exact k_X_instr14 l D cI sz yX yM yD yA yO yL yH yI v_x v_M v_d v_a v_o v_lo v_hi v_ri a1 hop hset
  | 15, _, hop => have hop : (a1 &&& (31 : Int32)) = (15 : Int32) := hop; rw [e_X_instr15 v_x v_M v_d v_a v_o v_lo v_hi v_ri a1 hop]; exact k_X_instr15 l D cI sz yX yM yD yA yO yL yH yI v_x v_M v_d v_a v_o v_lo v_hi v_ri a1 hop hset
  | 16, _, hop => have hop : (a1 &&& (31 : Int32)) = (16 : Int32) := hop; rw [e_X_instr16 v_x v_M v_d v_a v_o v_lo v_hi v_ri a1 hop]; exact k_X_instr16 l D cI sz yX yM yD yA yO yL yH yI v_x v_M v_d v_a v_o v_lo v_hi v_ri a1 hop hset
  | 17, _, hop => have hop : (a1 &&& (31 : Int32)) = (17 : Int32) := hop; rw [e_X_instr17 v_x v_M v_d v_a v_o v_lo v_hi v_ri a1 hop]; exact k_X_instr17 l D cI sz yX yM yD yA yO yL yH yI v_x v_M v_d v_a v_o v_lo v_hi v_ri a1 hop hset
  | 18, _, hop => have hop : (a1 &&& (31 : Int32)) = (18 : Int32) := hop; rw [e_X_instr18 v_x v_M v_d v_a v_o v_lo v_hi v_ri a1 hop]; exact k_X_instr18 l D cI sz yX yM yD yA yO yL yH yI v_x v_M v_d v_a v_o v_lo v_hi v_ri a1 hop
  | 19, _, hop => have hop : (a1 &&& (31 : Int32)) = (19 : Int32) := hop; rw [e_X_instr19 v_x v_M v_d v_a v_o v_lo v_hi v_ri a1 hop]; exact k_X_instr19 l D cI sz yX yM yD yA yO yL yH yI v_x v_M v_d v_a v_o v_lo v_hi v_ri a1 hop
  | 20, _, hop => have hop : (a1 &&& (31 : Int32)) = (20 : Int32) := hop; rw [e_X_instr20 v_x v_M v_d v_a v_o v_lo v_hi v_ri a1 hop]; exact k_X_instr20 l D cI sz yX yM yD yA yO yL yH yI v_x v_M v_d v_a v_o v_lo v_hi v_ri a1 hop
  | 21, _, hop => have hop : (a1 &&& (31 : Int32)) = (21 : Int32) := hop; rw [e_X_instr21 v_x v_M v_d v_a v_o v_lo v_hi v_ri a1 hop]; exact k_X_instr21 l D cI sz yX yM yD yA yO yL yH yI v_x v_M v_d v_a v_o v_lo v_hi v_ri a1 hop
  | 22, _, hop => have hop : (a1 &&& (31 : Int32)) = (22 : Int32) := hop; rw [e_X_instr22 v_x v_M v_d v_a v_o v_lo v_hi v_ri a1 hop]; exact k_X_instr22 l D cI sz yX yM yD yA yO yL yH yI v_x v_M v_d v_a v_o v_lo v_hi v_ri a1 hop heb
  | 23, _, hop => have hop : (a1 &&& (31 : Int32)) = (23 : Int32) := hop; rw [e_X_instr23 v_x v_M v_d v_a v_o v_lo v_hi v_ri a1 hop]; exact k_X_instr23 l D cI sz yX yM yD yA yO yL yH yI v_x v_M v_d v_a v_o v_lo v_hi v_ri a1 hop
  | 24, _, hop => have hop : (a1 &&& (31 : Int32)) = (24 : Int32) := hop; rw [e_X_instr24 v_x v_M v_d v_a v_o v_lo v_hi v_ri a1 hop]; exact k_X_instr24 l D cI sz yX yM yD yA yO yL yH yI v_x v_M v_d v_a v_o v_lo v_hi v_ri a1 hop
  | 25, _, hop => have hop : (a1 &&& (31 : Int32)) = (25 : Int32) := hop; rw [e_X_instr25 v_x v_M v_d v_a v_o v_lo v_hi v_ri a1 hop]; exact k_X_instr25 l D cI sz yX yM yD yA yO yL yH yI v_x v_M v_d v_a v_o v_lo v_hi v_ri a1 hop
  | 26, _, hop => have hop : (a1 &&& (31 : Int32)) = (26 : Int32) := hop; rw [e_X_instr26 v_x v_M v_d v_a v_o v_lo v_hi v_ri a1 hop]; exact k_X_instr26 l D cI sz yX yM yD yA yO yL yH yI v_x v_M v_d v_a v_o v_lo v_hi v_ri a1 hop
  | 27, _, hop => have hop : (a1 &&& (31 : Int32)) = (27 : Int32) := hop; rw [e_X_instr27 v_x v_M v_d v_a v_o v_lo v_hi v_ri a1 hop]; exact k_X_instr27 l D cI sz yX yM yD yA yO yL yH yI v_x v_M v_d v_a v_o v_lo v_hi v_ri a1 hop
  | 28, _, hop => have hop : (a1 &&& (31 : Int32)) = (28 : Int32) := hop; rw [e_X_instr28 v_x v_M v_d v_a v_o v_lo v_hi v_ri a1 hop]; exact k_X_instr28 l D cI sz yX yM yD yA yO yL yH yI v_x v_M v_d v_a v_o v_lo v_hi v_ri a1 hop
  | 29, _, hop => have hop : (a1 &&& (31 : Int32)) = (29 : Int32) := hop; rw [e_X_instr29 v_x v_M v_d v_a v_o v_lo v_hi v_ri a1 hop]; exact k_X_instr29 l D cI sz yX yM yD yA yO yL yH yI v_x v_M v_d v_a v_o v_lo v_hi v_ri a1 hop
  | 30, _, hop => have hop : (a1 &&& (31 : Int32)) = (30 : Int32) := hop; rw [e_X_instr30 v_x v_M v_d v_a v_o v_lo v_hi v_ri a1 hop]; exact k_X_instr30 l D cI sz yX yM yD yA yO yL yH yI v_x v_M v_d v_a v_o v_lo v_hi v_ri a1 hop
  | 31, _, hop => have hop : (a1 &&& (31 : Int32)) = (31 : Int32) := hop; rw [e_X_instr31 v_x v_M v_d v_a v_o v_lo v_hi v_ri a1 hop]; exact k_X_instr31 l D cI sz yX yM yD yA yO yL yH yI v_x v_M v_d v_a v_o v_lo v_hi v_ri a1 hop
  | n + 32, hj, _ => exact absurd hj (by omega)
