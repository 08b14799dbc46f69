set_option maxHeartbeats 4000000 in
set_option maxRecDepth 100000 in
theorem k_X_mayR0 (l : Launch) (D : va_G) (cI : ClassId) (sz : Nat) (yX : Nat) (yM : Nat) (yD : Nat) (yA : Nat) (yO : Nat) (yL : Nat) (yH : Nat) (yI : Nat) (v_x : Nat → Int32) (v_M : Nat → Int32) (v_d : Nat → Int32) (v_a : Nat → Int32) (v_o : Nat → Int32) (v_lo : Nat → Int32) (v_hi : Nat → Int32) (v_ri : Nat → Int32) (a1 : Int32) (hs : v_x 2 = (0 : Int32)) : zMi l y_X_may (.code y_X_may b_X_may 6 (some .boolean) :: wd) { frames := 1, cells := 0, slots := 0, locals := 20 } D classes [(cI, .int)] [.ref yX, .int a1, .int (0 : Int32)] [oX yX yM yD yA yO yL yH yI v_x, ar cI yM 512 v_M, ar cI yD 8 v_d, ar cI yA 8 v_a, ar cI yO 4 v_o, ar cI yL 6 v_lo, ar cI yH 6 v_hi, ar cI yI 6 v_ri] [oX yX yM yD yA yO yL yH yI ((s_X_mayR0 v_x v_M v_d v_a v_o v_lo v_hi v_ri a1).2), ar cI yM 512 v_M, ar cI yD 8 v_d, ar cI yA 8 v_a, ar cI yO 4 v_o, ar cI yL 6 v_lo, ar cI yH 6 v_hi, ar cI yI 6 v_ri] sz (s_X_mayR0 v_x v_M v_d v_a v_o v_lo v_hi v_ri a1).1 := by
  refine met_i (by decide) (Nat.le_of_ble_eq_true rfl) (zz_nar (bo_X_mayR0 v_x v_M v_d v_a v_o v_lo v_hi v_ri a1)) ?_
  intro p e s m args below meth c A Q ls hx hb hml hown hts hK hP hD hS hA hl hE
  have hl : lv_has ls 6 [(0, .ref yX), (1, .int a1), (2, .int (0 : Int32))] := hl
  have hown : s.vm.findClass R_X = some m.cls := hown
  refine lv_iload_n hx hb d_X_may_0 rfl (lv_at hl 1 rfl) ?_
  have J1_2 : ∀ (vj1_0 : Int32) (ls : Array Slot) (H : Heap) (locs : List Loc), vj1_0 = (if a1 < 0 then (0 : Int32) else (if (512 : Int32) ≤ a1 then (0 : Int32) else (1 : Int32))) → lv_has ls 6 [(0, .ref yX), (1, .int a1), (2, .int (0 : Int32))] → va_P D classes [oX yX yM yD yA yO yL yH yI v_x, ar cI yM 512 v_M, ar cI yD 8 v_d, ar cI yA 8 v_a, ar cI yO 4 v_o, ar cI yL 6 v_lo, ar cI yH 6 v_hi, ar cI yI 6 v_ri] H → va_D A [oX yX yM yD yA yO yL yH yI v_x, ar cI yM 512 v_M, ar cI yD 8 v_d, ar cI yA 8 v_a, ar cI yO 4 v_o, ar cI yL 6 v_lo, ar cI yH 6 v_hi, ar cI yI 6 v_ri] → va_S A s.heap H locs → W p l e { frames := 1, cells := 0, slots := 0, locals := 20 } s m args below meth c H locs 0 0 Q (F0 m 16 ls [.int vj1_0]) := by
    intro vj1_0 ls H locs evj1_0 hl hP hD hS
    subst evj1_0
    refine lv_istore_n (lv' := [(3, .int (if a1 < 0 then (0 : Int32) else (if (512 : Int32) ≤ a1 then (0 : Int32) else (1 : Int32)))), (0, .ref yX), (1, .int a1), (2, .int (0 : Int32))]) hx hb d_X_may_16 rfl hl (by decide) rfl (fun ls hl => ?_)
    refine lv_aload_n hx hb d_X_may_17 rfl (lv_at hl 1 rfl) ?_
    refine zz_rVi (rest := []) ⟨hx, hb, hml, hown, hts⟩ (k_X_guarded l D cI _ yX yM yD yA yO yL yH yI v_x v_M v_d v_a v_o v_lo v_hi v_ri) g_X_may_X_guarded_94 nv_X_guarded ⟨⟨rfl, rfl⟩, Nat.le_of_ble_eq_true rfl, Nat.le_of_ble_eq_true rfl⟩ hK [0] rfl hP hD hS hA [0, 1, 2, 3, 4, 5, 6, 7] rfl rfl 0 6 rfl rfl rfl rfl hl.1 (Nat.le_of_ble_eq_true rfl) d_X_may_18 ⟨Nat.zero_le _, Nat.zero_le _⟩ (fun H locs hP hD hS => ?_)
    have J21_3 : ∀ (vj21_0 : Int32) (ls : Array Slot) (H : Heap) (locs : List Loc), vj21_0 = (if (s_X_guarded v_x v_M v_d v_a v_o v_lo v_hi v_ri) = 0 then (1 : Int32) else (0 : Int32)) → lv_has ls 6 [(3, .int (if a1 < 0 then (0 : Int32) else (if (512 : Int32) ≤ a1 then (0 : Int32) else (1 : Int32)))), (0, .ref yX), (1, .int a1), (2, .int (0 : Int32))] → va_P D classes [oX yX yM yD yA yO yL yH yI v_x, ar cI yM 512 v_M, ar cI yD 8 v_d, ar cI yA 8 v_a, ar cI yO 4 v_o, ar cI yL 6 v_lo, ar cI yH 6 v_hi, ar cI yI 6 v_ri] H → va_D A [oX yX yM yD yA yO yL yH yI v_x, ar cI yM 512 v_M, ar cI yD 8 v_d, ar cI yA 8 v_a, ar cI yO 4 v_o, ar cI yL 6 v_lo, ar cI yH 6 v_hi, ar cI yI 6 v_ri] → va_S A s.heap H locs → W p l e { frames := 1, cells := 0, slots := 0, locals := 20 } s m args below meth c H locs 0 0 Q (F0 m 29 ls [.int vj21_0]) := by
      intro vj21_0 ls H locs evj21_0 hl hP hD hS
      subst evj21_0
      refine lv_istore (lv' := [(4, .int (if (s_X_guarded v_x v_M v_d v_a v_o v_lo v_hi v_ri) = 0 then (1 : Int32) else (0 : Int32))), (3, .int (if a1 < 0 then (0 : Int32) else (if (512 : Int32) ≤ a1 then (0 : Int32) else (1 : Int32)))), (0, .ref yX), (1, .int a1), (2, .int (0 : Int32))]) hx hb d_X_may_29 hl (by decide) rfl (fun ls hl => ?_)
      refine lv_iconst (v := (3 : Int32)) hx hb d_X_may_31 (by decide) ?_
      refine lv_aload_n hx hb d_X_may_32 rfl (lv_at hl 2 rfl) ?_
      refine zz_get (C := R_X) (T := F_X) (N := 27) (v := .int (v_x 2)) hx hb hts in_X hown hK hP 0 rfl rfl 6 (by decide) mw_71 rfl d_X_may_33 ?_
      refine lv_topi (fun zz ez => ?_)
      obtain rfl : zz = (0 : Int32) := ez.trans hs
      refine lv_imul hx hb d_X_may_36 ?_
      refine lv_topi (fun zz ez => ?_)
      obtain rfl : zz = (0 : Int32) := ez.trans (by decide)
      refine lv_istore (lv' := [(5, .int (0 : Int32)), (4, .int (if (s_X_guarded v_x v_M v_d v_a v_o v_lo v_hi v_ri) = 0 then (1 : Int32) else (0 : Int32))), (3, .int (if a1 < 0 then (0 : Int32) else (if (512 : Int32) ≤ a1 then (0 : Int32) else (1 : Int32)))), (0, .ref yX), (1, .int a1), (2, .int (0 : Int32))]) hx hb d_X_may_37 hl (by decide) rfl (fun ls hl => ?_)
      refine lv_iload hx hb d_X_may_39 (lv_at hl 0 rfl) ?_
      refine lv_iconst (v := (3 : Int32)) hx hb d_X_may_41 (by decide) ?_
      refine lv_aload_n hx hb d_X_may_42 rfl (lv_at hl 3 rfl) ?_
      refine zz_get (C := R_X) (T := F_X) (N := 27) (v := .int (v_x 2)) hx hb hts in_X hown hK hP 0 rfl rfl 6 (by decide) mw_71 rfl d_X_may_43 ?_
      refine lv_topi (fun zz ez => ?_)
      obtain rfl : zz = (0 : Int32) := ez.trans hs
      refine lv_imul hx hb d_X_may_46 ?_
      refine lv_topi (fun zz ez => ?_)
      obtain rfl : zz = (0 : Int32) := ez.trans (by decide)
      show W p l e _ s m args below meth c _ _ _ _ Q (F0 m 47 ls _)
      refine lv_iconst (v := (2 : Int32)) hx hb d_X_may_47 (by decide) ?_
      refine lv_iadd hx hb d_X_may_48 ?_
      refine lv_topi (fun zz ez => ?_)
      obtain rfl : zz = (2 : Int32) := ez.trans (by decide)
      refine lv_icmp_ge (tgt := 112) hx hb d_X_may_49 (by decide) (fun hh => absurd hh (by decide)) (fun _ => ?_)
      refine lv_iload hx hb d_X_may_52 (lv_at hl 1 rfl) ?_
      have J54_7 : ∀ (vj54_0 : Int32) (ls : Array Slot) (H : Heap) (locs : List Loc), vj54_0 = (if (if (s_X_guarded v_x v_M v_d v_a v_o v_lo v_hi v_ri) = 0 then (1 : Int32) else (0 : Int32)) = 0 then (if a1 < (v_lo (ix (0 : Int32))) then (0 : Int32) else (if (v_hi (ix (0 : Int32))) ≤ a1 then (0 : Int32) else (if ((v_ri (ix (0 : Int32))) &&& (1 : Int32)) = 0 then (0 : Int32) else (1 : Int32)))) else (1 : Int32)) → lv_has ls 6 [(5, .int (0 : Int32)), (4, .int (if (s_X_guarded v_x v_M v_d v_a v_o v_lo v_hi v_ri) = 0 then (1 : Int32) else (0 : Int32))), (3, .int (if a1 < 0 then (0 : Int32) else (if (512 : Int32) ≤ a1 then (0 : Int32) else (1 : Int32)))), (0, .ref yX), (1, .int a1), (2, .int (0 : Int32))] → va_P D classes [oX yX yM yD yA yO yL yH yI v_x, ar cI yM 512 v_M, ar cI yD 8 v_d, ar cI yA 8 v_a, ar cI yO 4 v_o, ar cI yL 6 v_lo, ar cI yH 6 v_hi, ar cI yI 6 v_ri] H → va_D A [oX yX yM yD yA yO yL yH yI v_x, ar cI yM 512 v_M, ar cI yD 8 v_d, ar cI yA 8 v_a, ar cI yO 4 v_o, ar cI yL 6 v_lo, ar cI yH 6 v_hi, ar cI yI 6 v_ri] → va_S A s.heap H locs → W p l e { frames := 1, cells := 0, slots := 0, locals := 20 } s m args below meth c H locs 0 0 Q (F0 m 104 ls [.int vj54_0]) := by
        intro vj54_0 ls H locs evj54_0 hl hP hD hS
        subst evj54_0
        refine lv_istore (lv' := [(4, .int (if (if (s_X_guarded v_x v_M v_d v_a v_o v_lo v_hi v_ri) = 0 then (1 : Int32) else (0 : Int32)) = 0 then (if a1 < (v_lo (ix (0 : Int32))) then (0 : Int32) else (if (v_hi (ix (0 : Int32))) ≤ a1 then (0 : Int32) else (if ((v_ri (ix (0 : Int32))) &&& (1 : Int32)) = 0 then (0 : Int32) else (1 : Int32)))) else (1 : Int32))), (5, .int (0 : Int32)), (3, .int (if a1 < 0 then (0 : Int32) else (if (512 : Int32) ≤ a1 then (0 : Int32) else (1 : Int32)))), (0, .ref yX), (1, .int a1), (2, .int (0 : Int32))]) hx hb d_X_may_104 hl (by decide) rfl (fun ls hl => ?_)
        refine lv_iinc (v := (1 : Int32)) (lv' := [(5, .int (1 : Int32)), (4, .int (if (if (s_X_guarded v_x v_M v_d v_a v_o v_lo v_hi v_ri) = 0 then (1 : Int32) else (0 : Int32)) = 0 then (if a1 < (v_lo (ix (0 : Int32))) then (0 : Int32) else (if (v_hi (ix (0 : Int32))) ≤ a1 then (0 : Int32) else (if ((v_ri (ix (0 : Int32))) &&& (1 : Int32)) = 0 then (0 : Int32) else (1 : Int32)))) else (1 : Int32))), (3, .int (if a1 < 0 then (0 : Int32) else (if (512 : Int32) ≤ a1 then (0 : Int32) else (1 : Int32)))), (0, .ref yX), (1, .int a1), (2, .int (0 : Int32))]) (k := 1) hx hb d_X_may_106 hl rfl (by decide) (by decide) rfl (fun ls hl => ?_)
        refine lv_goto (tgt := 39) hx hb d_X_may_109 (by decide) ?_
        refine lv_iload hx hb d_X_may_39 (lv_at hl 0 rfl) ?_
        refine lv_iconst (v := (3 : Int32)) hx hb d_X_may_41 (by decide) ?_
        refine lv_aload_n hx hb d_X_may_42 rfl (lv_at hl 3 rfl) ?_
        refine zz_get (C := R_X) (T := F_X) (N := 27) (v := .int (v_x 2)) hx hb hts in_X hown hK hP 0 rfl rfl 6 (by decide) mw_71 rfl d_X_may_43 ?_
        refine lv_topi (fun zz ez => ?_)
        obtain rfl : zz = (0 : Int32) := ez.trans hs
        refine lv_imul hx hb d_X_may_46 ?_
        refine lv_topi (fun zz ez => ?_)
        obtain rfl : zz = (0 : Int32) := ez.trans (by decide)
        refine lv_iconst (v := (2 : Int32)) hx hb d_X_may_47 (by decide) ?_
        refine lv_iadd hx hb d_X_may_48 ?_
        refine lv_topi (fun zz ez => ?_)
        obtain rfl : zz = (2 : Int32) := ez.trans (by decide)
        refine lv_icmp_ge (tgt := 112) hx hb d_X_may_49 (by decide) (fun hh => absurd hh (by decide)) (fun _ => ?_)
        refine lv_iload hx hb d_X_may_52 (lv_at hl 1 rfl) ?_
        have J54_11 : ∀ (vj54_0 : Int32) (ls : Array Slot) (H : Heap) (locs : List Loc), vj54_0 = (if (if (if (s_X_guarded v_x v_M v_d v_a v_o v_lo v_hi v_ri) = 0 then (1 : Int32) else (0 : Int32)) = 0 then (if a1 < (v_lo (ix (0 : Int32))) then (0 : Int32) else (if (v_hi (ix (0 : Int32))) ≤ a1 then (0 : Int32) else (if ((v_ri (ix (0 : Int32))) &&& (1 : Int32)) = 0 then (0 : Int32) else (1 : Int32)))) else (1 : Int32)) = 0 then (if a1 < (v_lo (ix (1 : Int32))) then (0 : Int32) else (if (v_hi (ix (1 : Int32))) ≤ a1 then (0 : Int32) else (if ((v_ri (ix (1 : Int32))) &&& (1 : Int32)) = 0 then (0 : Int32) else (1 : Int32)))) else (1 : Int32)) → lv_has ls 6 [(5, .int (1 : Int32)), (4, .int (if (if (s_X_guarded v_x v_M v_d v_a v_o v_lo v_hi v_ri) = 0 then (1 : Int32) else (0 : Int32)) = 0 then (if a1 < (v_lo (ix (0 : Int32))) then (0 : Int32) else (if (v_hi (ix (0 : Int32))) ≤ a1 then (0 : Int32) else (if ((v_ri (ix (0 : Int32))) &&& (1 : Int32)) = 0 then (0 : Int32) else (1 : Int32)))) else (1 : Int32))), (3, .int (if a1 < 0 then (0 : Int32) else (if (512 : Int32) ≤ a1 then (0 : Int32) else (1 : Int32)))), (0, .ref yX), (1, .int a1), (2, .int (0 : Int32))] → va_P D classes [oX yX yM yD yA yO yL yH yI v_x, ar cI yM 512 v_M, ar cI yD 8 v_d, ar cI yA 8 v_a, ar cI yO 4 v_o, ar cI yL 6 v_lo, ar cI yH 6 v_hi, ar cI yI 6 v_ri] H → va_D A [oX yX yM yD yA yO yL yH yI v_x, ar cI yM 512 v_M, ar cI yD 8 v_d, ar cI yA 8 v_a, ar cI yO 4 v_o, ar cI yL 6 v_lo, ar cI yH 6 v_hi, ar cI yI 6 v_ri] → va_S A s.heap H locs → W p l e { frames := 1, cells := 0, slots := 0, locals := 20 } s m args below meth c H locs 0 0 Q (F0 m 104 ls [.int vj54_0]) := by
          intro vj54_0 ls H locs evj54_0 hl hP hD hS
          subst evj54_0
          refine lv_istore (lv' := [(4, .int (if (if (if (s_X_guarded v_x v_M v_d v_a v_o v_lo v_hi v_ri) = 0 then (1 : Int32) else (0 : Int32)) = 0 then (if a1 < (v_lo (ix (0 : Int32))) then (0 : Int32) else (if (v_hi (ix (0 : Int32))) ≤ a1 then (0 : Int32) else (if ((v_ri (ix (0 : Int32))) &&& (1 : Int32)) = 0 then (0 : Int32) else (1 : Int32)))) else (1 : Int32)) = 0 then (if a1 < (v_lo (ix (1 : Int32))) then (0 : Int32) else (if (v_hi (ix (1 : Int32))) ≤ a1 then (0 : Int32) else (if ((v_ri (ix (1 : Int32))) &&& (1 : Int32)) = 0 then (0 : Int32) else (1 : Int32)))) else (1 : Int32))), (5, .int (1 : Int32)), (3, .int (if a1 < 0 then (0 : Int32) else (if (512 : Int32) ≤ a1 then (0 : Int32) else (1 : Int32)))), (0, .ref yX), (1, .int a1), (2, .int (0 : Int32))]) hx hb d_X_may_104 hl (by decide) rfl (fun ls hl => ?_)
          refine lv_iinc (v := (2 : Int32)) (lv' := [(5, .int (2 : Int32)), (4, .int (if (if (if (s_X_guarded v_x v_M v_d v_a v_o v_lo v_hi v_ri) = 0 then (1 : Int32) else (0 : Int32)) = 0 then (if a1 < (v_lo (ix (0 : Int32))) then (0 : Int32) else (if (v_hi (ix (0 : Int32))) ≤ a1 then (0 : Int32) else (if ((v_ri (ix (0 : Int32))) &&& (1 : Int32)) = 0 then (0 : Int32) else (1 : Int32)))) else (1 : Int32)) = 0 then (if a1 < (v_lo (ix (1 : Int32))) then (0 : Int32) else (if (v_hi (ix (1 : Int32))) ≤ a1 then (0 : Int32) else (if ((v_ri (ix (1 : Int32))) &&& (1 : Int32)) = 0 then (0 : Int32) else (1 : Int32)))) else (1 : Int32))), (3, .int (if a1 < 0 then (0 : Int32) else (if (512 : Int32) ≤ a1 then (0 : Int32) else (1 : Int32)))), (0, .ref yX), (1, .int a1), (2, .int (0 : Int32))]) (k := 1) hx hb d_X_may_106 hl rfl (by decide) (by decide) rfl (fun ls hl => ?_)
          refine lv_goto (tgt := 39) hx hb d_X_may_109 (by decide) ?_
          refine lv_iload hx hb d_X_may_39 (lv_at hl 0 rfl) ?_
          refine lv_iconst (v := (3 : Int32)) hx hb d_X_may_41 (by decide) ?_
          refine lv_aload_n hx hb d_X_may_42 rfl (lv_at hl 3 rfl) ?_
          refine zz_get (C := R_X) (T := F_X) (N := 27) (v := .int (v_x 2)) hx hb hts in_X hown hK hP 0 rfl rfl 6 (by decide) mw_71 rfl d_X_may_43 ?_
          refine lv_topi (fun zz ez => ?_)
          obtain rfl : zz = (0 : Int32) := ez.trans hs
          refine lv_imul hx hb d_X_may_46 ?_
          refine lv_topi (fun zz ez => ?_)
          obtain rfl : zz = (0 : Int32) := ez.trans (by decide)
          refine lv_iconst (v := (2 : Int32)) hx hb d_X_may_47 (by decide) ?_
          refine lv_iadd hx hb d_X_may_48 ?_
          refine lv_topi (fun zz ez => ?_)
          obtain rfl : zz = (2 : Int32) := ez.trans (by decide)
          refine lv_icmp_ge (tgt := 112) hx hb d_X_may_49 (by decide) (fun _ => ?_) (fun hh => absurd hh (by decide))
          refine lv_aload_n hx hb d_X_may_112 rfl (lv_at hl 3 rfl) ?_
          refine lv_iload_n hx hb d_X_may_113 rfl (lv_at hl 2 rfl) ?_
          have J114_13 : ∀ (vj114_0 : Int32) (ls : Array Slot) (H : Heap) (locs : List Loc), vj114_0 = (if (if a1 < 0 then (0 : Int32) else (if (512 : Int32) ≤ a1 then (0 : Int32) else (1 : Int32))) = 0 then (1025 : Int32) else (if (if (if (if (s_X_guarded v_x v_M v_d v_a v_o v_lo v_hi v_ri) = 0 then (1 : Int32) else (0 : Int32)) = 0 then (if a1 < (v_lo (ix (0 : Int32))) then (0 : Int32) else (if (v_hi (ix (0 : Int32))) ≤ a1 then (0 : Int32) else (if ((v_ri (ix (0 : Int32))) &&& (1 : Int32)) = 0 then (0 : Int32) else (1 : Int32)))) else (1 : Int32)) = 0 then (if a1 < (v_lo (ix (1 : Int32))) then (0 : Int32) else (if (v_hi (ix (1 : Int32))) ≤ a1 then (0 : Int32) else (if ((v_ri (ix (1 : Int32))) &&& (1 : Int32)) = 0 then (0 : Int32) else (1 : Int32)))) else (1 : Int32)) = 0 then (258 : Int32) else (v_x 19))) → lv_has ls 6 [(5, .int (2 : Int32)), (4, .int (if (if (if (s_X_guarded v_x v_M v_d v_a v_o v_lo v_hi v_ri) = 0 then (1 : Int32) else (0 : Int32)) = 0 then (if a1 < (v_lo (ix (0 : Int32))) then (0 : Int32) else (if (v_hi (ix (0 : Int32))) ≤ a1 then (0 : Int32) else (if ((v_ri (ix (0 : Int32))) &&& (1 : Int32)) = 0 then (0 : Int32) else (1 : Int32)))) else (1 : Int32)) = 0 then (if a1 < (v_lo (ix (1 : Int32))) then (0 : Int32) else (if (v_hi (ix (1 : Int32))) ≤ a1 then (0 : Int32) else (if ((v_ri (ix (1 : Int32))) &&& (1 : Int32)) = 0 then (0 : Int32) else (1 : Int32)))) else (1 : Int32))), (3, .int (if a1 < 0 then (0 : Int32) else (if (512 : Int32) ≤ a1 then (0 : Int32) else (1 : Int32)))), (0, .ref yX), (1, .int a1), (2, .int (0 : Int32))] → va_P D classes [oX yX yM yD yA yO yL yH yI v_x, ar cI yM 512 v_M, ar cI yD 8 v_d, ar cI yA 8 v_a, ar cI yO 4 v_o, ar cI yL 6 v_lo, ar cI yH 6 v_hi, ar cI yI 6 v_ri] H → va_D A [oX yX yM yD yA yO yL yH yI v_x, ar cI yM 512 v_M, ar cI yD 8 v_d, ar cI yA 8 v_a, ar cI yO 4 v_o, ar cI yL 6 v_lo, ar cI yH 6 v_hi, ar cI yI 6 v_ri] → va_S A s.heap H locs → W p l e { frames := 1, cells := 0, slots := 0, locals := 20 } s m args below meth c H locs 0 0 Q (F0 m 148 ls [.int vj114_0, .ref yX]) := by
            intro vj114_0 ls H locs evj114_0 hl hP hD hS
            subst evj114_0
            refine zz_put (C := R_X) (T := F_X) (N := 27) (w' := [oX yX yM yD yA yO yL yH yI (upd v_x 19 (if (if a1 < 0 then (0 : Int32) else (if (512 : Int32) ≤ a1 then (0 : Int32) else (1 : Int32))) = 0 then (1025 : Int32) else (if (if (if (if (s_X_guarded v_x v_M v_d v_a v_o v_lo v_hi v_ri) = 0 then (1 : Int32) else (0 : Int32)) = 0 then (if a1 < (v_lo (ix (0 : Int32))) then (0 : Int32) else (if (v_hi (ix (0 : Int32))) ≤ a1 then (0 : Int32) else (if ((v_ri (ix (0 : Int32))) &&& (1 : Int32)) = 0 then (0 : Int32) else (1 : Int32)))) else (1 : Int32)) = 0 then (if a1 < (v_lo (ix (1 : Int32))) then (0 : Int32) else (if (v_hi (ix (1 : Int32))) ≤ a1 then (0 : Int32) else (if ((v_ri (ix (1 : Int32))) &&& (1 : Int32)) = 0 then (0 : Int32) else (1 : Int32)))) else (1 : Int32)) = 0 then (258 : Int32) else (v_x 19)))), ar cI yM 512 v_M, ar cI yD 8 v_d, ar cI yA 8 v_a, ar cI yO 4 v_o, ar cI yL 6 v_lo, ar cI yH 6 v_hi, ar cI yI 6 v_ri]) hx hb hts in_X ty_X ty_X_ok n_X hown hK hP hD hS 0 rfl rfl 26 (by decide) mw_79 rfl rfl rfl (Nat.le_of_ble_eq_true rfl) d_X_may_148 rfl (fun H locs hP hD hS => ?_)
            refine lv_iload_n hx hb d_X_may_151 rfl (lv_at hl 2 rfl) ?_
            refine lv_if_eq (tgt := 164) hx hb d_X_may_152 (by decide) (fun h14 => ?_) (fun h14 => ?_)
            ·
              refine lv_iconst (v := (0 : Int32)) hx hb d_X_may_164 (by decide) ?_
              have hsp : s_X_mayR0 v_x v_M v_d v_a v_o v_lo v_hi v_ri a1 = ((0 : Int32), upd v_x 19 (if (if a1 < 0 then (0 : Int32) else (if (512 : Int32) ≤ a1 then (0 : Int32) else (1 : Int32))) = 0 then (1025 : Int32) else (if (if (if (if (s_X_guarded v_x v_M v_d v_a v_o v_lo v_hi v_ri) = 0 then (1 : Int32) else (0 : Int32)) = 0 then (if a1 < (v_lo (ix (0 : Int32))) then (0 : Int32) else (if (v_hi (ix (0 : Int32))) ≤ a1 then (0 : Int32) else (if ((v_ri (ix (0 : Int32))) &&& (1 : Int32)) = 0 then (0 : Int32) else (1 : Int32)))) else (1 : Int32)) = 0 then (if a1 < (v_lo (ix (1 : Int32))) then (0 : Int32) else (if (v_hi (ix (1 : Int32))) ≤ a1 then (0 : Int32) else (if ((v_ri (ix (1 : Int32))) &&& (1 : Int32)) = 0 then (0 : Int32) else (1 : Int32)))) else (1 : Int32)) = 0 then (258 : Int32) else (v_x 19)))) := (by unfold s_X_mayR0; rw [if_pos h14])
              rw [hsp] at hE
              exact hE _ _ _ _ hP hD hS d_X_may_165
            ·
              refine lv_iload hx hb d_X_may_155 (lv_at hl 1 rfl) ?_
              refine lv_if_eq (tgt := 164) hx hb d_X_may_157 (by decide) (fun h15 => ?_) (fun h15 => ?_)
              ·
                refine lv_iconst (v := (0 : Int32)) hx hb d_X_may_164 (by decide) ?_
                have hsp : s_X_mayR0 v_x v_M v_d v_a v_o v_lo v_hi v_ri a1 = ((0 : Int32), upd v_x 19 (if (if a1 < 0 then (0 : Int32) else (if (512 : Int32) ≤ a1 then (0 : Int32) else (1 : Int32))) = 0 then (1025 : Int32) else (if (if (if (if (s_X_guarded v_x v_M v_d v_a v_o v_lo v_hi v_ri) = 0 then (1 : Int32) else (0 : Int32)) = 0 then (if a1 < (v_lo (ix (0 : Int32))) then (0 : Int32) else (if (v_hi (ix (0 : Int32))) ≤ a1 then (0 : Int32) else (if ((v_ri (ix (0 : Int32))) &&& (1 : Int32)) = 0 then (0 : Int32) else (1 : Int32)))) else (1 : Int32)) = 0 then (if a1 < (v_lo (ix (1 : Int32))) then (0 : Int32) else (if (v_hi (ix (1 : Int32))) ≤ a1 then (0 : Int32) else (if ((v_ri (ix (1 : Int32))) &&& (1 : Int32)) = 0 then (0 : Int32) else (1 : Int32)))) else (1 : Int32)) = 0 then (258 : Int32) else (v_x 19)))) := (by unfold s_X_mayR0; rw [if_neg h14, if_pos h15])
                rw [hsp] at hE
                exact hE _ _ _ _ hP hD hS d_X_may_165
              ·
                refine lv_iconst (v := (1 : Int32)) hx hb d_X_may_160 (by decide) ?_
                refine lv_goto (tgt := 165) hx hb d_X_may_161 (by decide) ?_
                have hsp : s_X_mayR0 v_x v_M v_d v_a v_o v_lo v_hi v_ri a1 = ((1 : Int32), upd v_x 19 (if (if a1 < 0 then (0 : Int32) else (if (512 : Int32) ≤ a1 then (0 : Int32) else (1 : Int32))) = 0 then (1025 : Int32) else (if (if (if (if (s_X_guarded v_x v_M v_d v_a v_o v_lo v_hi v_ri) = 0 then (1 : Int32) else (0 : Int32)) = 0 then (if a1 < (v_lo (ix (0 : Int32))) then (0 : Int32) else (if (v_hi (ix (0 : Int32))) ≤ a1 then (0 : Int32) else (if ((v_ri (ix (0 : Int32))) &&& (1 : Int32)) = 0 then (0 : Int32) else (1 : Int32)))) else (1 : Int32)) = 0 then (if a1 < (v_lo (ix (1 : Int32))) then (0 : Int32) else (if (v_hi (ix (1 : Int32))) ≤ a1 then (0 : Int32) else (if ((v_ri (ix (1 : Int32))) &&& (1 : Int32)) = 0 then (0 : Int32) else (1 : Int32)))) else (1 : Int32)) = 0 then (258 : Int32) else (v_x 19)))) := (by unfold s_X_mayR0; rw [if_neg h14, if_neg h15])
                rw [hsp] at hE
                exact hE _ _ _ _ hP hD hS d_X_may_165
          refine lv_if_ne (tgt := 123) hx hb d_X_may_114 (by decide) (fun h12 => ?_) (fun h12 => ?_)
          ·
            refine lv_iload hx hb d_X_may_123 (lv_at hl 1 rfl) ?_
            refine lv_if_ne (tgt := 144) hx hb d_X_may_125 (by decide) (fun h13 => ?_) (fun h13 => ?_)
            ·
              refine lv_aload_n hx hb d_X_may_144 rfl (lv_at hl 3 rfl) ?_
              refine zz_get (C := R_X) (T := F_X) (N := 27) (v := .int (v_x 19)) hx hb hts in_X hown hK hP 0 rfl rfl 26 (by decide) mw_79 rfl d_X_may_145 ?_
              exact J114_13 (v_x 19) _ _ _ (by rw [if_neg h12, if_neg h13]) (lv_sub hl [0, 1, 2, 3, 4, 5] rfl) hP hD hS
            ·
              refine lv_iload_n hx hb d_X_may_128 rfl (lv_at hl 5 rfl) ?_
              refine lv_if_eq (tgt := 138) hx hb d_X_may_129 (by decide) (fun _ => ?_) (fun hh => absurd hh (by decide))
              refine lv_sipush (v := (258 : Int32)) hx hb d_X_may_138 (by decide) ?_
              refine lv_goto (tgt := 148) hx hb d_X_may_141 (by decide) ?_
              exact J114_13 (258 : Int32) _ _ _ (by rw [if_neg h12, if_pos h13]) (lv_sub hl [0, 1, 2, 3, 4, 5] rfl) hP hD hS
          ·
            refine lv_sipush (v := (1025 : Int32)) hx hb d_X_may_117 (by decide) ?_
            refine lv_goto (tgt := 148) hx hb d_X_may_120 (by decide) ?_
            exact J114_13 (1025 : Int32) _ _ _ (by rw [if_pos h12]) (lv_sub hl [0, 1, 2, 3, 4, 5] rfl) hP hD hS
        refine lv_if_ne (tgt := 99) hx hb d_X_may_54 (by decide) (fun h8 => ?_) (fun h8 => ?_)
        ·
          refine lv_iconst (v := (1 : Int32)) hx hb d_X_may_99 (by decide) ?_
          refine lv_goto (tgt := 104) hx hb d_X_may_100 (by decide) ?_
          exact J54_11 (1 : Int32) _ _ _ (by rw [if_neg h8]) (lv_sub hl [0, 1, 2, 3, 4, 5] rfl) hP hD hS
        ·
          refine lv_iload_n hx hb d_X_may_57 rfl (lv_at hl 4 rfl) ?_
          refine lv_aload_n hx hb d_X_may_58 rfl (lv_at hl 3 rfl) ?_
          refine zz_get (C := R_X) (T := F_X) (N := 27) (v := .ref yL) hx hb hts in_X hown hK hP 0 rfl rfl 18 (by decide) mw_85 rfl d_X_may_59 ?_
          refine lv_iload hx hb d_X_may_62 (lv_at hl 0 rfl) ?_
          refine va_iald hx hb hK hP 5 0 rfl rfl (zz_inc (by decide)) d_X_may_64 ?_
          refine lv_icmp_lt (tgt := 103) hx hb d_X_may_65 (by decide) (fun h9 => ?_) (fun h9 => ?_)
          ·
            refine lv_iconst (v := (0 : Int32)) hx hb d_X_may_103 (by decide) ?_
            exact J54_11 (0 : Int32) _ _ _ (by rw [if_pos h8, if_pos h9]) (lv_sub hl [0, 1, 2, 3, 4, 5] rfl) hP hD hS
          ·
            refine lv_iload_n hx hb d_X_may_68 rfl (lv_at hl 4 rfl) ?_
            refine lv_aload_n hx hb d_X_may_69 rfl (lv_at hl 3 rfl) ?_
            refine zz_get (C := R_X) (T := F_X) (N := 27) (v := .ref yH) hx hb hts in_X hown hK hP 0 rfl rfl 19 (by decide) mw_86 rfl d_X_may_70 ?_
            refine lv_iload hx hb d_X_may_73 (lv_at hl 0 rfl) ?_
            refine va_iald hx hb hK hP 6 0 rfl rfl (zz_inc (by decide)) d_X_may_75 ?_
            refine lv_icmp_ge (tgt := 103) hx hb d_X_may_76 (by decide) (fun h10 => ?_) (fun h10 => ?_)
            ·
              refine lv_iconst (v := (0 : Int32)) hx hb d_X_may_103 (by decide) ?_
              exact J54_11 (0 : Int32) _ _ _ (by rw [if_pos h8, if_neg h9, if_pos h10]) (lv_sub hl [0, 1, 2, 3, 4, 5] rfl) hP hD hS
            ·
              refine lv_aload_n hx hb d_X_may_79 rfl (lv_at hl 3 rfl) ?_
              refine zz_get (C := R_X) (T := F_X) (N := 27) (v := .ref yI) hx hb hts in_X hown hK hP 0 rfl rfl 20 (by decide) mw_87 rfl d_X_may_80 ?_
              refine lv_iload hx hb d_X_may_83 (lv_at hl 0 rfl) ?_
              refine va_iald hx hb hK hP 7 0 rfl rfl (zz_inc (by decide)) d_X_may_85 ?_
              refine lv_iload_n hx hb d_X_may_86 rfl (lv_at hl 5 rfl) ?_
              refine lv_if_eq (tgt := 94) hx hb d_X_may_87 (by decide) (fun _ => ?_) (fun hh => absurd hh (by decide))
              refine lv_iconst (v := (1 : Int32)) hx hb d_X_may_94 (by decide) ?_
              refine lv_iand hx hb d_X_may_95 ?_
              refine lv_if_eq (tgt := 103) hx hb d_X_may_96 (by decide) (fun h11 => ?_) (fun h11 => ?_)
              ·
                refine lv_iconst (v := (0 : Int32)) hx hb d_X_may_103 (by decide) ?_
                exact J54_11 (0 : Int32) _ _ _ (by rw [if_pos h8, if_neg h9, if_neg h10, if_pos h11]) (lv_sub hl [0, 1, 2, 3, 4, 5] rfl) hP hD hS
              ·
                refine lv_iconst (v := (1 : Int32)) hx hb d_X_may_99 (by decide) ?_
                refine lv_goto (tgt := 104) hx hb d_X_may_100 (by decide) ?_
                exact J54_11 (1 : Int32) _ _ _ (by rw [if_pos h8, if_neg h9, if_neg h10, if_neg h11]) (lv_sub hl [0, 1, 2, 3, 4, 5] rfl) hP hD hS
      refine lv_if_ne (tgt := 99) hx hb d_X_may_54 (by decide) (fun h4 => ?_) (fun h4 => ?_)
      ·
        refine lv_iconst (v := (1 : Int32)) hx hb d_X_may_99 (by decide) ?_
        refine lv_goto (tgt := 104) hx hb d_X_may_100 (by decide) ?_
        exact J54_7 (1 : Int32) _ _ _ (by rw [if_neg h4]) (lv_sub hl [0, 1, 2, 3, 4, 5] rfl) hP hD hS
      ·
        refine lv_iload_n hx hb d_X_may_57 rfl (lv_at hl 4 rfl) ?_
        refine lv_aload_n hx hb d_X_may_58 rfl (lv_at hl 3 rfl) ?_
        refine zz_get (C := R_X) (T := F_X) (N := 27) (v := .ref yL) hx hb hts in_X hown hK hP 0 rfl rfl 18 (by decide) mw_85 rfl d_X_may_59 ?_
        refine lv_iload hx hb d_X_may_62 (lv_at hl 0 rfl) ?_
        refine va_iald hx hb hK hP 5 0 rfl rfl (zz_inc (by decide)) d_X_may_64 ?_
        refine lv_icmp_lt (tgt := 103) hx hb d_X_may_65 (by decide) (fun h5 => ?_) (fun h5 => ?_)
        ·
          refine lv_iconst (v := (0 : Int32)) hx hb d_X_may_103 (by decide) ?_
          exact J54_7 (0 : Int32) _ _ _ (by rw [if_pos h4, if_pos h5]) (lv_sub hl [0, 1, 2, 3, 4, 5] rfl) hP hD hS
        ·
          refine lv_iload_n hx hb d_X_may_68 rfl (lv_at hl 4 rfl) ?_
          refine lv_aload_n hx hb d_X_may_69 rfl (lv_at hl 3 rfl) ?_
          refine zz_get (C := R_X) (T := F_X) (N := 27) (v := .ref yH) hx hb hts in_X hown hK hP 0 rfl rfl 19 (by decide) mw_86 rfl d_X_may_70 ?_
          refine lv_iload hx hb d_X_may_73 (lv_at hl 0 rfl) ?_
          refine va_iald hx hb hK hP 6 0 rfl rfl (zz_inc (by decide)) d_X_may_75 ?_
          refine lv_icmp_ge (tgt := 103) hx hb d_X_may_76 (by decide) (fun h6 => ?_) (fun h6 => ?_)
          ·
            refine lv_iconst (v := (0 : Int32)) hx hb d_X_may_103 (by decide) ?_
            exact J54_7 (0 : Int32) _ _ _ (by rw [if_pos h4, if_neg h5, if_pos h6]) (lv_sub hl [0, 1, 2, 3, 4, 5] rfl) hP hD hS
          ·
            refine lv_aload_n hx hb d_X_may_79 rfl (lv_at hl 3 rfl) ?_
            refine zz_get (C := R_X) (T := F_X) (N := 27) (v := .ref yI) hx hb hts in_X hown hK hP 0 rfl rfl 20 (by decide) mw_87 rfl d_X_may_80 ?_
            refine lv_iload hx hb d_X_may_83 (lv_at hl 0 rfl) ?_
            refine va_iald hx hb hK hP 7 0 rfl rfl (zz_inc (by decide)) d_X_may_85 ?_
            refine lv_iload_n hx hb d_X_may_86 rfl (lv_at hl 5 rfl) ?_
            refine lv_if_eq (tgt := 94) hx hb d_X_may_87 (by decide) (fun _ => ?_) (fun hh => absurd hh (by decide))
            refine lv_iconst (v := (1 : Int32)) hx hb d_X_may_94 (by decide) ?_
            refine lv_iand hx hb d_X_may_95 ?_
            refine lv_if_eq (tgt := 103) hx hb d_X_may_96 (by decide) (fun h7 => ?_) (fun h7 => ?_)
            ·
              refine lv_iconst (v := (0 : Int32)) hx hb d_X_may_103 (by decide) ?_
              exact J54_7 (0 : Int32) _ _ _ (by rw [if_pos h4, if_neg h5, if_neg h6, if_pos h7]) (lv_sub hl [0, 1, 2, 3, 4, 5] rfl) hP hD hS
            ·
              refine lv_iconst (v := (1 : Int32)) hx hb d_X_may_99 (by decide) ?_
              refine lv_goto (tgt := 104) hx hb d_X_may_100 (by decide) ?_
              exact J54_7 (1 : Int32) _ _ _ (by rw [if_pos h4, if_neg h5, if_neg h6, if_neg h7]) (lv_sub hl [0, 1, 2, 3, 4, 5] rfl) hP hD hS
    refine lv_if_ne (tgt := 28) hx hb d_X_may_21 (by decide) (fun h3 => ?_) (fun h3 => ?_)
    ·
      refine lv_iconst (v := (0 : Int32)) hx hb d_X_may_28 (by decide) ?_
      exact J21_3 (0 : Int32) _ _ _ (by rw [if_neg h3]) (lv_sub hl [0, 1, 2, 3] rfl) hP hD hS
    ·
      refine lv_iconst (v := (1 : Int32)) hx hb d_X_may_24 (by decide) ?_
      refine lv_goto (tgt := 29) hx hb d_X_may_25 (by decide) ?_
      exact J21_3 (1 : Int32) _ _ _ (by rw [if_pos h3]) (lv_sub hl [0, 1, 2, 3] rfl) hP hD hS
  refine lv_if_lt (tgt := 15) hx hb d_X_may_1 (by decide) (fun h1 => ?_) (fun h1 => ?_)
  ·
    refine lv_iconst (v := (0 : Int32)) hx hb d_X_may_15 (by decide) ?_
    exact J1_2 (0 : Int32) _ _ _ (by rw [if_pos h1]) (lv_sub hl [0, 1, 2] rfl) hP hD hS
  ·
    refine lv_iload_n hx hb d_X_may_4 rfl (lv_at hl 1 rfl) ?_
    refine lv_sipush (v := (512 : Int32)) hx hb d_X_may_5 (by decide) ?_
    refine lv_icmp_ge (tgt := 15) hx hb d_X_may_8 (by decide) (fun h2 => ?_) (fun h2 => ?_)
    ·
      refine lv_iconst (v := (0 : Int32)) hx hb d_X_may_15 (by decide) ?_
      exact J1_2 (0 : Int32) _ _ _ (by rw [if_neg h1, if_pos h2]) (lv_sub hl [0, 1, 2] rfl) hP hD hS
    ·
      refine lv_iconst (v := (1 : Int32)) hx hb d_X_may_11 (by decide) ?_
      refine lv_goto (tgt := 16) hx hb d_X_may_12 (by decide) ?_
      exact J1_2 (1 : Int32) _ _ _ (by rw [if_neg h1, if_neg h2]) (lv_sub hl [0, 1, 2] rfl) hP hD hS
set_option maxHeartbeats 4000000 in
set_option maxRecDepth 100000 in
theorem k_X_mayR1 (l : Launch) (D : va_G) (cI : ClassId) (sz : Nat) (yX : Nat) (yM : Nat) (yD : Nat) (yA : Nat) (yO : Nat) (yL : Nat) (yH : Nat) (yI : Nat) (v_x : Nat → Int32) (v_M : Nat → Int32) (v_d : Nat → Int32) (v_a : Nat → Int32) (v_o : Nat → Int32) (v_lo : Nat → Int32) (v_hi : Nat → Int32) (v_ri : Nat → Int32) (a1 : Int32) (hs : v_x 2 = (1 : Int32)) : zMi l y_X_may (.code y_X_may b_X_may 6 (some .boolean) :: wd) { frames := 1, cells := 0, slots := 0, locals := 20 } D classes [(cI, .int)] [.ref yX, .int a1, .int (0 : Int32)] [oX yX yM yD yA yO yL yH yI v_x, ar cI yM 512 v_M, ar cI yD 8 v_d, ar cI yA 8 v_a, ar cI yO 4 v_o, ar cI yL 6 v_lo, ar cI yH 6 v_hi, ar cI yI 6 v_ri] [oX yX yM yD yA yO yL yH yI ((s_X_mayR1 v_x v_M v_d v_a v_o v_lo v_hi v_ri a1).2), ar cI yM 512 v_M, ar cI yD 8 v_d, ar cI yA 8 v_a, ar cI yO 4 v_o, ar cI yL 6 v_lo, ar cI yH 6 v_hi, ar cI yI 6 v_ri] sz (s_X_mayR1 v_x v_M v_d v_a v_o v_lo v_hi v_ri a1).1 := by
  refine met_i (by decide) (Nat.le_of_ble_eq_true rfl) (zz_nar (bo_X_mayR1 v_x v_M v_d v_a v_o v_lo v_hi v_ri a1)) ?_
  intro p e s m args below meth c A Q ls hx hb hml hown hts hK hP hD hS hA hl hE
  have hl : lv_has ls 6 [(0, .ref yX), (1, .int a1), (2, .int (0 : Int32))] := hl
  have hown : s.vm.findClass R_X = some m.cls := hown
  refine lv_iload_n hx hb d_X_may_0 rfl (lv_at hl 1 rfl) ?_
  have J1_2 : ∀ (vj1_0 : Int32) (ls : Array Slot) (H : Heap) (locs : List Loc), vj1_0 = (if a1 < 0 then (0 : Int32) else (if (512 : Int32) ≤ a1 then (0 : Int32) else (1 : Int32))) → lv_has ls 6 [(0, .ref yX), (1, .int a1), (2, .int (0 : Int32))] → va_P D classes [oX yX yM yD yA yO yL yH yI v_x, ar cI yM 512 v_M, ar cI yD 8 v_d, ar cI yA 8 v_a, ar cI yO 4 v_o, ar cI yL 6 v_lo, ar cI yH 6 v_hi, ar cI yI 6 v_ri] H → va_D A [oX yX yM yD yA yO yL yH yI v_x, ar cI yM 512 v_M, ar cI yD 8 v_d, ar cI yA 8 v_a, ar cI yO 4 v_o, ar cI yL 6 v_lo, ar cI yH 6 v_hi, ar cI yI 6 v_ri] → va_S A s.heap H locs → W p l e { frames := 1, cells := 0, slots := 0, locals := 20 } s m args below meth c H locs 0 0 Q (F0 m 16 ls [.int vj1_0]) := by
    intro vj1_0 ls H locs evj1_0 hl hP hD hS
    subst evj1_0
    refine lv_istore_n (lv' := [(3, .int (if a1 < 0 then (0 : Int32) else (if (512 : Int32) ≤ a1 then (0 : Int32) else (1 : Int32)))), (0, .ref yX), (1, .int a1), (2, .int (0 : Int32))]) hx hb d_X_may_16 rfl hl (by decide) rfl (fun ls hl => ?_)
    refine lv_aload_n hx hb d_X_may_17 rfl (lv_at hl 1 rfl) ?_
    refine zz_rVi (rest := []) ⟨hx, hb, hml, hown, hts⟩ (k_X_guarded l D cI _ yX yM yD yA yO yL yH yI v_x v_M v_d v_a v_o v_lo v_hi v_ri) g_X_may_X_guarded_94 nv_X_guarded ⟨⟨rfl, rfl⟩, Nat.le_of_ble_eq_true rfl, Nat.le_of_ble_eq_true rfl⟩ hK [0] rfl hP hD hS hA [0, 1, 2, 3, 4, 5, 6, 7] rfl rfl 0 6 rfl rfl rfl rfl hl.1 (Nat.le_of_ble_eq_true rfl) d_X_may_18 ⟨Nat.zero_le _, Nat.zero_le _⟩ (fun H locs hP hD hS => ?_)
    have J21_3 : ∀ (vj21_0 : Int32) (ls : Array Slot) (H : Heap) (locs : List Loc), vj21_0 = (if (s_X_guarded v_x v_M v_d v_a v_o v_lo v_hi v_ri) = 0 then (1 : Int32) else (0 : Int32)) → lv_has ls 6 [(3, .int (if a1 < 0 then (0 : Int32) else (if (512 : Int32) ≤ a1 then (0 : Int32) else (1 : Int32)))), (0, .ref yX), (1, .int a1), (2, .int (0 : Int32))] → va_P D classes [oX yX yM yD yA yO yL yH yI v_x, ar cI yM 512 v_M, ar cI yD 8 v_d, ar cI yA 8 v_a, ar cI yO 4 v_o, ar cI yL 6 v_lo, ar cI yH 6 v_hi, ar cI yI 6 v_ri] H → va_D A [oX yX yM yD yA yO yL yH yI v_x, ar cI yM 512 v_M, ar cI yD 8 v_d, ar cI yA 8 v_a, ar cI yO 4 v_o, ar cI yL 6 v_lo, ar cI yH 6 v_hi, ar cI yI 6 v_ri] → va_S A s.heap H locs → W p l e { frames := 1, cells := 0, slots := 0, locals := 20 } s m args below meth c H locs 0 0 Q (F0 m 29 ls [.int vj21_0]) := by
      intro vj21_0 ls H locs evj21_0 hl hP hD hS
      subst evj21_0
      refine lv_istore (lv' := [(4, .int (if (s_X_guarded v_x v_M v_d v_a v_o v_lo v_hi v_ri) = 0 then (1 : Int32) else (0 : Int32))), (3, .int (if a1 < 0 then (0 : Int32) else (if (512 : Int32) ≤ a1 then (0 : Int32) else (1 : Int32)))), (0, .ref yX), (1, .int a1), (2, .int (0 : Int32))]) hx hb d_X_may_29 hl (by decide) rfl (fun ls hl => ?_)
      refine lv_iconst (v := (3 : Int32)) hx hb d_X_may_31 (by decide) ?_
      refine lv_aload_n hx hb d_X_may_32 rfl (lv_at hl 2 rfl) ?_
      refine zz_get (C := R_X) (T := F_X) (N := 27) (v := .int (v_x 2)) hx hb hts in_X hown hK hP 0 rfl rfl 6 (by decide) mw_71 rfl d_X_may_33 ?_
      refine lv_topi (fun zz ez => ?_)
      obtain rfl : zz = (1 : Int32) := ez.trans hs
      refine lv_imul hx hb d_X_may_36 ?_
      refine lv_topi (fun zz ez => ?_)
      obtain rfl : zz = (3 : Int32) := ez.trans (by decide)
      refine lv_istore (lv' := [(5, .int (3 : Int32)), (4, .int (if (s_X_guarded v_x v_M v_d v_a v_o v_lo v_hi v_ri) = 0 then (1 : Int32) else (0 : Int32))), (3, .int (if a1 < 0 then (0 : Int32) else (if (512 : Int32) ≤ a1 then (0 : Int32) else (1 : Int32)))), (0, .ref yX), (1, .int a1), (2, .int (0 : Int32))]) hx hb d_X_may_37 hl (by decide) rfl (fun ls hl => ?_)
      refine lv_iload hx hb d_X_may_39 (lv_at hl 0 rfl) ?_
      refine lv_iconst (v := (3 : Int32)) hx hb d_X_may_41 (by decide) ?_
      refine lv_aload_n hx hb d_X_may_42 rfl (lv_at hl 3 rfl) ?_
      refine zz_get (C := R_X) (T := F_X) (N := 27) (v := .int (v_x 2)) hx hb hts in_X hown hK hP 0 rfl rfl 6 (by decide) mw_71 rfl d_X_may_43 ?_
      refine lv_topi (fun zz ez => ?_)
      obtain rfl : zz = (1 : Int32) := ez.trans hs
      refine lv_imul hx hb d_X_may_46 ?_
      refine lv_topi (fun zz ez => ?_)
      obtain rfl : zz = (3 : Int32) := ez.trans (by decide)
      show W p l e _ s m args below meth c _ _ _ _ Q (F0 m 47 ls _)
      refine lv_iconst (v := (2 : Int32)) hx hb d_X_may_47 (by decide) ?_
      refine lv_iadd hx hb d_X_may_48 ?_
      refine lv_topi (fun zz ez => ?_)
      obtain rfl : zz = (5 : Int32) := ez.trans (by decide)
      refine lv_icmp_ge (tgt := 112) hx hb d_X_may_49 (by decide) (fun hh => absurd hh (by decide)) (fun _ => ?_)
      refine lv_iload hx hb d_X_may_52 (lv_at hl 1 rfl) ?_
      have J54_7 : ∀ (vj54_0 : Int32) (ls : Array Slot) (H : Heap) (locs : List Loc), vj54_0 = (if (if (s_X_guarded v_x v_M v_d v_a v_o v_lo v_hi v_ri) = 0 then (1 : Int32) else (0 : Int32)) = 0 then (if a1 < (v_lo (ix (3 : Int32))) then (0 : Int32) else (if (v_hi (ix (3 : Int32))) ≤ a1 then (0 : Int32) else (if ((v_ri (ix (3 : Int32))) &&& (1 : Int32)) = 0 then (0 : Int32) else (1 : Int32)))) else (1 : Int32)) → lv_has ls 6 [(5, .int (3 : Int32)), (4, .int (if (s_X_guarded v_x v_M v_d v_a v_o v_lo v_hi v_ri) = 0 then (1 : Int32) else (0 : Int32))), (3, .int (if a1 < 0 then (0 : Int32) else (if (512 : Int32) ≤ a1 then (0 : Int32) else (1 : Int32)))), (0, .ref yX), (1, .int a1), (2, .int (0 : Int32))] → va_P D classes [oX yX yM yD yA yO yL yH yI v_x, ar cI yM 512 v_M, ar cI yD 8 v_d, ar cI yA 8 v_a, ar cI yO 4 v_o, ar cI yL 6 v_lo, ar cI yH 6 v_hi, ar cI yI 6 v_ri] H → va_D A [oX yX yM yD yA yO yL yH yI v_x, ar cI yM 512 v_M, ar cI yD 8 v_d, ar cI yA 8 v_a, ar cI yO 4 v_o, ar cI yL 6 v_lo, ar cI yH 6 v_hi, ar cI yI 6 v_ri] → va_S A s.heap H locs → W p l e { frames := 1, cells := 0, slots := 0, locals := 20 } s m args below meth c H locs 0 0 Q (F0 m 104 ls [.int vj54_0]) := by
        intro vj54_0 ls H locs evj54_0 hl hP hD hS
        subst evj54_0
        refine lv_istore (lv' := [(4, .int (if (if (s_X_guarded v_x v_M v_d v_a v_o v_lo v_hi v_ri) = 0 then (1 : Int32) else (0 : Int32)) = 0 then (if a1 < (v_lo (ix (3 : Int32))) then (0 : Int32) else (if (v_hi (ix (3 : Int32))) ≤ a1 then (0 : Int32) else (if ((v_ri (ix (3 : Int32))) &&& (1 : Int32)) = 0 then (0 : Int32) else (1 : Int32)))) else (1 : Int32))), (5, .int (3 : Int32)), (3, .int (if a1 < 0 then (0 : Int32) else (if (512 : Int32) ≤ a1 then (0 : Int32) else (1 : Int32)))), (0, .ref yX), (1, .int a1), (2, .int (0 : Int32))]) hx hb d_X_may_104 hl (by decide) rfl (fun ls hl => ?_)
        refine lv_iinc (v := (4 : Int32)) (lv' := [(5, .int (4 : Int32)), (4, .int (if (if (s_X_guarded v_x v_M v_d v_a v_o v_lo v_hi v_ri) = 0 then (1 : Int32) else (0 : Int32)) = 0 then (if a1 < (v_lo (ix (3 : Int32))) then (0 : Int32) else (if (v_hi (ix (3 : Int32))) ≤ a1 then (0 : Int32) else (if ((v_ri (ix (3 : Int32))) &&& (1 : Int32)) = 0 then (0 : Int32) else (1 : Int32)))) else (1 : Int32))), (3, .int (if a1 < 0 then (0 : Int32) else (if (512 : Int32) ≤ a1 then (0 : Int32) else (1 : Int32)))), (0, .ref yX), (1, .int a1), (2, .int (0 : Int32))]) (k := 1) hx hb d_X_may_106 hl rfl (by decide) (by decide) rfl (fun ls hl => ?_)
        refine lv_goto (tgt := 39) hx hb d_X_may_109 (by decide) ?_
        refine lv_iload hx hb d_X_may_39 (lv_at hl 0 rfl) ?_
        refine lv_iconst (v := (3 : Int32)) hx hb d_X_may_41 (by decide) ?_
        refine lv_aload_n hx hb d_X_may_42 rfl (lv_at hl 3 rfl) ?_
        refine zz_get (C := R_X) (T := F_X) (N := 27) (v := .int (v_x 2)) hx hb hts in_X hown hK hP 0 rfl rfl 6 (by decide) mw_71 rfl d_X_may_43 ?_
        refine lv_topi (fun zz ez => ?_)
        obtain rfl : zz = (1 : Int32) := ez.trans hs
        refine lv_imul hx hb d_X_may_46 ?_
        refine lv_topi (fun zz ez => ?_)
        obtain rfl : zz = (3 : Int32) := ez.trans (by decide)
        refine lv_iconst (v := (2 : Int32)) hx hb d_X_may_47 (by decide) ?_
        refine lv_iadd hx hb d_X_may_48 ?_
        refine lv_topi (fun zz ez => ?_)
        obtain rfl : zz = (5 : Int32) := ez.trans (by decide)
        refine lv_icmp_ge (tgt := 112) hx hb d_X_may_49 (by decide) (fun hh => absurd hh (by decide)) (fun _ => ?_)
        refine lv_iload hx hb d_X_may_52 (lv_at hl 1 rfl) ?_
        have J54_11 : ∀ (vj54_0 : Int32) (ls : Array Slot) (H : Heap) (locs : List Loc), vj54_0 = (if (if (if (s_X_guarded v_x v_M v_d v_a v_o v_lo v_hi v_ri) = 0 then (1 : Int32) else (0 : Int32)) = 0 then (if a1 < (v_lo (ix (3 : Int32))) then (0 : Int32) else (if (v_hi (ix (3 : Int32))) ≤ a1 then (0 : Int32) else (if ((v_ri (ix (3 : Int32))) &&& (1 : Int32)) = 0 then (0 : Int32) else (1 : Int32)))) else (1 : Int32)) = 0 then (if a1 < (v_lo (ix (4 : Int32))) then (0 : Int32) else (if (v_hi (ix (4 : Int32))) ≤ a1 then (0 : Int32) else (if ((v_ri (ix (4 : Int32))) &&& (1 : Int32)) = 0 then (0 : Int32) else (1 : Int32)))) else (1 : Int32)) → lv_has ls 6 [(5, .int (4 : Int32)), (4, .int (if (if (s_X_guarded v_x v_M v_d v_a v_o v_lo v_hi v_ri) = 0 then (1 : Int32) else (0 : Int32)) = 0 then (if a1 < (v_lo (ix (3 : Int32))) then (0 : Int32) else (if (v_hi (ix (3 : Int32))) ≤ a1 then (0 : Int32) else (if ((v_ri (ix (3 : Int32))) &&& (1 : Int32)) = 0 then (0 : Int32) else (1 : Int32)))) else (1 : Int32))), (3, .int (if a1 < 0 then (0 : Int32) else (if (512 : Int32) ≤ a1 then (0 : Int32) else (1 : Int32)))), (0, .ref yX), (1, .int a1), (2, .int (0 : Int32))] → va_P D classes [oX yX yM yD yA yO yL yH yI v_x, ar cI yM 512 v_M, ar cI yD 8 v_d, ar cI yA 8 v_a, ar cI yO 4 v_o, ar cI yL 6 v_lo, ar cI yH 6 v_hi, ar cI yI 6 v_ri] H → va_D A [oX yX yM yD yA yO yL yH yI v_x, ar cI yM 512 v_M, ar cI yD 8 v_d, ar cI yA 8 v_a, ar cI yO 4 v_o, ar cI yL 6 v_lo, ar cI yH 6 v_hi, ar cI yI 6 v_ri] → va_S A s.heap H locs → W p l e { frames := 1, cells := 0, slots := 0, locals := 20 } s m args below meth c H locs 0 0 Q (F0 m 104 ls [.int vj54_0]) := by
          intro vj54_0 ls H locs evj54_0 hl hP hD hS
          subst evj54_0
          refine lv_istore (lv' := [(4, .int (if (if (if (s_X_guarded v_x v_M v_d v_a v_o v_lo v_hi v_ri) = 0 then (1 : Int32) else (0 : Int32)) = 0 then (if a1 < (v_lo (ix (3 : Int32))) then (0 : Int32) else (if (v_hi (ix (3 : Int32))) ≤ a1 then (0 : Int32) else (if ((v_ri (ix (3 : Int32))) &&& (1 : Int32)) = 0 then (0 : Int32) else (1 : Int32)))) else (1 : Int32)) = 0 then (if a1 < (v_lo (ix (4 : Int32))) then (0 : Int32) else (if (v_hi (ix (4 : Int32))) ≤ a1 then (0 : Int32) else (if ((v_ri (ix (4 : Int32))) &&& (1 : Int32)) = 0 then (0 : Int32) else (1 : Int32)))) else (1 : Int32))), (5, .int (4 : Int32)), (3, .int (if a1 < 0 then (0 : Int32) else (if (512 : Int32) ≤ a1 then (0 : Int32) else (1 : Int32)))), (0, .ref yX), (1, .int a1), (2, .int (0 : Int32))]) hx hb d_X_may_104 hl (by decide) rfl (fun ls hl => ?_)
          refine lv_iinc (v := (5 : Int32)) (lv' := [(5, .int (5 : Int32)), (4, .int (if (if (if (s_X_guarded v_x v_M v_d v_a v_o v_lo v_hi v_ri) = 0 then (1 : Int32) else (0 : Int32)) = 0 then (if a1 < (v_lo (ix (3 : Int32))) then (0 : Int32) else (if (v_hi (ix (3 : Int32))) ≤ a1 then (0 : Int32) else (if ((v_ri (ix (3 : Int32))) &&& (1 : Int32)) = 0 then (0 : Int32) else (1 : Int32)))) else (1 : Int32)) = 0 then (if a1 < (v_lo (ix (4 : Int32))) then (0 : Int32) else (if (v_hi (ix (4 : Int32))) ≤ a1 then (0 : Int32) else (if ((v_ri (ix (4 : Int32))) &&& (1 : Int32)) = 0 then (0 : Int32) else (1 : Int32)))) else (1 : Int32))), (3, .int (if a1 < 0 then (0 : Int32) else (if (512 : Int32) ≤ a1 then (0 : Int32) else (1 : Int32)))), (0, .ref yX), (1, .int a1), (2, .int (0 : Int32))]) (k := 1) hx hb d_X_may_106 hl rfl (by decide) (by decide) rfl (fun ls hl => ?_)
          refine lv_goto (tgt := 39) hx hb d_X_may_109 (by decide) ?_
          refine lv_iload hx hb d_X_may_39 (lv_at hl 0 rfl) ?_
          refine lv_iconst (v := (3 : Int32)) hx hb d_X_may_41 (by decide) ?_
          refine lv_aload_n hx hb d_X_may_42 rfl (lv_at hl 3 rfl) ?_
          refine zz_get (C := R_X) (T := F_X) (N := 27) (v := .int (v_x 2)) hx hb hts in_X hown hK hP 0 rfl rfl 6 (by decide) mw_71 rfl d_X_may_43 ?_
          refine lv_topi (fun zz ez => ?_)
          obtain rfl : zz = (1 : Int32) := ez.trans hs
          refine lv_imul hx hb d_X_may_46 ?_
          refine lv_topi (fun zz ez => ?_)
          obtain rfl : zz = (3 : Int32) := ez.trans (by decide)
          refine lv_iconst (v := (2 : Int32)) hx hb d_X_may_47 (by decide) ?_
          refine lv_iadd hx hb d_X_may_48 ?_
          refine lv_topi (fun zz ez => ?_)
          obtain rfl : zz = (5 : Int32) := ez.trans (by decide)
          refine lv_icmp_ge (tgt := 112) hx hb d_X_may_49 (by decide) (fun _ => ?_) (fun hh => absurd hh (by decide))
          refine lv_aload_n hx hb d_X_may_112 rfl (lv_at hl 3 rfl) ?_
          refine lv_iload_n hx hb d_X_may_113 rfl (lv_at hl 2 rfl) ?_
          have J114_13 : ∀ (vj114_0 : Int32) (ls : Array Slot) (H : Heap) (locs : List Loc), vj114_0 = (if (if a1 < 0 then (0 : Int32) else (if (512 : Int32) ≤ a1 then (0 : Int32) else (1 : Int32))) = 0 then (1025 : Int32) else (if (if (if (if (s_X_guarded v_x v_M v_d v_a v_o v_lo v_hi v_ri) = 0 then (1 : Int32) else (0 : Int32)) = 0 then (if a1 < (v_lo (ix (3 : Int32))) then (0 : Int32) else (if (v_hi (ix (3 : Int32))) ≤ a1 then (0 : Int32) else (if ((v_ri (ix (3 : Int32))) &&& (1 : Int32)) = 0 then (0 : Int32) else (1 : Int32)))) else (1 : Int32)) = 0 then (if a1 < (v_lo (ix (4 : Int32))) then (0 : Int32) else (if (v_hi (ix (4 : Int32))) ≤ a1 then (0 : Int32) else (if ((v_ri (ix (4 : Int32))) &&& (1 : Int32)) = 0 then (0 : Int32) else (1 : Int32)))) else (1 : Int32)) = 0 then (258 : Int32) else (v_x 19))) → lv_has ls 6 [(5, .int (5 : Int32)), (4, .int (if (if (if (s_X_guarded v_x v_M v_d v_a v_o v_lo v_hi v_ri) = 0 then (1 : Int32) else (0 : Int32)) = 0 then (if a1 < (v_lo (ix (3 : Int32))) then (0 : Int32) else (if (v_hi (ix (3 : Int32))) ≤ a1 then (0 : Int32) else (if ((v_ri (ix (3 : Int32))) &&& (1 : Int32)) = 0 then (0 : Int32) else (1 : Int32)))) else (1 : Int32)) = 0 then (if a1 < (v_lo (ix (4 : Int32))) then (0 : Int32) else (if (v_hi (ix (4 : Int32))) ≤ a1 then (0 : Int32) else (if ((v_ri (ix (4 : Int32))) &&& (1 : Int32)) = 0 then (0 : Int32) else (1 : Int32)))) else (1 : Int32))), (3, .int (if a1 < 0 then (0 : Int32) else (if (512 : Int32) ≤ a1 then (0 : Int32) else (1 : Int32)))), (0, .ref yX), (1, .int a1), (2, .int (0 : Int32))] → va_P D classes [oX yX yM yD yA yO yL yH yI v_x, ar cI yM 512 v_M, ar cI yD 8 v_d, ar cI yA 8 v_a, ar cI yO 4 v_o, ar cI yL 6 v_lo, ar cI yH 6 v_hi, ar cI yI 6 v_ri] H → va_D A [oX yX yM yD yA yO yL yH yI v_x, ar cI yM 512 v_M, ar cI yD 8 v_d, ar cI yA 8 v_a, ar cI yO 4 v_o, ar cI yL 6 v_lo, ar cI yH 6 v_hi, ar cI yI 6 v_ri] → va_S A s.heap H locs → W p l e { frames := 1, cells := 0, slots := 0, locals := 20 } s m args below meth c H locs 0 0 Q (F0 m 148 ls [.int vj114_0, .ref yX]) := by
            intro vj114_0 ls H locs evj114_0 hl hP hD hS
            subst evj114_0
            refine zz_put (C := R_X) (T := F_X) (N := 27) (w' := [oX yX yM yD yA yO yL yH yI (upd v_x 19 (if (if a1 < 0 then (0 : Int32) else (if (512 : Int32) ≤ a1 then (0 : Int32) else (1 : Int32))) = 0 then (1025 : Int32) else (if (if (if (if (s_X_guarded v_x v_M v_d v_a v_o v_lo v_hi v_ri) = 0 then (1 : Int32) else (0 : Int32)) = 0 then (if a1 < (v_lo (ix (3 : Int32))) then (0 : Int32) else (if (v_hi (ix (3 : Int32))) ≤ a1 then (0 : Int32) else (if ((v_ri (ix (3 : Int32))) &&& (1 : Int32)) = 0 then (0 : Int32) else (1 : Int32)))) else (1 : Int32)) = 0 then (if a1 < (v_lo (ix (4 : Int32))) then (0 : Int32) else (if (v_hi (ix (4 : Int32))) ≤ a1 then (0 : Int32) else (if ((v_ri (ix (4 : Int32))) &&& (1 : Int32)) = 0 then (0 : Int32) else (1 : Int32)))) else (1 : Int32)) = 0 then (258 : Int32) else (v_x 19)))), ar cI yM 512 v_M, ar cI yD 8 v_d, ar cI yA 8 v_a, ar cI yO 4 v_o, ar cI yL 6 v_lo, ar cI yH 6 v_hi, ar cI yI 6 v_ri]) hx hb hts in_X ty_X ty_X_ok n_X hown hK hP hD hS 0 rfl rfl 26 (by decide) mw_79 rfl rfl rfl (Nat.le_of_ble_eq_true rfl) d_X_may_148 rfl (fun H locs hP hD hS => ?_)
            refine lv_iload_n hx hb d_X_may_151 rfl (lv_at hl 2 rfl) ?_
            refine lv_if_eq (tgt := 164) hx hb d_X_may_152 (by decide) (fun h14 => ?_) (fun h14 => ?_)
            ·
              refine lv_iconst (v := (0 : Int32)) hx hb d_X_may_164 (by decide) ?_
              have hsp : s_X_mayR1 v_x v_M v_d v_a v_o v_lo v_hi v_ri a1 = ((0 : Int32), upd v_x 19 (if (if a1 < 0 then (0 : Int32) else (if (512 : Int32) ≤ a1 then (0 : Int32) else (1 : Int32))) = 0 then (1025 : Int32) else (if (if (if (if (s_X_guarded v_x v_M v_d v_a v_o v_lo v_hi v_ri) = 0 then (1 : Int32) else (0 : Int32)) = 0 then (if a1 < (v_lo (ix (3 : Int32))) then (0 : Int32) else (if (v_hi (ix (3 : Int32))) ≤ a1 then (0 : Int32) else (if ((v_ri (ix (3 : Int32))) &&& (1 : Int32)) = 0 then (0 : Int32) else (1 : Int32)))) else (1 : Int32)) = 0 then (if a1 < (v_lo (ix (4 : Int32))) then (0 : Int32) else (if (v_hi (ix (4 : Int32))) ≤ a1 then (0 : Int32) else (if ((v_ri (ix (4 : Int32))) &&& (1 : Int32)) = 0 then (0 : Int32) else (1 : Int32)))) else (1 : Int32)) = 0 then (258 : Int32) else (v_x 19)))) := (by unfold s_X_mayR1; rw [if_pos h14])
              rw [hsp] at hE
              exact hE _ _ _ _ hP hD hS d_X_may_165
            ·
              refine lv_iload hx hb d_X_may_155 (lv_at hl 1 rfl) ?_
              refine lv_if_eq (tgt := 164) hx hb d_X_may_157 (by decide) (fun h15 => ?_) (fun h15 => ?_)
              ·
                refine lv_iconst (v := (0 : Int32)) hx hb d_X_may_164 (by decide) ?_
                have hsp : s_X_mayR1 v_x v_M v_d v_a v_o v_lo v_hi v_ri a1 = ((0 : Int32), upd v_x 19 (if (if a1 < 0 then (0 : Int32) else (if (512 : Int32) ≤ a1 then (0 : Int32) else (1 : Int32))) = 0 then (1025 : Int32) else (if (if (if (if (s_X_guarded v_x v_M v_d v_a v_o v_lo v_hi v_ri) = 0 then (1 : Int32) else (0 : Int32)) = 0 then (if a1 < (v_lo (ix (3 : Int32))) then (0 : Int32) else (if (v_hi (ix (3 : Int32))) ≤ a1 then (0 : Int32) else (if ((v_ri (ix (3 : Int32))) &&& (1 : Int32)) = 0 then (0 : Int32) else (1 : Int32)))) else (1 : Int32)) = 0 then (if a1 < (v_lo (ix (4 : Int32))) then (0 : Int32) else (if (v_hi (ix (4 : Int32))) ≤ a1 then (0 : Int32) else (if ((v_ri (ix (4 : Int32))) &&& (1 : Int32)) = 0 then (0 : Int32) else (1 : Int32)))) else (1 : Int32)) = 0 then (258 : Int32) else (v_x 19)))) := (by unfold s_X_mayR1; rw [if_neg h14, if_pos h15])
                rw [hsp] at hE
                exact hE _ _ _ _ hP hD hS d_X_may_165
              ·
                refine lv_iconst (v := (1 : Int32)) hx hb d_X_may_160 (by decide) ?_
                refine lv_goto (tgt := 165) hx hb d_X_may_161 (by decide) ?_
                have hsp : s_X_mayR1 v_x v_M v_d v_a v_o v_lo v_hi v_ri a1 = ((1 : Int32), upd v_x 19 (if (if a1 < 0 then (0 : Int32) else (if (512 : Int32) ≤ a1 then (0 : Int32) else (1 : Int32))) = 0 then (1025 : Int32) else (if (if (if (if (s_X_guarded v_x v_M v_d v_a v_o v_lo v_hi v_ri) = 0 then (1 : Int32) else (0 : Int32)) = 0 then (if a1 < (v_lo (ix (3 : Int32))) then (0 : Int32) else (if (v_hi (ix (3 : Int32))) ≤ a1 then (0 : Int32) else (if ((v_ri (ix (3 : Int32))) &&& (1 : Int32)) = 0 then (0 : Int32) else (1 : Int32)))) else (1 : Int32)) = 0 then (if a1 < (v_lo (ix (4 : Int32))) then (0 : Int32) else (if (v_hi (ix (4 : Int32))) ≤ a1 then (0 : Int32) else (if ((v_ri (ix (4 : Int32))) &&& (1 : Int32)) = 0 then (0 : Int32) else (1 : Int32)))) else (1 : Int32)) = 0 then (258 : Int32) else (v_x 19)))) := (by unfold s_X_mayR1; rw [if_neg h14, if_neg h15])
                rw [hsp] at hE
                exact hE _ _ _ _ hP hD hS d_X_may_165
          refine lv_if_ne (tgt := 123) hx hb d_X_may_114 (by decide) (fun h12 => ?_) (fun h12 => ?_)
          ·
            refine lv_iload hx hb d_X_may_123 (lv_at hl 1 rfl) ?_
            refine lv_if_ne (tgt := 144) hx hb d_X_may_125 (by decide) (fun h13 => ?_) (fun h13 => ?_)
            ·
              refine lv_aload_n hx hb d_X_may_144 rfl (lv_at hl 3 rfl) ?_
              refine zz_get (C := R_X) (T := F_X) (N := 27) (v := .int (v_x 19)) hx hb hts in_X hown hK hP 0 rfl rfl 26 (by decide) mw_79 rfl d_X_may_145 ?_
              exact J114_13 (v_x 19) _ _ _ (by rw [if_neg h12, if_neg h13]) (lv_sub hl [0, 1, 2, 3, 4, 5] rfl) hP hD hS
            ·
              refine lv_iload_n hx hb d_X_may_128 rfl (lv_at hl 5 rfl) ?_
              refine lv_if_eq (tgt := 138) hx hb d_X_may_129 (by decide) (fun _ => ?_) (fun hh => absurd hh (by decide))
              refine lv_sipush (v := (258 : Int32)) hx hb d_X_may_138 (by decide) ?_
              refine lv_goto (tgt := 148) hx hb d_X_may_141 (by decide) ?_
              exact J114_13 (258 : Int32) _ _ _ (by rw [if_neg h12, if_pos h13]) (lv_sub hl [0, 1, 2, 3, 4, 5] rfl) hP hD hS
          ·
            refine lv_sipush (v := (1025 : Int32)) hx hb d_X_may_117 (by decide) ?_
            refine lv_goto (tgt := 148) hx hb d_X_may_120 (by decide) ?_
            exact J114_13 (1025 : Int32) _ _ _ (by rw [if_pos h12]) (lv_sub hl [0, 1, 2, 3, 4, 5] rfl) hP hD hS
        refine lv_if_ne (tgt := 99) hx hb d_X_may_54 (by decide) (fun h8 => ?_) (fun h8 => ?_)
        ·
          refine lv_iconst (v := (1 : Int32)) hx hb d_X_may_99 (by decide) ?_
          refine lv_goto (tgt := 104) hx hb d_X_may_100 (by decide) ?_
          exact J54_11 (1 : Int32) _ _ _ (by rw [if_neg h8]) (lv_sub hl [0, 1, 2, 3, 4, 5] rfl) hP hD hS
        ·
          refine lv_iload_n hx hb d_X_may_57 rfl (lv_at hl 4 rfl) ?_
          refine lv_aload_n hx hb d_X_may_58 rfl (lv_at hl 3 rfl) ?_
          refine zz_get (C := R_X) (T := F_X) (N := 27) (v := .ref yL) hx hb hts in_X hown hK hP 0 rfl rfl 18 (by decide) mw_85 rfl d_X_may_59 ?_
          refine lv_iload hx hb d_X_may_62 (lv_at hl 0 rfl) ?_
          refine va_iald hx hb hK hP 5 0 rfl rfl (zz_inc (by decide)) d_X_may_64 ?_
          refine lv_icmp_lt (tgt := 103) hx hb d_X_may_65 (by decide) (fun h9 => ?_) (fun h9 => ?_)
          ·
            refine lv_iconst (v := (0 : Int32)) hx hb d_X_may_103 (by decide) ?_
            exact J54_11 (0 : Int32) _ _ _ (by rw [if_pos h8, if_pos h9]) (lv_sub hl [0, 1, 2, 3, 4, 5] rfl) hP hD hS
          ·
            refine lv_iload_n hx hb d_X_may_68 rfl (lv_at hl 4 rfl) ?_
            refine lv_aload_n hx hb d_X_may_69 rfl (lv_at hl 3 rfl) ?_
            refine zz_get (C := R_X) (T := F_X) (N := 27) (v := .ref yH) hx hb hts in_X hown hK hP 0 rfl rfl 19 (by decide) mw_86 rfl d_X_may_70 ?_
            refine lv_iload hx hb d_X_may_73 (lv_at hl 0 rfl) ?_
            refine va_iald hx hb hK hP 6 0 rfl rfl (zz_inc (by decide)) d_X_may_75 ?_
            refine lv_icmp_ge (tgt := 103) hx hb d_X_may_76 (by decide) (fun h10 => ?_) (fun h10 => ?_)
            ·
              refine lv_iconst (v := (0 : Int32)) hx hb d_X_may_103 (by decide) ?_
              exact J54_11 (0 : Int32) _ _ _ (by rw [if_pos h8, if_neg h9, if_pos h10]) (lv_sub hl [0, 1, 2, 3, 4, 5] rfl) hP hD hS
            ·
              refine lv_aload_n hx hb d_X_may_79 rfl (lv_at hl 3 rfl) ?_
              refine zz_get (C := R_X) (T := F_X) (N := 27) (v := .ref yI) hx hb hts in_X hown hK hP 0 rfl rfl 20 (by decide) mw_87 rfl d_X_may_80 ?_
              refine lv_iload hx hb d_X_may_83 (lv_at hl 0 rfl) ?_
              refine va_iald hx hb hK hP 7 0 rfl rfl (zz_inc (by decide)) d_X_may_85 ?_
              refine lv_iload_n hx hb d_X_may_86 rfl (lv_at hl 5 rfl) ?_
              refine lv_if_eq (tgt := 94) hx hb d_X_may_87 (by decide) (fun _ => ?_) (fun hh => absurd hh (by decide))
              refine lv_iconst (v := (1 : Int32)) hx hb d_X_may_94 (by decide) ?_
              refine lv_iand hx hb d_X_may_95 ?_
              refine lv_if_eq (tgt := 103) hx hb d_X_may_96 (by decide) (fun h11 => ?_) (fun h11 => ?_)
              ·
                refine lv_iconst (v := (0 : Int32)) hx hb d_X_may_103 (by decide) ?_
                exact J54_11 (0 : Int32) _ _ _ (by rw [if_pos h8, if_neg h9, if_neg h10, if_pos h11]) (lv_sub hl [0, 1, 2, 3, 4, 5] rfl) hP hD hS
              ·
                refine lv_iconst (v := (1 : Int32)) hx hb d_X_may_99 (by decide) ?_
                refine lv_goto (tgt := 104) hx hb d_X_may_100 (by decide) ?_
                exact J54_11 (1 : Int32) _ _ _ (by rw [if_pos h8, if_neg h9, if_neg h10, if_neg h11]) (lv_sub hl [0, 1, 2, 3, 4, 5] rfl) hP hD hS
      refine lv_if_ne (tgt := 99) hx hb d_X_may_54 (by decide) (fun h4 => ?_) (fun h4 => ?_)
      ·
        refine lv_iconst (v := (1 : Int32)) hx hb d_X_may_99 (by decide) ?_
        refine lv_goto (tgt := 104) hx hb d_X_may_100 (by decide) ?_
        exact J54_7 (1 : Int32) _ _ _ (by rw [if_neg h4]) (lv_sub hl [0, 1, 2, 3, 4, 5] rfl) hP hD hS
      ·
        refine lv_iload_n hx hb d_X_may_57 rfl (lv_at hl 4 rfl) ?_
        refine lv_aload_n hx hb d_X_may_58 rfl (lv_at hl 3 rfl) ?_
        refine zz_get (C := R_X) (T := F_X) (N := 27) (v := .ref yL) hx hb hts in_X hown hK hP 0 rfl rfl 18 (by decide) mw_85 rfl d_X_may_59 ?_
        refine lv_iload hx hb d_X_may_62 (lv_at hl 0 rfl) ?_
        refine va_iald hx hb hK hP 5 0 rfl rfl (zz_inc (by decide)) d_X_may_64 ?_
        refine lv_icmp_lt (tgt := 103) hx hb d_X_may_65 (by decide) (fun h5 => ?_) (fun h5 => ?_)
        ·
          refine lv_iconst (v := (0 : Int32)) hx hb d_X_may_103 (by decide) ?_
          exact J54_7 (0 : Int32) _ _ _ (by rw [if_pos h4, if_pos h5]) (lv_sub hl [0, 1, 2, 3, 4, 5] rfl) hP hD hS
        ·
          refine lv_iload_n hx hb d_X_may_68 rfl (lv_at hl 4 rfl) ?_
          refine lv_aload_n hx hb d_X_may_69 rfl (lv_at hl 3 rfl) ?_
          refine zz_get (C := R_X) (T := F_X) (N := 27) (v := .ref yH) hx hb hts in_X hown hK hP 0 rfl rfl 19 (by decide) mw_86 rfl d_X_may_70 ?_
          refine lv_iload hx hb d_X_may_73 (lv_at hl 0 rfl) ?_
          refine va_iald hx hb hK hP 6 0 rfl rfl (zz_inc (by decide)) d_X_may_75 ?_
          refine lv_icmp_ge (tgt := 103) hx hb d_X_may_76 (by decide) (fun h6 => ?_) (fun h6 => ?_)
          ·
            refine lv_iconst (v := (0 : Int32)) hx hb d_X_may_103 (by decide) ?_
            exact J54_7 (0 : Int32) _ _ _ (by rw [if_pos h4, if_neg h5, if_pos h6]) (lv_sub hl [0, 1, 2, 3, 4, 5] rfl) hP hD hS
          ·
            refine lv_aload_n hx hb d_X_may_79 rfl (lv_at hl 3 rfl) ?_
            refine zz_get (C := R_X) (T := F_X) (N := 27) (v := .ref yI) hx hb hts in_X hown hK hP 0 rfl rfl 20 (by decide) mw_87 rfl d_X_may_80 ?_
            refine lv_iload hx hb d_X_may_83 (lv_at hl 0 rfl) ?_
            refine va_iald hx hb hK hP 7 0 rfl rfl (zz_inc (by decide)) d_X_may_85 ?_
            refine lv_iload_n hx hb d_X_may_86 rfl (lv_at hl 5 rfl) ?_
            refine lv_if_eq (tgt := 94) hx hb d_X_may_87 (by decide) (fun _ => ?_) (fun hh => absurd hh (by decide))
            refine lv_iconst (v := (1 : Int32)) hx hb d_X_may_94 (by decide) ?_
            refine lv_iand hx hb d_X_may_95 ?_
            refine lv_if_eq (tgt := 103) hx hb d_X_may_96 (by decide) (fun h7 => ?_) (fun h7 => ?_)
            ·
              refine lv_iconst (v := (0 : Int32)) hx hb d_X_may_103 (by decide) ?_
              exact J54_7 (0 : Int32) _ _ _ (by rw [if_pos h4, if_neg h5, if_neg h6, if_pos h7]) (lv_sub hl [0, 1, 2, 3, 4, 5] rfl) hP hD hS
            ·
              refine lv_iconst (v := (1 : Int32)) hx hb d_X_may_99 (by decide) ?_
              refine lv_goto (tgt := 104) hx hb d_X_may_100 (by decide) ?_
              exact J54_7 (1 : Int32) _ _ _ (by rw [if_pos h4, if_neg h5, if_neg h6, if_neg h7]) (lv_sub hl [0, 1, 2, 3, 4, 5] rfl) hP hD hS
    refine lv_if_ne (tgt := 28) hx hb d_X_may_21 (by decide) (fun h3 => ?_) (fun h3 => ?_)
    ·
      refine lv_iconst (v := (0 : Int32)) hx hb d_X_may_28 (by decide) ?_
      exact J21_3 (0 : Int32) _ _ _ (by rw [if_neg h3]) (lv_sub hl [0, 1, 2, 3] rfl) hP hD hS
    ·
      refine lv_iconst (v := (1 : Int32)) hx hb d_X_may_24 (by decide) ?_
      refine lv_goto (tgt := 29) hx hb d_X_may_25 (by decide) ?_
      exact J21_3 (1 : Int32) _ _ _ (by rw [if_pos h3]) (lv_sub hl [0, 1, 2, 3] rfl) hP hD hS
  refine lv_if_lt (tgt := 15) hx hb d_X_may_1 (by decide) (fun h1 => ?_) (fun h1 => ?_)
  ·
    refine lv_iconst (v := (0 : Int32)) hx hb d_X_may_15 (by decide) ?_
    exact J1_2 (0 : Int32) _ _ _ (by rw [if_pos h1]) (lv_sub hl [0, 1, 2] rfl) hP hD hS
  ·
    refine lv_iload_n hx hb d_X_may_4 rfl (lv_at hl 1 rfl) ?_
    refine lv_sipush (v := (512 : Int32)) hx hb d_X_may_5 (by decide) ?_
    refine lv_icmp_ge (tgt := 15) hx hb d_X_may_8 (by decide) (fun h2 => ?_) (fun h2 => ?_)
    ·
      refine lv_iconst (v := (0 : Int32)) hx hb d_X_may_15 (by decide) ?_
      exact J1_2 (0 : Int32) _ _ _ (by rw [if_neg h1, if_pos h2]) (lv_sub hl [0, 1, 2] rfl) hP hD hS
    ·
      refine lv_iconst (v := (1 : Int32)) hx hb d_X_may_11 (by decide) ?_
      refine lv_goto (tgt := 16) hx hb d_X_may_12 (by decide) ?_
      exact J1_2 (1 : Int32) _ _ _ (by rw [if_neg h1, if_neg h2]) (lv_sub hl [0, 1, 2] rfl) hP hD hS
theorem k_X_mayR (l : Launch) (D : va_G) (cI : ClassId) (sz : Nat) (yX : Nat) (yM : Nat) (yD : Nat) (yA : Nat) (yO : Nat) (yL : Nat) (yH : Nat) (yI : Nat) (v_x : Nat → Int32) (v_M : Nat → Int32) (v_d : Nat → Int32) (v_a : Nat → Int32) (v_o : Nat → Int32) (v_lo : Nat → Int32) (v_hi : Nat → Int32) (v_ri : Nat → Int32) (a1 : Int32) (hset : v_x 2 = 0 ∨ v_x 2 = 1) : zMi l y_X_may (.code y_X_may b_X_may 6 (some .boolean) :: wd) { frames := 1, cells := 0, slots := 0, locals := 20 } D classes [(cI, .int)] [.ref yX, .int a1, .int (0 : Int32)] [oX yX yM yD yA yO yL yH yI v_x, ar cI yM 512 v_M, ar cI yD 8 v_d, ar cI yA 8 v_a, ar cI yO 4 v_o, ar cI yL 6 v_lo, ar cI yH 6 v_hi, ar cI yI 6 v_ri] [oX yX yM yD yA yO yL yH yI ((s_X_mayR v_x v_M v_d v_a v_o v_lo v_hi v_ri a1).2), ar cI yM 512 v_M, ar cI yD 8 v_d, ar cI yA 8 v_a, ar cI yO 4 v_o, ar cI yL 6 v_lo, ar cI yH 6 v_hi, ar cI yI 6 v_ri] sz (s_X_mayR v_x v_M v_d v_a v_o v_lo v_hi v_ri a1).1 := by
  by_cases h0 : v_x 2 = (0 : Int32)
  · have e : s_X_mayR v_x v_M v_d v_a v_o v_lo v_hi v_ri a1 = s_X_mayR0 v_x v_M v_d v_a v_o v_lo v_hi v_ri a1 := by unfold s_X_mayR; rw [if_pos h0]
    rw [e]; exact k_X_mayR0 l D cI sz yX yM yD yA yO yL yH yI v_x v_M v_d v_a v_o v_lo v_hi v_ri a1 h0
  · have e : s_X_mayR v_x v_M v_d v_a v_o v_lo v_hi v_ri a1 = s_X_mayR1 v_x v_M v_d v_a v_o v_lo v_hi v_ri a1 := by unfold s_X_mayR; rw [if_neg h0]
    rw [e]; exact k_X_mayR1 l D cI sz yX yM yD yA yO yL yH yI v_x v_M v_d v_a v_o v_lo v_hi v_ri a1 (hset.resolve_left h0)
set_option maxHeartbeats 4000000 in
set_option maxRecDepth 100000 in
theorem k_X_mayW0 (l : Launch) (D : va_G) (cI : ClassId) (sz : Nat) (yX : Nat) (yM : Nat) (yD : Nat) (yA : Nat) (yO : Nat) (yL : Nat) (yH : Nat) (yI : Nat) (v_x : Nat → Int32) (v_M : Nat → Int32) (v_d : Nat → Int32) (v_a : Nat → Int32) (v_o : Nat → Int32) (v_lo : Nat → Int32) (v_hi : Nat → Int32) (v_ri : Nat → Int32) (a1 : Int32) (hs : v_x 2 = (0 : Int32)) : zMi l y_X_may (.code y_X_may b_X_may 6 (some .boolean) :: wd) { frames := 1, cells := 0, slots := 0, locals := 20 } D classes [(cI, .int)] [.ref yX, .int a1, .int (1 : Int32)] [oX yX yM yD yA yO yL yH yI v_x, ar cI yM 512 v_M, ar cI yD 8 v_d, ar cI yA 8 v_a, ar cI yO 4 v_o, ar cI yL 6 v_lo, ar cI yH 6 v_hi, ar cI yI 6 v_ri] [oX yX yM yD yA yO yL yH yI ((s_X_mayW0 v_x v_M v_d v_a v_o v_lo v_hi v_ri a1).2), ar cI yM 512 v_M, ar cI yD 8 v_d, ar cI yA 8 v_a, ar cI yO 4 v_o, ar cI yL 6 v_lo, ar cI yH 6 v_hi, ar cI yI 6 v_ri] sz (s_X_mayW0 v_x v_M v_d v_a v_o v_lo v_hi v_ri a1).1 := by
  refine met_i (by decide) (Nat.le_of_ble_eq_true rfl) (zz_nar (bo_X_mayW0 v_x v_M v_d v_a v_o v_lo v_hi v_ri a1)) ?_
  intro p e s m args below meth c A Q ls hx hb hml hown hts hK hP hD hS hA hl hE
  have hl : lv_has ls 6 [(0, .ref yX), (1, .int a1), (2, .int (1 : Int32))] := hl
  have hown : s.vm.findClass R_X = some m.cls := hown
  refine lv_iload_n hx hb d_X_may_0 rfl (lv_at hl 1 rfl) ?_
  have J1_2 : ∀ (vj1_0 : Int32) (ls : Array Slot) (H : Heap) (locs : List Loc), vj1_0 = (if a1 < 0 then (0 : Int32) else (if (512 : Int32) ≤ a1 then (0 : Int32) else (1 : Int32))) → lv_has ls 6 [(0, .ref yX), (1, .int a1), (2, .int (1 : Int32))] → va_P D classes [oX yX yM yD yA yO yL yH yI v_x, ar cI yM 512 v_M, ar cI yD 8 v_d, ar cI yA 8 v_a, ar cI yO 4 v_o, ar cI yL 6 v_lo, ar cI yH 6 v_hi, ar cI yI 6 v_ri] H → va_D A [oX yX yM yD yA yO yL yH yI v_x, ar cI yM 512 v_M, ar cI yD 8 v_d, ar cI yA 8 v_a, ar cI yO 4 v_o, ar cI yL 6 v_lo, ar cI yH 6 v_hi, ar cI yI 6 v_ri] → va_S A s.heap H locs → W p l e { frames := 1, cells := 0, slots := 0, locals := 20 } s m args below meth c H locs 0 0 Q (F0 m 16 ls [.int vj1_0]) := by
    intro vj1_0 ls H locs evj1_0 hl hP hD hS
    subst evj1_0
    refine lv_istore_n (lv' := [(3, .int (if a1 < 0 then (0 : Int32) else (if (512 : Int32) ≤ a1 then (0 : Int32) else (1 : Int32)))), (0, .ref yX), (1, .int a1), (2, .int (1 : Int32))]) hx hb d_X_may_16 rfl hl (by decide) rfl (fun ls hl => ?_)
    refine lv_aload_n hx hb d_X_may_17 rfl (lv_at hl 1 rfl) ?_
    refine zz_rVi (rest := []) ⟨hx, hb, hml, hown, hts⟩ (k_X_guarded l D cI _ yX yM yD yA yO yL yH yI v_x v_M v_d v_a v_o v_lo v_hi v_ri) g_X_may_X_guarded_94 nv_X_guarded ⟨⟨rfl, rfl⟩, Nat.le_of_ble_eq_true rfl, Nat.le_of_ble_eq_true rfl⟩ hK [0] rfl hP hD hS hA [0, 1, 2, 3, 4, 5, 6, 7] rfl rfl 0 6 rfl rfl rfl rfl hl.1 (Nat.le_of_ble_eq_true rfl) d_X_may_18 ⟨Nat.zero_le _, Nat.zero_le _⟩ (fun H locs hP hD hS => ?_)
    have J21_3 : ∀ (vj21_0 : Int32) (ls : Array Slot) (H : Heap) (locs : List Loc), vj21_0 = (if (s_X_guarded v_x v_M v_d v_a v_o v_lo v_hi v_ri) = 0 then (1 : Int32) else (0 : Int32)) → lv_has ls 6 [(3, .int (if a1 < 0 then (0 : Int32) else (if (512 : Int32) ≤ a1 then (0 : Int32) else (1 : Int32)))), (0, .ref yX), (1, .int a1), (2, .int (1 : Int32))] → va_P D classes [oX yX yM yD yA yO yL yH yI v_x, ar cI yM 512 v_M, ar cI yD 8 v_d, ar cI yA 8 v_a, ar cI yO 4 v_o, ar cI yL 6 v_lo, ar cI yH 6 v_hi, ar cI yI 6 v_ri] H → va_D A [oX yX yM yD yA yO yL yH yI v_x, ar cI yM 512 v_M, ar cI yD 8 v_d, ar cI yA 8 v_a, ar cI yO 4 v_o, ar cI yL 6 v_lo, ar cI yH 6 v_hi, ar cI yI 6 v_ri] → va_S A s.heap H locs → W p l e { frames := 1, cells := 0, slots := 0, locals := 20 } s m args below meth c H locs 0 0 Q (F0 m 29 ls [.int vj21_0]) := by
      intro vj21_0 ls H locs evj21_0 hl hP hD hS
      subst evj21_0
      refine lv_istore (lv' := [(4, .int (if (s_X_guarded v_x v_M v_d v_a v_o v_lo v_hi v_ri) = 0 then (1 : Int32) else (0 : Int32))), (3, .int (if a1 < 0 then (0 : Int32) else (if (512 : Int32) ≤ a1 then (0 : Int32) else (1 : Int32)))), (0, .ref yX), (1, .int a1), (2, .int (1 : Int32))]) hx hb d_X_may_29 hl (by decide) rfl (fun ls hl => ?_)
      refine lv_iconst (v := (3 : Int32)) hx hb d_X_may_31 (by decide) ?_
      refine lv_aload_n hx hb d_X_may_32 rfl (lv_at hl 2 rfl) ?_
      refine zz_get (C := R_X) (T := F_X) (N := 27) (v := .int (v_x 2)) hx hb hts in_X hown hK hP 0 rfl rfl 6 (by decide) mw_71 rfl d_X_may_33 ?_
      refine lv_topi (fun zz ez => ?_)
      obtain rfl : zz = (0 : Int32) := ez.trans hs
      refine lv_imul hx hb d_X_may_36 ?_
      refine lv_topi (fun zz ez => ?_)
      obtain rfl : zz = (0 : Int32) := ez.trans (by decide)
      refine lv_istore (lv' := [(5, .int (0 : Int32)), (4, .int (if (s_X_guarded v_x v_M v_d v_a v_o v_lo v_hi v_ri) = 0 then (1 : Int32) else (0 : Int32))), (3, .int (if a1 < 0 then (0 : Int32) else (if (512 : Int32) ≤ a1 then (0 : Int32) else (1 : Int32)))), (0, .ref yX), (1, .int a1), (2, .int (1 : Int32))]) hx hb d_X_may_37 hl (by decide) rfl (fun ls hl => ?_)
      refine lv_iload hx hb d_X_may_39 (lv_at hl 0 rfl) ?_
      refine lv_iconst (v := (3 : Int32)) hx hb d_X_may_41 (by decide) ?_
      refine lv_aload_n hx hb d_X_may_42 rfl (lv_at hl 3 rfl) ?_
      refine zz_get (C := R_X) (T := F_X) (N := 27) (v := .int (v_x 2)) hx hb hts in_X hown hK hP 0 rfl rfl 6 (by decide) mw_71 rfl d_X_may_43 ?_
      refine lv_topi (fun zz ez => ?_)
      obtain rfl : zz = (0 : Int32) := ez.trans hs
      refine lv_imul hx hb d_X_may_46 ?_
      refine lv_topi (fun zz ez => ?_)
      obtain rfl : zz = (0 : Int32) := ez.trans (by decide)
      show W p l e _ s m args below meth c _ _ _ _ Q (F0 m 47 ls _)
      refine lv_iconst (v := (2 : Int32)) hx hb d_X_may_47 (by decide) ?_
      refine lv_iadd hx hb d_X_may_48 ?_
      refine lv_topi (fun zz ez => ?_)
      obtain rfl : zz = (2 : Int32) := ez.trans (by decide)
      refine lv_icmp_ge (tgt := 112) hx hb d_X_may_49 (by decide) (fun hh => absurd hh (by decide)) (fun _ => ?_)
      refine lv_iload hx hb d_X_may_52 (lv_at hl 1 rfl) ?_
      have J54_7 : ∀ (vj54_0 : Int32) (ls : Array Slot) (H : Heap) (locs : List Loc), vj54_0 = (if (if (s_X_guarded v_x v_M v_d v_a v_o v_lo v_hi v_ri) = 0 then (1 : Int32) else (0 : Int32)) = 0 then (if a1 < (v_lo (ix (0 : Int32))) then (0 : Int32) else (if (v_hi (ix (0 : Int32))) ≤ a1 then (0 : Int32) else (if ((v_ri (ix (0 : Int32))) &&& (2 : Int32)) = 0 then (0 : Int32) else (1 : Int32)))) else (1 : Int32)) → lv_has ls 6 [(5, .int (0 : Int32)), (4, .int (if (s_X_guarded v_x v_M v_d v_a v_o v_lo v_hi v_ri) = 0 then (1 : Int32) else (0 : Int32))), (3, .int (if a1 < 0 then (0 : Int32) else (if (512 : Int32) ≤ a1 then (0 : Int32) else (1 : Int32)))), (0, .ref yX), (1, .int a1), (2, .int (1 : Int32))] → va_P D classes [oX yX yM yD yA yO yL yH yI v_x, ar cI yM 512 v_M, ar cI yD 8 v_d, ar cI yA 8 v_a, ar cI yO 4 v_o, ar cI yL 6 v_lo, ar cI yH 6 v_hi, ar cI yI 6 v_ri] H → va_D A [oX yX yM yD yA yO yL yH yI v_x, ar cI yM 512 v_M, ar cI yD 8 v_d, ar cI yA 8 v_a, ar cI yO 4 v_o, ar cI yL 6 v_lo, ar cI yH 6 v_hi, ar cI yI 6 v_ri] → va_S A s.heap H locs → W p l e { frames := 1, cells := 0, slots := 0, locals := 20 } s m args below meth c H locs 0 0 Q (F0 m 104 ls [.int vj54_0]) := by
        intro vj54_0 ls H locs evj54_0 hl hP hD hS
        subst evj54_0
        refine lv_istore (lv' := [(4, .int (if (if (s_X_guarded v_x v_M v_d v_a v_o v_lo v_hi v_ri) = 0 then (1 : Int32) else (0 : Int32)) = 0 then (if a1 < (v_lo (ix (0 : Int32))) then (0 : Int32) else (if (v_hi (ix (0 : Int32))) ≤ a1 then (0 : Int32) else (if ((v_ri (ix (0 : Int32))) &&& (2 : Int32)) = 0 then (0 : Int32) else (1 : Int32)))) else (1 : Int32))), (5, .int (0 : Int32)), (3, .int (if a1 < 0 then (0 : Int32) else (if (512 : Int32) ≤ a1 then (0 : Int32) else (1 : Int32)))), (0, .ref yX), (1, .int a1), (2, .int (1 : Int32))]) hx hb d_X_may_104 hl (by decide) rfl (fun ls hl => ?_)
        refine lv_iinc (v := (1 : Int32)) (lv' := [(5, .int (1 : Int32)), (4, .int (if (if (s_X_guarded v_x v_M v_d v_a v_o v_lo v_hi v_ri) = 0 then (1 : Int32) else (0 : Int32)) = 0 then (if a1 < (v_lo (ix (0 : Int32))) then (0 : Int32) else (if (v_hi (ix (0 : Int32))) ≤ a1 then (0 : Int32) else (if ((v_ri (ix (0 : Int32))) &&& (2 : Int32)) = 0 then (0 : Int32) else (1 : Int32)))) else (1 : Int32))), (3, .int (if a1 < 0 then (0 : Int32) else (if (512 : Int32) ≤ a1 then (0 : Int32) else (1 : Int32)))), (0, .ref yX), (1, .int a1), (2, .int (1 : Int32))]) (k := 1) hx hb d_X_may_106 hl rfl (by decide) (by decide) rfl (fun ls hl => ?_)
        refine lv_goto (tgt := 39) hx hb d_X_may_109 (by decide) ?_
        refine lv_iload hx hb d_X_may_39 (lv_at hl 0 rfl) ?_
        refine lv_iconst (v := (3 : Int32)) hx hb d_X_may_41 (by decide) ?_
        refine lv_aload_n hx hb d_X_may_42 rfl (lv_at hl 3 rfl) ?_
        refine zz_get (C := R_X) (T := F_X) (N := 27) (v := .int (v_x 2)) hx hb hts in_X hown hK hP 0 rfl rfl 6 (by decide) mw_71 rfl d_X_may_43 ?_
        refine lv_topi (fun zz ez => ?_)
        obtain rfl : zz = (0 : Int32) := ez.trans hs
        refine lv_imul hx hb d_X_may_46 ?_
        refine lv_topi (fun zz ez => ?_)
        obtain rfl : zz = (0 : Int32) := ez.trans (by decide)
        refine lv_iconst (v := (2 : Int32)) hx hb d_X_may_47 (by decide) ?_
        refine lv_iadd hx hb d_X_may_48 ?_
        refine lv_topi (fun zz ez => ?_)
        obtain rfl : zz = (2 : Int32) := ez.trans (by decide)
        refine lv_icmp_ge (tgt := 112) hx hb d_X_may_49 (by decide) (fun hh => absurd hh (by decide)) (fun _ => ?_)
        refine lv_iload hx hb d_X_may_52 (lv_at hl 1 rfl) ?_
        have J54_11 : ∀ (vj54_0 : Int32) (ls : Array Slot) (H : Heap) (locs : List Loc), vj54_0 = (if (if (if (s_X_guarded v_x v_M v_d v_a v_o v_lo v_hi v_ri) = 0 then (1 : Int32) else (0 : Int32)) = 0 then (if a1 < (v_lo (ix (0 : Int32))) then (0 : Int32) else (if (v_hi (ix (0 : Int32))) ≤ a1 then (0 : Int32) else (if ((v_ri (ix (0 : Int32))) &&& (2 : Int32)) = 0 then (0 : Int32) else (1 : Int32)))) else (1 : Int32)) = 0 then (if a1 < (v_lo (ix (1 : Int32))) then (0 : Int32) else (if (v_hi (ix (1 : Int32))) ≤ a1 then (0 : Int32) else (if ((v_ri (ix (1 : Int32))) &&& (2 : Int32)) = 0 then (0 : Int32) else (1 : Int32)))) else (1 : Int32)) → lv_has ls 6 [(5, .int (1 : Int32)), (4, .int (if (if (s_X_guarded v_x v_M v_d v_a v_o v_lo v_hi v_ri) = 0 then (1 : Int32) else (0 : Int32)) = 0 then (if a1 < (v_lo (ix (0 : Int32))) then (0 : Int32) else (if (v_hi (ix (0 : Int32))) ≤ a1 then (0 : Int32) else (if ((v_ri (ix (0 : Int32))) &&& (2 : Int32)) = 0 then (0 : Int32) else (1 : Int32)))) else (1 : Int32))), (3, .int (if a1 < 0 then (0 : Int32) else (if (512 : Int32) ≤ a1 then (0 : Int32) else (1 : Int32)))), (0, .ref yX), (1, .int a1), (2, .int (1 : Int32))] → va_P D classes [oX yX yM yD yA yO yL yH yI v_x, ar cI yM 512 v_M, ar cI yD 8 v_d, ar cI yA 8 v_a, ar cI yO 4 v_o, ar cI yL 6 v_lo, ar cI yH 6 v_hi, ar cI yI 6 v_ri] H → va_D A [oX yX yM yD yA yO yL yH yI v_x, ar cI yM 512 v_M, ar cI yD 8 v_d, ar cI yA 8 v_a, ar cI yO 4 v_o, ar cI yL 6 v_lo, ar cI yH 6 v_hi, ar cI yI 6 v_ri] → va_S A s.heap H locs → W p l e { frames := 1, cells := 0, slots := 0, locals := 20 } s m args below meth c H locs 0 0 Q (F0 m 104 ls [.int vj54_0]) := by
          intro vj54_0 ls H locs evj54_0 hl hP hD hS
          subst evj54_0
          refine lv_istore (lv' := [(4, .int (if (if (if (s_X_guarded v_x v_M v_d v_a v_o v_lo v_hi v_ri) = 0 then (1 : Int32) else (0 : Int32)) = 0 then (if a1 < (v_lo (ix (0 : Int32))) then (0 : Int32) else (if (v_hi (ix (0 : Int32))) ≤ a1 then (0 : Int32) else (if ((v_ri (ix (0 : Int32))) &&& (2 : Int32)) = 0 then (0 : Int32) else (1 : Int32)))) else (1 : Int32)) = 0 then (if a1 < (v_lo (ix (1 : Int32))) then (0 : Int32) else (if (v_hi (ix (1 : Int32))) ≤ a1 then (0 : Int32) else (if ((v_ri (ix (1 : Int32))) &&& (2 : Int32)) = 0 then (0 : Int32) else (1 : Int32)))) else (1 : Int32))), (5, .int (1 : Int32)), (3, .int (if a1 < 0 then (0 : Int32) else (if (512 : Int32) ≤ a1 then (0 : Int32) else (1 : Int32)))), (0, .ref yX), (1, .int a1), (2, .int (1 : Int32))]) hx hb d_X_may_104 hl (by decide) rfl (fun ls hl => ?_)
          refine lv_iinc (v := (2 : Int32)) (lv' := [(5, .int (2 : Int32)), (4, .int (if (if (if (s_X_guarded v_x v_M v_d v_a v_o v_lo v_hi v_ri) = 0 then (1 : Int32) else (0 : Int32)) = 0 then (if a1 < (v_lo (ix (0 : Int32))) then (0 : Int32) else (if (v_hi (ix (0 : Int32))) ≤ a1 then (0 : Int32) else (if ((v_ri (ix (0 : Int32))) &&& (2 : Int32)) = 0 then (0 : Int32) else (1 : Int32)))) else (1 : Int32)) = 0 then (if a1 < (v_lo (ix (1 : Int32))) then (0 : Int32) else (if (v_hi (ix (1 : Int32))) ≤ a1 then (0 : Int32) else (if ((v_ri (ix (1 : Int32))) &&& (2 : Int32)) = 0 then (0 : Int32) else (1 : Int32)))) else (1 : Int32))), (3, .int (if a1 < 0 then (0 : Int32) else (if (512 : Int32) ≤ a1 then (0 : Int32) else (1 : Int32)))), (0, .ref yX), (1, .int a1), (2, .int (1 : Int32))]) (k := 1) hx hb d_X_may_106 hl rfl (by decide) (by decide) rfl (fun ls hl => ?_)
          refine lv_goto (tgt := 39) hx hb d_X_may_109 (by decide) ?_
          refine lv_iload hx hb d_X_may_39 (lv_at hl 0 rfl) ?_
          refine lv_iconst (v := (3 : Int32)) hx hb d_X_may_41 (by decide) ?_
          refine lv_aload_n hx hb d_X_may_42 rfl (lv_at hl 3 rfl) ?_
          refine zz_get (C := R_X) (T := F_X) (N := 27) (v := .int (v_x 2)) hx hb hts in_X hown hK hP 0 rfl rfl 6 (by decide) mw_71 rfl d_X_may_43 ?_
          refine lv_topi (fun zz ez => ?_)
          obtain rfl : zz = (0 : Int32) := ez.trans hs
          refine lv_imul hx hb d_X_may_46 ?_
          refine lv_topi (fun zz ez => ?_)
          obtain rfl : zz = (0 : Int32) := ez.trans (by decide)
          refine lv_iconst (v := (2 : Int32)) hx hb d_X_may_47 (by decide) ?_
          refine lv_iadd hx hb d_X_may_48 ?_
          refine lv_topi (fun zz ez => ?_)
          obtain rfl : zz = (2 : Int32) := ez.trans (by decide)
          refine lv_icmp_ge (tgt := 112) hx hb d_X_may_49 (by decide) (fun _ => ?_) (fun hh => absurd hh (by decide))
          refine lv_aload_n hx hb d_X_may_112 rfl (lv_at hl 3 rfl) ?_
          refine lv_iload_n hx hb d_X_may_113 rfl (lv_at hl 2 rfl) ?_
          have J114_13 : ∀ (vj114_0 : Int32) (ls : Array Slot) (H : Heap) (locs : List Loc), vj114_0 = (if (if a1 < 0 then (0 : Int32) else (if (512 : Int32) ≤ a1 then (0 : Int32) else (1 : Int32))) = 0 then (1025 : Int32) else (if (if (if (if (s_X_guarded v_x v_M v_d v_a v_o v_lo v_hi v_ri) = 0 then (1 : Int32) else (0 : Int32)) = 0 then (if a1 < (v_lo (ix (0 : Int32))) then (0 : Int32) else (if (v_hi (ix (0 : Int32))) ≤ a1 then (0 : Int32) else (if ((v_ri (ix (0 : Int32))) &&& (2 : Int32)) = 0 then (0 : Int32) else (1 : Int32)))) else (1 : Int32)) = 0 then (if a1 < (v_lo (ix (1 : Int32))) then (0 : Int32) else (if (v_hi (ix (1 : Int32))) ≤ a1 then (0 : Int32) else (if ((v_ri (ix (1 : Int32))) &&& (2 : Int32)) = 0 then (0 : Int32) else (1 : Int32)))) else (1 : Int32)) = 0 then (259 : Int32) else (v_x 19))) → lv_has ls 6 [(5, .int (2 : Int32)), (4, .int (if (if (if (s_X_guarded v_x v_M v_d v_a v_o v_lo v_hi v_ri) = 0 then (1 : Int32) else (0 : Int32)) = 0 then (if a1 < (v_lo (ix (0 : Int32))) then (0 : Int32) else (if (v_hi (ix (0 : Int32))) ≤ a1 then (0 : Int32) else (if ((v_ri (ix (0 : Int32))) &&& (2 : Int32)) = 0 then (0 : Int32) else (1 : Int32)))) else (1 : Int32)) = 0 then (if a1 < (v_lo (ix (1 : Int32))) then (0 : Int32) else (if (v_hi (ix (1 : Int32))) ≤ a1 then (0 : Int32) else (if ((v_ri (ix (1 : Int32))) &&& (2 : Int32)) = 0 then (0 : Int32) else (1 : Int32)))) else (1 : Int32))), (3, .int (if a1 < 0 then (0 : Int32) else (if (512 : Int32) ≤ a1 then (0 : Int32) else (1 : Int32)))), (0, .ref yX), (1, .int a1), (2, .int (1 : Int32))] → va_P D classes [oX yX yM yD yA yO yL yH yI v_x, ar cI yM 512 v_M, ar cI yD 8 v_d, ar cI yA 8 v_a, ar cI yO 4 v_o, ar cI yL 6 v_lo, ar cI yH 6 v_hi, ar cI yI 6 v_ri] H → va_D A [oX yX yM yD yA yO yL yH yI v_x, ar cI yM 512 v_M, ar cI yD 8 v_d, ar cI yA 8 v_a, ar cI yO 4 v_o, ar cI yL 6 v_lo, ar cI yH 6 v_hi, ar cI yI 6 v_ri] → va_S A s.heap H locs → W p l e { frames := 1, cells := 0, slots := 0, locals := 20 } s m args below meth c H locs 0 0 Q (F0 m 148 ls [.int vj114_0, .ref yX]) := by
            intro vj114_0 ls H locs evj114_0 hl hP hD hS
            subst evj114_0
            refine zz_put (C := R_X) (T := F_X) (N := 27) (w' := [oX yX yM yD yA yO yL yH yI (upd v_x 19 (if (if a1 < 0 then (0 : Int32) else (if (512 : Int32) ≤ a1 then (0 : Int32) else (1 : Int32))) = 0 then (1025 : Int32) else (if (if (if (if (s_X_guarded v_x v_M v_d v_a v_o v_lo v_hi v_ri) = 0 then (1 : Int32) else (0 : Int32)) = 0 then (if a1 < (v_lo (ix (0 : Int32))) then (0 : Int32) else (if (v_hi (ix (0 : Int32))) ≤ a1 then (0 : Int32) else (if ((v_ri (ix (0 : Int32))) &&& (2 : Int32)) = 0 then (0 : Int32) else (1 : Int32)))) else (1 : Int32)) = 0 then (if a1 < (v_lo (ix (1 : Int32))) then (0 : Int32) else (if (v_hi (ix (1 : Int32))) ≤ a1 then (0 : Int32) else (if ((v_ri (ix (1 : Int32))) &&& (2 : Int32)) = 0 then (0 : Int32) else (1 : Int32)))) else (1 : Int32)) = 0 then (259 : Int32) else (v_x 19)))), ar cI yM 512 v_M, ar cI yD 8 v_d, ar cI yA 8 v_a, ar cI yO 4 v_o, ar cI yL 6 v_lo, ar cI yH 6 v_hi, ar cI yI 6 v_ri]) hx hb hts in_X ty_X ty_X_ok n_X hown hK hP hD hS 0 rfl rfl 26 (by decide) mw_79 rfl rfl rfl (Nat.le_of_ble_eq_true rfl) d_X_may_148 rfl (fun H locs hP hD hS => ?_)
            refine lv_iload_n hx hb d_X_may_151 rfl (lv_at hl 2 rfl) ?_
            refine lv_if_eq (tgt := 164) hx hb d_X_may_152 (by decide) (fun h14 => ?_) (fun h14 => ?_)
            ·
              refine lv_iconst (v := (0 : Int32)) hx hb d_X_may_164 (by decide) ?_
              have hsp : s_X_mayW0 v_x v_M v_d v_a v_o v_lo v_hi v_ri a1 = ((0 : Int32), upd v_x 19 (if (if a1 < 0 then (0 : Int32) else (if (512 : Int32) ≤ a1 then (0 : Int32) else (1 : Int32))) = 0 then (1025 : Int32) else (if (if (if (if (s_X_guarded v_x v_M v_d v_a v_o v_lo v_hi v_ri) = 0 then (1 : Int32) else (0 : Int32)) = 0 then (if a1 < (v_lo (ix (0 : Int32))) then (0 : Int32) else (if (v_hi (ix (0 : Int32))) ≤ a1 then (0 : Int32) else (if ((v_ri (ix (0 : Int32))) &&& (2 : Int32)) = 0 then (0 : Int32) else (1 : Int32)))) else (1 : Int32)) = 0 then (if a1 < (v_lo (ix (1 : Int32))) then (0 : Int32) else (if (v_hi (ix (1 : Int32))) ≤ a1 then (0 : Int32) else (if ((v_ri (ix (1 : Int32))) &&& (2 : Int32)) = 0 then (0 : Int32) else (1 : Int32)))) else (1 : Int32)) = 0 then (259 : Int32) else (v_x 19)))) := (by unfold s_X_mayW0; rw [if_pos h14])
              rw [hsp] at hE
              exact hE _ _ _ _ hP hD hS d_X_may_165
            ·
              refine lv_iload hx hb d_X_may_155 (lv_at hl 1 rfl) ?_
              refine lv_if_eq (tgt := 164) hx hb d_X_may_157 (by decide) (fun h15 => ?_) (fun h15 => ?_)
              ·
                refine lv_iconst (v := (0 : Int32)) hx hb d_X_may_164 (by decide) ?_
                have hsp : s_X_mayW0 v_x v_M v_d v_a v_o v_lo v_hi v_ri a1 = ((0 : Int32), upd v_x 19 (if (if a1 < 0 then (0 : Int32) else (if (512 : Int32) ≤ a1 then (0 : Int32) else (1 : Int32))) = 0 then (1025 : Int32) else (if (if (if (if (s_X_guarded v_x v_M v_d v_a v_o v_lo v_hi v_ri) = 0 then (1 : Int32) else (0 : Int32)) = 0 then (if a1 < (v_lo (ix (0 : Int32))) then (0 : Int32) else (if (v_hi (ix (0 : Int32))) ≤ a1 then (0 : Int32) else (if ((v_ri (ix (0 : Int32))) &&& (2 : Int32)) = 0 then (0 : Int32) else (1 : Int32)))) else (1 : Int32)) = 0 then (if a1 < (v_lo (ix (1 : Int32))) then (0 : Int32) else (if (v_hi (ix (1 : Int32))) ≤ a1 then (0 : Int32) else (if ((v_ri (ix (1 : Int32))) &&& (2 : Int32)) = 0 then (0 : Int32) else (1 : Int32)))) else (1 : Int32)) = 0 then (259 : Int32) else (v_x 19)))) := (by unfold s_X_mayW0; rw [if_neg h14, if_pos h15])
                rw [hsp] at hE
                exact hE _ _ _ _ hP hD hS d_X_may_165
              ·
                refine lv_iconst (v := (1 : Int32)) hx hb d_X_may_160 (by decide) ?_
                refine lv_goto (tgt := 165) hx hb d_X_may_161 (by decide) ?_
                have hsp : s_X_mayW0 v_x v_M v_d v_a v_o v_lo v_hi v_ri a1 = ((1 : Int32), upd v_x 19 (if (if a1 < 0 then (0 : Int32) else (if (512 : Int32) ≤ a1 then (0 : Int32) else (1 : Int32))) = 0 then (1025 : Int32) else (if (if (if (if (s_X_guarded v_x v_M v_d v_a v_o v_lo v_hi v_ri) = 0 then (1 : Int32) else (0 : Int32)) = 0 then (if a1 < (v_lo (ix (0 : Int32))) then (0 : Int32) else (if (v_hi (ix (0 : Int32))) ≤ a1 then (0 : Int32) else (if ((v_ri (ix (0 : Int32))) &&& (2 : Int32)) = 0 then (0 : Int32) else (1 : Int32)))) else (1 : Int32)) = 0 then (if a1 < (v_lo (ix (1 : Int32))) then (0 : Int32) else (if (v_hi (ix (1 : Int32))) ≤ a1 then (0 : Int32) else (if ((v_ri (ix (1 : Int32))) &&& (2 : Int32)) = 0 then (0 : Int32) else (1 : Int32)))) else (1 : Int32)) = 0 then (259 : Int32) else (v_x 19)))) := (by unfold s_X_mayW0; rw [if_neg h14, if_neg h15])
                rw [hsp] at hE
                exact hE _ _ _ _ hP hD hS d_X_may_165
          refine lv_if_ne (tgt := 123) hx hb d_X_may_114 (by decide) (fun h12 => ?_) (fun h12 => ?_)
          ·
            refine lv_iload hx hb d_X_may_123 (lv_at hl 1 rfl) ?_
            refine lv_if_ne (tgt := 144) hx hb d_X_may_125 (by decide) (fun h13 => ?_) (fun h13 => ?_)
            ·
              refine lv_aload_n hx hb d_X_may_144 rfl (lv_at hl 3 rfl) ?_
              refine zz_get (C := R_X) (T := F_X) (N := 27) (v := .int (v_x 19)) hx hb hts in_X hown hK hP 0 rfl rfl 26 (by decide) mw_79 rfl d_X_may_145 ?_
              exact J114_13 (v_x 19) _ _ _ (by rw [if_neg h12, if_neg h13]) (lv_sub hl [0, 1, 2, 3, 4, 5] rfl) hP hD hS
            ·
              refine lv_iload_n hx hb d_X_may_128 rfl (lv_at hl 5 rfl) ?_
              refine lv_if_eq (tgt := 138) hx hb d_X_may_129 (by decide) (fun hh => absurd hh (by decide)) (fun _ => ?_)
              refine lv_sipush (v := (259 : Int32)) hx hb d_X_may_132 (by decide) ?_
              refine lv_goto (tgt := 148) hx hb d_X_may_135 (by decide) ?_
              exact J114_13 (259 : Int32) _ _ _ (by rw [if_neg h12, if_pos h13]) (lv_sub hl [0, 1, 2, 3, 4, 5] rfl) hP hD hS
          ·
            refine lv_sipush (v := (1025 : Int32)) hx hb d_X_may_117 (by decide) ?_
            refine lv_goto (tgt := 148) hx hb d_X_may_120 (by decide) ?_
            exact J114_13 (1025 : Int32) _ _ _ (by rw [if_pos h12]) (lv_sub hl [0, 1, 2, 3, 4, 5] rfl) hP hD hS
        refine lv_if_ne (tgt := 99) hx hb d_X_may_54 (by decide) (fun h8 => ?_) (fun h8 => ?_)
        ·
          refine lv_iconst (v := (1 : Int32)) hx hb d_X_may_99 (by decide) ?_
          refine lv_goto (tgt := 104) hx hb d_X_may_100 (by decide) ?_
          exact J54_11 (1 : Int32) _ _ _ (by rw [if_neg h8]) (lv_sub hl [0, 1, 2, 3, 4, 5] rfl) hP hD hS
        ·
          refine lv_iload_n hx hb d_X_may_57 rfl (lv_at hl 4 rfl) ?_
          refine lv_aload_n hx hb d_X_may_58 rfl (lv_at hl 3 rfl) ?_
          refine zz_get (C := R_X) (T := F_X) (N := 27) (v := .ref yL) hx hb hts in_X hown hK hP 0 rfl rfl 18 (by decide) mw_85 rfl d_X_may_59 ?_
          refine lv_iload hx hb d_X_may_62 (lv_at hl 0 rfl) ?_
          refine va_iald hx hb hK hP 5 0 rfl rfl (zz_inc (by decide)) d_X_may_64 ?_
          refine lv_icmp_lt (tgt := 103) hx hb d_X_may_65 (by decide) (fun h9 => ?_) (fun h9 => ?_)
          ·
            refine lv_iconst (v := (0 : Int32)) hx hb d_X_may_103 (by decide) ?_
            exact J54_11 (0 : Int32) _ _ _ (by rw [if_pos h8, if_pos h9]) (lv_sub hl [0, 1, 2, 3, 4, 5] rfl) hP hD hS
          ·
            refine lv_iload_n hx hb d_X_may_68 rfl (lv_at hl 4 rfl) ?_
            refine lv_aload_n hx hb d_X_may_69 rfl (lv_at hl 3 rfl) ?_
            refine zz_get (C := R_X) (T := F_X) (N := 27) (v := .ref yH) hx hb hts in_X hown hK hP 0 rfl rfl 19 (by decide) mw_86 rfl d_X_may_70 ?_
            refine lv_iload hx hb d_X_may_73 (lv_at hl 0 rfl) ?_
            refine va_iald hx hb hK hP 6 0 rfl rfl (zz_inc (by decide)) d_X_may_75 ?_
            refine lv_icmp_ge (tgt := 103) hx hb d_X_may_76 (by decide) (fun h10 => ?_) (fun h10 => ?_)
            ·
              refine lv_iconst (v := (0 : Int32)) hx hb d_X_may_103 (by decide) ?_
              exact J54_11 (0 : Int32) _ _ _ (by rw [if_pos h8, if_neg h9, if_pos h10]) (lv_sub hl [0, 1, 2, 3, 4, 5] rfl) hP hD hS
            ·
              refine lv_aload_n hx hb d_X_may_79 rfl (lv_at hl 3 rfl) ?_
              refine zz_get (C := R_X) (T := F_X) (N := 27) (v := .ref yI) hx hb hts in_X hown hK hP 0 rfl rfl 20 (by decide) mw_87 rfl d_X_may_80 ?_
              refine lv_iload hx hb d_X_may_83 (lv_at hl 0 rfl) ?_
              refine va_iald hx hb hK hP 7 0 rfl rfl (zz_inc (by decide)) d_X_may_85 ?_
              refine lv_iload_n hx hb d_X_may_86 rfl (lv_at hl 5 rfl) ?_
              refine lv_if_eq (tgt := 94) hx hb d_X_may_87 (by decide) (fun hh => absurd hh (by decide)) (fun _ => ?_)
              refine lv_iconst (v := (2 : Int32)) hx hb d_X_may_90 (by decide) ?_
              refine lv_goto (tgt := 95) hx hb d_X_may_91 (by decide) ?_
              refine lv_iand hx hb d_X_may_95 ?_
              refine lv_if_eq (tgt := 103) hx hb d_X_may_96 (by decide) (fun h11 => ?_) (fun h11 => ?_)
              ·
                refine lv_iconst (v := (0 : Int32)) hx hb d_X_may_103 (by decide) ?_
                exact J54_11 (0 : Int32) _ _ _ (by rw [if_pos h8, if_neg h9, if_neg h10, if_pos h11]) (lv_sub hl [0, 1, 2, 3, 4, 5] rfl) hP hD hS
              ·
                refine lv_iconst (v := (1 : Int32)) hx hb d_X_may_99 (by decide) ?_
                refine lv_goto (tgt := 104) hx hb d_X_may_100 (by decide) ?_
                exact J54_11 (1 : Int32) _ _ _ (by rw [if_pos h8, if_neg h9, if_neg h10, if_neg h11]) (lv_sub hl [0, 1, 2, 3, 4, 5] rfl) hP hD hS
      refine lv_if_ne (tgt := 99) hx hb d_X_may_54 (by decide) (fun h4 => ?_) (fun h4 => ?_)
      ·
        refine lv_iconst (v := (1 : Int32)) hx hb d_X_may_99 (by decide) ?_
        refine lv_goto (tgt := 104) hx hb d_X_may_100 (by decide) ?_
        exact J54_7 (1 : Int32) _ _ _ (by rw [if_neg h4]) (lv_sub hl [0, 1, 2, 3, 4, 5] rfl) hP hD hS
      ·
        refine lv_iload_n hx hb d_X_may_57 rfl (lv_at hl 4 rfl) ?_
        refine lv_aload_n hx hb d_X_may_58 rfl (lv_at hl 3 rfl) ?_
        refine zz_get (C := R_X) (T := F_X) (N := 27) (v := .ref yL) hx hb hts in_X hown hK hP 0 rfl rfl 18 (by decide) mw_85 rfl d_X_may_59 ?_
        refine lv_iload hx hb d_X_may_62 (lv_at hl 0 rfl) ?_
        refine va_iald hx hb hK hP 5 0 rfl rfl (zz_inc (by decide)) d_X_may_64 ?_
        refine lv_icmp_lt (tgt := 103) hx hb d_X_may_65 (by decide) (fun h5 => ?_) (fun h5 => ?_)
        ·
          refine lv_iconst (v := (0 : Int32)) hx hb d_X_may_103 (by decide) ?_
          exact J54_7 (0 : Int32) _ _ _ (by rw [if_pos h4, if_pos h5]) (lv_sub hl [0, 1, 2, 3, 4, 5] rfl) hP hD hS
        ·
          refine lv_iload_n hx hb d_X_may_68 rfl (lv_at hl 4 rfl) ?_
          refine lv_aload_n hx hb d_X_may_69 rfl (lv_at hl 3 rfl) ?_
          refine zz_get (C := R_X) (T := F_X) (N := 27) (v := .ref yH) hx hb hts in_X hown hK hP 0 rfl rfl 19 (by decide) mw_86 rfl d_X_may_70 ?_
          refine lv_iload hx hb d_X_may_73 (lv_at hl 0 rfl) ?_
          refine va_iald hx hb hK hP 6 0 rfl rfl (zz_inc (by decide)) d_X_may_75 ?_
          refine lv_icmp_ge (tgt := 103) hx hb d_X_may_76 (by decide) (fun h6 => ?_) (fun h6 => ?_)
          ·
            refine lv_iconst (v := (0 : Int32)) hx hb d_X_may_103 (by decide) ?_
            exact J54_7 (0 : Int32) _ _ _ (by rw [if_pos h4, if_neg h5, if_pos h6]) (lv_sub hl [0, 1, 2, 3, 4, 5] rfl) hP hD hS
          ·
            refine lv_aload_n hx hb d_X_may_79 rfl (lv_at hl 3 rfl) ?_
            refine zz_get (C := R_X) (T := F_X) (N := 27) (v := .ref yI) hx hb hts in_X hown hK hP 0 rfl rfl 20 (by decide) mw_87 rfl d_X_may_80 ?_
            refine lv_iload hx hb d_X_may_83 (lv_at hl 0 rfl) ?_
            refine va_iald hx hb hK hP 7 0 rfl rfl (zz_inc (by decide)) d_X_may_85 ?_
            refine lv_iload_n hx hb d_X_may_86 rfl (lv_at hl 5 rfl) ?_
            refine lv_if_eq (tgt := 94) hx hb d_X_may_87 (by decide) (fun hh => absurd hh (by decide)) (fun _ => ?_)
            refine lv_iconst (v := (2 : Int32)) hx hb d_X_may_90 (by decide) ?_
            refine lv_goto (tgt := 95) hx hb d_X_may_91 (by decide) ?_
            refine lv_iand hx hb d_X_may_95 ?_
            refine lv_if_eq (tgt := 103) hx hb d_X_may_96 (by decide) (fun h7 => ?_) (fun h7 => ?_)
            ·
              refine lv_iconst (v := (0 : Int32)) hx hb d_X_may_103 (by decide) ?_
              exact J54_7 (0 : Int32) _ _ _ (by rw [if_pos h4, if_neg h5, if_neg h6, if_pos h7]) (lv_sub hl [0, 1, 2, 3, 4, 5] rfl) hP hD hS
            ·
              refine lv_iconst (v := (1 : Int32)) hx hb d_X_may_99 (by decide) ?_
              refine lv_goto (tgt := 104) hx hb d_X_may_100 (by decide) ?_
              exact J54_7 (1 : Int32) _ _ _ (by rw [if_pos h4, if_neg h5, if_neg h6, if_neg h7]) (lv_sub hl [0, 1, 2, 3, 4, 5] rfl) hP hD hS
    refine lv_if_ne (tgt := 28) hx hb d_X_may_21 (by decide) (fun h3 => ?_) (fun h3 => ?_)
    ·
      refine lv_iconst (v := (0 : Int32)) hx hb d_X_may_28 (by decide) ?_
      exact J21_3 (0 : Int32) _ _ _ (by rw [if_neg h3]) (lv_sub hl [0, 1, 2, 3] rfl) hP hD hS
    ·
      refine lv_iconst (v := (1 : Int32)) hx hb d_X_may_24 (by decide) ?_
      refine lv_goto (tgt := 29) hx hb d_X_may_25 (by decide) ?_
      exact J21_3 (1 : Int32) _ _ _ (by rw [if_pos h3]) (lv_sub hl [0, 1, 2, 3] rfl) hP hD hS
  refine lv_if_lt (tgt := 15) hx hb d_X_may_1 (by decide) (fun h1 => ?_) (fun h1 => ?_)
  ·
    refine lv_iconst (v := (0 : Int32)) hx hb d_X_may_15 (by decide) ?_
    exact J1_2 (0 : Int32) _ _ _ (by rw [if_pos h1]) (lv_sub hl [0, 1, 2] rfl) hP hD hS
  ·
    refine lv_iload_n hx hb d_X_may_4 rfl (lv_at hl 1 rfl) ?_
    refine lv_sipush (v := (512 : Int32)) hx hb d_X_may_5 (by decide) ?_
    refine lv_icmp_ge (tgt := 15) hx hb d_X_may_8 (by decide) (fun h2 => ?_) (fun h2 => ?_)
    ·
      refine lv_iconst (v := (0 : Int32)) hx hb d_X_may_15 (by decide) ?_
      exact J1_2 (0 : Int32) _ _ _ (by rw [if_neg h1, if_pos h2]) (lv_sub hl [0, 1, 2] rfl) hP hD hS
    ·
      refine lv_iconst (v := (1 : Int32)) hx hb d_X_may_11 (by decide) ?_
      refine lv_goto (tgt := 16) hx hb d_X_may_12 (by decide) ?_
      exact J1_2 (1 : Int32) _ _ _ (by rw [if_neg h1, if_neg h2]) (lv_sub hl [0, 1, 2] rfl) hP hD hS
set_option maxHeartbeats 4000000 in
set_option maxRecDepth 100000 in
theorem k_X_mayW1 (l : Launch) (D : va_G) (cI : ClassId) (sz : Nat) (yX : Nat) (yM : Nat) (yD : Nat) (yA : Nat) (yO : Nat) (yL : Nat) (yH : Nat) (yI : Nat) (v_x : Nat → Int32) (v_M : Nat → Int32) (v_d : Nat → Int32) (v_a : Nat → Int32) (v_o : Nat → Int32) (v_lo : Nat → Int32) (v_hi : Nat → Int32) (v_ri : Nat → Int32) (a1 : Int32) (hs : v_x 2 = (1 : Int32)) : zMi l y_X_may (.code y_X_may b_X_may 6 (some .boolean) :: wd) { frames := 1, cells := 0, slots := 0, locals := 20 } D classes [(cI, .int)] [.ref yX, .int a1, .int (1 : Int32)] [oX yX yM yD yA yO yL yH yI v_x, ar cI yM 512 v_M, ar cI yD 8 v_d, ar cI yA 8 v_a, ar cI yO 4 v_o, ar cI yL 6 v_lo, ar cI yH 6 v_hi, ar cI yI 6 v_ri] [oX yX yM yD yA yO yL yH yI ((s_X_mayW1 v_x v_M v_d v_a v_o v_lo v_hi v_ri a1).2), ar cI yM 512 v_M, ar cI yD 8 v_d, ar cI yA 8 v_a, ar cI yO 4 v_o, ar cI yL 6 v_lo, ar cI yH 6 v_hi, ar cI yI 6 v_ri] sz (s_X_mayW1 v_x v_M v_d v_a v_o v_lo v_hi v_ri a1).1 := by
  refine met_i (by decide) (Nat.le_of_ble_eq_true rfl) (zz_nar (bo_X_mayW1 v_x v_M v_d v_a v_o v_lo v_hi v_ri a1)) ?_
  intro p e s m args below meth c A Q ls hx hb hml hown hts hK hP hD hS hA hl hE
  have hl : lv_has ls 6 [(0, .ref yX), (1, .int a1), (2, .int (1 : Int32))] := hl
  have hown : s.vm.findClass R_X = some m.cls := hown
  refine lv_iload_n hx hb d_X_may_0 rfl (lv_at hl 1 rfl) ?_
  have J1_2 : ∀ (vj1_0 : Int32) (ls : Array Slot) (H : Heap) (locs : List Loc), vj1_0 = (if a1 < 0 then (0 : Int32) else (if (512 : Int32) ≤ a1 then (0 : Int32) else (1 : Int32))) → lv_has ls 6 [(0, .ref yX), (1, .int a1), (2, .int (1 : Int32))] → va_P D classes [oX yX yM yD yA yO yL yH yI v_x, ar cI yM 512 v_M, ar cI yD 8 v_d, ar cI yA 8 v_a, ar cI yO 4 v_o, ar cI yL 6 v_lo, ar cI yH 6 v_hi, ar cI yI 6 v_ri] H → va_D A [oX yX yM yD yA yO yL yH yI v_x, ar cI yM 512 v_M, ar cI yD 8 v_d, ar cI yA 8 v_a, ar cI yO 4 v_o, ar cI yL 6 v_lo, ar cI yH 6 v_hi, ar cI yI 6 v_ri] → va_S A s.heap H locs → W p l e { frames := 1, cells := 0, slots := 0, locals := 20 } s m args below meth c H locs 0 0 Q (F0 m 16 ls [.int vj1_0]) := by
    intro vj1_0 ls H locs evj1_0 hl hP hD hS
    subst evj1_0
    refine lv_istore_n (lv' := [(3, .int (if a1 < 0 then (0 : Int32) else (if (512 : Int32) ≤ a1 then (0 : Int32) else (1 : Int32)))), (0, .ref yX), (1, .int a1), (2, .int (1 : Int32))]) hx hb d_X_may_16 rfl hl (by decide) rfl (fun ls hl => ?_)
    refine lv_aload_n hx hb d_X_may_17 rfl (lv_at hl 1 rfl) ?_
    refine zz_rVi (rest := []) ⟨hx, hb, hml, hown, hts⟩ (k_X_guarded l D cI _ yX yM yD yA yO yL yH yI v_x v_M v_d v_a v_o v_lo v_hi v_ri) g_X_may_X_guarded_94 nv_X_guarded ⟨⟨rfl, rfl⟩, Nat.le_of_ble_eq_true rfl, Nat.le_of_ble_eq_true rfl⟩ hK [0] rfl hP hD hS hA [0, 1, 2, 3, 4, 5, 6, 7] rfl rfl 0 6 rfl rfl rfl rfl hl.1 (Nat.le_of_ble_eq_true rfl) d_X_may_18 ⟨Nat.zero_le _, Nat.zero_le _⟩ (fun H locs hP hD hS => ?_)
    have J21_3 : ∀ (vj21_0 : Int32) (ls : Array Slot) (H : Heap) (locs : List Loc), vj21_0 = (if (s_X_guarded v_x v_M v_d v_a v_o v_lo v_hi v_ri) = 0 then (1 : Int32) else (0 : Int32)) → lv_has ls 6 [(3, .int (if a1 < 0 then (0 : Int32) else (if (512 : Int32) ≤ a1 then (0 : Int32) else (1 : Int32)))), (0, .ref yX), (1, .int a1), (2, .int (1 : Int32))] → va_P D classes [oX yX yM yD yA yO yL yH yI v_x, ar cI yM 512 v_M, ar cI yD 8 v_d, ar cI yA 8 v_a, ar cI yO 4 v_o, ar cI yL 6 v_lo, ar cI yH 6 v_hi, ar cI yI 6 v_ri] H → va_D A [oX yX yM yD yA yO yL yH yI v_x, ar cI yM 512 v_M, ar cI yD 8 v_d, ar cI yA 8 v_a, ar cI yO 4 v_o, ar cI yL 6 v_lo, ar cI yH 6 v_hi, ar cI yI 6 v_ri] → va_S A s.heap H locs → W p l e { frames := 1, cells := 0, slots := 0, locals := 20 } s m args below meth c H locs 0 0 Q (F0 m 29 ls [.int vj21_0]) := by
      intro vj21_0 ls H locs evj21_0 hl hP hD hS
      subst evj21_0
      refine lv_istore (lv' := [(4, .int (if (s_X_guarded v_x v_M v_d v_a v_o v_lo v_hi v_ri) = 0 then (1 : Int32) else (0 : Int32))), (3, .int (if a1 < 0 then (0 : Int32) else (if (512 : Int32) ≤ a1 then (0 : Int32) else (1 : Int32)))), (0, .ref yX), (1, .int a1), (2, .int (1 : Int32))]) hx hb d_X_may_29 hl (by decide) rfl (fun ls hl => ?_)
      refine lv_iconst (v := (3 : Int32)) hx hb d_X_may_31 (by decide) ?_
      refine lv_aload_n hx hb d_X_may_32 rfl (lv_at hl 2 rfl) ?_
      refine zz_get (C := R_X) (T := F_X) (N := 27) (v := .int (v_x 2)) hx hb hts in_X hown hK hP 0 rfl rfl 6 (by decide) mw_71 rfl d_X_may_33 ?_
      refine lv_topi (fun zz ez => ?_)
      obtain rfl : zz = (1 : Int32) := ez.trans hs
      refine lv_imul hx hb d_X_may_36 ?_
      refine lv_topi (fun zz ez => ?_)
      obtain rfl : zz = (3 : Int32) := ez.trans (by decide)
      refine lv_istore (lv' := [(5, .int (3 : Int32)), (4, .int (if (s_X_guarded v_x v_M v_d v_a v_o v_lo v_hi v_ri) = 0 then (1 : Int32) else (0 : Int32))), (3, .int (if a1 < 0 then (0 : Int32) else (if (512 : Int32) ≤ a1 then (0 : Int32) else (1 : Int32)))), (0, .ref yX), (1, .int a1), (2, .int (1 : Int32))]) hx hb d_X_may_37 hl (by decide) rfl (fun ls hl => ?_)
      refine lv_iload hx hb d_X_may_39 (lv_at hl 0 rfl) ?_
      refine lv_iconst (v := (3 : Int32)) hx hb d_X_may_41 (by decide) ?_
      refine lv_aload_n hx hb d_X_may_42 rfl (lv_at hl 3 rfl) ?_
      refine zz_get (C := R_X) (T := F_X) (N := 27) (v := .int (v_x 2)) hx hb hts in_X hown hK hP 0 rfl rfl 6 (by decide) mw_71 rfl d_X_may_43 ?_
      refine lv_topi (fun zz ez => ?_)
      obtain rfl : zz = (1 : Int32) := ez.trans hs
      refine lv_imul hx hb d_X_may_46 ?_
      refine lv_topi (fun zz ez => ?_)
      obtain rfl : zz = (3 : Int32) := ez.trans (by decide)
      show W p l e _ s m args below meth c _ _ _ _ Q (F0 m 47 ls _)
      refine lv_iconst (v := (2 : Int32)) hx hb d_X_may_47 (by decide) ?_
      refine lv_iadd hx hb d_X_may_48 ?_
      refine lv_topi (fun zz ez => ?_)
      obtain rfl : zz = (5 : Int32) := ez.trans (by decide)
      refine lv_icmp_ge (tgt := 112) hx hb d_X_may_49 (by decide) (fun hh => absurd hh (by decide)) (fun _ => ?_)
      refine lv_iload hx hb d_X_may_52 (lv_at hl 1 rfl) ?_
      have J54_7 : ∀ (vj54_0 : Int32) (ls : Array Slot) (H : Heap) (locs : List Loc), vj54_0 = (if (if (s_X_guarded v_x v_M v_d v_a v_o v_lo v_hi v_ri) = 0 then (1 : Int32) else (0 : Int32)) = 0 then (if a1 < (v_lo (ix (3 : Int32))) then (0 : Int32) else (if (v_hi (ix (3 : Int32))) ≤ a1 then (0 : Int32) else (if ((v_ri (ix (3 : Int32))) &&& (2 : Int32)) = 0 then (0 : Int32) else (1 : Int32)))) else (1 : Int32)) → lv_has ls 6 [(5, .int (3 : Int32)), (4, .int (if (s_X_guarded v_x v_M v_d v_a v_o v_lo v_hi v_ri) = 0 then (1 : Int32) else (0 : Int32))), (3, .int (if a1 < 0 then (0 : Int32) else (if (512 : Int32) ≤ a1 then (0 : Int32) else (1 : Int32)))), (0, .ref yX), (1, .int a1), (2, .int (1 : Int32))] → va_P D classes [oX yX yM yD yA yO yL yH yI v_x, ar cI yM 512 v_M, ar cI yD 8 v_d, ar cI yA 8 v_a, ar cI yO 4 v_o, ar cI yL 6 v_lo, ar cI yH 6 v_hi, ar cI yI 6 v_ri] H → va_D A [oX yX yM yD yA yO yL yH yI v_x, ar cI yM 512 v_M, ar cI yD 8 v_d, ar cI yA 8 v_a, ar cI yO 4 v_o, ar cI yL 6 v_lo, ar cI yH 6 v_hi, ar cI yI 6 v_ri] → va_S A s.heap H locs → W p l e { frames := 1, cells := 0, slots := 0, locals := 20 } s m args below meth c H locs 0 0 Q (F0 m 104 ls [.int vj54_0]) := by
        intro vj54_0 ls H locs evj54_0 hl hP hD hS
        subst evj54_0
        refine lv_istore (lv' := [(4, .int (if (if (s_X_guarded v_x v_M v_d v_a v_o v_lo v_hi v_ri) = 0 then (1 : Int32) else (0 : Int32)) = 0 then (if a1 < (v_lo (ix (3 : Int32))) then (0 : Int32) else (if (v_hi (ix (3 : Int32))) ≤ a1 then (0 : Int32) else (if ((v_ri (ix (3 : Int32))) &&& (2 : Int32)) = 0 then (0 : Int32) else (1 : Int32)))) else (1 : Int32))), (5, .int (3 : Int32)), (3, .int (if a1 < 0 then (0 : Int32) else (if (512 : Int32) ≤ a1 then (0 : Int32) else (1 : Int32)))), (0, .ref yX), (1, .int a1), (2, .int (1 : Int32))]) hx hb d_X_may_104 hl (by decide) rfl (fun ls hl => ?_)
        refine lv_iinc (v := (4 : Int32)) (lv' := [(5, .int (4 : Int32)), (4, .int (if (if (s_X_guarded v_x v_M v_d v_a v_o v_lo v_hi v_ri) = 0 then (1 : Int32) else (0 : Int32)) = 0 then (if a1 < (v_lo (ix (3 : Int32))) then (0 : Int32) else (if (v_hi (ix (3 : Int32))) ≤ a1 then (0 : Int32) else (if ((v_ri (ix (3 : Int32))) &&& (2 : Int32)) = 0 then (0 : Int32) else (1 : Int32)))) else (1 : Int32))), (3, .int (if a1 < 0 then (0 : Int32) else (if (512 : Int32) ≤ a1 then (0 : Int32) else (1 : Int32)))), (0, .ref yX), (1, .int a1), (2, .int (1 : Int32))]) (k := 1) hx hb d_X_may_106 hl rfl (by decide) (by decide) rfl (fun ls hl => ?_)
        refine lv_goto (tgt := 39) hx hb d_X_may_109 (by decide) ?_
        refine lv_iload hx hb d_X_may_39 (lv_at hl 0 rfl) ?_
        refine lv_iconst (v := (3 : Int32)) hx hb d_X_may_41 (by decide) ?_
        refine lv_aload_n hx hb d_X_may_42 rfl (lv_at hl 3 rfl) ?_
        refine zz_get (C := R_X) (T := F_X) (N := 27) (v := .int (v_x 2)) hx hb hts in_X hown hK hP 0 rfl rfl 6 (by decide) mw_71 rfl d_X_may_43 ?_
        refine lv_topi (fun zz ez => ?_)
        obtain rfl : zz = (1 : Int32) := ez.trans hs
        refine lv_imul hx hb d_X_may_46 ?_
        refine lv_topi (fun zz ez => ?_)
        obtain rfl : zz = (3 : Int32) := ez.trans (by decide)
        refine lv_iconst (v := (2 : Int32)) hx hb d_X_may_47 (by decide) ?_
        refine lv_iadd hx hb d_X_may_48 ?_
        refine lv_topi (fun zz ez => ?_)
        obtain rfl : zz = (5 : Int32) := ez.trans (by decide)
        refine lv_icmp_ge (tgt := 112) hx hb d_X_may_49 (by decide) (fun hh => absurd hh (by decide)) (fun _ => ?_)
        refine lv_iload hx hb d_X_may_52 (lv_at hl 1 rfl) ?_
        have J54_11 : ∀ (vj54_0 : Int32) (ls : Array Slot) (H : Heap) (locs : List Loc), vj54_0 = (if (if (if (s_X_guarded v_x v_M v_d v_a v_o v_lo v_hi v_ri) = 0 then (1 : Int32) else (0 : Int32)) = 0 then (if a1 < (v_lo (ix (3 : Int32))) then (0 : Int32) else (if (v_hi (ix (3 : Int32))) ≤ a1 then (0 : Int32) else (if ((v_ri (ix (3 : Int32))) &&& (2 : Int32)) = 0 then (0 : Int32) else (1 : Int32)))) else (1 : Int32)) = 0 then (if a1 < (v_lo (ix (4 : Int32))) then (0 : Int32) else (if (v_hi (ix (4 : Int32))) ≤ a1 then (0 : Int32) else (if ((v_ri (ix (4 : Int32))) &&& (2 : Int32)) = 0 then (0 : Int32) else (1 : Int32)))) else (1 : Int32)) → lv_has ls 6 [(5, .int (4 : Int32)), (4, .int (if (if (s_X_guarded v_x v_M v_d v_a v_o v_lo v_hi v_ri) = 0 then (1 : Int32) else (0 : Int32)) = 0 then (if a1 < (v_lo (ix (3 : Int32))) then (0 : Int32) else (if (v_hi (ix (3 : Int32))) ≤ a1 then (0 : Int32) else (if ((v_ri (ix (3 : Int32))) &&& (2 : Int32)) = 0 then (0 : Int32) else (1 : Int32)))) else (1 : Int32))), (3, .int (if a1 < 0 then (0 : Int32) else (if (512 : Int32) ≤ a1 then (0 : Int32) else (1 : Int32)))), (0, .ref yX), (1, .int a1), (2, .int (1 : Int32))] → va_P D classes [oX yX yM yD yA yO yL yH yI v_x, ar cI yM 512 v_M, ar cI yD 8 v_d, ar cI yA 8 v_a, ar cI yO 4 v_o, ar cI yL 6 v_lo, ar cI yH 6 v_hi, ar cI yI 6 v_ri] H → va_D A [oX yX yM yD yA yO yL yH yI v_x, ar cI yM 512 v_M, ar cI yD 8 v_d, ar cI yA 8 v_a, ar cI yO 4 v_o, ar cI yL 6 v_lo, ar cI yH 6 v_hi, ar cI yI 6 v_ri] → va_S A s.heap H locs → W p l e { frames := 1, cells := 0, slots := 0, locals := 20 } s m args below meth c H locs 0 0 Q (F0 m 104 ls [.int vj54_0]) := by
          intro vj54_0 ls H locs evj54_0 hl hP hD hS
          subst evj54_0
          refine lv_istore (lv' := [(4, .int (if (if (if (s_X_guarded v_x v_M v_d v_a v_o v_lo v_hi v_ri) = 0 then (1 : Int32) else (0 : Int32)) = 0 then (if a1 < (v_lo (ix (3 : Int32))) then (0 : Int32) else (if (v_hi (ix (3 : Int32))) ≤ a1 then (0 : Int32) else (if ((v_ri (ix (3 : Int32))) &&& (2 : Int32)) = 0 then (0 : Int32) else (1 : Int32)))) else (1 : Int32)) = 0 then (if a1 < (v_lo (ix (4 : Int32))) then (0 : Int32) else (if (v_hi (ix (4 : Int32))) ≤ a1 then (0 : Int32) else (if ((v_ri (ix (4 : Int32))) &&& (2 : Int32)) = 0 then (0 : Int32) else (1 : Int32)))) else (1 : Int32))), (5, .int (4 : Int32)), (3, .int (if a1 < 0 then (0 : Int32) else (if (512 : Int32) ≤ a1 then (0 : Int32) else (1 : Int32)))), (0, .ref yX), (1, .int a1), (2, .int (1 : Int32))]) hx hb d_X_may_104 hl (by decide) rfl (fun ls hl => ?_)
          refine lv_iinc (v := (5 : Int32)) (lv' := [(5, .int (5 : Int32)), (4, .int (if (if (if (s_X_guarded v_x v_M v_d v_a v_o v_lo v_hi v_ri) = 0 then (1 : Int32) else (0 : Int32)) = 0 then (if a1 < (v_lo (ix (3 : Int32))) then (0 : Int32) else (if (v_hi (ix (3 : Int32))) ≤ a1 then (0 : Int32) else (if ((v_ri (ix (3 : Int32))) &&& (2 : Int32)) = 0 then (0 : Int32) else (1 : Int32)))) else (1 : Int32)) = 0 then (if a1 < (v_lo (ix (4 : Int32))) then (0 : Int32) else (if (v_hi (ix (4 : Int32))) ≤ a1 then (0 : Int32) else (if ((v_ri (ix (4 : Int32))) &&& (2 : Int32)) = 0 then (0 : Int32) else (1 : Int32)))) else (1 : Int32))), (3, .int (if a1 < 0 then (0 : Int32) else (if (512 : Int32) ≤ a1 then (0 : Int32) else (1 : Int32)))), (0, .ref yX), (1, .int a1), (2, .int (1 : Int32))]) (k := 1) hx hb d_X_may_106 hl rfl (by decide) (by decide) rfl (fun ls hl => ?_)
          refine lv_goto (tgt := 39) hx hb d_X_may_109 (by decide) ?_
          refine lv_iload hx hb d_X_may_39 (lv_at hl 0 rfl) ?_
          refine lv_iconst (v := (3 : Int32)) hx hb d_X_may_41 (by decide) ?_
          refine lv_aload_n hx hb d_X_may_42 rfl (lv_at hl 3 rfl) ?_
          refine zz_get (C := R_X) (T := F_X) (N := 27) (v := .int (v_x 2)) hx hb hts in_X hown hK hP 0 rfl rfl 6 (by decide) mw_71 rfl d_X_may_43 ?_
          refine lv_topi (fun zz ez => ?_)
          obtain rfl : zz = (1 : Int32) := ez.trans hs
          refine lv_imul hx hb d_X_may_46 ?_
          refine lv_topi (fun zz ez => ?_)
          obtain rfl : zz = (3 : Int32) := ez.trans (by decide)
          refine lv_iconst (v := (2 : Int32)) hx hb d_X_may_47 (by decide) ?_
          refine lv_iadd hx hb d_X_may_48 ?_
          refine lv_topi (fun zz ez => ?_)
          obtain rfl : zz = (5 : Int32) := ez.trans (by decide)
          refine lv_icmp_ge (tgt := 112) hx hb d_X_may_49 (by decide) (fun _ => ?_) (fun hh => absurd hh (by decide))
          refine lv_aload_n hx hb d_X_may_112 rfl (lv_at hl 3 rfl) ?_
          refine lv_iload_n hx hb d_X_may_113 rfl (lv_at hl 2 rfl) ?_
          have J114_13 : ∀ (vj114_0 : Int32) (ls : Array Slot) (H : Heap) (locs : List Loc), vj114_0 = (if (if a1 < 0 then (0 : Int32) else (if (512 : Int32) ≤ a1 then (0 : Int32) else (1 : Int32))) = 0 then (1025 : Int32) else (if (if (if (if (s_X_guarded v_x v_M v_d v_a v_o v_lo v_hi v_ri) = 0 then (1 : Int32) else (0 : Int32)) = 0 then (if a1 < (v_lo (ix (3 : Int32))) then (0 : Int32) else (if (v_hi (ix (3 : Int32))) ≤ a1 then (0 : Int32) else (if ((v_ri (ix (3 : Int32))) &&& (2 : Int32)) = 0 then (0 : Int32) else (1 : Int32)))) else (1 : Int32)) = 0 then (if a1 < (v_lo (ix (4 : Int32))) then (0 : Int32) else (if (v_hi (ix (4 : Int32))) ≤ a1 then (0 : Int32) else (if ((v_ri (ix (4 : Int32))) &&& (2 : Int32)) = 0 then (0 : Int32) else (1 : Int32)))) else (1 : Int32)) = 0 then (259 : Int32) else (v_x 19))) → lv_has ls 6 [(5, .int (5 : Int32)), (4, .int (if (if (if (s_X_guarded v_x v_M v_d v_a v_o v_lo v_hi v_ri) = 0 then (1 : Int32) else (0 : Int32)) = 0 then (if a1 < (v_lo (ix (3 : Int32))) then (0 : Int32) else (if (v_hi (ix (3 : Int32))) ≤ a1 then (0 : Int32) else (if ((v_ri (ix (3 : Int32))) &&& (2 : Int32)) = 0 then (0 : Int32) else (1 : Int32)))) else (1 : Int32)) = 0 then (if a1 < (v_lo (ix (4 : Int32))) then (0 : Int32) else (if (v_hi (ix (4 : Int32))) ≤ a1 then (0 : Int32) else (if ((v_ri (ix (4 : Int32))) &&& (2 : Int32)) = 0 then (0 : Int32) else (1 : Int32)))) else (1 : Int32))), (3, .int (if a1 < 0 then (0 : Int32) else (if (512 : Int32) ≤ a1 then (0 : Int32) else (1 : Int32)))), (0, .ref yX), (1, .int a1), (2, .int (1 : Int32))] → va_P D classes [oX yX yM yD yA yO yL yH yI v_x, ar cI yM 512 v_M, ar cI yD 8 v_d, ar cI yA 8 v_a, ar cI yO 4 v_o, ar cI yL 6 v_lo, ar cI yH 6 v_hi, ar cI yI 6 v_ri] H → va_D A [oX yX yM yD yA yO yL yH yI v_x, ar cI yM 512 v_M, ar cI yD 8 v_d, ar cI yA 8 v_a, ar cI yO 4 v_o, ar cI yL 6 v_lo, ar cI yH 6 v_hi, ar cI yI 6 v_ri] → va_S A s.heap H locs → W p l e { frames := 1, cells := 0, slots := 0, locals := 20 } s m args below meth c H locs 0 0 Q (F0 m 148 ls [.int vj114_0, .ref yX]) := by
            intro vj114_0 ls H locs evj114_0 hl hP hD hS
            subst evj114_0
            refine zz_put (C := R_X) (T := F_X) (N := 27) (w' := [oX yX yM yD yA yO yL yH yI (upd v_x 19 (if (if a1 < 0 then (0 : Int32) else (if (512 : Int32) ≤ a1 then (0 : Int32) else (1 : Int32))) = 0 then (1025 : Int32) else (if (if (if (if (s_X_guarded v_x v_M v_d v_a v_o v_lo v_hi v_ri) = 0 then (1 : Int32) else (0 : Int32)) = 0 then (if a1 < (v_lo (ix (3 : Int32))) then (0 : Int32) else (if (v_hi (ix (3 : Int32))) ≤ a1 then (0 : Int32) else (if ((v_ri (ix (3 : Int32))) &&& (2 : Int32)) = 0 then (0 : Int32) else (1 : Int32)))) else (1 : Int32)) = 0 then (if a1 < (v_lo (ix (4 : Int32))) then (0 : Int32) else (if (v_hi (ix (4 : Int32))) ≤ a1 then (0 : Int32) else (if ((v_ri (ix (4 : Int32))) &&& (2 : Int32)) = 0 then (0 : Int32) else (1 : Int32)))) else (1 : Int32)) = 0 then (259 : Int32) else (v_x 19)))), ar cI yM 512 v_M, ar cI yD 8 v_d, ar cI yA 8 v_a, ar cI yO 4 v_o, ar cI yL 6 v_lo, ar cI yH 6 v_hi, ar cI yI 6 v_ri]) hx hb hts in_X ty_X ty_X_ok n_X hown hK hP hD hS 0 rfl rfl 26 (by decide) mw_79 rfl rfl rfl (Nat.le_of_ble_eq_true rfl) d_X_may_148 rfl (fun H locs hP hD hS => ?_)
            refine lv_iload_n hx hb d_X_may_151 rfl (lv_at hl 2 rfl) ?_
            refine lv_if_eq (tgt := 164) hx hb d_X_may_152 (by decide) (fun h14 => ?_) (fun h14 => ?_)
            ·
              refine lv_iconst (v := (0 : Int32)) hx hb d_X_may_164 (by decide) ?_
              have hsp : s_X_mayW1 v_x v_M v_d v_a v_o v_lo v_hi v_ri a1 = ((0 : Int32), upd v_x 19 (if (if a1 < 0 then (0 : Int32) else (if (512 : Int32) ≤ a1 then (0 : Int32) else (1 : Int32))) = 0 then (1025 : Int32) else (if (if (if (if (s_X_guarded v_x v_M v_d v_a v_o v_lo v_hi v_ri) = 0 then (1 : Int32) else (0 : Int32)) = 0 then (if a1 < (v_lo (ix (3 : Int32))) then (0 : Int32) else (if (v_hi (ix (3 : Int32))) ≤ a1 then (0 : Int32) else (if ((v_ri (ix (3 : Int32))) &&& (2 : Int32)) = 0 then (0 : Int32) else (1 : Int32)))) else (1 : Int32)) = 0 then (if a1 < (v_lo (ix (4 : Int32))) then (0 : Int32) else (if (v_hi (ix (4 : Int32))) ≤ a1 then (0 : Int32) else (if ((v_ri (ix (4 : Int32))) &&& (2 : Int32)) = 0 then (0 : Int32) else (1 : Int32)))) else (1 : Int32)) = 0 then (259 : Int32) else (v_x 19)))) := (by unfold s_X_mayW1; rw [if_pos h14])
              rw [hsp] at hE
              exact hE _ _ _ _ hP hD hS d_X_may_165
            ·
              refine lv_iload hx hb d_X_may_155 (lv_at hl 1 rfl) ?_
              refine lv_if_eq (tgt := 164) hx hb d_X_may_157 (by decide) (fun h15 => ?_) (fun h15 => ?_)
              ·
                refine lv_iconst (v := (0 : Int32)) hx hb d_X_may_164 (by decide) ?_
                have hsp : s_X_mayW1 v_x v_M v_d v_a v_o v_lo v_hi v_ri a1 = ((0 : Int32), upd v_x 19 (if (if a1 < 0 then (0 : Int32) else (if (512 : Int32) ≤ a1 then (0 : Int32) else (1 : Int32))) = 0 then (1025 : Int32) else (if (if (if (if (s_X_guarded v_x v_M v_d v_a v_o v_lo v_hi v_ri) = 0 then (1 : Int32) else (0 : Int32)) = 0 then (if a1 < (v_lo (ix (3 : Int32))) then (0 : Int32) else (if (v_hi (ix (3 : Int32))) ≤ a1 then (0 : Int32) else (if ((v_ri (ix (3 : Int32))) &&& (2 : Int32)) = 0 then (0 : Int32) else (1 : Int32)))) else (1 : Int32)) = 0 then (if a1 < (v_lo (ix (4 : Int32))) then (0 : Int32) else (if (v_hi (ix (4 : Int32))) ≤ a1 then (0 : Int32) else (if ((v_ri (ix (4 : Int32))) &&& (2 : Int32)) = 0 then (0 : Int32) else (1 : Int32)))) else (1 : Int32)) = 0 then (259 : Int32) else (v_x 19)))) := (by unfold s_X_mayW1; rw [if_neg h14, if_pos h15])
                rw [hsp] at hE
                exact hE _ _ _ _ hP hD hS d_X_may_165
              ·
                refine lv_iconst (v := (1 : Int32)) hx hb d_X_may_160 (by decide) ?_
                refine lv_goto (tgt := 165) hx hb d_X_may_161 (by decide) ?_
                have hsp : s_X_mayW1 v_x v_M v_d v_a v_o v_lo v_hi v_ri a1 = ((1 : Int32), upd v_x 19 (if (if a1 < 0 then (0 : Int32) else (if (512 : Int32) ≤ a1 then (0 : Int32) else (1 : Int32))) = 0 then (1025 : Int32) else (if (if (if (if (s_X_guarded v_x v_M v_d v_a v_o v_lo v_hi v_ri) = 0 then (1 : Int32) else (0 : Int32)) = 0 then (if a1 < (v_lo (ix (3 : Int32))) then (0 : Int32) else (if (v_hi (ix (3 : Int32))) ≤ a1 then (0 : Int32) else (if ((v_ri (ix (3 : Int32))) &&& (2 : Int32)) = 0 then (0 : Int32) else (1 : Int32)))) else (1 : Int32)) = 0 then (if a1 < (v_lo (ix (4 : Int32))) then (0 : Int32) else (if (v_hi (ix (4 : Int32))) ≤ a1 then (0 : Int32) else (if ((v_ri (ix (4 : Int32))) &&& (2 : Int32)) = 0 then (0 : Int32) else (1 : Int32)))) else (1 : Int32)) = 0 then (259 : Int32) else (v_x 19)))) := (by unfold s_X_mayW1; rw [if_neg h14, if_neg h15])
                rw [hsp] at hE
                exact hE _ _ _ _ hP hD hS d_X_may_165
          refine lv_if_ne (tgt := 123) hx hb d_X_may_114 (by decide) (fun h12 => ?_) (fun h12 => ?_)
          ·
            refine lv_iload hx hb d_X_may_123 (lv_at hl 1 rfl) ?_
            refine lv_if_ne (tgt := 144) hx hb d_X_may_125 (by decide) (fun h13 => ?_) (fun h13 => ?_)
            ·
              refine lv_aload_n hx hb d_X_may_144 rfl (lv_at hl 3 rfl) ?_
              refine zz_get (C := R_X) (T := F_X) (N := 27) (v := .int (v_x 19)) hx hb hts in_X hown hK hP 0 rfl rfl 26 (by decide) mw_79 rfl d_X_may_145 ?_
              exact J114_13 (v_x 19) _ _ _ (by rw [if_neg h12, if_neg h13]) (lv_sub hl [0, 1, 2, 3, 4, 5] rfl) hP hD hS
            ·
              refine lv_iload_n hx hb d_X_may_128 rfl (lv_at hl 5 rfl) ?_
              refine lv_if_eq (tgt := 138) hx hb d_X_may_129 (by decide) (fun hh => absurd hh (by decide)) (fun _ => ?_)
              refine lv_sipush (v := (259 : Int32)) hx hb d_X_may_132 (by decide) ?_
              refine lv_goto (tgt := 148) hx hb d_X_may_135 (by decide) ?_
              exact J114_13 (259 : Int32) _ _ _ (by rw [if_neg h12, if_pos h13]) (lv_sub hl [0, 1, 2, 3, 4, 5] rfl) hP hD hS
          ·
            refine lv_sipush (v := (1025 : Int32)) hx hb d_X_may_117 (by decide) ?_
            refine lv_goto (tgt := 148) hx hb d_X_may_120 (by decide) ?_
            exact J114_13 (1025 : Int32) _ _ _ (by rw [if_pos h12]) (lv_sub hl [0, 1, 2, 3, 4, 5] rfl) hP hD hS
        refine lv_if_ne (tgt := 99) hx hb d_X_may_54 (by decide) (fun h8 => ?_) (fun h8 => ?_)
        ·
          refine lv_iconst (v := (1 : Int32)) hx hb d_X_may_99 (by decide) ?_
          refine lv_goto (tgt := 104) hx hb d_X_may_100 (by decide) ?_
          exact J54_11 (1 : Int32) _ _ _ (by rw [if_neg h8]) (lv_sub hl [0, 1, 2, 3, 4, 5] rfl) hP hD hS
        ·
          refine lv_iload_n hx hb d_X_may_57 rfl (lv_at hl 4 rfl) ?_
          refine lv_aload_n hx hb d_X_may_58 rfl (lv_at hl 3 rfl) ?_
          refine zz_get (C := R_X) (T := F_X) (N := 27) (v := .ref yL) hx hb hts in_X hown hK hP 0 rfl rfl 18 (by decide) mw_85 rfl d_X_may_59 ?_
          refine lv_iload hx hb d_X_may_62 (lv_at hl 0 rfl) ?_
          refine va_iald hx hb hK hP 5 0 rfl rfl (zz_inc (by decide)) d_X_may_64 ?_
          refine lv_icmp_lt (tgt := 103) hx hb d_X_may_65 (by decide) (fun h9 => ?_) (fun h9 => ?_)
          ·
            refine lv_iconst (v := (0 : Int32)) hx hb d_X_may_103 (by decide) ?_
            exact J54_11 (0 : Int32) _ _ _ (by rw [if_pos h8, if_pos h9]) (lv_sub hl [0, 1, 2, 3, 4, 5] rfl) hP hD hS
          ·
            refine lv_iload_n hx hb d_X_may_68 rfl (lv_at hl 4 rfl) ?_
            refine lv_aload_n hx hb d_X_may_69 rfl (lv_at hl 3 rfl) ?_
            refine zz_get (C := R_X) (T := F_X) (N := 27) (v := .ref yH) hx hb hts in_X hown hK hP 0 rfl rfl 19 (by decide) mw_86 rfl d_X_may_70 ?_
            refine lv_iload hx hb d_X_may_73 (lv_at hl 0 rfl) ?_
            refine va_iald hx hb hK hP 6 0 rfl rfl (zz_inc (by decide)) d_X_may_75 ?_
            refine lv_icmp_ge (tgt := 103) hx hb d_X_may_76 (by decide) (fun h10 => ?_) (fun h10 => ?_)
            ·
              refine lv_iconst (v := (0 : Int32)) hx hb d_X_may_103 (by decide) ?_
              exact J54_11 (0 : Int32) _ _ _ (by rw [if_pos h8, if_neg h9, if_pos h10]) (lv_sub hl [0, 1, 2, 3, 4, 5] rfl) hP hD hS
            ·
              refine lv_aload_n hx hb d_X_may_79 rfl (lv_at hl 3 rfl) ?_
              refine zz_get (C := R_X) (T := F_X) (N := 27) (v := .ref yI) hx hb hts in_X hown hK hP 0 rfl rfl 20 (by decide) mw_87 rfl d_X_may_80 ?_
              refine lv_iload hx hb d_X_may_83 (lv_at hl 0 rfl) ?_
              refine va_iald hx hb hK hP 7 0 rfl rfl (zz_inc (by decide)) d_X_may_85 ?_
              refine lv_iload_n hx hb d_X_may_86 rfl (lv_at hl 5 rfl) ?_
              refine lv_if_eq (tgt := 94) hx hb d_X_may_87 (by decide) (fun hh => absurd hh (by decide)) (fun _ => ?_)
              refine lv_iconst (v := (2 : Int32)) hx hb d_X_may_90 (by decide) ?_
              refine lv_goto (tgt := 95) hx hb d_X_may_91 (by decide) ?_
              refine lv_iand hx hb d_X_may_95 ?_
              refine lv_if_eq (tgt := 103) hx hb d_X_may_96 (by decide) (fun h11 => ?_) (fun h11 => ?_)
              ·
                refine lv_iconst (v := (0 : Int32)) hx hb d_X_may_103 (by decide) ?_
                exact J54_11 (0 : Int32) _ _ _ (by rw [if_pos h8, if_neg h9, if_neg h10, if_pos h11]) (lv_sub hl [0, 1, 2, 3, 4, 5] rfl) hP hD hS
              ·
                refine lv_iconst (v := (1 : Int32)) hx hb d_X_may_99 (by decide) ?_
                refine lv_goto (tgt := 104) hx hb d_X_may_100 (by decide) ?_
                exact J54_11 (1 : Int32) _ _ _ (by rw [if_pos h8, if_neg h9, if_neg h10, if_neg h11]) (lv_sub hl [0, 1, 2, 3, 4, 5] rfl) hP hD hS
      refine lv_if_ne (tgt := 99) hx hb d_X_may_54 (by decide) (fun h4 => ?_) (fun h4 => ?_)
      ·
        refine lv_iconst (v := (1 : Int32)) hx hb d_X_may_99 (by decide) ?_
        refine lv_goto (tgt := 104) hx hb d_X_may_100 (by decide) ?_
        exact J54_7 (1 : Int32) _ _ _ (by rw [if_neg h4]) (lv_sub hl [0, 1, 2, 3, 4, 5] rfl) hP hD hS
      ·
        refine lv_iload_n hx hb d_X_may_57 rfl (lv_at hl 4 rfl) ?_
        refine lv_aload_n hx hb d_X_may_58 rfl (lv_at hl 3 rfl) ?_
        refine zz_get (C := R_X) (T := F_X) (N := 27) (v := .ref yL) hx hb hts in_X hown hK hP 0 rfl rfl 18 (by decide) mw_85 rfl d_X_may_59 ?_
        refine lv_iload hx hb d_X_may_62 (lv_at hl 0 rfl) ?_
        refine va_iald hx hb hK hP 5 0 rfl rfl (zz_inc (by decide)) d_X_may_64 ?_
        refine lv_icmp_lt (tgt := 103) hx hb d_X_may_65 (by decide) (fun h5 => ?_) (fun h5 => ?_)
        ·
          refine lv_iconst (v := (0 : Int32)) hx hb d_X_may_103 (by decide) ?_
          exact J54_7 (0 : Int32) _ _ _ (by rw [if_pos h4, if_pos h5]) (lv_sub hl [0, 1, 2, 3, 4, 5] rfl) hP hD hS
        ·
          refine lv_iload_n hx hb d_X_may_68 rfl (lv_at hl 4 rfl) ?_
          refine lv_aload_n hx hb d_X_may_69 rfl (lv_at hl 3 rfl) ?_
          refine zz_get (C := R_X) (T := F_X) (N := 27) (v := .ref yH) hx hb hts in_X hown hK hP 0 rfl rfl 19 (by decide) mw_86 rfl d_X_may_70 ?_
          refine lv_iload hx hb d_X_may_73 (lv_at hl 0 rfl) ?_
          refine va_iald hx hb hK hP 6 0 rfl rfl (zz_inc (by decide)) d_X_may_75 ?_
          refine lv_icmp_ge (tgt := 103) hx hb d_X_may_76 (by decide) (fun h6 => ?_) (fun h6 => ?_)
          ·
            refine lv_iconst (v := (0 : Int32)) hx hb d_X_may_103 (by decide) ?_
            exact J54_7 (0 : Int32) _ _ _ (by rw [if_pos h4, if_neg h5, if_pos h6]) (lv_sub hl [0, 1, 2, 3, 4, 5] rfl) hP hD hS
          ·
            refine lv_aload_n hx hb d_X_may_79 rfl (lv_at hl 3 rfl) ?_
            refine zz_get (C := R_X) (T := F_X) (N := 27) (v := .ref yI) hx hb hts in_X hown hK hP 0 rfl rfl 20 (by decide) mw_87 rfl d_X_may_80 ?_
            refine lv_iload hx hb d_X_may_83 (lv_at hl 0 rfl) ?_
            refine va_iald hx hb hK hP 7 0 rfl rfl (zz_inc (by decide)) d_X_may_85 ?_
            refine lv_iload_n hx hb d_X_may_86 rfl (lv_at hl 5 rfl) ?_
            refine lv_if_eq (tgt := 94) hx hb d_X_may_87 (by decide) (fun hh => absurd hh (by decide)) (fun _ => ?_)
            refine lv_iconst (v := (2 : Int32)) hx hb d_X_may_90 (by decide) ?_
            refine lv_goto (tgt := 95) hx hb d_X_may_91 (by decide) ?_
            refine lv_iand hx hb d_X_may_95 ?_
            refine lv_if_eq (tgt := 103) hx hb d_X_may_96 (by decide) (fun h7 => ?_) (fun h7 => ?_)
            ·
              refine lv_iconst (v := (0 : Int32)) hx hb d_X_may_103 (by decide) ?_
              exact J54_7 (0 : Int32) _ _ _ (by rw [if_pos h4, if_neg h5, if_neg h6, if_pos h7]) (lv_sub hl [0, 1, 2, 3, 4, 5] rfl) hP hD hS
            ·
              refine lv_iconst (v := (1 : Int32)) hx hb d_X_may_99 (by decide) ?_
              refine lv_goto (tgt := 104) hx hb d_X_may_100 (by decide) ?_
              exact J54_7 (1 : Int32) _ _ _ (by rw [if_pos h4, if_neg h5, if_neg h6, if_neg h7]) (lv_sub hl [0, 1, 2, 3, 4, 5] rfl) hP hD hS
    refine lv_if_ne (tgt := 28) hx hb d_X_may_21 (by decide) (fun h3 => ?_) (fun h3 => ?_)
    ·
      refine lv_iconst (v := (0 : Int32)) hx hb d_X_may_28 (by decide) ?_
      exact J21_3 (0 : Int32) _ _ _ (by rw [if_neg h3]) (lv_sub hl [0, 1, 2, 3] rfl) hP hD hS
    ·
      refine lv_iconst (v := (1 : Int32)) hx hb d_X_may_24 (by decide) ?_
      refine lv_goto (tgt := 29) hx hb d_X_may_25 (by decide) ?_
      exact J21_3 (1 : Int32) _ _ _ (by rw [if_pos h3]) (lv_sub hl [0, 1, 2, 3] rfl) hP hD hS
  refine lv_if_lt (tgt := 15) hx hb d_X_may_1 (by decide) (fun h1 => ?_) (fun h1 => ?_)
  ·
    refine lv_iconst (v := (0 : Int32)) hx hb d_X_may_15 (by decide) ?_
    exact J1_2 (0 : Int32) _ _ _ (by rw [if_pos h1]) (lv_sub hl [0, 1, 2] rfl) hP hD hS
  ·
    refine lv_iload_n hx hb d_X_may_4 rfl (lv_at hl 1 rfl) ?_
    refine lv_sipush (v := (512 : Int32)) hx hb d_X_may_5 (by decide) ?_
    refine lv_icmp_ge (tgt := 15) hx hb d_X_may_8 (by decide) (fun h2 => ?_) (fun h2 => ?_)
    ·
      refine lv_iconst (v := (0 : Int32)) hx hb d_X_may_15 (by decide) ?_
      exact J1_2 (0 : Int32) _ _ _ (by rw [if_neg h1, if_pos h2]) (lv_sub hl [0, 1, 2] rfl) hP hD hS
    ·
      refine lv_iconst (v := (1 : Int32)) hx hb d_X_may_11 (by decide) ?_
      refine lv_goto (tgt := 16) hx hb d_X_may_12 (by decide) ?_
      exact J1_2 (1 : Int32) _ _ _ (by rw [if_neg h1, if_neg h2]) (lv_sub hl [0, 1, 2] rfl) hP hD hS
theorem k_X_mayW (l : Launch) (D : va_G) (cI : ClassId) (sz : Nat) (yX : Nat) (yM : Nat) (yD : Nat) (yA : Nat) (yO : Nat) (yL : Nat) (yH : Nat) (yI : Nat) (v_x : Nat → Int32) (v_M : Nat → Int32) (v_d : Nat → Int32) (v_a : Nat → Int32) (v_o : Nat → Int32) (v_lo : Nat → Int32) (v_hi : Nat → Int32) (v_ri : Nat → Int32) (a1 : Int32) (hset : v_x 2 = 0 ∨ v_x 2 = 1) : zMi l y_X_may (.code y_X_may b_X_may 6 (some .boolean) :: wd) { frames := 1, cells := 0, slots := 0, locals := 20 } D classes [(cI, .int)] [.ref yX, .int a1, .int (1 : Int32)] [oX yX yM yD yA yO yL yH yI v_x, ar cI yM 512 v_M, ar cI yD 8 v_d, ar cI yA 8 v_a, ar cI yO 4 v_o, ar cI yL 6 v_lo, ar cI yH 6 v_hi, ar cI yI 6 v_ri] [oX yX yM yD yA yO yL yH yI ((s_X_mayW v_x v_M v_d v_a v_o v_lo v_hi v_ri a1).2), ar cI yM 512 v_M, ar cI yD 8 v_d, ar cI yA 8 v_a, ar cI yO 4 v_o, ar cI yL 6 v_lo, ar cI yH 6 v_hi, ar cI yI 6 v_ri] sz (s_X_mayW v_x v_M v_d v_a v_o v_lo v_hi v_ri a1).1 := by
  by_cases h0 : v_x 2 = (0 : Int32)
  · have e : s_X_mayW v_x v_M v_d v_a v_o v_lo v_hi v_ri a1 = s_X_mayW0 v_x v_M v_d v_a v_o v_lo v_hi v_ri a1 := by unfold s_X_mayW; rw [if_pos h0]
    rw [e]; exact k_X_mayW0 l D cI sz yX yM yD yA yO yL yH yI v_x v_M v_d v_a v_o v_lo v_hi v_ri a1 h0
  · have e : s_X_mayW v_x v_M v_d v_a v_o v_lo v_hi v_ri a1 = s_X_mayW1 v_x v_M v_d v_a v_o v_lo v_hi v_ri a1 := by unfold s_X_mayW; rw [if_neg h0]
    rw [e]; exact k_X_mayW1 l D cI sz yX yM yD yA yO yL yH yI v_x v_M v_d v_a v_o v_lo v_hi v_ri a1 (hset.resolve_left h0)
set_option maxHeartbeats 4000000 in
set_option maxRecDepth 100000 in
theorem k_X_reckon1 (l : Launch) (D : va_G) (cI : ClassId) (sz : Nat) (yX : Nat) (yM : Nat) (yD : Nat) (yA : Nat) (yO : Nat) (yL : Nat) (yH : Nat) (yI : Nat) (v_x : Nat → Int32) (v_M : Nat → Int32) (v_d : Nat → Int32) (v_a : Nat → Int32) (v_o : Nat → Int32) (v_lo : Nat → Int32) (v_hi : Nat → Int32) (v_ri : Nat → Int32) (a2 : Int32) (a3 : Int32) (a4 : Int32) (a5 : Int32) (hi2 : vp_in a2 8) (hi3 : vp_in a3 8) (hi4 : vp_in a4 8) : zMv l y_X_reckon (.code y_X_reckon b_X_reckon 8 (none) :: wd) { frames := 0, cells := 0, slots := 0, locals := 0 } D classes [(cI, .int)] [.ref yX, .int (1 : Int32), .int a2, .int a3, .int a4, .int a5] [oX yX yM yD yA yO yL yH yI v_x, ar cI yM 512 v_M, ar cI yD 8 v_d, ar cI yA 8 v_a, ar cI yO 4 v_o, ar cI yL 6 v_lo, ar cI yH 6 v_hi, ar cI yI 6 v_ri] [oX yX yM yD yA yO yL yH yI v_x, ar cI yM 512 v_M, ar cI yD 8 (s_X_reckon1 v_x v_M v_d v_a v_o v_lo v_hi v_ri a2 a3 a4 a5), ar cI yA 8 v_a, ar cI yO 4 v_o, ar cI yL 6 v_lo, ar cI yH 6 v_hi, ar cI yI 6 v_ri] sz := by
  refine met_v (by decide) (Nat.le_of_ble_eq_true rfl) ?_
  intro p e s m args below meth c A Q ls hx hb hml hown hts hK hP hD hS hA hl hE
  have hl : lv_has ls 8 [(0, .ref yX), (1, .int (1 : Int32)), (2, .int a2), (3, .int a3), (4, .int a4), (5, .int a5)] := hl
  have hown : s.vm.findClass R_X = some m.cls := hown
  refine lv_aload_n hx hb d_X_reckon_0 rfl (lv_at hl 0 rfl) ?_
  refine zz_get (C := R_X) (T := F_X) (N := 27) (v := .ref yD) hx hb hts in_X hown hK hP 0 rfl rfl 2 (by decide) mw_74 rfl d_X_reckon_1 ?_
  refine lv_iload_n hx hb d_X_reckon_4 rfl (lv_at hl 3 rfl) ?_
  refine va_iald hx hb hK hP 2 0 rfl rfl hi3 d_X_reckon_5 ?_
  refine lv_istore (lv' := [(6, .int (v_d (ix a3))), (0, .ref yX), (1, .int (1 : Int32)), (2, .int a2), (3, .int a3), (4, .int a4), (5, .int a5)]) hx hb d_X_reckon_6 hl (by decide) rfl (fun ls hl => ?_)
  refine lv_aload_n hx hb d_X_reckon_8 rfl (lv_at hl 1 rfl) ?_
  refine zz_get (C := R_X) (T := F_X) (N := 27) (v := .ref yD) hx hb hts in_X hown hK hP 0 rfl rfl 2 (by decide) mw_74 rfl d_X_reckon_9 ?_
  refine lv_iload hx hb d_X_reckon_12 (lv_at hl 5 rfl) ?_
  refine va_iald hx hb hK hP 2 0 rfl rfl hi4 d_X_reckon_14 ?_
  refine lv_istore (lv' := [(7, .int (v_d (ix a4))), (6, .int (v_d (ix a3))), (0, .ref yX), (1, .int (1 : Int32)), (2, .int a2), (3, .int a3), (4, .int a4), (5, .int a5)]) hx hb d_X_reckon_15 hl (by decide) rfl (fun ls hl => ?_)
  refine lv_iload_n hx hb d_X_reckon_17 rfl (lv_at hl 3 rfl) ?_
  show W p l e _ s m args below meth c _ _ _ _ Q (F0 m 18 ls _)
  refine lv_bipush (v := (8 : Int32)) hx hb d_X_reckon_18 (by decide) ?_
  refine lv_icmp_ne (tgt := 51) hx hb d_X_reckon_20 (by decide) (fun _ => ?_) (fun hh => absurd hh (by decide))
  refine lv_iload_n hx hb d_X_reckon_51 rfl (lv_at hl 3 rfl) ?_
  refine lv_bipush (v := (8 : Int32)) hx hb d_X_reckon_52 (by decide) ?_
  refine lv_icmp_ge (tgt := 147) hx hb d_X_reckon_54 (by decide) (fun hh => absurd hh (by decide)) (fun _ => ?_)
  refine lv_aload_n hx hb d_X_reckon_57 rfl (lv_at hl 2 rfl) ?_
  refine zz_get (C := R_X) (T := F_X) (N := 27) (v := .ref yD) hx hb hts in_X hown hK hP 0 rfl rfl 2 (by decide) mw_74 rfl d_X_reckon_58 ?_
  refine lv_iload_n hx hb d_X_reckon_61 rfl (lv_at hl 4 rfl) ?_
  refine lv_iload_n hx hb d_X_reckon_62 rfl (lv_at hl 3 rfl) ?_
  refine lv_iconst (v := (1 : Int32)) hx hb d_X_reckon_63 (by decide) ?_
  refine lv_icmp_ne (tgt := 72) hx hb d_X_reckon_64 (by decide) (fun hh => absurd hh (by decide)) (fun _ => ?_)
  refine lv_iload hx hb d_X_reckon_67 (lv_at hl 7 rfl) ?_
  refine lv_goto (tgt := 143) hx hb d_X_reckon_69 (by decide) ?_
  refine zz_iast (w' := [oX yX yM yD yA yO yL yH yI v_x, ar cI yM 512 v_M, ar cI yD 8 (upd v_d (ix a2) a5), ar cI yA 8 v_a, ar cI yO 4 v_o, ar cI yL 6 v_lo, ar cI yH 6 v_hi, ar cI yI 6 v_ri]) hx hb hK hP hD hS 2 0 rfl rfl hi2 d_X_reckon_143 rfl (fun H locs hP hD hS => ?_)
  refine lv_goto (tgt := 205) hx hb d_X_reckon_144 (by decide) ?_
  have hsp : s_X_reckon1 v_x v_M v_d v_a v_o v_lo v_hi v_ri a2 a3 a4 a5 = (upd v_d (ix a2) a5) := rfl
  rw [hsp] at hE
  exact hE _ _ _ _ hP hD hS d_X_reckon_205
set_option maxHeartbeats 4000000 in
set_option maxRecDepth 100000 in
theorem k_X_reckon2 (l : Launch) (D : va_G) (cI : ClassId) (sz : Nat) (yX : Nat) (yM : Nat) (yD : Nat) (yA : Nat) (yO : Nat) (yL : Nat) (yH : Nat) (yI : Nat) (v_x : Nat → Int32) (v_M : Nat → Int32) (v_d : Nat → Int32) (v_a : Nat → Int32) (v_o : Nat → Int32) (v_lo : Nat → Int32) (v_hi : Nat → Int32) (v_ri : Nat → Int32) (a2 : Int32) (a3 : Int32) (a4 : Int32) (a5 : Int32) (hi2 : vp_in a2 8) (hi3 : vp_in a3 8) (hi4 : vp_in a4 8) : zMv l y_X_reckon (.code y_X_reckon b_X_reckon 8 (none) :: wd) { frames := 0, cells := 0, slots := 0, locals := 0 } D classes [(cI, .int)] [.ref yX, .int (2 : Int32), .int a2, .int a3, .int a4, .int a5] [oX yX yM yD yA yO yL yH yI v_x, ar cI yM 512 v_M, ar cI yD 8 v_d, ar cI yA 8 v_a, ar cI yO 4 v_o, ar cI yL 6 v_lo, ar cI yH 6 v_hi, ar cI yI 6 v_ri] [oX yX yM yD yA yO yL yH yI v_x, ar cI yM 512 v_M, ar cI yD 8 (s_X_reckon2 v_x v_M v_d v_a v_o v_lo v_hi v_ri a2 a3 a4 a5), ar cI yA 8 v_a, ar cI yO 4 v_o, ar cI yL 6 v_lo, ar cI yH 6 v_hi, ar cI yI 6 v_ri] sz := by
  refine met_v (by decide) (Nat.le_of_ble_eq_true rfl) ?_
  intro p e s m args below meth c A Q ls hx hb hml hown hts hK hP hD hS hA hl hE
  have hl : lv_has ls 8 [(0, .ref yX), (1, .int (2 : Int32)), (2, .int a2), (3, .int a3), (4, .int a4), (5, .int a5)] := hl
  have hown : s.vm.findClass R_X = some m.cls := hown
  refine lv_aload_n hx hb d_X_reckon_0 rfl (lv_at hl 0 rfl) ?_
  refine zz_get (C := R_X) (T := F_X) (N := 27) (v := .ref yD) hx hb hts in_X hown hK hP 0 rfl rfl 2 (by decide) mw_74 rfl d_X_reckon_1 ?_
  refine lv_iload_n hx hb d_X_reckon_4 rfl (lv_at hl 3 rfl) ?_
  refine va_iald hx hb hK hP 2 0 rfl rfl hi3 d_X_reckon_5 ?_
  refine lv_istore (lv' := [(6, .int (v_d (ix a3))), (0, .ref yX), (1, .int (2 : Int32)), (2, .int a2), (3, .int a3), (4, .int a4), (5, .int a5)]) hx hb d_X_reckon_6 hl (by decide) rfl (fun ls hl => ?_)
  refine lv_aload_n hx hb d_X_reckon_8 rfl (lv_at hl 1 rfl) ?_
  refine zz_get (C := R_X) (T := F_X) (N := 27) (v := .ref yD) hx hb hts in_X hown hK hP 0 rfl rfl 2 (by decide) mw_74 rfl d_X_reckon_9 ?_
  refine lv_iload hx hb d_X_reckon_12 (lv_at hl 5 rfl) ?_
  refine va_iald hx hb hK hP 2 0 rfl rfl hi4 d_X_reckon_14 ?_
  refine lv_istore (lv' := [(7, .int (v_d (ix a4))), (6, .int (v_d (ix a3))), (0, .ref yX), (1, .int (2 : Int32)), (2, .int a2), (3, .int a3), (4, .int a4), (5, .int a5)]) hx hb d_X_reckon_15 hl (by decide) rfl (fun ls hl => ?_)
  refine lv_iload_n hx hb d_X_reckon_17 rfl (lv_at hl 3 rfl) ?_
  show W p l e _ s m args below meth c _ _ _ _ Q (F0 m 18 ls _)
  refine lv_bipush (v := (8 : Int32)) hx hb d_X_reckon_18 (by decide) ?_
  refine lv_icmp_ne (tgt := 51) hx hb d_X_reckon_20 (by decide) (fun _ => ?_) (fun hh => absurd hh (by decide))
  refine lv_iload_n hx hb d_X_reckon_51 rfl (lv_at hl 3 rfl) ?_
  refine lv_bipush (v := (8 : Int32)) hx hb d_X_reckon_52 (by decide) ?_
  refine lv_icmp_ge (tgt := 147) hx hb d_X_reckon_54 (by decide) (fun hh => absurd hh (by decide)) (fun _ => ?_)
  refine lv_aload_n hx hb d_X_reckon_57 rfl (lv_at hl 2 rfl) ?_
  refine zz_get (C := R_X) (T := F_X) (N := 27) (v := .ref yD) hx hb hts in_X hown hK hP 0 rfl rfl 2 (by decide) mw_74 rfl d_X_reckon_58 ?_
  refine lv_iload_n hx hb d_X_reckon_61 rfl (lv_at hl 4 rfl) ?_
  refine lv_iload_n hx hb d_X_reckon_62 rfl (lv_at hl 3 rfl) ?_
  refine lv_iconst (v := (1 : Int32)) hx hb d_X_reckon_63 (by decide) ?_
  refine lv_icmp_ne (tgt := 72) hx hb d_X_reckon_64 (by decide) (fun _ => ?_) (fun hh => absurd hh (by decide))
  refine lv_iload_n hx hb d_X_reckon_72 rfl (lv_at hl 3 rfl) ?_
  refine lv_iconst (v := (2 : Int32)) hx hb d_X_reckon_73 (by decide) ?_
  refine lv_icmp_ne (tgt := 85) hx hb d_X_reckon_74 (by decide) (fun hh => absurd hh (by decide)) (fun _ => ?_)
  refine lv_iload hx hb d_X_reckon_77 (lv_at hl 1 rfl) ?_
  refine lv_iload hx hb d_X_reckon_79 (lv_at hl 7 rfl) ?_
  refine lv_iadd hx hb d_X_reckon_81 ?_
  refine lv_goto (tgt := 143) hx hb d_X_reckon_82 (by decide) ?_
  refine zz_iast (w' := [oX yX yM yD yA yO yL yH yI v_x, ar cI yM 512 v_M, ar cI yD 8 (upd v_d (ix a2) ((v_d (ix a3)) + a5)), ar cI yA 8 v_a, ar cI yO 4 v_o, ar cI yL 6 v_lo, ar cI yH 6 v_hi, ar cI yI 6 v_ri]) hx hb hK hP hD hS 2 0 rfl rfl hi2 d_X_reckon_143 rfl (fun H locs hP hD hS => ?_)
  refine lv_goto (tgt := 205) hx hb d_X_reckon_144 (by decide) ?_
  have hsp : s_X_reckon2 v_x v_M v_d v_a v_o v_lo v_hi v_ri a2 a3 a4 a5 = (upd v_d (ix a2) ((v_d (ix a3)) + a5)) := rfl
  rw [hsp] at hE
  exact hE _ _ _ _ hP hD hS d_X_reckon_205
set_option maxHeartbeats 4000000 in
set_option maxRecDepth 100000 in
theorem k_X_reckon3 (l : Launch) (D : va_G) (cI : ClassId) (sz : Nat) (yX : Nat) (yM : Nat) (yD : Nat) (yA : Nat) (yO : Nat) (yL : Nat) (yH : Nat) (yI : Nat) (v_x : Nat → Int32) (v_M : Nat → Int32) (v_d : Nat → Int32) (v_a : Nat → Int32) (v_o : Nat → Int32) (v_lo : Nat → Int32) (v_hi : Nat → Int32) (v_ri : Nat → Int32) (a2 : Int32) (a3 : Int32) (a4 : Int32) (a5 : Int32) (hi2 : vp_in a2 8) (hi3 : vp_in a3 8) (hi4 : vp_in a4 8) : zMv l y_X_reckon (.code y_X_reckon b_X_reckon 8 (none) :: wd) { frames := 0, cells := 0, slots := 0, locals := 0 } D classes [(cI, .int)] [.ref yX, .int (3 : Int32), .int a2, .int a3, .int a4, .int a5] [oX yX yM yD yA yO yL yH yI v_x, ar cI yM 512 v_M, ar cI yD 8 v_d, ar cI yA 8 v_a, ar cI yO 4 v_o, ar cI yL 6 v_lo, ar cI yH 6 v_hi, ar cI yI 6 v_ri] [oX yX yM yD yA yO yL yH yI v_x, ar cI yM 512 v_M, ar cI yD 8 (s_X_reckon3 v_x v_M v_d v_a v_o v_lo v_hi v_ri a2 a3 a4 a5), ar cI yA 8 v_a, ar cI yO 4 v_o, ar cI yL 6 v_lo, ar cI yH 6 v_hi, ar cI yI 6 v_ri] sz := by
  refine met_v (by decide) (Nat.le_of_ble_eq_true rfl) ?_
  intro p e s m args below meth c A Q ls hx hb hml hown hts hK hP hD hS hA hl hE
  have hl : lv_has ls 8 [(0, .ref yX), (1, .int (3 : Int32)), (2, .int a2), (3, .int a3), (4, .int a4), (5, .int a5)] := hl
  have hown : s.vm.findClass R_X = some m.cls := hown
  refine lv_aload_n hx hb d_X_reckon_0 rfl (lv_at hl 0 rfl) ?_
  refine zz_get (C := R_X) (T := F_X) (N := 27) (v := .ref yD) hx hb hts in_X hown hK hP 0 rfl rfl 2 (by decide) mw_74 rfl d_X_reckon_1 ?_
  refine lv_iload_n hx hb d_X_reckon_4 rfl (lv_at hl 3 rfl) ?_
  refine va_iald hx hb hK hP 2 0 rfl rfl hi3 d_X_reckon_5 ?_
  refine lv_istore (lv' := [(6, .int (v_d (ix a3))), (0, .ref yX), (1, .int (3 : Int32)), (2, .int a2), (3, .int a3), (4, .int a4), (5, .int a5)]) hx hb d_X_reckon_6 hl (by decide) rfl (fun ls hl => ?_)
  refine lv_aload_n hx hb d_X_reckon_8 rfl (lv_at hl 1 rfl) ?_
  refine zz_get (C := R_X) (T := F_X) (N := 27) (v := .ref yD) hx hb hts in_X hown hK hP 0 rfl rfl 2 (by decide) mw_74 rfl d_X_reckon_9 ?_
  refine lv_iload hx hb d_X_reckon_12 (lv_at hl 5 rfl) ?_
  refine va_iald hx hb hK hP 2 0 rfl rfl hi4 d_X_reckon_14 ?_
  refine lv_istore (lv' := [(7, .int (v_d (ix a4))), (6, .int (v_d (ix a3))), (0, .ref yX), (1, .int (3 : Int32)), (2, .int a2), (3, .int a3), (4, .int a4), (5, .int a5)]) hx hb d_X_reckon_15 hl (by decide) rfl (fun ls hl => ?_)
  refine lv_iload_n hx hb d_X_reckon_17 rfl (lv_at hl 3 rfl) ?_
  show W p l e _ s m args below meth c _ _ _ _ Q (F0 m 18 ls _)
  refine lv_bipush (v := (8 : Int32)) hx hb d_X_reckon_18 (by decide) ?_
  refine lv_icmp_ne (tgt := 51) hx hb d_X_reckon_20 (by decide) (fun _ => ?_) (fun hh => absurd hh (by decide))
  refine lv_iload_n hx hb d_X_reckon_51 rfl (lv_at hl 3 rfl) ?_
  refine lv_bipush (v := (8 : Int32)) hx hb d_X_reckon_52 (by decide) ?_
  refine lv_icmp_ge (tgt := 147) hx hb d_X_reckon_54 (by decide) (fun hh => absurd hh (by decide)) (fun _ => ?_)
  refine lv_aload_n hx hb d_X_reckon_57 rfl (lv_at hl 2 rfl) ?_
  refine zz_get (C := R_X) (T := F_X) (N := 27) (v := .ref yD) hx hb hts in_X hown hK hP 0 rfl rfl 2 (by decide) mw_74 rfl d_X_reckon_58 ?_
  refine lv_iload_n hx hb d_X_reckon_61 rfl (lv_at hl 4 rfl) ?_
  refine lv_iload_n hx hb d_X_reckon_62 rfl (lv_at hl 3 rfl) ?_
  refine lv_iconst (v := (1 : Int32)) hx hb d_X_reckon_63 (by decide) ?_
  refine lv_icmp_ne (tgt := 72) hx hb d_X_reckon_64 (by decide) (fun _ => ?_) (fun hh => absurd hh (by decide))
  refine lv_iload_n hx hb d_X_reckon_72 rfl (lv_at hl 3 rfl) ?_
  refine lv_iconst (v := (2 : Int32)) hx hb d_X_reckon_73 (by decide) ?_
  refine lv_icmp_ne (tgt := 85) hx hb d_X_reckon_74 (by decide) (fun _ => ?_) (fun hh => absurd hh (by decide))
  refine lv_iload_n hx hb d_X_reckon_85 rfl (lv_at hl 3 rfl) ?_
  refine lv_iconst (v := (3 : Int32)) hx hb d_X_reckon_86 (by decide) ?_
  refine lv_icmp_ne (tgt := 98) hx hb d_X_reckon_87 (by decide) (fun hh => absurd hh (by decide)) (fun _ => ?_)
  refine lv_iload hx hb d_X_reckon_90 (lv_at hl 1 rfl) ?_
  refine lv_iload hx hb d_X_reckon_92 (lv_at hl 0 rfl) ?_
  refine lv_iadd hx hb d_X_reckon_94 ?_
  refine lv_goto (tgt := 143) hx hb d_X_reckon_95 (by decide) ?_
  refine zz_iast (w' := [oX yX yM yD yA yO yL yH yI v_x, ar cI yM 512 v_M, ar cI yD 8 (upd v_d (ix a2) ((v_d (ix a3)) + (v_d (ix a4)))), ar cI yA 8 v_a, ar cI yO 4 v_o, ar cI yL 6 v_lo, ar cI yH 6 v_hi, ar cI yI 6 v_ri]) hx hb hK hP hD hS 2 0 rfl rfl hi2 d_X_reckon_143 rfl (fun H locs hP hD hS => ?_)
  refine lv_goto (tgt := 205) hx hb d_X_reckon_144 (by decide) ?_
  have hsp : s_X_reckon3 v_x v_M v_d v_a v_o v_lo v_hi v_ri a2 a3 a4 a5 = (upd v_d (ix a2) ((v_d (ix a3)) + (v_d (ix a4)))) := rfl
  rw [hsp] at hE
  exact hE _ _ _ _ hP hD hS d_X_reckon_205
set_option maxHeartbeats 4000000 in
set_option maxRecDepth 100000 in
theorem k_X_reckon4 (l : Launch) (D : va_G) (cI : ClassId) (sz : Nat) (yX : Nat) (yM : Nat) (yD : Nat) (yA : Nat) (yO : Nat) (yL : Nat) (yH : Nat) (yI : Nat) (v_x : Nat → Int32) (v_M : Nat → Int32) (v_d : Nat → Int32) (v_a : Nat → Int32) (v_o : Nat → Int32) (v_lo : Nat → Int32) (v_hi : Nat → Int32) (v_ri : Nat → Int32) (a2 : Int32) (a3 : Int32) (a4 : Int32) (a5 : Int32) (hi2 : vp_in a2 8) (hi3 : vp_in a3 8) (hi4 : vp_in a4 8) : zMv l y_X_reckon (.code y_X_reckon b_X_reckon 8 (none) :: wd) { frames := 0, cells := 0, slots := 0, locals := 0 } D classes [(cI, .int)] [.ref yX, .int (4 : Int32), .int a2, .int a3, .int a4, .int a5] [oX yX yM yD yA yO yL yH yI v_x, ar cI yM 512 v_M, ar cI yD 8 v_d, ar cI yA 8 v_a, ar cI yO 4 v_o, ar cI yL 6 v_lo, ar cI yH 6 v_hi, ar cI yI 6 v_ri] [oX yX yM yD yA yO yL yH yI v_x, ar cI yM 512 v_M, ar cI yD 8 (s_X_reckon4 v_x v_M v_d v_a v_o v_lo v_hi v_ri a2 a3 a4 a5), ar cI yA 8 v_a, ar cI yO 4 v_o, ar cI yL 6 v_lo, ar cI yH 6 v_hi, ar cI yI 6 v_ri] sz := by
  refine met_v (by decide) (Nat.le_of_ble_eq_true rfl) ?_
  intro p e s m args below meth c A Q ls hx hb hml hown hts hK hP hD hS hA hl hE
  have hl : lv_has ls 8 [(0, .ref yX), (1, .int (4 : Int32)), (2, .int a2), (3, .int a3), (4, .int a4), (5, .int a5)] := hl
  have hown : s.vm.findClass R_X = some m.cls := hown
  refine lv_aload_n hx hb d_X_reckon_0 rfl (lv_at hl 0 rfl) ?_
  refine zz_get (C := R_X) (T := F_X) (N := 27) (v := .ref yD) hx hb hts in_X hown hK hP 0 rfl rfl 2 (by decide) mw_74 rfl d_X_reckon_1 ?_
  refine lv_iload_n hx hb d_X_reckon_4 rfl (lv_at hl 3 rfl) ?_
  refine va_iald hx hb hK hP 2 0 rfl rfl hi3 d_X_reckon_5 ?_
  refine lv_istore (lv' := [(6, .int (v_d (ix a3))), (0, .ref yX), (1, .int (4 : Int32)), (2, .int a2), (3, .int a3), (4, .int a4), (5, .int a5)]) hx hb d_X_reckon_6 hl (by decide) rfl (fun ls hl => ?_)
  refine lv_aload_n hx hb d_X_reckon_8 rfl (lv_at hl 1 rfl) ?_
  refine zz_get (C := R_X) (T := F_X) (N := 27) (v := .ref yD) hx hb hts in_X hown hK hP 0 rfl rfl 2 (by decide) mw_74 rfl d_X_reckon_9 ?_
  refine lv_iload hx hb d_X_reckon_12 (lv_at hl 5 rfl) ?_
  refine va_iald hx hb hK hP 2 0 rfl rfl hi4 d_X_reckon_14 ?_
  refine lv_istore (lv' := [(7, .int (v_d (ix a4))), (6, .int (v_d (ix a3))), (0, .ref yX), (1, .int (4 : Int32)), (2, .int a2), (3, .int a3), (4, .int a4), (5, .int a5)]) hx hb d_X_reckon_15 hl (by decide) rfl (fun ls hl => ?_)
  refine lv_iload_n hx hb d_X_reckon_17 rfl (lv_at hl 3 rfl) ?_
  show W p l e _ s m args below meth c _ _ _ _ Q (F0 m 18 ls _)
  refine lv_bipush (v := (8 : Int32)) hx hb d_X_reckon_18 (by decide) ?_
  refine lv_icmp_ne (tgt := 51) hx hb d_X_reckon_20 (by decide) (fun _ => ?_) (fun hh => absurd hh (by decide))
  refine lv_iload_n hx hb d_X_reckon_51 rfl (lv_at hl 3 rfl) ?_
  refine lv_bipush (v := (8 : Int32)) hx hb d_X_reckon_52 (by decide) ?_
  refine lv_icmp_ge (tgt := 147) hx hb d_X_reckon_54 (by decide) (fun hh => absurd hh (by decide)) (fun _ => ?_)
  refine lv_aload_n hx hb d_X_reckon_57 rfl (lv_at hl 2 rfl) ?_
  refine zz_get (C := R_X) (T := F_X) (N := 27) (v := .ref yD) hx hb hts in_X hown hK hP 0 rfl rfl 2 (by decide) mw_74 rfl d_X_reckon_58 ?_
  refine lv_iload_n hx hb d_X_reckon_61 rfl (lv_at hl 4 rfl) ?_
  refine lv_iload_n hx hb d_X_reckon_62 rfl (lv_at hl 3 rfl) ?_
  refine lv_iconst (v := (1 : Int32)) hx hb d_X_reckon_63 (by decide) ?_
  refine lv_icmp_ne (tgt := 72) hx hb d_X_reckon_64 (by decide) (fun _ => ?_) (fun hh => absurd hh (by decide))
  refine lv_iload_n hx hb d_X_reckon_72 rfl (lv_at hl 3 rfl) ?_
  refine lv_iconst (v := (2 : Int32)) hx hb d_X_reckon_73 (by decide) ?_
  refine lv_icmp_ne (tgt := 85) hx hb d_X_reckon_74 (by decide) (fun _ => ?_) (fun hh => absurd hh (by decide))
  refine lv_iload_n hx hb d_X_reckon_85 rfl (lv_at hl 3 rfl) ?_
  refine lv_iconst (v := (3 : Int32)) hx hb d_X_reckon_86 (by decide) ?_
  refine lv_icmp_ne (tgt := 98) hx hb d_X_reckon_87 (by decide) (fun _ => ?_) (fun hh => absurd hh (by decide))
  refine lv_iload_n hx hb d_X_reckon_98 rfl (lv_at hl 3 rfl) ?_
  refine lv_iconst (v := (4 : Int32)) hx hb d_X_reckon_99 (by decide) ?_
  refine lv_icmp_ne (tgt := 111) hx hb d_X_reckon_100 (by decide) (fun hh => absurd hh (by decide)) (fun _ => ?_)
  refine lv_iload hx hb d_X_reckon_103 (lv_at hl 1 rfl) ?_
  refine lv_iload hx hb d_X_reckon_105 (lv_at hl 0 rfl) ?_
  refine lv_isub hx hb d_X_reckon_107 ?_
  refine lv_goto (tgt := 143) hx hb d_X_reckon_108 (by decide) ?_
  refine zz_iast (w' := [oX yX yM yD yA yO yL yH yI v_x, ar cI yM 512 v_M, ar cI yD 8 (upd v_d (ix a2) ((v_d (ix a3)) - (v_d (ix a4)))), ar cI yA 8 v_a, ar cI yO 4 v_o, ar cI yL 6 v_lo, ar cI yH 6 v_hi, ar cI yI 6 v_ri]) hx hb hK hP hD hS 2 0 rfl rfl hi2 d_X_reckon_143 rfl (fun H locs hP hD hS => ?_)
  refine lv_goto (tgt := 205) hx hb d_X_reckon_144 (by decide) ?_
  have hsp : s_X_reckon4 v_x v_M v_d v_a v_o v_lo v_hi v_ri a2 a3 a4 a5 = (upd v_d (ix a2) ((v_d (ix a3)) - (v_d (ix a4)))) := rfl
  rw [hsp] at hE
  exact hE _ _ _ _ hP hD hS d_X_reckon_205
set_option maxHeartbeats 4000000 in
set_option maxRecDepth 100000 in
theorem k_X_reckon5 (l : Launch) (D : va_G) (cI : ClassId) (sz : Nat) (yX : Nat) (yM : Nat) (yD : Nat) (yA : Nat) (yO : Nat) (yL : Nat) (yH : Nat) (yI : Nat) (v_x : Nat → Int32) (v_M : Nat → Int32) (v_d : Nat → Int32) (v_a : Nat → Int32) (v_o : Nat → Int32) (v_lo : Nat → Int32) (v_hi : Nat → Int32) (v_ri : Nat → Int32) (a2 : Int32) (a3 : Int32) (a4 : Int32) (a5 : Int32) (hi2 : vp_in a2 8) (hi3 : vp_in a3 8) (hi4 : vp_in a4 8) : zMv l y_X_reckon (.code y_X_reckon b_X_reckon 8 (none) :: wd) { frames := 0, cells := 0, slots := 0, locals := 0 } D classes [(cI, .int)] [.ref yX, .int (5 : Int32), .int a2, .int a3, .int a4, .int a5] [oX yX yM yD yA yO yL yH yI v_x, ar cI yM 512 v_M, ar cI yD 8 v_d, ar cI yA 8 v_a, ar cI yO 4 v_o, ar cI yL 6 v_lo, ar cI yH 6 v_hi, ar cI yI 6 v_ri] [oX yX yM yD yA yO yL yH yI v_x, ar cI yM 512 v_M, ar cI yD 8 (s_X_reckon5 v_x v_M v_d v_a v_o v_lo v_hi v_ri a2 a3 a4 a5), ar cI yA 8 v_a, ar cI yO 4 v_o, ar cI yL 6 v_lo, ar cI yH 6 v_hi, ar cI yI 6 v_ri] sz := by
  refine met_v (by decide) (Nat.le_of_ble_eq_true rfl) ?_
  intro p e s m args below meth c A Q ls hx hb hml hown hts hK hP hD hS hA hl hE
  have hl : lv_has ls 8 [(0, .ref yX), (1, .int (5 : Int32)), (2, .int a2), (3, .int a3), (4, .int a4), (5, .int a5)] := hl
  have hown : s.vm.findClass R_X = some m.cls := hown
  refine lv_aload_n hx hb d_X_reckon_0 rfl (lv_at hl 0 rfl) ?_
  refine zz_get (C := R_X) (T := F_X) (N := 27) (v := .ref yD) hx hb hts in_X hown hK hP 0 rfl rfl 2 (by decide) mw_74 rfl d_X_reckon_1 ?_
  refine lv_iload_n hx hb d_X_reckon_4 rfl (lv_at hl 3 rfl) ?_
  refine va_iald hx hb hK hP 2 0 rfl rfl hi3 d_X_reckon_5 ?_
  refine lv_istore (lv' := [(6, .int (v_d (ix a3))), (0, .ref yX), (1, .int (5 : Int32)), (2, .int a2), (3, .int a3), (4, .int a4), (5, .int a5)]) hx hb d_X_reckon_6 hl (by decide) rfl (fun ls hl => ?_)
  refine lv_aload_n hx hb d_X_reckon_8 rfl (lv_at hl 1 rfl) ?_
  refine zz_get (C := R_X) (T := F_X) (N := 27) (v := .ref yD) hx hb hts in_X hown hK hP 0 rfl rfl 2 (by decide) mw_74 rfl d_X_reckon_9 ?_
  refine lv_iload hx hb d_X_reckon_12 (lv_at hl 5 rfl) ?_
  refine va_iald hx hb hK hP 2 0 rfl rfl hi4 d_X_reckon_14 ?_
  refine lv_istore (lv' := [(7, .int (v_d (ix a4))), (6, .int (v_d (ix a3))), (0, .ref yX), (1, .int (5 : Int32)), (2, .int a2), (3, .int a3), (4, .int a4), (5, .int a5)]) hx hb d_X_reckon_15 hl (by decide) rfl (fun ls hl => ?_)
  refine lv_iload_n hx hb d_X_reckon_17 rfl (lv_at hl 3 rfl) ?_
  show W p l e _ s m args below meth c _ _ _ _ Q (F0 m 18 ls _)
  refine lv_bipush (v := (8 : Int32)) hx hb d_X_reckon_18 (by decide) ?_
  refine lv_icmp_ne (tgt := 51) hx hb d_X_reckon_20 (by decide) (fun _ => ?_) (fun hh => absurd hh (by decide))
  refine lv_iload_n hx hb d_X_reckon_51 rfl (lv_at hl 3 rfl) ?_
  refine lv_bipush (v := (8 : Int32)) hx hb d_X_reckon_52 (by decide) ?_
  refine lv_icmp_ge (tgt := 147) hx hb d_X_reckon_54 (by decide) (fun hh => absurd hh (by decide)) (fun _ => ?_)
  refine lv_aload_n hx hb d_X_reckon_57 rfl (lv_at hl 2 rfl) ?_
  refine zz_get (C := R_X) (T := F_X) (N := 27) (v := .ref yD) hx hb hts in_X hown hK hP 0 rfl rfl 2 (by decide) mw_74 rfl d_X_reckon_58 ?_
  refine lv_iload_n hx hb d_X_reckon_61 rfl (lv_at hl 4 rfl) ?_
  refine lv_iload_n hx hb d_X_reckon_62 rfl (lv_at hl 3 rfl) ?_
  refine lv_iconst (v := (1 : Int32)) hx hb d_X_reckon_63 (by decide) ?_
  refine lv_icmp_ne (tgt := 72) hx hb d_X_reckon_64 (by decide) (fun _ => ?_) (fun hh => absurd hh (by decide))
  refine lv_iload_n hx hb d_X_reckon_72 rfl (lv_at hl 3 rfl) ?_
  refine lv_iconst (v := (2 : Int32)) hx hb d_X_reckon_73 (by decide) ?_
  refine lv_icmp_ne (tgt := 85) hx hb d_X_reckon_74 (by decide) (fun _ => ?_) (fun hh => absurd hh (by decide))
  refine lv_iload_n hx hb d_X_reckon_85 rfl (lv_at hl 3 rfl) ?_
  refine lv_iconst (v := (3 : Int32)) hx hb d_X_reckon_86 (by decide) ?_
  refine lv_icmp_ne (tgt := 98) hx hb d_X_reckon_87 (by decide) (fun _ => ?_) (fun hh => absurd hh (by decide))
  refine lv_iload_n hx hb d_X_reckon_98 rfl (lv_at hl 3 rfl) ?_
  refine lv_iconst (v := (4 : Int32)) hx hb d_X_reckon_99 (by decide) ?_
  refine lv_icmp_ne (tgt := 111) hx hb d_X_reckon_100 (by decide) (fun _ => ?_) (fun hh => absurd hh (by decide))
  refine lv_iload_n hx hb d_X_reckon_111 rfl (lv_at hl 3 rfl) ?_
  refine lv_iconst (v := (5 : Int32)) hx hb d_X_reckon_112 (by decide) ?_
  refine lv_icmp_ne (tgt := 124) hx hb d_X_reckon_113 (by decide) (fun hh => absurd hh (by decide)) (fun _ => ?_)
  refine lv_iload hx hb d_X_reckon_116 (lv_at hl 1 rfl) ?_
  refine lv_iload hx hb d_X_reckon_118 (lv_at hl 0 rfl) ?_
  refine lv_imul hx hb d_X_reckon_120 ?_
  refine lv_goto (tgt := 143) hx hb d_X_reckon_121 (by decide) ?_
  refine zz_iast (w' := [oX yX yM yD yA yO yL yH yI v_x, ar cI yM 512 v_M, ar cI yD 8 (upd v_d (ix a2) ((v_d (ix a3)) * (v_d (ix a4)))), ar cI yA 8 v_a, ar cI yO 4 v_o, ar cI yL 6 v_lo, ar cI yH 6 v_hi, ar cI yI 6 v_ri]) hx hb hK hP hD hS 2 0 rfl rfl hi2 d_X_reckon_143 rfl (fun H locs hP hD hS => ?_)
  refine lv_goto (tgt := 205) hx hb d_X_reckon_144 (by decide) ?_
  have hsp : s_X_reckon5 v_x v_M v_d v_a v_o v_lo v_hi v_ri a2 a3 a4 a5 = (upd v_d (ix a2) ((v_d (ix a3)) * (v_d (ix a4)))) := rfl
  rw [hsp] at hE
  exact hE _ _ _ _ hP hD hS d_X_reckon_205
set_option maxHeartbeats 4000000 in
set_option maxRecDepth 100000 in
theorem k_X_reckon6 (l : Launch) (D : va_G) (cI : ClassId) (sz : Nat) (yX : Nat) (yM : Nat) (yD : Nat) (yA : Nat) (yO : Nat) (yL : Nat) (yH : Nat) (yI : Nat) (v_x : Nat → Int32) (v_M : Nat → Int32) (v_d : Nat → Int32) (v_a : Nat → Int32) (v_o : Nat → Int32) (v_lo : Nat → Int32) (v_hi : Nat → Int32) (v_ri : Nat → Int32) (a2 : Int32) (a3 : Int32) (a4 : Int32) (a5 : Int32) (hi2 : vp_in a2 8) (hi3 : vp_in a3 8) (hi4 : vp_in a4 8) : zMv l y_X_reckon (.code y_X_reckon b_X_reckon 8 (none) :: wd) { frames := 0, cells := 0, slots := 0, locals := 0 } D classes [(cI, .int)] [.ref yX, .int (6 : Int32), .int a2, .int a3, .int a4, .int a5] [oX yX yM yD yA yO yL yH yI v_x, ar cI yM 512 v_M, ar cI yD 8 v_d, ar cI yA 8 v_a, ar cI yO 4 v_o, ar cI yL 6 v_lo, ar cI yH 6 v_hi, ar cI yI 6 v_ri] [oX yX yM yD yA yO yL yH yI v_x, ar cI yM 512 v_M, ar cI yD 8 (s_X_reckon6 v_x v_M v_d v_a v_o v_lo v_hi v_ri a2 a3 a4 a5), ar cI yA 8 v_a, ar cI yO 4 v_o, ar cI yL 6 v_lo, ar cI yH 6 v_hi, ar cI yI 6 v_ri] sz := by
  refine met_v (by decide) (Nat.le_of_ble_eq_true rfl) ?_
  intro p e s m args below meth c A Q ls hx hb hml hown hts hK hP hD hS hA hl hE
  have hl : lv_has ls 8 [(0, .ref yX), (1, .int (6 : Int32)), (2, .int a2), (3, .int a3), (4, .int a4), (5, .int a5)] := hl
  have hown : s.vm.findClass R_X = some m.cls := hown
  refine lv_aload_n hx hb d_X_reckon_0 rfl (lv_at hl 0 rfl) ?_
  refine zz_get (C := R_X) (T := F_X) (N := 27) (v := .ref yD) hx hb hts in_X hown hK hP 0 rfl rfl 2 (by decide) mw_74 rfl d_X_reckon_1 ?_
  refine lv_iload_n hx hb d_X_reckon_4 rfl (lv_at hl 3 rfl) ?_
  refine va_iald hx hb hK hP 2 0 rfl rfl hi3 d_X_reckon_5 ?_
  refine lv_istore (lv' := [(6, .int (v_d (ix a3))), (0, .ref yX), (1, .int (6 : Int32)), (2, .int a2), (3, .int a3), (4, .int a4), (5, .int a5)]) hx hb d_X_reckon_6 hl (by decide) rfl (fun ls hl => ?_)
  refine lv_aload_n hx hb d_X_reckon_8 rfl (lv_at hl 1 rfl) ?_
  refine zz_get (C := R_X) (T := F_X) (N := 27) (v := .ref yD) hx hb hts in_X hown hK hP 0 rfl rfl 2 (by decide) mw_74 rfl d_X_reckon_9 ?_
  refine lv_iload hx hb d_X_reckon_12 (lv_at hl 5 rfl) ?_
  refine va_iald hx hb hK hP 2 0 rfl rfl hi4 d_X_reckon_14 ?_
  refine lv_istore (lv' := [(7, .int (v_d (ix a4))), (6, .int (v_d (ix a3))), (0, .ref yX), (1, .int (6 : Int32)), (2, .int a2), (3, .int a3), (4, .int a4), (5, .int a5)]) hx hb d_X_reckon_15 hl (by decide) rfl (fun ls hl => ?_)
  refine lv_iload_n hx hb d_X_reckon_17 rfl (lv_at hl 3 rfl) ?_
  show W p l e _ s m args below meth c _ _ _ _ Q (F0 m 18 ls _)
  refine lv_bipush (v := (8 : Int32)) hx hb d_X_reckon_18 (by decide) ?_
  refine lv_icmp_ne (tgt := 51) hx hb d_X_reckon_20 (by decide) (fun _ => ?_) (fun hh => absurd hh (by decide))
  refine lv_iload_n hx hb d_X_reckon_51 rfl (lv_at hl 3 rfl) ?_
  refine lv_bipush (v := (8 : Int32)) hx hb d_X_reckon_52 (by decide) ?_
  refine lv_icmp_ge (tgt := 147) hx hb d_X_reckon_54 (by decide) (fun hh => absurd hh (by decide)) (fun _ => ?_)
  refine lv_aload_n hx hb d_X_reckon_57 rfl (lv_at hl 2 rfl) ?_
  refine zz_get (C := R_X) (T := F_X) (N := 27) (v := .ref yD) hx hb hts in_X hown hK hP 0 rfl rfl 2 (by decide) mw_74 rfl d_X_reckon_58 ?_
  refine lv_iload_n hx hb d_X_reckon_61 rfl (lv_at hl 4 rfl) ?_
  refine lv_iload_n hx hb d_X_reckon_62 rfl (lv_at hl 3 rfl) ?_
  refine lv_iconst (v := (1 : Int32)) hx hb d_X_reckon_63 (by decide) ?_
  refine lv_icmp_ne (tgt := 72) hx hb d_X_reckon_64 (by decide) (fun _ => ?_) (fun hh => absurd hh (by decide))
  refine lv_iload_n hx hb d_X_reckon_72 rfl (lv_at hl 3 rfl) ?_
  refine lv_iconst (v := (2 : Int32)) hx hb d_X_reckon_73 (by decide) ?_
  refine lv_icmp_ne (tgt := 85) hx hb d_X_reckon_74 (by decide) (fun _ => ?_) (fun hh => absurd hh (by decide))
  refine lv_iload_n hx hb d_X_reckon_85 rfl (lv_at hl 3 rfl) ?_
  refine lv_iconst (v := (3 : Int32)) hx hb d_X_reckon_86 (by decide) ?_
  refine lv_icmp_ne (tgt := 98) hx hb d_X_reckon_87 (by decide) (fun _ => ?_) (fun hh => absurd hh (by decide))
  refine lv_iload_n hx hb d_X_reckon_98 rfl (lv_at hl 3 rfl) ?_
  refine lv_iconst (v := (4 : Int32)) hx hb d_X_reckon_99 (by decide) ?_
  refine lv_icmp_ne (tgt := 111) hx hb d_X_reckon_100 (by decide) (fun _ => ?_) (fun hh => absurd hh (by decide))
  refine lv_iload_n hx hb d_X_reckon_111 rfl (lv_at hl 3 rfl) ?_
  refine lv_iconst (v := (5 : Int32)) hx hb d_X_reckon_112 (by decide) ?_
  refine lv_icmp_ne (tgt := 124) hx hb d_X_reckon_113 (by decide) (fun _ => ?_) (fun hh => absurd hh (by decide))
  refine lv_iload_n hx hb d_X_reckon_124 rfl (lv_at hl 3 rfl) ?_
  refine lv_bipush (v := (6 : Int32)) hx hb d_X_reckon_125 (by decide) ?_
  refine lv_icmp_ne (tgt := 138) hx hb d_X_reckon_127 (by decide) (fun hh => absurd hh (by decide)) (fun _ => ?_)
  refine lv_iload hx hb d_X_reckon_130 (lv_at hl 1 rfl) ?_
  refine lv_iload hx hb d_X_reckon_132 (lv_at hl 0 rfl) ?_
  refine lv_iand hx hb d_X_reckon_134 ?_
  refine lv_goto (tgt := 143) hx hb d_X_reckon_135 (by decide) ?_
  refine zz_iast (w' := [oX yX yM yD yA yO yL yH yI v_x, ar cI yM 512 v_M, ar cI yD 8 (upd v_d (ix a2) ((v_d (ix a3)) &&& (v_d (ix a4)))), ar cI yA 8 v_a, ar cI yO 4 v_o, ar cI yL 6 v_lo, ar cI yH 6 v_hi, ar cI yI 6 v_ri]) hx hb hK hP hD hS 2 0 rfl rfl hi2 d_X_reckon_143 rfl (fun H locs hP hD hS => ?_)
  refine lv_goto (tgt := 205) hx hb d_X_reckon_144 (by decide) ?_
  have hsp : s_X_reckon6 v_x v_M v_d v_a v_o v_lo v_hi v_ri a2 a3 a4 a5 = (upd v_d (ix a2) ((v_d (ix a3)) &&& (v_d (ix a4)))) := rfl
  rw [hsp] at hE
  exact hE _ _ _ _ hP hD hS d_X_reckon_205
set_option maxHeartbeats 4000000 in
set_option maxRecDepth 100000 in
theorem k_X_reckon7 (l : Launch) (D : va_G) (cI : ClassId) (sz : Nat) (yX : Nat) (yM : Nat) (yD : Nat) (yA : Nat) (yO : Nat) (yL : Nat) (yH : Nat) (yI : Nat) (v_x : Nat → Int32) (v_M : Nat → Int32) (v_d : Nat → Int32) (v_a : Nat → Int32) (v_o : Nat → Int32) (v_lo : Nat → Int32) (v_hi : Nat → Int32) (v_ri : Nat → Int32) (a2 : Int32) (a3 : Int32) (a4 : Int32) (a5 : Int32) (hi2 : vp_in a2 8) (hi3 : vp_in a3 8) (hi4 : vp_in a4 8) : zMv l y_X_reckon (.code y_X_reckon b_X_reckon 8 (none) :: wd) { frames := 0, cells := 0, slots := 0, locals := 0 } D classes [(cI, .int)] [.ref yX, .int (7 : Int32), .int a2, .int a3, .int a4, .int a5] [oX yX yM yD yA yO yL yH yI v_x, ar cI yM 512 v_M, ar cI yD 8 v_d, ar cI yA 8 v_a, ar cI yO 4 v_o, ar cI yL 6 v_lo, ar cI yH 6 v_hi, ar cI yI 6 v_ri] [oX yX yM yD yA yO yL yH yI v_x, ar cI yM 512 v_M, ar cI yD 8 (s_X_reckon7 v_x v_M v_d v_a v_o v_lo v_hi v_ri a2 a3 a4 a5), ar cI yA 8 v_a, ar cI yO 4 v_o, ar cI yL 6 v_lo, ar cI yH 6 v_hi, ar cI yI 6 v_ri] sz := by
  refine met_v (by decide) (Nat.le_of_ble_eq_true rfl) ?_
  intro p e s m args below meth c A Q ls hx hb hml hown hts hK hP hD hS hA hl hE
  have hl : lv_has ls 8 [(0, .ref yX), (1, .int (7 : Int32)), (2, .int a2), (3, .int a3), (4, .int a4), (5, .int a5)] := hl
  have hown : s.vm.findClass R_X = some m.cls := hown
  refine lv_aload_n hx hb d_X_reckon_0 rfl (lv_at hl 0 rfl) ?_
  refine zz_get (C := R_X) (T := F_X) (N := 27) (v := .ref yD) hx hb hts in_X hown hK hP 0 rfl rfl 2 (by decide) mw_74 rfl d_X_reckon_1 ?_
  refine lv_iload_n hx hb d_X_reckon_4 rfl (lv_at hl 3 rfl) ?_
  refine va_iald hx hb hK hP 2 0 rfl rfl hi3 d_X_reckon_5 ?_
  refine lv_istore (lv' := [(6, .int (v_d (ix a3))), (0, .ref yX), (1, .int (7 : Int32)), (2, .int a2), (3, .int a3), (4, .int a4), (5, .int a5)]) hx hb d_X_reckon_6 hl (by decide) rfl (fun ls hl => ?_)
  refine lv_aload_n hx hb d_X_reckon_8 rfl (lv_at hl 1 rfl) ?_
  refine zz_get (C := R_X) (T := F_X) (N := 27) (v := .ref yD) hx hb hts in_X hown hK hP 0 rfl rfl 2 (by decide) mw_74 rfl d_X_reckon_9 ?_
  refine lv_iload hx hb d_X_reckon_12 (lv_at hl 5 rfl) ?_
  refine va_iald hx hb hK hP 2 0 rfl rfl hi4 d_X_reckon_14 ?_
  refine lv_istore (lv' := [(7, .int (v_d (ix a4))), (6, .int (v_d (ix a3))), (0, .ref yX), (1, .int (7 : Int32)), (2, .int a2), (3, .int a3), (4, .int a4), (5, .int a5)]) hx hb d_X_reckon_15 hl (by decide) rfl (fun ls hl => ?_)
  refine lv_iload_n hx hb d_X_reckon_17 rfl (lv_at hl 3 rfl) ?_
  show W p l e _ s m args below meth c _ _ _ _ Q (F0 m 18 ls _)
  refine lv_bipush (v := (8 : Int32)) hx hb d_X_reckon_18 (by decide) ?_
  refine lv_icmp_ne (tgt := 51) hx hb d_X_reckon_20 (by decide) (fun _ => ?_) (fun hh => absurd hh (by decide))
  refine lv_iload_n hx hb d_X_reckon_51 rfl (lv_at hl 3 rfl) ?_
  refine lv_bipush (v := (8 : Int32)) hx hb d_X_reckon_52 (by decide) ?_
  refine lv_icmp_ge (tgt := 147) hx hb d_X_reckon_54 (by decide) (fun hh => absurd hh (by decide)) (fun _ => ?_)
  refine lv_aload_n hx hb d_X_reckon_57 rfl (lv_at hl 2 rfl) ?_
  refine zz_get (C := R_X) (T := F_X) (N := 27) (v := .ref yD) hx hb hts in_X hown hK hP 0 rfl rfl 2 (by decide) mw_74 rfl d_X_reckon_58 ?_
  refine lv_iload_n hx hb d_X_reckon_61 rfl (lv_at hl 4 rfl) ?_
  refine lv_iload_n hx hb d_X_reckon_62 rfl (lv_at hl 3 rfl) ?_
  refine lv_iconst (v := (1 : Int32)) hx hb d_X_reckon_63 (by decide) ?_
  refine lv_icmp_ne (tgt := 72) hx hb d_X_reckon_64 (by decide) (fun _ => ?_) (fun hh => absurd hh (by decide))
  refine lv_iload_n hx hb d_X_reckon_72 rfl (lv_at hl 3 rfl) ?_
  refine lv_iconst (v := (2 : Int32)) hx hb d_X_reckon_73 (by decide) ?_
  refine lv_icmp_ne (tgt := 85) hx hb d_X_reckon_74 (by decide) (fun _ => ?_) (fun hh => absurd hh (by decide))
  refine lv_iload_n hx hb d_X_reckon_85 rfl (lv_at hl 3 rfl) ?_
  refine lv_iconst (v := (3 : Int32)) hx hb d_X_reckon_86 (by decide) ?_
  refine lv_icmp_ne (tgt := 98) hx hb d_X_reckon_87 (by decide) (fun _ => ?_) (fun hh => absurd hh (by decide))
  refine lv_iload_n hx hb d_X_reckon_98 rfl (lv_at hl 3 rfl) ?_
  refine lv_iconst (v := (4 : Int32)) hx hb d_X_reckon_99 (by decide) ?_
  refine lv_icmp_ne (tgt := 111) hx hb d_X_reckon_100 (by decide) (fun _ => ?_) (fun hh => absurd hh (by decide))
  refine lv_iload_n hx hb d_X_reckon_111 rfl (lv_at hl 3 rfl) ?_
  refine lv_iconst (v := (5 : Int32)) hx hb d_X_reckon_112 (by decide) ?_
  refine lv_icmp_ne (tgt := 124) hx hb d_X_reckon_113 (by decide) (fun _ => ?_) (fun hh => absurd hh (by decide))
  refine lv_iload_n hx hb d_X_reckon_124 rfl (lv_at hl 3 rfl) ?_
  refine lv_bipush (v := (6 : Int32)) hx hb d_X_reckon_125 (by decide) ?_
  refine lv_icmp_ne (tgt := 138) hx hb d_X_reckon_127 (by decide) (fun _ => ?_) (fun hh => absurd hh (by decide))
  refine lv_iload hx hb d_X_reckon_138 (lv_at hl 1 rfl) ?_
  refine lv_iload hx hb d_X_reckon_140 (lv_at hl 0 rfl) ?_
  refine lv_ixor hx hb d_X_reckon_142 ?_
  refine zz_iast (w' := [oX yX yM yD yA yO yL yH yI v_x, ar cI yM 512 v_M, ar cI yD 8 (upd v_d (ix a2) ((v_d (ix a3)) ^^^ (v_d (ix a4)))), ar cI yA 8 v_a, ar cI yO 4 v_o, ar cI yL 6 v_lo, ar cI yH 6 v_hi, ar cI yI 6 v_ri]) hx hb hK hP hD hS 2 0 rfl rfl hi2 d_X_reckon_143 rfl (fun H locs hP hD hS => ?_)
  refine lv_goto (tgt := 205) hx hb d_X_reckon_144 (by decide) ?_
  have hsp : s_X_reckon7 v_x v_M v_d v_a v_o v_lo v_hi v_ri a2 a3 a4 a5 = (upd v_d (ix a2) ((v_d (ix a3)) ^^^ (v_d (ix a4)))) := rfl
  rw [hsp] at hE
  exact hE _ _ _ _ hP hD hS d_X_reckon_205
set_option maxHeartbeats 4000000 in
set_option maxRecDepth 100000 in
theorem k_X_reckon8 (l : Launch) (D : va_G) (cI : ClassId) (sz : Nat) (yX : Nat) (yM : Nat) (yD : Nat) (yA : Nat) (yO : Nat) (yL : Nat) (yH : Nat) (yI : Nat) (v_x : Nat → Int32) (v_M : Nat → Int32) (v_d : Nat → Int32) (v_a : Nat → Int32) (v_o : Nat → Int32) (v_lo : Nat → Int32) (v_hi : Nat → Int32) (v_ri : Nat → Int32) (a2 : Int32) (a3 : Int32) (a4 : Int32) (a5 : Int32) (hi2 : vp_in a2 8) (hi3 : vp_in a3 8) (hi4 : vp_in a4 8) : zMv l y_X_reckon (.code y_X_reckon b_X_reckon 8 (none) :: wd) { frames := 0, cells := 0, slots := 0, locals := 0 } D classes [(cI, .int)] [.ref yX, .int (8 : Int32), .int a2, .int a3, .int a4, .int a5] [oX yX yM yD yA yO yL yH yI v_x, ar cI yM 512 v_M, ar cI yD 8 v_d, ar cI yA 8 v_a, ar cI yO 4 v_o, ar cI yL 6 v_lo, ar cI yH 6 v_hi, ar cI yI 6 v_ri] [oX yX yM yD yA yO yL yH yI v_x, ar cI yM 512 v_M, ar cI yD 8 (s_X_reckon8 v_x v_M v_d v_a v_o v_lo v_hi v_ri a2 a3 a4 a5), ar cI yA 8 v_a, ar cI yO 4 v_o, ar cI yL 6 v_lo, ar cI yH 6 v_hi, ar cI yI 6 v_ri] sz := by
  refine met_v (by decide) (Nat.le_of_ble_eq_true rfl) ?_
  intro p e s m args below meth c A Q ls hx hb hml hown hts hK hP hD hS hA hl hE
  have hl : lv_has ls 8 [(0, .ref yX), (1, .int (8 : Int32)), (2, .int a2), (3, .int a3), (4, .int a4), (5, .int a5)] := hl
  have hown : s.vm.findClass R_X = some m.cls := hown
  refine lv_aload_n hx hb d_X_reckon_0 rfl (lv_at hl 0 rfl) ?_
  refine zz_get (C := R_X) (T := F_X) (N := 27) (v := .ref yD) hx hb hts in_X hown hK hP 0 rfl rfl 2 (by decide) mw_74 rfl d_X_reckon_1 ?_
  refine lv_iload_n hx hb d_X_reckon_4 rfl (lv_at hl 3 rfl) ?_
  refine va_iald hx hb hK hP 2 0 rfl rfl hi3 d_X_reckon_5 ?_
  refine lv_istore (lv' := [(6, .int (v_d (ix a3))), (0, .ref yX), (1, .int (8 : Int32)), (2, .int a2), (3, .int a3), (4, .int a4), (5, .int a5)]) hx hb d_X_reckon_6 hl (by decide) rfl (fun ls hl => ?_)
  refine lv_aload_n hx hb d_X_reckon_8 rfl (lv_at hl 1 rfl) ?_
  refine zz_get (C := R_X) (T := F_X) (N := 27) (v := .ref yD) hx hb hts in_X hown hK hP 0 rfl rfl 2 (by decide) mw_74 rfl d_X_reckon_9 ?_
  refine lv_iload hx hb d_X_reckon_12 (lv_at hl 5 rfl) ?_
  refine va_iald hx hb hK hP 2 0 rfl rfl hi4 d_X_reckon_14 ?_
  refine lv_istore (lv' := [(7, .int (v_d (ix a4))), (6, .int (v_d (ix a3))), (0, .ref yX), (1, .int (8 : Int32)), (2, .int a2), (3, .int a3), (4, .int a4), (5, .int a5)]) hx hb d_X_reckon_15 hl (by decide) rfl (fun ls hl => ?_)
  refine lv_iload_n hx hb d_X_reckon_17 rfl (lv_at hl 3 rfl) ?_
  show W p l e _ s m args below meth c _ _ _ _ Q (F0 m 18 ls _)
  refine lv_bipush (v := (8 : Int32)) hx hb d_X_reckon_18 (by decide) ?_
  refine lv_icmp_ne (tgt := 51) hx hb d_X_reckon_20 (by decide) (fun hh => absurd hh (by decide)) (fun _ => ?_)
  refine lv_aload_n hx hb d_X_reckon_23 rfl (lv_at hl 2 rfl) ?_
  refine zz_get (C := R_X) (T := F_X) (N := 27) (v := .ref yD) hx hb hts in_X hown hK hP 0 rfl rfl 2 (by decide) mw_74 rfl d_X_reckon_24 ?_
  refine lv_iload_n hx hb d_X_reckon_27 rfl (lv_at hl 4 rfl) ?_
  refine lv_iload hx hb d_X_reckon_28 (lv_at hl 7 rfl) ?_
  have J30_1 : ∀ (vj30_0 : Int32) (ls : Array Slot) (H : Heap) (locs : List Loc), vj30_0 = (if 0 ≤ a5 then ((v_d (ix a3)) <<< (a5 &&& 31)) else ((v_d (ix a3)) >>> ((-a5) &&& 31))) → lv_has ls 8 [(7, .int (v_d (ix a4))), (6, .int (v_d (ix a3))), (0, .ref yX), (1, .int (8 : Int32)), (2, .int a2), (3, .int a3), (4, .int a4), (5, .int a5)] → va_P D classes [oX yX yM yD yA yO yL yH yI v_x, ar cI yM 512 v_M, ar cI yD 8 v_d, ar cI yA 8 v_a, ar cI yO 4 v_o, ar cI yL 6 v_lo, ar cI yH 6 v_hi, ar cI yI 6 v_ri] H → va_D A [oX yX yM yD yA yO yL yH yI v_x, ar cI yM 512 v_M, ar cI yD 8 v_d, ar cI yA 8 v_a, ar cI yO 4 v_o, ar cI yL 6 v_lo, ar cI yH 6 v_hi, ar cI yI 6 v_ri] → va_S A s.heap H locs → W p l e { frames := 0, cells := 0, slots := 0, locals := 0 } s m args below meth c H locs 0 0 Q (F0 m 47 ls [.int vj30_0, .int a2, .ref yD]) := by
    intro vj30_0 ls H locs evj30_0 hl hP hD hS
    subst evj30_0
    refine zz_iast (w' := [oX yX yM yD yA yO yL yH yI v_x, ar cI yM 512 v_M, ar cI yD 8 (upd v_d (ix a2) (if 0 ≤ a5 then ((v_d (ix a3)) <<< (a5 &&& 31)) else ((v_d (ix a3)) >>> ((-a5) &&& 31)))), ar cI yA 8 v_a, ar cI yO 4 v_o, ar cI yL 6 v_lo, ar cI yH 6 v_hi, ar cI yI 6 v_ri]) hx hb hK hP hD hS 2 0 rfl rfl hi2 d_X_reckon_47 rfl (fun H locs hP hD hS => ?_)
    refine lv_goto (tgt := 205) hx hb d_X_reckon_48 (by decide) ?_
    have hsp : s_X_reckon8 v_x v_M v_d v_a v_o v_lo v_hi v_ri a2 a3 a4 a5 = (upd v_d (ix a2) (if 0 ≤ a5 then ((v_d (ix a3)) <<< (a5 &&& 31)) else ((v_d (ix a3)) >>> ((-a5) &&& 31)))) := rfl
    rw [hsp] at hE
    exact hE _ _ _ _ hP hD hS d_X_reckon_205
  refine lv_if_ge (tgt := 42) hx hb d_X_reckon_30 (by decide) (fun h1 => ?_) (fun h1 => ?_)
  ·
    refine lv_iload hx hb d_X_reckon_42 (lv_at hl 1 rfl) ?_
    refine lv_iload hx hb d_X_reckon_44 (lv_at hl 7 rfl) ?_
    refine lv_ishl hx hb d_X_reckon_46 ?_
    exact J30_1 ((v_d (ix a3)) <<< (a5 &&& 31)) _ _ _ (by rw [if_pos h1]) (lv_sub hl [0, 1, 2, 3, 4, 5, 6, 7] rfl) hP hD hS
  ·
    refine lv_iload hx hb d_X_reckon_33 (lv_at hl 1 rfl) ?_
    refine lv_iload hx hb d_X_reckon_35 (lv_at hl 7 rfl) ?_
    refine lv_ineg hx hb d_X_reckon_37 ?_
    refine lv_ishr hx hb d_X_reckon_38 ?_
    refine lv_goto (tgt := 47) hx hb d_X_reckon_39 (by decide) ?_
    exact J30_1 ((v_d (ix a3)) >>> ((-a5) &&& 31)) _ _ _ (by rw [if_neg h1]) (lv_sub hl [0, 1, 2, 3, 4, 5, 6, 7] rfl) hP hD hS
set_option maxHeartbeats 4000000 in
set_option maxRecDepth 100000 in
theorem k_X_reckon9 (l : Launch) (D : va_G) (cI : ClassId) (sz : Nat) (yX : Nat) (yM : Nat) (yD : Nat) (yA : Nat) (yO : Nat) (yL : Nat) (yH : Nat) (yI : Nat) (v_x : Nat → Int32) (v_M : Nat → Int32) (v_d : Nat → Int32) (v_a : Nat → Int32) (v_o : Nat → Int32) (v_lo : Nat → Int32) (v_hi : Nat → Int32) (v_ri : Nat → Int32) (a2 : Int32) (a3 : Int32) (a4 : Int32) (a5 : Int32) (hi2 : vp_in a2 8) (hi3 : vp_in a3 8) (hi4 : vp_in a4 8) : zMv l y_X_reckon (.code y_X_reckon b_X_reckon 8 (none) :: wd) { frames := 0, cells := 0, slots := 0, locals := 0 } D classes [(cI, .int)] [.ref yX, .int (9 : Int32), .int a2, .int a3, .int a4, .int a5] [oX yX yM yD yA yO yL yH yI v_x, ar cI yM 512 v_M, ar cI yD 8 v_d, ar cI yA 8 v_a, ar cI yO 4 v_o, ar cI yL 6 v_lo, ar cI yH 6 v_hi, ar cI yI 6 v_ri] [oX yX yM yD yA yO yL yH yI v_x, ar cI yM 512 v_M, ar cI yD 8 v_d, ar cI yA 8 (s_X_reckon9 v_x v_M v_d v_a v_o v_lo v_hi v_ri a2 a3 a4 a5), ar cI yO 4 v_o, ar cI yL 6 v_lo, ar cI yH 6 v_hi, ar cI yI 6 v_ri] sz := by
  refine met_v (by decide) (Nat.le_of_ble_eq_true rfl) ?_
  intro p e s m args below meth c A Q ls hx hb hml hown hts hK hP hD hS hA hl hE
  have hl : lv_has ls 8 [(0, .ref yX), (1, .int (9 : Int32)), (2, .int a2), (3, .int a3), (4, .int a4), (5, .int a5)] := hl
  have hown : s.vm.findClass R_X = some m.cls := hown
  refine lv_aload_n hx hb d_X_reckon_0 rfl (lv_at hl 0 rfl) ?_
  refine zz_get (C := R_X) (T := F_X) (N := 27) (v := .ref yD) hx hb hts in_X hown hK hP 0 rfl rfl 2 (by decide) mw_74 rfl d_X_reckon_1 ?_
  refine lv_iload_n hx hb d_X_reckon_4 rfl (lv_at hl 3 rfl) ?_
  refine va_iald hx hb hK hP 2 0 rfl rfl hi3 d_X_reckon_5 ?_
  refine lv_istore (lv' := [(6, .int (v_d (ix a3))), (0, .ref yX), (1, .int (9 : Int32)), (2, .int a2), (3, .int a3), (4, .int a4), (5, .int a5)]) hx hb d_X_reckon_6 hl (by decide) rfl (fun ls hl => ?_)
  refine lv_aload_n hx hb d_X_reckon_8 rfl (lv_at hl 1 rfl) ?_
  refine zz_get (C := R_X) (T := F_X) (N := 27) (v := .ref yD) hx hb hts in_X hown hK hP 0 rfl rfl 2 (by decide) mw_74 rfl d_X_reckon_9 ?_
  refine lv_iload hx hb d_X_reckon_12 (lv_at hl 5 rfl) ?_
  refine va_iald hx hb hK hP 2 0 rfl rfl hi4 d_X_reckon_14 ?_
  refine lv_istore (lv' := [(7, .int (v_d (ix a4))), (6, .int (v_d (ix a3))), (0, .ref yX), (1, .int (9 : Int32)), (2, .int a2), (3, .int a3), (4, .int a4), (5, .int a5)]) hx hb d_X_reckon_15 hl (by decide) rfl (fun ls hl => ?_)
  refine lv_iload_n hx hb d_X_reckon_17 rfl (lv_at hl 3 rfl) ?_
  show W p l e _ s m args below meth c _ _ _ _ Q (F0 m 18 ls _)
  refine lv_bipush (v := (8 : Int32)) hx hb d_X_reckon_18 (by decide) ?_
  refine lv_icmp_ne (tgt := 51) hx hb d_X_reckon_20 (by decide) (fun _ => ?_) (fun hh => absurd hh (by decide))
  refine lv_iload_n hx hb d_X_reckon_51 rfl (lv_at hl 3 rfl) ?_
  refine lv_bipush (v := (8 : Int32)) hx hb d_X_reckon_52 (by decide) ?_
  refine lv_icmp_ge (tgt := 147) hx hb d_X_reckon_54 (by decide) (fun _ => ?_) (fun hh => absurd hh (by decide))
  refine lv_iload_n hx hb d_X_reckon_147 rfl (lv_at hl 3 rfl) ?_
  refine lv_bipush (v := (12 : Int32)) hx hb d_X_reckon_148 (by decide) ?_
  refine lv_icmp_ne (tgt := 168) hx hb d_X_reckon_150 (by decide) (fun _ => ?_) (fun hh => absurd hh (by decide))
  refine lv_aload_n hx hb d_X_reckon_168 rfl (lv_at hl 2 rfl) ?_
  refine zz_get (C := R_X) (T := F_X) (N := 27) (v := .ref yA) hx hb hts in_X hown hK hP 0 rfl rfl 3 (by decide) mw_73 rfl d_X_reckon_169 ?_
  refine lv_iload_n hx hb d_X_reckon_172 rfl (lv_at hl 4 rfl) ?_
  refine lv_iload_n hx hb d_X_reckon_173 rfl (lv_at hl 3 rfl) ?_
  refine lv_bipush (v := (9 : Int32)) hx hb d_X_reckon_174 (by decide) ?_
  refine lv_icmp_ne (tgt := 184) hx hb d_X_reckon_176 (by decide) (fun hh => absurd hh (by decide)) (fun _ => ?_)
  refine lv_iload hx hb d_X_reckon_179 (lv_at hl 7 rfl) ?_
  refine lv_goto (tgt := 204) hx hb d_X_reckon_181 (by decide) ?_
  refine zz_iast (w' := [oX yX yM yD yA yO yL yH yI v_x, ar cI yM 512 v_M, ar cI yD 8 v_d, ar cI yA 8 (upd v_a (ix a2) a5), ar cI yO 4 v_o, ar cI yL 6 v_lo, ar cI yH 6 v_hi, ar cI yI 6 v_ri]) hx hb hK hP hD hS 3 0 rfl rfl hi2 d_X_reckon_204 rfl (fun H locs hP hD hS => ?_)
  have hsp : s_X_reckon9 v_x v_M v_d v_a v_o v_lo v_hi v_ri a2 a3 a4 a5 = (upd v_a (ix a2) a5) := rfl
  rw [hsp] at hE
  exact hE _ _ _ _ hP hD hS d_X_reckon_205
set_option maxHeartbeats 4000000 in
set_option maxRecDepth 100000 in
theorem k_X_reckon10 (l : Launch) (D : va_G) (cI : ClassId) (sz : Nat) (yX : Nat) (yM : Nat) (yD : Nat) (yA : Nat) (yO : Nat) (yL : Nat) (yH : Nat) (yI : Nat) (v_x : Nat → Int32) (v_M : Nat → Int32) (v_d : Nat → Int32) (v_a : Nat → Int32) (v_o : Nat → Int32) (v_lo : Nat → Int32) (v_hi : Nat → Int32) (v_ri : Nat → Int32) (a2 : Int32) (a3 : Int32) (a4 : Int32) (a5 : Int32) (hi2 : vp_in a2 8) (hi3 : vp_in a3 8) (hi4 : vp_in a4 8) : zMv l y_X_reckon (.code y_X_reckon b_X_reckon 8 (none) :: wd) { frames := 0, cells := 0, slots := 0, locals := 0 } D classes [(cI, .int)] [.ref yX, .int (10 : Int32), .int a2, .int a3, .int a4, .int a5] [oX yX yM yD yA yO yL yH yI v_x, ar cI yM 512 v_M, ar cI yD 8 v_d, ar cI yA 8 v_a, ar cI yO 4 v_o, ar cI yL 6 v_lo, ar cI yH 6 v_hi, ar cI yI 6 v_ri] [oX yX yM yD yA yO yL yH yI v_x, ar cI yM 512 v_M, ar cI yD 8 v_d, ar cI yA 8 (s_X_reckon10 v_x v_M v_d v_a v_o v_lo v_hi v_ri a2 a3 a4 a5), ar cI yO 4 v_o, ar cI yL 6 v_lo, ar cI yH 6 v_hi, ar cI yI 6 v_ri] sz := by
  refine met_v (by decide) (Nat.le_of_ble_eq_true rfl) ?_
  intro p e s m args below meth c A Q ls hx hb hml hown hts hK hP hD hS hA hl hE
  have hl : lv_has ls 8 [(0, .ref yX), (1, .int (10 : Int32)), (2, .int a2), (3, .int a3), (4, .int a4), (5, .int a5)] := hl
  have hown : s.vm.findClass R_X = some m.cls := hown
  refine lv_aload_n hx hb d_X_reckon_0 rfl (lv_at hl 0 rfl) ?_
  refine zz_get (C := R_X) (T := F_X) (N := 27) (v := .ref yD) hx hb hts in_X hown hK hP 0 rfl rfl 2 (by decide) mw_74 rfl d_X_reckon_1 ?_
  refine lv_iload_n hx hb d_X_reckon_4 rfl (lv_at hl 3 rfl) ?_
  refine va_iald hx hb hK hP 2 0 rfl rfl hi3 d_X_reckon_5 ?_
  refine lv_istore (lv' := [(6, .int (v_d (ix a3))), (0, .ref yX), (1, .int (10 : Int32)), (2, .int a2), (3, .int a3), (4, .int a4), (5, .int a5)]) hx hb d_X_reckon_6 hl (by decide) rfl (fun ls hl => ?_)
  refine lv_aload_n hx hb d_X_reckon_8 rfl (lv_at hl 1 rfl) ?_
  refine zz_get (C := R_X) (T := F_X) (N := 27) (v := .ref yD) hx hb hts in_X hown hK hP 0 rfl rfl 2 (by decide) mw_74 rfl d_X_reckon_9 ?_
  refine lv_iload hx hb d_X_reckon_12 (lv_at hl 5 rfl) ?_
  refine va_iald hx hb hK hP 2 0 rfl rfl hi4 d_X_reckon_14 ?_
  refine lv_istore (lv' := [(7, .int (v_d (ix a4))), (6, .int (v_d (ix a3))), (0, .ref yX), (1, .int (10 : Int32)), (2, .int a2), (3, .int a3), (4, .int a4), (5, .int a5)]) hx hb d_X_reckon_15 hl (by decide) rfl (fun ls hl => ?_)
  refine lv_iload_n hx hb d_X_reckon_17 rfl (lv_at hl 3 rfl) ?_
  show W p l e _ s m args below meth c _ _ _ _ Q (F0 m 18 ls _)
  refine lv_bipush (v := (8 : Int32)) hx hb d_X_reckon_18 (by decide) ?_
  refine lv_icmp_ne (tgt := 51) hx hb d_X_reckon_20 (by decide) (fun _ => ?_) (fun hh => absurd hh (by decide))
  refine lv_iload_n hx hb d_X_reckon_51 rfl (lv_at hl 3 rfl) ?_
  refine lv_bipush (v := (8 : Int32)) hx hb d_X_reckon_52 (by decide) ?_
  refine lv_icmp_ge (tgt := 147) hx hb d_X_reckon_54 (by decide) (fun _ => ?_) (fun hh => absurd hh (by decide))
  refine lv_iload_n hx hb d_X_reckon_147 rfl (lv_at hl 3 rfl) ?_
  refine lv_bipush (v := (12 : Int32)) hx hb d_X_reckon_148 (by decide) ?_
  refine lv_icmp_ne (tgt := 168) hx hb d_X_reckon_150 (by decide) (fun _ => ?_) (fun hh => absurd hh (by decide))
  refine lv_aload_n hx hb d_X_reckon_168 rfl (lv_at hl 2 rfl) ?_
  refine zz_get (C := R_X) (T := F_X) (N := 27) (v := .ref yA) hx hb hts in_X hown hK hP 0 rfl rfl 3 (by decide) mw_73 rfl d_X_reckon_169 ?_
  refine lv_iload_n hx hb d_X_reckon_172 rfl (lv_at hl 4 rfl) ?_
  refine lv_iload_n hx hb d_X_reckon_173 rfl (lv_at hl 3 rfl) ?_
  refine lv_bipush (v := (9 : Int32)) hx hb d_X_reckon_174 (by decide) ?_
  refine lv_icmp_ne (tgt := 184) hx hb d_X_reckon_176 (by decide) (fun _ => ?_) (fun hh => absurd hh (by decide))
  refine lv_iload_n hx hb d_X_reckon_184 rfl (lv_at hl 3 rfl) ?_
  refine lv_bipush (v := (10 : Int32)) hx hb d_X_reckon_185 (by decide) ?_
  refine lv_icmp_ne (tgt := 202) hx hb d_X_reckon_187 (by decide) (fun hh => absurd hh (by decide)) (fun _ => ?_)
  refine lv_aload_n hx hb d_X_reckon_190 rfl (lv_at hl 2 rfl) ?_
  refine zz_get (C := R_X) (T := F_X) (N := 27) (v := .ref yA) hx hb hts in_X hown hK hP 0 rfl rfl 3 (by decide) mw_73 rfl d_X_reckon_191 ?_
  refine lv_iload_n hx hb d_X_reckon_194 rfl (lv_at hl 5 rfl) ?_
  refine va_iald hx hb hK hP 3 0 rfl rfl hi3 d_X_reckon_195 ?_
  refine lv_iload hx hb d_X_reckon_196 (lv_at hl 7 rfl) ?_
  refine lv_iadd hx hb d_X_reckon_198 ?_
  refine lv_goto (tgt := 204) hx hb d_X_reckon_199 (by decide) ?_
  refine zz_iast (w' := [oX yX yM yD yA yO yL yH yI v_x, ar cI yM 512 v_M, ar cI yD 8 v_d, ar cI yA 8 (upd v_a (ix a2) ((v_a (ix a3)) + a5)), ar cI yO 4 v_o, ar cI yL 6 v_lo, ar cI yH 6 v_hi, ar cI yI 6 v_ri]) hx hb hK hP hD hS 3 0 rfl rfl hi2 d_X_reckon_204 rfl (fun H locs hP hD hS => ?_)
  have hsp : s_X_reckon10 v_x v_M v_d v_a v_o v_lo v_hi v_ri a2 a3 a4 a5 = (upd v_a (ix a2) ((v_a (ix a3)) + a5)) := rfl
  rw [hsp] at hE
  exact hE _ _ _ _ hP hD hS d_X_reckon_205
set_option maxHeartbeats 4000000 in
set_option maxRecDepth 100000 in
theorem k_X_reckon11 (l : Launch) (D : va_G) (cI : ClassId) (sz : Nat) (yX : Nat) (yM : Nat) (yD : Nat) (yA : Nat) (yO : Nat) (yL : Nat) (yH : Nat) (yI : Nat) (v_x : Nat → Int32) (v_M : Nat → Int32) (v_d : Nat → Int32) (v_a : Nat → Int32) (v_o : Nat → Int32) (v_lo : Nat → Int32) (v_hi : Nat → Int32) (v_ri : Nat → Int32) (a2 : Int32) (a3 : Int32) (a4 : Int32) (a5 : Int32) (hi2 : vp_in a2 8) (hi3 : vp_in a3 8) (hi4 : vp_in a4 8) : zMv l y_X_reckon (.code y_X_reckon b_X_reckon 8 (none) :: wd) { frames := 0, cells := 0, slots := 0, locals := 0 } D classes [(cI, .int)] [.ref yX, .int (11 : Int32), .int a2, .int a3, .int a4, .int a5] [oX yX yM yD yA yO yL yH yI v_x, ar cI yM 512 v_M, ar cI yD 8 v_d, ar cI yA 8 v_a, ar cI yO 4 v_o, ar cI yL 6 v_lo, ar cI yH 6 v_hi, ar cI yI 6 v_ri] [oX yX yM yD yA yO yL yH yI v_x, ar cI yM 512 v_M, ar cI yD 8 v_d, ar cI yA 8 (s_X_reckon11 v_x v_M v_d v_a v_o v_lo v_hi v_ri a2 a3 a4 a5), ar cI yO 4 v_o, ar cI yL 6 v_lo, ar cI yH 6 v_hi, ar cI yI 6 v_ri] sz := by
  refine met_v (by decide) (Nat.le_of_ble_eq_true rfl) ?_
  intro p e s m args below meth c A Q ls hx hb hml hown hts hK hP hD hS hA hl hE
  have hl : lv_has ls 8 [(0, .ref yX), (1, .int (11 : Int32)), (2, .int a2), (3, .int a3), (4, .int a4), (5, .int a5)] := hl
  have hown : s.vm.findClass R_X = some m.cls := hown
  refine lv_aload_n hx hb d_X_reckon_0 rfl (lv_at hl 0 rfl) ?_
  refine zz_get (C := R_X) (T := F_X) (N := 27) (v := .ref yD) hx hb hts in_X hown hK hP 0 rfl rfl 2 (by decide) mw_74 rfl d_X_reckon_1 ?_
  refine lv_iload_n hx hb d_X_reckon_4 rfl (lv_at hl 3 rfl) ?_
  refine va_iald hx hb hK hP 2 0 rfl rfl hi3 d_X_reckon_5 ?_
  refine lv_istore (lv' := [(6, .int (v_d (ix a3))), (0, .ref yX), (1, .int (11 : Int32)), (2, .int a2), (3, .int a3), (4, .int a4), (5, .int a5)]) hx hb d_X_reckon_6 hl (by decide) rfl (fun ls hl => ?_)
  refine lv_aload_n hx hb d_X_reckon_8 rfl (lv_at hl 1 rfl) ?_
  refine zz_get (C := R_X) (T := F_X) (N := 27) (v := .ref yD) hx hb hts in_X hown hK hP 0 rfl rfl 2 (by decide) mw_74 rfl d_X_reckon_9 ?_
  refine lv_iload hx hb d_X_reckon_12 (lv_at hl 5 rfl) ?_
  refine va_iald hx hb hK hP 2 0 rfl rfl hi4 d_X_reckon_14 ?_
  refine lv_istore (lv' := [(7, .int (v_d (ix a4))), (6, .int (v_d (ix a3))), (0, .ref yX), (1, .int (11 : Int32)), (2, .int a2), (3, .int a3), (4, .int a4), (5, .int a5)]) hx hb d_X_reckon_15 hl (by decide) rfl (fun ls hl => ?_)
  refine lv_iload_n hx hb d_X_reckon_17 rfl (lv_at hl 3 rfl) ?_
  show W p l e _ s m args below meth c _ _ _ _ Q (F0 m 18 ls _)
  refine lv_bipush (v := (8 : Int32)) hx hb d_X_reckon_18 (by decide) ?_
  refine lv_icmp_ne (tgt := 51) hx hb d_X_reckon_20 (by decide) (fun _ => ?_) (fun hh => absurd hh (by decide))
  refine lv_iload_n hx hb d_X_reckon_51 rfl (lv_at hl 3 rfl) ?_
  refine lv_bipush (v := (8 : Int32)) hx hb d_X_reckon_52 (by decide) ?_
  refine lv_icmp_ge (tgt := 147) hx hb d_X_reckon_54 (by decide) (fun _ => ?_) (fun hh => absurd hh (by decide))
  refine lv_iload_n hx hb d_X_reckon_147 rfl (lv_at hl 3 rfl) ?_
  refine lv_bipush (v := (12 : Int32)) hx hb d_X_reckon_148 (by decide) ?_
  refine lv_icmp_ne (tgt := 168) hx hb d_X_reckon_150 (by decide) (fun _ => ?_) (fun hh => absurd hh (by decide))
  refine lv_aload_n hx hb d_X_reckon_168 rfl (lv_at hl 2 rfl) ?_
  refine zz_get (C := R_X) (T := F_X) (N := 27) (v := .ref yA) hx hb hts in_X hown hK hP 0 rfl rfl 3 (by decide) mw_73 rfl d_X_reckon_169 ?_
  refine lv_iload_n hx hb d_X_reckon_172 rfl (lv_at hl 4 rfl) ?_
  refine lv_iload_n hx hb d_X_reckon_173 rfl (lv_at hl 3 rfl) ?_
  refine lv_bipush (v := (9 : Int32)) hx hb d_X_reckon_174 (by decide) ?_
  refine lv_icmp_ne (tgt := 184) hx hb d_X_reckon_176 (by decide) (fun _ => ?_) (fun hh => absurd hh (by decide))
  refine lv_iload_n hx hb d_X_reckon_184 rfl (lv_at hl 3 rfl) ?_
  refine lv_bipush (v := (10 : Int32)) hx hb d_X_reckon_185 (by decide) ?_
  refine lv_icmp_ne (tgt := 202) hx hb d_X_reckon_187 (by decide) (fun _ => ?_) (fun hh => absurd hh (by decide))
  refine lv_iload hx hb d_X_reckon_202 (lv_at hl 1 rfl) ?_
  refine zz_iast (w' := [oX yX yM yD yA yO yL yH yI v_x, ar cI yM 512 v_M, ar cI yD 8 v_d, ar cI yA 8 (upd v_a (ix a2) (v_d (ix a3))), ar cI yO 4 v_o, ar cI yL 6 v_lo, ar cI yH 6 v_hi, ar cI yI 6 v_ri]) hx hb hK hP hD hS 3 0 rfl rfl hi2 d_X_reckon_204 rfl (fun H locs hP hD hS => ?_)
  have hsp : s_X_reckon11 v_x v_M v_d v_a v_o v_lo v_hi v_ri a2 a3 a4 a5 = (upd v_a (ix a2) (v_d (ix a3))) := rfl
  rw [hsp] at hE
  exact hE _ _ _ _ hP hD hS d_X_reckon_205
set_option maxHeartbeats 4000000 in
set_option maxRecDepth 100000 in
theorem k_X_reckon12 (l : Launch) (D : va_G) (cI : ClassId) (sz : Nat) (yX : Nat) (yM : Nat) (yD : Nat) (yA : Nat) (yO : Nat) (yL : Nat) (yH : Nat) (yI : Nat) (v_x : Nat → Int32) (v_M : Nat → Int32) (v_d : Nat → Int32) (v_a : Nat → Int32) (v_o : Nat → Int32) (v_lo : Nat → Int32) (v_hi : Nat → Int32) (v_ri : Nat → Int32) (a2 : Int32) (a3 : Int32) (a4 : Int32) (a5 : Int32) (hi2 : vp_in a2 8) (hi3 : vp_in a3 8) (hi4 : vp_in a4 8) : zMv l y_X_reckon (.code y_X_reckon b_X_reckon 8 (none) :: wd) { frames := 0, cells := 0, slots := 0, locals := 0 } D classes [(cI, .int)] [.ref yX, .int (12 : Int32), .int a2, .int a3, .int a4, .int a5] [oX yX yM yD yA yO yL yH yI v_x, ar cI yM 512 v_M, ar cI yD 8 v_d, ar cI yA 8 v_a, ar cI yO 4 v_o, ar cI yL 6 v_lo, ar cI yH 6 v_hi, ar cI yI 6 v_ri] [oX yX yM yD yA yO yL yH yI v_x, ar cI yM 512 v_M, ar cI yD 8 (s_X_reckon12 v_x v_M v_d v_a v_o v_lo v_hi v_ri a2 a3 a4 a5), ar cI yA 8 v_a, ar cI yO 4 v_o, ar cI yL 6 v_lo, ar cI yH 6 v_hi, ar cI yI 6 v_ri] sz := by
  refine met_v (by decide) (Nat.le_of_ble_eq_true rfl) ?_
  intro p e s m args below meth c A Q ls hx hb hml hown hts hK hP hD hS hA hl hE
  have hl : lv_has ls 8 [(0, .ref yX), (1, .int (12 : Int32)), (2, .int a2), (3, .int a3), (4, .int a4), (5, .int a5)] := hl
  have hown : s.vm.findClass R_X = some m.cls := hown
  refine lv_aload_n hx hb d_X_reckon_0 rfl (lv_at hl 0 rfl) ?_
  refine zz_get (C := R_X) (T := F_X) (N := 27) (v := .ref yD) hx hb hts in_X hown hK hP 0 rfl rfl 2 (by decide) mw_74 rfl d_X_reckon_1 ?_
  refine lv_iload_n hx hb d_X_reckon_4 rfl (lv_at hl 3 rfl) ?_
  refine va_iald hx hb hK hP 2 0 rfl rfl hi3 d_X_reckon_5 ?_
  refine lv_istore (lv' := [(6, .int (v_d (ix a3))), (0, .ref yX), (1, .int (12 : Int32)), (2, .int a2), (3, .int a3), (4, .int a4), (5, .int a5)]) hx hb d_X_reckon_6 hl (by decide) rfl (fun ls hl => ?_)
  refine lv_aload_n hx hb d_X_reckon_8 rfl (lv_at hl 1 rfl) ?_
  refine zz_get (C := R_X) (T := F_X) (N := 27) (v := .ref yD) hx hb hts in_X hown hK hP 0 rfl rfl 2 (by decide) mw_74 rfl d_X_reckon_9 ?_
  refine lv_iload hx hb d_X_reckon_12 (lv_at hl 5 rfl) ?_
  refine va_iald hx hb hK hP 2 0 rfl rfl hi4 d_X_reckon_14 ?_
  refine lv_istore (lv' := [(7, .int (v_d (ix a4))), (6, .int (v_d (ix a3))), (0, .ref yX), (1, .int (12 : Int32)), (2, .int a2), (3, .int a3), (4, .int a4), (5, .int a5)]) hx hb d_X_reckon_15 hl (by decide) rfl (fun ls hl => ?_)
  refine lv_iload_n hx hb d_X_reckon_17 rfl (lv_at hl 3 rfl) ?_
  show W p l e _ s m args below meth c _ _ _ _ Q (F0 m 18 ls _)
  refine lv_bipush (v := (8 : Int32)) hx hb d_X_reckon_18 (by decide) ?_
  refine lv_icmp_ne (tgt := 51) hx hb d_X_reckon_20 (by decide) (fun _ => ?_) (fun hh => absurd hh (by decide))
  refine lv_iload_n hx hb d_X_reckon_51 rfl (lv_at hl 3 rfl) ?_
  refine lv_bipush (v := (8 : Int32)) hx hb d_X_reckon_52 (by decide) ?_
  refine lv_icmp_ge (tgt := 147) hx hb d_X_reckon_54 (by decide) (fun _ => ?_) (fun hh => absurd hh (by decide))
  refine lv_iload_n hx hb d_X_reckon_147 rfl (lv_at hl 3 rfl) ?_
  refine lv_bipush (v := (12 : Int32)) hx hb d_X_reckon_148 (by decide) ?_
  refine lv_icmp_ne (tgt := 168) hx hb d_X_reckon_150 (by decide) (fun hh => absurd hh (by decide)) (fun _ => ?_)
  refine lv_aload_n hx hb d_X_reckon_153 rfl (lv_at hl 2 rfl) ?_
  refine zz_get (C := R_X) (T := F_X) (N := 27) (v := .ref yD) hx hb hts in_X hown hK hP 0 rfl rfl 2 (by decide) mw_74 rfl d_X_reckon_154 ?_
  refine lv_iload_n hx hb d_X_reckon_157 rfl (lv_at hl 4 rfl) ?_
  refine lv_aload_n hx hb d_X_reckon_158 rfl (lv_at hl 2 rfl) ?_
  refine zz_get (C := R_X) (T := F_X) (N := 27) (v := .ref yA) hx hb hts in_X hown hK hP 0 rfl rfl 3 (by decide) mw_73 rfl d_X_reckon_159 ?_
  refine lv_iload_n hx hb d_X_reckon_162 rfl (lv_at hl 5 rfl) ?_
  refine va_iald hx hb hK hP 3 0 rfl rfl hi3 d_X_reckon_163 ?_
  refine zz_iast (w' := [oX yX yM yD yA yO yL yH yI v_x, ar cI yM 512 v_M, ar cI yD 8 (upd v_d (ix a2) (v_a (ix a3))), ar cI yA 8 v_a, ar cI yO 4 v_o, ar cI yL 6 v_lo, ar cI yH 6 v_hi, ar cI yI 6 v_ri]) hx hb hK hP hD hS 2 0 rfl rfl hi2 d_X_reckon_164 rfl (fun H locs hP hD hS => ?_)
  refine lv_goto (tgt := 205) hx hb d_X_reckon_165 (by decide) ?_
  have hsp : s_X_reckon12 v_x v_M v_d v_a v_o v_lo v_hi v_ri a2 a3 a4 a5 = (upd v_d (ix a2) (v_a (ix a3))) := rfl
  rw [hsp] at hE
  exact hE _ _ _ _ hP hD hS d_X_reckon_205
set_option maxHeartbeats 4000000 in
set_option maxRecDepth 100000 in
theorem k_X_move13 (l : Launch) (D : va_G) (cI : ClassId) (sz : Nat) (yX : Nat) (yM : Nat) (yD : Nat) (yA : Nat) (yO : Nat) (yL : Nat) (yH : Nat) (yI : Nat) (v_x : Nat → Int32) (v_M : Nat → Int32) (v_d : Nat → Int32) (v_a : Nat → Int32) (v_o : Nat → Int32) (v_lo : Nat → Int32) (v_hi : Nat → Int32) (v_ri : Nat → Int32) (a2 : Int32) (a3 : Int32) (a4 : Int32) (hi2 : vp_in a2 8) (hi3 : vp_in a3 8) (hset : v_x 2 = 0 ∨ v_x 2 = 1) : zMv l y_X_move (.code y_X_move b_X_move 11 (none) :: wd) { frames := 2, cells := 0, slots := 0, locals := 45 } D classes [(cI, .int)] [.ref yX, .int (13 : Int32), .int a2, .int a3, .int a4] [oX yX yM yD yA yO yL yH yI v_x, ar cI yM 512 v_M, ar cI yD 8 v_d, ar cI yA 8 v_a, ar cI yO 4 v_o, ar cI yL 6 v_lo, ar cI yH 6 v_hi, ar cI yI 6 v_ri] [oX yX yM yD yA yO yL yH yI ((s_X_move13 v_x v_M v_d v_a v_o v_lo v_hi v_ri a2 a3 a4).1), ar cI yM 512 v_M, ar cI yD 8 ((s_X_move13 v_x v_M v_d v_a v_o v_lo v_hi v_ri a2 a3 a4).2), ar cI yA 8 v_a, ar cI yO 4 v_o, ar cI yL 6 v_lo, ar cI yH 6 v_hi, ar cI yI 6 v_ri] sz := by
  refine met_v (by decide) (Nat.le_of_ble_eq_true rfl) ?_
  intro p e s m args below meth c A Q ls hx hb hml hown hts hK hP hD hS hA hl hE
  have hl : lv_has ls 11 [(0, .ref yX), (1, .int (13 : Int32)), (2, .int a2), (3, .int a3), (4, .int a4)] := hl
  have hown : s.vm.findClass R_X = some m.cls := hown
  refine lv_iload_n hx hb d_X_move_0 rfl (lv_at hl 1 rfl) ?_
  refine lv_bipush (v := (15 : Int32)) hx hb d_X_move_1 (by decide) ?_
  refine lv_icmp_ge (tgt := 18) hx hb d_X_move_3 (by decide) (fun hh => absurd hh (by decide)) (fun _ => ?_)
  refine lv_aload_n hx hb d_X_move_6 rfl (lv_at hl 0 rfl) ?_
  refine zz_get (C := R_X) (T := F_X) (N := 27) (v := .ref yA) hx hb hts in_X hown hK hP 0 rfl rfl 3 (by decide) mw_73 rfl d_X_move_7 ?_
  refine lv_iload_n hx hb d_X_move_10 rfl (lv_at hl 3 rfl) ?_
  refine va_iald hx hb hK hP 3 0 rfl rfl hi3 d_X_move_11 ?_
  refine lv_iload hx hb d_X_move_12 (lv_at hl 4 rfl) ?_
  refine lv_iadd hx hb d_X_move_14 ?_
  refine lv_goto (tgt := 24) hx hb d_X_move_15 (by decide) ?_
  refine lv_istore (lv' := [(5, .int ((v_a (ix a3)) + a4)), (0, .ref yX), (1, .int (13 : Int32)), (2, .int a2), (3, .int a3), (4, .int a4)]) hx hb d_X_move_24 hl (by decide) rfl (fun ls hl => ?_)
  refine lv_iload_n hx hb d_X_move_26 rfl (lv_at hl 2 rfl) ?_
  refine lv_bipush (v := (14 : Int32)) hx hb d_X_move_27 (by decide) ?_
  refine lv_icmp_eq (tgt := 38) hx hb d_X_move_29 (by decide) (fun hh => absurd hh (by decide)) (fun _ => ?_)
  refine lv_iload_n hx hb d_X_move_32 rfl (lv_at hl 2 rfl) ?_
  refine lv_bipush (v := (16 : Int32)) hx hb d_X_move_33 (by decide) ?_
  refine lv_icmp_ne (tgt := 42) hx hb d_X_move_35 (by decide) (fun _ => ?_) (fun hh => absurd hh (by decide))
  refine lv_iconst (v := (0 : Int32)) hx hb d_X_move_42 (by decide) ?_
  refine lv_istore (lv' := [(6, .int (0 : Int32)), (5, .int ((v_a (ix a3)) + a4)), (0, .ref yX), (1, .int (13 : Int32)), (2, .int a2), (3, .int a3), (4, .int a4)]) hx hb d_X_move_43 hl (by decide) rfl (fun ls hl => ?_)
  refine lv_iload_n hx hb d_X_move_45 rfl (lv_at hl 5 rfl) ?_
  refine lv_iconst (v := (1 : Int32)) hx hb d_X_move_46 (by decide) ?_
  refine lv_iadd hx hb d_X_move_47 ?_
  refine lv_bipush (v := (7 : Int32)) hx hb d_X_move_48 (by decide) ?_
  refine lv_iand hx hb d_X_move_50 ?_
  refine lv_istore (lv' := [(7, .int ((a3 + (1 : Int32)) &&& (7 : Int32))), (6, .int (0 : Int32)), (5, .int ((v_a (ix a3)) + a4)), (0, .ref yX), (1, .int (13 : Int32)), (2, .int a2), (3, .int a3), (4, .int a4)]) hx hb d_X_move_51 hl (by decide) rfl (fun ls hl => ?_)
  refine lv_aload_n hx hb d_X_move_53 rfl (lv_at hl 3 rfl) ?_
  refine zz_get (C := R_X) (T := F_X) (N := 27) (v := .ref yA) hx hb hts in_X hown hK hP 0 rfl rfl 3 (by decide) mw_73 rfl d_X_move_54 ?_
  refine lv_iload hx hb d_X_move_57 (lv_at hl 0 rfl) ?_
  show W p l e _ s m args below meth c _ _ _ _ Q (F0 m 59 ls _)
  refine va_iald hx hb hK hP 3 0 rfl rfl (zz_in7 _) d_X_move_59 ?_
  refine lv_ldc (v := (65535 : Int32)) hx hb hown (hts _ mw_88) d_X_move_60 ?_
  refine lv_iand hx hb d_X_move_62 ?_
  refine lv_istore (lv' := [(8, .int ((v_a (ix ((a3 + (1 : Int32)) &&& (7 : Int32)))) &&& (65535 : Int32))), (7, .int ((a3 + (1 : Int32)) &&& (7 : Int32))), (6, .int (0 : Int32)), (5, .int ((v_a (ix a3)) + a4)), (0, .ref yX), (1, .int (13 : Int32)), (2, .int a2), (3, .int a3), (4, .int a4)]) hx hb d_X_move_63 hl (by decide) rfl (fun ls hl => ?_)
  refine lv_aload_n hx hb d_X_move_65 rfl (lv_at hl 4 rfl) ?_
  refine zz_get (C := R_X) (T := F_X) (N := 27) (v := .ref yA) hx hb hts in_X hown hK hP 0 rfl rfl 3 (by decide) mw_73 rfl d_X_move_66 ?_
  refine lv_iload hx hb d_X_move_69 (lv_at hl 1 rfl) ?_
  refine va_iald hx hb hK hP 3 0 rfl rfl (zz_in7 _) d_X_move_71 ?_
  refine lv_bipush (v := (16 : Int32)) hx hb d_X_move_72 (by decide) ?_
  refine lv_iushr hx hb d_X_move_74 rfl ?_
  refine lv_istore (lv' := [(9, .int (ushr (v_a (ix ((a3 + (1 : Int32)) &&& (7 : Int32)))) (16 : Int32))), (8, .int ((v_a (ix ((a3 + (1 : Int32)) &&& (7 : Int32)))) &&& (65535 : Int32))), (7, .int ((a3 + (1 : Int32)) &&& (7 : Int32))), (6, .int (0 : Int32)), (5, .int ((v_a (ix a3)) + a4)), (0, .ref yX), (1, .int (13 : Int32)), (2, .int a2), (3, .int a3), (4, .int a4)]) hx hb d_X_move_75 hl (by decide) rfl (fun ls hl => ?_)
  refine lv_iload_n hx hb d_X_move_77 rfl (lv_at hl 6 rfl) ?_
  show W p l e _ s m args below meth c _ _ _ _ Q (F0 m 78 ls _)
  refine lv_bipush (v := (17 : Int32)) hx hb d_X_move_78 (by decide) ?_
  refine lv_icmp_ne (tgt := 98) hx hb d_X_move_80 (by decide) (fun _ => ?_) (fun hh => absurd hh (by decide))
  refine lv_iload_n hx hb d_X_move_98 rfl (lv_at hl 6 rfl) ?_
  refine lv_bipush (v := (17 : Int32)) hx hb d_X_move_99 (by decide) ?_
  refine lv_icmp_ne (tgt := 116) hx hb d_X_move_101 (by decide) (fun _ => ?_) (fun hh => absurd hh (by decide))
  refine lv_iload hx hb d_X_move_116 (lv_at hl 4 rfl) ?_
  refine lv_istore (lv' := [(5, .int ((v_a (ix a3)) + a4)), (9, .int (ushr (v_a (ix ((a3 + (1 : Int32)) &&& (7 : Int32)))) (16 : Int32))), (8, .int ((v_a (ix ((a3 + (1 : Int32)) &&& (7 : Int32)))) &&& (65535 : Int32))), (7, .int ((a3 + (1 : Int32)) &&& (7 : Int32))), (6, .int (0 : Int32)), (0, .ref yX), (1, .int (13 : Int32)), (2, .int a2), (3, .int a3), (4, .int a4)]) hx hb d_X_move_118 hl (by decide) rfl (fun ls hl => ?_)
  refine lv_aload_n hx hb d_X_move_120 rfl (lv_at hl 5 rfl) ?_
  refine lv_iload hx hb d_X_move_121 (lv_at hl 0 rfl) ?_
  refine lv_iload hx hb d_X_move_123 (lv_at hl 4 rfl) ?_
  refine zz_cVi (rest := []) (wr := []) (w' := [oX yX yM yD yA yO yL yH yI ((s_X_mayR v_x v_M v_d v_a v_o v_lo v_hi v_ri ((v_a (ix a3)) + a4)).2), ar cI yM 512 v_M, ar cI yD 8 v_d, ar cI yA 8 v_a, ar cI yO 4 v_o, ar cI yL 6 v_lo, ar cI yH 6 v_hi, ar cI yI 6 v_ri]) ⟨hx, hb, hml, hown, hts⟩ (k_X_mayR l D cI _ yX yM yD yA yO yL yH yI v_x v_M v_d v_a v_o v_lo v_hi v_ri ((v_a (ix a3)) + a4) hset) g_X_move_X_may_99 nv_X_may ⟨⟨rfl, rfl⟩, Nat.le_of_ble_eq_true rfl, Nat.le_of_ble_eq_true rfl⟩ hK [0] rfl hP hD hS hA [0, 1, 2, 3, 4, 5, 6, 7] [] [0, 1, 2, 3, 4, 5, 6, 7] rfl rfl rfl rfl (by decide) rfl rfl 0 6 rfl rfl rfl rfl hl.1 (Nat.le_of_ble_eq_true rfl) d_X_move_125 ⟨Nat.zero_le _, Nat.zero_le _⟩ (fun H locs hP hD hS => ?_)
  refine lv_if_ne (tgt := 132) hx hb d_X_move_128 (by decide) (fun h1 => ?_) (fun h1 => ?_)
  ·
    refine lv_iload hx hb d_X_move_132 (lv_at hl 4 rfl) ?_
    refine lv_if_eq (tgt := 153) hx hb d_X_move_134 (by decide) (fun _ => ?_) (fun hh => absurd hh (by decide))
    refine lv_aload_n hx hb d_X_move_153 rfl (lv_at hl 5 rfl) ?_
    refine zz_get (C := R_X) (T := F_X) (N := 27) (v := .ref yD) hx hb hts in_X hown hK hP 0 rfl rfl 2 (by decide) mw_74 rfl d_X_move_154 ?_
    refine lv_iload_n hx hb d_X_move_157 rfl (lv_at hl 7 rfl) ?_
    refine lv_aload_n hx hb d_X_move_158 rfl (lv_at hl 5 rfl) ?_
    refine zz_get (C := R_X) (T := F_X) (N := 27) (v := .ref yM) hx hb hts in_X hown hK hP 0 rfl rfl 1 (by decide) mw_69 rfl d_X_move_159 ?_
    refine lv_iload hx hb d_X_move_162 (lv_at hl 0 rfl) ?_
    refine va_iald hx hb hK hP 1 0 rfl rfl (in_mayR h1) d_X_move_164 ?_
    refine zz_iast (w' := [oX yX yM yD yA yO yL yH yI ((s_X_mayR v_x v_M v_d v_a v_o v_lo v_hi v_ri ((v_a (ix a3)) + a4)).2), ar cI yM 512 v_M, ar cI yD 8 (upd v_d (ix a2) (v_M (ix ((v_a (ix a3)) + a4)))), ar cI yA 8 v_a, ar cI yO 4 v_o, ar cI yL 6 v_lo, ar cI yH 6 v_hi, ar cI yI 6 v_ri]) hx hb hK hP hD hS 2 0 rfl rfl hi2 d_X_move_165 rfl (fun H locs hP hD hS => ?_)
    refine lv_iload_n hx hb d_X_move_166 rfl (lv_at hl 6 rfl) ?_
    refine lv_bipush (v := (17 : Int32)) hx hb d_X_move_167 (by decide) ?_
    refine lv_icmp_ne (tgt := 222) hx hb d_X_move_169 (by decide) (fun _ => ?_) (fun hh => absurd hh (by decide))
    refine lv_iload_n hx hb d_X_move_222 rfl (lv_at hl 6 rfl) ?_
    refine lv_bipush (v := (14 : Int32)) hx hb d_X_move_223 (by decide) ?_
    refine lv_icmp_le (tgt := 239) hx hb d_X_move_225 (by decide) (fun _ => ?_) (fun hh => absurd hh (by decide))
    have hsp : s_X_move13 v_x v_M v_d v_a v_o v_lo v_hi v_ri a2 a3 a4 = ((s_X_mayR v_x v_M v_d v_a v_o v_lo v_hi v_ri ((v_a (ix a3)) + a4)).2, upd v_d (ix a2) (v_M (ix ((v_a (ix a3)) + a4)))) := (by unfold s_X_move13; rw [if_neg h1])
    rw [hsp] at hE
    exact hE _ _ _ _ hP hD hS d_X_move_239
  ·
    have hsp : s_X_move13 v_x v_M v_d v_a v_o v_lo v_hi v_ri a2 a3 a4 = ((s_X_mayR v_x v_M v_d v_a v_o v_lo v_hi v_ri ((v_a (ix a3)) + a4)).2, v_d) := (by unfold s_X_move13; rw [if_pos h1])
    rw [hsp] at hE
    exact hE _ _ _ _ hP hD hS d_X_move_131
set_option maxHeartbeats 4000000 in
set_option maxRecDepth 100000 in
theorem k_X_move14 (l : Launch) (D : va_G) (cI : ClassId) (sz : Nat) (yX : Nat) (yM : Nat) (yD : Nat) (yA : Nat) (yO : Nat) (yL : Nat) (yH : Nat) (yI : Nat) (v_x : Nat → Int32) (v_M : Nat → Int32) (v_d : Nat → Int32) (v_a : Nat → Int32) (v_o : Nat → Int32) (v_lo : Nat → Int32) (v_hi : Nat → Int32) (v_ri : Nat → Int32) (a2 : Int32) (a3 : Int32) (a4 : Int32) (hi2 : vp_in a2 8) (hi3 : vp_in a3 8) (hset : v_x 2 = 0 ∨ v_x 2 = 1) : zMv l y_X_move (.code y_X_move b_X_move 11 (none) :: wd) { frames := 2, cells := 0, slots := 0, locals := 45 } D classes [(cI, .int)] [.ref yX, .int (14 : Int32), .int a2, .int a3, .int a4] [oX yX yM yD yA yO yL yH yI v_x, ar cI yM 512 v_M, ar cI yD 8 v_d, ar cI yA 8 v_a, ar cI yO 4 v_o, ar cI yL 6 v_lo, ar cI yH 6 v_hi, ar cI yI 6 v_ri] [oX yX yM yD yA yO yL yH yI ((s_X_move14 v_x v_M v_d v_a v_o v_lo v_hi v_ri a2 a3 a4).1), ar cI yM 512 ((s_X_move14 v_x v_M v_d v_a v_o v_lo v_hi v_ri a2 a3 a4).2), ar cI yD 8 v_d, ar cI yA 8 v_a, ar cI yO 4 v_o, ar cI yL 6 v_lo, ar cI yH 6 v_hi, ar cI yI 6 v_ri] sz := by
  refine met_v (by decide) (Nat.le_of_ble_eq_true rfl) ?_
  intro p e s m args below meth c A Q ls hx hb hml hown hts hK hP hD hS hA hl hE
  have hl : lv_has ls 11 [(0, .ref yX), (1, .int (14 : Int32)), (2, .int a2), (3, .int a3), (4, .int a4)] := hl
  have hown : s.vm.findClass R_X = some m.cls := hown
  refine lv_iload_n hx hb d_X_move_0 rfl (lv_at hl 1 rfl) ?_
  refine lv_bipush (v := (15 : Int32)) hx hb d_X_move_1 (by decide) ?_
  refine lv_icmp_ge (tgt := 18) hx hb d_X_move_3 (by decide) (fun hh => absurd hh (by decide)) (fun _ => ?_)
  refine lv_aload_n hx hb d_X_move_6 rfl (lv_at hl 0 rfl) ?_
  refine zz_get (C := R_X) (T := F_X) (N := 27) (v := .ref yA) hx hb hts in_X hown hK hP 0 rfl rfl 3 (by decide) mw_73 rfl d_X_move_7 ?_
  refine lv_iload_n hx hb d_X_move_10 rfl (lv_at hl 3 rfl) ?_
  refine va_iald hx hb hK hP 3 0 rfl rfl hi3 d_X_move_11 ?_
  refine lv_iload hx hb d_X_move_12 (lv_at hl 4 rfl) ?_
  refine lv_iadd hx hb d_X_move_14 ?_
  refine lv_goto (tgt := 24) hx hb d_X_move_15 (by decide) ?_
  refine lv_istore (lv' := [(5, .int ((v_a (ix a3)) + a4)), (0, .ref yX), (1, .int (14 : Int32)), (2, .int a2), (3, .int a3), (4, .int a4)]) hx hb d_X_move_24 hl (by decide) rfl (fun ls hl => ?_)
  refine lv_iload_n hx hb d_X_move_26 rfl (lv_at hl 2 rfl) ?_
  refine lv_bipush (v := (14 : Int32)) hx hb d_X_move_27 (by decide) ?_
  refine lv_icmp_eq (tgt := 38) hx hb d_X_move_29 (by decide) (fun _ => ?_) (fun hh => absurd hh (by decide))
  refine lv_iconst (v := (1 : Int32)) hx hb d_X_move_38 (by decide) ?_
  refine lv_goto (tgt := 43) hx hb d_X_move_39 (by decide) ?_
  refine lv_istore (lv' := [(6, .int (1 : Int32)), (5, .int ((v_a (ix a3)) + a4)), (0, .ref yX), (1, .int (14 : Int32)), (2, .int a2), (3, .int a3), (4, .int a4)]) hx hb d_X_move_43 hl (by decide) rfl (fun ls hl => ?_)
  refine lv_iload_n hx hb d_X_move_45 rfl (lv_at hl 5 rfl) ?_
  refine lv_iconst (v := (1 : Int32)) hx hb d_X_move_46 (by decide) ?_
  refine lv_iadd hx hb d_X_move_47 ?_
  refine lv_bipush (v := (7 : Int32)) hx hb d_X_move_48 (by decide) ?_
  refine lv_iand hx hb d_X_move_50 ?_
  refine lv_istore (lv' := [(7, .int ((a3 + (1 : Int32)) &&& (7 : Int32))), (6, .int (1 : Int32)), (5, .int ((v_a (ix a3)) + a4)), (0, .ref yX), (1, .int (14 : Int32)), (2, .int a2), (3, .int a3), (4, .int a4)]) hx hb d_X_move_51 hl (by decide) rfl (fun ls hl => ?_)
  refine lv_aload_n hx hb d_X_move_53 rfl (lv_at hl 3 rfl) ?_
  refine zz_get (C := R_X) (T := F_X) (N := 27) (v := .ref yA) hx hb hts in_X hown hK hP 0 rfl rfl 3 (by decide) mw_73 rfl d_X_move_54 ?_
  show W p l e _ s m args below meth c _ _ _ _ Q (F0 m 57 ls _)
  refine lv_iload hx hb d_X_move_57 (lv_at hl 0 rfl) ?_
  refine va_iald hx hb hK hP 3 0 rfl rfl (zz_in7 _) d_X_move_59 ?_
  refine lv_ldc (v := (65535 : Int32)) hx hb hown (hts _ mw_88) d_X_move_60 ?_
  refine lv_iand hx hb d_X_move_62 ?_
  refine lv_istore (lv' := [(8, .int ((v_a (ix ((a3 + (1 : Int32)) &&& (7 : Int32)))) &&& (65535 : Int32))), (7, .int ((a3 + (1 : Int32)) &&& (7 : Int32))), (6, .int (1 : Int32)), (5, .int ((v_a (ix a3)) + a4)), (0, .ref yX), (1, .int (14 : Int32)), (2, .int a2), (3, .int a3), (4, .int a4)]) hx hb d_X_move_63 hl (by decide) rfl (fun ls hl => ?_)
  refine lv_aload_n hx hb d_X_move_65 rfl (lv_at hl 4 rfl) ?_
  refine zz_get (C := R_X) (T := F_X) (N := 27) (v := .ref yA) hx hb hts in_X hown hK hP 0 rfl rfl 3 (by decide) mw_73 rfl d_X_move_66 ?_
  refine lv_iload hx hb d_X_move_69 (lv_at hl 1 rfl) ?_
  refine va_iald hx hb hK hP 3 0 rfl rfl (zz_in7 _) d_X_move_71 ?_
  refine lv_bipush (v := (16 : Int32)) hx hb d_X_move_72 (by decide) ?_
  refine lv_iushr hx hb d_X_move_74 rfl ?_
  refine lv_istore (lv' := [(9, .int (ushr (v_a (ix ((a3 + (1 : Int32)) &&& (7 : Int32)))) (16 : Int32))), (8, .int ((v_a (ix ((a3 + (1 : Int32)) &&& (7 : Int32)))) &&& (65535 : Int32))), (7, .int ((a3 + (1 : Int32)) &&& (7 : Int32))), (6, .int (1 : Int32)), (5, .int ((v_a (ix a3)) + a4)), (0, .ref yX), (1, .int (14 : Int32)), (2, .int a2), (3, .int a3), (4, .int a4)]) hx hb d_X_move_75 hl (by decide) rfl (fun ls hl => ?_)
  show W p l e _ s m args below meth c _ _ _ _ Q (F0 m 77 ls _)
  refine lv_iload_n hx hb d_X_move_77 rfl (lv_at hl 6 rfl) ?_
  refine lv_bipush (v := (17 : Int32)) hx hb d_X_move_78 (by decide) ?_
  refine lv_icmp_ne (tgt := 98) hx hb d_X_move_80 (by decide) (fun _ => ?_) (fun hh => absurd hh (by decide))
  refine lv_iload_n hx hb d_X_move_98 rfl (lv_at hl 6 rfl) ?_
  refine lv_bipush (v := (17 : Int32)) hx hb d_X_move_99 (by decide) ?_
  refine lv_icmp_ne (tgt := 116) hx hb d_X_move_101 (by decide) (fun _ => ?_) (fun hh => absurd hh (by decide))
  refine lv_iload hx hb d_X_move_116 (lv_at hl 4 rfl) ?_
  refine lv_istore (lv' := [(5, .int ((v_a (ix a3)) + a4)), (9, .int (ushr (v_a (ix ((a3 + (1 : Int32)) &&& (7 : Int32)))) (16 : Int32))), (8, .int ((v_a (ix ((a3 + (1 : Int32)) &&& (7 : Int32)))) &&& (65535 : Int32))), (7, .int ((a3 + (1 : Int32)) &&& (7 : Int32))), (6, .int (1 : Int32)), (0, .ref yX), (1, .int (14 : Int32)), (2, .int a2), (3, .int a3), (4, .int a4)]) hx hb d_X_move_118 hl (by decide) rfl (fun ls hl => ?_)
  refine lv_aload_n hx hb d_X_move_120 rfl (lv_at hl 5 rfl) ?_
  refine lv_iload hx hb d_X_move_121 (lv_at hl 0 rfl) ?_
  refine lv_iload hx hb d_X_move_123 (lv_at hl 4 rfl) ?_
  refine zz_cVi (rest := []) (wr := []) (w' := [oX yX yM yD yA yO yL yH yI ((s_X_mayW v_x v_M v_d v_a v_o v_lo v_hi v_ri ((v_a (ix a3)) + a4)).2), ar cI yM 512 v_M, ar cI yD 8 v_d, ar cI yA 8 v_a, ar cI yO 4 v_o, ar cI yL 6 v_lo, ar cI yH 6 v_hi, ar cI yI 6 v_ri]) ⟨hx, hb, hml, hown, hts⟩ (k_X_mayW l D cI _ yX yM yD yA yO yL yH yI v_x v_M v_d v_a v_o v_lo v_hi v_ri ((v_a (ix a3)) + a4) hset) g_X_move_X_may_99 nv_X_may ⟨⟨rfl, rfl⟩, Nat.le_of_ble_eq_true rfl, Nat.le_of_ble_eq_true rfl⟩ hK [0] rfl hP hD hS hA [0, 1, 2, 3, 4, 5, 6, 7] [] [0, 1, 2, 3, 4, 5, 6, 7] rfl rfl rfl rfl (by decide) rfl rfl 0 6 rfl rfl rfl rfl hl.1 (Nat.le_of_ble_eq_true rfl) d_X_move_125 ⟨Nat.zero_le _, Nat.zero_le _⟩ (fun H locs hP hD hS => ?_)
  refine lv_if_ne (tgt := 132) hx hb d_X_move_128 (by decide) (fun h1 => ?_) (fun h1 => ?_)
  ·
    refine lv_iload hx hb d_X_move_132 (lv_at hl 4 rfl) ?_
    refine lv_if_eq (tgt := 153) hx hb d_X_move_134 (by decide) (fun hh => absurd hh (by decide)) (fun _ => ?_)
    refine lv_aload_n hx hb d_X_move_137 rfl (lv_at hl 5 rfl) ?_
    refine zz_get (C := R_X) (T := F_X) (N := 27) (v := .ref yM) hx hb hts in_X hown hK hP 0 rfl rfl 1 (by decide) mw_69 rfl d_X_move_138 ?_
    refine lv_iload hx hb d_X_move_141 (lv_at hl 0 rfl) ?_
    refine lv_aload_n hx hb d_X_move_143 rfl (lv_at hl 5 rfl) ?_
    refine zz_get (C := R_X) (T := F_X) (N := 27) (v := .ref yD) hx hb hts in_X hown hK hP 0 rfl rfl 2 (by decide) mw_74 rfl d_X_move_144 ?_
    refine lv_iload_n hx hb d_X_move_147 rfl (lv_at hl 7 rfl) ?_
    refine va_iald hx hb hK hP 2 0 rfl rfl hi2 d_X_move_148 ?_
    refine zz_iast (w' := [oX yX yM yD yA yO yL yH yI ((s_X_mayW v_x v_M v_d v_a v_o v_lo v_hi v_ri ((v_a (ix a3)) + a4)).2), ar cI yM 512 (upd v_M (ix ((v_a (ix a3)) + a4)) (v_d (ix a2))), ar cI yD 8 v_d, ar cI yA 8 v_a, ar cI yO 4 v_o, ar cI yL 6 v_lo, ar cI yH 6 v_hi, ar cI yI 6 v_ri]) hx hb hK hP hD hS 1 0 rfl rfl (in_mayW h1) d_X_move_149 rfl (fun H locs hP hD hS => ?_)
    refine lv_goto (tgt := 166) hx hb d_X_move_150 (by decide) ?_
    refine lv_iload_n hx hb d_X_move_166 rfl (lv_at hl 6 rfl) ?_
    refine lv_bipush (v := (17 : Int32)) hx hb d_X_move_167 (by decide) ?_
    show W p l e _ s m args below meth c _ _ _ _ Q (F0 m 169 ls _)
    refine lv_icmp_ne (tgt := 222) hx hb d_X_move_169 (by decide) (fun _ => ?_) (fun hh => absurd hh (by decide))
    refine lv_iload_n hx hb d_X_move_222 rfl (lv_at hl 6 rfl) ?_
    refine lv_bipush (v := (14 : Int32)) hx hb d_X_move_223 (by decide) ?_
    refine lv_icmp_le (tgt := 239) hx hb d_X_move_225 (by decide) (fun _ => ?_) (fun hh => absurd hh (by decide))
    have hsp : s_X_move14 v_x v_M v_d v_a v_o v_lo v_hi v_ri a2 a3 a4 = ((s_X_mayW v_x v_M v_d v_a v_o v_lo v_hi v_ri ((v_a (ix a3)) + a4)).2, upd v_M (ix ((v_a (ix a3)) + a4)) (v_d (ix a2))) := (by unfold s_X_move14; rw [if_neg h1])
    rw [hsp] at hE
    exact hE _ _ _ _ hP hD hS d_X_move_239
  ·
    have hsp : s_X_move14 v_x v_M v_d v_a v_o v_lo v_hi v_ri a2 a3 a4 = ((s_X_mayW v_x v_M v_d v_a v_o v_lo v_hi v_ri ((v_a (ix a3)) + a4)).2, v_M) := (by unfold s_X_move14; rw [if_pos h1])
    rw [hsp] at hE
    exact hE _ _ _ _ hP hD hS d_X_move_131
set_option maxHeartbeats 4000000 in
set_option maxRecDepth 100000 in
theorem k_X_move15 (l : Launch) (D : va_G) (cI : ClassId) (sz : Nat) (yX : Nat) (yM : Nat) (yD : Nat) (yA : Nat) (yO : Nat) (yL : Nat) (yH : Nat) (yI : Nat) (v_x : Nat → Int32) (v_M : Nat → Int32) (v_d : Nat → Int32) (v_a : Nat → Int32) (v_o : Nat → Int32) (v_lo : Nat → Int32) (v_hi : Nat → Int32) (v_ri : Nat → Int32) (a2 : Int32) (a3 : Int32) (a4 : Int32) (hi2 : vp_in a2 8) (hi3 : vp_in a3 8) (hset : v_x 2 = 0 ∨ v_x 2 = 1) : zMv l y_X_move (.code y_X_move b_X_move 11 (none) :: wd) { frames := 2, cells := 0, slots := 0, locals := 45 } D classes [(cI, .int)] [.ref yX, .int (15 : Int32), .int a2, .int a3, .int a4] [oX yX yM yD yA yO yL yH yI v_x, ar cI yM 512 v_M, ar cI yD 8 v_d, ar cI yA 8 v_a, ar cI yO 4 v_o, ar cI yL 6 v_lo, ar cI yH 6 v_hi, ar cI yI 6 v_ri] [oX yX yM yD yA yO yL yH yI ((s_X_move15 v_x v_M v_d v_a v_o v_lo v_hi v_ri a2 a3 a4).1), ar cI yM 512 v_M, ar cI yD 8 ((s_X_move15 v_x v_M v_d v_a v_o v_lo v_hi v_ri a2 a3 a4).2.1), ar cI yA 8 ((s_X_move15 v_x v_M v_d v_a v_o v_lo v_hi v_ri a2 a3 a4).2.2), ar cI yO 4 v_o, ar cI yL 6 v_lo, ar cI yH 6 v_hi, ar cI yI 6 v_ri] sz := by
  refine met_v (by decide) (Nat.le_of_ble_eq_true rfl) ?_
  intro p e s m args below meth c A Q ls hx hb hml hown hts hK hP hD hS hA hl hE
  have hl : lv_has ls 11 [(0, .ref yX), (1, .int (15 : Int32)), (2, .int a2), (3, .int a3), (4, .int a4)] := hl
  have hown : s.vm.findClass R_X = some m.cls := hown
  refine lv_iload_n hx hb d_X_move_0 rfl (lv_at hl 1 rfl) ?_
  refine lv_bipush (v := (15 : Int32)) hx hb d_X_move_1 (by decide) ?_
  refine lv_icmp_ge (tgt := 18) hx hb d_X_move_3 (by decide) (fun _ => ?_) (fun hh => absurd hh (by decide))
  refine lv_aload_n hx hb d_X_move_18 rfl (lv_at hl 0 rfl) ?_
  refine zz_get (C := R_X) (T := F_X) (N := 27) (v := .ref yA) hx hb hts in_X hown hK hP 0 rfl rfl 3 (by decide) mw_73 rfl d_X_move_19 ?_
  refine lv_iload_n hx hb d_X_move_22 rfl (lv_at hl 3 rfl) ?_
  refine va_iald hx hb hK hP 3 0 rfl rfl hi3 d_X_move_23 ?_
  refine lv_istore (lv' := [(5, .int (v_a (ix a3))), (0, .ref yX), (1, .int (15 : Int32)), (2, .int a2), (3, .int a3), (4, .int a4)]) hx hb d_X_move_24 hl (by decide) rfl (fun ls hl => ?_)
  refine lv_iload_n hx hb d_X_move_26 rfl (lv_at hl 2 rfl) ?_
  refine lv_bipush (v := (14 : Int32)) hx hb d_X_move_27 (by decide) ?_
  refine lv_icmp_eq (tgt := 38) hx hb d_X_move_29 (by decide) (fun hh => absurd hh (by decide)) (fun _ => ?_)
  refine lv_iload_n hx hb d_X_move_32 rfl (lv_at hl 2 rfl) ?_
  refine lv_bipush (v := (16 : Int32)) hx hb d_X_move_33 (by decide) ?_
  refine lv_icmp_ne (tgt := 42) hx hb d_X_move_35 (by decide) (fun _ => ?_) (fun hh => absurd hh (by decide))
  refine lv_iconst (v := (0 : Int32)) hx hb d_X_move_42 (by decide) ?_
  refine lv_istore (lv' := [(6, .int (0 : Int32)), (5, .int (v_a (ix a3))), (0, .ref yX), (1, .int (15 : Int32)), (2, .int a2), (3, .int a3), (4, .int a4)]) hx hb d_X_move_43 hl (by decide) rfl (fun ls hl => ?_)
  refine lv_iload_n hx hb d_X_move_45 rfl (lv_at hl 5 rfl) ?_
  refine lv_iconst (v := (1 : Int32)) hx hb d_X_move_46 (by decide) ?_
  refine lv_iadd hx hb d_X_move_47 ?_
  refine lv_bipush (v := (7 : Int32)) hx hb d_X_move_48 (by decide) ?_
  refine lv_iand hx hb d_X_move_50 ?_
  refine lv_istore (lv' := [(7, .int ((a3 + (1 : Int32)) &&& (7 : Int32))), (6, .int (0 : Int32)), (5, .int (v_a (ix a3))), (0, .ref yX), (1, .int (15 : Int32)), (2, .int a2), (3, .int a3), (4, .int a4)]) hx hb d_X_move_51 hl (by decide) rfl (fun ls hl => ?_)
  refine lv_aload_n hx hb d_X_move_53 rfl (lv_at hl 3 rfl) ?_
  refine zz_get (C := R_X) (T := F_X) (N := 27) (v := .ref yA) hx hb hts in_X hown hK hP 0 rfl rfl 3 (by decide) mw_73 rfl d_X_move_54 ?_
  refine lv_iload hx hb d_X_move_57 (lv_at hl 0 rfl) ?_
  show W p l e _ s m args below meth c _ _ _ _ Q (F0 m 59 ls _)
  refine va_iald hx hb hK hP 3 0 rfl rfl (zz_in7 _) d_X_move_59 ?_
  refine lv_ldc (v := (65535 : Int32)) hx hb hown (hts _ mw_88) d_X_move_60 ?_
  refine lv_iand hx hb d_X_move_62 ?_
  refine lv_istore (lv' := [(8, .int ((v_a (ix ((a3 + (1 : Int32)) &&& (7 : Int32)))) &&& (65535 : Int32))), (7, .int ((a3 + (1 : Int32)) &&& (7 : Int32))), (6, .int (0 : Int32)), (5, .int (v_a (ix a3))), (0, .ref yX), (1, .int (15 : Int32)), (2, .int a2), (3, .int a3), (4, .int a4)]) hx hb d_X_move_63 hl (by decide) rfl (fun ls hl => ?_)
  refine lv_aload_n hx hb d_X_move_65 rfl (lv_at hl 4 rfl) ?_
  refine zz_get (C := R_X) (T := F_X) (N := 27) (v := .ref yA) hx hb hts in_X hown hK hP 0 rfl rfl 3 (by decide) mw_73 rfl d_X_move_66 ?_
  refine lv_iload hx hb d_X_move_69 (lv_at hl 1 rfl) ?_
  refine va_iald hx hb hK hP 3 0 rfl rfl (zz_in7 _) d_X_move_71 ?_
  refine lv_bipush (v := (16 : Int32)) hx hb d_X_move_72 (by decide) ?_
  refine lv_iushr hx hb d_X_move_74 rfl ?_
  refine lv_istore (lv' := [(9, .int (ushr (v_a (ix ((a3 + (1 : Int32)) &&& (7 : Int32)))) (16 : Int32))), (8, .int ((v_a (ix ((a3 + (1 : Int32)) &&& (7 : Int32)))) &&& (65535 : Int32))), (7, .int ((a3 + (1 : Int32)) &&& (7 : Int32))), (6, .int (0 : Int32)), (5, .int (v_a (ix a3))), (0, .ref yX), (1, .int (15 : Int32)), (2, .int a2), (3, .int a3), (4, .int a4)]) hx hb d_X_move_75 hl (by decide) rfl (fun ls hl => ?_)
  refine lv_iload_n hx hb d_X_move_77 rfl (lv_at hl 6 rfl) ?_
  show W p l e _ s m args below meth c _ _ _ _ Q (F0 m 78 ls _)
  refine lv_bipush (v := (17 : Int32)) hx hb d_X_move_78 (by decide) ?_
  refine lv_icmp_ne (tgt := 98) hx hb d_X_move_80 (by decide) (fun _ => ?_) (fun hh => absurd hh (by decide))
  refine lv_iload_n hx hb d_X_move_98 rfl (lv_at hl 6 rfl) ?_
  refine lv_bipush (v := (17 : Int32)) hx hb d_X_move_99 (by decide) ?_
  refine lv_icmp_ne (tgt := 116) hx hb d_X_move_101 (by decide) (fun _ => ?_) (fun hh => absurd hh (by decide))
  refine lv_iload hx hb d_X_move_116 (lv_at hl 4 rfl) ?_
  refine lv_istore (lv' := [(5, .int (v_a (ix a3))), (9, .int (ushr (v_a (ix ((a3 + (1 : Int32)) &&& (7 : Int32)))) (16 : Int32))), (8, .int ((v_a (ix ((a3 + (1 : Int32)) &&& (7 : Int32)))) &&& (65535 : Int32))), (7, .int ((a3 + (1 : Int32)) &&& (7 : Int32))), (6, .int (0 : Int32)), (0, .ref yX), (1, .int (15 : Int32)), (2, .int a2), (3, .int a3), (4, .int a4)]) hx hb d_X_move_118 hl (by decide) rfl (fun ls hl => ?_)
  refine lv_aload_n hx hb d_X_move_120 rfl (lv_at hl 5 rfl) ?_
  refine lv_iload hx hb d_X_move_121 (lv_at hl 0 rfl) ?_
  refine lv_iload hx hb d_X_move_123 (lv_at hl 4 rfl) ?_
  refine zz_cVi (rest := []) (wr := []) (w' := [oX yX yM yD yA yO yL yH yI ((s_X_mayR v_x v_M v_d v_a v_o v_lo v_hi v_ri (v_a (ix a3))).2), ar cI yM 512 v_M, ar cI yD 8 v_d, ar cI yA 8 v_a, ar cI yO 4 v_o, ar cI yL 6 v_lo, ar cI yH 6 v_hi, ar cI yI 6 v_ri]) ⟨hx, hb, hml, hown, hts⟩ (k_X_mayR l D cI _ yX yM yD yA yO yL yH yI v_x v_M v_d v_a v_o v_lo v_hi v_ri (v_a (ix a3)) hset) g_X_move_X_may_99 nv_X_may ⟨⟨rfl, rfl⟩, Nat.le_of_ble_eq_true rfl, Nat.le_of_ble_eq_true rfl⟩ hK [0] rfl hP hD hS hA [0, 1, 2, 3, 4, 5, 6, 7] [] [0, 1, 2, 3, 4, 5, 6, 7] rfl rfl rfl rfl (by decide) rfl rfl 0 6 rfl rfl rfl rfl hl.1 (Nat.le_of_ble_eq_true rfl) d_X_move_125 ⟨Nat.zero_le _, Nat.zero_le _⟩ (fun H locs hP hD hS => ?_)
  refine lv_if_ne (tgt := 132) hx hb d_X_move_128 (by decide) (fun h1 => ?_) (fun h1 => ?_)
  ·
    refine lv_iload hx hb d_X_move_132 (lv_at hl 4 rfl) ?_
    refine lv_if_eq (tgt := 153) hx hb d_X_move_134 (by decide) (fun _ => ?_) (fun hh => absurd hh (by decide))
    refine lv_aload_n hx hb d_X_move_153 rfl (lv_at hl 5 rfl) ?_
    refine zz_get (C := R_X) (T := F_X) (N := 27) (v := .ref yD) hx hb hts in_X hown hK hP 0 rfl rfl 2 (by decide) mw_74 rfl d_X_move_154 ?_
    refine lv_iload_n hx hb d_X_move_157 rfl (lv_at hl 7 rfl) ?_
    refine lv_aload_n hx hb d_X_move_158 rfl (lv_at hl 5 rfl) ?_
    refine zz_get (C := R_X) (T := F_X) (N := 27) (v := .ref yM) hx hb hts in_X hown hK hP 0 rfl rfl 1 (by decide) mw_69 rfl d_X_move_159 ?_
    refine lv_iload hx hb d_X_move_162 (lv_at hl 0 rfl) ?_
    refine va_iald hx hb hK hP 1 0 rfl rfl (in_mayR h1) d_X_move_164 ?_
    refine zz_iast (w' := [oX yX yM yD yA yO yL yH yI ((s_X_mayR v_x v_M v_d v_a v_o v_lo v_hi v_ri (v_a (ix a3))).2), ar cI yM 512 v_M, ar cI yD 8 (upd v_d (ix a2) (v_M (ix (v_a (ix a3))))), ar cI yA 8 v_a, ar cI yO 4 v_o, ar cI yL 6 v_lo, ar cI yH 6 v_hi, ar cI yI 6 v_ri]) hx hb hK hP hD hS 2 0 rfl rfl hi2 d_X_move_165 rfl (fun H locs hP hD hS => ?_)
    refine lv_iload_n hx hb d_X_move_166 rfl (lv_at hl 6 rfl) ?_
    refine lv_bipush (v := (17 : Int32)) hx hb d_X_move_167 (by decide) ?_
    refine lv_icmp_ne (tgt := 222) hx hb d_X_move_169 (by decide) (fun _ => ?_) (fun hh => absurd hh (by decide))
    refine lv_iload_n hx hb d_X_move_222 rfl (lv_at hl 6 rfl) ?_
    refine lv_bipush (v := (14 : Int32)) hx hb d_X_move_223 (by decide) ?_
    refine lv_icmp_le (tgt := 239) hx hb d_X_move_225 (by decide) (fun hh => absurd hh (by decide)) (fun _ => ?_)
    refine lv_aload_n hx hb d_X_move_228 rfl (lv_at hl 5 rfl) ?_
    refine zz_get (C := R_X) (T := F_X) (N := 27) (v := .ref yA) hx hb hts in_X hown hK hP 0 rfl rfl 3 (by decide) mw_73 rfl d_X_move_229 ?_
    refine lv_iload_n hx hb d_X_move_232 rfl (lv_at hl 8 rfl) ?_
    refine lv_dup2_11 hx hb d_X_move_233 rfl rfl ?_
    refine va_iald hx hb hK hP 3 0 rfl rfl hi3 d_X_move_234 ?_
    refine lv_iload hx hb d_X_move_235 (lv_at hl 9 rfl) ?_
    refine lv_iadd hx hb d_X_move_237 ?_
    refine zz_iast (w' := [oX yX yM yD yA yO yL yH yI ((s_X_mayR v_x v_M v_d v_a v_o v_lo v_hi v_ri (v_a (ix a3))).2), ar cI yM 512 v_M, ar cI yD 8 (upd v_d (ix a2) (v_M (ix (v_a (ix a3))))), ar cI yA 8 (upd v_a (ix a3) ((v_a (ix a3)) + a4)), ar cI yO 4 v_o, ar cI yL 6 v_lo, ar cI yH 6 v_hi, ar cI yI 6 v_ri]) hx hb hK hP hD hS 3 0 rfl rfl hi3 d_X_move_238 rfl (fun H locs hP hD hS => ?_)
    have hsp : s_X_move15 v_x v_M v_d v_a v_o v_lo v_hi v_ri a2 a3 a4 = ((s_X_mayR v_x v_M v_d v_a v_o v_lo v_hi v_ri (v_a (ix a3))).2, upd v_d (ix a2) (v_M (ix (v_a (ix a3)))), upd v_a (ix a3) ((v_a (ix a3)) + a4)) := (by unfold s_X_move15; rw [if_neg h1])
    rw [hsp] at hE
    exact hE _ _ _ _ hP hD hS d_X_move_239
  ·
    have hsp : s_X_move15 v_x v_M v_d v_a v_o v_lo v_hi v_ri a2 a3 a4 = ((s_X_mayR v_x v_M v_d v_a v_o v_lo v_hi v_ri (v_a (ix a3))).2, v_d, v_a) := (by unfold s_X_move15; rw [if_pos h1])
    rw [hsp] at hE
    exact hE _ _ _ _ hP hD hS d_X_move_131
set_option maxHeartbeats 4000000 in
set_option maxRecDepth 100000 in
theorem k_X_move16 (l : Launch) (D : va_G) (cI : ClassId) (sz : Nat) (yX : Nat) (yM : Nat) (yD : Nat) (yA : Nat) (yO : Nat) (yL : Nat) (yH : Nat) (yI : Nat) (v_x : Nat → Int32) (v_M : Nat → Int32) (v_d : Nat → Int32) (v_a : Nat → Int32) (v_o : Nat → Int32) (v_lo : Nat → Int32) (v_hi : Nat → Int32) (v_ri : Nat → Int32) (a2 : Int32) (a3 : Int32) (a4 : Int32) (hi2 : vp_in a2 8) (hi3 : vp_in a3 8) (hset : v_x 2 = 0 ∨ v_x 2 = 1) : zMv l y_X_move (.code y_X_move b_X_move 11 (none) :: wd) { frames := 2, cells := 0, slots := 0, locals := 45 } D classes [(cI, .int)] [.ref yX, .int (16 : Int32), .int a2, .int a3, .int a4] [oX yX yM yD yA yO yL yH yI v_x, ar cI yM 512 v_M, ar cI yD 8 v_d, ar cI yA 8 v_a, ar cI yO 4 v_o, ar cI yL 6 v_lo, ar cI yH 6 v_hi, ar cI yI 6 v_ri] [oX yX yM yD yA yO yL yH yI ((s_X_move16 v_x v_M v_d v_a v_o v_lo v_hi v_ri a2 a3 a4).1), ar cI yM 512 ((s_X_move16 v_x v_M v_d v_a v_o v_lo v_hi v_ri a2 a3 a4).2.1), ar cI yD 8 v_d, ar cI yA 8 ((s_X_move16 v_x v_M v_d v_a v_o v_lo v_hi v_ri a2 a3 a4).2.2), ar cI yO 4 v_o, ar cI yL 6 v_lo, ar cI yH 6 v_hi, ar cI yI 6 v_ri] sz := by
  refine met_v (by decide) (Nat.le_of_ble_eq_true rfl) ?_
  intro p e s m args below meth c A Q ls hx hb hml hown hts hK hP hD hS hA hl hE
  have hl : lv_has ls 11 [(0, .ref yX), (1, .int (16 : Int32)), (2, .int a2), (3, .int a3), (4, .int a4)] := hl
  have hown : s.vm.findClass R_X = some m.cls := hown
  refine lv_iload_n hx hb d_X_move_0 rfl (lv_at hl 1 rfl) ?_
  refine lv_bipush (v := (15 : Int32)) hx hb d_X_move_1 (by decide) ?_
  refine lv_icmp_ge (tgt := 18) hx hb d_X_move_3 (by decide) (fun _ => ?_) (fun hh => absurd hh (by decide))
  refine lv_aload_n hx hb d_X_move_18 rfl (lv_at hl 0 rfl) ?_
  refine zz_get (C := R_X) (T := F_X) (N := 27) (v := .ref yA) hx hb hts in_X hown hK hP 0 rfl rfl 3 (by decide) mw_73 rfl d_X_move_19 ?_
  refine lv_iload_n hx hb d_X_move_22 rfl (lv_at hl 3 rfl) ?_
  refine va_iald hx hb hK hP 3 0 rfl rfl hi3 d_X_move_23 ?_
  refine lv_istore (lv' := [(5, .int (v_a (ix a3))), (0, .ref yX), (1, .int (16 : Int32)), (2, .int a2), (3, .int a3), (4, .int a4)]) hx hb d_X_move_24 hl (by decide) rfl (fun ls hl => ?_)
  refine lv_iload_n hx hb d_X_move_26 rfl (lv_at hl 2 rfl) ?_
  refine lv_bipush (v := (14 : Int32)) hx hb d_X_move_27 (by decide) ?_
  refine lv_icmp_eq (tgt := 38) hx hb d_X_move_29 (by decide) (fun hh => absurd hh (by decide)) (fun _ => ?_)
  refine lv_iload_n hx hb d_X_move_32 rfl (lv_at hl 2 rfl) ?_
  refine lv_bipush (v := (16 : Int32)) hx hb d_X_move_33 (by decide) ?_
  refine lv_icmp_ne (tgt := 42) hx hb d_X_move_35 (by decide) (fun hh => absurd hh (by decide)) (fun _ => ?_)
  refine lv_iconst (v := (1 : Int32)) hx hb d_X_move_38 (by decide) ?_
  refine lv_goto (tgt := 43) hx hb d_X_move_39 (by decide) ?_
  refine lv_istore (lv' := [(6, .int (1 : Int32)), (5, .int (v_a (ix a3))), (0, .ref yX), (1, .int (16 : Int32)), (2, .int a2), (3, .int a3), (4, .int a4)]) hx hb d_X_move_43 hl (by decide) rfl (fun ls hl => ?_)
  refine lv_iload_n hx hb d_X_move_45 rfl (lv_at hl 5 rfl) ?_
  refine lv_iconst (v := (1 : Int32)) hx hb d_X_move_46 (by decide) ?_
  refine lv_iadd hx hb d_X_move_47 ?_
  refine lv_bipush (v := (7 : Int32)) hx hb d_X_move_48 (by decide) ?_
  refine lv_iand hx hb d_X_move_50 ?_
  refine lv_istore (lv' := [(7, .int ((a3 + (1 : Int32)) &&& (7 : Int32))), (6, .int (1 : Int32)), (5, .int (v_a (ix a3))), (0, .ref yX), (1, .int (16 : Int32)), (2, .int a2), (3, .int a3), (4, .int a4)]) hx hb d_X_move_51 hl (by decide) rfl (fun ls hl => ?_)
  refine lv_aload_n hx hb d_X_move_53 rfl (lv_at hl 3 rfl) ?_
  refine zz_get (C := R_X) (T := F_X) (N := 27) (v := .ref yA) hx hb hts in_X hown hK hP 0 rfl rfl 3 (by decide) mw_73 rfl d_X_move_54 ?_
  show W p l e _ s m args below meth c _ _ _ _ Q (F0 m 57 ls _)
  refine lv_iload hx hb d_X_move_57 (lv_at hl 0 rfl) ?_
  refine va_iald hx hb hK hP 3 0 rfl rfl (zz_in7 _) d_X_move_59 ?_
  refine lv_ldc (v := (65535 : Int32)) hx hb hown (hts _ mw_88) d_X_move_60 ?_
  refine lv_iand hx hb d_X_move_62 ?_
  refine lv_istore (lv' := [(8, .int ((v_a (ix ((a3 + (1 : Int32)) &&& (7 : Int32)))) &&& (65535 : Int32))), (7, .int ((a3 + (1 : Int32)) &&& (7 : Int32))), (6, .int (1 : Int32)), (5, .int (v_a (ix a3))), (0, .ref yX), (1, .int (16 : Int32)), (2, .int a2), (3, .int a3), (4, .int a4)]) hx hb d_X_move_63 hl (by decide) rfl (fun ls hl => ?_)
  refine lv_aload_n hx hb d_X_move_65 rfl (lv_at hl 4 rfl) ?_
  refine zz_get (C := R_X) (T := F_X) (N := 27) (v := .ref yA) hx hb hts in_X hown hK hP 0 rfl rfl 3 (by decide) mw_73 rfl d_X_move_66 ?_
  refine lv_iload hx hb d_X_move_69 (lv_at hl 1 rfl) ?_
  refine va_iald hx hb hK hP 3 0 rfl rfl (zz_in7 _) d_X_move_71 ?_
  refine lv_bipush (v := (16 : Int32)) hx hb d_X_move_72 (by decide) ?_
  refine lv_iushr hx hb d_X_move_74 rfl ?_
  refine lv_istore (lv' := [(9, .int (ushr (v_a (ix ((a3 + (1 : Int32)) &&& (7 : Int32)))) (16 : Int32))), (8, .int ((v_a (ix ((a3 + (1 : Int32)) &&& (7 : Int32)))) &&& (65535 : Int32))), (7, .int ((a3 + (1 : Int32)) &&& (7 : Int32))), (6, .int (1 : Int32)), (5, .int (v_a (ix a3))), (0, .ref yX), (1, .int (16 : Int32)), (2, .int a2), (3, .int a3), (4, .int a4)]) hx hb d_X_move_75 hl (by decide) rfl (fun ls hl => ?_)
  show W p l e _ s m args below meth c _ _ _ _ Q (F0 m 77 ls _)
  refine lv_iload_n hx hb d_X_move_77 rfl (lv_at hl 6 rfl) ?_
  refine lv_bipush (v := (17 : Int32)) hx hb d_X_move_78 (by decide) ?_
  refine lv_icmp_ne (tgt := 98) hx hb d_X_move_80 (by decide) (fun _ => ?_) (fun hh => absurd hh (by decide))
  refine lv_iload_n hx hb d_X_move_98 rfl (lv_at hl 6 rfl) ?_
  refine lv_bipush (v := (17 : Int32)) hx hb d_X_move_99 (by decide) ?_
  refine lv_icmp_ne (tgt := 116) hx hb d_X_move_101 (by decide) (fun _ => ?_) (fun hh => absurd hh (by decide))
  refine lv_iload hx hb d_X_move_116 (lv_at hl 4 rfl) ?_
  refine lv_istore (lv' := [(5, .int (v_a (ix a3))), (9, .int (ushr (v_a (ix ((a3 + (1 : Int32)) &&& (7 : Int32)))) (16 : Int32))), (8, .int ((v_a (ix ((a3 + (1 : Int32)) &&& (7 : Int32)))) &&& (65535 : Int32))), (7, .int ((a3 + (1 : Int32)) &&& (7 : Int32))), (6, .int (1 : Int32)), (0, .ref yX), (1, .int (16 : Int32)), (2, .int a2), (3, .int a3), (4, .int a4)]) hx hb d_X_move_118 hl (by decide) rfl (fun ls hl => ?_)
  refine lv_aload_n hx hb d_X_move_120 rfl (lv_at hl 5 rfl) ?_
  refine lv_iload hx hb d_X_move_121 (lv_at hl 0 rfl) ?_
  refine lv_iload hx hb d_X_move_123 (lv_at hl 4 rfl) ?_
  refine zz_cVi (rest := []) (wr := []) (w' := [oX yX yM yD yA yO yL yH yI ((s_X_mayW v_x v_M v_d v_a v_o v_lo v_hi v_ri (v_a (ix a3))).2), ar cI yM 512 v_M, ar cI yD 8 v_d, ar cI yA 8 v_a, ar cI yO 4 v_o, ar cI yL 6 v_lo, ar cI yH 6 v_hi, ar cI yI 6 v_ri]) ⟨hx, hb, hml, hown, hts⟩ (k_X_mayW l D cI _ yX yM yD yA yO yL yH yI v_x v_M v_d v_a v_o v_lo v_hi v_ri (v_a (ix a3)) hset) g_X_move_X_may_99 nv_X_may ⟨⟨rfl, rfl⟩, Nat.le_of_ble_eq_true rfl, Nat.le_of_ble_eq_true rfl⟩ hK [0] rfl hP hD hS hA [0, 1, 2, 3, 4, 5, 6, 7] [] [0, 1, 2, 3, 4, 5, 6, 7] rfl rfl rfl rfl (by decide) rfl rfl 0 6 rfl rfl rfl rfl hl.1 (Nat.le_of_ble_eq_true rfl) d_X_move_125 ⟨Nat.zero_le _, Nat.zero_le _⟩ (fun H locs hP hD hS => ?_)
  refine lv_if_ne (tgt := 132) hx hb d_X_move_128 (by decide) (fun h1 => ?_) (fun h1 => ?_)
  ·
    refine lv_iload hx hb d_X_move_132 (lv_at hl 4 rfl) ?_
    refine lv_if_eq (tgt := 153) hx hb d_X_move_134 (by decide) (fun hh => absurd hh (by decide)) (fun _ => ?_)
    refine lv_aload_n hx hb d_X_move_137 rfl (lv_at hl 5 rfl) ?_
    refine zz_get (C := R_X) (T := F_X) (N := 27) (v := .ref yM) hx hb hts in_X hown hK hP 0 rfl rfl 1 (by decide) mw_69 rfl d_X_move_138 ?_
    refine lv_iload hx hb d_X_move_141 (lv_at hl 0 rfl) ?_
    refine lv_aload_n hx hb d_X_move_143 rfl (lv_at hl 5 rfl) ?_
    refine zz_get (C := R_X) (T := F_X) (N := 27) (v := .ref yD) hx hb hts in_X hown hK hP 0 rfl rfl 2 (by decide) mw_74 rfl d_X_move_144 ?_
    refine lv_iload_n hx hb d_X_move_147 rfl (lv_at hl 7 rfl) ?_
    refine va_iald hx hb hK hP 2 0 rfl rfl hi2 d_X_move_148 ?_
    refine zz_iast (w' := [oX yX yM yD yA yO yL yH yI ((s_X_mayW v_x v_M v_d v_a v_o v_lo v_hi v_ri (v_a (ix a3))).2), ar cI yM 512 (upd v_M (ix (v_a (ix a3))) (v_d (ix a2))), ar cI yD 8 v_d, ar cI yA 8 v_a, ar cI yO 4 v_o, ar cI yL 6 v_lo, ar cI yH 6 v_hi, ar cI yI 6 v_ri]) hx hb hK hP hD hS 1 0 rfl rfl (in_mayW h1) d_X_move_149 rfl (fun H locs hP hD hS => ?_)
    refine lv_goto (tgt := 166) hx hb d_X_move_150 (by decide) ?_
    refine lv_iload_n hx hb d_X_move_166 rfl (lv_at hl 6 rfl) ?_
    refine lv_bipush (v := (17 : Int32)) hx hb d_X_move_167 (by decide) ?_
    show W p l e _ s m args below meth c _ _ _ _ Q (F0 m 169 ls _)
    refine lv_icmp_ne (tgt := 222) hx hb d_X_move_169 (by decide) (fun _ => ?_) (fun hh => absurd hh (by decide))
    refine lv_iload_n hx hb d_X_move_222 rfl (lv_at hl 6 rfl) ?_
    refine lv_bipush (v := (14 : Int32)) hx hb d_X_move_223 (by decide) ?_
    refine lv_icmp_le (tgt := 239) hx hb d_X_move_225 (by decide) (fun hh => absurd hh (by decide)) (fun _ => ?_)
    refine lv_aload_n hx hb d_X_move_228 rfl (lv_at hl 5 rfl) ?_
    refine zz_get (C := R_X) (T := F_X) (N := 27) (v := .ref yA) hx hb hts in_X hown hK hP 0 rfl rfl 3 (by decide) mw_73 rfl d_X_move_229 ?_
    refine lv_iload_n hx hb d_X_move_232 rfl (lv_at hl 8 rfl) ?_
    refine lv_dup2_11 hx hb d_X_move_233 rfl rfl ?_
    refine va_iald hx hb hK hP 3 0 rfl rfl hi3 d_X_move_234 ?_
    refine lv_iload hx hb d_X_move_235 (lv_at hl 9 rfl) ?_
    refine lv_iadd hx hb d_X_move_237 ?_
    refine zz_iast (w' := [oX yX yM yD yA yO yL yH yI ((s_X_mayW v_x v_M v_d v_a v_o v_lo v_hi v_ri (v_a (ix a3))).2), ar cI yM 512 (upd v_M (ix (v_a (ix a3))) (v_d (ix a2))), ar cI yD 8 v_d, ar cI yA 8 (upd v_a (ix a3) ((v_a (ix a3)) + a4)), ar cI yO 4 v_o, ar cI yL 6 v_lo, ar cI yH 6 v_hi, ar cI yI 6 v_ri]) hx hb hK hP hD hS 3 0 rfl rfl hi3 d_X_move_238 rfl (fun H locs hP hD hS => ?_)
    have hsp : s_X_move16 v_x v_M v_d v_a v_o v_lo v_hi v_ri a2 a3 a4 = ((s_X_mayW v_x v_M v_d v_a v_o v_lo v_hi v_ri (v_a (ix a3))).2, upd v_M (ix (v_a (ix a3))) (v_d (ix a2)), upd v_a (ix a3) ((v_a (ix a3)) + a4)) := (by unfold s_X_move16; rw [if_neg h1])
    rw [hsp] at hE
    exact hE _ _ _ _ hP hD hS d_X_move_239
  ·
    have hsp : s_X_move16 v_x v_M v_d v_a v_o v_lo v_hi v_ri a2 a3 a4 = ((s_X_mayW v_x v_M v_d v_a v_o v_lo v_hi v_ri (v_a (ix a3))).2, v_M, v_a) := (by unfold s_X_move16; rw [if_pos h1])
    rw [hsp] at hE
    exact hE _ _ _ _ hP hD hS d_X_move_131
set_option maxHeartbeats 4000000 in
set_option maxRecDepth 100000 in
theorem k_X_move17 (l : Launch) (D : va_G) (cI : ClassId) (sz : Nat) (yX : Nat) (yM : Nat) (yD : Nat) (yA : Nat) (yO : Nat) (yL : Nat) (yH : Nat) (yI : Nat) (v_x : Nat → Int32) (v_M : Nat → Int32) (v_d : Nat → Int32) (v_a : Nat → Int32) (v_o : Nat → Int32) (v_lo : Nat → Int32) (v_hi : Nat → Int32) (v_ri : Nat → Int32) (a2 : Int32) (a3 : Int32) (a4 : Int32) (hi2 : vp_in a2 8) (hi3 : vp_in a3 8) (hset : v_x 2 = 0 ∨ v_x 2 = 1) : zMv l y_X_move (.code y_X_move b_X_move 11 (none) :: wd) { frames := 2, cells := 0, slots := 0, locals := 45 } D classes [(cI, .int)] [.ref yX, .int (17 : Int32), .int a2, .int a3, .int a4] [oX yX yM yD yA yO yL yH yI v_x, ar cI yM 512 v_M, ar cI yD 8 v_d, ar cI yA 8 v_a, ar cI yO 4 v_o, ar cI yL 6 v_lo, ar cI yH 6 v_hi, ar cI yI 6 v_ri] [oX yX yM yD yA yO yL yH yI ((s_X_move17 v_x v_M v_d v_a v_o v_lo v_hi v_ri a2 a3 a4).1), ar cI yM 512 v_M, ar cI yD 8 ((s_X_move17 v_x v_M v_d v_a v_o v_lo v_hi v_ri a2 a3 a4).2.1), ar cI yA 8 ((s_X_move17 v_x v_M v_d v_a v_o v_lo v_hi v_ri a2 a3 a4).2.2), ar cI yO 4 v_o, ar cI yL 6 v_lo, ar cI yH 6 v_hi, ar cI yI 6 v_ri] sz := by
  refine met_v (by decide) (Nat.le_of_ble_eq_true rfl) ?_
  intro p e s m args below meth c A Q ls hx hb hml hown hts hK hP hD hS hA hl hE
  have hl : lv_has ls 11 [(0, .ref yX), (1, .int (17 : Int32)), (2, .int a2), (3, .int a3), (4, .int a4)] := hl
  have hown : s.vm.findClass R_X = some m.cls := hown
  refine lv_iload_n hx hb d_X_move_0 rfl (lv_at hl 1 rfl) ?_
  refine lv_bipush (v := (15 : Int32)) hx hb d_X_move_1 (by decide) ?_
  refine lv_icmp_ge (tgt := 18) hx hb d_X_move_3 (by decide) (fun _ => ?_) (fun hh => absurd hh (by decide))
  refine lv_aload_n hx hb d_X_move_18 rfl (lv_at hl 0 rfl) ?_
  refine zz_get (C := R_X) (T := F_X) (N := 27) (v := .ref yA) hx hb hts in_X hown hK hP 0 rfl rfl 3 (by decide) mw_73 rfl d_X_move_19 ?_
  refine lv_iload_n hx hb d_X_move_22 rfl (lv_at hl 3 rfl) ?_
  refine va_iald hx hb hK hP 3 0 rfl rfl hi3 d_X_move_23 ?_
  refine lv_istore (lv' := [(5, .int (v_a (ix a3))), (0, .ref yX), (1, .int (17 : Int32)), (2, .int a2), (3, .int a3), (4, .int a4)]) hx hb d_X_move_24 hl (by decide) rfl (fun ls hl => ?_)
  refine lv_iload_n hx hb d_X_move_26 rfl (lv_at hl 2 rfl) ?_
  refine lv_bipush (v := (14 : Int32)) hx hb d_X_move_27 (by decide) ?_
  refine lv_icmp_eq (tgt := 38) hx hb d_X_move_29 (by decide) (fun hh => absurd hh (by decide)) (fun _ => ?_)
  refine lv_iload_n hx hb d_X_move_32 rfl (lv_at hl 2 rfl) ?_
  refine lv_bipush (v := (16 : Int32)) hx hb d_X_move_33 (by decide) ?_
  refine lv_icmp_ne (tgt := 42) hx hb d_X_move_35 (by decide) (fun _ => ?_) (fun hh => absurd hh (by decide))
  refine lv_iconst (v := (0 : Int32)) hx hb d_X_move_42 (by decide) ?_
  refine lv_istore (lv' := [(6, .int (0 : Int32)), (5, .int (v_a (ix a3))), (0, .ref yX), (1, .int (17 : Int32)), (2, .int a2), (3, .int a3), (4, .int a4)]) hx hb d_X_move_43 hl (by decide) rfl (fun ls hl => ?_)
  refine lv_iload_n hx hb d_X_move_45 rfl (lv_at hl 5 rfl) ?_
  refine lv_iconst (v := (1 : Int32)) hx hb d_X_move_46 (by decide) ?_
  refine lv_iadd hx hb d_X_move_47 ?_
  refine lv_bipush (v := (7 : Int32)) hx hb d_X_move_48 (by decide) ?_
  refine lv_iand hx hb d_X_move_50 ?_
  refine lv_istore (lv' := [(7, .int ((a3 + (1 : Int32)) &&& (7 : Int32))), (6, .int (0 : Int32)), (5, .int (v_a (ix a3))), (0, .ref yX), (1, .int (17 : Int32)), (2, .int a2), (3, .int a3), (4, .int a4)]) hx hb d_X_move_51 hl (by decide) rfl (fun ls hl => ?_)
  refine lv_aload_n hx hb d_X_move_53 rfl (lv_at hl 3 rfl) ?_
  refine zz_get (C := R_X) (T := F_X) (N := 27) (v := .ref yA) hx hb hts in_X hown hK hP 0 rfl rfl 3 (by decide) mw_73 rfl d_X_move_54 ?_
  refine lv_iload hx hb d_X_move_57 (lv_at hl 0 rfl) ?_
  show W p l e _ s m args below meth c _ _ _ _ Q (F0 m 59 ls _)
  refine va_iald hx hb hK hP 3 0 rfl rfl (zz_in7 _) d_X_move_59 ?_
  refine lv_ldc (v := (65535 : Int32)) hx hb hown (hts _ mw_88) d_X_move_60 ?_
  refine lv_iand hx hb d_X_move_62 ?_
  refine lv_istore (lv' := [(8, .int ((v_a (ix ((a3 + (1 : Int32)) &&& (7 : Int32)))) &&& (65535 : Int32))), (7, .int ((a3 + (1 : Int32)) &&& (7 : Int32))), (6, .int (0 : Int32)), (5, .int (v_a (ix a3))), (0, .ref yX), (1, .int (17 : Int32)), (2, .int a2), (3, .int a3), (4, .int a4)]) hx hb d_X_move_63 hl (by decide) rfl (fun ls hl => ?_)
  refine lv_aload_n hx hb d_X_move_65 rfl (lv_at hl 4 rfl) ?_
  refine zz_get (C := R_X) (T := F_X) (N := 27) (v := .ref yA) hx hb hts in_X hown hK hP 0 rfl rfl 3 (by decide) mw_73 rfl d_X_move_66 ?_
  refine lv_iload hx hb d_X_move_69 (lv_at hl 1 rfl) ?_
  refine va_iald hx hb hK hP 3 0 rfl rfl (zz_in7 _) d_X_move_71 ?_
  refine lv_bipush (v := (16 : Int32)) hx hb d_X_move_72 (by decide) ?_
  refine lv_iushr hx hb d_X_move_74 rfl ?_
  refine lv_istore (lv' := [(9, .int (ushr (v_a (ix ((a3 + (1 : Int32)) &&& (7 : Int32)))) (16 : Int32))), (8, .int ((v_a (ix ((a3 + (1 : Int32)) &&& (7 : Int32)))) &&& (65535 : Int32))), (7, .int ((a3 + (1 : Int32)) &&& (7 : Int32))), (6, .int (0 : Int32)), (5, .int (v_a (ix a3))), (0, .ref yX), (1, .int (17 : Int32)), (2, .int a2), (3, .int a3), (4, .int a4)]) hx hb d_X_move_75 hl (by decide) rfl (fun ls hl => ?_)
  refine lv_iload_n hx hb d_X_move_77 rfl (lv_at hl 6 rfl) ?_
  show W p l e _ s m args below meth c _ _ _ _ Q (F0 m 78 ls _)
  refine lv_bipush (v := (17 : Int32)) hx hb d_X_move_78 (by decide) ?_
  refine lv_icmp_ne (tgt := 98) hx hb d_X_move_80 (by decide) (fun hh => absurd hh (by decide)) (fun _ => ?_)
  refine lv_iload hx hb d_X_move_83 (lv_at hl 1 rfl) ?_
  refine lv_iload hx hb d_X_move_85 (lv_at hl 0 rfl) ?_
  refine lv_icmp_lt (tgt := 98) hx hb d_X_move_87 (by decide) (fun h1 => ?_) (fun h1 => ?_)
  ·
    refine lv_iload_n hx hb d_X_move_98 rfl (lv_at hl 6 rfl) ?_
    refine lv_bipush (v := (17 : Int32)) hx hb d_X_move_99 (by decide) ?_
    refine lv_icmp_ne (tgt := 116) hx hb d_X_move_101 (by decide) (fun hh => absurd hh (by decide)) (fun _ => ?_)
    refine lv_aload_n hx hb d_X_move_104 rfl (lv_at hl 5 rfl) ?_
    refine zz_get (C := R_X) (T := F_X) (N := 27) (v := .ref yA) hx hb hts in_X hown hK hP 0 rfl rfl 3 (by decide) mw_73 rfl d_X_move_105 ?_
    refine lv_iload_n hx hb d_X_move_108 rfl (lv_at hl 8 rfl) ?_
    refine va_iald hx hb hK hP 3 0 rfl rfl hi3 d_X_move_109 ?_
    refine lv_iload hx hb d_X_move_110 (lv_at hl 1 rfl) ?_
    refine lv_iadd hx hb d_X_move_112 ?_
    refine lv_goto (tgt := 118) hx hb d_X_move_113 (by decide) ?_
    refine lv_istore (lv' := [(5, .int ((v_a (ix a3)) + ((v_a (ix ((a3 + (1 : Int32)) &&& (7 : Int32)))) &&& (65535 : Int32)))), (9, .int (ushr (v_a (ix ((a3 + (1 : Int32)) &&& (7 : Int32)))) (16 : Int32))), (8, .int ((v_a (ix ((a3 + (1 : Int32)) &&& (7 : Int32)))) &&& (65535 : Int32))), (7, .int ((a3 + (1 : Int32)) &&& (7 : Int32))), (6, .int (0 : Int32)), (0, .ref yX), (1, .int (17 : Int32)), (2, .int a2), (3, .int a3), (4, .int a4)]) hx hb d_X_move_118 hl (by decide) rfl (fun ls hl => ?_)
    refine lv_aload_n hx hb d_X_move_120 rfl (lv_at hl 5 rfl) ?_
    refine lv_iload hx hb d_X_move_121 (lv_at hl 0 rfl) ?_
    refine lv_iload hx hb d_X_move_123 (lv_at hl 4 rfl) ?_
    show W p l e _ s m args below meth c _ _ _ _ Q (F0 m 125 ls _)
    refine zz_cVi (rest := []) (wr := []) (w' := [oX yX yM yD yA yO yL yH yI ((s_X_mayR v_x v_M v_d v_a v_o v_lo v_hi v_ri ((v_a (ix a3)) + ((v_a (ix ((a3 + (1 : Int32)) &&& (7 : Int32)))) &&& (65535 : Int32)))).2), ar cI yM 512 v_M, ar cI yD 8 v_d, ar cI yA 8 v_a, ar cI yO 4 v_o, ar cI yL 6 v_lo, ar cI yH 6 v_hi, ar cI yI 6 v_ri]) ⟨hx, hb, hml, hown, hts⟩ (k_X_mayR l D cI _ yX yM yD yA yO yL yH yI v_x v_M v_d v_a v_o v_lo v_hi v_ri ((v_a (ix a3)) + ((v_a (ix ((a3 + (1 : Int32)) &&& (7 : Int32)))) &&& (65535 : Int32))) hset) g_X_move_X_may_99 nv_X_may ⟨⟨rfl, rfl⟩, Nat.le_of_ble_eq_true rfl, Nat.le_of_ble_eq_true rfl⟩ hK [0] rfl hP hD hS hA [0, 1, 2, 3, 4, 5, 6, 7] [] [0, 1, 2, 3, 4, 5, 6, 7] rfl rfl rfl rfl (by decide) rfl rfl 0 6 rfl rfl rfl rfl hl.1 (Nat.le_of_ble_eq_true rfl) d_X_move_125 ⟨Nat.zero_le _, Nat.zero_le _⟩ (fun H locs hP hD hS => ?_)
    refine lv_if_ne (tgt := 132) hx hb d_X_move_128 (by decide) (fun h2 => ?_) (fun h2 => ?_)
    ·
      refine lv_iload hx hb d_X_move_132 (lv_at hl 4 rfl) ?_
      refine lv_if_eq (tgt := 153) hx hb d_X_move_134 (by decide) (fun _ => ?_) (fun hh => absurd hh (by decide))
      refine lv_aload_n hx hb d_X_move_153 rfl (lv_at hl 5 rfl) ?_
      refine zz_get (C := R_X) (T := F_X) (N := 27) (v := .ref yD) hx hb hts in_X hown hK hP 0 rfl rfl 2 (by decide) mw_74 rfl d_X_move_154 ?_
      refine lv_iload_n hx hb d_X_move_157 rfl (lv_at hl 7 rfl) ?_
      refine lv_aload_n hx hb d_X_move_158 rfl (lv_at hl 5 rfl) ?_
      refine zz_get (C := R_X) (T := F_X) (N := 27) (v := .ref yM) hx hb hts in_X hown hK hP 0 rfl rfl 1 (by decide) mw_69 rfl d_X_move_159 ?_
      refine lv_iload hx hb d_X_move_162 (lv_at hl 0 rfl) ?_
      refine va_iald hx hb hK hP 1 0 rfl rfl (in_mayR h2) d_X_move_164 ?_
      refine zz_iast (w' := [oX yX yM yD yA yO yL yH yI ((s_X_mayR v_x v_M v_d v_a v_o v_lo v_hi v_ri ((v_a (ix a3)) + ((v_a (ix ((a3 + (1 : Int32)) &&& (7 : Int32)))) &&& (65535 : Int32)))).2), ar cI yM 512 v_M, ar cI yD 8 (upd v_d (ix a2) (v_M (ix ((v_a (ix a3)) + ((v_a (ix ((a3 + (1 : Int32)) &&& (7 : Int32)))) &&& (65535 : Int32)))))), ar cI yA 8 v_a, ar cI yO 4 v_o, ar cI yL 6 v_lo, ar cI yH 6 v_hi, ar cI yI 6 v_ri]) hx hb hK hP hD hS 2 0 rfl rfl hi2 d_X_move_165 rfl (fun H locs hP hD hS => ?_)
      refine lv_iload_n hx hb d_X_move_166 rfl (lv_at hl 6 rfl) ?_
      refine lv_bipush (v := (17 : Int32)) hx hb d_X_move_167 (by decide) ?_
      refine lv_icmp_ne (tgt := 222) hx hb d_X_move_169 (by decide) (fun hh => absurd hh (by decide)) (fun _ => ?_)
      refine lv_iload hx hb d_X_move_172 (lv_at hl 2 rfl) ?_
      refine lv_iload hx hb d_X_move_174 (lv_at hl 9 rfl) ?_
      refine lv_iadd hx hb d_X_move_176 ?_
      refine lv_iload hx hb d_X_move_177 (lv_at hl 1 rfl) ?_
      have J179_3 : ∀ (vj179_0 : Int32) (ls : Array Slot) (H : Heap) (locs : List Loc), vj179_0 = (if (ushr (v_a (ix ((a3 + (1 : Int32)) &&& (7 : Int32)))) (16 : Int32)) = 0 then (1 : Int32) else (ushr (v_a (ix ((a3 + (1 : Int32)) &&& (7 : Int32)))) (16 : Int32))) → lv_has ls 11 [(5, .int ((v_a (ix a3)) + ((v_a (ix ((a3 + (1 : Int32)) &&& (7 : Int32)))) &&& (65535 : Int32)))), (9, .int (ushr (v_a (ix ((a3 + (1 : Int32)) &&& (7 : Int32)))) (16 : Int32))), (8, .int ((v_a (ix ((a3 + (1 : Int32)) &&& (7 : Int32)))) &&& (65535 : Int32))), (7, .int ((a3 + (1 : Int32)) &&& (7 : Int32))), (6, .int (0 : Int32)), (0, .ref yX), (1, .int (17 : Int32)), (2, .int a2), (3, .int a3), (4, .int a4)] → va_P D classes [oX yX yM yD yA yO yL yH yI ((s_X_mayR v_x v_M v_d v_a v_o v_lo v_hi v_ri ((v_a (ix a3)) + ((v_a (ix ((a3 + (1 : Int32)) &&& (7 : Int32)))) &&& (65535 : Int32)))).2), ar cI yM 512 v_M, ar cI yD 8 (upd v_d (ix a2) (v_M (ix ((v_a (ix a3)) + ((v_a (ix ((a3 + (1 : Int32)) &&& (7 : Int32)))) &&& (65535 : Int32)))))), ar cI yA 8 v_a, ar cI yO 4 v_o, ar cI yL 6 v_lo, ar cI yH 6 v_hi, ar cI yI 6 v_ri] H → va_D A [oX yX yM yD yA yO yL yH yI ((s_X_mayR v_x v_M v_d v_a v_o v_lo v_hi v_ri ((v_a (ix a3)) + ((v_a (ix ((a3 + (1 : Int32)) &&& (7 : Int32)))) &&& (65535 : Int32)))).2), ar cI yM 512 v_M, ar cI yD 8 (upd v_d (ix a2) (v_M (ix ((v_a (ix a3)) + ((v_a (ix ((a3 + (1 : Int32)) &&& (7 : Int32)))) &&& (65535 : Int32)))))), ar cI yA 8 v_a, ar cI yO 4 v_o, ar cI yL 6 v_lo, ar cI yH 6 v_hi, ar cI yI 6 v_ri] → va_S A s.heap H locs → W p l e { frames := 2, cells := 0, slots := 0, locals := 45 } s m args below meth c H locs 0 0 Q (F0 m 188 ls [.int vj179_0, .int (((v_a (ix ((a3 + (1 : Int32)) &&& (7 : Int32)))) &&& (65535 : Int32)) + a4)]) := by
        intro vj179_0 ls H locs evj179_0 hl hP hD hS
        subst evj179_0
        refine lv_irem hx hb d_X_move_188 zz_ne01 ?_
        refine lv_istore (lv' := [(10, .int ((((v_a (ix ((a3 + (1 : Int32)) &&& (7 : Int32)))) &&& (65535 : Int32)) + a4) - (((v_a (ix ((a3 + (1 : Int32)) &&& (7 : Int32)))) &&& (65535 : Int32)) + a4) / (if (ushr (v_a (ix ((a3 + (1 : Int32)) &&& (7 : Int32)))) (16 : Int32)) = 0 then (1 : Int32) else (ushr (v_a (ix ((a3 + (1 : Int32)) &&& (7 : Int32)))) (16 : Int32))) * (if (ushr (v_a (ix ((a3 + (1 : Int32)) &&& (7 : Int32)))) (16 : Int32)) = 0 then (1 : Int32) else (ushr (v_a (ix ((a3 + (1 : Int32)) &&& (7 : Int32)))) (16 : Int32))))), (5, .int ((v_a (ix a3)) + ((v_a (ix ((a3 + (1 : Int32)) &&& (7 : Int32)))) &&& (65535 : Int32)))), (9, .int (ushr (v_a (ix ((a3 + (1 : Int32)) &&& (7 : Int32)))) (16 : Int32))), (8, .int ((v_a (ix ((a3 + (1 : Int32)) &&& (7 : Int32)))) &&& (65535 : Int32))), (7, .int ((a3 + (1 : Int32)) &&& (7 : Int32))), (6, .int (0 : Int32)), (0, .ref yX), (1, .int (17 : Int32)), (2, .int a2), (3, .int a3), (4, .int a4)]) hx hb d_X_move_189 hl (by decide) rfl (fun ls hl => ?_)
        refine lv_aload_n hx hb d_X_move_191 rfl (lv_at hl 6 rfl) ?_
        refine zz_get (C := R_X) (T := F_X) (N := 27) (v := .ref yA) hx hb hts in_X hown hK hP 0 rfl rfl 3 (by decide) mw_73 rfl d_X_move_192 ?_
        refine lv_iload hx hb d_X_move_195 (lv_at hl 4 rfl) ?_
        refine lv_iload hx hb d_X_move_197 (lv_at hl 2 rfl) ?_
        refine lv_ldc (v := (65536 : Int32)) hx hb hown (hts _ mw_89) d_X_move_199 ?_
        refine lv_imul hx hb d_X_move_201 ?_
        refine lv_iload hx hb d_X_move_202 (lv_at hl 0 rfl) ?_
        have J204_4 : ∀ (vj204_0 : Int32) (ls : Array Slot) (H : Heap) (locs : List Loc), vj204_0 = (if 0 ≤ ((((v_a (ix ((a3 + (1 : Int32)) &&& (7 : Int32)))) &&& (65535 : Int32)) + a4) - (((v_a (ix ((a3 + (1 : Int32)) &&& (7 : Int32)))) &&& (65535 : Int32)) + a4) / (if (ushr (v_a (ix ((a3 + (1 : Int32)) &&& (7 : Int32)))) (16 : Int32)) = 0 then (1 : Int32) else (ushr (v_a (ix ((a3 + (1 : Int32)) &&& (7 : Int32)))) (16 : Int32))) * (if (ushr (v_a (ix ((a3 + (1 : Int32)) &&& (7 : Int32)))) (16 : Int32)) = 0 then (1 : Int32) else (ushr (v_a (ix ((a3 + (1 : Int32)) &&& (7 : Int32)))) (16 : Int32)))) then ((((v_a (ix ((a3 + (1 : Int32)) &&& (7 : Int32)))) &&& (65535 : Int32)) + a4) - (((v_a (ix ((a3 + (1 : Int32)) &&& (7 : Int32)))) &&& (65535 : Int32)) + a4) / (if (ushr (v_a (ix ((a3 + (1 : Int32)) &&& (7 : Int32)))) (16 : Int32)) = 0 then (1 : Int32) else (ushr (v_a (ix ((a3 + (1 : Int32)) &&& (7 : Int32)))) (16 : Int32))) * (if (ushr (v_a (ix ((a3 + (1 : Int32)) &&& (7 : Int32)))) (16 : Int32)) = 0 then (1 : Int32) else (ushr (v_a (ix ((a3 + (1 : Int32)) &&& (7 : Int32)))) (16 : Int32)))) else (((((v_a (ix ((a3 + (1 : Int32)) &&& (7 : Int32)))) &&& (65535 : Int32)) + a4) - (((v_a (ix ((a3 + (1 : Int32)) &&& (7 : Int32)))) &&& (65535 : Int32)) + a4) / (if (ushr (v_a (ix ((a3 + (1 : Int32)) &&& (7 : Int32)))) (16 : Int32)) = 0 then (1 : Int32) else (ushr (v_a (ix ((a3 + (1 : Int32)) &&& (7 : Int32)))) (16 : Int32))) * (if (ushr (v_a (ix ((a3 + (1 : Int32)) &&& (7 : Int32)))) (16 : Int32)) = 0 then (1 : Int32) else (ushr (v_a (ix ((a3 + (1 : Int32)) &&& (7 : Int32)))) (16 : Int32)))) + (ushr (v_a (ix ((a3 + (1 : Int32)) &&& (7 : Int32)))) (16 : Int32)))) → lv_has ls 11 [(10, .int ((((v_a (ix ((a3 + (1 : Int32)) &&& (7 : Int32)))) &&& (65535 : Int32)) + a4) - (((v_a (ix ((a3 + (1 : Int32)) &&& (7 : Int32)))) &&& (65535 : Int32)) + a4) / (if (ushr (v_a (ix ((a3 + (1 : Int32)) &&& (7 : Int32)))) (16 : Int32)) = 0 then (1 : Int32) else (ushr (v_a (ix ((a3 + (1 : Int32)) &&& (7 : Int32)))) (16 : Int32))) * (if (ushr (v_a (ix ((a3 + (1 : Int32)) &&& (7 : Int32)))) (16 : Int32)) = 0 then (1 : Int32) else (ushr (v_a (ix ((a3 + (1 : Int32)) &&& (7 : Int32)))) (16 : Int32))))), (5, .int ((v_a (ix a3)) + ((v_a (ix ((a3 + (1 : Int32)) &&& (7 : Int32)))) &&& (65535 : Int32)))), (9, .int (ushr (v_a (ix ((a3 + (1 : Int32)) &&& (7 : Int32)))) (16 : Int32))), (8, .int ((v_a (ix ((a3 + (1 : Int32)) &&& (7 : Int32)))) &&& (65535 : Int32))), (7, .int ((a3 + (1 : Int32)) &&& (7 : Int32))), (6, .int (0 : Int32)), (0, .ref yX), (1, .int (17 : Int32)), (2, .int a2), (3, .int a3), (4, .int a4)] → va_P D classes [oX yX yM yD yA yO yL yH yI ((s_X_mayR v_x v_M v_d v_a v_o v_lo v_hi v_ri ((v_a (ix a3)) + ((v_a (ix ((a3 + (1 : Int32)) &&& (7 : Int32)))) &&& (65535 : Int32)))).2), ar cI yM 512 v_M, ar cI yD 8 (upd v_d (ix a2) (v_M (ix ((v_a (ix a3)) + ((v_a (ix ((a3 + (1 : Int32)) &&& (7 : Int32)))) &&& (65535 : Int32)))))), ar cI yA 8 v_a, ar cI yO 4 v_o, ar cI yL 6 v_lo, ar cI yH 6 v_hi, ar cI yI 6 v_ri] H → va_D A [oX yX yM yD yA yO yL yH yI ((s_X_mayR v_x v_M v_d v_a v_o v_lo v_hi v_ri ((v_a (ix a3)) + ((v_a (ix ((a3 + (1 : Int32)) &&& (7 : Int32)))) &&& (65535 : Int32)))).2), ar cI yM 512 v_M, ar cI yD 8 (upd v_d (ix a2) (v_M (ix ((v_a (ix a3)) + ((v_a (ix ((a3 + (1 : Int32)) &&& (7 : Int32)))) &&& (65535 : Int32)))))), ar cI yA 8 v_a, ar cI yO 4 v_o, ar cI yL 6 v_lo, ar cI yH 6 v_hi, ar cI yI 6 v_ri] → va_S A s.heap H locs → W p l e { frames := 2, cells := 0, slots := 0, locals := 45 } s m args below meth c H locs 0 0 Q (F0 m 217 ls [.int vj204_0, .int ((ushr (v_a (ix ((a3 + (1 : Int32)) &&& (7 : Int32)))) (16 : Int32)) * (65536 : Int32)), .int ((a3 + (1 : Int32)) &&& (7 : Int32)), .ref yA]) := by
          intro vj204_0 ls H locs evj204_0 hl hP hD hS
          subst evj204_0
          refine lv_iadd hx hb d_X_move_217 ?_
          refine zz_iast (w' := [oX yX yM yD yA yO yL yH yI ((s_X_mayR v_x v_M v_d v_a v_o v_lo v_hi v_ri ((v_a (ix a3)) + ((v_a (ix ((a3 + (1 : Int32)) &&& (7 : Int32)))) &&& (65535 : Int32)))).2), ar cI yM 512 v_M, ar cI yD 8 (upd v_d (ix a2) (v_M (ix ((v_a (ix a3)) + ((v_a (ix ((a3 + (1 : Int32)) &&& (7 : Int32)))) &&& (65535 : Int32)))))), ar cI yA 8 (upd v_a (ix ((a3 + (1 : Int32)) &&& (7 : Int32))) (((ushr (v_a (ix ((a3 + (1 : Int32)) &&& (7 : Int32)))) (16 : Int32)) * (65536 : Int32)) + (if 0 ≤ ((((v_a (ix ((a3 + (1 : Int32)) &&& (7 : Int32)))) &&& (65535 : Int32)) + a4) - (((v_a (ix ((a3 + (1 : Int32)) &&& (7 : Int32)))) &&& (65535 : Int32)) + a4) / (if (ushr (v_a (ix ((a3 + (1 : Int32)) &&& (7 : Int32)))) (16 : Int32)) = 0 then (1 : Int32) else (ushr (v_a (ix ((a3 + (1 : Int32)) &&& (7 : Int32)))) (16 : Int32))) * (if (ushr (v_a (ix ((a3 + (1 : Int32)) &&& (7 : Int32)))) (16 : Int32)) = 0 then (1 : Int32) else (ushr (v_a (ix ((a3 + (1 : Int32)) &&& (7 : Int32)))) (16 : Int32)))) then ((((v_a (ix ((a3 + (1 : Int32)) &&& (7 : Int32)))) &&& (65535 : Int32)) + a4) - (((v_a (ix ((a3 + (1 : Int32)) &&& (7 : Int32)))) &&& (65535 : Int32)) + a4) / (if (ushr (v_a (ix ((a3 + (1 : Int32)) &&& (7 : Int32)))) (16 : Int32)) = 0 then (1 : Int32) else (ushr (v_a (ix ((a3 + (1 : Int32)) &&& (7 : Int32)))) (16 : Int32))) * (if (ushr (v_a (ix ((a3 + (1 : Int32)) &&& (7 : Int32)))) (16 : Int32)) = 0 then (1 : Int32) else (ushr (v_a (ix ((a3 + (1 : Int32)) &&& (7 : Int32)))) (16 : Int32)))) else (((((v_a (ix ((a3 + (1 : Int32)) &&& (7 : Int32)))) &&& (65535 : Int32)) + a4) - (((v_a (ix ((a3 + (1 : Int32)) &&& (7 : Int32)))) &&& (65535 : Int32)) + a4) / (if (ushr (v_a (ix ((a3 + (1 : Int32)) &&& (7 : Int32)))) (16 : Int32)) = 0 then (1 : Int32) else (ushr (v_a (ix ((a3 + (1 : Int32)) &&& (7 : Int32)))) (16 : Int32))) * (if (ushr (v_a (ix ((a3 + (1 : Int32)) &&& (7 : Int32)))) (16 : Int32)) = 0 then (1 : Int32) else (ushr (v_a (ix ((a3 + (1 : Int32)) &&& (7 : Int32)))) (16 : Int32)))) + (ushr (v_a (ix ((a3 + (1 : Int32)) &&& (7 : Int32)))) (16 : Int32)))))), ar cI yO 4 v_o, ar cI yL 6 v_lo, ar cI yH 6 v_hi, ar cI yI 6 v_ri]) hx hb hK hP hD hS 3 0 rfl rfl (zz_in7 _) d_X_move_218 rfl (fun H locs hP hD hS => ?_)
          refine lv_goto (tgt := 239) hx hb d_X_move_219 (by decide) ?_
          have hsp : s_X_move17 v_x v_M v_d v_a v_o v_lo v_hi v_ri a2 a3 a4 = ((s_X_mayR v_x v_M v_d v_a v_o v_lo v_hi v_ri ((v_a (ix a3)) + ((v_a (ix ((a3 + (1 : Int32)) &&& (7 : Int32)))) &&& (65535 : Int32)))).2, upd v_d (ix a2) (v_M (ix ((v_a (ix a3)) + ((v_a (ix ((a3 + (1 : Int32)) &&& (7 : Int32)))) &&& (65535 : Int32))))), upd v_a (ix ((a3 + (1 : Int32)) &&& (7 : Int32))) (((ushr (v_a (ix ((a3 + (1 : Int32)) &&& (7 : Int32)))) (16 : Int32)) * (65536 : Int32)) + (if 0 ≤ ((((v_a (ix ((a3 + (1 : Int32)) &&& (7 : Int32)))) &&& (65535 : Int32)) + a4) - (((v_a (ix ((a3 + (1 : Int32)) &&& (7 : Int32)))) &&& (65535 : Int32)) + a4) / (if (ushr (v_a (ix ((a3 + (1 : Int32)) &&& (7 : Int32)))) (16 : Int32)) = 0 then (1 : Int32) else (ushr (v_a (ix ((a3 + (1 : Int32)) &&& (7 : Int32)))) (16 : Int32))) * (if (ushr (v_a (ix ((a3 + (1 : Int32)) &&& (7 : Int32)))) (16 : Int32)) = 0 then (1 : Int32) else (ushr (v_a (ix ((a3 + (1 : Int32)) &&& (7 : Int32)))) (16 : Int32)))) then ((((v_a (ix ((a3 + (1 : Int32)) &&& (7 : Int32)))) &&& (65535 : Int32)) + a4) - (((v_a (ix ((a3 + (1 : Int32)) &&& (7 : Int32)))) &&& (65535 : Int32)) + a4) / (if (ushr (v_a (ix ((a3 + (1 : Int32)) &&& (7 : Int32)))) (16 : Int32)) = 0 then (1 : Int32) else (ushr (v_a (ix ((a3 + (1 : Int32)) &&& (7 : Int32)))) (16 : Int32))) * (if (ushr (v_a (ix ((a3 + (1 : Int32)) &&& (7 : Int32)))) (16 : Int32)) = 0 then (1 : Int32) else (ushr (v_a (ix ((a3 + (1 : Int32)) &&& (7 : Int32)))) (16 : Int32)))) else (((((v_a (ix ((a3 + (1 : Int32)) &&& (7 : Int32)))) &&& (65535 : Int32)) + a4) - (((v_a (ix ((a3 + (1 : Int32)) &&& (7 : Int32)))) &&& (65535 : Int32)) + a4) / (if (ushr (v_a (ix ((a3 + (1 : Int32)) &&& (7 : Int32)))) (16 : Int32)) = 0 then (1 : Int32) else (ushr (v_a (ix ((a3 + (1 : Int32)) &&& (7 : Int32)))) (16 : Int32))) * (if (ushr (v_a (ix ((a3 + (1 : Int32)) &&& (7 : Int32)))) (16 : Int32)) = 0 then (1 : Int32) else (ushr (v_a (ix ((a3 + (1 : Int32)) &&& (7 : Int32)))) (16 : Int32)))) + (ushr (v_a (ix ((a3 + (1 : Int32)) &&& (7 : Int32)))) (16 : Int32)))))) := (by unfold s_X_move17; rw [if_pos h1, if_neg h2])
          rw [hsp] at hE
          exact hE _ _ _ _ hP hD hS d_X_move_239
        refine lv_if_ge (tgt := 215) hx hb d_X_move_204 (by decide) (fun h4 => ?_) (fun h4 => ?_)
        ·
          refine lv_iload hx hb d_X_move_215 (lv_at hl 0 rfl) ?_
          exact J204_4 ((((v_a (ix ((a3 + (1 : Int32)) &&& (7 : Int32)))) &&& (65535 : Int32)) + a4) - (((v_a (ix ((a3 + (1 : Int32)) &&& (7 : Int32)))) &&& (65535 : Int32)) + a4) / (if (ushr (v_a (ix ((a3 + (1 : Int32)) &&& (7 : Int32)))) (16 : Int32)) = 0 then (1 : Int32) else (ushr (v_a (ix ((a3 + (1 : Int32)) &&& (7 : Int32)))) (16 : Int32))) * (if (ushr (v_a (ix ((a3 + (1 : Int32)) &&& (7 : Int32)))) (16 : Int32)) = 0 then (1 : Int32) else (ushr (v_a (ix ((a3 + (1 : Int32)) &&& (7 : Int32)))) (16 : Int32)))) _ _ _ (by rw [if_pos h4]) (lv_sub hl [0, 1, 2, 3, 4, 5, 6, 7, 8, 9, 10] rfl) hP hD hS
        ·
          refine lv_iload hx hb d_X_move_207 (lv_at hl 0 rfl) ?_
          refine lv_iload hx hb d_X_move_209 (lv_at hl 2 rfl) ?_
          refine lv_iadd hx hb d_X_move_211 ?_
          refine lv_goto (tgt := 217) hx hb d_X_move_212 (by decide) ?_
          exact J204_4 (((((v_a (ix ((a3 + (1 : Int32)) &&& (7 : Int32)))) &&& (65535 : Int32)) + a4) - (((v_a (ix ((a3 + (1 : Int32)) &&& (7 : Int32)))) &&& (65535 : Int32)) + a4) / (if (ushr (v_a (ix ((a3 + (1 : Int32)) &&& (7 : Int32)))) (16 : Int32)) = 0 then (1 : Int32) else (ushr (v_a (ix ((a3 + (1 : Int32)) &&& (7 : Int32)))) (16 : Int32))) * (if (ushr (v_a (ix ((a3 + (1 : Int32)) &&& (7 : Int32)))) (16 : Int32)) = 0 then (1 : Int32) else (ushr (v_a (ix ((a3 + (1 : Int32)) &&& (7 : Int32)))) (16 : Int32)))) + (ushr (v_a (ix ((a3 + (1 : Int32)) &&& (7 : Int32)))) (16 : Int32))) _ _ _ (by rw [if_neg h4]) (lv_sub hl [0, 1, 2, 3, 4, 5, 6, 7, 8, 9, 10] rfl) hP hD hS
      refine lv_if_ne (tgt := 186) hx hb d_X_move_179 (by decide) (fun h3 => ?_) (fun h3 => ?_)
      ·
        refine lv_iload hx hb d_X_move_186 (lv_at hl 1 rfl) ?_
        exact J179_3 (ushr (v_a (ix ((a3 + (1 : Int32)) &&& (7 : Int32)))) (16 : Int32)) _ _ _ (by rw [if_neg h3]) (lv_sub hl [0, 1, 2, 3, 4, 5, 6, 7, 8, 9] rfl) hP hD hS
      ·
        refine lv_iconst (v := (1 : Int32)) hx hb d_X_move_182 (by decide) ?_
        refine lv_goto (tgt := 188) hx hb d_X_move_183 (by decide) ?_
        exact J179_3 (1 : Int32) _ _ _ (by rw [if_pos h3]) (lv_sub hl [0, 1, 2, 3, 4, 5, 6, 7, 8, 9] rfl) hP hD hS
    ·
      have hsp : s_X_move17 v_x v_M v_d v_a v_o v_lo v_hi v_ri a2 a3 a4 = ((s_X_mayR v_x v_M v_d v_a v_o v_lo v_hi v_ri ((v_a (ix a3)) + ((v_a (ix ((a3 + (1 : Int32)) &&& (7 : Int32)))) &&& (65535 : Int32)))).2, v_d, v_a) := (by unfold s_X_move17; rw [if_pos h1, if_pos h2])
      rw [hsp] at hE
      exact hE _ _ _ _ hP hD hS d_X_move_131
  ·
    refine lv_aload_n hx hb d_X_move_90 rfl (lv_at hl 5 rfl) ?_
    refine lv_sipush (v := (514 : Int32)) hx hb d_X_move_91 (by decide) ?_
    refine zz_put (C := R_X) (T := F_X) (N := 27) (w' := [oX yX yM yD yA yO yL yH yI (upd v_x 19 (514 : Int32)), ar cI yM 512 v_M, ar cI yD 8 v_d, ar cI yA 8 v_a, ar cI yO 4 v_o, ar cI yL 6 v_lo, ar cI yH 6 v_hi, ar cI yI 6 v_ri]) hx hb hts in_X ty_X ty_X_ok n_X hown hK hP hD hS 0 rfl rfl 26 (by decide) mw_79 rfl rfl rfl (Nat.le_of_ble_eq_true rfl) d_X_move_94 rfl (fun H locs hP hD hS => ?_)
    have hsp : s_X_move17 v_x v_M v_d v_a v_o v_lo v_hi v_ri a2 a3 a4 = (upd v_x 19 (514 : Int32), v_d, v_a) := (by unfold s_X_move17; rw [if_neg h1])
    rw [hsp] at hE
    exact hE _ _ _ _ hP hD hS d_X_move_97
set_option maxHeartbeats 4000000 in
set_option maxRecDepth 100000 in
theorem k_X_jump18 (l : Launch) (D : va_G) (cI : ClassId) (sz : Nat) (a2 : Int32) (a3 : Int32) (a4 : Int32) (a5 : Int32) : zMi l y_X_jump (.code y_X_jump b_X_jump 6 (some .int) :: wd) { frames := 0, cells := 0, slots := 0, locals := 0 } D classes [] [.int (18 : Int32), .int a2, .int a3, .int a4, .int a5] [] [] sz (s_X_jump18 a2 a3 a4 a5) := by
  refine met_i (by decide) (Nat.le_of_ble_eq_true rfl) rfl ?_
  intro p e s m args below meth c A Q ls hx hb hml hown hts hK hP hD hS hA hl hE
  have hl : lv_has ls 6 [(0, .int (18 : Int32)), (1, .int a2), (2, .int a3), (3, .int a4), (4, .int a5)] := hl
  have hown : s.vm.findClass R_X = some m.cls := hown
  refine lv_iload_n hx hb d_X_jump_0 rfl (lv_at hl 0 rfl) ?_
  refine lv_bipush (v := (18 : Int32)) hx hb d_X_jump_1 (by decide) ?_
  refine lv_icmp_eq (tgt := 28) hx hb d_X_jump_3 (by decide) (fun _ => ?_) (fun hh => absurd hh (by decide))
  refine lv_iconst (v := (1 : Int32)) hx hb d_X_jump_28 (by decide) ?_
  refine lv_goto (tgt := 33) hx hb d_X_jump_29 (by decide) ?_
  refine lv_istore (lv' := [(5, .int (1 : Int32)), (0, .int (18 : Int32)), (1, .int a2), (2, .int a3), (3, .int a4), (4, .int a5)]) hx hb d_X_jump_33 hl (by decide) rfl (fun ls hl => ?_)
  refine lv_iload hx hb d_X_jump_35 (lv_at hl 0 rfl) ?_
  refine lv_if_eq (tgt := 46) hx hb d_X_jump_37 (by decide) (fun hh => absurd hh (by decide)) (fun _ => ?_)
  refine lv_iload_n hx hb d_X_jump_40 rfl (lv_at hl 2 rfl) ?_
  refine lv_iload_n hx hb d_X_jump_41 rfl (lv_at hl 3 rfl) ?_
  refine lv_iadd hx hb d_X_jump_42 ?_
  refine lv_goto (tgt := 49) hx hb d_X_jump_43 (by decide) ?_
  have hsp : s_X_jump18 a2 a3 a4 a5 = (a2 + a3) := rfl
  rw [hsp] at hE
  exact hE _ _ _ _ hP hD hS d_X_jump_49
set_option maxHeartbeats 4000000 in
set_option maxRecDepth 100000 in
theorem k_X_jump19 (l : Launch) (D : va_G) (cI : ClassId) (sz : Nat) (a2 : Int32) (a3 : Int32) (a4 : Int32) (a5 : Int32) : zMi l y_X_jump (.code y_X_jump b_X_jump 6 (some .int) :: wd) { frames := 0, cells := 0, slots := 0, locals := 0 } D classes [] [.int (19 : Int32), .int a2, .int a3, .int a4, .int a5] [] [] sz (s_X_jump19 a2 a3 a4 a5) := by
  refine met_i (by decide) (Nat.le_of_ble_eq_true rfl) rfl ?_
  intro p e s m args below meth c A Q ls hx hb hml hown hts hK hP hD hS hA hl hE
  have hl : lv_has ls 6 [(0, .int (19 : Int32)), (1, .int a2), (2, .int a3), (3, .int a4), (4, .int a5)] := hl
  have hown : s.vm.findClass R_X = some m.cls := hown
  refine lv_iload_n hx hb d_X_jump_0 rfl (lv_at hl 0 rfl) ?_
  refine lv_bipush (v := (18 : Int32)) hx hb d_X_jump_1 (by decide) ?_
  refine lv_icmp_eq (tgt := 28) hx hb d_X_jump_3 (by decide) (fun hh => absurd hh (by decide)) (fun _ => ?_)
  refine lv_iload_n hx hb d_X_jump_6 rfl (lv_at hl 0 rfl) ?_
  refine lv_bipush (v := (19 : Int32)) hx hb d_X_jump_7 (by decide) ?_
  refine lv_icmp_ne (tgt := 16) hx hb d_X_jump_9 (by decide) (fun hh => absurd hh (by decide)) (fun _ => ?_)
  refine lv_iload_n hx hb d_X_jump_12 rfl (lv_at hl 3 rfl) ?_
  refine lv_if_eq (tgt := 28) hx hb d_X_jump_13 (by decide) (fun h1 => ?_) (fun h1 => ?_)
  ·
    refine lv_iconst (v := (1 : Int32)) hx hb d_X_jump_28 (by decide) ?_
    refine lv_goto (tgt := 33) hx hb d_X_jump_29 (by decide) ?_
    refine lv_istore (lv' := [(5, .int (1 : Int32)), (0, .int (19 : Int32)), (1, .int a2), (2, .int a3), (3, .int a4), (4, .int a5)]) hx hb d_X_jump_33 hl (by decide) rfl (fun ls hl => ?_)
    refine lv_iload hx hb d_X_jump_35 (lv_at hl 0 rfl) ?_
    refine lv_if_eq (tgt := 46) hx hb d_X_jump_37 (by decide) (fun hh => absurd hh (by decide)) (fun _ => ?_)
    refine lv_iload_n hx hb d_X_jump_40 rfl (lv_at hl 2 rfl) ?_
    refine lv_iload_n hx hb d_X_jump_41 rfl (lv_at hl 3 rfl) ?_
    refine lv_iadd hx hb d_X_jump_42 ?_
    refine lv_goto (tgt := 49) hx hb d_X_jump_43 (by decide) ?_
    have hsp : s_X_jump19 a2 a3 a4 a5 = (a2 + a3) := (by unfold s_X_jump19; rw [if_pos h1])
    rw [hsp] at hE
    exact hE _ _ _ _ hP hD hS d_X_jump_49
  ·
    refine lv_iload_n hx hb d_X_jump_16 rfl (lv_at hl 0 rfl) ?_
    refine lv_bipush (v := (20 : Int32)) hx hb d_X_jump_17 (by decide) ?_
    refine lv_icmp_ne (tgt := 32) hx hb d_X_jump_19 (by decide) (fun _ => ?_) (fun hh => absurd hh (by decide))
    refine lv_iconst (v := (0 : Int32)) hx hb d_X_jump_32 (by decide) ?_
    refine lv_istore (lv' := [(5, .int (0 : Int32)), (0, .int (19 : Int32)), (1, .int a2), (2, .int a3), (3, .int a4), (4, .int a5)]) hx hb d_X_jump_33 hl (by decide) rfl (fun ls hl => ?_)
    refine lv_iload hx hb d_X_jump_35 (lv_at hl 0 rfl) ?_
    refine lv_if_eq (tgt := 46) hx hb d_X_jump_37 (by decide) (fun _ => ?_) (fun hh => absurd hh (by decide))
    refine lv_iload_n hx hb d_X_jump_46 rfl (lv_at hl 2 rfl) ?_
    refine lv_iconst (v := (1 : Int32)) hx hb d_X_jump_47 (by decide) ?_
    refine lv_iadd hx hb d_X_jump_48 ?_
    have hsp : s_X_jump19 a2 a3 a4 a5 = (a2 + (1 : Int32)) := (by unfold s_X_jump19; rw [if_neg h1])
    rw [hsp] at hE
    exact hE _ _ _ _ hP hD hS d_X_jump_49
set_option maxHeartbeats 4000000 in
set_option maxRecDepth 100000 in
theorem k_X_jump20 (l : Launch) (D : va_G) (cI : ClassId) (sz : Nat) (a2 : Int32) (a3 : Int32) (a4 : Int32) (a5 : Int32) : zMi l y_X_jump (.code y_X_jump b_X_jump 6 (some .int) :: wd) { frames := 0, cells := 0, slots := 0, locals := 0 } D classes [] [.int (20 : Int32), .int a2, .int a3, .int a4, .int a5] [] [] sz (s_X_jump20 a2 a3 a4 a5) := by
  refine met_i (by decide) (Nat.le_of_ble_eq_true rfl) rfl ?_
  intro p e s m args below meth c A Q ls hx hb hml hown hts hK hP hD hS hA hl hE
  have hl : lv_has ls 6 [(0, .int (20 : Int32)), (1, .int a2), (2, .int a3), (3, .int a4), (4, .int a5)] := hl
  have hown : s.vm.findClass R_X = some m.cls := hown
  refine lv_iload_n hx hb d_X_jump_0 rfl (lv_at hl 0 rfl) ?_
  refine lv_bipush (v := (18 : Int32)) hx hb d_X_jump_1 (by decide) ?_
  refine lv_icmp_eq (tgt := 28) hx hb d_X_jump_3 (by decide) (fun hh => absurd hh (by decide)) (fun _ => ?_)
  refine lv_iload_n hx hb d_X_jump_6 rfl (lv_at hl 0 rfl) ?_
  refine lv_bipush (v := (19 : Int32)) hx hb d_X_jump_7 (by decide) ?_
  refine lv_icmp_ne (tgt := 16) hx hb d_X_jump_9 (by decide) (fun _ => ?_) (fun hh => absurd hh (by decide))
  refine lv_iload_n hx hb d_X_jump_16 rfl (lv_at hl 0 rfl) ?_
  refine lv_bipush (v := (20 : Int32)) hx hb d_X_jump_17 (by decide) ?_
  refine lv_icmp_ne (tgt := 32) hx hb d_X_jump_19 (by decide) (fun hh => absurd hh (by decide)) (fun _ => ?_)
  refine lv_iload_n hx hb d_X_jump_22 rfl (lv_at hl 3 rfl) ?_
  refine lv_iload hx hb d_X_jump_23 (lv_at hl 4 rfl) ?_
  refine lv_icmp_ge (tgt := 32) hx hb d_X_jump_25 (by decide) (fun h1 => ?_) (fun h1 => ?_)
  ·
    refine lv_iconst (v := (0 : Int32)) hx hb d_X_jump_32 (by decide) ?_
    refine lv_istore (lv' := [(5, .int (0 : Int32)), (0, .int (20 : Int32)), (1, .int a2), (2, .int a3), (3, .int a4), (4, .int a5)]) hx hb d_X_jump_33 hl (by decide) rfl (fun ls hl => ?_)
    refine lv_iload hx hb d_X_jump_35 (lv_at hl 0 rfl) ?_
    refine lv_if_eq (tgt := 46) hx hb d_X_jump_37 (by decide) (fun _ => ?_) (fun hh => absurd hh (by decide))
    refine lv_iload_n hx hb d_X_jump_46 rfl (lv_at hl 2 rfl) ?_
    refine lv_iconst (v := (1 : Int32)) hx hb d_X_jump_47 (by decide) ?_
    refine lv_iadd hx hb d_X_jump_48 ?_
    have hsp : s_X_jump20 a2 a3 a4 a5 = (a2 + (1 : Int32)) := (by unfold s_X_jump20; rw [if_pos h1])
    rw [hsp] at hE
    exact hE _ _ _ _ hP hD hS d_X_jump_49
  ·
    refine lv_iconst (v := (1 : Int32)) hx hb d_X_jump_28 (by decide) ?_
    refine lv_goto (tgt := 33) hx hb d_X_jump_29 (by decide) ?_
    refine lv_istore (lv' := [(5, .int (1 : Int32)), (0, .int (20 : Int32)), (1, .int a2), (2, .int a3), (3, .int a4), (4, .int a5)]) hx hb d_X_jump_33 hl (by decide) rfl (fun ls hl => ?_)
    refine lv_iload hx hb d_X_jump_35 (lv_at hl 0 rfl) ?_
    refine lv_if_eq (tgt := 46) hx hb d_X_jump_37 (by decide) (fun hh => absurd hh (by decide)) (fun _ => ?_)
    refine lv_iload_n hx hb d_X_jump_40 rfl (lv_at hl 2 rfl) ?_
    refine lv_iload_n hx hb d_X_jump_41 rfl (lv_at hl 3 rfl) ?_
    refine lv_iadd hx hb d_X_jump_42 ?_
    refine lv_goto (tgt := 49) hx hb d_X_jump_43 (by decide) ?_
    have hsp : s_X_jump20 a2 a3 a4 a5 = (a2 + a3) := (by unfold s_X_jump20; rw [if_neg h1])
    rw [hsp] at hE
    exact hE _ _ _ _ hP hD hS d_X_jump_49
