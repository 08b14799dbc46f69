set_option maxHeartbeats 4000000 in
set_option maxRecDepth 100000 in
theorem k_R_state (l : Launch) (D : va_G) (cI : ClassId) (sz : Nat) (xR : Nat) (xD : Nat) (xA : Nat) (u_r : Nat → Int32) (u_d : Nat → Int32) (u_a : Nat → Int32) : zMi l y_R_state (.code y_R_state b_R_state 1 (some .int) :: wd) { frames := 0, cells := 0, slots := 0, locals := 0 } D classes [(cI, .int)] [.ref xR] [oR xR xD xA u_r, ar cI xD 8 u_d, ar cI xA 8 u_a] [oR xR xD xA u_r, ar cI xD 8 u_d, ar cI xA 8 u_a] sz (s_R_state u_r u_d u_a) := by
  refine met_i (by decide) (Nat.le_of_ble_eq_true rfl) rfl ?_
  intro p e s m args below meth c A Q ls hx hb hml hown hts hK hP hD hS hA hl hE
  have hl : lv_has ls 1 [(0, .ref xR)] := hl
  have hown : s.vm.findClass R_R = some m.cls := hown
  refine lv_aload_n hx hb d_R_state_0 rfl (lv_at hl 0 rfl) ?_
  refine zz_get (C := R_R) (T := F_R) (N := 12) (v := .int (u_r 4)) hx hb hts in_R hown hK hP 0 rfl rfl 6 (by decide) mw_1 rfl d_R_state_1 ?_
  refine lv_iconst (v := (4 : Int32)) hx hb d_R_state_4 (by decide) ?_
  refine lv_aload_n hx hb d_R_state_5 rfl (lv_at hl 0 rfl) ?_
  refine zz_get (C := R_R) (T := F_R) (N := 12) (v := .int (u_r 5)) hx hb hts in_R hown hK hP 0 rfl rfl 7 (by decide) mw_2 rfl d_R_state_6 ?_
  refine lv_imul hx hb d_R_state_9 ?_
  refine lv_iadd hx hb d_R_state_10 ?_
  refine lv_bipush (v := (8 : Int32)) hx hb d_R_state_11 (by decide) ?_
  refine lv_aload_n hx hb d_R_state_13 rfl (lv_at hl 0 rfl) ?_
  refine zz_get (C := R_R) (T := F_R) (N := 12) (v := .int (u_r 6)) hx hb hts in_R hown hK hP 0 rfl rfl 8 (by decide) mw_3 rfl d_R_state_14 ?_
  refine lv_imul hx hb d_R_state_17 ?_
  show W p l e _ s m args below meth c _ _ _ _ Q (F0 m 18 ls _)
  refine lv_iadd hx hb d_R_state_18 ?_
  have hsp : s_R_state u_r u_d u_a = (((u_r 4) + ((4 : Int32) * (u_r 5))) + ((8 : Int32) * (u_r 6))) := rfl
  rw [hsp] at hE
  exact hE _ _ _ _ hP hD hS d_R_state_19
set_option maxHeartbeats 4000000 in
set_option maxRecDepth 100000 in
theorem k_R_takeState (l : Launch) (D : va_G) (cI : ClassId) (sz : Nat) (xR : Nat) (xD : Nat) (xA : Nat) (u_r : Nat → Int32) (u_d : Nat → Int32) (u_a : Nat → Int32) (a1 : Int32) : zMv l y_R_takeState (.code y_R_takeState b_R_takeState 2 (none) :: wd) { frames := 0, cells := 0, slots := 0, locals := 0 } D classes [(cI, .int)] [.ref xR, .int a1] [oR xR xD xA u_r, ar cI xD 8 u_d, ar cI xA 8 u_a] [oR xR xD xA (s_R_takeState u_r u_d u_a a1), ar cI xD 8 u_d, ar cI xA 8 u_a] sz := by
  refine met_v (by decide) (Nat.le_of_ble_eq_true rfl) ?_
  intro p e s m args below meth c A Q ls hx hb hml hown hts hK hP hD hS hA hl hE
  have hl : lv_has ls 2 [(0, .ref xR), (1, .int a1)] := hl
  have hown : s.vm.findClass R_R = some m.cls := hown
  refine lv_aload_n hx hb d_R_takeState_0 rfl (lv_at hl 0 rfl) ?_
  refine lv_iload_n hx hb d_R_takeState_1 rfl (lv_at hl 1 rfl) ?_
  refine lv_iconst (v := (3 : Int32)) hx hb d_R_takeState_2 (by decide) ?_
  refine lv_iand hx hb d_R_takeState_3 ?_
  refine lv_iconst (v := (2 : Int32)) hx hb d_R_takeState_4 (by decide) ?_
  have J5_1 : ∀ (vj5_0 : Int32) (ls : Array Slot) (H : Heap) (locs : List Loc), vj5_0 = (if (a1 &&& (3 : Int32)) ≤ (2 : Int32) then (a1 &&& (3 : Int32)) else (2 : Int32)) → lv_has ls 2 [(0, .ref xR), (1, .int a1)] → va_P D classes [oR xR xD xA u_r, ar cI xD 8 u_d, ar cI xA 8 u_a] H → va_D A [oR xR xD xA u_r, ar cI xD 8 u_d, ar cI xA 8 u_a] → va_S A s.heap H locs → W p l e { frames := 0, cells := 0, slots := 0, locals := 0 } s m args below meth c H locs 0 0 Q (F0 m 15 ls [.int vj5_0, .ref xR]) := by
    intro vj5_0 ls H locs evj5_0 hl hP hD hS
    subst evj5_0
    refine zz_put (C := R_R) (T := F_R) (N := 12) (w' := [oR xR xD xA (upd u_r 4 (if (a1 &&& (3 : Int32)) ≤ (2 : Int32) then (a1 &&& (3 : Int32)) else (2 : Int32))), ar cI xD 8 u_d, ar cI xA 8 u_a]) hx hb hts in_R ty_R ty_R_ok n_R hown hK hP hD hS 0 rfl rfl 6 (by decide) mw_1 rfl rfl rfl (Nat.le_of_ble_eq_true rfl) d_R_takeState_15 rfl (fun H locs hP hD hS => ?_)
    refine lv_aload_n hx hb d_R_takeState_18 rfl (lv_at hl 0 rfl) ?_
    refine lv_iload_n hx hb d_R_takeState_19 rfl (lv_at hl 1 rfl) ?_
    refine lv_iconst (v := (2 : Int32)) hx hb d_R_takeState_20 (by decide) ?_
    refine lv_ishr hx hb d_R_takeState_21 ?_
    refine lv_iconst (v := (1 : Int32)) hx hb d_R_takeState_22 (by decide) ?_
    refine lv_iand hx hb d_R_takeState_23 ?_
    refine zz_put (C := R_R) (T := F_R) (N := 12) (w' := [oR xR xD xA (upd (upd u_r 4 (if (a1 &&& (3 : Int32)) ≤ (2 : Int32) then (a1 &&& (3 : Int32)) else (2 : Int32))) 5 ((a1 >>> ((2 : Int32) &&& 31)) &&& (1 : Int32))), ar cI xD 8 u_d, ar cI xA 8 u_a]) hx hb hts in_R ty_R ty_R_ok n_R hown hK hP hD hS 0 rfl rfl 7 (by decide) mw_2 rfl rfl rfl (Nat.le_of_ble_eq_true rfl) d_R_takeState_24 rfl (fun H locs hP hD hS => ?_)
    refine lv_aload_n hx hb d_R_takeState_27 rfl (lv_at hl 0 rfl) ?_
    refine lv_iload_n hx hb d_R_takeState_28 rfl (lv_at hl 1 rfl) ?_
    refine lv_iconst (v := (3 : Int32)) hx hb d_R_takeState_29 (by decide) ?_
    show W p l e _ s m args below meth c _ _ _ _ Q (F0 m 30 ls _)
    refine lv_ishr hx hb d_R_takeState_30 ?_
    refine lv_bipush (v := (15 : Int32)) hx hb d_R_takeState_31 (by decide) ?_
    refine lv_iand hx hb d_R_takeState_33 ?_
    refine zz_put (C := R_R) (T := F_R) (N := 12) (w' := [oR xR xD xA (upd (upd (upd u_r 4 (if (a1 &&& (3 : Int32)) ≤ (2 : Int32) then (a1 &&& (3 : Int32)) else (2 : Int32))) 5 ((a1 >>> ((2 : Int32) &&& 31)) &&& (1 : Int32))) 6 ((a1 >>> ((3 : Int32) &&& 31)) &&& (15 : Int32))), ar cI xD 8 u_d, ar cI xA 8 u_a]) hx hb hts in_R ty_R ty_R_ok n_R hown hK hP hD hS 0 rfl rfl 8 (by decide) mw_3 rfl rfl rfl (Nat.le_of_ble_eq_true rfl) d_R_takeState_34 rfl (fun H locs hP hD hS => ?_)
    have hsp : s_R_takeState u_r u_d u_a a1 = (upd (upd (upd u_r 4 (if (a1 &&& (3 : Int32)) ≤ (2 : Int32) then (a1 &&& (3 : Int32)) else (2 : Int32))) 5 ((a1 >>> ((2 : Int32) &&& 31)) &&& (1 : Int32))) 6 ((a1 >>> ((3 : Int32) &&& 31)) &&& (15 : Int32))) := rfl
    rw [hsp] at hE
    exact hE _ _ _ _ hP hD hS d_R_takeState_37
  refine lv_icmp_le (tgt := 12) hx hb d_R_takeState_5 (by decide) (fun h1 => ?_) (fun h1 => ?_)
  ·
    refine lv_iload_n hx hb d_R_takeState_12 rfl (lv_at hl 1 rfl) ?_
    refine lv_iconst (v := (3 : Int32)) hx hb d_R_takeState_13 (by decide) ?_
    refine lv_iand hx hb d_R_takeState_14 ?_
    exact J5_1 (a1 &&& (3 : Int32)) _ _ _ (by rw [if_pos h1]) (lv_sub hl [0, 1] rfl) hP hD hS
  ·
    refine lv_iconst (v := (2 : Int32)) hx hb d_R_takeState_8 (by decide) ?_
    refine lv_goto (tgt := 15) hx hb d_R_takeState_9 (by decide) ?_
    exact J5_1 (2 : Int32) _ _ _ (by rw [if_neg h1]) (lv_sub hl [0, 1] rfl) hP hD hS
set_option maxHeartbeats 4000000 in
set_option maxRecDepth 100000 in
theorem k_R_begin (l : Launch) (D : va_G) (cI : ClassId) (sz : Nat) (xR : Nat) (xD : Nat) (xA : Nat) (u_r : Nat → Int32) (u_d : Nat → Int32) (u_a : Nat → Int32) (a1 : Int32) (a2 : Int32) (a3 : Int32) (hb_a3 : a3 = 0 ∨ a3 = 1) : zMv l y_R_begin (.code y_R_begin b_R_begin 4 (none) :: wd) { frames := 0, cells := 0, slots := 0, locals := 0 } D classes [(cI, .int)] [.ref xR, .int a1, .int a2, .int a3] [oR xR xD xA u_r, ar cI xD 8 u_d, ar cI xA 8 u_a] [oR xR xD xA (s_R_begin u_r u_d u_a a1 a2 a3), ar cI xD 8 u_d, ar cI xA 8 u_a] sz := by
  refine met_v (by decide) (Nat.le_of_ble_eq_true rfl) ?_
  intro p e s m args below meth c A Q ls hx hb hml hown hts hK hP hD hS hA hl hE
  have hl : lv_has ls 4 [(0, .ref xR), (1, .int a1), (2, .int a2), (3, .int a3)] := hl
  have hown : s.vm.findClass R_R = some m.cls := hown
  refine lv_aload_n hx hb d_R_begin_0 rfl (lv_at hl 0 rfl) ?_
  refine lv_iload_n hx hb d_R_begin_1 rfl (lv_at hl 1 rfl) ?_
  refine zz_put (C := R_R) (T := F_R) (N := 12) (w' := [oR xR xD xA (upd u_r 0 a1), ar cI xD 8 u_d, ar cI xA 8 u_a]) hx hb hts in_R ty_R ty_R_ok n_R hown hK hP hD hS 0 rfl rfl 2 (by decide) mw_4 rfl rfl rfl (Nat.le_of_ble_eq_true rfl) d_R_begin_2 rfl (fun H locs hP hD hS => ?_)
  refine lv_aload_n hx hb d_R_begin_5 rfl (lv_at hl 0 rfl) ?_
  refine lv_iload_n hx hb d_R_begin_6 rfl (lv_at hl 2 rfl) ?_
  refine zz_put (C := R_R) (T := F_R) (N := 12) (w' := [oR xR xD xA (upd (upd u_r 0 a1) 4 a2), ar cI xD 8 u_d, ar cI xA 8 u_a]) hx hb hts in_R ty_R ty_R_ok n_R hown hK hP hD hS 0 rfl rfl 6 (by decide) mw_1 rfl rfl rfl (Nat.le_of_ble_eq_true rfl) d_R_begin_7 rfl (fun H locs hP hD hS => ?_)
  refine lv_aload_n hx hb d_R_begin_10 rfl (lv_at hl 0 rfl) ?_
  refine lv_iconst (v := (0 : Int32)) hx hb d_R_begin_11 (by decide) ?_
  refine zz_put (C := R_R) (T := F_R) (N := 12) (w' := [oR xR xD xA (upd (upd (upd u_r 0 a1) 4 a2) 5 (0 : Int32)), ar cI xD 8 u_d, ar cI xA 8 u_a]) hx hb hts in_R ty_R ty_R_ok n_R hown hK hP hD hS 0 rfl rfl 7 (by decide) mw_2 rfl rfl rfl (Nat.le_of_ble_eq_true rfl) d_R_begin_12 rfl (fun H locs hP hD hS => ?_)
  refine lv_aload_n hx hb d_R_begin_15 rfl (lv_at hl 0 rfl) ?_
  refine lv_iconst (v := (0 : Int32)) hx hb d_R_begin_16 (by decide) ?_
  show W p l e _ s m args below meth c _ _ _ _ Q (F0 m 17 ls _)
  refine zz_put (C := R_R) (T := F_R) (N := 12) (w' := [oR xR xD xA (upd (upd (upd (upd u_r 0 a1) 4 a2) 5 (0 : Int32)) 6 (0 : Int32)), ar cI xD 8 u_d, ar cI xA 8 u_a]) hx hb hts in_R ty_R ty_R_ok n_R hown hK hP hD hS 0 rfl rfl 8 (by decide) mw_3 rfl rfl rfl (Nat.le_of_ble_eq_true rfl) d_R_begin_17 rfl (fun H locs hP hD hS => ?_)
  refine lv_aload_n hx hb d_R_begin_20 rfl (lv_at hl 0 rfl) ?_
  refine lv_iconst (v := (0 : Int32)) hx hb d_R_begin_21 (by decide) ?_
  refine zz_put (C := R_R) (T := F_R) (N := 12) (w' := [oR xR xD xA (upd (upd (upd (upd (upd u_r 0 a1) 4 a2) 5 (0 : Int32)) 6 (0 : Int32)) 7 (0 : Int32)), ar cI xD 8 u_d, ar cI xA 8 u_a]) hx hb hts in_R ty_R ty_R_ok n_R hown hK hP hD hS 0 rfl rfl 9 (by decide) mw_5 rfl rfl rfl (Nat.le_of_ble_eq_true rfl) d_R_begin_22 rfl (fun H locs hP hD hS => ?_)
  refine lv_aload_n hx hb d_R_begin_25 rfl (lv_at hl 0 rfl) ?_
  refine lv_iload_n hx hb d_R_begin_26 rfl (lv_at hl 3 rfl) ?_
  refine zz_put (C := R_R) (T := F_R) (N := 12) (w' := [oR xR xD xA (upd (upd (upd (upd (upd (upd u_r 0 a1) 4 a2) 5 (0 : Int32)) 6 (0 : Int32)) 7 (0 : Int32)) 8 a3), ar cI xD 8 u_d, ar cI xA 8 u_a]) hx hb hts in_R ty_R ty_R_ok n_R hown hK hP hD hS 0 rfl rfl 10 (by decide) mw_6 rfl (zz_nar hb_a3) (zz_fit hb_a3) (Nat.le_of_ble_eq_true rfl) d_R_begin_27 rfl (fun H locs hP hD hS => ?_)
  have hsp : s_R_begin u_r u_d u_a a1 a2 a3 = (upd (upd (upd (upd (upd (upd u_r 0 a1) 4 a2) 5 (0 : Int32)) 6 (0 : Int32)) 7 (0 : Int32)) 8 a3) := rfl
  rw [hsp] at hE
  exact hE _ _ _ _ hP hD hS d_R_begin_30
set_option maxHeartbeats 4000000 in
set_option maxRecDepth 100000 in
theorem k_R_enterHandler (l : Launch) (D : va_G) (cI : ClassId) (sz : Nat) (xR : Nat) (xD : Nat) (xA : Nat) (u_r : Nat → Int32) (u_d : Nat → Int32) (u_a : Nat → Int32) (a1 : Int32) (a2 : Int32) : zMv l y_R_enterHandler (.code y_R_enterHandler b_R_enterHandler 3 (none) :: wd) { frames := 0, cells := 0, slots := 0, locals := 0 } D classes [(cI, .int)] [.ref xR, .int a1, .int a2] [oR xR xD xA u_r, ar cI xD 8 u_d, ar cI xA 8 u_a] [oR xR xD xA ((s_R_enterHandler u_r u_d u_a a1 a2).1), ar cI xD 8 u_d, ar cI xA 8 ((s_R_enterHandler u_r u_d u_a a1 a2).2)] sz := by
  refine met_v (by decide) (Nat.le_of_ble_eq_true rfl) ?_
  intro p e s m args below meth c A Q ls hx hb hml hown hts hK hP hD hS hA hl hE
  have hl : lv_has ls 3 [(0, .ref xR), (1, .int a1), (2, .int a2)] := hl
  have hown : s.vm.findClass R_R = some m.cls := hown
  refine lv_aload_n hx hb d_R_enterHandler_0 rfl (lv_at hl 0 rfl) ?_
  refine zz_get (C := R_R) (T := F_R) (N := 12) (v := .ref xA) hx hb hts in_R hown hK hP 0 rfl rfl 1 (by decide) mw_7 rfl d_R_enterHandler_1 ?_
  refine lv_bipush (v := (7 : Int32)) hx hb d_R_enterHandler_4 (by decide) ?_
  refine lv_iload_n hx hb d_R_enterHandler_6 rfl (lv_at hl 2 rfl) ?_
  refine zz_iast (w' := [oR xR xD xA u_r, ar cI xD 8 u_d, ar cI xA 8 (upd u_a (ix (7 : Int32)) a2)]) hx hb hK hP hD hS 2 0 rfl rfl (zz_inc (by decide)) d_R_enterHandler_7 rfl (fun H locs hP hD hS => ?_)
  refine lv_aload_n hx hb d_R_enterHandler_8 rfl (lv_at hl 0 rfl) ?_
  refine lv_iconst (v := (2 : Int32)) hx hb d_R_enterHandler_9 (by decide) ?_
  refine zz_put (C := R_R) (T := F_R) (N := 12) (w' := [oR xR xD xA (upd u_r 4 (2 : Int32)), ar cI xD 8 u_d, ar cI xA 8 (upd u_a (ix (7 : Int32)) a2)]) hx hb hts in_R ty_R ty_R_ok n_R hown hK hP hD hS 0 rfl rfl 6 (by decide) mw_1 rfl rfl rfl (Nat.le_of_ble_eq_true rfl) d_R_enterHandler_10 rfl (fun H locs hP hD hS => ?_)
  refine lv_aload_n hx hb d_R_enterHandler_13 rfl (lv_at hl 0 rfl) ?_
  refine lv_iconst (v := (0 : Int32)) hx hb d_R_enterHandler_14 (by decide) ?_
  refine zz_put (C := R_R) (T := F_R) (N := 12) (w' := [oR xR xD xA (upd (upd u_r 4 (2 : Int32)) 5 (0 : Int32)), ar cI xD 8 u_d, ar cI xA 8 (upd u_a (ix (7 : Int32)) a2)]) hx hb hts in_R ty_R ty_R_ok n_R hown hK hP hD hS 0 rfl rfl 7 (by decide) mw_2 rfl rfl rfl (Nat.le_of_ble_eq_true rfl) d_R_enterHandler_15 rfl (fun H locs hP hD hS => ?_)
  show W p l e _ s m args below meth c _ _ _ _ Q (F0 m 18 ls _)
  refine lv_aload_n hx hb d_R_enterHandler_18 rfl (lv_at hl 0 rfl) ?_
  refine lv_iconst (v := (0 : Int32)) hx hb d_R_enterHandler_19 (by decide) ?_
  refine zz_put (C := R_R) (T := F_R) (N := 12) (w' := [oR xR xD xA (upd (upd (upd u_r 4 (2 : Int32)) 5 (0 : Int32)) 6 (0 : Int32)), ar cI xD 8 u_d, ar cI xA 8 (upd u_a (ix (7 : Int32)) a2)]) hx hb hts in_R ty_R ty_R_ok n_R hown hK hP hD hS 0 rfl rfl 8 (by decide) mw_3 rfl rfl rfl (Nat.le_of_ble_eq_true rfl) d_R_enterHandler_20 rfl (fun H locs hP hD hS => ?_)
  refine lv_aload_n hx hb d_R_enterHandler_23 rfl (lv_at hl 0 rfl) ?_
  refine lv_iconst (v := (0 : Int32)) hx hb d_R_enterHandler_24 (by decide) ?_
  refine zz_put (C := R_R) (T := F_R) (N := 12) (w' := [oR xR xD xA (upd (upd (upd (upd u_r 4 (2 : Int32)) 5 (0 : Int32)) 6 (0 : Int32)) 8 (0 : Int32)), ar cI xD 8 u_d, ar cI xA 8 (upd u_a (ix (7 : Int32)) a2)]) hx hb hts in_R ty_R ty_R_ok n_R hown hK hP hD hS 0 rfl rfl 10 (by decide) mw_6 rfl rfl rfl (Nat.le_of_ble_eq_true rfl) d_R_enterHandler_25 rfl (fun H locs hP hD hS => ?_)
  refine lv_aload_n hx hb d_R_enterHandler_28 rfl (lv_at hl 0 rfl) ?_
  refine lv_iload_n hx hb d_R_enterHandler_29 rfl (lv_at hl 1 rfl) ?_
  refine zz_put (C := R_R) (T := F_R) (N := 12) (w' := [oR xR xD xA (upd (upd (upd (upd (upd u_r 4 (2 : Int32)) 5 (0 : Int32)) 6 (0 : Int32)) 8 (0 : Int32)) 0 a1), ar cI xD 8 u_d, ar cI xA 8 (upd u_a (ix (7 : Int32)) a2)]) hx hb hts in_R ty_R ty_R_ok n_R hown hK hP hD hS 0 rfl rfl 2 (by decide) mw_4 rfl rfl rfl (Nat.le_of_ble_eq_true rfl) d_R_enterHandler_30 rfl (fun H locs hP hD hS => ?_)
  have hsp : s_R_enterHandler u_r u_d u_a a1 a2 = (upd (upd (upd (upd (upd u_r 4 (2 : Int32)) 5 (0 : Int32)) 6 (0 : Int32)) 8 (0 : Int32)) 0 a1, upd u_a (ix (7 : Int32)) a2) := rfl
  rw [hsp] at hE
  exact hE _ _ _ _ hP hD hS d_R_enterHandler_33
set_option maxHeartbeats 4000000 in
set_option maxRecDepth 100000 in
theorem k_R_keepU (l : Launch) (D : va_G) (cI : ClassId) (sz : Nat) (xR : Nat) (xD : Nat) (xA : Nat) (xM : Nat) (xW : Nat) (u_r : Nat → Int32) (u_d : Nat → Int32) (u_a : Nat → Int32) (u_M : Nat → Int32) : zMi l y_R_keep (.code y_R_keep b_R_keep 7 (some .boolean) :: wd) { frames := 2, cells := 0, slots := 0, locals := 42 } D classes [(cI, .int)] [.ref xR, .ref xM, .int (1 : Int32)] [oR xR xD xA u_r, ar cI xD 8 u_d, ar cI xA 8 u_a, oM xM xW, ar cI xW 512 u_M] [oR xR xD xA ((s_R_keepU u_r u_d u_a u_M).2.1), ar cI xD 8 u_d, ar cI xA 8 u_a, oM xM xW, ar cI xW 512 ((s_R_keepU u_r u_d u_a u_M).2.2)] sz (s_R_keepU u_r u_d u_a u_M).1 := by
  refine met_i (by decide) (Nat.le_of_ble_eq_true rfl) (zz_nar (bo_R_keepU u_r u_d u_a u_M)) ?_
  intro p e s m args below meth c A Q ls hx hb hml hown hts hK hP hD hS hA hl hE
  have hl : lv_has ls 7 [(0, .ref xR), (1, .ref xM), (2, .int (1 : Int32))] := hl
  have hown : s.vm.findClass R_R = some m.cls := hown
  refine lv_aload_n hx hb d_R_keep_0 rfl (lv_at hl 0 rfl) ?_
  refine zz_get (C := R_R) (T := F_R) (N := 12) (v := .int (u_r 1)) hx hb hts in_R hown hK hP 0 rfl rfl 3 (by decide) mw_8 rfl d_R_keep_1 ?_
  refine lv_bipush (v := (31 : Int32)) hx hb d_R_keep_4 (by decide) ?_
  refine lv_iand hx hb d_R_keep_6 ?_
  refine lv_istore_n (lv' := [(3, .int ((u_r 1) &&& (31 : Int32))), (0, .ref xR), (1, .ref xM), (2, .int (1 : Int32))]) hx hb d_R_keep_7 rfl hl (by decide) rfl (fun ls hl => ?_)
  refine lv_iload_n hx hb d_R_keep_8 rfl (lv_at hl 0 rfl) ?_
  refine zz_cS0 (rest := []) ⟨hx, hb, hml, hown, hts⟩ (k_M_isArea l D cI _ ((u_r 1) &&& (31 : Int32))) g_R_keep_M_isArea_41 nd_M_isArea ⟨⟨rfl, rfl⟩, Nat.le_of_ble_eq_true rfl, Nat.le_of_ble_eq_true rfl⟩ hK hP hD hS hA rfl rfl hl.1 (Nat.le_of_ble_eq_true rfl) d_R_keep_9 ⟨Nat.zero_le _, Nat.zero_le _⟩ (fun H locs hP hD hS => ?_)
  refine lv_if_ne (tgt := 17) hx hb d_R_keep_12 (by decide) (fun h1 => ?_) (fun h1 => ?_)
  ·
    refine lv_iload_n hx hb d_R_keep_17 rfl (lv_at hl 0 rfl) ?_
    refine zz_cS0 (rest := []) ⟨hx, hb, hml, hown, hts⟩ (k_M_areaStart l D cI _ ((u_r 1) &&& (31 : Int32))) g_R_keep_M_areaStart_47 nd_M_areaStart ⟨⟨rfl, rfl⟩, Nat.le_of_ble_eq_true rfl, Nat.le_of_ble_eq_true rfl⟩ hK hP hD hS hA rfl rfl hl.1 (Nat.le_of_ble_eq_true rfl) d_R_keep_18 ⟨Nat.zero_le _, Nat.zero_le _⟩ (fun H locs hP hD hS => ?_)
    refine lv_istore (lv' := [(4, .int (s_M_areaStart ((u_r 1) &&& (31 : Int32)))), (3, .int ((u_r 1) &&& (31 : Int32))), (0, .ref xR), (1, .ref xM), (2, .int (1 : Int32))]) hx hb d_R_keep_21 hl (by decide) rfl (fun ls hl => ?_)
    refine lv_aload_n hx hb d_R_keep_23 rfl (lv_at hl 2 rfl) ?_
    refine lv_aload_n hx hb d_R_keep_24 rfl (lv_at hl 3 rfl) ?_
    refine lv_iload hx hb d_R_keep_25 (lv_at hl 0 rfl) ?_
    refine zz_rVi (rest := [.ref xR]) ⟨hx, hb, hml, hown, hts⟩ (k_M_read l D cI _ xM xW u_M (s_M_areaStart ((u_r 1) &&& (31 : Int32)))) g_R_keep_M_read_51 nv_M_read ⟨⟨rfl, rfl⟩, Nat.le_of_ble_eq_true rfl, Nat.le_of_ble_eq_true rfl⟩ hK [0] rfl hP hD hS hA [3, 4] rfl rfl 3 0 rfl rfl rfl rfl hl.1 (Nat.le_of_ble_eq_true rfl) d_R_keep_27 ⟨Nat.zero_le _, Nat.zero_le _⟩ (fun H locs hP hD hS => ?_)
    refine zz_put (C := R_R) (T := F_R) (N := 12) (w' := [oR xR xD xA (upd u_r 1 (s_M_read u_M (s_M_areaStart ((u_r 1) &&& (31 : Int32))))), ar cI xD 8 u_d, ar cI xA 8 u_a, oM xM xW, ar cI xW 512 u_M]) hx hb hts in_R ty_R ty_R_ok n_R hown hK hP hD hS 0 rfl rfl 3 (by decide) mw_8 rfl rfl rfl (Nat.le_of_ble_eq_true rfl) d_R_keep_30 rfl (fun H locs hP hD hS => ?_)
    refine lv_aload_n hx hb d_R_keep_33 rfl (lv_at hl 3 rfl) ?_
    refine lv_iload hx hb d_R_keep_34 (lv_at hl 0 rfl) ?_
    refine lv_aload_n hx hb d_R_keep_36 rfl (lv_at hl 2 rfl) ?_
    show W p l e _ s m args below meth c _ _ _ _ Q (F0 m 37 ls _)
    refine zz_get (C := R_R) (T := F_R) (N := 12) (v := .int (u_r 3)) hx hb hts in_R hown hK hP 0 rfl rfl 5 (by decide) mw_9 rfl d_R_keep_37 ?_
    refine zz_cVv (rest := []) (wr := [oR xR xD xA (upd u_r 1 (s_M_read u_M (s_M_areaStart ((u_r 1) &&& (31 : Int32))))), ar cI xD 8 u_d, ar cI xA 8 u_a]) (w' := [oR xR xD xA (upd u_r 1 (s_M_read u_M (s_M_areaStart ((u_r 1) &&& (31 : Int32))))), ar cI xD 8 u_d, ar cI xA 8 u_a, oM xM xW, ar cI xW 512 (s_M_write u_M (s_M_areaStart ((u_r 1) &&& (31 : Int32))) (u_r 3))]) ⟨hx, hb, hml, hown, hts⟩ (k_M_write l D cI _ xM xW u_M (s_M_areaStart ((u_r 1) &&& (31 : Int32))) (u_r 3)) g_R_keep_M_write_57 nv_M_write ⟨⟨rfl, rfl⟩, Nat.le_of_ble_eq_true rfl, Nat.le_of_ble_eq_true rfl⟩ hK [0] rfl hP hD hS hA [3, 4] [0, 1, 2] [0, 1, 2, 3, 4] rfl rfl rfl rfl (by decide) rfl rfl 3 0 rfl rfl rfl rfl hl.1 (Nat.le_of_ble_eq_true rfl) d_R_keep_40 ⟨Nat.zero_le _, Nat.zero_le _⟩ (fun H locs hP hD hS => ?_)
    refine lv_aload_n hx hb d_R_keep_43 rfl (lv_at hl 3 rfl) ?_
    refine lv_iload hx hb d_R_keep_44 (lv_at hl 0 rfl) ?_
    refine lv_iconst (v := (1 : Int32)) hx hb d_R_keep_46 (by decide) ?_
    refine lv_iadd hx hb d_R_keep_47 ?_
    refine lv_iload_n hx hb d_R_keep_48 rfl (lv_at hl 4 rfl) ?_
    refine lv_if_eq (tgt := 59) hx hb d_R_keep_49 (by decide) (fun hh => absurd hh (by decide)) (fun _ => ?_)
    refine lv_aload_n hx hb d_R_keep_52 rfl (lv_at hl 2 rfl) ?_
    refine zz_rVi (rest := [.int ((s_M_areaStart ((u_r 1) &&& (31 : Int32))) + (1 : Int32)), .ref xM]) ⟨hx, hb, hml, hown, hts⟩ (k_R_state l D cI _ xR xD xA (upd u_r 1 (s_M_read u_M (s_M_areaStart ((u_r 1) &&& (31 : Int32))))) u_d u_a) g_R_keep_R_state_61 nv_R_state ⟨⟨rfl, rfl⟩, Nat.le_of_ble_eq_true rfl, Nat.le_of_ble_eq_true rfl⟩ hK [0] rfl hP hD hS hA [0, 1, 2] rfl rfl 0 1 rfl rfl rfl rfl hl.1 (Nat.le_of_ble_eq_true rfl) d_R_keep_53 ⟨Nat.zero_le _, Nat.zero_le _⟩ (fun H locs hP hD hS => ?_)
    refine lv_goto (tgt := 66) hx hb d_R_keep_56 (by decide) ?_
    refine zz_cVv (rest := []) (wr := [oR xR xD xA (upd u_r 1 (s_M_read u_M (s_M_areaStart ((u_r 1) &&& (31 : Int32))))), ar cI xD 8 u_d, ar cI xA 8 u_a]) (w' := [oR xR xD xA (upd u_r 1 (s_M_read u_M (s_M_areaStart ((u_r 1) &&& (31 : Int32))))), ar cI xD 8 u_d, ar cI xA 8 u_a, oM xM xW, ar cI xW 512 (s_M_write (s_M_write u_M (s_M_areaStart ((u_r 1) &&& (31 : Int32))) (u_r 3)) ((s_M_areaStart ((u_r 1) &&& (31 : Int32))) + (1 : Int32)) (s_R_state (upd u_r 1 (s_M_read u_M (s_M_areaStart ((u_r 1) &&& (31 : Int32))))) u_d u_a))]) ⟨hx, hb, hml, hown, hts⟩ (k_M_write l D cI _ xM xW (s_M_write u_M (s_M_areaStart ((u_r 1) &&& (31 : Int32))) (u_r 3)) ((s_M_areaStart ((u_r 1) &&& (31 : Int32))) + (1 : Int32)) (s_R_state (upd u_r 1 (s_M_read u_M (s_M_areaStart ((u_r 1) &&& (31 : Int32))))) u_d u_a)) g_R_keep_M_write_57 nv_M_write ⟨⟨rfl, rfl⟩, Nat.le_of_ble_eq_true rfl, Nat.le_of_ble_eq_true rfl⟩ hK [0] rfl hP hD hS hA [3, 4] [0, 1, 2] [0, 1, 2, 3, 4] rfl rfl rfl rfl (by decide) rfl rfl 3 0 rfl rfl rfl rfl hl.1 (Nat.le_of_ble_eq_true rfl) d_R_keep_66 ⟨Nat.zero_le _, Nat.zero_le _⟩ (fun H locs hP hD hS => ?_)
    refine lv_aload_n hx hb d_R_keep_69 rfl (lv_at hl 3 rfl) ?_
    refine lv_iload hx hb d_R_keep_70 (lv_at hl 0 rfl) ?_
    refine lv_iconst (v := (2 : Int32)) hx hb d_R_keep_72 (by decide) ?_
    refine lv_iadd hx hb d_R_keep_73 ?_
    refine lv_iload_n hx hb d_R_keep_74 rfl (lv_at hl 4 rfl) ?_
    refine lv_if_eq (tgt := 88) hx hb d_R_keep_75 (by decide) (fun hh => absurd hh (by decide)) (fun _ => ?_)
    refine lv_aload_n hx hb d_R_keep_78 rfl (lv_at hl 2 rfl) ?_
    refine zz_get (C := R_R) (T := F_R) (N := 12) (v := .ref xA) hx hb hts in_R hown hK hP 0 rfl rfl 1 (by decide) mw_7 rfl d_R_keep_79 ?_
    refine lv_bipush (v := (6 : Int32)) hx hb d_R_keep_82 (by decide) ?_
    refine va_iald hx hb hK hP 2 0 rfl rfl (zz_inc (by decide)) d_R_keep_84 ?_
    refine lv_goto (tgt := 94) hx hb d_R_keep_85 (by decide) ?_
    refine zz_cVv (rest := []) (wr := [oR xR xD xA (upd u_r 1 (s_M_read u_M (s_M_areaStart ((u_r 1) &&& (31 : Int32))))), ar cI xD 8 u_d, ar cI xA 8 u_a]) (w' := [oR xR xD xA (upd u_r 1 (s_M_read u_M (s_M_areaStart ((u_r 1) &&& (31 : Int32))))), ar cI xD 8 u_d, ar cI xA 8 u_a, oM xM xW, ar cI xW 512 (s_M_write (s_M_write (s_M_write u_M (s_M_areaStart ((u_r 1) &&& (31 : Int32))) (u_r 3)) ((s_M_areaStart ((u_r 1) &&& (31 : Int32))) + (1 : Int32)) (s_R_state (upd u_r 1 (s_M_read u_M (s_M_areaStart ((u_r 1) &&& (31 : Int32))))) u_d u_a)) ((s_M_areaStart ((u_r 1) &&& (31 : Int32))) + (2 : Int32)) (u_a (ix (6 : Int32))))]) ⟨hx, hb, hml, hown, hts⟩ (k_M_write l D cI _ xM xW (s_M_write (s_M_write u_M (s_M_areaStart ((u_r 1) &&& (31 : Int32))) (u_r 3)) ((s_M_areaStart ((u_r 1) &&& (31 : Int32))) + (1 : Int32)) (s_R_state (upd u_r 1 (s_M_read u_M (s_M_areaStart ((u_r 1) &&& (31 : Int32))))) u_d u_a)) ((s_M_areaStart ((u_r 1) &&& (31 : Int32))) + (2 : Int32)) (u_a (ix (6 : Int32)))) g_R_keep_M_write_57 nv_M_write ⟨⟨rfl, rfl⟩, Nat.le_of_ble_eq_true rfl, Nat.le_of_ble_eq_true rfl⟩ hK [0] rfl hP hD hS hA [3, 4] [0, 1, 2] [0, 1, 2, 3, 4] rfl rfl rfl rfl (by decide) rfl rfl 3 0 rfl rfl rfl rfl hl.1 (Nat.le_of_ble_eq_true rfl) d_R_keep_94 ⟨Nat.zero_le _, Nat.zero_le _⟩ (fun H locs hP hD hS => ?_)
    refine lv_aload_n hx hb d_R_keep_97 rfl (lv_at hl 3 rfl) ?_
    refine lv_iload hx hb d_R_keep_98 (lv_at hl 0 rfl) ?_
    refine lv_iconst (v := (3 : Int32)) hx hb d_R_keep_100 (by decide) ?_
    refine lv_iadd hx hb d_R_keep_101 ?_
    refine lv_iload_n hx hb d_R_keep_102 rfl (lv_at hl 4 rfl) ?_
    show W p l e _ s m args below meth c _ _ _ _ Q (F0 m 103 ls _)
    refine lv_if_eq (tgt := 116) hx hb d_R_keep_103 (by decide) (fun hh => absurd hh (by decide)) (fun _ => ?_)
    refine lv_aload_n hx hb d_R_keep_106 rfl (lv_at hl 2 rfl) ?_
    refine zz_get (C := R_R) (T := F_R) (N := 12) (v := .ref xA) hx hb hts in_R hown hK hP 0 rfl rfl 1 (by decide) mw_7 rfl d_R_keep_107 ?_
    refine lv_bipush (v := (7 : Int32)) hx hb d_R_keep_110 (by decide) ?_
    refine va_iald hx hb hK hP 2 0 rfl rfl (zz_inc (by decide)) d_R_keep_112 ?_
    refine lv_goto (tgt := 122) hx hb d_R_keep_113 (by decide) ?_
    refine zz_cVv (rest := []) (wr := [oR xR xD xA (upd u_r 1 (s_M_read u_M (s_M_areaStart ((u_r 1) &&& (31 : Int32))))), ar cI xD 8 u_d, ar cI xA 8 u_a]) (w' := [oR xR xD xA (upd u_r 1 (s_M_read u_M (s_M_areaStart ((u_r 1) &&& (31 : Int32))))), ar cI xD 8 u_d, ar cI xA 8 u_a, oM xM xW, ar cI xW 512 (s_M_write (s_M_write (s_M_write (s_M_write u_M (s_M_areaStart ((u_r 1) &&& (31 : Int32))) (u_r 3)) ((s_M_areaStart ((u_r 1) &&& (31 : Int32))) + (1 : Int32)) (s_R_state (upd u_r 1 (s_M_read u_M (s_M_areaStart ((u_r 1) &&& (31 : Int32))))) u_d u_a)) ((s_M_areaStart ((u_r 1) &&& (31 : Int32))) + (2 : Int32)) (u_a (ix (6 : Int32)))) ((s_M_areaStart ((u_r 1) &&& (31 : Int32))) + (3 : Int32)) (u_a (ix (7 : Int32))))]) ⟨hx, hb, hml, hown, hts⟩ (k_M_write l D cI _ xM xW (s_M_write (s_M_write (s_M_write u_M (s_M_areaStart ((u_r 1) &&& (31 : Int32))) (u_r 3)) ((s_M_areaStart ((u_r 1) &&& (31 : Int32))) + (1 : Int32)) (s_R_state (upd u_r 1 (s_M_read u_M (s_M_areaStart ((u_r 1) &&& (31 : Int32))))) u_d u_a)) ((s_M_areaStart ((u_r 1) &&& (31 : Int32))) + (2 : Int32)) (u_a (ix (6 : Int32)))) ((s_M_areaStart ((u_r 1) &&& (31 : Int32))) + (3 : Int32)) (u_a (ix (7 : Int32)))) g_R_keep_M_write_57 nv_M_write ⟨⟨rfl, rfl⟩, Nat.le_of_ble_eq_true rfl, Nat.le_of_ble_eq_true rfl⟩ hK [0] rfl hP hD hS hA [3, 4] [0, 1, 2] [0, 1, 2, 3, 4] rfl rfl rfl rfl (by decide) rfl rfl 3 0 rfl rfl rfl rfl hl.1 (Nat.le_of_ble_eq_true rfl) d_R_keep_122 ⟨Nat.zero_le _, Nat.zero_le _⟩ (fun H locs hP hD hS => ?_)
    refine lv_iload_n hx hb d_R_keep_125 rfl (lv_at hl 4 rfl) ?_
    refine lv_if_eq (tgt := 133) hx hb d_R_keep_126 (by decide) (fun hh => absurd hh (by decide)) (fun _ => ?_)
    refine lv_iconst (v := (4 : Int32)) hx hb d_R_keep_129 (by decide) ?_
    refine lv_goto (tgt := 134) hx hb d_R_keep_130 (by decide) ?_
    refine lv_istore (lv' := [(5, .int (4 : Int32)), (4, .int (s_M_areaStart ((u_r 1) &&& (31 : Int32)))), (3, .int ((u_r 1) &&& (31 : Int32))), (0, .ref xR), (1, .ref xM), (2, .int (1 : Int32))]) hx hb d_R_keep_134 hl (by decide) rfl (fun ls hl => ?_)
    refine lv_iconst (v := (0 : Int32)) hx hb d_R_keep_136 (by decide) ?_
    refine lv_istore (lv' := [(6, .int (0 : Int32)), (5, .int (4 : Int32)), (4, .int (s_M_areaStart ((u_r 1) &&& (31 : Int32)))), (3, .int ((u_r 1) &&& (31 : Int32))), (0, .ref xR), (1, .ref xM), (2, .int (1 : Int32))]) hx hb d_R_keep_137 hl (by decide) rfl (fun ls hl => ?_)
    refine lv_iload hx hb d_R_keep_139 (lv_at hl 0 rfl) ?_
    refine lv_iconst (v := (4 : Int32)) hx hb d_R_keep_141 (by decide) ?_
    refine lv_icmp_ge (tgt := 172) hx hb d_R_keep_142 (by decide) (fun hh => absurd hh (by decide)) (fun _ => ?_)
    refine lv_aload_n hx hb d_R_keep_145 rfl (lv_at hl 5 rfl) ?_
    refine lv_iload hx hb d_R_keep_146 (lv_at hl 2 rfl) ?_
    refine lv_iconst (v := (4 : Int32)) hx hb d_R_keep_148 (by decide) ?_
    refine lv_iadd hx hb d_R_keep_149 ?_
    refine lv_iload hx hb d_R_keep_150 (lv_at hl 0 rfl) ?_
    refine lv_iadd hx hb d_R_keep_152 ?_
    refine lv_aload_n hx hb d_R_keep_153 rfl (lv_at hl 4 rfl) ?_
    refine zz_get (C := R_R) (T := F_R) (N := 12) (v := .ref xD) hx hb hts in_R hown hK hP 0 rfl rfl 0 (by decide) mw_10 rfl d_R_keep_154 ?_
    refine lv_iload hx hb d_R_keep_157 (lv_at hl 1 rfl) ?_
    refine lv_iload hx hb d_R_keep_159 (lv_at hl 0 rfl) ?_
    refine lv_iadd hx hb d_R_keep_161 ?_
    refine lv_topi (fun zz ez => ?_)
    obtain rfl : zz = (4 : Int32) := ez.trans (by decide)
    show W p l e _ s m args below meth c _ _ _ _ Q (F0 m 162 ls _)
    refine va_iald hx hb hK hP 1 0 rfl rfl (zz_inc (by decide)) d_R_keep_162 ?_
    refine zz_cVv (rest := []) (wr := [oR xR xD xA (upd u_r 1 (s_M_read u_M (s_M_areaStart ((u_r 1) &&& (31 : Int32))))), ar cI xD 8 u_d, ar cI xA 8 u_a]) (w' := [oR xR xD xA (upd u_r 1 (s_M_read u_M (s_M_areaStart ((u_r 1) &&& (31 : Int32))))), ar cI xD 8 u_d, ar cI xA 8 u_a, oM xM xW, ar cI xW 512 (s_M_write (s_M_write (s_M_write (s_M_write (s_M_write u_M (s_M_areaStart ((u_r 1) &&& (31 : Int32))) (u_r 3)) ((s_M_areaStart ((u_r 1) &&& (31 : Int32))) + (1 : Int32)) (s_R_state (upd u_r 1 (s_M_read u_M (s_M_areaStart ((u_r 1) &&& (31 : Int32))))) u_d u_a)) ((s_M_areaStart ((u_r 1) &&& (31 : Int32))) + (2 : Int32)) (u_a (ix (6 : Int32)))) ((s_M_areaStart ((u_r 1) &&& (31 : Int32))) + (3 : Int32)) (u_a (ix (7 : Int32)))) (((s_M_areaStart ((u_r 1) &&& (31 : Int32))) + (4 : Int32)) + (0 : Int32)) (u_d (ix (4 : Int32))))]) ⟨hx, hb, hml, hown, hts⟩ (k_M_write l D cI _ xM xW (s_M_write (s_M_write (s_M_write (s_M_write u_M (s_M_areaStart ((u_r 1) &&& (31 : Int32))) (u_r 3)) ((s_M_areaStart ((u_r 1) &&& (31 : Int32))) + (1 : Int32)) (s_R_state (upd u_r 1 (s_M_read u_M (s_M_areaStart ((u_r 1) &&& (31 : Int32))))) u_d u_a)) ((s_M_areaStart ((u_r 1) &&& (31 : Int32))) + (2 : Int32)) (u_a (ix (6 : Int32)))) ((s_M_areaStart ((u_r 1) &&& (31 : Int32))) + (3 : Int32)) (u_a (ix (7 : Int32)))) (((s_M_areaStart ((u_r 1) &&& (31 : Int32))) + (4 : Int32)) + (0 : Int32)) (u_d (ix (4 : Int32)))) g_R_keep_M_write_57 nv_M_write ⟨⟨rfl, rfl⟩, Nat.le_of_ble_eq_true rfl, Nat.le_of_ble_eq_true rfl⟩ hK [0] rfl hP hD hS hA [3, 4] [0, 1, 2] [0, 1, 2, 3, 4] rfl rfl rfl rfl (by decide) rfl rfl 3 0 rfl rfl rfl rfl hl.1 (Nat.le_of_ble_eq_true rfl) d_R_keep_163 ⟨Nat.zero_le _, Nat.zero_le _⟩ (fun H locs hP hD hS => ?_)
    refine lv_iinc (v := (1 : Int32)) (lv' := [(6, .int (1 : Int32)), (5, .int (4 : Int32)), (4, .int (s_M_areaStart ((u_r 1) &&& (31 : Int32)))), (3, .int ((u_r 1) &&& (31 : Int32))), (0, .ref xR), (1, .ref xM), (2, .int (1 : Int32))]) (k := 0) hx hb d_R_keep_166 hl rfl (by decide) (by decide) rfl (fun ls hl => ?_)
    refine lv_goto (tgt := 139) hx hb d_R_keep_169 (by decide) ?_
    refine lv_iload hx hb d_R_keep_139 (lv_at hl 0 rfl) ?_
    refine lv_iconst (v := (4 : Int32)) hx hb d_R_keep_141 (by decide) ?_
    refine lv_icmp_ge (tgt := 172) hx hb d_R_keep_142 (by decide) (fun hh => absurd hh (by decide)) (fun _ => ?_)
    refine lv_aload_n hx hb d_R_keep_145 rfl (lv_at hl 5 rfl) ?_
    refine lv_iload hx hb d_R_keep_146 (lv_at hl 2 rfl) ?_
    refine lv_iconst (v := (4 : Int32)) hx hb d_R_keep_148 (by decide) ?_
    refine lv_iadd hx hb d_R_keep_149 ?_
    refine lv_iload hx hb d_R_keep_150 (lv_at hl 0 rfl) ?_
    refine lv_iadd hx hb d_R_keep_152 ?_
    refine lv_aload_n hx hb d_R_keep_153 rfl (lv_at hl 4 rfl) ?_
    refine zz_get (C := R_R) (T := F_R) (N := 12) (v := .ref xD) hx hb hts in_R hown hK hP 0 rfl rfl 0 (by decide) mw_10 rfl d_R_keep_154 ?_
    refine lv_iload hx hb d_R_keep_157 (lv_at hl 1 rfl) ?_
    refine lv_iload hx hb d_R_keep_159 (lv_at hl 0 rfl) ?_
    refine lv_iadd hx hb d_R_keep_161 ?_
    refine lv_topi (fun zz ez => ?_)
    obtain rfl : zz = (5 : Int32) := ez.trans (by decide)
    show W p l e _ s m args below meth c _ _ _ _ Q (F0 m 162 ls _)
    refine va_iald hx hb hK hP 1 0 rfl rfl (zz_inc (by decide)) d_R_keep_162 ?_
    refine zz_cVv (rest := []) (wr := [oR xR xD xA (upd u_r 1 (s_M_read u_M (s_M_areaStart ((u_r 1) &&& (31 : Int32))))), ar cI xD 8 u_d, ar cI xA 8 u_a]) (w' := [oR xR xD xA (upd u_r 1 (s_M_read u_M (s_M_areaStart ((u_r 1) &&& (31 : Int32))))), ar cI xD 8 u_d, ar cI xA 8 u_a, oM xM xW, ar cI xW 512 (s_M_write (s_M_write (s_M_write (s_M_write (s_M_write (s_M_write u_M (s_M_areaStart ((u_r 1) &&& (31 : Int32))) (u_r 3)) ((s_M_areaStart ((u_r 1) &&& (31 : Int32))) + (1 : Int32)) (s_R_state (upd u_r 1 (s_M_read u_M (s_M_areaStart ((u_r 1) &&& (31 : Int32))))) u_d u_a)) ((s_M_areaStart ((u_r 1) &&& (31 : Int32))) + (2 : Int32)) (u_a (ix (6 : Int32)))) ((s_M_areaStart ((u_r 1) &&& (31 : Int32))) + (3 : Int32)) (u_a (ix (7 : Int32)))) (((s_M_areaStart ((u_r 1) &&& (31 : Int32))) + (4 : Int32)) + (0 : Int32)) (u_d (ix (4 : Int32)))) (((s_M_areaStart ((u_r 1) &&& (31 : Int32))) + (4 : Int32)) + (1 : Int32)) (u_d (ix (5 : Int32))))]) ⟨hx, hb, hml, hown, hts⟩ (k_M_write l D cI _ xM xW (s_M_write (s_M_write (s_M_write (s_M_write (s_M_write u_M (s_M_areaStart ((u_r 1) &&& (31 : Int32))) (u_r 3)) ((s_M_areaStart ((u_r 1) &&& (31 : Int32))) + (1 : Int32)) (s_R_state (upd u_r 1 (s_M_read u_M (s_M_areaStart ((u_r 1) &&& (31 : Int32))))) u_d u_a)) ((s_M_areaStart ((u_r 1) &&& (31 : Int32))) + (2 : Int32)) (u_a (ix (6 : Int32)))) ((s_M_areaStart ((u_r 1) &&& (31 : Int32))) + (3 : Int32)) (u_a (ix (7 : Int32)))) (((s_M_areaStart ((u_r 1) &&& (31 : Int32))) + (4 : Int32)) + (0 : Int32)) (u_d (ix (4 : Int32)))) (((s_M_areaStart ((u_r 1) &&& (31 : Int32))) + (4 : Int32)) + (1 : Int32)) (u_d (ix (5 : Int32)))) g_R_keep_M_write_57 nv_M_write ⟨⟨rfl, rfl⟩, Nat.le_of_ble_eq_true rfl, Nat.le_of_ble_eq_true rfl⟩ hK [0] rfl hP hD hS hA [3, 4] [0, 1, 2] [0, 1, 2, 3, 4] rfl rfl rfl rfl (by decide) rfl rfl 3 0 rfl rfl rfl rfl hl.1 (Nat.le_of_ble_eq_true rfl) d_R_keep_163 ⟨Nat.zero_le _, Nat.zero_le _⟩ (fun H locs hP hD hS => ?_)
    refine lv_iinc (v := (2 : Int32)) (lv' := [(6, .int (2 : Int32)), (5, .int (4 : Int32)), (4, .int (s_M_areaStart ((u_r 1) &&& (31 : Int32)))), (3, .int ((u_r 1) &&& (31 : Int32))), (0, .ref xR), (1, .ref xM), (2, .int (1 : Int32))]) (k := 0) hx hb d_R_keep_166 hl rfl (by decide) (by decide) rfl (fun ls hl => ?_)
    refine lv_goto (tgt := 139) hx hb d_R_keep_169 (by decide) ?_
    refine lv_iload hx hb d_R_keep_139 (lv_at hl 0 rfl) ?_
    refine lv_iconst (v := (4 : Int32)) hx hb d_R_keep_141 (by decide) ?_
    refine lv_icmp_ge (tgt := 172) hx hb d_R_keep_142 (by decide) (fun hh => absurd hh (by decide)) (fun _ => ?_)
    refine lv_aload_n hx hb d_R_keep_145 rfl (lv_at hl 5 rfl) ?_
    refine lv_iload hx hb d_R_keep_146 (lv_at hl 2 rfl) ?_
    refine lv_iconst (v := (4 : Int32)) hx hb d_R_keep_148 (by decide) ?_
    refine lv_iadd hx hb d_R_keep_149 ?_
    refine lv_iload hx hb d_R_keep_150 (lv_at hl 0 rfl) ?_
    refine lv_iadd hx hb d_R_keep_152 ?_
    refine lv_aload_n hx hb d_R_keep_153 rfl (lv_at hl 4 rfl) ?_
    refine zz_get (C := R_R) (T := F_R) (N := 12) (v := .ref xD) hx hb hts in_R hown hK hP 0 rfl rfl 0 (by decide) mw_10 rfl d_R_keep_154 ?_
    refine lv_iload hx hb d_R_keep_157 (lv_at hl 1 rfl) ?_
    refine lv_iload hx hb d_R_keep_159 (lv_at hl 0 rfl) ?_
    refine lv_iadd hx hb d_R_keep_161 ?_
    refine lv_topi (fun zz ez => ?_)
    obtain rfl : zz = (6 : Int32) := ez.trans (by decide)
    show W p l e _ s m args below meth c _ _ _ _ Q (F0 m 162 ls _)
    refine va_iald hx hb hK hP 1 0 rfl rfl (zz_inc (by decide)) d_R_keep_162 ?_
    refine zz_cVv (rest := []) (wr := [oR xR xD xA (upd u_r 1 (s_M_read u_M (s_M_areaStart ((u_r 1) &&& (31 : Int32))))), ar cI xD 8 u_d, ar cI xA 8 u_a]) (w' := [oR xR xD xA (upd u_r 1 (s_M_read u_M (s_M_areaStart ((u_r 1) &&& (31 : Int32))))), ar cI xD 8 u_d, ar cI xA 8 u_a, oM xM xW, ar cI xW 512 (s_M_write (s_M_write (s_M_write (s_M_write (s_M_write (s_M_write (s_M_write u_M (s_M_areaStart ((u_r 1) &&& (31 : Int32))) (u_r 3)) ((s_M_areaStart ((u_r 1) &&& (31 : Int32))) + (1 : Int32)) (s_R_state (upd u_r 1 (s_M_read u_M (s_M_areaStart ((u_r 1) &&& (31 : Int32))))) u_d u_a)) ((s_M_areaStart ((u_r 1) &&& (31 : Int32))) + (2 : Int32)) (u_a (ix (6 : Int32)))) ((s_M_areaStart ((u_r 1) &&& (31 : Int32))) + (3 : Int32)) (u_a (ix (7 : Int32)))) (((s_M_areaStart ((u_r 1) &&& (31 : Int32))) + (4 : Int32)) + (0 : Int32)) (u_d (ix (4 : Int32)))) (((s_M_areaStart ((u_r 1) &&& (31 : Int32))) + (4 : Int32)) + (1 : Int32)) (u_d (ix (5 : Int32)))) (((s_M_areaStart ((u_r 1) &&& (31 : Int32))) + (4 : Int32)) + (2 : Int32)) (u_d (ix (6 : Int32))))]) ⟨hx, hb, hml, hown, hts⟩ (k_M_write l D cI _ xM xW (s_M_write (s_M_write (s_M_write (s_M_write (s_M_write (s_M_write u_M (s_M_areaStart ((u_r 1) &&& (31 : Int32))) (u_r 3)) ((s_M_areaStart ((u_r 1) &&& (31 : Int32))) + (1 : Int32)) (s_R_state (upd u_r 1 (s_M_read u_M (s_M_areaStart ((u_r 1) &&& (31 : Int32))))) u_d u_a)) ((s_M_areaStart ((u_r 1) &&& (31 : Int32))) + (2 : Int32)) (u_a (ix (6 : Int32)))) ((s_M_areaStart ((u_r 1) &&& (31 : Int32))) + (3 : Int32)) (u_a (ix (7 : Int32)))) (((s_M_areaStart ((u_r 1) &&& (31 : Int32))) + (4 : Int32)) + (0 : Int32)) (u_d (ix (4 : Int32)))) (((s_M_areaStart ((u_r 1) &&& (31 : Int32))) + (4 : Int32)) + (1 : Int32)) (u_d (ix (5 : Int32)))) (((s_M_areaStart ((u_r 1) &&& (31 : Int32))) + (4 : Int32)) + (2 : Int32)) (u_d (ix (6 : Int32)))) g_R_keep_M_write_57 nv_M_write ⟨⟨rfl, rfl⟩, Nat.le_of_ble_eq_true rfl, Nat.le_of_ble_eq_true rfl⟩ hK [0] rfl hP hD hS hA [3, 4] [0, 1, 2] [0, 1, 2, 3, 4] rfl rfl rfl rfl (by decide) rfl rfl 3 0 rfl rfl rfl rfl hl.1 (Nat.le_of_ble_eq_true rfl) d_R_keep_163 ⟨Nat.zero_le _, Nat.zero_le _⟩ (fun H locs hP hD hS => ?_)
    refine lv_iinc (v := (3 : Int32)) (lv' := [(6, .int (3 : Int32)), (5, .int (4 : Int32)), (4, .int (s_M_areaStart ((u_r 1) &&& (31 : Int32)))), (3, .int ((u_r 1) &&& (31 : Int32))), (0, .ref xR), (1, .ref xM), (2, .int (1 : Int32))]) (k := 0) hx hb d_R_keep_166 hl rfl (by decide) (by decide) rfl (fun ls hl => ?_)
    refine lv_goto (tgt := 139) hx hb d_R_keep_169 (by decide) ?_
    refine lv_iload hx hb d_R_keep_139 (lv_at hl 0 rfl) ?_
    refine lv_iconst (v := (4 : Int32)) hx hb d_R_keep_141 (by decide) ?_
    refine lv_icmp_ge (tgt := 172) hx hb d_R_keep_142 (by decide) (fun hh => absurd hh (by decide)) (fun _ => ?_)
    refine lv_aload_n hx hb d_R_keep_145 rfl (lv_at hl 5 rfl) ?_
    refine lv_iload hx hb d_R_keep_146 (lv_at hl 2 rfl) ?_
    refine lv_iconst (v := (4 : Int32)) hx hb d_R_keep_148 (by decide) ?_
    refine lv_iadd hx hb d_R_keep_149 ?_
    refine lv_iload hx hb d_R_keep_150 (lv_at hl 0 rfl) ?_
    refine lv_iadd hx hb d_R_keep_152 ?_
    refine lv_aload_n hx hb d_R_keep_153 rfl (lv_at hl 4 rfl) ?_
    refine zz_get (C := R_R) (T := F_R) (N := 12) (v := .ref xD) hx hb hts in_R hown hK hP 0 rfl rfl 0 (by decide) mw_10 rfl d_R_keep_154 ?_
    refine lv_iload hx hb d_R_keep_157 (lv_at hl 1 rfl) ?_
    refine lv_iload hx hb d_R_keep_159 (lv_at hl 0 rfl) ?_
    refine lv_iadd hx hb d_R_keep_161 ?_
    refine lv_topi (fun zz ez => ?_)
    obtain rfl : zz = (7 : Int32) := ez.trans (by decide)
    show W p l e _ s m args below meth c _ _ _ _ Q (F0 m 162 ls _)
    refine va_iald hx hb hK hP 1 0 rfl rfl (zz_inc (by decide)) d_R_keep_162 ?_
    refine zz_cVv (rest := []) (wr := [oR xR xD xA (upd u_r 1 (s_M_read u_M (s_M_areaStart ((u_r 1) &&& (31 : Int32))))), ar cI xD 8 u_d, ar cI xA 8 u_a]) (w' := [oR xR xD xA (upd u_r 1 (s_M_read u_M (s_M_areaStart ((u_r 1) &&& (31 : Int32))))), ar cI xD 8 u_d, ar cI xA 8 u_a, oM xM xW, ar cI xW 512 (s_M_write (s_M_write (s_M_write (s_M_write (s_M_write (s_M_write (s_M_write (s_M_write u_M (s_M_areaStart ((u_r 1) &&& (31 : Int32))) (u_r 3)) ((s_M_areaStart ((u_r 1) &&& (31 : Int32))) + (1 : Int32)) (s_R_state (upd u_r 1 (s_M_read u_M (s_M_areaStart ((u_r 1) &&& (31 : Int32))))) u_d u_a)) ((s_M_areaStart ((u_r 1) &&& (31 : Int32))) + (2 : Int32)) (u_a (ix (6 : Int32)))) ((s_M_areaStart ((u_r 1) &&& (31 : Int32))) + (3 : Int32)) (u_a (ix (7 : Int32)))) (((s_M_areaStart ((u_r 1) &&& (31 : Int32))) + (4 : Int32)) + (0 : Int32)) (u_d (ix (4 : Int32)))) (((s_M_areaStart ((u_r 1) &&& (31 : Int32))) + (4 : Int32)) + (1 : Int32)) (u_d (ix (5 : Int32)))) (((s_M_areaStart ((u_r 1) &&& (31 : Int32))) + (4 : Int32)) + (2 : Int32)) (u_d (ix (6 : Int32)))) (((s_M_areaStart ((u_r 1) &&& (31 : Int32))) + (4 : Int32)) + (3 : Int32)) (u_d (ix (7 : Int32))))]) ⟨hx, hb, hml, hown, hts⟩ (k_M_write l D cI _ xM xW (s_M_write (s_M_write (s_M_write (s_M_write (s_M_write (s_M_write (s_M_write u_M (s_M_areaStart ((u_r 1) &&& (31 : Int32))) (u_r 3)) ((s_M_areaStart ((u_r 1) &&& (31 : Int32))) + (1 : Int32)) (s_R_state (upd u_r 1 (s_M_read u_M (s_M_areaStart ((u_r 1) &&& (31 : Int32))))) u_d u_a)) ((s_M_areaStart ((u_r 1) &&& (31 : Int32))) + (2 : Int32)) (u_a (ix (6 : Int32)))) ((s_M_areaStart ((u_r 1) &&& (31 : Int32))) + (3 : Int32)) (u_a (ix (7 : Int32)))) (((s_M_areaStart ((u_r 1) &&& (31 : Int32))) + (4 : Int32)) + (0 : Int32)) (u_d (ix (4 : Int32)))) (((s_M_areaStart ((u_r 1) &&& (31 : Int32))) + (4 : Int32)) + (1 : Int32)) (u_d (ix (5 : Int32)))) (((s_M_areaStart ((u_r 1) &&& (31 : Int32))) + (4 : Int32)) + (2 : Int32)) (u_d (ix (6 : Int32)))) (((s_M_areaStart ((u_r 1) &&& (31 : Int32))) + (4 : Int32)) + (3 : Int32)) (u_d (ix (7 : Int32)))) g_R_keep_M_write_57 nv_M_write ⟨⟨rfl, rfl⟩, Nat.le_of_ble_eq_true rfl, Nat.le_of_ble_eq_true rfl⟩ hK [0] rfl hP hD hS hA [3, 4] [0, 1, 2] [0, 1, 2, 3, 4] rfl rfl rfl rfl (by decide) rfl rfl 3 0 rfl rfl rfl rfl hl.1 (Nat.le_of_ble_eq_true rfl) d_R_keep_163 ⟨Nat.zero_le _, Nat.zero_le _⟩ (fun H locs hP hD hS => ?_)
    refine lv_iinc (v := (4 : Int32)) (lv' := [(6, .int (4 : Int32)), (5, .int (4 : Int32)), (4, .int (s_M_areaStart ((u_r 1) &&& (31 : Int32)))), (3, .int ((u_r 1) &&& (31 : Int32))), (0, .ref xR), (1, .ref xM), (2, .int (1 : Int32))]) (k := 0) hx hb d_R_keep_166 hl rfl (by decide) (by decide) rfl (fun ls hl => ?_)
    refine lv_goto (tgt := 139) hx hb d_R_keep_169 (by decide) ?_
    refine lv_iload hx hb d_R_keep_139 (lv_at hl 0 rfl) ?_
    refine lv_iconst (v := (4 : Int32)) hx hb d_R_keep_141 (by decide) ?_
    refine lv_icmp_ge (tgt := 172) hx hb d_R_keep_142 (by decide) (fun _ => ?_) (fun hh => absurd hh (by decide))
    refine lv_aload_n hx hb d_R_keep_172 rfl (lv_at hl 4 rfl) ?_
    refine lv_iload_n hx hb d_R_keep_173 rfl (lv_at hl 3 rfl) ?_
    refine lv_iload_n hx hb d_R_keep_174 rfl (lv_at hl 6 rfl) ?_
    refine lv_if_eq (tgt := 183) hx hb d_R_keep_175 (by decide) (fun hh => absurd hh (by decide)) (fun _ => ?_)
    refine lv_bipush (v := (32 : Int32)) hx hb d_R_keep_178 (by decide) ?_
    refine lv_goto (tgt := 184) hx hb d_R_keep_180 (by decide) ?_
    refine lv_iadd hx hb d_R_keep_184 ?_
    refine lv_sipush (v := (256 : Int32)) hx hb d_R_keep_185 (by decide) ?_
    refine lv_aload_n hx hb d_R_keep_188 rfl (lv_at hl 4 rfl) ?_
    refine zz_get (C := R_R) (T := F_R) (N := 12) (v := .int (u_r 7)) hx hb hts in_R hown hK hP 0 rfl rfl 9 (by decide) mw_5 rfl d_R_keep_189 ?_
    refine lv_imul hx hb d_R_keep_192 ?_
    refine lv_iadd hx hb d_R_keep_193 ?_
    refine lv_aload_n hx hb d_R_keep_194 rfl (lv_at hl 4 rfl) ?_
    refine zz_get (C := R_R) (T := F_R) (N := 12) (v := .int (u_r 8)) hx hb hts in_R hown hK hP 0 rfl rfl 10 (by decide) mw_6 rfl d_R_keep_195 ?_
    have J198_2 : ∀ (vj198_0 : Int32) (ls : Array Slot) (H : Heap) (locs : List Loc), vj198_0 = (if (u_r 8) = 0 then (0 : Int32) else (4096 : Int32)) → lv_has ls 7 [(6, .int (4 : Int32)), (5, .int (4 : Int32)), (4, .int (s_M_areaStart ((u_r 1) &&& (31 : Int32)))), (3, .int ((u_r 1) &&& (31 : Int32))), (0, .ref xR), (1, .ref xM), (2, .int (1 : Int32))] → va_P D classes [oR xR xD xA (upd u_r 1 (s_M_read u_M (s_M_areaStart ((u_r 1) &&& (31 : Int32))))), ar cI xD 8 u_d, ar cI xA 8 u_a, oM xM xW, ar cI xW 512 (s_M_write (s_M_write (s_M_write (s_M_write (s_M_write (s_M_write (s_M_write (s_M_write u_M (s_M_areaStart ((u_r 1) &&& (31 : Int32))) (u_r 3)) ((s_M_areaStart ((u_r 1) &&& (31 : Int32))) + (1 : Int32)) (s_R_state (upd u_r 1 (s_M_read u_M (s_M_areaStart ((u_r 1) &&& (31 : Int32))))) u_d u_a)) ((s_M_areaStart ((u_r 1) &&& (31 : Int32))) + (2 : Int32)) (u_a (ix (6 : Int32)))) ((s_M_areaStart ((u_r 1) &&& (31 : Int32))) + (3 : Int32)) (u_a (ix (7 : Int32)))) (((s_M_areaStart ((u_r 1) &&& (31 : Int32))) + (4 : Int32)) + (0 : Int32)) (u_d (ix (4 : Int32)))) (((s_M_areaStart ((u_r 1) &&& (31 : Int32))) + (4 : Int32)) + (1 : Int32)) (u_d (ix (5 : Int32)))) (((s_M_areaStart ((u_r 1) &&& (31 : Int32))) + (4 : Int32)) + (2 : Int32)) (u_d (ix (6 : Int32)))) (((s_M_areaStart ((u_r 1) &&& (31 : Int32))) + (4 : Int32)) + (3 : Int32)) (u_d (ix (7 : Int32))))] H → va_D A [oR xR xD xA (upd u_r 1 (s_M_read u_M (s_M_areaStart ((u_r 1) &&& (31 : Int32))))), ar cI xD 8 u_d, ar cI xA 8 u_a, oM xM xW, ar cI xW 512 (s_M_write (s_M_write (s_M_write (s_M_write (s_M_write (s_M_write (s_M_write (s_M_write u_M (s_M_areaStart ((u_r 1) &&& (31 : Int32))) (u_r 3)) ((s_M_areaStart ((u_r 1) &&& (31 : Int32))) + (1 : Int32)) (s_R_state (upd u_r 1 (s_M_read u_M (s_M_areaStart ((u_r 1) &&& (31 : Int32))))) u_d u_a)) ((s_M_areaStart ((u_r 1) &&& (31 : Int32))) + (2 : Int32)) (u_a (ix (6 : Int32)))) ((s_M_areaStart ((u_r 1) &&& (31 : Int32))) + (3 : Int32)) (u_a (ix (7 : Int32)))) (((s_M_areaStart ((u_r 1) &&& (31 : Int32))) + (4 : Int32)) + (0 : Int32)) (u_d (ix (4 : Int32)))) (((s_M_areaStart ((u_r 1) &&& (31 : Int32))) + (4 : Int32)) + (1 : Int32)) (u_d (ix (5 : Int32)))) (((s_M_areaStart ((u_r 1) &&& (31 : Int32))) + (4 : Int32)) + (2 : Int32)) (u_d (ix (6 : Int32)))) (((s_M_areaStart ((u_r 1) &&& (31 : Int32))) + (4 : Int32)) + (3 : Int32)) (u_d (ix (7 : Int32))))] → va_S A s.heap H locs → W p l e { frames := 2, cells := 0, slots := 0, locals := 42 } s m args below meth c H locs 0 0 Q (F0 m 208 ls [.int vj198_0, .int ((((u_r 1) &&& (31 : Int32)) + (32 : Int32)) + ((256 : Int32) * (u_r 7))), .ref xR]) := by
      intro vj198_0 ls H locs evj198_0 hl hP hD hS
      subst evj198_0
      refine lv_iadd hx hb d_R_keep_208 ?_
      refine zz_put (C := R_R) (T := F_R) (N := 12) (w' := [oR xR xD xA (upd (upd u_r 1 (s_M_read u_M (s_M_areaStart ((u_r 1) &&& (31 : Int32))))) 3 (((((u_r 1) &&& (31 : Int32)) + (32 : Int32)) + ((256 : Int32) * (u_r 7))) + (if (u_r 8) = 0 then (0 : Int32) else (4096 : Int32)))), ar cI xD 8 u_d, ar cI xA 8 u_a, oM xM xW, ar cI xW 512 (s_M_write (s_M_write (s_M_write (s_M_write (s_M_write (s_M_write (s_M_write (s_M_write u_M (s_M_areaStart ((u_r 1) &&& (31 : Int32))) (u_r 3)) ((s_M_areaStart ((u_r 1) &&& (31 : Int32))) + (1 : Int32)) (s_R_state (upd u_r 1 (s_M_read u_M (s_M_areaStart ((u_r 1) &&& (31 : Int32))))) u_d u_a)) ((s_M_areaStart ((u_r 1) &&& (31 : Int32))) + (2 : Int32)) (u_a (ix (6 : Int32)))) ((s_M_areaStart ((u_r 1) &&& (31 : Int32))) + (3 : Int32)) (u_a (ix (7 : Int32)))) (((s_M_areaStart ((u_r 1) &&& (31 : Int32))) + (4 : Int32)) + (0 : Int32)) (u_d (ix (4 : Int32)))) (((s_M_areaStart ((u_r 1) &&& (31 : Int32))) + (4 : Int32)) + (1 : Int32)) (u_d (ix (5 : Int32)))) (((s_M_areaStart ((u_r 1) &&& (31 : Int32))) + (4 : Int32)) + (2 : Int32)) (u_d (ix (6 : Int32)))) (((s_M_areaStart ((u_r 1) &&& (31 : Int32))) + (4 : Int32)) + (3 : Int32)) (u_d (ix (7 : Int32))))]) hx hb hts in_R ty_R ty_R_ok n_R hown hK hP hD hS 0 rfl rfl 5 (by decide) mw_9 rfl rfl rfl (Nat.le_of_ble_eq_true rfl) d_R_keep_209 rfl (fun H locs hP hD hS => ?_)
      refine lv_aload_n hx hb d_R_keep_212 rfl (lv_at hl 4 rfl) ?_
      refine zz_get (C := R_R) (T := F_R) (N := 12) (v := .int (s_M_read u_M (s_M_areaStart ((u_r 1) &&& (31 : Int32))))) hx hb hts in_R hown hK hP 0 rfl rfl 3 (by decide) mw_8 rfl d_R_keep_213 ?_
      refine lv_bipush (v := (31 : Int32)) hx hb d_R_keep_216 (by decide) ?_
      refine lv_iand hx hb d_R_keep_218 ?_
      refine lv_aload_n hx hb d_R_keep_219 rfl (lv_at hl 4 rfl) ?_
      refine zz_get (C := R_R) (T := F_R) (N := 12) (v := .int (u_r 2)) hx hb hts in_R hown hK hP 0 rfl rfl 4 (by decide) mw_11 rfl d_R_keep_220 ?_
      refine lv_icmp_ne (tgt := 231) hx hb d_R_keep_223 (by decide) (fun h3 => ?_) (fun h3 => ?_)
      ·
        refine lv_iconst (v := (1 : Int32)) hx hb d_R_keep_231 (by decide) ?_
        have hsp : s_R_keepU u_r u_d u_a u_M = ((1 : Int32), upd (upd u_r 1 (s_M_read u_M (s_M_areaStart ((u_r 1) &&& (31 : Int32))))) 3 (((((u_r 1) &&& (31 : Int32)) + (32 : Int32)) + ((256 : Int32) * (u_r 7))) + (if (u_r 8) = 0 then (0 : Int32) else (4096 : Int32))), (s_M_write (s_M_write (s_M_write (s_M_write (s_M_write (s_M_write (s_M_write (s_M_write u_M (s_M_areaStart ((u_r 1) &&& (31 : Int32))) (u_r 3)) ((s_M_areaStart ((u_r 1) &&& (31 : Int32))) + (1 : Int32)) (s_R_state (upd u_r 1 (s_M_read u_M (s_M_areaStart ((u_r 1) &&& (31 : Int32))))) u_d u_a)) ((s_M_areaStart ((u_r 1) &&& (31 : Int32))) + (2 : Int32)) (u_a (ix (6 : Int32)))) ((s_M_areaStart ((u_r 1) &&& (31 : Int32))) + (3 : Int32)) (u_a (ix (7 : Int32)))) (((s_M_areaStart ((u_r 1) &&& (31 : Int32))) + (4 : Int32)) + (0 : Int32)) (u_d (ix (4 : Int32)))) (((s_M_areaStart ((u_r 1) &&& (31 : Int32))) + (4 : Int32)) + (1 : Int32)) (u_d (ix (5 : Int32)))) (((s_M_areaStart ((u_r 1) &&& (31 : Int32))) + (4 : Int32)) + (2 : Int32)) (u_d (ix (6 : Int32)))) (((s_M_areaStart ((u_r 1) &&& (31 : Int32))) + (4 : Int32)) + (3 : Int32)) (u_d (ix (7 : Int32))))) := (by unfold s_R_keepU; rw [if_neg h1, if_neg h3])
        rw [hsp] at hE
        exact hE _ _ _ _ hP hD hS d_R_keep_232
      ·
        refine lv_aload_n hx hb d_R_keep_226 rfl (lv_at hl 4 rfl) ?_
        refine lv_iconst (v := (1 : Int32)) hx hb d_R_keep_227 (by decide) ?_
        refine zz_put (C := R_R) (T := F_R) (N := 12) (w' := [oR xR xD xA (upd (upd (upd u_r 1 (s_M_read u_M (s_M_areaStart ((u_r 1) &&& (31 : Int32))))) 3 (((((u_r 1) &&& (31 : Int32)) + (32 : Int32)) + ((256 : Int32) * (u_r 7))) + (if (u_r 8) = 0 then (0 : Int32) else (4096 : Int32)))) 9 (1 : Int32)), ar cI xD 8 u_d, ar cI xA 8 u_a, oM xM xW, ar cI xW 512 (s_M_write (s_M_write (s_M_write (s_M_write (s_M_write (s_M_write (s_M_write (s_M_write u_M (s_M_areaStart ((u_r 1) &&& (31 : Int32))) (u_r 3)) ((s_M_areaStart ((u_r 1) &&& (31 : Int32))) + (1 : Int32)) (s_R_state (upd u_r 1 (s_M_read u_M (s_M_areaStart ((u_r 1) &&& (31 : Int32))))) u_d u_a)) ((s_M_areaStart ((u_r 1) &&& (31 : Int32))) + (2 : Int32)) (u_a (ix (6 : Int32)))) ((s_M_areaStart ((u_r 1) &&& (31 : Int32))) + (3 : Int32)) (u_a (ix (7 : Int32)))) (((s_M_areaStart ((u_r 1) &&& (31 : Int32))) + (4 : Int32)) + (0 : Int32)) (u_d (ix (4 : Int32)))) (((s_M_areaStart ((u_r 1) &&& (31 : Int32))) + (4 : Int32)) + (1 : Int32)) (u_d (ix (5 : Int32)))) (((s_M_areaStart ((u_r 1) &&& (31 : Int32))) + (4 : Int32)) + (2 : Int32)) (u_d (ix (6 : Int32)))) (((s_M_areaStart ((u_r 1) &&& (31 : Int32))) + (4 : Int32)) + (3 : Int32)) (u_d (ix (7 : Int32))))]) hx hb hts in_R ty_R ty_R_ok n_R hown hK hP hD hS 0 rfl rfl 11 (by decide) mw_12 rfl rfl rfl (Nat.le_of_ble_eq_true rfl) d_R_keep_228 rfl (fun H locs hP hD hS => ?_)
        refine lv_iconst (v := (1 : Int32)) hx hb d_R_keep_231 (by decide) ?_
        have hsp : s_R_keepU u_r u_d u_a u_M = ((1 : Int32), upd (upd (upd u_r 1 (s_M_read u_M (s_M_areaStart ((u_r 1) &&& (31 : Int32))))) 3 (((((u_r 1) &&& (31 : Int32)) + (32 : Int32)) + ((256 : Int32) * (u_r 7))) + (if (u_r 8) = 0 then (0 : Int32) else (4096 : Int32)))) 9 (1 : Int32), (s_M_write (s_M_write (s_M_write (s_M_write (s_M_write (s_M_write (s_M_write (s_M_write u_M (s_M_areaStart ((u_r 1) &&& (31 : Int32))) (u_r 3)) ((s_M_areaStart ((u_r 1) &&& (31 : Int32))) + (1 : Int32)) (s_R_state (upd u_r 1 (s_M_read u_M (s_M_areaStart ((u_r 1) &&& (31 : Int32))))) u_d u_a)) ((s_M_areaStart ((u_r 1) &&& (31 : Int32))) + (2 : Int32)) (u_a (ix (6 : Int32)))) ((s_M_areaStart ((u_r 1) &&& (31 : Int32))) + (3 : Int32)) (u_a (ix (7 : Int32)))) (((s_M_areaStart ((u_r 1) &&& (31 : Int32))) + (4 : Int32)) + (0 : Int32)) (u_d (ix (4 : Int32)))) (((s_M_areaStart ((u_r 1) &&& (31 : Int32))) + (4 : Int32)) + (1 : Int32)) (u_d (ix (5 : Int32)))) (((s_M_areaStart ((u_r 1) &&& (31 : Int32))) + (4 : Int32)) + (2 : Int32)) (u_d (ix (6 : Int32)))) (((s_M_areaStart ((u_r 1) &&& (31 : Int32))) + (4 : Int32)) + (3 : Int32)) (u_d (ix (7 : Int32))))) := (by unfold s_R_keepU; rw [if_neg h1, if_pos h3])
        rw [hsp] at hE
        exact hE _ _ _ _ hP hD hS d_R_keep_232
    refine lv_if_eq (tgt := 207) hx hb d_R_keep_198 (by decide) (fun h2 => ?_) (fun h2 => ?_)
    ·
      refine lv_iconst (v := (0 : Int32)) hx hb d_R_keep_207 (by decide) ?_
      exact J198_2 (0 : Int32) _ _ _ (by rw [if_pos h2]) (lv_sub hl [0, 1, 2, 3, 4, 5, 6] rfl) hP hD hS
    ·
      refine lv_sipush (v := (4096 : Int32)) hx hb d_R_keep_201 (by decide) ?_
      refine lv_goto (tgt := 208) hx hb d_R_keep_204 (by decide) ?_
      exact J198_2 (4096 : Int32) _ _ _ (by rw [if_neg h2]) (lv_sub hl [0, 1, 2, 3, 4, 5, 6] rfl) hP hD hS
  ·
    refine lv_iconst (v := (0 : Int32)) hx hb d_R_keep_15 (by decide) ?_
    have hsp : s_R_keepU u_r u_d u_a u_M = ((0 : Int32), u_r, u_M) := (by unfold s_R_keepU; rw [if_pos h1])
    rw [hsp] at hE
    exact hE _ _ _ _ hP hD hS d_R_keep_16
set_option maxHeartbeats 4000000 in
set_option maxRecDepth 100000 in
theorem k_R_refuseBackU (l : Launch) (D : va_G) (cI : ClassId) (sz : Nat) (xR : Nat) (xD : Nat) (xA : Nat) (u_r : Nat → Int32) (u_d : Nat → Int32) (u_a : Nat → Int32) : zMi l y_R_refuseBack (.code y_R_refuseBack b_R_refuseBack 3 (some .int) :: wd) { frames := 1, cells := 0, slots := 0, locals := 20 } D classes [(cI, .int)] [.ref xR, .int (1 : Int32)] [oR xR xD xA u_r, ar cI xD 8 u_d, ar cI xA 8 u_a] [oR xR xD xA u_r, ar cI xD 8 u_d, ar cI xA 8 u_a] sz (s_R_refuseBackU u_r u_d u_a) := by
  refine met_i (by decide) (Nat.le_of_ble_eq_true rfl) rfl ?_
  intro p e s m args below meth c A Q ls hx hb hml hown hts hK hP hD hS hA hl hE
  have hl : lv_has ls 3 [(0, .ref xR), (1, .int (1 : Int32))] := hl
  have hown : s.vm.findClass R_R = some m.cls := hown
  refine lv_aload_n hx hb d_R_refuseBack_0 rfl (lv_at hl 0 rfl) ?_
  refine zz_get (C := R_R) (T := F_R) (N := 12) (v := .int (u_r 3)) hx hb hts in_R hown hK hP 0 rfl rfl 5 (by decide) mw_9 rfl d_R_refuseBack_1 ?_
  refine lv_bipush (v := (31 : Int32)) hx hb d_R_refuseBack_4 (by decide) ?_
  refine lv_iand hx hb d_R_refuseBack_6 ?_
  refine zz_cS0 (rest := []) ⟨hx, hb, hml, hown, hts⟩ (k_M_isArea l D cI _ ((u_r 3) &&& (31 : Int32))) g_R_refuseBack_M_isArea_41 nd_M_isArea ⟨⟨rfl, rfl⟩, Nat.le_of_ble_eq_true rfl, Nat.le_of_ble_eq_true rfl⟩ hK hP hD hS hA rfl rfl hl.1 (Nat.le_of_ble_eq_true rfl) d_R_refuseBack_7 ⟨Nat.zero_le _, Nat.zero_le _⟩ (fun H locs hP hD hS => ?_)
  refine lv_if_ne (tgt := 15) hx hb d_R_refuseBack_10 (by decide) (fun h1 => ?_) (fun h1 => ?_)
  ·
    refine lv_aload_n hx hb d_R_refuseBack_15 rfl (lv_at hl 0 rfl) ?_
    refine zz_get (C := R_R) (T := F_R) (N := 12) (v := .int (u_r 3)) hx hb hts in_R hown hK hP 0 rfl rfl 5 (by decide) mw_9 rfl d_R_refuseBack_16 ?_
    refine lv_bipush (v := (32 : Int32)) hx hb d_R_refuseBack_19 (by decide) ?_
    refine lv_iand hx hb d_R_refuseBack_21 ?_
    have J22_2 : ∀ (vj22_0 : Int32) (ls : Array Slot) (H : Heap) (locs : List Loc), vj22_0 = (if ((u_r 3) &&& (32 : Int32)) = 0 then (0 : Int32) else (1 : Int32)) → lv_has ls 3 [(0, .ref xR), (1, .int (1 : Int32))] → va_P D classes [oR xR xD xA u_r, ar cI xD 8 u_d, ar cI xA 8 u_a] H → va_D A [oR xR xD xA u_r, ar cI xD 8 u_d, ar cI xA 8 u_a] → va_S A s.heap H locs → W p l e { frames := 1, cells := 0, slots := 0, locals := 20 } s m args below meth c H locs 0 0 Q (F0 m 30 ls [.int vj22_0]) := by
      intro vj22_0 ls H locs evj22_0 hl hP hD hS
      subst evj22_0
      refine lv_istore_n (lv' := [(2, .int (if ((u_r 3) &&& (32 : Int32)) = 0 then (0 : Int32) else (1 : Int32))), (0, .ref xR), (1, .int (1 : Int32))]) hx hb d_R_refuseBack_30 rfl hl (by decide) rfl (fun ls hl => ?_)
      refine lv_iload_n hx hb d_R_refuseBack_31 rfl (lv_at hl 0 rfl) ?_
      refine lv_iload_n hx hb d_R_refuseBack_32 rfl (lv_at hl 2 rfl) ?_
      refine lv_icmp_ne (tgt := 40) hx hb d_R_refuseBack_33 (by decide) (fun h3 => ?_) (fun h3 => ?_)
      ·
        refine lv_sipush (v := (772 : Int32)) hx hb d_R_refuseBack_40 (by decide) ?_
        have hsp : s_R_refuseBackU u_r u_d u_a = (772 : Int32) := (by unfold s_R_refuseBackU; rw [if_neg h1, if_neg h3])
        rw [hsp] at hE
        exact hE _ _ _ _ hP hD hS d_R_refuseBack_43
      ·
        refine lv_iconst (v := (0 : Int32)) hx hb d_R_refuseBack_36 (by decide) ?_
        refine lv_goto (tgt := 43) hx hb d_R_refuseBack_37 (by decide) ?_
        have hsp : s_R_refuseBackU u_r u_d u_a = (0 : Int32) := (by unfold s_R_refuseBackU; rw [if_neg h1, if_pos h3])
        rw [hsp] at hE
        exact hE _ _ _ _ hP hD hS d_R_refuseBack_43
    refine lv_if_eq (tgt := 29) hx hb d_R_refuseBack_22 (by decide) (fun h2 => ?_) (fun h2 => ?_)
    ·
      refine lv_iconst (v := (0 : Int32)) hx hb d_R_refuseBack_29 (by decide) ?_
      exact J22_2 (0 : Int32) _ _ _ (by rw [if_pos h2]) (lv_sub hl [0, 1] rfl) hP hD hS
    ·
      refine lv_iconst (v := (1 : Int32)) hx hb d_R_refuseBack_25 (by decide) ?_
      refine lv_goto (tgt := 30) hx hb d_R_refuseBack_26 (by decide) ?_
      exact J22_2 (1 : Int32) _ _ _ (by rw [if_neg h2]) (lv_sub hl [0, 1] rfl) hP hD hS
  ·
    refine lv_iconst (v := (2 : Int32)) hx hb d_R_refuseBack_13 (by decide) ?_
    have hsp : s_R_refuseBackU u_r u_d u_a = (2 : Int32) := (by unfold s_R_refuseBackU; rw [if_pos h1])
    rw [hsp] at hE
    exact hE _ _ _ _ hP hD hS d_R_refuseBack_14
set_option maxHeartbeats 4000000 in
set_option maxRecDepth 100000 in
theorem k_R_bringBackU (l : Launch) (D : va_G) (cI : ClassId) (sz : Nat) (xR : Nat) (xD : Nat) (xA : Nat) (xM : Nat) (xW : Nat) (u_r : Nat → Int32) (u_d : Nat → Int32) (u_a : Nat → Int32) (u_M : Nat → Int32) : zMv l y_R_bringBack (.code y_R_bringBack b_R_bringBack 7 (none) :: wd) { frames := 2, cells := 0, slots := 0, locals := 42 } D classes [(cI, .int)] [.ref xR, .ref xM, .int (1 : Int32)] [oR xR xD xA u_r, ar cI xD 8 u_d, ar cI xA 8 u_a, oM xM xW, ar cI xW 512 u_M] [oR xR xD xA ((s_R_bringBackU u_r u_d u_a u_M).1), ar cI xD 8 ((s_R_bringBackU u_r u_d u_a u_M).2.1), ar cI xA 8 ((s_R_bringBackU u_r u_d u_a u_M).2.2.1), oM xM xW, ar cI xW 512 ((s_R_bringBackU u_r u_d u_a u_M).2.2.2)] sz := by
  refine met_v (by decide) (Nat.le_of_ble_eq_true rfl) ?_
  intro p e s m args below meth c A Q ls hx hb hml hown hts hK hP hD hS hA hl hE
  have hl : lv_has ls 7 [(0, .ref xR), (1, .ref xM), (2, .int (1 : Int32))] := hl
  have hown : s.vm.findClass R_R = some m.cls := hown
  refine lv_aload_n hx hb d_R_bringBack_0 rfl (lv_at hl 0 rfl) ?_
  refine zz_get (C := R_R) (T := F_R) (N := 12) (v := .int (u_r 3)) hx hb hts in_R hown hK hP 0 rfl rfl 5 (by decide) mw_9 rfl d_R_bringBack_1 ?_
  refine lv_bipush (v := (31 : Int32)) hx hb d_R_bringBack_4 (by decide) ?_
  refine lv_iand hx hb d_R_bringBack_6 ?_
  refine lv_istore_n (lv' := [(3, .int ((u_r 3) &&& (31 : Int32))), (0, .ref xR), (1, .ref xM), (2, .int (1 : Int32))]) hx hb d_R_bringBack_7 rfl hl (by decide) rfl (fun ls hl => ?_)
  refine lv_iload_n hx hb d_R_bringBack_8 rfl (lv_at hl 0 rfl) ?_
  refine zz_cS0 (rest := []) ⟨hx, hb, hml, hown, hts⟩ (k_M_areaStart l D cI _ ((u_r 3) &&& (31 : Int32))) g_R_bringBack_M_areaStart_47 nd_M_areaStart ⟨⟨rfl, rfl⟩, Nat.le_of_ble_eq_true rfl, Nat.le_of_ble_eq_true rfl⟩ hK hP hD hS hA rfl rfl hl.1 (Nat.le_of_ble_eq_true rfl) d_R_bringBack_9 ⟨Nat.zero_le _, Nat.zero_le _⟩ (fun H locs hP hD hS => ?_)
  refine lv_istore (lv' := [(4, .int (s_M_areaStart ((u_r 3) &&& (31 : Int32)))), (3, .int ((u_r 3) &&& (31 : Int32))), (0, .ref xR), (1, .ref xM), (2, .int (1 : Int32))]) hx hb d_R_bringBack_12 hl (by decide) rfl (fun ls hl => ?_)
  refine lv_aload_n hx hb d_R_bringBack_14 rfl (lv_at hl 2 rfl) ?_
  refine lv_aload_n hx hb d_R_bringBack_15 rfl (lv_at hl 3 rfl) ?_
  refine lv_iload hx hb d_R_bringBack_16 (lv_at hl 0 rfl) ?_
  show W p l e _ s m args below meth c _ _ _ _ Q (F0 m 18 ls _)
  refine zz_rVi (rest := [.ref xR]) ⟨hx, hb, hml, hown, hts⟩ (k_M_read l D cI _ xM xW u_M (s_M_areaStart ((u_r 3) &&& (31 : Int32)))) g_R_bringBack_M_read_51 nv_M_read ⟨⟨rfl, rfl⟩, Nat.le_of_ble_eq_true rfl, Nat.le_of_ble_eq_true rfl⟩ hK [0] rfl hP hD hS hA [3, 4] rfl rfl 3 0 rfl rfl rfl rfl hl.1 (Nat.le_of_ble_eq_true rfl) d_R_bringBack_18 ⟨Nat.zero_le _, Nat.zero_le _⟩ (fun H locs hP hD hS => ?_)
  refine zz_put (C := R_R) (T := F_R) (N := 12) (w' := [oR xR xD xA (upd u_r 3 (s_M_read u_M (s_M_areaStart ((u_r 3) &&& (31 : Int32))))), ar cI xD 8 u_d, ar cI xA 8 u_a, oM xM xW, ar cI xW 512 u_M]) hx hb hts in_R ty_R ty_R_ok n_R hown hK hP hD hS 0 rfl rfl 5 (by decide) mw_9 rfl rfl rfl (Nat.le_of_ble_eq_true rfl) d_R_bringBack_21 rfl (fun H locs hP hD hS => ?_)
  refine lv_iload_n hx hb d_R_bringBack_24 rfl (lv_at hl 4 rfl) ?_
  refine lv_if_eq (tgt := 73) hx hb d_R_bringBack_25 (by decide) (fun hh => absurd hh (by decide)) (fun _ => ?_)
  refine lv_aload_n hx hb d_R_bringBack_28 rfl (lv_at hl 2 rfl) ?_
  refine lv_aload_n hx hb d_R_bringBack_29 rfl (lv_at hl 3 rfl) ?_
  refine lv_iload hx hb d_R_bringBack_30 (lv_at hl 0 rfl) ?_
  refine lv_iconst (v := (1 : Int32)) hx hb d_R_bringBack_32 (by decide) ?_
  refine lv_iadd hx hb d_R_bringBack_33 ?_
  refine zz_rVi (rest := [.ref xR]) ⟨hx, hb, hml, hown, hts⟩ (k_M_read l D cI _ xM xW u_M ((s_M_areaStart ((u_r 3) &&& (31 : Int32))) + (1 : Int32))) g_R_bringBack_M_read_51 nv_M_read ⟨⟨rfl, rfl⟩, Nat.le_of_ble_eq_true rfl, Nat.le_of_ble_eq_true rfl⟩ hK [0] rfl hP hD hS hA [3, 4] rfl rfl 3 0 rfl rfl rfl rfl hl.1 (Nat.le_of_ble_eq_true rfl) d_R_bringBack_34 ⟨Nat.zero_le _, Nat.zero_le _⟩ (fun H locs hP hD hS => ?_)
  refine zz_cVv (rest := []) (wr := [oM xM xW, ar cI xW 512 u_M]) (w' := [oR xR xD xA (s_R_takeState (upd u_r 3 (s_M_read u_M (s_M_areaStart ((u_r 3) &&& (31 : Int32))))) u_d u_a (s_M_read u_M ((s_M_areaStart ((u_r 3) &&& (31 : Int32))) + (1 : Int32)))), ar cI xD 8 u_d, ar cI xA 8 u_a, oM xM xW, ar cI xW 512 u_M]) ⟨hx, hb, hml, hown, hts⟩ (k_R_takeState l D cI _ xR xD xA (upd u_r 3 (s_M_read u_M (s_M_areaStart ((u_r 3) &&& (31 : Int32))))) u_d u_a (s_M_read u_M ((s_M_areaStart ((u_r 3) &&& (31 : Int32))) + (1 : Int32)))) g_R_bringBack_R_takeState_71 nv_R_takeState ⟨⟨rfl, rfl⟩, Nat.le_of_ble_eq_true rfl, Nat.le_of_ble_eq_true rfl⟩ hK [0] rfl hP hD hS hA [0, 1, 2] [3, 4] [2, 3, 4, 0, 1] rfl rfl rfl rfl (by decide) rfl rfl 0 1 rfl rfl rfl rfl hl.1 (Nat.le_of_ble_eq_true rfl) d_R_bringBack_37 ⟨Nat.zero_le _, Nat.zero_le _⟩ (fun H locs hP hD hS => ?_)
  refine lv_aload_n hx hb d_R_bringBack_40 rfl (lv_at hl 2 rfl) ?_
  refine zz_get (C := R_R) (T := F_R) (N := 12) (v := .ref xA) hx hb hts in_R hown hK hP 0 rfl rfl 1 (by decide) mw_7 rfl d_R_bringBack_41 ?_
  refine lv_bipush (v := (6 : Int32)) hx hb d_R_bringBack_44 (by decide) ?_
  refine lv_aload_n hx hb d_R_bringBack_46 rfl (lv_at hl 3 rfl) ?_
  show W p l e _ s m args below meth c _ _ _ _ Q (F0 m 47 ls _)
  refine lv_iload hx hb d_R_bringBack_47 (lv_at hl 0 rfl) ?_
  refine lv_iconst (v := (2 : Int32)) hx hb d_R_bringBack_49 (by decide) ?_
  refine lv_iadd hx hb d_R_bringBack_50 ?_
  refine zz_rVi (rest := [.int (6 : Int32), .ref xA]) ⟨hx, hb, hml, hown, hts⟩ (k_M_read l D cI _ xM xW u_M ((s_M_areaStart ((u_r 3) &&& (31 : Int32))) + (2 : Int32))) g_R_bringBack_M_read_51 nv_M_read ⟨⟨rfl, rfl⟩, Nat.le_of_ble_eq_true rfl, Nat.le_of_ble_eq_true rfl⟩ hK [0] rfl hP hD hS hA [3, 4] rfl rfl 3 0 rfl rfl rfl rfl hl.1 (Nat.le_of_ble_eq_true rfl) d_R_bringBack_51 ⟨Nat.zero_le _, Nat.zero_le _⟩ (fun H locs hP hD hS => ?_)
  refine zz_iast (w' := [oR xR xD xA (s_R_takeState (upd u_r 3 (s_M_read u_M (s_M_areaStart ((u_r 3) &&& (31 : Int32))))) u_d u_a (s_M_read u_M ((s_M_areaStart ((u_r 3) &&& (31 : Int32))) + (1 : Int32)))), ar cI xD 8 u_d, ar cI xA 8 (upd u_a (ix (6 : Int32)) (s_M_read u_M ((s_M_areaStart ((u_r 3) &&& (31 : Int32))) + (2 : Int32)))), oM xM xW, ar cI xW 512 u_M]) hx hb hK hP hD hS 2 0 rfl rfl (zz_inc (by decide)) d_R_bringBack_54 rfl (fun H locs hP hD hS => ?_)
  refine lv_aload_n hx hb d_R_bringBack_55 rfl (lv_at hl 2 rfl) ?_
  refine zz_get (C := R_R) (T := F_R) (N := 12) (v := .ref xA) hx hb hts in_R hown hK hP 0 rfl rfl 1 (by decide) mw_7 rfl d_R_bringBack_56 ?_
  refine lv_bipush (v := (7 : Int32)) hx hb d_R_bringBack_59 (by decide) ?_
  refine lv_aload_n hx hb d_R_bringBack_61 rfl (lv_at hl 3 rfl) ?_
  refine lv_iload hx hb d_R_bringBack_62 (lv_at hl 0 rfl) ?_
  refine lv_iconst (v := (3 : Int32)) hx hb d_R_bringBack_64 (by decide) ?_
  refine lv_iadd hx hb d_R_bringBack_65 ?_
  show W p l e _ s m args below meth c _ _ _ _ Q (F0 m 66 ls _)
  refine zz_rVi (rest := [.int (7 : Int32), .ref xA]) ⟨hx, hb, hml, hown, hts⟩ (k_M_read l D cI _ xM xW u_M ((s_M_areaStart ((u_r 3) &&& (31 : Int32))) + (3 : Int32))) g_R_bringBack_M_read_51 nv_M_read ⟨⟨rfl, rfl⟩, Nat.le_of_ble_eq_true rfl, Nat.le_of_ble_eq_true rfl⟩ hK [0] rfl hP hD hS hA [3, 4] rfl rfl 3 0 rfl rfl rfl rfl hl.1 (Nat.le_of_ble_eq_true rfl) d_R_bringBack_66 ⟨Nat.zero_le _, Nat.zero_le _⟩ (fun H locs hP hD hS => ?_)
  refine zz_iast (w' := [oR xR xD xA (s_R_takeState (upd u_r 3 (s_M_read u_M (s_M_areaStart ((u_r 3) &&& (31 : Int32))))) u_d u_a (s_M_read u_M ((s_M_areaStart ((u_r 3) &&& (31 : Int32))) + (1 : Int32)))), ar cI xD 8 u_d, ar cI xA 8 (upd (upd u_a (ix (6 : Int32)) (s_M_read u_M ((s_M_areaStart ((u_r 3) &&& (31 : Int32))) + (2 : Int32)))) (ix (7 : Int32)) (s_M_read u_M ((s_M_areaStart ((u_r 3) &&& (31 : Int32))) + (3 : Int32)))), oM xM xW, ar cI xW 512 u_M]) hx hb hK hP hD hS 2 0 rfl rfl (zz_inc (by decide)) d_R_bringBack_69 rfl (fun H locs hP hD hS => ?_)
  refine lv_goto (tgt := 116) hx hb d_R_bringBack_70 (by decide) ?_
  refine lv_iload_n hx hb d_R_bringBack_116 rfl (lv_at hl 4 rfl) ?_
  refine lv_if_eq (tgt := 124) hx hb d_R_bringBack_117 (by decide) (fun hh => absurd hh (by decide)) (fun _ => ?_)
  refine lv_iconst (v := (4 : Int32)) hx hb d_R_bringBack_120 (by decide) ?_
  refine lv_goto (tgt := 125) hx hb d_R_bringBack_121 (by decide) ?_
  refine lv_istore (lv' := [(5, .int (4 : Int32)), (4, .int (s_M_areaStart ((u_r 3) &&& (31 : Int32)))), (3, .int ((u_r 3) &&& (31 : Int32))), (0, .ref xR), (1, .ref xM), (2, .int (1 : Int32))]) hx hb d_R_bringBack_125 hl (by decide) rfl (fun ls hl => ?_)
  refine lv_iconst (v := (0 : Int32)) hx hb d_R_bringBack_127 (by decide) ?_
  refine lv_istore (lv' := [(6, .int (0 : Int32)), (5, .int (4 : Int32)), (4, .int (s_M_areaStart ((u_r 3) &&& (31 : Int32)))), (3, .int ((u_r 3) &&& (31 : Int32))), (0, .ref xR), (1, .ref xM), (2, .int (1 : Int32))]) hx hb d_R_bringBack_128 hl (by decide) rfl (fun ls hl => ?_)
  refine lv_iload hx hb d_R_bringBack_130 (lv_at hl 0 rfl) ?_
  refine lv_iconst (v := (4 : Int32)) hx hb d_R_bringBack_132 (by decide) ?_
  refine lv_icmp_ge (tgt := 163) hx hb d_R_bringBack_133 (by decide) (fun hh => absurd hh (by decide)) (fun _ => ?_)
  refine lv_aload_n hx hb d_R_bringBack_136 rfl (lv_at hl 4 rfl) ?_
  refine zz_get (C := R_R) (T := F_R) (N := 12) (v := .ref xD) hx hb hts in_R hown hK hP 0 rfl rfl 0 (by decide) mw_10 rfl d_R_bringBack_137 ?_
  refine lv_iload hx hb d_R_bringBack_140 (lv_at hl 1 rfl) ?_
  refine lv_iload hx hb d_R_bringBack_142 (lv_at hl 0 rfl) ?_
  refine lv_iadd hx hb d_R_bringBack_144 ?_
  refine lv_topi (fun zz ez => ?_)
  obtain rfl : zz = (4 : Int32) := ez.trans (by decide)
  refine lv_aload_n hx hb d_R_bringBack_145 rfl (lv_at hl 5 rfl) ?_
  refine lv_iload hx hb d_R_bringBack_146 (lv_at hl 2 rfl) ?_
  refine lv_iconst (v := (4 : Int32)) hx hb d_R_bringBack_148 (by decide) ?_
  refine lv_iadd hx hb d_R_bringBack_149 ?_
  refine lv_iload hx hb d_R_bringBack_150 (lv_at hl 0 rfl) ?_
  refine lv_iadd hx hb d_R_bringBack_152 ?_
  show W p l e _ s m args below meth c _ _ _ _ Q (F0 m 153 ls _)
  refine zz_rVi (rest := [.int (4 : Int32), .ref xD]) ⟨hx, hb, hml, hown, hts⟩ (k_M_read l D cI _ xM xW u_M (((s_M_areaStart ((u_r 3) &&& (31 : Int32))) + (4 : Int32)) + (0 : Int32))) g_R_bringBack_M_read_51 nv_M_read ⟨⟨rfl, rfl⟩, Nat.le_of_ble_eq_true rfl, Nat.le_of_ble_eq_true rfl⟩ hK [0] rfl hP hD hS hA [3, 4] rfl rfl 3 0 rfl rfl rfl rfl hl.1 (Nat.le_of_ble_eq_true rfl) d_R_bringBack_153 ⟨Nat.zero_le _, Nat.zero_le _⟩ (fun H locs hP hD hS => ?_)
  refine zz_iast (w' := [oR xR xD xA (s_R_takeState (upd u_r 3 (s_M_read u_M (s_M_areaStart ((u_r 3) &&& (31 : Int32))))) u_d u_a (s_M_read u_M ((s_M_areaStart ((u_r 3) &&& (31 : Int32))) + (1 : Int32)))), ar cI xD 8 (upd u_d (ix (4 : Int32)) (s_M_read u_M (((s_M_areaStart ((u_r 3) &&& (31 : Int32))) + (4 : Int32)) + (0 : Int32)))), ar cI xA 8 (upd (upd u_a (ix (6 : Int32)) (s_M_read u_M ((s_M_areaStart ((u_r 3) &&& (31 : Int32))) + (2 : Int32)))) (ix (7 : Int32)) (s_M_read u_M ((s_M_areaStart ((u_r 3) &&& (31 : Int32))) + (3 : Int32)))), oM xM xW, ar cI xW 512 u_M]) hx hb hK hP hD hS 1 0 rfl rfl (zz_inc (by decide)) d_R_bringBack_156 rfl (fun H locs hP hD hS => ?_)
  refine lv_iinc (v := (1 : Int32)) (lv' := [(6, .int (1 : Int32)), (5, .int (4 : Int32)), (4, .int (s_M_areaStart ((u_r 3) &&& (31 : Int32)))), (3, .int ((u_r 3) &&& (31 : Int32))), (0, .ref xR), (1, .ref xM), (2, .int (1 : Int32))]) (k := 0) hx hb d_R_bringBack_157 hl rfl (by decide) (by decide) rfl (fun ls hl => ?_)
  refine lv_goto (tgt := 130) hx hb d_R_bringBack_160 (by decide) ?_
  refine lv_iload hx hb d_R_bringBack_130 (lv_at hl 0 rfl) ?_
  refine lv_iconst (v := (4 : Int32)) hx hb d_R_bringBack_132 (by decide) ?_
  refine lv_icmp_ge (tgt := 163) hx hb d_R_bringBack_133 (by decide) (fun hh => absurd hh (by decide)) (fun _ => ?_)
  refine lv_aload_n hx hb d_R_bringBack_136 rfl (lv_at hl 4 rfl) ?_
  refine zz_get (C := R_R) (T := F_R) (N := 12) (v := .ref xD) hx hb hts in_R hown hK hP 0 rfl rfl 0 (by decide) mw_10 rfl d_R_bringBack_137 ?_
  refine lv_iload hx hb d_R_bringBack_140 (lv_at hl 1 rfl) ?_
  refine lv_iload hx hb d_R_bringBack_142 (lv_at hl 0 rfl) ?_
  refine lv_iadd hx hb d_R_bringBack_144 ?_
  refine lv_topi (fun zz ez => ?_)
  obtain rfl : zz = (5 : Int32) := ez.trans (by decide)
  refine lv_aload_n hx hb d_R_bringBack_145 rfl (lv_at hl 5 rfl) ?_
  refine lv_iload hx hb d_R_bringBack_146 (lv_at hl 2 rfl) ?_
  refine lv_iconst (v := (4 : Int32)) hx hb d_R_bringBack_148 (by decide) ?_
  refine lv_iadd hx hb d_R_bringBack_149 ?_
  refine lv_iload hx hb d_R_bringBack_150 (lv_at hl 0 rfl) ?_
  refine lv_iadd hx hb d_R_bringBack_152 ?_
  show W p l e _ s m args below meth c _ _ _ _ Q (F0 m 153 ls _)
  refine zz_rVi (rest := [.int (5 : Int32), .ref xD]) ⟨hx, hb, hml, hown, hts⟩ (k_M_read l D cI _ xM xW u_M (((s_M_areaStart ((u_r 3) &&& (31 : Int32))) + (4 : Int32)) + (1 : Int32))) g_R_bringBack_M_read_51 nv_M_read ⟨⟨rfl, rfl⟩, Nat.le_of_ble_eq_true rfl, Nat.le_of_ble_eq_true rfl⟩ hK [0] rfl hP hD hS hA [3, 4] rfl rfl 3 0 rfl rfl rfl rfl hl.1 (Nat.le_of_ble_eq_true rfl) d_R_bringBack_153 ⟨Nat.zero_le _, Nat.zero_le _⟩ (fun H locs hP hD hS => ?_)
  refine zz_iast (w' := [oR xR xD xA (s_R_takeState (upd u_r 3 (s_M_read u_M (s_M_areaStart ((u_r 3) &&& (31 : Int32))))) u_d u_a (s_M_read u_M ((s_M_areaStart ((u_r 3) &&& (31 : Int32))) + (1 : Int32)))), ar cI xD 8 (upd (upd u_d (ix (4 : Int32)) (s_M_read u_M (((s_M_areaStart ((u_r 3) &&& (31 : Int32))) + (4 : Int32)) + (0 : Int32)))) (ix (5 : Int32)) (s_M_read u_M (((s_M_areaStart ((u_r 3) &&& (31 : Int32))) + (4 : Int32)) + (1 : Int32)))), ar cI xA 8 (upd (upd u_a (ix (6 : Int32)) (s_M_read u_M ((s_M_areaStart ((u_r 3) &&& (31 : Int32))) + (2 : Int32)))) (ix (7 : Int32)) (s_M_read u_M ((s_M_areaStart ((u_r 3) &&& (31 : Int32))) + (3 : Int32)))), oM xM xW, ar cI xW 512 u_M]) hx hb hK hP hD hS 1 0 rfl rfl (zz_inc (by decide)) d_R_bringBack_156 rfl (fun H locs hP hD hS => ?_)
  refine lv_iinc (v := (2 : Int32)) (lv' := [(6, .int (2 : Int32)), (5, .int (4 : Int32)), (4, .int (s_M_areaStart ((u_r 3) &&& (31 : Int32)))), (3, .int ((u_r 3) &&& (31 : Int32))), (0, .ref xR), (1, .ref xM), (2, .int (1 : Int32))]) (k := 0) hx hb d_R_bringBack_157 hl rfl (by decide) (by decide) rfl (fun ls hl => ?_)
  refine lv_goto (tgt := 130) hx hb d_R_bringBack_160 (by decide) ?_
  refine lv_iload hx hb d_R_bringBack_130 (lv_at hl 0 rfl) ?_
  refine lv_iconst (v := (4 : Int32)) hx hb d_R_bringBack_132 (by decide) ?_
  refine lv_icmp_ge (tgt := 163) hx hb d_R_bringBack_133 (by decide) (fun hh => absurd hh (by decide)) (fun _ => ?_)
  refine lv_aload_n hx hb d_R_bringBack_136 rfl (lv_at hl 4 rfl) ?_
  refine zz_get (C := R_R) (T := F_R) (N := 12) (v := .ref xD) hx hb hts in_R hown hK hP 0 rfl rfl 0 (by decide) mw_10 rfl d_R_bringBack_137 ?_
  refine lv_iload hx hb d_R_bringBack_140 (lv_at hl 1 rfl) ?_
  refine lv_iload hx hb d_R_bringBack_142 (lv_at hl 0 rfl) ?_
  refine lv_iadd hx hb d_R_bringBack_144 ?_
  refine lv_topi (fun zz ez => ?_)
  obtain rfl : zz = (6 : Int32) := ez.trans (by decide)
  refine lv_aload_n hx hb d_R_bringBack_145 rfl (lv_at hl 5 rfl) ?_
  refine lv_iload hx hb d_R_bringBack_146 (lv_at hl 2 rfl) ?_
  refine lv_iconst (v := (4 : Int32)) hx hb d_R_bringBack_148 (by decide) ?_
  refine lv_iadd hx hb d_R_bringBack_149 ?_
  refine lv_iload hx hb d_R_bringBack_150 (lv_at hl 0 rfl) ?_
  refine lv_iadd hx hb d_R_bringBack_152 ?_
  show W p l e _ s m args below meth c _ _ _ _ Q (F0 m 153 ls _)
  refine zz_rVi (rest := [.int (6 : Int32), .ref xD]) ⟨hx, hb, hml, hown, hts⟩ (k_M_read l D cI _ xM xW u_M (((s_M_areaStart ((u_r 3) &&& (31 : Int32))) + (4 : Int32)) + (2 : Int32))) g_R_bringBack_M_read_51 nv_M_read ⟨⟨rfl, rfl⟩, Nat.le_of_ble_eq_true rfl, Nat.le_of_ble_eq_true rfl⟩ hK [0] rfl hP hD hS hA [3, 4] rfl rfl 3 0 rfl rfl rfl rfl hl.1 (Nat.le_of_ble_eq_true rfl) d_R_bringBack_153 ⟨Nat.zero_le _, Nat.zero_le _⟩ (fun H locs hP hD hS => ?_)
  refine zz_iast (w' := [oR xR xD xA (s_R_takeState (upd u_r 3 (s_M_read u_M (s_M_areaStart ((u_r 3) &&& (31 : Int32))))) u_d u_a (s_M_read u_M ((s_M_areaStart ((u_r 3) &&& (31 : Int32))) + (1 : Int32)))), ar cI xD 8 (upd (upd (upd u_d (ix (4 : Int32)) (s_M_read u_M (((s_M_areaStart ((u_r 3) &&& (31 : Int32))) + (4 : Int32)) + (0 : Int32)))) (ix (5 : Int32)) (s_M_read u_M (((s_M_areaStart ((u_r 3) &&& (31 : Int32))) + (4 : Int32)) + (1 : Int32)))) (ix (6 : Int32)) (s_M_read u_M (((s_M_areaStart ((u_r 3) &&& (31 : Int32))) + (4 : Int32)) + (2 : Int32)))), ar cI xA 8 (upd (upd u_a (ix (6 : Int32)) (s_M_read u_M ((s_M_areaStart ((u_r 3) &&& (31 : Int32))) + (2 : Int32)))) (ix (7 : Int32)) (s_M_read u_M ((s_M_areaStart ((u_r 3) &&& (31 : Int32))) + (3 : Int32)))), oM xM xW, ar cI xW 512 u_M]) hx hb hK hP hD hS 1 0 rfl rfl (zz_inc (by decide)) d_R_bringBack_156 rfl (fun H locs hP hD hS => ?_)
  refine lv_iinc (v := (3 : Int32)) (lv' := [(6, .int (3 : Int32)), (5, .int (4 : Int32)), (4, .int (s_M_areaStart ((u_r 3) &&& (31 : Int32)))), (3, .int ((u_r 3) &&& (31 : Int32))), (0, .ref xR), (1, .ref xM), (2, .int (1 : Int32))]) (k := 0) hx hb d_R_bringBack_157 hl rfl (by decide) (by decide) rfl (fun ls hl => ?_)
  refine lv_goto (tgt := 130) hx hb d_R_bringBack_160 (by decide) ?_
  refine lv_iload hx hb d_R_bringBack_130 (lv_at hl 0 rfl) ?_
  refine lv_iconst (v := (4 : Int32)) hx hb d_R_bringBack_132 (by decide) ?_
  refine lv_icmp_ge (tgt := 163) hx hb d_R_bringBack_133 (by decide) (fun hh => absurd hh (by decide)) (fun _ => ?_)
  refine lv_aload_n hx hb d_R_bringBack_136 rfl (lv_at hl 4 rfl) ?_
  refine zz_get (C := R_R) (T := F_R) (N := 12) (v := .ref xD) hx hb hts in_R hown hK hP 0 rfl rfl 0 (by decide) mw_10 rfl d_R_bringBack_137 ?_
  refine lv_iload hx hb d_R_bringBack_140 (lv_at hl 1 rfl) ?_
  refine lv_iload hx hb d_R_bringBack_142 (lv_at hl 0 rfl) ?_
  refine lv_iadd hx hb d_R_bringBack_144 ?_
  refine lv_topi (fun zz ez => ?_)
  obtain rfl : zz = (7 : Int32) := ez.trans (by decide)
  refine lv_aload_n hx hb d_R_bringBack_145 rfl (lv_at hl 5 rfl) ?_
  refine lv_iload hx hb d_R_bringBack_146 (lv_at hl 2 rfl) ?_
  refine lv_iconst (v := (4 : Int32)) hx hb d_R_bringBack_148 (by decide) ?_
  refine lv_iadd hx hb d_R_bringBack_149 ?_
  refine lv_iload hx hb d_R_bringBack_150 (lv_at hl 0 rfl) ?_
  refine lv_iadd hx hb d_R_bringBack_152 ?_
  show W p l e _ s m args below meth c _ _ _ _ Q (F0 m 153 ls _)
  refine zz_rVi (rest := [.int (7 : Int32), .ref xD]) ⟨hx, hb, hml, hown, hts⟩ (k_M_read l D cI _ xM xW u_M (((s_M_areaStart ((u_r 3) &&& (31 : Int32))) + (4 : Int32)) + (3 : Int32))) g_R_bringBack_M_read_51 nv_M_read ⟨⟨rfl, rfl⟩, Nat.le_of_ble_eq_true rfl, Nat.le_of_ble_eq_true rfl⟩ hK [0] rfl hP hD hS hA [3, 4] rfl rfl 3 0 rfl rfl rfl rfl hl.1 (Nat.le_of_ble_eq_true rfl) d_R_bringBack_153 ⟨Nat.zero_le _, Nat.zero_le _⟩ (fun H locs hP hD hS => ?_)
  refine zz_iast (w' := [oR xR xD xA (s_R_takeState (upd u_r 3 (s_M_read u_M (s_M_areaStart ((u_r 3) &&& (31 : Int32))))) u_d u_a (s_M_read u_M ((s_M_areaStart ((u_r 3) &&& (31 : Int32))) + (1 : Int32)))), ar cI xD 8 (upd (upd (upd (upd u_d (ix (4 : Int32)) (s_M_read u_M (((s_M_areaStart ((u_r 3) &&& (31 : Int32))) + (4 : Int32)) + (0 : Int32)))) (ix (5 : Int32)) (s_M_read u_M (((s_M_areaStart ((u_r 3) &&& (31 : Int32))) + (4 : Int32)) + (1 : Int32)))) (ix (6 : Int32)) (s_M_read u_M (((s_M_areaStart ((u_r 3) &&& (31 : Int32))) + (4 : Int32)) + (2 : Int32)))) (ix (7 : Int32)) (s_M_read u_M (((s_M_areaStart ((u_r 3) &&& (31 : Int32))) + (4 : Int32)) + (3 : Int32)))), ar cI xA 8 (upd (upd u_a (ix (6 : Int32)) (s_M_read u_M ((s_M_areaStart ((u_r 3) &&& (31 : Int32))) + (2 : Int32)))) (ix (7 : Int32)) (s_M_read u_M ((s_M_areaStart ((u_r 3) &&& (31 : Int32))) + (3 : Int32)))), oM xM xW, ar cI xW 512 u_M]) hx hb hK hP hD hS 1 0 rfl rfl (zz_inc (by decide)) d_R_bringBack_156 rfl (fun H locs hP hD hS => ?_)
  refine lv_iinc (v := (4 : Int32)) (lv' := [(6, .int (4 : Int32)), (5, .int (4 : Int32)), (4, .int (s_M_areaStart ((u_r 3) &&& (31 : Int32)))), (3, .int ((u_r 3) &&& (31 : Int32))), (0, .ref xR), (1, .ref xM), (2, .int (1 : Int32))]) (k := 0) hx hb d_R_bringBack_157 hl rfl (by decide) (by decide) rfl (fun ls hl => ?_)
  refine lv_goto (tgt := 130) hx hb d_R_bringBack_160 (by decide) ?_
  refine lv_iload hx hb d_R_bringBack_130 (lv_at hl 0 rfl) ?_
  refine lv_iconst (v := (4 : Int32)) hx hb d_R_bringBack_132 (by decide) ?_
  refine lv_icmp_ge (tgt := 163) hx hb d_R_bringBack_133 (by decide) (fun _ => ?_) (fun hh => absurd hh (by decide))
  refine lv_aload_n hx hb d_R_bringBack_163 rfl (lv_at hl 5 rfl) ?_
  refine lv_iload hx hb d_R_bringBack_164 (lv_at hl 2 rfl) ?_
  refine lv_aload_n hx hb d_R_bringBack_166 rfl (lv_at hl 4 rfl) ?_
  refine zz_get (C := R_R) (T := F_R) (N := 12) (v := .int ((s_R_takeState (upd u_r 3 (s_M_read u_M (s_M_areaStart ((u_r 3) &&& (31 : Int32))))) u_d u_a (s_M_read u_M ((s_M_areaStart ((u_r 3) &&& (31 : Int32))) + (1 : Int32)))) 1)) hx hb hts in_R hown hK hP 0 rfl rfl 3 (by decide) mw_8 rfl d_R_bringBack_167 ?_
  refine zz_cVv (rest := []) (wr := [oR xR xD xA (s_R_takeState (upd u_r 3 (s_M_read u_M (s_M_areaStart ((u_r 3) &&& (31 : Int32))))) u_d u_a (s_M_read u_M ((s_M_areaStart ((u_r 3) &&& (31 : Int32))) + (1 : Int32)))), ar cI xD 8 (upd (upd (upd (upd u_d (ix (4 : Int32)) (s_M_read u_M (((s_M_areaStart ((u_r 3) &&& (31 : Int32))) + (4 : Int32)) + (0 : Int32)))) (ix (5 : Int32)) (s_M_read u_M (((s_M_areaStart ((u_r 3) &&& (31 : Int32))) + (4 : Int32)) + (1 : Int32)))) (ix (6 : Int32)) (s_M_read u_M (((s_M_areaStart ((u_r 3) &&& (31 : Int32))) + (4 : Int32)) + (2 : Int32)))) (ix (7 : Int32)) (s_M_read u_M (((s_M_areaStart ((u_r 3) &&& (31 : Int32))) + (4 : Int32)) + (3 : Int32)))), ar cI xA 8 (upd (upd u_a (ix (6 : Int32)) (s_M_read u_M ((s_M_areaStart ((u_r 3) &&& (31 : Int32))) + (2 : Int32)))) (ix (7 : Int32)) (s_M_read u_M ((s_M_areaStart ((u_r 3) &&& (31 : Int32))) + (3 : Int32))))]) (w' := [oR xR xD xA (s_R_takeState (upd u_r 3 (s_M_read u_M (s_M_areaStart ((u_r 3) &&& (31 : Int32))))) u_d u_a (s_M_read u_M ((s_M_areaStart ((u_r 3) &&& (31 : Int32))) + (1 : Int32)))), ar cI xD 8 (upd (upd (upd (upd u_d (ix (4 : Int32)) (s_M_read u_M (((s_M_areaStart ((u_r 3) &&& (31 : Int32))) + (4 : Int32)) + (0 : Int32)))) (ix (5 : Int32)) (s_M_read u_M (((s_M_areaStart ((u_r 3) &&& (31 : Int32))) + (4 : Int32)) + (1 : Int32)))) (ix (6 : Int32)) (s_M_read u_M (((s_M_areaStart ((u_r 3) &&& (31 : Int32))) + (4 : Int32)) + (2 : Int32)))) (ix (7 : Int32)) (s_M_read u_M (((s_M_areaStart ((u_r 3) &&& (31 : Int32))) + (4 : Int32)) + (3 : Int32)))), ar cI xA 8 (upd (upd u_a (ix (6 : Int32)) (s_M_read u_M ((s_M_areaStart ((u_r 3) &&& (31 : Int32))) + (2 : Int32)))) (ix (7 : Int32)) (s_M_read u_M ((s_M_areaStart ((u_r 3) &&& (31 : Int32))) + (3 : Int32)))), oM xM xW, ar cI xW 512 (s_M_write u_M (s_M_areaStart ((u_r 3) &&& (31 : Int32))) ((s_R_takeState (upd u_r 3 (s_M_read u_M (s_M_areaStart ((u_r 3) &&& (31 : Int32))))) u_d u_a (s_M_read u_M ((s_M_areaStart ((u_r 3) &&& (31 : Int32))) + (1 : Int32)))) 1))]) ⟨hx, hb, hml, hown, hts⟩ (k_M_write l D cI _ xM xW u_M (s_M_areaStart ((u_r 3) &&& (31 : Int32))) ((s_R_takeState (upd u_r 3 (s_M_read u_M (s_M_areaStart ((u_r 3) &&& (31 : Int32))))) u_d u_a (s_M_read u_M ((s_M_areaStart ((u_r 3) &&& (31 : Int32))) + (1 : Int32)))) 1)) g_R_bringBack_M_write_57 nv_M_write ⟨⟨rfl, rfl⟩, Nat.le_of_ble_eq_true rfl, Nat.le_of_ble_eq_true rfl⟩ hK [0] rfl hP hD hS hA [3, 4] [0, 1, 2] [0, 1, 2, 3, 4] rfl rfl rfl rfl (by decide) rfl rfl 3 0 rfl rfl rfl rfl hl.1 (Nat.le_of_ble_eq_true rfl) d_R_bringBack_170 ⟨Nat.zero_le _, Nat.zero_le _⟩ (fun H locs hP hD hS => ?_)
  refine lv_aload_n hx hb d_R_bringBack_173 rfl (lv_at hl 4 rfl) ?_
  refine lv_iload_n hx hb d_R_bringBack_174 rfl (lv_at hl 3 rfl) ?_
  refine zz_put (C := R_R) (T := F_R) (N := 12) (w' := [oR xR xD xA (upd (s_R_takeState (upd u_r 3 (s_M_read u_M (s_M_areaStart ((u_r 3) &&& (31 : Int32))))) u_d u_a (s_M_read u_M ((s_M_areaStart ((u_r 3) &&& (31 : Int32))) + (1 : Int32)))) 1 ((u_r 3) &&& (31 : Int32))), ar cI xD 8 (upd (upd (upd (upd u_d (ix (4 : Int32)) (s_M_read u_M (((s_M_areaStart ((u_r 3) &&& (31 : Int32))) + (4 : Int32)) + (0 : Int32)))) (ix (5 : Int32)) (s_M_read u_M (((s_M_areaStart ((u_r 3) &&& (31 : Int32))) + (4 : Int32)) + (1 : Int32)))) (ix (6 : Int32)) (s_M_read u_M (((s_M_areaStart ((u_r 3) &&& (31 : Int32))) + (4 : Int32)) + (2 : Int32)))) (ix (7 : Int32)) (s_M_read u_M (((s_M_areaStart ((u_r 3) &&& (31 : Int32))) + (4 : Int32)) + (3 : Int32)))), ar cI xA 8 (upd (upd u_a (ix (6 : Int32)) (s_M_read u_M ((s_M_areaStart ((u_r 3) &&& (31 : Int32))) + (2 : Int32)))) (ix (7 : Int32)) (s_M_read u_M ((s_M_areaStart ((u_r 3) &&& (31 : Int32))) + (3 : Int32)))), oM xM xW, ar cI xW 512 (s_M_write u_M (s_M_areaStart ((u_r 3) &&& (31 : Int32))) ((s_R_takeState (upd u_r 3 (s_M_read u_M (s_M_areaStart ((u_r 3) &&& (31 : Int32))))) u_d u_a (s_M_read u_M ((s_M_areaStart ((u_r 3) &&& (31 : Int32))) + (1 : Int32)))) 1))]) hx hb hts in_R ty_R ty_R_ok n_R hown hK hP hD hS 0 rfl rfl 3 (by decide) mw_8 rfl rfl rfl (Nat.le_of_ble_eq_true rfl) d_R_bringBack_175 rfl (fun H locs hP hD hS => ?_)
  have hsp : s_R_bringBackU u_r u_d u_a u_M = (upd (s_R_takeState (upd u_r 3 (s_M_read u_M (s_M_areaStart ((u_r 3) &&& (31 : Int32))))) u_d u_a (s_M_read u_M ((s_M_areaStart ((u_r 3) &&& (31 : Int32))) + (1 : Int32)))) 1 ((u_r 3) &&& (31 : Int32)), upd (upd (upd (upd u_d (ix (4 : Int32)) (s_M_read u_M (((s_M_areaStart ((u_r 3) &&& (31 : Int32))) + (4 : Int32)) + (0 : Int32)))) (ix (5 : Int32)) (s_M_read u_M (((s_M_areaStart ((u_r 3) &&& (31 : Int32))) + (4 : Int32)) + (1 : Int32)))) (ix (6 : Int32)) (s_M_read u_M (((s_M_areaStart ((u_r 3) &&& (31 : Int32))) + (4 : Int32)) + (2 : Int32)))) (ix (7 : Int32)) (s_M_read u_M (((s_M_areaStart ((u_r 3) &&& (31 : Int32))) + (4 : Int32)) + (3 : Int32))), upd (upd u_a (ix (6 : Int32)) (s_M_read u_M ((s_M_areaStart ((u_r 3) &&& (31 : Int32))) + (2 : Int32)))) (ix (7 : Int32)) (s_M_read u_M ((s_M_areaStart ((u_r 3) &&& (31 : Int32))) + (3 : Int32))), (s_M_write u_M (s_M_areaStart ((u_r 3) &&& (31 : Int32))) ((s_R_takeState (upd u_r 3 (s_M_read u_M (s_M_areaStart ((u_r 3) &&& (31 : Int32))))) u_d u_a (s_M_read u_M ((s_M_areaStart ((u_r 3) &&& (31 : Int32))) + (1 : Int32)))) 1))) := rfl
  rw [hsp] at hE
  exact hE _ _ _ _ hP hD hS d_R_bringBack_178
set_option maxHeartbeats 4000000 in
set_option maxRecDepth 100000 in
theorem k_R_keepL (l : Launch) (D : va_G) (cI : ClassId) (sz : Nat) (xR : Nat) (xD : Nat) (xA : Nat) (xM : Nat) (xW : Nat) (u_r : Nat → Int32) (u_d : Nat → Int32) (u_a : Nat → Int32) (u_M : Nat → Int32) : zMi l y_R_keep (.code y_R_keep b_R_keep 7 (some .boolean) :: wd) { frames := 2, cells := 0, slots := 0, locals := 42 } D classes [(cI, .int)] [.ref xR, .ref xM, .int (0 : Int32)] [oR xR xD xA u_r, ar cI xD 8 u_d, ar cI xA 8 u_a, oM xM xW, ar cI xW 512 u_M] [oR xR xD xA ((s_R_keepL u_r u_d u_a u_M).2.1), ar cI xD 8 u_d, ar cI xA 8 u_a, oM xM xW, ar cI xW 512 ((s_R_keepL u_r u_d u_a u_M).2.2)] sz (s_R_keepL u_r u_d u_a u_M).1 := by
  refine met_i (by decide) (Nat.le_of_ble_eq_true rfl) (zz_nar (bo_R_keepL u_r u_d u_a u_M)) ?_
  intro p e s m args below meth c A Q ls hx hb hml hown hts hK hP hD hS hA hl hE
  have hl : lv_has ls 7 [(0, .ref xR), (1, .ref xM), (2, .int (0 : Int32))] := hl
  have hown : s.vm.findClass R_R = some m.cls := hown
  refine lv_aload_n hx hb d_R_keep_0 rfl (lv_at hl 0 rfl) ?_
  refine zz_get (C := R_R) (T := F_R) (N := 12) (v := .int (u_r 1)) hx hb hts in_R hown hK hP 0 rfl rfl 3 (by decide) mw_8 rfl d_R_keep_1 ?_
  refine lv_bipush (v := (31 : Int32)) hx hb d_R_keep_4 (by decide) ?_
  refine lv_iand hx hb d_R_keep_6 ?_
  refine lv_istore_n (lv' := [(3, .int ((u_r 1) &&& (31 : Int32))), (0, .ref xR), (1, .ref xM), (2, .int (0 : Int32))]) hx hb d_R_keep_7 rfl hl (by decide) rfl (fun ls hl => ?_)
  refine lv_iload_n hx hb d_R_keep_8 rfl (lv_at hl 0 rfl) ?_
  refine zz_cS0 (rest := []) ⟨hx, hb, hml, hown, hts⟩ (k_M_isArea l D cI _ ((u_r 1) &&& (31 : Int32))) g_R_keep_M_isArea_41 nd_M_isArea ⟨⟨rfl, rfl⟩, Nat.le_of_ble_eq_true rfl, Nat.le_of_ble_eq_true rfl⟩ hK hP hD hS hA rfl rfl hl.1 (Nat.le_of_ble_eq_true rfl) d_R_keep_9 ⟨Nat.zero_le _, Nat.zero_le _⟩ (fun H locs hP hD hS => ?_)
  refine lv_if_ne (tgt := 17) hx hb d_R_keep_12 (by decide) (fun h1 => ?_) (fun h1 => ?_)
  ·
    refine lv_iload_n hx hb d_R_keep_17 rfl (lv_at hl 0 rfl) ?_
    refine zz_cS0 (rest := []) ⟨hx, hb, hml, hown, hts⟩ (k_M_areaStart l D cI _ ((u_r 1) &&& (31 : Int32))) g_R_keep_M_areaStart_47 nd_M_areaStart ⟨⟨rfl, rfl⟩, Nat.le_of_ble_eq_true rfl, Nat.le_of_ble_eq_true rfl⟩ hK hP hD hS hA rfl rfl hl.1 (Nat.le_of_ble_eq_true rfl) d_R_keep_18 ⟨Nat.zero_le _, Nat.zero_le _⟩ (fun H locs hP hD hS => ?_)
    refine lv_istore (lv' := [(4, .int (s_M_areaStart ((u_r 1) &&& (31 : Int32)))), (3, .int ((u_r 1) &&& (31 : Int32))), (0, .ref xR), (1, .ref xM), (2, .int (0 : Int32))]) hx hb d_R_keep_21 hl (by decide) rfl (fun ls hl => ?_)
    refine lv_aload_n hx hb d_R_keep_23 rfl (lv_at hl 2 rfl) ?_
    refine lv_aload_n hx hb d_R_keep_24 rfl (lv_at hl 3 rfl) ?_
    refine lv_iload hx hb d_R_keep_25 (lv_at hl 0 rfl) ?_
    refine zz_rVi (rest := [.ref xR]) ⟨hx, hb, hml, hown, hts⟩ (k_M_read l D cI _ xM xW u_M (s_M_areaStart ((u_r 1) &&& (31 : Int32)))) g_R_keep_M_read_51 nv_M_read ⟨⟨rfl, rfl⟩, Nat.le_of_ble_eq_true rfl, Nat.le_of_ble_eq_true rfl⟩ hK [0] rfl hP hD hS hA [3, 4] rfl rfl 3 0 rfl rfl rfl rfl hl.1 (Nat.le_of_ble_eq_true rfl) d_R_keep_27 ⟨Nat.zero_le _, Nat.zero_le _⟩ (fun H locs hP hD hS => ?_)
    refine zz_put (C := R_R) (T := F_R) (N := 12) (w' := [oR xR xD xA (upd u_r 1 (s_M_read u_M (s_M_areaStart ((u_r 1) &&& (31 : Int32))))), ar cI xD 8 u_d, ar cI xA 8 u_a, oM xM xW, ar cI xW 512 u_M]) hx hb hts in_R ty_R ty_R_ok n_R hown hK hP hD hS 0 rfl rfl 3 (by decide) mw_8 rfl rfl rfl (Nat.le_of_ble_eq_true rfl) d_R_keep_30 rfl (fun H locs hP hD hS => ?_)
    refine lv_aload_n hx hb d_R_keep_33 rfl (lv_at hl 3 rfl) ?_
    refine lv_iload hx hb d_R_keep_34 (lv_at hl 0 rfl) ?_
    refine lv_aload_n hx hb d_R_keep_36 rfl (lv_at hl 2 rfl) ?_
    show W p l e _ s m args below meth c _ _ _ _ Q (F0 m 37 ls _)
    refine zz_get (C := R_R) (T := F_R) (N := 12) (v := .int (u_r 3)) hx hb hts in_R hown hK hP 0 rfl rfl 5 (by decide) mw_9 rfl d_R_keep_37 ?_
    refine zz_cVv (rest := []) (wr := [oR xR xD xA (upd u_r 1 (s_M_read u_M (s_M_areaStart ((u_r 1) &&& (31 : Int32))))), ar cI xD 8 u_d, ar cI xA 8 u_a]) (w' := [oR xR xD xA (upd u_r 1 (s_M_read u_M (s_M_areaStart ((u_r 1) &&& (31 : Int32))))), ar cI xD 8 u_d, ar cI xA 8 u_a, oM xM xW, ar cI xW 512 (s_M_write u_M (s_M_areaStart ((u_r 1) &&& (31 : Int32))) (u_r 3))]) ⟨hx, hb, hml, hown, hts⟩ (k_M_write l D cI _ xM xW u_M (s_M_areaStart ((u_r 1) &&& (31 : Int32))) (u_r 3)) g_R_keep_M_write_57 nv_M_write ⟨⟨rfl, rfl⟩, Nat.le_of_ble_eq_true rfl, Nat.le_of_ble_eq_true rfl⟩ hK [0] rfl hP hD hS hA [3, 4] [0, 1, 2] [0, 1, 2, 3, 4] rfl rfl rfl rfl (by decide) rfl rfl 3 0 rfl rfl rfl rfl hl.1 (Nat.le_of_ble_eq_true rfl) d_R_keep_40 ⟨Nat.zero_le _, Nat.zero_le _⟩ (fun H locs hP hD hS => ?_)
    refine lv_aload_n hx hb d_R_keep_43 rfl (lv_at hl 3 rfl) ?_
    refine lv_iload hx hb d_R_keep_44 (lv_at hl 0 rfl) ?_
    refine lv_iconst (v := (1 : Int32)) hx hb d_R_keep_46 (by decide) ?_
    refine lv_iadd hx hb d_R_keep_47 ?_
    refine lv_iload_n hx hb d_R_keep_48 rfl (lv_at hl 4 rfl) ?_
    refine lv_if_eq (tgt := 59) hx hb d_R_keep_49 (by decide) (fun _ => ?_) (fun hh => absurd hh (by decide))
    refine lv_aload_n hx hb d_R_keep_59 rfl (lv_at hl 2 rfl) ?_
    refine zz_get (C := R_R) (T := F_R) (N := 12) (v := .ref xA) hx hb hts in_R hown hK hP 0 rfl rfl 1 (by decide) mw_7 rfl d_R_keep_60 ?_
    refine lv_bipush (v := (7 : Int32)) hx hb d_R_keep_63 (by decide) ?_
    refine va_iald hx hb hK hP 2 0 rfl rfl (zz_inc (by decide)) d_R_keep_65 ?_
    refine zz_cVv (rest := []) (wr := [oR xR xD xA (upd u_r 1 (s_M_read u_M (s_M_areaStart ((u_r 1) &&& (31 : Int32))))), ar cI xD 8 u_d, ar cI xA 8 u_a]) (w' := [oR xR xD xA (upd u_r 1 (s_M_read u_M (s_M_areaStart ((u_r 1) &&& (31 : Int32))))), ar cI xD 8 u_d, ar cI xA 8 u_a, oM xM xW, ar cI xW 512 (s_M_write (s_M_write u_M (s_M_areaStart ((u_r 1) &&& (31 : Int32))) (u_r 3)) ((s_M_areaStart ((u_r 1) &&& (31 : Int32))) + (1 : Int32)) (u_a (ix (7 : Int32))))]) ⟨hx, hb, hml, hown, hts⟩ (k_M_write l D cI _ xM xW (s_M_write u_M (s_M_areaStart ((u_r 1) &&& (31 : Int32))) (u_r 3)) ((s_M_areaStart ((u_r 1) &&& (31 : Int32))) + (1 : Int32)) (u_a (ix (7 : Int32)))) g_R_keep_M_write_57 nv_M_write ⟨⟨rfl, rfl⟩, Nat.le_of_ble_eq_true rfl, Nat.le_of_ble_eq_true rfl⟩ hK [0] rfl hP hD hS hA [3, 4] [0, 1, 2] [0, 1, 2, 3, 4] rfl rfl rfl rfl (by decide) rfl rfl 3 0 rfl rfl rfl rfl hl.1 (Nat.le_of_ble_eq_true rfl) d_R_keep_66 ⟨Nat.zero_le _, Nat.zero_le _⟩ (fun H locs hP hD hS => ?_)
    refine lv_aload_n hx hb d_R_keep_69 rfl (lv_at hl 3 rfl) ?_
    refine lv_iload hx hb d_R_keep_70 (lv_at hl 0 rfl) ?_
    refine lv_iconst (v := (2 : Int32)) hx hb d_R_keep_72 (by decide) ?_
    refine lv_iadd hx hb d_R_keep_73 ?_
    refine lv_iload_n hx hb d_R_keep_74 rfl (lv_at hl 4 rfl) ?_
    refine lv_if_eq (tgt := 88) hx hb d_R_keep_75 (by decide) (fun _ => ?_) (fun hh => absurd hh (by decide))
    refine lv_aload_n hx hb d_R_keep_88 rfl (lv_at hl 2 rfl) ?_
    refine zz_get (C := R_R) (T := F_R) (N := 12) (v := .ref xA) hx hb hts in_R hown hK hP 0 rfl rfl 1 (by decide) mw_7 rfl d_R_keep_89 ?_
    refine lv_iconst (v := (2 : Int32)) hx hb d_R_keep_92 (by decide) ?_
    refine va_iald hx hb hK hP 2 0 rfl rfl (zz_inc (by decide)) d_R_keep_93 ?_
    refine zz_cVv (rest := []) (wr := [oR xR xD xA (upd u_r 1 (s_M_read u_M (s_M_areaStart ((u_r 1) &&& (31 : Int32))))), ar cI xD 8 u_d, ar cI xA 8 u_a]) (w' := [oR xR xD xA (upd u_r 1 (s_M_read u_M (s_M_areaStart ((u_r 1) &&& (31 : Int32))))), ar cI xD 8 u_d, ar cI xA 8 u_a, oM xM xW, ar cI xW 512 (s_M_write (s_M_write (s_M_write u_M (s_M_areaStart ((u_r 1) &&& (31 : Int32))) (u_r 3)) ((s_M_areaStart ((u_r 1) &&& (31 : Int32))) + (1 : Int32)) (u_a (ix (7 : Int32)))) ((s_M_areaStart ((u_r 1) &&& (31 : Int32))) + (2 : Int32)) (u_a (ix (2 : Int32))))]) ⟨hx, hb, hml, hown, hts⟩ (k_M_write l D cI _ xM xW (s_M_write (s_M_write u_M (s_M_areaStart ((u_r 1) &&& (31 : Int32))) (u_r 3)) ((s_M_areaStart ((u_r 1) &&& (31 : Int32))) + (1 : Int32)) (u_a (ix (7 : Int32)))) ((s_M_areaStart ((u_r 1) &&& (31 : Int32))) + (2 : Int32)) (u_a (ix (2 : Int32)))) g_R_keep_M_write_57 nv_M_write ⟨⟨rfl, rfl⟩, Nat.le_of_ble_eq_true rfl, Nat.le_of_ble_eq_true rfl⟩ hK [0] rfl hP hD hS hA [3, 4] [0, 1, 2] [0, 1, 2, 3, 4] rfl rfl rfl rfl (by decide) rfl rfl 3 0 rfl rfl rfl rfl hl.1 (Nat.le_of_ble_eq_true rfl) d_R_keep_94 ⟨Nat.zero_le _, Nat.zero_le _⟩ (fun H locs hP hD hS => ?_)
    refine lv_aload_n hx hb d_R_keep_97 rfl (lv_at hl 3 rfl) ?_
    refine lv_iload hx hb d_R_keep_98 (lv_at hl 0 rfl) ?_
    refine lv_iconst (v := (3 : Int32)) hx hb d_R_keep_100 (by decide) ?_
    refine lv_iadd hx hb d_R_keep_101 ?_
    refine lv_iload_n hx hb d_R_keep_102 rfl (lv_at hl 4 rfl) ?_
    refine lv_if_eq (tgt := 116) hx hb d_R_keep_103 (by decide) (fun _ => ?_) (fun hh => absurd hh (by decide))
    refine lv_aload_n hx hb d_R_keep_116 rfl (lv_at hl 2 rfl) ?_
    refine zz_get (C := R_R) (T := F_R) (N := 12) (v := .ref xA) hx hb hts in_R hown hK hP 0 rfl rfl 1 (by decide) mw_7 rfl d_R_keep_117 ?_
    refine lv_iconst (v := (3 : Int32)) hx hb d_R_keep_120 (by decide) ?_
    refine va_iald hx hb hK hP 2 0 rfl rfl (zz_inc (by decide)) d_R_keep_121 ?_
    refine zz_cVv (rest := []) (wr := [oR xR xD xA (upd u_r 1 (s_M_read u_M (s_M_areaStart ((u_r 1) &&& (31 : Int32))))), ar cI xD 8 u_d, ar cI xA 8 u_a]) (w' := [oR xR xD xA (upd u_r 1 (s_M_read u_M (s_M_areaStart ((u_r 1) &&& (31 : Int32))))), ar cI xD 8 u_d, ar cI xA 8 u_a, oM xM xW, ar cI xW 512 (s_M_write (s_M_write (s_M_write (s_M_write u_M (s_M_areaStart ((u_r 1) &&& (31 : Int32))) (u_r 3)) ((s_M_areaStart ((u_r 1) &&& (31 : Int32))) + (1 : Int32)) (u_a (ix (7 : Int32)))) ((s_M_areaStart ((u_r 1) &&& (31 : Int32))) + (2 : Int32)) (u_a (ix (2 : Int32)))) ((s_M_areaStart ((u_r 1) &&& (31 : Int32))) + (3 : Int32)) (u_a (ix (3 : Int32))))]) ⟨hx, hb, hml, hown, hts⟩ (k_M_write l D cI _ xM xW (s_M_write (s_M_write (s_M_write u_M (s_M_areaStart ((u_r 1) &&& (31 : Int32))) (u_r 3)) ((s_M_areaStart ((u_r 1) &&& (31 : Int32))) + (1 : Int32)) (u_a (ix (7 : Int32)))) ((s_M_areaStart ((u_r 1) &&& (31 : Int32))) + (2 : Int32)) (u_a (ix (2 : Int32)))) ((s_M_areaStart ((u_r 1) &&& (31 : Int32))) + (3 : Int32)) (u_a (ix (3 : Int32)))) g_R_keep_M_write_57 nv_M_write ⟨⟨rfl, rfl⟩, Nat.le_of_ble_eq_true rfl, Nat.le_of_ble_eq_true rfl⟩ hK [0] rfl hP hD hS hA [3, 4] [0, 1, 2] [0, 1, 2, 3, 4] rfl rfl rfl rfl (by decide) rfl rfl 3 0 rfl rfl rfl rfl hl.1 (Nat.le_of_ble_eq_true rfl) d_R_keep_122 ⟨Nat.zero_le _, Nat.zero_le _⟩ (fun H locs hP hD hS => ?_)
    refine lv_iload_n hx hb d_R_keep_125 rfl (lv_at hl 4 rfl) ?_
    refine lv_if_eq (tgt := 133) hx hb d_R_keep_126 (by decide) (fun _ => ?_) (fun hh => absurd hh (by decide))
    refine lv_iconst (v := (0 : Int32)) hx hb d_R_keep_133 (by decide) ?_
    refine lv_istore (lv' := [(5, .int (0 : Int32)), (4, .int (s_M_areaStart ((u_r 1) &&& (31 : Int32)))), (3, .int ((u_r 1) &&& (31 : Int32))), (0, .ref xR), (1, .ref xM), (2, .int (0 : Int32))]) hx hb d_R_keep_134 hl (by decide) rfl (fun ls hl => ?_)
    refine lv_iconst (v := (0 : Int32)) hx hb d_R_keep_136 (by decide) ?_
    refine lv_istore (lv' := [(6, .int (0 : Int32)), (5, .int (0 : Int32)), (4, .int (s_M_areaStart ((u_r 1) &&& (31 : Int32)))), (3, .int ((u_r 1) &&& (31 : Int32))), (0, .ref xR), (1, .ref xM), (2, .int (0 : Int32))]) hx hb d_R_keep_137 hl (by decide) rfl (fun ls hl => ?_)
    refine lv_iload hx hb d_R_keep_139 (lv_at hl 0 rfl) ?_
    refine lv_iconst (v := (4 : Int32)) hx hb d_R_keep_141 (by decide) ?_
    refine lv_icmp_ge (tgt := 172) hx hb d_R_keep_142 (by decide) (fun hh => absurd hh (by decide)) (fun _ => ?_)
    refine lv_aload_n hx hb d_R_keep_145 rfl (lv_at hl 5 rfl) ?_
    refine lv_iload hx hb d_R_keep_146 (lv_at hl 2 rfl) ?_
    refine lv_iconst (v := (4 : Int32)) hx hb d_R_keep_148 (by decide) ?_
    refine lv_iadd hx hb d_R_keep_149 ?_
    refine lv_iload hx hb d_R_keep_150 (lv_at hl 0 rfl) ?_
    refine lv_iadd hx hb d_R_keep_152 ?_
    refine lv_aload_n hx hb d_R_keep_153 rfl (lv_at hl 4 rfl) ?_
    refine zz_get (C := R_R) (T := F_R) (N := 12) (v := .ref xD) hx hb hts in_R hown hK hP 0 rfl rfl 0 (by decide) mw_10 rfl d_R_keep_154 ?_
    refine lv_iload hx hb d_R_keep_157 (lv_at hl 1 rfl) ?_
    refine lv_iload hx hb d_R_keep_159 (lv_at hl 0 rfl) ?_
    refine lv_iadd hx hb d_R_keep_161 ?_
    refine lv_topi (fun zz ez => ?_)
    obtain rfl : zz = (0 : Int32) := ez.trans (by decide)
    show W p l e _ s m args below meth c _ _ _ _ Q (F0 m 162 ls _)
    refine va_iald hx hb hK hP 1 0 rfl rfl (zz_inc (by decide)) d_R_keep_162 ?_
    refine zz_cVv (rest := []) (wr := [oR xR xD xA (upd u_r 1 (s_M_read u_M (s_M_areaStart ((u_r 1) &&& (31 : Int32))))), ar cI xD 8 u_d, ar cI xA 8 u_a]) (w' := [oR xR xD xA (upd u_r 1 (s_M_read u_M (s_M_areaStart ((u_r 1) &&& (31 : Int32))))), ar cI xD 8 u_d, ar cI xA 8 u_a, oM xM xW, ar cI xW 512 (s_M_write (s_M_write (s_M_write (s_M_write (s_M_write u_M (s_M_areaStart ((u_r 1) &&& (31 : Int32))) (u_r 3)) ((s_M_areaStart ((u_r 1) &&& (31 : Int32))) + (1 : Int32)) (u_a (ix (7 : Int32)))) ((s_M_areaStart ((u_r 1) &&& (31 : Int32))) + (2 : Int32)) (u_a (ix (2 : Int32)))) ((s_M_areaStart ((u_r 1) &&& (31 : Int32))) + (3 : Int32)) (u_a (ix (3 : Int32)))) (((s_M_areaStart ((u_r 1) &&& (31 : Int32))) + (4 : Int32)) + (0 : Int32)) (u_d (ix (0 : Int32))))]) ⟨hx, hb, hml, hown, hts⟩ (k_M_write l D cI _ xM xW (s_M_write (s_M_write (s_M_write (s_M_write u_M (s_M_areaStart ((u_r 1) &&& (31 : Int32))) (u_r 3)) ((s_M_areaStart ((u_r 1) &&& (31 : Int32))) + (1 : Int32)) (u_a (ix (7 : Int32)))) ((s_M_areaStart ((u_r 1) &&& (31 : Int32))) + (2 : Int32)) (u_a (ix (2 : Int32)))) ((s_M_areaStart ((u_r 1) &&& (31 : Int32))) + (3 : Int32)) (u_a (ix (3 : Int32)))) (((s_M_areaStart ((u_r 1) &&& (31 : Int32))) + (4 : Int32)) + (0 : Int32)) (u_d (ix (0 : Int32)))) g_R_keep_M_write_57 nv_M_write ⟨⟨rfl, rfl⟩, Nat.le_of_ble_eq_true rfl, Nat.le_of_ble_eq_true rfl⟩ hK [0] rfl hP hD hS hA [3, 4] [0, 1, 2] [0, 1, 2, 3, 4] rfl rfl rfl rfl (by decide) rfl rfl 3 0 rfl rfl rfl rfl hl.1 (Nat.le_of_ble_eq_true rfl) d_R_keep_163 ⟨Nat.zero_le _, Nat.zero_le _⟩ (fun H locs hP hD hS => ?_)
    refine lv_iinc (v := (1 : Int32)) (lv' := [(6, .int (1 : Int32)), (5, .int (0 : Int32)), (4, .int (s_M_areaStart ((u_r 1) &&& (31 : Int32)))), (3, .int ((u_r 1) &&& (31 : Int32))), (0, .ref xR), (1, .ref xM), (2, .int (0 : Int32))]) (k := 0) hx hb d_R_keep_166 hl rfl (by decide) (by decide) rfl (fun ls hl => ?_)
    refine lv_goto (tgt := 139) hx hb d_R_keep_169 (by decide) ?_
    refine lv_iload hx hb d_R_keep_139 (lv_at hl 0 rfl) ?_
    refine lv_iconst (v := (4 : Int32)) hx hb d_R_keep_141 (by decide) ?_
    refine lv_icmp_ge (tgt := 172) hx hb d_R_keep_142 (by decide) (fun hh => absurd hh (by decide)) (fun _ => ?_)
    refine lv_aload_n hx hb d_R_keep_145 rfl (lv_at hl 5 rfl) ?_
    refine lv_iload hx hb d_R_keep_146 (lv_at hl 2 rfl) ?_
    refine lv_iconst (v := (4 : Int32)) hx hb d_R_keep_148 (by decide) ?_
    refine lv_iadd hx hb d_R_keep_149 ?_
    refine lv_iload hx hb d_R_keep_150 (lv_at hl 0 rfl) ?_
    refine lv_iadd hx hb d_R_keep_152 ?_
    refine lv_aload_n hx hb d_R_keep_153 rfl (lv_at hl 4 rfl) ?_
    refine zz_get (C := R_R) (T := F_R) (N := 12) (v := .ref xD) hx hb hts in_R hown hK hP 0 rfl rfl 0 (by decide) mw_10 rfl d_R_keep_154 ?_
    refine lv_iload hx hb d_R_keep_157 (lv_at hl 1 rfl) ?_
    refine lv_iload hx hb d_R_keep_159 (lv_at hl 0 rfl) ?_
    refine lv_iadd hx hb d_R_keep_161 ?_
    refine lv_topi (fun zz ez => ?_)
    obtain rfl : zz = (1 : Int32) := ez.trans (by decide)
    show W p l e _ s m args below meth c _ _ _ _ Q (F0 m 162 ls _)
    refine va_iald hx hb hK hP 1 0 rfl rfl (zz_inc (by decide)) d_R_keep_162 ?_
    refine zz_cVv (rest := []) (wr := [oR xR xD xA (upd u_r 1 (s_M_read u_M (s_M_areaStart ((u_r 1) &&& (31 : Int32))))), ar cI xD 8 u_d, ar cI xA 8 u_a]) (w' := [oR xR xD xA (upd u_r 1 (s_M_read u_M (s_M_areaStart ((u_r 1) &&& (31 : Int32))))), ar cI xD 8 u_d, ar cI xA 8 u_a, oM xM xW, ar cI xW 512 (s_M_write (s_M_write (s_M_write (s_M_write (s_M_write (s_M_write u_M (s_M_areaStart ((u_r 1) &&& (31 : Int32))) (u_r 3)) ((s_M_areaStart ((u_r 1) &&& (31 : Int32))) + (1 : Int32)) (u_a (ix (7 : Int32)))) ((s_M_areaStart ((u_r 1) &&& (31 : Int32))) + (2 : Int32)) (u_a (ix (2 : Int32)))) ((s_M_areaStart ((u_r 1) &&& (31 : Int32))) + (3 : Int32)) (u_a (ix (3 : Int32)))) (((s_M_areaStart ((u_r 1) &&& (31 : Int32))) + (4 : Int32)) + (0 : Int32)) (u_d (ix (0 : Int32)))) (((s_M_areaStart ((u_r 1) &&& (31 : Int32))) + (4 : Int32)) + (1 : Int32)) (u_d (ix (1 : Int32))))]) ⟨hx, hb, hml, hown, hts⟩ (k_M_write l D cI _ xM xW (s_M_write (s_M_write (s_M_write (s_M_write (s_M_write u_M (s_M_areaStart ((u_r 1) &&& (31 : Int32))) (u_r 3)) ((s_M_areaStart ((u_r 1) &&& (31 : Int32))) + (1 : Int32)) (u_a (ix (7 : Int32)))) ((s_M_areaStart ((u_r 1) &&& (31 : Int32))) + (2 : Int32)) (u_a (ix (2 : Int32)))) ((s_M_areaStart ((u_r 1) &&& (31 : Int32))) + (3 : Int32)) (u_a (ix (3 : Int32)))) (((s_M_areaStart ((u_r 1) &&& (31 : Int32))) + (4 : Int32)) + (0 : Int32)) (u_d (ix (0 : Int32)))) (((s_M_areaStart ((u_r 1) &&& (31 : Int32))) + (4 : Int32)) + (1 : Int32)) (u_d (ix (1 : Int32)))) g_R_keep_M_write_57 nv_M_write ⟨⟨rfl, rfl⟩, Nat.le_of_ble_eq_true rfl, Nat.le_of_ble_eq_true rfl⟩ hK [0] rfl hP hD hS hA [3, 4] [0, 1, 2] [0, 1, 2, 3, 4] rfl rfl rfl rfl (by decide) rfl rfl 3 0 rfl rfl rfl rfl hl.1 (Nat.le_of_ble_eq_true rfl) d_R_keep_163 ⟨Nat.zero_le _, Nat.zero_le _⟩ (fun H locs hP hD hS => ?_)
    refine lv_iinc (v := (2 : Int32)) (lv' := [(6, .int (2 : Int32)), (5, .int (0 : Int32)), (4, .int (s_M_areaStart ((u_r 1) &&& (31 : Int32)))), (3, .int ((u_r 1) &&& (31 : Int32))), (0, .ref xR), (1, .ref xM), (2, .int (0 : Int32))]) (k := 0) hx hb d_R_keep_166 hl rfl (by decide) (by decide) rfl (fun ls hl => ?_)
    refine lv_goto (tgt := 139) hx hb d_R_keep_169 (by decide) ?_
    refine lv_iload hx hb d_R_keep_139 (lv_at hl 0 rfl) ?_
    refine lv_iconst (v := (4 : Int32)) hx hb d_R_keep_141 (by decide) ?_
    refine lv_icmp_ge (tgt := 172) hx hb d_R_keep_142 (by decide) (fun hh => absurd hh (by decide)) (fun _ => ?_)
    refine lv_aload_n hx hb d_R_keep_145 rfl (lv_at hl 5 rfl) ?_
    refine lv_iload hx hb d_R_keep_146 (lv_at hl 2 rfl) ?_
    refine lv_iconst (v := (4 : Int32)) hx hb d_R_keep_148 (by decide) ?_
    refine lv_iadd hx hb d_R_keep_149 ?_
    refine lv_iload hx hb d_R_keep_150 (lv_at hl 0 rfl) ?_
    refine lv_iadd hx hb d_R_keep_152 ?_
    refine lv_aload_n hx hb d_R_keep_153 rfl (lv_at hl 4 rfl) ?_
    refine zz_get (C := R_R) (T := F_R) (N := 12) (v := .ref xD) hx hb hts in_R hown hK hP 0 rfl rfl 0 (by decide) mw_10 rfl d_R_keep_154 ?_
    refine lv_iload hx hb d_R_keep_157 (lv_at hl 1 rfl) ?_
    refine lv_iload hx hb d_R_keep_159 (lv_at hl 0 rfl) ?_
    refine lv_iadd hx hb d_R_keep_161 ?_
    refine lv_topi (fun zz ez => ?_)
    obtain rfl : zz = (2 : Int32) := ez.trans (by decide)
    show W p l e _ s m args below meth c _ _ _ _ Q (F0 m 162 ls _)
    refine va_iald hx hb hK hP 1 0 rfl rfl (zz_inc (by decide)) d_R_keep_162 ?_
    refine zz_cVv (rest := []) (wr := [oR xR xD xA (upd u_r 1 (s_M_read u_M (s_M_areaStart ((u_r 1) &&& (31 : Int32))))), ar cI xD 8 u_d, ar cI xA 8 u_a]) (w' := [oR xR xD xA (upd u_r 1 (s_M_read u_M (s_M_areaStart ((u_r 1) &&& (31 : Int32))))), ar cI xD 8 u_d, ar cI xA 8 u_a, oM xM xW, ar cI xW 512 (s_M_write (s_M_write (s_M_write (s_M_write (s_M_write (s_M_write (s_M_write u_M (s_M_areaStart ((u_r 1) &&& (31 : Int32))) (u_r 3)) ((s_M_areaStart ((u_r 1) &&& (31 : Int32))) + (1 : Int32)) (u_a (ix (7 : Int32)))) ((s_M_areaStart ((u_r 1) &&& (31 : Int32))) + (2 : Int32)) (u_a (ix (2 : Int32)))) ((s_M_areaStart ((u_r 1) &&& (31 : Int32))) + (3 : Int32)) (u_a (ix (3 : Int32)))) (((s_M_areaStart ((u_r 1) &&& (31 : Int32))) + (4 : Int32)) + (0 : Int32)) (u_d (ix (0 : Int32)))) (((s_M_areaStart ((u_r 1) &&& (31 : Int32))) + (4 : Int32)) + (1 : Int32)) (u_d (ix (1 : Int32)))) (((s_M_areaStart ((u_r 1) &&& (31 : Int32))) + (4 : Int32)) + (2 : Int32)) (u_d (ix (2 : Int32))))]) ⟨hx, hb, hml, hown, hts⟩ (k_M_write l D cI _ xM xW (s_M_write (s_M_write (s_M_write (s_M_write (s_M_write (s_M_write u_M (s_M_areaStart ((u_r 1) &&& (31 : Int32))) (u_r 3)) ((s_M_areaStart ((u_r 1) &&& (31 : Int32))) + (1 : Int32)) (u_a (ix (7 : Int32)))) ((s_M_areaStart ((u_r 1) &&& (31 : Int32))) + (2 : Int32)) (u_a (ix (2 : Int32)))) ((s_M_areaStart ((u_r 1) &&& (31 : Int32))) + (3 : Int32)) (u_a (ix (3 : Int32)))) (((s_M_areaStart ((u_r 1) &&& (31 : Int32))) + (4 : Int32)) + (0 : Int32)) (u_d (ix (0 : Int32)))) (((s_M_areaStart ((u_r 1) &&& (31 : Int32))) + (4 : Int32)) + (1 : Int32)) (u_d (ix (1 : Int32)))) (((s_M_areaStart ((u_r 1) &&& (31 : Int32))) + (4 : Int32)) + (2 : Int32)) (u_d (ix (2 : Int32)))) g_R_keep_M_write_57 nv_M_write ⟨⟨rfl, rfl⟩, Nat.le_of_ble_eq_true rfl, Nat.le_of_ble_eq_true rfl⟩ hK [0] rfl hP hD hS hA [3, 4] [0, 1, 2] [0, 1, 2, 3, 4] rfl rfl rfl rfl (by decide) rfl rfl 3 0 rfl rfl rfl rfl hl.1 (Nat.le_of_ble_eq_true rfl) d_R_keep_163 ⟨Nat.zero_le _, Nat.zero_le _⟩ (fun H locs hP hD hS => ?_)
    refine lv_iinc (v := (3 : Int32)) (lv' := [(6, .int (3 : Int32)), (5, .int (0 : Int32)), (4, .int (s_M_areaStart ((u_r 1) &&& (31 : Int32)))), (3, .int ((u_r 1) &&& (31 : Int32))), (0, .ref xR), (1, .ref xM), (2, .int (0 : Int32))]) (k := 0) hx hb d_R_keep_166 hl rfl (by decide) (by decide) rfl (fun ls hl => ?_)
    refine lv_goto (tgt := 139) hx hb d_R_keep_169 (by decide) ?_
    refine lv_iload hx hb d_R_keep_139 (lv_at hl 0 rfl) ?_
    refine lv_iconst (v := (4 : Int32)) hx hb d_R_keep_141 (by decide) ?_
    refine lv_icmp_ge (tgt := 172) hx hb d_R_keep_142 (by decide) (fun hh => absurd hh (by decide)) (fun _ => ?_)
    refine lv_aload_n hx hb d_R_keep_145 rfl (lv_at hl 5 rfl) ?_
    refine lv_iload hx hb d_R_keep_146 (lv_at hl 2 rfl) ?_
    refine lv_iconst (v := (4 : Int32)) hx hb d_R_keep_148 (by decide) ?_
    refine lv_iadd hx hb d_R_keep_149 ?_
    refine lv_iload hx hb d_R_keep_150 (lv_at hl 0 rfl) ?_
    refine lv_iadd hx hb d_R_keep_152 ?_
    refine lv_aload_n hx hb d_R_keep_153 rfl (lv_at hl 4 rfl) ?_
    refine zz_get (C := R_R) (T := F_R) (N := 12) (v := .ref xD) hx hb hts in_R hown hK hP 0 rfl rfl 0 (by decide) mw_10 rfl d_R_keep_154 ?_
    refine lv_iload hx hb d_R_keep_157 (lv_at hl 1 rfl) ?_
    refine lv_iload hx hb d_R_keep_159 (lv_at hl 0 rfl) ?_
    refine lv_iadd hx hb d_R_keep_161 ?_
    refine lv_topi (fun zz ez => ?_)
    obtain rfl : zz = (3 : Int32) := ez.trans (by decide)
    show W p l e _ s m args below meth c _ _ _ _ Q (F0 m 162 ls _)
    refine va_iald hx hb hK hP 1 0 rfl rfl (zz_inc (by decide)) d_R_keep_162 ?_
    refine zz_cVv (rest := []) (wr := [oR xR xD xA (upd u_r 1 (s_M_read u_M (s_M_areaStart ((u_r 1) &&& (31 : Int32))))), ar cI xD 8 u_d, ar cI xA 8 u_a]) (w' := [oR xR xD xA (upd u_r 1 (s_M_read u_M (s_M_areaStart ((u_r 1) &&& (31 : Int32))))), ar cI xD 8 u_d, ar cI xA 8 u_a, oM xM xW, ar cI xW 512 (s_M_write (s_M_write (s_M_write (s_M_write (s_M_write (s_M_write (s_M_write (s_M_write u_M (s_M_areaStart ((u_r 1) &&& (31 : Int32))) (u_r 3)) ((s_M_areaStart ((u_r 1) &&& (31 : Int32))) + (1 : Int32)) (u_a (ix (7 : Int32)))) ((s_M_areaStart ((u_r 1) &&& (31 : Int32))) + (2 : Int32)) (u_a (ix (2 : Int32)))) ((s_M_areaStart ((u_r 1) &&& (31 : Int32))) + (3 : Int32)) (u_a (ix (3 : Int32)))) (((s_M_areaStart ((u_r 1) &&& (31 : Int32))) + (4 : Int32)) + (0 : Int32)) (u_d (ix (0 : Int32)))) (((s_M_areaStart ((u_r 1) &&& (31 : Int32))) + (4 : Int32)) + (1 : Int32)) (u_d (ix (1 : Int32)))) (((s_M_areaStart ((u_r 1) &&& (31 : Int32))) + (4 : Int32)) + (2 : Int32)) (u_d (ix (2 : Int32)))) (((s_M_areaStart ((u_r 1) &&& (31 : Int32))) + (4 : Int32)) + (3 : Int32)) (u_d (ix (3 : Int32))))]) ⟨hx, hb, hml, hown, hts⟩ (k_M_write l D cI _ xM xW (s_M_write (s_M_write (s_M_write (s_M_write (s_M_write (s_M_write (s_M_write u_M (s_M_areaStart ((u_r 1) &&& (31 : Int32))) (u_r 3)) ((s_M_areaStart ((u_r 1) &&& (31 : Int32))) + (1 : Int32)) (u_a (ix (7 : Int32)))) ((s_M_areaStart ((u_r 1) &&& (31 : Int32))) + (2 : Int32)) (u_a (ix (2 : Int32)))) ((s_M_areaStart ((u_r 1) &&& (31 : Int32))) + (3 : Int32)) (u_a (ix (3 : Int32)))) (((s_M_areaStart ((u_r 1) &&& (31 : Int32))) + (4 : Int32)) + (0 : Int32)) (u_d (ix (0 : Int32)))) (((s_M_areaStart ((u_r 1) &&& (31 : Int32))) + (4 : Int32)) + (1 : Int32)) (u_d (ix (1 : Int32)))) (((s_M_areaStart ((u_r 1) &&& (31 : Int32))) + (4 : Int32)) + (2 : Int32)) (u_d (ix (2 : Int32)))) (((s_M_areaStart ((u_r 1) &&& (31 : Int32))) + (4 : Int32)) + (3 : Int32)) (u_d (ix (3 : Int32)))) g_R_keep_M_write_57 nv_M_write ⟨⟨rfl, rfl⟩, Nat.le_of_ble_eq_true rfl, Nat.le_of_ble_eq_true rfl⟩ hK [0] rfl hP hD hS hA [3, 4] [0, 1, 2] [0, 1, 2, 3, 4] rfl rfl rfl rfl (by decide) rfl rfl 3 0 rfl rfl rfl rfl hl.1 (Nat.le_of_ble_eq_true rfl) d_R_keep_163 ⟨Nat.zero_le _, Nat.zero_le _⟩ (fun H locs hP hD hS => ?_)
    refine lv_iinc (v := (4 : Int32)) (lv' := [(6, .int (4 : Int32)), (5, .int (0 : Int32)), (4, .int (s_M_areaStart ((u_r 1) &&& (31 : Int32)))), (3, .int ((u_r 1) &&& (31 : Int32))), (0, .ref xR), (1, .ref xM), (2, .int (0 : Int32))]) (k := 0) hx hb d_R_keep_166 hl rfl (by decide) (by decide) rfl (fun ls hl => ?_)
    refine lv_goto (tgt := 139) hx hb d_R_keep_169 (by decide) ?_
    refine lv_iload hx hb d_R_keep_139 (lv_at hl 0 rfl) ?_
    refine lv_iconst (v := (4 : Int32)) hx hb d_R_keep_141 (by decide) ?_
    refine lv_icmp_ge (tgt := 172) hx hb d_R_keep_142 (by decide) (fun _ => ?_) (fun hh => absurd hh (by decide))
    refine lv_aload_n hx hb d_R_keep_172 rfl (lv_at hl 4 rfl) ?_
    refine lv_iload_n hx hb d_R_keep_173 rfl (lv_at hl 3 rfl) ?_
    refine lv_iload_n hx hb d_R_keep_174 rfl (lv_at hl 6 rfl) ?_
    refine lv_if_eq (tgt := 183) hx hb d_R_keep_175 (by decide) (fun _ => ?_) (fun hh => absurd hh (by decide))
    refine lv_iconst (v := (0 : Int32)) hx hb d_R_keep_183 (by decide) ?_
    refine lv_iadd hx hb d_R_keep_184 ?_
    refine lv_sipush (v := (256 : Int32)) hx hb d_R_keep_185 (by decide) ?_
    refine lv_aload_n hx hb d_R_keep_188 rfl (lv_at hl 4 rfl) ?_
    refine zz_get (C := R_R) (T := F_R) (N := 12) (v := .int (u_r 7)) hx hb hts in_R hown hK hP 0 rfl rfl 9 (by decide) mw_5 rfl d_R_keep_189 ?_
    refine lv_imul hx hb d_R_keep_192 ?_
    refine lv_iadd hx hb d_R_keep_193 ?_
    refine lv_aload_n hx hb d_R_keep_194 rfl (lv_at hl 4 rfl) ?_
    refine zz_get (C := R_R) (T := F_R) (N := 12) (v := .int (u_r 8)) hx hb hts in_R hown hK hP 0 rfl rfl 10 (by decide) mw_6 rfl d_R_keep_195 ?_
    have J198_2 : ∀ (vj198_0 : Int32) (ls : Array Slot) (H : Heap) (locs : List Loc), vj198_0 = (if (u_r 8) = 0 then (0 : Int32) else (4096 : Int32)) → lv_has ls 7 [(6, .int (4 : Int32)), (5, .int (0 : Int32)), (4, .int (s_M_areaStart ((u_r 1) &&& (31 : Int32)))), (3, .int ((u_r 1) &&& (31 : Int32))), (0, .ref xR), (1, .ref xM), (2, .int (0 : Int32))] → va_P D classes [oR xR xD xA (upd u_r 1 (s_M_read u_M (s_M_areaStart ((u_r 1) &&& (31 : Int32))))), ar cI xD 8 u_d, ar cI xA 8 u_a, oM xM xW, ar cI xW 512 (s_M_write (s_M_write (s_M_write (s_M_write (s_M_write (s_M_write (s_M_write (s_M_write u_M (s_M_areaStart ((u_r 1) &&& (31 : Int32))) (u_r 3)) ((s_M_areaStart ((u_r 1) &&& (31 : Int32))) + (1 : Int32)) (u_a (ix (7 : Int32)))) ((s_M_areaStart ((u_r 1) &&& (31 : Int32))) + (2 : Int32)) (u_a (ix (2 : Int32)))) ((s_M_areaStart ((u_r 1) &&& (31 : Int32))) + (3 : Int32)) (u_a (ix (3 : Int32)))) (((s_M_areaStart ((u_r 1) &&& (31 : Int32))) + (4 : Int32)) + (0 : Int32)) (u_d (ix (0 : Int32)))) (((s_M_areaStart ((u_r 1) &&& (31 : Int32))) + (4 : Int32)) + (1 : Int32)) (u_d (ix (1 : Int32)))) (((s_M_areaStart ((u_r 1) &&& (31 : Int32))) + (4 : Int32)) + (2 : Int32)) (u_d (ix (2 : Int32)))) (((s_M_areaStart ((u_r 1) &&& (31 : Int32))) + (4 : Int32)) + (3 : Int32)) (u_d (ix (3 : Int32))))] H → va_D A [oR xR xD xA (upd u_r 1 (s_M_read u_M (s_M_areaStart ((u_r 1) &&& (31 : Int32))))), ar cI xD 8 u_d, ar cI xA 8 u_a, oM xM xW, ar cI xW 512 (s_M_write (s_M_write (s_M_write (s_M_write (s_M_write (s_M_write (s_M_write (s_M_write u_M (s_M_areaStart ((u_r 1) &&& (31 : Int32))) (u_r 3)) ((s_M_areaStart ((u_r 1) &&& (31 : Int32))) + (1 : Int32)) (u_a (ix (7 : Int32)))) ((s_M_areaStart ((u_r 1) &&& (31 : Int32))) + (2 : Int32)) (u_a (ix (2 : Int32)))) ((s_M_areaStart ((u_r 1) &&& (31 : Int32))) + (3 : Int32)) (u_a (ix (3 : Int32)))) (((s_M_areaStart ((u_r 1) &&& (31 : Int32))) + (4 : Int32)) + (0 : Int32)) (u_d (ix (0 : Int32)))) (((s_M_areaStart ((u_r 1) &&& (31 : Int32))) + (4 : Int32)) + (1 : Int32)) (u_d (ix (1 : Int32)))) (((s_M_areaStart ((u_r 1) &&& (31 : Int32))) + (4 : Int32)) + (2 : Int32)) (u_d (ix (2 : Int32)))) (((s_M_areaStart ((u_r 1) &&& (31 : Int32))) + (4 : Int32)) + (3 : Int32)) (u_d (ix (3 : Int32))))] → va_S A s.heap H locs → W p l e { frames := 2, cells := 0, slots := 0, locals := 42 } s m args below meth c H locs 0 0 Q (F0 m 208 ls [.int vj198_0, .int ((((u_r 1) &&& (31 : Int32)) + (0 : Int32)) + ((256 : Int32) * (u_r 7))), .ref xR]) := by
      intro vj198_0 ls H locs evj198_0 hl hP hD hS
      subst evj198_0
      refine lv_iadd hx hb d_R_keep_208 ?_
      refine zz_put (C := R_R) (T := F_R) (N := 12) (w' := [oR xR xD xA (upd (upd u_r 1 (s_M_read u_M (s_M_areaStart ((u_r 1) &&& (31 : Int32))))) 3 (((((u_r 1) &&& (31 : Int32)) + (0 : Int32)) + ((256 : Int32) * (u_r 7))) + (if (u_r 8) = 0 then (0 : Int32) else (4096 : Int32)))), ar cI xD 8 u_d, ar cI xA 8 u_a, oM xM xW, ar cI xW 512 (s_M_write (s_M_write (s_M_write (s_M_write (s_M_write (s_M_write (s_M_write (s_M_write u_M (s_M_areaStart ((u_r 1) &&& (31 : Int32))) (u_r 3)) ((s_M_areaStart ((u_r 1) &&& (31 : Int32))) + (1 : Int32)) (u_a (ix (7 : Int32)))) ((s_M_areaStart ((u_r 1) &&& (31 : Int32))) + (2 : Int32)) (u_a (ix (2 : Int32)))) ((s_M_areaStart ((u_r 1) &&& (31 : Int32))) + (3 : Int32)) (u_a (ix (3 : Int32)))) (((s_M_areaStart ((u_r 1) &&& (31 : Int32))) + (4 : Int32)) + (0 : Int32)) (u_d (ix (0 : Int32)))) (((s_M_areaStart ((u_r 1) &&& (31 : Int32))) + (4 : Int32)) + (1 : Int32)) (u_d (ix (1 : Int32)))) (((s_M_areaStart ((u_r 1) &&& (31 : Int32))) + (4 : Int32)) + (2 : Int32)) (u_d (ix (2 : Int32)))) (((s_M_areaStart ((u_r 1) &&& (31 : Int32))) + (4 : Int32)) + (3 : Int32)) (u_d (ix (3 : Int32))))]) hx hb hts in_R ty_R ty_R_ok n_R hown hK hP hD hS 0 rfl rfl 5 (by decide) mw_9 rfl rfl rfl (Nat.le_of_ble_eq_true rfl) d_R_keep_209 rfl (fun H locs hP hD hS => ?_)
      refine lv_aload_n hx hb d_R_keep_212 rfl (lv_at hl 4 rfl) ?_
      refine zz_get (C := R_R) (T := F_R) (N := 12) (v := .int (s_M_read u_M (s_M_areaStart ((u_r 1) &&& (31 : Int32))))) hx hb hts in_R hown hK hP 0 rfl rfl 3 (by decide) mw_8 rfl d_R_keep_213 ?_
      refine lv_bipush (v := (31 : Int32)) hx hb d_R_keep_216 (by decide) ?_
      refine lv_iand hx hb d_R_keep_218 ?_
      refine lv_aload_n hx hb d_R_keep_219 rfl (lv_at hl 4 rfl) ?_
      refine zz_get (C := R_R) (T := F_R) (N := 12) (v := .int (u_r 2)) hx hb hts in_R hown hK hP 0 rfl rfl 4 (by decide) mw_11 rfl d_R_keep_220 ?_
      refine lv_icmp_ne (tgt := 231) hx hb d_R_keep_223 (by decide) (fun h3 => ?_) (fun h3 => ?_)
      ·
        refine lv_iconst (v := (1 : Int32)) hx hb d_R_keep_231 (by decide) ?_
        have hsp : s_R_keepL u_r u_d u_a u_M = ((1 : Int32), upd (upd u_r 1 (s_M_read u_M (s_M_areaStart ((u_r 1) &&& (31 : Int32))))) 3 (((((u_r 1) &&& (31 : Int32)) + (0 : Int32)) + ((256 : Int32) * (u_r 7))) + (if (u_r 8) = 0 then (0 : Int32) else (4096 : Int32))), (s_M_write (s_M_write (s_M_write (s_M_write (s_M_write (s_M_write (s_M_write (s_M_write u_M (s_M_areaStart ((u_r 1) &&& (31 : Int32))) (u_r 3)) ((s_M_areaStart ((u_r 1) &&& (31 : Int32))) + (1 : Int32)) (u_a (ix (7 : Int32)))) ((s_M_areaStart ((u_r 1) &&& (31 : Int32))) + (2 : Int32)) (u_a (ix (2 : Int32)))) ((s_M_areaStart ((u_r 1) &&& (31 : Int32))) + (3 : Int32)) (u_a (ix (3 : Int32)))) (((s_M_areaStart ((u_r 1) &&& (31 : Int32))) + (4 : Int32)) + (0 : Int32)) (u_d (ix (0 : Int32)))) (((s_M_areaStart ((u_r 1) &&& (31 : Int32))) + (4 : Int32)) + (1 : Int32)) (u_d (ix (1 : Int32)))) (((s_M_areaStart ((u_r 1) &&& (31 : Int32))) + (4 : Int32)) + (2 : Int32)) (u_d (ix (2 : Int32)))) (((s_M_areaStart ((u_r 1) &&& (31 : Int32))) + (4 : Int32)) + (3 : Int32)) (u_d (ix (3 : Int32))))) := (by unfold s_R_keepL; rw [if_neg h1, if_neg h3])
        rw [hsp] at hE
        exact hE _ _ _ _ hP hD hS d_R_keep_232
      ·
        refine lv_aload_n hx hb d_R_keep_226 rfl (lv_at hl 4 rfl) ?_
        refine lv_iconst (v := (1 : Int32)) hx hb d_R_keep_227 (by decide) ?_
        refine zz_put (C := R_R) (T := F_R) (N := 12) (w' := [oR xR xD xA (upd (upd (upd u_r 1 (s_M_read u_M (s_M_areaStart ((u_r 1) &&& (31 : Int32))))) 3 (((((u_r 1) &&& (31 : Int32)) + (0 : Int32)) + ((256 : Int32) * (u_r 7))) + (if (u_r 8) = 0 then (0 : Int32) else (4096 : Int32)))) 9 (1 : Int32)), ar cI xD 8 u_d, ar cI xA 8 u_a, oM xM xW, ar cI xW 512 (s_M_write (s_M_write (s_M_write (s_M_write (s_M_write (s_M_write (s_M_write (s_M_write u_M (s_M_areaStart ((u_r 1) &&& (31 : Int32))) (u_r 3)) ((s_M_areaStart ((u_r 1) &&& (31 : Int32))) + (1 : Int32)) (u_a (ix (7 : Int32)))) ((s_M_areaStart ((u_r 1) &&& (31 : Int32))) + (2 : Int32)) (u_a (ix (2 : Int32)))) ((s_M_areaStart ((u_r 1) &&& (31 : Int32))) + (3 : Int32)) (u_a (ix (3 : Int32)))) (((s_M_areaStart ((u_r 1) &&& (31 : Int32))) + (4 : Int32)) + (0 : Int32)) (u_d (ix (0 : Int32)))) (((s_M_areaStart ((u_r 1) &&& (31 : Int32))) + (4 : Int32)) + (1 : Int32)) (u_d (ix (1 : Int32)))) (((s_M_areaStart ((u_r 1) &&& (31 : Int32))) + (4 : Int32)) + (2 : Int32)) (u_d (ix (2 : Int32)))) (((s_M_areaStart ((u_r 1) &&& (31 : Int32))) + (4 : Int32)) + (3 : Int32)) (u_d (ix (3 : Int32))))]) hx hb hts in_R ty_R ty_R_ok n_R hown hK hP hD hS 0 rfl rfl 11 (by decide) mw_12 rfl rfl rfl (Nat.le_of_ble_eq_true rfl) d_R_keep_228 rfl (fun H locs hP hD hS => ?_)
        refine lv_iconst (v := (1 : Int32)) hx hb d_R_keep_231 (by decide) ?_
        have hsp : s_R_keepL u_r u_d u_a u_M = ((1 : Int32), upd (upd (upd u_r 1 (s_M_read u_M (s_M_areaStart ((u_r 1) &&& (31 : Int32))))) 3 (((((u_r 1) &&& (31 : Int32)) + (0 : Int32)) + ((256 : Int32) * (u_r 7))) + (if (u_r 8) = 0 then (0 : Int32) else (4096 : Int32)))) 9 (1 : Int32), (s_M_write (s_M_write (s_M_write (s_M_write (s_M_write (s_M_write (s_M_write (s_M_write u_M (s_M_areaStart ((u_r 1) &&& (31 : Int32))) (u_r 3)) ((s_M_areaStart ((u_r 1) &&& (31 : Int32))) + (1 : Int32)) (u_a (ix (7 : Int32)))) ((s_M_areaStart ((u_r 1) &&& (31 : Int32))) + (2 : Int32)) (u_a (ix (2 : Int32)))) ((s_M_areaStart ((u_r 1) &&& (31 : Int32))) + (3 : Int32)) (u_a (ix (3 : Int32)))) (((s_M_areaStart ((u_r 1) &&& (31 : Int32))) + (4 : Int32)) + (0 : Int32)) (u_d (ix (0 : Int32)))) (((s_M_areaStart ((u_r 1) &&& (31 : Int32))) + (4 : Int32)) + (1 : Int32)) (u_d (ix (1 : Int32)))) (((s_M_areaStart ((u_r 1) &&& (31 : Int32))) + (4 : Int32)) + (2 : Int32)) (u_d (ix (2 : Int32)))) (((s_M_areaStart ((u_r 1) &&& (31 : Int32))) + (4 : Int32)) + (3 : Int32)) (u_d (ix (3 : Int32))))) := (by unfold s_R_keepL; rw [if_neg h1, if_pos h3])
        rw [hsp] at hE
        exact hE _ _ _ _ hP hD hS d_R_keep_232
    refine lv_if_eq (tgt := 207) hx hb d_R_keep_198 (by decide) (fun h2 => ?_) (fun h2 => ?_)
    ·
      refine lv_iconst (v := (0 : Int32)) hx hb d_R_keep_207 (by decide) ?_
      exact J198_2 (0 : Int32) _ _ _ (by rw [if_pos h2]) (lv_sub hl [0, 1, 2, 3, 4, 5, 6] rfl) hP hD hS
    ·
      refine lv_sipush (v := (4096 : Int32)) hx hb d_R_keep_201 (by decide) ?_
      refine lv_goto (tgt := 208) hx hb d_R_keep_204 (by decide) ?_
      exact J198_2 (4096 : Int32) _ _ _ (by rw [if_neg h2]) (lv_sub hl [0, 1, 2, 3, 4, 5, 6] rfl) hP hD hS
  ·
    refine lv_iconst (v := (0 : Int32)) hx hb d_R_keep_15 (by decide) ?_
    have hsp : s_R_keepL u_r u_d u_a u_M = ((0 : Int32), u_r, u_M) := (by unfold s_R_keepL; rw [if_pos h1])
    rw [hsp] at hE
    exact hE _ _ _ _ hP hD hS d_R_keep_16
set_option maxHeartbeats 4000000 in
set_option maxRecDepth 100000 in
theorem k_R_refuseBackL (l : Launch) (D : va_G) (cI : ClassId) (sz : Nat) (xR : Nat) (xD : Nat) (xA : Nat) (u_r : Nat → Int32) (u_d : Nat → Int32) (u_a : Nat → Int32) : zMi l y_R_refuseBack (.code y_R_refuseBack b_R_refuseBack 3 (some .int) :: wd) { frames := 1, cells := 0, slots := 0, locals := 20 } D classes [(cI, .int)] [.ref xR, .int (0 : Int32)] [oR xR xD xA u_r, ar cI xD 8 u_d, ar cI xA 8 u_a] [oR xR xD xA u_r, ar cI xD 8 u_d, ar cI xA 8 u_a] sz (s_R_refuseBackL u_r u_d u_a) := by
  refine met_i (by decide) (Nat.le_of_ble_eq_true rfl) rfl ?_
  intro p e s m args below meth c A Q ls hx hb hml hown hts hK hP hD hS hA hl hE
  have hl : lv_has ls 3 [(0, .ref xR), (1, .int (0 : Int32))] := hl
  have hown : s.vm.findClass R_R = some m.cls := hown
  refine lv_aload_n hx hb d_R_refuseBack_0 rfl (lv_at hl 0 rfl) ?_
  refine zz_get (C := R_R) (T := F_R) (N := 12) (v := .int (u_r 3)) hx hb hts in_R hown hK hP 0 rfl rfl 5 (by decide) mw_9 rfl d_R_refuseBack_1 ?_
  refine lv_bipush (v := (31 : Int32)) hx hb d_R_refuseBack_4 (by decide) ?_
  refine lv_iand hx hb d_R_refuseBack_6 ?_
  refine zz_cS0 (rest := []) ⟨hx, hb, hml, hown, hts⟩ (k_M_isArea l D cI _ ((u_r 3) &&& (31 : Int32))) g_R_refuseBack_M_isArea_41 nd_M_isArea ⟨⟨rfl, rfl⟩, Nat.le_of_ble_eq_true rfl, Nat.le_of_ble_eq_true rfl⟩ hK hP hD hS hA rfl rfl hl.1 (Nat.le_of_ble_eq_true rfl) d_R_refuseBack_7 ⟨Nat.zero_le _, Nat.zero_le _⟩ (fun H locs hP hD hS => ?_)
  refine lv_if_ne (tgt := 15) hx hb d_R_refuseBack_10 (by decide) (fun h1 => ?_) (fun h1 => ?_)
  ·
    refine lv_aload_n hx hb d_R_refuseBack_15 rfl (lv_at hl 0 rfl) ?_
    refine zz_get (C := R_R) (T := F_R) (N := 12) (v := .int (u_r 3)) hx hb hts in_R hown hK hP 0 rfl rfl 5 (by decide) mw_9 rfl d_R_refuseBack_16 ?_
    refine lv_bipush (v := (32 : Int32)) hx hb d_R_refuseBack_19 (by decide) ?_
    refine lv_iand hx hb d_R_refuseBack_21 ?_
    have J22_2 : ∀ (vj22_0 : Int32) (ls : Array Slot) (H : Heap) (locs : List Loc), vj22_0 = (if ((u_r 3) &&& (32 : Int32)) = 0 then (0 : Int32) else (1 : Int32)) → lv_has ls 3 [(0, .ref xR), (1, .int (0 : Int32))] → va_P D classes [oR xR xD xA u_r, ar cI xD 8 u_d, ar cI xA 8 u_a] H → va_D A [oR xR xD xA u_r, ar cI xD 8 u_d, ar cI xA 8 u_a] → va_S A s.heap H locs → W p l e { frames := 1, cells := 0, slots := 0, locals := 20 } s m args below meth c H locs 0 0 Q (F0 m 30 ls [.int vj22_0]) := by
      intro vj22_0 ls H locs evj22_0 hl hP hD hS
      subst evj22_0
      refine lv_istore_n (lv' := [(2, .int (if ((u_r 3) &&& (32 : Int32)) = 0 then (0 : Int32) else (1 : Int32))), (0, .ref xR), (1, .int (0 : Int32))]) hx hb d_R_refuseBack_30 rfl hl (by decide) rfl (fun ls hl => ?_)
      refine lv_iload_n hx hb d_R_refuseBack_31 rfl (lv_at hl 0 rfl) ?_
      refine lv_iload_n hx hb d_R_refuseBack_32 rfl (lv_at hl 2 rfl) ?_
      refine lv_icmp_ne (tgt := 40) hx hb d_R_refuseBack_33 (by decide) (fun h3 => ?_) (fun h3 => ?_)
      ·
        refine lv_sipush (v := (772 : Int32)) hx hb d_R_refuseBack_40 (by decide) ?_
        have hsp : s_R_refuseBackL u_r u_d u_a = (772 : Int32) := (by unfold s_R_refuseBackL; rw [if_neg h1, if_neg h3])
        rw [hsp] at hE
        exact hE _ _ _ _ hP hD hS d_R_refuseBack_43
      ·
        refine lv_iconst (v := (0 : Int32)) hx hb d_R_refuseBack_36 (by decide) ?_
        refine lv_goto (tgt := 43) hx hb d_R_refuseBack_37 (by decide) ?_
        have hsp : s_R_refuseBackL u_r u_d u_a = (0 : Int32) := (by unfold s_R_refuseBackL; rw [if_neg h1, if_pos h3])
        rw [hsp] at hE
        exact hE _ _ _ _ hP hD hS d_R_refuseBack_43
    refine lv_if_eq (tgt := 29) hx hb d_R_refuseBack_22 (by decide) (fun h2 => ?_) (fun h2 => ?_)
    ·
      refine lv_iconst (v := (0 : Int32)) hx hb d_R_refuseBack_29 (by decide) ?_
      exact J22_2 (0 : Int32) _ _ _ (by rw [if_pos h2]) (lv_sub hl [0, 1] rfl) hP hD hS
    ·
      refine lv_iconst (v := (1 : Int32)) hx hb d_R_refuseBack_25 (by decide) ?_
      refine lv_goto (tgt := 30) hx hb d_R_refuseBack_26 (by decide) ?_
      exact J22_2 (1 : Int32) _ _ _ (by rw [if_neg h2]) (lv_sub hl [0, 1] rfl) hP hD hS
  ·
    refine lv_iconst (v := (2 : Int32)) hx hb d_R_refuseBack_13 (by decide) ?_
    have hsp : s_R_refuseBackL u_r u_d u_a = (2 : Int32) := (by unfold s_R_refuseBackL; rw [if_pos h1])
    rw [hsp] at hE
    exact hE _ _ _ _ hP hD hS d_R_refuseBack_14
set_option maxHeartbeats 4000000 in
set_option maxRecDepth 100000 in
theorem k_R_bringBackL (l : Launch) (D : va_G) (cI : ClassId) (sz : Nat) (xR : Nat) (xD : Nat) (xA : Nat) (xM : Nat) (xW : Nat) (u_r : Nat → Int32) (u_d : Nat → Int32) (u_a : Nat → Int32) (u_M : Nat → Int32) : zMv l y_R_bringBack (.code y_R_bringBack b_R_bringBack 7 (none) :: wd) { frames := 2, cells := 0, slots := 0, locals := 42 } D classes [(cI, .int)] [.ref xR, .ref xM, .int (0 : Int32)] [oR xR xD xA u_r, ar cI xD 8 u_d, ar cI xA 8 u_a, oM xM xW, ar cI xW 512 u_M] [oR xR xD xA ((s_R_bringBackL u_r u_d u_a u_M).1), ar cI xD 8 ((s_R_bringBackL u_r u_d u_a u_M).2.1), ar cI xA 8 ((s_R_bringBackL u_r u_d u_a u_M).2.2.1), oM xM xW, ar cI xW 512 ((s_R_bringBackL u_r u_d u_a u_M).2.2.2)] sz := by
  refine met_v (by decide) (Nat.le_of_ble_eq_true rfl) ?_
  intro p e s m args below meth c A Q ls hx hb hml hown hts hK hP hD hS hA hl hE
  have hl : lv_has ls 7 [(0, .ref xR), (1, .ref xM), (2, .int (0 : Int32))] := hl
  have hown : s.vm.findClass R_R = some m.cls := hown
  refine lv_aload_n hx hb d_R_bringBack_0 rfl (lv_at hl 0 rfl) ?_
  refine zz_get (C := R_R) (T := F_R) (N := 12) (v := .int (u_r 3)) hx hb hts in_R hown hK hP 0 rfl rfl 5 (by decide) mw_9 rfl d_R_bringBack_1 ?_
  refine lv_bipush (v := (31 : Int32)) hx hb d_R_bringBack_4 (by decide) ?_
  refine lv_iand hx hb d_R_bringBack_6 ?_
  refine lv_istore_n (lv' := [(3, .int ((u_r 3) &&& (31 : Int32))), (0, .ref xR), (1, .ref xM), (2, .int (0 : Int32))]) hx hb d_R_bringBack_7 rfl hl (by decide) rfl (fun ls hl => ?_)
  refine lv_iload_n hx hb d_R_bringBack_8 rfl (lv_at hl 0 rfl) ?_
  refine zz_cS0 (rest := []) ⟨hx, hb, hml, hown, hts⟩ (k_M_areaStart l D cI _ ((u_r 3) &&& (31 : Int32))) g_R_bringBack_M_areaStart_47 nd_M_areaStart ⟨⟨rfl, rfl⟩, Nat.le_of_ble_eq_true rfl, Nat.le_of_ble_eq_true rfl⟩ hK hP hD hS hA rfl rfl hl.1 (Nat.le_of_ble_eq_true rfl) d_R_bringBack_9 ⟨Nat.zero_le _, Nat.zero_le _⟩ (fun H locs hP hD hS => ?_)
  refine lv_istore (lv' := [(4, .int (s_M_areaStart ((u_r 3) &&& (31 : Int32)))), (3, .int ((u_r 3) &&& (31 : Int32))), (0, .ref xR), (1, .ref xM), (2, .int (0 : Int32))]) hx hb d_R_bringBack_12 hl (by decide) rfl (fun ls hl => ?_)
  refine lv_aload_n hx hb d_R_bringBack_14 rfl (lv_at hl 2 rfl) ?_
  refine lv_aload_n hx hb d_R_bringBack_15 rfl (lv_at hl 3 rfl) ?_
  refine lv_iload hx hb d_R_bringBack_16 (lv_at hl 0 rfl) ?_
  show W p l e _ s m args below meth c _ _ _ _ Q (F0 m 18 ls _)
  refine zz_rVi (rest := [.ref xR]) ⟨hx, hb, hml, hown, hts⟩ (k_M_read l D cI _ xM xW u_M (s_M_areaStart ((u_r 3) &&& (31 : Int32)))) g_R_bringBack_M_read_51 nv_M_read ⟨⟨rfl, rfl⟩, Nat.le_of_ble_eq_true rfl, Nat.le_of_ble_eq_true rfl⟩ hK [0] rfl hP hD hS hA [3, 4] rfl rfl 3 0 rfl rfl rfl rfl hl.1 (Nat.le_of_ble_eq_true rfl) d_R_bringBack_18 ⟨Nat.zero_le _, Nat.zero_le _⟩ (fun H locs hP hD hS => ?_)
  refine zz_put (C := R_R) (T := F_R) (N := 12) (w' := [oR xR xD xA (upd u_r 3 (s_M_read u_M (s_M_areaStart ((u_r 3) &&& (31 : Int32))))), ar cI xD 8 u_d, ar cI xA 8 u_a, oM xM xW, ar cI xW 512 u_M]) hx hb hts in_R ty_R ty_R_ok n_R hown hK hP hD hS 0 rfl rfl 5 (by decide) mw_9 rfl rfl rfl (Nat.le_of_ble_eq_true rfl) d_R_bringBack_21 rfl (fun H locs hP hD hS => ?_)
  refine lv_iload_n hx hb d_R_bringBack_24 rfl (lv_at hl 4 rfl) ?_
  refine lv_if_eq (tgt := 73) hx hb d_R_bringBack_25 (by decide) (fun _ => ?_) (fun hh => absurd hh (by decide))
  refine lv_aload_n hx hb d_R_bringBack_73 rfl (lv_at hl 2 rfl) ?_
  refine zz_get (C := R_R) (T := F_R) (N := 12) (v := .ref xA) hx hb hts in_R hown hK hP 0 rfl rfl 1 (by decide) mw_7 rfl d_R_bringBack_74 ?_
  refine lv_bipush (v := (7 : Int32)) hx hb d_R_bringBack_77 (by decide) ?_
  refine lv_aload_n hx hb d_R_bringBack_79 rfl (lv_at hl 3 rfl) ?_
  refine lv_iload hx hb d_R_bringBack_80 (lv_at hl 0 rfl) ?_
  refine lv_iconst (v := (1 : Int32)) hx hb d_R_bringBack_82 (by decide) ?_
  refine lv_iadd hx hb d_R_bringBack_83 ?_
  refine zz_rVi (rest := [.int (7 : Int32), .ref xA]) ⟨hx, hb, hml, hown, hts⟩ (k_M_read l D cI _ xM xW u_M ((s_M_areaStart ((u_r 3) &&& (31 : Int32))) + (1 : Int32))) g_R_bringBack_M_read_51 nv_M_read ⟨⟨rfl, rfl⟩, Nat.le_of_ble_eq_true rfl, Nat.le_of_ble_eq_true rfl⟩ hK [0] rfl hP hD hS hA [3, 4] rfl rfl 3 0 rfl rfl rfl rfl hl.1 (Nat.le_of_ble_eq_true rfl) d_R_bringBack_84 ⟨Nat.zero_le _, Nat.zero_le _⟩ (fun H locs hP hD hS => ?_)
  refine zz_iast (w' := [oR xR xD xA (upd u_r 3 (s_M_read u_M (s_M_areaStart ((u_r 3) &&& (31 : Int32))))), ar cI xD 8 u_d, ar cI xA 8 (upd u_a (ix (7 : Int32)) (s_M_read u_M ((s_M_areaStart ((u_r 3) &&& (31 : Int32))) + (1 : Int32)))), oM xM xW, ar cI xW 512 u_M]) hx hb hK hP hD hS 2 0 rfl rfl (zz_inc (by decide)) d_R_bringBack_87 rfl (fun H locs hP hD hS => ?_)
  refine lv_aload_n hx hb d_R_bringBack_88 rfl (lv_at hl 2 rfl) ?_
  refine zz_get (C := R_R) (T := F_R) (N := 12) (v := .ref xA) hx hb hts in_R hown hK hP 0 rfl rfl 1 (by decide) mw_7 rfl d_R_bringBack_89 ?_
  show W p l e _ s m args below meth c _ _ _ _ Q (F0 m 92 ls _)
  refine lv_iconst (v := (2 : Int32)) hx hb d_R_bringBack_92 (by decide) ?_
  refine lv_aload_n hx hb d_R_bringBack_93 rfl (lv_at hl 3 rfl) ?_
  refine lv_iload hx hb d_R_bringBack_94 (lv_at hl 0 rfl) ?_
  refine lv_iconst (v := (2 : Int32)) hx hb d_R_bringBack_96 (by decide) ?_
  refine lv_iadd hx hb d_R_bringBack_97 ?_
  refine zz_rVi (rest := [.int (2 : Int32), .ref xA]) ⟨hx, hb, hml, hown, hts⟩ (k_M_read l D cI _ xM xW u_M ((s_M_areaStart ((u_r 3) &&& (31 : Int32))) + (2 : Int32))) g_R_bringBack_M_read_51 nv_M_read ⟨⟨rfl, rfl⟩, Nat.le_of_ble_eq_true rfl, Nat.le_of_ble_eq_true rfl⟩ hK [0] rfl hP hD hS hA [3, 4] rfl rfl 3 0 rfl rfl rfl rfl hl.1 (Nat.le_of_ble_eq_true rfl) d_R_bringBack_98 ⟨Nat.zero_le _, Nat.zero_le _⟩ (fun H locs hP hD hS => ?_)
  refine zz_iast (w' := [oR xR xD xA (upd u_r 3 (s_M_read u_M (s_M_areaStart ((u_r 3) &&& (31 : Int32))))), ar cI xD 8 u_d, ar cI xA 8 (upd (upd u_a (ix (7 : Int32)) (s_M_read u_M ((s_M_areaStart ((u_r 3) &&& (31 : Int32))) + (1 : Int32)))) (ix (2 : Int32)) (s_M_read u_M ((s_M_areaStart ((u_r 3) &&& (31 : Int32))) + (2 : Int32)))), oM xM xW, ar cI xW 512 u_M]) hx hb hK hP hD hS 2 0 rfl rfl (zz_inc (by decide)) d_R_bringBack_101 rfl (fun H locs hP hD hS => ?_)
  refine lv_aload_n hx hb d_R_bringBack_102 rfl (lv_at hl 2 rfl) ?_
  refine zz_get (C := R_R) (T := F_R) (N := 12) (v := .ref xA) hx hb hts in_R hown hK hP 0 rfl rfl 1 (by decide) mw_7 rfl d_R_bringBack_103 ?_
  refine lv_iconst (v := (3 : Int32)) hx hb d_R_bringBack_106 (by decide) ?_
  refine lv_aload_n hx hb d_R_bringBack_107 rfl (lv_at hl 3 rfl) ?_
  refine lv_iload hx hb d_R_bringBack_108 (lv_at hl 0 rfl) ?_
  show W p l e _ s m args below meth c _ _ _ _ Q (F0 m 110 ls _)
  refine lv_iconst (v := (3 : Int32)) hx hb d_R_bringBack_110 (by decide) ?_
  refine lv_iadd hx hb d_R_bringBack_111 ?_
  refine zz_rVi (rest := [.int (3 : Int32), .ref xA]) ⟨hx, hb, hml, hown, hts⟩ (k_M_read l D cI _ xM xW u_M ((s_M_areaStart ((u_r 3) &&& (31 : Int32))) + (3 : Int32))) g_R_bringBack_M_read_51 nv_M_read ⟨⟨rfl, rfl⟩, Nat.le_of_ble_eq_true rfl, Nat.le_of_ble_eq_true rfl⟩ hK [0] rfl hP hD hS hA [3, 4] rfl rfl 3 0 rfl rfl rfl rfl hl.1 (Nat.le_of_ble_eq_true rfl) d_R_bringBack_112 ⟨Nat.zero_le _, Nat.zero_le _⟩ (fun H locs hP hD hS => ?_)
  refine zz_iast (w' := [oR xR xD xA (upd u_r 3 (s_M_read u_M (s_M_areaStart ((u_r 3) &&& (31 : Int32))))), ar cI xD 8 u_d, ar cI xA 8 (upd (upd (upd u_a (ix (7 : Int32)) (s_M_read u_M ((s_M_areaStart ((u_r 3) &&& (31 : Int32))) + (1 : Int32)))) (ix (2 : Int32)) (s_M_read u_M ((s_M_areaStart ((u_r 3) &&& (31 : Int32))) + (2 : Int32)))) (ix (3 : Int32)) (s_M_read u_M ((s_M_areaStart ((u_r 3) &&& (31 : Int32))) + (3 : Int32)))), oM xM xW, ar cI xW 512 u_M]) hx hb hK hP hD hS 2 0 rfl rfl (zz_inc (by decide)) d_R_bringBack_115 rfl (fun H locs hP hD hS => ?_)
  refine lv_iload_n hx hb d_R_bringBack_116 rfl (lv_at hl 4 rfl) ?_
  refine lv_if_eq (tgt := 124) hx hb d_R_bringBack_117 (by decide) (fun _ => ?_) (fun hh => absurd hh (by decide))
  refine lv_iconst (v := (0 : Int32)) hx hb d_R_bringBack_124 (by decide) ?_
  refine lv_istore (lv' := [(5, .int (0 : Int32)), (4, .int (s_M_areaStart ((u_r 3) &&& (31 : Int32)))), (3, .int ((u_r 3) &&& (31 : Int32))), (0, .ref xR), (1, .ref xM), (2, .int (0 : Int32))]) hx hb d_R_bringBack_125 hl (by decide) rfl (fun ls hl => ?_)
  refine lv_iconst (v := (0 : Int32)) hx hb d_R_bringBack_127 (by decide) ?_
  refine lv_istore (lv' := [(6, .int (0 : Int32)), (5, .int (0 : Int32)), (4, .int (s_M_areaStart ((u_r 3) &&& (31 : Int32)))), (3, .int ((u_r 3) &&& (31 : Int32))), (0, .ref xR), (1, .ref xM), (2, .int (0 : Int32))]) hx hb d_R_bringBack_128 hl (by decide) rfl (fun ls hl => ?_)
  refine lv_iload hx hb d_R_bringBack_130 (lv_at hl 0 rfl) ?_
  refine lv_iconst (v := (4 : Int32)) hx hb d_R_bringBack_132 (by decide) ?_
  refine lv_icmp_ge (tgt := 163) hx hb d_R_bringBack_133 (by decide) (fun hh => absurd hh (by decide)) (fun _ => ?_)
  refine lv_aload_n hx hb d_R_bringBack_136 rfl (lv_at hl 4 rfl) ?_
  refine zz_get (C := R_R) (T := F_R) (N := 12) (v := .ref xD) hx hb hts in_R hown hK hP 0 rfl rfl 0 (by decide) mw_10 rfl d_R_bringBack_137 ?_
  refine lv_iload hx hb d_R_bringBack_140 (lv_at hl 1 rfl) ?_
  refine lv_iload hx hb d_R_bringBack_142 (lv_at hl 0 rfl) ?_
  refine lv_iadd hx hb d_R_bringBack_144 ?_
  refine lv_topi (fun zz ez => ?_)
  obtain rfl : zz = (0 : Int32) := ez.trans (by decide)
  refine lv_aload_n hx hb d_R_bringBack_145 rfl (lv_at hl 5 rfl) ?_
  refine lv_iload hx hb d_R_bringBack_146 (lv_at hl 2 rfl) ?_
  refine lv_iconst (v := (4 : Int32)) hx hb d_R_bringBack_148 (by decide) ?_
  refine lv_iadd hx hb d_R_bringBack_149 ?_
  refine lv_iload hx hb d_R_bringBack_150 (lv_at hl 0 rfl) ?_
  refine lv_iadd hx hb d_R_bringBack_152 ?_
  show W p l e _ s m args below meth c _ _ _ _ Q (F0 m 153 ls _)
  refine zz_rVi (rest := [.int (0 : Int32), .ref xD]) ⟨hx, hb, hml, hown, hts⟩ (k_M_read l D cI _ xM xW u_M (((s_M_areaStart ((u_r 3) &&& (31 : Int32))) + (4 : Int32)) + (0 : Int32))) g_R_bringBack_M_read_51 nv_M_read ⟨⟨rfl, rfl⟩, Nat.le_of_ble_eq_true rfl, Nat.le_of_ble_eq_true rfl⟩ hK [0] rfl hP hD hS hA [3, 4] rfl rfl 3 0 rfl rfl rfl rfl hl.1 (Nat.le_of_ble_eq_true rfl) d_R_bringBack_153 ⟨Nat.zero_le _, Nat.zero_le _⟩ (fun H locs hP hD hS => ?_)
  refine zz_iast (w' := [oR xR xD xA (upd u_r 3 (s_M_read u_M (s_M_areaStart ((u_r 3) &&& (31 : Int32))))), ar cI xD 8 (upd u_d (ix (0 : Int32)) (s_M_read u_M (((s_M_areaStart ((u_r 3) &&& (31 : Int32))) + (4 : Int32)) + (0 : Int32)))), ar cI xA 8 (upd (upd (upd u_a (ix (7 : Int32)) (s_M_read u_M ((s_M_areaStart ((u_r 3) &&& (31 : Int32))) + (1 : Int32)))) (ix (2 : Int32)) (s_M_read u_M ((s_M_areaStart ((u_r 3) &&& (31 : Int32))) + (2 : Int32)))) (ix (3 : Int32)) (s_M_read u_M ((s_M_areaStart ((u_r 3) &&& (31 : Int32))) + (3 : Int32)))), oM xM xW, ar cI xW 512 u_M]) hx hb hK hP hD hS 1 0 rfl rfl (zz_inc (by decide)) d_R_bringBack_156 rfl (fun H locs hP hD hS => ?_)
  refine lv_iinc (v := (1 : Int32)) (lv' := [(6, .int (1 : Int32)), (5, .int (0 : Int32)), (4, .int (s_M_areaStart ((u_r 3) &&& (31 : Int32)))), (3, .int ((u_r 3) &&& (31 : Int32))), (0, .ref xR), (1, .ref xM), (2, .int (0 : Int32))]) (k := 0) hx hb d_R_bringBack_157 hl rfl (by decide) (by decide) rfl (fun ls hl => ?_)
  refine lv_goto (tgt := 130) hx hb d_R_bringBack_160 (by decide) ?_
  refine lv_iload hx hb d_R_bringBack_130 (lv_at hl 0 rfl) ?_
  refine lv_iconst (v := (4 : Int32)) hx hb d_R_bringBack_132 (by decide) ?_
  refine lv_icmp_ge (tgt := 163) hx hb d_R_bringBack_133 (by decide) (fun hh => absurd hh (by decide)) (fun _ => ?_)
  refine lv_aload_n hx hb d_R_bringBack_136 rfl (lv_at hl 4 rfl) ?_
  refine zz_get (C := R_R) (T := F_R) (N := 12) (v := .ref xD) hx hb hts in_R hown hK hP 0 rfl rfl 0 (by decide) mw_10 rfl d_R_bringBack_137 ?_
  refine lv_iload hx hb d_R_bringBack_140 (lv_at hl 1 rfl) ?_
  refine lv_iload hx hb d_R_bringBack_142 (lv_at hl 0 rfl) ?_
  refine lv_iadd hx hb d_R_bringBack_144 ?_
  refine lv_topi (fun zz ez => ?_)
  obtain rfl : zz = (1 : Int32) := ez.trans (by decide)
  refine lv_aload_n hx hb d_R_bringBack_145 rfl (lv_at hl 5 rfl) ?_
  refine lv_iload hx hb d_R_bringBack_146 (lv_at hl 2 rfl) ?_
  refine lv_iconst (v := (4 : Int32)) hx hb d_R_bringBack_148 (by decide) ?_
  refine lv_iadd hx hb d_R_bringBack_149 ?_
  refine lv_iload hx hb d_R_bringBack_150 (lv_at hl 0 rfl) ?_
  refine lv_iadd hx hb d_R_bringBack_152 ?_
  show W p l e _ s m args below meth c _ _ _ _ Q (F0 m 153 ls _)
  refine zz_rVi (rest := [.int (1 : Int32), .ref xD]) ⟨hx, hb, hml, hown, hts⟩ (k_M_read l D cI _ xM xW u_M (((s_M_areaStart ((u_r 3) &&& (31 : Int32))) + (4 : Int32)) + (1 : Int32))) g_R_bringBack_M_read_51 nv_M_read ⟨⟨rfl, rfl⟩, Nat.le_of_ble_eq_true rfl, Nat.le_of_ble_eq_true rfl⟩ hK [0] rfl hP hD hS hA [3, 4] rfl rfl 3 0 rfl rfl rfl rfl hl.1 (Nat.le_of_ble_eq_true rfl) d_R_bringBack_153 ⟨Nat.zero_le _, Nat.zero_le _⟩ (fun H locs hP hD hS => ?_)
  refine zz_iast (w' := [oR xR xD xA (upd u_r 3 (s_M_read u_M (s_M_areaStart ((u_r 3) &&& (31 : Int32))))), ar cI xD 8 (upd (upd u_d (ix (0 : Int32)) (s_M_read u_M (((s_M_areaStart ((u_r 3) &&& (31 : Int32))) + (4 : Int32)) + (0 : Int32)))) (ix (1 : Int32)) (s_M_read u_M (((s_M_areaStart ((u_r 3) &&& (31 : Int32))) + (4 : Int32)) + (1 : Int32)))), ar cI xA 8 (upd (upd (upd u_a (ix (7 : Int32)) (s_M_read u_M ((s_M_areaStart ((u_r 3) &&& (31 : Int32))) + (1 : Int32)))) (ix (2 : Int32)) (s_M_read u_M ((s_M_areaStart ((u_r 3) &&& (31 : Int32))) + (2 : Int32)))) (ix (3 : Int32)) (s_M_read u_M ((s_M_areaStart ((u_r 3) &&& (31 : Int32))) + (3 : Int32)))), oM xM xW, ar cI xW 512 u_M]) hx hb hK hP hD hS 1 0 rfl rfl (zz_inc (by decide)) d_R_bringBack_156 rfl (fun H locs hP hD hS => ?_)
  refine lv_iinc (v := (2 : Int32)) (lv' := [(6, .int (2 : Int32)), (5, .int (0 : Int32)), (4, .int (s_M_areaStart ((u_r 3) &&& (31 : Int32)))), (3, .int ((u_r 3) &&& (31 : Int32))), (0, .ref xR), (1, .ref xM), (2, .int (0 : Int32))]) (k := 0) hx hb d_R_bringBack_157 hl rfl (by decide) (by decide) rfl (fun ls hl => ?_)
  refine lv_goto (tgt := 130) hx hb d_R_bringBack_160 (by decide) ?_
  refine lv_iload hx hb d_R_bringBack_130 (lv_at hl 0 rfl) ?_
  refine lv_iconst (v := (4 : Int32)) hx hb d_R_bringBack_132 (by decide) ?_
  refine lv_icmp_ge (tgt := 163) hx hb d_R_bringBack_133 (by decide) (fun hh => absurd hh (by decide)) (fun _ => ?_)
  refine lv_aload_n hx hb d_R_bringBack_136 rfl (lv_at hl 4 rfl) ?_
  refine zz_get (C := R_R) (T := F_R) (N := 12) (v := .ref xD) hx hb hts in_R hown hK hP 0 rfl rfl 0 (by decide) mw_10 rfl d_R_bringBack_137 ?_
  refine lv_iload hx hb d_R_bringBack_140 (lv_at hl 1 rfl) ?_
  refine lv_iload hx hb d_R_bringBack_142 (lv_at hl 0 rfl) ?_
  refine lv_iadd hx hb d_R_bringBack_144 ?_
  refine lv_topi (fun zz ez => ?_)
  obtain rfl : zz = (2 : Int32) := ez.trans (by decide)
  refine lv_aload_n hx hb d_R_bringBack_145 rfl (lv_at hl 5 rfl) ?_
  refine lv_iload hx hb d_R_bringBack_146 (lv_at hl 2 rfl) ?_
  refine lv_iconst (v := (4 : Int32)) hx hb d_R_bringBack_148 (by decide) ?_
  refine lv_iadd hx hb d_R_bringBack_149 ?_
  refine lv_iload hx hb d_R_bringBack_150 (lv_at hl 0 rfl) ?_
  refine lv_iadd hx hb d_R_bringBack_152 ?_
  show W p l e _ s m args below meth c _ _ _ _ Q (F0 m 153 ls _)
  refine zz_rVi (rest := [.int (2 : Int32), .ref xD]) ⟨hx, hb, hml, hown, hts⟩ (k_M_read l D cI _ xM xW u_M (((s_M_areaStart ((u_r 3) &&& (31 : Int32))) + (4 : Int32)) + (2 : Int32))) g_R_bringBack_M_read_51 nv_M_read ⟨⟨rfl, rfl⟩, Nat.le_of_ble_eq_true rfl, Nat.le_of_ble_eq_true rfl⟩ hK [0] rfl hP hD hS hA [3, 4] rfl rfl 3 0 rfl rfl rfl rfl hl.1 (Nat.le_of_ble_eq_true rfl) d_R_bringBack_153 ⟨Nat.zero_le _, Nat.zero_le _⟩ (fun H locs hP hD hS => ?_)
  refine zz_iast (w' := [oR xR xD xA (upd u_r 3 (s_M_read u_M (s_M_areaStart ((u_r 3) &&& (31 : Int32))))), ar cI xD 8 (upd (upd (upd u_d (ix (0 : Int32)) (s_M_read u_M (((s_M_areaStart ((u_r 3) &&& (31 : Int32))) + (4 : Int32)) + (0 : Int32)))) (ix (1 : Int32)) (s_M_read u_M (((s_M_areaStart ((u_r 3) &&& (31 : Int32))) + (4 : Int32)) + (1 : Int32)))) (ix (2 : Int32)) (s_M_read u_M (((s_M_areaStart ((u_r 3) &&& (31 : Int32))) + (4 : Int32)) + (2 : Int32)))), ar cI xA 8 (upd (upd (upd u_a (ix (7 : Int32)) (s_M_read u_M ((s_M_areaStart ((u_r 3) &&& (31 : Int32))) + (1 : Int32)))) (ix (2 : Int32)) (s_M_read u_M ((s_M_areaStart ((u_r 3) &&& (31 : Int32))) + (2 : Int32)))) (ix (3 : Int32)) (s_M_read u_M ((s_M_areaStart ((u_r 3) &&& (31 : Int32))) + (3 : Int32)))), oM xM xW, ar cI xW 512 u_M]) hx hb hK hP hD hS 1 0 rfl rfl (zz_inc (by decide)) d_R_bringBack_156 rfl (fun H locs hP hD hS => ?_)
  refine lv_iinc (v := (3 : Int32)) (lv' := [(6, .int (3 : Int32)), (5, .int (0 : Int32)), (4, .int (s_M_areaStart ((u_r 3) &&& (31 : Int32)))), (3, .int ((u_r 3) &&& (31 : Int32))), (0, .ref xR), (1, .ref xM), (2, .int (0 : Int32))]) (k := 0) hx hb d_R_bringBack_157 hl rfl (by decide) (by decide) rfl (fun ls hl => ?_)
  refine lv_goto (tgt := 130) hx hb d_R_bringBack_160 (by decide) ?_
  refine lv_iload hx hb d_R_bringBack_130 (lv_at hl 0 rfl) ?_
  refine lv_iconst (v := (4 : Int32)) hx hb d_R_bringBack_132 (by decide) ?_
  refine lv_icmp_ge (tgt := 163) hx hb d_R_bringBack_133 (by decide) (fun hh => absurd hh (by decide)) (fun _ => ?_)
  refine lv_aload_n hx hb d_R_bringBack_136 rfl (lv_at hl 4 rfl) ?_
  refine zz_get (C := R_R) (T := F_R) (N := 12) (v := .ref xD) hx hb hts in_R hown hK hP 0 rfl rfl 0 (by decide) mw_10 rfl d_R_bringBack_137 ?_
  refine lv_iload hx hb d_R_bringBack_140 (lv_at hl 1 rfl) ?_
  refine lv_iload hx hb d_R_bringBack_142 (lv_at hl 0 rfl) ?_
  refine lv_iadd hx hb d_R_bringBack_144 ?_
  refine lv_topi (fun zz ez => ?_)
  obtain rfl : zz = (3 : Int32) := ez.trans (by decide)
  refine lv_aload_n hx hb d_R_bringBack_145 rfl (lv_at hl 5 rfl) ?_
  refine lv_iload hx hb d_R_bringBack_146 (lv_at hl 2 rfl) ?_
  refine lv_iconst (v := (4 : Int32)) hx hb d_R_bringBack_148 (by decide) ?_
  refine lv_iadd hx hb d_R_bringBack_149 ?_
  refine lv_iload hx hb d_R_bringBack_150 (lv_at hl 0 rfl) ?_
  refine lv_iadd hx hb d_R_bringBack_152 ?_
  show W p l e _ s m args below meth c _ _ _ _ Q (F0 m 153 ls _)
  refine zz_rVi (rest := [.int (3 : Int32), .ref xD]) ⟨hx, hb, hml, hown, hts⟩ (k_M_read l D cI _ xM xW u_M (((s_M_areaStart ((u_r 3) &&& (31 : Int32))) + (4 : Int32)) + (3 : Int32))) g_R_bringBack_M_read_51 nv_M_read ⟨⟨rfl, rfl⟩, Nat.le_of_ble_eq_true rfl, Nat.le_of_ble_eq_true rfl⟩ hK [0] rfl hP hD hS hA [3, 4] rfl rfl 3 0 rfl rfl rfl rfl hl.1 (Nat.le_of_ble_eq_true rfl) d_R_bringBack_153 ⟨Nat.zero_le _, Nat.zero_le _⟩ (fun H locs hP hD hS => ?_)
  refine zz_iast (w' := [oR xR xD xA (upd u_r 3 (s_M_read u_M (s_M_areaStart ((u_r 3) &&& (31 : Int32))))), ar cI xD 8 (upd (upd (upd (upd u_d (ix (0 : Int32)) (s_M_read u_M (((s_M_areaStart ((u_r 3) &&& (31 : Int32))) + (4 : Int32)) + (0 : Int32)))) (ix (1 : Int32)) (s_M_read u_M (((s_M_areaStart ((u_r 3) &&& (31 : Int32))) + (4 : Int32)) + (1 : Int32)))) (ix (2 : Int32)) (s_M_read u_M (((s_M_areaStart ((u_r 3) &&& (31 : Int32))) + (4 : Int32)) + (2 : Int32)))) (ix (3 : Int32)) (s_M_read u_M (((s_M_areaStart ((u_r 3) &&& (31 : Int32))) + (4 : Int32)) + (3 : Int32)))), ar cI xA 8 (upd (upd (upd u_a (ix (7 : Int32)) (s_M_read u_M ((s_M_areaStart ((u_r 3) &&& (31 : Int32))) + (1 : Int32)))) (ix (2 : Int32)) (s_M_read u_M ((s_M_areaStart ((u_r 3) &&& (31 : Int32))) + (2 : Int32)))) (ix (3 : Int32)) (s_M_read u_M ((s_M_areaStart ((u_r 3) &&& (31 : Int32))) + (3 : Int32)))), oM xM xW, ar cI xW 512 u_M]) hx hb hK hP hD hS 1 0 rfl rfl (zz_inc (by decide)) d_R_bringBack_156 rfl (fun H locs hP hD hS => ?_)
  refine lv_iinc (v := (4 : Int32)) (lv' := [(6, .int (4 : Int32)), (5, .int (0 : Int32)), (4, .int (s_M_areaStart ((u_r 3) &&& (31 : Int32)))), (3, .int ((u_r 3) &&& (31 : Int32))), (0, .ref xR), (1, .ref xM), (2, .int (0 : Int32))]) (k := 0) hx hb d_R_bringBack_157 hl rfl (by decide) (by decide) rfl (fun ls hl => ?_)
  refine lv_goto (tgt := 130) hx hb d_R_bringBack_160 (by decide) ?_
  refine lv_iload hx hb d_R_bringBack_130 (lv_at hl 0 rfl) ?_
  refine lv_iconst (v := (4 : Int32)) hx hb d_R_bringBack_132 (by decide) ?_
  refine lv_icmp_ge (tgt := 163) hx hb d_R_bringBack_133 (by decide) (fun _ => ?_) (fun hh => absurd hh (by decide))
  refine lv_aload_n hx hb d_R_bringBack_163 rfl (lv_at hl 5 rfl) ?_
  refine lv_iload hx hb d_R_bringBack_164 (lv_at hl 2 rfl) ?_
  refine lv_aload_n hx hb d_R_bringBack_166 rfl (lv_at hl 4 rfl) ?_
  refine zz_get (C := R_R) (T := F_R) (N := 12) (v := .int (u_r 1)) hx hb hts in_R hown hK hP 0 rfl rfl 3 (by decide) mw_8 rfl d_R_bringBack_167 ?_
  refine zz_cVv (rest := []) (wr := [oR xR xD xA (upd u_r 3 (s_M_read u_M (s_M_areaStart ((u_r 3) &&& (31 : Int32))))), ar cI xD 8 (upd (upd (upd (upd u_d (ix (0 : Int32)) (s_M_read u_M (((s_M_areaStart ((u_r 3) &&& (31 : Int32))) + (4 : Int32)) + (0 : Int32)))) (ix (1 : Int32)) (s_M_read u_M (((s_M_areaStart ((u_r 3) &&& (31 : Int32))) + (4 : Int32)) + (1 : Int32)))) (ix (2 : Int32)) (s_M_read u_M (((s_M_areaStart ((u_r 3) &&& (31 : Int32))) + (4 : Int32)) + (2 : Int32)))) (ix (3 : Int32)) (s_M_read u_M (((s_M_areaStart ((u_r 3) &&& (31 : Int32))) + (4 : Int32)) + (3 : Int32)))), ar cI xA 8 (upd (upd (upd u_a (ix (7 : Int32)) (s_M_read u_M ((s_M_areaStart ((u_r 3) &&& (31 : Int32))) + (1 : Int32)))) (ix (2 : Int32)) (s_M_read u_M ((s_M_areaStart ((u_r 3) &&& (31 : Int32))) + (2 : Int32)))) (ix (3 : Int32)) (s_M_read u_M ((s_M_areaStart ((u_r 3) &&& (31 : Int32))) + (3 : Int32))))]) (w' := [oR xR xD xA (upd u_r 3 (s_M_read u_M (s_M_areaStart ((u_r 3) &&& (31 : Int32))))), ar cI xD 8 (upd (upd (upd (upd u_d (ix (0 : Int32)) (s_M_read u_M (((s_M_areaStart ((u_r 3) &&& (31 : Int32))) + (4 : Int32)) + (0 : Int32)))) (ix (1 : Int32)) (s_M_read u_M (((s_M_areaStart ((u_r 3) &&& (31 : Int32))) + (4 : Int32)) + (1 : Int32)))) (ix (2 : Int32)) (s_M_read u_M (((s_M_areaStart ((u_r 3) &&& (31 : Int32))) + (4 : Int32)) + (2 : Int32)))) (ix (3 : Int32)) (s_M_read u_M (((s_M_areaStart ((u_r 3) &&& (31 : Int32))) + (4 : Int32)) + (3 : Int32)))), ar cI xA 8 (upd (upd (upd u_a (ix (7 : Int32)) (s_M_read u_M ((s_M_areaStart ((u_r 3) &&& (31 : Int32))) + (1 : Int32)))) (ix (2 : Int32)) (s_M_read u_M ((s_M_areaStart ((u_r 3) &&& (31 : Int32))) + (2 : Int32)))) (ix (3 : Int32)) (s_M_read u_M ((s_M_areaStart ((u_r 3) &&& (31 : Int32))) + (3 : Int32)))), oM xM xW, ar cI xW 512 (s_M_write u_M (s_M_areaStart ((u_r 3) &&& (31 : Int32))) (u_r 1))]) ⟨hx, hb, hml, hown, hts⟩ (k_M_write l D cI _ xM xW u_M (s_M_areaStart ((u_r 3) &&& (31 : Int32))) (u_r 1)) g_R_bringBack_M_write_57 nv_M_write ⟨⟨rfl, rfl⟩, Nat.le_of_ble_eq_true rfl, Nat.le_of_ble_eq_true rfl⟩ hK [0] rfl hP hD hS hA [3, 4] [0, 1, 2] [0, 1, 2, 3, 4] rfl rfl rfl rfl (by decide) rfl rfl 3 0 rfl rfl rfl rfl hl.1 (Nat.le_of_ble_eq_true rfl) d_R_bringBack_170 ⟨Nat.zero_le _, Nat.zero_le _⟩ (fun H locs hP hD hS => ?_)
  refine lv_aload_n hx hb d_R_bringBack_173 rfl (lv_at hl 4 rfl) ?_
  refine lv_iload_n hx hb d_R_bringBack_174 rfl (lv_at hl 3 rfl) ?_
  refine zz_put (C := R_R) (T := F_R) (N := 12) (w' := [oR xR xD xA (upd (upd u_r 3 (s_M_read u_M (s_M_areaStart ((u_r 3) &&& (31 : Int32))))) 1 ((u_r 3) &&& (31 : Int32))), ar cI xD 8 (upd (upd (upd (upd u_d (ix (0 : Int32)) (s_M_read u_M (((s_M_areaStart ((u_r 3) &&& (31 : Int32))) + (4 : Int32)) + (0 : Int32)))) (ix (1 : Int32)) (s_M_read u_M (((s_M_areaStart ((u_r 3) &&& (31 : Int32))) + (4 : Int32)) + (1 : Int32)))) (ix (2 : Int32)) (s_M_read u_M (((s_M_areaStart ((u_r 3) &&& (31 : Int32))) + (4 : Int32)) + (2 : Int32)))) (ix (3 : Int32)) (s_M_read u_M (((s_M_areaStart ((u_r 3) &&& (31 : Int32))) + (4 : Int32)) + (3 : Int32)))), ar cI xA 8 (upd (upd (upd u_a (ix (7 : Int32)) (s_M_read u_M ((s_M_areaStart ((u_r 3) &&& (31 : Int32))) + (1 : Int32)))) (ix (2 : Int32)) (s_M_read u_M ((s_M_areaStart ((u_r 3) &&& (31 : Int32))) + (2 : Int32)))) (ix (3 : Int32)) (s_M_read u_M ((s_M_areaStart ((u_r 3) &&& (31 : Int32))) + (3 : Int32)))), oM xM xW, ar cI xW 512 (s_M_write u_M (s_M_areaStart ((u_r 3) &&& (31 : Int32))) (u_r 1))]) hx hb hts in_R ty_R ty_R_ok n_R hown hK hP hD hS 0 rfl rfl 3 (by decide) mw_8 rfl rfl rfl (Nat.le_of_ble_eq_true rfl) d_R_bringBack_175 rfl (fun H locs hP hD hS => ?_)
  have hsp : s_R_bringBackL u_r u_d u_a u_M = (upd (upd u_r 3 (s_M_read u_M (s_M_areaStart ((u_r 3) &&& (31 : Int32))))) 1 ((u_r 3) &&& (31 : Int32)), upd (upd (upd (upd u_d (ix (0 : Int32)) (s_M_read u_M (((s_M_areaStart ((u_r 3) &&& (31 : Int32))) + (4 : Int32)) + (0 : Int32)))) (ix (1 : Int32)) (s_M_read u_M (((s_M_areaStart ((u_r 3) &&& (31 : Int32))) + (4 : Int32)) + (1 : Int32)))) (ix (2 : Int32)) (s_M_read u_M (((s_M_areaStart ((u_r 3) &&& (31 : Int32))) + (4 : Int32)) + (2 : Int32)))) (ix (3 : Int32)) (s_M_read u_M (((s_M_areaStart ((u_r 3) &&& (31 : Int32))) + (4 : Int32)) + (3 : Int32))), upd (upd (upd u_a (ix (7 : Int32)) (s_M_read u_M ((s_M_areaStart ((u_r 3) &&& (31 : Int32))) + (1 : Int32)))) (ix (2 : Int32)) (s_M_read u_M ((s_M_areaStart ((u_r 3) &&& (31 : Int32))) + (2 : Int32)))) (ix (3 : Int32)) (s_M_read u_M ((s_M_areaStart ((u_r 3) &&& (31 : Int32))) + (3 : Int32))), (s_M_write u_M (s_M_areaStart ((u_r 3) &&& (31 : Int32))) (u_r 1))) := rfl
  rw [hsp] at hE
  exact hE _ _ _ _ hP hD hS d_R_bringBack_178
set_option maxHeartbeats 4000000 in
set_option maxRecDepth 100000 in
theorem k_G_change (l : Launch) (D : va_G) (cI : ClassId) (sz : Nat) (xG : Nat) (xL : Nat) (xH : Nat) (xI : Nat) (u_lo : Nat → Int32) (u_hi : Nat → Int32) (u_ri : Nat → Int32) (a1 : Int32) (a2 : Int32) (a3 : Int32) (a4 : Int32) (hi : vp_in a1 6) : zMv l y_G_change (.code y_G_change b_G_change 5 (none) :: wd) { frames := 0, cells := 0, slots := 0, locals := 0 } D classes [(cI, .int)] [.ref xG, .int a1, .int a2, .int a3, .int a4] [oG xG xL xH xI, ar cI xL 6 u_lo, ar cI xH 6 u_hi, ar cI xI 6 u_ri] [oG xG xL xH xI, ar cI xL 6 ((s_G_change u_lo u_hi u_ri a1 a2 a3 a4).1), ar cI xH 6 ((s_G_change u_lo u_hi u_ri a1 a2 a3 a4).2.1), ar cI xI 6 ((s_G_change u_lo u_hi u_ri a1 a2 a3 a4).2.2)] sz := by
  refine met_v (by decide) (Nat.le_of_ble_eq_true rfl) ?_
  intro p e s m args below meth c A Q ls hx hb hml hown hts hK hP hD hS hA hl hE
  have hl : lv_has ls 5 [(0, .ref xG), (1, .int a1), (2, .int a2), (3, .int a3), (4, .int a4)] := hl
  have hown : s.vm.findClass R_G = some m.cls := hown
  refine lv_aload_n hx hb d_G_change_0 rfl (lv_at hl 0 rfl) ?_
  refine zz_get (C := R_G) (T := F_G) (N := 3) (v := .ref xL) hx hb hts in_G hown hK hP 0 rfl rfl 0 (by decide) mw_13 rfl d_G_change_1 ?_
  refine lv_iload_n hx hb d_G_change_4 rfl (lv_at hl 1 rfl) ?_
  refine lv_iload_n hx hb d_G_change_5 rfl (lv_at hl 2 rfl) ?_
  refine zz_iast (w' := [oG xG xL xH xI, ar cI xL 6 (upd u_lo (ix a1) a2), ar cI xH 6 u_hi, ar cI xI 6 u_ri]) hx hb hK hP hD hS 1 0 rfl rfl hi d_G_change_6 rfl (fun H locs hP hD hS => ?_)
  refine lv_aload_n hx hb d_G_change_7 rfl (lv_at hl 0 rfl) ?_
  refine zz_get (C := R_G) (T := F_G) (N := 3) (v := .ref xH) hx hb hts in_G hown hK hP 0 rfl rfl 1 (by decide) mw_14 rfl d_G_change_8 ?_
  refine lv_iload_n hx hb d_G_change_11 rfl (lv_at hl 1 rfl) ?_
  refine lv_iload_n hx hb d_G_change_12 rfl (lv_at hl 3 rfl) ?_
  refine zz_iast (w' := [oG xG xL xH xI, ar cI xL 6 (upd u_lo (ix a1) a2), ar cI xH 6 (upd u_hi (ix a1) a3), ar cI xI 6 u_ri]) hx hb hK hP hD hS 2 0 rfl rfl hi d_G_change_13 rfl (fun H locs hP hD hS => ?_)
  refine lv_aload_n hx hb d_G_change_14 rfl (lv_at hl 0 rfl) ?_
  show W p l e _ s m args below meth c _ _ _ _ Q (F0 m 15 ls _)
  refine zz_get (C := R_G) (T := F_G) (N := 3) (v := .ref xI) hx hb hts in_G hown hK hP 0 rfl rfl 2 (by decide) mw_15 rfl d_G_change_15 ?_
  refine lv_iload_n hx hb d_G_change_18 rfl (lv_at hl 1 rfl) ?_
  refine lv_iload hx hb d_G_change_19 (lv_at hl 4 rfl) ?_
  refine zz_iast (w' := [oG xG xL xH xI, ar cI xL 6 (upd u_lo (ix a1) a2), ar cI xH 6 (upd u_hi (ix a1) a3), ar cI xI 6 (upd u_ri (ix a1) a4)]) hx hb hK hP hD hS 3 0 rfl rfl hi d_G_change_21 rfl (fun H locs hP hD hS => ?_)
  have hsp : s_G_change u_lo u_hi u_ri a1 a2 a3 a4 = (upd u_lo (ix a1) a2, upd u_hi (ix a1) a3, upd u_ri (ix a1) a4) := rfl
  rw [hsp] at hE
  exact hE _ _ _ _ hP hD hS d_G_change_22
set_option maxHeartbeats 4000000 in
set_option maxRecDepth 100000 in
theorem k_G_covers (l : Launch) (D : va_G) (cI : ClassId) (sz : Nat) (xG : Nat) (xL : Nat) (xH : Nat) (xI : Nat) (u_lo : Nat → Int32) (u_hi : Nat → Int32) (u_ri : Nat → Int32) (a1 : Int32) (a2 : Int32) (hi : vp_in a1 6) : zMi l y_G_covers (.code y_G_covers b_G_covers 3 (some .boolean) :: wd) { frames := 0, cells := 0, slots := 0, locals := 0 } D classes [(cI, .int)] [.ref xG, .int a1, .int a2] [oG xG xL xH xI, ar cI xL 6 u_lo, ar cI xH 6 u_hi, ar cI xI 6 u_ri] [oG xG xL xH xI, ar cI xL 6 u_lo, ar cI xH 6 u_hi, ar cI xI 6 u_ri] sz (s_G_covers u_lo u_hi u_ri a1 a2) := by
  refine met_i (by decide) (Nat.le_of_ble_eq_true rfl) (zz_nar (bo_G_covers u_lo u_hi u_ri a1 a2)) ?_
  intro p e s m args below meth c A Q ls hx hb hml hown hts hK hP hD hS hA hl hE
  have hl : lv_has ls 3 [(0, .ref xG), (1, .int a1), (2, .int a2)] := hl
  have hown : s.vm.findClass R_G = some m.cls := hown
  refine lv_iload_n hx hb d_G_covers_0 rfl (lv_at hl 2 rfl) ?_
  refine lv_aload_n hx hb d_G_covers_1 rfl (lv_at hl 0 rfl) ?_
  refine zz_get (C := R_G) (T := F_G) (N := 3) (v := .ref xL) hx hb hts in_G hown hK hP 0 rfl rfl 0 (by decide) mw_13 rfl d_G_covers_2 ?_
  refine lv_iload_n hx hb d_G_covers_5 rfl (lv_at hl 1 rfl) ?_
  refine va_iald hx hb hK hP 1 0 rfl rfl hi d_G_covers_6 ?_
  refine lv_icmp_lt (tgt := 24) hx hb d_G_covers_7 (by decide) (fun h1 => ?_) (fun h1 => ?_)
  ·
    refine lv_iconst (v := (0 : Int32)) hx hb d_G_covers_24 (by decide) ?_
    have hsp : s_G_covers u_lo u_hi u_ri a1 a2 = (0 : Int32) := (by unfold s_G_covers; rw [if_pos h1])
    rw [hsp] at hE
    exact hE _ _ _ _ hP hD hS d_G_covers_25
  ·
    refine lv_iload_n hx hb d_G_covers_10 rfl (lv_at hl 2 rfl) ?_
    refine lv_aload_n hx hb d_G_covers_11 rfl (lv_at hl 0 rfl) ?_
    refine zz_get (C := R_G) (T := F_G) (N := 3) (v := .ref xH) hx hb hts in_G hown hK hP 0 rfl rfl 1 (by decide) mw_14 rfl d_G_covers_12 ?_
    refine lv_iload_n hx hb d_G_covers_15 rfl (lv_at hl 1 rfl) ?_
    refine va_iald hx hb hK hP 2 0 rfl rfl hi d_G_covers_16 ?_
    refine lv_icmp_ge (tgt := 24) hx hb d_G_covers_17 (by decide) (fun h2 => ?_) (fun h2 => ?_)
    ·
      refine lv_iconst (v := (0 : Int32)) hx hb d_G_covers_24 (by decide) ?_
      have hsp : s_G_covers u_lo u_hi u_ri a1 a2 = (0 : Int32) := (by unfold s_G_covers; rw [if_neg h1, if_pos h2])
      rw [hsp] at hE
      exact hE _ _ _ _ hP hD hS d_G_covers_25
    ·
      refine lv_iconst (v := (1 : Int32)) hx hb d_G_covers_20 (by decide) ?_
      refine lv_goto (tgt := 25) hx hb d_G_covers_21 (by decide) ?_
      have hsp : s_G_covers u_lo u_hi u_ri a1 a2 = (1 : Int32) := (by unfold s_G_covers; rw [if_neg h1, if_neg h2])
      rw [hsp] at hE
      exact hE _ _ _ _ hP hD hS d_G_covers_25
set_option maxHeartbeats 4000000 in
set_option maxRecDepth 100000 in
theorem k_G_letsRun (l : Launch) (D : va_G) (cI : ClassId) (sz : Nat) (xG : Nat) (xL : Nat) (xH : Nat) (xI : Nat) (u_lo : Nat → Int32) (u_hi : Nat → Int32) (u_ri : Nat → Int32) (a1 : Int32) (a2 : Int32) (hs : a1 = 0 ∨ a1 = 1) : zMi l y_G_letsRun (.code y_G_letsRun b_G_letsRun 3 (some .boolean) :: wd) { frames := 1, cells := 0, slots := 0, locals := 22 } D classes [(cI, .int)] [.ref xG, .int a1, .int a2] [oG xG xL xH xI, ar cI xL 6 u_lo, ar cI xH 6 u_hi, ar cI xI 6 u_ri] [oG xG xL xH xI, ar cI xL 6 u_lo, ar cI xH 6 u_hi, ar cI xI 6 u_ri] sz (s_G_letsRun u_lo u_hi u_ri a1 a2) := by
  refine met_i (by decide) (Nat.le_of_ble_eq_true rfl) (zz_nar (bo_G_letsRun u_lo u_hi u_ri a1 a2)) ?_
  intro p e s m args below meth c A Q ls hx hb hml hown hts hK hP hD hS hA hl hE
  have hl : lv_has ls 3 [(0, .ref xG), (1, .int a1), (2, .int a2)] := hl
  have hown : s.vm.findClass R_G = some m.cls := hown
  refine lv_aload_n hx hb d_G_letsRun_0 rfl (lv_at hl 0 rfl) ?_
  refine lv_iload_n hx hb d_G_letsRun_1 rfl (lv_at hl 1 rfl) ?_
  refine lv_iconst (v := (3 : Int32)) hx hb d_G_letsRun_2 (by decide) ?_
  refine lv_imul hx hb d_G_letsRun_3 ?_
  refine lv_iconst (v := (2 : Int32)) hx hb d_G_letsRun_4 (by decide) ?_
  refine lv_iadd hx hb d_G_letsRun_5 ?_
  refine lv_iload_n hx hb d_G_letsRun_6 rfl (lv_at hl 2 rfl) ?_
  refine zz_rVi (rest := []) ⟨hx, hb, hml, hown, hts⟩ (k_G_covers l D cI _ xG xL xH xI u_lo u_hi u_ri ((a1 * (3 : Int32)) + (2 : Int32)) a2 (in_set2 hs)) g_G_letsRun_G_covers_21 nv_G_covers ⟨⟨rfl, rfl⟩, Nat.le_of_ble_eq_true rfl, Nat.le_of_ble_eq_true rfl⟩ hK [0] rfl hP hD hS hA [0, 1, 2, 3] rfl rfl 0 2 rfl rfl rfl rfl hl.1 (Nat.le_of_ble_eq_true rfl) d_G_letsRun_7 ⟨Nat.zero_le _, Nat.zero_le _⟩ (fun H locs hP hD hS => ?_)
  have hsp : s_G_letsRun u_lo u_hi u_ri a1 a2 = (s_G_covers u_lo u_hi u_ri ((a1 * (3 : Int32)) + (2 : Int32)) a2) := rfl
  rw [hsp] at hE
  exact hE _ _ _ _ hP hD hS d_G_letsRun_10
set_option maxHeartbeats 4000000 in
set_option maxRecDepth 100000 in
theorem k_G_letsUse (l : Launch) (D : va_G) (cI : ClassId) (sz : Nat) (xG : Nat) (xL : Nat) (xH : Nat) (xI : Nat) (u_lo : Nat → Int32) (u_hi : Nat → Int32) (u_ri : Nat → Int32) (a1 : Int32) (a2 : Int32) (a3 : Int32) (hs : a1 = 0 ∨ a1 = 1) : zMi l y_G_letsUse (.code y_G_letsUse b_G_letsUse 6 (some .boolean) :: wd) { frames := 1, cells := 0, slots := 0, locals := 22 } D classes [(cI, .int)] [.ref xG, .int a1, .int a2, .int a3] [oG xG xL xH xI, ar cI xL 6 u_lo, ar cI xH 6 u_hi, ar cI xI 6 u_ri] [oG xG xL xH xI, ar cI xL 6 u_lo, ar cI xH 6 u_hi, ar cI xI 6 u_ri] sz (s_G_letsUse u_lo u_hi u_ri a1 a2 a3) := by
  refine met_i (by decide) (Nat.le_of_ble_eq_true rfl) (zz_nar (bo_G_letsUse u_lo u_hi u_ri a1 a2 a3)) ?_
  intro p e s m args below meth c A Q ls hx hb hml hown hts hK hP hD hS hA hl hE
  have hl : lv_has ls 6 [(0, .ref xG), (1, .int a1), (2, .int a2), (3, .int a3)] := hl
  have hown : s.vm.findClass R_G = some m.cls := hown
  refine lv_iconst (v := (0 : Int32)) hx hb d_G_letsUse_0 (by decide) ?_
  refine lv_istore (lv' := [(4, .int (0 : Int32)), (0, .ref xG), (1, .int a1), (2, .int a2), (3, .int a3)]) hx hb d_G_letsUse_1 hl (by decide) rfl (fun ls hl => ?_)
  refine lv_iload hx hb d_G_letsUse_3 (lv_at hl 0 rfl) ?_
  refine lv_iconst (v := (2 : Int32)) hx hb d_G_letsUse_5 (by decide) ?_
  refine lv_icmp_ge (tgt := 47) hx hb d_G_letsUse_6 (by decide) (fun hh => absurd hh (by decide)) (fun _ => ?_)
  refine lv_iload_n hx hb d_G_letsUse_9 rfl (lv_at hl 2 rfl) ?_
  refine lv_iconst (v := (3 : Int32)) hx hb d_G_letsUse_10 (by decide) ?_
  refine lv_imul hx hb d_G_letsUse_11 ?_
  refine lv_iload hx hb d_G_letsUse_12 (lv_at hl 0 rfl) ?_
  refine lv_iadd hx hb d_G_letsUse_14 ?_
  refine lv_istore (lv' := [(5, .int ((a1 * (3 : Int32)) + (0 : Int32))), (4, .int (0 : Int32)), (0, .ref xG), (1, .int a1), (2, .int a2), (3, .int a3)]) hx hb d_G_letsUse_15 hl (by decide) rfl (fun ls hl => ?_)
  refine lv_aload_n hx hb d_G_letsUse_17 rfl (lv_at hl 2 rfl) ?_
  refine lv_iload hx hb d_G_letsUse_18 (lv_at hl 0 rfl) ?_
  refine lv_iload_n hx hb d_G_letsUse_20 rfl (lv_at hl 4 rfl) ?_
  refine zz_rVi (rest := []) ⟨hx, hb, hml, hown, hts⟩ (k_G_covers l D cI _ xG xL xH xI u_lo u_hi u_ri ((a1 * (3 : Int32)) + (0 : Int32)) a2 (in_set0 hs)) g_G_letsUse_G_covers_21 nv_G_covers ⟨⟨rfl, rfl⟩, Nat.le_of_ble_eq_true rfl, Nat.le_of_ble_eq_true rfl⟩ hK [0] rfl hP hD hS hA [0, 1, 2, 3] rfl rfl 0 2 rfl rfl rfl rfl hl.1 (Nat.le_of_ble_eq_true rfl) d_G_letsUse_21 ⟨Nat.zero_le _, Nat.zero_le _⟩ (fun H locs hP hD hS => ?_)
  refine lv_if_eq (tgt := 41) hx hb d_G_letsUse_24 (by decide) (fun h1 => ?_) (fun h1 => ?_)
  ·
    refine lv_iinc (v := (1 : Int32)) (lv' := [(4, .int (1 : Int32)), (5, .int ((a1 * (3 : Int32)) + (0 : Int32))), (0, .ref xG), (1, .int a1), (2, .int a2), (3, .int a3)]) (k := 1) hx hb d_G_letsUse_41 hl rfl (by decide) (by decide) rfl (fun ls hl => ?_)
    refine lv_goto (tgt := 3) hx hb d_G_letsUse_44 (by decide) ?_
    refine lv_iload hx hb d_G_letsUse_3 (lv_at hl 0 rfl) ?_
    refine lv_iconst (v := (2 : Int32)) hx hb d_G_letsUse_5 (by decide) ?_
    refine lv_icmp_ge (tgt := 47) hx hb d_G_letsUse_6 (by decide) (fun hh => absurd hh (by decide)) (fun _ => ?_)
    refine lv_iload_n hx hb d_G_letsUse_9 rfl (lv_at hl 3 rfl) ?_
    refine lv_iconst (v := (3 : Int32)) hx hb d_G_letsUse_10 (by decide) ?_
    refine lv_imul hx hb d_G_letsUse_11 ?_
    refine lv_iload hx hb d_G_letsUse_12 (lv_at hl 0 rfl) ?_
    refine lv_iadd hx hb d_G_letsUse_14 ?_
    refine lv_istore (lv' := [(5, .int ((a1 * (3 : Int32)) + (1 : Int32))), (4, .int (1 : Int32)), (0, .ref xG), (1, .int a1), (2, .int a2), (3, .int a3)]) hx hb d_G_letsUse_15 hl (by decide) rfl (fun ls hl => ?_)
    refine lv_aload_n hx hb d_G_letsUse_17 rfl (lv_at hl 2 rfl) ?_
    refine lv_iload hx hb d_G_letsUse_18 (lv_at hl 0 rfl) ?_
    refine lv_iload_n hx hb d_G_letsUse_20 rfl (lv_at hl 4 rfl) ?_
    refine zz_rVi (rest := []) ⟨hx, hb, hml, hown, hts⟩ (k_G_covers l D cI _ xG xL xH xI u_lo u_hi u_ri ((a1 * (3 : Int32)) + (1 : Int32)) a2 (in_set1 hs)) g_G_letsUse_G_covers_21 nv_G_covers ⟨⟨rfl, rfl⟩, Nat.le_of_ble_eq_true rfl, Nat.le_of_ble_eq_true rfl⟩ hK [0] rfl hP hD hS hA [0, 1, 2, 3] rfl rfl 0 2 rfl rfl rfl rfl hl.1 (Nat.le_of_ble_eq_true rfl) d_G_letsUse_21 ⟨Nat.zero_le _, Nat.zero_le _⟩ (fun H locs hP hD hS => ?_)
    refine lv_if_eq (tgt := 41) hx hb d_G_letsUse_24 (by decide) (fun h2 => ?_) (fun h2 => ?_)
    ·
      refine lv_iinc (v := (2 : Int32)) (lv' := [(4, .int (2 : Int32)), (5, .int ((a1 * (3 : Int32)) + (1 : Int32))), (0, .ref xG), (1, .int a1), (2, .int a2), (3, .int a3)]) (k := 1) hx hb d_G_letsUse_41 hl rfl (by decide) (by decide) rfl (fun ls hl => ?_)
      refine lv_goto (tgt := 3) hx hb d_G_letsUse_44 (by decide) ?_
      refine lv_iload hx hb d_G_letsUse_3 (lv_at hl 0 rfl) ?_
      refine lv_iconst (v := (2 : Int32)) hx hb d_G_letsUse_5 (by decide) ?_
      refine lv_icmp_ge (tgt := 47) hx hb d_G_letsUse_6 (by decide) (fun _ => ?_) (fun hh => absurd hh (by decide))
      refine lv_iconst (v := (0 : Int32)) hx hb d_G_letsUse_47 (by decide) ?_
      have hsp : s_G_letsUse u_lo u_hi u_ri a1 a2 a3 = (0 : Int32) := (by unfold s_G_letsUse; rw [if_pos h1, if_pos h2])
      rw [hsp] at hE
      exact hE _ _ _ _ hP hD hS d_G_letsUse_48
    ·
      refine lv_aload_n hx hb d_G_letsUse_27 rfl (lv_at hl 2 rfl) ?_
      refine zz_get (C := R_G) (T := F_G) (N := 3) (v := .ref xI) hx hb hts in_G hown hK hP 0 rfl rfl 2 (by decide) mw_15 rfl d_G_letsUse_28 ?_
      refine lv_iload hx hb d_G_letsUse_31 (lv_at hl 0 rfl) ?_
      refine va_iald hx hb hK hP 3 0 rfl rfl (in_set1 hs) d_G_letsUse_33 ?_
      refine lv_iload_n hx hb d_G_letsUse_34 rfl (lv_at hl 5 rfl) ?_
      refine lv_iand hx hb d_G_letsUse_35 ?_
      refine lv_if_eq (tgt := 41) hx hb d_G_letsUse_36 (by decide) (fun h3 => ?_) (fun h3 => ?_)
      ·
        refine lv_iinc (v := (2 : Int32)) (lv' := [(4, .int (2 : Int32)), (5, .int ((a1 * (3 : Int32)) + (1 : Int32))), (0, .ref xG), (1, .int a1), (2, .int a2), (3, .int a3)]) (k := 1) hx hb d_G_letsUse_41 hl rfl (by decide) (by decide) rfl (fun ls hl => ?_)
        refine lv_goto (tgt := 3) hx hb d_G_letsUse_44 (by decide) ?_
        refine lv_iload hx hb d_G_letsUse_3 (lv_at hl 0 rfl) ?_
        refine lv_iconst (v := (2 : Int32)) hx hb d_G_letsUse_5 (by decide) ?_
        refine lv_icmp_ge (tgt := 47) hx hb d_G_letsUse_6 (by decide) (fun _ => ?_) (fun hh => absurd hh (by decide))
        refine lv_iconst (v := (0 : Int32)) hx hb d_G_letsUse_47 (by decide) ?_
        have hsp : s_G_letsUse u_lo u_hi u_ri a1 a2 a3 = (0 : Int32) := (by unfold s_G_letsUse; rw [if_pos h1, if_neg h2, if_pos h3])
        rw [hsp] at hE
        exact hE _ _ _ _ hP hD hS d_G_letsUse_48
      ·
        refine lv_iconst (v := (1 : Int32)) hx hb d_G_letsUse_39 (by decide) ?_
        have hsp : s_G_letsUse u_lo u_hi u_ri a1 a2 a3 = (1 : Int32) := (by unfold s_G_letsUse; rw [if_pos h1, if_neg h2, if_neg h3])
        rw [hsp] at hE
        exact hE _ _ _ _ hP hD hS d_G_letsUse_40
  ·
    refine lv_aload_n hx hb d_G_letsUse_27 rfl (lv_at hl 2 rfl) ?_
    refine zz_get (C := R_G) (T := F_G) (N := 3) (v := .ref xI) hx hb hts in_G hown hK hP 0 rfl rfl 2 (by decide) mw_15 rfl d_G_letsUse_28 ?_
    refine lv_iload hx hb d_G_letsUse_31 (lv_at hl 0 rfl) ?_
    refine va_iald hx hb hK hP 3 0 rfl rfl (in_set0 hs) d_G_letsUse_33 ?_
    refine lv_iload_n hx hb d_G_letsUse_34 rfl (lv_at hl 5 rfl) ?_
    refine lv_iand hx hb d_G_letsUse_35 ?_
    refine lv_if_eq (tgt := 41) hx hb d_G_letsUse_36 (by decide) (fun h4 => ?_) (fun h4 => ?_)
    ·
      refine lv_iinc (v := (1 : Int32)) (lv' := [(4, .int (1 : Int32)), (5, .int ((a1 * (3 : Int32)) + (0 : Int32))), (0, .ref xG), (1, .int a1), (2, .int a2), (3, .int a3)]) (k := 1) hx hb d_G_letsUse_41 hl rfl (by decide) (by decide) rfl (fun ls hl => ?_)
      refine lv_goto (tgt := 3) hx hb d_G_letsUse_44 (by decide) ?_
      refine lv_iload hx hb d_G_letsUse_3 (lv_at hl 0 rfl) ?_
      refine lv_iconst (v := (2 : Int32)) hx hb d_G_letsUse_5 (by decide) ?_
      refine lv_icmp_ge (tgt := 47) hx hb d_G_letsUse_6 (by decide) (fun hh => absurd hh (by decide)) (fun _ => ?_)
      refine lv_iload_n hx hb d_G_letsUse_9 rfl (lv_at hl 3 rfl) ?_
      refine lv_iconst (v := (3 : Int32)) hx hb d_G_letsUse_10 (by decide) ?_
      refine lv_imul hx hb d_G_letsUse_11 ?_
      refine lv_iload hx hb d_G_letsUse_12 (lv_at hl 0 rfl) ?_
      refine lv_iadd hx hb d_G_letsUse_14 ?_
      refine lv_istore (lv' := [(5, .int ((a1 * (3 : Int32)) + (1 : Int32))), (4, .int (1 : Int32)), (0, .ref xG), (1, .int a1), (2, .int a2), (3, .int a3)]) hx hb d_G_letsUse_15 hl (by decide) rfl (fun ls hl => ?_)
      refine lv_aload_n hx hb d_G_letsUse_17 rfl (lv_at hl 2 rfl) ?_
      refine lv_iload hx hb d_G_letsUse_18 (lv_at hl 0 rfl) ?_
      refine lv_iload_n hx hb d_G_letsUse_20 rfl (lv_at hl 4 rfl) ?_
      refine zz_rVi (rest := []) ⟨hx, hb, hml, hown, hts⟩ (k_G_covers l D cI _ xG xL xH xI u_lo u_hi u_ri ((a1 * (3 : Int32)) + (1 : Int32)) a2 (in_set1 hs)) g_G_letsUse_G_covers_21 nv_G_covers ⟨⟨rfl, rfl⟩, Nat.le_of_ble_eq_true rfl, Nat.le_of_ble_eq_true rfl⟩ hK [0] rfl hP hD hS hA [0, 1, 2, 3] rfl rfl 0 2 rfl rfl rfl rfl hl.1 (Nat.le_of_ble_eq_true rfl) d_G_letsUse_21 ⟨Nat.zero_le _, Nat.zero_le _⟩ (fun H locs hP hD hS => ?_)
      refine lv_if_eq (tgt := 41) hx hb d_G_letsUse_24 (by decide) (fun h5 => ?_) (fun h5 => ?_)
      ·
        refine lv_iinc (v := (2 : Int32)) (lv' := [(4, .int (2 : Int32)), (5, .int ((a1 * (3 : Int32)) + (1 : Int32))), (0, .ref xG), (1, .int a1), (2, .int a2), (3, .int a3)]) (k := 1) hx hb d_G_letsUse_41 hl rfl (by decide) (by decide) rfl (fun ls hl => ?_)
        refine lv_goto (tgt := 3) hx hb d_G_letsUse_44 (by decide) ?_
        refine lv_iload hx hb d_G_letsUse_3 (lv_at hl 0 rfl) ?_
        refine lv_iconst (v := (2 : Int32)) hx hb d_G_letsUse_5 (by decide) ?_
        refine lv_icmp_ge (tgt := 47) hx hb d_G_letsUse_6 (by decide) (fun _ => ?_) (fun hh => absurd hh (by decide))
        refine lv_iconst (v := (0 : Int32)) hx hb d_G_letsUse_47 (by decide) ?_
        have hsp : s_G_letsUse u_lo u_hi u_ri a1 a2 a3 = (0 : Int32) := (by unfold s_G_letsUse; rw [if_neg h1, if_pos h4, if_pos h5])
        rw [hsp] at hE
        exact hE _ _ _ _ hP hD hS d_G_letsUse_48
      ·
        refine lv_aload_n hx hb d_G_letsUse_27 rfl (lv_at hl 2 rfl) ?_
        refine zz_get (C := R_G) (T := F_G) (N := 3) (v := .ref xI) hx hb hts in_G hown hK hP 0 rfl rfl 2 (by decide) mw_15 rfl d_G_letsUse_28 ?_
        refine lv_iload hx hb d_G_letsUse_31 (lv_at hl 0 rfl) ?_
        refine va_iald hx hb hK hP 3 0 rfl rfl (in_set1 hs) d_G_letsUse_33 ?_
        refine lv_iload_n hx hb d_G_letsUse_34 rfl (lv_at hl 5 rfl) ?_
        refine lv_iand hx hb d_G_letsUse_35 ?_
        refine lv_if_eq (tgt := 41) hx hb d_G_letsUse_36 (by decide) (fun h6 => ?_) (fun h6 => ?_)
        ·
          refine lv_iinc (v := (2 : Int32)) (lv' := [(4, .int (2 : Int32)), (5, .int ((a1 * (3 : Int32)) + (1 : Int32))), (0, .ref xG), (1, .int a1), (2, .int a2), (3, .int a3)]) (k := 1) hx hb d_G_letsUse_41 hl rfl (by decide) (by decide) rfl (fun ls hl => ?_)
          refine lv_goto (tgt := 3) hx hb d_G_letsUse_44 (by decide) ?_
          refine lv_iload hx hb d_G_letsUse_3 (lv_at hl 0 rfl) ?_
          refine lv_iconst (v := (2 : Int32)) hx hb d_G_letsUse_5 (by decide) ?_
          refine lv_icmp_ge (tgt := 47) hx hb d_G_letsUse_6 (by decide) (fun _ => ?_) (fun hh => absurd hh (by decide))
          refine lv_iconst (v := (0 : Int32)) hx hb d_G_letsUse_47 (by decide) ?_
          have hsp : s_G_letsUse u_lo u_hi u_ri a1 a2 a3 = (0 : Int32) := (by unfold s_G_letsUse; rw [if_neg h1, if_pos h4, if_neg h5, if_pos h6])
          rw [hsp] at hE
          exact hE _ _ _ _ hP hD hS d_G_letsUse_48
        ·
          refine lv_iconst (v := (1 : Int32)) hx hb d_G_letsUse_39 (by decide) ?_
          have hsp : s_G_letsUse u_lo u_hi u_ri a1 a2 a3 = (1 : Int32) := (by unfold s_G_letsUse; rw [if_neg h1, if_pos h4, if_neg h5, if_neg h6])
          rw [hsp] at hE
          exact hE _ _ _ _ hP hD hS d_G_letsUse_40
    ·
      refine lv_iconst (v := (1 : Int32)) hx hb d_G_letsUse_39 (by decide) ?_
      have hsp : s_G_letsUse u_lo u_hi u_ri a1 a2 a3 = (1 : Int32) := (by unfold s_G_letsUse; rw [if_neg h1, if_neg h4])
      rw [hsp] at hE
      exact hE _ _ _ _ hP hD hS d_G_letsUse_40
set_option maxHeartbeats 4000000 in
set_option maxRecDepth 100000 in
theorem k_T_has (l : Launch) (D : va_G) (cI : ClassId) (sz : Nat) (a1 : Int32) : zMi l y_T_has (.code y_T_has b_T_has 1 (some .boolean) :: wd) { frames := 0, cells := 0, slots := 0, locals := 0 } D classes [] [.int a1] [] [] sz (s_T_has a1) := by
  refine met_i (by decide) (Nat.le_of_ble_eq_true rfl) (zz_nar (bo_T_has a1)) ?_
  intro p e s m args below meth c A Q ls hx hb hml hown hts hK hP hD hS hA hl hE
  have hl : lv_has ls 1 [(0, .int a1)] := hl
  have hown : s.vm.findClass R_T = some m.cls := hown
  refine lv_iload_n hx hb d_T_has_0 rfl (lv_at hl 0 rfl) ?_
  refine lv_iconst (v := (1 : Int32)) hx hb d_T_has_1 (by decide) ?_
  refine lv_icmp_lt (tgt := 15) hx hb d_T_has_2 (by decide) (fun h1 => ?_) (fun h1 => ?_)
  ·
    refine lv_iconst (v := (0 : Int32)) hx hb d_T_has_15 (by decide) ?_
    have hsp : s_T_has a1 = (0 : Int32) := (by unfold s_T_has; rw [if_pos h1])
    rw [hsp] at hE
    exact hE _ _ _ _ hP hD hS d_T_has_16
  ·
    refine lv_iload_n hx hb d_T_has_5 rfl (lv_at hl 0 rfl) ?_
    refine lv_bipush (v := (15 : Int32)) hx hb d_T_has_6 (by decide) ?_
    refine lv_icmp_gt (tgt := 15) hx hb d_T_has_8 (by decide) (fun h2 => ?_) (fun h2 => ?_)
    ·
      refine lv_iconst (v := (0 : Int32)) hx hb d_T_has_15 (by decide) ?_
      have hsp : s_T_has a1 = (0 : Int32) := (by unfold s_T_has; rw [if_neg h1, if_pos h2])
      rw [hsp] at hE
      exact hE _ _ _ _ hP hD hS d_T_has_16
    ·
      refine lv_iconst (v := (1 : Int32)) hx hb d_T_has_11 (by decide) ?_
      refine lv_goto (tgt := 16) hx hb d_T_has_12 (by decide) ?_
      have hsp : s_T_has a1 = (1 : Int32) := (by unfold s_T_has; rw [if_neg h1, if_neg h2])
      rw [hsp] at hE
      exact hE _ _ _ _ hP hD hS d_T_has_16
set_option maxHeartbeats 4000000 in
set_option maxRecDepth 100000 in
theorem k_T_isPending (l : Launch) (D : va_G) (cI : ClassId) (sz : Nat) (xT : Nat) (u_t : Nat → Int32) (a1 : Int32) : zMi l y_T_isPending (.code y_T_isPending b_T_isPending 2 (some .boolean) :: wd) { frames := 0, cells := 0, slots := 0, locals := 0 } D classes [(cI, .int)] [.ref xT, .int a1] [oT xT u_t] [oT xT u_t] sz (s_T_isPending u_t a1) := by
  refine met_i (by decide) (Nat.le_of_ble_eq_true rfl) (zz_nar (bo_T_isPending u_t a1)) ?_
  intro p e s m args below meth c A Q ls hx hb hml hown hts hK hP hD hS hA hl hE
  have hl : lv_has ls 2 [(0, .ref xT), (1, .int a1)] := hl
  have hown : s.vm.findClass R_T = some m.cls := hown
  refine lv_aload_n hx hb d_T_isPending_0 rfl (lv_at hl 0 rfl) ?_
  refine zz_get (C := R_T) (T := F_T) (N := 5) (v := .int (u_t 3)) hx hb hts in_T hown hK hP 0 rfl rfl 3 (by decide) mw_16 rfl d_T_isPending_1 ?_
  refine lv_iload_n hx hb d_T_isPending_4 rfl (lv_at hl 1 rfl) ?_
  refine lv_ishr hx hb d_T_isPending_5 ?_
  refine lv_iconst (v := (1 : Int32)) hx hb d_T_isPending_6 (by decide) ?_
  refine lv_iand hx hb d_T_isPending_7 ?_
  refine lv_iconst (v := (1 : Int32)) hx hb d_T_isPending_8 (by decide) ?_
  refine lv_icmp_ne (tgt := 16) hx hb d_T_isPending_9 (by decide) (fun h1 => ?_) (fun h1 => ?_)
  ·
    refine lv_iconst (v := (0 : Int32)) hx hb d_T_isPending_16 (by decide) ?_
    have hsp : s_T_isPending u_t a1 = (0 : Int32) := (by unfold s_T_isPending; rw [if_neg h1])
    rw [hsp] at hE
    exact hE _ _ _ _ hP hD hS d_T_isPending_17
  ·
    refine lv_iconst (v := (1 : Int32)) hx hb d_T_isPending_12 (by decide) ?_
    refine lv_goto (tgt := 17) hx hb d_T_isPending_13 (by decide) ?_
    have hsp : s_T_isPending u_t a1 = (1 : Int32) := (by unfold s_T_isPending; rw [if_pos h1])
    rw [hsp] at hE
    exact hE _ _ _ _ hP hD hS d_T_isPending_17
set_option maxHeartbeats 4000000 in
set_option maxRecDepth 100000 in
theorem k_T_ask (l : Launch) (D : va_G) (cI : ClassId) (sz : Nat) (xT : Nat) (u_t : Nat → Int32) (a1 : Int32) : zMv l y_T_ask (.code y_T_ask b_T_ask 2 (none) :: wd) { frames := 0, cells := 0, slots := 0, locals := 0 } D classes [(cI, .int)] [.ref xT, .int a1] [oT xT u_t] [oT xT (s_T_ask u_t a1)] sz := by
  refine met_v (by decide) (Nat.le_of_ble_eq_true rfl) ?_
  intro p e s m args below meth c A Q ls hx hb hml hown hts hK hP hD hS hA hl hE
  have hl : lv_has ls 2 [(0, .ref xT), (1, .int a1)] := hl
  have hown : s.vm.findClass R_T = some m.cls := hown
  refine lv_aload_n hx hb d_T_ask_0 rfl (lv_at hl 0 rfl) ?_
  refine lv_dup hx hb d_T_ask_1 rfl ?_
  refine zz_get (C := R_T) (T := F_T) (N := 5) (v := .int (u_t 3)) hx hb hts in_T hown hK hP 0 rfl rfl 3 (by decide) mw_16 rfl d_T_ask_2 ?_
  refine lv_iconst (v := (1 : Int32)) hx hb d_T_ask_5 (by decide) ?_
  refine lv_iload_n hx hb d_T_ask_6 rfl (lv_at hl 1 rfl) ?_
  refine lv_ishl hx hb d_T_ask_7 ?_
  refine lv_ior hx hb d_T_ask_8 ?_
  refine zz_put (C := R_T) (T := F_T) (N := 5) (w' := [oT xT (upd u_t 3 ((u_t 3) ||| ((1 : Int32) <<< (a1 &&& 31))))]) hx hb hts in_T ty_T ty_T_ok n_T hown hK hP hD hS 0 rfl rfl 3 (by decide) mw_16 rfl rfl rfl (Nat.le_of_ble_eq_true rfl) d_T_ask_9 rfl (fun H locs hP hD hS => ?_)
  have hsp : s_T_ask u_t a1 = (upd u_t 3 ((u_t 3) ||| ((1 : Int32) <<< (a1 &&& 31)))) := rfl
  rw [hsp] at hE
  exact hE _ _ _ _ hP hD hS d_T_ask_12
set_option maxHeartbeats 4000000 in
set_option maxRecDepth 100000 in
theorem k_T_tick (l : Launch) (D : va_G) (cI : ClassId) (sz : Nat) (xT : Nat) (u_t : Nat → Int32) : zMv l y_T_tick (.code y_T_tick b_T_tick 1 (none) :: wd) { frames := 1, cells := 0, slots := 0, locals := 21 } D classes [(cI, .int)] [.ref xT] [oT xT u_t] [oT xT (s_T_tick u_t)] sz := by
  refine met_v (by decide) (Nat.le_of_ble_eq_true rfl) ?_
  intro p e s m args below meth c A Q ls hx hb hml hown hts hK hP hD hS hA hl hE
  have hl : lv_has ls 1 [(0, .ref xT)] := hl
  have hown : s.vm.findClass R_T = some m.cls := hown
  refine lv_aload_n hx hb d_T_tick_0 rfl (lv_at hl 0 rfl) ?_
  refine lv_dup hx hb d_T_tick_1 rfl ?_
  refine zz_get (C := R_T) (T := F_T) (N := 5) (v := .int (u_t 0)) hx hb hts in_T hown hK hP 0 rfl rfl 0 (by decide) mw_17 rfl d_T_tick_2 ?_
  refine lv_iconst (v := (1 : Int32)) hx hb d_T_tick_5 (by decide) ?_
  refine lv_iadd hx hb d_T_tick_6 ?_
  refine zz_put (C := R_T) (T := F_T) (N := 5) (w' := [oT xT (upd u_t 0 ((u_t 0) + (1 : Int32)))]) hx hb hts in_T ty_T ty_T_ok n_T hown hK hP hD hS 0 rfl rfl 0 (by decide) mw_17 rfl rfl rfl (Nat.le_of_ble_eq_true rfl) d_T_tick_7 rfl (fun H locs hP hD hS => ?_)
  refine lv_aload_n hx hb d_T_tick_10 rfl (lv_at hl 0 rfl) ?_
  refine zz_get (C := R_T) (T := F_T) (N := 5) (v := .int (u_t 1)) hx hb hts in_T hown hK hP 0 rfl rfl 1 (by decide) mw_18 rfl d_T_tick_11 ?_
  refine lv_if_le (tgt := 37) hx hb d_T_tick_14 (by decide) (fun h1 => ?_) (fun h1 => ?_)
  ·
    have hsp : s_T_tick u_t = (upd u_t 0 ((u_t 0) + (1 : Int32))) := (by unfold s_T_tick; rw [if_pos h1])
    rw [hsp] at hE
    exact hE _ _ _ _ hP hD hS d_T_tick_37
  ·
    refine lv_aload_n hx hb d_T_tick_17 rfl (lv_at hl 0 rfl) ?_
    refine zz_get (C := R_T) (T := F_T) (N := 5) (v := .int ((u_t 0) + (1 : Int32))) hx hb hts in_T hown hK hP 0 rfl rfl 0 (by decide) mw_17 rfl d_T_tick_18 ?_
    refine lv_aload_n hx hb d_T_tick_21 rfl (lv_at hl 0 rfl) ?_
    refine zz_get (C := R_T) (T := F_T) (N := 5) (v := .int (u_t 1)) hx hb hts in_T hown hK hP 0 rfl rfl 1 (by decide) mw_18 rfl d_T_tick_22 ?_
    refine lv_irem hx hb d_T_tick_25 (zz_le0 h1) ?_
    refine lv_if_ne (tgt := 37) hx hb d_T_tick_26 (by decide) (fun h2 => ?_) (fun h2 => ?_)
    ·
      have hsp : s_T_tick u_t = (upd u_t 0 ((u_t 0) + (1 : Int32))) := (by unfold s_T_tick; rw [if_neg h1, if_neg h2])
      rw [hsp] at hE
      exact hE _ _ _ _ hP hD hS d_T_tick_37
    ·
      refine lv_aload_n hx hb d_T_tick_29 rfl (lv_at hl 0 rfl) ?_
      refine lv_aload_n hx hb d_T_tick_30 rfl (lv_at hl 0 rfl) ?_
      refine zz_get (C := R_T) (T := F_T) (N := 5) (v := .int (u_t 2)) hx hb hts in_T hown hK hP 0 rfl rfl 2 (by decide) mw_19 rfl d_T_tick_31 ?_
      refine zz_cVv (rest := []) (wr := []) (w' := [oT xT (s_T_ask (upd u_t 0 ((u_t 0) + (1 : Int32))) (u_t 2))]) ⟨hx, hb, hml, hown, hts⟩ (k_T_ask l D cI _ xT (upd u_t 0 ((u_t 0) + (1 : Int32))) (u_t 2)) g_T_tick_T_ask_24 nv_T_ask ⟨⟨rfl, rfl⟩, Nat.le_of_ble_eq_true rfl, Nat.le_of_ble_eq_true rfl⟩ hK [0] rfl hP hD hS hA [0] [] [0] rfl rfl rfl rfl (by decide) rfl rfl 0 3 rfl rfl rfl rfl hl.1 (Nat.le_of_ble_eq_true rfl) d_T_tick_34 ⟨Nat.zero_le _, Nat.zero_le _⟩ (fun H locs hP hD hS => ?_)
      have hsp : s_T_tick u_t = (s_T_ask (upd u_t 0 ((u_t 0) + (1 : Int32))) (u_t 2)) := (by unfold s_T_tick; rw [if_neg h1, if_pos h2])
      rw [hsp] at hE
      exact hE _ _ _ _ hP hD hS d_T_tick_37
set_option maxHeartbeats 4000000 in
set_option maxRecDepth 100000 in
theorem k_T_take (l : Launch) (D : va_G) (cI : ClassId) (sz : Nat) (xT : Nat) (u_t : Nat → Int32) (a1 : Int32) : zMv l y_T_take (.code y_T_take b_T_take 2 (none) :: wd) { frames := 0, cells := 0, slots := 0, locals := 0 } D classes [(cI, .int)] [.ref xT, .int a1] [oT xT u_t] [oT xT (s_T_take u_t a1)] sz := by
  refine met_v (by decide) (Nat.le_of_ble_eq_true rfl) ?_
  intro p e s m args below meth c A Q ls hx hb hml hown hts hK hP hD hS hA hl hE
  have hl : lv_has ls 2 [(0, .ref xT), (1, .int a1)] := hl
  have hown : s.vm.findClass R_T = some m.cls := hown
  refine lv_aload_n hx hb d_T_take_0 rfl (lv_at hl 0 rfl) ?_
  refine lv_dup hx hb d_T_take_1 rfl ?_
  refine zz_get (C := R_T) (T := F_T) (N := 5) (v := .int (u_t 3)) hx hb hts in_T hown hK hP 0 rfl rfl 3 (by decide) mw_16 rfl d_T_take_2 ?_
  refine lv_iconst (v := (1 : Int32)) hx hb d_T_take_5 (by decide) ?_
  refine lv_iload_n hx hb d_T_take_6 rfl (lv_at hl 1 rfl) ?_
  refine lv_ishl hx hb d_T_take_7 ?_
  refine lv_iconst (v := (-1 : Int32)) hx hb d_T_take_8 (by decide) ?_
  refine lv_ixor hx hb d_T_take_9 ?_
  refine lv_iand hx hb d_T_take_10 ?_
  refine zz_put (C := R_T) (T := F_T) (N := 5) (w' := [oT xT (upd u_t 3 ((u_t 3) &&& (((1 : Int32) <<< (a1 &&& 31)) ^^^ (-1 : Int32))))]) hx hb hts in_T ty_T ty_T_ok n_T hown hK hP hD hS 0 rfl rfl 3 (by decide) mw_16 rfl rfl rfl (Nat.le_of_ble_eq_true rfl) d_T_take_11 rfl (fun H locs hP hD hS => ?_)
  refine lv_aload_n hx hb d_T_take_14 rfl (lv_at hl 0 rfl) ?_
  show W p l e _ s m args below meth c _ _ _ _ Q (F0 m 15 ls _)
  refine lv_dup hx hb d_T_take_15 rfl ?_
  refine zz_get (C := R_T) (T := F_T) (N := 5) (v := .int (u_t 4)) hx hb hts in_T hown hK hP 0 rfl rfl 4 (by decide) mw_20 rfl d_T_take_16 ?_
  refine lv_iconst (v := (1 : Int32)) hx hb d_T_take_19 (by decide) ?_
  refine lv_iadd hx hb d_T_take_20 ?_
  refine zz_put (C := R_T) (T := F_T) (N := 5) (w' := [oT xT (upd (upd u_t 3 ((u_t 3) &&& (((1 : Int32) <<< (a1 &&& 31)) ^^^ (-1 : Int32)))) 4 ((u_t 4) + (1 : Int32)))]) hx hb hts in_T ty_T ty_T_ok n_T hown hK hP hD hS 0 rfl rfl 4 (by decide) mw_20 rfl rfl rfl (Nat.le_of_ble_eq_true rfl) d_T_take_21 rfl (fun H locs hP hD hS => ?_)
  have hsp : s_T_take u_t a1 = (upd (upd u_t 3 ((u_t 3) &&& (((1 : Int32) <<< (a1 &&& 31)) ^^^ (-1 : Int32)))) 4 ((u_t 4) + (1 : Int32))) := rfl
  rw [hsp] at hE
  exact hE _ _ _ _ hP hD hS d_T_take_24
set_option maxHeartbeats 4000000 in
set_option maxRecDepth 100000 in
theorem k_T_greatest (l : Launch) (D : va_G) (cI : ClassId) (sz : Nat) (xT : Nat) (u_t : Nat → Int32) : zMi l y_T_greatest (.code y_T_greatest b_T_greatest 2 (some .int) :: wd) { frames := 1, cells := 0, slots := 0, locals := 21 } D classes [(cI, .int)] [.ref xT] [oT xT u_t] [oT xT u_t] sz (s_T_greatest u_t) := by
  refine met_i (by decide) (Nat.le_of_ble_eq_true rfl) rfl ?_
  intro p e s m args below meth c A Q ls hx hb hml hown hts hK hP hD hS hA hl hE
  have hl : lv_has ls 2 [(0, .ref xT)] := hl
  have hown : s.vm.findClass R_T = some m.cls := hown
  have LOOP : ∀ (n : Nat) (j : Nat) (ls : Array Slot) (H : Heap) (locs : List Loc), s_T_greatest u_t = s_T_greatest_loop u_t n j → j < n → j ≤ 15 → lv_has ls 2 [(1, .int (nI j)), (0, .ref xT)] → va_P D classes [oT xT u_t] H → va_D A [oT xT u_t] → va_S A s.heap H locs → W p l e { frames := 1, cells := 0, slots := 0, locals := 21 } s m args below meth c H locs 0 0 Q (F0 m 3 ls []) := by
    intro n
    induction n with
    | zero => intro j ls H locs hres hf hj hl hP hD hS; exfalso; omega
    | succ n ih =>
      intro j ls H locs hres hf hj hl hP hD hS
      refine lv_iload_n hx hb d_T_greatest_3 rfl (lv_at hl 0 rfl) ?_
      refine lv_if_le (tgt := 21) hx hb d_T_greatest_4 (by decide) (fun h1 => ?_) (fun h1 => ?_)
      ·
        refine lv_iload_n hx hb d_T_greatest_21 rfl (lv_at hl 0 rfl) ?_
        have hsp : s_T_greatest u_t = (nI j) := (hres.trans (by rw [s_T_greatest_loop]; rw [if_pos h1]))
        rw [hsp] at hE
        exact hE _ _ _ _ hP hD hS d_T_greatest_22
      ·
        refine lv_aload_n hx hb d_T_greatest_7 rfl (lv_at hl 1 rfl) ?_
        refine lv_iload_n hx hb d_T_greatest_8 rfl (lv_at hl 0 rfl) ?_
        refine zz_rVi (rest := []) ⟨hx, hb, hml, hown, hts⟩ (k_T_isPending l D cI _ xT u_t (nI j)) g_T_greatest_T_isPending_28 nv_T_isPending ⟨⟨rfl, rfl⟩, Nat.le_of_ble_eq_true rfl, Nat.le_of_ble_eq_true rfl⟩ hK [0] rfl hP hD hS hA [0] rfl rfl 0 3 rfl rfl rfl rfl hl.1 (Nat.le_of_ble_eq_true rfl) d_T_greatest_9 ⟨Nat.zero_le _, Nat.zero_le _⟩ (fun H locs hP hD hS => ?_)
        refine lv_if_ne (tgt := 21) hx hb d_T_greatest_12 (by decide) (fun h2 => ?_) (fun h2 => ?_)
        ·
          refine lv_iload_n hx hb d_T_greatest_21 rfl (lv_at hl 0 rfl) ?_
          have hsp : s_T_greatest u_t = (nI j) := (hres.trans (by rw [s_T_greatest_loop]; rw [if_neg h1, if_neg h2]))
          rw [hsp] at hE
          exact hE _ _ _ _ hP hD hS d_T_greatest_22
        ·
          refine lv_iinc (v := (nI (j - 1))) (lv' := [(1, .int (nI (j - 1))), (0, .ref xT)]) (k := 0) hx hb d_T_greatest_15 hl rfl (zz_dec h1) (by decide) rfl (fun ls hl => ?_)
          refine lv_goto (tgt := 3) hx hb d_T_greatest_18 (by decide) ?_
          have hq := zz_posj h1
          exact ih (j - 1) _ _ _ (hres.trans (by rw [s_T_greatest_loop]; rw [if_neg h1, if_pos h2])) (by omega) (by omega) (lv_sub hl [0, 1] rfl) hP hD hS
  refine lv_bipush (v := (15 : Int32)) hx hb d_T_greatest_0 (by decide) ?_
  refine lv_istore_n (lv' := [(1, .int (15 : Int32)), (0, .ref xT)]) hx hb d_T_greatest_2 rfl hl (by decide) rfl (fun ls hl => ?_)
  exact LOOP 16 15 _ _ _ rfl (by decide) (by decide) (lv_sub hl [0, 1] rfl) hP hD hS
