set_option maxHeartbeats 4000000 in
set_option maxRecDepth 100000 in
theorem k_M_has (l : Launch) (D : va_G) (cI : ClassId) (sz : Nat) (a1 : Int32) : zMi l y_M_has (.code y_M_has b_M_has 1 (some .boolean) :: wd) { frames := 0, cells := 0, slots := 0, locals := 0 } D classes [] [.int a1] [] [] sz (s_M_has a1) := by
  refine met_i (by decide) (Nat.le_of_ble_eq_true rfl) (zz_nar (bo_M_has a1)) ?_
  intro p e s m args below meth c A Q ls hx hb hml hown hts hK hP hD hS hA hl hE
  have hl : lv_has ls 1 [(0, .int a1)] := hl
  have hown : s.vm.findClass R_M = some m.cls := hown
  refine lv_iload_n hx hb d_M_has_0 rfl (lv_at hl 0 rfl) ?_
  refine lv_if_lt (tgt := 15) hx hb d_M_has_1 (by decide) (fun h1 => ?_) (fun h1 => ?_)
  ·
    refine lv_iconst (v := (0 : Int32)) hx hb d_M_has_15 (by decide) ?_
    have hsp : s_M_has a1 = (0 : Int32) := (by unfold s_M_has; rw [if_pos h1])
    rw [hsp] at hE
    exact hE _ _ _ _ hP hD hS d_M_has_16
  ·
    refine lv_iload_n hx hb d_M_has_4 rfl (lv_at hl 0 rfl) ?_
    refine lv_sipush (v := (512 : Int32)) hx hb d_M_has_5 (by decide) ?_
    refine lv_icmp_ge (tgt := 15) hx hb d_M_has_8 (by decide) (fun h2 => ?_) (fun h2 => ?_)
    ·
      refine lv_iconst (v := (0 : Int32)) hx hb d_M_has_15 (by decide) ?_
      have hsp : s_M_has a1 = (0 : Int32) := (by unfold s_M_has; rw [if_neg h1, if_pos h2])
      rw [hsp] at hE
      exact hE _ _ _ _ hP hD hS d_M_has_16
    ·
      refine lv_iconst (v := (1 : Int32)) hx hb d_M_has_11 (by decide) ?_
      refine lv_goto (tgt := 16) hx hb d_M_has_12 (by decide) ?_
      have hsp : s_M_has a1 = (1 : Int32) := (by unfold s_M_has; rw [if_neg h1, if_neg h2])
      rw [hsp] at hE
      exact hE _ _ _ _ hP hD hS d_M_has_16
set_option maxHeartbeats 4000000 in
set_option maxRecDepth 100000 in
theorem k_M_isArea (l : Launch) (D : va_G) (cI : ClassId) (sz : Nat) (a1 : Int32) : zMi l y_M_isArea (.code y_M_isArea b_M_isArea 1 (some .boolean) :: wd) { frames := 0, cells := 0, slots := 0, locals := 0 } D classes [] [.int a1] [] [] sz (s_M_isArea a1) := by
  refine met_i (by decide) (Nat.le_of_ble_eq_true rfl) (zz_nar (bo_M_isArea a1)) ?_
  intro p e s m args below meth c A Q ls hx hb hml hown hts hK hP hD hS hA hl hE
  have hl : lv_has ls 1 [(0, .int a1)] := hl
  have hown : s.vm.findClass R_M = some m.cls := hown
  refine lv_iload_n hx hb d_M_isArea_0 rfl (lv_at hl 0 rfl) ?_
  refine lv_iconst (v := (1 : Int32)) hx hb d_M_isArea_1 (by decide) ?_
  refine lv_icmp_lt (tgt := 15) hx hb d_M_isArea_2 (by decide) (fun h1 => ?_) (fun h1 => ?_)
  ·
    refine lv_iconst (v := (0 : Int32)) hx hb d_M_isArea_15 (by decide) ?_
    have hsp : s_M_isArea a1 = (0 : Int32) := (by unfold s_M_isArea; rw [if_pos h1])
    rw [hsp] at hE
    exact hE _ _ _ _ hP hD hS d_M_isArea_16
  ·
    refine lv_iload_n hx hb d_M_isArea_5 rfl (lv_at hl 0 rfl) ?_
    refine lv_bipush (v := (24 : Int32)) hx hb d_M_isArea_6 (by decide) ?_
    refine lv_icmp_gt (tgt := 15) hx hb d_M_isArea_8 (by decide) (fun h2 => ?_) (fun h2 => ?_)
    ·
      refine lv_iconst (v := (0 : Int32)) hx hb d_M_isArea_15 (by decide) ?_
      have hsp : s_M_isArea a1 = (0 : Int32) := (by unfold s_M_isArea; rw [if_neg h1, if_pos h2])
      rw [hsp] at hE
      exact hE _ _ _ _ hP hD hS d_M_isArea_16
    ·
      refine lv_iconst (v := (1 : Int32)) hx hb d_M_isArea_11 (by decide) ?_
      refine lv_goto (tgt := 16) hx hb d_M_isArea_12 (by decide) ?_
      have hsp : s_M_isArea a1 = (1 : Int32) := (by unfold s_M_isArea; rw [if_neg h1, if_neg h2])
      rw [hsp] at hE
      exact hE _ _ _ _ hP hD hS d_M_isArea_16
set_option maxHeartbeats 4000000 in
set_option maxRecDepth 100000 in
theorem k_M_areaStart (l : Launch) (D : va_G) (cI : ClassId) (sz : Nat) (a1 : Int32) : zMi l y_M_areaStart (.code y_M_areaStart b_M_areaStart 1 (some .int) :: wd) { frames := 0, cells := 0, slots := 0, locals := 0 } D classes [] [.int a1] [] [] sz (s_M_areaStart a1) := by
  refine met_i (by decide) (Nat.le_of_ble_eq_true rfl) rfl ?_
  intro p e s m args below meth c A Q ls hx hb hml hown hts hK hP hD hS hA hl hE
  have hl : lv_has ls 1 [(0, .int a1)] := hl
  have hown : s.vm.findClass R_M = some m.cls := hown
  refine lv_sipush (v := (256 : Int32)) hx hb d_M_areaStart_0 (by decide) ?_
  refine lv_bipush (v := (8 : Int32)) hx hb d_M_areaStart_3 (by decide) ?_
  refine lv_iload_n hx hb d_M_areaStart_5 rfl (lv_at hl 0 rfl) ?_
  refine lv_iconst (v := (1 : Int32)) hx hb d_M_areaStart_6 (by decide) ?_
  refine lv_isub hx hb d_M_areaStart_7 ?_
  refine lv_imul hx hb d_M_areaStart_8 ?_
  refine lv_iadd hx hb d_M_areaStart_9 ?_
  have hsp : s_M_areaStart a1 = ((256 : Int32) + ((8 : Int32) * (a1 - (1 : Int32)))) := rfl
  rw [hsp] at hE
  exact hE _ _ _ _ hP hD hS d_M_areaStart_10
set_option maxHeartbeats 4000000 in
set_option maxRecDepth 100000 in
theorem k_M_read (l : Launch) (D : va_G) (cI : ClassId) (sz : Nat) (xM : Nat) (xW : Nat) (u_M : Nat → Int32) (a1 : Int32) : zMi l y_M_read (.code y_M_read b_M_read 2 (some .int) :: wd) { frames := 1, cells := 0, slots := 0, locals := 20 } D classes [(cI, .int)] [.ref xM, .int a1] [oM xM xW, ar cI xW 512 u_M] [oM xM xW, ar cI xW 512 u_M] sz (s_M_read u_M a1) := by
  refine met_i (by decide) (Nat.le_of_ble_eq_true rfl) rfl ?_
  intro p e s m args below meth c A Q ls hx hb hml hown hts hK hP hD hS hA hl hE
  have hl : lv_has ls 2 [(0, .ref xM), (1, .int a1)] := hl
  have hown : s.vm.findClass R_M = some m.cls := hown
  refine lv_iload_n hx hb d_M_read_0 rfl (lv_at hl 1 rfl) ?_
  refine zz_cS0 (rest := []) ⟨hx, hb, hml, hown, hts⟩ (k_M_has l D cI _ a1) g_M_read_M_has_15 nd_M_has ⟨⟨rfl, rfl⟩, Nat.le_of_ble_eq_true rfl, Nat.le_of_ble_eq_true rfl⟩ hK hP hD hS hA rfl rfl hl.1 (Nat.le_of_ble_eq_true rfl) d_M_read_1 ⟨Nat.zero_le _, Nat.zero_le _⟩ (fun H locs hP hD hS => ?_)
  refine lv_if_eq (tgt := 16) hx hb d_M_read_4 (by decide) (fun h1 => ?_) (fun h1 => ?_)
  ·
    refine lv_iconst (v := (0 : Int32)) hx hb d_M_read_16 (by decide) ?_
    have hsp : s_M_read u_M a1 = (0 : Int32) := (by unfold s_M_read; rw [if_pos h1])
    rw [hsp] at hE
    exact hE _ _ _ _ hP hD hS d_M_read_17
  ·
    refine lv_aload_n hx hb d_M_read_7 rfl (lv_at hl 0 rfl) ?_
    refine zz_get (C := R_M) (T := F_M) (N := 1) (v := .ref xW) hx hb hts in_M hown hK hP 0 rfl rfl 0 (by decide) mw_0 rfl d_M_read_8 ?_
    refine lv_iload_n hx hb d_M_read_11 rfl (lv_at hl 1 rfl) ?_
    refine va_iald hx hb hK hP 1 0 rfl rfl (in_has h1) d_M_read_12 ?_
    refine lv_goto (tgt := 17) hx hb d_M_read_13 (by decide) ?_
    have hsp : s_M_read u_M a1 = (u_M (ix a1)) := (by unfold s_M_read; rw [if_neg h1])
    rw [hsp] at hE
    exact hE _ _ _ _ hP hD hS d_M_read_17
set_option maxHeartbeats 4000000 in
set_option maxRecDepth 100000 in
theorem k_M_write (l : Launch) (D : va_G) (cI : ClassId) (sz : Nat) (xM : Nat) (xW : Nat) (u_M : Nat → Int32) (a1 : Int32) (a2 : Int32) : zMv l y_M_write (.code y_M_write b_M_write 3 (none) :: wd) { frames := 1, cells := 0, slots := 0, locals := 20 } D classes [(cI, .int)] [.ref xM, .int a1, .int a2] [oM xM xW, ar cI xW 512 u_M] [oM xM xW, ar cI xW 512 (s_M_write u_M a1 a2)] sz := by
  refine met_v (by decide) (Nat.le_of_ble_eq_true rfl) ?_
  intro p e s m args below meth c A Q ls hx hb hml hown hts hK hP hD hS hA hl hE
  have hl : lv_has ls 3 [(0, .ref xM), (1, .int a1), (2, .int a2)] := hl
  have hown : s.vm.findClass R_M = some m.cls := hown
  refine lv_iload_n hx hb d_M_write_0 rfl (lv_at hl 1 rfl) ?_
  refine zz_cS0 (rest := []) ⟨hx, hb, hml, hown, hts⟩ (k_M_has l D cI _ a1) g_M_write_M_has_15 nd_M_has ⟨⟨rfl, rfl⟩, Nat.le_of_ble_eq_true rfl, Nat.le_of_ble_eq_true rfl⟩ hK hP hD hS hA rfl rfl hl.1 (Nat.le_of_ble_eq_true rfl) d_M_write_1 ⟨Nat.zero_le _, Nat.zero_le _⟩ (fun H locs hP hD hS => ?_)
  refine lv_if_eq (tgt := 14) hx hb d_M_write_4 (by decide) (fun h1 => ?_) (fun h1 => ?_)
  ·
    have hsp : s_M_write u_M a1 a2 = u_M := (by unfold s_M_write; rw [if_pos h1])
    rw [hsp] at hE
    exact hE _ _ _ _ hP hD hS d_M_write_14
  ·
    refine lv_aload_n hx hb d_M_write_7 rfl (lv_at hl 0 rfl) ?_
    refine zz_get (C := R_M) (T := F_M) (N := 1) (v := .ref xW) hx hb hts in_M hown hK hP 0 rfl rfl 0 (by decide) mw_0 rfl d_M_write_8 ?_
    refine lv_iload_n hx hb d_M_write_11 rfl (lv_at hl 1 rfl) ?_
    refine lv_iload_n hx hb d_M_write_12 rfl (lv_at hl 2 rfl) ?_
    refine zz_iast (w' := [oM xM xW, ar cI xW 512 (upd u_M (ix a1) a2)]) hx hb hK hP hD hS 1 0 rfl rfl (in_has h1) d_M_write_13 rfl (fun H locs hP hD hS => ?_)
    have hsp : s_M_write u_M a1 a2 = (upd u_M (ix a1) a2) := (by unfold s_M_write; rw [if_neg h1])
    rw [hsp] at hE
    exact hE _ _ _ _ hP hD hS d_M_write_14
set_option maxHeartbeats 4000000 in
set_option maxRecDepth 100000 in
theorem k_M_chainAreas (l : Launch) (D : va_G) (cI : ClassId) (sz : Nat) (xM : Nat) (xW : Nat) (u_M : Nat → Int32) (a1 : Int32) (hn : ¬ (24 : Int32) < a1) : zMv l y_M_chainAreas (.code y_M_chainAreas b_M_chainAreas 3 (none) :: wd) { frames := 2, cells := 0, slots := 0, locals := 42 } D classes [(cI, .int)] [.ref xM, .int a1] [oM xM xW, ar cI xW 512 u_M] [oM xM xW, ar cI xW 512 (s_M_chainAreas u_M a1)] sz := by
  refine met_v (by decide) (Nat.le_of_ble_eq_true rfl) ?_
  intro p e s m args below meth c A Q ls hx hb hml hown hts hK hP hD hS hA hl hE
  have hl : lv_has ls 3 [(0, .ref xM), (1, .int a1)] := hl
  have hown : s.vm.findClass R_M = some m.cls := hown
  have LOOP : ∀ (n : Nat) (u_M' : Nat → Int32) (j : Nat) (ls : Array Slot) (H : Heap) (locs : List Loc), s_M_chainAreas u_M a1 = s_M_chainAreas_loop a1 n u_M' j → 25 < n + j → j ≤ 25 → lv_has ls 3 [(2, .int (nI j)), (0, .ref xM), (1, .int a1)] → va_P D classes [oM xM xW, ar cI xW 512 u_M'] H → va_D A [oM xM xW, ar cI xW 512 u_M'] → va_S A s.heap H locs → W p l e { frames := 2, cells := 0, slots := 0, locals := 42 } s m args below meth c H locs 0 0 Q (F0 m 2 ls []) := by
    intro n
    induction n with
    | zero => intro u_M' j ls H locs hres hf hj hl hP hD hS; exfalso; omega
    | succ n ih =>
      intro u_M' j ls H locs hres hf hj hl hP hD hS
      refine lv_iload_n hx hb d_M_chainAreas_2 rfl (lv_at hl 0 rfl) ?_
      refine lv_iload_n hx hb d_M_chainAreas_3 rfl (lv_at hl 2 rfl) ?_
      refine lv_icmp_gt (tgt := 33) hx hb d_M_chainAreas_4 (by decide) (fun h1 => ?_) (fun h1 => ?_)
      ·
        have hsp : s_M_chainAreas u_M a1 = u_M' := (hres.trans (by rw [s_M_chainAreas_loop]; rw [if_pos h1]))
        rw [hsp] at hE
        exact hE _ _ _ _ hP hD hS d_M_chainAreas_33
      ·
        refine lv_aload_n hx hb d_M_chainAreas_7 rfl (lv_at hl 1 rfl) ?_
        refine lv_iload_n hx hb d_M_chainAreas_8 rfl (lv_at hl 0 rfl) ?_
        refine zz_cS0 (rest := [.ref xM]) ⟨hx, hb, hml, hown, hts⟩ (k_M_areaStart l D cI _ (nI j)) g_M_chainAreas_M_areaStart_19 nd_M_areaStart ⟨⟨rfl, rfl⟩, Nat.le_of_ble_eq_true rfl, Nat.le_of_ble_eq_true rfl⟩ hK hP hD hS hA rfl rfl hl.1 (Nat.le_of_ble_eq_true rfl) d_M_chainAreas_9 ⟨Nat.zero_le _, Nat.zero_le _⟩ (fun H locs hP hD hS => ?_)
        refine lv_iload_n hx hb d_M_chainAreas_12 rfl (lv_at hl 0 rfl) ?_
        refine lv_iload_n hx hb d_M_chainAreas_13 rfl (lv_at hl 2 rfl) ?_
        have J14_2 : ∀ (vj14_0 : Int32) (ls : Array Slot) (H : Heap) (locs : List Loc), vj14_0 = (if (nI j) = a1 then (0 : Int32) else ((nI j) + (1 : Int32))) → lv_has ls 3 [(2, .int (nI j)), (0, .ref xM), (1, .int a1)] → va_P D classes [oM xM xW, ar cI xW 512 u_M'] H → va_D A [oM xM xW, ar cI xW 512 u_M'] → va_S A s.heap H locs → W p l e { frames := 2, cells := 0, slots := 0, locals := 42 } s m args below meth c H locs 0 0 Q (F0 m 24 ls [.int vj14_0, .int (s_M_areaStart (nI j)), .ref xM]) := by
          intro vj14_0 ls H locs evj14_0 hl hP hD hS
          subst evj14_0
          refine zz_cVv (rest := []) (wr := []) (w' := [oM xM xW, ar cI xW 512 (s_M_write u_M' (s_M_areaStart (nI j)) (if (nI j) = a1 then (0 : Int32) else ((nI j) + (1 : Int32))))]) ⟨hx, hb, hml, hown, hts⟩ (k_M_write l D cI _ xM xW u_M' (s_M_areaStart (nI j)) (if (nI j) = a1 then (0 : Int32) else ((nI j) + (1 : Int32)))) g_M_chainAreas_M_write_23 nv_M_write ⟨⟨rfl, rfl⟩, Nat.le_of_ble_eq_true rfl, Nat.le_of_ble_eq_true rfl⟩ hK [0] rfl hP hD hS hA [0, 1] [] [0, 1] rfl rfl rfl rfl (by decide) rfl rfl 0 0 rfl rfl rfl rfl hl.1 (Nat.le_of_ble_eq_true rfl) d_M_chainAreas_24 ⟨Nat.zero_le _, Nat.zero_le _⟩ (fun H locs hP hD hS => ?_)
          refine lv_iinc (v := (nI (j + 1))) (lv' := [(2, .int (nI (j + 1))), (0, .ref xM), (1, .int a1)]) (k := 0) hx hb d_M_chainAreas_27 hl rfl (nI_succ j).symm (by decide) rfl (fun ls hl => ?_)
          refine lv_goto (tgt := 2) hx hb d_M_chainAreas_30 (by decide) ?_
          exact ih (s_M_write u_M' (s_M_areaStart (nI j)) (if (nI j) = a1 then (0 : Int32) else ((nI j) + (1 : Int32)))) (j + 1) _ _ _ (hres.trans (by rw [s_M_chainAreas_loop]; rw [if_neg h1])) (by omega) (zz_chain hj hn h1) (lv_sub hl [0, 1, 2] rfl) hP hD hS
        refine lv_icmp_ne (tgt := 21) hx hb d_M_chainAreas_14 (by decide) (fun h2 => ?_) (fun h2 => ?_)
        ·
          refine lv_iload_n hx hb d_M_chainAreas_21 rfl (lv_at hl 0 rfl) ?_
          refine lv_iconst (v := (1 : Int32)) hx hb d_M_chainAreas_22 (by decide) ?_
          refine lv_iadd hx hb d_M_chainAreas_23 ?_
          exact J14_2 ((nI j) + (1 : Int32)) _ _ _ (by rw [if_neg h2]) (lv_sub hl [0, 1, 2] rfl) hP hD hS
        ·
          refine lv_iconst (v := (0 : Int32)) hx hb d_M_chainAreas_17 (by decide) ?_
          refine lv_goto (tgt := 24) hx hb d_M_chainAreas_18 (by decide) ?_
          exact J14_2 (0 : Int32) _ _ _ (by rw [if_pos h2]) (lv_sub hl [0, 1, 2] rfl) hP hD hS
  refine lv_iconst (v := (1 : Int32)) hx hb d_M_chainAreas_0 (by decide) ?_
  refine lv_istore_n (lv' := [(2, .int (1 : Int32)), (0, .ref xM), (1, .int a1)]) hx hb d_M_chainAreas_1 rfl hl (by decide) rfl (fun ls hl => ?_)
  exact LOOP 25 u_M 1 _ _ _ rfl (by decide) (by decide) (lv_sub hl [0, 1, 2] rfl) hP hD hS
set_option maxHeartbeats 4000000 in
set_option maxRecDepth 100000 in
theorem k_M_countAreas (l : Launch) (D : va_G) (cI : ClassId) (sz : Nat) (xM : Nat) (xW : Nat) (u_M : Nat → Int32) (a1 : Int32) : zMi l y_M_countAreas (.code y_M_countAreas b_M_countAreas 4 (some .int) :: wd) { frames := 2, cells := 0, slots := 0, locals := 41 } D classes [(cI, .int)] [.ref xM, .int a1] [oM xM xW, ar cI xW 512 u_M] [oM xM xW, ar cI xW 512 u_M] sz (s_M_countAreas u_M a1) := by
  refine met_i (by decide) (Nat.le_of_ble_eq_true rfl) rfl ?_
  intro p e s m args below meth c A Q ls hx hb hml hown hts hK hP hD hS hA hl hE
  have hl : lv_has ls 4 [(0, .ref xM), (1, .int a1)] := hl
  have hown : s.vm.findClass R_M = some m.cls := hown
  have LOOP : ∀ (n : Nat) (j : Nat) (x : Int32) (ls : Array Slot) (H : Heap) (locs : List Loc), s_M_countAreas u_M a1 = s_M_countAreas_loop u_M a1 n j x → 32 < n + j → j ≤ 32 → lv_has ls 4 [(3, .int (nI j)), (2, .int x), (0, .ref xM), (1, .int a1)] → va_P D classes [oM xM xW, ar cI xW 512 u_M] H → va_D A [oM xM xW, ar cI xW 512 u_M] → va_S A s.heap H locs → W p l e { frames := 2, cells := 0, slots := 0, locals := 41 } s m args below meth c H locs 0 0 Q (F0 m 7 ls []) := by
    intro n
    induction n with
    | zero => intro j x ls H locs hres hf hj hl hP hD hS; exfalso; omega
    | succ n ih =>
      intro j x ls H locs hres hf hj hl hP hD hS
      refine lv_iload_n hx hb d_M_countAreas_7 rfl (lv_at hl 0 rfl) ?_
      refine lv_bipush (v := (32 : Int32)) hx hb d_M_countAreas_8 (by decide) ?_
      refine lv_icmp_ge (tgt := 38) hx hb d_M_countAreas_10 (by decide) (fun h1 => ?_) (fun h1 => ?_)
      ·
        refine lv_iload_n hx hb d_M_countAreas_38 rfl (lv_at hl 0 rfl) ?_
        have hsp : s_M_countAreas u_M a1 = (nI j) := (hres.trans (by rw [s_M_countAreas_loop]; rw [if_pos h1]))
        rw [hsp] at hE
        exact hE _ _ _ _ hP hD hS d_M_countAreas_39
      ·
        refine lv_iload_n hx hb d_M_countAreas_13 rfl (lv_at hl 1 rfl) ?_
        refine zz_cS0 (rest := []) ⟨hx, hb, hml, hown, hts⟩ (k_M_isArea l D cI _ x) g_M_countAreas_M_isArea_27 nd_M_isArea ⟨⟨rfl, rfl⟩, Nat.le_of_ble_eq_true rfl, Nat.le_of_ble_eq_true rfl⟩ hK hP hD hS hA rfl rfl hl.1 (Nat.le_of_ble_eq_true rfl) d_M_countAreas_14 ⟨Nat.zero_le _, Nat.zero_le _⟩ (fun H locs hP hD hS => ?_)
        refine lv_if_eq (tgt := 38) hx hb d_M_countAreas_17 (by decide) (fun h2 => ?_) (fun h2 => ?_)
        ·
          refine lv_iload_n hx hb d_M_countAreas_38 rfl (lv_at hl 0 rfl) ?_
          have hsp : s_M_countAreas u_M a1 = (nI j) := (hres.trans (by rw [s_M_countAreas_loop]; rw [if_neg h1, if_pos h2]))
          rw [hsp] at hE
          exact hE _ _ _ _ hP hD hS d_M_countAreas_39
        ·
          refine lv_iinc (v := (nI (j + 1))) (lv' := [(3, .int (nI (j + 1))), (2, .int x), (0, .ref xM), (1, .int a1)]) (k := 0) hx hb d_M_countAreas_20 hl rfl (nI_succ j).symm (by decide) rfl (fun ls hl => ?_)
          refine lv_aload_n hx hb d_M_countAreas_23 rfl (lv_at hl 2 rfl) ?_
          refine lv_iload_n hx hb d_M_countAreas_24 rfl (lv_at hl 1 rfl) ?_
          refine zz_cS0 (rest := [.ref xM]) ⟨hx, hb, hml, hown, hts⟩ (k_M_areaStart l D cI _ x) g_M_countAreas_M_areaStart_19 nd_M_areaStart ⟨⟨rfl, rfl⟩, Nat.le_of_ble_eq_true rfl, Nat.le_of_ble_eq_true rfl⟩ hK hP hD hS hA rfl rfl hl.1 (Nat.le_of_ble_eq_true rfl) d_M_countAreas_25 ⟨Nat.zero_le _, Nat.zero_le _⟩ (fun H locs hP hD hS => ?_)
          refine zz_rVi (rest := []) ⟨hx, hb, hml, hown, hts⟩ (k_M_read l D cI _ xM xW u_M (s_M_areaStart x)) g_M_countAreas_M_read_30 nv_M_read ⟨⟨rfl, rfl⟩, Nat.le_of_ble_eq_true rfl, Nat.le_of_ble_eq_true rfl⟩ hK [0] rfl hP hD hS hA [0, 1] rfl rfl 0 0 rfl rfl rfl rfl hl.1 (Nat.le_of_ble_eq_true rfl) d_M_countAreas_28 ⟨Nat.zero_le _, Nat.zero_le _⟩ (fun H locs hP hD hS => ?_)
          refine lv_bipush (v := (31 : Int32)) hx hb d_M_countAreas_31 (by decide) ?_
          refine lv_iand hx hb d_M_countAreas_33 ?_
          refine lv_istore_n (lv' := [(2, .int ((s_M_read u_M (s_M_areaStart x)) &&& (31 : Int32))), (3, .int (nI (j + 1))), (0, .ref xM), (1, .int a1)]) hx hb d_M_countAreas_34 rfl hl (by decide) rfl (fun ls hl => ?_)
          refine lv_goto (tgt := 7) hx hb d_M_countAreas_35 (by decide) ?_
          exact ih (j + 1) ((s_M_read u_M (s_M_areaStart x)) &&& (31 : Int32)) _ _ _ (hres.trans (by rw [s_M_countAreas_loop]; rw [if_neg h1, if_neg h2])) (by omega) (zz_count hj h1) (lv_sub hl [1, 0, 2, 3] rfl) hP hD hS
  refine lv_iload_n hx hb d_M_countAreas_0 rfl (lv_at hl 1 rfl) ?_
  refine lv_bipush (v := (31 : Int32)) hx hb d_M_countAreas_1 (by decide) ?_
  refine lv_iand hx hb d_M_countAreas_3 ?_
  refine lv_istore_n (lv' := [(2, .int (a1 &&& (31 : Int32))), (0, .ref xM), (1, .int a1)]) hx hb d_M_countAreas_4 rfl hl (by decide) rfl (fun ls hl => ?_)
  refine lv_iconst (v := (0 : Int32)) hx hb d_M_countAreas_5 (by decide) ?_
  refine lv_istore_n (lv' := [(3, .int (0 : Int32)), (2, .int (a1 &&& (31 : Int32))), (0, .ref xM), (1, .int a1)]) hx hb d_M_countAreas_6 rfl hl (by decide) rfl (fun ls hl => ?_)
  exact LOOP 33 0 (a1 &&& (31 : Int32)) _ _ _ rfl (by decide) (by decide) (lv_sub hl [0, 1, 2, 3] rfl) hP hD hS
