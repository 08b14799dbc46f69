set_option maxHeartbeats 4000000 in
set_option maxRecDepth 100000 in
theorem k_P_perform0 (l : Launch) (D : va_G) (cI : ClassId) (sz : Nat) (xP : Nat) (xM : Nat) (xW : Nat) (xR : Nat) (xD : Nat) (xA : Nat) (xG : Nat) (xL : Nat) (xH : Nat) (xI : Nat) (xT : Nat) (u_z : Nat → Int32) (u_M : Nat → Int32) (u_r : Nat → Int32) (u_d : Nat → Int32) (u_a : Nat → Int32) (u_lo : Nat → Int32) (u_hi : Nat → Int32) (u_ri : Nat → Int32) (u_t : Nat → Int32) (a1 : Int32) (hop : (a1 &&& (31 : Int32)) = (0 : Int32)) : zMi l y_P_perform (.code y_P_perform b_P_perform 4 (some .int) :: wd) { frames := 4, cells := 0, slots := 0, locals := 100 } D classes [(cI, .int)] [.ref xP, .int a1] [oP xP xM xR xG xT u_z, oM xM xW, ar cI xW 512 u_M, oR xR xD xA u_r, ar cI xD 8 u_d, ar cI xA 8 u_a, oG xG xL xH xI, ar cI xL 6 u_lo, ar cI xH 6 u_hi, ar cI xI 6 u_ri, oT xT u_t] [oP xP xM xR xG xT u_z, oM xM xW, ar cI xW 512 u_M, oR xR xD xA u_r, ar cI xD 8 u_d, ar cI xA 8 u_a, oG xG xL xH xI, ar cI xL 6 u_lo, ar cI xH 6 u_hi, ar cI xI 6 u_ri, oT xT u_t] sz (s_P_perform0 u_z u_M u_r u_d u_a u_lo u_hi u_ri u_t a1) := by
  refine met_i (by decide) (Nat.le_of_ble_eq_true rfl) rfl ?_
  intro p e s m args below meth c A Q ls hx hb hml hown hts hK hP hD hS hA hl hE
  have hl : lv_has ls 4 [(0, .ref xP), (1, .int a1)] := hl
  have hown : s.vm.findClass R_P = some m.cls := hown
  refine lv_iload_n hx hb d_P_perform_0 rfl (lv_at hl 1 rfl) ?_
  refine lv_bipush (v := (31 : Int32)) hx hb d_P_perform_1 (by decide) ?_
  refine lv_iand hx hb d_P_perform_3 ?_
  refine lv_topi (fun zz ez => ?_)
  obtain rfl : zz = (0 : Int32) := ez.trans hop
  refine lv_istore_n (lv' := [(2, .int (0 : Int32)), (0, .ref xP), (1, .int a1)]) hx hb d_P_perform_4 rfl hl (by decide) rfl (fun ls hl => ?_)
  refine lv_iload_n hx hb d_P_perform_5 rfl (lv_at hl 2 rfl) ?_
  refine zz_cS0 (rest := []) ⟨hx, hb, hml, hown, hts⟩ (k_P_amount l D cI _ a1) g_P_perform_P_amount_131 nd_P_amount ⟨⟨rfl, rfl⟩, Nat.le_of_ble_eq_true rfl, Nat.le_of_ble_eq_true rfl⟩ hK hP hD hS hA rfl rfl hl.1 (Nat.le_of_ble_eq_true rfl) d_P_perform_6 ⟨Nat.zero_le _, Nat.zero_le _⟩ (fun H locs hP hD hS => ?_)
  refine lv_istore_n (lv' := [(3, .int (s_P_amount a1)), (2, .int (0 : Int32)), (0, .ref xP), (1, .int a1)]) hx hb d_P_perform_9 rfl hl (by decide) rfl (fun ls hl => ?_)
  refine lv_iload_n hx hb d_P_perform_10 rfl (lv_at hl 1 rfl) ?_
  refine zz_cS0 (rest := []) ⟨hx, hb, hml, hown, hts⟩ (k_P_needsTopLevel l D cI _ (0 : Int32)) g_P_perform_P_needsTopLevel_134 nd_P_needsTopLevel ⟨⟨rfl, rfl⟩, Nat.le_of_ble_eq_true rfl, Nat.le_of_ble_eq_true rfl⟩ hK hP hD hS hA rfl rfl hl.1 (Nat.le_of_ble_eq_true rfl) d_P_perform_11 ⟨Nat.zero_le _, Nat.zero_le _⟩ (fun H locs hP hD hS => ?_)
  refine lv_if_eq (tgt := 32) hx hb d_P_perform_14 (by decide) (fun _ => ?_) (fun hh => absurd hh (by decide))
  refine lv_iload_n hx hb d_P_perform_32 rfl (lv_at hl 1 rfl) ?_
  refine lv_tableIn (off := 143) (tgt := 176) hx hb d_P_perform_33 (by decide) (by decide) rfl (by decide) ?_
  refine lv_sipush (v := (513 : Int32)) hx hb d_P_perform_176 (by decide) ?_
  have hsp : s_P_perform0 u_z u_M u_r u_d u_a u_lo u_hi u_ri u_t a1 = (513 : Int32) := rfl
  rw [hsp] at hE
  exact hE _ _ _ _ hP hD hS d_P_perform_179
set_option maxHeartbeats 4000000 in
set_option maxRecDepth 100000 in
theorem k_P_perform1 (l : Launch) (D : va_G) (cI : ClassId) (sz : Nat) (xP : Nat) (xM : Nat) (xW : Nat) (xR : Nat) (xD : Nat) (xA : Nat) (xG : Nat) (xL : Nat) (xH : Nat) (xI : Nat) (xT : Nat) (u_z : Nat → Int32) (u_M : Nat → Int32) (u_r : Nat → Int32) (u_d : Nat → Int32) (u_a : Nat → Int32) (u_lo : Nat → Int32) (u_hi : Nat → Int32) (u_ri : Nat → Int32) (u_t : Nat → Int32) (a1 : Int32) (hop : (a1 &&& (31 : Int32)) = (1 : Int32)) : zMi l y_P_perform (.code y_P_perform b_P_perform 4 (some .int) :: wd) { frames := 4, cells := 0, slots := 0, locals := 100 } D classes [(cI, .int)] [.ref xP, .int a1] [oP xP xM xR xG xT u_z, oM xM xW, ar cI xW 512 u_M, oR xR xD xA u_r, ar cI xD 8 u_d, ar cI xA 8 u_a, oG xG xL xH xI, ar cI xL 6 u_lo, ar cI xH 6 u_hi, ar cI xI 6 u_ri, oT xT u_t] [oP xP xM xR xG xT u_z, oM xM xW, ar cI xW 512 u_M, oR xR xD xA u_r, ar cI xD 8 ((s_P_perform1 u_z u_M u_r u_d u_a u_lo u_hi u_ri u_t a1).2), ar cI xA 8 u_a, oG xG xL xH xI, ar cI xL 6 u_lo, ar cI xH 6 u_hi, ar cI xI 6 u_ri, oT xT u_t] sz (s_P_perform1 u_z u_M u_r u_d u_a u_lo u_hi u_ri u_t a1).1 := by
  refine met_i (by decide) (Nat.le_of_ble_eq_true rfl) rfl ?_
  intro p e s m args below meth c A Q ls hx hb hml hown hts hK hP hD hS hA hl hE
  have hl : lv_has ls 4 [(0, .ref xP), (1, .int a1)] := hl
  have hown : s.vm.findClass R_P = some m.cls := hown
  refine lv_iload_n hx hb d_P_perform_0 rfl (lv_at hl 1 rfl) ?_
  refine lv_bipush (v := (31 : Int32)) hx hb d_P_perform_1 (by decide) ?_
  refine lv_iand hx hb d_P_perform_3 ?_
  refine lv_topi (fun zz ez => ?_)
  obtain rfl : zz = (1 : Int32) := ez.trans hop
  refine lv_istore_n (lv' := [(2, .int (1 : Int32)), (0, .ref xP), (1, .int a1)]) hx hb d_P_perform_4 rfl hl (by decide) rfl (fun ls hl => ?_)
  refine lv_iload_n hx hb d_P_perform_5 rfl (lv_at hl 2 rfl) ?_
  refine zz_cS0 (rest := []) ⟨hx, hb, hml, hown, hts⟩ (k_P_amount l D cI _ a1) g_P_perform_P_amount_131 nd_P_amount ⟨⟨rfl, rfl⟩, Nat.le_of_ble_eq_true rfl, Nat.le_of_ble_eq_true rfl⟩ hK hP hD hS hA rfl rfl hl.1 (Nat.le_of_ble_eq_true rfl) d_P_perform_6 ⟨Nat.zero_le _, Nat.zero_le _⟩ (fun H locs hP hD hS => ?_)
  refine lv_istore_n (lv' := [(3, .int (s_P_amount a1)), (2, .int (1 : Int32)), (0, .ref xP), (1, .int a1)]) hx hb d_P_perform_9 rfl hl (by decide) rfl (fun ls hl => ?_)
  refine lv_iload_n hx hb d_P_perform_10 rfl (lv_at hl 1 rfl) ?_
  refine zz_cS0 (rest := []) ⟨hx, hb, hml, hown, hts⟩ (k_P_needsTopLevel l D cI _ (1 : Int32)) g_P_perform_P_needsTopLevel_134 nd_P_needsTopLevel ⟨⟨rfl, rfl⟩, Nat.le_of_ble_eq_true rfl, Nat.le_of_ble_eq_true rfl⟩ hK hP hD hS hA rfl rfl hl.1 (Nat.le_of_ble_eq_true rfl) d_P_perform_11 ⟨Nat.zero_le _, Nat.zero_le _⟩ (fun H locs hP hD hS => ?_)
  refine lv_if_eq (tgt := 32) hx hb d_P_perform_14 (by decide) (fun _ => ?_) (fun hh => absurd hh (by decide))
  refine lv_iload_n hx hb d_P_perform_32 rfl (lv_at hl 1 rfl) ?_
  refine lv_tableIn (off := 273) (tgt := 306) hx hb d_P_perform_33 (by decide) (by decide) rfl (by decide) ?_
  refine lv_aload_n hx hb d_P_perform_306 rfl (lv_at hl 2 rfl) ?_
  refine lv_iload_n hx hb d_P_perform_307 rfl (lv_at hl 1 rfl) ?_
  refine lv_iload_n hx hb d_P_perform_308 rfl (lv_at hl 3 rfl) ?_
  refine zz_cVi (rest := []) (wr := []) (w' := [oP xP xM xR xG xT u_z, oM xM xW, ar cI xW 512 u_M, oR xR xD xA u_r, ar cI xD 8 ((s_P_compute1 u_z u_M u_r u_d u_a u_lo u_hi u_ri u_t a1).2), ar cI xA 8 u_a, oG xG xL xH xI, ar cI xL 6 u_lo, ar cI xH 6 u_hi, ar cI xI 6 u_ri, oT xT u_t]) ⟨hx, hb, hml, hown, hts⟩ (k_P_compute1 l D cI _ xP xM xW xR xD xA xG xL xH xI xT u_z u_M u_r u_d u_a u_lo u_hi u_ri u_t a1) g_P_perform_P_compute_169 nv_P_compute ⟨⟨rfl, rfl⟩, Nat.le_of_ble_eq_true rfl, Nat.le_of_ble_eq_true rfl⟩ hK [0] rfl hP hD hS hA [0, 1, 2, 3, 4, 5, 6, 7, 8, 9, 10] [] [0, 1, 2, 3, 4, 5, 6, 7, 8, 9, 10] rfl rfl rfl rfl (by decide) rfl rfl 0 4 rfl rfl rfl rfl hl.1 (Nat.le_of_ble_eq_true rfl) d_P_perform_309 ⟨Nat.zero_le _, Nat.zero_le _⟩ (fun H locs hP hD hS => ?_)
  have hsp : s_P_perform1 u_z u_M u_r u_d u_a u_lo u_hi u_ri u_t a1 = ((s_P_compute1 u_z u_M u_r u_d u_a u_lo u_hi u_ri u_t a1).1, (s_P_compute1 u_z u_M u_r u_d u_a u_lo u_hi u_ri u_t a1).2) := rfl
  rw [hsp] at hE
  exact hE _ _ _ _ hP hD hS d_P_perform_312
set_option maxHeartbeats 4000000 in
set_option maxRecDepth 100000 in
theorem k_P_perform2 (l : Launch) (D : va_G) (cI : ClassId) (sz : Nat) (xP : Nat) (xM : Nat) (xW : Nat) (xR : Nat) (xD : Nat) (xA : Nat) (xG : Nat) (xL : Nat) (xH : Nat) (xI : Nat) (xT : Nat) (u_z : Nat → Int32) (u_M : Nat → Int32) (u_r : Nat → Int32) (u_d : Nat → Int32) (u_a : Nat → Int32) (u_lo : Nat → Int32) (u_hi : Nat → Int32) (u_ri : Nat → Int32) (u_t : Nat → Int32) (a1 : Int32) (hop : (a1 &&& (31 : Int32)) = (2 : Int32)) : zMi l y_P_perform (.code y_P_perform b_P_perform 4 (some .int) :: wd) { frames := 4, cells := 0, slots := 0, locals := 100 } D classes [(cI, .int)] [.ref xP, .int a1] [oP xP xM xR xG xT u_z, oM xM xW, ar cI xW 512 u_M, oR xR xD xA u_r, ar cI xD 8 u_d, ar cI xA 8 u_a, oG xG xL xH xI, ar cI xL 6 u_lo, ar cI xH 6 u_hi, ar cI xI 6 u_ri, oT xT u_t] [oP xP xM xR xG xT u_z, oM xM xW, ar cI xW 512 u_M, oR xR xD xA u_r, ar cI xD 8 ((s_P_perform2 u_z u_M u_r u_d u_a u_lo u_hi u_ri u_t a1).2), ar cI xA 8 u_a, oG xG xL xH xI, ar cI xL 6 u_lo, ar cI xH 6 u_hi, ar cI xI 6 u_ri, oT xT u_t] sz (s_P_perform2 u_z u_M u_r u_d u_a u_lo u_hi u_ri u_t a1).1 := by
  refine met_i (by decide) (Nat.le_of_ble_eq_true rfl) rfl ?_
  intro p e s m args below meth c A Q ls hx hb hml hown hts hK hP hD hS hA hl hE
  have hl : lv_has ls 4 [(0, .ref xP), (1, .int a1)] := hl
  have hown : s.vm.findClass R_P = some m.cls := hown
  refine lv_iload_n hx hb d_P_perform_0 rfl (lv_at hl 1 rfl) ?_
  refine lv_bipush (v := (31 : Int32)) hx hb d_P_perform_1 (by decide) ?_
  refine lv_iand hx hb d_P_perform_3 ?_
  refine lv_topi (fun zz ez => ?_)
  obtain rfl : zz = (2 : Int32) := ez.trans hop
  refine lv_istore_n (lv' := [(2, .int (2 : Int32)), (0, .ref xP), (1, .int a1)]) hx hb d_P_perform_4 rfl hl (by decide) rfl (fun ls hl => ?_)
  refine lv_iload_n hx hb d_P_perform_5 rfl (lv_at hl 2 rfl) ?_
  refine zz_cS0 (rest := []) ⟨hx, hb, hml, hown, hts⟩ (k_P_amount l D cI _ a1) g_P_perform_P_amount_131 nd_P_amount ⟨⟨rfl, rfl⟩, Nat.le_of_ble_eq_true rfl, Nat.le_of_ble_eq_true rfl⟩ hK hP hD hS hA rfl rfl hl.1 (Nat.le_of_ble_eq_true rfl) d_P_perform_6 ⟨Nat.zero_le _, Nat.zero_le _⟩ (fun H locs hP hD hS => ?_)
  refine lv_istore_n (lv' := [(3, .int (s_P_amount a1)), (2, .int (2 : Int32)), (0, .ref xP), (1, .int a1)]) hx hb d_P_perform_9 rfl hl (by decide) rfl (fun ls hl => ?_)
  refine lv_iload_n hx hb d_P_perform_10 rfl (lv_at hl 1 rfl) ?_
  refine zz_cS0 (rest := []) ⟨hx, hb, hml, hown, hts⟩ (k_P_needsTopLevel l D cI _ (2 : Int32)) g_P_perform_P_needsTopLevel_134 nd_P_needsTopLevel ⟨⟨rfl, rfl⟩, Nat.le_of_ble_eq_true rfl, Nat.le_of_ble_eq_true rfl⟩ hK hP hD hS hA rfl rfl hl.1 (Nat.le_of_ble_eq_true rfl) d_P_perform_11 ⟨Nat.zero_le _, Nat.zero_le _⟩ (fun H locs hP hD hS => ?_)
  refine lv_if_eq (tgt := 32) hx hb d_P_perform_14 (by decide) (fun _ => ?_) (fun hh => absurd hh (by decide))
  refine lv_iload_n hx hb d_P_perform_32 rfl (lv_at hl 1 rfl) ?_
  refine lv_tableIn (off := 273) (tgt := 306) hx hb d_P_perform_33 (by decide) (by decide) rfl (by decide) ?_
  refine lv_aload_n hx hb d_P_perform_306 rfl (lv_at hl 2 rfl) ?_
  refine lv_iload_n hx hb d_P_perform_307 rfl (lv_at hl 1 rfl) ?_
  refine lv_iload_n hx hb d_P_perform_308 rfl (lv_at hl 3 rfl) ?_
  refine zz_cVi (rest := []) (wr := []) (w' := [oP xP xM xR xG xT u_z, oM xM xW, ar cI xW 512 u_M, oR xR xD xA u_r, ar cI xD 8 ((s_P_compute2 u_z u_M u_r u_d u_a u_lo u_hi u_ri u_t a1).2), ar cI xA 8 u_a, oG xG xL xH xI, ar cI xL 6 u_lo, ar cI xH 6 u_hi, ar cI xI 6 u_ri, oT xT u_t]) ⟨hx, hb, hml, hown, hts⟩ (k_P_compute2 l D cI _ xP xM xW xR xD xA xG xL xH xI xT u_z u_M u_r u_d u_a u_lo u_hi u_ri u_t a1) g_P_perform_P_compute_169 nv_P_compute ⟨⟨rfl, rfl⟩, Nat.le_of_ble_eq_true rfl, Nat.le_of_ble_eq_true rfl⟩ hK [0] rfl hP hD hS hA [0, 1, 2, 3, 4, 5, 6, 7, 8, 9, 10] [] [0, 1, 2, 3, 4, 5, 6, 7, 8, 9, 10] rfl rfl rfl rfl (by decide) rfl rfl 0 4 rfl rfl rfl rfl hl.1 (Nat.le_of_ble_eq_true rfl) d_P_perform_309 ⟨Nat.zero_le _, Nat.zero_le _⟩ (fun H locs hP hD hS => ?_)
  have hsp : s_P_perform2 u_z u_M u_r u_d u_a u_lo u_hi u_ri u_t a1 = ((s_P_compute2 u_z u_M u_r u_d u_a u_lo u_hi u_ri u_t a1).1, (s_P_compute2 u_z u_M u_r u_d u_a u_lo u_hi u_ri u_t a1).2) := rfl
  rw [hsp] at hE
  exact hE _ _ _ _ hP hD hS d_P_perform_312
set_option maxHeartbeats 4000000 in
set_option maxRecDepth 100000 in
theorem k_P_perform3 (l : Launch) (D : va_G) (cI : ClassId) (sz : Nat) (xP : Nat) (xM : Nat) (xW : Nat) (xR : Nat) (xD : Nat) (xA : Nat) (xG : Nat) (xL : Nat) (xH : Nat) (xI : Nat) (xT : Nat) (u_z : Nat → Int32) (u_M : Nat → Int32) (u_r : Nat → Int32) (u_d : Nat → Int32) (u_a : Nat → Int32) (u_lo : Nat → Int32) (u_hi : Nat → Int32) (u_ri : Nat → Int32) (u_t : Nat → Int32) (a1 : Int32) (hop : (a1 &&& (31 : Int32)) = (3 : Int32)) : zMi l y_P_perform (.code y_P_perform b_P_perform 4 (some .int) :: wd) { frames := 4, cells := 0, slots := 0, locals := 100 } D classes [(cI, .int)] [.ref xP, .int a1] [oP xP xM xR xG xT u_z, oM xM xW, ar cI xW 512 u_M, oR xR xD xA u_r, ar cI xD 8 u_d, ar cI xA 8 u_a, oG xG xL xH xI, ar cI xL 6 u_lo, ar cI xH 6 u_hi, ar cI xI 6 u_ri, oT xT u_t] [oP xP xM xR xG xT u_z, oM xM xW, ar cI xW 512 u_M, oR xR xD xA u_r, ar cI xD 8 ((s_P_perform3 u_z u_M u_r u_d u_a u_lo u_hi u_ri u_t a1).2), ar cI xA 8 u_a, oG xG xL xH xI, ar cI xL 6 u_lo, ar cI xH 6 u_hi, ar cI xI 6 u_ri, oT xT u_t] sz (s_P_perform3 u_z u_M u_r u_d u_a u_lo u_hi u_ri u_t a1).1 := by
  refine met_i (by decide) (Nat.le_of_ble_eq_true rfl) rfl ?_
  intro p e s m args below meth c A Q ls hx hb hml hown hts hK hP hD hS hA hl hE
  have hl : lv_has ls 4 [(0, .ref xP), (1, .int a1)] := hl
  have hown : s.vm.findClass R_P = some m.cls := hown
  refine lv_iload_n hx hb d_P_perform_0 rfl (lv_at hl 1 rfl) ?_
  refine lv_bipush (v := (31 : Int32)) hx hb d_P_perform_1 (by decide) ?_
  refine lv_iand hx hb d_P_perform_3 ?_
  refine lv_topi (fun zz ez => ?_)
  obtain rfl : zz = (3 : Int32) := ez.trans hop
  refine lv_istore_n (lv' := [(2, .int (3 : Int32)), (0, .ref xP), (1, .int a1)]) hx hb d_P_perform_4 rfl hl (by decide) rfl (fun ls hl => ?_)
  refine lv_iload_n hx hb d_P_perform_5 rfl (lv_at hl 2 rfl) ?_
  refine zz_cS0 (rest := []) ⟨hx, hb, hml, hown, hts⟩ (k_P_amount l D cI _ a1) g_P_perform_P_amount_131 nd_P_amount ⟨⟨rfl, rfl⟩, Nat.le_of_ble_eq_true rfl, Nat.le_of_ble_eq_true rfl⟩ hK hP hD hS hA rfl rfl hl.1 (Nat.le_of_ble_eq_true rfl) d_P_perform_6 ⟨Nat.zero_le _, Nat.zero_le _⟩ (fun H locs hP hD hS => ?_)
  refine lv_istore_n (lv' := [(3, .int (s_P_amount a1)), (2, .int (3 : Int32)), (0, .ref xP), (1, .int a1)]) hx hb d_P_perform_9 rfl hl (by decide) rfl (fun ls hl => ?_)
  refine lv_iload_n hx hb d_P_perform_10 rfl (lv_at hl 1 rfl) ?_
  refine zz_cS0 (rest := []) ⟨hx, hb, hml, hown, hts⟩ (k_P_needsTopLevel l D cI _ (3 : Int32)) g_P_perform_P_needsTopLevel_134 nd_P_needsTopLevel ⟨⟨rfl, rfl⟩, Nat.le_of_ble_eq_true rfl, Nat.le_of_ble_eq_true rfl⟩ hK hP hD hS hA rfl rfl hl.1 (Nat.le_of_ble_eq_true rfl) d_P_perform_11 ⟨Nat.zero_le _, Nat.zero_le _⟩ (fun H locs hP hD hS => ?_)
  refine lv_if_eq (tgt := 32) hx hb d_P_perform_14 (by decide) (fun _ => ?_) (fun hh => absurd hh (by decide))
  refine lv_iload_n hx hb d_P_perform_32 rfl (lv_at hl 1 rfl) ?_
  refine lv_tableIn (off := 273) (tgt := 306) hx hb d_P_perform_33 (by decide) (by decide) rfl (by decide) ?_
  refine lv_aload_n hx hb d_P_perform_306 rfl (lv_at hl 2 rfl) ?_
  refine lv_iload_n hx hb d_P_perform_307 rfl (lv_at hl 1 rfl) ?_
  refine lv_iload_n hx hb d_P_perform_308 rfl (lv_at hl 3 rfl) ?_
  refine zz_cVi (rest := []) (wr := []) (w' := [oP xP xM xR xG xT u_z, oM xM xW, ar cI xW 512 u_M, oR xR xD xA u_r, ar cI xD 8 ((s_P_compute3 u_z u_M u_r u_d u_a u_lo u_hi u_ri u_t a1).2), ar cI xA 8 u_a, oG xG xL xH xI, ar cI xL 6 u_lo, ar cI xH 6 u_hi, ar cI xI 6 u_ri, oT xT u_t]) ⟨hx, hb, hml, hown, hts⟩ (k_P_compute3 l D cI _ xP xM xW xR xD xA xG xL xH xI xT u_z u_M u_r u_d u_a u_lo u_hi u_ri u_t a1) g_P_perform_P_compute_169 nv_P_compute ⟨⟨rfl, rfl⟩, Nat.le_of_ble_eq_true rfl, Nat.le_of_ble_eq_true rfl⟩ hK [0] rfl hP hD hS hA [0, 1, 2, 3, 4, 5, 6, 7, 8, 9, 10] [] [0, 1, 2, 3, 4, 5, 6, 7, 8, 9, 10] rfl rfl rfl rfl (by decide) rfl rfl 0 4 rfl rfl rfl rfl hl.1 (Nat.le_of_ble_eq_true rfl) d_P_perform_309 ⟨Nat.zero_le _, Nat.zero_le _⟩ (fun H locs hP hD hS => ?_)
  have hsp : s_P_perform3 u_z u_M u_r u_d u_a u_lo u_hi u_ri u_t a1 = ((s_P_compute3 u_z u_M u_r u_d u_a u_lo u_hi u_ri u_t a1).1, (s_P_compute3 u_z u_M u_r u_d u_a u_lo u_hi u_ri u_t a1).2) := rfl
  rw [hsp] at hE
  exact hE _ _ _ _ hP hD hS d_P_perform_312
set_option maxHeartbeats 4000000 in
set_option maxRecDepth 100000 in
theorem k_P_perform4 (l : Launch) (D : va_G) (cI : ClassId) (sz : Nat) (xP : Nat) (xM : Nat) (xW : Nat) (xR : Nat) (xD : Nat) (xA : Nat) (xG : Nat) (xL : Nat) (xH : Nat) (xI : Nat) (xT : Nat) (u_z : Nat → Int32) (u_M : Nat → Int32) (u_r : Nat → Int32) (u_d : Nat → Int32) (u_a : Nat → Int32) (u_lo : Nat → Int32) (u_hi : Nat → Int32) (u_ri : Nat → Int32) (u_t : Nat → Int32) (a1 : Int32) (hop : (a1 &&& (31 : Int32)) = (4 : Int32)) : zMi l y_P_perform (.code y_P_perform b_P_perform 4 (some .int) :: wd) { frames := 4, cells := 0, slots := 0, locals := 100 } D classes [(cI, .int)] [.ref xP, .int a1] [oP xP xM xR xG xT u_z, oM xM xW, ar cI xW 512 u_M, oR xR xD xA u_r, ar cI xD 8 u_d, ar cI xA 8 u_a, oG xG xL xH xI, ar cI xL 6 u_lo, ar cI xH 6 u_hi, ar cI xI 6 u_ri, oT xT u_t] [oP xP xM xR xG xT u_z, oM xM xW, ar cI xW 512 u_M, oR xR xD xA u_r, ar cI xD 8 ((s_P_perform4 u_z u_M u_r u_d u_a u_lo u_hi u_ri u_t a1).2), ar cI xA 8 u_a, oG xG xL xH xI, ar cI xL 6 u_lo, ar cI xH 6 u_hi, ar cI xI 6 u_ri, oT xT u_t] sz (s_P_perform4 u_z u_M u_r u_d u_a u_lo u_hi u_ri u_t a1).1 := by
  refine met_i (by decide) (Nat.le_of_ble_eq_true rfl) rfl ?_
  intro p e s m args below meth c A Q ls hx hb hml hown hts hK hP hD hS hA hl hE
  have hl : lv_has ls 4 [(0, .ref xP), (1, .int a1)] := hl
  have hown : s.vm.findClass R_P = some m.cls := hown
  refine lv_iload_n hx hb d_P_perform_0 rfl (lv_at hl 1 rfl) ?_
  refine lv_bipush (v := (31 : Int32)) hx hb d_P_perform_1 (by decide) ?_
  refine lv_iand hx hb d_P_perform_3 ?_
  refine lv_topi (fun zz ez => ?_)
  obtain rfl : zz = (4 : Int32) := ez.trans hop
  refine lv_istore_n (lv' := [(2, .int (4 : Int32)), (0, .ref xP), (1, .int a1)]) hx hb d_P_perform_4 rfl hl (by decide) rfl (fun ls hl => ?_)
  refine lv_iload_n hx hb d_P_perform_5 rfl (lv_at hl 2 rfl) ?_
  refine zz_cS0 (rest := []) ⟨hx, hb, hml, hown, hts⟩ (k_P_amount l D cI _ a1) g_P_perform_P_amount_131 nd_P_amount ⟨⟨rfl, rfl⟩, Nat.le_of_ble_eq_true rfl, Nat.le_of_ble_eq_true rfl⟩ hK hP hD hS hA rfl rfl hl.1 (Nat.le_of_ble_eq_true rfl) d_P_perform_6 ⟨Nat.zero_le _, Nat.zero_le _⟩ (fun H locs hP hD hS => ?_)
  refine lv_istore_n (lv' := [(3, .int (s_P_amount a1)), (2, .int (4 : Int32)), (0, .ref xP), (1, .int a1)]) hx hb d_P_perform_9 rfl hl (by decide) rfl (fun ls hl => ?_)
  refine lv_iload_n hx hb d_P_perform_10 rfl (lv_at hl 1 rfl) ?_
  refine zz_cS0 (rest := []) ⟨hx, hb, hml, hown, hts⟩ (k_P_needsTopLevel l D cI _ (4 : Int32)) g_P_perform_P_needsTopLevel_134 nd_P_needsTopLevel ⟨⟨rfl, rfl⟩, Nat.le_of_ble_eq_true rfl, Nat.le_of_ble_eq_true rfl⟩ hK hP hD hS hA rfl rfl hl.1 (Nat.le_of_ble_eq_true rfl) d_P_perform_11 ⟨Nat.zero_le _, Nat.zero_le _⟩ (fun H locs hP hD hS => ?_)
  refine lv_if_eq (tgt := 32) hx hb d_P_perform_14 (by decide) (fun _ => ?_) (fun hh => absurd hh (by decide))
  refine lv_iload_n hx hb d_P_perform_32 rfl (lv_at hl 1 rfl) ?_
  refine lv_tableIn (off := 273) (tgt := 306) hx hb d_P_perform_33 (by decide) (by decide) rfl (by decide) ?_
  refine lv_aload_n hx hb d_P_perform_306 rfl (lv_at hl 2 rfl) ?_
  refine lv_iload_n hx hb d_P_perform_307 rfl (lv_at hl 1 rfl) ?_
  refine lv_iload_n hx hb d_P_perform_308 rfl (lv_at hl 3 rfl) ?_
  refine zz_cVi (rest := []) (wr := []) (w' := [oP xP xM xR xG xT u_z, oM xM xW, ar cI xW 512 u_M, oR xR xD xA u_r, ar cI xD 8 ((s_P_compute4 u_z u_M u_r u_d u_a u_lo u_hi u_ri u_t a1).2), ar cI xA 8 u_a, oG xG xL xH xI, ar cI xL 6 u_lo, ar cI xH 6 u_hi, ar cI xI 6 u_ri, oT xT u_t]) ⟨hx, hb, hml, hown, hts⟩ (k_P_compute4 l D cI _ xP xM xW xR xD xA xG xL xH xI xT u_z u_M u_r u_d u_a u_lo u_hi u_ri u_t a1) g_P_perform_P_compute_169 nv_P_compute ⟨⟨rfl, rfl⟩, Nat.le_of_ble_eq_true rfl, Nat.le_of_ble_eq_true rfl⟩ hK [0] rfl hP hD hS hA [0, 1, 2, 3, 4, 5, 6, 7, 8, 9, 10] [] [0, 1, 2, 3, 4, 5, 6, 7, 8, 9, 10] rfl rfl rfl rfl (by decide) rfl rfl 0 4 rfl rfl rfl rfl hl.1 (Nat.le_of_ble_eq_true rfl) d_P_perform_309 ⟨Nat.zero_le _, Nat.zero_le _⟩ (fun H locs hP hD hS => ?_)
  have hsp : s_P_perform4 u_z u_M u_r u_d u_a u_lo u_hi u_ri u_t a1 = ((s_P_compute4 u_z u_M u_r u_d u_a u_lo u_hi u_ri u_t a1).1, (s_P_compute4 u_z u_M u_r u_d u_a u_lo u_hi u_ri u_t a1).2) := rfl
  rw [hsp] at hE
  exact hE _ _ _ _ hP hD hS d_P_perform_312
set_option maxHeartbeats 4000000 in
set_option maxRecDepth 100000 in
theorem k_P_perform5 (l : Launch) (D : va_G) (cI : ClassId) (sz : Nat) (xP : Nat) (xM : Nat) (xW : Nat) (xR : Nat) (xD : Nat) (xA : Nat) (xG : Nat) (xL : Nat) (xH : Nat) (xI : Nat) (xT : Nat) (u_z : Nat → Int32) (u_M : Nat → Int32) (u_r : Nat → Int32) (u_d : Nat → Int32) (u_a : Nat → Int32) (u_lo : Nat → Int32) (u_hi : Nat → Int32) (u_ri : Nat → Int32) (u_t : Nat → Int32) (a1 : Int32) (hop : (a1 &&& (31 : Int32)) = (5 : Int32)) : zMi l y_P_perform (.code y_P_perform b_P_perform 4 (some .int) :: wd) { frames := 4, cells := 0, slots := 0, locals := 100 } D classes [(cI, .int)] [.ref xP, .int a1] [oP xP xM xR xG xT u_z, oM xM xW, ar cI xW 512 u_M, oR xR xD xA u_r, ar cI xD 8 u_d, ar cI xA 8 u_a, oG xG xL xH xI, ar cI xL 6 u_lo, ar cI xH 6 u_hi, ar cI xI 6 u_ri, oT xT u_t] [oP xP xM xR xG xT u_z, oM xM xW, ar cI xW 512 u_M, oR xR xD xA u_r, ar cI xD 8 ((s_P_perform5 u_z u_M u_r u_d u_a u_lo u_hi u_ri u_t a1).2), ar cI xA 8 u_a, oG xG xL xH xI, ar cI xL 6 u_lo, ar cI xH 6 u_hi, ar cI xI 6 u_ri, oT xT u_t] sz (s_P_perform5 u_z u_M u_r u_d u_a u_lo u_hi u_ri u_t a1).1 := by
  refine met_i (by decide) (Nat.le_of_ble_eq_true rfl) rfl ?_
  intro p e s m args below meth c A Q ls hx hb hml hown hts hK hP hD hS hA hl hE
  have hl : lv_has ls 4 [(0, .ref xP), (1, .int a1)] := hl
  have hown : s.vm.findClass R_P = some m.cls := hown
  refine lv_iload_n hx hb d_P_perform_0 rfl (lv_at hl 1 rfl) ?_
  refine lv_bipush (v := (31 : Int32)) hx hb d_P_perform_1 (by decide) ?_
  refine lv_iand hx hb d_P_perform_3 ?_
  refine lv_topi (fun zz ez => ?_)
  obtain rfl : zz = (5 : Int32) := ez.trans hop
  refine lv_istore_n (lv' := [(2, .int (5 : Int32)), (0, .ref xP), (1, .int a1)]) hx hb d_P_perform_4 rfl hl (by decide) rfl (fun ls hl => ?_)
  refine lv_iload_n hx hb d_P_perform_5 rfl (lv_at hl 2 rfl) ?_
  refine zz_cS0 (rest := []) ⟨hx, hb, hml, hown, hts⟩ (k_P_amount l D cI _ a1) g_P_perform_P_amount_131 nd_P_amount ⟨⟨rfl, rfl⟩, Nat.le_of_ble_eq_true rfl, Nat.le_of_ble_eq_true rfl⟩ hK hP hD hS hA rfl rfl hl.1 (Nat.le_of_ble_eq_true rfl) d_P_perform_6 ⟨Nat.zero_le _, Nat.zero_le _⟩ (fun H locs hP hD hS => ?_)
  refine lv_istore_n (lv' := [(3, .int (s_P_amount a1)), (2, .int (5 : Int32)), (0, .ref xP), (1, .int a1)]) hx hb d_P_perform_9 rfl hl (by decide) rfl (fun ls hl => ?_)
  refine lv_iload_n hx hb d_P_perform_10 rfl (lv_at hl 1 rfl) ?_
  refine zz_cS0 (rest := []) ⟨hx, hb, hml, hown, hts⟩ (k_P_needsTopLevel l D cI _ (5 : Int32)) g_P_perform_P_needsTopLevel_134 nd_P_needsTopLevel ⟨⟨rfl, rfl⟩, Nat.le_of_ble_eq_true rfl, Nat.le_of_ble_eq_true rfl⟩ hK hP hD hS hA rfl rfl hl.1 (Nat.le_of_ble_eq_true rfl) d_P_perform_11 ⟨Nat.zero_le _, Nat.zero_le _⟩ (fun H locs hP hD hS => ?_)
  refine lv_if_eq (tgt := 32) hx hb d_P_perform_14 (by decide) (fun _ => ?_) (fun hh => absurd hh (by decide))
  refine lv_iload_n hx hb d_P_perform_32 rfl (lv_at hl 1 rfl) ?_
  refine lv_tableIn (off := 273) (tgt := 306) hx hb d_P_perform_33 (by decide) (by decide) rfl (by decide) ?_
  refine lv_aload_n hx hb d_P_perform_306 rfl (lv_at hl 2 rfl) ?_
  refine lv_iload_n hx hb d_P_perform_307 rfl (lv_at hl 1 rfl) ?_
  refine lv_iload_n hx hb d_P_perform_308 rfl (lv_at hl 3 rfl) ?_
  refine zz_cVi (rest := []) (wr := []) (w' := [oP xP xM xR xG xT u_z, oM xM xW, ar cI xW 512 u_M, oR xR xD xA u_r, ar cI xD 8 ((s_P_compute5 u_z u_M u_r u_d u_a u_lo u_hi u_ri u_t a1).2), ar cI xA 8 u_a, oG xG xL xH xI, ar cI xL 6 u_lo, ar cI xH 6 u_hi, ar cI xI 6 u_ri, oT xT u_t]) ⟨hx, hb, hml, hown, hts⟩ (k_P_compute5 l D cI _ xP xM xW xR xD xA xG xL xH xI xT u_z u_M u_r u_d u_a u_lo u_hi u_ri u_t a1) g_P_perform_P_compute_169 nv_P_compute ⟨⟨rfl, rfl⟩, Nat.le_of_ble_eq_true rfl, Nat.le_of_ble_eq_true rfl⟩ hK [0] rfl hP hD hS hA [0, 1, 2, 3, 4, 5, 6, 7, 8, 9, 10] [] [0, 1, 2, 3, 4, 5, 6, 7, 8, 9, 10] rfl rfl rfl rfl (by decide) rfl rfl 0 4 rfl rfl rfl rfl hl.1 (Nat.le_of_ble_eq_true rfl) d_P_perform_309 ⟨Nat.zero_le _, Nat.zero_le _⟩ (fun H locs hP hD hS => ?_)
  have hsp : s_P_perform5 u_z u_M u_r u_d u_a u_lo u_hi u_ri u_t a1 = ((s_P_compute5 u_z u_M u_r u_d u_a u_lo u_hi u_ri u_t a1).1, (s_P_compute5 u_z u_M u_r u_d u_a u_lo u_hi u_ri u_t a1).2) := rfl
  rw [hsp] at hE
  exact hE _ _ _ _ hP hD hS d_P_perform_312
set_option maxHeartbeats 4000000 in
set_option maxRecDepth 100000 in
theorem k_P_perform6 (l : Launch) (D : va_G) (cI : ClassId) (sz : Nat) (xP : Nat) (xM : Nat) (xW : Nat) (xR : Nat) (xD : Nat) (xA : Nat) (xG : Nat) (xL : Nat) (xH : Nat) (xI : Nat) (xT : Nat) (u_z : Nat → Int32) (u_M : Nat → Int32) (u_r : Nat → Int32) (u_d : Nat → Int32) (u_a : Nat → Int32) (u_lo : Nat → Int32) (u_hi : Nat → Int32) (u_ri : Nat → Int32) (u_t : Nat → Int32) (a1 : Int32) (hop : (a1 &&& (31 : Int32)) = (6 : Int32)) : zMi l y_P_perform (.code y_P_perform b_P_perform 4 (some .int) :: wd) { frames := 4, cells := 0, slots := 0, locals := 100 } D classes [(cI, .int)] [.ref xP, .int a1] [oP xP xM xR xG xT u_z, oM xM xW, ar cI xW 512 u_M, oR xR xD xA u_r, ar cI xD 8 u_d, ar cI xA 8 u_a, oG xG xL xH xI, ar cI xL 6 u_lo, ar cI xH 6 u_hi, ar cI xI 6 u_ri, oT xT u_t] [oP xP xM xR xG xT u_z, oM xM xW, ar cI xW 512 u_M, oR xR xD xA u_r, ar cI xD 8 ((s_P_perform6 u_z u_M u_r u_d u_a u_lo u_hi u_ri u_t a1).2), ar cI xA 8 u_a, oG xG xL xH xI, ar cI xL 6 u_lo, ar cI xH 6 u_hi, ar cI xI 6 u_ri, oT xT u_t] sz (s_P_perform6 u_z u_M u_r u_d u_a u_lo u_hi u_ri u_t a1).1 := by
  refine met_i (by decide) (Nat.le_of_ble_eq_true rfl) rfl ?_
  intro p e s m args below meth c A Q ls hx hb hml hown hts hK hP hD hS hA hl hE
  have hl : lv_has ls 4 [(0, .ref xP), (1, .int a1)] := hl
  have hown : s.vm.findClass R_P = some m.cls := hown
  refine lv_iload_n hx hb d_P_perform_0 rfl (lv_at hl 1 rfl) ?_
  refine lv_bipush (v := (31 : Int32)) hx hb d_P_perform_1 (by decide) ?_
  refine lv_iand hx hb d_P_perform_3 ?_
  refine lv_topi (fun zz ez => ?_)
  obtain rfl : zz = (6 : Int32) := ez.trans hop
  refine lv_istore_n (lv' := [(2, .int (6 : Int32)), (0, .ref xP), (1, .int a1)]) hx hb d_P_perform_4 rfl hl (by decide) rfl (fun ls hl => ?_)
  refine lv_iload_n hx hb d_P_perform_5 rfl (lv_at hl 2 rfl) ?_
  refine zz_cS0 (rest := []) ⟨hx, hb, hml, hown, hts⟩ (k_P_amount l D cI _ a1) g_P_perform_P_amount_131 nd_P_amount ⟨⟨rfl, rfl⟩, Nat.le_of_ble_eq_true rfl, Nat.le_of_ble_eq_true rfl⟩ hK hP hD hS hA rfl rfl hl.1 (Nat.le_of_ble_eq_true rfl) d_P_perform_6 ⟨Nat.zero_le _, Nat.zero_le _⟩ (fun H locs hP hD hS => ?_)
  refine lv_istore_n (lv' := [(3, .int (s_P_amount a1)), (2, .int (6 : Int32)), (0, .ref xP), (1, .int a1)]) hx hb d_P_perform_9 rfl hl (by decide) rfl (fun ls hl => ?_)
  refine lv_iload_n hx hb d_P_perform_10 rfl (lv_at hl 1 rfl) ?_
  refine zz_cS0 (rest := []) ⟨hx, hb, hml, hown, hts⟩ (k_P_needsTopLevel l D cI _ (6 : Int32)) g_P_perform_P_needsTopLevel_134 nd_P_needsTopLevel ⟨⟨rfl, rfl⟩, Nat.le_of_ble_eq_true rfl, Nat.le_of_ble_eq_true rfl⟩ hK hP hD hS hA rfl rfl hl.1 (Nat.le_of_ble_eq_true rfl) d_P_perform_11 ⟨Nat.zero_le _, Nat.zero_le _⟩ (fun H locs hP hD hS => ?_)
  refine lv_if_eq (tgt := 32) hx hb d_P_perform_14 (by decide) (fun _ => ?_) (fun hh => absurd hh (by decide))
  refine lv_iload_n hx hb d_P_perform_32 rfl (lv_at hl 1 rfl) ?_
  refine lv_tableIn (off := 273) (tgt := 306) hx hb d_P_perform_33 (by decide) (by decide) rfl (by decide) ?_
  refine lv_aload_n hx hb d_P_perform_306 rfl (lv_at hl 2 rfl) ?_
  refine lv_iload_n hx hb d_P_perform_307 rfl (lv_at hl 1 rfl) ?_
  refine lv_iload_n hx hb d_P_perform_308 rfl (lv_at hl 3 rfl) ?_
  refine zz_cVi (rest := []) (wr := []) (w' := [oP xP xM xR xG xT u_z, oM xM xW, ar cI xW 512 u_M, oR xR xD xA u_r, ar cI xD 8 ((s_P_compute6 u_z u_M u_r u_d u_a u_lo u_hi u_ri u_t a1).2), ar cI xA 8 u_a, oG xG xL xH xI, ar cI xL 6 u_lo, ar cI xH 6 u_hi, ar cI xI 6 u_ri, oT xT u_t]) ⟨hx, hb, hml, hown, hts⟩ (k_P_compute6 l D cI _ xP xM xW xR xD xA xG xL xH xI xT u_z u_M u_r u_d u_a u_lo u_hi u_ri u_t a1) g_P_perform_P_compute_169 nv_P_compute ⟨⟨rfl, rfl⟩, Nat.le_of_ble_eq_true rfl, Nat.le_of_ble_eq_true rfl⟩ hK [0] rfl hP hD hS hA [0, 1, 2, 3, 4, 5, 6, 7, 8, 9, 10] [] [0, 1, 2, 3, 4, 5, 6, 7, 8, 9, 10] rfl rfl rfl rfl (by decide) rfl rfl 0 4 rfl rfl rfl rfl hl.1 (Nat.le_of_ble_eq_true rfl) d_P_perform_309 ⟨Nat.zero_le _, Nat.zero_le _⟩ (fun H locs hP hD hS => ?_)
  have hsp : s_P_perform6 u_z u_M u_r u_d u_a u_lo u_hi u_ri u_t a1 = ((s_P_compute6 u_z u_M u_r u_d u_a u_lo u_hi u_ri u_t a1).1, (s_P_compute6 u_z u_M u_r u_d u_a u_lo u_hi u_ri u_t a1).2) := rfl
  rw [hsp] at hE
  exact hE _ _ _ _ hP hD hS d_P_perform_312
set_option maxHeartbeats 4000000 in
set_option maxRecDepth 100000 in
theorem k_P_perform7 (l : Launch) (D : va_G) (cI : ClassId) (sz : Nat) (xP : Nat) (xM : Nat) (xW : Nat) (xR : Nat) (xD : Nat) (xA : Nat) (xG : Nat) (xL : Nat) (xH : Nat) (xI : Nat) (xT : Nat) (u_z : Nat → Int32) (u_M : Nat → Int32) (u_r : Nat → Int32) (u_d : Nat → Int32) (u_a : Nat → Int32) (u_lo : Nat → Int32) (u_hi : Nat → Int32) (u_ri : Nat → Int32) (u_t : Nat → Int32) (a1 : Int32) (hop : (a1 &&& (31 : Int32)) = (7 : Int32)) : zMi l y_P_perform (.code y_P_perform b_P_perform 4 (some .int) :: wd) { frames := 4, cells := 0, slots := 0, locals := 100 } D classes [(cI, .int)] [.ref xP, .int a1] [oP xP xM xR xG xT u_z, oM xM xW, ar cI xW 512 u_M, oR xR xD xA u_r, ar cI xD 8 u_d, ar cI xA 8 u_a, oG xG xL xH xI, ar cI xL 6 u_lo, ar cI xH 6 u_hi, ar cI xI 6 u_ri, oT xT u_t] [oP xP xM xR xG xT u_z, oM xM xW, ar cI xW 512 u_M, oR xR xD xA u_r, ar cI xD 8 ((s_P_perform7 u_z u_M u_r u_d u_a u_lo u_hi u_ri u_t a1).2), ar cI xA 8 u_a, oG xG xL xH xI, ar cI xL 6 u_lo, ar cI xH 6 u_hi, ar cI xI 6 u_ri, oT xT u_t] sz (s_P_perform7 u_z u_M u_r u_d u_a u_lo u_hi u_ri u_t a1).1 := by
  refine met_i (by decide) (Nat.le_of_ble_eq_true rfl) rfl ?_
  intro p e s m args below meth c A Q ls hx hb hml hown hts hK hP hD hS hA hl hE
  have hl : lv_has ls 4 [(0, .ref xP), (1, .int a1)] := hl
  have hown : s.vm.findClass R_P = some m.cls := hown
  refine lv_iload_n hx hb d_P_perform_0 rfl (lv_at hl 1 rfl) ?_
  refine lv_bipush (v := (31 : Int32)) hx hb d_P_perform_1 (by decide) ?_
  refine lv_iand hx hb d_P_perform_3 ?_
  refine lv_topi (fun zz ez => ?_)
  obtain rfl : zz = (7 : Int32) := ez.trans hop
  refine lv_istore_n (lv' := [(2, .int (7 : Int32)), (0, .ref xP), (1, .int a1)]) hx hb d_P_perform_4 rfl hl (by decide) rfl (fun ls hl => ?_)
  refine lv_iload_n hx hb d_P_perform_5 rfl (lv_at hl 2 rfl) ?_
  refine zz_cS0 (rest := []) ⟨hx, hb, hml, hown, hts⟩ (k_P_amount l D cI _ a1) g_P_perform_P_amount_131 nd_P_amount ⟨⟨rfl, rfl⟩, Nat.le_of_ble_eq_true rfl, Nat.le_of_ble_eq_true rfl⟩ hK hP hD hS hA rfl rfl hl.1 (Nat.le_of_ble_eq_true rfl) d_P_perform_6 ⟨Nat.zero_le _, Nat.zero_le _⟩ (fun H locs hP hD hS => ?_)
  refine lv_istore_n (lv' := [(3, .int (s_P_amount a1)), (2, .int (7 : Int32)), (0, .ref xP), (1, .int a1)]) hx hb d_P_perform_9 rfl hl (by decide) rfl (fun ls hl => ?_)
  refine lv_iload_n hx hb d_P_perform_10 rfl (lv_at hl 1 rfl) ?_
  refine zz_cS0 (rest := []) ⟨hx, hb, hml, hown, hts⟩ (k_P_needsTopLevel l D cI _ (7 : Int32)) g_P_perform_P_needsTopLevel_134 nd_P_needsTopLevel ⟨⟨rfl, rfl⟩, Nat.le_of_ble_eq_true rfl, Nat.le_of_ble_eq_true rfl⟩ hK hP hD hS hA rfl rfl hl.1 (Nat.le_of_ble_eq_true rfl) d_P_perform_11 ⟨Nat.zero_le _, Nat.zero_le _⟩ (fun H locs hP hD hS => ?_)
  refine lv_if_eq (tgt := 32) hx hb d_P_perform_14 (by decide) (fun _ => ?_) (fun hh => absurd hh (by decide))
  refine lv_iload_n hx hb d_P_perform_32 rfl (lv_at hl 1 rfl) ?_
  refine lv_tableIn (off := 273) (tgt := 306) hx hb d_P_perform_33 (by decide) (by decide) rfl (by decide) ?_
  refine lv_aload_n hx hb d_P_perform_306 rfl (lv_at hl 2 rfl) ?_
  refine lv_iload_n hx hb d_P_perform_307 rfl (lv_at hl 1 rfl) ?_
  refine lv_iload_n hx hb d_P_perform_308 rfl (lv_at hl 3 rfl) ?_
  refine zz_cVi (rest := []) (wr := []) (w' := [oP xP xM xR xG xT u_z, oM xM xW, ar cI xW 512 u_M, oR xR xD xA u_r, ar cI xD 8 ((s_P_compute7 u_z u_M u_r u_d u_a u_lo u_hi u_ri u_t a1).2), ar cI xA 8 u_a, oG xG xL xH xI, ar cI xL 6 u_lo, ar cI xH 6 u_hi, ar cI xI 6 u_ri, oT xT u_t]) ⟨hx, hb, hml, hown, hts⟩ (k_P_compute7 l D cI _ xP xM xW xR xD xA xG xL xH xI xT u_z u_M u_r u_d u_a u_lo u_hi u_ri u_t a1) g_P_perform_P_compute_169 nv_P_compute ⟨⟨rfl, rfl⟩, Nat.le_of_ble_eq_true rfl, Nat.le_of_ble_eq_true rfl⟩ hK [0] rfl hP hD hS hA [0, 1, 2, 3, 4, 5, 6, 7, 8, 9, 10] [] [0, 1, 2, 3, 4, 5, 6, 7, 8, 9, 10] rfl rfl rfl rfl (by decide) rfl rfl 0 4 rfl rfl rfl rfl hl.1 (Nat.le_of_ble_eq_true rfl) d_P_perform_309 ⟨Nat.zero_le _, Nat.zero_le _⟩ (fun H locs hP hD hS => ?_)
  have hsp : s_P_perform7 u_z u_M u_r u_d u_a u_lo u_hi u_ri u_t a1 = ((s_P_compute7 u_z u_M u_r u_d u_a u_lo u_hi u_ri u_t a1).1, (s_P_compute7 u_z u_M u_r u_d u_a u_lo u_hi u_ri u_t a1).2) := rfl
  rw [hsp] at hE
  exact hE _ _ _ _ hP hD hS d_P_perform_312
set_option maxHeartbeats 4000000 in
set_option maxRecDepth 100000 in
theorem k_P_perform8 (l : Launch) (D : va_G) (cI : ClassId) (sz : Nat) (xP : Nat) (xM : Nat) (xW : Nat) (xR : Nat) (xD : Nat) (xA : Nat) (xG : Nat) (xL : Nat) (xH : Nat) (xI : Nat) (xT : Nat) (u_z : Nat → Int32) (u_M : Nat → Int32) (u_r : Nat → Int32) (u_d : Nat → Int32) (u_a : Nat → Int32) (u_lo : Nat → Int32) (u_hi : Nat → Int32) (u_ri : Nat → Int32) (u_t : Nat → Int32) (a1 : Int32) (hop : (a1 &&& (31 : Int32)) = (8 : Int32)) : zMi l y_P_perform (.code y_P_perform b_P_perform 4 (some .int) :: wd) { frames := 4, cells := 0, slots := 0, locals := 100 } D classes [(cI, .int)] [.ref xP, .int a1] [oP xP xM xR xG xT u_z, oM xM xW, ar cI xW 512 u_M, oR xR xD xA u_r, ar cI xD 8 u_d, ar cI xA 8 u_a, oG xG xL xH xI, ar cI xL 6 u_lo, ar cI xH 6 u_hi, ar cI xI 6 u_ri, oT xT u_t] [oP xP xM xR xG xT u_z, oM xM xW, ar cI xW 512 u_M, oR xR xD xA u_r, ar cI xD 8 ((s_P_perform8 u_z u_M u_r u_d u_a u_lo u_hi u_ri u_t a1).2), ar cI xA 8 u_a, oG xG xL xH xI, ar cI xL 6 u_lo, ar cI xH 6 u_hi, ar cI xI 6 u_ri, oT xT u_t] sz (s_P_perform8 u_z u_M u_r u_d u_a u_lo u_hi u_ri u_t a1).1 := by
  refine met_i (by decide) (Nat.le_of_ble_eq_true rfl) rfl ?_
  intro p e s m args below meth c A Q ls hx hb hml hown hts hK hP hD hS hA hl hE
  have hl : lv_has ls 4 [(0, .ref xP), (1, .int a1)] := hl
  have hown : s.vm.findClass R_P = some m.cls := hown
  refine lv_iload_n hx hb d_P_perform_0 rfl (lv_at hl 1 rfl) ?_
  refine lv_bipush (v := (31 : Int32)) hx hb d_P_perform_1 (by decide) ?_
  refine lv_iand hx hb d_P_perform_3 ?_
  refine lv_topi (fun zz ez => ?_)
  obtain rfl : zz = (8 : Int32) := ez.trans hop
  refine lv_istore_n (lv' := [(2, .int (8 : Int32)), (0, .ref xP), (1, .int a1)]) hx hb d_P_perform_4 rfl hl (by decide) rfl (fun ls hl => ?_)
  refine lv_iload_n hx hb d_P_perform_5 rfl (lv_at hl 2 rfl) ?_
  refine zz_cS0 (rest := []) ⟨hx, hb, hml, hown, hts⟩ (k_P_amount l D cI _ a1) g_P_perform_P_amount_131 nd_P_amount ⟨⟨rfl, rfl⟩, Nat.le_of_ble_eq_true rfl, Nat.le_of_ble_eq_true rfl⟩ hK hP hD hS hA rfl rfl hl.1 (Nat.le_of_ble_eq_true rfl) d_P_perform_6 ⟨Nat.zero_le _, Nat.zero_le _⟩ (fun H locs hP hD hS => ?_)
  refine lv_istore_n (lv' := [(3, .int (s_P_amount a1)), (2, .int (8 : Int32)), (0, .ref xP), (1, .int a1)]) hx hb d_P_perform_9 rfl hl (by decide) rfl (fun ls hl => ?_)
  refine lv_iload_n hx hb d_P_perform_10 rfl (lv_at hl 1 rfl) ?_
  refine zz_cS0 (rest := []) ⟨hx, hb, hml, hown, hts⟩ (k_P_needsTopLevel l D cI _ (8 : Int32)) g_P_perform_P_needsTopLevel_134 nd_P_needsTopLevel ⟨⟨rfl, rfl⟩, Nat.le_of_ble_eq_true rfl, Nat.le_of_ble_eq_true rfl⟩ hK hP hD hS hA rfl rfl hl.1 (Nat.le_of_ble_eq_true rfl) d_P_perform_11 ⟨Nat.zero_le _, Nat.zero_le _⟩ (fun H locs hP hD hS => ?_)
  refine lv_if_eq (tgt := 32) hx hb d_P_perform_14 (by decide) (fun _ => ?_) (fun hh => absurd hh (by decide))
  refine lv_iload_n hx hb d_P_perform_32 rfl (lv_at hl 1 rfl) ?_
  refine lv_tableIn (off := 273) (tgt := 306) hx hb d_P_perform_33 (by decide) (by decide) rfl (by decide) ?_
  refine lv_aload_n hx hb d_P_perform_306 rfl (lv_at hl 2 rfl) ?_
  refine lv_iload_n hx hb d_P_perform_307 rfl (lv_at hl 1 rfl) ?_
  refine lv_iload_n hx hb d_P_perform_308 rfl (lv_at hl 3 rfl) ?_
  refine zz_cVi (rest := []) (wr := []) (w' := [oP xP xM xR xG xT u_z, oM xM xW, ar cI xW 512 u_M, oR xR xD xA u_r, ar cI xD 8 ((s_P_compute8 u_z u_M u_r u_d u_a u_lo u_hi u_ri u_t a1).2), ar cI xA 8 u_a, oG xG xL xH xI, ar cI xL 6 u_lo, ar cI xH 6 u_hi, ar cI xI 6 u_ri, oT xT u_t]) ⟨hx, hb, hml, hown, hts⟩ (k_P_compute8 l D cI _ xP xM xW xR xD xA xG xL xH xI xT u_z u_M u_r u_d u_a u_lo u_hi u_ri u_t a1) g_P_perform_P_compute_169 nv_P_compute ⟨⟨rfl, rfl⟩, Nat.le_of_ble_eq_true rfl, Nat.le_of_ble_eq_true rfl⟩ hK [0] rfl hP hD hS hA [0, 1, 2, 3, 4, 5, 6, 7, 8, 9, 10] [] [0, 1, 2, 3, 4, 5, 6, 7, 8, 9, 10] rfl rfl rfl rfl (by decide) rfl rfl 0 4 rfl rfl rfl rfl hl.1 (Nat.le_of_ble_eq_true rfl) d_P_perform_309 ⟨Nat.zero_le _, Nat.zero_le _⟩ (fun H locs hP hD hS => ?_)
  have hsp : s_P_perform8 u_z u_M u_r u_d u_a u_lo u_hi u_ri u_t a1 = ((s_P_compute8 u_z u_M u_r u_d u_a u_lo u_hi u_ri u_t a1).1, (s_P_compute8 u_z u_M u_r u_d u_a u_lo u_hi u_ri u_t a1).2) := rfl
  rw [hsp] at hE
  exact hE _ _ _ _ hP hD hS d_P_perform_312
set_option maxHeartbeats 4000000 in
set_option maxRecDepth 100000 in
theorem k_P_perform9 (l : Launch) (D : va_G) (cI : ClassId) (sz : Nat) (xP : Nat) (xM : Nat) (xW : Nat) (xR : Nat) (xD : Nat) (xA : Nat) (xG : Nat) (xL : Nat) (xH : Nat) (xI : Nat) (xT : Nat) (u_z : Nat → Int32) (u_M : Nat → Int32) (u_r : Nat → Int32) (u_d : Nat → Int32) (u_a : Nat → Int32) (u_lo : Nat → Int32) (u_hi : Nat → Int32) (u_ri : Nat → Int32) (u_t : Nat → Int32) (a1 : Int32) (hop : (a1 &&& (31 : Int32)) = (9 : Int32)) : zMi l y_P_perform (.code y_P_perform b_P_perform 4 (some .int) :: wd) { frames := 4, cells := 0, slots := 0, locals := 100 } D classes [(cI, .int)] [.ref xP, .int a1] [oP xP xM xR xG xT u_z, oM xM xW, ar cI xW 512 u_M, oR xR xD xA u_r, ar cI xD 8 u_d, ar cI xA 8 u_a, oG xG xL xH xI, ar cI xL 6 u_lo, ar cI xH 6 u_hi, ar cI xI 6 u_ri, oT xT u_t] [oP xP xM xR xG xT u_z, oM xM xW, ar cI xW 512 u_M, oR xR xD xA u_r, ar cI xD 8 u_d, ar cI xA 8 ((s_P_perform9 u_z u_M u_r u_d u_a u_lo u_hi u_ri u_t a1).2), oG xG xL xH xI, ar cI xL 6 u_lo, ar cI xH 6 u_hi, ar cI xI 6 u_ri, oT xT u_t] sz (s_P_perform9 u_z u_M u_r u_d u_a u_lo u_hi u_ri u_t a1).1 := by
  refine met_i (by decide) (Nat.le_of_ble_eq_true rfl) rfl ?_
  intro p e s m args below meth c A Q ls hx hb hml hown hts hK hP hD hS hA hl hE
  have hl : lv_has ls 4 [(0, .ref xP), (1, .int a1)] := hl
  have hown : s.vm.findClass R_P = some m.cls := hown
  refine lv_iload_n hx hb d_P_perform_0 rfl (lv_at hl 1 rfl) ?_
  refine lv_bipush (v := (31 : Int32)) hx hb d_P_perform_1 (by decide) ?_
  refine lv_iand hx hb d_P_perform_3 ?_
  refine lv_topi (fun zz ez => ?_)
  obtain rfl : zz = (9 : Int32) := ez.trans hop
  refine lv_istore_n (lv' := [(2, .int (9 : Int32)), (0, .ref xP), (1, .int a1)]) hx hb d_P_perform_4 rfl hl (by decide) rfl (fun ls hl => ?_)
  refine lv_iload_n hx hb d_P_perform_5 rfl (lv_at hl 2 rfl) ?_
  refine zz_cS0 (rest := []) ⟨hx, hb, hml, hown, hts⟩ (k_P_amount l D cI _ a1) g_P_perform_P_amount_131 nd_P_amount ⟨⟨rfl, rfl⟩, Nat.le_of_ble_eq_true rfl, Nat.le_of_ble_eq_true rfl⟩ hK hP hD hS hA rfl rfl hl.1 (Nat.le_of_ble_eq_true rfl) d_P_perform_6 ⟨Nat.zero_le _, Nat.zero_le _⟩ (fun H locs hP hD hS => ?_)
  refine lv_istore_n (lv' := [(3, .int (s_P_amount a1)), (2, .int (9 : Int32)), (0, .ref xP), (1, .int a1)]) hx hb d_P_perform_9 rfl hl (by decide) rfl (fun ls hl => ?_)
  refine lv_iload_n hx hb d_P_perform_10 rfl (lv_at hl 1 rfl) ?_
  refine zz_cS0 (rest := []) ⟨hx, hb, hml, hown, hts⟩ (k_P_needsTopLevel l D cI _ (9 : Int32)) g_P_perform_P_needsTopLevel_134 nd_P_needsTopLevel ⟨⟨rfl, rfl⟩, Nat.le_of_ble_eq_true rfl, Nat.le_of_ble_eq_true rfl⟩ hK hP hD hS hA rfl rfl hl.1 (Nat.le_of_ble_eq_true rfl) d_P_perform_11 ⟨Nat.zero_le _, Nat.zero_le _⟩ (fun H locs hP hD hS => ?_)
  refine lv_if_eq (tgt := 32) hx hb d_P_perform_14 (by decide) (fun _ => ?_) (fun hh => absurd hh (by decide))
  refine lv_iload_n hx hb d_P_perform_32 rfl (lv_at hl 1 rfl) ?_
  refine lv_tableIn (off := 273) (tgt := 306) hx hb d_P_perform_33 (by decide) (by decide) rfl (by decide) ?_
  refine lv_aload_n hx hb d_P_perform_306 rfl (lv_at hl 2 rfl) ?_
  refine lv_iload_n hx hb d_P_perform_307 rfl (lv_at hl 1 rfl) ?_
  refine lv_iload_n hx hb d_P_perform_308 rfl (lv_at hl 3 rfl) ?_
  refine zz_cVi (rest := []) (wr := []) (w' := [oP xP xM xR xG xT u_z, oM xM xW, ar cI xW 512 u_M, oR xR xD xA u_r, ar cI xD 8 u_d, ar cI xA 8 ((s_P_compute9 u_z u_M u_r u_d u_a u_lo u_hi u_ri u_t a1).2), oG xG xL xH xI, ar cI xL 6 u_lo, ar cI xH 6 u_hi, ar cI xI 6 u_ri, oT xT u_t]) ⟨hx, hb, hml, hown, hts⟩ (k_P_compute9 l D cI _ xP xM xW xR xD xA xG xL xH xI xT u_z u_M u_r u_d u_a u_lo u_hi u_ri u_t a1) g_P_perform_P_compute_169 nv_P_compute ⟨⟨rfl, rfl⟩, Nat.le_of_ble_eq_true rfl, Nat.le_of_ble_eq_true rfl⟩ hK [0] rfl hP hD hS hA [0, 1, 2, 3, 4, 5, 6, 7, 8, 9, 10] [] [0, 1, 2, 3, 4, 5, 6, 7, 8, 9, 10] rfl rfl rfl rfl (by decide) rfl rfl 0 4 rfl rfl rfl rfl hl.1 (Nat.le_of_ble_eq_true rfl) d_P_perform_309 ⟨Nat.zero_le _, Nat.zero_le _⟩ (fun H locs hP hD hS => ?_)
  have hsp : s_P_perform9 u_z u_M u_r u_d u_a u_lo u_hi u_ri u_t a1 = ((s_P_compute9 u_z u_M u_r u_d u_a u_lo u_hi u_ri u_t a1).1, (s_P_compute9 u_z u_M u_r u_d u_a u_lo u_hi u_ri u_t a1).2) := rfl
  rw [hsp] at hE
  exact hE _ _ _ _ hP hD hS d_P_perform_312
set_option maxHeartbeats 4000000 in
set_option maxRecDepth 100000 in
theorem k_P_perform10 (l : Launch) (D : va_G) (cI : ClassId) (sz : Nat) (xP : Nat) (xM : Nat) (xW : Nat) (xR : Nat) (xD : Nat) (xA : Nat) (xG : Nat) (xL : Nat) (xH : Nat) (xI : Nat) (xT : Nat) (u_z : Nat → Int32) (u_M : Nat → Int32) (u_r : Nat → Int32) (u_d : Nat → Int32) (u_a : Nat → Int32) (u_lo : Nat → Int32) (u_hi : Nat → Int32) (u_ri : Nat → Int32) (u_t : Nat → Int32) (a1 : Int32) (hop : (a1 &&& (31 : Int32)) = (10 : Int32)) : zMi l y_P_perform (.code y_P_perform b_P_perform 4 (some .int) :: wd) { frames := 4, cells := 0, slots := 0, locals := 100 } D classes [(cI, .int)] [.ref xP, .int a1] [oP xP xM xR xG xT u_z, oM xM xW, ar cI xW 512 u_M, oR xR xD xA u_r, ar cI xD 8 u_d, ar cI xA 8 u_a, oG xG xL xH xI, ar cI xL 6 u_lo, ar cI xH 6 u_hi, ar cI xI 6 u_ri, oT xT u_t] [oP xP xM xR xG xT u_z, oM xM xW, ar cI xW 512 u_M, oR xR xD xA u_r, ar cI xD 8 u_d, ar cI xA 8 ((s_P_perform10 u_z u_M u_r u_d u_a u_lo u_hi u_ri u_t a1).2), oG xG xL xH xI, ar cI xL 6 u_lo, ar cI xH 6 u_hi, ar cI xI 6 u_ri, oT xT u_t] sz (s_P_perform10 u_z u_M u_r u_d u_a u_lo u_hi u_ri u_t a1).1 := by
  refine met_i (by decide) (Nat.le_of_ble_eq_true rfl) rfl ?_
  intro p e s m args below meth c A Q ls hx hb hml hown hts hK hP hD hS hA hl hE
  have hl : lv_has ls 4 [(0, .ref xP), (1, .int a1)] := hl
  have hown : s.vm.findClass R_P = some m.cls := hown
  refine lv_iload_n hx hb d_P_perform_0 rfl (lv_at hl 1 rfl) ?_
  refine lv_bipush (v := (31 : Int32)) hx hb d_P_perform_1 (by decide) ?_
  refine lv_iand hx hb d_P_perform_3 ?_
  refine lv_topi (fun zz ez => ?_)
  obtain rfl : zz = (10 : Int32) := ez.trans hop
  refine lv_istore_n (lv' := [(2, .int (10 : Int32)), (0, .ref xP), (1, .int a1)]) hx hb d_P_perform_4 rfl hl (by decide) rfl (fun ls hl => ?_)
  refine lv_iload_n hx hb d_P_perform_5 rfl (lv_at hl 2 rfl) ?_
  refine zz_cS0 (rest := []) ⟨hx, hb, hml, hown, hts⟩ (k_P_amount l D cI _ a1) g_P_perform_P_amount_131 nd_P_amount ⟨⟨rfl, rfl⟩, Nat.le_of_ble_eq_true rfl, Nat.le_of_ble_eq_true rfl⟩ hK hP hD hS hA rfl rfl hl.1 (Nat.le_of_ble_eq_true rfl) d_P_perform_6 ⟨Nat.zero_le _, Nat.zero_le _⟩ (fun H locs hP hD hS => ?_)
  refine lv_istore_n (lv' := [(3, .int (s_P_amount a1)), (2, .int (10 : Int32)), (0, .ref xP), (1, .int a1)]) hx hb d_P_perform_9 rfl hl (by decide) rfl (fun ls hl => ?_)
  refine lv_iload_n hx hb d_P_perform_10 rfl (lv_at hl 1 rfl) ?_
  refine zz_cS0 (rest := []) ⟨hx, hb, hml, hown, hts⟩ (k_P_needsTopLevel l D cI _ (10 : Int32)) g_P_perform_P_needsTopLevel_134 nd_P_needsTopLevel ⟨⟨rfl, rfl⟩, Nat.le_of_ble_eq_true rfl, Nat.le_of_ble_eq_true rfl⟩ hK hP hD hS hA rfl rfl hl.1 (Nat.le_of_ble_eq_true rfl) d_P_perform_11 ⟨Nat.zero_le _, Nat.zero_le _⟩ (fun H locs hP hD hS => ?_)
  refine lv_if_eq (tgt := 32) hx hb d_P_perform_14 (by decide) (fun _ => ?_) (fun hh => absurd hh (by decide))
  refine lv_iload_n hx hb d_P_perform_32 rfl (lv_at hl 1 rfl) ?_
  refine lv_tableIn (off := 273) (tgt := 306) hx hb d_P_perform_33 (by decide) (by decide) rfl (by decide) ?_
  refine lv_aload_n hx hb d_P_perform_306 rfl (lv_at hl 2 rfl) ?_
  refine lv_iload_n hx hb d_P_perform_307 rfl (lv_at hl 1 rfl) ?_
  refine lv_iload_n hx hb d_P_perform_308 rfl (lv_at hl 3 rfl) ?_
  refine zz_cVi (rest := []) (wr := []) (w' := [oP xP xM xR xG xT u_z, oM xM xW, ar cI xW 512 u_M, oR xR xD xA u_r, ar cI xD 8 u_d, ar cI xA 8 ((s_P_compute10 u_z u_M u_r u_d u_a u_lo u_hi u_ri u_t a1).2), oG xG xL xH xI, ar cI xL 6 u_lo, ar cI xH 6 u_hi, ar cI xI 6 u_ri, oT xT u_t]) ⟨hx, hb, hml, hown, hts⟩ (k_P_compute10 l D cI _ xP xM xW xR xD xA xG xL xH xI xT u_z u_M u_r u_d u_a u_lo u_hi u_ri u_t a1) g_P_perform_P_compute_169 nv_P_compute ⟨⟨rfl, rfl⟩, Nat.le_of_ble_eq_true rfl, Nat.le_of_ble_eq_true rfl⟩ hK [0] rfl hP hD hS hA [0, 1, 2, 3, 4, 5, 6, 7, 8, 9, 10] [] [0, 1, 2, 3, 4, 5, 6, 7, 8, 9, 10] rfl rfl rfl rfl (by decide) rfl rfl 0 4 rfl rfl rfl rfl hl.1 (Nat.le_of_ble_eq_true rfl) d_P_perform_309 ⟨Nat.zero_le _, Nat.zero_le _⟩ (fun H locs hP hD hS => ?_)
  have hsp : s_P_perform10 u_z u_M u_r u_d u_a u_lo u_hi u_ri u_t a1 = ((s_P_compute10 u_z u_M u_r u_d u_a u_lo u_hi u_ri u_t a1).1, (s_P_compute10 u_z u_M u_r u_d u_a u_lo u_hi u_ri u_t a1).2) := rfl
  rw [hsp] at hE
  exact hE _ _ _ _ hP hD hS d_P_perform_312
set_option maxHeartbeats 4000000 in
set_option maxRecDepth 100000 in
theorem k_P_perform11 (l : Launch) (D : va_G) (cI : ClassId) (sz : Nat) (xP : Nat) (xM : Nat) (xW : Nat) (xR : Nat) (xD : Nat) (xA : Nat) (xG : Nat) (xL : Nat) (xH : Nat) (xI : Nat) (xT : Nat) (u_z : Nat → Int32) (u_M : Nat → Int32) (u_r : Nat → Int32) (u_d : Nat → Int32) (u_a : Nat → Int32) (u_lo : Nat → Int32) (u_hi : Nat → Int32) (u_ri : Nat → Int32) (u_t : Nat → Int32) (a1 : Int32) (hop : (a1 &&& (31 : Int32)) = (11 : Int32)) : zMi l y_P_perform (.code y_P_perform b_P_perform 4 (some .int) :: wd) { frames := 4, cells := 0, slots := 0, locals := 100 } D classes [(cI, .int)] [.ref xP, .int a1] [oP xP xM xR xG xT u_z, oM xM xW, ar cI xW 512 u_M, oR xR xD xA u_r, ar cI xD 8 u_d, ar cI xA 8 u_a, oG xG xL xH xI, ar cI xL 6 u_lo, ar cI xH 6 u_hi, ar cI xI 6 u_ri, oT xT u_t] [oP xP xM xR xG xT u_z, oM xM xW, ar cI xW 512 u_M, oR xR xD xA u_r, ar cI xD 8 u_d, ar cI xA 8 ((s_P_perform11 u_z u_M u_r u_d u_a u_lo u_hi u_ri u_t a1).2), oG xG xL xH xI, ar cI xL 6 u_lo, ar cI xH 6 u_hi, ar cI xI 6 u_ri, oT xT u_t] sz (s_P_perform11 u_z u_M u_r u_d u_a u_lo u_hi u_ri u_t a1).1 := by
  refine met_i (by decide) (Nat.le_of_ble_eq_true rfl) rfl ?_
  intro p e s m args below meth c A Q ls hx hb hml hown hts hK hP hD hS hA hl hE
  have hl : lv_has ls 4 [(0, .ref xP), (1, .int a1)] := hl
  have hown : s.vm.findClass R_P = some m.cls := hown
  refine lv_iload_n hx hb d_P_perform_0 rfl (lv_at hl 1 rfl) ?_
  refine lv_bipush (v := (31 : Int32)) hx hb d_P_perform_1 (by decide) ?_
  refine lv_iand hx hb d_P_perform_3 ?_
  refine lv_topi (fun zz ez => ?_)
  obtain rfl : zz = (11 : Int32) := ez.trans hop
  refine lv_istore_n (lv' := [(2, .int (11 : Int32)), (0, .ref xP), (1, .int a1)]) hx hb d_P_perform_4 rfl hl (by decide) rfl (fun ls hl => ?_)
  refine lv_iload_n hx hb d_P_perform_5 rfl (lv_at hl 2 rfl) ?_
  refine zz_cS0 (rest := []) ⟨hx, hb, hml, hown, hts⟩ (k_P_amount l D cI _ a1) g_P_perform_P_amount_131 nd_P_amount ⟨⟨rfl, rfl⟩, Nat.le_of_ble_eq_true rfl, Nat.le_of_ble_eq_true rfl⟩ hK hP hD hS hA rfl rfl hl.1 (Nat.le_of_ble_eq_true rfl) d_P_perform_6 ⟨Nat.zero_le _, Nat.zero_le _⟩ (fun H locs hP hD hS => ?_)
  refine lv_istore_n (lv' := [(3, .int (s_P_amount a1)), (2, .int (11 : Int32)), (0, .ref xP), (1, .int a1)]) hx hb d_P_perform_9 rfl hl (by decide) rfl (fun ls hl => ?_)
  refine lv_iload_n hx hb d_P_perform_10 rfl (lv_at hl 1 rfl) ?_
  refine zz_cS0 (rest := []) ⟨hx, hb, hml, hown, hts⟩ (k_P_needsTopLevel l D cI _ (11 : Int32)) g_P_perform_P_needsTopLevel_134 nd_P_needsTopLevel ⟨⟨rfl, rfl⟩, Nat.le_of_ble_eq_true rfl, Nat.le_of_ble_eq_true rfl⟩ hK hP hD hS hA rfl rfl hl.1 (Nat.le_of_ble_eq_true rfl) d_P_perform_11 ⟨Nat.zero_le _, Nat.zero_le _⟩ (fun H locs hP hD hS => ?_)
  refine lv_if_eq (tgt := 32) hx hb d_P_perform_14 (by decide) (fun _ => ?_) (fun hh => absurd hh (by decide))
  refine lv_iload_n hx hb d_P_perform_32 rfl (lv_at hl 1 rfl) ?_
  refine lv_tableIn (off := 273) (tgt := 306) hx hb d_P_perform_33 (by decide) (by decide) rfl (by decide) ?_
  refine lv_aload_n hx hb d_P_perform_306 rfl (lv_at hl 2 rfl) ?_
  refine lv_iload_n hx hb d_P_perform_307 rfl (lv_at hl 1 rfl) ?_
  refine lv_iload_n hx hb d_P_perform_308 rfl (lv_at hl 3 rfl) ?_
  refine zz_cVi (rest := []) (wr := []) (w' := [oP xP xM xR xG xT u_z, oM xM xW, ar cI xW 512 u_M, oR xR xD xA u_r, ar cI xD 8 u_d, ar cI xA 8 ((s_P_compute11 u_z u_M u_r u_d u_a u_lo u_hi u_ri u_t a1).2), oG xG xL xH xI, ar cI xL 6 u_lo, ar cI xH 6 u_hi, ar cI xI 6 u_ri, oT xT u_t]) ⟨hx, hb, hml, hown, hts⟩ (k_P_compute11 l D cI _ xP xM xW xR xD xA xG xL xH xI xT u_z u_M u_r u_d u_a u_lo u_hi u_ri u_t a1) g_P_perform_P_compute_169 nv_P_compute ⟨⟨rfl, rfl⟩, Nat.le_of_ble_eq_true rfl, Nat.le_of_ble_eq_true rfl⟩ hK [0] rfl hP hD hS hA [0, 1, 2, 3, 4, 5, 6, 7, 8, 9, 10] [] [0, 1, 2, 3, 4, 5, 6, 7, 8, 9, 10] rfl rfl rfl rfl (by decide) rfl rfl 0 4 rfl rfl rfl rfl hl.1 (Nat.le_of_ble_eq_true rfl) d_P_perform_309 ⟨Nat.zero_le _, Nat.zero_le _⟩ (fun H locs hP hD hS => ?_)
  have hsp : s_P_perform11 u_z u_M u_r u_d u_a u_lo u_hi u_ri u_t a1 = ((s_P_compute11 u_z u_M u_r u_d u_a u_lo u_hi u_ri u_t a1).1, (s_P_compute11 u_z u_M u_r u_d u_a u_lo u_hi u_ri u_t a1).2) := rfl
  rw [hsp] at hE
  exact hE _ _ _ _ hP hD hS d_P_perform_312
set_option maxHeartbeats 4000000 in
set_option maxRecDepth 100000 in
theorem k_P_perform12 (l : Launch) (D : va_G) (cI : ClassId) (sz : Nat) (xP : Nat) (xM : Nat) (xW : Nat) (xR : Nat) (xD : Nat) (xA : Nat) (xG : Nat) (xL : Nat) (xH : Nat) (xI : Nat) (xT : Nat) (u_z : Nat → Int32) (u_M : Nat → Int32) (u_r : Nat → Int32) (u_d : Nat → Int32) (u_a : Nat → Int32) (u_lo : Nat → Int32) (u_hi : Nat → Int32) (u_ri : Nat → Int32) (u_t : Nat → Int32) (a1 : Int32) (hop : (a1 &&& (31 : Int32)) = (12 : Int32)) : zMi l y_P_perform (.code y_P_perform b_P_perform 4 (some .int) :: wd) { frames := 4, cells := 0, slots := 0, locals := 100 } D classes [(cI, .int)] [.ref xP, .int a1] [oP xP xM xR xG xT u_z, oM xM xW, ar cI xW 512 u_M, oR xR xD xA u_r, ar cI xD 8 u_d, ar cI xA 8 u_a, oG xG xL xH xI, ar cI xL 6 u_lo, ar cI xH 6 u_hi, ar cI xI 6 u_ri, oT xT u_t] [oP xP xM xR xG xT u_z, oM xM xW, ar cI xW 512 u_M, oR xR xD xA u_r, ar cI xD 8 ((s_P_perform12 u_z u_M u_r u_d u_a u_lo u_hi u_ri u_t a1).2), ar cI xA 8 u_a, oG xG xL xH xI, ar cI xL 6 u_lo, ar cI xH 6 u_hi, ar cI xI 6 u_ri, oT xT u_t] sz (s_P_perform12 u_z u_M u_r u_d u_a u_lo u_hi u_ri u_t a1).1 := by
  refine met_i (by decide) (Nat.le_of_ble_eq_true rfl) rfl ?_
  intro p e s m args below meth c A Q ls hx hb hml hown hts hK hP hD hS hA hl hE
  have hl : lv_has ls 4 [(0, .ref xP), (1, .int a1)] := hl
  have hown : s.vm.findClass R_P = some m.cls := hown
  refine lv_iload_n hx hb d_P_perform_0 rfl (lv_at hl 1 rfl) ?_
  refine lv_bipush (v := (31 : Int32)) hx hb d_P_perform_1 (by decide) ?_
  refine lv_iand hx hb d_P_perform_3 ?_
  refine lv_topi (fun zz ez => ?_)
  obtain rfl : zz = (12 : Int32) := ez.trans hop
  refine lv_istore_n (lv' := [(2, .int (12 : Int32)), (0, .ref xP), (1, .int a1)]) hx hb d_P_perform_4 rfl hl (by decide) rfl (fun ls hl => ?_)
  refine lv_iload_n hx hb d_P_perform_5 rfl (lv_at hl 2 rfl) ?_
  refine zz_cS0 (rest := []) ⟨hx, hb, hml, hown, hts⟩ (k_P_amount l D cI _ a1) g_P_perform_P_amount_131 nd_P_amount ⟨⟨rfl, rfl⟩, Nat.le_of_ble_eq_true rfl, Nat.le_of_ble_eq_true rfl⟩ hK hP hD hS hA rfl rfl hl.1 (Nat.le_of_ble_eq_true rfl) d_P_perform_6 ⟨Nat.zero_le _, Nat.zero_le _⟩ (fun H locs hP hD hS => ?_)
  refine lv_istore_n (lv' := [(3, .int (s_P_amount a1)), (2, .int (12 : Int32)), (0, .ref xP), (1, .int a1)]) hx hb d_P_perform_9 rfl hl (by decide) rfl (fun ls hl => ?_)
  refine lv_iload_n hx hb d_P_perform_10 rfl (lv_at hl 1 rfl) ?_
  refine zz_cS0 (rest := []) ⟨hx, hb, hml, hown, hts⟩ (k_P_needsTopLevel l D cI _ (12 : Int32)) g_P_perform_P_needsTopLevel_134 nd_P_needsTopLevel ⟨⟨rfl, rfl⟩, Nat.le_of_ble_eq_true rfl, Nat.le_of_ble_eq_true rfl⟩ hK hP hD hS hA rfl rfl hl.1 (Nat.le_of_ble_eq_true rfl) d_P_perform_11 ⟨Nat.zero_le _, Nat.zero_le _⟩ (fun H locs hP hD hS => ?_)
  refine lv_if_eq (tgt := 32) hx hb d_P_perform_14 (by decide) (fun _ => ?_) (fun hh => absurd hh (by decide))
  refine lv_iload_n hx hb d_P_perform_32 rfl (lv_at hl 1 rfl) ?_
  refine lv_tableIn (off := 273) (tgt := 306) hx hb d_P_perform_33 (by decide) (by decide) rfl (by decide) ?_
  refine lv_aload_n hx hb d_P_perform_306 rfl (lv_at hl 2 rfl) ?_
  refine lv_iload_n hx hb d_P_perform_307 rfl (lv_at hl 1 rfl) ?_
  refine lv_iload_n hx hb d_P_perform_308 rfl (lv_at hl 3 rfl) ?_
  refine zz_cVi (rest := []) (wr := []) (w' := [oP xP xM xR xG xT u_z, oM xM xW, ar cI xW 512 u_M, oR xR xD xA u_r, ar cI xD 8 ((s_P_compute12 u_z u_M u_r u_d u_a u_lo u_hi u_ri u_t a1).2), ar cI xA 8 u_a, oG xG xL xH xI, ar cI xL 6 u_lo, ar cI xH 6 u_hi, ar cI xI 6 u_ri, oT xT u_t]) ⟨hx, hb, hml, hown, hts⟩ (k_P_compute12 l D cI _ xP xM xW xR xD xA xG xL xH xI xT u_z u_M u_r u_d u_a u_lo u_hi u_ri u_t a1) g_P_perform_P_compute_169 nv_P_compute ⟨⟨rfl, rfl⟩, Nat.le_of_ble_eq_true rfl, Nat.le_of_ble_eq_true rfl⟩ hK [0] rfl hP hD hS hA [0, 1, 2, 3, 4, 5, 6, 7, 8, 9, 10] [] [0, 1, 2, 3, 4, 5, 6, 7, 8, 9, 10] rfl rfl rfl rfl (by decide) rfl rfl 0 4 rfl rfl rfl rfl hl.1 (Nat.le_of_ble_eq_true rfl) d_P_perform_309 ⟨Nat.zero_le _, Nat.zero_le _⟩ (fun H locs hP hD hS => ?_)
  have hsp : s_P_perform12 u_z u_M u_r u_d u_a u_lo u_hi u_ri u_t a1 = ((s_P_compute12 u_z u_M u_r u_d u_a u_lo u_hi u_ri u_t a1).1, (s_P_compute12 u_z u_M u_r u_d u_a u_lo u_hi u_ri u_t a1).2) := rfl
  rw [hsp] at hE
  exact hE _ _ _ _ hP hD hS d_P_perform_312
set_option maxHeartbeats 4000000 in
set_option maxRecDepth 100000 in
theorem k_P_perform13 (l : Launch) (D : va_G) (cI : ClassId) (sz : Nat) (xP : Nat) (xM : Nat) (xW : Nat) (xR : Nat) (xD : Nat) (xA : Nat) (xG : Nat) (xL : Nat) (xH : Nat) (xI : Nat) (xT : Nat) (u_z : Nat → Int32) (u_M : Nat → Int32) (u_r : Nat → Int32) (u_d : Nat → Int32) (u_a : Nat → Int32) (u_lo : Nat → Int32) (u_hi : Nat → Int32) (u_ri : Nat → Int32) (u_t : Nat → Int32) (a1 : Int32) (hop : (a1 &&& (31 : Int32)) = (13 : Int32)) (hset : u_r 5 = 0 ∨ u_r 5 = 1) : zMi l y_P_perform (.code y_P_perform b_P_perform 4 (some .int) :: wd) { frames := 4, cells := 0, slots := 0, locals := 100 } D classes [(cI, .int)] [.ref xP, .int a1] [oP xP xM xR xG xT u_z, oM xM xW, ar cI xW 512 u_M, oR xR xD xA u_r, ar cI xD 8 u_d, ar cI xA 8 u_a, oG xG xL xH xI, ar cI xL 6 u_lo, ar cI xH 6 u_hi, ar cI xI 6 u_ri, oT xT u_t] [oP xP xM xR xG xT u_z, oM xM xW, ar cI xW 512 u_M, oR xR xD xA u_r, ar cI xD 8 ((s_P_perform13 u_z u_M u_r u_d u_a u_lo u_hi u_ri u_t a1).2), ar cI xA 8 u_a, oG xG xL xH xI, ar cI xL 6 u_lo, ar cI xH 6 u_hi, ar cI xI 6 u_ri, oT xT u_t] sz (s_P_perform13 u_z u_M u_r u_d u_a u_lo u_hi u_ri u_t a1).1 := by
  refine met_i (by decide) (Nat.le_of_ble_eq_true rfl) rfl ?_
  intro p e s m args below meth c A Q ls hx hb hml hown hts hK hP hD hS hA hl hE
  have hl : lv_has ls 4 [(0, .ref xP), (1, .int a1)] := hl
  have hown : s.vm.findClass R_P = some m.cls := hown
  refine lv_iload_n hx hb d_P_perform_0 rfl (lv_at hl 1 rfl) ?_
  refine lv_bipush (v := (31 : Int32)) hx hb d_P_perform_1 (by decide) ?_
  refine lv_iand hx hb d_P_perform_3 ?_
  refine lv_topi (fun zz ez => ?_)
  obtain rfl : zz = (13 : Int32) := ez.trans hop
  refine lv_istore_n (lv' := [(2, .int (13 : Int32)), (0, .ref xP), (1, .int a1)]) hx hb d_P_perform_4 rfl hl (by decide) rfl (fun ls hl => ?_)
  refine lv_iload_n hx hb d_P_perform_5 rfl (lv_at hl 2 rfl) ?_
  refine zz_cS0 (rest := []) ⟨hx, hb, hml, hown, hts⟩ (k_P_amount l D cI _ a1) g_P_perform_P_amount_131 nd_P_amount ⟨⟨rfl, rfl⟩, Nat.le_of_ble_eq_true rfl, Nat.le_of_ble_eq_true rfl⟩ hK hP hD hS hA rfl rfl hl.1 (Nat.le_of_ble_eq_true rfl) d_P_perform_6 ⟨Nat.zero_le _, Nat.zero_le _⟩ (fun H locs hP hD hS => ?_)
  refine lv_istore_n (lv' := [(3, .int (s_P_amount a1)), (2, .int (13 : Int32)), (0, .ref xP), (1, .int a1)]) hx hb d_P_perform_9 rfl hl (by decide) rfl (fun ls hl => ?_)
  refine lv_iload_n hx hb d_P_perform_10 rfl (lv_at hl 1 rfl) ?_
  refine zz_cS0 (rest := []) ⟨hx, hb, hml, hown, hts⟩ (k_P_needsTopLevel l D cI _ (13 : Int32)) g_P_perform_P_needsTopLevel_134 nd_P_needsTopLevel ⟨⟨rfl, rfl⟩, Nat.le_of_ble_eq_true rfl, Nat.le_of_ble_eq_true rfl⟩ hK hP hD hS hA rfl rfl hl.1 (Nat.le_of_ble_eq_true rfl) d_P_perform_11 ⟨Nat.zero_le _, Nat.zero_le _⟩ (fun H locs hP hD hS => ?_)
  refine lv_if_eq (tgt := 32) hx hb d_P_perform_14 (by decide) (fun _ => ?_) (fun hh => absurd hh (by decide))
  refine lv_iload_n hx hb d_P_perform_32 rfl (lv_at hl 1 rfl) ?_
  refine lv_tableIn (off := 147) (tgt := 180) hx hb d_P_perform_33 (by decide) (by decide) rfl (by decide) ?_
  refine lv_aload_n hx hb d_P_perform_180 rfl (lv_at hl 2 rfl) ?_
  refine lv_iload_n hx hb d_P_perform_181 rfl (lv_at hl 1 rfl) ?_
  refine lv_iload_n hx hb d_P_perform_182 rfl (lv_at hl 3 rfl) ?_
  refine zz_cVi (rest := []) (wr := []) (w' := [oP xP xM xR xG xT u_z, oM xM xW, ar cI xW 512 u_M, oR xR xD xA u_r, ar cI xD 8 ((s_P_moveWord13 u_z u_M u_r u_d u_a u_lo u_hi u_ri u_t a1).2), ar cI xA 8 u_a, oG xG xL xH xI, ar cI xL 6 u_lo, ar cI xH 6 u_hi, ar cI xI 6 u_ri, oT xT u_t]) ⟨hx, hb, hml, hown, hts⟩ (k_P_moveWord13 l D cI _ xP xM xW xR xD xA xG xL xH xI xT u_z u_M u_r u_d u_a u_lo u_hi u_ri u_t a1 hset) g_P_perform_P_moveWord_137 nv_P_moveWord ⟨⟨rfl, rfl⟩, Nat.le_of_ble_eq_true rfl, Nat.le_of_ble_eq_true rfl⟩ hK [0] rfl hP hD hS hA [0, 1, 2, 3, 4, 5, 6, 7, 8, 9, 10] [] [0, 1, 2, 3, 4, 5, 6, 7, 8, 9, 10] rfl rfl rfl rfl (by decide) rfl rfl 0 4 rfl rfl rfl rfl hl.1 (Nat.le_of_ble_eq_true rfl) d_P_perform_183 ⟨Nat.zero_le _, Nat.zero_le _⟩ (fun H locs hP hD hS => ?_)
  have hsp : s_P_perform13 u_z u_M u_r u_d u_a u_lo u_hi u_ri u_t a1 = ((s_P_moveWord13 u_z u_M u_r u_d u_a u_lo u_hi u_ri u_t a1).1, (s_P_moveWord13 u_z u_M u_r u_d u_a u_lo u_hi u_ri u_t a1).2) := rfl
  rw [hsp] at hE
  exact hE _ _ _ _ hP hD hS d_P_perform_186
set_option maxHeartbeats 4000000 in
set_option maxRecDepth 100000 in
theorem k_P_perform14 (l : Launch) (D : va_G) (cI : ClassId) (sz : Nat) (xP : Nat) (xM : Nat) (xW : Nat) (xR : Nat) (xD : Nat) (xA : Nat) (xG : Nat) (xL : Nat) (xH : Nat) (xI : Nat) (xT : Nat) (u_z : Nat → Int32) (u_M : Nat → Int32) (u_r : Nat → Int32) (u_d : Nat → Int32) (u_a : Nat → Int32) (u_lo : Nat → Int32) (u_hi : Nat → Int32) (u_ri : Nat → Int32) (u_t : Nat → Int32) (a1 : Int32) (hop : (a1 &&& (31 : Int32)) = (14 : Int32)) (hset : u_r 5 = 0 ∨ u_r 5 = 1) : zMi l y_P_perform (.code y_P_perform b_P_perform 4 (some .int) :: wd) { frames := 4, cells := 0, slots := 0, locals := 100 } D classes [(cI, .int)] [.ref xP, .int a1] [oP xP xM xR xG xT u_z, oM xM xW, ar cI xW 512 u_M, oR xR xD xA u_r, ar cI xD 8 u_d, ar cI xA 8 u_a, oG xG xL xH xI, ar cI xL 6 u_lo, ar cI xH 6 u_hi, ar cI xI 6 u_ri, oT xT u_t] [oP xP xM xR xG xT u_z, oM xM xW, ar cI xW 512 ((s_P_perform14 u_z u_M u_r u_d u_a u_lo u_hi u_ri u_t a1).2), oR xR xD xA u_r, ar cI xD 8 u_d, ar cI xA 8 u_a, oG xG xL xH xI, ar cI xL 6 u_lo, ar cI xH 6 u_hi, ar cI xI 6 u_ri, oT xT u_t] sz (s_P_perform14 u_z u_M u_r u_d u_a u_lo u_hi u_ri u_t a1).1 := by
  refine met_i (by decide) (Nat.le_of_ble_eq_true rfl) rfl ?_
  intro p e s m args below meth c A Q ls hx hb hml hown hts hK hP hD hS hA hl hE
  have hl : lv_has ls 4 [(0, .ref xP), (1, .int a1)] := hl
  have hown : s.vm.findClass R_P = some m.cls := hown
  refine lv_iload_n hx hb d_P_perform_0 rfl (lv_at hl 1 rfl) ?_
  refine lv_bipush (v := (31 : Int32)) hx hb d_P_perform_1 (by decide) ?_
  refine lv_iand hx hb d_P_perform_3 ?_
  refine lv_topi (fun zz ez => ?_)
  obtain rfl : zz = (14 : Int32) := ez.trans hop
  refine lv_istore_n (lv' := [(2, .int (14 : Int32)), (0, .ref xP), (1, .int a1)]) hx hb d_P_perform_4 rfl hl (by decide) rfl (fun ls hl => ?_)
  refine lv_iload_n hx hb d_P_perform_5 rfl (lv_at hl 2 rfl) ?_
  refine zz_cS0 (rest := []) ⟨hx, hb, hml, hown, hts⟩ (k_P_amount l D cI _ a1) g_P_perform_P_amount_131 nd_P_amount ⟨⟨rfl, rfl⟩, Nat.le_of_ble_eq_true rfl, Nat.le_of_ble_eq_true rfl⟩ hK hP hD hS hA rfl rfl hl.1 (Nat.le_of_ble_eq_true rfl) d_P_perform_6 ⟨Nat.zero_le _, Nat.zero_le _⟩ (fun H locs hP hD hS => ?_)
  refine lv_istore_n (lv' := [(3, .int (s_P_amount a1)), (2, .int (14 : Int32)), (0, .ref xP), (1, .int a1)]) hx hb d_P_perform_9 rfl hl (by decide) rfl (fun ls hl => ?_)
  refine lv_iload_n hx hb d_P_perform_10 rfl (lv_at hl 1 rfl) ?_
  refine zz_cS0 (rest := []) ⟨hx, hb, hml, hown, hts⟩ (k_P_needsTopLevel l D cI _ (14 : Int32)) g_P_perform_P_needsTopLevel_134 nd_P_needsTopLevel ⟨⟨rfl, rfl⟩, Nat.le_of_ble_eq_true rfl, Nat.le_of_ble_eq_true rfl⟩ hK hP hD hS hA rfl rfl hl.1 (Nat.le_of_ble_eq_true rfl) d_P_perform_11 ⟨Nat.zero_le _, Nat.zero_le _⟩ (fun H locs hP hD hS => ?_)
  refine lv_if_eq (tgt := 32) hx hb d_P_perform_14 (by decide) (fun _ => ?_) (fun hh => absurd hh (by decide))
  refine lv_iload_n hx hb d_P_perform_32 rfl (lv_at hl 1 rfl) ?_
  refine lv_tableIn (off := 147) (tgt := 180) hx hb d_P_perform_33 (by decide) (by decide) rfl (by decide) ?_
  refine lv_aload_n hx hb d_P_perform_180 rfl (lv_at hl 2 rfl) ?_
  refine lv_iload_n hx hb d_P_perform_181 rfl (lv_at hl 1 rfl) ?_
  refine lv_iload_n hx hb d_P_perform_182 rfl (lv_at hl 3 rfl) ?_
  refine zz_cVi (rest := []) (wr := []) (w' := [oP xP xM xR xG xT u_z, oM xM xW, ar cI xW 512 ((s_P_moveWord14 u_z u_M u_r u_d u_a u_lo u_hi u_ri u_t a1).2), oR xR xD xA u_r, ar cI xD 8 u_d, ar cI xA 8 u_a, oG xG xL xH xI, ar cI xL 6 u_lo, ar cI xH 6 u_hi, ar cI xI 6 u_ri, oT xT u_t]) ⟨hx, hb, hml, hown, hts⟩ (k_P_moveWord14 l D cI _ xP xM xW xR xD xA xG xL xH xI xT u_z u_M u_r u_d u_a u_lo u_hi u_ri u_t a1 hset) g_P_perform_P_moveWord_137 nv_P_moveWord ⟨⟨rfl, rfl⟩, Nat.le_of_ble_eq_true rfl, Nat.le_of_ble_eq_true rfl⟩ hK [0] rfl hP hD hS hA [0, 1, 2, 3, 4, 5, 6, 7, 8, 9, 10] [] [0, 1, 2, 3, 4, 5, 6, 7, 8, 9, 10] rfl rfl rfl rfl (by decide) rfl rfl 0 4 rfl rfl rfl rfl hl.1 (Nat.le_of_ble_eq_true rfl) d_P_perform_183 ⟨Nat.zero_le _, Nat.zero_le _⟩ (fun H locs hP hD hS => ?_)
  have hsp : s_P_perform14 u_z u_M u_r u_d u_a u_lo u_hi u_ri u_t a1 = ((s_P_moveWord14 u_z u_M u_r u_d u_a u_lo u_hi u_ri u_t a1).1, (s_P_moveWord14 u_z u_M u_r u_d u_a u_lo u_hi u_ri u_t a1).2) := rfl
  rw [hsp] at hE
  exact hE _ _ _ _ hP hD hS d_P_perform_186
set_option maxHeartbeats 4000000 in
set_option maxRecDepth 100000 in
theorem k_P_perform15 (l : Launch) (D : va_G) (cI : ClassId) (sz : Nat) (xP : Nat) (xM : Nat) (xW : Nat) (xR : Nat) (xD : Nat) (xA : Nat) (xG : Nat) (xL : Nat) (xH : Nat) (xI : Nat) (xT : Nat) (u_z : Nat → Int32) (u_M : Nat → Int32) (u_r : Nat → Int32) (u_d : Nat → Int32) (u_a : Nat → Int32) (u_lo : Nat → Int32) (u_hi : Nat → Int32) (u_ri : Nat → Int32) (u_t : Nat → Int32) (a1 : Int32) (hop : (a1 &&& (31 : Int32)) = (15 : Int32)) (hset : u_r 5 = 0 ∨ u_r 5 = 1) : zMi l y_P_perform (.code y_P_perform b_P_perform 4 (some .int) :: wd) { frames := 4, cells := 0, slots := 0, locals := 100 } D classes [(cI, .int)] [.ref xP, .int a1] [oP xP xM xR xG xT u_z, oM xM xW, ar cI xW 512 u_M, oR xR xD xA u_r, ar cI xD 8 u_d, ar cI xA 8 u_a, oG xG xL xH xI, ar cI xL 6 u_lo, ar cI xH 6 u_hi, ar cI xI 6 u_ri, oT xT u_t] [oP xP xM xR xG xT u_z, oM xM xW, ar cI xW 512 u_M, oR xR xD xA u_r, ar cI xD 8 ((s_P_perform15 u_z u_M u_r u_d u_a u_lo u_hi u_ri u_t a1).2.1), ar cI xA 8 ((s_P_perform15 u_z u_M u_r u_d u_a u_lo u_hi u_ri u_t a1).2.2), oG xG xL xH xI, ar cI xL 6 u_lo, ar cI xH 6 u_hi, ar cI xI 6 u_ri, oT xT u_t] sz (s_P_perform15 u_z u_M u_r u_d u_a u_lo u_hi u_ri u_t a1).1 := by
  refine met_i (by decide) (Nat.le_of_ble_eq_true rfl) rfl ?_
  intro p e s m args below meth c A Q ls hx hb hml hown hts hK hP hD hS hA hl hE
  have hl : lv_has ls 4 [(0, .ref xP), (1, .int a1)] := hl
  have hown : s.vm.findClass R_P = some m.cls := hown
  refine lv_iload_n hx hb d_P_perform_0 rfl (lv_at hl 1 rfl) ?_
  refine lv_bipush (v := (31 : Int32)) hx hb d_P_perform_1 (by decide) ?_
  refine lv_iand hx hb d_P_perform_3 ?_
  refine lv_topi (fun zz ez => ?_)
  obtain rfl : zz = (15 : Int32) := ez.trans hop
  refine lv_istore_n (lv' := [(2, .int (15 : Int32)), (0, .ref xP), (1, .int a1)]) hx hb d_P_perform_4 rfl hl (by decide) rfl (fun ls hl => ?_)
  refine lv_iload_n hx hb d_P_perform_5 rfl (lv_at hl 2 rfl) ?_
  refine zz_cS0 (rest := []) ⟨hx, hb, hml, hown, hts⟩ (k_P_amount l D cI _ a1) g_P_perform_P_amount_131 nd_P_amount ⟨⟨rfl, rfl⟩, Nat.le_of_ble_eq_true rfl, Nat.le_of_ble_eq_true rfl⟩ hK hP hD hS hA rfl rfl hl.1 (Nat.le_of_ble_eq_true rfl) d_P_perform_6 ⟨Nat.zero_le _, Nat.zero_le _⟩ (fun H locs hP hD hS => ?_)
  refine lv_istore_n (lv' := [(3, .int (s_P_amount a1)), (2, .int (15 : Int32)), (0, .ref xP), (1, .int a1)]) hx hb d_P_perform_9 rfl hl (by decide) rfl (fun ls hl => ?_)
  refine lv_iload_n hx hb d_P_perform_10 rfl (lv_at hl 1 rfl) ?_
  refine zz_cS0 (rest := []) ⟨hx, hb, hml, hown, hts⟩ (k_P_needsTopLevel l D cI _ (15 : Int32)) g_P_perform_P_needsTopLevel_134 nd_P_needsTopLevel ⟨⟨rfl, rfl⟩, Nat.le_of_ble_eq_true rfl, Nat.le_of_ble_eq_true rfl⟩ hK hP hD hS hA rfl rfl hl.1 (Nat.le_of_ble_eq_true rfl) d_P_perform_11 ⟨Nat.zero_le _, Nat.zero_le _⟩ (fun H locs hP hD hS => ?_)
  refine lv_if_eq (tgt := 32) hx hb d_P_perform_14 (by decide) (fun _ => ?_) (fun hh => absurd hh (by decide))
  refine lv_iload_n hx hb d_P_perform_32 rfl (lv_at hl 1 rfl) ?_
  refine lv_tableIn (off := 147) (tgt := 180) hx hb d_P_perform_33 (by decide) (by decide) rfl (by decide) ?_
  refine lv_aload_n hx hb d_P_perform_180 rfl (lv_at hl 2 rfl) ?_
  refine lv_iload_n hx hb d_P_perform_181 rfl (lv_at hl 1 rfl) ?_
  refine lv_iload_n hx hb d_P_perform_182 rfl (lv_at hl 3 rfl) ?_
  refine zz_cVi (rest := []) (wr := []) (w' := [oP xP xM xR xG xT u_z, oM xM xW, ar cI xW 512 u_M, oR xR xD xA u_r, ar cI xD 8 ((s_P_moveWord15 u_z u_M u_r u_d u_a u_lo u_hi u_ri u_t a1).2.1), ar cI xA 8 ((s_P_moveWord15 u_z u_M u_r u_d u_a u_lo u_hi u_ri u_t a1).2.2), oG xG xL xH xI, ar cI xL 6 u_lo, ar cI xH 6 u_hi, ar cI xI 6 u_ri, oT xT u_t]) ⟨hx, hb, hml, hown, hts⟩ (k_P_moveWord15 l D cI _ xP xM xW xR xD xA xG xL xH xI xT u_z u_M u_r u_d u_a u_lo u_hi u_ri u_t a1 hset) g_P_perform_P_moveWord_137 nv_P_moveWord ⟨⟨rfl, rfl⟩, Nat.le_of_ble_eq_true rfl, Nat.le_of_ble_eq_true rfl⟩ hK [0] rfl hP hD hS hA [0, 1, 2, 3, 4, 5, 6, 7, 8, 9, 10] [] [0, 1, 2, 3, 4, 5, 6, 7, 8, 9, 10] rfl rfl rfl rfl (by decide) rfl rfl 0 4 rfl rfl rfl rfl hl.1 (Nat.le_of_ble_eq_true rfl) d_P_perform_183 ⟨Nat.zero_le _, Nat.zero_le _⟩ (fun H locs hP hD hS => ?_)
  have hsp : s_P_perform15 u_z u_M u_r u_d u_a u_lo u_hi u_ri u_t a1 = ((s_P_moveWord15 u_z u_M u_r u_d u_a u_lo u_hi u_ri u_t a1).1, (s_P_moveWord15 u_z u_M u_r u_d u_a u_lo u_hi u_ri u_t a1).2.1, (s_P_moveWord15 u_z u_M u_r u_d u_a u_lo u_hi u_ri u_t a1).2.2) := rfl
  rw [hsp] at hE
  exact hE _ _ _ _ hP hD hS d_P_perform_186
set_option maxHeartbeats 4000000 in
set_option maxRecDepth 100000 in
theorem k_P_perform16 (l : Launch) (D : va_G) (cI : ClassId) (sz : Nat) (xP : Nat) (xM : Nat) (xW : Nat) (xR : Nat) (xD : Nat) (xA : Nat) (xG : Nat) (xL : Nat) (xH : Nat) (xI : Nat) (xT : Nat) (u_z : Nat → Int32) (u_M : Nat → Int32) (u_r : Nat → Int32) (u_d : Nat → Int32) (u_a : Nat → Int32) (u_lo : Nat → Int32) (u_hi : Nat → Int32) (u_ri : Nat → Int32) (u_t : Nat → Int32) (a1 : Int32) (hop : (a1 &&& (31 : Int32)) = (16 : Int32)) (hset : u_r 5 = 0 ∨ u_r 5 = 1) : zMi l y_P_perform (.code y_P_perform b_P_perform 4 (some .int) :: wd) { frames := 4, cells := 0, slots := 0, locals := 100 } D classes [(cI, .int)] [.ref xP, .int a1] [oP xP xM xR xG xT u_z, oM xM xW, ar cI xW 512 u_M, oR xR xD xA u_r, ar cI xD 8 u_d, ar cI xA 8 u_a, oG xG xL xH xI, ar cI xL 6 u_lo, ar cI xH 6 u_hi, ar cI xI 6 u_ri, oT xT u_t] [oP xP xM xR xG xT u_z, oM xM xW, ar cI xW 512 ((s_P_perform16 u_z u_M u_r u_d u_a u_lo u_hi u_ri u_t a1).2.1), oR xR xD xA u_r, ar cI xD 8 u_d, ar cI xA 8 ((s_P_perform16 u_z u_M u_r u_d u_a u_lo u_hi u_ri u_t a1).2.2), oG xG xL xH xI, ar cI xL 6 u_lo, ar cI xH 6 u_hi, ar cI xI 6 u_ri, oT xT u_t] sz (s_P_perform16 u_z u_M u_r u_d u_a u_lo u_hi u_ri u_t a1).1 := by
  refine met_i (by decide) (Nat.le_of_ble_eq_true rfl) rfl ?_
  intro p e s m args below meth c A Q ls hx hb hml hown hts hK hP hD hS hA hl hE
  have hl : lv_has ls 4 [(0, .ref xP), (1, .int a1)] := hl
  have hown : s.vm.findClass R_P = some m.cls := hown
  refine lv_iload_n hx hb d_P_perform_0 rfl (lv_at hl 1 rfl) ?_
  refine lv_bipush (v := (31 : Int32)) hx hb d_P_perform_1 (by decide) ?_
  refine lv_iand hx hb d_P_perform_3 ?_
  refine lv_topi (fun zz ez => ?_)
  obtain rfl : zz = (16 : Int32) := ez.trans hop
  refine lv_istore_n (lv' := [(2, .int (16 : Int32)), (0, .ref xP), (1, .int a1)]) hx hb d_P_perform_4 rfl hl (by decide) rfl (fun ls hl => ?_)
  refine lv_iload_n hx hb d_P_perform_5 rfl (lv_at hl 2 rfl) ?_
  refine zz_cS0 (rest := []) ⟨hx, hb, hml, hown, hts⟩ (k_P_amount l D cI _ a1) g_P_perform_P_amount_131 nd_P_amount ⟨⟨rfl, rfl⟩, Nat.le_of_ble_eq_true rfl, Nat.le_of_ble_eq_true rfl⟩ hK hP hD hS hA rfl rfl hl.1 (Nat.le_of_ble_eq_true rfl) d_P_perform_6 ⟨Nat.zero_le _, Nat.zero_le _⟩ (fun H locs hP hD hS => ?_)
  refine lv_istore_n (lv' := [(3, .int (s_P_amount a1)), (2, .int (16 : Int32)), (0, .ref xP), (1, .int a1)]) hx hb d_P_perform_9 rfl hl (by decide) rfl (fun ls hl => ?_)
  refine lv_iload_n hx hb d_P_perform_10 rfl (lv_at hl 1 rfl) ?_
  refine zz_cS0 (rest := []) ⟨hx, hb, hml, hown, hts⟩ (k_P_needsTopLevel l D cI _ (16 : Int32)) g_P_perform_P_needsTopLevel_134 nd_P_needsTopLevel ⟨⟨rfl, rfl⟩, Nat.le_of_ble_eq_true rfl, Nat.le_of_ble_eq_true rfl⟩ hK hP hD hS hA rfl rfl hl.1 (Nat.le_of_ble_eq_true rfl) d_P_perform_11 ⟨Nat.zero_le _, Nat.zero_le _⟩ (fun H locs hP hD hS => ?_)
  refine lv_if_eq (tgt := 32) hx hb d_P_perform_14 (by decide) (fun _ => ?_) (fun hh => absurd hh (by decide))
  refine lv_iload_n hx hb d_P_perform_32 rfl (lv_at hl 1 rfl) ?_
  refine lv_tableIn (off := 147) (tgt := 180) hx hb d_P_perform_33 (by decide) (by decide) rfl (by decide) ?_
  refine lv_aload_n hx hb d_P_perform_180 rfl (lv_at hl 2 rfl) ?_
  refine lv_iload_n hx hb d_P_perform_181 rfl (lv_at hl 1 rfl) ?_
  refine lv_iload_n hx hb d_P_perform_182 rfl (lv_at hl 3 rfl) ?_
  refine zz_cVi (rest := []) (wr := []) (w' := [oP xP xM xR xG xT u_z, oM xM xW, ar cI xW 512 ((s_P_moveWord16 u_z u_M u_r u_d u_a u_lo u_hi u_ri u_t a1).2.1), oR xR xD xA u_r, ar cI xD 8 u_d, ar cI xA 8 ((s_P_moveWord16 u_z u_M u_r u_d u_a u_lo u_hi u_ri u_t a1).2.2), oG xG xL xH xI, ar cI xL 6 u_lo, ar cI xH 6 u_hi, ar cI xI 6 u_ri, oT xT u_t]) ⟨hx, hb, hml, hown, hts⟩ (k_P_moveWord16 l D cI _ xP xM xW xR xD xA xG xL xH xI xT u_z u_M u_r u_d u_a u_lo u_hi u_ri u_t a1 hset) g_P_perform_P_moveWord_137 nv_P_moveWord ⟨⟨rfl, rfl⟩, Nat.le_of_ble_eq_true rfl, Nat.le_of_ble_eq_true rfl⟩ hK [0] rfl hP hD hS hA [0, 1, 2, 3, 4, 5, 6, 7, 8, 9, 10] [] [0, 1, 2, 3, 4, 5, 6, 7, 8, 9, 10] rfl rfl rfl rfl (by decide) rfl rfl 0 4 rfl rfl rfl rfl hl.1 (Nat.le_of_ble_eq_true rfl) d_P_perform_183 ⟨Nat.zero_le _, Nat.zero_le _⟩ (fun H locs hP hD hS => ?_)
  have hsp : s_P_perform16 u_z u_M u_r u_d u_a u_lo u_hi u_ri u_t a1 = ((s_P_moveWord16 u_z u_M u_r u_d u_a u_lo u_hi u_ri u_t a1).1, (s_P_moveWord16 u_z u_M u_r u_d u_a u_lo u_hi u_ri u_t a1).2.1, (s_P_moveWord16 u_z u_M u_r u_d u_a u_lo u_hi u_ri u_t a1).2.2) := rfl
  rw [hsp] at hE
  exact hE _ _ _ _ hP hD hS d_P_perform_186
set_option maxHeartbeats 4000000 in
set_option maxRecDepth 100000 in
theorem k_P_perform17 (l : Launch) (D : va_G) (cI : ClassId) (sz : Nat) (xP : Nat) (xM : Nat) (xW : Nat) (xR : Nat) (xD : Nat) (xA : Nat) (xG : Nat) (xL : Nat) (xH : Nat) (xI : Nat) (xT : Nat) (u_z : Nat → Int32) (u_M : Nat → Int32) (u_r : Nat → Int32) (u_d : Nat → Int32) (u_a : Nat → Int32) (u_lo : Nat → Int32) (u_hi : Nat → Int32) (u_ri : Nat → Int32) (u_t : Nat → Int32) (a1 : Int32) (hop : (a1 &&& (31 : Int32)) = (17 : Int32)) (hset : u_r 5 = 0 ∨ u_r 5 = 1) : zMi l y_P_perform (.code y_P_perform b_P_perform 4 (some .int) :: wd) { frames := 4, cells := 0, slots := 0, locals := 100 } D classes [(cI, .int)] [.ref xP, .int a1] [oP xP xM xR xG xT u_z, oM xM xW, ar cI xW 512 u_M, oR xR xD xA u_r, ar cI xD 8 u_d, ar cI xA 8 u_a, oG xG xL xH xI, ar cI xL 6 u_lo, ar cI xH 6 u_hi, ar cI xI 6 u_ri, oT xT u_t] [oP xP xM xR xG xT u_z, oM xM xW, ar cI xW 512 u_M, oR xR xD xA u_r, ar cI xD 8 ((s_P_perform17 u_z u_M u_r u_d u_a u_lo u_hi u_ri u_t a1).2.1), ar cI xA 8 ((s_P_perform17 u_z u_M u_r u_d u_a u_lo u_hi u_ri u_t a1).2.2), oG xG xL xH xI, ar cI xL 6 u_lo, ar cI xH 6 u_hi, ar cI xI 6 u_ri, oT xT u_t] sz (s_P_perform17 u_z u_M u_r u_d u_a u_lo u_hi u_ri u_t a1).1 := by
  refine met_i (by decide) (Nat.le_of_ble_eq_true rfl) rfl ?_
  intro p e s m args below meth c A Q ls hx hb hml hown hts hK hP hD hS hA hl hE
  have hl : lv_has ls 4 [(0, .ref xP), (1, .int a1)] := hl
  have hown : s.vm.findClass R_P = some m.cls := hown
  refine lv_iload_n hx hb d_P_perform_0 rfl (lv_at hl 1 rfl) ?_
  refine lv_bipush (v := (31 : Int32)) hx hb d_P_perform_1 (by decide) ?_
  refine lv_iand hx hb d_P_perform_3 ?_
  refine lv_topi (fun zz ez => ?_)
  obtain rfl : zz = (17 : Int32) := ez.trans hop
  refine lv_istore_n (lv' := [(2, .int (17 : Int32)), (0, .ref xP), (1, .int a1)]) hx hb d_P_perform_4 rfl hl (by decide) rfl (fun ls hl => ?_)
  refine lv_iload_n hx hb d_P_perform_5 rfl (lv_at hl 2 rfl) ?_
  refine zz_cS0 (rest := []) ⟨hx, hb, hml, hown, hts⟩ (k_P_amount l D cI _ a1) g_P_perform_P_amount_131 nd_P_amount ⟨⟨rfl, rfl⟩, Nat.le_of_ble_eq_true rfl, Nat.le_of_ble_eq_true rfl⟩ hK hP hD hS hA rfl rfl hl.1 (Nat.le_of_ble_eq_true rfl) d_P_perform_6 ⟨Nat.zero_le _, Nat.zero_le _⟩ (fun H locs hP hD hS => ?_)
  refine lv_istore_n (lv' := [(3, .int (s_P_amount a1)), (2, .int (17 : Int32)), (0, .ref xP), (1, .int a1)]) hx hb d_P_perform_9 rfl hl (by decide) rfl (fun ls hl => ?_)
  refine lv_iload_n hx hb d_P_perform_10 rfl (lv_at hl 1 rfl) ?_
  refine zz_cS0 (rest := []) ⟨hx, hb, hml, hown, hts⟩ (k_P_needsTopLevel l D cI _ (17 : Int32)) g_P_perform_P_needsTopLevel_134 nd_P_needsTopLevel ⟨⟨rfl, rfl⟩, Nat.le_of_ble_eq_true rfl, Nat.le_of_ble_eq_true rfl⟩ hK hP hD hS hA rfl rfl hl.1 (Nat.le_of_ble_eq_true rfl) d_P_perform_11 ⟨Nat.zero_le _, Nat.zero_le _⟩ (fun H locs hP hD hS => ?_)
  refine lv_if_eq (tgt := 32) hx hb d_P_perform_14 (by decide) (fun _ => ?_) (fun hh => absurd hh (by decide))
  refine lv_iload_n hx hb d_P_perform_32 rfl (lv_at hl 1 rfl) ?_
  refine lv_tableIn (off := 154) (tgt := 187) hx hb d_P_perform_33 (by decide) (by decide) rfl (by decide) ?_
  refine lv_aload_n hx hb d_P_perform_187 rfl (lv_at hl 2 rfl) ?_
  refine lv_iload_n hx hb d_P_perform_188 rfl (lv_at hl 3 rfl) ?_
  refine zz_cVi (rest := []) (wr := []) (w' := [oP xP xM xR xG xT u_z, oM xM xW, ar cI xW 512 u_M, oR xR xD xA u_r, ar cI xD 8 ((s_P_readRing u_z u_M u_r u_d u_a u_lo u_hi u_ri u_t a1).2.1), ar cI xA 8 ((s_P_readRing u_z u_M u_r u_d u_a u_lo u_hi u_ri u_t a1).2.2), oG xG xL xH xI, ar cI xL 6 u_lo, ar cI xH 6 u_hi, ar cI xI 6 u_ri, oT xT u_t]) ⟨hx, hb, hml, hown, hts⟩ (k_P_readRing l D cI _ xP xM xW xR xD xA xG xL xH xI xT u_z u_M u_r u_d u_a u_lo u_hi u_ri u_t a1 hset) g_P_perform_P_readRing_141 nv_P_readRing ⟨⟨rfl, rfl⟩, Nat.le_of_ble_eq_true rfl, Nat.le_of_ble_eq_true rfl⟩ hK [0] rfl hP hD hS hA [0, 1, 2, 3, 4, 5, 6, 7, 8, 9, 10] [] [0, 1, 2, 3, 4, 5, 6, 7, 8, 9, 10] rfl rfl rfl rfl (by decide) rfl rfl 0 4 rfl rfl rfl rfl hl.1 (Nat.le_of_ble_eq_true rfl) d_P_perform_189 ⟨Nat.zero_le _, Nat.zero_le _⟩ (fun H locs hP hD hS => ?_)
  have hsp : s_P_perform17 u_z u_M u_r u_d u_a u_lo u_hi u_ri u_t a1 = ((s_P_readRing u_z u_M u_r u_d u_a u_lo u_hi u_ri u_t a1).1, (s_P_readRing u_z u_M u_r u_d u_a u_lo u_hi u_ri u_t a1).2.1, (s_P_readRing u_z u_M u_r u_d u_a u_lo u_hi u_ri u_t a1).2.2) := rfl
  rw [hsp] at hE
  exact hE _ _ _ _ hP hD hS d_P_perform_192
set_option maxHeartbeats 4000000 in
set_option maxRecDepth 100000 in
theorem k_P_perform18 (l : Launch) (D : va_G) (cI : ClassId) (sz : Nat) (xP : Nat) (xM : Nat) (xW : Nat) (xR : Nat) (xD : Nat) (xA : Nat) (xG : Nat) (xL : Nat) (xH : Nat) (xI : Nat) (xT : Nat) (u_z : Nat → Int32) (u_M : Nat → Int32) (u_r : Nat → Int32) (u_d : Nat → Int32) (u_a : Nat → Int32) (u_lo : Nat → Int32) (u_hi : Nat → Int32) (u_ri : Nat → Int32) (u_t : Nat → Int32) (a1 : Int32) (hop : (a1 &&& (31 : Int32)) = (18 : Int32)) : zMi l y_P_perform (.code y_P_perform b_P_perform 4 (some .int) :: wd) { frames := 4, cells := 0, slots := 0, locals := 100 } D classes [(cI, .int)] [.ref xP, .int a1] [oP xP xM xR xG xT u_z, oM xM xW, ar cI xW 512 u_M, oR xR xD xA u_r, ar cI xD 8 u_d, ar cI xA 8 u_a, oG xG xL xH xI, ar cI xL 6 u_lo, ar cI xH 6 u_hi, ar cI xI 6 u_ri, oT xT u_t] [oP xP xM xR xG xT u_z, oM xM xW, ar cI xW 512 u_M, oR xR xD xA ((s_P_perform18 u_z u_M u_r u_d u_a u_lo u_hi u_ri u_t a1).2), ar cI xD 8 u_d, ar cI xA 8 u_a, oG xG xL xH xI, ar cI xL 6 u_lo, ar cI xH 6 u_hi, ar cI xI 6 u_ri, oT xT u_t] sz (s_P_perform18 u_z u_M u_r u_d u_a u_lo u_hi u_ri u_t a1).1 := by
  refine met_i (by decide) (Nat.le_of_ble_eq_true rfl) rfl ?_
  intro p e s m args below meth c A Q ls hx hb hml hown hts hK hP hD hS hA hl hE
  have hl : lv_has ls 4 [(0, .ref xP), (1, .int a1)] := hl
  have hown : s.vm.findClass R_P = some m.cls := hown
  refine lv_iload_n hx hb d_P_perform_0 rfl (lv_at hl 1 rfl) ?_
  refine lv_bipush (v := (31 : Int32)) hx hb d_P_perform_1 (by decide) ?_
  refine lv_iand hx hb d_P_perform_3 ?_
  refine lv_topi (fun zz ez => ?_)
  obtain rfl : zz = (18 : Int32) := ez.trans hop
  refine lv_istore_n (lv' := [(2, .int (18 : Int32)), (0, .ref xP), (1, .int a1)]) hx hb d_P_perform_4 rfl hl (by decide) rfl (fun ls hl => ?_)
  refine lv_iload_n hx hb d_P_perform_5 rfl (lv_at hl 2 rfl) ?_
  refine zz_cS0 (rest := []) ⟨hx, hb, hml, hown, hts⟩ (k_P_amount l D cI _ a1) g_P_perform_P_amount_131 nd_P_amount ⟨⟨rfl, rfl⟩, Nat.le_of_ble_eq_true rfl, Nat.le_of_ble_eq_true rfl⟩ hK hP hD hS hA rfl rfl hl.1 (Nat.le_of_ble_eq_true rfl) d_P_perform_6 ⟨Nat.zero_le _, Nat.zero_le _⟩ (fun H locs hP hD hS => ?_)
  refine lv_istore_n (lv' := [(3, .int (s_P_amount a1)), (2, .int (18 : Int32)), (0, .ref xP), (1, .int a1)]) hx hb d_P_perform_9 rfl hl (by decide) rfl (fun ls hl => ?_)
  refine lv_iload_n hx hb d_P_perform_10 rfl (lv_at hl 1 rfl) ?_
  refine zz_cS0 (rest := []) ⟨hx, hb, hml, hown, hts⟩ (k_P_needsTopLevel l D cI _ (18 : Int32)) g_P_perform_P_needsTopLevel_134 nd_P_needsTopLevel ⟨⟨rfl, rfl⟩, Nat.le_of_ble_eq_true rfl, Nat.le_of_ble_eq_true rfl⟩ hK hP hD hS hA rfl rfl hl.1 (Nat.le_of_ble_eq_true rfl) d_P_perform_11 ⟨Nat.zero_le _, Nat.zero_le _⟩ (fun H locs hP hD hS => ?_)
  refine lv_if_eq (tgt := 32) hx hb d_P_perform_14 (by decide) (fun _ => ?_) (fun hh => absurd hh (by decide))
  refine lv_iload_n hx hb d_P_perform_32 rfl (lv_at hl 1 rfl) ?_
  refine lv_tableIn (off := 160) (tgt := 193) hx hb d_P_perform_33 (by decide) (by decide) rfl (by decide) ?_
  refine lv_aload_n hx hb d_P_perform_193 rfl (lv_at hl 2 rfl) ?_
  refine lv_iload_n hx hb d_P_perform_194 rfl (lv_at hl 1 rfl) ?_
  refine lv_iload_n hx hb d_P_perform_195 rfl (lv_at hl 3 rfl) ?_
  refine zz_cVi (rest := []) (wr := []) (w' := [oP xP xM xR xG xT u_z, oM xM xW, ar cI xW 512 u_M, oR xR xD xA ((s_P_jump18 u_z u_M u_r u_d u_a u_lo u_hi u_ri u_t a1).2), ar cI xD 8 u_d, ar cI xA 8 u_a, oG xG xL xH xI, ar cI xL 6 u_lo, ar cI xH 6 u_hi, ar cI xI 6 u_ri, oT xT u_t]) ⟨hx, hb, hml, hown, hts⟩ (k_P_jump18 l D cI _ xP xM xW xR xD xA xG xL xH xI xT u_z u_M u_r u_d u_a u_lo u_hi u_ri u_t a1) g_P_perform_P_jump_144 nv_P_jump ⟨⟨rfl, rfl⟩, Nat.le_of_ble_eq_true rfl, Nat.le_of_ble_eq_true rfl⟩ hK [0] rfl hP hD hS hA [0, 1, 2, 3, 4, 5, 6, 7, 8, 9, 10] [] [0, 1, 2, 3, 4, 5, 6, 7, 8, 9, 10] rfl rfl rfl rfl (by decide) rfl rfl 0 4 rfl rfl rfl rfl hl.1 (Nat.le_of_ble_eq_true rfl) d_P_perform_196 ⟨Nat.zero_le _, Nat.zero_le _⟩ (fun H locs hP hD hS => ?_)
  have hsp : s_P_perform18 u_z u_M u_r u_d u_a u_lo u_hi u_ri u_t a1 = ((s_P_jump18 u_z u_M u_r u_d u_a u_lo u_hi u_ri u_t a1).1, (s_P_jump18 u_z u_M u_r u_d u_a u_lo u_hi u_ri u_t a1).2) := rfl
  rw [hsp] at hE
  exact hE _ _ _ _ hP hD hS d_P_perform_199
set_option maxHeartbeats 4000000 in
set_option maxRecDepth 100000 in
theorem k_P_perform19 (l : Launch) (D : va_G) (cI : ClassId) (sz : Nat) (xP : Nat) (xM : Nat) (xW : Nat) (xR : Nat) (xD : Nat) (xA : Nat) (xG : Nat) (xL : Nat) (xH : Nat) (xI : Nat) (xT : Nat) (u_z : Nat → Int32) (u_M : Nat → Int32) (u_r : Nat → Int32) (u_d : Nat → Int32) (u_a : Nat → Int32) (u_lo : Nat → Int32) (u_hi : Nat → Int32) (u_ri : Nat → Int32) (u_t : Nat → Int32) (a1 : Int32) (hop : (a1 &&& (31 : Int32)) = (19 : Int32)) : zMi l y_P_perform (.code y_P_perform b_P_perform 4 (some .int) :: wd) { frames := 4, cells := 0, slots := 0, locals := 100 } D classes [(cI, .int)] [.ref xP, .int a1] [oP xP xM xR xG xT u_z, oM xM xW, ar cI xW 512 u_M, oR xR xD xA u_r, ar cI xD 8 u_d, ar cI xA 8 u_a, oG xG xL xH xI, ar cI xL 6 u_lo, ar cI xH 6 u_hi, ar cI xI 6 u_ri, oT xT u_t] [oP xP xM xR xG xT u_z, oM xM xW, ar cI xW 512 u_M, oR xR xD xA ((s_P_perform19 u_z u_M u_r u_d u_a u_lo u_hi u_ri u_t a1).2), ar cI xD 8 u_d, ar cI xA 8 u_a, oG xG xL xH xI, ar cI xL 6 u_lo, ar cI xH 6 u_hi, ar cI xI 6 u_ri, oT xT u_t] sz (s_P_perform19 u_z u_M u_r u_d u_a u_lo u_hi u_ri u_t a1).1 := by
  refine met_i (by decide) (Nat.le_of_ble_eq_true rfl) rfl ?_
  intro p e s m args below meth c A Q ls hx hb hml hown hts hK hP hD hS hA hl hE
  have hl : lv_has ls 4 [(0, .ref xP), (1, .int a1)] := hl
  have hown : s.vm.findClass R_P = some m.cls := hown
  refine lv_iload_n hx hb d_P_perform_0 rfl (lv_at hl 1 rfl) ?_
  refine lv_bipush (v := (31 : Int32)) hx hb d_P_perform_1 (by decide) ?_
  refine lv_iand hx hb d_P_perform_3 ?_
  refine lv_topi (fun zz ez => ?_)
  obtain rfl : zz = (19 : Int32) := ez.trans hop
  refine lv_istore_n (lv' := [(2, .int (19 : Int32)), (0, .ref xP), (1, .int a1)]) hx hb d_P_perform_4 rfl hl (by decide) rfl (fun ls hl => ?_)
  refine lv_iload_n hx hb d_P_perform_5 rfl (lv_at hl 2 rfl) ?_
  refine zz_cS0 (rest := []) ⟨hx, hb, hml, hown, hts⟩ (k_P_amount l D cI _ a1) g_P_perform_P_amount_131 nd_P_amount ⟨⟨rfl, rfl⟩, Nat.le_of_ble_eq_true rfl, Nat.le_of_ble_eq_true rfl⟩ hK hP hD hS hA rfl rfl hl.1 (Nat.le_of_ble_eq_true rfl) d_P_perform_6 ⟨Nat.zero_le _, Nat.zero_le _⟩ (fun H locs hP hD hS => ?_)
  refine lv_istore_n (lv' := [(3, .int (s_P_amount a1)), (2, .int (19 : Int32)), (0, .ref xP), (1, .int a1)]) hx hb d_P_perform_9 rfl hl (by decide) rfl (fun ls hl => ?_)
  refine lv_iload_n hx hb d_P_perform_10 rfl (lv_at hl 1 rfl) ?_
  refine zz_cS0 (rest := []) ⟨hx, hb, hml, hown, hts⟩ (k_P_needsTopLevel l D cI _ (19 : Int32)) g_P_perform_P_needsTopLevel_134 nd_P_needsTopLevel ⟨⟨rfl, rfl⟩, Nat.le_of_ble_eq_true rfl, Nat.le_of_ble_eq_true rfl⟩ hK hP hD hS hA rfl rfl hl.1 (Nat.le_of_ble_eq_true rfl) d_P_perform_11 ⟨Nat.zero_le _, Nat.zero_le _⟩ (fun H locs hP hD hS => ?_)
  refine lv_if_eq (tgt := 32) hx hb d_P_perform_14 (by decide) (fun _ => ?_) (fun hh => absurd hh (by decide))
  refine lv_iload_n hx hb d_P_perform_32 rfl (lv_at hl 1 rfl) ?_
  refine lv_tableIn (off := 160) (tgt := 193) hx hb d_P_perform_33 (by decide) (by decide) rfl (by decide) ?_
  refine lv_aload_n hx hb d_P_perform_193 rfl (lv_at hl 2 rfl) ?_
  refine lv_iload_n hx hb d_P_perform_194 rfl (lv_at hl 1 rfl) ?_
  refine lv_iload_n hx hb d_P_perform_195 rfl (lv_at hl 3 rfl) ?_
  refine zz_cVi (rest := []) (wr := []) (w' := [oP xP xM xR xG xT u_z, oM xM xW, ar cI xW 512 u_M, oR xR xD xA ((s_P_jump19 u_z u_M u_r u_d u_a u_lo u_hi u_ri u_t a1).2), ar cI xD 8 u_d, ar cI xA 8 u_a, oG xG xL xH xI, ar cI xL 6 u_lo, ar cI xH 6 u_hi, ar cI xI 6 u_ri, oT xT u_t]) ⟨hx, hb, hml, hown, hts⟩ (k_P_jump19 l D cI _ xP xM xW xR xD xA xG xL xH xI xT u_z u_M u_r u_d u_a u_lo u_hi u_ri u_t a1) g_P_perform_P_jump_144 nv_P_jump ⟨⟨rfl, rfl⟩, Nat.le_of_ble_eq_true rfl, Nat.le_of_ble_eq_true rfl⟩ hK [0] rfl hP hD hS hA [0, 1, 2, 3, 4, 5, 6, 7, 8, 9, 10] [] [0, 1, 2, 3, 4, 5, 6, 7, 8, 9, 10] rfl rfl rfl rfl (by decide) rfl rfl 0 4 rfl rfl rfl rfl hl.1 (Nat.le_of_ble_eq_true rfl) d_P_perform_196 ⟨Nat.zero_le _, Nat.zero_le _⟩ (fun H locs hP hD hS => ?_)
  have hsp : s_P_perform19 u_z u_M u_r u_d u_a u_lo u_hi u_ri u_t a1 = ((s_P_jump19 u_z u_M u_r u_d u_a u_lo u_hi u_ri u_t a1).1, (s_P_jump19 u_z u_M u_r u_d u_a u_lo u_hi u_ri u_t a1).2) := rfl
  rw [hsp] at hE
  exact hE _ _ _ _ hP hD hS d_P_perform_199
set_option maxHeartbeats 4000000 in
set_option maxRecDepth 100000 in
theorem k_P_perform20 (l : Launch) (D : va_G) (cI : ClassId) (sz : Nat) (xP : Nat) (xM : Nat) (xW : Nat) (xR : Nat) (xD : Nat) (xA : Nat) (xG : Nat) (xL : Nat) (xH : Nat) (xI : Nat) (xT : Nat) (u_z : Nat → Int32) (u_M : Nat → Int32) (u_r : Nat → Int32) (u_d : Nat → Int32) (u_a : Nat → Int32) (u_lo : Nat → Int32) (u_hi : Nat → Int32) (u_ri : Nat → Int32) (u_t : Nat → Int32) (a1 : Int32) (hop : (a1 &&& (31 : Int32)) = (20 : Int32)) : zMi l y_P_perform (.code y_P_perform b_P_perform 4 (some .int) :: wd) { frames := 4, cells := 0, slots := 0, locals := 100 } D classes [(cI, .int)] [.ref xP, .int a1] [oP xP xM xR xG xT u_z, oM xM xW, ar cI xW 512 u_M, oR xR xD xA u_r, ar cI xD 8 u_d, ar cI xA 8 u_a, oG xG xL xH xI, ar cI xL 6 u_lo, ar cI xH 6 u_hi, ar cI xI 6 u_ri, oT xT u_t] [oP xP xM xR xG xT u_z, oM xM xW, ar cI xW 512 u_M, oR xR xD xA ((s_P_perform20 u_z u_M u_r u_d u_a u_lo u_hi u_ri u_t a1).2), ar cI xD 8 u_d, ar cI xA 8 u_a, oG xG xL xH xI, ar cI xL 6 u_lo, ar cI xH 6 u_hi, ar cI xI 6 u_ri, oT xT u_t] sz (s_P_perform20 u_z u_M u_r u_d u_a u_lo u_hi u_ri u_t a1).1 := by
  refine met_i (by decide) (Nat.le_of_ble_eq_true rfl) rfl ?_
  intro p e s m args below meth c A Q ls hx hb hml hown hts hK hP hD hS hA hl hE
  have hl : lv_has ls 4 [(0, .ref xP), (1, .int a1)] := hl
  have hown : s.vm.findClass R_P = some m.cls := hown
  refine lv_iload_n hx hb d_P_perform_0 rfl (lv_at hl 1 rfl) ?_
  refine lv_bipush (v := (31 : Int32)) hx hb d_P_perform_1 (by decide) ?_
  refine lv_iand hx hb d_P_perform_3 ?_
  refine lv_topi (fun zz ez => ?_)
  obtain rfl : zz = (20 : Int32) := ez.trans hop
  refine lv_istore_n (lv' := [(2, .int (20 : Int32)), (0, .ref xP), (1, .int a1)]) hx hb d_P_perform_4 rfl hl (by decide) rfl (fun ls hl => ?_)
  refine lv_iload_n hx hb d_P_perform_5 rfl (lv_at hl 2 rfl) ?_
  refine zz_cS0 (rest := []) ⟨hx, hb, hml, hown, hts⟩ (k_P_amount l D cI _ a1) g_P_perform_P_amount_131 nd_P_amount ⟨⟨rfl, rfl⟩, Nat.le_of_ble_eq_true rfl, Nat.le_of_ble_eq_true rfl⟩ hK hP hD hS hA rfl rfl hl.1 (Nat.le_of_ble_eq_true rfl) d_P_perform_6 ⟨Nat.zero_le _, Nat.zero_le _⟩ (fun H locs hP hD hS => ?_)
  refine lv_istore_n (lv' := [(3, .int (s_P_amount a1)), (2, .int (20 : Int32)), (0, .ref xP), (1, .int a1)]) hx hb d_P_perform_9 rfl hl (by decide) rfl (fun ls hl => ?_)
  refine lv_iload_n hx hb d_P_perform_10 rfl (lv_at hl 1 rfl) ?_
  refine zz_cS0 (rest := []) ⟨hx, hb, hml, hown, hts⟩ (k_P_needsTopLevel l D cI _ (20 : Int32)) g_P_perform_P_needsTopLevel_134 nd_P_needsTopLevel ⟨⟨rfl, rfl⟩, Nat.le_of_ble_eq_true rfl, Nat.le_of_ble_eq_true rfl⟩ hK hP hD hS hA rfl rfl hl.1 (Nat.le_of_ble_eq_true rfl) d_P_perform_11 ⟨Nat.zero_le _, Nat.zero_le _⟩ (fun H locs hP hD hS => ?_)
  refine lv_if_eq (tgt := 32) hx hb d_P_perform_14 (by decide) (fun _ => ?_) (fun hh => absurd hh (by decide))
  refine lv_iload_n hx hb d_P_perform_32 rfl (lv_at hl 1 rfl) ?_
  refine lv_tableIn (off := 160) (tgt := 193) hx hb d_P_perform_33 (by decide) (by decide) rfl (by decide) ?_
  refine lv_aload_n hx hb d_P_perform_193 rfl (lv_at hl 2 rfl) ?_
  refine lv_iload_n hx hb d_P_perform_194 rfl (lv_at hl 1 rfl) ?_
  refine lv_iload_n hx hb d_P_perform_195 rfl (lv_at hl 3 rfl) ?_
  refine zz_cVi (rest := []) (wr := []) (w' := [oP xP xM xR xG xT u_z, oM xM xW, ar cI xW 512 u_M, oR xR xD xA ((s_P_jump20 u_z u_M u_r u_d u_a u_lo u_hi u_ri u_t a1).2), ar cI xD 8 u_d, ar cI xA 8 u_a, oG xG xL xH xI, ar cI xL 6 u_lo, ar cI xH 6 u_hi, ar cI xI 6 u_ri, oT xT u_t]) ⟨hx, hb, hml, hown, hts⟩ (k_P_jump20 l D cI _ xP xM xW xR xD xA xG xL xH xI xT u_z u_M u_r u_d u_a u_lo u_hi u_ri u_t a1) g_P_perform_P_jump_144 nv_P_jump ⟨⟨rfl, rfl⟩, Nat.le_of_ble_eq_true rfl, Nat.le_of_ble_eq_true rfl⟩ hK [0] rfl hP hD hS hA [0, 1, 2, 3, 4, 5, 6, 7, 8, 9, 10] [] [0, 1, 2, 3, 4, 5, 6, 7, 8, 9, 10] rfl rfl rfl rfl (by decide) rfl rfl 0 4 rfl rfl rfl rfl hl.1 (Nat.le_of_ble_eq_true rfl) d_P_perform_196 ⟨Nat.zero_le _, Nat.zero_le _⟩ (fun H locs hP hD hS => ?_)
  have hsp : s_P_perform20 u_z u_M u_r u_d u_a u_lo u_hi u_ri u_t a1 = ((s_P_jump20 u_z u_M u_r u_d u_a u_lo u_hi u_ri u_t a1).1, (s_P_jump20 u_z u_M u_r u_d u_a u_lo u_hi u_ri u_t a1).2) := rfl
  rw [hsp] at hE
  exact hE _ _ _ _ hP hD hS d_P_perform_199
set_option maxHeartbeats 4000000 in
set_option maxRecDepth 100000 in
theorem k_P_perform21 (l : Launch) (D : va_G) (cI : ClassId) (sz : Nat) (xP : Nat) (xM : Nat) (xW : Nat) (xR : Nat) (xD : Nat) (xA : Nat) (xG : Nat) (xL : Nat) (xH : Nat) (xI : Nat) (xT : Nat) (u_z : Nat → Int32) (u_M : Nat → Int32) (u_r : Nat → Int32) (u_d : Nat → Int32) (u_a : Nat → Int32) (u_lo : Nat → Int32) (u_hi : Nat → Int32) (u_ri : Nat → Int32) (u_t : Nat → Int32) (a1 : Int32) (hop : (a1 &&& (31 : Int32)) = (21 : Int32)) : zMi l y_P_perform (.code y_P_perform b_P_perform 4 (some .int) :: wd) { frames := 4, cells := 0, slots := 0, locals := 100 } D classes [(cI, .int)] [.ref xP, .int a1] [oP xP xM xR xG xT u_z, oM xM xW, ar cI xW 512 u_M, oR xR xD xA u_r, ar cI xD 8 u_d, ar cI xA 8 u_a, oG xG xL xH xI, ar cI xL 6 u_lo, ar cI xH 6 u_hi, ar cI xI 6 u_ri, oT xT u_t] [oP xP xM xR xG xT u_z, oM xM xW, ar cI xW 512 ((s_P_perform21 u_z u_M u_r u_d u_a u_lo u_hi u_ri u_t a1).2.1), oR xR xD xA ((s_P_perform21 u_z u_M u_r u_d u_a u_lo u_hi u_ri u_t a1).2.2.1), ar cI xD 8 u_d, ar cI xA 8 ((s_P_perform21 u_z u_M u_r u_d u_a u_lo u_hi u_ri u_t a1).2.2.2), oG xG xL xH xI, ar cI xL 6 u_lo, ar cI xH 6 u_hi, ar cI xI 6 u_ri, oT xT u_t] sz (s_P_perform21 u_z u_M u_r u_d u_a u_lo u_hi u_ri u_t a1).1 := by
  refine met_i (by decide) (Nat.le_of_ble_eq_true rfl) rfl ?_
  intro p e s m args below meth c A Q ls hx hb hml hown hts hK hP hD hS hA hl hE
  have hl : lv_has ls 4 [(0, .ref xP), (1, .int a1)] := hl
  have hown : s.vm.findClass R_P = some m.cls := hown
  refine lv_iload_n hx hb d_P_perform_0 rfl (lv_at hl 1 rfl) ?_
  refine lv_bipush (v := (31 : Int32)) hx hb d_P_perform_1 (by decide) ?_
  refine lv_iand hx hb d_P_perform_3 ?_
  refine lv_topi (fun zz ez => ?_)
  obtain rfl : zz = (21 : Int32) := ez.trans hop
  refine lv_istore_n (lv' := [(2, .int (21 : Int32)), (0, .ref xP), (1, .int a1)]) hx hb d_P_perform_4 rfl hl (by decide) rfl (fun ls hl => ?_)
  refine lv_iload_n hx hb d_P_perform_5 rfl (lv_at hl 2 rfl) ?_
  refine zz_cS0 (rest := []) ⟨hx, hb, hml, hown, hts⟩ (k_P_amount l D cI _ a1) g_P_perform_P_amount_131 nd_P_amount ⟨⟨rfl, rfl⟩, Nat.le_of_ble_eq_true rfl, Nat.le_of_ble_eq_true rfl⟩ hK hP hD hS hA rfl rfl hl.1 (Nat.le_of_ble_eq_true rfl) d_P_perform_6 ⟨Nat.zero_le _, Nat.zero_le _⟩ (fun H locs hP hD hS => ?_)
  refine lv_istore_n (lv' := [(3, .int (s_P_amount a1)), (2, .int (21 : Int32)), (0, .ref xP), (1, .int a1)]) hx hb d_P_perform_9 rfl hl (by decide) rfl (fun ls hl => ?_)
  refine lv_iload_n hx hb d_P_perform_10 rfl (lv_at hl 1 rfl) ?_
  refine zz_cS0 (rest := []) ⟨hx, hb, hml, hown, hts⟩ (k_P_needsTopLevel l D cI _ (21 : Int32)) g_P_perform_P_needsTopLevel_134 nd_P_needsTopLevel ⟨⟨rfl, rfl⟩, Nat.le_of_ble_eq_true rfl, Nat.le_of_ble_eq_true rfl⟩ hK hP hD hS hA rfl rfl hl.1 (Nat.le_of_ble_eq_true rfl) d_P_perform_11 ⟨Nat.zero_le _, Nat.zero_le _⟩ (fun H locs hP hD hS => ?_)
  refine lv_if_eq (tgt := 32) hx hb d_P_perform_14 (by decide) (fun _ => ?_) (fun hh => absurd hh (by decide))
  refine lv_iload_n hx hb d_P_perform_32 rfl (lv_at hl 1 rfl) ?_
  refine lv_tableIn (off := 167) (tgt := 200) hx hb d_P_perform_33 (by decide) (by decide) rfl (by decide) ?_
  refine lv_aload_n hx hb d_P_perform_200 rfl (lv_at hl 2 rfl) ?_
  refine lv_iload_n hx hb d_P_perform_201 rfl (lv_at hl 0 rfl) ?_
  refine zz_cVi (rest := []) (wr := []) (w' := [oP xP xM xR xG xT u_z, oM xM xW, ar cI xW 512 ((s_P_callDown u_z u_M u_r u_d u_a u_lo u_hi u_ri u_t (s_P_amount a1)).2.1), oR xR xD xA ((s_P_callDown u_z u_M u_r u_d u_a u_lo u_hi u_ri u_t (s_P_amount a1)).2.2.1), ar cI xD 8 u_d, ar cI xA 8 ((s_P_callDown u_z u_M u_r u_d u_a u_lo u_hi u_ri u_t (s_P_amount a1)).2.2.2), oG xG xL xH xI, ar cI xL 6 u_lo, ar cI xH 6 u_hi, ar cI xI 6 u_ri, oT xT u_t]) ⟨hx, hb, hml, hown, hts⟩ (k_P_callDown l D cI _ xP xM xW xR xD xA xG xL xH xI xT u_z u_M u_r u_d u_a u_lo u_hi u_ri u_t (s_P_amount a1)) g_P_perform_P_callDown_147 nv_P_callDown ⟨⟨rfl, rfl⟩, Nat.le_of_ble_eq_true rfl, Nat.le_of_ble_eq_true rfl⟩ hK [0] rfl hP hD hS hA [0, 1, 2, 3, 4, 5, 6, 7, 8, 9, 10] [] [0, 1, 2, 3, 4, 5, 6, 7, 8, 9, 10] rfl rfl rfl rfl (by decide) rfl rfl 0 4 rfl rfl rfl rfl hl.1 (Nat.le_of_ble_eq_true rfl) d_P_perform_202 ⟨Nat.zero_le _, Nat.zero_le _⟩ (fun H locs hP hD hS => ?_)
  have hsp : s_P_perform21 u_z u_M u_r u_d u_a u_lo u_hi u_ri u_t a1 = ((s_P_callDown u_z u_M u_r u_d u_a u_lo u_hi u_ri u_t (s_P_amount a1)).1, (s_P_callDown u_z u_M u_r u_d u_a u_lo u_hi u_ri u_t (s_P_amount a1)).2.1, (s_P_callDown u_z u_M u_r u_d u_a u_lo u_hi u_ri u_t (s_P_amount a1)).2.2.1, (s_P_callDown u_z u_M u_r u_d u_a u_lo u_hi u_ri u_t (s_P_amount a1)).2.2.2) := rfl
  rw [hsp] at hE
  exact hE _ _ _ _ hP hD hS d_P_perform_205
set_option maxHeartbeats 4000000 in
set_option maxRecDepth 100000 in
theorem k_P_perform22 (l : Launch) (D : va_G) (cI : ClassId) (sz : Nat) (xP : Nat) (xM : Nat) (xW : Nat) (xR : Nat) (xD : Nat) (xA : Nat) (xG : Nat) (xL : Nat) (xH : Nat) (xI : Nat) (xT : Nat) (u_z : Nat → Int32) (u_M : Nat → Int32) (u_r : Nat → Int32) (u_d : Nat → Int32) (u_a : Nat → Int32) (u_lo : Nat → Int32) (u_hi : Nat → Int32) (u_ri : Nat → Int32) (u_t : Nat → Int32) (a1 : Int32) (hop : (a1 &&& (31 : Int32)) = (22 : Int32)) : zMi l y_P_perform (.code y_P_perform b_P_perform 4 (some .int) :: wd) { frames := 4, cells := 0, slots := 0, locals := 100 } D classes [(cI, .int)] [.ref xP, .int a1] [oP xP xM xR xG xT u_z, oM xM xW, ar cI xW 512 u_M, oR xR xD xA u_r, ar cI xD 8 u_d, ar cI xA 8 u_a, oG xG xL xH xI, ar cI xL 6 u_lo, ar cI xH 6 u_hi, ar cI xI 6 u_ri, oT xT u_t] [oP xP xM xR xG xT u_z, oM xM xW, ar cI xW 512 ((s_P_perform22 u_z u_M u_r u_d u_a u_lo u_hi u_ri u_t a1).2.1), oR xR xD xA ((s_P_perform22 u_z u_M u_r u_d u_a u_lo u_hi u_ri u_t a1).2.2.1), ar cI xD 8 ((s_P_perform22 u_z u_M u_r u_d u_a u_lo u_hi u_ri u_t a1).2.2.2.1), ar cI xA 8 ((s_P_perform22 u_z u_M u_r u_d u_a u_lo u_hi u_ri u_t a1).2.2.2.2), oG xG xL xH xI, ar cI xL 6 u_lo, ar cI xH 6 u_hi, ar cI xI 6 u_ri, oT xT u_t] sz (s_P_perform22 u_z u_M u_r u_d u_a u_lo u_hi u_ri u_t a1).1 := by
  refine met_i (by decide) (Nat.le_of_ble_eq_true rfl) rfl ?_
  intro p e s m args below meth c A Q ls hx hb hml hown hts hK hP hD hS hA hl hE
  have hl : lv_has ls 4 [(0, .ref xP), (1, .int a1)] := hl
  have hown : s.vm.findClass R_P = some m.cls := hown
  refine lv_iload_n hx hb d_P_perform_0 rfl (lv_at hl 1 rfl) ?_
  refine lv_bipush (v := (31 : Int32)) hx hb d_P_perform_1 (by decide) ?_
  refine lv_iand hx hb d_P_perform_3 ?_
  refine lv_topi (fun zz ez => ?_)
  obtain rfl : zz = (22 : Int32) := ez.trans hop
  refine lv_istore_n (lv' := [(2, .int (22 : Int32)), (0, .ref xP), (1, .int a1)]) hx hb d_P_perform_4 rfl hl (by decide) rfl (fun ls hl => ?_)
  refine lv_iload_n hx hb d_P_perform_5 rfl (lv_at hl 2 rfl) ?_
  refine zz_cS0 (rest := []) ⟨hx, hb, hml, hown, hts⟩ (k_P_amount l D cI _ a1) g_P_perform_P_amount_131 nd_P_amount ⟨⟨rfl, rfl⟩, Nat.le_of_ble_eq_true rfl, Nat.le_of_ble_eq_true rfl⟩ hK hP hD hS hA rfl rfl hl.1 (Nat.le_of_ble_eq_true rfl) d_P_perform_6 ⟨Nat.zero_le _, Nat.zero_le _⟩ (fun H locs hP hD hS => ?_)
  refine lv_istore_n (lv' := [(3, .int (s_P_amount a1)), (2, .int (22 : Int32)), (0, .ref xP), (1, .int a1)]) hx hb d_P_perform_9 rfl hl (by decide) rfl (fun ls hl => ?_)
  refine lv_iload_n hx hb d_P_perform_10 rfl (lv_at hl 1 rfl) ?_
  refine zz_cS0 (rest := []) ⟨hx, hb, hml, hown, hts⟩ (k_P_needsTopLevel l D cI _ (22 : Int32)) g_P_perform_P_needsTopLevel_134 nd_P_needsTopLevel ⟨⟨rfl, rfl⟩, Nat.le_of_ble_eq_true rfl, Nat.le_of_ble_eq_true rfl⟩ hK hP hD hS hA rfl rfl hl.1 (Nat.le_of_ble_eq_true rfl) d_P_perform_11 ⟨Nat.zero_le _, Nat.zero_le _⟩ (fun H locs hP hD hS => ?_)
  refine lv_if_eq (tgt := 32) hx hb d_P_perform_14 (by decide) (fun _ => ?_) (fun hh => absurd hh (by decide))
  refine lv_iload_n hx hb d_P_perform_32 rfl (lv_at hl 1 rfl) ?_
  refine lv_tableIn (off := 173) (tgt := 206) hx hb d_P_perform_33 (by decide) (by decide) rfl (by decide) ?_
  refine lv_aload_n hx hb d_P_perform_206 rfl (lv_at hl 2 rfl) ?_
  refine zz_get (C := R_P) (T := F_P) (N := 10) (v := .ref xR) hx hb hts in_P hown hK hP 0 rfl rfl 1 (by decide) mw_22 rfl d_P_perform_207 ?_
  refine zz_get (C := R_R) (T := F_R) (N := 12) (v := .int (u_r 6)) hx hb hts in_R hown hK hP 3 rfl rfl 8 (by decide) mw_40 rfl d_P_perform_210 ?_
  refine lv_if_ne (tgt := 222) hx hb d_P_perform_213 (by decide) (fun h1 => ?_) (fun h1 => ?_)
  ·
    refine lv_aload_n hx hb d_P_perform_222 rfl (lv_at hl 2 rfl) ?_
    refine lv_iconst (v := (0 : Int32)) hx hb d_P_perform_223 (by decide) ?_
    refine zz_cVi (rest := []) (wr := []) (w' := [oP xP xM xR xG xT u_z, oM xM xW, ar cI xW 512 ((s_P_goBackR u_z u_M u_r u_d u_a u_lo u_hi u_ri u_t).2.1), oR xR xD xA ((s_P_goBackR u_z u_M u_r u_d u_a u_lo u_hi u_ri u_t).2.2.1), ar cI xD 8 ((s_P_goBackR u_z u_M u_r u_d u_a u_lo u_hi u_ri u_t).2.2.2.1), ar cI xA 8 ((s_P_goBackR u_z u_M u_r u_d u_a u_lo u_hi u_ri u_t).2.2.2.2), oG xG xL xH xI, ar cI xL 6 u_lo, ar cI xH 6 u_hi, ar cI xI 6 u_ri, oT xT u_t]) ⟨hx, hb, hml, hown, hts⟩ (k_P_goBackR l D cI _ xP xM xW xR xD xA xG xL xH xI xT u_z u_M u_r u_d u_a u_lo u_hi u_ri u_t) g_P_perform_P_goBack_153 nv_P_goBack ⟨⟨rfl, rfl⟩, Nat.le_of_ble_eq_true rfl, Nat.le_of_ble_eq_true rfl⟩ hK [0] rfl hP hD hS hA [0, 1, 2, 3, 4, 5, 6, 7, 8, 9, 10] [] [0, 1, 2, 3, 4, 5, 6, 7, 8, 9, 10] rfl rfl rfl rfl (by decide) rfl rfl 0 4 rfl rfl rfl rfl hl.1 (Nat.le_of_ble_eq_true rfl) d_P_perform_224 ⟨Nat.zero_le _, Nat.zero_le _⟩ (fun H locs hP hD hS => ?_)
    have hsp : s_P_perform22 u_z u_M u_r u_d u_a u_lo u_hi u_ri u_t a1 = ((s_P_goBackR u_z u_M u_r u_d u_a u_lo u_hi u_ri u_t).1, (s_P_goBackR u_z u_M u_r u_d u_a u_lo u_hi u_ri u_t).2.1, (s_P_goBackR u_z u_M u_r u_d u_a u_lo u_hi u_ri u_t).2.2.1, (s_P_goBackR u_z u_M u_r u_d u_a u_lo u_hi u_ri u_t).2.2.2.1, (s_P_goBackR u_z u_M u_r u_d u_a u_lo u_hi u_ri u_t).2.2.2.2) := (by unfold s_P_perform22; rw [if_neg h1])
    rw [hsp] at hE
    exact hE _ _ _ _ hP hD hS d_P_perform_227
  ·
    refine lv_sipush (v := (771 : Int32)) hx hb d_P_perform_216 (by decide) ?_
    refine lv_goto (tgt := 227) hx hb d_P_perform_219 (by decide) ?_
    have hsp : s_P_perform22 u_z u_M u_r u_d u_a u_lo u_hi u_ri u_t a1 = ((771 : Int32), u_M, u_r, u_d, u_a) := (by unfold s_P_perform22; rw [if_pos h1])
    rw [hsp] at hE
    exact hE _ _ _ _ hP hD hS d_P_perform_227
set_option maxHeartbeats 4000000 in
set_option maxRecDepth 100000 in
theorem k_P_perform23 (l : Launch) (D : va_G) (cI : ClassId) (sz : Nat) (xP : Nat) (xM : Nat) (xW : Nat) (xR : Nat) (xD : Nat) (xA : Nat) (xG : Nat) (xL : Nat) (xH : Nat) (xI : Nat) (xT : Nat) (u_z : Nat → Int32) (u_M : Nat → Int32) (u_r : Nat → Int32) (u_d : Nat → Int32) (u_a : Nat → Int32) (u_lo : Nat → Int32) (u_hi : Nat → Int32) (u_ri : Nat → Int32) (u_t : Nat → Int32) (a1 : Int32) (hop : (a1 &&& (31 : Int32)) = (23 : Int32)) : zMi l y_P_perform (.code y_P_perform b_P_perform 4 (some .int) :: wd) { frames := 4, cells := 0, slots := 0, locals := 100 } D classes [(cI, .int)] [.ref xP, .int a1] [oP xP xM xR xG xT u_z, oM xM xW, ar cI xW 512 u_M, oR xR xD xA u_r, ar cI xD 8 u_d, ar cI xA 8 u_a, oG xG xL xH xI, ar cI xL 6 u_lo, ar cI xH 6 u_hi, ar cI xI 6 u_ri, oT xT u_t] [oP xP xM xR xG xT u_z, oM xM xW, ar cI xW 512 ((s_P_perform23 u_z u_M u_r u_d u_a u_lo u_hi u_ri u_t a1).2.1), oR xR xD xA ((s_P_perform23 u_z u_M u_r u_d u_a u_lo u_hi u_ri u_t a1).2.2), ar cI xD 8 u_d, ar cI xA 8 u_a, oG xG xL xH xI, ar cI xL 6 u_lo, ar cI xH 6 u_hi, ar cI xI 6 u_ri, oT xT u_t] sz (s_P_perform23 u_z u_M u_r u_d u_a u_lo u_hi u_ri u_t a1).1 := by
  refine met_i (by decide) (Nat.le_of_ble_eq_true rfl) rfl ?_
  intro p e s m args below meth c A Q ls hx hb hml hown hts hK hP hD hS hA hl hE
  have hl : lv_has ls 4 [(0, .ref xP), (1, .int a1)] := hl
  have hown : s.vm.findClass R_P = some m.cls := hown
  refine lv_iload_n hx hb d_P_perform_0 rfl (lv_at hl 1 rfl) ?_
  refine lv_bipush (v := (31 : Int32)) hx hb d_P_perform_1 (by decide) ?_
  refine lv_iand hx hb d_P_perform_3 ?_
  refine lv_topi (fun zz ez => ?_)
  obtain rfl : zz = (23 : Int32) := ez.trans hop
  refine lv_istore_n (lv' := [(2, .int (23 : Int32)), (0, .ref xP), (1, .int a1)]) hx hb d_P_perform_4 rfl hl (by decide) rfl (fun ls hl => ?_)
  refine lv_iload_n hx hb d_P_perform_5 rfl (lv_at hl 2 rfl) ?_
  refine zz_cS0 (rest := []) ⟨hx, hb, hml, hown, hts⟩ (k_P_amount l D cI _ a1) g_P_perform_P_amount_131 nd_P_amount ⟨⟨rfl, rfl⟩, Nat.le_of_ble_eq_true rfl, Nat.le_of_ble_eq_true rfl⟩ hK hP hD hS hA rfl rfl hl.1 (Nat.le_of_ble_eq_true rfl) d_P_perform_6 ⟨Nat.zero_le _, Nat.zero_le _⟩ (fun H locs hP hD hS => ?_)
  refine lv_istore_n (lv' := [(3, .int (s_P_amount a1)), (2, .int (23 : Int32)), (0, .ref xP), (1, .int a1)]) hx hb d_P_perform_9 rfl hl (by decide) rfl (fun ls hl => ?_)
  refine lv_iload_n hx hb d_P_perform_10 rfl (lv_at hl 1 rfl) ?_
  refine zz_cS0 (rest := []) ⟨hx, hb, hml, hown, hts⟩ (k_P_needsTopLevel l D cI _ (23 : Int32)) g_P_perform_P_needsTopLevel_134 nd_P_needsTopLevel ⟨⟨rfl, rfl⟩, Nat.le_of_ble_eq_true rfl, Nat.le_of_ble_eq_true rfl⟩ hK hP hD hS hA rfl rfl hl.1 (Nat.le_of_ble_eq_true rfl) d_P_perform_11 ⟨Nat.zero_le _, Nat.zero_le _⟩ (fun H locs hP hD hS => ?_)
  refine lv_if_eq (tgt := 32) hx hb d_P_perform_14 (by decide) (fun _ => ?_) (fun hh => absurd hh (by decide))
  refine lv_iload_n hx hb d_P_perform_32 rfl (lv_at hl 1 rfl) ?_
  refine lv_tableIn (off := 195) (tgt := 228) hx hb d_P_perform_33 (by decide) (by decide) rfl (by decide) ?_
  refine lv_aload_n hx hb d_P_perform_228 rfl (lv_at hl 2 rfl) ?_
  refine zz_cVi (rest := []) (wr := []) (w' := [oP xP xM xR xG xT u_z, oM xM xW, ar cI xW 512 ((s_P_keepLower u_z u_M u_r u_d u_a u_lo u_hi u_ri u_t).2.1), oR xR xD xA ((s_P_keepLower u_z u_M u_r u_d u_a u_lo u_hi u_ri u_t).2.2), ar cI xD 8 u_d, ar cI xA 8 u_a, oG xG xL xH xI, ar cI xL 6 u_lo, ar cI xH 6 u_hi, ar cI xI 6 u_ri, oT xT u_t]) ⟨hx, hb, hml, hown, hts⟩ (k_P_keepLower l D cI _ xP xM xW xR xD xA xG xL xH xI xT u_z u_M u_r u_d u_a u_lo u_hi u_ri u_t) g_P_perform_P_keepLower_157 nv_P_keepLower ⟨⟨rfl, rfl⟩, Nat.le_of_ble_eq_true rfl, Nat.le_of_ble_eq_true rfl⟩ hK [0] rfl hP hD hS hA [0, 1, 2, 3, 4, 5, 6, 7, 8, 9, 10] [] [0, 1, 2, 3, 4, 5, 6, 7, 8, 9, 10] rfl rfl rfl rfl (by decide) rfl rfl 0 4 rfl rfl rfl rfl hl.1 (Nat.le_of_ble_eq_true rfl) d_P_perform_229 ⟨Nat.zero_le _, Nat.zero_le _⟩ (fun H locs hP hD hS => ?_)
  have hsp : s_P_perform23 u_z u_M u_r u_d u_a u_lo u_hi u_ri u_t a1 = ((s_P_keepLower u_z u_M u_r u_d u_a u_lo u_hi u_ri u_t).1, (s_P_keepLower u_z u_M u_r u_d u_a u_lo u_hi u_ri u_t).2.1, (s_P_keepLower u_z u_M u_r u_d u_a u_lo u_hi u_ri u_t).2.2) := rfl
  rw [hsp] at hE
  exact hE _ _ _ _ hP hD hS d_P_perform_232
set_option maxHeartbeats 4000000 in
set_option maxRecDepth 100000 in
theorem k_P_perform24 (l : Launch) (D : va_G) (cI : ClassId) (sz : Nat) (xP : Nat) (xM : Nat) (xW : Nat) (xR : Nat) (xD : Nat) (xA : Nat) (xG : Nat) (xL : Nat) (xH : Nat) (xI : Nat) (xT : Nat) (u_z : Nat → Int32) (u_M : Nat → Int32) (u_r : Nat → Int32) (u_d : Nat → Int32) (u_a : Nat → Int32) (u_lo : Nat → Int32) (u_hi : Nat → Int32) (u_ri : Nat → Int32) (u_t : Nat → Int32) (a1 : Int32) (hop : (a1 &&& (31 : Int32)) = (24 : Int32)) : zMi l y_P_perform (.code y_P_perform b_P_perform 4 (some .int) :: wd) { frames := 4, cells := 0, slots := 0, locals := 100 } D classes [(cI, .int)] [.ref xP, .int a1] [oP xP xM xR xG xT u_z, oM xM xW, ar cI xW 512 u_M, oR xR xD xA u_r, ar cI xD 8 u_d, ar cI xA 8 u_a, oG xG xL xH xI, ar cI xL 6 u_lo, ar cI xH 6 u_hi, ar cI xI 6 u_ri, oT xT u_t] [oP xP xM xR xG xT u_z, oM xM xW, ar cI xW 512 ((s_P_perform24 u_z u_M u_r u_d u_a u_lo u_hi u_ri u_t a1).2.1), oR xR xD xA ((s_P_perform24 u_z u_M u_r u_d u_a u_lo u_hi u_ri u_t a1).2.2.1), ar cI xD 8 ((s_P_perform24 u_z u_M u_r u_d u_a u_lo u_hi u_ri u_t a1).2.2.2.1), ar cI xA 8 ((s_P_perform24 u_z u_M u_r u_d u_a u_lo u_hi u_ri u_t a1).2.2.2.2), oG xG xL xH xI, ar cI xL 6 u_lo, ar cI xH 6 u_hi, ar cI xI 6 u_ri, oT xT u_t] sz (s_P_perform24 u_z u_M u_r u_d u_a u_lo u_hi u_ri u_t a1).1 := by
  refine met_i (by decide) (Nat.le_of_ble_eq_true rfl) rfl ?_
  intro p e s m args below meth c A Q ls hx hb hml hown hts hK hP hD hS hA hl hE
  have hl : lv_has ls 4 [(0, .ref xP), (1, .int a1)] := hl
  have hown : s.vm.findClass R_P = some m.cls := hown
  refine lv_iload_n hx hb d_P_perform_0 rfl (lv_at hl 1 rfl) ?_
  refine lv_bipush (v := (31 : Int32)) hx hb d_P_perform_1 (by decide) ?_
  refine lv_iand hx hb d_P_perform_3 ?_
  refine lv_topi (fun zz ez => ?_)
  obtain rfl : zz = (24 : Int32) := ez.trans hop
  refine lv_istore_n (lv' := [(2, .int (24 : Int32)), (0, .ref xP), (1, .int a1)]) hx hb d_P_perform_4 rfl hl (by decide) rfl (fun ls hl => ?_)
  refine lv_iload_n hx hb d_P_perform_5 rfl (lv_at hl 2 rfl) ?_
  refine zz_cS0 (rest := []) ⟨hx, hb, hml, hown, hts⟩ (k_P_amount l D cI _ a1) g_P_perform_P_amount_131 nd_P_amount ⟨⟨rfl, rfl⟩, Nat.le_of_ble_eq_true rfl, Nat.le_of_ble_eq_true rfl⟩ hK hP hD hS hA rfl rfl hl.1 (Nat.le_of_ble_eq_true rfl) d_P_perform_6 ⟨Nat.zero_le _, Nat.zero_le _⟩ (fun H locs hP hD hS => ?_)
  refine lv_istore_n (lv' := [(3, .int (s_P_amount a1)), (2, .int (24 : Int32)), (0, .ref xP), (1, .int a1)]) hx hb d_P_perform_9 rfl hl (by decide) rfl (fun ls hl => ?_)
  refine lv_iload_n hx hb d_P_perform_10 rfl (lv_at hl 1 rfl) ?_
  refine zz_cS0 (rest := []) ⟨hx, hb, hml, hown, hts⟩ (k_P_needsTopLevel l D cI _ (24 : Int32)) g_P_perform_P_needsTopLevel_134 nd_P_needsTopLevel ⟨⟨rfl, rfl⟩, Nat.le_of_ble_eq_true rfl, Nat.le_of_ble_eq_true rfl⟩ hK hP hD hS hA rfl rfl hl.1 (Nat.le_of_ble_eq_true rfl) d_P_perform_11 ⟨Nat.zero_le _, Nat.zero_le _⟩ (fun H locs hP hD hS => ?_)
  refine lv_if_eq (tgt := 32) hx hb d_P_perform_14 (by decide) (fun _ => ?_) (fun hh => absurd hh (by decide))
  refine lv_iload_n hx hb d_P_perform_32 rfl (lv_at hl 1 rfl) ?_
  refine lv_tableIn (off := 200) (tgt := 233) hx hb d_P_perform_33 (by decide) (by decide) rfl (by decide) ?_
  refine lv_aload_n hx hb d_P_perform_233 rfl (lv_at hl 2 rfl) ?_
  refine zz_cVi (rest := []) (wr := []) (w' := [oP xP xM xR xG xT u_z, oM xM xW, ar cI xW 512 ((s_P_bringLowerBack u_z u_M u_r u_d u_a u_lo u_hi u_ri u_t).2.1), oR xR xD xA ((s_P_bringLowerBack u_z u_M u_r u_d u_a u_lo u_hi u_ri u_t).2.2.1), ar cI xD 8 ((s_P_bringLowerBack u_z u_M u_r u_d u_a u_lo u_hi u_ri u_t).2.2.2.1), ar cI xA 8 ((s_P_bringLowerBack u_z u_M u_r u_d u_a u_lo u_hi u_ri u_t).2.2.2.2), oG xG xL xH xI, ar cI xL 6 u_lo, ar cI xH 6 u_hi, ar cI xI 6 u_ri, oT xT u_t]) ⟨hx, hb, hml, hown, hts⟩ (k_P_bringLowerBack l D cI _ xP xM xW xR xD xA xG xL xH xI xT u_z u_M u_r u_d u_a u_lo u_hi u_ri u_t) g_P_perform_P_bringLowerBack_160 nv_P_bringLowerBack ⟨⟨rfl, rfl⟩, Nat.le_of_ble_eq_true rfl, Nat.le_of_ble_eq_true rfl⟩ hK [0] rfl hP hD hS hA [0, 1, 2, 3, 4, 5, 6, 7, 8, 9, 10] [] [0, 1, 2, 3, 4, 5, 6, 7, 8, 9, 10] rfl rfl rfl rfl (by decide) rfl rfl 0 4 rfl rfl rfl rfl hl.1 (Nat.le_of_ble_eq_true rfl) d_P_perform_234 ⟨Nat.zero_le _, Nat.zero_le _⟩ (fun H locs hP hD hS => ?_)
  have hsp : s_P_perform24 u_z u_M u_r u_d u_a u_lo u_hi u_ri u_t a1 = ((s_P_bringLowerBack u_z u_M u_r u_d u_a u_lo u_hi u_ri u_t).1, (s_P_bringLowerBack u_z u_M u_r u_d u_a u_lo u_hi u_ri u_t).2.1, (s_P_bringLowerBack u_z u_M u_r u_d u_a u_lo u_hi u_ri u_t).2.2.1, (s_P_bringLowerBack u_z u_M u_r u_d u_a u_lo u_hi u_ri u_t).2.2.2.1, (s_P_bringLowerBack u_z u_M u_r u_d u_a u_lo u_hi u_ri u_t).2.2.2.2) := rfl
  rw [hsp] at hE
  exact hE _ _ _ _ hP hD hS d_P_perform_237
set_option maxHeartbeats 4000000 in
set_option maxRecDepth 100000 in
theorem k_P_perform25 (l : Launch) (D : va_G) (cI : ClassId) (sz : Nat) (xP : Nat) (xM : Nat) (xW : Nat) (xR : Nat) (xD : Nat) (xA : Nat) (xG : Nat) (xL : Nat) (xH : Nat) (xI : Nat) (xT : Nat) (u_z : Nat → Int32) (u_M : Nat → Int32) (u_r : Nat → Int32) (u_d : Nat → Int32) (u_a : Nat → Int32) (u_lo : Nat → Int32) (u_hi : Nat → Int32) (u_ri : Nat → Int32) (u_t : Nat → Int32) (a1 : Int32) (hop : (a1 &&& (31 : Int32)) = (25 : Int32)) : zMi l y_P_perform (.code y_P_perform b_P_perform 4 (some .int) :: wd) { frames := 4, cells := 0, slots := 0, locals := 100 } D classes [(cI, .int)] [.ref xP, .int a1] [oP xP xM xR xG xT u_z, oM xM xW, ar cI xW 512 u_M, oR xR xD xA u_r, ar cI xD 8 u_d, ar cI xA 8 u_a, oG xG xL xH xI, ar cI xL 6 u_lo, ar cI xH 6 u_hi, ar cI xI 6 u_ri, oT xT u_t] [oP xP xM xR xG xT u_z, oM xM xW, ar cI xW 512 ((s_P_perform25 u_z u_M u_r u_d u_a u_lo u_hi u_ri u_t a1).2.1), oR xR xD xA ((s_P_perform25 u_z u_M u_r u_d u_a u_lo u_hi u_ri u_t a1).2.2), ar cI xD 8 u_d, ar cI xA 8 u_a, oG xG xL xH xI, ar cI xL 6 u_lo, ar cI xH 6 u_hi, ar cI xI 6 u_ri, oT xT u_t] sz (s_P_perform25 u_z u_M u_r u_d u_a u_lo u_hi u_ri u_t a1).1 := by
  refine met_i (by decide) (Nat.le_of_ble_eq_true rfl) rfl ?_
  intro p e s m args below meth c A Q ls hx hb hml hown hts hK hP hD hS hA hl hE
  have hl : lv_has ls 4 [(0, .ref xP), (1, .int a1)] := hl
  have hown : s.vm.findClass R_P = some m.cls := hown
  refine lv_iload_n hx hb d_P_perform_0 rfl (lv_at hl 1 rfl) ?_
  refine lv_bipush (v := (31 : Int32)) hx hb d_P_perform_1 (by decide) ?_
  refine lv_iand hx hb d_P_perform_3 ?_
  refine lv_topi (fun zz ez => ?_)
  obtain rfl : zz = (25 : Int32) := ez.trans hop
  refine lv_istore_n (lv' := [(2, .int (25 : Int32)), (0, .ref xP), (1, .int a1)]) hx hb d_P_perform_4 rfl hl (by decide) rfl (fun ls hl => ?_)
  refine lv_iload_n hx hb d_P_perform_5 rfl (lv_at hl 2 rfl) ?_
  refine zz_cS0 (rest := []) ⟨hx, hb, hml, hown, hts⟩ (k_P_amount l D cI _ a1) g_P_perform_P_amount_131 nd_P_amount ⟨⟨rfl, rfl⟩, Nat.le_of_ble_eq_true rfl, Nat.le_of_ble_eq_true rfl⟩ hK hP hD hS hA rfl rfl hl.1 (Nat.le_of_ble_eq_true rfl) d_P_perform_6 ⟨Nat.zero_le _, Nat.zero_le _⟩ (fun H locs hP hD hS => ?_)
  refine lv_istore_n (lv' := [(3, .int (s_P_amount a1)), (2, .int (25 : Int32)), (0, .ref xP), (1, .int a1)]) hx hb d_P_perform_9 rfl hl (by decide) rfl (fun ls hl => ?_)
  refine lv_iload_n hx hb d_P_perform_10 rfl (lv_at hl 1 rfl) ?_
  refine zz_cS0 (rest := []) ⟨hx, hb, hml, hown, hts⟩ (k_P_needsTopLevel l D cI _ (25 : Int32)) g_P_perform_P_needsTopLevel_134 nd_P_needsTopLevel ⟨⟨rfl, rfl⟩, Nat.le_of_ble_eq_true rfl, Nat.le_of_ble_eq_true rfl⟩ hK hP hD hS hA rfl rfl hl.1 (Nat.le_of_ble_eq_true rfl) d_P_perform_11 ⟨Nat.zero_le _, Nat.zero_le _⟩ (fun H locs hP hD hS => ?_)
  refine lv_if_eq (tgt := 32) hx hb d_P_perform_14 (by decide) (fun hh => absurd hh (by decide)) (fun _ => ?_)
  refine lv_aload_n hx hb d_P_perform_17 rfl (lv_at hl 2 rfl) ?_
  refine zz_get (C := R_P) (T := F_P) (N := 10) (v := .ref xR) hx hb hts in_P hown hK hP 0 rfl rfl 1 (by decide) mw_22 rfl d_P_perform_18 ?_
  refine zz_get (C := R_R) (T := F_R) (N := 12) (v := .int (u_r 4)) hx hb hts in_R hown hK hP 3 rfl rfl 6 (by decide) mw_23 rfl d_P_perform_21 ?_
  refine lv_iconst (v := (2 : Int32)) hx hb d_P_perform_24 (by decide) ?_
  refine lv_icmp_eq (tgt := 32) hx hb d_P_perform_25 (by decide) (fun h1 => ?_) (fun h1 => ?_)
  ·
    refine lv_iload_n hx hb d_P_perform_32 rfl (lv_at hl 1 rfl) ?_
    refine lv_tableIn (off := 205) (tgt := 238) hx hb d_P_perform_33 (by decide) (by decide) rfl (by decide) ?_
    refine lv_aload_n hx hb d_P_perform_238 rfl (lv_at hl 2 rfl) ?_
    refine lv_iload_n hx hb d_P_perform_239 rfl (lv_at hl 0 rfl) ?_
    refine lv_bipush (v := (15 : Int32)) hx hb d_P_perform_240 (by decide) ?_
    refine lv_iand hx hb d_P_perform_242 ?_
    refine zz_cVi (rest := []) (wr := []) (w' := [oP xP xM xR xG xT u_z, oM xM xW, ar cI xW 512 ((s_P_openHandler u_z u_M u_r u_d u_a u_lo u_hi u_ri u_t ((s_P_amount a1) &&& (15 : Int32))).2.1), oR xR xD xA ((s_P_openHandler u_z u_M u_r u_d u_a u_lo u_hi u_ri u_t ((s_P_amount a1) &&& (15 : Int32))).2.2), ar cI xD 8 u_d, ar cI xA 8 u_a, oG xG xL xH xI, ar cI xL 6 u_lo, ar cI xH 6 u_hi, ar cI xI 6 u_ri, oT xT u_t]) ⟨hx, hb, hml, hown, hts⟩ (k_P_openHandler l D cI _ xP xM xW xR xD xA xG xL xH xI xT u_z u_M u_r u_d u_a u_lo u_hi u_ri u_t ((s_P_amount a1) &&& (15 : Int32))) g_P_perform_P_openHandler_163 nv_P_openHandler ⟨⟨rfl, rfl⟩, Nat.le_of_ble_eq_true rfl, Nat.le_of_ble_eq_true rfl⟩ hK [0] rfl hP hD hS hA [0, 1, 2, 3, 4, 5, 6, 7, 8, 9, 10] [] [0, 1, 2, 3, 4, 5, 6, 7, 8, 9, 10] rfl rfl rfl rfl (by decide) rfl rfl 0 4 rfl rfl rfl rfl hl.1 (Nat.le_of_ble_eq_true rfl) d_P_perform_243 ⟨Nat.zero_le _, Nat.zero_le _⟩ (fun H locs hP hD hS => ?_)
    have hsp : s_P_perform25 u_z u_M u_r u_d u_a u_lo u_hi u_ri u_t a1 = ((s_P_openHandler u_z u_M u_r u_d u_a u_lo u_hi u_ri u_t ((s_P_amount a1) &&& (15 : Int32))).1, (s_P_openHandler u_z u_M u_r u_d u_a u_lo u_hi u_ri u_t ((s_P_amount a1) &&& (15 : Int32))).2.1, (s_P_openHandler u_z u_M u_r u_d u_a u_lo u_hi u_ri u_t ((s_P_amount a1) &&& (15 : Int32))).2.2) := (by unfold s_P_perform25; rw [if_pos h1])
    rw [hsp] at hE
    exact hE _ _ _ _ hP hD hS d_P_perform_246
  ·
    refine lv_sipush (v := (257 : Int32)) hx hb d_P_perform_28 (by decide) ?_
    have hsp : s_P_perform25 u_z u_M u_r u_d u_a u_lo u_hi u_ri u_t a1 = ((257 : Int32), u_M, u_r) := (by unfold s_P_perform25; rw [if_neg h1])
    rw [hsp] at hE
    exact hE _ _ _ _ hP hD hS d_P_perform_31
set_option maxHeartbeats 4000000 in
set_option maxRecDepth 100000 in
theorem k_P_perform26 (l : Launch) (D : va_G) (cI : ClassId) (sz : Nat) (xP : Nat) (xM : Nat) (xW : Nat) (xR : Nat) (xD : Nat) (xA : Nat) (xG : Nat) (xL : Nat) (xH : Nat) (xI : Nat) (xT : Nat) (u_z : Nat → Int32) (u_M : Nat → Int32) (u_r : Nat → Int32) (u_d : Nat → Int32) (u_a : Nat → Int32) (u_lo : Nat → Int32) (u_hi : Nat → Int32) (u_ri : Nat → Int32) (u_t : Nat → Int32) (a1 : Int32) (hop : (a1 &&& (31 : Int32)) = (26 : Int32)) : zMi l y_P_perform (.code y_P_perform b_P_perform 4 (some .int) :: wd) { frames := 4, cells := 0, slots := 0, locals := 100 } D classes [(cI, .int)] [.ref xP, .int a1] [oP xP xM xR xG xT u_z, oM xM xW, ar cI xW 512 u_M, oR xR xD xA u_r, ar cI xD 8 u_d, ar cI xA 8 u_a, oG xG xL xH xI, ar cI xL 6 u_lo, ar cI xH 6 u_hi, ar cI xI 6 u_ri, oT xT u_t] [oP xP xM xR xG xT u_z, oM xM xW, ar cI xW 512 ((s_P_perform26 u_z u_M u_r u_d u_a u_lo u_hi u_ri u_t a1).2.1), oR xR xD xA ((s_P_perform26 u_z u_M u_r u_d u_a u_lo u_hi u_ri u_t a1).2.2.1), ar cI xD 8 ((s_P_perform26 u_z u_M u_r u_d u_a u_lo u_hi u_ri u_t a1).2.2.2.1), ar cI xA 8 ((s_P_perform26 u_z u_M u_r u_d u_a u_lo u_hi u_ri u_t a1).2.2.2.2), oG xG xL xH xI, ar cI xL 6 u_lo, ar cI xH 6 u_hi, ar cI xI 6 u_ri, oT xT u_t] sz (s_P_perform26 u_z u_M u_r u_d u_a u_lo u_hi u_ri u_t a1).1 := by
  refine met_i (by decide) (Nat.le_of_ble_eq_true rfl) rfl ?_
  intro p e s m args below meth c A Q ls hx hb hml hown hts hK hP hD hS hA hl hE
  have hl : lv_has ls 4 [(0, .ref xP), (1, .int a1)] := hl
  have hown : s.vm.findClass R_P = some m.cls := hown
  refine lv_iload_n hx hb d_P_perform_0 rfl (lv_at hl 1 rfl) ?_
  refine lv_bipush (v := (31 : Int32)) hx hb d_P_perform_1 (by decide) ?_
  refine lv_iand hx hb d_P_perform_3 ?_
  refine lv_topi (fun zz ez => ?_)
  obtain rfl : zz = (26 : Int32) := ez.trans hop
  refine lv_istore_n (lv' := [(2, .int (26 : Int32)), (0, .ref xP), (1, .int a1)]) hx hb d_P_perform_4 rfl hl (by decide) rfl (fun ls hl => ?_)
  refine lv_iload_n hx hb d_P_perform_5 rfl (lv_at hl 2 rfl) ?_
  refine zz_cS0 (rest := []) ⟨hx, hb, hml, hown, hts⟩ (k_P_amount l D cI _ a1) g_P_perform_P_amount_131 nd_P_amount ⟨⟨rfl, rfl⟩, Nat.le_of_ble_eq_true rfl, Nat.le_of_ble_eq_true rfl⟩ hK hP hD hS hA rfl rfl hl.1 (Nat.le_of_ble_eq_true rfl) d_P_perform_6 ⟨Nat.zero_le _, Nat.zero_le _⟩ (fun H locs hP hD hS => ?_)
  refine lv_istore_n (lv' := [(3, .int (s_P_amount a1)), (2, .int (26 : Int32)), (0, .ref xP), (1, .int a1)]) hx hb d_P_perform_9 rfl hl (by decide) rfl (fun ls hl => ?_)
  refine lv_iload_n hx hb d_P_perform_10 rfl (lv_at hl 1 rfl) ?_
  refine zz_cS0 (rest := []) ⟨hx, hb, hml, hown, hts⟩ (k_P_needsTopLevel l D cI _ (26 : Int32)) g_P_perform_P_needsTopLevel_134 nd_P_needsTopLevel ⟨⟨rfl, rfl⟩, Nat.le_of_ble_eq_true rfl, Nat.le_of_ble_eq_true rfl⟩ hK hP hD hS hA rfl rfl hl.1 (Nat.le_of_ble_eq_true rfl) d_P_perform_11 ⟨Nat.zero_le _, Nat.zero_le _⟩ (fun H locs hP hD hS => ?_)
  refine lv_if_eq (tgt := 32) hx hb d_P_perform_14 (by decide) (fun hh => absurd hh (by decide)) (fun _ => ?_)
  refine lv_aload_n hx hb d_P_perform_17 rfl (lv_at hl 2 rfl) ?_
  refine zz_get (C := R_P) (T := F_P) (N := 10) (v := .ref xR) hx hb hts in_P hown hK hP 0 rfl rfl 1 (by decide) mw_22 rfl d_P_perform_18 ?_
  refine zz_get (C := R_R) (T := F_R) (N := 12) (v := .int (u_r 4)) hx hb hts in_R hown hK hP 3 rfl rfl 6 (by decide) mw_23 rfl d_P_perform_21 ?_
  refine lv_iconst (v := (2 : Int32)) hx hb d_P_perform_24 (by decide) ?_
  refine lv_icmp_eq (tgt := 32) hx hb d_P_perform_25 (by decide) (fun h1 => ?_) (fun h1 => ?_)
  ·
    refine lv_iload_n hx hb d_P_perform_32 rfl (lv_at hl 1 rfl) ?_
    refine lv_tableIn (off := 214) (tgt := 247) hx hb d_P_perform_33 (by decide) (by decide) rfl (by decide) ?_
    refine lv_aload_n hx hb d_P_perform_247 rfl (lv_at hl 2 rfl) ?_
    refine lv_iconst (v := (1 : Int32)) hx hb d_P_perform_248 (by decide) ?_
    refine zz_cVi (rest := []) (wr := []) (w' := [oP xP xM xR xG xT u_z, oM xM xW, ar cI xW 512 ((s_P_goBackH u_z u_M u_r u_d u_a u_lo u_hi u_ri u_t).2.1), oR xR xD xA ((s_P_goBackH u_z u_M u_r u_d u_a u_lo u_hi u_ri u_t).2.2.1), ar cI xD 8 ((s_P_goBackH u_z u_M u_r u_d u_a u_lo u_hi u_ri u_t).2.2.2.1), ar cI xA 8 ((s_P_goBackH u_z u_M u_r u_d u_a u_lo u_hi u_ri u_t).2.2.2.2), oG xG xL xH xI, ar cI xL 6 u_lo, ar cI xH 6 u_hi, ar cI xI 6 u_ri, oT xT u_t]) ⟨hx, hb, hml, hown, hts⟩ (k_P_goBackH l D cI _ xP xM xW xR xD xA xG xL xH xI xT u_z u_M u_r u_d u_a u_lo u_hi u_ri u_t) g_P_perform_P_goBack_153 nv_P_goBack ⟨⟨rfl, rfl⟩, Nat.le_of_ble_eq_true rfl, Nat.le_of_ble_eq_true rfl⟩ hK [0] rfl hP hD hS hA [0, 1, 2, 3, 4, 5, 6, 7, 8, 9, 10] [] [0, 1, 2, 3, 4, 5, 6, 7, 8, 9, 10] rfl rfl rfl rfl (by decide) rfl rfl 0 4 rfl rfl rfl rfl hl.1 (Nat.le_of_ble_eq_true rfl) d_P_perform_249 ⟨Nat.zero_le _, Nat.zero_le _⟩ (fun H locs hP hD hS => ?_)
    have hsp : s_P_perform26 u_z u_M u_r u_d u_a u_lo u_hi u_ri u_t a1 = ((s_P_goBackH u_z u_M u_r u_d u_a u_lo u_hi u_ri u_t).1, (s_P_goBackH u_z u_M u_r u_d u_a u_lo u_hi u_ri u_t).2.1, (s_P_goBackH u_z u_M u_r u_d u_a u_lo u_hi u_ri u_t).2.2.1, (s_P_goBackH u_z u_M u_r u_d u_a u_lo u_hi u_ri u_t).2.2.2.1, (s_P_goBackH u_z u_M u_r u_d u_a u_lo u_hi u_ri u_t).2.2.2.2) := (by unfold s_P_perform26; rw [if_pos h1])
    rw [hsp] at hE
    exact hE _ _ _ _ hP hD hS d_P_perform_252
  ·
    refine lv_sipush (v := (257 : Int32)) hx hb d_P_perform_28 (by decide) ?_
    have hsp : s_P_perform26 u_z u_M u_r u_d u_a u_lo u_hi u_ri u_t a1 = ((257 : Int32), u_M, u_r, u_d, u_a) := (by unfold s_P_perform26; rw [if_neg h1])
    rw [hsp] at hE
    exact hE _ _ _ _ hP hD hS d_P_perform_31
set_option maxHeartbeats 4000000 in
set_option maxRecDepth 100000 in
theorem k_P_perform27 (l : Launch) (D : va_G) (cI : ClassId) (sz : Nat) (xP : Nat) (xM : Nat) (xW : Nat) (xR : Nat) (xD : Nat) (xA : Nat) (xG : Nat) (xL : Nat) (xH : Nat) (xI : Nat) (xT : Nat) (u_z : Nat → Int32) (u_M : Nat → Int32) (u_r : Nat → Int32) (u_d : Nat → Int32) (u_a : Nat → Int32) (u_lo : Nat → Int32) (u_hi : Nat → Int32) (u_ri : Nat → Int32) (u_t : Nat → Int32) (a1 : Int32) (hop : (a1 &&& (31 : Int32)) = (27 : Int32)) : zMi l y_P_perform (.code y_P_perform b_P_perform 4 (some .int) :: wd) { frames := 4, cells := 0, slots := 0, locals := 100 } D classes [(cI, .int)] [.ref xP, .int a1] [oP xP xM xR xG xT u_z, oM xM xW, ar cI xW 512 u_M, oR xR xD xA u_r, ar cI xD 8 u_d, ar cI xA 8 u_a, oG xG xL xH xI, ar cI xL 6 u_lo, ar cI xH 6 u_hi, ar cI xI 6 u_ri, oT xT u_t] [oP xP xM xR xG xT u_z, oM xM xW, ar cI xW 512 u_M, oR xR xD xA u_r, ar cI xD 8 u_d, ar cI xA 8 u_a, oG xG xL xH xI, ar cI xL 6 u_lo, ar cI xH 6 u_hi, ar cI xI 6 u_ri, oT xT u_t] sz (s_P_perform27 u_z u_M u_r u_d u_a u_lo u_hi u_ri u_t a1) := by
  refine met_i (by decide) (Nat.le_of_ble_eq_true rfl) rfl ?_
  intro p e s m args below meth c A Q ls hx hb hml hown hts hK hP hD hS hA hl hE
  have hl : lv_has ls 4 [(0, .ref xP), (1, .int a1)] := hl
  have hown : s.vm.findClass R_P = some m.cls := hown
  refine lv_iload_n hx hb d_P_perform_0 rfl (lv_at hl 1 rfl) ?_
  refine lv_bipush (v := (31 : Int32)) hx hb d_P_perform_1 (by decide) ?_
  refine lv_iand hx hb d_P_perform_3 ?_
  refine lv_topi (fun zz ez => ?_)
  obtain rfl : zz = (27 : Int32) := ez.trans hop
  refine lv_istore_n (lv' := [(2, .int (27 : Int32)), (0, .ref xP), (1, .int a1)]) hx hb d_P_perform_4 rfl hl (by decide) rfl (fun ls hl => ?_)
  refine lv_iload_n hx hb d_P_perform_5 rfl (lv_at hl 2 rfl) ?_
  refine zz_cS0 (rest := []) ⟨hx, hb, hml, hown, hts⟩ (k_P_amount l D cI _ a1) g_P_perform_P_amount_131 nd_P_amount ⟨⟨rfl, rfl⟩, Nat.le_of_ble_eq_true rfl, Nat.le_of_ble_eq_true rfl⟩ hK hP hD hS hA rfl rfl hl.1 (Nat.le_of_ble_eq_true rfl) d_P_perform_6 ⟨Nat.zero_le _, Nat.zero_le _⟩ (fun H locs hP hD hS => ?_)
  refine lv_istore_n (lv' := [(3, .int (s_P_amount a1)), (2, .int (27 : Int32)), (0, .ref xP), (1, .int a1)]) hx hb d_P_perform_9 rfl hl (by decide) rfl (fun ls hl => ?_)
  refine lv_iload_n hx hb d_P_perform_10 rfl (lv_at hl 1 rfl) ?_
  refine zz_cS0 (rest := []) ⟨hx, hb, hml, hown, hts⟩ (k_P_needsTopLevel l D cI _ (27 : Int32)) g_P_perform_P_needsTopLevel_134 nd_P_needsTopLevel ⟨⟨rfl, rfl⟩, Nat.le_of_ble_eq_true rfl, Nat.le_of_ble_eq_true rfl⟩ hK hP hD hS hA rfl rfl hl.1 (Nat.le_of_ble_eq_true rfl) d_P_perform_11 ⟨Nat.zero_le _, Nat.zero_le _⟩ (fun H locs hP hD hS => ?_)
  refine lv_if_eq (tgt := 32) hx hb d_P_perform_14 (by decide) (fun _ => ?_) (fun hh => absurd hh (by decide))
  refine lv_iload_n hx hb d_P_perform_32 rfl (lv_at hl 1 rfl) ?_
  refine lv_tableIn (off := 220) (tgt := 253) hx hb d_P_perform_33 (by decide) (by decide) rfl (by decide) ?_
  refine lv_sipush (v := (1536 : Int32)) hx hb d_P_perform_253 (by decide) ?_
  refine lv_iload_n hx hb d_P_perform_256 rfl (lv_at hl 0 rfl) ?_
  refine lv_sipush (v := (255 : Int32)) hx hb d_P_perform_257 (by decide) ?_
  refine lv_iand hx hb d_P_perform_260 ?_
  refine lv_iadd hx hb d_P_perform_261 ?_
  have hsp : s_P_perform27 u_z u_M u_r u_d u_a u_lo u_hi u_ri u_t a1 = ((1536 : Int32) + ((s_P_amount a1) &&& (255 : Int32))) := rfl
  rw [hsp] at hE
  exact hE _ _ _ _ hP hD hS d_P_perform_262
set_option maxHeartbeats 4000000 in
set_option maxRecDepth 100000 in
theorem k_P_perform28 (l : Launch) (D : va_G) (cI : ClassId) (sz : Nat) (xP : Nat) (xM : Nat) (xW : Nat) (xR : Nat) (xD : Nat) (xA : Nat) (xG : Nat) (xL : Nat) (xH : Nat) (xI : Nat) (xT : Nat) (u_z : Nat → Int32) (u_M : Nat → Int32) (u_r : Nat → Int32) (u_d : Nat → Int32) (u_a : Nat → Int32) (u_lo : Nat → Int32) (u_hi : Nat → Int32) (u_ri : Nat → Int32) (u_t : Nat → Int32) (a1 : Int32) (hop : (a1 &&& (31 : Int32)) = (28 : Int32)) : zMi l y_P_perform (.code y_P_perform b_P_perform 4 (some .int) :: wd) { frames := 4, cells := 0, slots := 0, locals := 100 } D classes [(cI, .int)] [.ref xP, .int a1] [oP xP xM xR xG xT u_z, oM xM xW, ar cI xW 512 u_M, oR xR xD xA u_r, ar cI xD 8 u_d, ar cI xA 8 u_a, oG xG xL xH xI, ar cI xL 6 u_lo, ar cI xH 6 u_hi, ar cI xI 6 u_ri, oT xT u_t] [oP xP xM xR xG xT u_z, oM xM xW, ar cI xW 512 u_M, oR xR xD xA ((s_P_perform28 u_z u_M u_r u_d u_a u_lo u_hi u_ri u_t a1).2), ar cI xD 8 u_d, ar cI xA 8 u_a, oG xG xL xH xI, ar cI xL 6 u_lo, ar cI xH 6 u_hi, ar cI xI 6 u_ri, oT xT u_t] sz (s_P_perform28 u_z u_M u_r u_d u_a u_lo u_hi u_ri u_t a1).1 := by
  refine met_i (by decide) (Nat.le_of_ble_eq_true rfl) rfl ?_
  intro p e s m args below meth c A Q ls hx hb hml hown hts hK hP hD hS hA hl hE
  have hl : lv_has ls 4 [(0, .ref xP), (1, .int a1)] := hl
  have hown : s.vm.findClass R_P = some m.cls := hown
  refine lv_iload_n hx hb d_P_perform_0 rfl (lv_at hl 1 rfl) ?_
  refine lv_bipush (v := (31 : Int32)) hx hb d_P_perform_1 (by decide) ?_
  refine lv_iand hx hb d_P_perform_3 ?_
  refine lv_topi (fun zz ez => ?_)
  obtain rfl : zz = (28 : Int32) := ez.trans hop
  refine lv_istore_n (lv' := [(2, .int (28 : Int32)), (0, .ref xP), (1, .int a1)]) hx hb d_P_perform_4 rfl hl (by decide) rfl (fun ls hl => ?_)
  refine lv_iload_n hx hb d_P_perform_5 rfl (lv_at hl 2 rfl) ?_
  refine zz_cS0 (rest := []) ⟨hx, hb, hml, hown, hts⟩ (k_P_amount l D cI _ a1) g_P_perform_P_amount_131 nd_P_amount ⟨⟨rfl, rfl⟩, Nat.le_of_ble_eq_true rfl, Nat.le_of_ble_eq_true rfl⟩ hK hP hD hS hA rfl rfl hl.1 (Nat.le_of_ble_eq_true rfl) d_P_perform_6 ⟨Nat.zero_le _, Nat.zero_le _⟩ (fun H locs hP hD hS => ?_)
  refine lv_istore_n (lv' := [(3, .int (s_P_amount a1)), (2, .int (28 : Int32)), (0, .ref xP), (1, .int a1)]) hx hb d_P_perform_9 rfl hl (by decide) rfl (fun ls hl => ?_)
  refine lv_iload_n hx hb d_P_perform_10 rfl (lv_at hl 1 rfl) ?_
  refine zz_cS0 (rest := []) ⟨hx, hb, hml, hown, hts⟩ (k_P_needsTopLevel l D cI _ (28 : Int32)) g_P_perform_P_needsTopLevel_134 nd_P_needsTopLevel ⟨⟨rfl, rfl⟩, Nat.le_of_ble_eq_true rfl, Nat.le_of_ble_eq_true rfl⟩ hK hP hD hS hA rfl rfl hl.1 (Nat.le_of_ble_eq_true rfl) d_P_perform_11 ⟨Nat.zero_le _, Nat.zero_le _⟩ (fun H locs hP hD hS => ?_)
  refine lv_if_eq (tgt := 32) hx hb d_P_perform_14 (by decide) (fun hh => absurd hh (by decide)) (fun _ => ?_)
  refine lv_aload_n hx hb d_P_perform_17 rfl (lv_at hl 2 rfl) ?_
  refine zz_get (C := R_P) (T := F_P) (N := 10) (v := .ref xR) hx hb hts in_P hown hK hP 0 rfl rfl 1 (by decide) mw_22 rfl d_P_perform_18 ?_
  refine zz_get (C := R_R) (T := F_R) (N := 12) (v := .int (u_r 4)) hx hb hts in_R hown hK hP 3 rfl rfl 6 (by decide) mw_23 rfl d_P_perform_21 ?_
  refine lv_iconst (v := (2 : Int32)) hx hb d_P_perform_24 (by decide) ?_
  refine lv_icmp_eq (tgt := 32) hx hb d_P_perform_25 (by decide) (fun h1 => ?_) (fun h1 => ?_)
  ·
    refine lv_iload_n hx hb d_P_perform_32 rfl (lv_at hl 1 rfl) ?_
    refine lv_tableIn (off := 230) (tgt := 263) hx hb d_P_perform_33 (by decide) (by decide) rfl (by decide) ?_
    refine lv_aload_n hx hb d_P_perform_263 rfl (lv_at hl 2 rfl) ?_
    refine zz_get (C := R_P) (T := F_P) (N := 10) (v := .ref xR) hx hb hts in_P hown hK hP 0 rfl rfl 1 (by decide) mw_22 rfl d_P_perform_264 ?_
    refine lv_iload_n hx hb d_P_perform_267 rfl (lv_at hl 0 rfl) ?_
    refine lv_iconst (v := (1 : Int32)) hx hb d_P_perform_268 (by decide) ?_
    refine lv_iand hx hb d_P_perform_269 ?_
    refine lv_iconst (v := (1 : Int32)) hx hb d_P_perform_270 (by decide) ?_
    have J271_2 : ∀ (vj271_0 : Int32) (ls : Array Slot) (H : Heap) (locs : List Loc), vj271_0 = (if ((s_P_amount a1) &&& (1 : Int32)) = (1 : Int32) then (1 : Int32) else (0 : Int32)) → lv_has ls 4 [(3, .int (s_P_amount a1)), (2, .int (28 : Int32)), (0, .ref xP), (1, .int a1)] → va_P D classes [oP xP xM xR xG xT u_z, oM xM xW, ar cI xW 512 u_M, oR xR xD xA u_r, ar cI xD 8 u_d, ar cI xA 8 u_a, oG xG xL xH xI, ar cI xL 6 u_lo, ar cI xH 6 u_hi, ar cI xI 6 u_ri, oT xT u_t] H → va_D A [oP xP xM xR xG xT u_z, oM xM xW, ar cI xW 512 u_M, oR xR xD xA u_r, ar cI xD 8 u_d, ar cI xA 8 u_a, oG xG xL xH xI, ar cI xL 6 u_lo, ar cI xH 6 u_hi, ar cI xI 6 u_ri, oT xT u_t] → va_S A s.heap H locs → W p l e { frames := 4, cells := 0, slots := 0, locals := 100 } s m args below meth c H locs 0 0 Q (F0 m 279 ls [.int vj271_0, .ref xR]) := by
      intro vj271_0 ls H locs evj271_0 hl hP hD hS
      subst evj271_0
      refine zz_put (C := R_R) (T := F_R) (N := 12) (w' := [oP xP xM xR xG xT u_z, oM xM xW, ar cI xW 512 u_M, oR xR xD xA (upd u_r 8 (if ((s_P_amount a1) &&& (1 : Int32)) = (1 : Int32) then (1 : Int32) else (0 : Int32))), ar cI xD 8 u_d, ar cI xA 8 u_a, oG xG xL xH xI, ar cI xL 6 u_lo, ar cI xH 6 u_hi, ar cI xI 6 u_ri, oT xT u_t]) hx hb hts in_R ty_R ty_R_ok n_R hown hK hP hD hS 3 rfl rfl 10 (by decide) mw_42 rfl (zz_nar zz_ite) (zz_fit zz_ite) (Nat.le_of_ble_eq_true rfl) d_P_perform_279 rfl (fun H locs hP hD hS => ?_)
      refine lv_iconst (v := (0 : Int32)) hx hb d_P_perform_282 (by decide) ?_
      have hsp : s_P_perform28 u_z u_M u_r u_d u_a u_lo u_hi u_ri u_t a1 = ((0 : Int32), upd u_r 8 (if ((s_P_amount a1) &&& (1 : Int32)) = (1 : Int32) then (1 : Int32) else (0 : Int32))) := (by unfold s_P_perform28; rw [if_pos h1])
      rw [hsp] at hE
      exact hE _ _ _ _ hP hD hS d_P_perform_283
    refine lv_icmp_ne (tgt := 278) hx hb d_P_perform_271 (by decide) (fun h2 => ?_) (fun h2 => ?_)
    ·
      refine lv_iconst (v := (0 : Int32)) hx hb d_P_perform_278 (by decide) ?_
      exact J271_2 (0 : Int32) _ _ _ (by rw [if_neg h2]) (lv_sub hl [0, 1, 2, 3] rfl) hP hD hS
    ·
      refine lv_iconst (v := (1 : Int32)) hx hb d_P_perform_274 (by decide) ?_
      refine lv_goto (tgt := 279) hx hb d_P_perform_275 (by decide) ?_
      exact J271_2 (1 : Int32) _ _ _ (by rw [if_pos h2]) (lv_sub hl [0, 1, 2, 3] rfl) hP hD hS
  ·
    refine lv_sipush (v := (257 : Int32)) hx hb d_P_perform_28 (by decide) ?_
    have hsp : s_P_perform28 u_z u_M u_r u_d u_a u_lo u_hi u_ri u_t a1 = ((257 : Int32), u_r) := (by unfold s_P_perform28; rw [if_neg h1])
    rw [hsp] at hE
    exact hE _ _ _ _ hP hD hS d_P_perform_31
set_option maxHeartbeats 4000000 in
set_option maxRecDepth 100000 in
theorem k_P_perform29 (l : Launch) (D : va_G) (cI : ClassId) (sz : Nat) (xP : Nat) (xM : Nat) (xW : Nat) (xR : Nat) (xD : Nat) (xA : Nat) (xG : Nat) (xL : Nat) (xH : Nat) (xI : Nat) (xT : Nat) (u_z : Nat → Int32) (u_M : Nat → Int32) (u_r : Nat → Int32) (u_d : Nat → Int32) (u_a : Nat → Int32) (u_lo : Nat → Int32) (u_hi : Nat → Int32) (u_ri : Nat → Int32) (u_t : Nat → Int32) (a1 : Int32) (hop : (a1 &&& (31 : Int32)) = (29 : Int32)) : zMi l y_P_perform (.code y_P_perform b_P_perform 4 (some .int) :: wd) { frames := 4, cells := 0, slots := 0, locals := 100 } D classes [(cI, .int)] [.ref xP, .int a1] [oP xP xM xR xG xT u_z, oM xM xW, ar cI xW 512 u_M, oR xR xD xA u_r, ar cI xD 8 u_d, ar cI xA 8 u_a, oG xG xL xH xI, ar cI xL 6 u_lo, ar cI xH 6 u_hi, ar cI xI 6 u_ri, oT xT u_t] [oP xP xM xR xG xT u_z, oM xM xW, ar cI xW 512 u_M, oR xR xD xA ((s_P_perform29 u_z u_M u_r u_d u_a u_lo u_hi u_ri u_t a1).2), ar cI xD 8 u_d, ar cI xA 8 u_a, oG xG xL xH xI, ar cI xL 6 u_lo, ar cI xH 6 u_hi, ar cI xI 6 u_ri, oT xT u_t] sz (s_P_perform29 u_z u_M u_r u_d u_a u_lo u_hi u_ri u_t a1).1 := by
  refine met_i (by decide) (Nat.le_of_ble_eq_true rfl) rfl ?_
  intro p e s m args below meth c A Q ls hx hb hml hown hts hK hP hD hS hA hl hE
  have hl : lv_has ls 4 [(0, .ref xP), (1, .int a1)] := hl
  have hown : s.vm.findClass R_P = some m.cls := hown
  refine lv_iload_n hx hb d_P_perform_0 rfl (lv_at hl 1 rfl) ?_
  refine lv_bipush (v := (31 : Int32)) hx hb d_P_perform_1 (by decide) ?_
  refine lv_iand hx hb d_P_perform_3 ?_
  refine lv_topi (fun zz ez => ?_)
  obtain rfl : zz = (29 : Int32) := ez.trans hop
  refine lv_istore_n (lv' := [(2, .int (29 : Int32)), (0, .ref xP), (1, .int a1)]) hx hb d_P_perform_4 rfl hl (by decide) rfl (fun ls hl => ?_)
  refine lv_iload_n hx hb d_P_perform_5 rfl (lv_at hl 2 rfl) ?_
  refine zz_cS0 (rest := []) ⟨hx, hb, hml, hown, hts⟩ (k_P_amount l D cI _ a1) g_P_perform_P_amount_131 nd_P_amount ⟨⟨rfl, rfl⟩, Nat.le_of_ble_eq_true rfl, Nat.le_of_ble_eq_true rfl⟩ hK hP hD hS hA rfl rfl hl.1 (Nat.le_of_ble_eq_true rfl) d_P_perform_6 ⟨Nat.zero_le _, Nat.zero_le _⟩ (fun H locs hP hD hS => ?_)
  refine lv_istore_n (lv' := [(3, .int (s_P_amount a1)), (2, .int (29 : Int32)), (0, .ref xP), (1, .int a1)]) hx hb d_P_perform_9 rfl hl (by decide) rfl (fun ls hl => ?_)
  refine lv_iload_n hx hb d_P_perform_10 rfl (lv_at hl 1 rfl) ?_
  refine zz_cS0 (rest := []) ⟨hx, hb, hml, hown, hts⟩ (k_P_needsTopLevel l D cI _ (29 : Int32)) g_P_perform_P_needsTopLevel_134 nd_P_needsTopLevel ⟨⟨rfl, rfl⟩, Nat.le_of_ble_eq_true rfl, Nat.le_of_ble_eq_true rfl⟩ hK hP hD hS hA rfl rfl hl.1 (Nat.le_of_ble_eq_true rfl) d_P_perform_11 ⟨Nat.zero_le _, Nat.zero_le _⟩ (fun H locs hP hD hS => ?_)
  refine lv_if_eq (tgt := 32) hx hb d_P_perform_14 (by decide) (fun hh => absurd hh (by decide)) (fun _ => ?_)
  refine lv_aload_n hx hb d_P_perform_17 rfl (lv_at hl 2 rfl) ?_
  refine zz_get (C := R_P) (T := F_P) (N := 10) (v := .ref xR) hx hb hts in_P hown hK hP 0 rfl rfl 1 (by decide) mw_22 rfl d_P_perform_18 ?_
  refine zz_get (C := R_R) (T := F_R) (N := 12) (v := .int (u_r 4)) hx hb hts in_R hown hK hP 3 rfl rfl 6 (by decide) mw_23 rfl d_P_perform_21 ?_
  refine lv_iconst (v := (2 : Int32)) hx hb d_P_perform_24 (by decide) ?_
  refine lv_icmp_eq (tgt := 32) hx hb d_P_perform_25 (by decide) (fun h1 => ?_) (fun h1 => ?_)
  ·
    refine lv_iload_n hx hb d_P_perform_32 rfl (lv_at hl 1 rfl) ?_
    refine lv_tableIn (off := 251) (tgt := 284) hx hb d_P_perform_33 (by decide) (by decide) rfl (by decide) ?_
    refine lv_aload_n hx hb d_P_perform_284 rfl (lv_at hl 2 rfl) ?_
    refine zz_get (C := R_P) (T := F_P) (N := 10) (v := .ref xR) hx hb hts in_P hown hK hP 0 rfl rfl 1 (by decide) mw_22 rfl d_P_perform_285 ?_
    refine lv_iload_n hx hb d_P_perform_288 rfl (lv_at hl 0 rfl) ?_
    refine lv_iconst (v := (1 : Int32)) hx hb d_P_perform_289 (by decide) ?_
    refine lv_iand hx hb d_P_perform_290 ?_
    refine zz_put (C := R_R) (T := F_R) (N := 12) (w' := [oP xP xM xR xG xT u_z, oM xM xW, ar cI xW 512 u_M, oR xR xD xA (upd u_r 5 ((s_P_amount a1) &&& (1 : Int32))), ar cI xD 8 u_d, ar cI xA 8 u_a, oG xG xL xH xI, ar cI xL 6 u_lo, ar cI xH 6 u_hi, ar cI xI 6 u_ri, oT xT u_t]) hx hb hts in_R ty_R ty_R_ok n_R hown hK hP hD hS 3 rfl rfl 7 (by decide) mw_36 rfl rfl rfl (Nat.le_of_ble_eq_true rfl) d_P_perform_291 rfl (fun H locs hP hD hS => ?_)
    refine lv_iconst (v := (0 : Int32)) hx hb d_P_perform_294 (by decide) ?_
    have hsp : s_P_perform29 u_z u_M u_r u_d u_a u_lo u_hi u_ri u_t a1 = ((0 : Int32), upd u_r 5 ((s_P_amount a1) &&& (1 : Int32))) := (by unfold s_P_perform29; rw [if_pos h1])
    rw [hsp] at hE
    exact hE _ _ _ _ hP hD hS d_P_perform_295
  ·
    refine lv_sipush (v := (257 : Int32)) hx hb d_P_perform_28 (by decide) ?_
    have hsp : s_P_perform29 u_z u_M u_r u_d u_a u_lo u_hi u_ri u_t a1 = ((257 : Int32), u_r) := (by unfold s_P_perform29; rw [if_neg h1])
    rw [hsp] at hE
    exact hE _ _ _ _ hP hD hS d_P_perform_31
set_option maxHeartbeats 4000000 in
set_option maxRecDepth 100000 in
theorem k_P_perform30 (l : Launch) (D : va_G) (cI : ClassId) (sz : Nat) (xP : Nat) (xM : Nat) (xW : Nat) (xR : Nat) (xD : Nat) (xA : Nat) (xG : Nat) (xL : Nat) (xH : Nat) (xI : Nat) (xT : Nat) (u_z : Nat → Int32) (u_M : Nat → Int32) (u_r : Nat → Int32) (u_d : Nat → Int32) (u_a : Nat → Int32) (u_lo : Nat → Int32) (u_hi : Nat → Int32) (u_ri : Nat → Int32) (u_t : Nat → Int32) (a1 : Int32) (hop : (a1 &&& (31 : Int32)) = (30 : Int32)) : zMi l y_P_perform (.code y_P_perform b_P_perform 4 (some .int) :: wd) { frames := 4, cells := 0, slots := 0, locals := 100 } D classes [(cI, .int)] [.ref xP, .int a1] [oP xP xM xR xG xT u_z, oM xM xW, ar cI xW 512 u_M, oR xR xD xA u_r, ar cI xD 8 u_d, ar cI xA 8 u_a, oG xG xL xH xI, ar cI xL 6 u_lo, ar cI xH 6 u_hi, ar cI xI 6 u_ri, oT xT u_t] [oP xP xM xR xG xT u_z, oM xM xW, ar cI xW 512 u_M, oR xR xD xA ((s_P_perform30 u_z u_M u_r u_d u_a u_lo u_hi u_ri u_t a1).2), ar cI xD 8 u_d, ar cI xA 8 u_a, oG xG xL xH xI, ar cI xL 6 u_lo, ar cI xH 6 u_hi, ar cI xI 6 u_ri, oT xT u_t] sz (s_P_perform30 u_z u_M u_r u_d u_a u_lo u_hi u_ri u_t a1).1 := by
  refine met_i (by decide) (Nat.le_of_ble_eq_true rfl) rfl ?_
  intro p e s m args below meth c A Q ls hx hb hml hown hts hK hP hD hS hA hl hE
  have hl : lv_has ls 4 [(0, .ref xP), (1, .int a1)] := hl
  have hown : s.vm.findClass R_P = some m.cls := hown
  refine lv_iload_n hx hb d_P_perform_0 rfl (lv_at hl 1 rfl) ?_
  refine lv_bipush (v := (31 : Int32)) hx hb d_P_perform_1 (by decide) ?_
  refine lv_iand hx hb d_P_perform_3 ?_
  refine lv_topi (fun zz ez => ?_)
  obtain rfl : zz = (30 : Int32) := ez.trans hop
  refine lv_istore_n (lv' := [(2, .int (30 : Int32)), (0, .ref xP), (1, .int a1)]) hx hb d_P_perform_4 rfl hl (by decide) rfl (fun ls hl => ?_)
  refine lv_iload_n hx hb d_P_perform_5 rfl (lv_at hl 2 rfl) ?_
  refine zz_cS0 (rest := []) ⟨hx, hb, hml, hown, hts⟩ (k_P_amount l D cI _ a1) g_P_perform_P_amount_131 nd_P_amount ⟨⟨rfl, rfl⟩, Nat.le_of_ble_eq_true rfl, Nat.le_of_ble_eq_true rfl⟩ hK hP hD hS hA rfl rfl hl.1 (Nat.le_of_ble_eq_true rfl) d_P_perform_6 ⟨Nat.zero_le _, Nat.zero_le _⟩ (fun H locs hP hD hS => ?_)
  refine lv_istore_n (lv' := [(3, .int (s_P_amount a1)), (2, .int (30 : Int32)), (0, .ref xP), (1, .int a1)]) hx hb d_P_perform_9 rfl hl (by decide) rfl (fun ls hl => ?_)
  refine lv_iload_n hx hb d_P_perform_10 rfl (lv_at hl 1 rfl) ?_
  refine zz_cS0 (rest := []) ⟨hx, hb, hml, hown, hts⟩ (k_P_needsTopLevel l D cI _ (30 : Int32)) g_P_perform_P_needsTopLevel_134 nd_P_needsTopLevel ⟨⟨rfl, rfl⟩, Nat.le_of_ble_eq_true rfl, Nat.le_of_ble_eq_true rfl⟩ hK hP hD hS hA rfl rfl hl.1 (Nat.le_of_ble_eq_true rfl) d_P_perform_11 ⟨Nat.zero_le _, Nat.zero_le _⟩ (fun H locs hP hD hS => ?_)
  refine lv_if_eq (tgt := 32) hx hb d_P_perform_14 (by decide) (fun _ => ?_) (fun hh => absurd hh (by decide))
  refine lv_iload_n hx hb d_P_perform_32 rfl (lv_at hl 1 rfl) ?_
  refine lv_tableIn (off := 263) (tgt := 296) hx hb d_P_perform_33 (by decide) (by decide) rfl (by decide) ?_
  refine lv_aload_n hx hb d_P_perform_296 rfl (lv_at hl 2 rfl) ?_
  refine lv_iload_n hx hb d_P_perform_297 rfl (lv_at hl 0 rfl) ?_
  refine lv_iconst (v := (1 : Int32)) hx hb d_P_perform_298 (by decide) ?_
  refine lv_iand hx hb d_P_perform_299 ?_
  refine zz_cVi (rest := []) (wr := []) (w' := [oP xP xM xR xG xT u_z, oM xM xW, ar cI xW 512 u_M, oR xR xD xA ((s_P_changeLevel u_z u_M u_r u_d u_a u_lo u_hi u_ri u_t ((s_P_amount a1) &&& (1 : Int32))).2), ar cI xD 8 u_d, ar cI xA 8 u_a, oG xG xL xH xI, ar cI xL 6 u_lo, ar cI xH 6 u_hi, ar cI xI 6 u_ri, oT xT u_t]) ⟨hx, hb, hml, hown, hts⟩ (k_P_changeLevel l D cI _ xP xM xW xR xD xA xG xL xH xI xT u_z u_M u_r u_d u_a u_lo u_hi u_ri u_t ((s_P_amount a1) &&& (1 : Int32))) g_P_perform_P_changeLevel_166 nv_P_changeLevel ⟨⟨rfl, rfl⟩, Nat.le_of_ble_eq_true rfl, Nat.le_of_ble_eq_true rfl⟩ hK [0] rfl hP hD hS hA [0, 1, 2, 3, 4, 5, 6, 7, 8, 9, 10] [] [0, 1, 2, 3, 4, 5, 6, 7, 8, 9, 10] rfl rfl rfl rfl (by decide) rfl rfl 0 4 rfl rfl rfl rfl hl.1 (Nat.le_of_ble_eq_true rfl) d_P_perform_300 ⟨Nat.zero_le _, Nat.zero_le _⟩ (fun H locs hP hD hS => ?_)
  have hsp : s_P_perform30 u_z u_M u_r u_d u_a u_lo u_hi u_ri u_t a1 = ((s_P_changeLevel u_z u_M u_r u_d u_a u_lo u_hi u_ri u_t ((s_P_amount a1) &&& (1 : Int32))).1, (s_P_changeLevel u_z u_M u_r u_d u_a u_lo u_hi u_ri u_t ((s_P_amount a1) &&& (1 : Int32))).2) := rfl
  rw [hsp] at hE
  exact hE _ _ _ _ hP hD hS d_P_perform_303
set_option maxHeartbeats 4000000 in
set_option maxRecDepth 100000 in
theorem k_P_perform31 (l : Launch) (D : va_G) (cI : ClassId) (sz : Nat) (xP : Nat) (xM : Nat) (xW : Nat) (xR : Nat) (xD : Nat) (xA : Nat) (xG : Nat) (xL : Nat) (xH : Nat) (xI : Nat) (xT : Nat) (u_z : Nat → Int32) (u_M : Nat → Int32) (u_r : Nat → Int32) (u_d : Nat → Int32) (u_a : Nat → Int32) (u_lo : Nat → Int32) (u_hi : Nat → Int32) (u_ri : Nat → Int32) (u_t : Nat → Int32) (a1 : Int32) (hop : (a1 &&& (31 : Int32)) = (31 : Int32)) : zMi l y_P_perform (.code y_P_perform b_P_perform 4 (some .int) :: wd) { frames := 4, cells := 0, slots := 0, locals := 100 } D classes [(cI, .int)] [.ref xP, .int a1] [oP xP xM xR xG xT u_z, oM xM xW, ar cI xW 512 u_M, oR xR xD xA u_r, ar cI xD 8 u_d, ar cI xA 8 u_a, oG xG xL xH xI, ar cI xL 6 u_lo, ar cI xH 6 u_hi, ar cI xI 6 u_ri, oT xT u_t] [oP xP xM xR xG xT u_z, oM xM xW, ar cI xW 512 u_M, oR xR xD xA u_r, ar cI xD 8 u_d, ar cI xA 8 u_a, oG xG xL xH xI, ar cI xL 6 u_lo, ar cI xH 6 u_hi, ar cI xI 6 u_ri, oT xT u_t] sz (s_P_perform31 u_z u_M u_r u_d u_a u_lo u_hi u_ri u_t a1) := by
  refine met_i (by decide) (Nat.le_of_ble_eq_true rfl) rfl ?_
  intro p e s m args below meth c A Q ls hx hb hml hown hts hK hP hD hS hA hl hE
  have hl : lv_has ls 4 [(0, .ref xP), (1, .int a1)] := hl
  have hown : s.vm.findClass R_P = some m.cls := hown
  refine lv_iload_n hx hb d_P_perform_0 rfl (lv_at hl 1 rfl) ?_
  refine lv_bipush (v := (31 : Int32)) hx hb d_P_perform_1 (by decide) ?_
  refine lv_iand hx hb d_P_perform_3 ?_
  refine lv_topi (fun zz ez => ?_)
  obtain rfl : zz = (31 : Int32) := ez.trans hop
  refine lv_istore_n (lv' := [(2, .int (31 : Int32)), (0, .ref xP), (1, .int a1)]) hx hb d_P_perform_4 rfl hl (by decide) rfl (fun ls hl => ?_)
  refine lv_iload_n hx hb d_P_perform_5 rfl (lv_at hl 2 rfl) ?_
  refine zz_cS0 (rest := []) ⟨hx, hb, hml, hown, hts⟩ (k_P_amount l D cI _ a1) g_P_perform_P_amount_131 nd_P_amount ⟨⟨rfl, rfl⟩, Nat.le_of_ble_eq_true rfl, Nat.le_of_ble_eq_true rfl⟩ hK hP hD hS hA rfl rfl hl.1 (Nat.le_of_ble_eq_true rfl) d_P_perform_6 ⟨Nat.zero_le _, Nat.zero_le _⟩ (fun H locs hP hD hS => ?_)
  refine lv_istore_n (lv' := [(3, .int (s_P_amount a1)), (2, .int (31 : Int32)), (0, .ref xP), (1, .int a1)]) hx hb d_P_perform_9 rfl hl (by decide) rfl (fun ls hl => ?_)
  refine lv_iload_n hx hb d_P_perform_10 rfl (lv_at hl 1 rfl) ?_
  refine zz_cS0 (rest := []) ⟨hx, hb, hml, hown, hts⟩ (k_P_needsTopLevel l D cI _ (31 : Int32)) g_P_perform_P_needsTopLevel_134 nd_P_needsTopLevel ⟨⟨rfl, rfl⟩, Nat.le_of_ble_eq_true rfl, Nat.le_of_ble_eq_true rfl⟩ hK hP hD hS hA rfl rfl hl.1 (Nat.le_of_ble_eq_true rfl) d_P_perform_11 ⟨Nat.zero_le _, Nat.zero_le _⟩ (fun H locs hP hD hS => ?_)
  refine lv_if_eq (tgt := 32) hx hb d_P_perform_14 (by decide) (fun hh => absurd hh (by decide)) (fun _ => ?_)
  refine lv_aload_n hx hb d_P_perform_17 rfl (lv_at hl 2 rfl) ?_
  refine zz_get (C := R_P) (T := F_P) (N := 10) (v := .ref xR) hx hb hts in_P hown hK hP 0 rfl rfl 1 (by decide) mw_22 rfl d_P_perform_18 ?_
  refine zz_get (C := R_R) (T := F_R) (N := 12) (v := .int (u_r 4)) hx hb hts in_R hown hK hP 3 rfl rfl 6 (by decide) mw_23 rfl d_P_perform_21 ?_
  refine lv_iconst (v := (2 : Int32)) hx hb d_P_perform_24 (by decide) ?_
  refine lv_icmp_eq (tgt := 32) hx hb d_P_perform_25 (by decide) (fun h1 => ?_) (fun h1 => ?_)
  ·
    refine lv_iload_n hx hb d_P_perform_32 rfl (lv_at hl 1 rfl) ?_
    refine lv_tableIn (off := 271) (tgt := 304) hx hb d_P_perform_33 (by decide) (by decide) rfl (by decide) ?_
    refine lv_iconst (v := (2 : Int32)) hx hb d_P_perform_304 (by decide) ?_
    have hsp : s_P_perform31 u_z u_M u_r u_d u_a u_lo u_hi u_ri u_t a1 = (2 : Int32) := (by unfold s_P_perform31; rw [if_pos h1])
    rw [hsp] at hE
    exact hE _ _ _ _ hP hD hS d_P_perform_305
  ·
    refine lv_sipush (v := (257 : Int32)) hx hb d_P_perform_28 (by decide) ?_
    have hsp : s_P_perform31 u_z u_M u_r u_d u_a u_lo u_hi u_ri u_t a1 = (257 : Int32) := (by unfold s_P_perform31; rw [if_neg h1])
    rw [hsp] at hE
    exact hE _ _ _ _ hP hD hS d_P_perform_31
set_option maxHeartbeats 4000000 in
set_option maxRecDepth 100000 in
theorem k_P_perform (l : Launch) (D : va_G) (cI : ClassId) (sz : Nat) (xP : Nat) (xM : Nat) (xW : Nat) (xR : Nat) (xD : Nat) (xA : Nat) (xG : Nat) (xL : Nat) (xH : Nat) (xI : Nat) (xT : Nat) (u_z : Nat → Int32) (u_M : Nat → Int32) (u_r : Nat → Int32) (u_d : Nat → Int32) (u_a : Nat → Int32) (u_lo : Nat → Int32) (u_hi : Nat → Int32) (u_ri : Nat → Int32) (u_t : Nat → Int32) (a1 : Int32) (hset : u_r 5 = 0 ∨ u_r 5 = 1) : zMi l y_P_perform (.code y_P_perform b_P_perform 4 (some .int) :: wd) { frames := 4, cells := 0, slots := 0, locals := 100 } D classes [(cI, .int)] [.ref xP, .int a1] [oP xP xM xR xG xT u_z, oM xM xW, ar cI xW 512 u_M, oR xR xD xA u_r, ar cI xD 8 u_d, ar cI xA 8 u_a, oG xG xL xH xI, ar cI xL 6 u_lo, ar cI xH 6 u_hi, ar cI xI 6 u_ri, oT xT u_t] [oP xP xM xR xG xT u_z, oM xM xW, ar cI xW 512 ((s_P_perform u_z u_M u_r u_d u_a u_lo u_hi u_ri u_t a1).2.1), oR xR xD xA ((s_P_perform u_z u_M u_r u_d u_a u_lo u_hi u_ri u_t a1).2.2.1), ar cI xD 8 ((s_P_perform u_z u_M u_r u_d u_a u_lo u_hi u_ri u_t a1).2.2.2.1), ar cI xA 8 ((s_P_perform u_z u_M u_r u_d u_a u_lo u_hi u_ri u_t a1).2.2.2.2), oG xG xL xH xI, ar cI xL 6 u_lo, ar cI xH 6 u_hi, ar cI xI 6 u_ri, oT xT u_t] sz (s_P_perform u_z u_M u_r u_d u_a u_lo u_hi u_ri u_t a1).1 := by
  obtain ⟨j, hj, hop⟩ := pk_andE a1 (m := (31 : Int32)) 5 (by decide)
  have hj : j < 32 := hj
  match j, hj, hop with
  | 0, _, hop => have hop : (a1 &&& (31 : Int32)) = (0 : Int32) := hop; rw [e_P_perform0 u_z u_M u_r u_d u_a u_lo u_hi u_ri u_t a1 hop]; exact k_P_perform0 l D cI sz xP xM xW xR xD xA xG xL xH xI xT u_z u_M u_r u_d u_a u_lo u_hi u_ri u_t a1 hop
  | 1, _, hop => have hop : (a1 &&& (31 : Int32)) = (1 : Int32) := hop; rw [e_P_perform1 u_z u_M u_r u_d u_a u_lo u_hi u_ri u_t a1 hop]; exact k_P_perform1 l D cI sz xP xM xW xR xD xA xG xL xH xI xT u_z u_M u_r u_d u_a u_lo u_hi u_ri u_t a1 hop
  | 2, _, hop => have hop : (a1 &&& (31 : Int32)) = (2 : Int32) := hop; rw [e_P_perform2 u_z u_M u_r u_d u_a u_lo u_hi u_ri u_t a1 hop]; exact k_P_perform2 l D cI sz xP xM xW xR xD xA xG xL xH xI xT u_z u_M u_r u_d u_a u_lo u_hi u_ri u_t a1 hop
  | 3, _, hop => have hop : (a1 &&& (31 : Int32)) = (3 : Int32) := hop; rw [e_P_perform3 u_z u_M u_r u_d u_a u_lo u_hi u_ri u_t a1 hop]; exact k_P_perform3 l D cI sz xP xM xW xR xD xA xG xL xH xI xT u_z u_M u_r u_d u_a u_lo u_hi u_ri u_t a1 hop
  | 4, _, hop => have hop : (a1 &&& (31 : Int32)) = (4 : Int32) := hop; rw [e_P_perform4 u_z u_M u_r u_d u_a u_lo u_hi u_ri u_t a1 hop]; exact k_P_perform4 l D cI sz xP xM xW xR xD xA xG xL xH xI xT u_z u_M u_r u_d u_a u_lo u_hi u_ri u_t a1 hop
  | 5, _, hop => have hop : (a1 &&& (31 : Int32)) = (5 : Int32) := hop; rw [e_P_perform5 u_z u_M u_r u_d u_a u_lo u_hi u_ri u_t a1 hop]; exact k_P_perform5 l D cI sz xP xM xW xR xD xA xG xL xH xI xT u_z u_M u_r u_d u_a u_lo u_hi u_ri u_t a1 hop
  | 6, _, hop => have hop : (a1 &&& (31 : Int32)) = (6 : Int32) := hop; rw [e_P_perform6 u_z u_M u_r u_d u_a u_lo u_hi u_ri u_t a1 hop]; exact k_P_perform6 l D cI sz xP xM xW xR xD xA xG xL xH xI xT u_z u_M u_r u_d u_a u_lo u_hi u_ri u_t a1 hop
  | 7, _, hop => have hop : (a1 &&& (31 : Int32)) = (7 : Int32) := hop; rw [e_P_perform7 u_z u_M u_r u_d u_a u_lo u_hi u_ri u_t a1 hop]; exact k_P_perform7 l D cI sz xP xM xW xR xD xA xG xL xH xI xT u_z u_M u_r u_d u_a u_lo u_hi u_ri u_t a1 hop
  | 8, _, hop => have hop : (a1 &&& (31 : Int32)) = (8 : Int32) := hop; rw [e_P_perform8 u_z u_M u_r u_d u_a u_lo u_hi u_ri u_t a1 hop]; exact k_P_perform8 l D cI sz xP xM xW xR xD xA xG xL xH xI xT u_z u_M u_r u_d u_a u_lo u_hi u_ri u_t a1 hop
  | 9, _, hop => have hop : (a1 &&& (31 : Int32)) = (9 : Int32) := hop; rw [e_P_perform9 u_z u_M u_r u_d u_a u_lo u_hi u_ri u_t a1 hop]; exact k_P_perform9 l D cI sz xP xM xW xR xD xA xG xL xH xI xT u_z u_M u_r u_d u_a u_lo u_hi u_ri u_t a1 hop
  | 10, _, hop => have hop : (a1 &&& (31 : Int32)) = (10 : Int32) := hop; rw [e_P_perform10 u_z u_M u_r u_d u_a u_lo u_hi u_ri u_t a1 hop]; exact k_P_perform10 l D cI sz xP xM xW xR xD xA xG xL xH xI xT u_z u_M u_r u_d u_a u_lo u_hi u_ri u_t a1 hop
  | 11, _, hop => have hop : (a1 &&& (31 : Int32)) = (11 : Int32) := hop; rw [e_P_perform11 u_z u_M u_r u_d u_a u_lo u_hi u_ri u_t a1 hop]; exact k_P_perform11 l D cI sz xP xM xW xR xD xA xG xL xH xI xT u_z u_M u_r u_d u_a u_lo u_hi u_ri u_t a1 hop
  | 12, _, hop => have hop : (a1 &&& (31 : Int32)) = (12 : Int32) := hop; rw [e_P_perform12 u_z u_M u_r u_d u_a u_lo u_hi u_ri u_t a1 hop]; exact k_P_perform12 l D cI sz xP xM xW xR xD xA xG xL xH xI xT u_z u_M u_r u_d u_a u_lo u_hi u_ri u_t a1 hop
  | 13, _, hop => have hop : (a1 &&& (31 : Int32)) = (13 : Int32) := hop; rw [e_P_perform13 u_z u_M u_r u_d u_a u_lo u_hi u_ri u_t a1 hop]; exact k_P_perform13 l D cI sz xP xM xW xR xD xA xG xL xH xI xT u_z u_M u_r u_d u_a u_lo u_hi u_ri u_t a1 hop hset
  | 14, _, hop => have hop : (a1 &&& (31 : Int32)) = (14 : Int32) := hop; rw [e_P_perform14 u_z u_M u_r u_d u_a u_lo u_hi u_ri u_t a1 hop]; exact k_P_perform14 l D cI sz xP xM xW xR xD xA xG xL xH xI xT u_z u_M u_r u_d u_a u_lo u_hi u_ri u_t a1 hop hset
  | 15, _, hop => have hop : (a1 &&& (31 : Int32)) = (15 : Int32) := hop; rw [e_P_perform15 u_z u_M u_r u_d u_a u_lo u_hi u_ri u_t a1 hop]; exact k_P_perform15 l D cI sz xP xM xW xR xD xA xG xL xH xI xT u_z u_M u_r u_d u_a u_lo u_hi u_ri u_t a1 hop hset
  | 16, _, hop => have hop : (a1 &&& (31 : Int32)) = (16 : Int32) := hop; rw [e_P_perform16 u_z u_M u_r u_d u_a u_lo u_hi u_ri u_t a1 hop]; exact k_P_perform16 l D cI sz xP xM xW xR xD xA xG xL xH xI xT u_z u_M u_r u_d u_a u_lo u_hi u_ri u_t a1 hop hset
  | 17, _, hop => have hop : (a1 &&& (31 : Int32)) = (17 : Int32) := hop; rw [e_P_perform17 u_z u_M u_r u_d u_a u_lo u_hi u_ri u_t a1 hop]; exact k_P_perform17 l D cI sz xP xM xW xR xD xA xG xL xH xI xT u_z u_M u_r u_d u_a u_lo u_hi u_ri u_t a1 hop hset
  | 18, _, hop => have hop : (a1 &&& (31 : Int32)) = (18 : Int32) := hop; rw [e_P_perform18 u_z u_M u_r u_d u_a u_lo u_hi u_ri u_t a1 hop]; exact k_P_perform18 l D cI sz xP xM xW xR xD xA xG xL xH xI xT u_z u_M u_r u_d u_a u_lo u_hi u_ri u_t a1 hop
  | 19, _, hop => have hop : (a1 &&& (31 : Int32)) = (19 : Int32) := hop; rw [e_P_perform19 u_z u_M u_r u_d u_a u_lo u_hi u_ri u_t a1 hop]; exact k_P_perform19 l D cI sz xP xM xW xR xD xA xG xL xH xI xT u_z u_M u_r u_d u_a u_lo u_hi u_ri u_t a1 hop
  | 20, _, hop => have hop : (a1 &&& (31 : Int32)) = (20 : Int32) := hop; rw [e_P_perform20 u_z u_M u_r u_d u_a u_lo u_hi u_ri u_t a1 hop]; exact k_P_perform20 l D cI sz xP xM xW xR xD xA xG xL xH xI xT u_z u_M u_r u_d u_a u_lo u_hi u_ri u_t a1 hop
  | 21, _, hop => have hop : (a1 &&& (31 : Int32)) = (21 : Int32) := hop; rw [e_P_perform21 u_z u_M u_r u_d u_a u_lo u_hi u_ri u_t a1 hop]; exact k_P_perform21 l D cI sz xP xM xW xR xD xA xG xL xH xI xT u_z u_M u_r u_d u_a u_lo u_hi u_ri u_t a1 hop
  | 22, _, hop => have hop : (a1 &&& (31 : Int32)) = (22 : Int32) := hop; rw [e_P_perform22 u_z u_M u_r u_d u_a u_lo u_hi u_ri u_t a1 hop]; exact k_P_perform22 l D cI sz xP xM xW xR xD xA xG xL xH xI xT u_z u_M u_r u_d u_a u_lo u_hi u_ri u_t a1 hop
  | 23, _, hop => have hop : (a1 &&& (31 : Int32)) = (23 : Int32) := hop; rw [e_P_perform23 u_z u_M u_r u_d u_a u_lo u_hi u_ri u_t a1 hop]; exact k_P_perform23 l D cI sz xP xM xW xR xD xA xG xL xH xI xT u_z u_M u_r u_d u_a u_lo u_hi u_ri u_t a1 hop
  | 24, _, hop => have hop : (a1 &&& (31 : Int32)) = (24 : Int32) := hop; rw [e_P_perform24 u_z u_M u_r u_d u_a u_lo u_hi u_ri u_t a1 hop]; exact k_P_perform24 l D cI sz xP xM xW xR xD xA xG xL xH xI xT u_z u_M u_r u_d u_a u_lo u_hi u_ri u_t a1 hop
  | 25, _, hop => have hop : (a1 &&& (31 : Int32)) = (25 : Int32) := hop; rw [e_P_perform25 u_z u_M u_r u_d u_a u_lo u_hi u_ri u_t a1 hop]; exact k_P_perform25 l D cI sz xP xM xW xR xD xA xG xL xH xI xT u_z u_M u_r u_d u_a u_lo u_hi u_ri u_t a1 hop
  | 26, _, hop => have hop : (a1 &&& (31 : Int32)) = (26 : Int32) := hop; rw [e_P_perform26 u_z u_M u_r u_d u_a u_lo u_hi u_ri u_t a1 hop]; exact k_P_perform26 l D cI sz xP xM xW xR xD xA xG xL xH xI xT u_z u_M u_r u_d u_a u_lo u_hi u_ri u_t a1 hop
  | 27, _, hop => have hop : (a1 &&& (31 : Int32)) = (27 : Int32) := hop; rw [e_P_perform27 u_z u_M u_r u_d u_a u_lo u_hi u_ri u_t a1 hop]; exact k_P_perform27 l D cI sz xP xM xW xR xD xA xG xL xH xI xT u_z u_M u_r u_d u_a u_lo u_hi u_ri u_t a1 hop
  | 28, _, hop => have hop : (a1 &&& (31 : Int32)) = (28 : Int32) := hop; rw [e_P_perform28 u_z u_M u_r u_d u_a u_lo u_hi u_ri u_t a1 hop]; exact k_P_perform28 l D cI sz xP xM xW xR xD xA xG xL xH xI xT u_z u_M u_r u_d u_a u_lo u_hi u_ri u_t a1 hop
  | 29, _, hop => have hop : (a1 &&& (31 : Int32)) = (29 : Int32) := hop; rw [e_P_perform29 u_z u_M u_r u_d u_a u_lo u_hi u_ri u_t a1 hop]; exact k_P_perform29 l D cI sz xP xM xW xR xD xA xG xL xH xI xT u_z u_M u_r u_d u_a u_lo u_hi u_ri u_t a1 hop
  | 30, _, hop => have hop : (a1 &&& (31 : Int32)) = (30 : Int32) := hop; rw [e_P_perform30 u_z u_M u_r u_d u_a u_lo u_hi u_ri u_t a1 hop]; exact k_P_perform30 l D cI sz xP xM xW xR xD xA xG xL xH xI xT u_z u_M u_r u_d u_a u_lo u_hi u_ri u_t a1 hop
  | 31, _, hop => have hop : (a1 &&& (31 : Int32)) = (31 : Int32) := hop; rw [e_P_perform31 u_z u_M u_r u_d u_a u_lo u_hi u_ri u_t a1 hop]; exact k_P_perform31 l D cI sz xP xM xW xR xD xA xG xL xH xI xT u_z u_M u_r u_d u_a u_lo u_hi u_ri u_t a1 hop
  | n + 32, hj, _ => exact absurd hj (by omega)
