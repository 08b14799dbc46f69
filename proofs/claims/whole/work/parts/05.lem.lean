/-! pure facts that the walks ask for: indices, numbers of the loops -/
theorem ni_lt {x y : Int32} : x < y ↔ x.toInt < y.toInt := Int32.lt_iff_toInt_lt
theorem ni_le {x y : Int32} : x ≤ y ↔ x.toInt ≤ y.toInt := Int32.le_iff_toInt_le
theorem ni_0 : (0 : Int32).toInt = 0 := by decide
theorem ni_1 : (1 : Int32).toInt = 1 := by decide
theorem ni_2 : (2 : Int32).toInt = 2 := by decide
theorem ni_3 : (3 : Int32).toInt = 3 := by decide
theorem ni_5 : (5 : Int32).toInt = 5 := by decide
theorem ni_7 : (7 : Int32).toInt = 7 := by decide
theorem ni_24 : (24 : Int32).toInt = 24 := by decide
theorem ni_32 : (32 : Int32).toInt = 32 := by decide
theorem ni_300 : (300 : Int32).toInt = 300 := by decide
theorem ni_512 : (512 : Int32).toInt = 512 := by decide
theorem in_pc {x : Int32} (h1 : ¬ x < 0) (h2 : x < (512 : Int32)) : vp_in x 512 := by
  rw [ni_lt, ni_0] at h1
  rw [ni_lt, ni_512] at h2
  rw [vp_in_iff]
  omega
theorem in_has {x : Int32} (h : ¬ (s_M_has x) = 0) : vp_in x 512 := by
  unfold s_M_has at h
  by_cases h1 : x < 0
  · rw [if_pos h1] at h; exact absurd rfl h
  · rw [if_neg h1] at h
    by_cases h2 : (512 : Int32) ≤ x
    · rw [if_pos h2] at h; exact absurd rfl h
    · refine in_pc h1 ?_
      rw [ni_le] at h2
      rw [ni_lt]
      omega
theorem in_reg {x : Int32} (h1 : ¬ x < 0) (h2 : x ≤ (7 : Int32)) : vp_in x 8 := by
  rw [ni_lt, ni_0] at h1
  rw [ni_le, ni_7] at h2
  rw [vp_in_iff]
  omega
theorem in_fA (x : Int32) : vp_in (s_P_fieldA x) 8 := zz_in7 _
theorem in_fB (x : Int32) : vp_in (s_P_fieldB x) 8 := zz_in7 _
theorem in_fC (x : Int32) : vp_in (s_P_fieldC x) 8 := zz_in7 _
theorem in_set0 {x : Int32} (h : x = 0 ∨ x = 1) : vp_in ((x * (3 : Int32)) + (0 : Int32)) 6 := by rcases h with rfl | rfl <;> exact zz_inc (by decide)
theorem in_set1 {x : Int32} (h : x = 0 ∨ x = 1) : vp_in ((x * (3 : Int32)) + (1 : Int32)) 6 := by rcases h with rfl | rfl <;> exact zz_inc (by decide)
theorem in_set2 {x : Int32} (h : x = 0 ∨ x = 1) : vp_in ((x * (3 : Int32)) + (2 : Int32)) 6 := by rcases h with rfl | rfl <;> exact zz_inc (by decide)
theorem in_xset2 {x : Int32} (h : x = 0 ∨ x = 1) : vp_in (((3 : Int32) * x) + (2 : Int32)) 6 := by rcases h with rfl | rfl <;> exact zz_inc (by decide)
theorem zz_small {x M : Int32} {n : Nat} (hM : M.toInt = n) (h : ¬ x < 0) (h2 : x ≤ M) : ∃ j : Nat, j ≤ n ∧ x = nI j := nI_of2 hM h h2
theorem in_range {x y : Int32} (h1 : ¬ x < 0) (h2 : ¬ (2 : Int32) ≤ x) (h3 : ¬ y < 0) (h4 : y < (3 : Int32)) : vp_in ((x * (3 : Int32)) + y) 6 := by
  obtain ⟨j, hj, rfl⟩ := zz_small (M := (1 : Int32)) (n := 1) (by decide) h1 (by rw [ni_le, ni_1]; rw [ni_le, ni_2] at h2; omega)
  obtain ⟨k, hk, rfl⟩ := zz_small (M := (2 : Int32)) (n := 2) (by decide) h3 (by rw [ni_le, ni_2]; rw [ni_lt, ni_3] at h4; omega)
  rw [show (3 : Int32) = nI 3 from rfl, pk_mul, nI_add]
  exact vp_in_nI (by omega) (by omega)
theorem in_xrange {x y : Int32} (h1 : ¬ x < 0) (h2 : ¬ (1 : Int32) < x) (h3 : ¬ y < 0) (h4 : ¬ (2 : Int32) < y) : vp_in (((3 : Int32) * x) + y) 6 := by
  obtain ⟨j, hj, rfl⟩ := zz_small (M := (1 : Int32)) (n := 1) (by decide) h1 (by rw [ni_le, ni_1]; rw [ni_lt, ni_1] at h2; omega)
  obtain ⟨k, hk, rfl⟩ := zz_small (M := (2 : Int32)) (n := 2) (by decide) h3 (by rw [ni_le, ni_2]; rw [ni_lt, ni_2] at h4; omega)
  rw [show (3 : Int32) = nI 3 from rfl, pk_mul, nI_add]
  exact vp_in_nI (by omega) (by omega)
theorem in_own {x : Int32} (h1 : ¬ x ≤ 0) (h2 : ¬ (5 : Int32) ≤ x) : vp_in (x - (1 : Int32)) 4 := by
  obtain ⟨j, hj, rfl⟩ := zz_small (M := (4 : Int32)) (n := 4) (x := x) (by decide) (by rw [ni_lt, ni_0]; rw [ni_le, ni_0] at h1; omega) (by rw [ni_le, show (4 : Int32).toInt = 4 from by decide]; rw [ni_le, ni_5] at h2; omega)
  have h3 : 0 < j := by
    rcases Nat.eq_zero_or_pos j with rfl | h
    · exact absurd (by decide) h1
    · exact h
  rw [show (1 : Int32) = nI 1 from rfl, pk_sub h3]
  exact vp_in_nI (by omega) (by omega)
theorem zz_in13 {c : Prop} [Decidable c] : vp_in (if c then (1 : Int32) else (3 : Int32)) 4 := by
  by_cases h : c
  · rw [if_pos h]; exact zz_inc (by decide)
  · rw [if_neg h]; exact zz_inc (by decide)
theorem zz_area {k : Int32} (h : ¬ (s_X_isArea k) = 0) : ∃ j : Nat, 1 ≤ j ∧ j ≤ 24 ∧ k = nI j := by
  unfold s_X_isArea at h
  by_cases h1 : k < (1 : Int32)
  · rw [if_pos h1] at h; exact absurd rfl h
  · rw [if_neg h1] at h
    by_cases h2 : (24 : Int32) < k
    · rw [if_pos h2] at h; exact absurd rfl h
    · rw [ni_lt, ni_1] at h1
      rw [ni_lt, ni_24] at h2
      obtain ⟨j, hj, rfl⟩ := zz_small (x := k) (M := (24 : Int32)) (n := 24) (by decide) (by rw [ni_lt, ni_0]; omega) (by rw [ni_le, ni_24]; omega)
      rw [nI_toInt (by omega)] at h1
      exact ⟨j, by omega, hj, rfl⟩
theorem zz_words {j : Nat} : s_X_wordsOf (nI j) = nI (248 + 8 * j) := by
  unfold s_X_wordsOf
  rw [show (8 : Int32) = nI 8 from rfl, show (248 : Int32) = nI 248 from rfl, pk_mul, nI_add]
theorem in_w0 {k : Int32} (h : ¬ (s_X_isArea k) = 0) : vp_in (s_X_wordsOf k) 512 := by
  obtain ⟨j, h1, h2, rfl⟩ := zz_area h
  rw [zz_words]
  exact vp_in_nI (by omega) (by omega)
theorem in_w1 {k c : Int32} (h : ¬ (s_X_isArea k) = 0) (hc : (decide (c < 0) || decide (8 ≤ c.toNatClampNeg)) = false) : vp_in ((s_X_wordsOf k) + c) 512 := by
  obtain ⟨j, h1, h2, rfl⟩ := zz_area h
  obtain ⟨i, h3, rfl⟩ := vp_in_of (zz_inc hc) (by omega)
  rw [zz_words, nI_add]
  exact vp_in_nI (by omega) (by omega)
theorem in_w2 {k c : Int32} (h : ¬ (s_X_isArea k) = 0) (hc : (decide (c < 0) || decide (4 ≤ c.toNatClampNeg)) = false) : vp_in (((s_X_wordsOf k) + (4 : Int32)) + c) 512 := by
  obtain ⟨j, h1, h2, rfl⟩ := zz_area h
  obtain ⟨i, h3, rfl⟩ := vp_in_of (zz_inc hc) (by omega)
  rw [zz_words, show (4 : Int32) = nI 4 from rfl, nI_add, nI_add]
  exact vp_in_nI (by omega) (by omega)
theorem zz_ge {x y : Int32} (h : ¬ x < y) : y ≤ x := by
  rw [ni_lt] at h
  rw [ni_le]
  omega
theorem zz_chain {j : Nat} {x : Int32} (hj : j ≤ 25) (hn : ¬ (24 : Int32) < x) (h : ¬ x < (nI j)) : j + 1 ≤ 25 := by
  rw [ni_lt, nI_toInt (by omega)] at h
  rw [ni_lt, ni_24] at hn
  omega
theorem in_chain {j : Nat} {x : Int32} (hj : j ≤ 25) (h1 : 1 ≤ j) (hn : ¬ (24 : Int32) < x) (h : ¬ x < (nI j)) : vp_in (s_X_wordsOf (nI j)) 512 := by
  have := zz_chain hj hn h
  rw [zz_words]
  exact vp_in_nI (by omega) (by omega)
theorem zz_count {j : Nat} (hj : j ≤ 32) (h : ¬ (32 : Int32) ≤ (nI j)) : j + 1 ≤ 32 := by
  rw [ni_le, nI_toInt (by omega), ni_32] at h
  omega
theorem zz_xrun {j : Nat} {x : Int32} (hj : j ≤ 300) (hn : ¬ (300 : Int32) < x) (h : ¬ x ≤ (nI j)) : j + 1 ≤ 300 := by
  rw [ni_le, nI_toInt (by omega)] at h
  rw [ni_lt, ni_300] at hn
  omega
theorem zz_posj {j : Nat} (h : ¬ (nI j) ≤ 0) : 0 < j := by
  rcases Nat.eq_zero_or_pos j with rfl | h2
  · exact absurd (by decide) h
  · exact h2
theorem zz_dec {j : Nat} (h : ¬ (nI j) ≤ 0) : nI j + Int32.ofInt (-1) = nI (j - 1) := by
  have := zz_posj h
  obtain ⟨i, rfl⟩ : ∃ i, j = i + 1 := ⟨j - 1, by omega⟩
  exact pk_m1 i
theorem zz_le0 {x : Int32} (h : ¬ x ≤ 0) : ¬ x = 0 := fun e => h (by rw [e]; decide)
theorem zz_ne01 {x : Int32} : ¬ (if x = 0 then (1 : Int32) else x) = 0 := by
  by_cases h : x = 0
  · rw [if_pos h]; decide
  · rw [if_neg h]; exact h
theorem zz_thr {x : Int32} : (if x < 0 then (1 : Int32) else (if x ≤ (300 : Int32) then (0 : Int32) else (1 : Int32))) = 0 → ¬ (300 : Int32) < x := by
  intro h h2
  by_cases h1 : x < 0
  · rw [if_pos h1] at h; exact absurd h (by decide)
  · rw [if_neg h1] at h
    by_cases h3 : x ≤ (300 : Int32)
    · rw [ni_le] at h3; rw [ni_lt] at h2; omega
    · rw [if_neg h3] at h; exact absurd h (by decide)
section LM
variable {v_x v_M v_d v_a v_o v_lo v_hi v_ri : Nat → Int32} {a1 : Int32}
theorem in_mayR (h : ¬ (s_X_mayR v_x v_M v_d v_a v_o v_lo v_hi v_ri a1).1 = 0) : vp_in a1 512 := by
  by_cases hc : (if a1 < 0 then (0 : Int32) else (if (512 : Int32) ≤ a1 then (0 : Int32) else (1 : Int32))) = 0
  · exfalso
    apply h
    unfold s_X_mayR
    split
    · unfold s_X_mayR0; rw [if_pos hc]
    · unfold s_X_mayR1; rw [if_pos hc]
  · exact in_has hc
theorem in_mayW (h : ¬ (s_X_mayW v_x v_M v_d v_a v_o v_lo v_hi v_ri a1).1 = 0) : vp_in a1 512 := by
  by_cases hc : (if a1 < 0 then (0 : Int32) else (if (512 : Int32) ≤ a1 then (0 : Int32) else (1 : Int32))) = 0
  · exfalso
    apply h
    unfold s_X_mayW
    split
    · unfold s_X_mayW0; rw [if_pos hc]
    · unfold s_X_mayW1; rw [if_pos hc]
  · exact in_has hc
theorem can_areaU (h : ¬ (s_X_canBringU v_x v_M v_d v_a v_o v_lo v_hi v_ri).1 = 0) : ¬ (s_X_isArea (v_o (ix (3 : Int32)) &&& (31 : Int32))) = 0 := by
  intro hc
  apply h
  unfold s_X_canBringU
  rw [if_pos hc]
theorem can_areaL (h : ¬ (s_X_canBringL v_x v_M v_d v_a v_o v_lo v_hi v_ri).1 = 0) : ¬ (s_X_isArea (v_o (ix (3 : Int32)) &&& (31 : Int32))) = 0 := by
  intro hc
  apply h
  unfold s_X_canBringL
  rw [if_pos hc]
theorem can_enU (h : v_x 5 = 0 ∨ v_x 5 = 1) : ((s_X_canBringU v_x v_M v_d v_a v_o v_lo v_hi v_ri).2 5) = 0 ∨ ((s_X_canBringU v_x v_M v_d v_a v_o v_lo v_hi v_ri).2 5) = 1 := by
  have e : (s_X_canBringU v_x v_M v_d v_a v_o v_lo v_hi v_ri).2 5 = v_x 5 := by
    unfold s_X_canBringU
    split
    · rfl
    · split <;> rfl
  rw [e]
  exact h
end LM
