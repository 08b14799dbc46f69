/-! words of memory: reading, writing, rings -/
theorem zx_bnd (x : Int32) : -2147483648 ≤ x.toInt ∧ x.toInt < 2147483648 := ⟨Int32.le_toInt x, Int32.toInt_lt x⟩
theorem zx_tdiv {a b : Int} (hb : 0 < b) : (0 ≤ a → 0 ≤ a.tdiv b ∧ a.tdiv b ≤ a ∧ 0 ≤ a.tmod b ∧ a.tmod b < b) ∧ (a < 0 → a ≤ a.tdiv b ∧ a.tdiv b ≤ 0 ∧ a.tmod b ≤ 0 ∧ -b < a.tmod b) := by
  have key : ∀ c : Int, 0 ≤ c → 0 ≤ c.tdiv b ∧ c.tdiv b ≤ c ∧ 0 ≤ c.tmod b ∧ c.tmod b < b := fun c hc => ⟨Int.tdiv_nonneg hc (by omega), Int.tdiv_le_self _ hc, Int.tmod_nonneg _ hc, Int.tmod_lt_of_pos _ hb⟩
  refine ⟨key a, fun ha => ?_⟩
  obtain ⟨h1, h2, h3, h4⟩ := key (-a) (by omega)
  rw [Int.neg_tdiv] at h1 h2
  rw [Int.neg_tmod] at h3 h4
  omega
theorem zx_rem {x n : Int32} (hn : 0 < n.toInt) : (x - x / n * n).toInt = x.toInt.tmod n.toInt := by
  have hx := zx_bnd x
  have hb := zx_bnd n
  obtain ⟨k1, k2⟩ := zx_tdiv (a := x.toInt) hn
  have hm := Int.tmod_add_mul_tdiv x.toInt n.toInt
  have e1 : (x / n).toInt = x.toInt.tdiv n.toInt := by
    rw [Int32.toInt_div]
    exact Int.bmod_eq_of_le (by omega) (by omega)
  have hc : n.toInt * x.toInt.tdiv n.toInt = x.toInt - x.toInt.tmod n.toInt := by omega
  have e2 : (x / n * n).toInt = x.toInt - x.toInt.tmod n.toInt := by
    rw [Int32.toInt_mul, e1, Int.mul_comm, hc]
    exact Int.bmod_eq_of_le (by omega) (by omega)
  rw [Int32.toInt_sub, e2]
  have : x.toInt - (x.toInt - x.toInt.tmod n.toInt) = x.toInt.tmod n.toInt := by omega
  rw [this]
  exact Int.bmod_eq_of_le (by omega) (by omega)
theorem zx_sign {x n : Int32} (hn : 0 < n.toInt) : 0 ≤ (x ^^^ n) ↔ 0 ≤ x := by
  have h1 : ∀ y : Int32, 0 ≤ y ↔ y.toBitVec.msb = false := by
    intro y
    rw [ni_le, ni_0, BitVec.msb_eq_toInt, show y.toBitVec.toInt = y.toInt from rfl]
    simp
  rw [h1, h1, Int32.toBitVec_xor, BitVec.msb_xor]
  have h2 : n.toBitVec.msb = false := (h1 n).mp (by rw [ni_le, ni_0]; omega)
  rw [h2]
  simp
theorem floor_same {x n : Int32} (hn : 0 < n.toInt) : s_Z_floorMod x n = (if 0 ≤ (x - x / n * n) then (x - x / n * n) else ((x - x / n * n) + n)) := by
  unfold s_Z_floorMod
  have hr := zx_rem (x := x) hn
  obtain ⟨k1, k2⟩ := zx_tdiv (a := x.toInt) hn
  by_cases hx : 0 ≤ x
  · rw [if_pos ((zx_sign hn).mpr hx)]
    rw [ni_le, ni_0] at hx
    rw [if_pos (by rw [ni_le, ni_0, hr]; omega)]
  · rw [if_neg (fun h => hx ((zx_sign hn).mp h))]
    rw [ni_le, ni_0] at hx
    by_cases h0 : (x - x / n * n) = 0
    · rw [if_pos h0, if_pos (by rw [h0]; decide)]
    · rw [if_neg h0]
      have : ¬ (x - x / n * n).toInt = 0 := fun h => h0 (Int32.toInt_inj.mp (h.trans ni_0.symm))
      rw [if_neg (by rw [ni_le, ni_0, hr]; rw [hr] at this; omega)]
def Lf (lo hi ri : Nat → Int32) (i A R : Int32) : Int32 := if A < (lo (ix i)) then (0 : Int32) else (if (hi (ix i)) ≤ A then (0 : Int32) else (if ((ri (ix i)) &&& R) = 0 then (0 : Int32) else (1 : Int32)))
def LL (G L0 L1 : Int32) : Int32 := if (if (if G = 0 then (1 : Int32) else (0 : Int32)) = 0 then L0 else (1 : Int32)) = 0 then L1 else (1 : Int32)
theorem LL_g {G L0 L1 : Int32} (h : G = 0) : LL G L0 L1 = 1 := by
  unfold LL
  rw [if_pos h]
  rfl
theorem LL_n {G L0 L1 : Int32} (h : ¬ G = 0) : LL G L0 L1 = if L0 = 0 then L1 else 1 := by
  unfold LL
  rw [if_neg h]
  rfl
section SM
variable {z r t x o M d a lo hi ri : Nat → Int32} {A : Int32}
theorem lets_c {s R : Int32} : s_G_letsUse lo hi ri s A R = if Lf lo hi ri ((s * (3 : Int32)) + (0 : Int32)) A R = 0 then (if Lf lo hi ri ((s * (3 : Int32)) + (1 : Int32)) A R = 0 then 0 else 1) else 1 := by
  unfold s_G_letsUse s_G_covers Lf
  generalize ((s * (3 : Int32)) + (0 : Int32)) = i
  generalize ((s * (3 : Int32)) + (1 : Int32)) = j
  by_cases c1 : A < lo (ix i) <;> by_cases c2 : hi (ix i) ≤ A <;> by_cases c3 : (ri (ix i) &&& R) = 0 <;> by_cases c4 : A < lo (ix j) <;> by_cases c5 : hi (ix j) ≤ A <;> by_cases c6 : (ri (ix j) &&& R) = 0 <;> simp [c1, c2, c3, c4, c5, c6]
theorem Lf_01 {i R : Int32} : Lf lo hi ri i A R = 0 ∨ Lf lo hi ri i A R = 1 := by
  unfold Lf
  by_cases c1 : A < lo (ix i) <;> by_cases c2 : hi (ix i) ≤ A <;> by_cases c3 : (ri (ix i) &&& R) = 0 <;> simp [c1, c2, c3]
theorem mayR0_eq : s_X_mayR0 x M d a o lo hi ri A = (if s_M_has A = 0 then ((0 : Int32), upd x 19 (if s_M_has A = 0 then (1025 : Int32) else (if LL (s_X_guarded x M d a o lo hi ri) (Lf lo hi ri 0 A 1) (Lf lo hi ri 1 A 1) = 0 then (258 : Int32) else (x 19)))) else (if LL (s_X_guarded x M d a o lo hi ri) (Lf lo hi ri 0 A 1) (Lf lo hi ri 1 A 1) = 0 then ((0 : Int32), upd x 19 (if s_M_has A = 0 then (1025 : Int32) else (if LL (s_X_guarded x M d a o lo hi ri) (Lf lo hi ri 0 A 1) (Lf lo hi ri 1 A 1) = 0 then (258 : Int32) else (x 19)))) else ((1 : Int32), upd x 19 (if s_M_has A = 0 then (1025 : Int32) else (if LL (s_X_guarded x M d a o lo hi ri) (Lf lo hi ri 0 A 1) (Lf lo hi ri 1 A 1) = 0 then (258 : Int32) else (x 19)))))) := rfl
theorem mayR1_eq : s_X_mayR1 x M d a o lo hi ri A = (if s_M_has A = 0 then ((0 : Int32), upd x 19 (if s_M_has A = 0 then (1025 : Int32) else (if LL (s_X_guarded x M d a o lo hi ri) (Lf lo hi ri 3 A 1) (Lf lo hi ri 4 A 1) = 0 then (258 : Int32) else (x 19)))) else (if LL (s_X_guarded x M d a o lo hi ri) (Lf lo hi ri 3 A 1) (Lf lo hi ri 4 A 1) = 0 then ((0 : Int32), upd x 19 (if s_M_has A = 0 then (1025 : Int32) else (if LL (s_X_guarded x M d a o lo hi ri) (Lf lo hi ri 3 A 1) (Lf lo hi ri 4 A 1) = 0 then (258 : Int32) else (x 19)))) else ((1 : Int32), upd x 19 (if s_M_has A = 0 then (1025 : Int32) else (if LL (s_X_guarded x M d a o lo hi ri) (Lf lo hi ri 3 A 1) (Lf lo hi ri 4 A 1) = 0 then (258 : Int32) else (x 19)))))) := rfl
theorem mayW0_eq : s_X_mayW0 x M d a o lo hi ri A = (if s_M_has A = 0 then ((0 : Int32), upd x 19 (if s_M_has A = 0 then (1025 : Int32) else (if LL (s_X_guarded x M d a o lo hi ri) (Lf lo hi ri 0 A 2) (Lf lo hi ri 1 A 2) = 0 then (259 : Int32) else (x 19)))) else (if LL (s_X_guarded x M d a o lo hi ri) (Lf lo hi ri 0 A 2) (Lf lo hi ri 1 A 2) = 0 then ((0 : Int32), upd x 19 (if s_M_has A = 0 then (1025 : Int32) else (if LL (s_X_guarded x M d a o lo hi ri) (Lf lo hi ri 0 A 2) (Lf lo hi ri 1 A 2) = 0 then (259 : Int32) else (x 19)))) else ((1 : Int32), upd x 19 (if s_M_has A = 0 then (1025 : Int32) else (if LL (s_X_guarded x M d a o lo hi ri) (Lf lo hi ri 0 A 2) (Lf lo hi ri 1 A 2) = 0 then (259 : Int32) else (x 19)))))) := rfl
theorem mayW1_eq : s_X_mayW1 x M d a o lo hi ri A = (if s_M_has A = 0 then ((0 : Int32), upd x 19 (if s_M_has A = 0 then (1025 : Int32) else (if LL (s_X_guarded x M d a o lo hi ri) (Lf lo hi ri 3 A 2) (Lf lo hi ri 4 A 2) = 0 then (259 : Int32) else (x 19)))) else (if LL (s_X_guarded x M d a o lo hi ri) (Lf lo hi ri 3 A 2) (Lf lo hi ri 4 A 2) = 0 then ((0 : Int32), upd x 19 (if s_M_has A = 0 then (1025 : Int32) else (if LL (s_X_guarded x M d a o lo hi ri) (Lf lo hi ri 3 A 2) (Lf lo hi ri 4 A 2) = 0 then (259 : Int32) else (x 19)))) else ((1 : Int32), upd x 19 (if s_M_has A = 0 then (1025 : Int32) else (if LL (s_X_guarded x M d a o lo hi ri) (Lf lo hi ri 3 A 2) (Lf lo hi ri 4 A 2) = 0 then (259 : Int32) else (x 19)))))) := rfl
/-- one form of the four -/
theorem may_core {G L0 L1 q c : Int32} {y : Int32 × (Nat → Int32)} (hq : 0 < q ∧ ¬ q = 1 ∧ ¬ q = 2) (h0 : L0 = 0 ∨ L0 = 1) (h1 : L1 = 0 ∨ L1 = 1)
    (hy : y = (if s_M_has A = 0 then ((0 : Int32), upd x 19 (if s_M_has A = 0 then (1025 : Int32) else (if LL G L0 L1 = 0 then q else (x 19)))) else (if LL G L0 L1 = 0 then ((0 : Int32), upd x 19 (if s_M_has A = 0 then (1025 : Int32) else (if LL G L0 L1 = 0 then q else (x 19)))) else ((1 : Int32), upd x 19 (if s_M_has A = 0 then (1025 : Int32) else (if LL G L0 L1 = 0 then q else (x 19)))))))
    (hc : c = (if s_M_has A = 0 then (1025 : Int32) else (if G = 0 then (0 : Int32) else (if (if L0 = 0 then (if L1 = 0 then (0 : Int32) else 1) else 1) = 0 then q else (0 : Int32))))) :
    (c = 0 ∧ y = (1, upd x 19 (x 19)) ∧ vp_in A 512) ∨ ((0 < c ∧ ¬ c = 1 ∧ ¬ c = 2) ∧ y = (0, upd x 19 c)) := by
  subst hy
  subst hc
  by_cases hh : s_M_has A = 0
  · refine Or.inr ⟨?_, ?_⟩
    · rw [if_pos hh]; decide
    · rw [if_pos hh, if_pos hh, if_pos hh]
  · have hin := in_has hh
    rw [if_neg hh, if_neg hh, if_neg hh]
    by_cases hg : G = 0
    · rw [if_pos hg, LL_g hg]
      exact Or.inl ⟨rfl, rfl, hin⟩
    · rw [if_neg hg, LL_n hg]
      rcases h0 with rfl | rfl <;> rcases h1 with rfl | rfl
      · exact Or.inr ⟨hq, rfl⟩
      · exact Or.inl ⟨rfl, rfl, hin⟩
      · exact Or.inl ⟨rfl, rfl, hin⟩
      · exact Or.inl ⟨rfl, rfl, hin⟩
theorem guard_same (hz : x 13 = z 1) (h1 : x 1 = r 4) : s_P_isGuarded z M r d a lo hi ri t = s_X_guarded x M d a o lo hi ri := by
  unfold s_P_isGuarded s_X_guarded
  rw [hz, h1]
theorem may_R (hz : x 13 = z 1) (h1 : x 1 = r 4) (h2 : x 2 = r 5) (hs : r 5 = 0 ∨ r 5 = 1) : (s_P_refuseWord z M r d a lo hi ri t A 1 = 0 ∧ s_X_mayR x M d a o lo hi ri A = (1, upd x 19 (x 19)) ∧ vp_in A 512) ∨ ((0 < s_P_refuseWord z M r d a lo hi ri t A 1 ∧ ¬ s_P_refuseWord z M r d a lo hi ri t A 1 = 1 ∧ ¬ s_P_refuseWord z M r d a lo hi ri t A 1 = 2) ∧ s_X_mayR x M d a o lo hi ri A = (0, upd x 19 (s_P_refuseWord z M r d a lo hi ri t A 1))) := by
  unfold s_X_mayR
  rcases hs with h5 | h5
  · rw [if_pos (h2.trans h5)]
    refine may_core (by decide) Lf_01 Lf_01 mayR0_eq ?_
    unfold s_P_refuseWord
    rw [guard_same (o := o) hz h1, lets_c, h5]
    rfl
  · rw [if_neg (by rw [h2, h5]; decide)]
    refine may_core (by decide) Lf_01 Lf_01 mayR1_eq ?_
    unfold s_P_refuseWord
    rw [guard_same (o := o) hz h1, lets_c, h5]
    rfl
theorem may_W (hz : x 13 = z 1) (h1 : x 1 = r 4) (h2 : x 2 = r 5) (hs : r 5 = 0 ∨ r 5 = 1) : (s_P_refuseWord z M r d a lo hi ri t A 2 = 0 ∧ s_X_mayW x M d a o lo hi ri A = (1, upd x 19 (x 19)) ∧ vp_in A 512) ∨ ((0 < s_P_refuseWord z M r d a lo hi ri t A 2 ∧ ¬ s_P_refuseWord z M r d a lo hi ri t A 2 = 1 ∧ ¬ s_P_refuseWord z M r d a lo hi ri t A 2 = 2) ∧ s_X_mayW x M d a o lo hi ri A = (0, upd x 19 (s_P_refuseWord z M r d a lo hi ri t A 2))) := by
  unfold s_X_mayW
  rcases hs with h5 | h5
  · rw [if_pos (h2.trans h5)]
    refine may_core (by decide) Lf_01 Lf_01 mayW0_eq ?_
    unfold s_P_refuseWord
    rw [guard_same (o := o) hz h1, lets_c, h5]
    rfl
  · rw [if_neg (by rw [h2, h5]; decide)]
    refine may_core (by decide) Lf_01 Lf_01 mayW1_eq ?_
    unfold s_P_refuseWord
    rw [guard_same (o := o) hz h1, lets_c, h5]
    rfl
end SM
