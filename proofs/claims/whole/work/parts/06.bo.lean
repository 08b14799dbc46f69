theorem bo_M_has (a1 : Int32) : (s_M_has a1) = 0 ∨ (s_M_has a1) = 1 := by
  unfold s_M_has
  (repeat' split) <;> first | exact Or.inl rfl | exact Or.inr rfl | assumption
theorem bo_M_isArea (a1 : Int32) : (s_M_isArea a1) = 0 ∨ (s_M_isArea a1) = 1 := by
  unfold s_M_isArea
  (repeat' split) <;> first | exact Or.inl rfl | exact Or.inr rfl | assumption
theorem bo_R_keepU (u_r : Nat → Int32) (u_d : Nat → Int32) (u_a : Nat → Int32) (u_M : Nat → Int32) : (s_R_keepU u_r u_d u_a u_M).1 = 0 ∨ (s_R_keepU u_r u_d u_a u_M).1 = 1 := by
  unfold s_R_keepU
  (repeat' split) <;> first | exact Or.inl rfl | exact Or.inr rfl | assumption
theorem bo_R_keepL (u_r : Nat → Int32) (u_d : Nat → Int32) (u_a : Nat → Int32) (u_M : Nat → Int32) : (s_R_keepL u_r u_d u_a u_M).1 = 0 ∨ (s_R_keepL u_r u_d u_a u_M).1 = 1 := by
  unfold s_R_keepL
  (repeat' split) <;> first | exact Or.inl rfl | exact Or.inr rfl | assumption
theorem bo_G_covers (u_lo : Nat → Int32) (u_hi : Nat → Int32) (u_ri : Nat → Int32) (a1 : Int32) (a2 : Int32) : (s_G_covers u_lo u_hi u_ri a1 a2) = 0 ∨ (s_G_covers u_lo u_hi u_ri a1 a2) = 1 := by
  unfold s_G_covers
  (repeat' split) <;> first | exact Or.inl rfl | exact Or.inr rfl | assumption
theorem bo_G_letsRun (u_lo : Nat → Int32) (u_hi : Nat → Int32) (u_ri : Nat → Int32) (a1 : Int32) (a2 : Int32) : (s_G_letsRun u_lo u_hi u_ri a1 a2) = 0 ∨ (s_G_letsRun u_lo u_hi u_ri a1 a2) = 1 := by
  unfold s_G_letsRun
  (repeat' split) <;> first | exact Or.inl rfl | exact Or.inr rfl | assumption | exact bo_G_covers ..
theorem bo_G_letsUse (u_lo : Nat → Int32) (u_hi : Nat → Int32) (u_ri : Nat → Int32) (a1 : Int32) (a2 : Int32) (a3 : Int32) : (s_G_letsUse u_lo u_hi u_ri a1 a2 a3) = 0 ∨ (s_G_letsUse u_lo u_hi u_ri a1 a2 a3) = 1 := by
  unfold s_G_letsUse
  (repeat' split) <;> first | exact Or.inl rfl | exact Or.inr rfl | assumption
theorem bo_T_has (a1 : Int32) : (s_T_has a1) = 0 ∨ (s_T_has a1) = 1 := by
  unfold s_T_has
  (repeat' split) <;> first | exact Or.inl rfl | exact Or.inr rfl | assumption
theorem bo_T_isPending (u_t : Nat → Int32) (a1 : Int32) : (s_T_isPending u_t a1) = 0 ∨ (s_T_isPending u_t a1) = 1 := by
  unfold s_T_isPending
  (repeat' split) <;> first | exact Or.inl rfl | exact Or.inr rfl | assumption
theorem bo_P_needsTopLevel (a1 : Int32) : (s_P_needsTopLevel a1) = 0 ∨ (s_P_needsTopLevel a1) = 1 := by
  unfold s_P_needsTopLevel
  (repeat' split) <;> first | exact Or.inl rfl | exact Or.inr rfl | assumption
theorem bo_P_isGuarded (u_z : Nat → Int32) (u_M : Nat → Int32) (u_r : Nat → Int32) (u_d : Nat → Int32) (u_a : Nat → Int32) (u_lo : Nat → Int32) (u_hi : Nat → Int32) (u_ri : Nat → Int32) (u_t : Nat → Int32) : (s_P_isGuarded u_z u_M u_r u_d u_a u_lo u_hi u_ri u_t) = 0 ∨ (s_P_isGuarded u_z u_M u_r u_d u_a u_lo u_hi u_ri u_t) = 1 := by
  unfold s_P_isGuarded
  (repeat' split) <;> first | exact Or.inl rfl | exact Or.inr rfl | assumption
theorem e_P_perform0 (u_z : Nat → Int32) (u_M : Nat → Int32) (u_r : Nat → Int32) (u_d : Nat → Int32) (u_a : Nat → Int32) (u_lo : Nat → Int32) (u_hi : Nat → Int32) (u_ri : Nat → Int32) (u_t : Nat → Int32) (a1 : Int32) (hop : (a1 &&& (31 : Int32)) = (0 : Int32)) : s_P_perform u_z u_M u_r u_d u_a u_lo u_hi u_ri u_t a1 = ((s_P_perform0 u_z u_M u_r u_d u_a u_lo u_hi u_ri u_t a1), u_M, u_r, u_d, u_a) := by
  unfold s_P_perform
  simp only [hop]
  rfl
theorem e_P_perform1 (u_z : Nat → Int32) (u_M : Nat → Int32) (u_r : Nat → Int32) (u_d : Nat → Int32) (u_a : Nat → Int32) (u_lo : Nat → Int32) (u_hi : Nat → Int32) (u_ri : Nat → Int32) (u_t : Nat → Int32) (a1 : Int32) (hop : (a1 &&& (31 : Int32)) = (1 : Int32)) : s_P_perform u_z u_M u_r u_d u_a u_lo u_hi u_ri u_t a1 = ((s_P_perform1 u_z u_M u_r u_d u_a u_lo u_hi u_ri u_t a1).1, u_M, u_r, (s_P_perform1 u_z u_M u_r u_d u_a u_lo u_hi u_ri u_t a1).2, u_a) := by
  unfold s_P_perform
  simp only [hop]
  rfl
theorem e_P_perform2 (u_z : Nat → Int32) (u_M : Nat → Int32) (u_r : Nat → Int32) (u_d : Nat → Int32) (u_a : Nat → Int32) (u_lo : Nat → Int32) (u_hi : Nat → Int32) (u_ri : Nat → Int32) (u_t : Nat → Int32) (a1 : Int32) (hop : (a1 &&& (31 : Int32)) = (2 : Int32)) : s_P_perform u_z u_M u_r u_d u_a u_lo u_hi u_ri u_t a1 = ((s_P_perform2 u_z u_M u_r u_d u_a u_lo u_hi u_ri u_t a1).1, u_M, u_r, (s_P_perform2 u_z u_M u_r u_d u_a u_lo u_hi u_ri u_t a1).2, u_a) := by
  unfold s_P_perform
  simp only [hop]
  rfl
theorem e_P_perform3 (u_z : Nat → Int32) (u_M : Nat → Int32) (u_r : Nat → Int32) (u_d : Nat → Int32) (u_a : Nat → Int32) (u_lo : Nat → Int32) (u_hi : Nat → Int32) (u_ri : Nat → Int32) (u_t : Nat → Int32) (a1 : Int32) (hop : (a1 &&& (31 : Int32)) = (3 : Int32)) : s_P_perform u_z u_M u_r u_d u_a u_lo u_hi u_ri u_t a1 = ((s_P_perform3 u_z u_M u_r u_d u_a u_lo u_hi u_ri u_t a1).1, u_M, u_r, (s_P_perform3 u_z u_M u_r u_d u_a u_lo u_hi u_ri u_t a1).2, u_a) := by
  unfold s_P_perform
  simp only [hop]
  rfl
theorem e_P_perform4 (u_z : Nat → Int32) (u_M : Nat → Int32) (u_r : Nat → Int32) (u_d : Nat → Int32) (u_a : Nat → Int32) (u_lo : Nat → Int32) (u_hi : Nat → Int32) (u_ri : Nat → Int32) (u_t : Nat → Int32) (a1 : Int32) (hop : (a1 &&& (31 : Int32)) = (4 : Int32)) : s_P_perform u_z u_M u_r u_d u_a u_lo u_hi u_ri u_t a1 = ((s_P_perform4 u_z u_M u_r u_d u_a u_lo u_hi u_ri u_t a1).1, u_M, u_r, (s_P_perform4 u_z u_M u_r u_d u_a u_lo u_hi u_ri u_t a1).2, u_a) := by
  unfold s_P_perform
  simp only [hop]
  rfl
theorem e_P_perform5 (u_z : Nat → Int32) (u_M : Nat → Int32) (u_r : Nat → Int32) (u_d : Nat → Int32) (u_a : Nat → Int32) (u_lo : Nat → Int32) (u_hi : Nat → Int32) (u_ri : Nat → Int32) (u_t : Nat → Int32) (a1 : Int32) (hop : (a1 &&& (31 : Int32)) = (5 : Int32)) : s_P_perform u_z u_M u_r u_d u_a u_lo u_hi u_ri u_t a1 = ((s_P_perform5 u_z u_M u_r u_d u_a u_lo u_hi u_ri u_t a1).1, u_M, u_r, (s_P_perform5 u_z u_M u_r u_d u_a u_lo u_hi u_ri u_t a1).2, u_a) := by
  unfold s_P_perform
  simp only [hop]
  rfl
theorem e_P_perform6 (u_z : Nat → Int32) (u_M : Nat → Int32) (u_r : Nat → Int32) (u_d : Nat → Int32) (u_a : Nat → Int32) (u_lo : Nat → Int32) (u_hi : Nat → Int32) (u_ri : Nat → Int32) (u_t : Nat → Int32) (a1 : Int32) (hop : (a1 &&& (31 : Int32)) = (6 : Int32)) : s_P_perform u_z u_M u_r u_d u_a u_lo u_hi u_ri u_t a1 = ((s_P_perform6 u_z u_M u_r u_d u_a u_lo u_hi u_ri u_t a1).1, u_M, u_r, (s_P_perform6 u_z u_M u_r u_d u_a u_lo u_hi u_ri u_t a1).2, u_a) := by
  unfold s_P_perform
  simp only [hop]
  rfl
theorem e_P_perform7 (u_z : Nat → Int32) (u_M : Nat → Int32) (u_r : Nat → Int32) (u_d : Nat → Int32) (u_a : Nat → Int32) (u_lo : Nat → Int32) (u_hi : Nat → Int32) (u_ri : Nat → Int32) (u_t : Nat → Int32) (a1 : Int32) (hop : (a1 &&& (31 : Int32)) = (7 : Int32)) : s_P_perform u_z u_M u_r u_d u_a u_lo u_hi u_ri u_t a1 = ((s_P_perform7 u_z u_M u_r u_d u_a u_lo u_hi u_ri u_t a1).1, u_M, u_r, (s_P_perform7 u_z u_M u_r u_d u_a u_lo u_hi u_ri u_t a1).2, u_a) := by
  unfold s_P_perform
  simp only [hop]
  rfl
theorem e_P_perform8 (u_z : Nat → Int32) (u_M : Nat → Int32) (u_r : Nat → Int32) (u_d : Nat → Int32) (u_a : Nat → Int32) (u_lo : Nat → Int32) (u_hi : Nat → Int32) (u_ri : Nat → Int32) (u_t : Nat → Int32) (a1 : Int32) (hop : (a1 &&& (31 : Int32)) = (8 : Int32)) : s_P_perform u_z u_M u_r u_d u_a u_lo u_hi u_ri u_t a1 = ((s_P_perform8 u_z u_M u_r u_d u_a u_lo u_hi u_ri u_t a1).1, u_M, u_r, (s_P_perform8 u_z u_M u_r u_d u_a u_lo u_hi u_ri u_t a1).2, u_a) := by
  unfold s_P_perform
  simp only [hop]
  rfl
theorem e_P_perform9 (u_z : Nat → Int32) (u_M : Nat → Int32) (u_r : Nat → Int32) (u_d : Nat → Int32) (u_a : Nat → Int32) (u_lo : Nat → Int32) (u_hi : Nat → Int32) (u_ri : Nat → Int32) (u_t : Nat → Int32) (a1 : Int32) (hop : (a1 &&& (31 : Int32)) = (9 : Int32)) : s_P_perform u_z u_M u_r u_d u_a u_lo u_hi u_ri u_t a1 = ((s_P_perform9 u_z u_M u_r u_d u_a u_lo u_hi u_ri u_t a1).1, u_M, u_r, u_d, (s_P_perform9 u_z u_M u_r u_d u_a u_lo u_hi u_ri u_t a1).2) := by
  unfold s_P_perform
  simp only [hop]
  rfl
theorem e_P_perform10 (u_z : Nat → Int32) (u_M : Nat → Int32) (u_r : Nat → Int32) (u_d : Nat → Int32) (u_a : Nat → Int32) (u_lo : Nat → Int32) (u_hi : Nat → Int32) (u_ri : Nat → Int32) (u_t : Nat → Int32) (a1 : Int32) (hop : (a1 &&& (31 : Int32)) = (10 : Int32)) : s_P_perform u_z u_M u_r u_d u_a u_lo u_hi u_ri u_t a1 = ((s_P_perform10 u_z u_M u_r u_d u_a u_lo u_hi u_ri u_t a1).1, u_M, u_r, u_d, (s_P_perform10 u_z u_M u_r u_d u_a u_lo u_hi u_ri u_t a1).2) := by
  unfold s_P_perform
  simp only [hop]
  rfl
theorem e_P_perform11 (u_z : Nat → Int32) (u_M : Nat → Int32) (u_r : Nat → Int32) (u_d : Nat → Int32) (u_a : Nat → Int32) (u_lo : Nat → Int32) (u_hi : Nat → Int32) (u_ri : Nat → Int32) (u_t : Nat → Int32) (a1 : Int32) (hop : (a1 &&& (31 : Int32)) = (11 : Int32)) : s_P_perform u_z u_M u_r u_d u_a u_lo u_hi u_ri u_t a1 = ((s_P_perform11 u_z u_M u_r u_d u_a u_lo u_hi u_ri u_t a1).1, u_M, u_r, u_d, (s_P_perform11 u_z u_M u_r u_d u_a u_lo u_hi u_ri u_t a1).2) := by
  unfold s_P_perform
  simp only [hop]
  rfl
theorem e_P_perform12 (u_z : Nat → Int32) (u_M : Nat → Int32) (u_r : Nat → Int32) (u_d : Nat → Int32) (u_a : Nat → Int32) (u_lo : Nat → Int32) (u_hi : Nat → Int32) (u_ri : Nat → Int32) (u_t : Nat → Int32) (a1 : Int32) (hop : (a1 &&& (31 : Int32)) = (12 : Int32)) : s_P_perform u_z u_M u_r u_d u_a u_lo u_hi u_ri u_t a1 = ((s_P_perform12 u_z u_M u_r u_d u_a u_lo u_hi u_ri u_t a1).1, u_M, u_r, (s_P_perform12 u_z u_M u_r u_d u_a u_lo u_hi u_ri u_t a1).2, u_a) := by
  unfold s_P_perform
  simp only [hop]
  rfl
theorem e_P_perform13 (u_z : Nat → Int32) (u_M : Nat → Int32) (u_r : Nat → Int32) (u_d : Nat → Int32) (u_a : Nat → Int32) (u_lo : Nat → Int32) (u_hi : Nat → Int32) (u_ri : Nat → Int32) (u_t : Nat → Int32) (a1 : Int32) (hop : (a1 &&& (31 : Int32)) = (13 : Int32)) : s_P_perform u_z u_M u_r u_d u_a u_lo u_hi u_ri u_t a1 = ((s_P_perform13 u_z u_M u_r u_d u_a u_lo u_hi u_ri u_t a1).1, u_M, u_r, (s_P_perform13 u_z u_M u_r u_d u_a u_lo u_hi u_ri u_t a1).2, u_a) := by
  unfold s_P_perform
  simp only [hop]
  rfl
theorem e_P_perform14 (u_z : Nat → Int32) (u_M : Nat → Int32) (u_r : Nat → Int32) (u_d : Nat → Int32) (u_a : Nat → Int32) (u_lo : Nat → Int32) (u_hi : Nat → Int32) (u_ri : Nat → Int32) (u_t : Nat → Int32) (a1 : Int32) (hop : (a1 &&& (31 : Int32)) = (14 : Int32)) : s_P_perform u_z u_M u_r u_d u_a u_lo u_hi u_ri u_t a1 = ((s_P_perform14 u_z u_M u_r u_d u_a u_lo u_hi u_ri u_t a1).1, (s_P_perform14 u_z u_M u_r u_d u_a u_lo u_hi u_ri u_t a1).2, u_r, u_d, u_a) := by
  unfold s_P_perform
  simp only [hop]
  rfl
theorem e_P_perform15 (u_z : Nat → Int32) (u_M : Nat → Int32) (u_r : Nat → Int32) (u_d : Nat → Int32) (u_a : Nat → Int32) (u_lo : Nat → Int32) (u_hi : Nat → Int32) (u_ri : Nat → Int32) (u_t : Nat → Int32) (a1 : Int32) (hop : (a1 &&& (31 : Int32)) = (15 : Int32)) : s_P_perform u_z u_M u_r u_d u_a u_lo u_hi u_ri u_t a1 = ((s_P_perform15 u_z u_M u_r u_d u_a u_lo u_hi u_ri u_t a1).1, u_M, u_r, (s_P_perform15 u_z u_M u_r u_d u_a u_lo u_hi u_ri u_t a1).2.1, (s_P_perform15 u_z u_M u_r u_d u_a u_lo u_hi u_ri u_t a1).2.2) := by
  unfold s_P_perform
  simp only [hop]
  rfl
theorem e_P_perform16 (u_z : Nat → Int32) (u_M : Nat → Int32) (u_r : Nat → Int32) (u_d : Nat → Int32) (u_a : Nat → Int32) (u_lo : Nat → Int32) (u_hi : Nat → Int32) (u_ri : Nat → Int32) (u_t : Nat → Int32) (a1 : Int32) (hop : (a1 &&& (31 : Int32)) = (16 : Int32)) : s_P_perform u_z u_M u_r u_d u_a u_lo u_hi u_ri u_t a1 = ((s_P_perform16 u_z u_M u_r u_d u_a u_lo u_hi u_ri u_t a1).1, (s_P_perform16 u_z u_M u_r u_d u_a u_lo u_hi u_ri u_t a1).2.1, u_r, u_d, (s_P_perform16 u_z u_M u_r u_d u_a u_lo u_hi u_ri u_t a1).2.2) := by
  unfold s_P_perform
  simp only [hop]
  rfl
theorem e_P_perform17 (u_z : Nat → Int32) (u_M : Nat → Int32) (u_r : Nat → Int32) (u_d : Nat → Int32) (u_a : Nat → Int32) (u_lo : Nat → Int32) (u_hi : Nat → Int32) (u_ri : Nat → Int32) (u_t : Nat → Int32) (a1 : Int32) (hop : (a1 &&& (31 : Int32)) = (17 : Int32)) : s_P_perform u_z u_M u_r u_d u_a u_lo u_hi u_ri u_t a1 = ((s_P_perform17 u_z u_M u_r u_d u_a u_lo u_hi u_ri u_t a1).1, u_M, u_r, (s_P_perform17 u_z u_M u_r u_d u_a u_lo u_hi u_ri u_t a1).2.1, (s_P_perform17 u_z u_M u_r u_d u_a u_lo u_hi u_ri u_t a1).2.2) := by
  unfold s_P_perform
  simp only [hop]
  rfl
theorem e_P_perform18 (u_z : Nat → Int32) (u_M : Nat → Int32) (u_r : Nat → Int32) (u_d : Nat → Int32) (u_a : Nat → Int32) (u_lo : Nat → Int32) (u_hi : Nat → Int32) (u_ri : Nat → Int32) (u_t : Nat → Int32) (a1 : Int32) (hop : (a1 &&& (31 : Int32)) = (18 : Int32)) : s_P_perform u_z u_M u_r u_d u_a u_lo u_hi u_ri u_t a1 = ((s_P_perform18 u_z u_M u_r u_d u_a u_lo u_hi u_ri u_t a1).1, u_M, (s_P_perform18 u_z u_M u_r u_d u_a u_lo u_hi u_ri u_t a1).2, u_d, u_a) := by
  unfold s_P_perform
  simp only [hop]
  rfl
theorem e_P_perform19 (u_z : Nat → Int32) (u_M : Nat → Int32) (u_r : Nat → Int32) (u_d : Nat → Int32) (u_a : Nat → Int32) (u_lo : Nat → Int32) (u_hi : Nat → Int32) (u_ri : Nat → Int32) (u_t : Nat → Int32) (a1 : Int32) (hop : (a1 &&& (31 : Int32)) = (19 : Int32)) : s_P_perform u_z u_M u_r u_d u_a u_lo u_hi u_ri u_t a1 = ((s_P_perform19 u_z u_M u_r u_d u_a u_lo u_hi u_ri u_t a1).1, u_M, (s_P_perform19 u_z u_M u_r u_d u_a u_lo u_hi u_ri u_t a1).2, u_d, u_a) := by
  unfold s_P_perform
  simp only [hop]
  rfl
theorem e_P_perform20 (u_z : Nat → Int32) (u_M : Nat → Int32) (u_r : Nat → Int32) (u_d : Nat → Int32) (u_a : Nat → Int32) (u_lo : Nat → Int32) (u_hi : Nat → Int32) (u_ri : Nat → Int32) (u_t : Nat → Int32) (a1 : Int32) (hop : (a1 &&& (31 : Int32)) = (20 : Int32)) : s_P_perform u_z u_M u_r u_d u_a u_lo u_hi u_ri u_t a1 = ((s_P_perform20 u_z u_M u_r u_d u_a u_lo u_hi u_ri u_t a1).1, u_M, (s_P_perform20 u_z u_M u_r u_d u_a u_lo u_hi u_ri u_t a1).2, u_d, u_a) := by
  unfold s_P_perform
  simp only [hop]
  rfl
theorem e_P_perform21 (u_z : Nat → Int32) (u_M : Nat → Int32) (u_r : Nat → Int32) (u_d : Nat → Int32) (u_a : Nat → Int32) (u_lo : Nat → Int32) (u_hi : Nat → Int32) (u_ri : Nat → Int32) (u_t : Nat → Int32) (a1 : Int32) (hop : (a1 &&& (31 : Int32)) = (21 : Int32)) : s_P_perform u_z u_M u_r u_d u_a u_lo u_hi u_ri u_t a1 = ((s_P_perform21 u_z u_M u_r u_d u_a u_lo u_hi u_ri u_t a1).1, (s_P_perform21 u_z u_M u_r u_d u_a u_lo u_hi u_ri u_t a1).2.1, (s_P_perform21 u_z u_M u_r u_d u_a u_lo u_hi u_ri u_t a1).2.2.1, u_d, (s_P_perform21 u_z u_M u_r u_d u_a u_lo u_hi u_ri u_t a1).2.2.2) := by
  unfold s_P_perform
  simp only [hop]
  rfl
theorem e_P_perform22 (u_z : Nat → Int32) (u_M : Nat → Int32) (u_r : Nat → Int32) (u_d : Nat → Int32) (u_a : Nat → Int32) (u_lo : Nat → Int32) (u_hi : Nat → Int32) (u_ri : Nat → Int32) (u_t : Nat → Int32) (a1 : Int32) (hop : (a1 &&& (31 : Int32)) = (22 : Int32)) : s_P_perform u_z u_M u_r u_d u_a u_lo u_hi u_ri u_t a1 = ((s_P_perform22 u_z u_M u_r u_d u_a u_lo u_hi u_ri u_t a1).1, (s_P_perform22 u_z u_M u_r u_d u_a u_lo u_hi u_ri u_t a1).2.1, (s_P_perform22 u_z u_M u_r u_d u_a u_lo u_hi u_ri u_t a1).2.2.1, (s_P_perform22 u_z u_M u_r u_d u_a u_lo u_hi u_ri u_t a1).2.2.2.1, (s_P_perform22 u_z u_M u_r u_d u_a u_lo u_hi u_ri u_t a1).2.2.2.2) := by
  unfold s_P_perform
  simp only [hop]
  rfl
theorem e_P_perform23 (u_z : Nat → Int32) (u_M : Nat → Int32) (u_r : Nat → Int32) (u_d : Nat → Int32) (u_a : Nat → Int32) (u_lo : Nat → Int32) (u_hi : Nat → Int32) (u_ri : Nat → Int32) (u_t : Nat → Int32) (a1 : Int32) (hop : (a1 &&& (31 : Int32)) = (23 : Int32)) : s_P_perform u_z u_M u_r u_d u_a u_lo u_hi u_ri u_t a1 = ((s_P_perform23 u_z u_M u_r u_d u_a u_lo u_hi u_ri u_t a1).1, (s_P_perform23 u_z u_M u_r u_d u_a u_lo u_hi u_ri u_t a1).2.1, (s_P_perform23 u_z u_M u_r u_d u_a u_lo u_hi u_ri u_t a1).2.2, u_d, u_a) := by
  unfold s_P_perform
  simp only [hop]
  rfl
theorem e_P_perform24 (u_z : Nat → Int32) (u_M : Nat → Int32) (u_r : Nat → Int32) (u_d : Nat → Int32) (u_a : Nat → Int32) (u_lo : Nat → Int32) (u_hi : Nat → Int32) (u_ri : Nat → Int32) (u_t : Nat → Int32) (a1 : Int32) (hop : (a1 &&& (31 : Int32)) = (24 : Int32)) : s_P_perform u_z u_M u_r u_d u_a u_lo u_hi u_ri u_t a1 = ((s_P_perform24 u_z u_M u_r u_d u_a u_lo u_hi u_ri u_t a1).1, (s_P_perform24 u_z u_M u_r u_d u_a u_lo u_hi u_ri u_t a1).2.1, (s_P_perform24 u_z u_M u_r u_d u_a u_lo u_hi u_ri u_t a1).2.2.1, (s_P_perform24 u_z u_M u_r u_d u_a u_lo u_hi u_ri u_t a1).2.2.2.1, (s_P_perform24 u_z u_M u_r u_d u_a u_lo u_hi u_ri u_t a1).2.2.2.2) := by
  unfold s_P_perform
  simp only [hop]
  rfl
theorem e_P_perform25 (u_z : Nat → Int32) (u_M : Nat → Int32) (u_r : Nat → Int32) (u_d : Nat → Int32) (u_a : Nat → Int32) (u_lo : Nat → Int32) (u_hi : Nat → Int32) (u_ri : Nat → Int32) (u_t : Nat → Int32) (a1 : Int32) (hop : (a1 &&& (31 : Int32)) = (25 : Int32)) : s_P_perform u_z u_M u_r u_d u_a u_lo u_hi u_ri u_t a1 = ((s_P_perform25 u_z u_M u_r u_d u_a u_lo u_hi u_ri u_t a1).1, (s_P_perform25 u_z u_M u_r u_d u_a u_lo u_hi u_ri u_t a1).2.1, (s_P_perform25 u_z u_M u_r u_d u_a u_lo u_hi u_ri u_t a1).2.2, u_d, u_a) := by
  unfold s_P_perform
  simp only [hop]
  rfl
theorem e_P_perform26 (u_z : Nat → Int32) (u_M : Nat → Int32) (u_r : Nat → Int32) (u_d : Nat → Int32) (u_a : Nat → Int32) (u_lo : Nat → Int32) (u_hi : Nat → Int32) (u_ri : Nat → Int32) (u_t : Nat → Int32) (a1 : Int32) (hop : (a1 &&& (31 : Int32)) = (26 : Int32)) : s_P_perform u_z u_M u_r u_d u_a u_lo u_hi u_ri u_t a1 = ((s_P_perform26 u_z u_M u_r u_d u_a u_lo u_hi u_ri u_t a1).1, (s_P_perform26 u_z u_M u_r u_d u_a u_lo u_hi u_ri u_t a1).2.1, (s_P_perform26 u_z u_M u_r u_d u_a u_lo u_hi u_ri u_t a1).2.2.1, (s_P_perform26 u_z u_M u_r u_d u_a u_lo u_hi u_ri u_t a1).2.2.2.1, (s_P_perform26 u_z u_M u_r u_d u_a u_lo u_hi u_ri u_t a1).2.2.2.2) := by
  unfold s_P_perform
  simp only [hop]
  rfl
theorem e_P_perform27 (u_z : Nat → Int32) (u_M : Nat → Int32) (u_r : Nat → Int32) (u_d : Nat → Int32) (u_a : Nat → Int32) (u_lo : Nat → Int32) (u_hi : Nat → Int32) (u_ri : Nat → Int32) (u_t : Nat → Int32) (a1 : Int32) (hop : (a1 &&& (31 : Int32)) = (27 : Int32)) : s_P_perform u_z u_M u_r u_d u_a u_lo u_hi u_ri u_t a1 = ((s_P_perform27 u_z u_M u_r u_d u_a u_lo u_hi u_ri u_t a1), u_M, u_r, u_d, u_a) := by
  unfold s_P_perform
  simp only [hop]
  rfl
theorem e_P_perform28 (u_z : Nat → Int32) (u_M : Nat → Int32) (u_r : Nat → Int32) (u_d : Nat → Int32) (u_a : Nat → Int32) (u_lo : Nat → Int32) (u_hi : Nat → Int32) (u_ri : Nat → Int32) (u_t : Nat → Int32) (a1 : Int32) (hop : (a1 &&& (31 : Int32)) = (28 : Int32)) : s_P_perform u_z u_M u_r u_d u_a u_lo u_hi u_ri u_t a1 = ((s_P_perform28 u_z u_M u_r u_d u_a u_lo u_hi u_ri u_t a1).1, u_M, (s_P_perform28 u_z u_M u_r u_d u_a u_lo u_hi u_ri u_t a1).2, u_d, u_a) := by
  unfold s_P_perform
  simp only [hop]
  rfl
theorem e_P_perform29 (u_z : Nat → Int32) (u_M : Nat → Int32) (u_r : Nat → Int32) (u_d : Nat → Int32) (u_a : Nat → Int32) (u_lo : Nat → Int32) (u_hi : Nat → Int32) (u_ri : Nat → Int32) (u_t : Nat → Int32) (a1 : Int32) (hop : (a1 &&& (31 : Int32)) = (29 : Int32)) : s_P_perform u_z u_M u_r u_d u_a u_lo u_hi u_ri u_t a1 = ((s_P_perform29 u_z u_M u_r u_d u_a u_lo u_hi u_ri u_t a1).1, u_M, (s_P_perform29 u_z u_M u_r u_d u_a u_lo u_hi u_ri u_t a1).2, u_d, u_a) := by
  unfold s_P_perform
  simp only [hop]
  rfl
theorem e_P_perform30 (u_z : Nat → Int32) (u_M : Nat → Int32) (u_r : Nat → Int32) (u_d : Nat → Int32) (u_a : Nat → Int32) (u_lo : Nat → Int32) (u_hi : Nat → Int32) (u_ri : Nat → Int32) (u_t : Nat → Int32) (a1 : Int32) (hop : (a1 &&& (31 : Int32)) = (30 : Int32)) : s_P_perform u_z u_M u_r u_d u_a u_lo u_hi u_ri u_t a1 = ((s_P_perform30 u_z u_M u_r u_d u_a u_lo u_hi u_ri u_t a1).1, u_M, (s_P_perform30 u_z u_M u_r u_d u_a u_lo u_hi u_ri u_t a1).2, u_d, u_a) := by
  unfold s_P_perform
  simp only [hop]
  rfl
theorem e_P_perform31 (u_z : Nat → Int32) (u_M : Nat → Int32) (u_r : Nat → Int32) (u_d : Nat → Int32) (u_a : Nat → Int32) (u_lo : Nat → Int32) (u_hi : Nat → Int32) (u_ri : Nat → Int32) (u_t : Nat → Int32) (a1 : Int32) (hop : (a1 &&& (31 : Int32)) = (31 : Int32)) : s_P_perform u_z u_M u_r u_d u_a u_lo u_hi u_ri u_t a1 = ((s_P_perform31 u_z u_M u_r u_d u_a u_lo u_hi u_ri u_t a1), u_M, u_r, u_d, u_a) := by
  unfold s_P_perform
  simp only [hop]
  rfl
theorem bo_C_put (u_z : Nat → Int32) (u_M : Nat → Int32) (u_r : Nat → Int32) (u_d : Nat → Int32) (u_a : Nat → Int32) (u_lo : Nat → Int32) (u_hi : Nat → Int32) (u_ri : Nat → Int32) (u_t : Nat → Int32) (a1 : Int32) (a2 : Int32) : (s_C_put u_z u_M u_r u_d u_a u_lo u_hi u_ri u_t a1 a2).1 = 0 ∨ (s_C_put u_z u_M u_r u_d u_a u_lo u_hi u_ri u_t a1 a2).1 = 1 := by
  unfold s_C_put
  (repeat' split) <;> first | exact Or.inl rfl | exact Or.inr rfl | assumption
theorem bo_C_request (u_z : Nat → Int32) (u_M : Nat → Int32) (u_r : Nat → Int32) (u_d : Nat → Int32) (u_a : Nat → Int32) (u_lo : Nat → Int32) (u_hi : Nat → Int32) (u_ri : Nat → Int32) (u_t : Nat → Int32) (a1 : Int32) : (s_C_request u_z u_M u_r u_d u_a u_lo u_hi u_ri u_t a1).1 = 0 ∨ (s_C_request u_z u_M u_r u_d u_a u_lo u_hi u_ri u_t a1).1 = 1 := by
  unfold s_C_request
  (repeat' split) <;> first | exact Or.inl rfl | exact Or.inr rfl | assumption
theorem bo_C_halt (u_z : Nat → Int32) (u_M : Nat → Int32) (u_r : Nat → Int32) (u_d : Nat → Int32) (u_a : Nat → Int32) (u_lo : Nat → Int32) (u_hi : Nat → Int32) (u_ri : Nat → Int32) (u_t : Nat → Int32) (hrb : u_z 0 = 0 ∨ u_z 0 = 1) : (s_C_halt u_z u_M u_r u_d u_a u_lo u_hi u_ri u_t).1 = 0 ∨ (s_C_halt u_z u_M u_r u_d u_a u_lo u_hi u_ri u_t).1 = 1 := by
  unfold s_C_halt
  (repeat' split) <;> first | exact Or.inl rfl | exact Or.inr rfl | assumption
theorem bo_X_isArea (a1 : Int32) : (s_X_isArea a1) = 0 ∨ (s_X_isArea a1) = 1 := by
  unfold s_X_isArea
  (repeat' split) <;> first | exact Or.inl rfl | exact Or.inr rfl | assumption
theorem bo_X_keepU (v_x : Nat → Int32) (v_M : Nat → Int32) (v_d : Nat → Int32) (v_a : Nat → Int32) (v_o : Nat → Int32) (v_lo : Nat → Int32) (v_hi : Nat → Int32) (v_ri : Nat → Int32) : (s_X_keepU v_x v_M v_d v_a v_o v_lo v_hi v_ri).1 = 0 ∨ (s_X_keepU v_x v_M v_d v_a v_o v_lo v_hi v_ri).1 = 1 := by
  unfold s_X_keepU
  (repeat' split) <;> first | exact Or.inl rfl | exact Or.inr rfl | assumption
theorem bo_X_canBringU (v_x : Nat → Int32) (v_M : Nat → Int32) (v_d : Nat → Int32) (v_a : Nat → Int32) (v_o : Nat → Int32) (v_lo : Nat → Int32) (v_hi : Nat → Int32) (v_ri : Nat → Int32) : (s_X_canBringU v_x v_M v_d v_a v_o v_lo v_hi v_ri).1 = 0 ∨ (s_X_canBringU v_x v_M v_d v_a v_o v_lo v_hi v_ri).1 = 1 := by
  unfold s_X_canBringU
  (repeat' split) <;> first | exact Or.inl rfl | exact Or.inr rfl | assumption | exact zz_ite
theorem bo_X_keepL (v_x : Nat → Int32) (v_M : Nat → Int32) (v_d : Nat → Int32) (v_a : Nat → Int32) (v_o : Nat → Int32) (v_lo : Nat → Int32) (v_hi : Nat → Int32) (v_ri : Nat → Int32) : (s_X_keepL v_x v_M v_d v_a v_o v_lo v_hi v_ri).1 = 0 ∨ (s_X_keepL v_x v_M v_d v_a v_o v_lo v_hi v_ri).1 = 1 := by
  unfold s_X_keepL
  (repeat' split) <;> first | exact Or.inl rfl | exact Or.inr rfl | assumption
theorem bo_X_canBringL (v_x : Nat → Int32) (v_M : Nat → Int32) (v_d : Nat → Int32) (v_a : Nat → Int32) (v_o : Nat → Int32) (v_lo : Nat → Int32) (v_hi : Nat → Int32) (v_ri : Nat → Int32) : (s_X_canBringL v_x v_M v_d v_a v_o v_lo v_hi v_ri).1 = 0 ∨ (s_X_canBringL v_x v_M v_d v_a v_o v_lo v_hi v_ri).1 = 1 := by
  unfold s_X_canBringL
  (repeat' split) <;> first | exact Or.inl rfl | exact Or.inr rfl | assumption | exact zz_ite
theorem bo_X_enter (v_x : Nat → Int32) (v_M : Nat → Int32) (v_d : Nat → Int32) (v_a : Nat → Int32) (v_o : Nat → Int32) (v_lo : Nat → Int32) (v_hi : Nat → Int32) (v_ri : Nat → Int32) (a1 : Int32) (a2 : Int32) : (s_X_enter v_x v_M v_d v_a v_o v_lo v_hi v_ri a1 a2).1 = 0 ∨ (s_X_enter v_x v_M v_d v_a v_o v_lo v_hi v_ri a1 a2).1 = 1 := by
  unfold s_X_enter
  (repeat' split) <;> first | exact Or.inl rfl | exact Or.inr rfl | assumption
theorem bo_X_guarded (v_x : Nat → Int32) (v_M : Nat → Int32) (v_d : Nat → Int32) (v_a : Nat → Int32) (v_o : Nat → Int32) (v_lo : Nat → Int32) (v_hi : Nat → Int32) (v_ri : Nat → Int32) : (s_X_guarded v_x v_M v_d v_a v_o v_lo v_hi v_ri) = 0 ∨ (s_X_guarded v_x v_M v_d v_a v_o v_lo v_hi v_ri) = 1 := by
  unfold s_X_guarded
  (repeat' split) <;> first | exact Or.inl rfl | exact Or.inr rfl | assumption
theorem bo_X_mayR0 (v_x : Nat → Int32) (v_M : Nat → Int32) (v_d : Nat → Int32) (v_a : Nat → Int32) (v_o : Nat → Int32) (v_lo : Nat → Int32) (v_hi : Nat → Int32) (v_ri : Nat → Int32) (a1 : Int32) : (s_X_mayR0 v_x v_M v_d v_a v_o v_lo v_hi v_ri a1).1 = 0 ∨ (s_X_mayR0 v_x v_M v_d v_a v_o v_lo v_hi v_ri a1).1 = 1 := by
  unfold s_X_mayR0
  (repeat' split) <;> first | exact Or.inl rfl | exact Or.inr rfl | assumption
theorem bo_X_mayR1 (v_x : Nat → Int32) (v_M : Nat → Int32) (v_d : Nat → Int32) (v_a : Nat → Int32) (v_o : Nat → Int32) (v_lo : Nat → Int32) (v_hi : Nat → Int32) (v_ri : Nat → Int32) (a1 : Int32) : (s_X_mayR1 v_x v_M v_d v_a v_o v_lo v_hi v_ri a1).1 = 0 ∨ (s_X_mayR1 v_x v_M v_d v_a v_o v_lo v_hi v_ri a1).1 = 1 := by
  unfold s_X_mayR1
  (repeat' split) <;> first | exact Or.inl rfl | exact Or.inr rfl | assumption
theorem bo_X_mayR (v_x : Nat → Int32) (v_M : Nat → Int32) (v_d : Nat → Int32) (v_a : Nat → Int32) (v_o : Nat → Int32) (v_lo : Nat → Int32) (v_hi : Nat → Int32) (v_ri : Nat → Int32) (a1 : Int32) : (s_X_mayR v_x v_M v_d v_a v_o v_lo v_hi v_ri a1).1 = 0 ∨ (s_X_mayR v_x v_M v_d v_a v_o v_lo v_hi v_ri a1).1 = 1 := by
  unfold s_X_mayR
  split
  · exact bo_X_mayR0 ..
  · exact bo_X_mayR1 ..
theorem bo_X_mayW0 (v_x : Nat → Int32) (v_M : Nat → Int32) (v_d : Nat → Int32) (v_a : Nat → Int32) (v_o : Nat → Int32) (v_lo : Nat → Int32) (v_hi : Nat → Int32) (v_ri : Nat → Int32) (a1 : Int32) : (s_X_mayW0 v_x v_M v_d v_a v_o v_lo v_hi v_ri a1).1 = 0 ∨ (s_X_mayW0 v_x v_M v_d v_a v_o v_lo v_hi v_ri a1).1 = 1 := by
  unfold s_X_mayW0
  (repeat' split) <;> first | exact Or.inl rfl | exact Or.inr rfl | assumption
theorem bo_X_mayW1 (v_x : Nat → Int32) (v_M : Nat → Int32) (v_d : Nat → Int32) (v_a : Nat → Int32) (v_o : Nat → Int32) (v_lo : Nat → Int32) (v_hi : Nat → Int32) (v_ri : Nat → Int32) (a1 : Int32) : (s_X_mayW1 v_x v_M v_d v_a v_o v_lo v_hi v_ri a1).1 = 0 ∨ (s_X_mayW1 v_x v_M v_d v_a v_o v_lo v_hi v_ri a1).1 = 1 := by
  unfold s_X_mayW1
  (repeat' split) <;> first | exact Or.inl rfl | exact Or.inr rfl | assumption
theorem bo_X_mayW (v_x : Nat → Int32) (v_M : Nat → Int32) (v_d : Nat → Int32) (v_a : Nat → Int32) (v_o : Nat → Int32) (v_lo : Nat → Int32) (v_hi : Nat → Int32) (v_ri : Nat → Int32) (a1 : Int32) : (s_X_mayW v_x v_M v_d v_a v_o v_lo v_hi v_ri a1).1 = 0 ∨ (s_X_mayW v_x v_M v_d v_a v_o v_lo v_hi v_ri a1).1 = 1 := by
  unfold s_X_mayW
  split
  · exact bo_X_mayW0 ..
  · exact bo_X_mayW1 ..
theorem e_X_instr0 (v_x : Nat → Int32) (v_M : Nat → Int32) (v_d : Nat → Int32) (v_a : Nat → Int32) (v_o : Nat → Int32) (v_lo : Nat → Int32) (v_hi : Nat → Int32) (v_ri : Nat → Int32) (a1 : Int32) (hop : (a1 &&& (31 : Int32)) = (0 : Int32)) : s_X_instr v_x v_M v_d v_a v_o v_lo v_hi v_ri a1 = ((s_X_instr0 v_x v_M v_d v_a v_o v_lo v_hi v_ri a1).1, v_M, v_d, v_a, (s_X_instr0 v_x v_M v_d v_a v_o v_lo v_hi v_ri a1).2) := by
  unfold s_X_instr
  simp only [hop]
  rfl
theorem e_X_instr1 (v_x : Nat → Int32) (v_M : Nat → Int32) (v_d : Nat → Int32) (v_a : Nat → Int32) (v_o : Nat → Int32) (v_lo : Nat → Int32) (v_hi : Nat → Int32) (v_ri : Nat → Int32) (a1 : Int32) (hop : (a1 &&& (31 : Int32)) = (1 : Int32)) : s_X_instr v_x v_M v_d v_a v_o v_lo v_hi v_ri a1 = (v_x, v_M, (s_X_instr1 v_x v_M v_d v_a v_o v_lo v_hi v_ri a1).1, v_a, (s_X_instr1 v_x v_M v_d v_a v_o v_lo v_hi v_ri a1).2) := by
  unfold s_X_instr
  simp only [hop]
  rfl
theorem e_X_instr2 (v_x : Nat → Int32) (v_M : Nat → Int32) (v_d : Nat → Int32) (v_a : Nat → Int32) (v_o : Nat → Int32) (v_lo : Nat → Int32) (v_hi : Nat → Int32) (v_ri : Nat → Int32) (a1 : Int32) (hop : (a1 &&& (31 : Int32)) = (2 : Int32)) : s_X_instr v_x v_M v_d v_a v_o v_lo v_hi v_ri a1 = (v_x, v_M, (s_X_instr2 v_x v_M v_d v_a v_o v_lo v_hi v_ri a1).1, v_a, (s_X_instr2 v_x v_M v_d v_a v_o v_lo v_hi v_ri a1).2) := by
  unfold s_X_instr
  simp only [hop]
  rfl
theorem e_X_instr3 (v_x : Nat → Int32) (v_M : Nat → Int32) (v_d : Nat → Int32) (v_a : Nat → Int32) (v_o : Nat → Int32) (v_lo : Nat → Int32) (v_hi : Nat → Int32) (v_ri : Nat → Int32) (a1 : Int32) (hop : (a1 &&& (31 : Int32)) = (3 : Int32)) : s_X_instr v_x v_M v_d v_a v_o v_lo v_hi v_ri a1 = (v_x, v_M, (s_X_instr3 v_x v_M v_d v_a v_o v_lo v_hi v_ri a1).1, v_a, (s_X_instr3 v_x v_M v_d v_a v_o v_lo v_hi v_ri a1).2) := by
  unfold s_X_instr
  simp only [hop]
  rfl
theorem e_X_instr4 (v_x : Nat → Int32) (v_M : Nat → Int32) (v_d : Nat → Int32) (v_a : Nat → Int32) (v_o : Nat → Int32) (v_lo : Nat → Int32) (v_hi : Nat → Int32) (v_ri : Nat → Int32) (a1 : Int32) (hop : (a1 &&& (31 : Int32)) = (4 : Int32)) : s_X_instr v_x v_M v_d v_a v_o v_lo v_hi v_ri a1 = (v_x, v_M, (s_X_instr4 v_x v_M v_d v_a v_o v_lo v_hi v_ri a1).1, v_a, (s_X_instr4 v_x v_M v_d v_a v_o v_lo v_hi v_ri a1).2) := by
  unfold s_X_instr
  simp only [hop]
  rfl
theorem e_X_instr5 (v_x : Nat → Int32) (v_M : Nat → Int32) (v_d : Nat → Int32) (v_a : Nat → Int32) (v_o : Nat → Int32) (v_lo : Nat → Int32) (v_hi : Nat → Int32) (v_ri : Nat → Int32) (a1 : Int32) (hop : (a1 &&& (31 : Int32)) = (5 : Int32)) : s_X_instr v_x v_M v_d v_a v_o v_lo v_hi v_ri a1 = (v_x, v_M, (s_X_instr5 v_x v_M v_d v_a v_o v_lo v_hi v_ri a1).1, v_a, (s_X_instr5 v_x v_M v_d v_a v_o v_lo v_hi v_ri a1).2) := by
  unfold s_X_instr
  simp only [hop]
  rfl
theorem e_X_instr6 (v_x : Nat → Int32) (v_M : Nat → Int32) (v_d : Nat → Int32) (v_a : Nat → Int32) (v_o : Nat → Int32) (v_lo : Nat → Int32) (v_hi : Nat → Int32) (v_ri : Nat → Int32) (a1 : Int32) (hop : (a1 &&& (31 : Int32)) = (6 : Int32)) : s_X_instr v_x v_M v_d v_a v_o v_lo v_hi v_ri a1 = (v_x, v_M, (s_X_instr6 v_x v_M v_d v_a v_o v_lo v_hi v_ri a1).1, v_a, (s_X_instr6 v_x v_M v_d v_a v_o v_lo v_hi v_ri a1).2) := by
  unfold s_X_instr
  simp only [hop]
  rfl
theorem e_X_instr7 (v_x : Nat → Int32) (v_M : Nat → Int32) (v_d : Nat → Int32) (v_a : Nat → Int32) (v_o : Nat → Int32) (v_lo : Nat → Int32) (v_hi : Nat → Int32) (v_ri : Nat → Int32) (a1 : Int32) (hop : (a1 &&& (31 : Int32)) = (7 : Int32)) : s_X_instr v_x v_M v_d v_a v_o v_lo v_hi v_ri a1 = (v_x, v_M, (s_X_instr7 v_x v_M v_d v_a v_o v_lo v_hi v_ri a1).1, v_a, (s_X_instr7 v_x v_M v_d v_a v_o v_lo v_hi v_ri a1).2) := by
  unfold s_X_instr
  simp only [hop]
  rfl
theorem e_X_instr8 (v_x : Nat → Int32) (v_M : Nat → Int32) (v_d : Nat → Int32) (v_a : Nat → Int32) (v_o : Nat → Int32) (v_lo : Nat → Int32) (v_hi : Nat → Int32) (v_ri : Nat → Int32) (a1 : Int32) (hop : (a1 &&& (31 : Int32)) = (8 : Int32)) : s_X_instr v_x v_M v_d v_a v_o v_lo v_hi v_ri a1 = (v_x, v_M, (s_X_instr8 v_x v_M v_d v_a v_o v_lo v_hi v_ri a1).1, v_a, (s_X_instr8 v_x v_M v_d v_a v_o v_lo v_hi v_ri a1).2) := by
  unfold s_X_instr
  simp only [hop]
  rfl
theorem e_X_instr9 (v_x : Nat → Int32) (v_M : Nat → Int32) (v_d : Nat → Int32) (v_a : Nat → Int32) (v_o : Nat → Int32) (v_lo : Nat → Int32) (v_hi : Nat → Int32) (v_ri : Nat → Int32) (a1 : Int32) (hop : (a1 &&& (31 : Int32)) = (9 : Int32)) : s_X_instr v_x v_M v_d v_a v_o v_lo v_hi v_ri a1 = (v_x, v_M, v_d, (s_X_instr9 v_x v_M v_d v_a v_o v_lo v_hi v_ri a1).1, (s_X_instr9 v_x v_M v_d v_a v_o v_lo v_hi v_ri a1).2) := by
  unfold s_X_instr
  simp only [hop]
  rfl
theorem e_X_instr10 (v_x : Nat → Int32) (v_M : Nat → Int32) (v_d : Nat → Int32) (v_a : Nat → Int32) (v_o : Nat → Int32) (v_lo : Nat → Int32) (v_hi : Nat → Int32) (v_ri : Nat → Int32) (a1 : Int32) (hop : (a1 &&& (31 : Int32)) = (10 : Int32)) : s_X_instr v_x v_M v_d v_a v_o v_lo v_hi v_ri a1 = (v_x, v_M, v_d, (s_X_instr10 v_x v_M v_d v_a v_o v_lo v_hi v_ri a1).1, (s_X_instr10 v_x v_M v_d v_a v_o v_lo v_hi v_ri a1).2) := by
  unfold s_X_instr
  simp only [hop]
  rfl
theorem e_X_instr11 (v_x : Nat → Int32) (v_M : Nat → Int32) (v_d : Nat → Int32) (v_a : Nat → Int32) (v_o : Nat → Int32) (v_lo : Nat → Int32) (v_hi : Nat → Int32) (v_ri : Nat → Int32) (a1 : Int32) (hop : (a1 &&& (31 : Int32)) = (11 : Int32)) : s_X_instr v_x v_M v_d v_a v_o v_lo v_hi v_ri a1 = (v_x, v_M, v_d, (s_X_instr11 v_x v_M v_d v_a v_o v_lo v_hi v_ri a1).1, (s_X_instr11 v_x v_M v_d v_a v_o v_lo v_hi v_ri a1).2) := by
  unfold s_X_instr
  simp only [hop]
  rfl
theorem e_X_instr12 (v_x : Nat → Int32) (v_M : Nat → Int32) (v_d : Nat → Int32) (v_a : Nat → Int32) (v_o : Nat → Int32) (v_lo : Nat → Int32) (v_hi : Nat → Int32) (v_ri : Nat → Int32) (a1 : Int32) (hop : (a1 &&& (31 : Int32)) = (12 : Int32)) : s_X_instr v_x v_M v_d v_a v_o v_lo v_hi v_ri a1 = (v_x, v_M, (s_X_instr12 v_x v_M v_d v_a v_o v_lo v_hi v_ri a1).1, v_a, (s_X_instr12 v_x v_M v_d v_a v_o v_lo v_hi v_ri a1).2) := by
  unfold s_X_instr
  simp only [hop]
  rfl
theorem e_X_instr13 (v_x : Nat → Int32) (v_M : Nat → Int32) (v_d : Nat → Int32) (v_a : Nat → Int32) (v_o : Nat → Int32) (v_lo : Nat → Int32) (v_hi : Nat → Int32) (v_ri : Nat → Int32) (a1 : Int32) (hop : (a1 &&& (31 : Int32)) = (13 : Int32)) : s_X_instr v_x v_M v_d v_a v_o v_lo v_hi v_ri a1 = ((s_X_instr13 v_x v_M v_d v_a v_o v_lo v_hi v_ri a1).1, v_M, (s_X_instr13 v_x v_M v_d v_a v_o v_lo v_hi v_ri a1).2.1, v_a, (s_X_instr13 v_x v_M v_d v_a v_o v_lo v_hi v_ri a1).2.2) := by
  unfold s_X_instr
  simp only [hop]
  rfl
theorem e_X_instr14 (v_x : Nat → Int32) (v_M : Nat → Int32) (v_d : Nat → Int32) (v_a : Nat → Int32) (v_o : Nat → Int32) (v_lo : Nat → Int32) (v_hi : Nat → Int32) (v_ri : Nat → Int32) (a1 : Int32) (hop : (a1 &&& (31 : Int32)) = (14 : Int32)) : s_X_instr v_x v_M v_d v_a v_o v_lo v_hi v_ri a1 = ((s_X_instr14 v_x v_M v_d v_a v_o v_lo v_hi v_ri a1).1, (s_X_instr14 v_x v_M v_d v_a v_o v_lo v_hi v_ri a1).2.1, v_d, v_a, (s_X_instr14 v_x v_M v_d v_a v_o v_lo v_hi v_ri a1).2.2) := by
  unfold s_X_instr
  simp only [hop]
  rfl
theorem e_X_instr15 (v_x : Nat → Int32) (v_M : Nat → Int32) (v_d : Nat → Int32) (v_a : Nat → Int32) (v_o : Nat → Int32) (v_lo : Nat → Int32) (v_hi : Nat → Int32) (v_ri : Nat → Int32) (a1 : Int32) (hop : (a1 &&& (31 : Int32)) = (15 : Int32)) : s_X_instr v_x v_M v_d v_a v_o v_lo v_hi v_ri a1 = ((s_X_instr15 v_x v_M v_d v_a v_o v_lo v_hi v_ri a1).1, v_M, (s_X_instr15 v_x v_M v_d v_a v_o v_lo v_hi v_ri a1).2.1, (s_X_instr15 v_x v_M v_d v_a v_o v_lo v_hi v_ri a1).2.2.1, (s_X_instr15 v_x v_M v_d v_a v_o v_lo v_hi v_ri a1).2.2.2) := by
  unfold s_X_instr
  simp only [hop]
  rfl
theorem e_X_instr16 (v_x : Nat → Int32) (v_M : Nat → Int32) (v_d : Nat → Int32) (v_a : Nat → Int32) (v_o : Nat → Int32) (v_lo : Nat → Int32) (v_hi : Nat → Int32) (v_ri : Nat → Int32) (a1 : Int32) (hop : (a1 &&& (31 : Int32)) = (16 : Int32)) : s_X_instr v_x v_M v_d v_a v_o v_lo v_hi v_ri a1 = ((s_X_instr16 v_x v_M v_d v_a v_o v_lo v_hi v_ri a1).1, (s_X_instr16 v_x v_M v_d v_a v_o v_lo v_hi v_ri a1).2.1, v_d, (s_X_instr16 v_x v_M v_d v_a v_o v_lo v_hi v_ri a1).2.2.1, (s_X_instr16 v_x v_M v_d v_a v_o v_lo v_hi v_ri a1).2.2.2) := by
  unfold s_X_instr
  simp only [hop]
  rfl
theorem e_X_instr17 (v_x : Nat → Int32) (v_M : Nat → Int32) (v_d : Nat → Int32) (v_a : Nat → Int32) (v_o : Nat → Int32) (v_lo : Nat → Int32) (v_hi : Nat → Int32) (v_ri : Nat → Int32) (a1 : Int32) (hop : (a1 &&& (31 : Int32)) = (17 : Int32)) : s_X_instr v_x v_M v_d v_a v_o v_lo v_hi v_ri a1 = ((s_X_instr17 v_x v_M v_d v_a v_o v_lo v_hi v_ri a1).1, v_M, (s_X_instr17 v_x v_M v_d v_a v_o v_lo v_hi v_ri a1).2.1, (s_X_instr17 v_x v_M v_d v_a v_o v_lo v_hi v_ri a1).2.2.1, (s_X_instr17 v_x v_M v_d v_a v_o v_lo v_hi v_ri a1).2.2.2) := by
  unfold s_X_instr
  simp only [hop]
  rfl
theorem e_X_instr18 (v_x : Nat → Int32) (v_M : Nat → Int32) (v_d : Nat → Int32) (v_a : Nat → Int32) (v_o : Nat → Int32) (v_lo : Nat → Int32) (v_hi : Nat → Int32) (v_ri : Nat → Int32) (a1 : Int32) (hop : (a1 &&& (31 : Int32)) = (18 : Int32)) : s_X_instr v_x v_M v_d v_a v_o v_lo v_hi v_ri a1 = (v_x, v_M, v_d, v_a, (s_X_instr18 v_x v_M v_d v_a v_o v_lo v_hi v_ri a1)) := by
  unfold s_X_instr
  simp only [hop]
  rfl
theorem e_X_instr19 (v_x : Nat → Int32) (v_M : Nat → Int32) (v_d : Nat → Int32) (v_a : Nat → Int32) (v_o : Nat → Int32) (v_lo : Nat → Int32) (v_hi : Nat → Int32) (v_ri : Nat → Int32) (a1 : Int32) (hop : (a1 &&& (31 : Int32)) = (19 : Int32)) : s_X_instr v_x v_M v_d v_a v_o v_lo v_hi v_ri a1 = (v_x, v_M, v_d, v_a, (s_X_instr19 v_x v_M v_d v_a v_o v_lo v_hi v_ri a1)) := by
  unfold s_X_instr
  simp only [hop]
  rfl
theorem e_X_instr20 (v_x : Nat → Int32) (v_M : Nat → Int32) (v_d : Nat → Int32) (v_a : Nat → Int32) (v_o : Nat → Int32) (v_lo : Nat → Int32) (v_hi : Nat → Int32) (v_ri : Nat → Int32) (a1 : Int32) (hop : (a1 &&& (31 : Int32)) = (20 : Int32)) : s_X_instr v_x v_M v_d v_a v_o v_lo v_hi v_ri a1 = (v_x, v_M, v_d, v_a, (s_X_instr20 v_x v_M v_d v_a v_o v_lo v_hi v_ri a1)) := by
  unfold s_X_instr
  simp only [hop]
  rfl
theorem e_X_instr21 (v_x : Nat → Int32) (v_M : Nat → Int32) (v_d : Nat → Int32) (v_a : Nat → Int32) (v_o : Nat → Int32) (v_lo : Nat → Int32) (v_hi : Nat → Int32) (v_ri : Nat → Int32) (a1 : Int32) (hop : (a1 &&& (31 : Int32)) = (21 : Int32)) : s_X_instr v_x v_M v_d v_a v_o v_lo v_hi v_ri a1 = ((s_X_instr21 v_x v_M v_d v_a v_o v_lo v_hi v_ri a1).1, (s_X_instr21 v_x v_M v_d v_a v_o v_lo v_hi v_ri a1).2.1, v_d, (s_X_instr21 v_x v_M v_d v_a v_o v_lo v_hi v_ri a1).2.2.1, (s_X_instr21 v_x v_M v_d v_a v_o v_lo v_hi v_ri a1).2.2.2) := by
  unfold s_X_instr
  simp only [hop]
  rfl
theorem e_X_instr22 (v_x : Nat → Int32) (v_M : Nat → Int32) (v_d : Nat → Int32) (v_a : Nat → Int32) (v_o : Nat → Int32) (v_lo : Nat → Int32) (v_hi : Nat → Int32) (v_ri : Nat → Int32) (a1 : Int32) (hop : (a1 &&& (31 : Int32)) = (22 : Int32)) : s_X_instr v_x v_M v_d v_a v_o v_lo v_hi v_ri a1 = ((s_X_instr22 v_x v_M v_d v_a v_o v_lo v_hi v_ri a1).1, (s_X_instr22 v_x v_M v_d v_a v_o v_lo v_hi v_ri a1).2.1, (s_X_instr22 v_x v_M v_d v_a v_o v_lo v_hi v_ri a1).2.2.1, (s_X_instr22 v_x v_M v_d v_a v_o v_lo v_hi v_ri a1).2.2.2.1, (s_X_instr22 v_x v_M v_d v_a v_o v_lo v_hi v_ri a1).2.2.2.2) := by
  unfold s_X_instr
  simp only [hop]
  rfl
theorem e_X_instr23 (v_x : Nat → Int32) (v_M : Nat → Int32) (v_d : Nat → Int32) (v_a : Nat → Int32) (v_o : Nat → Int32) (v_lo : Nat → Int32) (v_hi : Nat → Int32) (v_ri : Nat → Int32) (a1 : Int32) (hop : (a1 &&& (31 : Int32)) = (23 : Int32)) : s_X_instr v_x v_M v_d v_a v_o v_lo v_hi v_ri a1 = ((s_X_instr23 v_x v_M v_d v_a v_o v_lo v_hi v_ri a1).1, (s_X_instr23 v_x v_M v_d v_a v_o v_lo v_hi v_ri a1).2.1, v_d, v_a, (s_X_instr23 v_x v_M v_d v_a v_o v_lo v_hi v_ri a1).2.2) := by
  unfold s_X_instr
  simp only [hop]
  rfl
theorem e_X_instr24 (v_x : Nat → Int32) (v_M : Nat → Int32) (v_d : Nat → Int32) (v_a : Nat → Int32) (v_o : Nat → Int32) (v_lo : Nat → Int32) (v_hi : Nat → Int32) (v_ri : Nat → Int32) (a1 : Int32) (hop : (a1 &&& (31 : Int32)) = (24 : Int32)) : s_X_instr v_x v_M v_d v_a v_o v_lo v_hi v_ri a1 = ((s_X_instr24 v_x v_M v_d v_a v_o v_lo v_hi v_ri a1).1, (s_X_instr24 v_x v_M v_d v_a v_o v_lo v_hi v_ri a1).2.1, (s_X_instr24 v_x v_M v_d v_a v_o v_lo v_hi v_ri a1).2.2.1, (s_X_instr24 v_x v_M v_d v_a v_o v_lo v_hi v_ri a1).2.2.2.1, (s_X_instr24 v_x v_M v_d v_a v_o v_lo v_hi v_ri a1).2.2.2.2) := by
  unfold s_X_instr
  simp only [hop]
  rfl
theorem e_X_instr25 (v_x : Nat → Int32) (v_M : Nat → Int32) (v_d : Nat → Int32) (v_a : Nat → Int32) (v_o : Nat → Int32) (v_lo : Nat → Int32) (v_hi : Nat → Int32) (v_ri : Nat → Int32) (a1 : Int32) (hop : (a1 &&& (31 : Int32)) = (25 : Int32)) : s_X_instr v_x v_M v_d v_a v_o v_lo v_hi v_ri a1 = ((s_X_instr25 v_x v_M v_d v_a v_o v_lo v_hi v_ri a1).1, (s_X_instr25 v_x v_M v_d v_a v_o v_lo v_hi v_ri a1).2.1, v_d, v_a, (s_X_instr25 v_x v_M v_d v_a v_o v_lo v_hi v_ri a1).2.2) := by
  unfold s_X_instr
  simp only [hop]
  rfl
theorem e_X_instr26 (v_x : Nat → Int32) (v_M : Nat → Int32) (v_d : Nat → Int32) (v_a : Nat → Int32) (v_o : Nat → Int32) (v_lo : Nat → Int32) (v_hi : Nat → Int32) (v_ri : Nat → Int32) (a1 : Int32) (hop : (a1 &&& (31 : Int32)) = (26 : Int32)) : s_X_instr v_x v_M v_d v_a v_o v_lo v_hi v_ri a1 = ((s_X_instr26 v_x v_M v_d v_a v_o v_lo v_hi v_ri a1).1, (s_X_instr26 v_x v_M v_d v_a v_o v_lo v_hi v_ri a1).2.1, (s_X_instr26 v_x v_M v_d v_a v_o v_lo v_hi v_ri a1).2.2.1, (s_X_instr26 v_x v_M v_d v_a v_o v_lo v_hi v_ri a1).2.2.2.1, (s_X_instr26 v_x v_M v_d v_a v_o v_lo v_hi v_ri a1).2.2.2.2) := by
  unfold s_X_instr
  simp only [hop]
  rfl
theorem e_X_instr27 (v_x : Nat → Int32) (v_M : Nat → Int32) (v_d : Nat → Int32) (v_a : Nat → Int32) (v_o : Nat → Int32) (v_lo : Nat → Int32) (v_hi : Nat → Int32) (v_ri : Nat → Int32) (a1 : Int32) (hop : (a1 &&& (31 : Int32)) = (27 : Int32)) : s_X_instr v_x v_M v_d v_a v_o v_lo v_hi v_ri a1 = ((s_X_instr27 v_x v_M v_d v_a v_o v_lo v_hi v_ri a1).1, v_M, v_d, v_a, (s_X_instr27 v_x v_M v_d v_a v_o v_lo v_hi v_ri a1).2) := by
  unfold s_X_instr
  simp only [hop]
  rfl
theorem e_X_instr28 (v_x : Nat → Int32) (v_M : Nat → Int32) (v_d : Nat → Int32) (v_a : Nat → Int32) (v_o : Nat → Int32) (v_lo : Nat → Int32) (v_hi : Nat → Int32) (v_ri : Nat → Int32) (a1 : Int32) (hop : (a1 &&& (31 : Int32)) = (28 : Int32)) : s_X_instr v_x v_M v_d v_a v_o v_lo v_hi v_ri a1 = ((s_X_instr28 v_x v_M v_d v_a v_o v_lo v_hi v_ri a1).1, v_M, v_d, v_a, (s_X_instr28 v_x v_M v_d v_a v_o v_lo v_hi v_ri a1).2) := by
  unfold s_X_instr
  simp only [hop]
  rfl
theorem e_X_instr29 (v_x : Nat → Int32) (v_M : Nat → Int32) (v_d : Nat → Int32) (v_a : Nat → Int32) (v_o : Nat → Int32) (v_lo : Nat → Int32) (v_hi : Nat → Int32) (v_ri : Nat → Int32) (a1 : Int32) (hop : (a1 &&& (31 : Int32)) = (29 : Int32)) : s_X_instr v_x v_M v_d v_a v_o v_lo v_hi v_ri a1 = ((s_X_instr29 v_x v_M v_d v_a v_o v_lo v_hi v_ri a1).1, v_M, v_d, v_a, (s_X_instr29 v_x v_M v_d v_a v_o v_lo v_hi v_ri a1).2) := by
  unfold s_X_instr
  simp only [hop]
  rfl
theorem e_X_instr30 (v_x : Nat → Int32) (v_M : Nat → Int32) (v_d : Nat → Int32) (v_a : Nat → Int32) (v_o : Nat → Int32) (v_lo : Nat → Int32) (v_hi : Nat → Int32) (v_ri : Nat → Int32) (a1 : Int32) (hop : (a1 &&& (31 : Int32)) = (30 : Int32)) : s_X_instr v_x v_M v_d v_a v_o v_lo v_hi v_ri a1 = ((s_X_instr30 v_x v_M v_d v_a v_o v_lo v_hi v_ri a1).1, v_M, v_d, v_a, (s_X_instr30 v_x v_M v_d v_a v_o v_lo v_hi v_ri a1).2) := by
  unfold s_X_instr
  simp only [hop]
  rfl
theorem e_X_instr31 (v_x : Nat → Int32) (v_M : Nat → Int32) (v_d : Nat → Int32) (v_a : Nat → Int32) (v_o : Nat → Int32) (v_lo : Nat → Int32) (v_hi : Nat → Int32) (v_ri : Nat → Int32) (a1 : Int32) (hop : (a1 &&& (31 : Int32)) = (31 : Int32)) : s_X_instr v_x v_M v_d v_a v_o v_lo v_hi v_ri a1 = ((s_X_instr31 v_x v_M v_d v_a v_o v_lo v_hi v_ri a1).1, v_M, v_d, v_a, (s_X_instr31 v_x v_M v_d v_a v_o v_lo v_hi v_ri a1).2) := by
  unfold s_X_instr
  simp only [hop]
  rfl
theorem bo_X_put (v_x : Nat → Int32) (v_M : Nat → Int32) (v_d : Nat → Int32) (v_a : Nat → Int32) (v_o : Nat → Int32) (v_lo : Nat → Int32) (v_hi : Nat → Int32) (v_ri : Nat → Int32) (a1 : Int32) (a2 : Int32) : (s_X_put v_x v_M v_d v_a v_o v_lo v_hi v_ri a1 a2).1 = 0 ∨ (s_X_put v_x v_M v_d v_a v_o v_lo v_hi v_ri a1 a2).1 = 1 := by
  unfold s_X_put
  (repeat' split) <;> first | exact Or.inl rfl | exact Or.inr rfl | assumption
theorem bo_X_request (v_x : Nat → Int32) (v_M : Nat → Int32) (v_d : Nat → Int32) (v_a : Nat → Int32) (v_o : Nat → Int32) (v_lo : Nat → Int32) (v_hi : Nat → Int32) (v_ri : Nat → Int32) (a1 : Int32) : (s_X_request v_x v_M v_d v_a v_o v_lo v_hi v_ri a1).1 = 0 ∨ (s_X_request v_x v_M v_d v_a v_o v_lo v_hi v_ri a1).1 = 1 := by
  unfold s_X_request
  (repeat' split) <;> first | exact Or.inl rfl | exact Or.inr rfl | assumption
theorem bo_X_halt (v_x : Nat → Int32) (v_M : Nat → Int32) (v_d : Nat → Int32) (v_a : Nat → Int32) (v_o : Nat → Int32) (v_lo : Nat → Int32) (v_hi : Nat → Int32) (v_ri : Nat → Int32) (hrb : v_x 7 = 0 ∨ v_x 7 = 1) : (s_X_halt v_x v_M v_d v_a v_o v_lo v_hi v_ri).1 = 0 ∨ (s_X_halt v_x v_M v_d v_a v_o v_lo v_hi v_ri).1 = 1 := by
  unfold s_X_halt
  (repeat' split) <;> first | exact Or.inl rfl | exact Or.inr rfl | assumption
