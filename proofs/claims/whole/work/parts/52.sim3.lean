/-! an instruction: the class's and the reference's -/
def iv (r : Nat → Int32) : Prop := (r 5 = 0 ∨ r 5 = 1) ∧ (r 8 = 0 ∨ r 8 = 1) ∧ ¬ r 7 < 0
def oi (q : Int32) (r' x x' o' : Nat → Int32) : Prop :=
  (∀ k, (k = 0 ∨ 6 ≤ k) → k ≠ 7 → k ≠ 17 → k ≠ 19 → x' k = x k) ∧ (¬ x' 7 = 0 → (r' 9 = 0 ↔ x' 17 = 0)) ∧ iv r' ∧ ((q = 0 ∧ x' 19 = 0 ∧ x' 7 = x 7 ∧ ro (upd r' 0 ((r' 0) + 1)) x' o') ∨ (q = 1 ∧ x' 19 = 0 ∧ x' 7 = x 7 ∧ ro r' x' o') ∨ (q = 2 ∧ x' 19 = 0 ∧ x' 7 = 0 ∧ ro r' x' o') ∨ ((0 < q ∧ ¬ q = 1 ∧ ¬ q = 2) ∧ x' 19 = q ∧ x' 7 = x 7 ∧ ro r' x' o'))
def od (R : Int32 × (Nat → Int32) × (Nat → Int32) × (Nat → Int32) × (Nat → Int32)) (X : (Nat → Int32) × (Nat → Int32) × (Nat → Int32) × (Nat → Int32) × (Nat → Int32)) (x : Nat → Int32) : Prop :=
  X.2.1 = R.2.1 ∧ X.2.2.1 = R.2.2.2.1 ∧ X.2.2.2.1 = R.2.2.2.2 ∧ oi R.1 R.2.2.1 x X.1 X.2.2.2.2
section SI
variable {z r t x o M d a lo hi ri : Nat → Int32}
theorem fr_up {x' : Nat → Int32} (h : ∀ k, (k = 0 ∨ 6 ≤ k) → k ≠ 7 → k ≠ 17 → k ≠ 19 → x' k = x k) (j : Nat) (v : Int32) (hj : (1 ≤ j ∧ j ≤ 5) ∨ j = 7 ∨ j = 17 ∨ j = 19) : ∀ k, (k = 0 ∨ 6 ≤ k) → k ≠ 7 → k ≠ 17 → k ≠ 19 → upd x' j v k = x k := fun k h0 h1 h2 h3 => (if_neg (by omega)).trans (h k h0 h1 h2 h3)
theorem fr_rf : ∀ k, (k = 0 ∨ 6 ≤ k) → k ≠ 7 → k ≠ 17 → k ≠ 19 → x k = x k := fun _ _ _ _ _ => rfl
theorem ro_pc {v : Int32} (h : ro r x o) : ro (upd r 0 v) x (upd o 0 v) := by
  obtain ⟨e0, e1, e2, e3, f1, f2, f3, f4, f5⟩ := h
  exact ⟨rfl, e1, e2, e3, f1, f2, f3, f4, f5⟩
theorem ro_o0 (h : ro r x o) : ro r x (upd o 0 (o 0)) := by
  obtain ⟨e0, e1, e2, e3, f1, f2, f3, f4, f5⟩ := h
  exact ⟨e0, e1, e2, e3, f1, f2, f3, f4, f5⟩
theorem tr257 : 0 < (257 : Int32) ∧ ¬ (257 : Int32) = 1 ∧ ¬ (257 : Int32) = 2 := by decide
theorem oi_go {r' x' o1 : Nat → Int32} (hr : ro r' x' o1) (h19 : x' 19 = 0) (h7 : x' 7 = x 7) (hf : ∀ k, (k = 0 ∨ 6 ≤ k) → k ≠ 7 → k ≠ 17 → k ≠ 19 → x' k = x k) (hn : ¬ x' 7 = 0 → (r' 9 = 0 ↔ x' 17 = 0)) (hi : iv r') : oi 0 r' x x' (upd o1 0 ((o1 0) + 1)) := by
  refine ⟨hf, hn, hi, Or.inl ⟨rfl, h19, h7, ?_⟩⟩
  rw [hr.1]
  exact ro_pc hr
theorem oi_to {r' x' o1 : Nat → Int32} {v : Int32} (hr : ro r' x' o1) (h19 : x' 19 = 0) (h7 : x' 7 = x 7) (hf : ∀ k, (k = 0 ∨ 6 ≤ k) → k ≠ 7 → k ≠ 17 → k ≠ 19 → x' k = x k) (hn : ¬ x' 7 = 0 → (r' 9 = 0 ↔ x' 17 = 0)) (hi : iv r') : oi 1 (upd r' 0 v) x x' (upd o1 0 v) :=
  ⟨hf, hn, hi, Or.inr (Or.inl ⟨rfl, h19, h7, ro_pc hr⟩)⟩
theorem oi_halt {r' x' o1 : Nat → Int32} (hr : ro r' x' o1) (h19 : x' 19 = 0) (h7 : x' 7 = 0) (hf : ∀ k, (k = 0 ∨ 6 ≤ k) → k ≠ 7 → k ≠ 17 → k ≠ 19 → x' k = x k) (hi : iv r') : oi 2 r' x x' (upd o1 0 (o1 0)) :=
  ⟨hf, fun h => absurd h7 h, hi, Or.inr (Or.inr (Or.inl ⟨rfl, h19, h7, ro_o0 hr⟩))⟩
theorem oi_trap {o1 : Nat → Int32} {q : Int32} (hq : 0 < q ∧ ¬ q = 1 ∧ ¬ q = 2) (hr : ro r x o1) (hn : r 9 = 0 ↔ x 17 = 0) (hi : iv r) : oi q r x (upd x 19 q) o1 :=
  ⟨fr_up fr_rf 19 q (by omega), fun _ => hn, hi, Or.inr (Or.inr (Or.inr ⟨hq, rfl, rfl, ro_up hr 19 q (by omega)⟩))⟩

theorem sim_i1 (hr : ro r x o) (h19 : x 19 = 0) (h7 : ¬ x 7 = 0) (hn : r 9 = 0 ↔ x 17 = 0) (hv : iv r) {w : Int32} (hop : (w &&& (31 : Int32)) = (1 : Int32)) : od (s_P_perform z M r d a lo hi ri t w) (s_X_instr x M d a o lo hi ri w) x := by
  rw [e_P_perform1 z M r d a lo hi ri t w hop, e_X_instr1 x M d a o lo hi ri w hop]
  unfold s_X_instr1
  rw [if_pos h19, if_neg h7, ix0]
  exact ⟨rfl, rfl, rfl, oi_go hr h19 rfl fr_rf (fun _ => hn) hv⟩
theorem sim_i2 (hr : ro r x o) (h19 : x 19 = 0) (h7 : ¬ x 7 = 0) (hn : r 9 = 0 ↔ x 17 = 0) (hv : iv r) {w : Int32} (hop : (w &&& (31 : Int32)) = (2 : Int32)) : od (s_P_perform z M r d a lo hi ri t w) (s_X_instr x M d a o lo hi ri w) x := by
  rw [e_P_perform2 z M r d a lo hi ri t w hop, e_X_instr2 x M d a o lo hi ri w hop]
  unfold s_X_instr2
  rw [if_pos h19, if_neg h7, ix0]
  exact ⟨rfl, rfl, rfl, oi_go hr h19 rfl fr_rf (fun _ => hn) hv⟩
theorem sim_i3 (hr : ro r x o) (h19 : x 19 = 0) (h7 : ¬ x 7 = 0) (hn : r 9 = 0 ↔ x 17 = 0) (hv : iv r) {w : Int32} (hop : (w &&& (31 : Int32)) = (3 : Int32)) : od (s_P_perform z M r d a lo hi ri t w) (s_X_instr x M d a o lo hi ri w) x := by
  rw [e_P_perform3 z M r d a lo hi ri t w hop, e_X_instr3 x M d a o lo hi ri w hop]
  unfold s_X_instr3
  rw [if_pos h19, if_neg h7, ix0]
  exact ⟨rfl, rfl, rfl, oi_go hr h19 rfl fr_rf (fun _ => hn) hv⟩
theorem sim_i4 (hr : ro r x o) (h19 : x 19 = 0) (h7 : ¬ x 7 = 0) (hn : r 9 = 0 ↔ x 17 = 0) (hv : iv r) {w : Int32} (hop : (w &&& (31 : Int32)) = (4 : Int32)) : od (s_P_perform z M r d a lo hi ri t w) (s_X_instr x M d a o lo hi ri w) x := by
  rw [e_P_perform4 z M r d a lo hi ri t w hop, e_X_instr4 x M d a o lo hi ri w hop]
  unfold s_X_instr4
  rw [if_pos h19, if_neg h7, ix0]
  exact ⟨rfl, rfl, rfl, oi_go hr h19 rfl fr_rf (fun _ => hn) hv⟩
theorem sim_i5 (hr : ro r x o) (h19 : x 19 = 0) (h7 : ¬ x 7 = 0) (hn : r 9 = 0 ↔ x 17 = 0) (hv : iv r) {w : Int32} (hop : (w &&& (31 : Int32)) = (5 : Int32)) : od (s_P_perform z M r d a lo hi ri t w) (s_X_instr x M d a o lo hi ri w) x := by
  rw [e_P_perform5 z M r d a lo hi ri t w hop, e_X_instr5 x M d a o lo hi ri w hop]
  unfold s_X_instr5
  rw [if_pos h19, if_neg h7, ix0]
  exact ⟨rfl, rfl, rfl, oi_go hr h19 rfl fr_rf (fun _ => hn) hv⟩
theorem sim_i6 (hr : ro r x o) (h19 : x 19 = 0) (h7 : ¬ x 7 = 0) (hn : r 9 = 0 ↔ x 17 = 0) (hv : iv r) {w : Int32} (hop : (w &&& (31 : Int32)) = (6 : Int32)) : od (s_P_perform z M r d a lo hi ri t w) (s_X_instr x M d a o lo hi ri w) x := by
  rw [e_P_perform6 z M r d a lo hi ri t w hop, e_X_instr6 x M d a o lo hi ri w hop]
  unfold s_X_instr6
  rw [if_pos h19, if_neg h7, ix0]
  exact ⟨rfl, rfl, rfl, oi_go hr h19 rfl fr_rf (fun _ => hn) hv⟩
theorem sim_i7 (hr : ro r x o) (h19 : x 19 = 0) (h7 : ¬ x 7 = 0) (hn : r 9 = 0 ↔ x 17 = 0) (hv : iv r) {w : Int32} (hop : (w &&& (31 : Int32)) = (7 : Int32)) : od (s_P_perform z M r d a lo hi ri t w) (s_X_instr x M d a o lo hi ri w) x := by
  rw [e_P_perform7 z M r d a lo hi ri t w hop, e_X_instr7 x M d a o lo hi ri w hop]
  unfold s_X_instr7
  rw [if_pos h19, if_neg h7, ix0]
  exact ⟨rfl, rfl, rfl, oi_go hr h19 rfl fr_rf (fun _ => hn) hv⟩
theorem sim_i8 (hr : ro r x o) (h19 : x 19 = 0) (h7 : ¬ x 7 = 0) (hn : r 9 = 0 ↔ x 17 = 0) (hv : iv r) {w : Int32} (hop : (w &&& (31 : Int32)) = (8 : Int32)) : od (s_P_perform z M r d a lo hi ri t w) (s_X_instr x M d a o lo hi ri w) x := by
  rw [e_P_perform8 z M r d a lo hi ri t w hop, e_X_instr8 x M d a o lo hi ri w hop]
  unfold s_X_instr8
  rw [if_pos h19, if_neg h7, ix0]
  exact ⟨rfl, rfl, rfl, oi_go hr h19 rfl fr_rf (fun _ => hn) hv⟩
theorem sim_i9 (hr : ro r x o) (h19 : x 19 = 0) (h7 : ¬ x 7 = 0) (hn : r 9 = 0 ↔ x 17 = 0) (hv : iv r) {w : Int32} (hop : (w &&& (31 : Int32)) = (9 : Int32)) : od (s_P_perform z M r d a lo hi ri t w) (s_X_instr x M d a o lo hi ri w) x := by
  rw [e_P_perform9 z M r d a lo hi ri t w hop, e_X_instr9 x M d a o lo hi ri w hop]
  unfold s_X_instr9
  rw [if_pos h19, if_neg h7, ix0]
  exact ⟨rfl, rfl, rfl, oi_go hr h19 rfl fr_rf (fun _ => hn) hv⟩
theorem sim_i10 (hr : ro r x o) (h19 : x 19 = 0) (h7 : ¬ x 7 = 0) (hn : r 9 = 0 ↔ x 17 = 0) (hv : iv r) {w : Int32} (hop : (w &&& (31 : Int32)) = (10 : Int32)) : od (s_P_perform z M r d a lo hi ri t w) (s_X_instr x M d a o lo hi ri w) x := by
  rw [e_P_perform10 z M r d a lo hi ri t w hop, e_X_instr10 x M d a o lo hi ri w hop]
  unfold s_X_instr10
  rw [if_pos h19, if_neg h7, ix0]
  exact ⟨rfl, rfl, rfl, oi_go hr h19 rfl fr_rf (fun _ => hn) hv⟩
theorem sim_i11 (hr : ro r x o) (h19 : x 19 = 0) (h7 : ¬ x 7 = 0) (hn : r 9 = 0 ↔ x 17 = 0) (hv : iv r) {w : Int32} (hop : (w &&& (31 : Int32)) = (11 : Int32)) : od (s_P_perform z M r d a lo hi ri t w) (s_X_instr x M d a o lo hi ri w) x := by
  rw [e_P_perform11 z M r d a lo hi ri t w hop, e_X_instr11 x M d a o lo hi ri w hop]
  unfold s_X_instr11
  rw [if_pos h19, if_neg h7, ix0]
  exact ⟨rfl, rfl, rfl, oi_go hr h19 rfl fr_rf (fun _ => hn) hv⟩
theorem sim_i12 (hr : ro r x o) (h19 : x 19 = 0) (h7 : ¬ x 7 = 0) (hn : r 9 = 0 ↔ x 17 = 0) (hv : iv r) {w : Int32} (hop : (w &&& (31 : Int32)) = (12 : Int32)) : od (s_P_perform z M r d a lo hi ri t w) (s_X_instr x M d a o lo hi ri w) x := by
  rw [e_P_perform12 z M r d a lo hi ri t w hop, e_X_instr12 x M d a o lo hi ri w hop]
  unfold s_X_instr12
  rw [if_pos h19, if_neg h7, ix0]
  exact ⟨rfl, rfl, rfl, oi_go hr h19 rfl fr_rf (fun _ => hn) hv⟩
theorem sim_i0 (hr : ro r x o) (h19 : x 19 = 0) (h7 : ¬ x 7 = 0) (hn : r 9 = 0 ↔ x 17 = 0) (hv : iv r) {w : Int32} (hop : (w &&& (31 : Int32)) = (0 : Int32)) : od (s_P_perform z M r d a lo hi ri t w) (s_X_instr x M d a o lo hi ri w) x := by
  rw [e_P_perform0 z M r d a lo hi ri t w hop, e_X_instr0 x M d a o lo hi ri w hop]
  refine ⟨rfl, rfl, rfl, ?_⟩
  show oi 513 r x (upd x 19 513) (upd o (ix 0) (o (ix 0)))
  rw [ix0]
  exact oi_trap (by decide) (ro_o0 hr) hn hv
theorem tr_27 (i : Int32) : 0 < ((1536 : Int32) + (i &&& (255 : Int32))) ∧ ¬ ((1536 : Int32) + (i &&& (255 : Int32))) = 1 ∧ ¬ ((1536 : Int32) + (i &&& (255 : Int32))) = 2 ∧ ¬ ((1536 : Int32) + (i &&& (255 : Int32))) = 0 := by
  obtain ⟨j, hj, e⟩ := pk_andE i (m := (255 : Int32)) 8 (by decide)
  have hj : j < 256 := hj
  rw [e, show (1536 : Int32) = nI 1536 from rfl, nI_add]
  refine ⟨?_, ?_, ?_, ?_⟩
  · rw [show (0 : Int32) = nI 0 from rfl, nI_ltI (by omega) (by omega)]; omega
  · rw [show (1 : Int32) = nI 1 from rfl, nI_eq (by omega) (by omega)]; omega
  · rw [show (2 : Int32) = nI 2 from rfl, nI_eq (by omega) (by omega)]; omega
  · rw [show (0 : Int32) = nI 0 from rfl, nI_eq (by omega) (by omega)]; omega
theorem sim_i27 (hr : ro r x o) (h19 : x 19 = 0) (h7 : ¬ x 7 = 0) (hn : r 9 = 0 ↔ x 17 = 0) (hv : iv r) {w : Int32} (hop : (w &&& (31 : Int32)) = (27 : Int32)) : od (s_P_perform z M r d a lo hi ri t w) (s_X_instr x M d a o lo hi ri w) x := by
  rw [e_P_perform27 z M r d a lo hi ri t w hop, e_X_instr27 x M d a o lo hi ri w hop]
  obtain ⟨h1, h2, h3, h4⟩ := tr_27 (w >>> ((16 : Int32) &&& 31))
  refine ⟨rfl, rfl, rfl, ?_⟩
  show oi ((1536 : Int32) + ((w >>> ((16 : Int32) &&& 31)) &&& (255 : Int32))) r x (upd x 19 ((1536 : Int32) + ((w >>> ((16 : Int32) &&& 31)) &&& (255 : Int32)))) (upd o (ix 0) (if ((1536 : Int32) + ((w >>> ((16 : Int32) &&& 31)) &&& (255 : Int32))) = 0 then _ else (o (ix 0))))
  rw [if_neg h4, ix0]
  exact oi_trap ⟨h1, h2, h3⟩ (ro_o0 hr) hn hv
theorem and1 (i : Int32) : (i &&& (1 : Int32)) = 0 ∨ (i &&& (1 : Int32)) = 1 := by
  obtain ⟨j, hj, e⟩ := pk_andE i (m := (1 : Int32)) 1 (by decide)
  rw [e]
  have hj : j < 2 := hj
  match j, hj with
  | 0, _ => exact Or.inl rfl
  | 1, _ => exact Or.inr rfl
theorem and15 (i : Int32) : ¬ (i &&& (15 : Int32)) < 0 := by
  obtain ⟨j, hj, e⟩ := pk_andE i (m := (15 : Int32)) 4 (by decide)
  rw [e]
  exact nI_pos (by have : j < 16 := hj; omega)
theorem sim_i28 (hr : ro r x o) (h19 : x 19 = 0) (h7 : ¬ x 7 = 0) (hn : r 9 = 0 ↔ x 17 = 0) (hv : iv r) {w : Int32} (hop : (w &&& (31 : Int32)) = (28 : Int32)) : od (s_P_perform z M r d a lo hi ri t w) (s_X_instr x M d a o lo hi ri w) x := by
  rw [e_P_perform28 z M r d a lo hi ri t w hop, e_X_instr28 x M d a o lo hi ri w hop]
  have f1 := hr.2.2.2.2.1
  unfold s_P_perform28 s_X_instr28
  by_cases hl : ¬ r 4 = (2 : Int32)
  · rw [if_neg hl, if_neg (show ¬ x 1 = (2 : Int32) from fun h => hl (f1.symm.trans h))]
    exact ⟨rfl, rfl, rfl, oi_trap (q := 257) tr257 hr hn hv⟩
  have hl := Classical.not_not.mp hl
  rw [if_pos hl, if_pos (show x 1 = (2 : Int32) from f1.trans hl)]
  have hs : s_X_system28 x M d a o lo hi ri (w >>> ((16 : Int32) &&& 31)) = upd x 5 (if ((w >>> ((16 : Int32) &&& 31)) &&& (1 : Int32)) = (1 : Int32) then (1 : Int32) else (0 : Int32)) := by
    unfold s_X_system28
    by_cases hb : ((w >>> ((16 : Int32) &&& 31)) &&& (1 : Int32)) = (1 : Int32)
    · rw [if_pos hb, if_pos hb]
    · rw [if_neg hb, if_neg hb]
  rw [hs]
  refine ⟨rfl, rfl, rfl, ?_⟩
  show oi 0 (upd r 8 (if ((w >>> ((16 : Int32) &&& 31)) &&& (1 : Int32)) = (1 : Int32) then (1 : Int32) else (0 : Int32))) x (upd x 5 (if ((w >>> ((16 : Int32) &&& 31)) &&& (1 : Int32)) = (1 : Int32) then (1 : Int32) else (0 : Int32))) (upd o (ix 0) (if x 19 = 0 then (if x 7 = 0 then (o (ix 0)) else ((o (ix 0)) + 1)) else (o (ix 0))))
  rw [if_pos h19, if_neg h7, ix0]
  obtain ⟨e0, e1, e2, e3, f1, f2, f3, f4, f5⟩ := hr
  exact oi_go ⟨e0, e1, e2, e3, f1, f2, f3, f4, rfl⟩ h19 rfl (fr_up fr_rf 5 _ (by omega)) (fun _ => hn) ⟨hv.1, zz_ite, hv.2.2⟩
theorem sim_i29 (hr : ro r x o) (h19 : x 19 = 0) (h7 : ¬ x 7 = 0) (hn : r 9 = 0 ↔ x 17 = 0) (hv : iv r) {w : Int32} (hop : (w &&& (31 : Int32)) = (29 : Int32)) : od (s_P_perform z M r d a lo hi ri t w) (s_X_instr x M d a o lo hi ri w) x := by
  rw [e_P_perform29 z M r d a lo hi ri t w hop, e_X_instr29 x M d a o lo hi ri w hop]
  have f1 := hr.2.2.2.2.1
  unfold s_P_perform29 s_X_instr29
  by_cases hl : ¬ r 4 = (2 : Int32)
  · rw [if_neg hl, if_neg (show ¬ x 1 = (2 : Int32) from fun h => hl (f1.symm.trans h))]
    exact ⟨rfl, rfl, rfl, oi_trap (q := 257) tr257 hr hn hv⟩
  have hl := Classical.not_not.mp hl
  rw [if_pos hl, if_pos (show x 1 = (2 : Int32) from f1.trans hl)]
  refine ⟨rfl, rfl, rfl, ?_⟩
  show oi 0 (upd r 5 ((w >>> ((16 : Int32) &&& 31)) &&& (1 : Int32))) x (upd x 2 ((w >>> ((16 : Int32) &&& 31)) &&& (1 : Int32))) (upd o (ix 0) (if x 19 = 0 then (if x 7 = 0 then (o (ix 0)) else ((o (ix 0)) + 1)) else (o (ix 0))))
  rw [if_pos h19, if_neg h7, ix0]
  obtain ⟨e0, e1, e2, e3, f1, f2, f3, f4, f5⟩ := hr
  exact oi_go ⟨e0, e1, e2, e3, f1, rfl, f3, f4, f5⟩ h19 rfl (fr_up fr_rf 2 _ (by omega)) (fun _ => hn) ⟨and1 _, hv.2⟩
theorem sim_i31 (hr : ro r x o) (h19 : x 19 = 0) (h7 : ¬ x 7 = 0) (hn : r 9 = 0 ↔ x 17 = 0) (hv : iv r) {w : Int32} (hop : (w &&& (31 : Int32)) = (31 : Int32)) : od (s_P_perform z M r d a lo hi ri t w) (s_X_instr x M d a o lo hi ri w) x := by
  rw [e_P_perform31 z M r d a lo hi ri t w hop, e_X_instr31 x M d a o lo hi ri w hop]
  have f1 := hr.2.2.2.2.1
  unfold s_P_perform31 s_X_instr31
  by_cases hl : ¬ r 4 = (2 : Int32)
  · rw [if_neg hl, if_neg (show ¬ x 1 = (2 : Int32) from fun h => hl (f1.symm.trans h))]
    exact ⟨rfl, rfl, rfl, oi_trap (q := 257) tr257 hr hn hv⟩
  have hl := Classical.not_not.mp hl
  rw [if_pos hl, if_pos (show x 1 = (2 : Int32) from f1.trans hl)]
  refine ⟨rfl, rfl, rfl, ?_⟩
  show oi 2 r x (upd x 7 0) (upd o (ix 0) (if x 19 = 0 then (o (ix 0)) else (o (ix 0))))
  rw [if_pos h19, ix0]
  exact oi_halt (ro_up hr 7 0 (by omega)) h19 rfl (fr_up fr_rf 7 0 (by omega)) hv
theorem sim_i30 (hr : ro r x o) (h19 : x 19 = 0) (h7 : ¬ x 7 = 0) (hn : r 9 = 0 ↔ x 17 = 0) (hv : iv r) {w : Int32} (hop : (w &&& (31 : Int32)) = (30 : Int32)) : od (s_P_perform z M r d a lo hi ri t w) (s_X_instr x M d a o lo hi ri w) x := by
  rw [e_P_perform30 z M r d a lo hi ri t w hop, e_X_instr30 x M d a o lo hi ri w hop]
  have f1 := hr.2.2.2.2.1
  unfold s_P_perform30 s_P_changeLevel s_X_instr30
  by_cases hl : ¬ (s_P_amount w &&& (1 : Int32)) ≤ r 4
  · rw [if_neg hl, if_neg (show ¬ ((w >>> ((16 : Int32) &&& 31)) &&& (1 : Int32)) ≤ x 1 by rw [f1]; exact hl)]
    exact ⟨rfl, rfl, rfl, oi_trap (q := 257) tr257 hr hn hv⟩
  have hl := Classical.not_not.mp hl
  rw [if_pos hl, if_pos (show ((w >>> ((16 : Int32) &&& 31)) &&& (1 : Int32)) ≤ x 1 by rw [f1]; exact hl)]
  refine ⟨rfl, rfl, rfl, ?_⟩
  show oi 0 (upd r 4 ((w >>> ((16 : Int32) &&& 31)) &&& (1 : Int32))) x (upd x 1 ((w >>> ((16 : Int32) &&& 31)) &&& (1 : Int32))) (upd o (ix 0) (if x 19 = 0 then (if x 7 = 0 then (o (ix 0)) else ((o (ix 0)) + 1)) else (o (ix 0))))
  rw [if_pos h19, if_neg h7, ix0]
  obtain ⟨e0, e1, e2, e3, f1, f2, f3, f4, f5⟩ := hr
  exact oi_go ⟨e0, e1, e2, e3, rfl, f2, f3, f4, f5⟩ h19 rfl (fr_up fr_rf 1 _ (by omega)) (fun _ => hn) hv
theorem sim_i18 (hr : ro r x o) (h19 : x 19 = 0) (h7 : ¬ x 7 = 0) (hn : r 9 = 0 ↔ x 17 = 0) (hv : iv r) {w : Int32} (hop : (w &&& (31 : Int32)) = (18 : Int32)) : od (s_P_perform z M r d a lo hi ri t w) (s_X_instr x M d a o lo hi ri w) x := by
  rw [e_P_perform18 z M r d a lo hi ri t w hop, e_X_instr18 x M d a o lo hi ri w hop]
  refine ⟨rfl, rfl, rfl, ?_⟩
  show oi 1 (upd r 0 ((r 0) + (w >>> ((16 : Int32) &&& 31)))) x x (upd o (ix 0) (if x 19 = 0 then (if x 7 = 0 then (o (ix 0)) else ((o (ix 0)) + (w >>> ((16 : Int32) &&& 31)))) else (o (ix 0))))
  rw [if_pos h19, if_neg h7, ix0, hr.1]
  exact oi_to hr h19 rfl fr_rf (fun _ => hn) hv
theorem sim_i19 (hr : ro r x o) (h19 : x 19 = 0) (h7 : ¬ x 7 = 0) (hn : r 9 = 0 ↔ x 17 = 0) (hv : iv r) {w : Int32} (hop : (w &&& (31 : Int32)) = (19 : Int32)) : od (s_P_perform z M r d a lo hi ri t w) (s_X_instr x M d a o lo hi ri w) x := by
  rw [e_P_perform19 z M r d a lo hi ri t w hop, e_X_instr19 x M d a o lo hi ri w hop]
  unfold s_P_perform19 s_P_jump19 s_X_instr19 s_X_jump19
  rw [if_pos h19, if_neg h7, ix0, hr.1]
  by_cases hc : d (ix (s_P_fieldA w)) = 0
  · rw [if_pos hc, if_pos (show d (ix ((w >>> ((5 : Int32) &&& 31)) &&& (7 : Int32))) = 0 from hc)]
    exact ⟨rfl, rfl, rfl, oi_to hr h19 rfl fr_rf (fun _ => hn) hv⟩
  · rw [if_neg hc, if_neg (show ¬ d (ix ((w >>> ((5 : Int32) &&& 31)) &&& (7 : Int32))) = 0 from hc), ← hr.1]
    exact ⟨rfl, rfl, rfl, oi_go hr h19 rfl fr_rf (fun _ => hn) hv⟩
theorem sim_i20 (hr : ro r x o) (h19 : x 19 = 0) (h7 : ¬ x 7 = 0) (hn : r 9 = 0 ↔ x 17 = 0) (hv : iv r) {w : Int32} (hop : (w &&& (31 : Int32)) = (20 : Int32)) : od (s_P_perform z M r d a lo hi ri t w) (s_X_instr x M d a o lo hi ri w) x := by
  rw [e_P_perform20 z M r d a lo hi ri t w hop, e_X_instr20 x M d a o lo hi ri w hop]
  unfold s_P_perform20 s_P_jump20 s_X_instr20 s_X_jump20
  rw [if_pos h19, if_neg h7, ix0, hr.1]
  by_cases hc : d (ix (s_P_fieldB w)) ≤ d (ix (s_P_fieldA w))
  · have hc2 : ¬ d (ix ((w >>> ((5 : Int32) &&& 31)) &&& (7 : Int32))) < d (ix ((w >>> ((8 : Int32) &&& 31)) &&& (7 : Int32))) := fun h => by
      have h1 : d (ix (s_P_fieldA w)) < d (ix (s_P_fieldB w)) := h
      rw [ni_lt] at h1; rw [ni_le] at hc; omega
    rw [if_pos hc]
    first | rw [if_pos (show d (ix ((w >>> ((8 : Int32) &&& 31)) &&& (7 : Int32))) ≤ d (ix ((w >>> ((5 : Int32) &&& 31)) &&& (7 : Int32))) from hc)] | rw [if_neg hc2]
    rw [← hr.1]
    exact ⟨rfl, rfl, rfl, oi_go hr h19 rfl fr_rf (fun _ => hn) hv⟩
  · rw [if_neg hc, if_neg (show ¬ d (ix ((w >>> ((8 : Int32) &&& 31)) &&& (7 : Int32))) ≤ d (ix ((w >>> ((5 : Int32) &&& 31)) &&& (7 : Int32))) from hc)]
    exact ⟨rfl, rfl, rfl, oi_to hr h19 rfl fr_rf (fun _ => hn) hv⟩
end SI
