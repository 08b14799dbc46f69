/-! contexts: calls, returns, keeping, bringing back -/
section SC
variable {z r t x o M d a lo hi ri : Nat → Int32}
theorem tr770 : 0 < (770 : Int32) ∧ ¬ (770 : Int32) = 1 ∧ ¬ (770 : Int32) = 2 := by decide
theorem tr771 : 0 < (771 : Int32) ∧ ¬ (771 : Int32) = 1 ∧ ¬ (771 : Int32) = 2 := by decide
theorem tr772 : 0 < (772 : Int32) ∧ ¬ (772 : Int32) = 1 ∧ ¬ (772 : Int32) = 2 := by decide
theorem dn_keep2 {n : Int32} (hd : r 9 = 0 ↔ x 17 = 0) : ((if n &&& (31 : Int32) = r 2 then 1 else r 9) = 0) ↔ (if (x 17) = 0 then (if n &&& (31 : Int32) = r 2 then (1 : Int32) else (0 : Int32)) else (1 : Int32)) = 0 := by
  by_cases hq : n &&& (31 : Int32) = r 2
  · rw [if_pos hq, if_pos hq]
    by_cases h17 : x 17 = 0
    · rw [if_pos h17]
    · rw [if_neg h17]
  · rw [if_neg hq, if_neg hq, hd]
    by_cases h17 : x 17 = 0
    · rw [if_pos h17]; simp [h17]
    · rw [if_neg h17]; simp [h17]
/-- ro without the PC -/
def rq (r x o : Nat → Int32) : Prop := o 1 = r 1 ∧ o 2 = r 2 ∧ o 3 = r 3 ∧ x 1 = r 4 ∧ x 2 = r 5 ∧ x 3 = r 6 ∧ x 4 = r 7 ∧ x 5 = r 8
theorem sim_bringUq (hr : rq r x o) (h : ¬ s_X_isArea (r 3 &&& (31 : Int32)) = 0) : (s_X_bringU x M d a o lo hi ri).2.1 = (s_R_bringBackU r d a M).2.2.2 ∧ (s_X_bringU x M d a o lo hi ri).2.2.1 = (s_R_bringBackU r d a M).2.1 ∧ (s_X_bringU x M d a o lo hi ri).2.2.2.1 = (s_R_bringBackU r d a M).2.2.1 ∧ rq (s_R_bringBackU r d a M).1 (s_X_bringU x M d a o lo hi ri).1 (s_X_bringU x M d a o lo hi ri).2.2.2.2 ∧ (∀ k, k ≠ 1 → k ≠ 2 → k ≠ 3 → (s_X_bringU x M d a o lo hi ri).1 k = x k) ∧ (s_R_bringBackU r d a M).1 9 = r 9 ∧ (s_R_bringBackU r d a M).1 0 = r 0 ∧ (s_R_bringBackU r d a M).1 7 = r 7 ∧ (s_R_bringBackU r d a M).1 8 = r 8 ∧ ((s_R_bringBackU r d a M).1 5 = 0 ∨ (s_R_bringBackU r d a M).1 5 = 1) := by
  have e5 : (s_R_bringBackU r d a M).1 5 = 0 ∨ (s_R_bringBackU r d a M).1 5 = 1 := and1 _
  obtain ⟨e1, e2, e3, f1, f2, f3, f4, f5⟩ := hr
  refine ⟨?_, ?_, ?_, ?_, fun k h1 h2 h3 => by unfold s_X_bringU; simp only [upd, if_neg h1, if_neg h2, if_neg h3], rfl, rfl, rfl, rfl, e5⟩
  all_goals unfold s_X_bringU s_R_bringBackU s_R_takeState
  all_goals simp only [start_same h, read_in (in_w0 h), read_in (in_w1 (c := (1 : Int32)) h (by decide)), read_in (in_w1 (c := (2 : Int32)) h (by decide)), read_in (in_w1 (c := (3 : Int32)) h (by decide)), read_in (in_w2 (c := (0 : Int32)) h (by decide)), read_in (in_w2 (c := (1 : Int32)) h (by decide)), read_in (in_w2 (c := (2 : Int32)) h (by decide)), read_in (in_w2 (c := (3 : Int32)) h (by decide)), write_in (in_w0 h), ix0, ix1, ix2, ix3, ix4, ix5, ix6, ix7, e3, lvl_same]
  · show upd M _ (o 1) = upd M _ (r 1)
    rw [e1]
  · exact ⟨rfl, e2, rfl, rfl, rfl, rfl, f4, f5⟩
/-- may it be brought back? no area; another kind; yes -/
theorem refU0 (e3 : o 3 = r 3) (h : s_X_isArea (r 3 &&& (31 : Int32)) = 0) : s_R_refuseBackU r d a = 2 ∧ s_X_canBringU x M d a o lo hi ri = (0, upd x 7 0) := by
  unfold s_R_refuseBackU s_X_canBringU
  rw [area_same, ix3, e3, if_pos h, if_pos h]
  exact ⟨rfl, rfl⟩
theorem refU1 (e3 : o 3 = r 3) (h : ¬ s_X_isArea (r 3 &&& (31 : Int32)) = 0) (hk : (r 3 &&& (32 : Int32)) = 0) : s_R_refuseBackU r d a = 772 ∧ s_X_canBringU x M d a o lo hi ri = (0, upd x 19 772) := by
  unfold s_R_refuseBackU s_X_canBringU
  rw [area_same, ix3, e3, if_neg h, if_neg h, if_pos hk]
  exact ⟨rfl, rfl⟩
theorem refU2 (e3 : o 3 = r 3) (h : ¬ s_X_isArea (r 3 &&& (31 : Int32)) = 0) (hk : ¬ (r 3 &&& (32 : Int32)) = 0) : s_R_refuseBackU r d a = 0 ∧ s_X_canBringU x M d a o lo hi ri = (1, upd x 19 (x 19)) := by
  unfold s_R_refuseBackU s_X_canBringU
  rw [area_same, ix3, e3, if_neg h, if_neg h, if_neg hk]
  exact ⟨rfl, rfl⟩
theorem refL0 (e3 : o 3 = r 3) (h : s_X_isArea (r 3 &&& (31 : Int32)) = 0) : s_R_refuseBackL r d a = 2 ∧ s_X_canBringL x M d a o lo hi ri = (0, upd x 7 0) := by
  unfold s_R_refuseBackL s_X_canBringL
  rw [area_same, ix3, e3, if_pos h, if_pos h]
  exact ⟨rfl, rfl⟩
theorem refL1 (e3 : o 3 = r 3) (h : ¬ s_X_isArea (r 3 &&& (31 : Int32)) = 0) (hk : ¬ (r 3 &&& (32 : Int32)) = 0) : s_R_refuseBackL r d a = 772 ∧ s_X_canBringL x M d a o lo hi ri = (0, upd x 19 772) := by
  unfold s_R_refuseBackL s_X_canBringL
  rw [area_same, ix3, e3, if_neg h, if_neg h, if_neg hk]
  exact ⟨rfl, rfl⟩
theorem refL2 (e3 : o 3 = r 3) (h : ¬ s_X_isArea (r 3 &&& (31 : Int32)) = 0) (hk : (r 3 &&& (32 : Int32)) = 0) : s_R_refuseBackL r d a = 0 ∧ s_X_canBringL x M d a o lo hi ri = (1, upd x 19 (x 19)) := by
  unfold s_R_refuseBackL s_X_canBringL
  rw [area_same, ix3, e3, if_neg h, if_neg h, if_pos hk]
  exact ⟨rfl, rfl⟩

theorem sim_i21 (hr : ro r x o) (h19 : x 19 = 0) (h7 : ¬ x 7 = 0) (hn : r 9 = 0 ↔ x 17 = 0) (hv : iv r) {w : Int32} (hop : (w &&& (31 : Int32)) = (21 : Int32)) : od (s_P_perform z M r d a lo hi ri t w) (s_X_instr x M d a o lo hi ri w) x := by
  rw [e_P_perform21 z M r d a lo hi ri t w hop, e_X_instr21 x M d a o lo hi ri w hop]
  have hro := hr
  obtain ⟨e0, e1, e2, e3, f1, f2, f3, f4, f5⟩ := hro
  by_cases hd : r 6 = (15 : Int32)
  · have hp : s_P_perform21 z M r d a lo hi ri t w = (770, M, r, a) := by
      unfold s_P_perform21 s_P_callDown
      rw [if_pos hd]
    have hx : s_X_context21 x M d a o lo hi ri (w >>> ((16 : Int32) &&& 31)) = ((o 0) + 1, upd x 19 770, M, a, o) := by
      unfold s_X_context21
      rw [if_pos (f3.trans hd), ix0]
    unfold s_X_instr21
    rw [hp, hx, ix0]
    exact ⟨rfl, rfl, rfl, oi_trap tr770 (ro_o0 hr) hn hv⟩
  by_cases ha : s_X_isArea (r 1 &&& (31 : Int32)) = 0
  · have hp : s_P_perform21 z M r d a lo hi ri t w = (2, M, r, a) := by
      unfold s_P_perform21 s_P_callDown
      rw [if_neg hd, keepU_c0 ha, if_pos rfl]
    have hx : s_X_context21 x M d a o lo hi ri (w >>> ((16 : Int32) &&& 31)) = ((o 0) + 1, upd x 7 0, M, a, o) := by
      unfold s_X_context21
      rw [if_neg (fun h => hd (f3.symm.trans h)), keepU_x0 (by rw [e1]; exact ha), if_pos rfl, ix0]
    unfold s_X_instr21
    rw [hp, hx, ix0]
    refine ⟨rfl, rfl, rfl, ?_⟩
    show oi 2 r x (upd x 7 0) (upd o 0 (if x 19 = 0 then (o 0) else (o 0)))
    rw [if_pos h19]
    exact oi_halt (ro_up hr 7 0 (by omega)) h19 rfl (fr_up fr_rf 7 0 (by omega)) hv
  · obtain ⟨rK, hkc, k0, k1, k2, k3, k4, k5, k6, k7, k8, k9⟩ := keepU_c (r := r) (M := M) (d := d) (a := a) ha
    have hp : s_P_perform21 z M r d a lo hi ri t w = (1, kMU r d a M, upd (upd rK 6 ((rK 6) + 1)) 0 ((rK 0) + (w >>> ((16 : Int32) &&& 31))), upd a 7 ((rK 0) + 1)) := by
      unfold s_P_perform21 s_P_callDown
      rw [if_neg hd, hkc, if_neg ne_10, ix7]
      rfl
    have hx : s_X_context21 x M d a o lo hi ri (w >>> ((16 : Int32) &&& 31)) = ((o 0) + (w >>> ((16 : Int32) &&& 31)), upd (upd x 17 (if (x 17) = 0 then (if nxt r M &&& (31 : Int32) = r 2 then (1 : Int32) else (0 : Int32)) else (1 : Int32))) 3 ((x 3) + 1), kMU r d a M, upd a 7 ((o 0) + 1), upd (upd o 1 (nxt r M)) 3 (lkU r)) := by
      unfold s_X_context21
      rw [if_neg (fun h => hd (f3.symm.trans h)), keepU_x1 hr ha, if_neg ne_10, ix0, ix7]
      rfl
    unfold s_X_instr21
    rw [hp, hx, ix0, k0, e0]
    refine ⟨rfl, rfl, rfl, ?_⟩
    show oi 1 (upd (upd rK 6 ((rK 6) + 1)) 0 ((r 0) + (w >>> ((16 : Int32) &&& 31)))) x (upd (upd x 17 (if (x 17) = 0 then (if nxt r M &&& (31 : Int32) = r 2 then (1 : Int32) else (0 : Int32)) else (1 : Int32))) 3 ((x 3) + 1)) (upd (upd (upd o 1 (nxt r M)) 3 (lkU r)) 0 (if x 19 = 0 then (if x 7 = 0 then (o 0) else ((r 0) + (w >>> ((16 : Int32) &&& 31)))) else (o 0)))
    rw [if_pos h19, if_neg h7]
    refine oi_to ⟨e0.trans k0.symm, k1.symm, e2.trans k2.symm, k3.symm, f1.trans k4.symm, f2.trans k5.symm, ?_, f4.trans k7.symm, f5.trans k8.symm⟩ h19 rfl (fr_up (fr_up fr_rf 17 _ (by omega)) 3 _ (by omega)) (fun _ => ?_) ⟨?_, ?_, ?_⟩
    · show (x 3) + 1 = (rK 6) + 1
      rw [f3, k6]
    · show rK 9 = 0 ↔ _
      rw [k9]
      exact dn_keep2 hn
    · show rK 5 = 0 ∨ rK 5 = 1
      rw [k5]; exact hv.1
    · show rK 8 = 0 ∨ rK 8 = 1
      rw [k8]; exact hv.2.1
    · show ¬ rK 7 < 0
      rw [k7]; exact hv.2.2
theorem sim_i23 (hr : ro r x o) (h19 : x 19 = 0) (h7 : ¬ x 7 = 0) (hn : r 9 = 0 ↔ x 17 = 0) (hv : iv r) {w : Int32} (hop : (w &&& (31 : Int32)) = (23 : Int32)) : od (s_P_perform z M r d a lo hi ri t w) (s_X_instr x M d a o lo hi ri w) x := by
  rw [e_P_perform23 z M r d a lo hi ri t w hop, e_X_instr23 x M d a o lo hi ri w hop]
  have hro := hr
  obtain ⟨e0, e1, e2, e3, f1, f2, f3, f4, f5⟩ := hro
  by_cases ha : s_X_isArea (r 1 &&& (31 : Int32)) = 0
  · have hp : s_P_perform23 z M r d a lo hi ri t w = (2, M, r) := by
      unfold s_P_perform23 s_P_keepLower
      rw [keepL_c0 ha, if_pos rfl]
    have hx : s_X_context23 x M d a o lo hi ri (w >>> ((16 : Int32) &&& 31)) = ((o 0) + 1, upd x 7 0, M, o) := by
      unfold s_X_context23
      rw [keepL_x0 (by rw [e1]; exact ha), if_pos rfl, ix0]
    unfold s_X_instr23
    rw [hp, hx, ix0]
    refine ⟨rfl, rfl, rfl, ?_⟩
    show oi 2 r x (upd x 7 0) (upd o 0 (if x 19 = 0 then (o 0) else (o 0)))
    rw [if_pos h19]
    exact oi_halt (ro_up hr 7 0 (by omega)) h19 rfl (fr_up fr_rf 7 0 (by omega)) hv
  · obtain ⟨rK, hkc, k0, k1, k2, k3, k4, k5, k6, k7, k8, k9⟩ := keepL_c (r := r) (M := M) (d := d) (a := a) ha
    have hp : s_P_perform23 z M r d a lo hi ri t w = (0, kML r d a M, rK) := by
      unfold s_P_perform23 s_P_keepLower
      rw [hkc, if_neg ne_10]
    have hx : s_X_context23 x M d a o lo hi ri (w >>> ((16 : Int32) &&& 31)) = ((o 0) + 1, upd x 17 (if (x 17) = 0 then (if nxt r M &&& (31 : Int32) = r 2 then (1 : Int32) else (0 : Int32)) else (1 : Int32)), kML r d a M, upd (upd o 1 (nxt r M)) 3 (lkL r)) := by
      unfold s_X_context23
      rw [keepL_x1 hr ha, if_neg ne_10, ix0]
    unfold s_X_instr23
    rw [hp, hx, ix0]
    refine ⟨rfl, rfl, rfl, ?_⟩
    show oi 0 rK x (upd x 17 (if (x 17) = 0 then (if nxt r M &&& (31 : Int32) = r 2 then (1 : Int32) else (0 : Int32)) else (1 : Int32))) (upd (upd (upd o 1 (nxt r M)) 3 (lkL r)) 0 (if x 19 = 0 then (if x 7 = 0 then (o 0) else ((o 0) + 1)) else (o 0)))
    rw [if_pos h19, if_neg h7]
    refine oi_go (o1 := upd (upd o 1 (nxt r M)) 3 (lkL r)) ⟨e0.trans k0.symm, k1.symm, e2.trans k2.symm, k3.symm, f1.trans k4.symm, f2.trans k5.symm, f3.trans k6.symm, f4.trans k7.symm, f5.trans k8.symm⟩ h19 rfl (fr_up fr_rf 17 _ (by omega)) (fun _ => ?_) ⟨?_, ?_, ?_⟩
    · rw [k9]
      exact dn_keep2 hn
    · rw [k5]; exact hv.1
    · rw [k8]; exact hv.2.1
    · rw [k7]; exact hv.2.2
theorem sim_i25 (hr : ro r x o) (h19 : x 19 = 0) (h7 : ¬ x 7 = 0) (hn : r 9 = 0 ↔ x 17 = 0) (hv : iv r) {w : Int32} (hop : (w &&& (31 : Int32)) = (25 : Int32)) : od (s_P_perform z M r d a lo hi ri t w) (s_X_instr x M d a o lo hi ri w) x := by
  rw [e_P_perform25 z M r d a lo hi ri t w hop, e_X_instr25 x M d a o lo hi ri w hop]
  have hro := hr
  obtain ⟨e0, e1, e2, e3, f1, f2, f3, f4, f5⟩ := hro
  unfold s_X_instr25
  by_cases hl : ¬ r 4 = (2 : Int32)
  · have hp : s_P_perform25 z M r d a lo hi ri t w = (257, M, r) := by
      unfold s_P_perform25
      rw [if_neg hl]
    rw [hp, if_neg (show ¬ x 1 = (2 : Int32) from fun h => hl (f1.symm.trans h))]
    exact ⟨rfl, rfl, rfl, oi_trap (q := 257) tr257 hr hn hv⟩
  have hl := Classical.not_not.mp hl
  rw [if_pos (show x 1 = (2 : Int32) from f1.trans hl)]
  by_cases ha : s_X_isArea (r 1 &&& (31 : Int32)) = 0
  · have hp : s_P_perform25 z M r d a lo hi ri t w = (2, M, r) := by
      unfold s_P_perform25 s_P_openHandler
      rw [if_pos hl, keepL_c0 ha, if_pos rfl]
    have hx : s_X_context25 x M d a o lo hi ri (w >>> ((16 : Int32) &&& 31)) = ((o 0) + 1, upd x 7 0, M, o) := by
      unfold s_X_context25
      rw [keepL_x0 (by rw [e1]; exact ha), if_pos rfl, ix0]
    rw [hp, hx, ix0]
    refine ⟨rfl, rfl, rfl, ?_⟩
    show oi 2 r x (upd x 7 0) (upd o 0 (if x 19 = 0 then (o 0) else (o 0)))
    rw [if_pos h19]
    exact oi_halt (ro_up hr 7 0 (by omega)) h19 rfl (fr_up fr_rf 7 0 (by omega)) hv
  · obtain ⟨rK, hkc, k0, k1, k2, k3, k4, k5, k6, k7, k8, k9⟩ := keepL_c (r := r) (M := M) (d := d) (a := a) ha
    have hp : s_P_perform25 z M r d a lo hi ri t w = (0, kML r d a M, upd (upd rK 7 ((w >>> ((16 : Int32) &&& 31)) &&& (15 : Int32))) 8 1) := by
      unfold s_P_perform25 s_P_openHandler
      rw [if_pos hl, hkc, if_neg ne_10]
      rfl
    have hx : s_X_context25 x M d a o lo hi ri (w >>> ((16 : Int32) &&& 31)) = ((o 0) + 1, upd (upd (upd x 17 (if (x 17) = 0 then (if nxt r M &&& (31 : Int32) = r 2 then (1 : Int32) else (0 : Int32)) else (1 : Int32))) 4 ((w >>> ((16 : Int32) &&& 31)) &&& (15 : Int32))) 5 1, kML r d a M, upd (upd o 1 (nxt r M)) 3 (lkL r)) := by
      unfold s_X_context25
      rw [keepL_x1 hr ha, if_neg ne_10, ix0]
    rw [hp, hx, ix0]
    refine ⟨rfl, rfl, rfl, ?_⟩
    show oi 0 (upd (upd rK 7 ((w >>> ((16 : Int32) &&& 31)) &&& (15 : Int32))) 8 1) x (upd (upd (upd x 17 (if (x 17) = 0 then (if nxt r M &&& (31 : Int32) = r 2 then (1 : Int32) else (0 : Int32)) else (1 : Int32))) 4 ((w >>> ((16 : Int32) &&& 31)) &&& (15 : Int32))) 5 1) (upd (upd (upd o 1 (nxt r M)) 3 (lkL r)) 0 (if x 19 = 0 then (if x 7 = 0 then (o 0) else ((o 0) + 1)) else (o 0)))
    rw [if_pos h19, if_neg h7]
    refine oi_go (o1 := upd (upd o 1 (nxt r M)) 3 (lkL r)) ⟨e0.trans k0.symm, k1.symm, e2.trans k2.symm, k3.symm, f1.trans k4.symm, f2.trans k5.symm, f3.trans k6.symm, rfl, rfl⟩ h19 rfl (fr_up (fr_up (fr_up fr_rf 17 _ (by omega)) 4 _ (by omega)) 5 _ (by omega)) (fun _ => ?_) ⟨?_, Or.inr rfl, and15 _⟩
    · show rK 9 = 0 ↔ _
      rw [k9]
      exact dn_keep2 hn
    · show rK 5 = 0 ∨ rK 5 = 1
      rw [k5]; exact hv.1
theorem sim_i24 (hr : ro r x o) (h19 : x 19 = 0) (h7 : ¬ x 7 = 0) (hn : r 9 = 0 ↔ x 17 = 0) (hv : iv r) {w : Int32} (hop : (w &&& (31 : Int32)) = (24 : Int32)) : od (s_P_perform z M r d a lo hi ri t w) (s_X_instr x M d a o lo hi ri w) x := by
  rw [e_P_perform24 z M r d a lo hi ri t w hop, e_X_instr24 x M d a o lo hi ri w hop]
  have hro := hr
  obtain ⟨e0, e1, e2, e3, f1, f2, f3, f4, f5⟩ := hro
  by_cases ha : s_X_isArea (r 3 &&& (31 : Int32)) = 0
  · obtain ⟨g1, g2⟩ := refL0 (d := d) (a := a) (x := x) (M := M) (lo := lo) (hi := hi) (ri := ri) e3 ha
    have hp : s_P_perform24 z M r d a lo hi ri t w = (2, M, r, d, a) := by
      unfold s_P_perform24 s_P_bringLowerBack
      rw [g1]; rfl
    have hx : s_X_context24 x M d a o lo hi ri (w >>> ((16 : Int32) &&& 31)) = ((o 0) + 1, upd x 7 0, M, d, a, o) := by
      unfold s_X_context24
      rw [g2, if_pos rfl, ix0]
    unfold s_X_instr24
    rw [hp, hx, ix0]
    refine ⟨rfl, rfl, rfl, ?_⟩
    show oi 2 r x (upd x 7 0) (upd o 0 (if x 19 = 0 then (o 0) else (o 0)))
    rw [if_pos h19]
    exact oi_halt (ro_up hr 7 0 (by omega)) h19 rfl (fr_up fr_rf 7 0 (by omega)) hv
  by_cases hk : (r 3 &&& (32 : Int32)) = 0
  · obtain ⟨g1, g2⟩ := refL2 (d := d) (a := a) (x := x) (M := M) (lo := lo) (hi := hi) (ri := ri) e3 ha hk
    obtain ⟨b1, b2, b3, b4, b5⟩ := sim_bringL (M := M) (d := d) (a := a) (lo := lo) (hi := hi) (ri := ri) (ro_up hr 19 (x 19) (by omega)) ha
    have hp : s_P_perform24 z M r d a lo hi ri t w = (0, (s_R_bringBackL r d a M).2.2.2, (s_R_bringBackL r d a M).1, (s_R_bringBackL r d a M).2.1, (s_R_bringBackL r d a M).2.2.1) := by
      unfold s_P_perform24 s_P_bringLowerBack
      rw [g1, if_pos rfl]
    have hx : s_X_context24 x M d a o lo hi ri (w >>> ((16 : Int32) &&& 31)) = ((o 0) + 1, upd x 19 (x 19), (s_X_bringL (upd x 19 (x 19)) M d a o lo hi ri).1, (s_X_bringL (upd x 19 (x 19)) M d a o lo hi ri).2.1, (s_X_bringL (upd x 19 (x 19)) M d a o lo hi ri).2.2.1, (s_X_bringL (upd x 19 (x 19)) M d a o lo hi ri).2.2.2) := by
      unfold s_X_context24
      rw [g2, if_neg ne_10, ix0]
    unfold s_X_instr24
    rw [hp, hx, ix0]
    refine ⟨b1, b2, b3, ?_⟩
    show oi 0 (s_R_bringBackL r d a M).1 x (upd x 19 (x 19)) (upd (s_X_bringL (upd x 19 (x 19)) M d a o lo hi ri).2.2.2 0 (if x 19 = 0 then (if x 7 = 0 then _ else ((o 0) + 1)) else _))
    rw [if_pos h19, if_neg h7]
    exact oi_go (o1 := (s_X_bringL (upd x 19 (x 19)) M d a o lo hi ri).2.2.2) b4 h19 rfl (fr_up fr_rf 19 _ (by omega)) (fun _ => by rw [b5]; exact hn) hv
  · obtain ⟨g1, g2⟩ := refL1 (d := d) (a := a) (x := x) (M := M) (lo := lo) (hi := hi) (ri := ri) e3 ha hk
    have hp : s_P_perform24 z M r d a lo hi ri t w = (772, M, r, d, a) := by
      unfold s_P_perform24 s_P_bringLowerBack
      rw [g1]; rfl
    have hx : s_X_context24 x M d a o lo hi ri (w >>> ((16 : Int32) &&& 31)) = ((o 0) + 1, upd x 19 772, M, d, a, o) := by
      unfold s_X_context24
      rw [g2, if_pos rfl, ix0]
    unfold s_X_instr24
    rw [hp, hx, ix0]
    exact ⟨rfl, rfl, rfl, oi_trap (q := 772) tr772 (ro_o0 hr) hn hv⟩
theorem sim_i22 (hr : ro r x o) (h19 : x 19 = 0) (h7 : ¬ x 7 = 0) (hn : r 9 = 0 ↔ x 17 = 0) (hv : iv r) {w : Int32} (hop : (w &&& (31 : Int32)) = (22 : Int32)) : od (s_P_perform z M r d a lo hi ri t w) (s_X_instr x M d a o lo hi ri w) x := by
  rw [e_P_perform22 z M r d a lo hi ri t w hop, e_X_instr22 x M d a o lo hi ri w hop]
  have hro := hr
  obtain ⟨e0, e1, e2, e3, f1, f2, f3, f4, f5⟩ := hro
  by_cases hd : r 6 = 0
  · have hp : s_P_perform22 z M r d a lo hi ri t w = (771, M, r, d, a) := by
      unfold s_P_perform22
      rw [if_pos hd]
    have hx : s_X_context22 x M d a o lo hi ri (w >>> ((16 : Int32) &&& 31)) = ((o 0) + 1, upd x 19 771, M, d, a, o) := by
      unfold s_X_context22
      rw [if_pos (f3.trans hd), ix0]
    unfold s_X_instr22
    rw [hp, hx, ix0]
    exact ⟨rfl, rfl, rfl, oi_trap (q := 771) tr771 (ro_o0 hr) hn hv⟩
  by_cases ha : s_X_isArea (r 3 &&& (31 : Int32)) = 0
  · obtain ⟨g1, g2⟩ := refU0 (d := d) (a := a) (x := x) (M := M) (lo := lo) (hi := hi) (ri := ri) e3 ha
    have hp : s_P_perform22 z M r d a lo hi ri t w = (2, M, r, d, a) := by
      unfold s_P_perform22
      rw [if_neg hd]
      unfold s_P_goBackR
      rw [g1]; rfl
    have hx : s_X_context22 x M d a o lo hi ri (w >>> ((16 : Int32) &&& 31)) = ((o 0) + 1, upd x 7 0, M, d, a, o) := by
      unfold s_X_context22
      rw [if_neg (fun h => hd (f3.symm.trans h)), g2, if_pos rfl, ix0]
    unfold s_X_instr22
    rw [hp, hx, ix0]
    refine ⟨rfl, rfl, rfl, ?_⟩
    show oi 2 r x (upd x 7 0) (upd o 0 (if x 19 = 0 then (o 0) else (o 0)))
    rw [if_pos h19]
    exact oi_halt (ro_up hr 7 0 (by omega)) h19 rfl (fr_up fr_rf 7 0 (by omega)) hv
  by_cases hk : (r 3 &&& (32 : Int32)) = 0
  · obtain ⟨g1, g2⟩ := refU1 (d := d) (a := a) (x := x) (M := M) (lo := lo) (hi := hi) (ri := ri) e3 ha hk
    have hp : s_P_perform22 z M r d a lo hi ri t w = (772, M, r, d, a) := by
      unfold s_P_perform22
      rw [if_neg hd]
      unfold s_P_goBackR
      rw [g1]; rfl
    have hx : s_X_context22 x M d a o lo hi ri (w >>> ((16 : Int32) &&& 31)) = ((o 0) + 1, upd x 19 772, M, d, a, o) := by
      unfold s_X_context22
      rw [if_neg (fun h => hd (f3.symm.trans h)), g2, if_pos rfl, ix0]
    unfold s_X_instr22
    rw [hp, hx, ix0]
    exact ⟨rfl, rfl, rfl, oi_trap (q := 772) tr772 (ro_o0 hr) hn hv⟩
  · obtain ⟨g1, g2⟩ := refU2 (d := d) (a := a) (x := x) (M := M) (lo := lo) (hi := hi) (ri := ri) e3 ha hk
    generalize hr1 : upd r 0 (a 7) = r1
    generalize hx1 : upd (upd (upd x 19 (x 19)) 4 (x 4)) 5 (x 5) = x1
    have q1 : rq r1 x1 o := by subst hr1; subst hx1; exact ⟨e1, e2, e3, f1, f2, f3, f4, f5⟩
    have q2 : ¬ s_X_isArea (r1 3 &&& (31 : Int32)) = 0 := by subst hr1; exact ha
    have q3 : r1 0 = a 7 := by subst hr1; rfl
    have q4 : r1 9 = r 9 := by subst hr1; rfl
    have q5 : ∀ k, (k = 0 ∨ 6 ≤ k) → k ≠ 7 → k ≠ 17 → k ≠ 19 → x1 k = x k := by subst hx1; exact fr_up (fr_up (fr_up fr_rf 19 _ (by omega)) 4 _ (by omega)) 5 _ (by omega)
    have q6 : x1 7 = x 7 ∧ x1 17 = x 17 ∧ x1 19 = x 19 := by subst hx1; exact ⟨rfl, rfl, rfl⟩
    have q7 : (r1 8 = 0 ∨ r1 8 = 1) ∧ ¬ r1 7 < 0 := by subst hr1; exact hv.2
    obtain ⟨b1, b2, b3, b4, b5, b6, b7, b8, b9, b10⟩ := sim_bringUq (M := M) (d := d) (a := a) (lo := lo) (hi := hi) (ri := ri) q1 q2
    have hp : s_P_perform22 z M r d a lo hi ri t w = (1, (s_R_bringBackU r1 d a M).2.2.2, (s_R_bringBackU r1 d a M).1, (s_R_bringBackU r1 d a M).2.1, (s_R_bringBackU r1 d a M).2.2.1) := by
      unfold s_P_perform22
      rw [if_neg hd]
      unfold s_P_goBackR
      rw [g1, if_pos rfl, ix7, hr1]
    have hx : s_X_context22 x M d a o lo hi ri (w >>> ((16 : Int32) &&& 31)) = (a 7, (s_X_bringU x1 M d a o lo hi ri).1, (s_X_bringU x1 M d a o lo hi ri).2.1, (s_X_bringU x1 M d a o lo hi ri).2.2.1, (s_X_bringU x1 M d a o lo hi ri).2.2.2.1, (s_X_bringU x1 M d a o lo hi ri).2.2.2.2) := by
      unfold s_X_context22
      rw [if_neg (fun h => hd (f3.symm.trans h)), g2, if_neg ne_10, ix7]
      subst hx1
      rfl
    unfold s_X_instr22
    rw [hp, hx, ix0]
    refine ⟨b1, b2, b3, ?_⟩
    show oi 1 (s_R_bringBackU r1 d a M).1 x (s_X_bringU x1 M d a o lo hi ri).1 (upd (s_X_bringU x1 M d a o lo hi ri).2.2.2.2 0 (if (s_X_bringU x1 M d a o lo hi ri).1 19 = 0 then (if (s_X_bringU x1 M d a o lo hi ri).1 7 = 0 then _ else (a 7)) else _))
    rw [b5 19 (by omega) (by omega) (by omega), b5 7 (by omega) (by omega) (by omega), q6.2.2, q6.1, if_pos h19, if_neg h7]
    refine ⟨fun k h0 h1 h2 h3 => (b5 k (by omega) (by omega) (by omega)).trans (q5 k h0 h1 h2 h3), fun _ => ?_, ⟨b10, ?_, ?_⟩, Or.inr (Or.inl ⟨rfl, ?_, ?_, ?_⟩)⟩
    · rw [b6, q4, b5 17 (by omega) (by omega) (by omega), q6.2.1]; exact hn
    · rw [b9]; exact q7.1
    · rw [b8]; exact q7.2
    · rw [b5 19 (by omega) (by omega) (by omega), q6.2.2]; exact h19
    · rw [b5 7 (by omega) (by omega) (by omega), q6.1]
    · exact ⟨by rw [b7, q3]; rfl, b4⟩
theorem sim_i26 (hr : ro r x o) (h19 : x 19 = 0) (h7 : ¬ x 7 = 0) (hn : r 9 = 0 ↔ x 17 = 0) (hv : iv r) {w : Int32} (hop : (w &&& (31 : Int32)) = (26 : Int32)) : od (s_P_perform z M r d a lo hi ri t w) (s_X_instr x M d a o lo hi ri w) x := by
  rw [e_P_perform26 z M r d a lo hi ri t w hop, e_X_instr26 x M d a o lo hi ri w hop]
  have hro := hr
  obtain ⟨e0, e1, e2, e3, f1, f2, f3, f4, f5⟩ := hro
  unfold s_X_instr26
  by_cases hl : ¬ r 4 = (2 : Int32)
  · have hp : s_P_perform26 z M r d a lo hi ri t w = (257, M, r, d, a) := by
      unfold s_P_perform26
      rw [if_neg hl]
    rw [hp, if_neg (show ¬ x 1 = (2 : Int32) from fun h => hl (f1.symm.trans h))]
    exact ⟨rfl, rfl, rfl, oi_trap (q := 257) tr257 hr hn hv⟩
  have hl := Classical.not_not.mp hl
  rw [if_pos (show x 1 = (2 : Int32) from f1.trans hl)]
  by_cases ha : s_X_isArea (r 3 &&& (31 : Int32)) = 0
  · obtain ⟨g1, g2⟩ := refU0 (d := d) (a := a) (x := x) (M := M) (lo := lo) (hi := hi) (ri := ri) e3 ha
    have hp : s_P_perform26 z M r d a lo hi ri t w = (2, M, r, d, a) := by
      unfold s_P_perform26
      rw [if_pos hl]
      unfold s_P_goBackH
      rw [g1]; rfl
    have hx : s_X_context26 x M d a o lo hi ri (w >>> ((16 : Int32) &&& 31)) = ((o 0) + 1, upd x 7 0, M, d, a, o) := by
      unfold s_X_context26
      rw [g2, if_pos rfl, ix0]
    rw [hp, hx, ix0]
    refine ⟨rfl, rfl, rfl, ?_⟩
    show oi 2 r x (upd x 7 0) (upd o 0 (if x 19 = 0 then (o 0) else (o 0)))
    rw [if_pos h19]
    exact oi_halt (ro_up hr 7 0 (by omega)) h19 rfl (fr_up fr_rf 7 0 (by omega)) hv
  by_cases hk : (r 3 &&& (32 : Int32)) = 0
  · obtain ⟨g1, g2⟩ := refU1 (d := d) (a := a) (x := x) (M := M) (lo := lo) (hi := hi) (ri := ri) e3 ha hk
    have hp : s_P_perform26 z M r d a lo hi ri t w = (772, M, r, d, a) := by
      unfold s_P_perform26
      rw [if_pos hl]
      unfold s_P_goBackH
      rw [g1]; rfl
    have hx : s_X_context26 x M d a o lo hi ri (w >>> ((16 : Int32) &&& 31)) = ((o 0) + 1, upd x 19 772, M, d, a, o) := by
      unfold s_X_context26
      rw [g2, if_pos rfl, ix0]
    rw [hp, hx, ix0]
    exact ⟨rfl, rfl, rfl, oi_trap (q := 772) tr772 (ro_o0 hr) hn hv⟩
  · obtain ⟨g1, g2⟩ := refU2 (d := d) (a := a) (x := x) (M := M) (lo := lo) (hi := hi) (ri := ri) e3 ha hk
    generalize hr1 : upd (upd (upd r 0 (a 7)) 7 (((r 3) >>> ((8 : Int32) &&& 31)) &&& (15 : Int32))) 8 (if ((r 3) &&& (4096 : Int32)) = 0 then (0 : Int32) else (1 : Int32)) = r1
    generalize hx1 : upd (upd (upd x 19 (x 19)) 4 (((r 3) >>> ((8 : Int32) &&& 31)) &&& (15 : Int32))) 5 (if ((r 3) &&& (4096 : Int32)) = 0 then (0 : Int32) else (1 : Int32)) = x1
    have q1 : rq r1 x1 o := by subst hr1; subst hx1; exact ⟨e1, e2, e3, f1, f2, f3, rfl, rfl⟩
    have q2 : ¬ s_X_isArea (r1 3 &&& (31 : Int32)) = 0 := by subst hr1; exact ha
    have q3 : r1 0 = a 7 := by subst hr1; rfl
    have q4 : r1 9 = r 9 := by subst hr1; rfl
    have q5 : ∀ k, (k = 0 ∨ 6 ≤ k) → k ≠ 7 → k ≠ 17 → k ≠ 19 → x1 k = x k := by subst hx1; exact fr_up (fr_up (fr_up fr_rf 19 _ (by omega)) 4 _ (by omega)) 5 _ (by omega)
    have q6 : x1 7 = x 7 ∧ x1 17 = x 17 ∧ x1 19 = x 19 := by subst hx1; exact ⟨rfl, rfl, rfl⟩
    have q7 : (r1 8 = 0 ∨ r1 8 = 1) ∧ ¬ r1 7 < 0 := by subst hr1; exact ⟨zz_ite2, and15 _⟩
    obtain ⟨b1, b2, b3, b4, b5, b6, b7, b8, b9, b10⟩ := sim_bringUq (M := M) (d := d) (a := a) (lo := lo) (hi := hi) (ri := ri) q1 q2
    have hp : s_P_perform26 z M r d a lo hi ri t w = (1, (s_R_bringBackU r1 d a M).2.2.2, (s_R_bringBackU r1 d a M).1, (s_R_bringBackU r1 d a M).2.1, (s_R_bringBackU r1 d a M).2.2.1) := by
      unfold s_P_perform26
      rw [if_pos hl]
      unfold s_P_goBackH
      rw [g1, if_pos rfl, ix7, hr1]
    have hx : s_X_context26 x M d a o lo hi ri (w >>> ((16 : Int32) &&& 31)) = (a 7, (s_X_bringU x1 M d a o lo hi ri).1, (s_X_bringU x1 M d a o lo hi ri).2.1, (s_X_bringU x1 M d a o lo hi ri).2.2.1, (s_X_bringU x1 M d a o lo hi ri).2.2.2.1, (s_X_bringU x1 M d a o lo hi ri).2.2.2.2) := by
      unfold s_X_context26
      rw [g2, if_neg ne_10, ix7, ix3, e3]
      subst hx1
      rfl
    rw [hp, hx, ix0]
    refine ⟨b1, b2, b3, ?_⟩
    show oi 1 (s_R_bringBackU r1 d a M).1 x (s_X_bringU x1 M d a o lo hi ri).1 (upd (s_X_bringU x1 M d a o lo hi ri).2.2.2.2 0 (if (s_X_bringU x1 M d a o lo hi ri).1 19 = 0 then (if (s_X_bringU x1 M d a o lo hi ri).1 7 = 0 then _ else (a 7)) else _))
    rw [b5 19 (by omega) (by omega) (by omega), b5 7 (by omega) (by omega) (by omega), q6.2.2, q6.1, if_pos h19, if_neg h7]
    refine ⟨fun k h0 h1 h2 h3 => (b5 k (by omega) (by omega) (by omega)).trans (q5 k h0 h1 h2 h3), fun _ => ?_, ⟨b10, ?_, ?_⟩, Or.inr (Or.inl ⟨rfl, ?_, ?_, ?_⟩)⟩
    · rw [b6, q4, b5 17 (by omega) (by omega) (by omega), q6.2.1]; exact hn
    · rw [b9]; exact q7.1
    · rw [b8]; exact q7.2
    · rw [b5 19 (by omega) (by omega) (by omega), q6.2.2]; exact h19
    · rw [b5 7 (by omega) (by omega) (by omega), q6.1]
    · exact ⟨by rw [b7, q3]; rfl, b4⟩
end SC
