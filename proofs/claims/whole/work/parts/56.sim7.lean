/-! a step -/
abbrev fn : Type := Nat → Int32
abbrev cS : Type := fn × fn × fn × fn × fn
abbrev xS : Type := fn × fn × fn × fn × fn
def zb (z : fn) : Prop := (z 0 = 0 ∨ z 0 = 1) ∧ (z 1 = 0 ∨ z 1 = 1)
/-- the class's (z, M, r, d, a) and t beside the reference's (x, M, d, a, o), within a step -/
def eqv (S : cS) (t : fn) (T : xS) (x0 : Int32) : Prop := sr S.1 S.2.2.1 t T.1 T.2.2.2.2 ∧ T.2.1 = S.2.1 ∧ T.2.2.1 = S.2.2.2.1 ∧ T.2.2.2.1 = S.2.2.2.2 ∧ iv S.2.2.1 ∧ zb S.1 ∧ T.1 0 = x0
/-- and behind it -/
def rel (z M r d a t : fn) (T : xS) (x0 : Int32) : Prop := (ro r T.1 T.2.2.2.2 ∧ zx z T.1 ∧ tx t T.1) ∧ T.2.1 = M ∧ T.2.2.1 = d ∧ T.2.2.2.1 = a ∧ iv r ∧ zb z ∧ T.1 0 = x0
section SS
variable {z r t x o M d a lo hi ri : fn}
theorem keepU_fr : (s_X_keepU x M d a o lo hi ri).2.1 0 = x 0 := by
  unfold s_X_keepU
  split <;> rfl
theorem enter_fr {b c : Int32} : (s_X_enter x M d a o lo hi ri b c).2.1 0 = x 0 := by
  unfold s_X_enter
  split
  · exact keepU_fr
  · exact keepU_fr
theorem take_fr {b c : Int32} : (s_X_take x M d a o lo hi ri b c).1 0 = x 0 := by
  unfold s_X_take
  generalize hE : s_X_enter (upd x 18 (if (x 18) = 0 then (if b = (3 : Int32) then (1 : Int32) else (0 : Int32)) else (1 : Int32))) M d a o lo hi ri (if b = (6 : Int32) then ((o (ix (0 : Int32))) + (1 : Int32)) else (o (ix (0 : Int32)))) ((x 11) + ((4 : Int32) * b)) = E
  have k : E.2.1 0 = x 0 := by
    rw [← hE]
    exact enter_fr.trans (show upd x 18 _ 0 = x 0 from rfl)
  by_cases h : E.1 = 0
  · rw [if_pos h]; exact k
  · rw [if_neg h]; exact k
theorem iv_trap {tr b : Int32} (h : iv r) (hz : zb z) : iv (s_P_takeTrap z M r d a lo hi ri t tr b).2.2.1 ∧ zb (s_P_takeTrap z M r d a lo hi ri t tr b).1 := by
  unfold s_P_takeTrap
  by_cases ha : s_X_isArea (r 1 &&& (31 : Int32)) = 0
  · rw [keepU_c0 ha, if_pos rfl]
    exact ⟨h, Or.inl rfl, hz.2⟩
  · obtain ⟨rK, hkc, k0, k1, k2, k3, k4, k5, k6, k7, k8, k9⟩ := keepU_c (r := r) (M := M) (d := d) (a := a) ha
    have h7 : ¬ rK 7 < 0 := by rw [k7]; exact h.2.2
    rw [hkc, if_neg ne_10]
    split
    · exact ⟨⟨Or.inl rfl, Or.inl rfl, h7⟩, hz⟩
    · exact ⟨⟨Or.inl rfl, Or.inl rfl, h7⟩, hz⟩
theorem iv_int {p : Int32} (h : iv r) (hz : zb z) (hp : ¬ p < 0) : iv (s_P_takeInterrupt z M r d a lo hi ri t p).2.2.1 ∧ zb (s_P_takeInterrupt z M r d a lo hi ri t p).1 := by
  unfold s_P_takeInterrupt
  by_cases ha : s_X_isArea (r 1 &&& (31 : Int32)) = 0
  · rw [keepU_c0 ha, if_pos rfl]
    exact ⟨h, Or.inl rfl, hz.2⟩
  · obtain ⟨rK, hkc, -⟩ := keepU_c (r := r) (M := M) (d := d) (a := a) ha
    rw [hkc, if_neg ne_10]
    exact ⟨⟨Or.inl rfl, Or.inl rfl, hp⟩, hz⟩
/-- a trap, from one equal state to the next -/
theorem eqv_trap {x0 : Int32} (h : eqv (z, M, r, d, a) t (x, M, d, a, o) x0) (h18 : x 18 = 0) (tr : Int32) : eqv (s_P_takeTrap z M r d a lo hi ri t tr (if (tr >>> ((8 : Int32) &&& 31)) = (6 : Int32) then ((r 0) + (1 : Int32)) else (r 0))) t (s_X_take x M d a o lo hi ri (tr >>> ((8 : Int32) &&& 31)) (tr &&& (255 : Int32))) x0 := by
  obtain ⟨h1, -, -, -, h5, h6, h7⟩ := h
  obtain ⟨g1, g2, g3, g4⟩ := sim_take (M := M) (d := d) (a := a) (lo := lo) (hi := hi) (ri := ri) h1 h18 tr
  obtain ⟨i1, i2⟩ := iv_trap (M := M) (d := d) (a := a) (lo := lo) (hi := hi) (ri := ri) (t := t) (tr := tr) (b := (if (tr >>> ((8 : Int32) &&& 31)) = (6 : Int32) then ((r 0) + (1 : Int32)) else (r 0))) h5 h6
  exact ⟨g1, g2, g3, g4, i1, i2, take_fr.trans h7⟩
def c91B (lo hi ri : fn) (S : cS) (t : fn) : fn × fn × fn × fn × fn × fn := s_P_step_c91 lo hi ri S.1 S.2.1 S.2.2.1 S.2.2.2.1 S.2.2.2.2 t
def c270B (lo hi ri : fn) (T : xS) : xS := s_X_step_c270 lo hi ri T.1 T.2.1 T.2.2.1 T.2.2.2.1 T.2.2.2.2
def relB (C : fn × fn × fn × fn × fn × fn) (T : xS) (x0 : Int32) : Prop := rel C.1 C.2.1 C.2.2.1 C.2.2.2.1 C.2.2.2.2.1 C.2.2.2.2.2 T x0
theorem eqv_rel {S : cS} {T : xS} {x0 : Int32} (h : eqv S t T x0) : relB (S.1, S.2.1, S.2.2.1, S.2.2.2.1, S.2.2.2.2, t) T x0 := by
  obtain ⟨⟨h1, h2, h3, -⟩, h4, h5, h6, h7, h8, h9⟩ := h
  exact ⟨⟨h1, h2, h3⟩, h4, h5, h6, h7, h8, h9⟩
/-- the step's end -/
theorem sim_tail {x0 : Int32} (S : cS) (T : xS) (h : eqv S t T x0) : relB (c91B lo hi ri S t) (c270B lo hi ri T) x0 := by
  obtain ⟨z, M, r, d, a⟩ := S
  obtain ⟨x, M', d', a', o⟩ := T
  have h0 := h
  obtain ⟨⟨h1, h2, h3, h4⟩, e1, e2, e3, h5, h6, h7⟩ := h
  have e1 : M' = M := e1
  have e2 : d' = d := e2
  have e3 : a' = a := e3
  subst e1; subst e2; subst e3
  show relB (s_P_step_c91 lo hi ri z M' r d' a' t) (s_X_step_c270 lo hi ri x M' d' a' o) x0
  unfold s_P_step_c91 s_X_step_c270
  have z7 : x 7 = z 0 := h2.1
  have h4 : ¬ z 0 = 0 → (r 9 = 0 ↔ (x 17 = 0 ∨ ¬ x 18 = 0)) := h4
  by_cases hz : z 0 = 0
  · rw [if_pos hz, if_pos (z7.trans hz)]
    exact eqv_rel h0
  · rw [if_neg hz, if_neg (fun h => hz (z7.symm.trans h))]
    have h4 := h4 hz
    by_cases h9 : r 9 = 0
    · rw [if_pos h9]
      by_cases h17 : x 17 = 0
      · rw [if_pos h17]; exact eqv_rel h0
      · rw [if_neg h17]
        rcases h4.mp h9 with h | h
        · exact absurd h h17
        · rw [if_neg h]; exact eqv_rel h0
    · rw [if_neg h9]
      have h17 : ¬ x 17 = 0 := fun h => h9 (h4.mpr (Or.inl h))
      have h18 : x 18 = 0 := Classical.not_not.mp (fun h => h9 (h4.mpr (Or.inr h)))
      rw [if_neg h17, if_pos h18]
      have k := eqv_trap (lo := lo) (hi := hi) (ri := ri) h0 h18 (769 : Int32)
      rw [show (769 : Int32) >>> ((8 : Int32) &&& 31) = 3 from by decide, show (769 : Int32) &&& (255 : Int32) = 1 from by decide, if_neg (show ¬ (3 : Int32) = 6 from by decide)] at k
      generalize s_P_takeTrap z M' r d' a' lo hi ri t (769 : Int32) (r 0) = S at k ⊢
      generalize s_X_take x M' d' a' o lo hi ri (3 : Int32) (1 : Int32) = T at k ⊢
      exact eqv_rel k
theorem finish_trap {q : Int32} (hq : 0 < q ∧ ¬ q = 1 ∧ ¬ q = 2) : s_P_finish z M r d a lo hi ri t q = s_P_takeTrap z M r d a lo hi ri t q (if (q >>> ((8 : Int32) &&& 31)) = (6 : Int32) then ((r 0) + (1 : Int32)) else (r 0)) := by
  unfold s_P_finish
  rw [if_neg (tr_ne hq), if_neg hq.2.2, if_neg hq.2.1]
/-- behind an instruction -/
theorem sim_fin {R : Int32 × fn × fn × fn × fn} {X : xS} (hz : zx z x) (ht : tx t x) (hb : zb z) (h18 : x 18 = 0) (hod : od R X x) : eqv (s_P_finish z R.2.1 R.2.2.1 R.2.2.2.1 R.2.2.2.2 lo hi ri t R.1) t (if X.1 19 ≤ 0 then X else s_X_take X.1 X.2.1 X.2.2.1 X.2.2.2.1 X.2.2.2.2 lo hi ri ((X.1 19) >>> ((8 : Int32) &&& 31)) ((X.1 19) &&& (255 : Int32))) (x 0) := by
  obtain ⟨q, M', r', d', a'⟩ := R
  obtain ⟨x', M2, d2, a2, o'⟩ := X
  obtain ⟨e1, e2, e3, hf, hn, hv, hc⟩ := hod
  have e1 : M2 = M' := e1
  have e2 : d2 = d' := e2
  have e3 : a2 = a' := e3
  subst e1; subst e2; subst e3
  have hf : ∀ k, (k = 0 ∨ 6 ≤ k) → k ≠ 7 → k ≠ 17 → k ≠ 19 → x' k = x k := hf
  have hn : ¬ x' 7 = 0 → (r' 9 = 0 ↔ x' 17 = 0) := hn
  have h18' : x' 18 = 0 := (hf 18 (by omega) (by omega) (by omega) (by omega)).trans h18
  have h0' : x' 0 = x 0 := hf 0 (by omega) (by omega) (by omega) (by omega)
  obtain ⟨z7, z11, z12, z13, z14, z15⟩ := hz
  obtain ⟨t6, t8, t9, t10, t16⟩ := ht
  have g (k : Nat) (v : Int32) (hk : 6 ≤ k ∧ k ≠ 7 ∧ k ≠ 17 ∧ k ≠ 19) (e : x k = v) : x' k = v := (hf k (by omega) hk.2.1 hk.2.2.1 hk.2.2.2).trans e
  have htx : tx t x' := ⟨g 6 _ (by omega) t6, g 8 _ (by omega) t8, g 9 _ (by omega) t9, t10.imp id (g 10 _ (by omega)), g 16 _ (by omega) t16⟩
  have hzx (h : x' 7 = x 7) : zx z x' := ⟨h.trans z7, g 11 _ (by omega) z11, g 12 _ (by omega) z12, g 13 _ (by omega) z13, g 14 _ (by omega) z14, g 15 _ (by omega) z15⟩
  have hdn (h : x' 7 = x 7) : ¬ z 0 = 0 → (r' 9 = 0 ↔ (x' 17 = 0 ∨ ¬ x' 18 = 0)) := fun h0 => by
    rw [hn (fun q => h0 (z7.symm.trans (h.symm.trans q))), h18']
    simp
  show eqv (s_P_finish z M2 r' d2 a2 lo hi ri t q) t (if x' 19 ≤ 0 then (x', M2, d2, a2, o') else s_X_take x' M2 d2 a2 o' lo hi ri ((x' 19) >>> ((8 : Int32) &&& 31)) ((x' 19) &&& (255 : Int32))) (x 0)
  rcases hc with ⟨hq, h19, h7, hro⟩ | ⟨hq, h19, h7, hro⟩ | ⟨hq, h19, h7, hro⟩ | ⟨hq, h19, h7, hro⟩
  · have hq : q = 0 := hq
    have h19 : x' 19 = 0 := h19
    rw [if_pos (by rw [h19]; decide)]
    have hp : s_P_finish z M2 r' d2 a2 lo hi ri t q = (z, M2, upd r' 0 ((r' 0) + 1), d2, a2) := by
      unfold s_P_finish
      rw [if_pos hq]
    rw [hp]
    exact ⟨⟨hro, hzx h7, htx, hdn h7⟩, rfl, rfl, rfl, hv, hb, h0'⟩
  · have hq : q = 1 := hq
    have h19 : x' 19 = 0 := h19
    rw [if_pos (by rw [h19]; decide)]
    have hp : s_P_finish z M2 r' d2 a2 lo hi ri t q = (z, M2, r', d2, a2) := by
      unfold s_P_finish
      rw [if_neg (by rw [hq]; decide), if_neg (by rw [hq]; decide), if_pos hq]
    rw [hp]
    exact ⟨⟨hro, hzx h7, htx, hdn h7⟩, rfl, rfl, rfl, hv, hb, h0'⟩
  · have hq : q = 2 := hq
    have h19 : x' 19 = 0 := h19
    rw [if_pos (by rw [h19]; decide)]
    have hp : s_P_finish z M2 r' d2 a2 lo hi ri t q = (upd z 0 0, M2, r', d2, a2) := by
      unfold s_P_finish
      rw [if_neg (by rw [hq]; decide), if_pos hq]
    rw [hp]
    exact ⟨⟨hro, ⟨h7, g 11 _ (by omega) z11, g 12 _ (by omega) z12, g 13 _ (by omega) z13, g 14 _ (by omega) z14, g 15 _ (by omega) z15⟩, htx, fun h => absurd rfl h⟩, rfl, rfl, rfl, hv, ⟨Or.inl rfl, hb.2⟩, h0'⟩
  · have hq : 0 < q ∧ ¬ q = 1 ∧ ¬ q = 2 := hq
    have h19 : x' 19 = q := h19
    rw [if_neg (by rw [h19]; intro h; have := hq.1; rw [ni_lt] at this; rw [ni_le] at h; omega), h19, finish_trap hq]
    exact eqv_trap ⟨⟨hro, hzx h7, htx, hdn h7⟩, rfl, rfl, rfl, hv, hb, h0'⟩ h18' q
/-- the word at PC: fetched, and done -/
def xI (lo hi ri x M d a o : fn) : xS := if ((s_X_instr x M d a o lo hi ri (M (ix (o (ix (0 : Int32)))))).1 19) ≤ 0 then c270B lo hi ri (s_X_instr x M d a o lo hi ri (M (ix (o (ix (0 : Int32)))))) else c270B lo hi ri (s_X_take (s_X_instr x M d a o lo hi ri (M (ix (o (ix (0 : Int32)))))).1 (s_X_instr x M d a o lo hi ri (M (ix (o (ix (0 : Int32)))))).2.1 (s_X_instr x M d a o lo hi ri (M (ix (o (ix (0 : Int32)))))).2.2.1 (s_X_instr x M d a o lo hi ri (M (ix (o (ix (0 : Int32)))))).2.2.2.1 (s_X_instr x M d a o lo hi ri (M (ix (o (ix (0 : Int32)))))).2.2.2.2 lo hi ri (((s_X_instr x M d a o lo hi ri (M (ix (o (ix (0 : Int32)))))).1 19) >>> ((8 : Int32) &&& 31)) (((s_X_instr x M d a o lo hi ri (M (ix (o (ix (0 : Int32)))))).1 19) &&& (255 : Int32)))
def xF (lo hi ri x M d a o : fn) : xS := if (o (ix (0 : Int32))) < 0 then c270B lo hi ri (s_X_take x M d a o lo hi ri (4 : Int32) (1 : Int32)) else (if (o (ix (0 : Int32))) < (512 : Int32) then (if (s_X_guarded x M d a o lo hi ri) = 0 then xI lo hi ri x M d a o else (if (o (ix (0 : Int32))) < (lo (ix (((3 : Int32) * (x 2)) + (2 : Int32)))) then c270B lo hi ri (s_X_take x M d a o lo hi ri (1 : Int32) (4 : Int32)) else (if (o (ix (0 : Int32))) < (hi (ix (((3 : Int32) * (x 2)) + (2 : Int32)))) then xI lo hi ri x M d a o else c270B lo hi ri (s_X_take x M d a o lo hi ri (1 : Int32) (4 : Int32))))) else c270B lo hi ri (s_X_take x M d a o lo hi ri (4 : Int32) (1 : Int32)))
def xE (lo hi ri x M d a o : fn) (p : Int32) : xS := if (s_X_enter x M d a o lo hi ri (o (ix (0 : Int32))) ((x 12) + ((4 : Int32) * p))).1 = 0 then s_X_step_c270 lo hi ri (s_X_enter x M d a o lo hi ri (o (ix (0 : Int32))) ((x 12) + ((4 : Int32) * p))).2.1 (s_X_enter x M d a o lo hi ri (o (ix (0 : Int32))) ((x 12) + ((4 : Int32) * p))).2.2.1 d (s_X_enter x M d a o lo hi ri (o (ix (0 : Int32))) ((x 12) + ((4 : Int32) * p))).2.2.2.1 (s_X_enter x M d a o lo hi ri (o (ix (0 : Int32))) ((x 12) + ((4 : Int32) * p))).2.2.2.2 else s_X_step_c270 lo hi ri (upd (upd (upd (s_X_enter x M d a o lo hi ri (o (ix (0 : Int32))) ((x 12) + ((4 : Int32) * p))).2.1 6 (((s_X_enter x M d a o lo hi ri (o (ix (0 : Int32))) ((x 12) + ((4 : Int32) * p))).2.1 6) &&& (((1 : Int32) <<< (p &&& 31)) ^^^ (-1 : Int32)))) 4 p) 16 (((s_X_enter x M d a o lo hi ri (o (ix (0 : Int32))) ((x 12) + ((4 : Int32) * p))).2.1 16) + (1 : Int32))) (s_X_enter x M d a o lo hi ri (o (ix (0 : Int32))) ((x 12) + ((4 : Int32) * p))).2.2.1 d (s_X_enter x M d a o lo hi ri (o (ix (0 : Int32))) ((x 12) + ((4 : Int32) * p))).2.2.2.1 (s_X_enter x M d a o lo hi ri (o (ix (0 : Int32))) ((x 12) + ((4 : Int32) * p))).2.2.2.2
theorem c94_eq {p : Int32} : s_X_step_c94 lo hi ri x M d a o p = if x 5 = 0 then xF lo hi ri x M d a o else (if p ≤ x 4 then xF lo hi ri x M d a o else xE lo hi ri x M d a o p) := by
  unfold s_X_step_c94 xF xI xE c270B
  with_reducible rfl
end SS
