/-! a trap, an interrupt -/
def zx (z x : Nat → Int32) : Prop := x 7 = z 0 ∧ x 11 = z 2 ∧ x 12 = z 3 ∧ x 13 = z 1 ∧ x 14 = z 4 ∧ x 15 = z 5
def tx (t x : Nat → Int32) : Prop := x 6 = t 3 ∧ x 8 = t 0 ∧ x 9 = t 1 ∧ (t 1 ≤ 0 ∨ x 10 = t 2) ∧ x 16 = t 4
/-- the note, while it runs -/
def dn (z r x : Nat → Int32) : Prop := ¬ z 0 = 0 → (r 9 = 0 ↔ (x 17 = 0 ∨ ¬ x 18 = 0))
def sr (z r t x o : Nat → Int32) : Prop := ro r x o ∧ zx z x ∧ tx t x ∧ dn z r x
section ST
variable {z r t x o M d a lo hi ri : Nat → Int32}
theorem ne_10 : ¬ (1 : Int32) = 0 := by decide
theorem ro_up (h : ro r x o) (k : Nat) (v : Int32) (hk : 6 ≤ k ∨ k = 0) : ro r (upd x k v) o := by
  obtain ⟨e0, e1, e2, e3, f1, f2, f3, f4, f5⟩ := h
  refine ⟨e0, e1, e2, e3, ?_, ?_, ?_, ?_, ?_⟩
  · exact (if_neg (by omega)).trans f1
  · exact (if_neg (by omega)).trans f2
  · exact (if_neg (by omega)).trans f3
  · exact (if_neg (by omega)).trans f4
  · exact (if_neg (by omega)).trans f5
/-- the registers behind a keeping -/
def rk (r rK : Nat → Int32) (n lk : Int32) : Prop := rK 0 = r 0 ∧ rK 1 = n ∧ rK 2 = r 2 ∧ rK 3 = lk ∧ rK 4 = r 4 ∧ rK 5 = r 5 ∧ rK 6 = r 6 ∧ rK 7 = r 7 ∧ rK 8 = r 8 ∧ rK 9 = (if n &&& (31 : Int32) = r 2 then 1 else r 9)
theorem keepU_c (h : ¬ s_X_isArea (r 1 &&& (31 : Int32)) = 0) : ∃ rK, s_R_keepU r d a M = (1, rK, kMU r d a M) ∧ rk r rK (nxt r M) (lkU r) := by
  refine ⟨_, keepU_c1 h, ?_⟩
  by_cases hq : nxt r M &&& (31 : Int32) = r 2
  · rw [if_pos hq]
    exact ⟨rfl, rfl, rfl, rfl, rfl, rfl, rfl, rfl, rfl, by rw [if_pos hq]; rfl⟩
  · rw [if_neg hq]
    exact ⟨rfl, rfl, rfl, rfl, rfl, rfl, rfl, rfl, rfl, by rw [if_neg hq]; rfl⟩
theorem keepL_c (h : ¬ s_X_isArea (r 1 &&& (31 : Int32)) = 0) : ∃ rK, s_R_keepL r d a M = (1, rK, kML r d a M) ∧ rk r rK (nxt r M) (lkL r) := by
  refine ⟨_, keepL_c1 h, ?_⟩
  by_cases hq : nxt r M &&& (31 : Int32) = r 2
  · rw [if_pos hq]
    exact ⟨rfl, rfl, rfl, rfl, rfl, rfl, rfl, rfl, rfl, by rw [if_pos hq]; rfl⟩
  · rw [if_neg hq]
    exact ⟨rfl, rfl, rfl, rfl, rfl, rfl, rfl, rfl, rfl, by rw [if_neg hq]; rfl⟩
/-- the note behind a keeping -/
theorem dn_keep {n : Int32} (hd : r 9 = 0 ↔ (x 17 = 0 ∨ ¬ x 18 = 0)) (h18 : x 18 = 0) : ((if n &&& (31 : Int32) = r 2 then 1 else r 9) = 0) ↔ (if (x 17) = 0 then (if n &&& (31 : Int32) = r 2 then (1 : Int32) else (0 : Int32)) else (1 : Int32)) = 0 := by
  by_cases hq : n &&& (31 : Int32) = r 2
  · rw [if_pos hq, if_pos hq]
    by_cases h17 : x 17 = 0
    · rw [if_pos h17]
    · rw [if_neg h17]
  · rw [if_neg hq, if_neg hq, hd, h18]
    by_cases h17 : x 17 = 0
    · rw [if_pos h17]; simp [h17]
    · rw [if_neg h17]; simp [h17]
/-- what a trap does -/
theorem sim_take (h : sr z r t x o) (h18 : x 18 = 0) (tr : Int32) :
    sr (s_P_takeTrap z M r d a lo hi ri t tr (if (tr >>> ((8 : Int32) &&& 31)) = (6 : Int32) then ((r 0) + (1 : Int32)) else (r 0))).1 (s_P_takeTrap z M r d a lo hi ri t tr (if (tr >>> ((8 : Int32) &&& 31)) = (6 : Int32) then ((r 0) + (1 : Int32)) else (r 0))).2.2.1 t (s_X_take x M d a o lo hi ri (tr >>> ((8 : Int32) &&& 31)) (tr &&& (255 : Int32))).1 (s_X_take x M d a o lo hi ri (tr >>> ((8 : Int32) &&& 31)) (tr &&& (255 : Int32))).2.2.2.2
    ∧ (s_X_take x M d a o lo hi ri (tr >>> ((8 : Int32) &&& 31)) (tr &&& (255 : Int32))).2.1 = (s_P_takeTrap z M r d a lo hi ri t tr (if (tr >>> ((8 : Int32) &&& 31)) = (6 : Int32) then ((r 0) + (1 : Int32)) else (r 0))).2.1
    ∧ (s_X_take x M d a o lo hi ri (tr >>> ((8 : Int32) &&& 31)) (tr &&& (255 : Int32))).2.2.1 = (s_P_takeTrap z M r d a lo hi ri t tr (if (tr >>> ((8 : Int32) &&& 31)) = (6 : Int32) then ((r 0) + (1 : Int32)) else (r 0))).2.2.2.1
    ∧ (s_X_take x M d a o lo hi ri (tr >>> ((8 : Int32) &&& 31)) (tr &&& (255 : Int32))).2.2.2.1 = (s_P_takeTrap z M r d a lo hi ri t tr (if (tr >>> ((8 : Int32) &&& 31)) = (6 : Int32) then ((r 0) + (1 : Int32)) else (r 0))).2.2.2.2 := by
  obtain ⟨hr, hz, ht, hd⟩ := h
  generalize hc : tr >>> ((8 : Int32) &&& 31) = c
  generalize hb : (if c = (6 : Int32) then ((r 0) + (1 : Int32)) else (r 0)) = back
  have hro := hr
  obtain ⟨e0, e1, e2, e3, f1, f2, f3, f4, f5⟩ := hro
  obtain ⟨z7, z11, z12, z13, z14, z15⟩ := hz
  obtain ⟨t6, t8, t9, t10, t16⟩ := ht
  have hb2 : (if c = (6 : Int32) then ((o (ix (0 : Int32))) + (1 : Int32)) else (o (ix (0 : Int32)))) = back := by rw [ix0, e0]; exact hb
  have hr2 := ro_up hr 18 (if (x 18) = 0 then (if c = (3 : Int32) then (1 : Int32) else (0 : Int32)) else (1 : Int32)) (Or.inl (by omega))
  unfold s_X_take
  rw [hb2, if_pos h18] at *
  by_cases ha : s_X_isArea (r 1 &&& (31 : Int32)) = 0
  · have hk : s_X_keepU (upd x 18 (if c = (3 : Int32) then (1 : Int32) else (0 : Int32))) M d a o lo hi ri = _ := keepU_x0 (by rw [e1]; exact ha)
    have he : s_X_enter (upd x 18 (if c = (3 : Int32) then (1 : Int32) else (0 : Int32))) M d a o lo hi ri back ((x 11) + ((4 : Int32) * c)) = (0, upd (upd x 18 (if c = (3 : Int32) then (1 : Int32) else (0 : Int32))) 7 0, M, a, o) := by
      unfold s_X_enter
      rw [hk, if_pos rfl]
    rw [he, if_pos rfl]
    have hp : s_P_takeTrap z M r d a lo hi ri t tr back = (upd z 0 0, M, r, d, a) := by
      unfold s_P_takeTrap
      rw [keepU_c0 ha, if_pos rfl]
    rw [hp]
    refine ⟨⟨⟨e0, e1, e2, e3, f1, f2, f3, f4, f5⟩, ⟨rfl, z11, z12, z13, z14, z15⟩, ⟨t6, t8, t9, t10, t16⟩, fun h => absurd rfl h⟩, rfl, rfl, rfl⟩
  · have hk := keepU_x1 (M := M) (d := d) (a := a) (lo := lo) (hi := hi) (ri := ri) hr2 ha
    obtain ⟨rK, hkc, k0, k1, k2, k3, k4, k5, k6, k7, k8, k9⟩ := keepU_c (r := r) (M := M) (d := d) (a := a) ha
    have he : s_X_enter (upd x 18 (if c = (3 : Int32) then (1 : Int32) else (0 : Int32))) M d a o lo hi ri back ((x 11) + ((4 : Int32) * c)) = (1, upd (upd (upd (upd (upd (upd x 18 (if c = (3 : Int32) then (1 : Int32) else (0 : Int32))) 17 (if (x 17) = 0 then (if nxt r M &&& (31 : Int32) = r 2 then (1 : Int32) else (0 : Int32)) else (1 : Int32))) 1 (2 : Int32)) 2 (0 : Int32)) 3 (0 : Int32)) 5 (0 : Int32), kMU r d a M, upd a 7 back, upd (upd (upd o 1 (nxt r M)) 3 (lkU r)) 0 ((x 11) + ((4 : Int32) * c))) := by
      unfold s_X_enter
      rw [hk, if_neg ne_10, ix7, ix0]
      rfl
    rw [he, if_neg ne_10]
    by_cases h3 : c = (3 : Int32)
    · have hp : s_P_takeTrap z M r d a lo hi ri t tr back = (upd (upd z 4 ((z 4) + (1 : Int32))) 5 (((16 : Int32) * c) + ((tr &&& (255 : Int32)) &&& (15 : Int32))), kMU r d a M, upd (s_R_enterHandler rK d a ((z 2) + ((4 : Int32) * c)) back).1 9 (0 : Int32), upd d 7 (tr &&& (255 : Int32)), upd a 7 back) := by
        unfold s_P_takeTrap
        rw [hkc, if_neg ne_10, hc, if_pos h3, ix7]
        rfl
      rw [hp, ix7]
      refine ⟨⟨⟨?_, k1.symm, e2.trans k2.symm, k3.symm, rfl, rfl, rfl, f4.trans k7.symm, rfl⟩, ⟨z7, z11, z12, z13, ?_, rfl⟩, ⟨t6, t8, t9, t10, t16⟩, fun _ => ⟨fun _ => Or.inr ?_, fun _ => rfl⟩⟩, rfl, rfl, rfl⟩
      · show (x 11) + ((4 : Int32) * c) = (z 2) + ((4 : Int32) * c)
        rw [z11]
      · show x 14 + 1 = z 4 + 1
        rw [z14]
      · show ¬ (if c = (3 : Int32) then (1 : Int32) else (0 : Int32)) = 0
        rw [if_pos h3]; decide
    · have hp : s_P_takeTrap z M r d a lo hi ri t tr back = (upd (upd z 4 ((z 4) + (1 : Int32))) 5 (((16 : Int32) * c) + ((tr &&& (255 : Int32)) &&& (15 : Int32))), kMU r d a M, (s_R_enterHandler rK d a ((z 2) + ((4 : Int32) * c)) back).1, upd d 7 (tr &&& (255 : Int32)), upd a 7 back) := by
        unfold s_P_takeTrap
        rw [hkc, if_neg ne_10, hc, if_neg h3, ix7]
        rfl
      rw [hp, ix7]
      refine ⟨⟨⟨?_, k1.symm, e2.trans k2.symm, k3.symm, rfl, rfl, rfl, f4.trans k7.symm, rfl⟩, ⟨z7, z11, z12, z13, ?_, rfl⟩, ⟨t6, t8, t9, t10, t16⟩, fun hz0 => ?_⟩, rfl, rfl, rfl⟩
      · show (x 11) + ((4 : Int32) * c) = (z 2) + ((4 : Int32) * c)
        rw [z11]
      · show x 14 + 1 = z 4 + 1
        rw [z14]
      · show rK 9 = 0 ↔ ((if (x 17) = 0 then (if nxt r M &&& (31 : Int32) = r 2 then (1 : Int32) else (0 : Int32)) else (1 : Int32)) = 0 ∨ ¬ (if c = (3 : Int32) then (1 : Int32) else (0 : Int32)) = 0)
        rw [if_neg h3, k9, dn_keep (hd hz0) h18]
        simp
/-- what an interrupt does, before the reference notes it -/
theorem sim_int (h : sr z r t x o) (h18 : x 18 = 0) (pp : Int32) : (s_X_enter x M d a o lo hi ri (r 0) ((x 12) + ((4 : Int32) * pp))).2.2.1 = (s_P_takeInterrupt z M r d a lo hi ri t pp).2.1 ∧ (s_X_enter x M d a o lo hi ri (r 0) ((x 12) + ((4 : Int32) * pp))).2.2.2.1 = (s_P_takeInterrupt z M r d a lo hi ri t pp).2.2.2.1 ∧
    (((s_X_enter x M d a o lo hi ri (r 0) ((x 12) + ((4 : Int32) * pp))).1 = 0 ∧ sr (s_P_takeInterrupt z M r d a lo hi ri t pp).1 (s_P_takeInterrupt z M r d a lo hi ri t pp).2.2.1 (s_P_takeInterrupt z M r d a lo hi ri t pp).2.2.2.2 (s_X_enter x M d a o lo hi ri (r 0) ((x 12) + ((4 : Int32) * pp))).2.1 (s_X_enter x M d a o lo hi ri (r 0) ((x 12) + ((4 : Int32) * pp))).2.2.2.2) ∨
     (¬ (s_X_enter x M d a o lo hi ri (r 0) ((x 12) + ((4 : Int32) * pp))).1 = 0 ∧ sr (s_P_takeInterrupt z M r d a lo hi ri t pp).1 (s_P_takeInterrupt z M r d a lo hi ri t pp).2.2.1 (s_P_takeInterrupt z M r d a lo hi ri t pp).2.2.2.2 (upd (upd (upd (s_X_enter x M d a o lo hi ri (r 0) ((x 12) + ((4 : Int32) * pp))).2.1 6 (((s_X_enter x M d a o lo hi ri (r 0) ((x 12) + ((4 : Int32) * pp))).2.1 6) &&& (((1 : Int32) <<< (pp &&& 31)) ^^^ (-1 : Int32)))) 4 pp) 16 (((s_X_enter x M d a o lo hi ri (r 0) ((x 12) + ((4 : Int32) * pp))).2.1 16) + (1 : Int32))) (s_X_enter x M d a o lo hi ri (r 0) ((x 12) + ((4 : Int32) * pp))).2.2.2.2)) := by
  obtain ⟨hr, hz, ht, hd⟩ := h
  have hro := hr
  obtain ⟨e0, e1, e2, e3, f1, f2, f3, f4, f5⟩ := hro
  obtain ⟨z7, z11, z12, z13, z14, z15⟩ := hz
  obtain ⟨t6, t8, t9, t10, t16⟩ := ht
  by_cases ha : s_X_isArea (r 1 &&& (31 : Int32)) = 0
  · have he : s_X_enter x M d a o lo hi ri (r 0) ((x 12) + ((4 : Int32) * pp)) = (0, upd x 7 0, M, a, o) := by
      unfold s_X_enter
      rw [keepU_x0 (by rw [e1]; exact ha), if_pos rfl]
    have hp : s_P_takeInterrupt z M r d a lo hi ri t pp = (upd z 0 0, M, r, a, t) := by
      unfold s_P_takeInterrupt
      rw [keepU_c0 ha, if_pos rfl]
    rw [he, hp]
    exact ⟨rfl, rfl, Or.inl ⟨rfl, ⟨e0, e1, e2, e3, f1, f2, f3, f4, f5⟩, ⟨rfl, z11, z12, z13, z14, z15⟩, ⟨t6, t8, t9, t10, t16⟩, fun h => absurd rfl h⟩⟩
  · have hk := keepU_x1 (M := M) (d := d) (a := a) (lo := lo) (hi := hi) (ri := ri) hr ha
    obtain ⟨rK, hkc, k0, k1, k2, k3, k4, k5, k6, k7, k8, k9⟩ := keepU_c (r := r) (M := M) (d := d) (a := a) ha
    have he : s_X_enter x M d a o lo hi ri (r 0) ((x 12) + ((4 : Int32) * pp)) = (1, upd (upd (upd (upd (upd x 17 (if (x 17) = 0 then (if nxt r M &&& (31 : Int32) = r 2 then (1 : Int32) else (0 : Int32)) else (1 : Int32))) 1 (2 : Int32)) 2 (0 : Int32)) 3 (0 : Int32)) 5 (0 : Int32), kMU r d a M, upd a 7 (r 0), upd (upd (upd o 1 (nxt r M)) 3 (lkU r)) 0 ((x 12) + ((4 : Int32) * pp))) := by
      unfold s_X_enter
      rw [hk, if_neg ne_10, ix7, ix0]
    have hp : s_P_takeInterrupt z M r d a lo hi ri t pp = (z, kMU r d a M, (s_R_enterHandler (upd rK 7 pp) d a ((z 3) + ((4 : Int32) * pp)) (rK 0)).1, upd a 7 (rK 0), s_T_take t pp) := by
      unfold s_P_takeInterrupt
      rw [hkc, if_neg ne_10]
      rfl
    rw [he, hp, k0]
    refine ⟨rfl, rfl, Or.inr ⟨ne_10, ⟨?_, k1.symm, e2.trans k2.symm, k3.symm, rfl, rfl, rfl, rfl, rfl⟩, ⟨z7, z11, z12, z13, z14, z15⟩, ⟨?_, t8, t9, t10, ?_⟩, fun hz0 => ?_⟩⟩
    · show (x 12) + ((4 : Int32) * pp) = (z 3) + ((4 : Int32) * pp)
      rw [z12]
    · show (x 6) &&& _ = (t 3) &&& _
      rw [t6]
    · show (x 16) + 1 = (t 4) + 1
      rw [t16]
    · show rK 9 = 0 ↔ ((if (x 17) = 0 then (if nxt r M &&& (31 : Int32) = r 2 then (1 : Int32) else (0 : Int32)) else (1 : Int32)) = 0 ∨ ¬ x 18 = 0)
      rw [k9, dn_keep (hd hz0) h18, h18]
      simp
end ST
