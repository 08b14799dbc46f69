/-! the class and the reference do the same: first what they share -/
theorem ix0 : ix (0 : Int32) = 0 := by decide
theorem ix1 : ix (1 : Int32) = 1 := by decide
theorem ix2 : ix (2 : Int32) = 2 := by decide
theorem ix3 : ix (3 : Int32) = 3 := by decide
theorem ix4 : ix (4 : Int32) = 4 := by decide
theorem ix5 : ix (5 : Int32) = 5 := by decide
theorem ix6 : ix (6 : Int32) = 6 := by decide
theorem ix7 : ix (7 : Int32) = 7 := by decide
theorem area_same (k : Int32) : s_M_isArea k = s_X_isArea k := rfl
theorem start_same {k : Int32} (h : ¬ s_X_isArea k = 0) : s_M_areaStart k = s_X_wordsOf k := by
  obtain ⟨j, h1, h2, rfl⟩ := zz_area h
  rw [zz_words]
  unfold s_M_areaStart
  rw [show (1 : Int32) = nI 1 from rfl, pk_sub h1, show (8 : Int32) = nI 8 from rfl, pk_mul, show (256 : Int32) = nI 256 from rfl, nI_add]
  exact congrArg nI (by omega)
theorem has_in {i : Int32} (h : vp_in i 512) : s_M_has i = 1 := by
  rw [vp_in_iff] at h
  unfold s_M_has
  rw [if_neg (by rw [ni_lt, ni_0]; omega), if_neg (by rw [ni_le, ni_512]; omega)]
theorem read_in {M : Nat → Int32} {i : Int32} (h : vp_in i 512) : s_M_read M i = M (ix i) := by
  unfold s_M_read
  rw [if_neg (by rw [has_in h]; decide)]
theorem write_in {M : Nat → Int32} {i v : Int32} (h : vp_in i 512) : s_M_write M i v = upd M (ix i) v := by
  unfold s_M_write
  rw [if_neg (by rw [has_in h]; decide)]
/-- registers of the class beside the reference's -/
def ro (r x o : Nat → Int32) : Prop := o 0 = r 0 ∧ o 1 = r 1 ∧ o 2 = r 2 ∧ o 3 = r 3 ∧ x 1 = r 4 ∧ x 2 = r 5 ∧ x 3 = r 6 ∧ x 4 = r 7 ∧ x 5 = r 8
/-- the keeping notes DRAINED -/
def cK (r M : Nat → Int32) : Prop := ¬ s_X_isArea (r 1 &&& (31 : Int32)) = 0 ∧ (M (ix (s_X_wordsOf (r 1 &&& (31 : Int32))))) &&& (31 : Int32) = r 2
section SK
variable {r x o M d a lo hi ri : Nat → Int32}
theorem keepU_c0 (h : s_X_isArea (r 1 &&& (31 : Int32)) = 0) : s_R_keepU r d a M = (0, r, M) := by
  unfold s_R_keepU
  rw [area_same, if_pos h]
theorem keepU_x0 (h : s_X_isArea (o 1 &&& (31 : Int32)) = 0) : s_X_keepU x M d a o lo hi ri = (0, upd x 7 0, M, o) := by
  unfold s_X_keepU
  rw [ix1, if_pos h]
theorem keepL_c0 (h : s_X_isArea (r 1 &&& (31 : Int32)) = 0) : s_R_keepL r d a M = (0, r, M) := by
  unfold s_R_keepL
  rw [area_same, if_pos h]
theorem keepL_x0 (h : s_X_isArea (o 1 &&& (31 : Int32)) = 0) : s_X_keepL x M d a o lo hi ri = (0, upd x 7 0, M, o) := by
  unfold s_X_keepL
  rw [ix1, if_pos h]
/-- the words of a kept context -/
def kM (M : Nat → Int32) (k v0 v1 v2 v3 v4 v5 v6 v7 : Int32) : Nat → Int32 :=
  upd (upd (upd (upd (upd (upd (upd (upd M (ix (s_X_wordsOf k)) v0) (ix ((s_X_wordsOf k) + (1 : Int32))) v1) (ix ((s_X_wordsOf k) + (2 : Int32))) v2) (ix ((s_X_wordsOf k) + (3 : Int32))) v3) (ix (((s_X_wordsOf k) + (4 : Int32)) + (0 : Int32))) v4) (ix (((s_X_wordsOf k) + (4 : Int32)) + (1 : Int32))) v5) (ix (((s_X_wordsOf k) + (4 : Int32)) + (2 : Int32))) v6) (ix (((s_X_wordsOf k) + (4 : Int32)) + (3 : Int32))) v7
theorem kM_of {k v0 v1 v2 v3 v4 v5 v6 v7 : Int32} (h : ¬ s_X_isArea k = 0) : s_M_write (s_M_write (s_M_write (s_M_write (s_M_write (s_M_write (s_M_write (s_M_write M (s_X_wordsOf k) v0) ((s_X_wordsOf k) + (1 : Int32)) v1) ((s_X_wordsOf k) + (2 : Int32)) v2) ((s_X_wordsOf k) + (3 : Int32)) v3) (((s_X_wordsOf k) + (4 : Int32)) + (0 : Int32)) v4) (((s_X_wordsOf k) + (4 : Int32)) + (1 : Int32)) v5) (((s_X_wordsOf k) + (4 : Int32)) + (2 : Int32)) v6) (((s_X_wordsOf k) + (4 : Int32)) + (3 : Int32)) v7 = kM M k v0 v1 v2 v3 v4 v5 v6 v7 := by
  rw [write_in (in_w0 h), write_in (in_w1 (c := (1 : Int32)) h (by decide)), write_in (in_w1 (c := (2 : Int32)) h (by decide)), write_in (in_w1 (c := (3 : Int32)) h (by decide)), write_in (in_w2 (c := (0 : Int32)) h (by decide)), write_in (in_w2 (c := (1 : Int32)) h (by decide)), write_in (in_w2 (c := (2 : Int32)) h (by decide)), write_in (in_w2 (c := (3 : Int32)) h (by decide))]
  rfl
def lkU (r : Nat → Int32) : Int32 := ((((r 1) &&& (31 : Int32)) + (32 : Int32)) + ((256 : Int32) * (r 7))) + (if (r 8) = 0 then (0 : Int32) else (4096 : Int32))
def lkL (r : Nat → Int32) : Int32 := ((((r 1) &&& (31 : Int32)) + (0 : Int32)) + ((256 : Int32) * (r 7))) + (if (r 8) = 0 then (0 : Int32) else (4096 : Int32))
def nxt (r M : Nat → Int32) : Int32 := M (ix (s_X_wordsOf (r 1 &&& (31 : Int32))))
def kMU (r d a M : Nat → Int32) : Nat → Int32 := kM M (r 1 &&& (31 : Int32)) (r 3) (((r 4) + ((4 : Int32) * (r 5))) + ((8 : Int32) * (r 6))) (a 6) (a 7) (d 4) (d 5) (d 6) (d 7)
def kML (r d a M : Nat → Int32) : Nat → Int32 := kM M (r 1 &&& (31 : Int32)) (r 3) (a 7) (a 2) (a 3) (d 0) (d 1) (d 2) (d 3)
theorem keepU_c1 (h : ¬ s_X_isArea (r 1 &&& (31 : Int32)) = 0) : s_R_keepU r d a M = (1, if nxt r M &&& (31 : Int32) = r 2 then upd (upd (upd r 1 (nxt r M)) 3 (lkU r)) 9 1 else upd (upd r 1 (nxt r M)) 3 (lkU r), kMU r d a M) := by
  unfold s_R_keepU
  rw [area_same, if_neg h, start_same h, kM_of h, read_in (in_w0 h), ix4, ix5, ix6, ix7]
  by_cases hc : nxt r M &&& (31 : Int32) = r 2
  · rw [if_pos hc]
    exact if_pos hc
  · rw [if_neg hc]
    exact if_neg hc
theorem keepL_c1 (h : ¬ s_X_isArea (r 1 &&& (31 : Int32)) = 0) : s_R_keepL r d a M = (1, if nxt r M &&& (31 : Int32) = r 2 then upd (upd (upd r 1 (nxt r M)) 3 (lkL r)) 9 1 else upd (upd r 1 (nxt r M)) 3 (lkL r), kML r d a M) := by
  unfold s_R_keepL
  rw [area_same, if_neg h, start_same h, kM_of h, read_in (in_w0 h), ix0, ix1, ix2, ix3, ix7]
  by_cases hc : nxt r M &&& (31 : Int32) = r 2
  · rw [if_pos hc]
    exact if_pos hc
  · rw [if_neg hc]
    exact if_neg hc
theorem keepU_x1 (hr : ro r x o) (h : ¬ s_X_isArea (r 1 &&& (31 : Int32)) = 0) : s_X_keepU x M d a o lo hi ri = (1, upd x 17 (if (x 17) = 0 then (if nxt r M &&& (31 : Int32) = r 2 then (1 : Int32) else (0 : Int32)) else (1 : Int32)), kMU r d a M, upd (upd o 1 (nxt r M)) 3 (lkU r)) := by
  obtain ⟨e0, e1, e2, e3, f1, f2, f3, f4, f5⟩ := hr
  unfold s_X_keepU
  rw [ix1, ix2, ix3, ix4, ix5, ix6, ix7, e1, if_neg h, e3, f1, f2, f3, f4, f5, show (upd (upd o 1 (M (ix (s_X_wordsOf (r 1 &&& (31 : Int32)))))) 3 (((((r 1) &&& (31 : Int32)) + (32 : Int32)) + ((256 : Int32) * (r 7))) + (if (r 8) = 0 then (0 : Int32) else (4096 : Int32)))) 2 = o 2 from rfl, e2]
  rfl
theorem keepL_x1 (hr : ro r x o) (h : ¬ s_X_isArea (r 1 &&& (31 : Int32)) = 0) : s_X_keepL x M d a o lo hi ri = (1, upd x 17 (if (x 17) = 0 then (if nxt r M &&& (31 : Int32) = r 2 then (1 : Int32) else (0 : Int32)) else (1 : Int32)), kML r d a M, upd (upd o 1 (nxt r M)) 3 (lkL r)) := by
  obtain ⟨e0, e1, e2, e3, f1, f2, f3, f4, f5⟩ := hr
  unfold s_X_keepL
  rw [ix0, ix1, ix2, ix3, ix7, e1, if_neg h, e3, f4, f5, show (upd (upd o 1 (M (ix (s_X_wordsOf (r 1 &&& (31 : Int32)))))) 3 (((((r 1) &&& (31 : Int32)) + (0 : Int32)) + ((256 : Int32) * (r 7))) + (if (r 8) = 0 then (0 : Int32) else (4096 : Int32)))) 2 = o 2 from rfl, e2]
  rfl
theorem lvl_same (s : Int32) : (if (s &&& (3 : Int32)) ≤ (2 : Int32) then (s &&& (3 : Int32)) else (2 : Int32)) = (if (s &&& (3 : Int32)) = (3 : Int32) then (2 : Int32) else (s &&& (3 : Int32))) := by
  obtain ⟨j, hj, e⟩ := pk_andE s (m := (3 : Int32)) 2 (by decide)
  rw [e]
  have hj : j < 4 := hj
  match j, hj with
  | 0, _ => decide
  | 1, _ => decide
  | 2, _ => decide
  | 3, _ => decide
theorem sim_bringU (hr : ro r x o) (h : ¬ s_X_isArea (r 3 &&& (31 : Int32)) = 0) : (s_X_bringU x M d a o lo hi ri).2.1 = (s_R_bringBackU r d a M).2.2.2 ∧ (s_X_bringU x M d a o lo hi ri).2.2.1 = (s_R_bringBackU r d a M).2.1 ∧ (s_X_bringU x M d a o lo hi ri).2.2.2.1 = (s_R_bringBackU r d a M).2.2.1 ∧ ro (s_R_bringBackU r d a M).1 (s_X_bringU x M d a o lo hi ri).1 (s_X_bringU x M d a o lo hi ri).2.2.2.2 ∧ (∀ k, k ≠ 1 → k ≠ 2 → k ≠ 3 → (s_X_bringU x M d a o lo hi ri).1 k = x k) ∧ (s_R_bringBackU r d a M).1 9 = r 9 := by
  obtain ⟨e0, e1, e2, e3, f1, f2, f3, f4, f5⟩ := hr
  unfold s_X_bringU s_R_bringBackU s_R_takeState
  simp only [start_same h, read_in (in_w0 h), read_in (in_w1 (c := (1 : Int32)) h (by decide)), read_in (in_w1 (c := (2 : Int32)) h (by decide)), read_in (in_w1 (c := (3 : Int32)) h (by decide)), read_in (in_w2 (c := (0 : Int32)) h (by decide)), read_in (in_w2 (c := (1 : Int32)) h (by decide)), read_in (in_w2 (c := (2 : Int32)) h (by decide)), read_in (in_w2 (c := (3 : Int32)) h (by decide)), write_in (in_w0 h), ix0, ix1, ix2, ix3, ix4, ix5, ix6, ix7, e3, lvl_same]
  refine ⟨?_, trivial, trivial, ⟨e0, rfl, e2, rfl, rfl, rfl, rfl, f4, f5⟩, fun k h1 h2 h3 => ?_, rfl⟩
  · show upd M _ (o 1) = upd M _ (r 1)
    rw [e1]
  · simp only [upd, if_neg h1, if_neg h2, if_neg h3]
theorem sim_bringL (hr : ro r x o) (h : ¬ s_X_isArea (r 3 &&& (31 : Int32)) = 0) : (s_X_bringL x M d a o lo hi ri).1 = (s_R_bringBackL r d a M).2.2.2 ∧ (s_X_bringL x M d a o lo hi ri).2.1 = (s_R_bringBackL r d a M).2.1 ∧ (s_X_bringL x M d a o lo hi ri).2.2.1 = (s_R_bringBackL r d a M).2.2.1 ∧ ro (s_R_bringBackL r d a M).1 x (s_X_bringL x M d a o lo hi ri).2.2.2 ∧ (s_R_bringBackL r d a M).1 9 = r 9 := by
  obtain ⟨e0, e1, e2, e3, f1, f2, f3, f4, f5⟩ := hr
  unfold s_X_bringL s_R_bringBackL
  simp only [start_same h, read_in (in_w0 h), read_in (in_w1 (c := (1 : Int32)) h (by decide)), read_in (in_w1 (c := (2 : Int32)) h (by decide)), read_in (in_w1 (c := (3 : Int32)) h (by decide)), read_in (in_w2 (c := (0 : Int32)) h (by decide)), read_in (in_w2 (c := (1 : Int32)) h (by decide)), read_in (in_w2 (c := (2 : Int32)) h (by decide)), read_in (in_w2 (c := (3 : Int32)) h (by decide)), write_in (in_w0 h), ix0, ix1, ix2, ix3, ix4, ix5, ix6, ix7, e3]
  refine ⟨?_, trivial, trivial, ⟨e0, rfl, e2, rfl, f1, f2, f3, f4, f5⟩, rfl⟩
  show upd M _ (o 1) = upd M _ (r 1)
  rw [e1]
end SK
