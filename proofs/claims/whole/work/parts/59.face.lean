/-! the calls of the face -/
def rl (z r t x o : fn) : Prop := ro r x o ∧ zx z x ∧ tx t x ∧ iv r ∧ zb z
section SF
variable {z r t x o M d a lo hi ri : fn} {a1 a2 a3 a4 a5 : Int32}
theorem rl_xiv (h : rl z r t x o) : xiv x := by
  obtain ⟨⟨-, -, -, -, -, f2, -, f4, f5⟩, ⟨z7, -, -, z13, -, -⟩, -, i1, i2⟩ := h
  exact ⟨by rw [f2]; exact i1.1, by rw [f5]; exact i1.2.1, by rw [f4]; exact i1.2.2, by rw [z7]; exact i2.1, by rw [z13]; exact i2.2⟩
theorem rl_0 (h : rl z r t x o) (v : Int32) : rl z r t (upd x 0 v) o := h
theorem rl_init : rl (upd (fun _ => 0) 5 (-1 : Int32)) (fun _ => 0) (fun _ => 0) (upd (upd (fun _ => 0) 10 (1 : Int32)) 15 (-1 : Int32)) (fun _ => 0) :=
  ⟨⟨rfl, rfl, rfl, rfl, rfl, rfl, rfl, rfl, rfl⟩, ⟨rfl, rfl, rfl, rfl, rfl, rfl⟩, ⟨rfl, rfl, rfl, Or.inl (by decide), rfl⟩, ⟨Or.inl rfl, Or.inl rfl, by decide⟩, ⟨Or.inl rfl, Or.inl rfl⟩⟩
theorem f_put (h : rl z r t x o) : (s_X_put x M d a o lo hi ri a1 a2).1 = (s_C_put z M r d a lo hi ri t a1 a2).1 ∧ (s_X_put x M d a o lo hi ri a1 a2).2.2 = (s_C_put z M r d a lo hi ri t a1 a2).2 ∧ rl z r t (s_X_put x M d a o lo hi ri a1 a2).2.1 o := by
  unfold s_X_put s_C_put
  by_cases h1 : a1 < 0
  · have e : s_M_has a1 = 0 := by unfold s_M_has; rw [if_pos h1]
    rw [if_pos h1, if_pos e]
    exact ⟨rfl, rfl, rl_0 h _⟩
  · rw [if_neg h1]
    by_cases h2 : a1 < (512 : Int32)
    · have hin := in_pc h1 h2
      rw [if_pos h2, has_in hin, if_neg ne_10, write_in hin]
      exact ⟨rfl, rfl, rl_0 h _⟩
    · have e : s_M_has a1 = 0 := by unfold s_M_has; rw [if_neg h1, if_pos (zz_ge h2)]
      rw [if_neg h2, if_pos e]
      exact ⟨rfl, rfl, rl_0 h _⟩
theorem area_j {j : Nat} (h1 : 1 ≤ j) (h2 : j ≤ 24) : ¬ s_X_isArea (nI j) = 0 := by
  unfold s_X_isArea
  have e := nI_toInt (n := j) (by omega)
  have g1 : ¬ nI j < (1 : Int32) := by rw [ni_lt, e, ni_1]; omega
  have g2 : ¬ (24 : Int32) < nI j := by rw [ni_lt, e, ni_24]; omega
  have g3 : nI j ≤ (24 : Int32) := by rw [ni_le, e, ni_24]; omega
  have g4 : (1 : Int32) ≤ nI j := by rw [ni_le, e, ni_1]; omega
  rw [if_neg g1, if_neg g2]
  exact ne_10
theorem pool_same (hn : ¬ (24 : Int32) < a1) : ∀ (n j : Nat) (M : fn), 25 < n + j → 1 ≤ j → j ≤ 25 → s_X_pool_loop d a o lo hi ri a1 a2 n x M j = (x, s_M_chainAreas_loop a1 n M j, upd (upd (upd o (ix (1 : Int32)) (if a1 ≤ 0 then (0 : Int32) else (1 : Int32))) (ix (2 : Int32)) a2) (ix (3 : Int32)) (0 : Int32))
  | 0, j, M, h1, _, h3 => by omega
  | n + 1, j, M, h1, h2, h3 => by
    rw [s_X_pool_loop, s_M_chainAreas_loop]
    by_cases hc : a1 < nI j
    · rw [if_pos hc, if_pos hc]
    · rw [if_neg hc, if_neg hc]
      have h4 := zz_chain h3 hn hc
      have ha := area_j h2 (by omega)
      rw [start_same ha, write_in (in_w0 ha)]
      have e : (if a1 ≤ (nI j) then (0 : Int32) else ((nI j) + (1 : Int32))) = (if (nI j) = a1 then (0 : Int32) else ((nI j) + (1 : Int32))) := by
        by_cases hq : nI j = a1
        · have g : a1 ≤ nI j := by rw [hq, ni_le]; omega
          rw [if_pos hq, if_pos g]
        · have g : ¬ a1 ≤ nI j := by
            intro g
            apply hq
            rw [ni_lt] at hc
            rw [ni_le] at g
            exact Int32.toInt_inj.mp (by omega)
          rw [if_neg hq, if_neg g]
      rw [e]
      exact pool_same hn n (j + 1) _ (by omega) (by omega) (by omega)
theorem f_pool (h : rl z r t x o) : (s_X_pool x M d a o lo hi ri a1 a2).1 0 = t_C_pool z M r d a lo hi ri t a1 a2 ∧ (s_X_pool x M d a o lo hi ri a1 a2).2.1 = (s_C_pool z M r d a lo hi ri t a1 a2).1 ∧ rl z (s_C_pool z M r d a lo hi ri t a1 a2).2 t (s_X_pool x M d a o lo hi ri a1 a2).1 (s_X_pool x M d a o lo hi ri a1 a2).2.2 := by
  unfold s_X_pool s_C_pool t_C_pool
  have z7 : x 7 = z 0 := h.2.1.1
  by_cases h1 : a1 < 0
  · rw [if_pos h1, if_pos h1, if_pos h1]; exact ⟨rfl, rfl, rl_0 h _⟩
  rw [if_neg h1, if_neg h1, if_neg h1]
  by_cases h2 : (24 : Int32) < a1
  · rw [if_pos h2, if_pos h2, if_pos h2]; exact ⟨rfl, rfl, rl_0 h _⟩
  rw [if_neg h2, if_neg h2, if_neg h2]
  by_cases h3 : a2 < 0
  · rw [if_pos h3, if_pos h3, if_pos h3]; exact ⟨rfl, rfl, rl_0 h _⟩
  rw [if_neg h3, if_neg h3, if_neg h3]
  by_cases h4 : a2 ≤ (31 : Int32)
  · rw [if_pos h4, if_pos h4, if_pos h4, z7]
    by_cases h5 : z 0 = 0
    · rw [if_pos h5, if_pos h5, if_pos h5, pool_same h2 25 1 M (by omega) (by omega) (by omega), ix1, ix2, ix3]
      have e : (if a1 ≤ 0 then (0 : Int32) else (1 : Int32)) = (if a1 = 0 then (0 : Int32) else (1 : Int32)) := by
        by_cases hq : a1 = 0
        · rw [if_pos hq, if_pos (by rw [hq]; decide)]
        · have g : ¬ a1 ≤ 0 := fun g => hq (Int32.toInt_inj.mp (by rw [ni_lt] at h1; rw [ni_le] at g; omega))
          rw [if_neg hq, if_neg g]
      rw [e]
      obtain ⟨⟨e0, e1, e2, e3, f1, f2, f3, f4, f5⟩, hz, ht, hi, hb⟩ := h
      exact ⟨rfl, rfl, ⟨e0, rfl, rfl, rfl, f1, f2, f3, f4, f5⟩, hz, ht, hi, hb⟩
    · rw [if_neg h5, if_neg h5, if_neg h5]; exact ⟨rfl, rfl, rl_0 h _⟩
  · rw [if_neg h4, if_neg h4, if_neg h4]; exact ⟨rfl, rfl, rl_0 h _⟩
theorem f_tables (h : rl z r t x o) : rl (s_C_tables z M r d a lo hi ri t a1 a2) r t (s_X_tables x M d a o lo hi ri a1 a2) o := by
  obtain ⟨hr, ⟨z7, z11, z12, z13, z14, z15⟩, ht, hi, hb⟩ := h
  exact ⟨hr, ⟨z7, rfl, rfl, z13, z14, z15⟩, ht, hi, hb⟩
theorem f_range (h : rl z r t x o) : (s_X_range x M d a o lo hi ri a1 a2 a3 a4 a5).1 0 = t_C_range z M r d a lo hi ri t a1 a2 a3 a4 a5 ∧ (s_X_range x M d a o lo hi ri a1 a2 a3 a4 a5).2.1 = (s_C_range z M r d a lo hi ri t a1 a2 a3 a4 a5).1 ∧ (s_X_range x M d a o lo hi ri a1 a2 a3 a4 a5).2.2.1 = (s_C_range z M r d a lo hi ri t a1 a2 a3 a4 a5).2.1 ∧ (s_X_range x M d a o lo hi ri a1 a2 a3 a4 a5).2.2.2 = (s_C_range z M r d a lo hi ri t a1 a2 a3 a4 a5).2.2 ∧ rl z r t (s_X_range x M d a o lo hi ri a1 a2 a3 a4 a5).1 o := by
  unfold s_X_range s_C_range t_C_range
  have h2' : ((2 : Int32) ≤ a1) = ((1 : Int32) < a1) := propext (by rw [ni_le, ni_lt, ni_1, ni_2]; omega)
  have h4' : (a2 < (3 : Int32)) ↔ ¬ ((2 : Int32) < a2) := by rw [ni_lt, ni_lt, ni_3, ni_2]; omega
  by_cases h1 : a1 < 0
  · rw [if_pos h1, if_pos h1, if_pos h1]; exact ⟨rfl, rfl, rfl, rfl, rl_0 h _⟩
  rw [if_neg h1, if_neg h1, if_neg h1]
  by_cases h2 : (1 : Int32) < a1
  · have g : (2 : Int32) ≤ a1 := h2' ▸ h2
    rw [if_pos g, if_pos g, if_pos h2]; exact ⟨rfl, rfl, rfl, rfl, rl_0 h _⟩
  have g2 : ¬ (2 : Int32) ≤ a1 := fun q => h2 (h2' ▸ q)
  rw [if_neg g2, if_neg g2, if_neg h2]
  by_cases h3 : a2 < 0
  · rw [if_pos h3, if_pos h3, if_pos h3]; exact ⟨rfl, rfl, rfl, rfl, rl_0 h _⟩
  rw [if_neg h3, if_neg h3, if_neg h3]
  by_cases h4 : (2 : Int32) < a2
  · have g : ¬ a2 < (3 : Int32) := fun q => h4'.mp q h4
    rw [if_neg g, if_neg g, if_pos h4]; exact ⟨rfl, rfl, rfl, rfl, rl_0 h _⟩
  have g4 : a2 < (3 : Int32) := h4'.mpr h4
  rw [if_pos g4, if_pos g4, if_neg h4]
  by_cases h5 : a5 < 0
  · rw [if_pos h5, if_pos h5, if_pos h5]; exact ⟨rfl, rfl, rfl, rfl, rl_0 h _⟩
  rw [if_neg h5, if_neg h5, if_neg h5]
  by_cases h6 : a5 ≤ (3 : Int32)
  · rw [if_pos h6, if_pos h6, if_pos h6, Int32.mul_comm (3 : Int32) a1]; exact ⟨rfl, rfl, rfl, rfl, rl_0 h _⟩
  · rw [if_neg h6, if_neg h6, if_neg h6]; exact ⟨rfl, rfl, rfl, rfl, rl_0 h _⟩
theorem f_guard (h : rl z r t x o) (ha : a1 = 0 ∨ a1 = 1) : rl (s_C_guard z M r d a lo hi ri t a1) r t (s_X_guard x M d a o lo hi ri a1) o := by
  obtain ⟨hr, ⟨z7, z11, z12, z13, z14, z15⟩, ht, hi, hb⟩ := h
  exact ⟨hr, ⟨z7, z11, z12, rfl, z14, z15⟩, ht, hi, ⟨hb.1, ha⟩⟩
theorem has15 : (s_T_has a1 = 0) ↔ (a1 < (1 : Int32) ∨ ¬ a1 ≤ (15 : Int32)) := by
  unfold s_T_has
  have e : (15 : Int32).toInt = 15 := by decide
  by_cases h1 : a1 < (1 : Int32)
  · rw [if_pos h1]; exact ⟨fun _ => Or.inl h1, fun _ => rfl⟩
  · rw [if_neg h1]
    by_cases h2 : (15 : Int32) < a1
    · rw [if_pos h2]; exact ⟨fun _ => Or.inr (by rw [ni_lt] at h2; rw [ni_le]; omega), fun _ => rfl⟩
    · rw [if_neg h2]
      refine ⟨fun q => absurd q (by decide), fun q => ?_⟩
      rcases q with q | q
      · exact absurd q h1
      · exact absurd (show a1 ≤ (15 : Int32) by rw [ni_lt] at h2; rw [ni_le]; omega) q
theorem f_timer (h : rl z r t x o) : (s_X_timer x M d a o lo hi ri a1 a2) 0 = t_C_timer z M r d a lo hi ri t a1 a2 ∧ rl z r (s_C_timer z M r d a lo hi ri t a1 a2) (s_X_timer x M d a o lo hi ri a1 a2) o := by
  unfold s_X_timer s_C_timer t_C_timer
  by_cases h1 : a1 < 0
  · rw [if_pos h1, if_pos h1, if_pos h1]; exact ⟨rfl, rl_0 h _⟩
  rw [if_neg h1, if_neg h1, if_neg h1]
  by_cases h2 : a2 < (1 : Int32)
  · have g := has15.mpr (Or.inl h2)
    rw [if_pos h2, if_pos g, if_pos g]; exact ⟨rfl, rl_0 h _⟩
  rw [if_neg h2]
  by_cases h3 : a2 ≤ (15 : Int32)
  · have g : ¬ s_T_has a2 = 0 := fun q => (has15.mp q).elim h2 (fun q => q h3)
    rw [if_pos h3, if_neg g, if_neg g]
    obtain ⟨hr, hz, ⟨t6, t8, t9, t10, t16⟩, hi, hb⟩ := h
    exact ⟨rfl, hr, hz, ⟨t6, t8, rfl, Or.inr rfl, t16⟩, hi, hb⟩
  · have g := has15.mpr (Or.inr h3)
    rw [if_neg h3, if_pos g, if_pos g]; exact ⟨rfl, rl_0 h _⟩
theorem bit_on (p : Int32) {j : Nat} (hj : j < 32) (h : ((p >>> ((nI j) &&& 31)) &&& (1 : Int32)) = (1 : Int32)) : p ||| ((1 : Int32) <<< ((nI j) &&& 31)) = p := by
  have key : ∀ (k : Int32) (i : Nat), i < 32 → k.toBitVec = BitVec.ofNat 32 i → ((p >>> k) &&& (1 : Int32)) = (1 : Int32) → p ||| ((1 : Int32) <<< k) = p := by
    intro k i hi hk h
    apply Int32.toBitVec_inj.mp
    have h := congrArg Int32.toBitVec h
    have hs : (k.toBitVec.smod 32).toNat = i := by
      rw [hk]
      have : ∀ i : Fin 32, ((BitVec.ofNat 32 i.1).smod 32).toNat = i.1 := by decide +kernel
      exact this ⟨i, hi⟩
    rw [Int32.toBitVec_and, Int32.toBitVec_shiftRight] at h
    rw [Int32.toBitVec_or, Int32.toBitVec_shiftLeft]
    rw [BitVec.sshiftRight', hs] at h
    rw [show ∀ (u : BitVec 32) (v : BitVec 32), u <<< v = u <<< v.toNat from fun _ _ => rfl, hs]
    have hb : p.toBitVec.getLsbD i = true := by
      have h0 := congrArg (fun b => b.getLsbD 0) h
      simp only [BitVec.getLsbD_and, BitVec.getLsbD_sshiftRight] at h0
      have : (Int32.toBitVec 1).getLsbD 0 = true := by decide
      rw [this] at h0
      simp [hi] at h0
      exact h0
    apply BitVec.eq_of_getLsbD_eq
    intro q hq
    rw [BitVec.getLsbD_or, BitVec.getLsbD_shiftLeft]
    by_cases hqi : q = i
    · subst hqi; rw [hb]; rfl
    · have : (Int32.toBitVec 1).getLsbD (q - i) = true → q - i = 0 := by
        intro w
        have e : Int32.toBitVec 1 = 1#32 := by decide
        rw [e, BitVec.getLsbD_one] at w
        simp at w
        omega
      by_cases hlt : q < i
      · simp [hlt]
      · have w : (Int32.toBitVec 1).getLsbD (q - i) = false := by
          cases e : (Int32.toBitVec 1).getLsbD (q - i) with
          | false => rfl
          | true => have := this e; omega
        rw [w]; simp
  exact key _ j hj (by
    have : ∀ i : Fin 32, ((nI i.1) &&& (31 : Int32)).toBitVec = BitVec.ofNat 32 i.1 := by decide +kernel
    exact this ⟨j, hj⟩) h
theorem f_request (h : rl z r t x o) : (s_X_request x M d a o lo hi ri a1).1 = (s_C_request z M r d a lo hi ri t a1).1 ∧ rl z r (s_C_request z M r d a lo hi ri t a1).2 (s_X_request x M d a o lo hi ri a1).2 o := by
  unfold s_X_request s_C_request
  have t6 : x 6 = t 3 := h.2.2.1.1
  by_cases h2 : a1 < (1 : Int32)
  · have g := has15.mpr (Or.inl h2)
    rw [if_pos h2, if_pos g]; exact ⟨rfl, rl_0 h _⟩
  rw [if_neg h2]
  by_cases h3 : a1 ≤ (15 : Int32)
  · have g : ¬ s_T_has a1 = 0 := fun q => (has15.mp q).elim h2 (fun q => q h3)
    rw [if_pos h3, if_neg g, t6]
    obtain ⟨j, hj, e⟩ := zz_small (M := (15 : Int32)) (n := 15) (by decide) (fun q => h2 (by rw [ni_lt, ni_0] at q; rw [ni_lt, ni_1]; omega)) h3
    have hp := isp t a1
    obtain ⟨hr, hz, ⟨t6, t8, t9, t10, t16⟩, hi, hb⟩ := h
    by_cases h4 : (((t 3) >>> (a1 &&& 31)) &&& (1 : Int32)) = (1 : Int32)
    · have h5 : ¬ s_T_isPending t a1 = 0 := fun q => by rw [hp, h4] at q; exact absurd q (by decide)
      rw [if_pos h4, if_neg h5]
      refine ⟨rfl, hr, hz, ⟨?_, t8, t9, t10, t16⟩, hi, hb⟩
      show (t 3) ||| ((1 : Int32) <<< (a1 &&& 31)) = t 3
      rw [e]
      rw [e] at h4
      exact bit_on (t 3) (by omega) h4
    · have h5 : s_T_isPending t a1 = 0 := by unfold s_T_isPending; rw [if_neg h4]
      rw [if_neg h4, if_pos h5]
      exact ⟨rfl, hr, hz, ⟨rfl, t8, t9, t10, t16⟩, hi, hb⟩
  · have g := has15.mpr (Or.inr h3)
    rw [if_neg h3, if_pos g]; exact ⟨rfl, rl_0 h _⟩
theorem f_start (h : rl z r t x o) (ha : a3 = 0 ∨ a3 = 1) : (s_X_start x M d a o lo hi ri a1 a2 a3).1 0 = t_C_start z M r d a lo hi ri t a1 a2 a3 ∧ rl (s_C_start z M r d a lo hi ri t a1 a2 a3).1 (s_C_start z M r d a lo hi ri t a1 a2 a3).2 t (s_X_start x M d a o lo hi ri a1 a2 a3).1 (s_X_start x M d a o lo hi ri a1 a2 a3).2 := by
  unfold s_X_start s_C_start t_C_start
  have z7 : x 7 = z 0 := h.2.1.1
  by_cases h1 : a2 < 0
  · rw [if_pos h1, if_pos h1, if_pos h1]; exact ⟨rfl, rl_0 h _⟩
  rw [if_neg h1, if_neg h1, if_neg h1]
  by_cases h2 : a2 ≤ (2 : Int32)
  · rw [if_pos h2, if_pos h2, if_pos h2, z7]
    by_cases h5 : z 0 = 0
    · rw [if_pos h5, if_pos h5, if_pos h5, ix0]
      obtain ⟨⟨e0, e1, e2, e3, f1, f2, f3, f4, f5⟩, ⟨z7, z11, z12, z13, z14, z15⟩, ht, hi, hb⟩ := h
      exact ⟨rfl, ⟨rfl, e1, e2, e3, rfl, rfl, rfl, rfl, rfl⟩, ⟨rfl, z11, z12, z13, z14, z15⟩, ht, ⟨Or.inl rfl, ha, show ¬ (0 : Int32) < 0 by decide⟩, ⟨Or.inr rfl, hb.2⟩⟩
    · rw [if_neg h5, if_neg h5, if_neg h5]; exact ⟨rfl, rl_0 h _⟩
  · rw [if_neg h2, if_neg h2, if_neg h2]; exact ⟨rfl, rl_0 h _⟩
theorem f_halt (h : rl z r t x o) : (s_X_halt x M d a o lo hi ri).1 = (s_C_halt z M r d a lo hi ri t).1 ∧ rl (s_C_halt z M r d a lo hi ri t).2 r t (s_X_halt x M d a o lo hi ri).2 o := by
  obtain ⟨hr, ⟨z7, z11, z12, z13, z14, z15⟩, ht, hi, hb⟩ := h
  exact ⟨z7, hr, ⟨rfl, z11, z12, z13, z14, z15⟩, ht, hi, ⟨Or.inl rfl, hb.2⟩⟩
theorem run_same : ∀ (n j : Nat) (z M r d a t x o : fn), rl z r t x o → x 0 = 0 →
    (s_X_run_loop lo hi ri a1 n x M d a o j).1 = (s_C_run_loop lo hi ri a1 n z M r d a t j).1 ∧ (s_X_run_loop lo hi ri a1 n x M d a o j).2.2.1 = (s_C_run_loop lo hi ri a1 n z M r d a t j).2.2.1 ∧ (s_X_run_loop lo hi ri a1 n x M d a o j).2.2.2.1 = (s_C_run_loop lo hi ri a1 n z M r d a t j).2.2.2.2.1 ∧ (s_X_run_loop lo hi ri a1 n x M d a o j).2.2.2.2.1 = (s_C_run_loop lo hi ri a1 n z M r d a t j).2.2.2.2.2.1 ∧ rl (s_C_run_loop lo hi ri a1 n z M r d a t j).2.1 (s_C_run_loop lo hi ri a1 n z M r d a t j).2.2.2.1 (s_C_run_loop lo hi ri a1 n z M r d a t j).2.2.2.2.2.2 (s_X_run_loop lo hi ri a1 n x M d a o j).2.1 (s_X_run_loop lo hi ri a1 n x M d a o j).2.2.2.2.2 ∧ (s_X_run_loop lo hi ri a1 n x M d a o j).2.1 0 = 0
  | 0, j, z, M, r, d, a, t, x, o, h, h0 => by
    rw [s_X_run_loop, s_C_run_loop]
    exact ⟨rfl, rfl, rfl, rfl, h, h0⟩
  | n + 1, j, z, M, r, d, a, t, x, o, h, h0 => by
    rw [s_X_run_loop, s_C_run_loop, if_pos h0]
    have z7 : x 7 = z 0 := h.2.1.1
    by_cases h1 : a1 ≤ nI j
    · rw [if_pos h1, if_pos h1]; exact ⟨rfl, rfl, rfl, rfl, h, h0⟩
    rw [if_neg h1, if_neg h1, z7]
    by_cases h2 : z 0 = 0
    · rw [if_pos h2, if_pos h2]; exact ⟨rfl, rfl, rfl, rfl, h, h0⟩
    rw [if_neg h2, if_neg h2]
    have k := sim_step (M := M) (d := d) (a := a) (lo := lo) (hi := hi) (ri := ri) (x0 := 0) (z := z) (r := r) (t := t) (x := x) (o := o) ⟨⟨h.1, h.2.1, h.2.2.1⟩, rfl, rfl, rfl, h.2.2.2.1, h.2.2.2.2, h0⟩ h2
    generalize s_P_step z M r d a lo hi ri t = S at k ⊢
    generalize s_X_step x M d a o lo hi ri = T at k ⊢
    obtain ⟨x', M', d', a', o'⟩ := T
    obtain ⟨⟨k1, k2, k3⟩, e1, e2, e3, i1, i2, h0'⟩ := k
    have e1 : M' = S.2.1 := e1
    have e2 : d' = S.2.2.2.1 := e2
    have e3 : a' = S.2.2.2.2.1 := e3
    subst e1; subst e2; subst e3
    exact run_same n (j + 1) S.1 S.2.1 S.2.2.1 S.2.2.2.1 S.2.2.2.2.1 S.2.2.2.2.2 x' o' ⟨k1, k2, k3, i1, i2⟩ h0'
theorem f_run (h : rl z r t x o) : (s_X_run x M d a o lo hi ri a1).2.1 0 = t_C_run z M r d a lo hi ri t a1 ∧ (s_X_run x M d a o lo hi ri a1).1 = (s_C_run z M r d a lo hi ri t a1).1 ∧ (s_X_run x M d a o lo hi ri a1).2.2.1 = (s_C_run z M r d a lo hi ri t a1).2.2.1 ∧ (s_X_run x M d a o lo hi ri a1).2.2.2.1 = (s_C_run z M r d a lo hi ri t a1).2.2.2.2.1 ∧ (s_X_run x M d a o lo hi ri a1).2.2.2.2.1 = (s_C_run z M r d a lo hi ri t a1).2.2.2.2.2.1 ∧ rl (s_C_run z M r d a lo hi ri t a1).2.1 (s_C_run z M r d a lo hi ri t a1).2.2.2.1 (s_C_run z M r d a lo hi ri t a1).2.2.2.2.2.2 (s_X_run x M d a o lo hi ri a1).2.1 (s_X_run x M d a o lo hi ri a1).2.2.2.2.2 := by
  unfold s_X_run s_C_run t_C_run
  have no : s_X_run_loop lo hi ri a1 301 (upd x 0 (1 : Int32)) M d a o 0 = (nI 0, upd x 0 (1 : Int32), M, d, a, o) := by
    rw [s_X_run_loop, if_neg (by show ¬ (1 : Int32) = 0; decide)]
  have e0 : nI 0 = 0 := by decide
  by_cases h1 : a1 < 0
  · rw [if_pos h1, if_pos h1, no]
    exact ⟨rfl, e0, rfl, rfl, rfl, rl_0 h _⟩
  rw [if_neg h1, if_neg h1]
  by_cases h2 : a1 ≤ (300 : Int32)
  · rw [if_pos h2, if_pos h2]
    obtain ⟨k1, k2, k3, k4, k5, k6⟩ := run_same (lo := lo) (hi := hi) (ri := ri) (a1 := a1) 301 0 z M r d a t (upd x 0 (0 : Int32)) o (rl_0 h _) rfl
    exact ⟨k6, k1, k2, k3, k4, k5⟩
  · rw [if_neg h2, if_neg h2, no]
    exact ⟨rfl, e0, rfl, rfl, rfl, rl_0 h _⟩
theorem f_register (h : rl z r t x o) : (s_X_register x M d a o lo hi ri a1 a2).2 0 = t_C_register z M r d a lo hi ri t a1 a2 ∧ (s_X_register x M d a o lo hi ri a1 a2).1 = s_C_register z M r d a lo hi ri t a1 a2 ∧ rl z r t (s_X_register x M d a o lo hi ri a1 a2).2 o := by
  unfold s_X_register s_C_register t_C_register
  by_cases h1 : a1 < 0
  · rw [if_pos h1, if_pos h1, if_pos h1]; exact ⟨rfl, rfl, rl_0 h _⟩
  rw [if_neg h1, if_neg h1, if_neg h1]
  by_cases h2 : (1 : Int32) < a1
  · rw [if_pos h2, if_pos h2, if_pos h2]; exact ⟨rfl, rfl, rl_0 h _⟩
  rw [if_neg h2, if_neg h2, if_neg h2]
  by_cases h3 : a2 < 0
  · rw [if_pos h3, if_pos h3, if_pos h3]; exact ⟨rfl, rfl, rl_0 h _⟩
  rw [if_neg h3, if_neg h3, if_neg h3]
  by_cases h4 : a2 ≤ (7 : Int32)
  · rw [if_pos h4, if_pos h4, if_pos h4]
    by_cases h5 : a1 = 0
    · rw [if_pos h5, if_pos h5, if_pos h5]; exact ⟨rfl, rfl, rl_0 h _⟩
    · rw [if_neg h5, if_neg h5, if_neg h5]; exact ⟨rfl, rfl, rl_0 h _⟩
  · rw [if_neg h4, if_neg h4, if_neg h4]; exact ⟨rfl, rfl, rl_0 h _⟩
theorem f_word (h : rl z r t x o) : (s_X_word x M d a o lo hi ri a1).1 = s_C_word z M r d a lo hi ri t a1 ∧ rl z r t (s_X_word x M d a o lo hi ri a1).2 o := by
  unfold s_X_word s_C_word
  by_cases h1 : a1 < 0
  · have e : s_M_read M a1 = 0 := by unfold s_M_read s_M_has; rw [if_pos h1, if_pos rfl]
    rw [if_pos h1, e]; exact ⟨rfl, rl_0 h _⟩
  rw [if_neg h1]
  by_cases h2 : a1 < (512 : Int32)
  · rw [if_pos h2, read_in (in_pc h1 h2)]; exact ⟨rfl, rl_0 h _⟩
  · have e : s_M_read M a1 = 0 := by unfold s_M_read s_M_has; rw [if_neg h1, if_pos (zz_ge h2), if_pos rfl]
    rw [if_neg h2, e]; exact ⟨rfl, rl_0 h _⟩
theorem list_same : ∀ (n j : Nat) (y b : Int32), s_X_list_loop M d a o lo hi ri a1 n x j y = (s_M_countAreas_loop M b n j y, x)
  | 0, j, y, b => by rw [s_X_list_loop, s_M_countAreas_loop]
  | n + 1, j, y, b => by
    rw [s_X_list_loop, s_M_countAreas_loop]
    by_cases h1 : (32 : Int32) ≤ nI j
    · rw [if_pos h1, if_pos h1]
    rw [if_neg h1, if_neg h1, area_same]
    by_cases h2 : s_X_isArea y = 0
    · rw [if_pos h2, if_pos h2]
    rw [if_neg h2, if_neg h2, start_same h2, read_in (in_w0 h2)]
    exact list_same n (j + 1) _ b
theorem f_list (h : rl z r t x o) : (s_X_list x M d a o lo hi ri a1).1 = s_C_list z M r d a lo hi ri t a1 ∧ rl z r t (s_X_list x M d a o lo hi ri a1).2 o := by
  unfold s_X_list s_C_list s_M_countAreas
  by_cases h1 : a1 < 0
  · rw [if_pos h1, if_pos h1]; exact ⟨rfl, rl_0 h _⟩
  rw [if_neg h1, if_neg h1]
  by_cases h2 : a1 ≤ (1 : Int32)
  · rw [if_pos h2, if_pos h2, list_same 33 0 _ (if a1 = 0 then (r 1) else (r 3))]
    refine ⟨?_, rl_0 h _⟩
    have e1 : o 1 = r 1 := h.1.2.1
    have e3 : o 3 = r 3 := h.1.2.2.2.1
    by_cases h3 : a1 = 0
    · rw [if_pos h3, if_pos h3, ix1, e1]
    · rw [if_neg h3, if_neg h3, ix3, e3]
  · rw [if_neg h2, if_neg h2]; exact ⟨rfl, rl_0 h _⟩
-- look
theorem lookX_0 : s_X_look x M d a o lo hi ri (0 : Int32) = (if x 7 = 0 then (0 : Int32) else (1 : Int32), upd x 0 (0 : Int32)) := by
  unfold s_X_look
  rw [if_pos (show (0 : Int32) ≤ 0 by decide), if_neg (show ¬ (8 : Int32) ≤ (0 : Int32) by decide), if_pos (show (0 : Int32) = (0 : Int32) by decide)]
  by_cases h : x 7 = 0
  · rw [if_pos h, if_pos h]
  · rw [if_neg h, if_neg h]
theorem lookC_0 : s_C_look z M r d a lo hi ri t (0 : Int32) = if z 0 = 0 then (0 : Int32) else (1 : Int32) := by
  unfold s_C_look
  rw [if_pos (show (0 : Int32) = (0 : Int32) by decide)]
theorem lookX_1 : s_X_look x M d a o lo hi ri (1 : Int32) = (o 0, upd x 0 (0 : Int32)) := by
  unfold s_X_look
  rw [if_neg (show ¬ (1 : Int32) ≤ 0 by decide), if_neg (show ¬ (5 : Int32) ≤ (1 : Int32) by decide)]
  rfl
theorem lookC_1 : s_C_look z M r d a lo hi ri t (1 : Int32) = r 0 := by
  unfold s_C_look
  rw [if_neg (show ¬ (1 : Int32) = (0 : Int32) by decide), if_pos (show (1 : Int32) = (1 : Int32) by decide)]
theorem lookX_2 : s_X_look x M d a o lo hi ri (2 : Int32) = (o 1, upd x 0 (0 : Int32)) := by
  unfold s_X_look
  rw [if_neg (show ¬ (2 : Int32) ≤ 0 by decide), if_neg (show ¬ (5 : Int32) ≤ (2 : Int32) by decide)]
  rfl
theorem lookC_2 : s_C_look z M r d a lo hi ri t (2 : Int32) = r 1 := by
  unfold s_C_look
  rw [if_neg (show ¬ (2 : Int32) = (0 : Int32) by decide), if_neg (show ¬ (2 : Int32) = (1 : Int32) by decide), if_pos (show (2 : Int32) = (2 : Int32) by decide)]
theorem lookX_3 : s_X_look x M d a o lo hi ri (3 : Int32) = (o 2, upd x 0 (0 : Int32)) := by
  unfold s_X_look
  rw [if_neg (show ¬ (3 : Int32) ≤ 0 by decide), if_neg (show ¬ (5 : Int32) ≤ (3 : Int32) by decide)]
  rfl
theorem lookC_3 : s_C_look z M r d a lo hi ri t (3 : Int32) = r 2 := by
  unfold s_C_look
  rw [if_neg (show ¬ (3 : Int32) = (0 : Int32) by decide), if_neg (show ¬ (3 : Int32) = (1 : Int32) by decide), if_neg (show ¬ (3 : Int32) = (2 : Int32) by decide), if_pos (show (3 : Int32) = (3 : Int32) by decide)]
theorem lookX_4 : s_X_look x M d a o lo hi ri (4 : Int32) = (o 3, upd x 0 (0 : Int32)) := by
  unfold s_X_look
  rw [if_neg (show ¬ (4 : Int32) ≤ 0 by decide), if_neg (show ¬ (5 : Int32) ≤ (4 : Int32) by decide)]
  rfl
theorem lookC_4 : s_C_look z M r d a lo hi ri t (4 : Int32) = r 3 := by
  unfold s_C_look
  rw [if_neg (show ¬ (4 : Int32) = (0 : Int32) by decide), if_neg (show ¬ (4 : Int32) = (1 : Int32) by decide), if_neg (show ¬ (4 : Int32) = (2 : Int32) by decide), if_neg (show ¬ (4 : Int32) = (3 : Int32) by decide), if_pos (show (4 : Int32) = (4 : Int32) by decide)]
theorem lookX_5 : s_X_look x M d a o lo hi ri (5 : Int32) = (((x 1) + ((4 : Int32) * (x 2))) + ((8 : Int32) * (x 3)), upd x 0 (0 : Int32)) := by
  unfold s_X_look
  rw [if_neg (show ¬ (5 : Int32) ≤ 0 by decide), if_pos (show (5 : Int32) ≤ (5 : Int32) by decide), if_neg (show ¬ (8 : Int32) ≤ (5 : Int32) by decide), if_neg (show ¬ (5 : Int32) = (0 : Int32) by decide), if_pos (show (5 : Int32) = (5 : Int32) by decide)]
theorem lookC_5 : s_C_look z M r d a lo hi ri t (5 : Int32) = s_R_state r d a := by
  unfold s_C_look
  rw [if_neg (show ¬ (5 : Int32) = (0 : Int32) by decide), if_neg (show ¬ (5 : Int32) = (1 : Int32) by decide), if_neg (show ¬ (5 : Int32) = (2 : Int32) by decide), if_neg (show ¬ (5 : Int32) = (3 : Int32) by decide), if_neg (show ¬ (5 : Int32) = (4 : Int32) by decide), if_pos (show (5 : Int32) = (5 : Int32) by decide)]
theorem lookX_6 : s_X_look x M d a o lo hi ri (6 : Int32) = (x 4, upd x 0 (0 : Int32)) := by
  unfold s_X_look
  rw [if_neg (show ¬ (6 : Int32) ≤ 0 by decide), if_pos (show (5 : Int32) ≤ (6 : Int32) by decide), if_neg (show ¬ (8 : Int32) ≤ (6 : Int32) by decide), if_neg (show ¬ (6 : Int32) = (0 : Int32) by decide), if_neg (show ¬ (6 : Int32) = (5 : Int32) by decide), if_pos (show (6 : Int32) = (6 : Int32) by decide)]
theorem lookC_6 : s_C_look z M r d a lo hi ri t (6 : Int32) = r 7 := by
  unfold s_C_look
  rw [if_neg (show ¬ (6 : Int32) = (0 : Int32) by decide), if_neg (show ¬ (6 : Int32) = (1 : Int32) by decide), if_neg (show ¬ (6 : Int32) = (2 : Int32) by decide), if_neg (show ¬ (6 : Int32) = (3 : Int32) by decide), if_neg (show ¬ (6 : Int32) = (4 : Int32) by decide), if_neg (show ¬ (6 : Int32) = (5 : Int32) by decide), if_pos (show (6 : Int32) = (6 : Int32) by decide)]
theorem lookX_7 : s_X_look x M d a o lo hi ri (7 : Int32) = (if x 5 = 0 then (0 : Int32) else (1 : Int32), upd x 0 (0 : Int32)) := by
  unfold s_X_look
  rw [if_neg (show ¬ (7 : Int32) ≤ 0 by decide), if_pos (show (5 : Int32) ≤ (7 : Int32) by decide), if_neg (show ¬ (8 : Int32) ≤ (7 : Int32) by decide), if_neg (show ¬ (7 : Int32) = (0 : Int32) by decide), if_neg (show ¬ (7 : Int32) = (5 : Int32) by decide), if_neg (show ¬ (7 : Int32) = (6 : Int32) by decide), if_pos (show (7 : Int32) = (7 : Int32) by decide)]
  by_cases h : x 5 = 0
  · rw [if_pos h, if_pos h]
  · rw [if_neg h, if_neg h]
theorem lookC_7 : s_C_look z M r d a lo hi ri t (7 : Int32) = if r 8 = 0 then (0 : Int32) else (1 : Int32) := by
  unfold s_C_look
  rw [if_neg (show ¬ (7 : Int32) = (0 : Int32) by decide), if_neg (show ¬ (7 : Int32) = (1 : Int32) by decide), if_neg (show ¬ (7 : Int32) = (2 : Int32) by decide), if_neg (show ¬ (7 : Int32) = (3 : Int32) by decide), if_neg (show ¬ (7 : Int32) = (4 : Int32) by decide), if_neg (show ¬ (7 : Int32) = (5 : Int32) by decide), if_neg (show ¬ (7 : Int32) = (6 : Int32) by decide), if_pos (show (7 : Int32) = (7 : Int32) by decide)]
theorem lookX_8 : s_X_look x M d a o lo hi ri (8 : Int32) = (x 8, upd x 0 (0 : Int32)) := by
  unfold s_X_look
  rw [if_neg (show ¬ (8 : Int32) ≤ 0 by decide), if_pos (show (5 : Int32) ≤ (8 : Int32) by decide), if_pos (show (8 : Int32) ≤ (8 : Int32) by decide), if_pos (show (8 : Int32) = (8 : Int32) by decide)]
theorem lookC_8 : s_C_look z M r d a lo hi ri t (8 : Int32) = t 0 := by
  unfold s_C_look
  rw [if_neg (show ¬ (8 : Int32) = (0 : Int32) by decide), if_neg (show ¬ (8 : Int32) = (1 : Int32) by decide), if_neg (show ¬ (8 : Int32) = (2 : Int32) by decide), if_neg (show ¬ (8 : Int32) = (3 : Int32) by decide), if_neg (show ¬ (8 : Int32) = (4 : Int32) by decide), if_neg (show ¬ (8 : Int32) = (5 : Int32) by decide), if_neg (show ¬ (8 : Int32) = (6 : Int32) by decide), if_neg (show ¬ (8 : Int32) = (7 : Int32) by decide), if_pos (show (8 : Int32) = (8 : Int32) by decide)]
theorem lookX_9 : s_X_look x M d a o lo hi ri (9 : Int32) = (x 6, upd x 0 (0 : Int32)) := by
  unfold s_X_look
  rw [if_neg (show ¬ (9 : Int32) ≤ 0 by decide), if_pos (show (5 : Int32) ≤ (9 : Int32) by decide), if_pos (show (8 : Int32) ≤ (9 : Int32) by decide), if_neg (show ¬ (9 : Int32) = (8 : Int32) by decide), if_pos (show (9 : Int32) = (9 : Int32) by decide)]
theorem lookC_9 : s_C_look z M r d a lo hi ri t (9 : Int32) = t 3 := by
  unfold s_C_look
  rw [if_neg (show ¬ (9 : Int32) = (0 : Int32) by decide), if_neg (show ¬ (9 : Int32) = (1 : Int32) by decide), if_neg (show ¬ (9 : Int32) = (2 : Int32) by decide), if_neg (show ¬ (9 : Int32) = (3 : Int32) by decide), if_neg (show ¬ (9 : Int32) = (4 : Int32) by decide), if_neg (show ¬ (9 : Int32) = (5 : Int32) by decide), if_neg (show ¬ (9 : Int32) = (6 : Int32) by decide), if_neg (show ¬ (9 : Int32) = (7 : Int32) by decide), if_neg (show ¬ (9 : Int32) = (8 : Int32) by decide), if_pos (show (9 : Int32) = (9 : Int32) by decide)]
theorem lookX_10 : s_X_look x M d a o lo hi ri (10 : Int32) = (x 14, upd x 0 (0 : Int32)) := by
  unfold s_X_look
  rw [if_neg (show ¬ (10 : Int32) ≤ 0 by decide), if_pos (show (5 : Int32) ≤ (10 : Int32) by decide), if_pos (show (8 : Int32) ≤ (10 : Int32) by decide), if_neg (show ¬ (10 : Int32) = (8 : Int32) by decide), if_neg (show ¬ (10 : Int32) = (9 : Int32) by decide), if_pos (show (10 : Int32) = (10 : Int32) by decide)]
theorem lookC_10 : s_C_look z M r d a lo hi ri t (10 : Int32) = z 4 := by
  unfold s_C_look
  rw [if_neg (show ¬ (10 : Int32) = (0 : Int32) by decide), if_neg (show ¬ (10 : Int32) = (1 : Int32) by decide), if_neg (show ¬ (10 : Int32) = (2 : Int32) by decide), if_neg (show ¬ (10 : Int32) = (3 : Int32) by decide), if_neg (show ¬ (10 : Int32) = (4 : Int32) by decide), if_neg (show ¬ (10 : Int32) = (5 : Int32) by decide), if_neg (show ¬ (10 : Int32) = (6 : Int32) by decide), if_neg (show ¬ (10 : Int32) = (7 : Int32) by decide), if_neg (show ¬ (10 : Int32) = (8 : Int32) by decide), if_neg (show ¬ (10 : Int32) = (9 : Int32) by decide), if_pos (show (10 : Int32) = (10 : Int32) by decide)]
theorem lookX_11 : s_X_look x M d a o lo hi ri (11 : Int32) = (x 15, upd x 0 (0 : Int32)) := by
  unfold s_X_look
  rw [if_neg (show ¬ (11 : Int32) ≤ 0 by decide), if_pos (show (5 : Int32) ≤ (11 : Int32) by decide), if_pos (show (8 : Int32) ≤ (11 : Int32) by decide), if_neg (show ¬ (11 : Int32) = (8 : Int32) by decide), if_neg (show ¬ (11 : Int32) = (9 : Int32) by decide), if_neg (show ¬ (11 : Int32) = (10 : Int32) by decide), if_pos (show (11 : Int32) = (11 : Int32) by decide)]
theorem lookC_11 : s_C_look z M r d a lo hi ri t (11 : Int32) = z 5 := by
  unfold s_C_look
  rw [if_neg (show ¬ (11 : Int32) = (0 : Int32) by decide), if_neg (show ¬ (11 : Int32) = (1 : Int32) by decide), if_neg (show ¬ (11 : Int32) = (2 : Int32) by decide), if_neg (show ¬ (11 : Int32) = (3 : Int32) by decide), if_neg (show ¬ (11 : Int32) = (4 : Int32) by decide), if_neg (show ¬ (11 : Int32) = (5 : Int32) by decide), if_neg (show ¬ (11 : Int32) = (6 : Int32) by decide), if_neg (show ¬ (11 : Int32) = (7 : Int32) by decide), if_neg (show ¬ (11 : Int32) = (8 : Int32) by decide), if_neg (show ¬ (11 : Int32) = (9 : Int32) by decide), if_neg (show ¬ (11 : Int32) = (10 : Int32) by decide), if_pos (show (11 : Int32) = (11 : Int32) by decide)]
theorem lookX_12 : s_X_look x M d a o lo hi ri (12 : Int32) = (x 16, upd x 0 (0 : Int32)) := by
  unfold s_X_look
  rw [if_neg (show ¬ (12 : Int32) ≤ 0 by decide), if_pos (show (5 : Int32) ≤ (12 : Int32) by decide), if_pos (show (8 : Int32) ≤ (12 : Int32) by decide), if_neg (show ¬ (12 : Int32) = (8 : Int32) by decide), if_neg (show ¬ (12 : Int32) = (9 : Int32) by decide), if_neg (show ¬ (12 : Int32) = (10 : Int32) by decide), if_neg (show ¬ (12 : Int32) = (11 : Int32) by decide), if_pos (show (12 : Int32) = (12 : Int32) by decide)]
theorem lookC_12 : s_C_look z M r d a lo hi ri t (12 : Int32) = t 4 := by
  unfold s_C_look
  rw [if_neg (show ¬ (12 : Int32) = (0 : Int32) by decide), if_neg (show ¬ (12 : Int32) = (1 : Int32) by decide), if_neg (show ¬ (12 : Int32) = (2 : Int32) by decide), if_neg (show ¬ (12 : Int32) = (3 : Int32) by decide), if_neg (show ¬ (12 : Int32) = (4 : Int32) by decide), if_neg (show ¬ (12 : Int32) = (5 : Int32) by decide), if_neg (show ¬ (12 : Int32) = (6 : Int32) by decide), if_neg (show ¬ (12 : Int32) = (7 : Int32) by decide), if_neg (show ¬ (12 : Int32) = (8 : Int32) by decide), if_neg (show ¬ (12 : Int32) = (9 : Int32) by decide), if_neg (show ¬ (12 : Int32) = (10 : Int32) by decide), if_neg (show ¬ (12 : Int32) = (11 : Int32) by decide), if_pos (show (12 : Int32) = (12 : Int32) by decide)]
theorem f_look (h : rl z r t x o) : (s_X_look x M d a o lo hi ri a1).1 = s_C_look z M r d a lo hi ri t a1 ∧ rl z r t (s_X_look x M d a o lo hi ri a1).2 o := by
  have hl := rl_0 h (0 : Int32)
  obtain ⟨⟨e0, e1, e2, e3, f1, f2, f3, f4, f5⟩, ⟨z7, z11, z12, z13, z14, z15⟩, ⟨t6, t8, t9, t10, t16⟩, -, -⟩ := h
  by_cases n0 : a1 = (0 : Int32)
  · rw [n0, lookX_0, lookC_0]
    refine ⟨?_, hl⟩
    rw [z7]
  by_cases n1 : a1 = (1 : Int32)
  · rw [n1, lookX_1, lookC_1]
    exact ⟨e0, hl⟩
  by_cases n2 : a1 = (2 : Int32)
  · rw [n2, lookX_2, lookC_2]
    exact ⟨e1, hl⟩
  by_cases n3 : a1 = (3 : Int32)
  · rw [n3, lookX_3, lookC_3]
    exact ⟨e2, hl⟩
  by_cases n4 : a1 = (4 : Int32)
  · rw [n4, lookX_4, lookC_4]
    exact ⟨e3, hl⟩
  by_cases n5 : a1 = (5 : Int32)
  · rw [n5, lookX_5, lookC_5]
    refine ⟨?_, hl⟩
    unfold s_R_state
    rw [f1, f2, f3]
  by_cases n6 : a1 = (6 : Int32)
  · rw [n6, lookX_6, lookC_6]
    exact ⟨f4, hl⟩
  by_cases n7 : a1 = (7 : Int32)
  · rw [n7, lookX_7, lookC_7]
    refine ⟨?_, hl⟩
    rw [f5]
  by_cases n8 : a1 = (8 : Int32)
  · rw [n8, lookX_8, lookC_8]
    exact ⟨t8, hl⟩
  by_cases n9 : a1 = (9 : Int32)
  · rw [n9, lookX_9, lookC_9]
    exact ⟨t6, hl⟩
  by_cases n10 : a1 = (10 : Int32)
  · rw [n10, lookX_10, lookC_10]
    exact ⟨z14, hl⟩
  by_cases n11 : a1 = (11 : Int32)
  · rw [n11, lookX_11, lookC_11]
    exact ⟨z15, hl⟩
  by_cases n12 : a1 = (12 : Int32)
  · rw [n12, lookX_12, lookC_12]
    exact ⟨t16, hl⟩
  have eC : s_C_look z M r d a lo hi ri t a1 = (-1 : Int32) := by
    unfold s_C_look
    rw [if_neg n0, if_neg n1, if_neg n2, if_neg n3, if_neg n4, if_neg n5, if_neg n6, if_neg n7, if_neg n8, if_neg n9, if_neg n10, if_neg n11, if_neg n12]
  have eX : s_X_look x M d a o lo hi ri a1 = ((-1 : Int32), upd x 0 (0 : Int32)) := by
    unfold s_X_look
    have m (k : Int32) (j : Int) (hk : k.toInt = j) (n : ¬ a1 = k) : ¬ a1.toInt = j := fun q => n (Int32.toInt_inj.mp (q.trans hk.symm))
    have m0 := m (0 : Int32) 0 (by decide) n0
    have m1 := m (1 : Int32) 1 (by decide) n1
    have m2 := m (2 : Int32) 2 (by decide) n2
    have m3 := m (3 : Int32) 3 (by decide) n3
    have m4 := m (4 : Int32) 4 (by decide) n4
    have m5 := m (5 : Int32) 5 (by decide) n5
    have m6 := m (6 : Int32) 6 (by decide) n6
    have m7 := m (7 : Int32) 7 (by decide) n7
    have m8 := m (8 : Int32) 8 (by decide) n8
    have m9 := m (9 : Int32) 9 (by decide) n9
    have m10 := m (10 : Int32) 10 (by decide) n10
    have m11 := m (11 : Int32) 11 (by decide) n11
    have m12 := m (12 : Int32) 12 (by decide) n12
    by_cases h1 : a1 ≤ 0
    · have h8 : ¬ (8 : Int32) ≤ a1 := by rw [ni_le, show (8 : Int32).toInt = 8 by decide]; rw [ni_le, ni_0] at h1; omega
      rw [if_pos h1, if_neg h8, if_neg n0, if_neg n5, if_neg n6, if_neg n7]
    · have h5 : (5 : Int32) ≤ a1 := by rw [ni_le, ni_5]; rw [ni_le, ni_0] at h1; omega
      have h8 : (8 : Int32) ≤ a1 := by rw [ni_le, show (8 : Int32).toInt = 8 by decide]; rw [ni_le, ni_0] at h1; omega
      rw [if_neg h1, if_pos h5, if_pos h8, if_neg n8, if_neg n9, if_neg n10, if_neg n11, if_neg n12]
  rw [eC, eX]
  exact ⟨rfl, hl⟩
end SF
