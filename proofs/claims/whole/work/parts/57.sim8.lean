/-! the step, from its first row -/
section SE
variable {z r t x o M d a lo hi ri : fn}
theorem isp (t : fn) (i : Int32) : (s_T_isPending t i = 0) ↔ (((t 3) >>> (i &&& 31)) &&& (1 : Int32)) = 0 := by
  unfold s_T_isPending
  obtain ⟨j, hj, e⟩ := pk_andE ((t 3) >>> (i &&& 31)) (m := (1 : Int32)) 1 (by decide)
  rw [e]
  have hj : j < 2 := hj
  match j, hj with
  | 0, _ => decide
  | 1, _ => decide
theorem loop_same (h : x 6 = t 3) : ∀ n j, j < n → s_X_step_loop lo hi ri n x M d a o j = s_X_step_c94 lo hi ri x M d a o (s_T_greatest_loop t n j)
  | 0, j, hj => absurd hj (by omega)
  | n + 1, j, hj => by
    rw [s_X_step_loop, s_T_greatest_loop]
    by_cases h1 : nI j ≤ 0
    · rw [if_pos h1, if_pos h1]
    · rw [if_neg h1, if_neg h1, h]
      have h0 := zz_posj h1
      by_cases h2 : (((t 3) >>> ((nI j) &&& 31)) &&& (1 : Int32)) = 0
      · rw [if_pos h2, if_pos ((isp t _).mpr h2)]
        exact loop_same h n (j - 1) (by omega)
      · rw [if_neg h2, if_neg (fun q => h2 ((isp t _).mp q))]
theorem gl_nn (t : fn) : ∀ n j, ∃ i, i ≤ j ∧ s_T_greatest_loop t n j = nI i
  | 0, j => ⟨0, by omega, by rw [s_T_greatest_loop]; decide⟩
  | n + 1, j => by
    rw [s_T_greatest_loop]
    by_cases h1 : nI j ≤ 0
    · exact ⟨j, by omega, by rw [if_pos h1]⟩
    · rw [if_neg h1]
      by_cases h2 : s_T_isPending t (nI j) = 0
      · rw [if_pos h2]
        obtain ⟨i, hi, e⟩ := gl_nn t n (j - 1)
        exact ⟨i, by omega, e⟩
      · exact ⟨j, by omega, by rw [if_neg h2]⟩
theorem great_nn (t : fn) : ¬ s_T_greatest t < 0 := by
  unfold s_T_greatest
  obtain ⟨i, hi, e⟩ := gl_nn t 16 15
  rw [e, ni_lt, ni_0, nI_toInt (by omega)]
  omega
def xT (x : fn) : fn := upd (upd (upd (upd (upd x 8 ((x 8) + (1 : Int32))) 6 (if (x 9) ≤ 0 then (x 6) else (if (((x 8) + (1 : Int32)) - ((x 8) + (1 : Int32)) / (x 9) * (x 9)) = 0 then ((x 6) ||| ((1 : Int32) <<< ((x 10) &&& 31))) else (x 6)))) 17 (0 : Int32)) 18 (0 : Int32)) 19 (0 : Int32)
theorem tick_tx (h : tx t x) : tx (s_T_tick t) (xT x) := by
  obtain ⟨t6, t8, t9, t10, t16⟩ := h
  unfold s_T_tick
  have e8 : x 8 + 1 = t 0 + 1 := by rw [t8]
  by_cases h1 : t 1 ≤ 0
  · rw [if_pos h1]
    refine ⟨?_, e8, t9, Or.inl h1, t16⟩
    show (if (x 9) ≤ 0 then (x 6) else (if (((x 8) + (1 : Int32)) - ((x 8) + (1 : Int32)) / (x 9) * (x 9)) = 0 then ((x 6) ||| ((1 : Int32) <<< ((x 10) &&& 31))) else (x 6))) = t 3
    rw [t9, if_pos h1]; exact t6
  · rw [if_neg h1]
    have h10 := t10.resolve_left h1
    by_cases h2 : (((t 0) + (1 : Int32)) - ((t 0) + (1 : Int32)) / (t 1) * (t 1)) = 0
    · rw [if_pos h2]
      refine ⟨?_, e8, t9, Or.inr h10, t16⟩
      show (if (x 9) ≤ 0 then (x 6) else (if (((x 8) + (1 : Int32)) - ((x 8) + (1 : Int32)) / (x 9) * (x 9)) = 0 then ((x 6) ||| ((1 : Int32) <<< ((x 10) &&& 31))) else (x 6))) = (t 3) ||| ((1 : Int32) <<< ((t 2) &&& 31))
      rw [t9, if_neg h1, e8, if_pos h2, t6, h10]
    · rw [if_neg h2]
      refine ⟨?_, e8, t9, Or.inr h10, t16⟩
      show (if (x 9) ≤ 0 then (x 6) else (if (((x 8) + (1 : Int32)) - ((x 8) + (1 : Int32)) / (x 9) * (x 9)) = 0 then ((x 6) ||| ((1 : Int32) <<< ((x 10) &&& 31))) else (x 6))) = t 3
      rw [t9, if_neg h1, e8, if_neg h2]; exact t6
def cF (lo hi ri z M r d a t : fn) (w : Int32) : fn × fn × fn × fn × fn × fn := if (s_P_refuseFetch z M r d a lo hi ri t) = 0 then c91B lo hi ri (s_P_finish z (s_P_perform z M r d a lo hi ri t w).2.1 (s_P_perform z M r d a lo hi ri t w).2.2.1 (s_P_perform z M r d a lo hi ri t w).2.2.2.1 (s_P_perform z M r d a lo hi ri t w).2.2.2.2 lo hi ri t (s_P_perform z M r d a lo hi ri t w).1) t else c91B lo hi ri (s_P_finish z M r d a lo hi ri t (s_P_refuseFetch z M r d a lo hi ri t)) t
def cI (lo hi ri z M r d a t : fn) (p : Int32) : fn × fn × fn × fn × fn × fn := s_P_step_c91 lo hi ri (s_P_takeInterrupt z M r d a lo hi ri t p).1 (s_P_takeInterrupt z M r d a lo hi ri t p).2.1 (s_P_takeInterrupt z M r d a lo hi ri t p).2.2.1 d (s_P_takeInterrupt z M r d a lo hi ri t p).2.2.2.1 (s_P_takeInterrupt z M r d a lo hi ri t p).2.2.2.2
theorem P_step_eq : s_P_step z M r d a lo hi ri t = if (if (r 8) = 0 then (0 : Int32) else (s_T_greatest (s_T_tick t))) ≤ (r 7) then cF lo hi ri z M (upd r 9 (0 : Int32)) d a (s_T_tick t) (s_M_read M (r 0)) else cI lo hi ri z M (upd r 9 (0 : Int32)) d a (s_T_tick t) (if (r 8) = 0 then (0 : Int32) else (s_T_greatest (s_T_tick t))) := by
  unfold s_P_step cF cI c91B
  with_reducible rfl
/-- the word at PC, fetched and done -/
theorem sim_F {x0 : Int32} (h : eqv (z, M, r, d, a) t (x, M, d, a, o) x0) (hz : ¬ z 0 = 0) (h9 : r 9 = 0) (h17 : x 17 = 0) (h18 : x 18 = 0) (h19 : x 19 = 0) : relB (cF lo hi ri z M r d a t (s_M_read M (r 0))) (xF lo hi ri x M d a o) x0 := by
  have h0 := h
  obtain ⟨⟨hr, hzx, htx, -⟩, -, -, -, h5, h6, h7⟩ := h
  have h5 : iv r := h5
  have h6 : zb z := h6
  have h7 : x 0 = x0 := h7
  have hzx : zx z x := hzx
  have hr : ro r x o := hr
  have hro := hr
  obtain ⟨e0, e1, e2, e3, f1, f2, f3, f4, f5⟩ := hro
  have hzx2 := hzx
  obtain ⟨z7, z11, z12, z13, z14, z15⟩ := hzx2
  have trap : ∀ (tr : Int32) (hq : 0 < tr ∧ ¬ tr = 1 ∧ ¬ tr = 2), relB (c91B lo hi ri (s_P_finish z M r d a lo hi ri t tr) t) (c270B lo hi ri (s_X_take x M d a o lo hi ri (tr >>> ((8 : Int32) &&& 31)) (tr &&& (255 : Int32)))) x0 := fun tr hq => by
    rw [finish_trap hq]
    exact sim_tail _ _ (eqv_trap h0 h18 tr)
  have k4 := trap (1025 : Int32) (by decide)
  rw [show (1025 : Int32) >>> ((8 : Int32) &&& 31) = 4 from by decide, show (1025 : Int32) &&& (255 : Int32) = 1 from by decide] at k4
  have k1 := trap (260 : Int32) (by decide)
  rw [show (260 : Int32) >>> ((8 : Int32) &&& 31) = 1 from by decide, show (260 : Int32) &&& (255 : Int32) = 4 from by decide] at k1
  unfold xF
  rw [ix0, e0]
  by_cases hn : r 0 < 0
  · have hf : s_P_refuseFetch z M r d a lo hi ri t = 1025 := by
      unfold s_P_refuseFetch s_M_has
      rw [if_pos hn]; rfl
    unfold cF
    rw [hf, if_pos hn, if_neg (by decide)]
    exact k4
  · rw [if_neg hn]
    by_cases h2 : r 0 < (512 : Int32)
    · rw [if_pos h2]
      have hin : vp_in (r 0) 512 := in_pc hn h2
      have hgs : s_X_guarded x M d a o lo hi ri = s_P_isGuarded z M r d a lo hi ri t := by
        unfold s_X_guarded s_P_isGuarded
        rw [z13, f1]
      have run : relB (c91B lo hi ri (s_P_finish z (s_P_perform z M r d a lo hi ri t (s_M_read M (r 0))).2.1 (s_P_perform z M r d a lo hi ri t (s_M_read M (r 0))).2.2.1 (s_P_perform z M r d a lo hi ri t (s_M_read M (r 0))).2.2.2.1 (s_P_perform z M r d a lo hi ri t (s_M_read M (r 0))).2.2.2.2 lo hi ri t (s_P_perform z M r d a lo hi ri t (s_M_read M (r 0))).1) t) (xI lo hi ri x M d a o) x0 := by
        unfold xI
        rw [read_in hin, ix0, e0]
        have hod := sim_instr (M := M) (d := d) (a := a) (lo := lo) (hi := hi) (ri := ri) (t := t) hr z13 h19 (fun q => hz (z7.symm.trans q)) ⟨fun _ => h17, fun _ => h9⟩ h5 (M (ix (r 0)))
        have k := sim_tail (lo := lo) (hi := hi) (ri := ri) _ _ (sim_fin (lo := lo) (hi := hi) (ri := ri) hzx htx h6 h18 hod)
        rw [h7] at k
        generalize s_X_instr x M d a o lo hi ri (M (ix (r 0))) = X at k ⊢
        by_cases hc : X.1 19 ≤ 0
        · rw [if_pos hc] at k ⊢; exact k
        · rw [if_neg hc] at k ⊢; exact k
      rw [hgs]
      by_cases hg : s_P_isGuarded z M r d a lo hi ri t = 0
      · rw [if_pos hg]
        have hf : s_P_refuseFetch z M r d a lo hi ri t = 0 := by
          unfold s_P_refuseFetch
          rw [has_in hin, if_neg ne_10, if_pos hg]
        unfold cF
        rw [hf, if_pos rfl]
        exact run
      · rw [if_neg hg, f2, Int32.mul_comm (3 : Int32) (r 5)]
        by_cases hl : r 0 < lo (ix (((r 5) * (3 : Int32)) + (2 : Int32)))
        · rw [if_pos hl]
          have hf : s_P_refuseFetch z M r d a lo hi ri t = 260 := by
            unfold s_P_refuseFetch s_G_letsRun s_G_covers
            rw [has_in hin, if_neg ne_10, if_neg hg, if_pos hl]; rfl
          unfold cF
          rw [hf, if_neg (by decide)]
          exact k1
        · rw [if_neg hl]
          by_cases hh : hi (ix (((r 5) * (3 : Int32)) + (2 : Int32))) ≤ r 0
          · have hf : s_P_refuseFetch z M r d a lo hi ri t = 260 := by
              unfold s_P_refuseFetch s_G_letsRun s_G_covers
              rw [has_in hin, if_neg ne_10, if_neg hg, if_neg hl, if_pos hh]; rfl
            unfold cF
            have h3 : ¬ r 0 < hi (ix (((r 5) * (3 : Int32)) + (2 : Int32))) := by rw [ni_le] at hh; rw [ni_lt]; omega
            rw [hf, if_neg (by decide), if_neg h3]
            exact k1
          · have hf : s_P_refuseFetch z M r d a lo hi ri t = 0 := by
              unfold s_P_refuseFetch s_G_letsRun s_G_covers
              rw [has_in hin, if_neg ne_10, if_neg hg, if_neg hl, if_neg hh]; rfl
            unfold cF
            have h3 : r 0 < hi (ix (((r 5) * (3 : Int32)) + (2 : Int32))) := by rw [ni_le] at hh; rw [ni_lt]; omega
            rw [hf, if_pos rfl, if_pos h3]
            exact run
    · rw [if_neg h2]
      have hf : s_P_refuseFetch z M r d a lo hi ri t = 1025 := by
        unfold s_P_refuseFetch s_M_has
        have h3 : (512 : Int32) ≤ r 0 := zz_ge h2
        rw [if_neg hn, if_pos h3]; rfl
      unfold cF
      rw [hf, if_neg (by decide)]
      exact k4
/-- an interrupt taken -/
theorem sim_I {x0 p : Int32} (h : eqv (z, M, r, d, a) t (x, M, d, a, o) x0) (h18 : x 18 = 0) (hp : ¬ p < 0) : relB (cI lo hi ri z M r d a t p) (xE lo hi ri x M d a o p) x0 := by
  obtain ⟨hs, -, -, -, h5, h6, h7⟩ := h
  have hs : sr z r t x o := hs
  have e0 : o 0 = r 0 := hs.1.1
  have h7 : x 0 = x0 := h7
  unfold cI xE
  rw [ix0, e0]
  obtain ⟨g1, g2, g3⟩ := sim_int (M := M) (d := d) (a := a) (lo := lo) (hi := hi) (ri := ri) hs h18 p
  obtain ⟨i1, i2⟩ := iv_int (M := M) (d := d) (a := a) (lo := lo) (hi := hi) (ri := ri) (t := t) h5 h6 hp
  have hfr : (s_X_enter x M d a o lo hi ri (r 0) ((x 12) + ((4 : Int32) * p))).2.1 0 = x0 := enter_fr.trans h7
  have i1 : iv (s_P_takeInterrupt z M r d a lo hi ri t p).2.2.1 := i1
  have i2 : zb (s_P_takeInterrupt z M r d a lo hi ri t p).1 := i2
  generalize s_P_takeInterrupt z M r d a lo hi ri t p = TI at g1 g2 g3 i1 i2 ⊢
  generalize s_X_enter x M d a o lo hi ri (r 0) ((x 12) + ((4 : Int32) * p)) = E at g1 g2 g3 hfr ⊢
  rcases g3 with ⟨hE, hs⟩ | ⟨hE, hs⟩
  · rw [if_pos hE]
    exact sim_tail (t := TI.2.2.2.2) (TI.1, TI.2.1, TI.2.2.1, d, TI.2.2.2.1) (E.2.1, E.2.2.1, d, E.2.2.2.1, E.2.2.2.2) ⟨hs, g1, rfl, g2, i1, i2, hfr⟩
  · rw [if_neg hE]
    exact sim_tail (t := TI.2.2.2.2) (TI.1, TI.2.1, TI.2.2.1, d, TI.2.2.2.1) ((upd (upd (upd E.2.1 6 ((E.2.1 6) &&& (((1 : Int32) <<< (p &&& 31)) ^^^ (-1 : Int32)))) 4 p) 16 ((E.2.1 16) + (1 : Int32))), E.2.2.1, d, E.2.2.2.1, E.2.2.2.2) ⟨hs, g1, rfl, g2, i1, i2, hfr⟩
/-- a step of both -/
theorem sim_step {x0 : Int32} (h : rel z M r d a t (x, M, d, a, o) x0) (hz : ¬ z 0 = 0) : relB (s_P_step z M r d a lo hi ri t) (s_X_step x M d a o lo hi ri) x0 := by
  obtain ⟨⟨hr, hzx, htx⟩, -, -, -, h5, h6, h7⟩ := h
  have htx : tx t x := htx
  have hzx : zx z x := hzx
  have hr : ro r x o := hr
  have h5 : iv r := h5
  have h7 : x 0 = x0 := h7
  have hT := tick_tx htx
  have hX : s_X_step x M d a o lo hi ri = s_X_step_c94 lo hi ri (xT x) M d a o (s_T_greatest (s_T_tick t)) := by
    unfold s_X_step s_T_greatest
    exact loop_same hT.1 16 15 (by omega)
  have hg := great_nn (s_T_tick t)
  have e4 : xT x 4 = r 7 := hr.2.2.2.2.2.2.2.1
  have e5 : xT x 5 = r 8 := hr.2.2.2.2.2.2.2.2
  have hE : eqv (z, M, upd r 9 (0 : Int32), d, a) (s_T_tick t) (xT x, M, d, a, o) x0 := ⟨⟨hr, hzx, hT, fun _ => ⟨fun _ => Or.inl rfl, fun _ => rfl⟩⟩, rfl, rfl, rfl, h5, h6, h7⟩
  rw [hX, P_step_eq, c94_eq, e4, e5]
  have hF := sim_F (lo := lo) (hi := hi) (ri := ri) hE hz rfl rfl rfl rfl
  have hF : relB (cF lo hi ri z M (upd r 9 (0 : Int32)) d a (s_T_tick t) (s_M_read M (r 0))) (xF lo hi ri (xT x) M d a o) x0 := hF
  by_cases h8 : r 8 = 0
  · have h3 : (0 : Int32) ≤ r 7 := zz_ge h5.2.2
    rw [if_pos h8, if_pos h8, if_pos h3]
    exact hF
  · rw [if_neg h8, if_neg h8]
    by_cases hle : s_T_greatest (s_T_tick t) ≤ r 7
    · rw [if_pos hle, if_pos hle]
      exact hF
    · rw [if_neg hle, if_neg hle]
      exact sim_I hE rfl hg
/-! what a step keeps, on either side alone -/
def cX (z r t : fn) : fn := fun k => match k with
  | 1 => r 4 | 2 => r 5 | 3 => r 6 | 4 => r 7 | 5 => r 8 | 6 => t 3 | 7 => z 0 | 8 => t 0 | 9 => t 1 | 10 => t 2 | 11 => z 2 | 12 => z 3 | 13 => z 1 | 14 => z 4 | 15 => z 5 | 16 => t 4 | _ => 0
def cZ (x : fn) : fn := fun k => match k with
  | 0 => x 7 | 1 => x 13 | 2 => x 11 | 3 => x 12 | 4 => x 14 | 5 => x 15 | _ => 0
def cR (x o : fn) : fn := fun k => match k with
  | 0 => o 0 | 1 => o 1 | 2 => o 2 | 3 => o 3 | 4 => x 1 | 5 => x 2 | 6 => x 3 | 7 => x 4 | 8 => x 5 | _ => 0
def cT (x : fn) : fn := fun k => match k with
  | 0 => x 8 | 1 => x 9 | 2 => x 10 | 3 => x 6 | 4 => x 16 | _ => 0
theorem civ_step (h : iv r) (hb : zb z) (hz : ¬ z 0 = 0) : iv (s_P_step z M r d a lo hi ri t).2.2.1 ∧ zb (s_P_step z M r d a lo hi ri t).1 := by
  have k := sim_step (M := M) (d := d) (a := a) (lo := lo) (hi := hi) (ri := ri) (x0 := 0) (z := z) (r := r) (t := t) (x := cX z r t) (o := r) ⟨⟨⟨rfl, rfl, rfl, rfl, rfl, rfl, rfl, rfl, rfl⟩, ⟨rfl, rfl, rfl, rfl, rfl, rfl⟩, ⟨rfl, rfl, rfl, Or.inr rfl, rfl⟩⟩, rfl, rfl, rfl, h, hb, rfl⟩ hz
  obtain ⟨-, -, -, -, i1, i2, -⟩ := k
  exact ⟨i1, i2⟩
def xiv (x : fn) : Prop := (x 2 = 0 ∨ x 2 = 1) ∧ (x 5 = 0 ∨ x 5 = 1) ∧ ¬ x 4 < 0 ∧ (x 7 = 0 ∨ x 7 = 1) ∧ (x 13 = 0 ∨ x 13 = 1)
theorem xiv_0 (h : xiv x) (v : Int32) : xiv (upd x 0 v) := h
theorem xiv_step (h : xiv x) (hz : ¬ x 7 = 0) : xiv (s_X_step x M d a o lo hi ri).1 ∧ (s_X_step x M d a o lo hi ri).1 0 = x 0 := by
  have k := sim_step (M := M) (d := d) (a := a) (lo := lo) (hi := hi) (ri := ri) (x0 := x 0) (z := cZ x) (r := cR x o) (t := cT x) (x := x) (o := o) ⟨⟨⟨rfl, rfl, rfl, rfl, rfl, rfl, rfl, rfl, rfl⟩, ⟨rfl, rfl, rfl, rfl, rfl, rfl⟩, ⟨rfl, rfl, rfl, Or.inr rfl, rfl⟩⟩, rfl, rfl, rfl, ⟨h.1, h.2.1, h.2.2.1⟩, ⟨h.2.2.2.1, h.2.2.2.2⟩, rfl⟩ hz
  generalize s_P_step (cZ x) M (cR x o) d a lo hi ri (cT x) = S at k
  generalize s_X_step x M d a o lo hi ri = T at k ⊢
  obtain ⟨⟨⟨-, -, -, -, -, f2, -, f4, f5⟩, ⟨z7, -, -, z13, -, -⟩, -⟩, -, -, -, i1, i2, h0⟩ := k
  have i1 : iv S.2.2.1 := i1
  have i2 : zb S.1 := i2
  refine ⟨⟨?_, ?_, ?_, ?_, ?_⟩, h0⟩
  · rw [f2]; exact i1.1
  · rw [f5]; exact i1.2.1
  · rw [f4]; exact i1.2.2
  · rw [z7]; exact i2.1
  · rw [z13]; exact i2.2
theorem xth_step {a1 : Int32} (h : xiv x) (hz : ¬ x 7 = 0) (hth : x 0 = 0 → ¬ (300 : Int32) < a1) : (s_X_step x M d a o lo hi ri).1 0 = 0 → ¬ (300 : Int32) < a1 := by
  rw [(xiv_step h hz).2]
  exact hth
theorem zz_run {j : Nat} {a1 : Int32} (hj : j ≤ 300) (hg : t_C_run z M r d a lo hi ri t a1 = 0) (h : ¬ a1 ≤ (nI j)) : j + 1 ≤ 300 := by
  unfold t_C_run at hg
  exact zz_xrun hj (zz_thr hg) h
end SE
