theorem tr_ne {q : Int32} (h : 0 < q ∧ ¬ q = 1 ∧ ¬ q = 2) : ¬ q = 0 := fun e => absurd h.1 (by rw [e]; decide)
section SW
variable {z r t x o M d a lo hi ri : Nat → Int32}
theorem sim_i13 (hr : ro r x o) (hz : x 13 = z 1) (h19 : x 19 = 0) (h7 : ¬ x 7 = 0) (hn : r 9 = 0 ↔ x 17 = 0) (hv : iv r) {w : Int32} (hop : (w &&& (31 : Int32)) = (13 : Int32)) : od (s_P_perform z M r d a lo hi ri t w) (s_X_instr x M d a o lo hi ri w) x := by
  rw [e_P_perform13 z M r d a lo hi ri t w hop, e_X_instr13 x M d a o lo hi ri w hop]
  have hro := hr
  obtain ⟨e0, e1, e2, e3, f1, f2, f3, f4, f5⟩ := hro
  unfold s_X_instr13
  rcases may_R (z := z) (t := t) (r := r) (x := x) (o := o) (M := M) (d := d) (a := a) (lo := lo) (hi := hi) (ri := ri) (A := ((a (ix ((w >>> ((8 : Int32) &&& 31)) &&& (7 : Int32)))) + (w >>> ((16 : Int32) &&& 31)))) hz f1 f2 hv.1 with ⟨c0, m0, hin⟩ | ⟨hq, m0⟩
  · have hp : s_P_perform13 z M r d a lo hi ri t w = (0, upd d (ix ((w >>> ((5 : Int32) &&& 31)) &&& (7 : Int32))) (M (ix ((a (ix ((w >>> ((8 : Int32) &&& 31)) &&& (7 : Int32)))) + (w >>> ((16 : Int32) &&& 31)))))) := by
      unfold s_P_perform13 s_P_moveWord13
      rw [if_pos (show s_P_refuseWord z M r d a lo hi ri t ((a (ix (s_P_fieldB w))) + (s_P_amount w)) (1 : Int32) = 0 from c0)]
      rw [read_in (show vp_in ((a (ix (s_P_fieldB w))) + (s_P_amount w)) 512 from hin)]
      rfl
    have hx : s_X_move13 x M d a o lo hi ri ((w >>> ((5 : Int32) &&& 31)) &&& (7 : Int32)) ((w >>> ((8 : Int32) &&& 31)) &&& (7 : Int32)) (w >>> ((16 : Int32) &&& 31)) = (upd x 19 (x 19), upd d (ix ((w >>> ((5 : Int32) &&& 31)) &&& (7 : Int32))) (M (ix ((a (ix ((w >>> ((8 : Int32) &&& 31)) &&& (7 : Int32)))) + (w >>> ((16 : Int32) &&& 31)))))) := by
      unfold s_X_move13
      rw [m0, if_neg ne_10]
    rw [hp, hx]
    refine ⟨rfl, rfl, rfl, ?_⟩
    show oi 0 r x (upd x 19 (x 19)) (upd o (ix 0) (if x 19 = 0 then (if x 7 = 0 then (o (ix 0)) else ((o (ix 0)) + 1)) else (o (ix 0))))
    rw [if_pos h19, if_neg h7, ix0]
    exact oi_go (ro_up hr 19 _ (by omega)) h19 rfl (fr_up fr_rf 19 _ (by omega)) (fun _ => hn) hv
  · generalize hqe : s_P_refuseWord z M r d a lo hi ri t ((a (ix ((w >>> ((8 : Int32) &&& 31)) &&& (7 : Int32)))) + (w >>> ((16 : Int32) &&& 31))) (1 : Int32) = q at hq m0
    have hp : s_P_perform13 z M r d a lo hi ri t w = (q, d) := by
      unfold s_P_perform13 s_P_moveWord13
      have hqe : s_P_refuseWord z M r d a lo hi ri t ((a (ix (s_P_fieldB w))) + (s_P_amount w)) (1 : Int32) = q := hqe
      rw [hqe, if_neg (tr_ne hq)]
    have hx : s_X_move13 x M d a o lo hi ri ((w >>> ((5 : Int32) &&& 31)) &&& (7 : Int32)) ((w >>> ((8 : Int32) &&& 31)) &&& (7 : Int32)) (w >>> ((16 : Int32) &&& 31)) = (upd x 19 q, d) := by
      unfold s_X_move13
      rw [m0, if_pos rfl]
    rw [hp, hx]
    refine ⟨rfl, rfl, rfl, ?_⟩
    show oi q r x (upd x 19 q) (upd o (ix 0) (if q = 0 then _ else (o (ix 0))))
    rw [if_neg (tr_ne hq), ix0]
    exact oi_trap hq (ro_o0 hr) hn hv
theorem sim_i14 (hr : ro r x o) (hz : x 13 = z 1) (h19 : x 19 = 0) (h7 : ¬ x 7 = 0) (hn : r 9 = 0 ↔ x 17 = 0) (hv : iv r) {w : Int32} (hop : (w &&& (31 : Int32)) = (14 : Int32)) : od (s_P_perform z M r d a lo hi ri t w) (s_X_instr x M d a o lo hi ri w) x := by
  rw [e_P_perform14 z M r d a lo hi ri t w hop, e_X_instr14 x M d a o lo hi ri w hop]
  have hro := hr
  obtain ⟨e0, e1, e2, e3, f1, f2, f3, f4, f5⟩ := hro
  unfold s_X_instr14
  rcases may_W (z := z) (t := t) (r := r) (x := x) (o := o) (M := M) (d := d) (a := a) (lo := lo) (hi := hi) (ri := ri) (A := ((a (ix ((w >>> ((8 : Int32) &&& 31)) &&& (7 : Int32)))) + (w >>> ((16 : Int32) &&& 31)))) hz f1 f2 hv.1 with ⟨c0, m0, hin⟩ | ⟨hq, m0⟩
  · have hp : s_P_perform14 z M r d a lo hi ri t w = (0, upd M (ix ((a (ix ((w >>> ((8 : Int32) &&& 31)) &&& (7 : Int32)))) + (w >>> ((16 : Int32) &&& 31)))) (d (ix ((w >>> ((5 : Int32) &&& 31)) &&& (7 : Int32))))) := by
      unfold s_P_perform14 s_P_moveWord14
      rw [if_pos (show s_P_refuseWord z M r d a lo hi ri t ((a (ix (s_P_fieldB w))) + (s_P_amount w)) (2 : Int32) = 0 from c0)]
      rw [write_in (show vp_in ((a (ix (s_P_fieldB w))) + (s_P_amount w)) 512 from hin)]
      rfl
    have hx : s_X_move14 x M d a o lo hi ri ((w >>> ((5 : Int32) &&& 31)) &&& (7 : Int32)) ((w >>> ((8 : Int32) &&& 31)) &&& (7 : Int32)) (w >>> ((16 : Int32) &&& 31)) = (upd x 19 (x 19), upd M (ix ((a (ix ((w >>> ((8 : Int32) &&& 31)) &&& (7 : Int32)))) + (w >>> ((16 : Int32) &&& 31)))) (d (ix ((w >>> ((5 : Int32) &&& 31)) &&& (7 : Int32))))) := by
      unfold s_X_move14
      rw [m0, if_neg ne_10]
    rw [hp, hx]
    refine ⟨rfl, rfl, rfl, ?_⟩
    show oi 0 r x (upd x 19 (x 19)) (upd o (ix 0) (if x 19 = 0 then (if x 7 = 0 then (o (ix 0)) else ((o (ix 0)) + 1)) else (o (ix 0))))
    rw [if_pos h19, if_neg h7, ix0]
    exact oi_go (ro_up hr 19 _ (by omega)) h19 rfl (fr_up fr_rf 19 _ (by omega)) (fun _ => hn) hv
  · generalize hqe : s_P_refuseWord z M r d a lo hi ri t ((a (ix ((w >>> ((8 : Int32) &&& 31)) &&& (7 : Int32)))) + (w >>> ((16 : Int32) &&& 31))) (2 : Int32) = q at hq m0
    have hp : s_P_perform14 z M r d a lo hi ri t w = (q, M) := by
      unfold s_P_perform14 s_P_moveWord14
      have hqe : s_P_refuseWord z M r d a lo hi ri t ((a (ix (s_P_fieldB w))) + (s_P_amount w)) (2 : Int32) = q := hqe
      rw [hqe, if_neg (tr_ne hq)]
    have hx : s_X_move14 x M d a o lo hi ri ((w >>> ((5 : Int32) &&& 31)) &&& (7 : Int32)) ((w >>> ((8 : Int32) &&& 31)) &&& (7 : Int32)) (w >>> ((16 : Int32) &&& 31)) = (upd x 19 q, M) := by
      unfold s_X_move14
      rw [m0, if_pos rfl]
    rw [hp, hx]
    refine ⟨rfl, rfl, rfl, ?_⟩
    show oi q r x (upd x 19 q) (upd o (ix 0) (if q = 0 then _ else (o (ix 0))))
    rw [if_neg (tr_ne hq), ix0]
    exact oi_trap hq (ro_o0 hr) hn hv
theorem sim_i15 (hr : ro r x o) (hz : x 13 = z 1) (h19 : x 19 = 0) (h7 : ¬ x 7 = 0) (hn : r 9 = 0 ↔ x 17 = 0) (hv : iv r) {w : Int32} (hop : (w &&& (31 : Int32)) = (15 : Int32)) : od (s_P_perform z M r d a lo hi ri t w) (s_X_instr x M d a o lo hi ri w) x := by
  rw [e_P_perform15 z M r d a lo hi ri t w hop, e_X_instr15 x M d a o lo hi ri w hop]
  have hro := hr
  obtain ⟨e0, e1, e2, e3, f1, f2, f3, f4, f5⟩ := hro
  unfold s_X_instr15
  rcases may_R (z := z) (t := t) (r := r) (x := x) (o := o) (M := M) (d := d) (a := a) (lo := lo) (hi := hi) (ri := ri) (A := (a (ix ((w >>> ((8 : Int32) &&& 31)) &&& (7 : Int32))))) hz f1 f2 hv.1 with ⟨c0, m0, hin⟩ | ⟨hq, m0⟩
  · have hp : s_P_perform15 z M r d a lo hi ri t w = (0, upd d (ix ((w >>> ((5 : Int32) &&& 31)) &&& (7 : Int32))) (M (ix (a (ix ((w >>> ((8 : Int32) &&& 31)) &&& (7 : Int32)))))), upd a (ix ((w >>> ((8 : Int32) &&& 31)) &&& (7 : Int32))) ((a (ix ((w >>> ((8 : Int32) &&& 31)) &&& (7 : Int32)))) + (w >>> ((16 : Int32) &&& 31)))) := by
      unfold s_P_perform15 s_P_moveWord15
      rw [if_pos (show s_P_refuseWord z M r d a lo hi ri t (a (ix (s_P_fieldB w))) (1 : Int32) = 0 from c0)]
      rw [read_in (show vp_in (a (ix (s_P_fieldB w))) 512 from hin)]
      rfl
    have hx : s_X_move15 x M d a o lo hi ri ((w >>> ((5 : Int32) &&& 31)) &&& (7 : Int32)) ((w >>> ((8 : Int32) &&& 31)) &&& (7 : Int32)) (w >>> ((16 : Int32) &&& 31)) = (upd x 19 (x 19), upd d (ix ((w >>> ((5 : Int32) &&& 31)) &&& (7 : Int32))) (M (ix (a (ix ((w >>> ((8 : Int32) &&& 31)) &&& (7 : Int32)))))), upd a (ix ((w >>> ((8 : Int32) &&& 31)) &&& (7 : Int32))) ((a (ix ((w >>> ((8 : Int32) &&& 31)) &&& (7 : Int32)))) + (w >>> ((16 : Int32) &&& 31)))) := by
      unfold s_X_move15
      rw [m0, if_neg ne_10]
    rw [hp, hx]
    refine ⟨rfl, rfl, rfl, ?_⟩
    show oi 0 r x (upd x 19 (x 19)) (upd o (ix 0) (if x 19 = 0 then (if x 7 = 0 then (o (ix 0)) else ((o (ix 0)) + 1)) else (o (ix 0))))
    rw [if_pos h19, if_neg h7, ix0]
    exact oi_go (ro_up hr 19 _ (by omega)) h19 rfl (fr_up fr_rf 19 _ (by omega)) (fun _ => hn) hv
  · generalize hqe : s_P_refuseWord z M r d a lo hi ri t (a (ix ((w >>> ((8 : Int32) &&& 31)) &&& (7 : Int32)))) (1 : Int32) = q at hq m0
    have hp : s_P_perform15 z M r d a lo hi ri t w = (q, d, a) := by
      unfold s_P_perform15 s_P_moveWord15
      have hqe : s_P_refuseWord z M r d a lo hi ri t (a (ix (s_P_fieldB w))) (1 : Int32) = q := hqe
      rw [hqe, if_neg (tr_ne hq)]
    have hx : s_X_move15 x M d a o lo hi ri ((w >>> ((5 : Int32) &&& 31)) &&& (7 : Int32)) ((w >>> ((8 : Int32) &&& 31)) &&& (7 : Int32)) (w >>> ((16 : Int32) &&& 31)) = (upd x 19 q, d, a) := by
      unfold s_X_move15
      rw [m0, if_pos rfl]
    rw [hp, hx]
    refine ⟨rfl, rfl, rfl, ?_⟩
    show oi q r x (upd x 19 q) (upd o (ix 0) (if q = 0 then _ else (o (ix 0))))
    rw [if_neg (tr_ne hq), ix0]
    exact oi_trap hq (ro_o0 hr) hn hv
theorem sim_i16 (hr : ro r x o) (hz : x 13 = z 1) (h19 : x 19 = 0) (h7 : ¬ x 7 = 0) (hn : r 9 = 0 ↔ x 17 = 0) (hv : iv r) {w : Int32} (hop : (w &&& (31 : Int32)) = (16 : Int32)) : od (s_P_perform z M r d a lo hi ri t w) (s_X_instr x M d a o lo hi ri w) x := by
  rw [e_P_perform16 z M r d a lo hi ri t w hop, e_X_instr16 x M d a o lo hi ri w hop]
  have hro := hr
  obtain ⟨e0, e1, e2, e3, f1, f2, f3, f4, f5⟩ := hro
  unfold s_X_instr16
  rcases may_W (z := z) (t := t) (r := r) (x := x) (o := o) (M := M) (d := d) (a := a) (lo := lo) (hi := hi) (ri := ri) (A := (a (ix ((w >>> ((8 : Int32) &&& 31)) &&& (7 : Int32))))) hz f1 f2 hv.1 with ⟨c0, m0, hin⟩ | ⟨hq, m0⟩
  · have hp : s_P_perform16 z M r d a lo hi ri t w = (0, upd M (ix (a (ix ((w >>> ((8 : Int32) &&& 31)) &&& (7 : Int32))))) (d (ix ((w >>> ((5 : Int32) &&& 31)) &&& (7 : Int32)))), upd a (ix ((w >>> ((8 : Int32) &&& 31)) &&& (7 : Int32))) ((a (ix ((w >>> ((8 : Int32) &&& 31)) &&& (7 : Int32)))) + (w >>> ((16 : Int32) &&& 31)))) := by
      unfold s_P_perform16 s_P_moveWord16
      rw [if_pos (show s_P_refuseWord z M r d a lo hi ri t (a (ix (s_P_fieldB w))) (2 : Int32) = 0 from c0)]
      rw [write_in (show vp_in (a (ix (s_P_fieldB w))) 512 from hin)]
      rfl
    have hx : s_X_move16 x M d a o lo hi ri ((w >>> ((5 : Int32) &&& 31)) &&& (7 : Int32)) ((w >>> ((8 : Int32) &&& 31)) &&& (7 : Int32)) (w >>> ((16 : Int32) &&& 31)) = (upd x 19 (x 19), upd M (ix (a (ix ((w >>> ((8 : Int32) &&& 31)) &&& (7 : Int32))))) (d (ix ((w >>> ((5 : Int32) &&& 31)) &&& (7 : Int32)))), upd a (ix ((w >>> ((8 : Int32) &&& 31)) &&& (7 : Int32))) ((a (ix ((w >>> ((8 : Int32) &&& 31)) &&& (7 : Int32)))) + (w >>> ((16 : Int32) &&& 31)))) := by
      unfold s_X_move16
      rw [m0, if_neg ne_10]
    rw [hp, hx]
    refine ⟨rfl, rfl, rfl, ?_⟩
    show oi 0 r x (upd x 19 (x 19)) (upd o (ix 0) (if x 19 = 0 then (if x 7 = 0 then (o (ix 0)) else ((o (ix 0)) + 1)) else (o (ix 0))))
    rw [if_pos h19, if_neg h7, ix0]
    exact oi_go (ro_up hr 19 _ (by omega)) h19 rfl (fr_up fr_rf 19 _ (by omega)) (fun _ => hn) hv
  · generalize hqe : s_P_refuseWord z M r d a lo hi ri t (a (ix ((w >>> ((8 : Int32) &&& 31)) &&& (7 : Int32)))) (2 : Int32) = q at hq m0
    have hp : s_P_perform16 z M r d a lo hi ri t w = (q, M, a) := by
      unfold s_P_perform16 s_P_moveWord16
      have hqe : s_P_refuseWord z M r d a lo hi ri t (a (ix (s_P_fieldB w))) (2 : Int32) = q := hqe
      rw [hqe, if_neg (tr_ne hq)]
    have hx : s_X_move16 x M d a o lo hi ri ((w >>> ((5 : Int32) &&& 31)) &&& (7 : Int32)) ((w >>> ((8 : Int32) &&& 31)) &&& (7 : Int32)) (w >>> ((16 : Int32) &&& 31)) = (upd x 19 q, M, a) := by
      unfold s_X_move16
      rw [m0, if_pos rfl]
    rw [hp, hx]
    refine ⟨rfl, rfl, rfl, ?_⟩
    show oi q r x (upd x 19 q) (upd o (ix 0) (if q = 0 then _ else (o (ix 0))))
    rw [if_neg (tr_ne hq), ix0]
    exact oi_trap hq (ro_o0 hr) hn hv
theorem tr_514 : 0 < (514 : Int32) ∧ ¬ (514 : Int32) = 1 ∧ ¬ (514 : Int32) = 2 := by decide
theorem ushr16 (y : Int32) : ∃ k : Nat, k < 65536 ∧ ushr y (16 : Int32) = nI k := by
  have h := pk_ushr y (16 : Int32) 16 (by decide)
  have hb : y.toBitVec.toNat < 2 ^ 32 := y.toBitVec.isLt
  have hk : y.toBitVec.toNat / 2 ^ 16 < 65536 := by omega
  refine ⟨y.toBitVec.toNat / 2 ^ 16, hk, ?_⟩
  apply Int32.toBitVec_inj.mp
  apply BitVec.eq_of_toNat_eq
  rw [pk_tn (by omega)]
  exact h
theorem and64 (y : Int32) : ¬ (y &&& (65535 : Int32)) < 0 := by
  obtain ⟨j, hj, e⟩ := pk_andE y (m := (65535 : Int32)) 16 (by decide)
  rw [e]
  exact nI_pos (by have : j < 65536 := hj; omega)
theorem sim_i17 (hr : ro r x o) (hz : x 13 = z 1) (h19 : x 19 = 0) (h7 : ¬ x 7 = 0) (hn : r 9 = 0 ↔ x 17 = 0) (hv : iv r) {w : Int32} (hop : (w &&& (31 : Int32)) = (17 : Int32)) : od (s_P_perform z M r d a lo hi ri t w) (s_X_instr x M d a o lo hi ri w) x := by
  rw [e_P_perform17 z M r d a lo hi ri t w hop, e_X_instr17 x M d a o lo hi ri w hop]
  have hro := hr
  obtain ⟨e0, e1, e2, e3, f1, f2, f3, f4, f5⟩ := hro
  unfold s_X_instr17
  by_cases hc : ¬ ((a (ix ((((w >>> ((8 : Int32) &&& 31)) &&& (7 : Int32)) + (1 : Int32)) &&& (7 : Int32)))) &&& (65535 : Int32)) < (ushr (a (ix ((((w >>> ((8 : Int32) &&& 31)) &&& (7 : Int32)) + (1 : Int32)) &&& (7 : Int32)))) (16 : Int32))
  · have hx : s_X_move17 x M d a o lo hi ri ((w >>> ((5 : Int32) &&& 31)) &&& (7 : Int32)) ((w >>> ((8 : Int32) &&& 31)) &&& (7 : Int32)) (w >>> ((16 : Int32) &&& 31)) = (upd x 19 514, d, a) := by
      unfold s_X_move17
      rw [if_neg hc]
    have hp : s_P_perform17 z M r d a lo hi ri t w = (514, d, a) := by
      unfold s_P_perform17 s_P_readRing
      by_cases h0 : (ushr (a (ix (((s_P_fieldB w) + (1 : Int32)) &&& (7 : Int32)))) (16 : Int32)) = 0
      · rw [if_pos h0]
      · rw [if_neg h0, if_neg (show ¬ ((a (ix (((s_P_fieldB w) + (1 : Int32)) &&& (7 : Int32)))) &&& (65535 : Int32)) < (ushr (a (ix (((s_P_fieldB w) + (1 : Int32)) &&& (7 : Int32)))) (16 : Int32)) from hc)]
    rw [hp, hx, ix0]
    exact ⟨rfl, rfl, rfl, oi_trap (q := 514) tr_514 (ro_o0 hr) hn hv⟩
  have hc := Classical.not_not.mp hc
  obtain ⟨k, hk, hkn⟩ := ushr16 (a (ix ((((w >>> ((8 : Int32) &&& 31)) &&& (7 : Int32)) + (1 : Int32)) &&& (7 : Int32))))
  have h0 : ¬ (ushr (a (ix ((((w >>> ((8 : Int32) &&& 31)) &&& (7 : Int32)) + (1 : Int32)) &&& (7 : Int32)))) (16 : Int32)) = 0 := fun h => and64 (a (ix ((((w >>> ((8 : Int32) &&& 31)) &&& (7 : Int32)) + (1 : Int32)) &&& (7 : Int32)))) (by rw [← h]; exact hc)
  have hpos : 0 < ((ushr (a (ix ((((w >>> ((8 : Int32) &&& 31)) &&& (7 : Int32)) + (1 : Int32)) &&& (7 : Int32)))) (16 : Int32))).toInt := by
    rw [hkn] at h0 ⊢
    rw [nI_toInt (by omega)]
    rcases Nat.eq_zero_or_pos k with rfl | h
    · exact absurd rfl h0
    · omega
  rcases may_R (z := z) (t := t) (r := r) (x := x) (o := o) (M := M) (d := d) (a := a) (lo := lo) (hi := hi) (ri := ri) (A := ((a (ix ((w >>> ((8 : Int32) &&& 31)) &&& (7 : Int32)))) + ((a (ix ((((w >>> ((8 : Int32) &&& 31)) &&& (7 : Int32)) + (1 : Int32)) &&& (7 : Int32)))) &&& (65535 : Int32)))) hz f1 f2 hv.1 with ⟨c0, m0, hin⟩ | ⟨hq, m0⟩
  · have hp : s_P_perform17 z M r d a lo hi ri t w = (0, upd d (ix ((w >>> ((5 : Int32) &&& 31)) &&& (7 : Int32))) (M (ix ((a (ix ((w >>> ((8 : Int32) &&& 31)) &&& (7 : Int32)))) + ((a (ix ((((w >>> ((8 : Int32) &&& 31)) &&& (7 : Int32)) + (1 : Int32)) &&& (7 : Int32)))) &&& (65535 : Int32))))), upd a (ix ((((w >>> ((8 : Int32) &&& 31)) &&& (7 : Int32)) + (1 : Int32)) &&& (7 : Int32))) (((ushr (a (ix ((((w >>> ((8 : Int32) &&& 31)) &&& (7 : Int32)) + (1 : Int32)) &&& (7 : Int32)))) (16 : Int32)) * (65536 : Int32)) + (if 0 ≤ ((((a (ix ((((w >>> ((8 : Int32) &&& 31)) &&& (7 : Int32)) + (1 : Int32)) &&& (7 : Int32)))) &&& (65535 : Int32)) + (w >>> ((16 : Int32) &&& 31))) - (((a (ix ((((w >>> ((8 : Int32) &&& 31)) &&& (7 : Int32)) + (1 : Int32)) &&& (7 : Int32)))) &&& (65535 : Int32)) + (w >>> ((16 : Int32) &&& 31))) / (ushr (a (ix ((((w >>> ((8 : Int32) &&& 31)) &&& (7 : Int32)) + (1 : Int32)) &&& (7 : Int32)))) (16 : Int32)) * (ushr (a (ix ((((w >>> ((8 : Int32) &&& 31)) &&& (7 : Int32)) + (1 : Int32)) &&& (7 : Int32)))) (16 : Int32))) then ((((a (ix ((((w >>> ((8 : Int32) &&& 31)) &&& (7 : Int32)) + (1 : Int32)) &&& (7 : Int32)))) &&& (65535 : Int32)) + (w >>> ((16 : Int32) &&& 31))) - (((a (ix ((((w >>> ((8 : Int32) &&& 31)) &&& (7 : Int32)) + (1 : Int32)) &&& (7 : Int32)))) &&& (65535 : Int32)) + (w >>> ((16 : Int32) &&& 31))) / (ushr (a (ix ((((w >>> ((8 : Int32) &&& 31)) &&& (7 : Int32)) + (1 : Int32)) &&& (7 : Int32)))) (16 : Int32)) * (ushr (a (ix ((((w >>> ((8 : Int32) &&& 31)) &&& (7 : Int32)) + (1 : Int32)) &&& (7 : Int32)))) (16 : Int32))) else (((((a (ix ((((w >>> ((8 : Int32) &&& 31)) &&& (7 : Int32)) + (1 : Int32)) &&& (7 : Int32)))) &&& (65535 : Int32)) + (w >>> ((16 : Int32) &&& 31))) - (((a (ix ((((w >>> ((8 : Int32) &&& 31)) &&& (7 : Int32)) + (1 : Int32)) &&& (7 : Int32)))) &&& (65535 : Int32)) + (w >>> ((16 : Int32) &&& 31))) / (ushr (a (ix ((((w >>> ((8 : Int32) &&& 31)) &&& (7 : Int32)) + (1 : Int32)) &&& (7 : Int32)))) (16 : Int32)) * (ushr (a (ix ((((w >>> ((8 : Int32) &&& 31)) &&& (7 : Int32)) + (1 : Int32)) &&& (7 : Int32)))) (16 : Int32))) + (ushr (a (ix ((((w >>> ((8 : Int32) &&& 31)) &&& (7 : Int32)) + (1 : Int32)) &&& (7 : Int32)))) (16 : Int32)))))) := by
      unfold s_P_perform17 s_P_readRing
      rw [if_neg (show ¬ (ushr (a (ix (((s_P_fieldB w) + (1 : Int32)) &&& (7 : Int32)))) (16 : Int32)) = 0 from h0), if_pos (show ((a (ix (((s_P_fieldB w) + (1 : Int32)) &&& (7 : Int32)))) &&& (65535 : Int32)) < (ushr (a (ix (((s_P_fieldB w) + (1 : Int32)) &&& (7 : Int32)))) (16 : Int32)) from hc), if_pos (show s_P_refuseWord z M r d a lo hi ri t ((a (ix (s_P_fieldB w))) + ((a (ix (((s_P_fieldB w) + (1 : Int32)) &&& (7 : Int32)))) &&& (65535 : Int32))) (1 : Int32) = 0 from c0), read_in (show vp_in ((a (ix (s_P_fieldB w))) + ((a (ix (((s_P_fieldB w) + (1 : Int32)) &&& (7 : Int32)))) &&& (65535 : Int32))) 512 from hin), floor_same (show 0 < ((ushr (a (ix (((s_P_fieldB w) + (1 : Int32)) &&& (7 : Int32)))) (16 : Int32))).toInt from hpos)]
      rfl
    have hx : s_X_move17 x M d a o lo hi ri ((w >>> ((5 : Int32) &&& 31)) &&& (7 : Int32)) ((w >>> ((8 : Int32) &&& 31)) &&& (7 : Int32)) (w >>> ((16 : Int32) &&& 31)) = (upd x 19 (x 19), upd d (ix ((w >>> ((5 : Int32) &&& 31)) &&& (7 : Int32))) (M (ix ((a (ix ((w >>> ((8 : Int32) &&& 31)) &&& (7 : Int32)))) + ((a (ix ((((w >>> ((8 : Int32) &&& 31)) &&& (7 : Int32)) + (1 : Int32)) &&& (7 : Int32)))) &&& (65535 : Int32))))), upd a (ix ((((w >>> ((8 : Int32) &&& 31)) &&& (7 : Int32)) + (1 : Int32)) &&& (7 : Int32))) (((ushr (a (ix ((((w >>> ((8 : Int32) &&& 31)) &&& (7 : Int32)) + (1 : Int32)) &&& (7 : Int32)))) (16 : Int32)) * (65536 : Int32)) + (if 0 ≤ ((((a (ix ((((w >>> ((8 : Int32) &&& 31)) &&& (7 : Int32)) + (1 : Int32)) &&& (7 : Int32)))) &&& (65535 : Int32)) + (w >>> ((16 : Int32) &&& 31))) - (((a (ix ((((w >>> ((8 : Int32) &&& 31)) &&& (7 : Int32)) + (1 : Int32)) &&& (7 : Int32)))) &&& (65535 : Int32)) + (w >>> ((16 : Int32) &&& 31))) / (ushr (a (ix ((((w >>> ((8 : Int32) &&& 31)) &&& (7 : Int32)) + (1 : Int32)) &&& (7 : Int32)))) (16 : Int32)) * (ushr (a (ix ((((w >>> ((8 : Int32) &&& 31)) &&& (7 : Int32)) + (1 : Int32)) &&& (7 : Int32)))) (16 : Int32))) then ((((a (ix ((((w >>> ((8 : Int32) &&& 31)) &&& (7 : Int32)) + (1 : Int32)) &&& (7 : Int32)))) &&& (65535 : Int32)) + (w >>> ((16 : Int32) &&& 31))) - (((a (ix ((((w >>> ((8 : Int32) &&& 31)) &&& (7 : Int32)) + (1 : Int32)) &&& (7 : Int32)))) &&& (65535 : Int32)) + (w >>> ((16 : Int32) &&& 31))) / (ushr (a (ix ((((w >>> ((8 : Int32) &&& 31)) &&& (7 : Int32)) + (1 : Int32)) &&& (7 : Int32)))) (16 : Int32)) * (ushr (a (ix ((((w >>> ((8 : Int32) &&& 31)) &&& (7 : Int32)) + (1 : Int32)) &&& (7 : Int32)))) (16 : Int32))) else (((((a (ix ((((w >>> ((8 : Int32) &&& 31)) &&& (7 : Int32)) + (1 : Int32)) &&& (7 : Int32)))) &&& (65535 : Int32)) + (w >>> ((16 : Int32) &&& 31))) - (((a (ix ((((w >>> ((8 : Int32) &&& 31)) &&& (7 : Int32)) + (1 : Int32)) &&& (7 : Int32)))) &&& (65535 : Int32)) + (w >>> ((16 : Int32) &&& 31))) / (ushr (a (ix ((((w >>> ((8 : Int32) &&& 31)) &&& (7 : Int32)) + (1 : Int32)) &&& (7 : Int32)))) (16 : Int32)) * (ushr (a (ix ((((w >>> ((8 : Int32) &&& 31)) &&& (7 : Int32)) + (1 : Int32)) &&& (7 : Int32)))) (16 : Int32))) + (ushr (a (ix ((((w >>> ((8 : Int32) &&& 31)) &&& (7 : Int32)) + (1 : Int32)) &&& (7 : Int32)))) (16 : Int32)))))) := by
      unfold s_X_move17
      rw [if_pos hc, m0, if_neg ne_10, if_neg h0]
    rw [hp, hx]
    refine ⟨rfl, rfl, rfl, ?_⟩
    show oi 0 r x (upd x 19 (x 19)) (upd o (ix 0) (if x 19 = 0 then (if x 7 = 0 then (o (ix 0)) else ((o (ix 0)) + 1)) else (o (ix 0))))
    rw [if_pos h19, if_neg h7, ix0]
    exact oi_go (ro_up hr 19 _ (by omega)) h19 rfl (fr_up fr_rf 19 _ (by omega)) (fun _ => hn) hv
  · generalize hqe : s_P_refuseWord z M r d a lo hi ri t ((a (ix ((w >>> ((8 : Int32) &&& 31)) &&& (7 : Int32)))) + ((a (ix ((((w >>> ((8 : Int32) &&& 31)) &&& (7 : Int32)) + (1 : Int32)) &&& (7 : Int32)))) &&& (65535 : Int32))) (1 : Int32) = q at hq m0
    have hp : s_P_perform17 z M r d a lo hi ri t w = (q, d, a) := by
      unfold s_P_perform17 s_P_readRing
      have hqe : s_P_refuseWord z M r d a lo hi ri t ((a (ix (s_P_fieldB w))) + ((a (ix (((s_P_fieldB w) + (1 : Int32)) &&& (7 : Int32)))) &&& (65535 : Int32))) (1 : Int32) = q := hqe
      rw [if_neg (show ¬ (ushr (a (ix (((s_P_fieldB w) + (1 : Int32)) &&& (7 : Int32)))) (16 : Int32)) = 0 from h0), if_pos (show ((a (ix (((s_P_fieldB w) + (1 : Int32)) &&& (7 : Int32)))) &&& (65535 : Int32)) < (ushr (a (ix (((s_P_fieldB w) + (1 : Int32)) &&& (7 : Int32)))) (16 : Int32)) from hc), hqe, if_neg (tr_ne hq)]
    have hx : s_X_move17 x M d a o lo hi ri ((w >>> ((5 : Int32) &&& 31)) &&& (7 : Int32)) ((w >>> ((8 : Int32) &&& 31)) &&& (7 : Int32)) (w >>> ((16 : Int32) &&& 31)) = (upd x 19 q, d, a) := by
      unfold s_X_move17
      rw [if_pos hc, m0, if_pos rfl]
    rw [hp, hx]
    refine ⟨rfl, rfl, rfl, ?_⟩
    show oi q r x (upd x 19 q) (upd o (ix 0) (if q = 0 then _ else (o (ix 0))))
    rw [if_neg (tr_ne hq), ix0]
    exact oi_trap hq (ro_o0 hr) hn hv
theorem sim_instr (hr : ro r x o) (hz : x 13 = z 1) (h19 : x 19 = 0) (h7 : ¬ x 7 = 0) (hn : r 9 = 0 ↔ x 17 = 0) (hv : iv r) (w : Int32) : od (s_P_perform z M r d a lo hi ri t w) (s_X_instr x M d a o lo hi ri w) x := by
  obtain ⟨j, hj, hop⟩ := pk_andE w (m := (31 : Int32)) 5 (by decide)
  have hj : j < 32 := hj
  match j, hj, hop with
  | 0, _, hop => exact sim_i0 hr h19 h7 hn hv hop
  | 1, _, hop => exact sim_i1 hr h19 h7 hn hv hop
  | 2, _, hop => exact sim_i2 hr h19 h7 hn hv hop
  | 3, _, hop => exact sim_i3 hr h19 h7 hn hv hop
  | 4, _, hop => exact sim_i4 hr h19 h7 hn hv hop
  | 5, _, hop => exact sim_i5 hr h19 h7 hn hv hop
  | 6, _, hop => exact sim_i6 hr h19 h7 hn hv hop
  | 7, _, hop => exact sim_i7 hr h19 h7 hn hv hop
  | 8, _, hop => exact sim_i8 hr h19 h7 hn hv hop
  | 9, _, hop => exact sim_i9 hr h19 h7 hn hv hop
  | 10, _, hop => exact sim_i10 hr h19 h7 hn hv hop
  | 11, _, hop => exact sim_i11 hr h19 h7 hn hv hop
  | 12, _, hop => exact sim_i12 hr h19 h7 hn hv hop
  | 13, _, hop => exact sim_i13 hr hz h19 h7 hn hv hop
  | 14, _, hop => exact sim_i14 hr hz h19 h7 hn hv hop
  | 15, _, hop => exact sim_i15 hr hz h19 h7 hn hv hop
  | 16, _, hop => exact sim_i16 hr hz h19 h7 hn hv hop
  | 17, _, hop => exact sim_i17 hr hz h19 h7 hn hv hop
  | 18, _, hop => exact sim_i18 hr h19 h7 hn hv hop
  | 19, _, hop => exact sim_i19 hr h19 h7 hn hv hop
  | 20, _, hop => exact sim_i20 hr h19 h7 hn hv hop
  | 21, _, hop => exact sim_i21 hr h19 h7 hn hv hop
  | 22, _, hop => exact sim_i22 hr h19 h7 hn hv hop
  | 23, _, hop => exact sim_i23 hr h19 h7 hn hv hop
  | 24, _, hop => exact sim_i24 hr h19 h7 hn hv hop
  | 25, _, hop => exact sim_i25 hr h19 h7 hn hv hop
  | 26, _, hop => exact sim_i26 hr h19 h7 hn hv hop
  | 27, _, hop => exact sim_i27 hr h19 h7 hn hv hop
  | 28, _, hop => exact sim_i28 hr h19 h7 hn hv hop
  | 29, _, hop => exact sim_i29 hr h19 h7 hn hv hop
  | 30, _, hop => exact sim_i30 hr h19 h7 hn hv hop
  | 31, _, hop => exact sim_i31 hr h19 h7 hn hv hop
  | n + 32, hj, _ => exact absurd hj (by omega)
end SW
