/-! exceptions: what holds where one is made -/
def isF2 : Cond → Bool
  | .declares _ => true
  | .castable _ _ => true
  | .laysStatic _ _ _ => true
  | _ => false
def zS1 : Cond := .isRef (.static Bundle.tN "UNASSIGNED_STACK" Bundle.steD)
def zS2 : Cond := .isRef (.static Bundle.tN "SUPPRESSED_SENTINEL" Bundle.listD)
def nIAE : String := "java/lang/IllegalArgumentException"
def nISE : String := "java/lang/IllegalStateException"
def nIOB : String := "java/lang/IndexOutOfBoundsException"
def nUp : List String := ["java/lang/RuntimeException", "java/lang/Exception"]
/-- the words that are no table words, the statics of Throwable, the texts -/
def zTh (U : State) : Prop := (∀ w ∈ lw_tbl, isF2 w = true → w.before #[] U = true) ∧ zS1.before #[] U = true ∧ zS2.before #[] U = true ∧ (∀ (k : Nat) (tx : String), Cond.stringRef R_C k tx ∈ lw_tbl → ∃ a, vk_R R_C k tx a U) ∧ (Cond.castable nISE nIAE).before #[] U = false
theorem f2_args {w : Cond} (h : isF2 w = true) (a a' : Array Value) (U : State) : w.before a U = w.before a' U := by
  cases w <;> first | rfl | (exact absurd h (by intro q; cases q))
theorem st_isRef {V U : State} (hv : U.vm = V.vm) (hk : ∀ (q : Nat) (cell : Cell), V.heap[q]? = some cell → U.heap[q]? = some cell) {C n d : String} {a a' : Array Value} (h : (Cond.isRef (.static C n d)).before a V = true) : (Cond.isRef (.static C n d)).before a' U = true := by
  have hf : U.fieldNamed? C n d true = V.fieldNamed? C n d true := by
    unfold State.fieldNamed? State.fieldFound?
    rw [hv]
  simp only [Cond.before, Cond.holds, Cond.value, Term.eval] at h ⊢
  rw [hf]
  cases hfn : V.fieldNamed? C n d true with
  | none => simp [hfn] at h
  | some t =>
    obtain ⟨c, k, slot⟩ := t
    cases hs : k.statics with
    | none => simp [hfn, hs] at h
    | some q =>
      cases hc : V.heap[q]? with
      | none => simp [hfn, hs, hc] at h
      | some cell =>
        simp [hfn, hs, hc, hk q cell hc] at h ⊢
        exact h
theorem st_lays {V U : State} (hv : U.vm = V.vm) (hk : ∀ (q : Nat) (cell : Cell), V.heap[q]? = some cell → U.heap[q]? = some cell) {C n d : String} {a a' : Array Value} (h : (Cond.laysStatic C n d).before a V = true) : (Cond.laysStatic C n d).before a' U = true := by
  have hf : U.fieldFound? C n d = V.fieldFound? C n d := by
    unfold State.fieldFound?
    rw [hv]
  simp only [Cond.before, Cond.holds, Cond.value] at h ⊢
  rw [hf, hv]
  cases hc0 : V.vm.findClass C with
  | none => simp [hc0] at h
  | some c0 =>
    cases hfn : V.fieldFound? C n d with
    | none => simp [hc0, hfn] at h
    | some t =>
      obtain ⟨c, k, i, f⟩ := t
      cases hs : k.statics with
      | none => simp [hc0, hfn, hs] at h
      | some q =>
        cases hc : V.heap[q]? with
        | none => simp [hc0, hfn, hs, hc] at h
        | some cell =>
          simp [hc0, hfn, hs, hc, hk q cell hc] at h ⊢
          exact h
theorem zTh.move {s U : State} (hW : s.WarmedH U.vm) (hk : ∀ (q : Nat) (cell : Cell), s.heap[q]? = some cell → U.heap[q]? = some cell) (h : zTh s) : zTh U := by
  obtain ⟨h1, h2, h3, h4, h5⟩ := h
  have hal := hW.alike
  refine ⟨fun w hw hf => ?_, ?_, ?_, fun k tx hm => ?_, ?_⟩
  · have h0 := h1 w hw hf
    cases w with
    | declares y =>
      have := Cond.before_shiftedFace (State.Shifted.of_warmed hW) (.declares y) rfl h0
      exact this
    | castable A B =>
      have := Cond.before_shiftedFace (State.Shifted.of_warmed hW) (.castable A B) rfl h0
      exact this
    | laysStatic C n d => exact st_lays (V := s.setVm U.vm) (U := U) rfl hk (Cond.laysStatic_setVm hal h0)
    | _ => exact absurd hf (by intro q; cases q)
  · refine st_isRef (V := s.setVm U.vm) (U := U) (a := #[]) rfl hk ?_
    have e := Term.eval_setVm (args := #[]) (o := none) hal (.static Bundle.tN "UNASSIGNED_STACK" Bundle.steD) [] rfl
    simp only [zS1, Cond.before, Cond.holds, Cond.value] at h2 ⊢
    rw [e]; exact h2
  · refine st_isRef (V := s.setVm U.vm) (U := U) (a := #[]) rfl hk ?_
    have e := Term.eval_setVm (args := #[]) (o := none) hal (.static Bundle.tN "SUPPRESSED_SENTINEL" Bundle.listD) [] rfl
    simp only [zS2, Cond.before, Cond.holds, Cond.value] at h3 ⊢
    rw [e]; exact h3
  · obtain ⟨a, ha⟩ := h4 k tx hm
    exact ⟨a, ha.warm hW⟩
  · cases hc : (Cond.castable nISE nIAE).before #[] U with
    | false => rfl
    | true =>
      exfalso
      obtain ⟨c3, c4, g3, g4, g5⟩ := Cond.castable_spec hc
      rw [hal.findClass] at g3 g4
      rw [hal.assignable] at g5
      have : (Cond.castable nISE nIAE).before #[] s = true := by
        simp [Cond.before, Cond.holds, Cond.value, g3, g4, g5]
      rw [h5] at this
      cases this
theorem zTh.same {s U : State} (hv : U.vm = s.vm) (hh : U.heap = s.heap) (h : zTh s) : zTh U :=
  zTh.move (by rw [hv]; exact State.WarmedH.refl s) (fun q cell hc => by rw [hh]; exact hc) h
