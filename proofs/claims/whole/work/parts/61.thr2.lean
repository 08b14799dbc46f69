/-! the search for a handler, its class linked or not yet -/
section ZF
variable {p : Program} {l : Launch} {e : Env} {R : Room} {s : State} {m : MethodId} {args : Array Value} {below : List Frame} {meth : Method} {c : Code} {T : State} {locs : List Loc} {cells slots : Nat}
/-- one entry of the table that covers the place: its type is looked up (that may note it), then the object is held against it -/
theorem zf_go {f : JFrame} {a : Addr} {Q : Handler → Pre} {E : CtlPost} {d : Bool} {acts : List Action} {x : ExceptionTableEntry} {t : List ExceptionTableEntry} {ct : ClassId} {o : Cell} (hx : covers x f.pc = true) (h0 : x.catchType ≠ 0)
    (hl : s.vm.ClassLinks e.platform f.method.cls x.catchType ct) (ho : s.heap[a]? = some o) (hos : o.vm.isStatics = false) (hk : ∃ k, s.vm.classes[o.cls]? = some k) (hc : ∃ k, s.vm.classes[ct]? = some k) :
    wp (findHandler.go f a (x :: t)) Q E e d acts s ↔ if s.vm.assignable o.cls ct = true then Q (.found x.handlerPc) d acts (s.setVm (s.vm.noted f.method.cls x.catchType (.cls ct))) else wp (findHandler.go f a t) Q E e d acts (s.setVm (s.vm.noted f.method.cls x.catchType (.cls ct))) := by
  have gives := (resolveClass_links e.toSetting hl).op (op := VmOp.resolveClass f.method.cls x.catchType) rfl
  have alike := (Vm.Alike.refl s.vm).noted f.method.cls x.catchType (.cls ct)
  have known : ∀ i : ClassId, (∃ k, s.vm.classes[i]? = some k) → ∃ k, (s.vm.noted f.method.cls x.catchType (.cls ct)).classes[i]? = some k := fun i ⟨k, h⟩ => (alike.2.2 i k h).imp fun _ h => h.1
  have plain := VmData.ne_statics_of hos
  have fits : (s.vm.noted f.method.cls x.catchType (.cls ct)).assignable o.cls ct = s.vm.assignable o.cls ct := alike.assignable ..
  obtain ⟨k1, e1⟩ := known _ hk
  obtain ⟨k2, e2⟩ := known _ hc
  unfold covers at hx
  by_cases q : s.vm.assignable o.cls ct = true
  · rw [if_pos q]
    rw [q] at fits
    simp [findHandler.go, hx, h0, gives.1, gives.2, ho, plain, e1, e2, fits, VmOp.dirties, VmOp.acts]
  · rw [if_neg q]
    rw [(Bool.not_eq_true _).mp q] at fits
    simp [findHandler.go, hx, h0, gives.1, gives.2, ho, plain, e1, e2, fits, VmOp.dirties, VmOp.acts]
/-- a search that finds a place, and leaves the tables vm': the frame goes on there -/
theorem zf_caught {tb : Tables} {target : State} {g : JFrame} {a : Addr} (h : At s g.method c below) {pc : Nat} {vm' : Vm}
    (hfind : ∀ (Q : Handler → Pre) (E : CtlPost) (d : Bool) (acts : List Action), wp (findHandler g a) Q E e d acts ((s.setTop g).pushFrame (.throwing a)) ↔ Q (.found pc) d acts (((s.setTop g).pushFrame (.throwing a)).setVm vm'))
    (hrest : Steps tb e below ((s.setVm vm').setTop { g with pc := pc, stack := [.ref a] }) target) : Steps tb e below ((s.setTop g).pushFrame (.throwing a)) target := by
  have one : ∀ (S : State) (r : List Frame), (∀ (Q : Handler → Pre) (E : CtlPost) (d : Bool) (acts : List Action), wp (findHandler g a) Q E e d acts S ↔ Q (.found pc) d acts (S.setVm vm')) → (stepThrowing e S a (.java g :: r)).1 = (S.setVm vm').setFrames (.java { g with pc := pc, stack := [.ref a] } :: r) := by
    intro S r hS
    simp only [stepThrowing, searchFrame, vmDo]
    generalize hr : Sem.go _ e false [] S = res
    obtain ⟨as, rfl, -⟩ := Sem.eq_ok_of hr (a := Handler.found pc) (s' := S.setVm vm') (acts' := []) (by simp [hS])
    rfl
  have swap : ∀ (u : State) (F G : List Frame), ((u.setFrames F).setVm vm').setFrames G = (u.setVm vm').setFrames G := fun u F G => State.setFrames_setFrames (u.setVm vm') F G
  obtain ⟨hgo, hw⟩ := h.throwing a
  obtain ⟨g₀, hg⟩ := Option.isSome_iff_exists.mp h.top
  obtain ⟨r, hr⟩ := State.topJava?_eq_some.mp hg
  refine Steps.head hgo hw ?_
  rw [stepThread_throwing (frames_entered h.top _), one _ _ hfind, hr, List.tail_cons, State.pushFrame, swap, State.setTop_of_frames _ hr, swap, ← State.setTop_of_frames (s := s.setVm vm') _ hr]
  exact hrest
/-- an entry of the table, its class by a word -/
theorem zf_link (X : Stand p l e R s m args below meth c T locs cells slots) {own name : String} (hown : s.vm.findClass own = some m.cls) {ct : Nat} (hlink : (Cond.classLink own ct name).before args s = true) {vm : Vm} (hW : s.WarmedH vm) {cT : ClassId} (hcT : s.vm.findClass name = some cT) :
    vm.ClassLinks e.platform m.cls ct cT ∧ s.WarmedH (vm.noted m.cls ct (.cls cT)) ∧ ∃ k, vm.classes[cT]? = some k := by
  have hpl : e.platform.magicAccessors = ({} : Platform).magicAccessors := by rw [X.admits.platform]
  obtain ⟨c', hc', hcl⟩ := Cond.classLink_spec hown hlink e.platform hpl
  cases hcT.symm.trans hc'
  obtain ⟨dk, _, _, kt, hd, _, _, _, _, hkt, _, hopen⟩ := hcl.here
  obtain ⟨kt', hkt', -⟩ := hW.alike.2.2 _ _ hkt
  exact ⟨hW.classLinks hcl, hW.noted hd hopen (State.rightAt_cls hcl), kt', hkt'⟩
theorem zf_first (X : Stand p l e R s m args below meth c T locs cells slots) (a : Addr) {g : JFrame} (hg : g.method = m) {own name : String} (hown : s.vm.findClass own = some m.cls)
    (x : ExceptionTableEntry) (rest : List ExceptionTableEntry) (hsplit : c.exceptionTable.toList = x :: rest) (hx : covers x g.pc = true) (h0 : x.catchType ≠ 0)
    (hlink : (Cond.classLink own x.catchType name).before args s = true) {cT : ClassId} {cell : Cell} (hcT : s.vm.findClass name = some cT) (hcell : T.heap[a]? = some cell) (hobj : cell.vm.isStatics = false) (hfit : s.vm.assignable cell.cls cT = true) :
    ∃ vm', Stand p l e R s m args below meth c (T.setVm vm') locs cells slots ∧
      ∀ target, Steps p.tables e below ((T.setVm vm').setTop { g with pc := x.handlerPc, stack := [.ref a] }) target → Steps p.tables e below ((T.setTop g).pushFrame (.throwing a)) target := by
  obtain ⟨hcl, hW', hkt⟩ := zf_link X hown hlink X.warmed hcT
  have hfit' : T.vm.assignable cell.cls cT = true := by rw [X.warmed.alike.assignable]; exact hfit
  refine ⟨_, X.noted hW', fun target hrest => ?_⟩
  subst hg
  refine zf_caught X.here (fun Q E d acts => ?_) hrest
  rw [Jvm.W.findHandler_eq (s := (T.setTop g).pushFrame (.throwing a)) (meth := meth) (code := c) X.method' X.code, hsplit]
  rw [zf_go (s := (T.setTop g).pushFrame (.throwing a)) hx h0 hcl hcell hobj (Vm.classAt_of_assignable hfit' hkt) hkt]
  exact iff_of_eq (if_pos hfit')
theorem zf_second (X : Stand p l e R s m args below meth c T locs cells slots) (a : Addr) {g : JFrame} (hg : g.method = m) {own name name1 : String} (hown : s.vm.findClass own = some m.cls)
    (x1 x : ExceptionTableEntry) (rest : List ExceptionTableEntry) (hsplit : c.exceptionTable.toList = x1 :: x :: rest) (hx1 : covers x1 g.pc = true) (h01 : x1.catchType ≠ 0) (hx : covers x g.pc = true) (h0 : x.catchType ≠ 0)
    (hlink1 : (Cond.classLink own x1.catchType name1).before args s = true) (hlink : (Cond.classLink own x.catchType name).before args s = true) {cT1 cT : ClassId} {cell : Cell} (hcT1 : s.vm.findClass name1 = some cT1) (hcT : s.vm.findClass name = some cT) (hcell : T.heap[a]? = some cell) (hobj : cell.vm.isStatics = false) (hno : s.vm.assignable cell.cls cT1 = false) (hfit : s.vm.assignable cell.cls cT = true) :
    ∃ vm', Stand p l e R s m args below meth c (T.setVm vm') locs cells slots ∧
      ∀ target, Steps p.tables e below ((T.setVm vm').setTop { g with pc := x.handlerPc, stack := [.ref a] }) target → Steps p.tables e below ((T.setTop g).pushFrame (.throwing a)) target := by
  obtain ⟨hcl1, hW1, hkt1⟩ := zf_link X hown hlink1 X.warmed hcT1
  obtain ⟨-, -, hkt⟩ := zf_link X hown hlink X.warmed hcT
  obtain ⟨hcl2, hW2, hkt2⟩ := zf_link X hown hlink hW1 hcT
  have hfit' : T.vm.assignable cell.cls cT = true := by rw [X.warmed.alike.assignable]; exact hfit
  have hno' : T.vm.assignable cell.cls cT1 = false := by rw [X.warmed.alike.assignable]; exact hno
  have hfit2 : (T.vm.noted m.cls x1.catchType (.cls cT1)).assignable cell.cls cT = true := by rw [hW1.alike.assignable]; exact hfit
  refine ⟨_, X.noted hW2, fun target hrest => ?_⟩
  subst hg
  refine zf_caught X.here (fun Q E d acts => ?_) hrest
  rw [Jvm.W.findHandler_eq (s := (T.setTop g).pushFrame (.throwing a)) (meth := meth) (code := c) X.method' X.code, hsplit]
  rw [zf_go (s := (T.setTop g).pushFrame (.throwing a)) hx1 h01 hcl1 hcell hobj (Vm.classAt_of_assignable hfit' hkt) hkt1]
  refine (iff_of_eq (if_neg (fun q => Bool.noConfusion (hno'.symm.trans q)))).trans ?_
  refine (zf_go (s := ((T.setTop g).pushFrame (.throwing a)).setVm (T.vm.noted g.method.cls x1.catchType (.cls cT1))) hx h0 hcl2 hcell hobj (Vm.classAt_of_assignable hfit2 hkt2) hkt2).trans ?_
  exact iff_of_eq (if_pos hfit2)
/-- nothing old has changed -/
theorem sbn_nil {st t : State} {k n : Nat} (h : st.sameButNew t [] k n) : ∀ (q : Nat) (cell : Cell), st.heap[q]? = some cell → t.heap[q]? = some cell := by
  obtain ⟨-, -, -, -, -, h6⟩ := h
  intro q cell hc
  obtain ⟨c', g1, g2, g3, g4⟩ := h6 q cell hc
  rw [g1]
  have e : c'.slots = cell.slots := by
    apply Array.ext_getElem?
    intro i
    exact g4 i (by simp)
  rw [g2, e]
end ZF
