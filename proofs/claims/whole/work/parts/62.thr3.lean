/-! a method that throws: its contract; the throw itself; a call that throws, and is caught -/
def zPt (D : va_G) (cl : List vw_C) (tys : List (ClassId × FieldType)) (w : va_W) (sz : Nat) (av : List Value) : Array Value → State → Prop := va_Pc av (fun U => U.heap.size = sz ∧ va_P D cl w U.heap ∧ va_K D cl tys U ∧ zTh U)
def zQt (X : String) : Array Value → State → Outcome → State → Prop := fun _ st o t => ∃ (a : Nat) (ce : Cell), o = .threw a ∧ t.heap[a]? = some ce ∧ ce.vm = .none ∧ st.vm.findClass X = some ce.cls ∧ st.WarmedH t.vm ∧ st.sameButNew ({ t with vm := st.vm } : State) [] 1 6
def zMt (l : Launch) (y : MethodName) (ws : List Cond) (rm : Room) (D : va_G) (cl : List vw_C) (tys : List (ClassId × FieldType)) (av : List Value) (w : va_W) (sz : Nat) (X : String) : Prop := MetFree l y (headSpec ws rm) (zPt D cl tys w sz av) (fun _ _ _ _ _ => True) (zQt X)
theorem zPt_blind {D : va_G} {cl : List vw_C} {tys : List (ClassId × FieldType)} {w : va_W} {sz : Nat} {av : List Value} : FrameBlind (zPt D cl tys w sz av) := fun a U g mk q => by
  obtain ⟨q0, q1, qP, qK, qT⟩ := q
  exact ⟨q0, q1, qP, va_K.moved (u := U) (U := U.calling g mk a) (Vm.Alike.refl U.vm) qK, zTh.same (s := U) (U := U.calling g mk a) rfl rfl qT⟩
/-- what a throw's numbers must say -/
def thOk (X : String) (ci si ic : Nat) (tx : String) : Prop := Cond.classLink R_C ci X ∈ wd ∧ Cond.initialized X ∈ wd ∧ Cond.instantiable X 6 ∈ wd ∧ Cond.stringRef R_C si tx ∈ lw_tbl ∧ Bundle.fit X = true ∧ ∀ w ∈ Bundle.ownAtoms R_C ic X nUp, w ∈ wd ∨ (isF2 w = true ∧ w ∈ lw_tbl) ∨ w = zS1 ∨ w = zS2
section ZT
variable {p : Program} {l : Launch} {e : Env} {R : Room} {s : State} {m : MethodId} {args : Array Value} {below : List Frame} {meth : Method} {c : Code} {H : Heap} {locs : List Loc} {cells slots : Nat} {Q : State → Prop}
variable {cc bytes : ByteArray} {pc nL maxL n index : Nat} {ls : Array Slot} {rest st0 As : List Value} {D : va_G} {cl : List vw_C} {A : Nat → Prop} {a b : Nat} {tys tys' : List (ClassId × FieldType)} {w w' wc wr w1 : va_W} {H0 : Heap} {own C : String} {y : MethodName} {ret : Option FieldType} {Wd : List Cond} {rm : Room} {rv : Int32}
theorem zz_throw {X tx : String} {ci si ic : Nat} (hx : p.tables.exec = Jvm.exec) (hb : c.code = cc) (hml : c.maxLocals = nL) (htr : l.stackTraces = false) (hlocks : meth.locks = false) (hno : c.exceptionTable.isEmpty = true) (hown : s.vm.findClass R_C = some m.cls) (hts : ∀ w ∈ wd, w.before args s = true) (hz : zTh s) (hok : thOk X ci si ic tx) (hR : 5 < R.frames ∧ 82 ≤ R.locals ∧ 1 ≤ R.cells ∧ 6 ≤ R.slots)
    (hS : va_S (fun q => s.heap.size ≤ q) s.heap H locs) (hsize : ls.size = nL) (d0 : decode cc pc = .ok (.new ci, 3)) (d3 : decode cc (pc + 3) = .ok (.dup, 1)) (d4 : decode cc (pc + 4) = .ok (.ldc si, 2)) (d6 : decode cc (pc + 6) = .ok (.invokespecial ic, 3)) (d9 : decode cc (pc + 9) = .ok (.athrow, 1))
    (hq : ∀ (U : State) (a : Nat) (ce : Cell), U.status = .running → Ended U below (.threw a) → s.WarmedH U.vm → s.sameButNew ({ U with vm := s.vm } : State) [] 1 6 → U.heap[a]? = some ce → ce.vm = .none → s.vm.findClass X = some ce.cls → Q U) :
    W p l e R s m args below meth c H locs 0 0 Q (F0 m pc ls []) := by
  obtain ⟨o1, o2, o3, o4, o5, o6⟩ := hok
  refine W.newc hx hb hown (hts _ o1) (hts _ o3) (hts _ o2) (g := F0 m pc ls []) rfl d0 (by omega) (by omega) (fun cC kC g1 g2 g3 g4 => ?_)
  show W p l e R s m args below meth c _ locs (0 + 1) (0 + 6) Q (F0 m (pc + 3) ls [.ref H.size])
  refine lv_dup hx hb d3 rfl ?_
  obtain ⟨sa, hsa⟩ := hz.2.2.2.1 si tx o4
  refine va_ldcS hx hb hown hsa d4 ?_
  intro T hT X0
  have X1 : Stand p l e R s m args below meth c T [] (0 + 1) (0 + 6) := Stand.forget (locs := []) X0 (fun q h => hS.2.2 q h)
  have htr' : e.platform.stackTraces = false := by rw [X1.admits.platform]; exact htr
  have hat : ∀ w ∈ Bundle.ownAtoms R_C ic X nUp, w.before args s = true := fun w hw => by
    rcases o6 w hw with h | ⟨h, h'⟩ | rfl | rfl
    · exact hts _ h
    · rw [f2_args h args #[]]; exact hz.1 w h' h
    · exact st_isRef (V := s) (U := s) rfl (fun _ _ h => h) hz.2.1
    · exact st_isRef (V := s) (U := s) rfl (fun _ _ h => h) hz.2.2.1
  have hcell : T.heap[H.size]? = some (freshCell cC kC) := by
    rw [hT]
    exact Array.getElem?_push_size
  obtain ⟨U, hsteps, hrun, hend, hW, hsame, ce, hce, K⟩ := X1.ctorThrowS hx htr' (own := R_C) (cls := X) (names := nUp) (ic := ic) hown o5 (by decide +kernel) hat (fun y hy => nomatch hy) g1 g2 hcell hS.1 (msg := .ref sa) rfl
    (g := F0 m (pc + 6) ls [.ref sa, .ref H.size, .ref H.size]) rfl (by rw [hml]; exact hsize) rfl rfl (rest := []) rfl (by rw [hb]; exact d6) (by rw [hb]; exact d9) (covers_of_empty hno _) (by have := hR.1; simpa [nUp] using this) (by have := hR.2.1; simpa [nUp, Value.category, JFrame.monitorRoom] using this) hlocks
  exact ⟨U, hsteps, hq U H.size ce hrun hend hW hsame hce K.vm K.cls⟩
theorem met_t {X : String} {av : List Value} {sz : Nat} (hy : plainName y.cls = true) (hC : y.cls = R_C) (hlen : (lg_sl av).length ≤ maxL) (htr : l.stackTraces = false) (hR : 5 < rm.frames ∧ 82 ≤ rm.locals ∧ 1 ≤ rm.cells ∧ 6 ≤ rm.slots)
    (body : ∀ (p : Program) (e : Env) (s : State) (m : MethodId) (args : Array Value) (below : List Frame) (meth : Method) (c : Code) (Q : State → Prop) (ls : Array Slot), p.tables.exec = Jvm.exec → c.code = cc → c.maxLocals = maxL → s.vm.findClass R_C = some m.cls → (∀ w ∈ wd, w.before args s = true) → va_K D cl tys s → va_P D cl w s.heap → va_S (fun q => s.heap.size ≤ q) s.heap s.heap [] → (∀ q : Nat, s.heap.size ≤ q → s.heap.size ≤ q) → lv_has ls maxL (lv_args 0 av) →
      (∀ (H : Heap) (locs : List Loc) (pc : Nat) (ls : Array Slot) (ci si ic : Nat) (tx : String), thOk X ci si ic tx → va_S (fun q => s.heap.size ≤ q) s.heap H locs → ls.size = maxL → decode cc pc = .ok (.new ci, 3) → decode cc (pc + 3) = .ok (.dup, 1) → decode cc (pc + 4) = .ok (.ldc si, 2) → decode cc (pc + 6) = .ok (.invokespecial ic, 3) → decode cc (pc + 9) = .ok (.athrow, 1) → W p l e rm s m args below meth c H locs 0 0 Q (F0 m pc ls [])) →
      W p l e rm s m args below meth c s.heap [] 0 0 Q (F0 m 0 ls [])) :
    zMt l y (.code y cc maxL ret :: wd) rm D cl tys av w sz X := by
  refine MetFree.of_bodyS (code := cc) (maxLocals := maxL) (ret := ret) hy ?_ ?_
  · intro args s m h hn
    obtain ⟨meth, c, h1, h2, h3, h4, h5, h6, -, -⟩ := Cond.code_spec hn (atoms_spec (ws := .code y cc maxL ret :: wd) h _ List.mem_cons_self)
    exact ⟨meth, c, h1, h2, h3, h4, h5, h6⟩
  · intro p e s m args below meth c s₁ B hml hv _
    obtain ⟨rfl, hsz, hP, hK, hz⟩ := hv
    have hts := atoms_spec (ws := .code y cc maxL ret :: wd) B.pre
    have hh0 : s₁.heap = s.heap := by rw [B.state]; rfl
    have hno := B.noHandlers (hts _ List.mem_cons_self)
    have hown : s.vm.findClass R_C = some m.cls := hC ▸ findClass_of_methodNamed B.named
    have hwd : ∀ w ∈ wd, w.before av.toArray s = true := fun w h => hts w (List.mem_cons_of_mem _ h)
    have K : W p l e rm s m av.toArray below meth c s.heap [] 0 0 (fun t => ∃ o, t.status = .running ∧ Ended t below o ∧ zQt X av.toArray s o t) (entryFrame m av.toArray maxL) := by
      rw [lg_entry_eq]
      refine body p e s m _ below meth c _ _ B.exec B.bytes hml hown hwd hK hP va_S.rf (fun q h => h) (lv_entry av hlen) ?_
      intro H locs pc ls ci si ic tx hok hS hsize d0 d3 d4 d6 d9
      exact zz_throw B.exec B.bytes hml htr B.notSynchronized hno hown hwd hz hok hR hS hsize d0 d3 d4 d6 d9 (fun U a ce hrun hend hW hsame hce hcv hcc => ⟨.threw a, hrun, hend, a, ce, rfl, hce, hcv, hcc, hW, hsame⟩)
    obtain ⟨t, a1, o, b1, b2, b3⟩ := K s₁ hh0 (Stand.of_body B)
    exact ⟨t, o, a1, b1, b2, b3⟩
/-- a virtual call that throws: up to the note that it lays -/
theorem zz_cTc {X : String} (S : CallFix p m c cc nL s args Wd own) (hM : zMt l y (.code y bytes maxL ret :: Wd) rm D cl tys' (.ref b :: As) wc H.size X) (hG : GoodIn Wd (wsV own index C y (.code y bytes maxL ret :: Wd))) (hd : y.cls = C ∧ y.cls ≠ "java/lang/invoke/MethodHandle" ∧ y.cls ≠ "java/lang/invoke/VarHandle" ∧ (parseMethodDescriptor y.desc).map (fun d => d.parameters.length) = some n) (hR : (rm.cells = 1 ∧ rm.slots = 6) ∧ rm.frames + 1 ≤ R.frames ∧ 8 + (maxL + 11) + rm.locals ≤ R.locals)
    (hK : va_K D cl tys s) (isK : List Nat) (hKs : isK.filterMap (fun i => tys[i]?) = tys') (hP : va_P D cl w H) (isC : List Nat) (hC : isC.map (fun i => w[i]?) = wc.map some) (hth : ∀ U : State, U.heap = H → s.WarmedH U.vm → zTh U)
    (q0 ci : Nat) {T0 : u_T} {N : Nat} {fs : List Value} (hcl : cl[ci]? = some (C, T0, N)) (he : w[q0]? = some (b, .inr (ci, fs))) (hst : st0 = As.reverse ++ .ref b :: rest) (hn : As.length = n) (hsize : ls.size = nL) (hroom : (rest.map fun v => v.category).sum ≤ 8) (hdg : decode cc pc = .ok (.invokevirtual index, 3)) (hf : cells + 1 ≤ R.cells ∧ slots + 6 ≤ R.slots)
    {T : State} (hT : T.heap = H) (X0 : Stand p l e R s m args below meth c T locs cells slots) :
    ∃ (T' : State) (a : Nat) (ce : Cell), Stand p l e R s m args below meth c T' locs (cells + 1) (slots + 6) ∧ H.size ≤ T'.heap.size ∧ (∀ (q : Nat) (cell : Cell), H[q]? = some cell → T'.heap[q]? = some cell) ∧ T'.heap[a]? = some ce ∧ ce.vm = .none ∧ s.vm.findClass X = some ce.cls ∧
      ∀ target, Steps p.tables e below ((T'.setTop (F0 m pc ls rest)).pushFrame (.throwing a)) target → Steps p.tables e below (T.setTop (F0 m pc ls st0)) target := by
  obtain ⟨hx, hb, hml, ho, hts⟩ := S
  have cw := cwV (R := R) n hts hG rfl hR.1.1 hR.1.2 hd hR.2
  obtain ⟨⟨-, -, -, -, hws, hcm, hcode, hini, hy, hlen, hl⟩, hin, hse⟩ := cw
  obtain ⟨cellB, hcB, hoB, hclB⟩ := va_recv hK hP hcl he
  obtain ⟨mk, methM, hnamed, hmethM, hstM, habM⟩ := Cond.instanceMethod_spec hin
  obtain ⟨methM', cM, hmethM', -, -, -, -, -, -, hsigM⟩ := Cond.code_spec hnamed hcode
  cases hmethM.symm.trans hmethM'
  obtain ⟨c2, r2, m2, q1, q2, q3, q4, kP, hkP, hkPi⟩ := Cond.selects_spec hse
  cases hclB.symm.trans q1
  cases (State.methodFound?_of_named hnamed hy).symm.trans q2
  cases hnamed.symm.trans q3
  have hselP : selectMethod e.platform s.vm cellB.cls mk = .method mk := by rw [Launch.admits_selectMethod X0.admits]; exact q4
  obtain ⟨vm₁, X₁, hstep₁⟩ := X0.invokevirtual hx ho hl hnamed hmethM hstM hkP hkPi hy (a := b) (cell := cellB) (by rw [hT]; exact hcB) (fun z h => by rw [h] at hoB; cases hoB) hselP hmethM habM hkP hkPi (g := F0 m pc ls st0) rfl (argsL := As) (rest := rest) (hn.trans (hlen _ hsigM)) hst (by rw [hb]; exact hdg)
  have hstep₁ : ∀ target, (∀ acts, Steps p.tables e below (doInvoke e ((T.setVm vm₁).setTop (F0 m pc ls rest)) acts mk (Value.ref b :: As).toArray).1 target) → Steps p.tables e below (T.setTop (F0 m pc ls st0)) target := hstep₁
  have hUh : (T.setVm vm₁).heap = H := hT
  generalize T.setVm vm₁ = U at X₁ hstep₁ hUh
  have hn' := X₁.named hnamed
  have hcU : (Cond.code y bytes maxL ret).before #[] U = true := hws _ hcm _ _ X₁.warmed
  have hiU : (Cond.initialized y.cls).before #[] U = true := word_at X₁.warmed (Or.inl (by first | rfl | simp [Cond.onTables, Cond.keeps, Cond.steady])) hini
  obtain ⟨methY, cY, hmY, hcY, -, hlY, -, -, -, -⟩ := Cond.code_spec hn' hcU
  obtain ⟨kY, hkY, -⟩ := className_of_methodNamed hn'
  have hinitY : kY.init = .initialized := Cond.initialized_spec (findClass_of_methodNamed hn') hkY hiU
  have happ : (headSpec (.code y bytes maxL ret :: Wd) rm).appliesLoose y e.platform (U.calling (F0 m pc ls rest) mk (Value.ref b :: As).toArray) = true :=
    Spec.appliesLoose_calling (g := F0 m pc ls rest) X₁.here (by rw [hb]; exact hdg) hn' hkY hinitY
      (X₁.room_calling (g := F0 m pc ls rest) (R' := rm) (hsize.trans hml.symm) hmY hcY hR.2.1 (by rw [hlY]; exact Nat.le_trans (Nat.add_le_add_right (Nat.add_le_add_right (lv_room hroom) _) _) hR.2.2) (by rw [hR.1.1]; exact hf.1) (by rw [hR.1.2]; exact hf.2)) (atoms_intro fun w hw => hws w hw _ _ X₁.warmed)
  obtain ⟨mid, hmid⟩ := X₁.here.above
  have hfr : (U.setTop (F0 m pc ls rest)).frames = (.java (F0 m pc ls rest) :: mid) ++ below := by rw [State.frames_setTop' _ X₁.here.top, hmid]; rfl
  have hPc : zPt D cl tys' wc H.size (.ref b :: As) (Value.ref b :: As).toArray U := ⟨rfl, by rw [hUh], by rw [hUh]; exact hP.sub isC (zz_map hC), va_K.moved X₁.warmed.alike (hK.sub isK hKs), hth U hUh X₁.warmed⟩
  obtain ⟨o, s₂, hsteps, -, hend, hq⟩ := Steps.callFree hM p X0.admits X0.cas X0.clock (acts := []) hfr happ (zPt_blind _ U (F0 m pc ls rest) mk hPc) trivial
  have hq' : zQt X (Value.ref b :: As).toArray (U.calling (F0 m pc ls rest) mk (Value.ref b :: As).toArray) o s₂ := hq
  rw [State.frames_setTop' _ X₁.here.top] at hend
  obtain ⟨ad, ce, rfl, hce, hcv, hcc, hW₂, hsame⟩ := hq'
  have hold := sbn_nil hsame
  obtain ⟨e2, k2, k3, k4, k5, k6⟩ := hsame
  have e3 : s₂ = ({ (U.calling (F0 m pc ls rest) mk (Value.ref b :: As).toArray).setFrames s₂.frames with heap := s₂.heap, slotsUsed := s₂.slotsUsed } : State).setVm s₂.vm := by
    have : s₂ = ({ s₂ with vm := (U.calling (F0 m pc ls rest) mk (Value.ref b :: As).toArray).vm } : State).setVm s₂.vm := rfl
    rw [e2] at this
    exact this
  have hf₂ : s₂.frames = .throwing ad :: .java (F0 m pc ls rest) :: U.frames.tail := hend
  have hW' : U.WarmedH s₂.vm := hW₂
  obtain ⟨g₀, hg⟩ := Option.isSome_iff_exists.mp X₁.here.top
  obtain ⟨r, hr⟩ := State.topJava?_eq_some.mp hg
  have hs₂ : s₂ = ((({ U with heap := s₂.heap, slotsUsed := s₂.slotsUsed } : State).setVm s₂.vm).setTop (F0 m pc ls rest)).pushFrame (.throwing ad) := by
    have hr' : (({ U with heap := s₂.heap, slotsUsed := s₂.slotsUsed } : State).setVm s₂.vm).frames = .java g₀ :: r := hr
    refine e3.trans ?_
    rw [hf₂, State.calling_eq X₁.here.top, State.setFrames_setFrames, State.pushFrame, State.frames_setTop _ hr', State.setTop_of_frames _ hr', State.setFrames_setFrames, hr]
    rfl
  have hsame' : U.sameButNew ({ U with heap := s₂.heap, slotsUsed := s₂.slotsUsed } : State) [] 1 6 := by
    refine ⟨?_, k2, k3, k4, k5, k6⟩
    obtain ⟨t, ht, -⟩ := State.frames_cons hr
    show ({ U with heap := s₂.heap, slotsUsed := s₂.slotsUsed } : State) = { U.setFrames U.frames with heap := s₂.heap, slotsUsed := s₂.slotsUsed }
    rw [State.setFrames_self ht]
  have XX := X₁.same.trans (hsame'.setVm s.vm)
  rw [List.append_nil] at XX
  have hcc' : s.vm.findClass X = some ce.cls := by
    have h1 : U.vm.findClass X = some ce.cls := hcc
    rw [X₁.warmed.alike.findClass] at h1
    exact h1
  refine ⟨({ U with heap := s₂.heap, slotsUsed := s₂.slotsUsed } : State).setVm s₂.vm, ad, ce, ⟨X₁.admits, X₁.cas, X₁.clock, X₁.frames, X₁.room, X₁.hears, X₁.method, X₁.code, (X₁.here.setHeapUsed s₂.heap s₂.slotsUsed).setVm hW'.alike, X₁.tail, State.WarmedH.trans X₁.warmed hW', X₁.limits, X₁.bytes, XX⟩, ?_, ?_, hce, hcv, hcc', fun target h => hstep₁ _ fun acts => ?_⟩
  · rw [← hUh]; exact k2
  · rw [← hUh]; exact hold
  · rw [doInvoke_state]
    refine hsteps.trans ?_
    rw [hs₂]
    exact h
end ZT
