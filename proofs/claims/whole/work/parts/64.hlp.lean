/-! a method with handlers; a call that throws and is caught -/
def zPh (D : va_G) (cl : List vw_C) (tys : List (ClassId × FieldType)) (w : va_W) (sz : Nat) (av : List Value) : Array Value → State → Prop := va_Pc av (fun U => U.heap.size = sz ∧ va_P D cl w U.heap ∧ va_K D cl tys U ∧ va_D (fun _ => True) w ∧ zTh U)
def zMh (l : Launch) (y : MethodName) (cc : ByteArray) (maxL : Nat) (hs : List (Nat × Nat × Nat × Nat)) (rm : Room) (D : va_G) (cl : List vw_C) (tys : List (ClassId × FieldType)) (av : List Value) (w w1 : va_W) (sz : Nat) (rv : Int32) : Prop := Met l y (.codeWith y cc maxL (some .int) hs :: wd) rm (zPh D cl tys w sz av) (zQi D cl tys w w1 sz rv) 1 6 (va_A w sz)
theorem zPh_blind {D : va_G} {cl : List vw_C} {tys : List (ClassId × FieldType)} {w : va_W} {sz : Nat} {av : List Value} : FrameBlind (zPh D cl tys w sz av) := fun a U g mk q => by
  obtain ⟨q0, q1, qP, qK, qD, qT⟩ := q
  exact ⟨q0, q1, qP, va_K.moved (u := U) (U := U.calling g mk a) (Vm.Alike.refl U.vm) qK, qD, zTh.same (s := U) (U := U.calling g mk a) rfl rfl qT⟩
section ZH
variable {p : Program} {l : Launch} {e : Env} {R : Room} {s : State} {m : MethodId} {args : Array Value} {below : List Frame} {meth : Method} {c : Code} {H : Heap} {locs : List Loc} {cells slots : Nat} {Q : State → Prop}
variable {cc bytes : ByteArray} {pc nL maxL n index : Nat} {ls : Array Slot} {rest st0 As : List Value} {D : va_G} {cl : List vw_C} {A : Nat → Prop} {a b : Nat} {tys tys' : List (ClassId × FieldType)} {w w' wc wr w1 : va_W} {H0 : Heap} {own C : String} {y : MethodName} {ret : Option FieldType} {Wd : List Cond} {rm : Room} {rv : Int32} {hs : List (Nat × Nat × Nat × Nat)}
theorem met_h {av : List Value} {sz : Nat} (hy : plainName y.cls = true) (hlen : (lg_sl av).length ≤ maxL)
    (body : ∀ (p : Program) (e : Env) (s : State) (m : MethodId) (args : Array Value) (below : List Frame) (meth : Method) (c : Code) (A : Nat → Prop) (Q : State → Prop) (ls : Array Slot), p.tables.exec = Jvm.exec → c.code = cc → c.maxLocals = maxL → s.vm.findClass y.cls = some m.cls → (∀ w ∈ wd, w.before args s = true) → c.exceptionTable.toList.map (fun h => (h.startPc, h.endPc, h.handlerPc, h.catchType)) = hs → va_K D cl tys s → va_P D cl w s.heap → va_D A w → va_S A s.heap s.heap [] → (∀ q : Nat, s.heap.size ≤ q → A q) → zTh s → lv_has ls maxL (lv_args 0 av) →
      (∀ (H : Heap) (locs : List Loc) (cells slots pc : Nat) (ls : Array Slot), cells ≤ 1 → slots ≤ 6 → va_P D cl w1 H → va_D A w1 → va_S A s.heap H locs → decode cc pc = .ok (.ireturn, 1) → W p l e rm s m args below meth c H locs cells slots Q (F0 m pc ls [.int rv])) →
      W p l e rm s m args below meth c s.heap [] 0 0 Q (F0 m 0 ls [])) :
    zMh l y cc maxL hs rm D cl tys av w w1 sz rv := by
  unfold zMh Met
  refine MetFree.of_bodyS (code := cc) (maxLocals := maxL) (ret := some .int) hy ?_ ?_
  · intro args s m h hn
    obtain ⟨m', meth, c, hn', h1, h2, h3, h4, -, h5, h6, -⟩ := Cond.codeWith_spec (atoms_spec (ws := .codeWith y cc maxL (some .int) hs :: wd) h _ List.mem_cons_self)
    cases hn.symm.trans hn'
    exact ⟨meth, c, h1, h2, h3, h4, h5, h6⟩
  · intro p e s m args below meth c s₁ B hml hv _
    obtain ⟨rfl, hsz, hP, hK, hD0, hz⟩ := hv
    have hts := atoms_spec (ws := .codeWith y cc maxL (some .int) hs :: wd) B.pre
    have hh0 : s₁.heap = s.heap := by rw [B.state]; rfl
    have htab : c.exceptionTable.toList.map (fun h => (h.startPc, h.endPc, h.handlerPc, h.catchType)) = hs := by
      obtain ⟨m', meth', c', hn', h1, h2, h3, h4, h7, h5, h6, -⟩ := Cond.codeWith_spec (hts _ List.mem_cons_self)
      cases B.named.symm.trans hn'
      have X0 := Stand.of_body B
      cases X0.method.symm.trans h1
      cases X0.code.symm.trans h2
      exact h7
    subst hsz
    have hD := hD0.self (sz := s.heap.size)
    have K : W p l e rm s m av.toArray below meth c s.heap [] 0 0 (MQ below (zQi D cl tys w w1 s.heap.size rv) av.toArray s 1 6 (va_A w s.heap.size)) (entryFrame m av.toArray maxL) := by
      rw [lg_entry_eq]
      refine body p e s m _ below meth c (va_A w s.heap.size) _ _ B.exec B.bytes hml (findClass_of_methodNamed B.named) (fun w h => hts w (List.mem_cons_of_mem _ h)) htab hK hP hD va_S.rf (fun q h => Or.inr h) hz (lv_entry av hlen) ?_
      intro H locs cells slots pc ls h1 h6 hP1 hD1 hS1 hd
      exact W.widen h1 h6 (W.zret B.exec B.bytes B.returns rfl (fun t ht hW => ⟨⟨rv, (), rfl, rfl, by rw [ht]; exact hP1, va_K.moved hW.alike hK, hD1⟩, hS1.F ht⟩) hS1.2.2 hd B.notSynchronized)
    obtain ⟨t, a1, o, b1, b2, b3⟩ := K s₁ hh0 (Stand.of_body B)
    exact ⟨t, o, a1, b1, b2, ⟨b3.1, b3.2⟩⟩
theorem tab_cons {h : Nat × Nat × Nat × Nat} (ht : c.exceptionTable.toList.map (fun h => (h.startPc, h.endPc, h.handlerPc, h.catchType)) = h :: hs) : ∃ x rest, c.exceptionTable.toList = x :: rest ∧ x.startPc = h.1 ∧ x.endPc = h.2.1 ∧ x.handlerPc = h.2.2.1 ∧ x.catchType = h.2.2.2 ∧ rest.map (fun h => (h.startPc, h.endPc, h.handlerPc, h.catchType)) = hs := by
  cases hc : c.exceptionTable.toList with
  | nil => rw [hc] at ht; cases ht
  | cons x rest =>
    rw [hc, List.map_cons] at ht
    obtain ⟨h1, h2⟩ := List.cons.inj ht
    subst h1
    exact ⟨x, rest, rfl, rfl, rfl, rfl, rfl, h2⟩
theorem va_S.grow {H1 : Heap} (hS : va_S A H0 H locs) (h1 : H.size ≤ H1.size) (hk : ∀ (q : Nat) (cell : Cell), H[q]? = some cell → H1[q]? = some cell) : va_S A H0 H1 locs := by
  obtain ⟨g1, g2, g3⟩ := hS
  refine ⟨Nat.le_trans g1 h1, fun q hq hA => ?_, g3⟩
  have hlt : q < H.size := Nat.lt_of_lt_of_le hq g1
  rw [← g2 q hq hA, hk q _ (Array.getElem?_eq_getElem hlt), Array.getElem?_eq_getElem hlt]
theorem va_P.grow {H1 : Heap} (hP : va_P D cl w H) (hk : ∀ (q : Nat) (cell : Cell), H[q]? = some cell → H1[q]? = some cell) : va_P D cl w H1 := fun k q hq => by
  have hlt := (hP k q hq).lt
  exact (hP k q hq).kept (by rw [hk q.1 _ (Array.getElem?_eq_getElem hlt), Array.getElem?_eq_getElem hlt])
/-- caught by the first entry -/
theorem zz_cT1 {X : String} {sp ep hp ct : Nat} {hs' : List (Nat × Nat × Nat × Nat)} (S : CallFix p m c cc nL s args wd own) (hM : zMt l y (.code y bytes maxL ret :: wd) rm D cl tys' (.ref b :: As) wc H.size X) (hG : GoodIn wd (wsV own index C y (.code y bytes maxL ret :: wd))) (hd : y.cls = C ∧ y.cls ≠ "java/lang/invoke/MethodHandle" ∧ y.cls ≠ "java/lang/invoke/VarHandle" ∧ (parseMethodDescriptor y.desc).map (fun d => d.parameters.length) = some n) (hR : (rm.cells = 1 ∧ rm.slots = 6) ∧ rm.frames + 1 ≤ R.frames ∧ 8 + (maxL + 11) + rm.locals ≤ R.locals)
    (hK : va_K D cl tys s) (isK : List Nat) (hKs : isK.filterMap (fun i => tys[i]?) = tys') (hP : va_P D cl w H) (hS : va_S A H0 H locs) (isC : List Nat) (hC : isC.map (fun i => w[i]?) = wc.map some) (hz : zTh s) (hHs : H = s.heap)
    (q0 ci : Nat) {T0 : u_T} {N : Nat} {fs : List Value} (hcl : cl[ci]? = some (C, T0, N)) (he : w[q0]? = some (b, .inr (ci, fs))) (hst : st0 = As.reverse ++ .ref b :: rest) (hn : As.length = n) (hsize : ls.size = nL) (hroom : (rest.map fun v => v.category).sum ≤ 8) (hdg : decode cc pc = .ok (.invokevirtual index, 3)) (hf : cells + 1 ≤ R.cells ∧ slots + 6 ≤ R.slots)
    (htab : c.exceptionTable.toList.map (fun h => (h.startPc, h.endPc, h.handlerPc, h.catchType)) = (sp, ep, hp, ct) :: hs') (hcov : sp ≤ pc ∧ pc < ep) (hct : ct ≠ 0) (hlink : Cond.classLink own ct X ∈ wd) (hcast : Cond.castable X X ∈ lw_tbl)
    (kk : ∀ (H1 : Heap) (a : Nat), va_P D cl w H1 → va_S A H0 H1 locs → W p l e R s m args below meth c H1 locs (cells + 1) (slots + 6) Q (F0 m hp ls [.ref a])) : W p l e R s m args below meth c H locs cells slots Q (F0 m pc ls st0) := by
  intro T hT X0
  obtain ⟨T', a, ce, X', hsz, hold, hce, hcv, hcc, st⟩ := zz_cTc (R := R) S hM hG hd hR hK isK hKs hP isC hC (fun U hU hW => hz.move hW (fun q cell h => by rw [hU, hHs]; exact h)) q0 ci hcl he hst hn hsize hroom hdg hf hT X0
  obtain ⟨x, rs, e1, e2, e3, e4, e5, -⟩ := tab_cons htab
  obtain ⟨c3, c4, g3, g4, g5⟩ := Cond.castable_spec (hz.1 _ hcast rfl)
  cases g3.symm.trans hcc
  cases g4.symm.trans hcc
  obtain ⟨vm', X2, st2⟩ := zf_first X' a (g := F0 m pc ls rest) rfl S.2.2.2.1 x rs e1 (by simp [covers, e2, e3, hcov.1, hcov.2]) (by rw [e5]; exact hct) (by rw [e5]; exact S.2.2.2.2 _ hlink) hcc hce (by rw [hcv]; rfl) g5
  rw [e4] at st2
  obtain ⟨t, k1, k2⟩ := kk T'.heap a (hP.grow hold) (hS.grow hsz hold) (T'.setVm vm') rfl X2
  exact ⟨t, st t (st2 t k1), k2⟩
/-- caught by the second -/
theorem zz_cT2 {sp ep hp ct sp1 ep1 hp1 ct1 : Nat} {hs' : List (Nat × Nat × Nat × Nat)} (S : CallFix p m c cc nL s args wd own) (hM : zMt l y (.code y bytes maxL ret :: wd) rm D cl tys' (.ref b :: As) wc H.size nISE) (hG : GoodIn wd (wsV own index C y (.code y bytes maxL ret :: wd))) (hd : y.cls = C ∧ y.cls ≠ "java/lang/invoke/MethodHandle" ∧ y.cls ≠ "java/lang/invoke/VarHandle" ∧ (parseMethodDescriptor y.desc).map (fun d => d.parameters.length) = some n) (hR : (rm.cells = 1 ∧ rm.slots = 6) ∧ rm.frames + 1 ≤ R.frames ∧ 8 + (maxL + 11) + rm.locals ≤ R.locals)
    (hK : va_K D cl tys s) (isK : List Nat) (hKs : isK.filterMap (fun i => tys[i]?) = tys') (hP : va_P D cl w H) (hS : va_S A H0 H locs) (isC : List Nat) (hC : isC.map (fun i => w[i]?) = wc.map some) (hz : zTh s) (hHs : H = s.heap)
    (q0 ci : Nat) {T0 : u_T} {N : Nat} {fs : List Value} (hcl : cl[ci]? = some (C, T0, N)) (he : w[q0]? = some (b, .inr (ci, fs))) (hst : st0 = As.reverse ++ .ref b :: rest) (hn : As.length = n) (hsize : ls.size = nL) (hroom : (rest.map fun v => v.category).sum ≤ 8) (hdg : decode cc pc = .ok (.invokevirtual index, 3)) (hf : cells + 1 ≤ R.cells ∧ slots + 6 ≤ R.slots)
    (htab : c.exceptionTable.toList.map (fun h => (h.startPc, h.endPc, h.handlerPc, h.catchType)) = (sp1, ep1, hp1, ct1) :: (sp, ep, hp, ct) :: hs') (hcov1 : sp1 ≤ pc ∧ pc < ep1) (hct1 : ct1 ≠ 0) (hlink1 : Cond.classLink own ct1 nIAE ∈ wd) (hcast1 : Cond.castable nIAE nIAE ∈ lw_tbl) (hcov : sp ≤ pc ∧ pc < ep) (hct : ct ≠ 0) (hlink : Cond.classLink own ct nISE ∈ wd) (hcast : Cond.castable nISE nISE ∈ lw_tbl)
    (kk : ∀ (H1 : Heap) (a : Nat), va_P D cl w H1 → va_S A H0 H1 locs → W p l e R s m args below meth c H1 locs (cells + 1) (slots + 6) Q (F0 m hp ls [.ref a])) : W p l e R s m args below meth c H locs cells slots Q (F0 m pc ls st0) := by
  intro T hT X0
  obtain ⟨T', a, ce, X', hsz, hold, hce, hcv, hcc, st⟩ := zz_cTc (R := R) S hM hG hd hR hK isK hKs hP isC hC (fun U hU hW => hz.move hW (fun q cell h => by rw [hU, hHs]; exact h)) q0 ci hcl he hst hn hsize hroom hdg hf hT X0
  obtain ⟨x1, rs1, e11, e12, e13, e14, e15, ht2⟩ := tab_cons htab
  have hx2 : ∃ x rs, rs1 = x :: rs ∧ x.startPc = sp ∧ x.endPc = ep ∧ x.handlerPc = hp ∧ x.catchType = ct := by
    cases rs1 with
    | nil => cases ht2
    | cons x rs =>
      rw [List.map_cons] at ht2
      obtain ⟨h1, -⟩ := List.cons.inj ht2
      cases h1
      exact ⟨x, rs, rfl, rfl, rfl, rfl, rfl⟩
  obtain ⟨x, rs, rfl, e2, e3, e4, e5⟩ := hx2
  obtain ⟨c3, c4, g3, g4, g5⟩ := Cond.castable_spec (hz.1 _ hcast rfl)
  cases g3.symm.trans hcc
  cases g4.symm.trans hcc
  obtain ⟨c5, c6, g6, -, -⟩ := Cond.castable_spec (hz.1 _ hcast1 rfl)
  have hno : s.vm.assignable ce.cls c5 = false := by
    cases hq : s.vm.assignable ce.cls c5 with
    | false => rfl
    | true =>
      exfalso
      have : (Cond.castable nISE nIAE).before #[] s = true := by simp [Cond.before, Cond.holds, Cond.value, g3, g6, hq]
      rw [hz.2.2.2.2] at this
      cases this
  obtain ⟨vm', X2, st2⟩ := zf_second X' a (g := F0 m pc ls rest) rfl S.2.2.2.1 x1 x rs e11 (by simp [covers, e12, e13, hcov1.1, hcov1.2]) (by rw [e15]; exact hct1) (by simp [covers, e2, e3, hcov.1, hcov.2]) (by rw [e5]; exact hct) (by rw [e15]; exact S.2.2.2.2 _ hlink1) (by rw [e5]; exact S.2.2.2.2 _ hlink) g6 hcc hce (by rw [hcv]; rfl) hno g5
  rw [e4] at st2
  obtain ⟨t, k1, k2⟩ := kk T'.heap a (hP.grow hold) (hS.grow hsz hold) (T'.setVm vm') rfl X2
  exact ⟨t, st t (st2 t k1), k2⟩
/-- a static call of a method with handlers -/
theorem zz_runH (S : CallFix p m c cc nL s args wd own) (hM : zMh l y bytes maxL hs rm D cl tys' As wc w1 H.size rv) (hL : Cond.methodLink own index y ∈ wd) (hSt : Cond.static y ∈ wd) (hI : Cond.initialized y.cls ∈ wd) (hCd : Cond.codeWith y bytes maxL (some .int) hs ∈ wd) (hd : y.cls ≠ "java/lang/invoke/MethodHandle" ∧ y.cls ≠ "java/lang/invoke/VarHandle" ∧ (parseMethodDescriptor y.desc).map (fun d => d.parameters.length) = some n) (hR : (rm.cells = 1 ∧ rm.slots = 6) ∧ rm.frames + 1 ≤ R.frames ∧ 8 + (maxL + 11) + rm.locals ≤ R.locals)
    (hpre : ∀ U : State, U.heap = H → s.WarmedH U.vm → zPh D cl tys' wc H.size As As.toArray U) (hst : st0 = As.reverse ++ rest) (hn : As.length = n) (hsize : ls.size = nL) (hroom : (rest.map fun v => v.category).sum ≤ 8) (hdg : decode cc pc = .ok (.invokestatic index, 3)) (hf : cells + 1 ≤ R.cells ∧ slots + 6 ≤ R.slots) :
    va_Run p l e R s m args below meth c H locs cells slots 1 6 (F0 m pc ls st0) rest (zQi D cl tys' wc w1 H.size rv As.toArray) (va_A wc H.size) := by
  obtain ⟨hx, hb, hml, ho, hts⟩ := S
  have ok : ∀ w ∈ wd, ∀ (a' : Array Value) (U : State), s.WarmedH U.vm → w.before a' U = true := fun w hw a' U hW => word_at hW (good_of_word (List.all_eq_true.mp wd_good w hw)) (hts w hw)
  have hBk : Back l R p e below s args y 3 8 (PreOf R 1 6 (zPh D cl tys' wc H.size As)) (PostOf (zQi D cl tys' wc w1 H.size rv) 1 6 (va_A wc H.size)) := by
    refine Back.of_freeWith (S := headSpec (.codeWith y bytes maxL (some .int) hs :: wd) rm) (P := zPh D cl tys' wc H.size As) (K := fun _ _ _ _ _ => True) (Q := fun a st o t => zQi D cl tys' wc w1 H.size rv a st o t ∧ ∃ L, FrameEnd st o t L 1 6 ∧ ∀ q ∈ L, va_A wc H.size q.base) (bytes := bytes) (maxL := maxL) (ret := some .int) (handlers := hs)
      (E := fun a st o t L k n => k = 1 ∧ n = 6 ∧ ∀ q ∈ L, va_A wc H.size q.base) hM hR.2.1 hR.2.2 ?_ ?_ (fun _ _ _ _ _ _ _ _ _ => trivial) ?_ ?_
    · intro m meth c A a X hp
      exact ⟨atoms_intro fun w hw => by
        rcases List.mem_cons.mp hw with rfl | h
        · exact ok _ hCd _ _ X.warmed
        · exact ok _ h _ _ X.warmed, ok _ hCd _ _ X.warmed, ok _ hI _ _ X.warmed, by rw [show (headSpec (.codeWith y bytes maxL (some .int) hs :: wd) rm).room.cells = 1 from hR.1.1]; exact hp.1, by rw [show (headSpec (.codeWith y bytes maxL (some .int) hs :: wd) rm).room.slots = 6 from hR.1.2]; exact hp.2.1⟩
    · intro m meth c A a g mk X hp
      exact zPh_blind _ _ _ _ hp.2.2
    · intro a st o t ⟨hq, L, hF, hL⟩
      exact ⟨L, 1, 6, hF, rfl, rfl, hL⟩
    · intro m meth c A a g mk v t L k n X hp hq hF ⟨e1, e2, hL⟩
      subst e1; subst e2
      exact ⟨g, mk, t, L, rfl, rfl, hq.1, rfl, hL, rfl, rfl⟩
  intro T hT X
  obtain ⟨mk, methM, cM, hnamed, hmethM, -, -, -, -, -, -, hsigM⟩ := Cond.codeWith_spec (hts _ hCd)
  have hstatic : methM.isStatic = true := Cond.static_spec hnamed hmethM (hts _ hSt)
  obtain ⟨kP, hkP, -⟩ := className_of_methodNamed hnamed
  have hinitP : kP.init = .initialized := Cond.initialized_spec (findClass_of_methodNamed hnamed) hkP (hts _ hI)
  have hlen : As.length = methM.sig.parameters.length := by
    have h2 := hd.2.2
    rw [hsigM] at h2
    exact hn.trans (Option.some.inj h2).symm
  obtain ⟨vm₁, X₁, hstep₁⟩ := X.invokestatic hx ho (hts _ hL) hnamed hmethM hstatic hkP hinitP ⟨hd.1, hd.2.1⟩ (g := F0 m pc ls st0) rfl (argsL := As) (rest := rest) hlen hst (by rw [hb]; exact hdg)
  obtain ⟨v, ⟨U', l2, c2, s2⟩, X', ⟨g', mk', t, L, e1, e2, hq, h1, hL', h2, h3⟩, hsteps⟩ := hBk m meth c ⟨T.setVm vm₁, locs, cells, slots⟩ (F0 m pc ls rest) (.invokestatic index) mk As.toArray X₁ rfl (hsize.trans hml.symm) (by rw [hb]; exact hdg) (lv_room hroom) (X₁.named hnamed) ⟨hf.1, hf.2, hpre (T.setVm vm₁) hT X₁.warmed⟩
  dsimp only [Pt.U, Pt.locs, Pt.cells, Pt.slots] at X' e1 e2 h1 h2 h3 hsteps
  subst h1; subst h2; subst h3
  exact ⟨v, (T.setVm vm₁).calling g' mk' As.toArray, t, U', L, hT, X', hL', e1, e2, hq, fun target h => hstep₁ _ fun acts => by rw [doInvoke_state]; exact hsteps.trans h⟩
theorem zz_cH (S : CallFix p m c cc nL s args wd own) (hM : zMh l y bytes maxL hs rm D cl tys' As wc w1 H.size rv) (hL : Cond.methodLink own index y ∈ wd) (hSt : Cond.static y ∈ wd) (hI : Cond.initialized y.cls ∈ wd) (hCd : Cond.codeWith y bytes maxL (some .int) hs ∈ wd) (hd : y.cls ≠ "java/lang/invoke/MethodHandle" ∧ y.cls ≠ "java/lang/invoke/VarHandle" ∧ (parseMethodDescriptor y.desc).map (fun d => d.parameters.length) = some n) (hR : (rm.cells = 1 ∧ rm.slots = 6) ∧ rm.frames + 1 ≤ R.frames ∧ 8 + (maxL + 11) + rm.locals ≤ R.locals)
    (hK : va_K D cl tys s) (isK : List Nat) (hKs : isK.filterMap (fun i => tys[i]?) = tys') (hP : va_P D cl w H) (hD : va_D A w) (hS : va_S A H0 H locs) (hA : ∀ q, H0.size ≤ q → A q) (hth : ∀ U : State, U.heap = H → s.WarmedH U.vm → zTh U) (isC isR isW : List Nat) (hC : isC.map (fun i => w[i]?) = wc.map some) (hnC : va_nd isC = true) (hR2 : isR.map (fun i => w[i]?) = wr.map some) (hnR : va_nd isR = true) (hdis : ∀ i ∈ isR, i ∉ isC) (hWs : isW.map (fun i => (wr ++ w1)[i]?) = w'.map some) (hnW : va_nd isW = true)
    (hst : st0 = As.reverse ++ rest) (hn : As.length = n) (hsize : ls.size = nL) (hroom : (rest.map fun v => v.category).sum ≤ 8) (hdg : decode cc pc = .ok (.invokestatic index, 3)) (hf : cells + 1 ≤ R.cells ∧ slots + 6 ≤ R.slots)
    (kk : ∀ (H1 : Heap) (locs1 : List Loc), va_P D cl w' H1 → va_D A w' → va_S A H0 H1 locs1 → W p l e R s m args below meth c H1 locs1 (cells + 1) (slots + 6) Q (F0 m (pc + 3) ls (.int rv :: rest))) : W p l e R s m args below meth c H locs cells slots Q (F0 m pc ls st0) := by
  have hFc := va_free (wc := wc) hD hS hA isC hC
  refine va_calli (zz_runH (As := As) (rest := rest) S hM hL hSt hI hCd hd hR (fun U hU hW => ⟨rfl, by rw [hU], by rw [hU]; exact hP.sub isC (zz_map hC), va_K.moved hW.alike (hK.sub isK hKs), (hD.sub isC hnC hC).weaken (fun _ _ _ _ => trivial), hth U hU hW⟩) hst hn hsize hroom hdg hf) hS (fun q _ h => hFc q h) hFc (fun v u t H1 locs1 ht hvm hv hB hz1 hk1 hS1 => ?_)
  subst hv
  obtain ⟨hP1, hK1, hD1⟩ := hB
  rw [ht] at hP1
  obtain ⟨hP2, hD2⟩ := va_join hP hD isC isR hC hR2 hnR hdis hk1 hFc hP1 hD1
  exact kk H1 locs1 (hP2.sub isW (zz_map hWs)) (hD2.sub isW hnW hWs) hS1
end ZH
