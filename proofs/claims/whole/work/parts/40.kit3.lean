/-! constructors: arrays, objects, final fields, calls of constructors -/
abbrev zQn (D : va_G) (cl : List vw_C) (tys : List (ClassId × FieldType)) (w : va_W) (sz : Nat) (w1 : (Nat → Nat) → va_W) : Array Value → State → Outcome → State → Prop := va_Qv (fun (_ : Nat → Nat) => True) (fun q t => va_P D cl (w1 q) t.heap ∧ va_K D cl tys t ∧ va_D (va_A w sz) (w1 q)) (va_A w sz)
abbrev zMn (l : Launch) (y : MethodName) (ws : List Cond) (rm : Room) (D : va_G) (cl : List vw_C) (tys : List (ClassId × FieldType)) (av : List Value) (w : va_W) (w1 : (Nat → Nat) → va_W) (sz mc ms : Nat) : Prop := Met l y ws rm (zP D cl tys w sz av) (zQn D cl tys w sz w1) mc ms (va_A w sz)
theorem met_n {l : Launch} {y : MethodName} {cc : ByteArray} {maxL : Nat} {rm : Room} {D : va_G} {cl : List vw_C} {tys : List (ClassId × FieldType)} {av : List Value} {w : va_W} {w1 : (Nat → Nat) → va_W} {sz mc ms : Nat} {Wd : List Cond}
    (hy : plainName y.cls = true) (hlen : (lg_sl av).length ≤ maxL)
    (body : ∀ (p : Program) (e : Env) (s : State) (m : MethodId) (args : Array Value) (below : List Frame) (meth : Method) (c : Code) (A : Nat → Prop) (Q : State → Prop) (ls : Array Slot), p.tables.exec = Jvm.exec → c.code = cc → c.maxLocals = maxL → s.vm.findClass y.cls = some m.cls → meth.name = y.name → (∀ w ∈ Wd, w.before args s = true) → va_K D cl tys s → va_P D cl w s.heap → va_D A w → va_S A s.heap s.heap [] → (∀ q : Nat, s.heap.size ≤ q → A q) → lv_has ls maxL (lv_args 0 av) →
      (∀ (q : Nat → Nat) (H : Heap) (locs : List Loc) (pc : Nat) (ls : Array Slot), va_P D cl (w1 q) H → va_D A (w1 q) → va_S A s.heap H locs → decode cc pc = .ok (.return_, 1) → W p l e rm s m args below meth c H locs mc ms Q (F0 m pc ls [])) →
      W p l e rm s m args below meth c s.heap [] 0 0 Q (F0 m 0 ls [])) :
    zMn l y (.code y cc maxL none :: Wd) rm D cl tys av w w1 sz mc ms := by
  refine Met.ofW (cc := cc) (maxL := maxL) (ret := none) hy rfl ?_
  intro p e s m args below meth c s₁ B hml hv
  obtain ⟨rfl, hsz, hP, hK, hD0⟩ := hv
  have hts := atoms_spec (ws := .code y cc maxL none :: Wd) B.pre
  subst hsz
  have hD := hD0.self (sz := s.heap.size)
  rw [lg_entry_eq]
  refine body p e s m _ below meth c (va_A w s.heap.size) _ _ B.exec B.bytes hml (findClass_of_methodNamed B.named) (name_of_methodNamed B.named B.method).1 (fun w h => hts w (List.mem_cons_of_mem _ h)) hK hP hD va_S.rf (fun q h => Or.inr h) (lv_entry av hlen) ?_
  intro q H locs pc ls hP1 hD1 hS1 hd
  exact W.vret B.exec B.bytes B.returns (fun t ht hW => ⟨⟨q, rfl, trivial, by rw [ht]; exact hP1, va_K.moved hW.alike hK, hD1⟩, hS1.F ht⟩) hS1.2.2 hd B.notSynchronized
abbrev zPN (D : va_G) (cl : List vw_C) (tys : List (ClassId × FieldType)) (w : va_W) (sz : Nat) (av : List Value) (Nw : Cond) : Array Value → State → Prop := va_Pc av (fun U => U.heap.size = sz ∧ va_P D cl w U.heap ∧ va_K D cl tys U ∧ va_D (fun _ => True) w ∧ va_Nw Nw U)
abbrev zMnN (l : Launch) (y : MethodName) (ws : List Cond) (rm : Room) (D : va_G) (cl : List vw_C) (tys : List (ClassId × FieldType)) (av : List Value) (w : va_W) (w1 : (Nat → Nat) → va_W) (sz mc ms : Nat) (Nw : Cond) : Prop := Met l y ws rm (zPN D cl tys w sz av Nw) (zQn D cl tys w sz w1) mc ms (va_A w sz)
theorem zPN_blind {D : va_G} {cl : List vw_C} {tys : List (ClassId × FieldType)} {w : va_W} {sz : Nat} {av : List Value} {Nw : Cond} (hN : Nw.onTables = true) : FrameBlind (zPN D cl tys w sz av Nw) := fun a U g mk q => by
  obtain ⟨q0, q1, qP, qK, qD, qN⟩ := q
  exact ⟨q0, q1, qP, va_K.moved (u := U) (U := U.calling g mk a) (Vm.Alike.refl U.vm) qK, qD, va_Nw.same (u := U) (U := U.calling g mk a) hN rfl qN⟩
theorem met_nN {l : Launch} {y : MethodName} {cc : ByteArray} {maxL : Nat} {rm : Room} {D : va_G} {cl : List vw_C} {tys : List (ClassId × FieldType)} {av : List Value} {w : va_W} {w1 : (Nat → Nat) → va_W} {sz mc ms : Nat} {Wd : List Cond} {Nw : Cond}
    (hy : plainName y.cls = true) (hlen : (lg_sl av).length ≤ maxL)
    (body : ∀ (p : Program) (e : Env) (s : State) (m : MethodId) (args : Array Value) (below : List Frame) (meth : Method) (c : Code) (A : Nat → Prop) (Q : State → Prop) (ls : Array Slot), p.tables.exec = Jvm.exec → c.code = cc → c.maxLocals = maxL → s.vm.findClass y.cls = some m.cls → meth.name = y.name → (∀ w ∈ Wd, w.before args s = true) → va_Nw Nw s → va_K D cl tys s → va_P D cl w s.heap → va_D A w → va_S A s.heap s.heap [] → (∀ q : Nat, s.heap.size ≤ q → A q) → lv_has ls maxL (lv_args 0 av) →
      (∀ (q : Nat → Nat) (H : Heap) (locs : List Loc) (pc : Nat) (ls : Array Slot), va_P D cl (w1 q) H → va_D A (w1 q) → va_S A s.heap H locs → decode cc pc = .ok (.return_, 1) → W p l e rm s m args below meth c H locs mc ms Q (F0 m pc ls [])) →
      W p l e rm s m args below meth c s.heap [] 0 0 Q (F0 m 0 ls [])) :
    zMnN l y (.code y cc maxL none :: Wd) rm D cl tys av w w1 sz mc ms Nw := by
  refine Met.ofW (cc := cc) (maxL := maxL) (ret := none) hy rfl ?_
  intro p e s m args below meth c s₁ B hml hv
  obtain ⟨rfl, hsz, hP, hK, hD0, hNw⟩ := hv
  have hts := atoms_spec (ws := .code y cc maxL none :: Wd) B.pre
  subst hsz
  have hD := hD0.self (sz := s.heap.size)
  rw [lg_entry_eq]
  refine body p e s m _ below meth c (va_A w s.heap.size) _ _ B.exec B.bytes hml (findClass_of_methodNamed B.named) (name_of_methodNamed B.named B.method).1 (fun w h => hts w (List.mem_cons_of_mem _ h)) hNw hK hP hD va_S.rf (fun q h => Or.inr h) (lv_entry av hlen) ?_
  intro q H locs pc ls hP1 hD1 hS1 hd
  exact W.vret B.exec B.bytes B.returns (fun t ht hW => ⟨⟨q, rfl, trivial, by rw [ht]; exact hP1, va_K.moved hW.alike hK, hD1⟩, hS1.F ht⟩) hS1.2.2 hd B.notSynchronized
theorem zz_goodI {Wd : List Cond} (hg : Wd.all goodWord = true) {y : MethodName} {cc : ByteArray} {maxL : Nat} {ret : Option FieldType} (h5 : Cond.code y cc maxL ret ∈ Wd) : GoodIn Wd (.code y cc maxL ret :: Wd) := by
  intro w hw
  rcases List.mem_cons.mp hw with rfl | h
  · exact ⟨h5, good_of_word (List.all_eq_true.mp hg _ h5)⟩
  · exact ⟨h, good_of_word (List.all_eq_true.mp hg _ h)⟩
section ZI
variable {p : Program} {l : Launch} {e : Env} {R : Room} {s : State} {m : MethodId} {args : Array Value} {below : List Frame} {meth : Method} {c : Code} {H : Heap} {locs : List Loc} {cells slots : Nat} {Q : State → Prop}
variable {cc bytes : ByteArray} {pc nL maxL n index mc ms : Nat} {ls : Array Slot} {rest st0 As : List Value} {D : va_G} {cl : List vw_C} {A : Nat → Prop} {a b : Nat} {tys : List (ClassId × FieldType)} {w w' wc wr : va_W} {w1 : (Nat → Nat) → va_W} {H0 : Heap} {own C host : String} {y : MethodName} {Wd : List Cond} {rm : Room} {cI : ClassId}
theorem zz_cI_eq {cA : ClassId} (h : va_K D cl ([(cI, .int)] ++ [(cA, .int)]) s) : cA = cI := by
  have h1 : s.vm.findClass ("[" ++ (FieldType.int).toString) = some cI := (h.2 0 (cI, .int) rfl).2
  have h2 : s.vm.findClass ("[" ++ (FieldType.int).toString) = some cA := (h.2 1 (cA, .int) rfl).2
  exact Option.some.inj (h2.symm.trans h1)
theorem zz_newI (hexec : p.tables.exec = Jvm.exec) (hb : c.code = cc) (harr : Cond.arrayClass .int ∈ Wd) (hts : ∀ w ∈ Wd, w.before args s = true) (hK : va_K D cl [(cI, .int)] s) (hP : va_P D cl w H) (hD : va_D A w) (hS : va_S A H0 H locs) (hA : ∀ q, H0.size ≤ q → A q)
    {k : Int32} {N : Nat} (hn : ¬ k < 0) (hN : k.toNatClampNeg = N) (hbytes : N * componentBytes .int ≤ 536870912) (hcells : cells + 1 ≤ R.cells) (hslots : slots + N ≤ R.slots) (hdg : decode cc pc = .ok (.newarray .int, 2)) (hw : ∀ q : Nat, w ++ [(q, .inl (cI, N, .inl (fun _ => 0)))] = w ++ [(q, .inl (cI, N, .inl (fun _ => 0)))])
    (kk : ∀ (q : Nat) (H1 : Heap), va_P D cl (w ++ [(q, .inl (cI, N, .inl (fun _ => 0)))]) H1 → va_D A (w ++ [(q, .inl (cI, N, .inl (fun _ => 0)))]) → va_S A H0 H1 locs → W p l e R s m args below meth c H1 locs (cells + 1) (slots + N) Q (F0 m (pc + 2) ls (.ref q :: rest))) : W p l e R s m args below meth c H locs cells slots Q (F0 m pc ls (.int k :: rest)) := by
  refine va_newa (atype := .int) (ty := .int) (a0 := (N, .inl (fun _ => 0))) hexec hb (hts (.arrayClass .int) harr) rfl hK hP hD hS hA (fun _ => rfl) hn hN hbytes hcells hslots hdg (fun q cA H1 hK1 hP1 hD1 hS1 => ?_)
  have e := zz_cI_eq hK1
  subst e
  exact kk q H1 hP1 hD1 hS1
theorem zz_putF (hexec : p.tables.exec = Jvm.exec) (hb : c.code = cc) {T : u_T} {N ci index : Nat} (hts : ∀ w ∈ Wd, w.before args s = true) (hin : ∀ x ∈ u_ws C T N, x ∈ Wd) (ty0 : Nat → FieldType) (hty : ∀ k, k < N → parseFieldDescriptor (T k).2.2.1 = some (ty0 k)) (hnm : ∀ a, a < N → ∀ b, b < N → a ≠ b → (T a).2.1 ≠ (T b).2.1) (hown : s.vm.findClass C = some m.cls) (hnam : meth.name = "<init>") (hK : va_K D cl tys s) (hP : va_P D cl w H) (hD : va_D A w) (hS : va_S A H0 H locs) (q0 : Nat) {fs : List Value} (he : w[q0]? = some (a, .inr (ci, fs))) (hc : cl[ci]? = some (C, T, N)) (k : Nat) (hk : k < N) (hlink : Cond.fieldLink C index (T k).1 (T k).2.1 (T k).2.2.1 ∈ Wd) (hfin : (T k).2.2.2 = true) (hdecl : (T k).1 = C) {v : Value} (hn : narrow (ty0 k) v = v) (hfit : fits (ty0 k) v = true) (hl : k < fs.length) (hdg : decode cc pc = .ok (.putfield index, 3)) (hw : w.set q0 (a, .inr (ci, fs.set k v)) = w')
    (kk : ∀ (H1 : Heap) (locs1 : List Loc), va_P D cl w' H1 → va_D A w' → va_S A H0 H1 locs1 → W p l e R s m args below meth c H1 locs1 cells slots Q (F0 m (pc + 3) ls rest)) : W p l e R s m args below meth c H locs cells slots Q (F0 m pc ls (v :: .ref a :: rest)) := by
  subst hw
  exact va_putF hexec hb hts hin ty0 hty hnm hown hK hP hD hS q0 he hc k hk (hts _ hlink) (fun _ h => h) hfin hnam hdecl (hty k hk) hn hfit hl hdg kk
theorem zz_new (hexec : p.tables.exec = Jvm.exec) (hb : c.code = cc) {T : u_T} {N ci index : Nat} (hts : ∀ w ∈ Wd, w.before args s = true) (hin : ∀ x ∈ u_ws C T N, x ∈ Wd) (ty : Nat → FieldType) (hty : ∀ k, k < N → parseFieldDescriptor (T k).2.2.1 = some (ty k)) (hown : s.vm.findClass own = some m.cls) (hcl : Cond.classLink own index C ∈ Wd) (hinst : Cond.instantiable C N ∈ Wd) (hini : Cond.initialized C ∈ Wd)
    (hK : va_K D cl tys s) (hP : va_P D cl w H) (hD : va_D A w) (hS : va_S A H0 H locs) (hA : ∀ q, H0.size ≤ q → A q) (hc : cl[ci]? = some (C, T, N)) {fs : List Value} (hfs : ∀ j, j < N → defaultValue (ty j) = vp_V fs j) (hcells : cells + 1 ≤ R.cells) (hslots : slots + N ≤ R.slots) (hdg : decode cc pc = .ok (.new index, 3))
    (kk : ∀ (q : Nat) (H1 : Heap), va_P D cl (w ++ [(q, .inr (ci, fs))]) H1 → va_D A (w ++ [(q, .inr (ci, fs))]) → va_S A H0 H1 locs → W p l e R s m args below meth c H1 locs (cells + 1) (slots + N) Q (F0 m (pc + 3) ls (.ref q :: rest))) : W p l e R s m args below meth c H locs cells slots Q (F0 m pc ls rest) :=
  va_new hexec hb hts hin ty hty hown (hts _ hcl) (hts _ hinst) (hts _ hini) hK hP hD hS hA hc hfs hcells hslots hdg kk
/-- invokespecial <init> -/
theorem zz_cIn (S : CallFix p m c cc nL s args Wd own) (hM : zMn l y (.code y bytes maxL none :: Wd) rm D cl tys (.ref b :: As) wc w1 H.size mc ms) (hG : GoodIn Wd (.code y bytes maxL none :: Wd)) (hlk : Cond.methodLink own index y ∈ Wd) (hini : Cond.initialized y.cls ∈ Wd) (hins : Cond.instanceMethod y ∈ Wd) (hy1 : y.name = "<init>") (hd : y.cls ≠ "java/lang/invoke/MethodHandle" ∧ y.cls ≠ "java/lang/invoke/VarHandle" ∧ (parseMethodDescriptor y.desc).map (fun d => d.parameters.length) = some n) (hR : (rm.cells = mc ∧ rm.slots = ms) ∧ rm.frames + 1 ≤ R.frames ∧ 8 + (maxL + 11) + rm.locals ≤ R.locals)
    (hK : va_K D cl tys s) (hP : va_P D cl w H) (hD : va_D A w) (hS : va_S A H0 H locs) (hA : ∀ q, H0.size ≤ q → A q) (isC isR : List Nat) (hC : isC.map (fun i => w[i]?) = wc.map some) (hnC : va_nd isC = true) (hR2 : isR.map (fun i => w[i]?) = wr.map some) (hnR : va_nd isR = true) (hdis : ∀ i ∈ isR, i ∉ isC)
    (hst : st0 = As.reverse ++ .ref b :: rest) (hn : As.length = n) (hsize : ls.size = nL) (hroom : (rest.map fun v => v.category).sum ≤ 8) (hdg : decode cc pc = .ok (.invokespecial index, 3)) (hf : cells + mc ≤ R.cells ∧ slots + ms ≤ R.slots)
    (kk : ∀ (q : Nat → Nat) (H1 : Heap) (locs1 : List Loc), va_P D cl (wr ++ w1 q) H1 → va_D A (wr ++ w1 q) → va_S A H0 H1 locs1 → W p l e R s m args below meth c H1 locs1 (cells + mc) (slots + ms) Q (F0 m (pc + 3) ls rest)) : W p l e R s m args below meth c H locs cells slots Q (F0 m pc ls st0) := by
  have hFc := va_free (wc := wc) hD hS hA isC hC
  refine va_callv (va_runI (As := As) (rest := rest) S hM (cwI n S.2.2.2.2 hG rfl hR.1.1 hR.1.2 (S.2.2.2.2 _ hini) (S.2.2.2.2 _ hlk) (S.2.2.2.2 _ hins) hy1 hd hR.2) ⟨zP_blind, fun U hU hW => ⟨rfl, by rw [hU], by rw [hU]; exact hP.sub isC (zz_map hC), va_K.moved hW.alike hK, (hD.sub isC hnC hC).weaken (fun _ _ _ _ => trivial)⟩⟩ rfl hn hsize hst (lv_room hroom) hdg hf) hS (fun q _ h => hFc q h) hFc (fun u t H1 locs1 ht hvm hv hB hz1 hk1 hS1 => ?_)
  obtain ⟨hP1, hK1, hD1⟩ := hB
  rw [ht] at hP1
  obtain ⟨hP2, hD2⟩ := va_join hP hD isC isR hC hR2 hnR hdis hk1 hFc hP1 hD1
  exact kk u H1 locs1 hP2 hD2 hS1
/-- invokespecial <init> of a constructor that calls a nest mate's -/
theorem zz_cInW {a' : String} {i' : Nat} {x' : MethodName} {h' : String} (S : CallFix p m c cc nL s args Wd own) (hM : zMnN l y (.code y bytes maxL none :: Wd) rm D cl tys (.ref b :: As) wc w1 H.size mc ms (.methodLinkNest a' i' x' h')) (hNw : va_Nw (.methodLinkNest a' i' x' h') s) (hG : GoodIn Wd (.code y bytes maxL none :: Wd)) (hlk : Cond.methodLink own index y ∈ Wd) (hini : Cond.initialized y.cls ∈ Wd) (hins : Cond.instanceMethod y ∈ Wd) (hy1 : y.name = "<init>") (hd : y.cls ≠ "java/lang/invoke/MethodHandle" ∧ y.cls ≠ "java/lang/invoke/VarHandle" ∧ (parseMethodDescriptor y.desc).map (fun d => d.parameters.length) = some n) (hR : (rm.cells = mc ∧ rm.slots = ms) ∧ rm.frames + 1 ≤ R.frames ∧ 8 + (maxL + 11) + rm.locals ≤ R.locals)
    (hK : va_K D cl tys s) (hP : va_P D cl w H) (hD : va_D A w) (hS : va_S A H0 H locs) (hA : ∀ q, H0.size ≤ q → A q) (isC isR : List Nat) (hC : isC.map (fun i => w[i]?) = wc.map some) (hnC : va_nd isC = true) (hR2 : isR.map (fun i => w[i]?) = wr.map some) (hnR : va_nd isR = true) (hdis : ∀ i ∈ isR, i ∉ isC)
    (hst : st0 = As.reverse ++ .ref b :: rest) (hn : As.length = n) (hsize : ls.size = nL) (hroom : (rest.map fun v => v.category).sum ≤ 8) (hdg : decode cc pc = .ok (.invokespecial index, 3)) (hf : cells + mc ≤ R.cells ∧ slots + ms ≤ R.slots)
    (kk : ∀ (q : Nat → Nat) (H1 : Heap) (locs1 : List Loc), va_P D cl (wr ++ w1 q) H1 → va_D A (wr ++ w1 q) → va_S A H0 H1 locs1 → W p l e R s m args below meth c H1 locs1 (cells + mc) (slots + ms) Q (F0 m (pc + 3) ls rest)) : W p l e R s m args below meth c H locs cells slots Q (F0 m pc ls st0) := by
  have hFc := va_free (wc := wc) hD hS hA isC hC
  refine va_callv (va_runI (As := As) (rest := rest) S hM (cwI n S.2.2.2.2 hG rfl hR.1.1 hR.1.2 (S.2.2.2.2 _ hini) (S.2.2.2.2 _ hlk) (S.2.2.2.2 _ hins) hy1 hd hR.2) ⟨zPN_blind rfl, fun U hU hW => ⟨rfl, by rw [hU], by rw [hU]; exact hP.sub isC (zz_map hC), va_K.moved hW.alike hK, (hD.sub isC hnC hC).weaken (fun _ _ _ _ => trivial), va_Nw.warmM hW hNw⟩⟩ rfl hn hsize hst (lv_room hroom) hdg hf) hS (fun q _ h => hFc q h) hFc (fun u t H1 locs1 ht hvm hv hB hz1 hk1 hS1 => ?_)
  obtain ⟨hP1, hK1, hD1⟩ := hB
  rw [ht] at hP1
  obtain ⟨hP2, hD2⟩ := va_join hP hD isC isR hC hR2 hnR hdis hk1 hFc hP1 hD1
  exact kk u H1 locs1 hP2 hD2 hS1
/-- the same, of a nest mate's private constructor -/
theorem zz_cInN (S : CallFix p m c cc nL s args Wd own) (hM : zMn l y (.code y bytes maxL none :: Wd) rm D cl tys (.ref b :: As) wc w1 H.size mc ms) (hG : GoodIn Wd (.code y bytes maxL none :: Wd)) (hlk : va_Nw (.methodLinkNest own index y host) s) (hini : Cond.initialized y.cls ∈ Wd) (hins : Cond.instanceMethod y ∈ Wd) (hy1 : y.name = "<init>") (hd : y.cls ≠ "java/lang/invoke/MethodHandle" ∧ y.cls ≠ "java/lang/invoke/VarHandle" ∧ (parseMethodDescriptor y.desc).map (fun d => d.parameters.length) = some n) (hR : (rm.cells = mc ∧ rm.slots = ms) ∧ rm.frames + 1 ≤ R.frames ∧ 8 + (maxL + 11) + rm.locals ≤ R.locals)
    (hK : va_K D cl tys s) (hP : va_P D cl w H) (hD : va_D A w) (hS : va_S A H0 H locs) (hA : ∀ q, H0.size ≤ q → A q) (isC isR : List Nat) (hC : isC.map (fun i => w[i]?) = wc.map some) (hnC : va_nd isC = true) (hR2 : isR.map (fun i => w[i]?) = wr.map some) (hnR : va_nd isR = true) (hdis : ∀ i ∈ isR, i ∉ isC)
    (hst : st0 = As.reverse ++ .ref b :: rest) (hn : As.length = n) (hsize : ls.size = nL) (hroom : (rest.map fun v => v.category).sum ≤ 8) (hdg : decode cc pc = .ok (.invokespecial index, 3)) (hf : cells + mc ≤ R.cells ∧ slots + ms ≤ R.slots)
    (kk : ∀ (q : Nat → Nat) (H1 : Heap) (locs1 : List Loc), va_P D cl (wr ++ w1 q) H1 → va_D A (wr ++ w1 q) → va_S A H0 H1 locs1 → W p l e R s m args below meth c H1 locs1 (cells + mc) (slots + ms) Q (F0 m (pc + 3) ls rest)) : W p l e R s m args below meth c H locs cells slots Q (F0 m pc ls st0) := by
  have hFc := va_free (wc := wc) hD hS hA isC hC
  refine va_callv (va_runIN (As := As) (rest := rest) S hM ⟨va_cnB n S.2.2.2.2 hG rfl hR.1.1 hR.1.2 hlk (S.2.2.2.2 _ hini) hd hR.2, hy1, S.2.2.2.2 _ hins⟩ ⟨zP_blind, fun U hU hW => ⟨rfl, by rw [hU], by rw [hU]; exact hP.sub isC (zz_map hC), va_K.moved hW.alike hK, (hD.sub isC hnC hC).weaken (fun _ _ _ _ => trivial)⟩⟩ rfl hn hsize hst (lv_room hroom) hdg hf) hS (fun q _ h => hFc q h) hFc (fun u t H1 locs1 ht hvm hv hB hz1 hk1 hS1 => ?_)
  obtain ⟨hP1, hK1, hD1⟩ := hB
  rw [ht] at hP1
  obtain ⟨hP2, hD2⟩ := va_join hP hD isC isR hC hR2 hnR hdis hk1 hFc hP1 hD1
  exact kk u H1 locs1 hP2 hD2 hS1
end ZI
