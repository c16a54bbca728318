/-! machine: an exception is made and thrown (no stack traces): the heap behind it, cell by cell -/
set_option maxHeartbeats 2000000 in
theorem th_ctor {p : Program} {l : Launch} {e : Env} {R : Room} {s : State} {m₀ : MethodId} {args : Array Value} {below : List Frame} {meth : Method} {c : Code} {U0 : State} {locs : List Loc} {cells slots : Nat}
    (X : Stand p l e R s m₀ args below meth c U0 locs cells slots) (hexec : p.tables.exec = Jvm.exec) (htr : e.platform.stackTraces = false) {own cls : String} {names : List String} {ic ix : Nat} {rx : ByteArray}
    (x0 : decode rx 0 = .ok (.aload_n 0, 1)) (x1 : decode rx 1 = .ok (.aload_n 1, 1)) (x2 : decode rx 2 = .ok (.invokespecial ix, 3)) (x5 : decode rx 5 = .ok (.return_, 1))
    (hown : s.vm.findClass own = some m₀.cls) (hcls : Bundle.fit cls = true) (hnames : ∀ n ∈ names, Bundle.fit n = true) (h : ∀ a ∈ Bundle.ownAtomsX own ic cls ix rx names, a.before args s = true)
    (hlocs : ∀ x ∈ locs, ∀ cell, s.heap[x.base]? = some cell → cell.vm.isStatics = false)
    {a : Addr} {cX : ClassId} {kX : Class} (hfoundX : s.vm.findClass cls = some cX) (hkX : s.vm.classes[cX]? = some kX) (hcell : U0.heap[a]? = some (freshCell cX kX)) (hnew : s.heap.size ≤ a)
    {msg : Value} (hmsg : msg.isRef = true) {g : JFrame} (hg : g.method = m₀) (hsize : g.locals.size = c.maxLocals) (hlocked : g.locked = none) (hentered : g.entered = []) {rest : List Value} (hstack : g.stack = msg :: .ref a :: .ref a :: rest)
    (hd6 : decode c.code g.pc = .ok (.invokespecial ic, 3)) (hd9 : decode c.code (g.pc + 3) = .ok (.athrow, 1)) (hout : ∀ x ∈ c.exceptionTable.toList, covers x (g.pc + 3) = false)
    (hRf : names.length + 3 < R.frames) (hRl : 2 * g.monitorRoom + ((Value.ref a :: rest).map fun v => v.category).sum + (13 * (names.length + 1) + 42) ≤ R.locals) (hlocks : meth.locks = false) :
    ∃ (U : State) (ce : Cell) (L : List Loc), Steps p.tables e below (U0.setTop g) U ∧ U.status = .running ∧ Ended U below (.threw a) ∧ s.WarmedH U.vm ∧ s.sameButNew ({ U with vm := s.vm } : State) (locs ++ L) cells slots ∧ (∀ q ∈ L, q.base = a) ∧
      U.heap.size = U0.heap.size ∧ (∀ q : Nat, q ≠ a → U.heap[q]? = U0.heap[q]?) ∧ U.heap[a]? = some ce ∧ ce.cls = cX ∧ ce.vm = .none := by
  have pf := X.admits.platform
  have hpl : e.platform.magicAccessors = ({} : Platform).magicAccessors := by rw [pf]
  have at' : ∀ x, x ∈ Bundle.ownAtomsX own ic cls ix rx names → x.holds args s none s [] = true := fun x hx => h x hx
  obtain ⟨T, Z0, L, -, Y⟩ := ThrowableC.of_atoms (args := args) (pl := e.platform) (by rw [pf]) (by rw [pf]) hpl (fun x hx => h x (by simp [Bundle.ownAtomsX, hx]))
  obtain ⟨Z, M, LZ, LM, hnZ⟩ := Init0T.ofS_atoms (args := args) hpl L Y (fun x hx => h x (by simp [Bundle.ownAtomsX, hx]))
  obtain ⟨P1, Ps, hlen, L1, hL, hP1m, hk1, hk2⟩ := Bundle.chainSX (args := args) hpl hnZ x0 x1 x2 x5 names cls hcls hnames (fun x hx => h x (by simp [Bundle.ownAtomsX, hx]))
  have hf1 : s.vm.findClass cls = some P1.m.cls := findClass_of_methodNamed hP1m
  cases Option.some.inj (hfoundX.symm.trans hf1)
  obtain ⟨c1, k1, q1, q2, hord, -, -, -⟩ := Cond.instantiable_spec (at' (.instantiable cls 6) (by simp [Bundle.ownAtomsX]))
  cases Option.some.inj (q1.symm.trans hf1)
  cases Option.some.inj (hkX.symm.trans q2)
  have hs0 : selectMethod e.platform s.vm P1.m.cls T.fill0 = .method T.fill0 := by
    obtain ⟨c2, r2, m2, b1, b2, b3, b4, -⟩ := Cond.selects_spec (at' (.selects cls Bundle.tFill0 Bundle.tFill0) (by simp [Bundle.ownAtomsX]))
    cases Option.some.inj (b1.symm.trans hf1)
    cases Option.some.inj (b2.symm.trans (State.methodFound?_of_named Y.fill0 (by decide)))
    cases Option.some.inj (b3.symm.trans Y.fill0)
    rw [Launch.admits_selectMethod X.admits]; exact b4
  have hsF : selectMethod e.platform s.vm P1.m.cls T.fill = .method T.fill := by
    obtain ⟨c2, r2, m2, b1, b2, b3, b4, -⟩ := Cond.selects_spec (at' (.selects cls Bundle.tFill Bundle.tFill) (by simp [Bundle.ownAtomsX]))
    cases Option.some.inj (b1.symm.trans hf1)
    cases Option.some.inj (b2.symm.trans (State.methodFound?_of_named Y.fill (by decide)))
    cases Option.some.inj (b3.symm.trans Y.fill)
    rw [Launch.admits_selectMethod X.admits]; exact b4
  obtain ⟨cS0, hcS0, hst0⟩ := Y.statics
  obtain ⟨u0, hu0⟩ := Cond.staticRefV Y.unassigned L.unassignedStatic L.statics hcS0 hst0 (at' (.isRef (.static Bundle.tN "UNASSIGNED_STACK" Bundle.steD)) (by simp [Bundle.ownAtomsX]))
  obtain ⟨sen, hsen⟩ := Cond.staticRefV Y.sentinel L.sentinelStatic L.statics hcS0 hst0 (at' (.isRef (.static Bundle.tN "SUPPRESSED_SENTINEL" Bundle.listD)) (by simp [Bundle.ownAtomsX]))
  obtain ⟨ciB, iB, fB, hkB, hgB, haB, hsB, -, hnB, htB, hffB⟩ := Cond.ownField (t := .object "java/lang/Object") Y.found L.cls (by decide +kernel) (at' (.fieldLink Bundle.tN 198 Bundle.tN "backtrace" "Ljava/lang/Object;") (by simp [Bundle.ownAtomsX])) (at' (.lays Bundle.tN Bundle.tN "backtrace" "Ljava/lang/Object;") (by simp [Bundle.ownAtomsX])) e.platform hpl
  obtain ⟨cS, hcS, hvS, -, hkeep⟩ := X.same.2.2.2.2.2 T.aS cS0 hcS0
  have hcS' : U0.heap[T.aS]? = some cS := hcS
  have hno : ∀ i, (⟨T.aS, i⟩ : Loc) ∉ locs := fun i hm => by
    have := hlocs _ hm cS0 hcS0
    rw [hst0] at this; cases this
  have hkn : cS.vm ≠ .unknown := by
    rw [hvS]; intro hu
    rw [show cS0.vm = .unknown from hu] at hst0
    cases hst0
  have hne : T.aS ≠ a := Nat.ne_of_lt (Nat.lt_of_lt_of_le (Array.getElem?_eq_some_iff.mp hcS0).1 hnew)
  obtain ⟨iM, hffM⟩ := Y.msg
  obtain ⟨tyC, dC, hdC, hnC⟩ := Cond.laysAt hf1 hkX Y.cause (at' (.lays cls Bundle.tN "cause" "Ljava/lang/Throwable;") (by simp [Bundle.ownAtomsX]))
  obtain ⟨tyS, dS, hdS, hnS⟩ := Cond.laysAt hf1 hkX Y.stack (at' (.lays cls Bundle.tN "stackTrace" Bundle.steD) (by simp [Bundle.ownAtomsX]))
  obtain ⟨tyP, dP, hdP, hnP⟩ := Cond.laysAt hf1 hkX Y.supp (at' (.lays cls Bundle.tN "suppressedExceptions" Bundle.listD) (by simp [Bundle.ownAtomsX]))
  obtain ⟨tyM, dM, hdM, hnM⟩ := Cond.laysAt hf1 hkX hffM (at' (.lays cls Bundle.tN "detailMessage" "Ljava/lang/String;") (by simp [Bundle.ownAtomsX]))
  obtain ⟨tyB, dB, hdB, hnB2⟩ := Cond.laysAt hf1 hkX hffB (at' (.lays cls Bundle.tN "backtrace" "Ljava/lang/Object;") (by simp [Bundle.ownAtomsX]))
  have bC := Cond.laysApart hdB hdC hnB2 hnC (by rw [hnB, Y.causeName]; decide)
  have bS := Cond.laysApart hdB hdS hnB2 hnS (by rw [hnB, Y.stackName]; decide)
  have bP := Cond.laysApart hdB hdP hnB2 hnP (by rw [hnB, Y.suppName]; decide)
  have hskip : SkipFacts T e.platform s (fun u => u) u0 ((preparedCellV T.toThrowableT (freshCell P1.m.cls kX) a u0 sen).withEntry U0.cur) :=
    ⟨{ ci198 := ciB, i198 := iB, fBack := fB }, ⟨hkB, hgB, haB, hsB⟩, by
      have hd := fresh_default (c := P1.m.cls) tyB
      rw [htB] at hd
      simpa [preparedCellV, Cell.setSlot, Cell.withEntry, Array.getElem?_setIfInBounds, bC, bS, bP, bC.symm, bS.symm, bP.symm, defaultValue] using hd, fun _ _ => rfl⟩
  obtain ⟨tm, mC, cdC, kC, vm1, hnm, -, -, -, -, -, -, -, hW1, st1⟩ := Steps.initColdS (tb := p.tables) (e := e) (below := below) (s := s) (U := U0) X.here hexec X.warmed hpl hown (t := Bundle.initS cls) rfl rfl (Bundle.fit_spec hcls).2
    (at' (.methodLink own ic (Bundle.initS cls)) (by simp [Bundle.ownAtomsX])) (h (.instanceMethod (Bundle.initS cls)) (by cases names <;> simp [Bundle.ownAtomsX, Bundle.chainSAtomsX, Bundle.passSAtoms])) (bytes := rx) (maxL := 2) (h (.code (Bundle.initS cls) rx 2 none) (by cases names <;> simp [Bundle.ownAtomsX, Bundle.chainSAtomsX, Bundle.passSAtoms]))
    (f := g) hg (a := a) (msg := msg) (rest := .ref a :: rest) hstack hd6
  cases Option.some.inj (hnm.symm.trans hP1m)
  have X1 := X.noted hW1
  obtain ⟨vm2, X2, st2⟩ := X1.ctorMessageOffV hexec (g := { g with stack := .ref a :: rest }) hg hsize T L Z LZ M LM (P1 :: Ps)
    (fun P hP => by rcases List.mem_cons.mp hP with rfl | hP; exact L1; exact hL P hP) ⟨hk1, hk2⟩ (u0 := u0) (sen := sen) (self := a) hmsg (cell := freshCell P1.m.cls kX) (cellS := cS)
    hcell (fun _ => by simp) (by simp) rfl rfl hs0 hsF hcS' hne hkn (by rw [hkeep _ (hno _)]; exact hu0) (by rw [hkeep _ (hno _)]; exact hsen)
    (Takes.of_laid hkX hord tyC (by rw [Y.causeType]; rfl)) (Takes.of_laid hkX hord tyS (by rw [Y.stackType]; exact fits_refV_array _ u0)) (Takes.of_laid hkX hord tyP (by rw [Y.suppType]; exact fits_refV_object _ sen))
    (Takes.of_laid hkX hord tyM (by rw [Y.msgType]; exact fits_refV_object _ ⟨msg, hmsg⟩)) Y.objLocals hskip htr [] hd6 (by simp only [List.length_cons, hlen]; omega) (by simp only [List.length_cons, hlen]; exact hRl)
  obtain ⟨hwalk, hrun, hended, hWU, hsame⟩ := X2.athrowLeaves hexec (g := { g with stack := .ref a :: rest, pc := g.pc + 3 }) hg hlocked hentered hout (a := a) (rest := rest) rfl hd9 hlocks
  have hlt : a < ((U0.setVm vm1).setVm vm2).heap.size := (Array.getElem?_eq_some_iff.mp hcell).1
  refine ⟨_, plainBareV T.toThrowableT (freshCell P1.m.cls kX) a u0 sen msg, _, st1 _ (fun acts => ?_), hrun, hended, hWU, hsame, ?_, ?_, ?_, ?_, rfl, rfl⟩
  · rw [doInvoke_state]
    exact st2 _ hwalk
  · intro q hq
    simp only [List.mem_cons, List.not_mem_nil, or_false] at hq
    rcases hq with rfl | rfl | rfl | rfl | rfl <;> rfl
  · exact size_setCell _ _ _
  · intro q hq
    show (((U0.setVm vm1).setVm vm2).setCell a _).heap[q]? = U0.heap[q]?
    simp [State.setCell, Array.getElem?_setIfInBounds, Ne.symm hq]
  · exact heapAt_setCell_self (s := (U0.setVm vm1).setVm vm2) _ hlt

/-! machine: contracts of methods that throw a new exception -/
/-- a static that is a reference, as a word -/
theorem zq_ref {C n d : String} {A : Nat → Prop} {u : State} (h : va_Zq C n d A u u.heap) (args : Array Value) : (Cond.isRef (.static C n d)).before args u = true := by
  rcases h with ⟨cf, kf, fi, f, a, cell, h1, h2, h3, h4, h5, h6, h7, -⟩ | ⟨t, cf, kf, fi, f, a, cell, h1, h2, h3, h4, h5, h6, h7, -⟩
  · simp [Cond.before, Cond.holds, Cond.value, Term.eval, State.fieldNamed?, h1, h2, h4, h5, h6, h7, Value.isRef]
  · simp [Cond.before, Cond.holds, Cond.value, Term.eval, State.fieldNamed?, h1, h2, h4, h5, h6, h7, Value.isRef]
/-- a static that is laid, whose cell stands outside A -/
def LSt (C n d : String) (A : Nat → Prop) (u : State) : Prop := ∃ (c : ClassId) (k : Class) (i : Nat) (f : Field) (a : Nat) (cell : Cell), u.vm.findClass C = some c ∧ u.fieldFound? C n d = some (c, k, i, f) ∧ f.isStatic = true ∧ k.statics = some a ∧ u.heap[a]? = some cell ∧ cell.vm.isStatics = true ∧ cell.cls = c ∧ f.slot < cell.slots.size ∧ k.staticTypes[f.slot]? = some f.type ∧ ¬ A a
theorem LSt.use {C n d : String} {A : Nat → Prop} {u : State} (h : LSt C n d A u) (args : Array Value) : (Cond.laysStatic C n d).before args u = true := by
  obtain ⟨c, k, i, f, a, cell, h1, h2, h3, h4, h5, h6, h7, h8, h9, -⟩ := h
  simp [Cond.before, Cond.holds, Cond.value, h1, h2, h3, h4, h5, h6, h7, h8, h9]
theorem LSt.of {C n d : String} {A : Nat → Prop} {u : State} {args : Array Value} (h : (Cond.laysStatic C n d).before args u = true) (hA : ∀ a : Nat, a < u.heap.size → ¬ A a) : LSt C n d A u := by
  obtain ⟨c, k, i, f, a, cell, h1, h2, h3, h4, h5, h6, h7, h8, h9⟩ := Cond.laysStatic_spec h
  exact ⟨c, k, i, f, a, cell, h1, h2, h3, h4, h5, h6, h7, h8, h9, hA a (Array.getElem?_eq_some_iff.mp h5).1⟩
theorem LSt.mv {C n d : String} {A B : Nat → Prop} {u U : State} (hB : ∀ q : Nat, B q → A q) (hvm : u.vm.Alike U.vm) (hq : ∀ a : Nat, a < u.heap.size → ¬ A a → U.heap[a]? = u.heap[a]?) (h : LSt C n d A u) : LSt C n d B U := by
  obtain ⟨c, k, i, f, a, cell, h1, h2, h3, h4, h5, h6, h7, h8, h9, h10⟩ := h
  obtain ⟨k', hi', he⟩ := State.fieldFound?_setVm hvm h2
  exact ⟨c, k', i, f, a, cell, by rw [hvm.findClass]; exact h1, hi', h3, by rw [he]; exact h4, by rw [hq a (Array.getElem?_eq_some_iff.mp h5).1 h10]; exact h5, h6, h7, h8, by rw [he]; exact h9, fun q => h10 (hB a q)⟩
theorem zq_mv {C n d : String} {A B : Nat → Prop} {u U : State} (hB : ∀ q : Nat, B q → A q) (hvm : u.vm.Alike U.vm) (hq : ∀ a : Nat, a < u.heap.size → ¬ A a → U.heap[a]? = u.heap[a]?) (h : va_Zq C n d A u u.heap) : va_Zq C n d B U U.heap := by
  have h1 := va_Zq.kept (va_Zq.moved hvm h) hq
  rcases h1 with ⟨cf, kf, fi, f, a, cell, g1, g2, g3, g4, g5, g6, g7, g8⟩ | ⟨t, cf, kf, fi, f, a, cell, g1, g2, g3, g4, g5, g6, g7, g8⟩
  · exact Or.inl ⟨cf, kf, fi, f, a, cell, g1, g2, g3, g4, g5, g6, g7, fun q => g8 (hB a q)⟩
  · exact Or.inr ⟨t, cf, kf, fi, f, a, cell, g1, g2, g3, g4, g5, g6, g7, fun q => g8 (hB a q)⟩
def tIA : String := "java/lang/IllegalArgumentException"
def tNS : String := "java/util/NoSuchElementException"
/-- what a new exception wants of the state, beside the words of the tables -/
def ETh (A : Nat → Prop) (u : State) : Prop := (LSt Bundle.tN "UNASSIGNED_STACK" Bundle.steD A u ∧ LSt Bundle.tN "SUPPRESSED_SENTINEL" Bundle.listD A u) ∧ (va_Zq Bundle.tN "UNASSIGNED_STACK" Bundle.steD A u u.heap ∧ va_Zq Bundle.tN "SUPPRESSED_SENTINEL" Bundle.listD A u u.heap) ∧ (va_Nw (.declares (Bundle.initS "java/lang/RuntimeException")) u ∧ va_Nw (.declares (Bundle.initS "java/lang/Exception")) u ∧ va_Nw (.declares (Bundle.initS Bundle.tN)) u) ∧ va_Nw (.castable tIA tIA) u ∧ va_Nw (.castable tNS tNS) u
theorem ETh.mv {A B : Nat → Prop} {u U : State} (hB : ∀ q : Nat, B q → A q) (hvm : u.WarmedH U.vm ∨ U.vm = u.vm) (hq : ∀ a : Nat, a < u.heap.size → ¬ A a → U.heap[a]? = u.heap[a]?) (h : ETh A u) : ETh B U := by
  obtain ⟨⟨a1, a2⟩, ⟨b1, b2⟩, ⟨c1, c2, c3⟩, d1, d2⟩ := h
  have hal : u.vm.Alike U.vm := by
    rcases hvm with h | h
    · exact h.alike
    · rw [h]; exact Vm.Alike.refl _
  have mD : ∀ x : MethodName, va_Nw (.declares x) u → va_Nw (.declares x) U := fun x hx => by
    rcases hvm with h | h
    · exact va_Nw.warmD h hx
    · exact va_Nw.same rfl h.symm hx
  have mC : ∀ x : String, va_Nw (.castable x x) u → va_Nw (.castable x x) U := fun x hx => by
    rcases hvm with h | h
    · exact va_Nw.warmC h hx
    · exact va_Nw.same rfl h.symm hx
  exact ⟨⟨a1.mv hB hal hq, a2.mv hB hal hq⟩, ⟨zq_mv hB hal hq b1, zq_mv hB hal hq b2⟩, ⟨mD _ c1, mD _ c2, mD _ c3⟩, mC _ d1, mC _ d2⟩
def QT (cls : String) (sz : Nat) : Array Value → State → Outcome → State → Prop := fun _ st o t => ∃ (x : Addr) (ce : Cell) (L : List Loc), o = .threw x ∧ FrameEndT st o t L 1 6 ∧ (∀ q ∈ L, sz ≤ q.base) ∧ st.heap.size ≤ t.heap.size ∧ (∀ q : Nat, q < st.heap.size → t.heap[q]? = st.heap[q]?) ∧ t.heap[x]? = some ce ∧ ce.vm = .none ∧ st.vm.findClass cls = some ce.cls
/-- a contract: at these arguments the method throws a new object of class cls, and changes nothing -/
def CtT (l : Launch) (y : MethodName) (ws : List Cond) (rm : Room) (D : va_G) (cl : List vw_C) (tys : List (ClassId × FieldType)) (E : (Nat → Prop) → State → Prop) (av : List Value) (cls : String) : Prop :=
  ∀ sz : Nat, MetFree l y (headSpec ws rm) (CP D cl tys E av [] sz) (fun _ _ _ _ _ => True) (QT cls sz)
theorem CtT.of {l : Launch} {y : MethodName} {ws Wl : List Cond} {rm : Room} {D : va_G} {cl : List vw_C} {tys : List (ClassId × FieldType)} {E : (Nat → Prop) → State → Prop} {av : List Value} {cc : ByteArray} {maxL : Nat} {ty : FieldType} {cls : String} {names : List String} {ic ix index si pn q : Nat} {rx : ByteArray} {tx : String}
    (hfl : l.flags = pinnedFlags ++ [noTraceFlag]) (hEe : Ee E) (hGd : Gd Wl) (hy : plainName y.cls = true) (hw : ws = Cond.code y cc maxL (some ty) :: Wl) (hlen : (lg_sl av).length ≤ maxL)
    (x0 : decode rx 0 = .ok (.aload_n 0, 1)) (x1 : decode rx 1 = .ok (.aload_n 1, 1)) (x2 : decode rx 2 = .ok (.invokespecial ix, 3)) (x5 : decode rx 5 = .ok (.return_, 1)) (hcls : Bundle.fit cls = true) (hnames : ∀ n ∈ names, Bundle.fit n = true)
    (hat : ∀ a ∈ Bundle.ownAtomsX y.cls ic cls ix rx names, a ∈ Wl ∨ ∀ (A : Nat → Prop) (u : State) (args : Array Value), ETh A u → a.before args u = true) (hZ : ∀ (A : Nat → Prop) (u : State), E A u → ETh A u)
    (hcl : Cond.classLink y.cls index cls ∈ Wl) (hins : Cond.instantiable cls 6 ∈ Wl) (hini : Cond.initialized cls ∈ Wl)
    (hrm : 1 ≤ rm.cells ∧ 6 ≤ rm.slots ∧ names.length + 3 < rm.frames ∧ 1 + (13 * (names.length + 1) + 42) ≤ rm.locals)
    (dn : decode cc pn = .ok (.new index, 3)) (d1 : decode cc (pn + 3) = .ok (.dup, 1)) (d2 : decode cc (pn + 4) = .ok (.ldc si, 2)) (d3 : decode cc (pn + 6) = .ok (.invokespecial ic, 3)) (d4 : decode cc (pn + 9) = .ok (.athrow, 1))
    (hstr : ∀ (A : Nat → Prop) (u : State), E A u → vk_R y.cls si tx q u)
    (walk : ∀ (p : Program) (e : Env) (s : State) (m : MethodId) (args : Array Value) (below : List Frame) (meth : Method) (c : Code) (A : Nat → Prop) (ls : Array Slot) (Q : State → Prop), CX p m c cc maxL s args Wl y.cls D cl tys E A → lv_has ls maxL (lv_args 0 av) → W p l e rm s m args below meth c s.heap [] 0 0 Q (F0 m pn ls []) → W p l e rm s m args below meth c s.heap [] 0 0 Q (F0 m 0 ls [])) : CtT l y ws rm D cl tys E av cls := by
  intro sz
  refine MetFree.of_bodyS (code := cc) (maxLocals := maxL) (ret := some ty) hy ?_ ?_
  · intro args s m h hn
    obtain ⟨meth, c, h1, h2, h3, h4, h5, h6, -, -⟩ := Cond.code_spec hn (atoms_spec (ws := ws) h _ (by rw [hw]; exact List.mem_cons_self))
    exact ⟨meth, c, h1, h2, h3, h4, h5, h6⟩
  · intro p e s m args below meth c s₁ B hml hP _
    obtain ⟨rfl, hsz, -, hK, -, hE⟩ := hP
    subst hsz
    have hts := atoms_spec (ws := ws) B.pre
    have hin : ∀ w ∈ Wl, w.before av.toArray s = true := fun w h => hts w (by rw [hw]; exact List.mem_cons_of_mem _ h)
    have hown := findClass_of_methodNamed B.named
    have hC : CX p m c cc maxL s av.toArray Wl y.cls D cl tys E (va_A [] s.heap.size) := ⟨⟨B.exec, B.bytes, hml, hown, hin⟩, hGd, hK, fun q h => Or.inr h, hEe, hE⟩
    have hcw : (Cond.code y cc maxL (some ty)).before av.toArray s = true := hts _ (by rw [hw]; exact List.mem_cons_self)
    have hno := covers_of_empty (B.noHandlers hcw)
    have hh0 : s₁.heap = s.heap := by rw [B.state]; rfl
    have X0 := Stand.of_body B
    have htr := Launch.traces_off hfl X0.admits
    have hl := lv_entry av hlen
    have K : W p l e rm s m av.toArray below meth c s.heap [] 0 0 (fun t => ∃ o, t.status = .running ∧ Ended t below o ∧ QT cls s.heap.size av.toArray s o t) (entryFrame m av.toArray maxL) := by
      rw [lg_entry_eq]
      refine walk p e s m av.toArray below meth c (va_A [] s.heap.size) _ _ hC hl ?_
      intro T hT X
      obtain ⟨vm1, cX, kX, hfX, hkX, -, -, X1, st1⟩ := X.newCold B.exec (own := y.cls) (C := cls) (index := index) (n := 6) hown (hin _ hcl) (hin _ hins) (hin _ hini) (g := F0 m pn _ []) rfl (by rw [B.bytes]; exact dn) (show 0 + 1 ≤ rm.cells by omega) (show 0 + 6 ≤ rm.slots by omega)
      generalize hT1 : (T.setVm vm1).pushCell { cls := cX, slots := kX.instanceTypes.map defaultValue, vm := .none } = T1 at X1 st1
      have hcell : T1.heap[T.heap.size]? = some (freshCell cX kX) := by rw [← hT1]; exact State.heap_pushCell_size _ _
      have hsz1 : T1.heap.size = T.heap.size + 1 := by rw [← hT1]; exact size_pushCell _ _
      have hold : ∀ q : Nat, q < T.heap.size → T1.heap[q]? = T.heap[q]? := fun q hq => by
        rw [← hT1]
        show (T.heap.push _)[q]? = _
        rw [Array.getElem?_push, if_neg (Nat.ne_of_lt hq)]
      have K2 : ∀ ls : Array Slot, ls.size = maxL → W p l e rm s m av.toArray below meth c T1.heap [] (0 + 1) (0 + 6) (fun t => ∃ o, t.status = .running ∧ Ended t below o ∧ QT cls s.heap.size av.toArray s o t) (F0 m (pn + 3) ls [.ref T.heap.size]) := fun ls hls => by
        refine n_dup hC d1 rfl ?_
        refine n_ldcS hC hstr d2 ?_
        intro T2 hT2 X2
        obtain ⟨U, ce, L, h1, h2, h3, h4, h5, h6, h7, h8, h9, h10, h11⟩ := th_ctor X2 B.exec htr x0 x1 x2 x5 hown hcls hnames (fun a ha => by
            rcases hat a ha with h | h
            · exact hin a h
            · exact h _ s _ (hZ _ _ hE))
          (fun x hx => absurd hx List.not_mem_nil) hfX hkX (a := T.heap.size) (by rw [hT2]; exact hcell) (by rw [hT]; exact Nat.le_refl _) (msg := .ref q) rfl (g := F0 m (pn + 6) ls [.ref q, .ref T.heap.size, .ref T.heap.size]) rfl (by show ls.size = c.maxLocals; rw [hls, hml]) rfl rfl (rest := []) rfl
          (by rw [B.bytes]; exact d3) (by rw [B.bytes]; exact d4) (hno _) (by omega) (by show 2 * 0 + 1 + _ ≤ _; omega) B.notSynchronized
        have hTs : T.heap.size = s.heap.size := by rw [hT]
        refine ⟨U, h1, .threw T.heap.size, h2, h3, T.heap.size, ce, L, rfl, ⟨⟨_, rfl⟩, h4, by simpa using h5⟩, fun q hq => by rw [h6 q hq, hTs]; exact Nat.le_refl _, ?_, fun q hq => ?_, h9, h11, by rw [h10]; exact hfX⟩
        · rw [h7, hT2, hsz1, hTs]; omega
        · rw [h8 q (by omega), hT2, hold q (by omega), hT]
      obtain ⟨t, a1, b1⟩ := K2 _ hl.1 T1 rfl X1
      exact ⟨t, st1 t a1, b1⟩
    obtain ⟨t, a1, o, b1, b2, b3⟩ := K s₁ hh0 X0
    exact ⟨t, o, a1, b1, b2, b3⟩

/-! machine: a method that catches: its contract, its call; a call that throws -/
theorem codeW_good {y : MethodName} {b : ByteArray} {n : Nat} {r : Option FieldType} {hh : List (Nat × Nat × Nat × Nat)} : goodWord (.codeWith y b n r hh) = true := rfl
/-- a contract of a method with handlers, that makes at most one cell of six slots -/
def CtH (l : Launch) (y : MethodName) (ws : List Cond) (rm : Room) (D : va_G) (cl : List vw_C) (tys : List (ClassId × FieldType)) (E : (Nat → Prop) → State → Prop) (av : List Value) (w0 : va_W) (r : Int32) (w1 : va_W) : Prop :=
  ∀ sz : Nat, Met l y ws rm (CP D cl tys E av w0 sz) (CQ D cl tys (some (.int r)) w1 (va_A w0 sz)) 1 6 (va_A w0 sz)
theorem CtH.of {l : Launch} {y : MethodName} {ws Wl : List Cond} {rm : Room} {D : va_G} {cl : List vw_C} {tys : List (ClassId × FieldType)} {E : (Nat → Prop) → State → Prop} {av : List Value} {w0 w1 : va_W} {r : Int32} {cc : ByteArray} {maxL : Nat} {ty : FieldType} {hh : List (Nat × Nat × Nat × Nat)}
    (hEe : Ee E) (hGd : Gd Wl) (hy : plainName y.cls = true) (hw : ws = Cond.codeWith y cc maxL (some ty) hh :: Wl) (hlen : (lg_sl av).length ≤ maxL)
    (body : ∀ (p : Program) (e : Env) (s : State) (m : MethodId) (args : Array Value) (below : List Frame) (meth : Method) (c : Code) (A : Nat → Prop) (ls : Array Slot) (Q : State → Prop), l.admits e → CX p m c cc maxL s args Wl y.cls D cl tys E A → c.exceptionTable.toList.map (fun h => (h.startPc, h.endPc, h.handlerPc, h.catchType)) = hh → A = va_A w0 s.heap.size → WS D cl A s.heap s.heap [] w0 → lv_has ls maxL (lv_args 0 av) →
      (∀ (H : Heap) (locs : List Loc) (pc : Nat) (ls : Array Slot), WS D cl A s.heap H locs w1 → narrow ty (.int r) = .int r → decode cc pc = .ok (.ireturn, 1) → W p l e rm s m args below meth c H locs 1 6 Q (F0 m pc ls [.int r])) →
      W p l e rm s m args below meth c s.heap [] 0 0 Q (F0 m 0 ls [])) : CtH l y ws rm D cl tys E av w0 r w1 := by
  intro sz
  refine va_MetW (cc := cc) (maxL := maxL) (ret := some ty) hy hw ?_
  intro p e s m args below meth c s₁ B hml hv
  obtain ⟨rfl, hsz, hP, hK, hD0, hE⟩ := hv
  have hts := atoms_spec (ws := ws) B.pre
  subst hsz
  have hD := hD0.self (sz := s.heap.size)
  obtain ⟨m9, meth9, c9, q1, q2, q3, -, -, q6, -⟩ := Cond.codeWith_spec (hts _ (by rw [hw]; exact List.mem_cons_self))
  cases q1.symm.trans B.named
  cases q2.symm.trans B.method
  have hcode : meth.code = some c := (Stand.of_body B).code
  cases q3.symm.trans hcode
  rw [lg_entry_eq]
  refine body p e s m av.toArray below meth c (va_A w0 s.heap.size) _ _ (Stand.of_body B).admits ⟨⟨B.exec, B.bytes, hml, findClass_of_methodNamed B.named, fun w h => hts w (by rw [hw]; exact List.mem_cons_of_mem _ h)⟩, hGd, hK, fun q h => Or.inr h, hEe, hE⟩ q6 rfl ⟨hP, hD, va_S.rf⟩ (lv_entry av hlen) (fun H locs pc ls hW hn hdg => ?_)
  exact W.zret B.exec B.bytes B.returns hn (fun t ht hw' => ⟨⟨rfl, by rw [ht]; exact hW.1, va_K.moved hw'.alike hK, hW.2.1⟩, hW.2.2.F ht⟩) hW.2.2.2.2 hdg
section QT5
variable {p : Program} {l : Launch} {e : Env} {R : Room} {s : State} {m : MethodId} {args : Array Value} {below : List Frame} {meth : Method} {c : Code} {T : State} {H : Heap} {locs : List Loc} {cells slots : Nat} {Q : State → Prop}
theorem callSW (X : Stand p l e R s m args below meth c T locs cells slots) (hexec : p.tables.exec = Jvm.exec) {own : String} {index : Nat} {y : MethodName} {bytes : ByteArray} {maxL : Nat} {ret : Option FieldType} {hh : List (Nat × Nat × Nat × Nat)}
    (hown : s.vm.findClass own = some m.cls) (hlink : (Cond.methodLink own index y).before args s = true) (hstat : (Cond.static y).before args s = true) (hinit : (Cond.initialized y.cls).before args s = true)
    (hcode : (Cond.codeWith y bytes maxL ret hh).before args s = true) (hy : y.cls ≠ "java/lang/invoke/MethodHandle" ∧ y.cls ≠ "java/lang/invoke/VarHandle")
    {Wd : Nat} {Pre : Pt → Array Value → Prop} {Post : Pt → Array Value → Option Value → Pt → Prop} (hK : Back l R p e below s args y 3 Wd Pre Post)
    {g : JFrame} (hg : g.method = m) (hsize : g.locals.size = c.maxLocals) {argsL rest : List Value} (hlen : ∀ sig, parseMethodDescriptor y.desc = some sig → argsL.length = sig.parameters.length)
    (hstack : g.stack = argsL.reverse ++ rest) (hW : 2 * g.monitorRoom + (rest.map fun v => v.category).sum ≤ Wd) (hdg : decode c.code g.pc = .ok (.invokestatic index, 3))
    (hpre : ∀ vm₁, s.WarmedH vm₁ → Pre ⟨T.setVm vm₁, locs, cells, slots⟩ argsL.toArray) :
    ∃ (v : Option Value) (vm₁ : Vm) (B : Pt), s.WarmedH vm₁ ∧ Stand p l e R s m args below meth c B.U B.locs B.cells B.slots ∧ Post ⟨T.setVm vm₁, locs, cells, slots⟩ argsL.toArray v B ∧
      ∀ target, Steps p.tables e below (B.U.setTop { g with pc := g.pc + 3, stack := v.toList ++ rest }) target → Steps p.tables e below (T.setTop g) target := by
  obtain ⟨mk, mY, cY, hn, hm, -, -, -, -, -, -, hsig⟩ := Cond.codeWith_spec hcode
  obtain ⟨kP, hkP, -⟩ := className_of_methodNamed hn
  obtain ⟨vm1, X1, st1⟩ := X.invokestatic hexec hown hlink hn hm (Cond.static_spec hn hm hstat) hkP (Cond.initialized_spec (findClass_of_methodNamed hn) hkP hinit) hy (g := g) hg (argsL := argsL) (rest := rest) (hlen _ hsig) hstack hdg
  obtain ⟨v, B, X2, hp, hs⟩ := hK m meth c ⟨T.setVm vm1, locs, cells, slots⟩ { g with stack := rest } (.invokestatic index) mk argsL.toArray X1 hg hsize hdg hW (X1.named hn) (hpre vm1 X1.warmed)
  exact ⟨v, vm1, B, X1.warmed, X2, hp, fun target h => st1 _ fun acts => by rw [doInvoke_state]; exact hs.trans h⟩
theorem callVT (X : Stand p l e R s m args below meth c T locs cells slots) (hexec : p.tables.exec = Jvm.exec) {own C : String} {index : Nat} {y : MethodName} {bytes : ByteArray} {maxL : Nat} {ret : Option FieldType}
    (hown : s.vm.findClass own = some m.cls) (hlink : (Cond.methodLink own index y).before args s = true) (hinst : (Cond.instanceMethod y).before args s = true) (hsel : (Cond.selects C y y).before args s = true)
    (hcode : (Cond.code y bytes maxL ret).before args s = true) (hy : y.cls ≠ "java/lang/invoke/MethodHandle" ∧ y.cls ≠ "java/lang/invoke/VarHandle")
    {Wd : Nat} {Pre : Pt → Array Value → Prop} {Post : Pt → Array Value → Addr → Pt → Prop} (hK : BackT l R p e below s args y 3 Wd Pre Post)
    {b : Addr} {cellB : Cell} (hcell : T.heap[b]? = some cellB) (hobj : cellB.vm.isStatics = false) (hcls : s.vm.findClass C = some cellB.cls)
    {g : JFrame} (hg : g.method = m) (hsize : g.locals.size = c.maxLocals) {argsL rest : List Value} (hlen : ∀ sig, parseMethodDescriptor y.desc = some sig → argsL.length = sig.parameters.length)
    (hstack : g.stack = argsL.reverse ++ .ref b :: rest) (hW : 2 * g.monitorRoom + (rest.map fun v => v.category).sum ≤ Wd) (hdg : decode c.code g.pc = .ok (.invokevirtual index, 3))
    (hpre : ∀ vm₁, s.WarmedH vm₁ → Pre ⟨T.setVm vm₁, locs, cells, slots⟩ (Value.ref b :: argsL).toArray) :
    ∃ (v : Addr) (vm₁ : Vm) (B : Pt), s.WarmedH vm₁ ∧ Stand p l e R s m args below meth c B.U B.locs B.cells B.slots ∧ Post ⟨T.setVm vm₁, locs, cells, slots⟩ (Value.ref b :: argsL).toArray v B ∧
      Steps p.tables e below (T.setTop g) ((B.U.setTop { g with stack := rest }).pushFrame (.throwing v)) := by
  obtain ⟨mk, mY, hn, hm, hst, hab⟩ := Cond.instanceMethod_spec hinst
  obtain ⟨mY', cY, hm', -, -, -, -, -, -, hsig⟩ := Cond.code_spec hn hcode
  cases hm.symm.trans hm'
  obtain ⟨c2, r2, m2, q1, q2, q3, q4, kP, hkP, hkPi⟩ := Cond.selects_spec hsel
  cases hcls.symm.trans q1
  cases (State.methodFound?_of_named hn hy).symm.trans q2
  cases hn.symm.trans q3
  have hs0 : selectMethod e.platform s.vm cellB.cls mk = .method mk := by rw [Launch.admits_selectMethod X.admits]; exact q4
  obtain ⟨vm1, X1, st1⟩ := X.invokevirtual hexec hown hlink hn hm hst hkP hkPi hy (a := b) (cell := cellB) hcell (fun z h => by rw [h] at hobj; cases hobj) hs0 hm hab hkP hkPi (g := g) hg (argsL := argsL) (rest := rest) (hlen _ hsig) hstack hdg
  obtain ⟨v, B, X2, hp, hs⟩ := hK m meth c ⟨T.setVm vm1, locs, cells, slots⟩ { g with stack := rest } (.invokevirtual index) mk (Value.ref b :: argsL).toArray X1 hg hsize hdg hW (X1.named hn) (hpre vm1 X1.warmed)
  exact ⟨v, vm1, B, X1.warmed, X2, hp, st1 _ fun acts => by rw [doInvoke_state]; exact hs⟩
/-- what a throwing call leaves -/
def PostT (cls : String) (sz : Nat) : Pt → Array Value → Addr → Pt → Prop := fun A _ v B => ∃ (ce : Cell) (L : List Loc), B.locs = A.locs ++ L ∧ (∀ q ∈ L, sz ≤ q.base) ∧ B.cells = A.cells + 1 ∧ B.slots = A.slots + 6 ∧ A.U.heap.size ≤ B.U.heap.size ∧ (∀ q : Nat, q < A.U.heap.size → B.U.heap[q]? = A.U.heap[q]?) ∧ B.U.heap[v]? = some ce ∧ ce.vm = .none ∧ A.U.vm.findClass cls = some ce.cls
theorem CtT.back {y : MethodName} {ws Wl : List Cond} {rm : Room} {D : va_G} {cl : List vw_C} {tys : List (ClassId × FieldType)} {E : (Nat → Prop) → State → Prop} {av : List Value} {cls : String} {bytes : ByteArray} {maxL Wd sz : Nat} {ret : Option FieldType} (hM : CtT l y ws rm D cl tys E av cls) (hEe : Ee E)
    (hframes : rm.frames + 1 ≤ R.frames) (hlocals : Wd + (maxL + 11) + rm.locals ≤ R.locals) (hrm : rm.cells = 1 ∧ rm.slots = 6)
    (hws : ∀ w ∈ ws, ∀ a' U, s.WarmedH U.vm → w.before a' U = true) (hcode : Cond.code y bytes maxL ret ∈ ws) (hinit : ∀ a' U, s.WarmedH U.vm → (Cond.initialized y.cls).before a' U = true) :
    BackT l R p e below s args y 3 Wd (fun A a => A.cells + 1 ≤ R.cells ∧ A.slots + 6 ≤ R.slots ∧ CP D cl tys E av [] sz a A.U) (PostT cls sz) := by
  refine BackT.of_free (S := headSpec ws rm) (P := CP D cl tys E av [] sz) (K := fun _ _ _ _ _ => True) (Q := QT cls sz) (bytes := bytes) (maxL := maxL) (ret := ret)
    (E := fun a st o t L k n => k = 1 ∧ n = 6 ∧ (∀ q ∈ L, sz ≤ q.base)) (hM sz) hframes hlocals ?_ ?_ (fun _ _ _ _ _ _ _ _ _ => trivial) ?_ ?_
  · intro m meth c A a X hp
    exact ⟨atoms_intro fun w hw => hws w hw _ _ X.warmed, hws _ hcode _ _ X.warmed, hinit _ _ X.warmed, by rw [show (headSpec ws rm).room.cells = 1 from hrm.1]; exact hp.1, by rw [show (headSpec ws rm).room.slots = 6 from hrm.2]; exact hp.2.1⟩
  · intro m meth c A a g mk X hp
    exact CP.blind hEe _ _ _ _ hp.2.2
  · intro a first o t hq
    obtain ⟨x, ce, L, h1, h2, h3, -⟩ := hq
    exact ⟨L, 1, 6, h2, rfl, rfl, h3⟩
  · intro m meth c A a g mk v t L k n X hp hq hF hE
    obtain ⟨e1, e2, hL⟩ := hE
    subst e1; subst e2
    obtain ⟨x, ce, L2, h1, -, -, h4, h5, h6, h7, h8⟩ := hq
    cases h1
    exact ⟨ce, L, rfl, hL, rfl, rfl, h4, h5, h6, h7, h8⟩
end QT5

/-! machine: rows: a call that throws and is caught; a call of a method that catches -/
section QT6
variable {p : Program} {l : Launch} {e : Env} {R : Room} {s : State} {m : MethodId} {args : Array Value} {below : List Frame} {meth : Method} {c : Code} {H : Heap} {locs : List Loc} {cells slots : Nat} {Q : State → Prop}
variable {cc : ByteArray} {nL : Nat} {Wl : List Cond} {own : String} {D : va_G} {cl : List vw_C} {tys : List (ClassId × FieldType)} {E : (Nat → Prop) → State → Prop} {A : Nat → Prop} {pc : Nat} {ls : Array Slot} {rest : List Value} {ws : va_W}
variable {y : MethodName} {bytes : ByteArray} {maxL n index : Nat} {ret : Option FieldType} {wsc : List Cond} {rm : Room} {w0 w1 : va_W} {b : Nat} {As : List Value} {cls : String}
theorem n_catch (hC : CX p m c cc nL s args Wl own D cl tys E A) (hw : WS D cl A s.heap H locs ws) {ci : Nat} {fs : List Value} (hF : FcV Wl cl own index ci y bytes maxL ret wsc n) (hM : CtT l y wsc rm D cl tys E (.ref b :: As) cls) (q0 : Nat) (he : ws[q0]? = some (b, .inr (ci, fs))) (hrm : rm.cells = 1 ∧ rm.slots = 6) (hR : rm.frames + 1 ≤ R.frames ∧ 8 + (maxL + 11) + rm.locals ≤ R.locals) (hcs : cells + 1 ≤ R.cells ∧ slots + 6 ≤ R.slots)
    {x : ExceptionTableEntry} (hx : c.exceptionTable.toList = [x]) (hcov : covers x pc = true) (h0 : x.catchType ≠ 0) (hlk : Cond.classLink own x.catchType cls ∈ Wl) (hcast : ∀ (A : Nat → Prop) (u : State), E A u → va_Nw (.castable cls cls) u) (hlen : As.length = n) (hml : ls.size = nL) (hroom : (rest.map fun v => v.category).sum ≤ 8) (hdg : decode cc pc = .ok (.invokevirtual index, 3))
    (kk : ∀ (v : Nat) (H1 : Heap) (locs1 : List Loc), WS D cl A s.heap H1 locs1 ws → W p l e R s m args below meth c H1 locs1 (cells + 1) (slots + 6) Q (F0 m x.handlerPc ls [.ref v])) {st0 : List Value} (hst : st0 = As.reverse ++ .ref b :: rest) : W p l e R s m args below meth c H locs cells slots Q (F0 m pc ls st0) := by
  obtain ⟨⟨f1, f2, f3, f4, f5⟩, hi, hse, T0, N0, hc0⟩ := hF
  subst hst
  have hin := hC.1.2.2.2.2
  obtain ⟨hx0, hb0, hml0, hown, -⟩ := hC.1
  obtain ⟨cellB, hcB, hoB, hclB⟩ := va_recv hC.2.2.1 hw.1 hc0 he
  have hpre : PreS s H (CP D cl tys E (.ref b :: As) [] H.size) (.ref b :: As) := nc_pre hC hw [] rfl rfl _
  have hgood : ∀ w ∈ wsc, ∀ (a' : Array Value) (U : State), s.WarmedH U.vm → w.before a' U = true := fun w hw' a' U hW => by
    rw [f1] at hw'
    rcases List.mem_cons.mp hw' with rfl | hw'
    · exact word_at hW (hC.2.1 _ f2) (hin _ f2)
    · exact word_at hW (hC.2.1 _ hw') (hin _ hw')
  have hK := CtT.back (p := p) (R := R) (e := e) (below := below) (s := s) (args := args) (Wl := Wl) (sz := H.size) (Wd := 8) (bytes := bytes) (maxL := maxL) (ret := ret) hM hC.2.2.2.2.1 hR.1 hR.2 hrm hgood (by rw [f1]; exact List.mem_cons_self) (fun a' U hW => word_at hW (hC.2.1 _ f4) (hin _ f4))
  intro T hT X
  have hlen' : ∀ sig, parseMethodDescriptor y.desc = some sig → As.length = sig.parameters.length := fun sig h => by
    have h2 := f5.2.2
    rw [h] at h2
    exact hlen.trans (Option.some.inj h2).symm
  obtain ⟨v, vm1, ⟨U', l2, c2, s2⟩, hW1, X', ⟨ce, L, e1, hL, e2, e3, hz, hk, hce, hvm, hfc⟩, st⟩ := callVT X hx0 (C := y.cls) (bytes := bytes) (maxL := maxL) (ret := ret) hown (hin _ f3) (hin _ hi) (hin _ hse) (hin _ f2) ⟨f5.1, f5.2.1⟩ hK (by rw [hT]; exact hcB) hoB hclB (g := F0 m pc ls (As.reverse ++ .ref b :: rest)) rfl (by show ls.size = c.maxLocals; rw [hml, hml0]) (argsL := As) (rest := rest) hlen' rfl (lv_room hroom) (by rw [hb0]; exact hdg)
    (fun vm1 hW1 => ⟨hcs.1, hcs.2, hpre.2 (T.setVm vm1) hT hW1⟩)
  dsimp only [Pt.U, Pt.locs, Pt.cells, Pt.slots] at X' e1 e2 e3 hz hk hce hfc st
  subst e1; subst e2; subst e3
  have hfs : s.vm.findClass cls = some ce.cls := by
    have := hfc
    rw [show (T.setVm vm1).vm = vm1 from rfl, hW1.alike.findClass] at this
    exact this
  obtain ⟨c0, t0, g1, g2, g3⟩ := Cond.castable_spec (va_Nw.use (A := args) rfl (hcast _ _ hC.2.2.2.2.2))
  cases hfs.symm.trans g1
  cases hfs.symm.trans g2
  obtain ⟨hrow, hk0⟩ := X'.catches_of_link (own := own) (name := cls) hown h0 (hin _ hlk) hfs g3
  obtain ⟨vm2, X2, st2⟩ := X'.thenCaughtThrough v (g := { F0 m pc ls (As.reverse ++ .ref b :: rest) with stack := rest }) rfl st hce (by rw [hvm]; rfl) hk0 [] x [] (by rw [hx]; rfl) (fun y hy => absurd hy List.not_mem_nil) hcov hrow
  have hTH : (T.setVm vm1).heap = H := hT
  rw [hTH] at hz hk
  obtain ⟨t2, a1, b1⟩ := kk v U'.heap (locs ++ L) ⟨va_P.kept hw.1 (fun k q hq => hk q.1 (hw.1 k q hq).lt), hw.2.1, Nat.le_trans hw.2.2.1 hz, fun q g1 g2 => by
      rw [hk q (Nat.lt_of_lt_of_le g1 hw.2.2.1)]; exact hw.2.2.2.1 q g1 g2, fun q hq => by
      rcases List.mem_append.mp hq with h | h
      · exact hw.2.2.2.2 q h
      · exact hC.2.2.2.1 _ (Nat.le_trans hw.2.2.1 (hL q h))⟩ (U'.setVm vm2) rfl X2
  exact ⟨t2, st2.trans a1, b1⟩
/-- the facts of a call of a method with handlers -/
def FcH (Wl : List Cond) (own : String) (index : Nat) (y : MethodName) (bytes : ByteArray) (maxL : Nat) (ret : Option FieldType) (hh : List (Nat × Nat × Nat × Nat)) (wsc : List Cond) (n : Nat) : Prop := wsc = Cond.codeWith y bytes maxL ret hh :: Wl ∧ Cond.codeWith y bytes maxL ret hh ∈ Wl ∧ Cond.methodLink own index y ∈ Wl ∧ Cond.initialized y.cls ∈ Wl ∧ (y.cls ≠ "java/lang/invoke/MethodHandle" ∧ y.cls ≠ "java/lang/invoke/VarHandle" ∧ (parseMethodDescriptor y.desc).map (fun d => d.parameters.length) = some n) ∧ Cond.static y ∈ Wl
theorem n_callH {r : Int32} {hh : List (Nat × Nat × Nat × Nat)} (hC : CX p m c cc nL s args Wl own D cl tys E A) (hw : WS D cl A s.heap H locs ws) (hF : FcH Wl own index y bytes maxL ret hh wsc n) (hM : CtH l y wsc rm D cl tys E As w0 r w1) (isC : List Nat) (ws' : va_W) (hrm : rm.cells = 1 ∧ rm.slots = 6) (hR : rm.frames + 1 ≤ R.frames ∧ 8 + (maxL + 11) + rm.locals ≤ R.locals) (hn : va_nd isC = true) (h0' : At_ ws isC w0) (h1' : At_ ws' isC w1) (hs : Sm_ isC 0 ws ws') (hlen : As.length = n) (hml : ls.size = nL) (hroom : (rest.map fun v => v.category).sum ≤ 8) (hcs : cells + 1 ≤ R.cells ∧ slots + 6 ≤ R.slots) (hdg : decode cc pc = .ok (.invokestatic index, 3))
    (kk : ∀ (H1 : Heap) (locs1 : List Loc), WS D cl A s.heap H1 locs1 ws' → W p l e R s m args below meth c H1 locs1 (cells + 1) (slots + 6) Q (F0 m (pc + 3) ls (.int r :: rest))) {st0 : List Value} (hst : st0 = As.reverse ++ rest) : W p l e R s m args below meth c H locs cells slots Q (F0 m pc ls st0) := by
  obtain ⟨f1, f2, f3, f4, f5, hst0⟩ := hF
  subst hst
  have h0 := h0'.map
  have h1 := h1'.map
  have hin := hC.1.2.2.2.2
  obtain ⟨hx0, hb0, hml0, hown, -⟩ := hC.1
  have hpre := nc_pre hC hw isC hn h0 As
  have hgood : ∀ w ∈ wsc, ∀ (a' : Array Value) (U : State), s.WarmedH U.vm → w.before a' U = true := fun w hw' a' U hW => by
    rw [f1] at hw'
    rcases List.mem_cons.mp hw' with rfl | hw'
    · exact word_at hW (hC.2.1 _ f2) (hin _ f2)
    · exact word_at hW (hC.2.1 _ hw') (hin _ hw')
  have hK : Back l R p e below s args y 3 8 (PreOf R 1 6 (CP D cl tys E As w0 H.size)) (PostOf (CQ D cl tys (some (.int r)) w1 (va_A w0 H.size)) 1 6 (va_A w0 H.size)) := va_backW (hh := hh) (bytes := bytes) (maxL := maxL) (ret := ret) (hM H.size) hpre.1 hrm.1 hrm.2 hR.1 hR.2 hgood (by rw [f1]; exact List.mem_cons_self) (fun a' U hW => word_at hW (hC.2.1 _ f4) (hin _ f4))
  have hlen' : ∀ sig, parseMethodDescriptor y.desc = some sig → As.length = sig.parameters.length := fun sig h => by
    have h2 := f5.2.2
    rw [h] at h2
    exact hlen.trans (Option.some.inj h2).symm
  intro T hT X
  obtain ⟨v, vm1, ⟨U', l2, c2, s2⟩, hW1, X', ⟨g', mk, t, L, e1, e2, hq, q1, hL, q2, q3⟩, st⟩ := callSW X hx0 (hh := hh) (bytes := bytes) (maxL := maxL) (ret := ret) hown (hin _ f3) (hin _ hst0) (hin _ f4) (hin _ f2) ⟨f5.1, f5.2.1⟩ hK (g := F0 m pc ls (As.reverse ++ rest)) rfl (by show ls.size = c.maxLocals; rw [hml, hml0]) (argsL := As) (rest := rest) hlen' rfl (lv_room hroom) (by rw [hb0]; exact hdg)
    (fun vm1 hW1 => ⟨hcs.1, hcs.2, hpre.2 (T.setVm vm1) hT hW1⟩)
  dsimp only [Pt.U, Pt.locs, Pt.cells, Pt.slots] at X' e1 e2 q1 q2 q3 st
  subst q1; subst q2; subst q3
  obtain ⟨⟨hv, hP1, hK1, hD1⟩, hz, hk⟩ := hq
  cases hv
  have hTH : ((T.setVm vm1).calling g' mk As.toArray).heap = H := hT
  rw [hTH] at hz hk
  have hfree := va_free hw.2.1 hw.2.2 hC.2.2.2.1 isC h0
  have hk' : ∀ q : Nat, q < H.size → ¬ va_A w0 H.size q → U'.heap[q]? = H[q]? := fun q g1 g2 => by rw [e1]; exact hk q g1 g2
  obtain ⟨hPn, hDn⟩ := nj_P hw.1 hw.2.1 isC h0 h1 hs hk' (by rw [e1]; exact hP1)
  obtain ⟨t2, a1, b1⟩ := kk U'.heap (locs ++ L) ⟨hPn, hDn, Nat.le_trans hw.2.2.1 (by rw [e1]; exact hz), fun q g1 g2 => by
      rw [hk' q (Nat.lt_of_lt_of_le g1 hw.2.2.1) (fun h => g2 (hfree q h))]; exact hw.2.2.2.1 q g1 g2, fun q hq => by
      rcases List.mem_append.mp hq with h | h
      · exact hw.2.2.2.2 q h
      · exact hfree _ (hL q h)⟩ U' rfl X'
  exact ⟨t2, st t2 a1, b1⟩
end QT6

