/-! constructors: contracts of methods that make cells -/
def nw_ {β : Type} (k : Nat) (n : Int32) (K : Nat → Option β) : Option β := if n < 0 ∨ k < n.toNatClampNeg then none else K n.toNatClampNeg
theorem nw_s {β : Type} {k : Nat} {n : Int32} {K : Nat → Option β} {z : β} (h : nw_ k n K = some z) : ¬ n < 0 ∧ n.toNatClampNeg ≤ k ∧ K n.toNatClampNeg = some z := by
  unfold nw_ at h
  by_cases hc : n < 0 ∨ k < n.toNatClampNeg
  · rw [if_pos hc] at h; cases h
  · rw [if_neg hc] at h; exact ⟨fun q => hc (Or.inl q), Nat.not_lt.mp fun q => hc (Or.inr q), h⟩
def CQA {α : Type} (D : va_G) (cl : List vw_C) (tys : List (ClassId × FieldType)) (w1 : α → va_W) (A : Nat → Prop) : Array Value → State → Outcome → State → Prop := fun _ st oc t =>
  (∃ a : α, oc = .returned none ∧ va_P D cl (w1 a) t.heap ∧ va_K D cl tys t ∧ va_D A (w1 a)) ∧ va_F A st t
/-- a contract of a constructor: it leaves the world w1 a, at addresses a of its own making -/
def CtA {α : Type} (l : Launch) (y : MethodName) (ws : List Cond) (rm : Room) (D : va_G) (cl : List vw_C) (tys : List (ClassId × FieldType)) (E : (Nat → Prop) → State → Prop) (av : List Value) (w0 : va_W) (w1 : α → va_W) (mc ms : Nat) : Prop :=
  ∀ sz : Nat, Met l y ws rm (CP D cl tys E av w0 sz) (CQA D cl tys w1 (va_A w0 sz)) mc ms (va_A w0 sz)
theorem CtA.of {α : Type} {l : Launch} {y : MethodName} {ws Wl : List Cond} {rm : Room} {D : va_G} {cl : List vw_C} {tys : List (ClassId × FieldType)} {E : (Nat → Prop) → State → Prop} {av : List Value} {w0 : va_W} {w1 : α → va_W} {cc : ByteArray} {maxL mc ms : Nat}
    (hEe : Ee E) (hGd : Gd Wl) (hy : plainName y.cls = true) (hw : ws = Cond.code y cc maxL none :: Wl) (hlen : (lg_sl av).length ≤ maxL)
    (body : ∀ (p : Program) (e : Env) (s : State) (m : MethodId) (args : Array Value) (below : List Frame) (meth : Method) (c : Code) (A : Nat → Prop) (ls : Array Slot) (Q : State → Prop), CX p m c cc maxL s args Wl y.cls D cl tys E A → meth.name = y.name → WS D cl A s.heap s.heap [] w0 → lv_has ls maxL (lv_args 0 av) →
      (∀ (a : α) (H : Heap) (locs : List Loc) (pc : Nat) (ls : Array Slot), WS D cl A s.heap H locs (w1 a) → decode cc pc = .ok (.return_, 1) → W p l e rm s m args below meth c H locs mc ms Q (F0 m pc ls [])) →
      W p l e rm s m args below meth c s.heap [] 0 0 Q (F0 m 0 ls [])) : CtA l y ws rm D cl tys E av w0 w1 mc ms := by
  intro sz
  refine Met.ofW (cc := cc) (maxL := maxL) (ret := none) hy hw ?_
  intro p e s m args below meth c s₁ B hml hv
  obtain ⟨rfl, hsz, hP, hK, hD0, hE⟩ := hv
  have hts := atoms_spec (ws := ws) B.pre
  subst hsz
  have hD := hD0.self (sz := s.heap.size)
  rw [lg_entry_eq]
  refine body p e s m av.toArray below meth c (va_A w0 s.heap.size) _ _ ⟨⟨B.exec, B.bytes, hml, findClass_of_methodNamed B.named, fun w h => hts w (by rw [hw]; exact List.mem_cons_of_mem _ h)⟩, hGd, hK, fun q h => Or.inr h, hEe, hE⟩ (name_of_methodNamed B.named B.method).1 ⟨hP, hD, va_S.rf⟩ (lv_entry av hlen) (fun a H locs pc ls hW hdg => ?_)
  exact W.vret B.exec B.bytes B.returns (fun t ht hw' => ⟨⟨a, rfl, by rw [ht]; exact hW.1, va_K.moved hw'.alike hK, hW.2.1⟩, hW.2.2.F ht⟩) hW.2.2.2.2 hdg
section QA
variable {p : Program} {l : Launch} {e : Env} {R : Room} {s : State} {m : MethodId} {args : Array Value} {below : List Frame} {meth : Method} {c : Code} {H : Heap} {locs : List Loc} {cells slots : Nat} {Q : State → Prop}
variable {cc : ByteArray} {nL : Nat} {Wl : List Cond} {own : String} {D : va_G} {cl : List vw_C} {tys : List (ClassId × FieldType)} {E : (Nat → Prop) → State → Prop} {A : Nat → Prop} {pc : Nat} {ls : Array Slot} {rest : List Value} {β : Type} {z : β} {ws : va_W}
theorem n_objInit (hC : CX p m c cc nL s args Wl own D cl tys E A) {index a : Nat} (hm : Cond.methodLink own index objectInit ∈ Wl) (hi : Cond.instanceMethod objectInit ∈ Wl) (hc : Cond.code objectInit ⟨#[0xb1]⟩ 1 none ∈ Wl) (hml : ls.size = nL) (hroom : 1 ≤ R.frames ∧ (rest.map fun v => v.category).sum + 12 ≤ R.locals) (hdg : decode cc pc = .ok (.invokespecial index, 3)) (kk : W p l e R s m args below meth c H locs cells slots Q (F0 m (pc + 3) ls (rest))) : W p l e R s m args below meth c H locs cells slots Q (F0 m pc ls (.ref a :: rest)) :=
  W.objInit hC.1.1 hC.1.2.1 hC.1.2.2.2.1 (hC.1.2.2.2.2 _ hm) (hC.1.2.2.2.2 _ hi) (hC.1.2.2.2.2 _ hc) rfl (by rw [hC.1.2.2.1]; exact hml) rfl hdg hroom.1 (by show 2 * 0 + _ + 12 ≤ _; have := hroom.2; omega) kk
def FlF (Wl : List Cond) (cl : List vw_C) (own : String) (index ci k : Nat) (ty : FieldType) : Prop := ∃ (C : String) (T : u_T) (N : Nat) (ty0 : Nat → FieldType), cl[ci]? = some (C, T, N) ∧ k < N ∧ (∀ w ∈ u_ws C T N, w ∈ Wl) ∧ Cond.fieldLink own index (T k).1 (T k).2.1 (T k).2.2.1 ∈ Wl ∧ (∀ k, k < N → parseFieldDescriptor (T k).2.2.1 = some (ty0 k)) ∧ (∀ a, a < N → ∀ b, b < N → a ≠ b → (T a).2.1 ≠ (T b).2.1) ∧ (T k).2.2.2 = true ∧ (T k).1 = own ∧ parseFieldDescriptor (T k).2.2.1 = some ty
theorem n_putF (hC : CX p m c cc nL s args Wl own D cl tys E A) (hw : WS D cl A s.heap H locs ws) (hin : meth.name = "<init>") {index ci k a : Nat} {ty : FieldType} (hF : FlF Wl cl own index ci k ty) (q0 : Nat) {fs : List Value} {v : Value} (ws' : va_W) (he : ws[q0]? = some (a, .inr (ci, fs))) (hn : narrow ty v = v) (hfit : fits ty v = true) (hl : k < fs.length) (hdg : decode cc pc = .ok (.putfield index, 3)) (he' : ws.set q0 (a, .inr (ci, fs.set k v)) = ws') (kk : ∀ (H1 : Heap) (locs1 : List Loc), WS D cl A s.heap H1 locs1 ws' → W p l e R s m args below meth c H1 locs1 cells slots Q (F0 m (pc + 3) ls (rest))) : W p l e R s m args below meth c H locs cells slots Q (F0 m pc ls (v :: .ref a :: rest)) := by
  obtain ⟨C, T, N, ty0, h1, h2, h3, h4, h5, h6, h7, h8, h9⟩ := hF
  subst he'
  exact va_putF hC.1.1 hC.1.2.1 hC.1.2.2.2.2 h3 ty0 h5 h6 hC.1.2.2.2.1 hC.2.2.1 hw.1 hw.2.1 hw.2.2 q0 he h1 k h2 (hC.1.2.2.2.2 _ h4) (fun _ h => h) h7 hin h8 h9 hn hfit hl hdg (fun H1 locs1 a b d => kk H1 locs1 ⟨a, b, d⟩)
theorem n_newa (hC : CX p m c cc nL s args Wl own D cl tys E A) (hw : WS D cl A s.heap H locs ws) {atype : ArrayType} {ty : FieldType} (hty : newarray.typeOf atype = ty) (hm : Cond.arrayClass ty ∈ Wl) (t0 : Nat) {cA : ClassId} (ht : tys[t0]? = some (cA, ty)) (hr : ∀ c : ClassId, va_RA s c ty → s.vm.findClass ("[" ++ ty.toString) = some c) {n : Int32} (N' : Nat) (a0 : vp_A) (ws' : Nat → va_W) (ha : ∀ cA : ClassId, vp_cell cA a0 = arrV cA N' (fun _ => defaultValue ty)) (hn : ¬ n < 0) (hN : n.toNatClampNeg = N') (hbytes : N' * componentBytes ty ≤ 536870912) (hcells : cells + 1 ≤ R.cells) (hslots : slots + N' ≤ R.slots) (hdg : decode cc pc = .ok (.newarray atype, 2)) (he' : ∀ q : Nat, ws ++ [(q, .inl (cA, a0))] = ws' q)
    (kk : ∀ (q : Nat) (H1 : Heap), WS D cl A s.heap H1 locs (ws' q) → W p l e R s m args below meth c H1 locs (cells + 1) (slots + N') Q (F0 m (pc + 2) ls (.ref q :: rest))) : W p l e R s m args below meth c H locs cells slots Q (F0 m pc ls (.int n :: rest)) := by
  subst hty
  refine va_newa hC.1.1 hC.1.2.1 (hC.1.2.2.2.2 _ hm) rfl hC.2.2.1 hw.1 hw.2.1 hw.2.2 hC.2.2.2.1 ha hn hN hbytes hcells hslots hdg (fun q cB H1 hK' hP' hD' hS' => ?_)
  have e1 := hr _ (hC.2.2.1.2 t0 _ ht).2
  have e2 := hr _ (hK'.2 tys.length (cB, _) (by rw [List.getElem?_append_right (Nat.le_refl _), Nat.sub_self]; rfl)).2
  have e3 : cB = cA := Option.some.inj (e2.symm.trans e1)
  subst e3
  exact kk q H1 ⟨by rw [← he']; exact hP', by rw [← he']; exact hD', hS'⟩
def FlN (Wl : List Cond) (cl : List vw_C) (own : String) (index ci N : Nat) (fs : List Value) : Prop := ∃ (C : String) (T : u_T) (ty : Nat → FieldType), cl[ci]? = some (C, T, N) ∧ (∀ w ∈ u_ws C T N, w ∈ Wl) ∧ (∀ k, k < N → parseFieldDescriptor (T k).2.2.1 = some (ty k)) ∧ Cond.classLink own index C ∈ Wl ∧ Cond.instantiable C N ∈ Wl ∧ Cond.initialized C ∈ Wl ∧ ∀ j, j < N → defaultValue (ty j) = vp_V fs j
theorem n_new (hC : CX p m c cc nL s args Wl own D cl tys E A) (hw : WS D cl A s.heap H locs ws) {index ci N : Nat} {fs : List Value} (hF : FlN Wl cl own index ci N fs) (ws' : Nat → va_W) (hcells : cells + 1 ≤ R.cells) (hslots : slots + N ≤ R.slots) (hdg : decode cc pc = .ok (.new index, 3)) (he' : ∀ q : Nat, ws ++ [(q, .inr (ci, fs))] = ws' q)
    (kk : ∀ (q : Nat) (H1 : Heap), WS D cl A s.heap H1 locs (ws' q) → W p l e R s m args below meth c H1 locs (cells + 1) (slots + N) Q (F0 m (pc + 3) ls (.ref q :: rest))) : W p l e R s m args below meth c H locs cells slots Q (F0 m pc ls (rest)) := by
  obtain ⟨C, T, ty, h1, h2, h3, h4, h5, h6, h7⟩ := hF
  exact va_new hC.1.1 hC.1.2.1 hC.1.2.2.2.2 h2 ty h3 hC.1.2.2.2.1 (hC.1.2.2.2.2 _ h4) (hC.1.2.2.2.2 _ h5) (hC.1.2.2.2.2 _ h6) hC.2.2.1 hw.1 hw.2.1 hw.2.2 hC.2.2.2.1 h1 h7 hcells hslots hdg (fun q H1 a b d => kk q H1 ⟨by rw [← he']; exact a, by rw [← he']; exact b, d⟩)
end QA
section QB
variable {p : Program} {l : Launch} {e : Env} {R : Room} {s : State} {m : MethodId} {args : Array Value} {below : List Frame} {meth : Method} {c : Code} {H : Heap} {locs : List Loc} {cells slots : Nat} {Q : State → Prop}
variable {cc : ByteArray} {nL : Nat} {Wl : List Cond} {own : String} {D : va_G} {cl : List vw_C} {tys : List (ClassId × FieldType)} {E : (Nat → Prop) → State → Prop} {A : Nat → Prop} {pc : Nat} {ls : Array Slot} {rest : List Value} {ws : va_W}
variable {y : MethodName} {bytes : ByteArray} {maxL n index mc ms : Nat} {wsc : List Cond} {rm : Room} {w0 : va_W} {α : Type} {w1 : α → va_W} {b : Nat} {As : List Value}
def FcI (Wl : List Cond) (own : String) (index : Nat) (y : MethodName) (bytes : ByteArray) (maxL : Nat) (wsc : List Cond) (n : Nat) : Prop := FcB Wl own index y bytes maxL none wsc n ∧ Cond.instanceMethod y ∈ Wl ∧ y.name = "<init>"
theorem n_callI (hC : CX p m c cc nL s args Wl own D cl tys E A) (hw : WS D cl A s.heap H locs ws) (hF : FcI Wl own index y bytes maxL wsc n) (hM : CtA l y wsc rm D cl tys E (.ref b :: As) w0 w1 mc ms) (isC isR : List Nat) (wr : va_W) (hrm : rm.cells = mc ∧ rm.slots = ms) (hR : rm.frames + 1 ≤ R.frames ∧ 8 + (maxL + 11) + rm.locals ≤ R.locals) (hn : va_nd isC = true) (hn2 : va_nd isR = true) (hdis : isR.all (fun i => !isC.contains i) = true) (h0' : At_ ws isC w0) (hr' : At_ ws isR wr) (hlen : As.length = n) (hml : ls.size = nL) (hroom : (rest.map fun v => v.category).sum ≤ 8) (hcs : cells + mc ≤ R.cells ∧ slots + ms ≤ R.slots) (hdg : decode cc pc = .ok (.invokespecial index, 3))
    (kk : ∀ (a : α) (H1 : Heap) (locs1 : List Loc), WS D cl A s.heap H1 locs1 (wr ++ w1 a) → W p l e R s m args below meth c H1 locs1 (cells + mc) (slots + ms) Q (F0 m (pc + 3) ls (rest))) {st0 : List Value} (hst : st0 = As.reverse ++ .ref b :: rest) : W p l e R s m args below meth c H locs cells slots Q (F0 m pc ls st0) := by
  obtain ⟨⟨f1, f2, f3, f4, f5⟩, hi, hin⟩ := hF
  subst hst
  have h0 := h0'.map
  have hCB : CallB R s args own index y bytes maxL none wsc rm mc ms n := by
    refine callB_of n hC.1.2.2.2.2 (fun w hw => ?_) f1 hrm.1 hrm.2 (hC.1.2.2.2.2 _ f4) (hC.1.2.2.2.2 _ f3) f5 hR
    rw [f1] at hw
    rcases List.mem_cons.mp hw with rfl | hw
    · exact ⟨f2, hC.2.1 _ f2⟩
    · exact ⟨hw, hC.2.1 _ hw⟩
  have hr := va_runI (As := As) (rest := rest) (g := F0 m pc ls (As.reverse ++ .ref b :: rest)) hC.1 (hM H.size) ⟨hCB, hin, hC.1.2.2.2.2 _ hi⟩ (nc_pre hC hw isC hn h0 (.ref b :: As)) rfl hlen hml rfl (lv_room hroom) hdg hcs (p := p) (e := e) (below := below) (meth := meth) (locs := locs)
  intro T hT X
  obtain ⟨v, st₀, t, T', L, h0'', X', hL, e1, e2, ⟨⟨a, hv, hP1, hK1, hD1⟩, hz, hk⟩, st⟩ := hr T hT X
  cases hv
  rw [h0''] at hz hk
  have hfree := va_free hw.2.1 hw.2.2 hC.2.2.2.1 isC h0
  have hk' : ∀ q : Nat, q < H.size → ¬ va_A w0 H.size q → T'.heap[q]? = H[q]? := fun q g1 g2 => by rw [e1]; exact hk q g1 g2
  obtain ⟨hPn, hDn⟩ := va_join hw.1 hw.2.1 isC isR h0 hr'.map hn2 (fun i hi1 hi2 => by
    have := List.all_eq_true.mp hdis i hi1
    rw [List.contains_iff_mem.mpr hi2] at this
    cases this) hk' hfree (by rw [e1]; exact hP1) hD1
  obtain ⟨t2, a1, b1⟩ := kk a T'.heap (locs ++ L) ⟨hPn, hDn, Nat.le_trans hw.2.2.1 (by rw [e1]; exact hz), fun q g1 g2 => by
      rw [hk' q (Nat.lt_of_lt_of_le g1 hw.2.2.1) (fun h => g2 (hfree q h))]; exact hw.2.2.2.1 q g1 g2, fun q hq => by
      rcases List.mem_append.mp hq with h | h
      · exact hw.2.2.2.2 q h
      · exact hfree _ (hL q h)⟩ T' rfl X'
  exact ⟨t2, st t2 a1, b1⟩
end QB

