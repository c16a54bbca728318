/-! what the entry gives -/
def FG : List Cond := flatC (Jvm.Cond.and given_1 narrow_1)
def tS (i : Nat) : Term := .string (sOwn i) (sIdx i)
def tV (i : Nat) : Term := .field (tS i) "java/lang/String" "value" "[B"
def tGG (k : Nat) : Term := .static "BootMaker" (tNm k) "[I"
theorem m_ex : ∀ i, i < 13 → Cond.exactly (tS i) "java/lang/String" ∈ FG := by decide +kernel
theorem m_co : ∀ i, i < 13 → Cond.eq (.field (tS i) "java/lang/String" "coder" "B") (.int 0) ∈ FG := by decide +kernel
theorem m_ar : ∀ i, i < 13 → Cond.arrayOf (tV i) .byte ∈ FG := by decide +kernel
theorem m_le : ∀ i, i < 13 → Cond.eq (.length (tV i)) (.int (Int32.ofNat (sLen i))) ∈ FG := by decide +kernel
theorem m_el : ∀ i, i < 13 → ∀ j, j < sLen i → Cond.eq (.elem (tV i) (.int (Int32.ofNat j))) (.int (sByt i j)) ∈ FG := by decide +kernel
theorem m_sl : ∀ i, i < 13 → sLen i < 2 ^ 31 := by decide
theorem m_gr : ∀ k, k < 4 → Cond.arrayOf (tGG k) .int ∈ FG := by decide +kernel
theorem m_gl : ∀ k, k < 4 → Cond.eq (.length (tGG k)) (.int (Int32.ofNat (tLen k))) ∈ FG := by decide +kernel
theorem m_ge : ∀ k, k < 4 → ∀ j, j < tLen k → Cond.eq (.elem (tGG k) (.int (Int32.ofNat j))) (.int (tVal k j)) ∈ FG := by decide +kernel
theorem m_gn : ∀ k, k < 4 → tLen k < 2 ^ 31 := by decide
theorem m_cs : Cond.eq (.static "java/lang/String" "COMPACT_STRINGS" "Z") (.int 1) ∈ FG := by decide +kernel
theorem m_si : Cond.isRef (.static "jdk/internal/util/Preconditions" "SIOOBE_FORMATTER" "Ljava/util/function/BiFunction;") ∈ FG := by decide +kernel
theorem m_us : Cond.isRef (.static Bundle.tN "UNASSIGNED_STACK" Bundle.steD) ∈ FG := by decide +kernel
theorem m_ss : Cond.isRef (.static Bundle.tN "SUPPRESSED_SENTINEL" Bundle.listD) ∈ FG := by decide +kernel
theorem inT {w : Cond} (k : Nat) (h : tables_1[k]? = some w) : w ∈ lw_tbl := List.mem_append_right _ (List.mem_of_getElem? h)
set_option maxRecDepth 100000 in
theorem m_sr : ∀ i, i < 13 → Cond.stringRef (sOwn i) (sIdx i) (sTx i) ∈ lw_tbl := fun i hi => match i, hi with
  | 0, _ => inT 391 rfl
  | 1, _ => inT 444 rfl
  | 2, _ => inT 477 rfl
  | 3, _ => inT 478 rfl
  | 4, _ => inT 505 rfl
  | 5, _ => inT 515 rfl
  | 6, _ => inT 516 rfl
  | 7, _ => inT 536 rfl
  | 8, _ => inT 618 rfl
  | 9, _ => inT 708 rfl
  | 10, _ => inT 729 rfl
  | 11, _ => inT 746 rfl
  | 12, _ => inT 767 rfl
  | (q + 13), h => absurd h (by omega)
set_option maxRecDepth 100000 in
theorem m_ls : ∀ k, k < 4 → Cond.laysStatic "BootMaker" (tNm k) "[I" ∈ lw_tbl := fun i hi => match i, hi with
  | 0, _ => inT 474 rfl
  | 1, _ => inT 476 rfl
  | 2, _ => inT 482 rfl
  | 3, _ => inT 454 rfl
  | (q + 4), h => absurd h (by omega)
set_option maxRecDepth 100000 in
theorem m_nl : ∀ k, k < 6 → Cond.fieldLinkNest (nOwn k) (nIdx k) "BootMaker" (nNm k) "[I" "BootMaker" ∈ lw_tbl := fun i hi => match i, hi with
  | 0, _ => inT 453 rfl
  | 1, _ => inT 473 rfl
  | 2, _ => inT 475 rfl
  | 3, _ => inT 481 rfl
  | 4, _ => inT 671 rfl
  | 5, _ => inT 689 rfl
  | (q + 6), h => absurd h (by omega)
set_option maxRecDepth 100000 in
theorem m_w1 : Cond.laysStatic "java/lang/String" "COMPACT_STRINGS" "Z" ∈ lw_tbl ∧ Cond.laysStatic "jdk/internal/util/Preconditions" "SIOOBE_FORMATTER" "Ljava/util/function/BiFunction;" ∈ lw_tbl ∧ Cond.laysStatic Bundle.tN "UNASSIGNED_STACK" Bundle.steD ∈ lw_tbl ∧ Cond.laysStatic Bundle.tN "SUPPRESSED_SENTINEL" Bundle.listD ∈ lw_tbl := ⟨inT 404 rfl, inT 420 rfl, inT 605 rfl, inT 607 rfl⟩
set_option maxRecDepth 100000 in
theorem m_w2 : Cond.initialized "java/lang/String" ∈ lw_tbl ∧ Cond.initialized "jdk/internal/util/Preconditions" ∈ lw_tbl ∧ Cond.initialized Bundle.tN ∈ lw_tbl ∧ Cond.initialized "BootMaker" ∈ lw_tbl := ⟨inT 10 rfl, inT 12 rfl, inT 14 rfl, inT 1 rfl⟩
set_option maxRecDepth 100000 in
theorem m_w3 : Cond.declares (Bundle.initS "java/lang/RuntimeException") ∈ lw_tbl ∧ Cond.declares (Bundle.initS "java/lang/Exception") ∈ lw_tbl ∧ Cond.declares (Bundle.initS Bundle.tN) ∈ lw_tbl ∧ Cond.castable tIA tIA ∈ lw_tbl ∧ Cond.castable tNS tNS ∈ lw_tbl := ⟨inT 582 rfl, inT 584 rfl, inT 586 rfl, inT 580 rfl, inT 760 rfl⟩
theorem e_SS {b : Nat} {s : State} {A : Nat → Prop} (hgv : (Jvm.Cond.and given_1 narrow_1).before #[Value.ref b] s = true) (hts : ∀ w ∈ lw_tbl, w.before #[Value.ref b] s = true) (hA : ∀ a : Nat, a < s.heap.size → ¬ A a) : ∃ X : XT, SS X A s := by
  have hg : ∀ w ∈ FG, w.before #[Value.ref b] s = true := flat_of_before _ hgv
  have hZ1 : va_Z "java/lang/String" "COMPACT_STRINGS" "Z" (.int 1) A s s.heap := va_Zof (hts _ m_w1.1) (hts _ m_w2.1) (va_eqi (hg _ m_cs)) hA
  have hZ2 : va_Zq "jdk/internal/util/Preconditions" "SIOOBE_FORMATTER" "Ljava/util/function/BiFunction;" A s s.heap := va_Zqof (hts _ m_w1.2.1) (hts _ m_w2.2.1) (hg _ m_si) hA
  have h0 : ∀ i : Nat, ∃ q : Nat × Nat, i < 13 → (tS i).eval #[Value.ref b] s none [] s = some (.ref q.1) ∧ StrAt q.1 q.2 (sLen i) (sByt i) A s := by
    intro i
    by_cases hi : i < 13
    · obtain ⟨a, c, cA, kA, q1, q2, q3, q4, q5, q6, -⟩ := Cond.exactly_spec (args := #[Value.ref b]) (first := s) (o := none) (s := s) (idx := []) (t := tS i) (cls := "java/lang/String") (hg _ (m_ex i hi))
      obtain ⟨t, ht, hT⟩ := va_Tof (f := fun j => .int (sByt i j)) (A := A) (m_sl i hi) (hg _ (m_ar i hi)) (va_eqt (hg _ (m_le i hi))) (fun j hj => va_eqt (hg _ (m_el i hi j hj))) hA
      exact ⟨(a, t), fun _ => ⟨q1, ⟨cA, q3, q5, by rw [q6]; exact q2, hA a (Array.getElem?_eq_some_iff.mp q3).1⟩, vk_OFof q1 (va_eqt (hg _ (m_co i hi))) hA, vk_OFof q1 ht hA, hT, hZ1, hZ2⟩⟩
    · exact ⟨(0, 0), fun h => absurd h hi⟩
  obtain ⟨ad, had⟩ := Classical.axiomOfChoice h0
  have h1 : ∀ k : Nat, ∃ t : Nat, k < 4 → va_Z "BootMaker" (tNm k) "[I" (.ref t) A s s.heap ∧ va_T .int t (tLen k) (fun j => .int (tVal k j)) A s s.heap := by
    intro k
    by_cases hk : k < 4
    · obtain ⟨t, ht, hT⟩ := va_Tof (f := fun j => .int (tVal k j)) (A := A) (m_gn k hk) (hg _ (m_gr k hk)) (va_eqt (hg _ (m_gl k hk))) (fun j hj => va_eqt (hg _ (m_ge k hk j hj))) hA
      exact ⟨t, fun _ => ⟨va_Zof (hts _ (m_ls k hk)) (hts _ m_w2.2.2.2) ht hA, hT⟩⟩
    · exact ⟨0, fun h => absurd h hk⟩
  obtain ⟨tb, htb⟩ := Classical.axiomOfChoice h1
  exact ⟨(tb, fun i => (ad i).1, fun i => (ad i).2), fun i hi => (had i hi).2, fun i hi => vk_R.of (hts _ (m_sr i hi)) (had i hi).1, fun k hk => htb k hk, fun k hk => va_Nw.of rfl (hts _ (m_nl k hk))⟩
theorem e_Th {b : Nat} {s : State} {A : Nat → Prop} (hgv : (Jvm.Cond.and given_1 narrow_1).before #[Value.ref b] s = true) (hts : ∀ w ∈ lw_tbl, w.before #[Value.ref b] s = true) (hA : ∀ a : Nat, a < s.heap.size → ¬ A a) : ETh A s := by
  have hg : ∀ w ∈ FG, w.before #[Value.ref b] s = true := flat_of_before _ hgv
  exact ⟨⟨LSt.of (hts _ m_w1.2.2.1) hA, LSt.of (hts _ m_w1.2.2.2) hA⟩, ⟨va_Zqof (hts _ m_w1.2.2.1) (hts _ m_w2.2.2.1) (hg _ m_us) hA, va_Zqof (hts _ m_w1.2.2.2) (hts _ m_w2.2.2.1) (hg _ m_ss) hA⟩, ⟨va_Nw.of rfl (hts _ m_w3.1), va_Nw.of rfl (hts _ m_w3.2.1), va_Nw.of rfl (hts _ m_w3.2.2.1)⟩, va_Nw.of rfl (hts _ m_w3.2.2.2.1), va_Nw.of rfl (hts _ m_w3.2.2.2.2)⟩
theorem e_arr {s : State} {args : Array Value} {ty : FieldType} (h : (Cond.arrayClass ty).before args s = true) : ∃ c : ClassId, ArrOfT s c ty ∧ s.vm.findClass ("[" ++ ty.toString) = some c := by
  obtain ⟨c, kA, comp, h1, h2, h3⟩ := Cond.arrayClass_spec (args := args) (first := s) (o := none) (s := s) (idx := []) h
  exact ⟨c, fun n z => ⟨fun k h => (by cases h), kA, h2, comp, h3⟩, h1⟩
set_option maxRecDepth 100000 in
theorem e_K {s : State} {args : Array Value} (hts : ∀ w ∈ Wall, w.before args s = true) : ∃ g : GT, va_K g.1 classes (tK g) s := by
  have h0 : ∀ c : Nat, ∃ q : ClassId × (Nat → Nat), ∀ z : vw_C, classes[c]? = some z → u_Kn s z.1 z.2.1 z.2.2 q.1 q.2 := by
    have mk : ∀ (z : vw_C) (n : Nat), (∀ w ∈ u_ws z.1 z.2.1 z.2.2, w ∈ Wall) → Cond.instantiable z.1 n ∈ Wall → ∃ q : ClassId × (Nat → Nat), ∀ y : vw_C, some z = some y → u_Kn s y.1 y.2.1 y.2.2 q.1 q.2 := fun z n hin hi => by
      obtain ⟨cC, iS, h⟩ := u_known hts hin (hts _ hi)
      exact ⟨(cC, iS), fun y e => by cases e; exact h⟩
    intro c
    match c with
    | 0 => exact mk (R_Store, F_Store, 2) 2 in_Store (inW 28 rfl rfl)
    | 1 => exact mk (R_Sums, F_Sums, 2) 2 in_Sums (inW 43 rfl rfl)
    | 2 => exact mk (R_Plan, F_Plan, 11) 11 in_Plan (inW 58 rfl rfl)
    | 3 => exact mk (R_Volume, F_Volume, 9) 9 in_Volume (inW 117 rfl rfl)
    | 4 => exact mk (R_Writer, F_Writer, 5) 5 in_Writer (inW 111 rfl rfl)
    | 5 => exact mk (R_Firmware, F_Firmware, 13) 13 in_Firmware (inW 175 rfl rfl)
    | 6 => exact mk (R_BootMaker, F_BootMaker, 5) 5 in_BootMaker (inW 20 rfl rfl)
    | 7 => exact mk (R_Model, F_Model, 24) 24 in_Model (inW 775 rfl rfl)
    | (n + 8) => exact ⟨(0, fun _ => 0), fun z h => by cases h⟩
  obtain ⟨D, hD⟩ := Classical.axiomOfChoice h0
  obtain ⟨c1, a1, b1⟩ := e_arr (hts _ ac_int)
  obtain ⟨c2, a2, b2⟩ := e_arr (hts _ ac_long)
  obtain ⟨c3, a3, b3⟩ := e_arr (hts _ ac_boolean)
  obtain ⟨c4, a4, b4⟩ := e_arr (hts _ ac_byte)
  refine ⟨((fun c => (D c).1, fun c => (D c).2), (c1, c2, c3, c4)), fun c q h => hD c q h, fun k q h => ?_⟩
  match k, h with
  | 0, h => cases h; exact ⟨a1, b1⟩
  | 1, h => cases h; exact ⟨a2, b2⟩
  | 2, h => cases h; exact ⟨a3, b3⟩
  | 3, h => cases h; exact ⟨a4, b4⟩
  | (n + 4), h => cases h
theorem e_X {b L : Nat} {xs : Nat → Int32} {s : State} {A : Nat → Prop} (h : va_X b L xs s s.heap) (hA : ∀ a : Nat, a < s.heap.size → ¬ A a) : va_T .int b L (fun j => .int (xs j)) A s s.heap := by
  obtain ⟨scr, h1, h2, h3, h4, h5⟩ := h
  exact ⟨scr, h1, h2, h3, Nat.le_of_eq h4.symm, by rw [h4], h5, hA b (Array.getElem?_eq_some_iff.mp h1).1⟩
