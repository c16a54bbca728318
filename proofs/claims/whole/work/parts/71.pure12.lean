/-! pure: the boot entry is found alike -/
theorem lgp (x y : Int64) : 0 < lg_cmp x y ↔ y < x := by
  unfold lg_cmp
  by_cases h1 : x > y
  · rw [if_pos h1]; exact ⟨fun _ => h1, fun _ => by decide⟩
  · rw [if_neg h1]
    refine ⟨fun q => ?_, fun q => absurd q h1⟩
    by_cases h2 : x = y
    · rw [if_pos h2] at q; exact absurd q (by decide)
    · rw [if_neg h2] at q; exact absurd q (by decide)
theorem ent_cmp {S f l : Nat} (hS : 100 ≤ S ∧ S ≤ 600) (hf : f < 2 ^ 64) (hl : l < 2 ^ 64) : (¬ lg_cmp (lN f) 0 < 0 ∧ ¬ 0 < lg_cmp (lN f) (lN l) ∧ lg_cmp (lN l) (lN S) < 0) ↔ f ≤ l ∧ l < S := by
  rw [lgn, lgp, lgn]
  constructor
  · rintro ⟨h1, h2, h3⟩
    obtain ⟨a, ha, ea⟩ := pk_lOf h1
    have := lN_inj hf (by omega) ea
    subst this
    have h4 : ¬ lN l < 0 := fun q => h2 (Int64.lt_of_lt_of_le q (Int64.not_lt.mp h1))
    obtain ⟨c, hc, ec⟩ := pk_lOf h4
    have := lN_inj hl (by omega) ec
    subst this
    refine ⟨Nat.not_lt.mp (fun q => h2 ((pk_lLT hc ha).mpr q)), (pk_lLT hc (by omega)).mp h3⟩
  · rintro ⟨h1, h2⟩
    refine ⟨fun q => ?_, fun q => ?_, (pk_lLT (by omega) (by omega)).mpr h2⟩
    · rw [show (0 : Int64) = lN 0 from rfl] at q
      exact absurd ((pk_lLT (by omega) (by omega)).mp q) (by omega)
    · exact absurd ((pk_lLT (by omega) (by omega)).mp q) (by omega)
theorem ent_neg {S f l : Nat} (hS : 100 ≤ S ∧ S ≤ 600) (hl : l < 2 ^ 64) (h : f ≤ l ∧ l < S) : ¬ lg_cmp (lN l) 0 < 0 := by
  rw [lgn]
  intro q
  rw [show (0 : Int64) = lN 0 from rfl] at q
  exact absurd ((pk_lLT (by omega) (by omega)).mp q) (by omega)
theorem six_eq : ∀ i, i < 16 → f_Model_sixteen (nI i) 0 = some (tVal 0 i) := by decide +kernel
/-- an entry that boots -/
def entOk (S : Nat) (b : Nat → Nat) (q : Nat) : Prop := rowIs b q (tVal 0) 16 ∧ loN b (q + 32) 8 ≤ loN b (q + 40) 8 ∧ loN b (q + 40) 8 < S
theorem row_loop {S N q : Nat} {d : Nat → Int32} (hq : q + 16 ≤ 307200) {x1329 x1254 : Int32} {k97 : Int32 → Option (Int32 × Int32 × Int32)} : ∀ (r i M : Nat) (x : Int32), (x = 0 ∨ x = 1) → i + r = 16 → r < M → ∃ y : Int32, lp_ (fun _ _ => none) (f_Model_byTable_L118 N (nI q) d x1329 k97 (nI S) x1254) M (nI i) x = f_Model_byTable_L118 N (nI q) d x1329 k97 (nI S) x1254 (fun _ _ => none) 16 y ∧ (y = 1 ∧ (x = 1 ∧ ∀ j, i ≤ j → j < 16 → nI (mB d (q + j)) = tVal 0 j) ∨ y = 0 ∧ ¬ (x = 1 ∧ ∀ j, i ≤ j → j < 16 → nI (mB d (q + j)) = tVal 0 j)) := by
  intro r
  induction r with
  | zero =>
    intro i M' x hx hi hM
    obtain ⟨M, rfl⟩ : ∃ M, M' = M + 1 := ⟨M' - 1, by omega⟩
    have : i = 16 := by omega
    subst this
    refine ⟨x, ?_, ?_⟩
    · rw [lp_s, f_Model_byTable_L118, f_Model_byTable_L118, if_pos (show (16 : Int32) ≤ nI 16 by decide), if_pos (show (16 : Int32) ≤ 16 by decide)]
    · rcases hx with rfl | rfl
      · exact Or.inr ⟨rfl, fun z => absurd z.1 (by decide)⟩
      · exact Or.inl ⟨rfl, rfl, fun j h1 h2 => absurd h2 (by omega)⟩
  | succ r ih =>
    intro i M' x hx hi hM
    obtain ⟨M, rfl⟩ : ∃ M, M' = M + 1 := ⟨M' - 1, by omega⟩
    rw [lp_s, f_Model_byTable_L118, if_neg (show ¬ (16 : Int32) ≤ nI i from nI_ge (a := i) (b := 16) (by omega) (by omega))]
    dsimp only [lt_]
    rw [nI_1]
    rcases hx with rfl | rfl
    · rw [if_pos (show (0 : Int32) = 0 from rfl)]
      obtain ⟨y, hy, hh⟩ := ih (i + 1) M 0 (Or.inl rfl) (by omega) (by omega)
      refine ⟨y, hy, ?_⟩
      rcases hh with ⟨-, z, -⟩ | ⟨e, -⟩
      · exact absurd z (by decide)
      · exact Or.inr ⟨e, fun z => absurd z.1 (by decide)⟩
    · rw [if_neg (show ¬ (1 : Int32) = 0 by decide), nI_add, mget_in (by omega), bd_e, six_eq i (by omega), bd_e]
      by_cases h : nI (mB d (q + i)) = tVal 0 i
      · rw [if_neg (not_not_intro h)]
        obtain ⟨y, hy, hh⟩ := ih (i + 1) M 1 (Or.inr rfl) (by omega) (by omega)
        refine ⟨y, hy, ?_⟩
        rcases hh with ⟨e, z, hh⟩ | ⟨e, hh⟩
        · refine Or.inl ⟨e, rfl, fun j h1 h2 => ?_⟩
          by_cases hj : j = i
          · rw [hj]; exact h
          · exact hh j (by omega) h2
        · exact Or.inr ⟨e, fun z => hh ⟨rfl, fun j h1 h2 => z.2 j (by omega) h2⟩⟩
      · rw [if_pos h]
        obtain ⟨y, hy, hh⟩ := ih (i + 1) M 0 (Or.inl rfl) (by omega) (by omega)
        refine ⟨y, hy, ?_⟩
        rcases hh with ⟨-, z, -⟩ | ⟨e, -⟩
        · exact absurd z (by decide)
        · exact Or.inr ⟨e, fun z => h (z.2 i (Nat.le_refl _) (by omega))⟩
theorem ent_model {S N q : Nat} (hS : 100 ≤ S ∧ S ≤ 600) (hN : 400000 ≤ N) (hq : q + 128 ≤ 512 * S) {d : Nat → Int32} {x hd : Int32} {k97 : Int32 → Option (Int32 × Int32 × Int32)} : (entOk S (mB d) q ∧ lp_ (fun _ _ => none) (f_Model_byTable_L118 N (nI q) d x k97 (nI S) hd) N 0 1 = some (0, hd, nI (loN (mB d) (q + 32) 8))) ∨ (¬ entOk S (mB d) q ∧ lp_ (fun _ _ => none) (f_Model_byTable_L118 N (nI q) d x k97 (nI S) hd) N 0 1 = k97 (x + 1)) := by
  obtain ⟨y, hy, hh⟩ := row_loop (S := S) (N := N) (q := q) (d := d) (x1329 := x) (x1254 := hd) (k97 := k97) (by omega) 16 0 N 1 (Or.inr rfl) (by omega) (by omega)
  have hy' : lp_ (fun _ _ => none) (f_Model_byTable_L118 N (nI q) d x k97 (nI S) hd) N 0 1 = _ := hy
  rw [hy', f_Model_byTable_L118, if_pos (show (16 : Int32) ≤ 16 by decide)]
  dsimp only [lt_]
  rw [show nI q + 32 = nI (q + 32) from nI_add _ 32, show nI q + 40 = nI (q + 40) from nI_add _ 40, ml 8 (k := 8) rfl (by omega) (by decide) (by omega), bd_e, ml 8 (k := 8) rfl (by omega) (by decide) (by omega), bd_e, nI_l (show S < 2 ^ 31 by omega), lN_i]
  have b1 := loN8 (mB_lt d) (q + 32)
  have b2 := loN8 (mB_lt d) (q + 40)
  have hc := ent_cmp hS b1 b2
  unfold entOk
  rcases hh with ⟨rfl, -, hr⟩ | ⟨rfl, hr⟩
  · have hrow : rowIs (mB d) q (tVal 0) 16 := fun j hj => hr j (by omega) hj
    rw [if_neg (show ¬ (1 : Int32) = 0 by decide)]
    by_cases h1 : lg_cmp (lN (loN (mB d) (q + 32) 8)) 0 < 0
    · rw [if_pos h1]; exact Or.inr ⟨fun z => (hc.mpr z.2).1 h1, rfl⟩
    · rw [if_neg h1]
      by_cases h2 : lg_cmp (lN (loN (mB d) (q + 40) 8)) 0 < 0
      · rw [if_pos h2]; exact Or.inr ⟨fun z => ent_neg hS b2 z.2 h2, rfl⟩
      · rw [if_neg h2]
        by_cases h3 : 0 < lg_cmp (lN (loN (mB d) (q + 32) 8)) (lN (loN (mB d) (q + 40) 8))
        · rw [if_pos h3]; exact Or.inr ⟨fun z => (hc.mpr z.2).2.1 h3, rfl⟩
        · rw [if_neg h3]
          by_cases h4 : lg_cmp (lN (loN (mB d) (q + 40) 8)) (lN S) < 0
          · rw [if_pos h4]; exact Or.inl ⟨⟨hrow, hc.mp ⟨h1, h3, h4⟩⟩, rfl⟩
          · rw [if_neg h4]; exact Or.inr ⟨fun z => h4 (hc.mpr z.2).2.2, rfl⟩
  · rw [if_pos (show (0 : Int32) = 0 from rfl)]
    exact Or.inr ⟨fun z => hr ⟨rfl, fun j _ hj => z.1 j hj⟩, rfl⟩
theorem ent_class {S N q : Nat} (hS : 100 ≤ S ∧ S ≤ 600) (hN : 400000 ≤ N) (hq : q + 128 ≤ 512 * S) {w : Nat → Int64} {P : Nat} {k2 : Int32 → Option Int32} {i : Nat} (hi : i < 128) (hPi : P + 128 * i = q) : (entOk S (gB w) q ∧ f_Firmware_bootStartIn_L2 N (nI P) (nI (512 * S)) (64 * S) w (nI S) k2 (nI i) = some (nI (loN (gB w) (q + 32) 8))) ∨ (¬ entOk S (gB w) q ∧ f_Firmware_bootStartIn_L2 N (nI P) (nI (512 * S)) (64 * S) w (nI S) k2 (nI i) = k2 (nI (i + 1))) := by
  rw [f_Firmware_bootStartIn_L2, if_neg (show ¬ (128 : Int32) ≤ nI i from nI_ge (a := i) (b := 128) (by omega) (by omega))]
  dsimp only [lt_]
  rw [show nI i * 128 = nI (128 * i) from by rw [show (128 : Int32) = nI 128 from rfl, pk_mul, Nat.mul_comm], nI_add, hPi, nI_1]
  obtain ⟨z, hz, hrow⟩ := holds_eq (w := w) (f := tVal 0) (p := q) (k := 16) (len := 512 * S) (n := 64 * S) (N := N) (by omega) (by omega) (by omega) (by omega)
  rw [hz, bd_e, show nI q + 32 = nI (q + 32) from nI_add _ 32, show nI q + 40 = nI (q + 40) from nI_add _ 40, cl 8 (k := 8) rfl (by omega) (by omega) (by omega) (by decide) (by omega), bd_e, cl 8 (k := 8) rfl (by omega) (by omega) (by omega) (by decide) (by omega), bd_e, nI_l (show S < 2 ^ 31 by omega), lN_i]
  have b1 := loN8 (gB_lt w) (q + 32)
  have b2 := loN8 (gB_lt w) (q + 40)
  have hc := ent_cmp hS b1 b2
  unfold entOk
  rcases hrow with ⟨rfl, hrow⟩ | ⟨rfl, hrow⟩
  · rw [if_neg (show ¬ (1 : Int32) = 0 by decide)]
    by_cases h1 : lg_cmp (lN (loN (gB w) (q + 32) 8)) 0 < 0
    · rw [if_pos h1]; exact Or.inr ⟨fun z => (hc.mpr z.2).1 h1, rfl⟩
    · rw [if_neg h1]
      by_cases h3 : 0 < lg_cmp (lN (loN (gB w) (q + 32) 8)) (lN (loN (gB w) (q + 40) 8))
      · rw [if_pos h3]; exact Or.inr ⟨fun z => (hc.mpr z.2).2.1 h3, rfl⟩
      · rw [if_neg h3]
        by_cases h4 : 0 ≤ lg_cmp (lN (loN (gB w) (q + 40) 8)) (lN S)
        · rw [if_pos h4]; exact Or.inr ⟨fun z => (Int32.not_le.mpr (hc.mpr z.2).2.2) h4, rfl⟩
        · rw [if_neg h4]; exact Or.inl ⟨⟨hrow, hc.mp ⟨h1, h3, Int32.not_le.mp h4⟩⟩, rfl⟩
  · rw [if_pos (show (0 : Int32) = 0 from rfl)]
    exact Or.inr ⟨fun z => hrow z.1, rfl⟩
theorem ent_congr {S q : Nat} {b b' : Nat → Nat} (hq : q + 128 ≤ 512 * S) (hD : ∀ p, p < 512 * S → b p = b' p) (h : entOk S b q) : entOk S b' q := by
  have lo : ∀ p k, p + k ≤ 512 * S → loN b p k = loN b' p k := fun p k hp => loN_congr k p (fun q h1 h2 => hD q (by omega))
  obtain ⟨h0, h1, h2⟩ := h
  refine ⟨fun j hj => ?_, ?_, ?_⟩
  · rw [← hD _ (by omega)]; exact h0 j hj
  · rw [← lo _ _ (by omega), ← lo _ _ (by omega)]; exact h1
  · rw [← lo _ _ (by omega)]; exact h2
theorem find_loop {S N P : Nat} (hS : 100 ≤ S ∧ S ≤ 600) (hN : 400000 ≤ N) (hP : P + 16384 ≤ 512 * S) {w : Nat → Int64} {d : Nat → Int32} (hD : Alike_ S w d) (hd fnd : Int32) : ∀ (r i M : Nat), i + r = 128 → r < M → ∃ z : Int32, lp_ (fun _ => none) (f_Firmware_bootStartIn_L2 N (nI P) (nI (512 * S)) (64 * S) w (nI S)) M (nI i) = some z ∧ lp_ (fun _ => none) (f_Model_byTable_L97 N hd fnd (nI P) d (nI S)) M (nI i) = some (if z = -1 then (4, hd, fnd) else (0, hd, z)) ∧ (z = -1 ∨ ∃ f, f < S ∧ z = nI f) := by
  intro r
  induction r with
  | zero =>
    intro i M' hi hM
    obtain ⟨M, rfl⟩ : ∃ M, M' = M + 1 := ⟨M' - 1, by omega⟩
    rw [lp_s, lp_s, f_Firmware_bootStartIn_L2, f_Model_byTable_L97, if_pos (show (128 : Int32) ≤ nI i from nI_le (a := 128) (b := i) (by omega) (by omega)), if_pos (show (128 : Int32) ≤ nI i from nI_le (a := 128) (b := i) (by omega) (by omega))]
    exact ⟨-1, rfl, by rw [if_pos rfl], Or.inl rfl⟩
  | succ r ih =>
    intro i M' hi hM
    obtain ⟨M, rfl⟩ : ∃ M, M' = M + 1 := ⟨M' - 1, by omega⟩
    obtain ⟨z, z1, z2, z3⟩ := ih (i + 1) M (by omega) (by omega)
    rw [lp_s, lp_s, f_Model_byTable_L97, if_neg (show ¬ (128 : Int32) ≤ nI i from nI_ge (a := i) (b := 128) (by omega) (by omega))]
    dsimp only [lt_]
    rw [show (128 : Int32) * nI i = nI (128 * i) from pk_mul 128 i, nI_add]
    have c1 := ent_class (w := w) (k2 := lp_ (fun _ => none) (f_Firmware_bootStartIn_L2 N (nI P) (nI (512 * S)) (64 * S) w (nI S)) M) hS hN (q := P + 128 * i) (by omega) (i := i) (by omega) rfl
    have c2 := ent_model (d := d) (x := nI i) (hd := hd) (k97 := lp_ (fun _ => none) (f_Model_byTable_L97 N hd fnd (nI P) d (nI S)) M) hS hN (q := P + 128 * i) (by omega)
    rw [nI_1] at c2
    rcases c1 with ⟨o1, e1⟩ | ⟨o1, e1⟩ <;> rcases c2 with ⟨o2, e2⟩ | ⟨o2, e2⟩
    · have el : loN (gB w) (P + 128 * i + 32) 8 = loN (mB d) (P + 128 * i + 32) 8 := loN_congr 8 _ (fun q h1 h2 => hD q (by omega))
      have hlt : loN (gB w) (P + 128 * i + 32) 8 < S := Nat.lt_of_le_of_lt o1.2.1 o1.2.2
      refine ⟨_, e1, ?_, Or.inr ⟨_, hlt, rfl⟩⟩
      rw [e2, if_neg (fun h => nI_pos (n := loN (gB w) (P + 128 * i + 32) 8) (by omega) (by rw [h]; decide)), el]
    · exact absurd (ent_congr (by omega) hD o1) o2
    · exact absurd (ent_congr (by omega) (fun q hq => (hD q hq).symm) o2) o1
    · rw [e1, e2]
      exact ⟨z, z1, z2, z3⟩
