/-! pure: the loader's runs -/
def fr_ (b : Nat → Nat) (k : Nat) : Nat := loN b (65 + 6 * k) 4
def ct_ (b : Nat → Nat) (k : Nat) : Nat := loN b (69 + 6 * k) 2
/-- the sector of the i-th page, in r runs from the k-th on -/
def secAt (b : Nat → Nat) : Nat → Nat → Nat → Nat
  | 0, _, _ => 0
  | r + 1, k, i => if i < ct_ b k then fr_ b k + i else secAt b r (k + 1) (i - ct_ b k)
/-- how many pages r runs from the k-th on have -/
def tot_ (b : Nat → Nat) : Nat → Nat → Nat
  | 0, _ => 0
  | r + 1, k => ct_ b k + tot_ b r (k + 1)
/-- the runs are on the disk -/
def runsOk (S : Nat) (b : Nat → Nat) (r k : Nat) : Prop := ∀ j, k ≤ j → j < k + r → ct_ b j ≠ 0 ∧ fr_ b j + ct_ b j ≤ S
theorem ct_lt {b : Nat → Nat} (hb : ∀ p, b p < 256) (k : Nat) : ct_ b k < 65536 := Nat.lt_of_lt_of_le (loN_lt hb 2 _) (by decide)
theorem fr_lt {b : Nat → Nat} (hb : ∀ p, b p < 256) (k : Nat) : fr_ b k < 2 ^ 32 := loN4 hb _
theorem sec_split (b : Nat → Nat) : ∀ (k k0 r i : Nat), secAt b (k + r) k0 (tot_ b k k0 + i) = secAt b r (k0 + k) i
  | 0, k0, r, i => by
    rw [Nat.zero_add, Nat.add_zero]
    show secAt b r k0 (0 + i) = _
    rw [Nat.zero_add]
  | k + 1, k0, r, i => by
    rw [show k + 1 + r = (k + r) + 1 by omega]
    show (if ct_ b k0 + tot_ b k (k0 + 1) + i < ct_ b k0 then _ else secAt b (k + r) (k0 + 1) (ct_ b k0 + tot_ b k (k0 + 1) + i - ct_ b k0)) = _
    rw [if_neg (by omega), show ct_ b k0 + tot_ b k (k0 + 1) + i - ct_ b k0 = tot_ b k (k0 + 1) + i by omega, sec_split b k (k0 + 1) r i, show k0 + 1 + k = k0 + (k + 1) by omega]
theorem tot_s (b : Nat → Nat) : ∀ (k k0 : Nat), tot_ b (k + 1) k0 = tot_ b k k0 + ct_ b (k0 + k)
  | 0, k0 => by show ct_ b k0 + 0 = 0 + ct_ b (k0 + 0); rw [Nat.add_zero, Nat.zero_add, Nat.add_zero]
  | k + 1, k0 => by
    show ct_ b k0 + tot_ b (k + 1) (k0 + 1) = ct_ b k0 + tot_ b k (k0 + 1) + ct_ b (k0 + (k + 1))
    rw [tot_s b k (k0 + 1), show k0 + 1 + k = k0 + (k + 1) by omega]
    omega
theorem sec_lt {S : Nat} {b : Nat → Nat} : ∀ (r k i : Nat), runsOk S b r k → i < tot_ b r k → secAt b r k i < S
  | 0, _, i, _, h => absurd h (Nat.not_lt_zero i)
  | r + 1, k, i, ho, h => by
    show (if i < ct_ b k then fr_ b k + i else secAt b r (k + 1) (i - ct_ b k)) < S
    have h' : i < ct_ b k + tot_ b r (k + 1) := h
    by_cases hc : i < ct_ b k
    · rw [if_pos hc]
      have := (ho k (by omega) (by omega)).2
      omega
    · rw [if_neg hc]
      exact sec_lt r (k + 1) _ (fun j h1 h2 => ho j (by omega) (by omega)) (by omega)
theorem runAt_loop {S N R : Nat} {d : Nat → Int32} (hS : 100 ≤ S ∧ S ≤ 600) (hN : 8 < N) (hR : mB d 64 = R) (hR20 : R ≤ 20) : ∀ (r k i M : Nat), k + r = R → runsOk S (mB d) r k → i < tot_ (mB d) r k → i < 2 ^ 31 → r < M → lp_ (fun _ _ => none) (f_Model_runAt_L4 N d) M (nI k) (nI i) = some (nI (secAt (mB d) r k i)) := by
  intro r
  induction r with
  | zero => intro k i M _ _ h; exact absurd h (Nat.not_lt_zero i)
  | succ r ih =>
    intro k i M' hk ho hi hi2 hM
    obtain ⟨M, rfl⟩ : ∃ M, M' = M + 1 := ⟨M' - 1, by omega⟩
    have hct := ct_lt (mB_lt d) k
    have hfr := (ho k (by omega) (by omega)).2
    rw [lp_s, f_Model_runAt_L4, show (64 : Int32) = nI 64 from rfl, mget_in (by decide), bd_e, hR, if_neg (nI_ge (by omega) (by omega))]
    dsimp only [lt_]
    rw [show (6 : Int32) * nI k = nI (6 * k) from pk_mul 6 k, show (69 : Int32) + nI (6 * k) = nI (69 + 6 * k) from nI_add 69 _, show (65 : Int32) + nI (6 * k) = nI (65 + 6 * k) from nI_add 65 _, ml 2 (k := 2) rfl (by omega) (by decide) hN, bd_e, lN_i, ml 4 (k := 4) rfl (by omega) (by decide) hN, bd_e, lN_i]
    show (if nI (ct_ (mB d) k) ≤ nI i then lp_ (fun _ _ => none) (f_Model_runAt_L4 N d) M (nI k + 1) (nI i - nI (ct_ (mB d) k)) else some (nI (fr_ (mB d) k) + nI i)) = some (nI (if i < ct_ (mB d) k then fr_ (mB d) k + i else secAt (mB d) r (k + 1) (i - ct_ (mB d) k)))
    have hi' : i < ct_ (mB d) k + tot_ (mB d) r (k + 1) := hi
    by_cases hc : i < ct_ (mB d) k
    · rw [if_neg (nI_ge hc (by omega)), if_pos hc, nI_add]
    · rw [if_pos (nI_le (by omega) hi2), if_neg hc, nI_1, pk_sub (by omega)]
      exact ih (k + 1) _ M (by omega) (fun j h1 h2 => ho j (by omega) (by omega)) (by omega) (by omega) (by omega)
theorem runAt_eq {S N R i : Nat} {d : Nat → Int32} (hS : 100 ≤ S ∧ S ≤ 600) (hN : 400000 ≤ N) (hR : mB d 64 = R) (hR20 : R ≤ 20) (ho : runsOk S (mB d) R 0) (hi : i < tot_ (mB d) R 0) (hi2 : i < 2 ^ 31) : f_Model_runAt N d (nI i) = some (nI (secAt (mB d) R 0 i)) :=
  runAt_loop hS (by omega) hR hR20 R 0 i N (by omega) ho hi hi2 (by omega)
/-- a run's pages are written down, as far as they are wanted -/
theorem collect_in {nd c0 fk ck : Nat} {x : Int32} {k11 : Int32 → Int32 → (Nat → Int32) → Option (Int32 × (Nat → Int32))} (hnd : nd ≤ 18) (hfk : fk + ck ≤ 600) : ∀ (r i c M : Nat) (f : Nat → Int32), i + r = ck → c ≤ nd → r < M → ∃ (m : Nat) (g : Nat → Int32), lp_ (fun _ _ _ => none) (f_Firmware_collectRuns_L79 (lN ck) x k11 (nI nd) (lN fk)) M (nI i) (nI c) f = k11 (x + 1) (nI (c + m)) g ∧ (m = r ∧ c + m ≤ nd ∨ m < r ∧ c + m = nd) ∧ (∀ j, j < c → g j = f j) ∧ ∀ t, t < m → g (c + t) = nI (fk + i + t) := by
  intro r
  induction r with
  | zero =>
    intro i c M' f hi hc hM
    obtain ⟨M, rfl⟩ : ∃ M, M' = M + 1 := ⟨M' - 1, by omega⟩
    rw [lp_s, f_Firmware_collectRuns_L79]
    dsimp only [lt_]
    rw [nI_l (show i < 2 ^ 31 by omega), if_pos (Int32.not_lt.mp (fun q => by
      have := (pk_lLT (by omega) (by omega)).mp ((lgn _ _).mp q)
      omega))]
    exact ⟨0, f, rfl, Or.inl ⟨rfl, by omega⟩, fun j _ => rfl, fun t ht => absurd ht (by omega)⟩
  | succ r ih =>
    intro i c M' f hi hc hM
    obtain ⟨M, rfl⟩ : ∃ M, M' = M + 1 := ⟨M' - 1, by omega⟩
    rw [lp_s, f_Firmware_collectRuns_L79]
    dsimp only [lt_]
    rw [nI_l (show i < 2 ^ 31 by omega), if_neg (Int32.not_le.mpr ((lgn _ _).mpr ((pk_lLT (by omega) (by omega)).mpr (show i < ck by omega))))]
    by_cases h1 : nd ≤ c
    · rw [if_pos (nI_le h1 (by omega))]
      exact ⟨0, f, rfl, Or.inr ⟨by omega, by omega⟩, fun j _ => rfl, fun t ht => absurd ht (by omega)⟩
    · rw [if_neg (nI_ge (by omega) (by omega)), if_neg (show ¬ (18 : Int32) ≤ nI c from nI_ge (a := c) (b := 18) (by omega) (by omega)), lN_i, nI_add, upi_in (by omega) (by decide), nI_1, nI_1]
      obtain ⟨m, g, e, h2, h3, h4⟩ := ih (i + 1) (c + 1) M (upd f c (nI (fk + i))) (by omega) (by omega) (by omega)
      refine ⟨m + 1, g, ?_, ?_, fun j hj => ?_, fun t ht => ?_⟩
      · rw [e, show c + 1 + m = c + (m + 1) by omega]
      · rcases h2 with ⟨a, q⟩ | ⟨a, q⟩
        · exact Or.inl ⟨by omega, by omega⟩
        · exact Or.inr ⟨by omega, by omega⟩
      · rw [h3 j (by omega), pk_un (by omega)]
      · cases t with
        | zero => rw [Nat.add_zero, h3 c (by omega), pk_us, Nat.add_zero]
        | succ t =>
          rw [show c + (t + 1) = c + 1 + t by omega, h4 t (by omega)]
          congr 1
          omega
