/-! pure: a header is good: both sides -/
theorem cl {len n p k N : Nat} {w : Nat → Int64} (kk : Int32) (hkk : kk = nI k) (hp : p + k ≤ len) (hl : len ≤ 8 * n) (hn : n < 2 ^ 27) (hk : k ≤ 8) (hN : 8 < N) : f_Store_getLow N kk (nI p) (nI len) n w = some (lN (loN (gB w) p k)) := by
  rw [hkk]; exact getLow_eq hp hl hn hk (by omega)
theorem ml {p k N : Nat} {d : Nat → Int32} (kk : Int32) (hkk : kk = nI k) (hp : p + k ≤ 307200) (hk : k ≤ 8) (hN : 8 < N) : f_Model_lowAt N kk (nI p) d = some (lN (loN (mB d) p k)) := by
  rw [hkk]; exact lowAt_eq hp hk (by omega)
theorem loN_congr {b b' : Nat → Nat} : ∀ (k p : Nat), (∀ q, p ≤ q → q < p + k → b q = b' q) → loN b p k = loN b' p k
  | 0, _, _ => rfl
  | k + 1, p, h => by
    show b p + 256 * loN b (p + 1) k = b' p + 256 * loN b' (p + 1) k
    rw [h p (by omega) (by omega), loN_congr k (p + 1) (fun q h1 h2 => h q (by omega) (by omega))]
theorem lN_inj {x y : Nat} (hx : x < 2 ^ 64) (hy : y < 2 ^ 64) (h : lN x = lN y) : x = y := by
  have := congrArg (fun z : Int64 => z.toBitVec.toNat) h
  simp only [wb_tn hx, wb_tn hy] at this
  exact this
theorem lgz (x y : Int64) : lg_cmp x y = 0 ↔ x = y := by
  unfold lg_cmp
  by_cases h1 : x > y
  · rw [if_pos h1]
    refine ⟨fun q => absurd q (by decide), fun q => ?_⟩
    rw [q] at h1
    exact absurd h1 Int64.lt_irrefl
  · rw [if_neg h1]
    by_cases h2 : x = y
    · rw [if_pos h2]; exact ⟨fun _ => h2, fun _ => rfl⟩
    · rw [if_neg h2]; exact ⟨fun q => absurd q (by decide), fun q => absurd q h2⟩
theorem lgn (x y : Int64) : lg_cmp x y < 0 ↔ x < y := by
  unfold lg_cmp
  by_cases h1 : x > y
  · rw [if_pos h1]
    exact ⟨fun q => absurd q (by decide), fun q => absurd (Int64.lt_trans q h1) Int64.lt_irrefl⟩
  · rw [if_neg h1]
    by_cases h2 : x = y
    · rw [if_pos h2]
      refine ⟨fun q => absurd q (by decide), fun q => ?_⟩
      rw [h2] at q
      exact absurd q Int64.lt_irrefl
    · rw [if_neg h2]
      refine ⟨fun _ => ?_, fun _ => by decide⟩
      have h3 := Int64.not_lt.mp h1
      rcases Int64.lt_or_eq_of_le h3 with h | h
      · exact h
      · exact absurd h h2
theorem lgl (x y : Int64) : lg_cmp x y ≤ 0 ↔ x ≤ y := by
  constructor
  · intro h
    by_cases h1 : x > y
    · unfold lg_cmp at h
      rw [if_pos h1] at h
      exact absurd h (by decide)
    · exact Int64.not_lt.mp h1
  · intro h
    unfold lg_cmp
    rw [if_neg (Int64.not_lt.mpr h)]
    by_cases h2 : x = y
    · rw [if_pos h2]; decide
    · rw [if_neg h2]; decide
/-- the bytes from p on are the row's -/
def rowIs (b : Nat → Nat) (p : Nat) (f : Nat → Int32) (n : Nat) : Prop := ∀ j, j < n → nI (b (p + j)) = f j
theorem holds_loop {len n p k : Nat} {w : Nat → Int64} {f : Nat → Int32} (hp : p + k ≤ len) (hl : len ≤ 8 * n) (hn : n < 2 ^ 27) : ∀ (r i N : Nat), i + r = k → r < N → ∃ z : Int32, lp_ (fun _ => none) (f_Store_holdsRow_L2 k (nI p) (nI len) n w f) N (nI i) = some z ∧ (z = 1 ∧ (∀ j, i ≤ j → j < k → nI (gB w (p + j)) = f j) ∨ z = 0 ∧ ∃ j, i ≤ j ∧ j < k ∧ ¬ nI (gB w (p + j)) = f j) := by
  intro r
  induction r with
  | zero =>
    intro i N hi hN
    obtain ⟨M, rfl⟩ : ∃ M, N = M + 1 := ⟨N - 1, by omega⟩
    rw [lp_s, f_Store_holdsRow_L2, if_pos (show Int32.ofNat k ≤ nI i from nI_le (a := k) (b := i) (by omega) (by omega))]
    exact ⟨1, rfl, Or.inl ⟨rfl, fun j h1 h2 => absurd h2 (by omega)⟩⟩
  | succ r ih =>
    intro i N hi hN
    obtain ⟨M, rfl⟩ : ∃ M, N = M + 1 := ⟨N - 1, by omega⟩
    rw [lp_s, f_Store_holdsRow_L2, if_neg (show ¬ Int32.ofNat k ≤ nI i from nI_ge (a := i) (b := k) (by omega) (by omega))]
    dsimp only [lt_]
    rw [nI_add, get_in (by omega) hl hn, bd_e, ix_in (by omega) (by omega)]
    by_cases h : nI (gB w (p + i)) = f i
    · rw [if_pos h, nI_1]
      obtain ⟨z, hz, hh⟩ := ih (i + 1) M (by omega) (by omega)
      refine ⟨z, hz, ?_⟩
      rcases hh with ⟨e, hh⟩ | ⟨e, j, j1, j2, hh⟩
      · refine Or.inl ⟨e, fun j h1 h2 => ?_⟩
        by_cases hj : j = i
        · rw [hj]; exact h
        · exact hh j (by omega) h2
      · exact Or.inr ⟨e, j, by omega, j2, hh⟩
    · rw [if_neg h]
      exact ⟨0, rfl, Or.inr ⟨rfl, i, Nat.le_refl _, by omega, h⟩⟩
theorem holds_eq {len n p k N : Nat} {w : Nat → Int64} {f : Nat → Int32} (hp : p + k ≤ len) (hl : len ≤ 8 * n) (hn : n < 2 ^ 27) (hN : k < N) : ∃ z : Int32, f_Store_holdsRow N k (nI p) (nI len) n w f = some z ∧ (z = 1 ∧ rowIs (gB w) p f k ∨ z = 0 ∧ ¬ rowIs (gB w) p f k) := by
  obtain ⟨z, hz, h⟩ := holds_loop (w := w) (f := f) hp hl hn k 0 N (by omega) hN
  refine ⟨z, hz, ?_⟩
  rcases h with ⟨e, h⟩ | ⟨e, j, -, j2, h⟩
  · exact Or.inl ⟨e, fun j hj => h j (by omega) hj⟩
  · exact Or.inr ⟨e, fun q => h (q j j2)⟩
/-- what the second half of a header's check says: sum, entries' place, entries' sum -/
def tailOk (S h : Nat) (b : Nat → Nat) : Prop := (lN (loN b (h + 16) 4)).toInt32 = cR (hB b h) 0 92 ^^^ (-1) ∧ loN b (h + 72) 8 ≤ S - 32 ∧ (lN (loN b (h + 88) 4)).toInt32 = cR b (512 * loN b (h + 72) 8) 16384 ^^^ (-1)
theorem loN8 {b : Nat → Nat} (hb : ∀ p, b p < 256) (p : Nat) : loN b p 8 < 2 ^ 64 := Nat.lt_of_lt_of_le (loN_lt hb 8 p) (by decide)
/-- the entries' place as both sides compare it -/
theorem place_cmp {S e : Nat} (hS : 100 ≤ S ∧ S ≤ 600) (he : e < 2 ^ 64) : (¬ lg_cmp (lN e) 0 < 0 ∧ lg_cmp (lN e) (lN (S - 32)) ≤ 0) ↔ e ≤ S - 32 := by
  rw [lgn, lgl]
  constructor
  · rintro ⟨h1, h2⟩
    obtain ⟨k, hk, ek⟩ := pk_lOf h1
    have := lN_inj he (by omega) ek
    subst this
    exact (pk_lLE hk (by omega)).mp h2
  · intro h
    refine ⟨fun q => ?_, (pk_lLE (by omega) (by omega)).mpr h⟩
    rw [show (0 : Int64) = lN 0 from rfl] at q
    exact absurd ((pk_lLT (by omega) (by omega)).mp q) (by omega)
theorem entries_eq {S s N : Nat} (hS : 100 ≤ S ∧ S ≤ 600) (hs : s < S) (hN : 400000 ≤ N) {w : Nat → Int64} {T : Nat → Int32} (hT : isT T) (u : Int32) : ∃ r u' : Int32, f_Firmware_hasGoodEntries N (nI (512 * s)) (nI (512 * S)) (64 * S) w u (nI S) T = some (r, u') ∧ (r = 1 ∧ (loN (gB w) (512 * s + 72) 8 ≤ S - 32 ∧ (lN (loN (gB w) (512 * s + 88) 4)).toInt32 = cR (gB w) (512 * loN (gB w) (512 * s + 72) 8) 16384 ^^^ (-1)) ∨ r = 0 ∧ ¬ (loN (gB w) (512 * s + 72) 8 ≤ S - 32 ∧ (lN (loN (gB w) (512 * s + 88) 4)).toInt32 = cR (gB w) (512 * loN (gB w) (512 * s + 72) 8) 16384 ^^^ (-1))) := by
  unfold f_Firmware_hasGoodEntries
  dsimp only [lt_]
  rw [show nI (512 * s) + 72 = nI (512 * s + 72) from nI_add _ 72, cl 8 (k := 8) rfl (by omega) (by omega) (by omega) (by decide) (by omega), bd_e, show nI S - 32 = nI (S - 32) from pk_sub (a := S) (b := 32) (by omega), nI_l (show S - 32 < 2 ^ 31 by omega), show nI (512 * s) + 88 = nI (512 * s + 88) from nI_add _ 88, cl 4 (k := 4) rfl (by omega) (by omega) (by omega) (by decide) (by omega), bd_e]
  have he := loN8 (gB_lt w) (512 * s + 72)
  have hc := place_cmp hS he
  generalize hE : loN (gB w) (512 * s + 72) 8 = e at he hc ⊢
  by_cases h1 : lg_cmp (lN e) 0 < 0
  · rw [if_pos h1]
    exact ⟨0, u, rfl, Or.inr ⟨rfl, fun q => (hc.mpr q.1).1 h1⟩⟩
  · rw [if_neg h1]
    by_cases h2 : lg_cmp (lN e) (lN (S - 32)) ≤ 0
    · have hle := hc.mp ⟨h1, h2⟩
      rw [if_pos h2, lN_i, show nI e * 512 = nI (512 * e) from by rw [show (512 : Int32) = nI 512 from rfl, pk_mul, Nat.mul_comm], show f_Sums_over N 16384 (nI (512 * e)) (nI (512 * S)) (64 * S) w T = _ from over_eq (n := 16384) hT (by omega) (by omega) (by omega) (by omega), bd_e]
      by_cases h3 : (lN (loN (gB w) (512 * s + 88) 4)).toInt32 = cR (gB w) (512 * e) 16384 ^^^ (-1)
      · rw [if_neg (not_not_intro h3)]
        exact ⟨1, _, rfl, Or.inl ⟨rfl, hle, h3⟩⟩
      · rw [if_pos h3]
        exact ⟨0, _, rfl, Or.inr ⟨rfl, fun q => h3 q.2⟩⟩
    · rw [if_neg h2]
      exact ⟨0, u, rfl, Or.inr ⟨rfl, fun q => h2 (hc.mpr q.1).2⟩⟩
