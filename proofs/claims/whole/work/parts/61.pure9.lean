/-! pure: a header is good: both sides -/
theorem cl {len n p k N : Nat} {w : Nat → Int64} (kk : Int32) (hkk : kk = nI k) (hp : p + k ≤ len) (hl : len ≤ 8 * n) (hn : n < 2 ^ 27) (hk : k ≤ 8) (hN : 8 < N) : f_Store_getLow N kk (nI p) (nI len) n w = some (lN (loN (gB w) p k)) := by
  rw [hkk]; exact getLow_eq hp hl hn hk (by omega)
theorem ml {p k N : Nat} {d : Nat → Int32} (kk : Int32) (hkk : kk = nI k) (hp : p + k ≤ 307200) (hk : k ≤ 8) (hN : 8 < N) : f_Model_lowAt N kk (nI p) d = some (lN (loN (mB d) p k)) := by
  rw [hkk]; exact lowAt_eq hp hk (by omega)
theorem loN_congr {b b' : Nat → Nat} : ∀ (k p : Nat), (∀ q, p ≤ q → q < p + k → b q = b' q) → loN b p k = loN b' p k
  | 0, _, _ => rfl
  | k + 1, p, h => by
    show b p + 256 * loN b (p + 1) k = b' p + 256 * loN b' (p + 1) k
    rw [h p (by omega) (by omega), loN_congr k (p + 1) (fun q h1 h2 => h q (by omega) (by omega))]
theorem lN_inj {x y : Nat} (hx : x < 2 ^ 64) (hy : y < 2 ^ 64) (h : lN x = lN y) : x = y := by
  have := congrArg (fun z : Int64 => z.toBitVec.toNat) h
  simp only [wb_tn hx, wb_tn hy] at this
  exact this
theorem lgz (x y : Int64) : lg_cmp x y = 0 ↔ x = y := by
  unfold lg_cmp
  by_cases h1 : x > y
  · rw [if_pos h1]
    refine ⟨fun q => absurd q (by decide), fun q => ?_⟩
    rw [q] at h1
    exact absurd h1 Int64.lt_irrefl
  · rw [if_neg h1]
    by_cases h2 : x = y
    · rw [if_pos h2]; exact ⟨fun _ => h2, fun _ => rfl⟩
    · rw [if_neg h2]; exact ⟨fun q => absurd q (by decide), fun q => absurd q h2⟩
theorem lgn (x y : Int64) : lg_cmp x y < 0 ↔ x < y := by
  unfold lg_cmp
  by_cases h1 : x > y
  · rw [if_pos h1]
    exact ⟨fun q => absurd q (by decide), fun q => absurd (Int64.lt_trans q h1) Int64.lt_irrefl⟩
  · rw [if_neg h1]
    by_cases h2 : x = y
    · rw [if_pos h2]
      refine ⟨fun q => absurd q (by decide), fun q => ?_⟩
      rw [h2] at q
      exact absurd q Int64.lt_irrefl
    · rw [if_neg h2]
      refine ⟨fun _ => ?_, fun _ => by decide⟩
      have h3 := Int64.not_lt.mp h1
      rcases Int64.lt_or_eq_of_le h3 with h | h
      · exact h
      · exact absurd h h2
theorem lgl (x y : Int64) : lg_cmp x y ≤ 0 ↔ x ≤ y := by
  constructor
  · intro h
    by_cases h1 : x > y
    · unfold lg_cmp at h
      rw [if_pos h1] at h
      exact absurd h (by decide)
    · exact Int64.not_lt.mp h1
  · intro h
    unfold lg_cmp
    rw [if_neg (Int64.not_lt.mpr h)]
    by_cases h2 : x = y
    · rw [if_pos h2]; decide
    · rw [if_neg h2]; decide
/-- the bytes from p on are the row's -/
def rowIs (b : Nat → Nat) (p : Nat) (f : Nat → Int32) (n : Nat) : Prop := ∀ j, j < n → nI (b (p + j)) = f j
theorem holds_loop {len n p k : Nat} {w : Nat → Int64} {f : Nat → Int32} (hp : p + k ≤ len) (hl : len ≤ 8 * n) (hn : n < 2 ^ 27) : ∀ (r i N : Nat), i + r = k → r < N → ∃ z : Int32, lp_ (fun _ => none) (f_Store_holdsRow_L2 k (nI p) (nI len) n w f) N (nI i) = some z ∧ (z = 1 ∧ (∀ j, i ≤ j → j < k → nI (gB w (p + j)) = f j) ∨ z = 0 ∧ ∃ j, i ≤ j ∧ j < k ∧ ¬ nI (gB w (p + j)) = f j) := by
  intro r
  induction r with
  | zero =>
    intro i N hi hN
    obtain ⟨M, rfl⟩ : ∃ M, N = M + 1 := ⟨N - 1, by omega⟩
    rw [lp_s, f_Store_holdsRow_L2, if_pos (show Int32.ofNat k ≤ nI i from nI_le (a := k) (b := i) (by omega) (by omega))]
    exact ⟨1, rfl, Or.inl ⟨rfl, fun j h1 h2 => absurd h2 (by omega)⟩⟩
  | succ r ih =>
    intro i N hi hN
    obtain ⟨M, rfl⟩ : ∃ M, N = M + 1 := ⟨N - 1, by omega⟩
    rw [lp_s, f_Store_holdsRow_L2, if_neg (show ¬ Int32.ofNat k ≤ nI i from nI_ge (a := i) (b := k) (by omega) (by omega))]
    dsimp only [lt_]
    rw [nI_add, get_in (by omega) hl hn, bd_e, ix_in (by omega) (by omega)]
    by_cases h : nI (gB w (p + i)) = f i
    · rw [if_pos h, nI_1]
      obtain ⟨z, hz, hh⟩ := ih (i + 1) M (by omega) (by omega)
      refine ⟨z, hz, ?_⟩
      rcases hh with ⟨e, hh⟩ | ⟨e, j, j1, j2, hh⟩
      · refine Or.inl ⟨e, fun j h1 h2 => ?_⟩
        by_cases hj : j = i
        · rw [hj]; exact h
        · exact hh j (by omega) h2
      · exact Or.inr ⟨e, j, by omega, j2, hh⟩
    · rw [if_neg h]
      exact ⟨0, rfl, Or.inr ⟨rfl, i, Nat.le_refl _, by omega, h⟩⟩
theorem holds_eq {len n p k N : Nat} {w : Nat → Int64} {f : Nat → Int32} (hp : p + k ≤ len) (hl : len ≤ 8 * n) (hn : n < 2 ^ 27) (hN : k < N) : ∃ z : Int32, f_Store_holdsRow N k (nI p) (nI len) n w f = some z ∧ (z = 1 ∧ rowIs (gB w) p f k ∨ z = 0 ∧ ¬ rowIs (gB w) p f k) := by
  obtain ⟨z, hz, h⟩ := holds_loop (w := w) (f := f) hp hl hn k 0 N (by omega) hN
  refine ⟨z, hz, ?_⟩
  rcases h with ⟨e, h⟩ | ⟨e, j, -, j2, h⟩
  · exact Or.inl ⟨e, fun j hj => h j (by omega) hj⟩
  · exact Or.inr ⟨e, fun q => h (q j j2)⟩
/-- what the second half of a header's check says: sum, entries' place, entries' sum -/
def tailOk (S h : Nat) (b : Nat → Nat) : Prop := (lN (loN b (h + 16) 4)).toInt32 = cR (hB b h) 0 92 ^^^ (-1) ∧ loN b (h + 72) 8 ≤ S - 32 ∧ (lN (loN b (h + 88) 4)).toInt32 = cR b (512 * loN b (h + 72) 8) 16384 ^^^ (-1)
theorem loN8 {b : Nat → Nat} (hb : ∀ p, b p < 256) (p : Nat) : loN b p 8 < 2 ^ 64 := Nat.lt_of_lt_of_le (loN_lt hb 8 p) (by decide)
/-- the entries' place as both sides compare it -/
theorem place_cmp {S e : Nat} (hS : 100 ≤ S ∧ S ≤ 600) (he : e < 2 ^ 64) : (¬ lg_cmp (lN e) 0 < 0 ∧ lg_cmp (lN e) (lN (S - 32)) ≤ 0) ↔ e ≤ S - 32 := by
  rw [lgn, lgl]
  constructor
  · rintro ⟨h1, h2⟩
    obtain ⟨k, hk, ek⟩ := pk_lOf h1
    have := lN_inj he (by omega) ek
    subst this
    exact (pk_lLE hk (by omega)).mp h2
  · intro h
    refine ⟨fun q => ?_, (pk_lLE (by omega) (by omega)).mpr h⟩
    rw [show (0 : Int64) = lN 0 from rfl] at q
    exact absurd ((pk_lLT (by omega) (by omega)).mp q) (by omega)
theorem entries_eq {S s N : Nat} (hS : 100 ≤ S ∧ S ≤ 600) (hs : s < S) (hN : 400000 ≤ N) {w : Nat → Int64} {T : Nat → Int32} (hT : isT T) (u : Int32) : ∃ r u' : Int32, f_Firmware_hasGoodEntries N (nI (512 * s)) (nI (512 * S)) (64 * S) w u (nI S) T = some (r, u') ∧ (r = 1 ∧ (loN (gB w) (512 * s + 72) 8 ≤ S - 32 ∧ (lN (loN (gB w) (512 * s + 88) 4)).toInt32 = cR (gB w) (512 * loN (gB w) (512 * s + 72) 8) 16384 ^^^ (-1)) ∨ r = 0 ∧ ¬ (loN (gB w) (512 * s + 72) 8 ≤ S - 32 ∧ (lN (loN (gB w) (512 * s + 88) 4)).toInt32 = cR (gB w) (512 * loN (gB w) (512 * s + 72) 8) 16384 ^^^ (-1))) := by
  unfold f_Firmware_hasGoodEntries
  dsimp only [lt_]
  rw [show nI (512 * s) + 72 = nI (512 * s + 72) from nI_add _ 72, cl 8 (k := 8) rfl (by omega) (by omega) (by omega) (by decide) (by omega), bd_e, show nI S - 32 = nI (S - 32) from pk_sub (a := S) (b := 32) (by omega), nI_l (show S - 32 < 2 ^ 31 by omega), show nI (512 * s) + 88 = nI (512 * s + 88) from nI_add _ 88, cl 4 (k := 4) rfl (by omega) (by omega) (by omega) (by decide) (by omega), bd_e]
  have he := loN8 (gB_lt w) (512 * s + 72)
  have hc := place_cmp hS he
  generalize hE : loN (gB w) (512 * s + 72) 8 = e at he hc ⊢
  by_cases h1 : lg_cmp (lN e) 0 < 0
  · rw [if_pos h1]
    exact ⟨0, u, rfl, Or.inr ⟨rfl, fun q => (hc.mpr q.1).1 h1⟩⟩
  · rw [if_neg h1]
    by_cases h2 : lg_cmp (lN e) (lN (S - 32)) ≤ 0
    · have hle := hc.mp ⟨h1, h2⟩
      rw [if_pos h2, lN_i, show nI e * 512 = nI (512 * e) from by rw [show (512 : Int32) = nI 512 from rfl, pk_mul, Nat.mul_comm], show f_Sums_over N 16384 (nI (512 * e)) (nI (512 * S)) (64 * S) w T = _ from over_eq (n := 16384) hT (by omega) (by omega) (by omega) (by omega), bd_e]
      by_cases h3 : (lN (loN (gB w) (512 * s + 88) 4)).toInt32 = cR (gB w) (512 * e) 16384 ^^^ (-1)
      · rw [if_neg (not_not_intro h3)]
        exact ⟨1, _, rfl, Or.inl ⟨rfl, hle, h3⟩⟩
      · rw [if_pos h3]
        exact ⟨0, _, rfl, Or.inr ⟨rfl, fun q => h3 q.2⟩⟩
    · rw [if_neg h2]
      exact ⟨0, u, rfl, Or.inr ⟨rfl, fun q => h2 (hc.mpr q.1).2⟩⟩
def hdrOk (S s : Nat) (b : Nat → Nat) : Prop := rowIs b (512 * s) (tVal 2) 8 ∧ loN b (512 * s + 12) 4 = 92 ∧ loN b (512 * s + 24) 8 = s ∧ loN b (512 * s + 80) 4 = 128 ∧ loN b (512 * s + 84) 4 = 128 ∧ tailOk S (512 * s) b
theorem loN4 {b : Nat → Nat} (hb : ∀ p, b p < 256) (p : Nat) : loN b p 4 < 2 ^ 32 := Nat.lt_of_lt_of_le (loN_lt hb 4 p) (by decide)
theorem lgN {x y : Nat} (hx : x < 2 ^ 64) (hy : y < 2 ^ 64) : lg_cmp (lN x) (lN y) = 0 ↔ x = y := by
  rw [lgz]
  exact ⟨lN_inj hx hy, fun h => by rw [h]⟩
theorem header_eq {S s N : Nat} (hS : 100 ≤ S ∧ S ≤ 600) (hs : s < S) (hN : 400000 ≤ N) {w : Nat → Int64} {T : Nat → Int32} (hT : isT T) (u : Int32) : ∃ r u' : Int32, f_Firmware_isGoodHeader N (nI s) (nI (512 * S)) (64 * S) w u T (nI S) = some (r, u') ∧ (r = 1 ∧ hdrOk S s (gB w) ∨ r = 0 ∧ ¬ hdrOk S s (gB w)) := by
  unfold f_Firmware_isGoodHeader
  dsimp only [lt_]
  rw [show nI s * 512 = nI (512 * s) from by rw [show (512 : Int32) = nI 512 from rfl, pk_mul, Nat.mul_comm]]
  obtain ⟨z, hz, hrow⟩ := holds_eq (w := w) (f := tVal 2) (p := 512 * s) (k := 8) (len := 512 * S) (n := 64 * S) (N := N) (by omega) (by omega) (by omega) (by omega)
  rw [hz, bd_e]
  rcases hrow with ⟨rfl, hrow⟩ | ⟨rfl, hrow⟩
  · rw [if_neg (show ¬ (1 : Int32) = 0 by decide)]
    rw [show nI (512 * s) + 12 = nI (512 * s + 12) from nI_add _ 12, cl 4 (k := 4) rfl (by omega) (by omega) (by omega) (by decide) (by omega), bd_e, show (92 : Int64) = lN 92 from rfl]
    have b1 := loN4 (gB_lt w) (512 * s + 12)
    by_cases h1 : loN (gB w) (512 * s + 12) 4 = 92
    · rw [if_neg (not_not_intro ((lgN (by omega) (by omega)).mpr h1))]
      rw [show nI (512 * s) + 24 = nI (512 * s + 24) from nI_add _ 24, cl 8 (k := 8) rfl (by omega) (by omega) (by omega) (by decide) (by omega), bd_e, nI_l (show s < 2 ^ 31 by omega)]
      have b2 := loN8 (gB_lt w) (512 * s + 24)
      by_cases h2 : loN (gB w) (512 * s + 24) 8 = s
      · rw [if_neg (not_not_intro ((lgN b2 (by omega)).mpr h2))]
        rw [show nI (512 * s) + 80 = nI (512 * s + 80) from nI_add _ 80, cl 4 (k := 4) rfl (by omega) (by omega) (by omega) (by decide) (by omega), bd_e, show (128 : Int64) = lN 128 from rfl]
        have b3 := loN4 (gB_lt w) (512 * s + 80)
        by_cases h3 : loN (gB w) (512 * s + 80) 4 = 128
        · rw [if_neg (not_not_intro ((lgN (by omega) (by omega)).mpr h3))]
          rw [show nI (512 * s) + 84 = nI (512 * s + 84) from nI_add _ 84, cl 4 (k := 4) rfl (by omega) (by omega) (by omega) (by decide) (by omega), bd_e]
          have b4 := loN4 (gB_lt w) (512 * s + 84)
          by_cases h4 : loN (gB w) (512 * s + 84) 4 = 128
          · rw [if_neg (not_not_intro ((lgN (by omega) (by omega)).mpr h4))]
            rw [show nI (512 * s) + 16 = nI (512 * s + 16) from nI_add _ 16, cl 4 (k := 4) rfl (by omega) (by omega) (by omega) (by decide) (by omega), bd_e, overHeader_eq hT (by omega) (by omega) (by omega) (by omega), bd_e]
            by_cases h5 : (lN (loN (gB w) (512 * s + 16) 4)).toInt32 = cR (hB (gB w) (512 * s)) 0 92 ^^^ (-1)
            · rw [if_neg (not_not_intro h5)]
              obtain ⟨r, u', e1, e2⟩ := entries_eq hS hs hN hT (cR (hB (gB w) (512 * s)) 0 92) (w := w)
              rw [e1, bd_e]
              rcases e2 with ⟨rfl, e2⟩ | ⟨rfl, e2⟩
              · rw [if_neg (show ¬ (1 : Int32) = 0 by decide)]
                exact ⟨1, _, rfl, Or.inl ⟨rfl, hrow, h1, h2, h3, h4, h5, e2.1, e2.2⟩⟩
              · rw [if_pos (show (0 : Int32) = 0 from rfl)]
                exact ⟨0, _, rfl, Or.inr ⟨rfl, fun q => e2 ⟨q.2.2.2.2.2.2.1, q.2.2.2.2.2.2.2⟩⟩⟩
            · rw [if_pos h5]
              exact ⟨0, _, rfl, Or.inr ⟨rfl, fun q => h5 q.2.2.2.2.2.1⟩⟩
          · rw [if_pos (fun q => h4 ((lgN (by omega) (by omega)).mp q))]
            exact ⟨0, _, rfl, Or.inr ⟨rfl, fun q => h4 q.2.2.2.2.1⟩⟩
        · rw [if_pos (fun q => h3 ((lgN (by omega) (by omega)).mp q))]
          exact ⟨0, _, rfl, Or.inr ⟨rfl, fun q => h3 q.2.2.2.1⟩⟩
      · rw [if_pos (fun q => h2 ((lgN b2 (by omega)).mp q))]
        exact ⟨0, _, rfl, Or.inr ⟨rfl, fun q => h2 q.2.2.1⟩⟩
    · rw [if_pos (fun q => h1 ((lgN (by omega) (by omega)).mp q))]
      exact ⟨0, _, rfl, Or.inr ⟨rfl, fun q => h1 q.2.1⟩⟩
  · rw [if_pos (show (0 : Int32) = 0 from rfl)]
    exact ⟨0, _, rfl, Or.inr ⟨rfl, fun q => hrow q.1⟩⟩
theorem isGood_loop {S s N : Nat} (hS : 100 ≤ S ∧ S ≤ 600) (hs : s < S) (h8 : 8 < N) {d : Nat → Int32} (x : Int32) : ∀ (r i M : Nat), i + r = 92 → r < M → lp_ (fun _ _ => none) (f_Model_isGood_L188 N (nI (512 * s)) d x (nI S)) M (nI i) (cR (hB (mB d) (512 * s)) 0 i) = f_Model_isGood_L188 N (nI (512 * s)) d x (nI S) (fun _ _ => none) 92 (cR (hB (mB d) (512 * s)) 0 92) := by
  intro r
  induction r with
  | zero =>
    intro i N' hi hN
    obtain ⟨M, rfl⟩ : ∃ M, N' = M + 1 := ⟨N' - 1, by omega⟩
    have : i = 92 := by omega
    subst this
    rw [lp_s, f_Model_isGood_L188, f_Model_isGood_L188, if_pos (show (92 : Int32) ≤ nI 92 by decide), if_pos (show (92 : Int32) ≤ 92 by decide)]
  | succ r ih =>
    intro i N' hi hN
    obtain ⟨M, rfl⟩ : ∃ M, N' = M + 1 := ⟨N' - 1, by omega⟩
    rw [← ih (i + 1) M (by omega) (by omega)]
    rw [lp_s, f_Model_isGood_L188, if_neg (show ¬ (92 : Int32) ≤ nI i from nI_ge (a := i) (b := 92) (by omega) (by omega)), in_eq, bd_e]
    dsimp only [lt_]
    have e : cR (hB (mB d) (512 * s)) 0 (i + 1) = cN 8 (cR (hB (mB d) (512 * s)) 0 i ^^^ nI (hB (mB d) (512 * s) i)) := by
      show cN 8 (cR (hB (mB d) (512 * s)) 0 i ^^^ nI (hB (mB d) (512 * s) (0 + i))) = _
      rw [Nat.zero_add]
    by_cases h1 : (16 : Int32) ≤ nI i ∧ nI i ≤ 19
    · have g1 : 16 ≤ i := (nI_leI (a := 16) (b := i) (by omega) (by omega)).mp h1.1
      have g2 : i ≤ 19 := (nI_leI (a := i) (b := 19) (by omega) (by omega)).mp h1.2
      rw [if_pos h1, if_neg (show ¬ (1 : Int32) = 0 by decide), goesOn_eq _ _ h8, bd_e, nI_1, e, show hB (mB d) (512 * s) i = 0 from by unfold hB; rw [if_pos (by omega)]]
      rfl
    · have g : ¬ (16 ≤ i ∧ i < 20) := fun q => h1 ⟨(nI_leI (a := 16) (b := i) (by omega) (by omega)).mpr q.1, (nI_leI (a := i) (b := 19) (by omega) (by omega)).mpr (by omega)⟩
      rw [if_neg h1, if_pos (show (0 : Int32) = 0 from rfl), nI_add, mget_in (by omega), bd_e, goesOn_eq _ _ h8, bd_e, nI_1, e, show hB (mB d) (512 * s) i = mB d (512 * s + i) from by unfold hB; rw [if_neg g]]
theorem isGood_tail {S s N : Nat} (hS : 100 ≤ S ∧ S ≤ 600) (hs : s < S) (hN : 400000 ≤ N) {d : Nat → Int32} (x : Int32) : ∃ r : Int32, lp_ (fun _ _ => none) (f_Model_isGood_L188 N (nI (512 * s)) d x (nI S)) N 0 (-1) = some r ∧ (r = 1 ∧ (¬ x = 0 ∧ tailOk S (512 * s) (mB d)) ∨ r = 0 ∧ ¬ (¬ x = 0 ∧ tailOk S (512 * s) (mB d))) := by
  have hl : lp_ (fun _ _ => none) (f_Model_isGood_L188 N (nI (512 * s)) d x (nI S)) N 0 (-1) = _ := isGood_loop hS hs (by omega) x 92 0 N (by omega) (by omega)
  rw [hl, f_Model_isGood_L188, if_pos (show (92 : Int32) ≤ 92 by decide)]
  dsimp only [lt_]
  rw [show nI (512 * s) + 72 = nI (512 * s + 72) from nI_add _ 72, ml 8 (k := 8) rfl (by omega) (by decide) (by omega), bd_e]
  by_cases hx : x = 0
  · rw [if_pos hx]
    exact ⟨0, rfl, Or.inr ⟨rfl, fun q => q.1 hx⟩⟩
  · rw [if_neg hx, show nI (512 * s) + 16 = nI (512 * s + 16) from nI_add _ 16, ml 4 (k := 4) rfl (by omega) (by decide) (by omega), bd_e]
    by_cases h5 : (lN (loN (mB d) (512 * s + 16) 4)).toInt32 = cR (hB (mB d) (512 * s)) 0 92 ^^^ (-1)
    · rw [if_neg (not_not_intro h5), show nI S - 32 = nI (S - 32) from pk_sub (a := S) (b := 32) (by omega), nI_l (show S - 32 < 2 ^ 31 by omega), show nI (512 * s) + 88 = nI (512 * s + 88) from nI_add _ 88, ml 4 (k := 4) rfl (by omega) (by decide) (by omega), bd_e]
      have he := loN8 (mB_lt d) (512 * s + 72)
      have hc := place_cmp hS he
      unfold tailOk
      generalize hE : loN (mB d) (512 * s + 72) 8 = e at he hc ⊢
      by_cases h1 : lg_cmp (lN e) 0 < 0
      · rw [if_pos h1]
        exact ⟨0, rfl, Or.inr ⟨rfl, fun q => (hc.mpr q.2.2.1).1 h1⟩⟩
      · rw [if_neg h1]
        by_cases h2 : lg_cmp (lN e) (lN (S - 32)) ≤ 0
        · have hle := hc.mp ⟨h1, h2⟩
          rw [if_pos h2, lN_i, show (512 : Int32) * nI e = nI (512 * e) from pk_mul 512 e, show f_Model_sumOf N 16384 (nI (512 * e)) d = _ from sumOf_eq (n := 16384) (by omega) (by omega) (by omega), bd_e]
          by_cases h3 : (lN (loN (mB d) (512 * s + 88) 4)).toInt32 = cR (mB d) (512 * e) 16384 ^^^ (-1)
          · rw [if_neg (not_not_intro h3)]
            exact ⟨1, rfl, Or.inl ⟨rfl, hx, h5, hle, h3⟩⟩
          · rw [if_pos h3]
            exact ⟨0, rfl, Or.inr ⟨rfl, fun q => h3 q.2.2.2⟩⟩
        · rw [if_neg h2]
          exact ⟨0, rfl, Or.inr ⟨rfl, fun q => h2 (hc.mpr q.2.2.1).2⟩⟩
    · rw [if_pos h5]
      exact ⟨0, rfl, Or.inr ⟨rfl, fun q => h5 q.2.1⟩⟩
theorem row8 (b : Nat → Nat) (h : Nat) : rowIs b h (tVal 2) 8 ↔ (nI (b (h + 0)) = 69 ∧ nI (b (h + 1)) = 70 ∧ nI (b (h + 2)) = 73 ∧ nI (b (h + 3)) = 32 ∧ nI (b (h + 4)) = 80 ∧ nI (b (h + 5)) = 65 ∧ nI (b (h + 6)) = 82 ∧ nI (b (h + 7)) = 84) := by
  constructor
  · intro q
    exact ⟨q 0 (by decide), q 1 (by decide), q 2 (by decide), q 3 (by decide), q 4 (by decide), q 5 (by decide), q 6 (by decide), q 7 (by decide)⟩
  · rintro ⟨q0, q1, q2, q3, q4, q5, q6, q7⟩ j hj
    match j, hj with
    | 0, _ => exact q0
    | 1, _ => exact q1
    | 2, _ => exact q2
    | 3, _ => exact q3
    | 4, _ => exact q4
    | 5, _ => exact q5
    | 6, _ => exact q6
    | 7, _ => exact q7
    | (k + 8), h => exact absurd h (by omega)
theorem isGood_eq {S s N : Nat} (hS : 100 ≤ S ∧ S ≤ 600) (hs : s < S) (hN : 400000 ≤ N) {d : Nat → Int32} : ∃ r : Int32, f_Model_isGood N (nI s) d (nI S) = some r ∧ (r = 1 ∧ hdrOk S s (mB d) ∨ r = 0 ∧ ¬ hdrOk S s (mB d)) := by
  obtain ⟨r0, t0, hr0⟩ := isGood_tail (d := d) hS hs hN 0
  obtain ⟨r1, t1, hr1⟩ := isGood_tail (d := d) hS hs hN 1
  have z0 : r0 = 0 := by
    rcases hr0 with ⟨-, q, -⟩ | ⟨q, -⟩
    · exact absurd rfl q
    · exact q
  subst z0
  unfold f_Model_isGood
  dsimp only [lt_]
  rw [show (512 : Int32) * nI s = nI (512 * s) from pk_mul 512 s, t0, t1, if_pos (show (0 : Int32) = 0 from rfl), if_neg (show ¬ (1 : Int32) = 0 by decide)]
  rw [show nI (512 * s) + 1 = nI (512 * s + 1) from nI_add _ 1, show nI (512 * s) + 2 = nI (512 * s + 2) from nI_add _ 2, show nI (512 * s) + 3 = nI (512 * s + 3) from nI_add _ 3, show nI (512 * s) + 4 = nI (512 * s + 4) from nI_add _ 4, show nI (512 * s) + 5 = nI (512 * s + 5) from nI_add _ 5, show nI (512 * s) + 6 = nI (512 * s + 6) from nI_add _ 6, show nI (512 * s) + 7 = nI (512 * s + 7) from nI_add _ 7]
  rw [mget_in (show 512 * s < 307200 by omega), bd_e, mget_in (show 512 * s + 1 < 307200 by omega), bd_e, mget_in (show 512 * s + 2 < 307200 by omega), bd_e, mget_in (show 512 * s + 3 < 307200 by omega), bd_e, mget_in (show 512 * s + 4 < 307200 by omega), bd_e, mget_in (show 512 * s + 5 < 307200 by omega), bd_e, mget_in (show 512 * s + 6 < 307200 by omega), bd_e, mget_in (show 512 * s + 7 < 307200 by omega), bd_e]
  rw [show nI (512 * s) + 12 = nI (512 * s + 12) from nI_add _ 12, show nI (512 * s) + 24 = nI (512 * s + 24) from nI_add _ 24, show nI (512 * s) + 80 = nI (512 * s + 80) from nI_add _ 80, show nI (512 * s) + 84 = nI (512 * s + 84) from nI_add _ 84]
  rw [show f_Model_lowAt N 4 (nI (512 * s + 12)) d = _ from ml 4 (k := 4) rfl (by omega) (by decide) (by omega), bd_e, show f_Model_lowAt N 8 (nI (512 * s + 24)) d = _ from ml 8 (k := 8) rfl (by omega) (by decide) (by omega), bd_e, show f_Model_lowAt N 4 (nI (512 * s + 80)) d = _ from ml 4 (k := 4) rfl (by omega) (by decide) (by omega), bd_e, show f_Model_lowAt N 4 (nI (512 * s + 84)) d = _ from ml 4 (k := 4) rfl (by omega) (by decide) (by omega), bd_e]
  rw [nI_l (show s < 2 ^ 31 by omega), show (92 : Int64) = lN 92 from rfl, show (128 : Int64) = lN 128 from rfl]
  have b1 := loN4 (mB_lt d) (512 * s + 12)
  have b2 := loN8 (mB_lt d) (512 * s + 24)
  have b3 := loN4 (mB_lt d) (512 * s + 80)
  have b4 := loN4 (mB_lt d) (512 * s + 84)
  unfold hdrOk
  rw [row8, Nat.add_zero]
  by_cases q0 : nI (mB d (512 * s)) = 69
  · rw [if_neg (not_not_intro q0)]
    by_cases q1 : nI (mB d (512 * s + 1)) = 70
    · rw [if_neg (not_not_intro q1)]
      by_cases q2 : nI (mB d (512 * s + 2)) = 73
      · rw [if_neg (not_not_intro q2)]
        by_cases q3 : nI (mB d (512 * s + 3)) = 32
        · rw [if_neg (not_not_intro q3)]
          by_cases q4 : nI (mB d (512 * s + 4)) = 80
          · rw [if_neg (not_not_intro q4)]
            by_cases q5 : nI (mB d (512 * s + 5)) = 65
            · rw [if_neg (not_not_intro q5)]
              by_cases q6 : nI (mB d (512 * s + 6)) = 82
              · rw [if_neg (not_not_intro q6)]
                by_cases q7 : nI (mB d (512 * s + 7)) = 84
                · rw [if_neg (not_not_intro q7)]
                  by_cases h1 : loN (mB d) (512 * s + 12) 4 = 92
                  · rw [if_neg (not_not_intro ((lgN (by omega) (by omega)).mpr h1))]
                    by_cases h2 : loN (mB d) (512 * s + 24) 8 = s
                    · rw [if_neg (not_not_intro ((lgN b2 (by omega)).mpr h2))]
                      by_cases h3 : loN (mB d) (512 * s + 80) 4 = 128
                      · rw [if_neg (not_not_intro ((lgN (by omega) (by omega)).mpr h3))]
                        by_cases h4 : loN (mB d) (512 * s + 84) 4 = 128
                        · rw [if_neg (not_not_intro ((lgN (by omega) (by omega)).mpr h4))]
                          refine ⟨r1, rfl, ?_⟩
                          rcases hr1 with ⟨e, q⟩ | ⟨e, q⟩
                          · exact Or.inl ⟨e, ⟨q0, q1, q2, q3, q4, q5, q6, q7⟩, h1, h2, h3, h4, q.2⟩
                          · exact Or.inr ⟨e, fun z => q ⟨by decide, z.2.2.2.2.2⟩⟩
                        · rw [if_pos (fun q => h4 ((lgN (by omega) (by omega)).mp q))]
                          exact ⟨0, rfl, Or.inr ⟨rfl, fun q => h4 q.2.2.2.2.1⟩⟩
                      · rw [if_pos (fun q => h3 ((lgN (by omega) (by omega)).mp q))]
                        exact ⟨0, rfl, Or.inr ⟨rfl, fun q => h3 q.2.2.2.1⟩⟩
                    · rw [if_pos (fun q => h2 ((lgN b2 (by omega)).mp q))]
                      exact ⟨0, rfl, Or.inr ⟨rfl, fun q => h2 q.2.2.1⟩⟩
                  · rw [if_pos (fun q => h1 ((lgN (by omega) (by omega)).mp q))]
                    exact ⟨0, rfl, Or.inr ⟨rfl, fun q => h1 q.2.1⟩⟩
                · rw [if_pos q7]; exact ⟨0, rfl, Or.inr ⟨rfl, fun q => q7 q.1.2.2.2.2.2.2.2⟩⟩
              · rw [if_pos q6]; exact ⟨0, rfl, Or.inr ⟨rfl, fun q => q6 q.1.2.2.2.2.2.2.1⟩⟩
            · rw [if_pos q5]; exact ⟨0, rfl, Or.inr ⟨rfl, fun q => q5 q.1.2.2.2.2.2.1⟩⟩
          · rw [if_pos q4]; exact ⟨0, rfl, Or.inr ⟨rfl, fun q => q4 q.1.2.2.2.2.1⟩⟩
        · rw [if_pos q3]; exact ⟨0, rfl, Or.inr ⟨rfl, fun q => q3 q.1.2.2.2.1⟩⟩
      · rw [if_pos q2]; exact ⟨0, rfl, Or.inr ⟨rfl, fun q => q2 q.1.2.2.1⟩⟩
    · rw [if_pos q1]; exact ⟨0, rfl, Or.inr ⟨rfl, fun q => q1 q.1.2.1⟩⟩
  · rw [if_pos q0]; exact ⟨0, rfl, Or.inr ⟨rfl, fun q => q0 q.1.1⟩⟩
theorem hdr_congr {S s : Nat} (hS : 100 ≤ S ∧ S ≤ 600) (hs : s < S) {b b' : Nat → Nat} (hD : ∀ q, q < 512 * S → b q = b' q) (h : hdrOk S s b) : hdrOk S s b' := by
  have lo : ∀ p k, p + k ≤ 512 * S → loN b p k = loN b' p k := fun p k hp => loN_congr k p (fun q h1 h2 => hD q (by omega))
  obtain ⟨h0, h1, h2, h3, h4, h5, h6, h7⟩ := h
  have e := lo (512 * s + 72) 8 (by omega)
  refine ⟨fun j hj => ?_, ?_, ?_, ?_, ?_, ?_, ?_, ?_⟩
  · rw [← hD _ (by omega)]; exact h0 j hj
  · rw [← lo _ _ (by omega)]; exact h1
  · rw [← lo _ _ (by omega)]; exact h2
  · rw [← lo _ _ (by omega)]; exact h3
  · rw [← lo _ _ (by omega)]; exact h4
  · rw [← lo _ _ (by omega), h5]
    refine congrArg (fun x : Int32 => x ^^^ (-1)) (cR_congr 92 (fun j hj => ?_))
    unfold hB
    by_cases q : 16 ≤ 0 + j ∧ 0 + j < 20
    · rw [if_pos q, if_pos q]
    · rw [if_neg q, if_neg q, hD _ (by omega)]
  · rw [← e]; exact h6
  · rw [← e, ← lo _ _ (by omega), h7]
    exact congrArg (fun x : Int32 => x ^^^ (-1)) (cR_congr 16384 (fun j hj => hD _ (by omega)))
/-- both sides judge a header alike -/
theorem good_eq {S s N : Nat} (hS : 100 ≤ S ∧ S ≤ 600) (hs : s < S) (hN : 400000 ≤ N) {w : Nat → Int64} {d : Nat → Int32} {T : Nat → Int32} (hT : isT T) (hD : Alike_ S w d) (u : Int32) : ∃ r u' : Int32, f_Firmware_isGoodHeader N (nI s) (nI (512 * S)) (64 * S) w u T (nI S) = some (r, u') ∧ f_Model_isGood N (nI s) d (nI S) = some r ∧ (r = 0 ∨ r = 1 ∧ hdrOk S s (gB w)) := by
  obtain ⟨r, u', e1, h1⟩ := header_eq (w := w) hS hs hN hT u
  obtain ⟨r2, e2, h2⟩ := isGood_eq (d := d) hS hs hN
  refine ⟨r, u', e1, ?_, ?_⟩
  · rcases h1 with ⟨rfl, h1⟩ | ⟨rfl, h1⟩ <;> rcases h2 with ⟨rfl, h2⟩ | ⟨rfl, h2⟩
    · exact e2
    · exact absurd (hdr_congr hS hs hD h1) h2
    · exact absurd (hdr_congr hS hs (fun q hq => (hD q hq).symm) h2) h1
    · exact e2
  · rcases h1 with ⟨rfl, h1⟩ | ⟨rfl, -⟩
    · exact Or.inr ⟨rfl, h1⟩
    · exact Or.inl rfl
/-! pure: the boot entry is found alike -/
theorem lgp (x y : Int64) : 0 < lg_cmp x y ↔ y < x := by
  unfold lg_cmp
  by_cases h1 : x > y
  · rw [if_pos h1]; exact ⟨fun _ => h1, fun _ => by decide⟩
  · rw [if_neg h1]
    refine ⟨fun q => ?_, fun q => absurd q h1⟩
    by_cases h2 : x = y
    · rw [if_pos h2] at q; exact absurd q (by decide)
    · rw [if_neg h2] at q; exact absurd q (by decide)
theorem ent_cmp {S f l : Nat} (hS : 100 ≤ S ∧ S ≤ 600) (hf : f < 2 ^ 64) (hl : l < 2 ^ 64) : (¬ lg_cmp (lN f) 0 < 0 ∧ ¬ 0 < lg_cmp (lN f) (lN l) ∧ lg_cmp (lN l) (lN S) < 0) ↔ f ≤ l ∧ l < S := by
  rw [lgn, lgp, lgn]
  constructor
  · rintro ⟨h1, h2, h3⟩
    obtain ⟨a, ha, ea⟩ := pk_lOf h1
    have := lN_inj hf (by omega) ea
    subst this
    have h4 : ¬ lN l < 0 := fun q => h2 (Int64.lt_of_lt_of_le q (Int64.not_lt.mp h1))
    obtain ⟨c, hc, ec⟩ := pk_lOf h4
    have := lN_inj hl (by omega) ec
    subst this
    refine ⟨Nat.not_lt.mp (fun q => h2 ((pk_lLT hc ha).mpr q)), (pk_lLT hc (by omega)).mp h3⟩
  · rintro ⟨h1, h2⟩
    refine ⟨fun q => ?_, fun q => ?_, (pk_lLT (by omega) (by omega)).mpr h2⟩
    · rw [show (0 : Int64) = lN 0 from rfl] at q
      exact absurd ((pk_lLT (by omega) (by omega)).mp q) (by omega)
    · exact absurd ((pk_lLT (by omega) (by omega)).mp q) (by omega)
theorem ent_neg {S f l : Nat} (hS : 100 ≤ S ∧ S ≤ 600) (hl : l < 2 ^ 64) (h : f ≤ l ∧ l < S) : ¬ lg_cmp (lN l) 0 < 0 := by
  rw [lgn]
  intro q
  rw [show (0 : Int64) = lN 0 from rfl] at q
  exact absurd ((pk_lLT (by omega) (by omega)).mp q) (by omega)
theorem six_eq : ∀ i, i < 16 → f_Model_sixteen (nI i) 0 = some (tVal 0 i) := by decide +kernel
/-- an entry that boots -/
def entOk (S : Nat) (b : Nat → Nat) (q : Nat) : Prop := rowIs b q (tVal 0) 16 ∧ loN b (q + 32) 8 ≤ loN b (q + 40) 8 ∧ loN b (q + 40) 8 < S
theorem row_loop {S N q : Nat} {d : Nat → Int32} (hq : q + 16 ≤ 307200) {x1329 x1254 : Int32} {k97 : Int32 → Option (Int32 × Int32 × Int32)} : ∀ (r i M : Nat) (x : Int32), (x = 0 ∨ x = 1) → i + r = 16 → r < M → ∃ y : Int32, lp_ (fun _ _ => none) (f_Model_byTable_L118 N (nI q) d x1329 k97 (nI S) x1254) M (nI i) x = f_Model_byTable_L118 N (nI q) d x1329 k97 (nI S) x1254 (fun _ _ => none) 16 y ∧ (y = 1 ∧ (x = 1 ∧ ∀ j, i ≤ j → j < 16 → nI (mB d (q + j)) = tVal 0 j) ∨ y = 0 ∧ ¬ (x = 1 ∧ ∀ j, i ≤ j → j < 16 → nI (mB d (q + j)) = tVal 0 j)) := by
  intro r
  induction r with
  | zero =>
    intro i M' x hx hi hM
    obtain ⟨M, rfl⟩ : ∃ M, M' = M + 1 := ⟨M' - 1, by omega⟩
    have : i = 16 := by omega
    subst this
    refine ⟨x, ?_, ?_⟩
    · rw [lp_s, f_Model_byTable_L118, f_Model_byTable_L118, if_pos (show (16 : Int32) ≤ nI 16 by decide), if_pos (show (16 : Int32) ≤ 16 by decide)]
    · rcases hx with rfl | rfl
      · exact Or.inr ⟨rfl, fun z => absurd z.1 (by decide)⟩
      · exact Or.inl ⟨rfl, rfl, fun j h1 h2 => absurd h2 (by omega)⟩
  | succ r ih =>
    intro i M' x hx hi hM
    obtain ⟨M, rfl⟩ : ∃ M, M' = M + 1 := ⟨M' - 1, by omega⟩
    rw [lp_s, f_Model_byTable_L118, if_neg (show ¬ (16 : Int32) ≤ nI i from nI_ge (a := i) (b := 16) (by omega) (by omega))]
    dsimp only [lt_]
    rw [nI_1]
    rcases hx with rfl | rfl
    · rw [if_pos (show (0 : Int32) = 0 from rfl)]
      obtain ⟨y, hy, hh⟩ := ih (i + 1) M 0 (Or.inl rfl) (by omega) (by omega)
      refine ⟨y, hy, ?_⟩
      rcases hh with ⟨-, z, -⟩ | ⟨e, -⟩
      · exact absurd z (by decide)
      · exact Or.inr ⟨e, fun z => absurd z.1 (by decide)⟩
    · rw [if_neg (show ¬ (1 : Int32) = 0 by decide), nI_add, mget_in (by omega), bd_e, six_eq i (by omega), bd_e]
      by_cases h : nI (mB d (q + i)) = tVal 0 i
      · rw [if_neg (not_not_intro h)]
        obtain ⟨y, hy, hh⟩ := ih (i + 1) M 1 (Or.inr rfl) (by omega) (by omega)
        refine ⟨y, hy, ?_⟩
        rcases hh with ⟨e, z, hh⟩ | ⟨e, hh⟩
        · refine Or.inl ⟨e, rfl, fun j h1 h2 => ?_⟩
          by_cases hj : j = i
          · rw [hj]; exact h
          · exact hh j (by omega) h2
        · exact Or.inr ⟨e, fun z => hh ⟨rfl, fun j h1 h2 => z.2 j (by omega) h2⟩⟩
      · rw [if_pos h]
        obtain ⟨y, hy, hh⟩ := ih (i + 1) M 0 (Or.inl rfl) (by omega) (by omega)
        refine ⟨y, hy, ?_⟩
        rcases hh with ⟨-, z, -⟩ | ⟨e, -⟩
        · exact absurd z (by decide)
        · exact Or.inr ⟨e, fun z => h (z.2 i (Nat.le_refl _) (by omega))⟩
theorem ent_model {S N q : Nat} (hS : 100 ≤ S ∧ S ≤ 600) (hN : 400000 ≤ N) (hq : q + 128 ≤ 512 * S) {d : Nat → Int32} {x hd : Int32} {k97 : Int32 → Option (Int32 × Int32 × Int32)} : (entOk S (mB d) q ∧ lp_ (fun _ _ => none) (f_Model_byTable_L118 N (nI q) d x k97 (nI S) hd) N 0 1 = some (0, hd, nI (loN (mB d) (q + 32) 8))) ∨ (¬ entOk S (mB d) q ∧ lp_ (fun _ _ => none) (f_Model_byTable_L118 N (nI q) d x k97 (nI S) hd) N 0 1 = k97 (x + 1)) := by
  obtain ⟨y, hy, hh⟩ := row_loop (S := S) (N := N) (q := q) (d := d) (x1329 := x) (x1254 := hd) (k97 := k97) (by omega) 16 0 N 1 (Or.inr rfl) (by omega) (by omega)
  have hy' : lp_ (fun _ _ => none) (f_Model_byTable_L118 N (nI q) d x k97 (nI S) hd) N 0 1 = _ := hy
  rw [hy', f_Model_byTable_L118, if_pos (show (16 : Int32) ≤ 16 by decide)]
  dsimp only [lt_]
  rw [show nI q + 32 = nI (q + 32) from nI_add _ 32, show nI q + 40 = nI (q + 40) from nI_add _ 40, ml 8 (k := 8) rfl (by omega) (by decide) (by omega), bd_e, ml 8 (k := 8) rfl (by omega) (by decide) (by omega), bd_e, nI_l (show S < 2 ^ 31 by omega), lN_i]
  have b1 := loN8 (mB_lt d) (q + 32)
  have b2 := loN8 (mB_lt d) (q + 40)
  have hc := ent_cmp hS b1 b2
  unfold entOk
  rcases hh with ⟨rfl, -, hr⟩ | ⟨rfl, hr⟩
  · have hrow : rowIs (mB d) q (tVal 0) 16 := fun j hj => hr j (by omega) hj
    rw [if_neg (show ¬ (1 : Int32) = 0 by decide)]
    by_cases h1 : lg_cmp (lN (loN (mB d) (q + 32) 8)) 0 < 0
    · rw [if_pos h1]; exact Or.inr ⟨fun z => (hc.mpr z.2).1 h1, rfl⟩
    · rw [if_neg h1]
      by_cases h2 : lg_cmp (lN (loN (mB d) (q + 40) 8)) 0 < 0
      · rw [if_pos h2]; exact Or.inr ⟨fun z => ent_neg hS b2 z.2 h2, rfl⟩
      · rw [if_neg h2]
        by_cases h3 : 0 < lg_cmp (lN (loN (mB d) (q + 32) 8)) (lN (loN (mB d) (q + 40) 8))
        · rw [if_pos h3]; exact Or.inr ⟨fun z => (hc.mpr z.2).2.1 h3, rfl⟩
        · rw [if_neg h3]
          by_cases h4 : lg_cmp (lN (loN (mB d) (q + 40) 8)) (lN S) < 0
          · rw [if_pos h4]; exact Or.inl ⟨⟨hrow, hc.mp ⟨h1, h3, h4⟩⟩, rfl⟩
          · rw [if_neg h4]; exact Or.inr ⟨fun z => h4 (hc.mpr z.2).2.2, rfl⟩
  · rw [if_pos (show (0 : Int32) = 0 from rfl)]
    exact Or.inr ⟨fun z => hr ⟨rfl, fun j _ hj => z.1 j hj⟩, rfl⟩
theorem ent_class {S N q : Nat} (hS : 100 ≤ S ∧ S ≤ 600) (hN : 400000 ≤ N) (hq : q + 128 ≤ 512 * S) {w : Nat → Int64} {P : Nat} {k2 : Int32 → Option Int32} {i : Nat} (hi : i < 128) (hPi : P + 128 * i = q) : (entOk S (gB w) q ∧ f_Firmware_bootStartIn_L2 N (nI P) (nI (512 * S)) (64 * S) w (nI S) k2 (nI i) = some (nI (loN (gB w) (q + 32) 8))) ∨ (¬ entOk S (gB w) q ∧ f_Firmware_bootStartIn_L2 N (nI P) (nI (512 * S)) (64 * S) w (nI S) k2 (nI i) = k2 (nI (i + 1))) := by
  rw [f_Firmware_bootStartIn_L2, if_neg (show ¬ (128 : Int32) ≤ nI i from nI_ge (a := i) (b := 128) (by omega) (by omega))]
  dsimp only [lt_]
  rw [show nI i * 128 = nI (128 * i) from by rw [show (128 : Int32) = nI 128 from rfl, pk_mul, Nat.mul_comm], nI_add, hPi, nI_1]
  obtain ⟨z, hz, hrow⟩ := holds_eq (w := w) (f := tVal 0) (p := q) (k := 16) (len := 512 * S) (n := 64 * S) (N := N) (by omega) (by omega) (by omega) (by omega)
  rw [hz, bd_e, show nI q + 32 = nI (q + 32) from nI_add _ 32, show nI q + 40 = nI (q + 40) from nI_add _ 40, cl 8 (k := 8) rfl (by omega) (by omega) (by omega) (by decide) (by omega), bd_e, cl 8 (k := 8) rfl (by omega) (by omega) (by omega) (by decide) (by omega), bd_e, nI_l (show S < 2 ^ 31 by omega), lN_i]
  have b1 := loN8 (gB_lt w) (q + 32)
  have b2 := loN8 (gB_lt w) (q + 40)
  have hc := ent_cmp hS b1 b2
  unfold entOk
  rcases hrow with ⟨rfl, hrow⟩ | ⟨rfl, hrow⟩
  · rw [if_neg (show ¬ (1 : Int32) = 0 by decide)]
    by_cases h1 : lg_cmp (lN (loN (gB w) (q + 32) 8)) 0 < 0
    · rw [if_pos h1]; exact Or.inr ⟨fun z => (hc.mpr z.2).1 h1, rfl⟩
    · rw [if_neg h1]
      by_cases h3 : 0 < lg_cmp (lN (loN (gB w) (q + 32) 8)) (lN (loN (gB w) (q + 40) 8))
      · rw [if_pos h3]; exact Or.inr ⟨fun z => (hc.mpr z.2).2.1 h3, rfl⟩
      · rw [if_neg h3]
        by_cases h4 : 0 ≤ lg_cmp (lN (loN (gB w) (q + 40) 8)) (lN S)
        · rw [if_pos h4]; exact Or.inr ⟨fun z => (Int32.not_le.mpr (hc.mpr z.2).2.2) h4, rfl⟩
        · rw [if_neg h4]; exact Or.inl ⟨⟨hrow, hc.mp ⟨h1, h3, Int32.not_le.mp h4⟩⟩, rfl⟩
  · rw [if_pos (show (0 : Int32) = 0 from rfl)]
    exact Or.inr ⟨fun z => hrow z.1, rfl⟩
theorem ent_congr {S q : Nat} {b b' : Nat → Nat} (hq : q + 128 ≤ 512 * S) (hD : ∀ p, p < 512 * S → b p = b' p) (h : entOk S b q) : entOk S b' q := by
  have lo : ∀ p k, p + k ≤ 512 * S → loN b p k = loN b' p k := fun p k hp => loN_congr k p (fun q h1 h2 => hD q (by omega))
  obtain ⟨h0, h1, h2⟩ := h
  refine ⟨fun j hj => ?_, ?_, ?_⟩
  · rw [← hD _ (by omega)]; exact h0 j hj
  · rw [← lo _ _ (by omega), ← lo _ _ (by omega)]; exact h1
  · rw [← lo _ _ (by omega)]; exact h2
theorem find_loop {S N P : Nat} (hS : 100 ≤ S ∧ S ≤ 600) (hN : 400000 ≤ N) (hP : P + 16384 ≤ 512 * S) {w : Nat → Int64} {d : Nat → Int32} (hD : Alike_ S w d) (hd fnd : Int32) : ∀ (r i M : Nat), i + r = 128 → r < M → ∃ z : Int32, lp_ (fun _ => none) (f_Firmware_bootStartIn_L2 N (nI P) (nI (512 * S)) (64 * S) w (nI S)) M (nI i) = some z ∧ lp_ (fun _ => none) (f_Model_byTable_L97 N hd fnd (nI P) d (nI S)) M (nI i) = some (if z = -1 then (4, hd, fnd) else (0, hd, z)) ∧ (z = -1 ∨ ∃ f, f < S ∧ z = nI f) := by
  intro r
  induction r with
  | zero =>
    intro i M' hi hM
    obtain ⟨M, rfl⟩ : ∃ M, M' = M + 1 := ⟨M' - 1, by omega⟩
    rw [lp_s, lp_s, f_Firmware_bootStartIn_L2, f_Model_byTable_L97, if_pos (show (128 : Int32) ≤ nI i from nI_le (a := 128) (b := i) (by omega) (by omega)), if_pos (show (128 : Int32) ≤ nI i from nI_le (a := 128) (b := i) (by omega) (by omega))]
    exact ⟨-1, rfl, by rw [if_pos rfl], Or.inl rfl⟩
  | succ r ih =>
    intro i M' hi hM
    obtain ⟨M, rfl⟩ : ∃ M, M' = M + 1 := ⟨M' - 1, by omega⟩
    obtain ⟨z, z1, z2, z3⟩ := ih (i + 1) M (by omega) (by omega)
    rw [lp_s, lp_s, f_Model_byTable_L97, if_neg (show ¬ (128 : Int32) ≤ nI i from nI_ge (a := i) (b := 128) (by omega) (by omega))]
    dsimp only [lt_]
    rw [show (128 : Int32) * nI i = nI (128 * i) from pk_mul 128 i, nI_add]
    have c1 := ent_class (w := w) (k2 := lp_ (fun _ => none) (f_Firmware_bootStartIn_L2 N (nI P) (nI (512 * S)) (64 * S) w (nI S)) M) hS hN (q := P + 128 * i) (by omega) (i := i) (by omega) rfl
    have c2 := ent_model (d := d) (x := nI i) (hd := hd) (k97 := lp_ (fun _ => none) (f_Model_byTable_L97 N hd fnd (nI P) d (nI S)) M) hS hN (q := P + 128 * i) (by omega)
    rw [nI_1] at c2
    rcases c1 with ⟨o1, e1⟩ | ⟨o1, e1⟩ <;> rcases c2 with ⟨o2, e2⟩ | ⟨o2, e2⟩
    · have el : loN (gB w) (P + 128 * i + 32) 8 = loN (mB d) (P + 128 * i + 32) 8 := loN_congr 8 _ (fun q h1 h2 => hD q (by omega))
      have hlt : loN (gB w) (P + 128 * i + 32) 8 < S := Nat.lt_of_le_of_lt o1.2.1 o1.2.2
      refine ⟨_, e1, ?_, Or.inr ⟨_, hlt, rfl⟩⟩
      rw [e2, if_neg (fun h => nI_pos (n := loN (gB w) (P + 128 * i + 32) 8) (by omega) (by rw [h]; decide)), el]
    · exact absurd (ent_congr (by omega) hD o1) o2
    · exact absurd (ent_congr (by omega) (fun q hq => (hD q hq).symm) o2) o1
    · rw [e1, e2]
      exact ⟨z, z1, z2, z3⟩
theorem find_eq {S N s : Nat} (hS : 100 ≤ S ∧ S ≤ 600) (hs : s < S) (hN : 400000 ≤ N) {w : Nat → Int64} {d : Nat → Int32} (hD : Alike_ S w d) (hok : hdrOk S s (gB w)) (hd fnd uu : Int32) : ∃ z : Int32, bd_ (f_Store_getLow N 8 (nI s * 512 + 72) (nI (512 * S)) (64 * S) w) (fun u26 => bd_ (f_Firmware_bootStartIn N (u26.toInt32 * 512) (nI (512 * S)) (64 * S) w (nI S)) (fun u29 => if ¬ u29 = -1 then some ((0 : Int32), hd, u29, uu) else some (4, hd, u29, uu))) = some (if z = -1 then 4 else 0, hd, z, uu) ∧ bd_ (f_Model_lowAt N 8 ((512 : Int32) * nI s + 72) d) (fun u1259 => lp_ (fun _ => none) (f_Model_byTable_L97 N hd fnd ((512 : Int32) * u1259.toInt32) d (nI S)) N 0) = some (if z = -1 then (4, hd, fnd) else (0, hd, z)) ∧ (z = -1 ∨ ∃ f, f < S ∧ z = nI f) := by
  have hle := hok.2.2.2.2.2.2.1
  have el : loN (gB w) (512 * s + 72) 8 = loN (mB d) (512 * s + 72) 8 := loN_congr 8 _ (fun q h1 h2 => hD q (by omega))
  rw [show nI s * 512 = nI (512 * s) from by rw [show (512 : Int32) = nI 512 from rfl, pk_mul, Nat.mul_comm], show (512 : Int32) * nI s = nI (512 * s) from pk_mul 512 s, show nI (512 * s) + 72 = nI (512 * s + 72) from nI_add _ 72, cl 8 (k := 8) rfl (by omega) (by omega) (by omega) (by decide) (by omega), bd_e, ml 8 (k := 8) rfl (by omega) (by decide) (by omega), bd_e, ← el]
  generalize loN (gB w) (512 * s + 72) 8 = e at hle ⊢
  rw [lN_i, show nI e * 512 = nI (512 * e) from by rw [show (512 : Int32) = nI 512 from rfl, pk_mul, Nat.mul_comm], show (512 : Int32) * nI e = nI (512 * e) from pk_mul 512 e]
  obtain ⟨z, z1, z2, z3⟩ := find_loop (N := N) (P := 512 * e) hS hN (by omega) hD hd fnd 128 0 N (by omega) (by omega)
  refine ⟨z, ?_, z2, z3⟩
  have z1' : f_Firmware_bootStartIn N (nI (512 * e)) (nI (512 * S)) (64 * S) w (nI S) = some z := z1
  rw [z1', bd_e]
  by_cases h : z = -1
  · rw [if_neg (not_not_intro h), if_pos h]
  · rw [if_pos h, if_neg h]
/-- booting by the table: both sides give the same reason, header, start -/
theorem table_eq {S N : Nat} (hS : 100 ≤ S ∧ S ≤ 600) (hN : 400000 ≤ N) {w : Nat → Int64} {d : Nat → Int32} {T : Nat → Int32} (hT : isT T) (hD : Alike_ S w d) (u : Int32) : ∃ r h b u' : Int32, f_Firmware_searchTable N (nI (512 * S)) (64 * S) w u T (nI S) 0 (-1) = some (r, h, b, u') ∧ f_Model_byTable N d (nI S) (-1) 0 = some (r, h, b) ∧ (r = 0 → ∃ f, f < S ∧ b = nI f) ∧ (r = 0 ∨ r = 2 ∨ r = 3 ∨ r = 4) := by
  unfold f_Firmware_searchTable f_Model_byTable
  rw [show (450 : Int32) = nI 450 from rfl, get_in (show 450 < 512 * S by omega) (by omega) (by omega), mget_in (by omega), bd_e, bd_e, hD 450 (by omega)]
  by_cases h0 : nI (mB d 450) = 238
  · rw [if_pos h0, if_pos h0]
    obtain ⟨r1, u1, e1, e2, e3⟩ := good_eq (s := 1) hS (by omega) hN hT hD u
    rw [show f_Firmware_isGoodHeader N 1 (nI (512 * S)) (64 * S) w u T (nI S) = _ from e1, show f_Model_isGood N 1 d (nI S) = _ from e2, bd_e, bd_e]
    dsimp only [lt_]
    rcases e3 with rfl | ⟨rfl, hok⟩
    · rw [if_pos (show (0 : Int32) = 0 from rfl), if_pos (show (0 : Int32) = 0 from rfl), show nI S - 1 = nI (S - 1) from pk_sub (a := S) (b := 1) (by omega)]
      obtain ⟨r2, u2, g1, g2, g3⟩ := good_eq (s := S - 1) hS (by omega) hN hT hD u1
      rw [g1, g2, bd_e, bd_e]
      rcases g3 with rfl | ⟨rfl, hok⟩
      · refine ⟨3, 0, -1, u2, ?_, ?_, fun q => absurd q (by decide), by decide⟩
        · rw [if_neg (show ¬ ¬ (0 : Int32) = 0 by decide)]
        · rw [if_pos (show (0 : Int32) = 0 from rfl), if_neg (show ¬ ¬ (0 : Int32) = 0 by decide)]
      · obtain ⟨z, z1, z2, z3⟩ := find_eq (s := S - 1) hS (by omega) hN hD hok 2 (-1) u2
        refine ⟨if z = -1 then 4 else 0, 2, z, u2, ?_, ?_, ?_, ?_⟩
        · rw [if_pos (show ¬ (1 : Int32) = 0 by decide)]
          exact z1
        · rw [if_neg (show ¬ (1 : Int32) = 0 by decide), if_pos (show ¬ (2 : Int32) = 0 by decide), if_pos (show ¬ (2 : Int32) = 1 by decide)]
          rw [z2]
          by_cases h : z = -1
          · rw [if_pos h, if_pos h, h]
          · rw [if_neg h, if_neg h]
        · intro q
          rcases z3 with h | h
          · rw [if_pos h] at q; exact absurd q (by decide)
          · exact h
        · by_cases h : z = -1
          · rw [if_pos h]; decide
          · rw [if_neg h]; exact Or.inl rfl
    · rw [if_neg (show ¬ (1 : Int32) = 0 by decide), if_neg (show ¬ (1 : Int32) = 0 by decide)]
      obtain ⟨z, z1, z2, z3⟩ := find_eq (s := 1) hS (by omega) hN hD hok 1 (-1) u1
      refine ⟨if z = -1 then 4 else 0, 1, z, u1, z1, ?_, ?_, ?_⟩
      · rw [if_pos (show ¬ (1 : Int32) = 0 by decide), if_neg (show ¬ ¬ (1 : Int32) = 1 by decide)]
        refine Eq.trans z2 ?_
        by_cases h : z = -1
        · rw [if_pos h, if_pos h, h]
        · rw [if_neg h, if_neg h]
      · intro q
        rcases z3 with h | h
        · rw [if_pos h] at q; exact absurd q (by decide)
        · exact h
      · by_cases h : z = -1
        · rw [if_pos h]; decide
        · rw [if_neg h]; exact Or.inl rfl
  · rw [if_neg h0, if_neg h0]
    exact ⟨2, 0, -1, u, rfl, rfl, fun q => absurd q (by decide), by decide⟩
/-! pure: texts -/
theorem strlen_eq {n : Nat} (hn : n < 2 ^ 31) : f_String_length n = some (nI n) := by
  unfold f_String_length
  rw [show f_String_coder = some 0 from rfl, bd_e]
  dsimp only [lt_]
  rw [show Int32.ofNat n = nI n from rfl, pk_shrN hn ((0 : Int32) &&& 31) 0 (by decide), Nat.pow_zero, Nat.div_one]
/-- every place holds a byte's number -/
def isTx (f : Nat → Int32) (n : Nat) : Prop := ∀ j, j < n → ∃ c : Nat, c < 256 ∧ f j = nI c
theorem charAt_eq {n i : Nat} {f : Nat → Int32} (hn : n < 2 ^ 31) (hf : isTx f n) (hi : i < n) : f_String_charAt (nI i) n f = some (f i) := by
  obtain ⟨c, hc, e⟩ := hf i hi
  unfold f_String_charAt
  rw [show f_String_isLatin1 = some 1 from rfl, bd_e, if_neg (show ¬ (1 : Int32) = 0 by decide)]
  unfold f_Latin1_charAt f_String_checkIndex f_Precond_checkIndex
  rw [show Int32.ofNat n = nI n from rfl, if_neg (nI_pos (by omega)), if_pos (nI_lt hi hn), bd_e, bd_e, ix_in hi hn]
  dsimp only [lt_]
  have e2 : (f i &&& 255).toUInt32 % 65536 = (f i &&& 255).toUInt32 % 65536 := rfl
  have e3 : ((f i &&& 255).toUInt32 % 65536).toInt32 = f i := by
    rw [pk_char, e, and255, Nat.mod_eq_of_lt hc, pk_tn (by omega), Nat.mod_eq_of_lt (by omega)]
  have e4 : vp_nar .char (f i) = f i := by
    have := pk_vc (f i &&& 255)
    rw [e3] at this
    exact this
  rw [e3, if_pos e4, bd_e, if_pos e4]
theorem text_loop {len n p k : Nat} {w : Nat → Int64} {f : Nat → Int32} (hf : isTx f k) (hp : p + k ≤ len) (hl : len ≤ 8 * n) (hn : n < 2 ^ 27) : ∀ (r i N : Nat), i + r = k → r < N → ∃ z : Int32, lp_ (fun _ => none) (f_Store_holdsText_L2 k (nI p) (nI len) n w f) N (nI i) = some z ∧ (z = 1 ∧ (∀ j, i ≤ j → j < k → nI (gB w (p + j)) = f j) ∨ z = 0 ∧ ∃ j, i ≤ j ∧ j < k ∧ ¬ nI (gB w (p + j)) = f j) := by
  intro r
  induction r with
  | zero =>
    intro i N hi hN
    obtain ⟨M, rfl⟩ : ∃ M, N = M + 1 := ⟨N - 1, by omega⟩
    rw [lp_s, f_Store_holdsText_L2, strlen_eq (by omega), bd_e, if_pos (nI_le (by omega) (by omega))]
    exact ⟨1, rfl, Or.inl ⟨rfl, fun j h1 h2 => absurd h2 (by omega)⟩⟩
  | succ r ih =>
    intro i N hi hN
    obtain ⟨M, rfl⟩ : ∃ M, N = M + 1 := ⟨N - 1, by omega⟩
    rw [lp_s, f_Store_holdsText_L2, strlen_eq (by omega), bd_e, if_neg (nI_ge (by omega) (by omega))]
    dsimp only [lt_]
    rw [nI_add, get_in (by omega) hl hn, bd_e, charAt_eq (by omega) hf (by omega), bd_e]
    by_cases h : nI (gB w (p + i)) = f i
    · rw [if_pos h, nI_1]
      obtain ⟨z, hz, hh⟩ := ih (i + 1) M (by omega) (by omega)
      refine ⟨z, hz, ?_⟩
      rcases hh with ⟨e, hh⟩ | ⟨e, j, j1, j2, hh⟩
      · refine Or.inl ⟨e, fun j h1 h2 => ?_⟩
        by_cases hj : j = i
        · rw [hj]; exact h
        · exact hh j (by omega) h2
      · exact Or.inr ⟨e, j, by omega, j2, hh⟩
    · rw [if_neg h]
      exact ⟨0, rfl, Or.inr ⟨rfl, i, Nat.le_refl _, by omega, h⟩⟩
theorem text_eq {len n p k N : Nat} {w : Nat → Int64} {f : Nat → Int32} (hf : isTx f k) (hp : p + k ≤ len) (hl : len ≤ 8 * n) (hn : n < 2 ^ 27) (hN : k < N) : ∃ z : Int32, f_Store_holdsText N k (nI p) (nI len) n w f = some z ∧ (z = 1 ∧ rowIs (gB w) p f k ∨ z = 0 ∧ ¬ rowIs (gB w) p f k) := by
  obtain ⟨z, hz, h⟩ := text_loop (w := w) hf hp hl hn k 0 N (by omega) hN
  refine ⟨z, hz, ?_⟩
  rcases h with ⟨e, h⟩ | ⟨e, j, -, j2, h⟩
  · exact Or.inl ⟨e, fun j hj => h j (by omega) hj⟩
  · exact Or.inr ⟨e, fun q => h (q j j2)⟩
theorem sByt_tx : ∀ i, i < 13 → ∀ j, j < sLen i → ∃ c : Nat, c < 256 ∧ sByt i j = nI c := by
  intro i hi j hj
  have h : ∀ i, i < 13 → ∀ j, j < sLen i → lo8 (sByt i j) < 256 ∧ sByt i j = nI (lo8 (sByt i j)) := by decide +kernel
  exact ⟨_, h i hi j hj⟩
/-! pure: rows and texts written; a store cleared -/
def pR (w : Nat → Int64) (p : Nat) (f : Nat → Int32) : Nat → (Nat → Int64)
  | 0 => w
  | k + 1 => pB (pR w p f k) (p + k) (f k)
theorem gB_pR (w : Nat → Int64) (p : Nat) (f : Nat → Int32) (q : Nat) : ∀ k, gB (pR w p f k) q = if p ≤ q ∧ q < p + k then lo8 (f (q - p)) else gB w q
  | 0 => by rw [if_neg (by omega)]; rfl
  | k + 1 => by
    show gB (pB (pR w p f k) (p + k) (f k)) q = _
    rw [gB_pB, gB_pR w p f q k]
    by_cases h : q = p + k
    · rw [if_pos h, if_pos (by omega), h, show p + k - p = k by omega]
    · rw [if_neg h]
      by_cases h2 : p ≤ q ∧ q < p + k
      · rw [if_pos h2, if_pos (by omega)]
      · rw [if_neg h2, if_neg (by omega)]
theorem putRow_loop {len n p k : Nat} {w : Nat → Int64} {f : Nat → Int32} (hp : p + k ≤ len) (hl : len ≤ 8 * n) (hn : n < 2 ^ 27) : ∀ (r i N : Nat), i + r = k → r < N → lp_ (fun _ _ => none) (f_Store_putRow_L2 k (nI p) f (nI len) n) N (nI i) (pR w p f i) = some (pR w p f k) := by
  intro r
  induction r with
  | zero =>
    intro i N hi hN
    obtain ⟨M, rfl⟩ : ∃ M, N = M + 1 := ⟨N - 1, by omega⟩
    rw [lp_s, f_Store_putRow_L2, if_pos (show Int32.ofNat k ≤ nI i from nI_le (a := k) (b := i) (by omega) (by omega)), show i = k by omega]
  | succ r ih =>
    intro i N hi hN
    obtain ⟨M, rfl⟩ : ∃ M, N = M + 1 := ⟨N - 1, by omega⟩
    rw [lp_s, f_Store_putRow_L2, if_neg (show ¬ Int32.ofNat k ≤ nI i from nI_ge (a := i) (b := k) (by omega) (by omega))]
    dsimp only [lt_]
    rw [ix_in (by omega) (by omega), nI_add, put_in _ (by omega) hl hn, bd_e, nI_1]
    exact ih (i + 1) M (by omega) (by omega)
theorem putRow_eq {len n p k N : Nat} {w : Nat → Int64} {f : Nat → Int32} (hp : p + k ≤ len) (hl : len ≤ 8 * n) (hn : n < 2 ^ 27) (hN : k < N) : f_Store_putRow N k (nI p) f (nI len) n w = some (pR w p f k) := putRow_loop hp hl hn k 0 N (by omega) hN
theorem putText_loop {len n p k : Nat} {w : Nat → Int64} {f : Nat → Int32} (hf : isTx f k) (hp : p + k ≤ len) (hl : len ≤ 8 * n) (hn : n < 2 ^ 27) : ∀ (r i N : Nat), i + r = k → r < N → lp_ (fun _ _ => none) (f_Store_putText_L2 k (nI p) f (nI len) n) N (nI i) (pR w p f i) = some (pR w p f k) := by
  intro r
  induction r with
  | zero =>
    intro i N hi hN
    obtain ⟨M, rfl⟩ : ∃ M, N = M + 1 := ⟨N - 1, by omega⟩
    rw [lp_s, f_Store_putText_L2, strlen_eq (by omega), bd_e, if_pos (nI_le (by omega) (by omega)), show i = k by omega]
  | succ r ih =>
    intro i N hi hN
    obtain ⟨M, rfl⟩ : ∃ M, N = M + 1 := ⟨N - 1, by omega⟩
    rw [lp_s, f_Store_putText_L2, strlen_eq (by omega), bd_e, if_neg (nI_ge (by omega) (by omega))]
    dsimp only [lt_]
    rw [charAt_eq (by omega) hf (by omega), bd_e, nI_add, put_in _ (by omega) hl hn, bd_e, nI_1]
    exact ih (i + 1) M (by omega) (by omega)
theorem putText_eq {len n p k N : Nat} {w : Nat → Int64} {f : Nat → Int32} (hf : isTx f k) (hp : p + k ≤ len) (hl : len ≤ 8 * n) (hn : n < 2 ^ 27) (hN : k < N) : f_Store_putText N k (nI p) f (nI len) n w = some (pR w p f k) := putText_loop hf hp hl hn k 0 N (by omega) hN
theorem fillJ_loop {n : Nat} (hn : n < 2 ^ 31) {v : Int64} : ∀ (r i N : Nat) (f : Nat → Int64), i + r = n → r < N → (∀ j, j < i → f j = v) → ∃ g, lp_ (fun _ _ => none) (f_Arrays_fillJ_L6 n v) N (nI i) f = some g ∧ ∀ j, j < n → g j = v := by
  intro r
  induction r with
  | zero =>
    intro i N f hi hN hf
    obtain ⟨M, rfl⟩ : ∃ M, N = M + 1 := ⟨N - 1, by omega⟩
    rw [lp_s, f_Arrays_fillJ_L6, if_pos (show Int32.ofNat n ≤ nI i from nI_le (a := n) (b := i) (by omega) (by omega))]
    exact ⟨f, rfl, fun j hj => hf j (by omega)⟩
  | succ r ih =>
    intro i N f hi hN hf
    obtain ⟨M, rfl⟩ : ∃ M, N = M + 1 := ⟨N - 1, by omega⟩
    rw [lp_s, f_Arrays_fillJ_L6, if_neg (show ¬ Int32.ofNat n ≤ nI i from nI_ge (a := i) (b := n) (by omega) (by omega)), upl_in (by omega) hn]
    dsimp only [lt_]
    rw [nI_1]
    refine ih (i + 1) M _ (by omega) (by omega) (fun j hj => ?_)
    by_cases h : j = i
    · rw [h, pk_uLs]
    · rw [pk_uLn h]; exact hf j (by omega)
theorem clear_eq {n N : Nat} {w : Nat → Int64} (hn : n < 2 ^ 27) (hN : n < N) : ∃ g, f_Store_clear N n w = some g ∧ ∀ q, q < 8 * n → gB g q = 0 := by
  obtain ⟨g, h1, h2⟩ := fillJ_loop (n := n) (by omega) (v := 0) n 0 N w (by omega) hN (fun j hj => absurd hj (by omega))
  refine ⟨g, ?_, fun q hq => ?_⟩
  · unfold f_Store_clear
    rw [show f_Arrays_fillJ N n 0 w = some g from h1, bd_e]
  · unfold gB
    rw [h2 (q / 8) (by omega)]
    show bY 0 (q % 8) = 0
    unfold bY
    rw [Nat.zero_div]
theorem mark_eq {S s N : Nat} {w : Nat → Int64} (hS : 100 ≤ S ∧ S ≤ 600) (hs : s < S) (hN : 8 < N) : f_Store_markBootSector N (nI s) (nI (512 * S)) (64 * S) w = some (pLo w (512 * s + 510) 43605 2) := by
  unfold f_Store_markBootSector
  dsimp only [lt_]
  rw [show nI s * 512 = nI (512 * s) from by rw [show (512 : Int32) = nI 512 from rfl, pk_mul, Nat.mul_comm], show nI (512 * s) + 510 = nI (512 * s + 510) from nI_add _ 510, show (2 : Int32) = nI 2 from rfl, putLow_eq (by omega) (by omega) (by omega) (by omega), bd_e]
theorem isBoot_eq {S s N : Nat} {w : Nat → Int64} (hS : 100 ≤ S ∧ S ≤ 600) (hs : s < S) (hN : 8 < N) : ∃ z : Int32, f_Store_isBootSector N (nI s) (nI (512 * S)) (64 * S) w = some z ∧ (z = 1 ∧ (nI (gB w (512 * s + 510)) = 85 ∧ nI (gB w (512 * s + 511)) = 170) ∨ z = 0 ∧ ¬ (nI (gB w (512 * s + 510)) = 85 ∧ nI (gB w (512 * s + 511)) = 170)) := by
  unfold f_Store_isBootSector
  dsimp only [lt_]
  rw [show nI s * 512 = nI (512 * s) from by rw [show (512 : Int32) = nI 512 from rfl, pk_mul, Nat.mul_comm], show nI (512 * s) + 510 = nI (512 * s + 510) from nI_add _ 510, cl 2 (k := 2) rfl (by omega) (by omega) (by omega) (by decide) hN, bd_e, show (43605 : Int64) = lN 43605 from rfl]
  have a1 := gB_lt w (512 * s + 510)
  have a2 := gB_lt w (512 * s + 511)
  have e : loN (gB w) (512 * s + 510) 2 = gB w (512 * s + 510) + 256 * (gB w (512 * s + 511) + 256 * 0) := rfl
  have h85 : nI (gB w (512 * s + 510)) = 85 ↔ gB w (512 * s + 510) = 85 := nI_eq (b := 85) (by omega) (by decide)
  have h170 : nI (gB w (512 * s + 511)) = 170 ↔ gB w (512 * s + 511) = 170 := nI_eq (b := 170) (by omega) (by decide)
  by_cases h : lg_cmp (lN (loN (gB w) (512 * s + 510) 2)) (lN 43605) = 0
  · rw [if_neg (not_not_intro h)]
    have := (lgN (by omega) (by omega)).mp h
    exact ⟨1, rfl, Or.inl ⟨rfl, h85.mpr (by omega), h170.mpr (by omega)⟩⟩
  · rw [if_pos h]
    refine ⟨0, rfl, Or.inr ⟨rfl, fun q => h ((lgN (by omega) (by omega)).mpr ?_)⟩⟩
    have q1 := h85.mp q.1
    have q2 := h170.mp q.2
    omega
/-! pure: the loader's runs -/
def fr_ (b : Nat → Nat) (k : Nat) : Nat := loN b (65 + 6 * k) 4
def ct_ (b : Nat → Nat) (k : Nat) : Nat := loN b (69 + 6 * k) 2
/-- the sector of the i-th page, in r runs from the k-th on -/
def secAt (b : Nat → Nat) : Nat → Nat → Nat → Nat
  | 0, _, _ => 0
  | r + 1, k, i => if i < ct_ b k then fr_ b k + i else secAt b r (k + 1) (i - ct_ b k)
/-- how many pages r runs from the k-th on have -/
def tot_ (b : Nat → Nat) : Nat → Nat → Nat
  | 0, _ => 0
  | r + 1, k => ct_ b k + tot_ b r (k + 1)
/-- the runs are on the disk -/
def runsOk (S : Nat) (b : Nat → Nat) (r k : Nat) : Prop := ∀ j, k ≤ j → j < k + r → ct_ b j ≠ 0 ∧ fr_ b j + ct_ b j ≤ S
theorem ct_lt {b : Nat → Nat} (hb : ∀ p, b p < 256) (k : Nat) : ct_ b k < 65536 := Nat.lt_of_lt_of_le (loN_lt hb 2 _) (by decide)
theorem fr_lt {b : Nat → Nat} (hb : ∀ p, b p < 256) (k : Nat) : fr_ b k < 2 ^ 32 := loN4 hb _
theorem sec_split (b : Nat → Nat) : ∀ (k k0 r i : Nat), secAt b (k + r) k0 (tot_ b k k0 + i) = secAt b r (k0 + k) i
  | 0, k0, r, i => by
    rw [Nat.zero_add, Nat.add_zero]
    show secAt b r k0 (0 + i) = _
    rw [Nat.zero_add]
  | k + 1, k0, r, i => by
    rw [show k + 1 + r = (k + r) + 1 by omega]
    show (if ct_ b k0 + tot_ b k (k0 + 1) + i < ct_ b k0 then _ else secAt b (k + r) (k0 + 1) (ct_ b k0 + tot_ b k (k0 + 1) + i - ct_ b k0)) = _
    rw [if_neg (by omega), show ct_ b k0 + tot_ b k (k0 + 1) + i - ct_ b k0 = tot_ b k (k0 + 1) + i by omega, sec_split b k (k0 + 1) r i, show k0 + 1 + k = k0 + (k + 1) by omega]
theorem tot_s (b : Nat → Nat) : ∀ (k k0 : Nat), tot_ b (k + 1) k0 = tot_ b k k0 + ct_ b (k0 + k)
  | 0, k0 => by show ct_ b k0 + 0 = 0 + ct_ b (k0 + 0); rw [Nat.add_zero, Nat.zero_add, Nat.add_zero]
  | k + 1, k0 => by
    show ct_ b k0 + tot_ b (k + 1) (k0 + 1) = ct_ b k0 + tot_ b k (k0 + 1) + ct_ b (k0 + (k + 1))
    rw [tot_s b k (k0 + 1), show k0 + 1 + k = k0 + (k + 1) by omega]
    omega
theorem sec_lt {S : Nat} {b : Nat → Nat} : ∀ (r k i : Nat), runsOk S b r k → i < tot_ b r k → secAt b r k i < S
  | 0, _, i, _, h => absurd h (Nat.not_lt_zero i)
  | r + 1, k, i, ho, h => by
    show (if i < ct_ b k then fr_ b k + i else secAt b r (k + 1) (i - ct_ b k)) < S
    have h' : i < ct_ b k + tot_ b r (k + 1) := h
    by_cases hc : i < ct_ b k
    · rw [if_pos hc]
      have := (ho k (by omega) (by omega)).2
      omega
    · rw [if_neg hc]
      exact sec_lt r (k + 1) _ (fun j h1 h2 => ho j (by omega) (by omega)) (by omega)
theorem runAt_loop {S N R : Nat} {d : Nat → Int32} (hS : 100 ≤ S ∧ S ≤ 600) (hN : 8 < N) (hR : mB d 64 = R) (hR20 : R ≤ 20) : ∀ (r k i M : Nat), k + r = R → runsOk S (mB d) r k → i < tot_ (mB d) r k → i < 2 ^ 31 → r < M → lp_ (fun _ _ => none) (f_Model_runAt_L4 N d) M (nI k) (nI i) = some (nI (secAt (mB d) r k i)) := by
  intro r
  induction r with
  | zero => intro k i M _ _ h; exact absurd h (Nat.not_lt_zero i)
  | succ r ih =>
    intro k i M' hk ho hi hi2 hM
    obtain ⟨M, rfl⟩ : ∃ M, M' = M + 1 := ⟨M' - 1, by omega⟩
    have hct := ct_lt (mB_lt d) k
    have hfr := (ho k (by omega) (by omega)).2
    rw [lp_s, f_Model_runAt_L4, show (64 : Int32) = nI 64 from rfl, mget_in (by decide), bd_e, hR, if_neg (nI_ge (by omega) (by omega))]
    dsimp only [lt_]
    rw [show (6 : Int32) * nI k = nI (6 * k) from pk_mul 6 k, show (69 : Int32) + nI (6 * k) = nI (69 + 6 * k) from nI_add 69 _, show (65 : Int32) + nI (6 * k) = nI (65 + 6 * k) from nI_add 65 _, ml 2 (k := 2) rfl (by omega) (by decide) hN, bd_e, lN_i, ml 4 (k := 4) rfl (by omega) (by decide) hN, bd_e, lN_i]
    show (if nI (ct_ (mB d) k) ≤ nI i then lp_ (fun _ _ => none) (f_Model_runAt_L4 N d) M (nI k + 1) (nI i - nI (ct_ (mB d) k)) else some (nI (fr_ (mB d) k) + nI i)) = some (nI (if i < ct_ (mB d) k then fr_ (mB d) k + i else secAt (mB d) r (k + 1) (i - ct_ (mB d) k)))
    have hi' : i < ct_ (mB d) k + tot_ (mB d) r (k + 1) := hi
    by_cases hc : i < ct_ (mB d) k
    · rw [if_neg (nI_ge hc (by omega)), if_pos hc, nI_add]
    · rw [if_pos (nI_le (by omega) hi2), if_neg hc, nI_1, pk_sub (by omega)]
      exact ih (k + 1) _ M (by omega) (fun j h1 h2 => ho j (by omega) (by omega)) (by omega) (by omega) (by omega)
theorem runAt_eq {S N R i : Nat} {d : Nat → Int32} (hS : 100 ≤ S ∧ S ≤ 600) (hN : 400000 ≤ N) (hR : mB d 64 = R) (hR20 : R ≤ 20) (ho : runsOk S (mB d) R 0) (hi : i < tot_ (mB d) R 0) (hi2 : i < 2 ^ 31) : f_Model_runAt N d (nI i) = some (nI (secAt (mB d) R 0 i)) :=
  runAt_loop hS (by omega) hR hR20 R 0 i N (by omega) ho hi hi2 (by omega)
/-- a run's pages are written down, as far as they are wanted -/
theorem collect_in {nd c0 fk ck : Nat} {x : Int32} {k11 : Int32 → Int32 → (Nat → Int32) → Option (Int32 × (Nat → Int32))} (hnd : nd ≤ 18) (hfk : fk + ck ≤ 600) : ∀ (r i c M : Nat) (f : Nat → Int32), i + r = ck → c ≤ nd → r < M → ∃ (m : Nat) (g : Nat → Int32), lp_ (fun _ _ _ => none) (f_Firmware_collectRuns_L79 (lN ck) x k11 (nI nd) (lN fk)) M (nI i) (nI c) f = k11 (x + 1) (nI (c + m)) g ∧ (m = r ∧ c + m ≤ nd ∨ m < r ∧ c + m = nd) ∧ (∀ j, j < c → g j = f j) ∧ ∀ t, t < m → g (c + t) = nI (fk + i + t) := by
  intro r
  induction r with
  | zero =>
    intro i c M' f hi hc hM
    obtain ⟨M, rfl⟩ : ∃ M, M' = M + 1 := ⟨M' - 1, by omega⟩
    rw [lp_s, f_Firmware_collectRuns_L79]
    dsimp only [lt_]
    rw [nI_l (show i < 2 ^ 31 by omega), if_pos (Int32.not_lt.mp (fun q => by
      have := (pk_lLT (by omega) (by omega)).mp ((lgn _ _).mp q)
      omega))]
    exact ⟨0, f, rfl, Or.inl ⟨rfl, by omega⟩, fun j _ => rfl, fun t ht => absurd ht (by omega)⟩
  | succ r ih =>
    intro i c M' f hi hc hM
    obtain ⟨M, rfl⟩ : ∃ M, M' = M + 1 := ⟨M' - 1, by omega⟩
    rw [lp_s, f_Firmware_collectRuns_L79]
    dsimp only [lt_]
    rw [nI_l (show i < 2 ^ 31 by omega), if_neg (Int32.not_le.mpr ((lgn _ _).mpr ((pk_lLT (by omega) (by omega)).mpr (show i < ck by omega))))]
    by_cases h1 : nd ≤ c
    · rw [if_pos (nI_le h1 (by omega))]
      exact ⟨0, f, rfl, Or.inr ⟨by omega, by omega⟩, fun j _ => rfl, fun t ht => absurd ht (by omega)⟩
    · rw [if_neg (nI_ge (by omega) (by omega)), if_neg (show ¬ (18 : Int32) ≤ nI c from nI_ge (a := c) (b := 18) (by omega) (by omega)), lN_i, nI_add, upi_in (by omega) (by decide), nI_1, nI_1]
      obtain ⟨m, g, e, h2, h3, h4⟩ := ih (i + 1) (c + 1) M (upd f c (nI (fk + i))) (by omega) (by omega) (by omega)
      refine ⟨m + 1, g, ?_, ?_, fun j hj => ?_, fun t ht => ?_⟩
      · rw [e, show c + 1 + m = c + (m + 1) by omega]
      · rcases h2 with ⟨a, q⟩ | ⟨a, q⟩
        · exact Or.inl ⟨by omega, by omega⟩
        · exact Or.inr ⟨by omega, by omega⟩
      · rw [h3 j (by omega), pk_un (by omega)]
      · cases t with
        | zero => rw [Nat.add_zero, h3 c (by omega), pk_us, Nat.add_zero]
        | succ t =>
          rw [show c + (t + 1) = c + 1 + t by omega, h4 t (by omega)]
          congr 1
          omega
