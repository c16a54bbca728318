/-! pure: write: the boot partition -/
theorem bootP_loop {np : Nat} {so : Nat → Int32} (hnp : np ≤ 4) : ∀ (r i M : Nat), i + r = np → r < M → ∃ z : Int32, lp_ (fun _ => none) (f_Plan_bootPartition_L2 (nI np) so) M (nI i) = some z ∧ lp_ (fun _ => none) (f_Model_bootPartition_L2 (nI np) so) M (nI i) = some z ∧ ((z = -1 ∧ ∀ k, i ≤ k → k < np → ¬ so k = 0) ∨ ∃ k, i ≤ k ∧ k < np ∧ z = nI k ∧ so k = 0) := by
  intro r
  induction r with
  | zero =>
    intro i M' hi hM
    obtain ⟨M, rfl⟩ : ∃ M, M' = M + 1 := ⟨M' - 1, by omega⟩
    rw [lp_s, lp_s, f_Plan_bootPartition_L2, f_Model_bootPartition_L2, if_pos (nI_le (show np ≤ i by omega) (by omega)), if_pos (nI_le (show np ≤ i by omega) (by omega))]
    exact ⟨-1, rfl, rfl, Or.inl ⟨rfl, fun k h1 h2 => absurd h2 (by omega)⟩⟩
  | succ r ih =>
    intro i M' hi hM
    obtain ⟨M, rfl⟩ : ∃ M, M' = M + 1 := ⟨M' - 1, by omega⟩
    rw [lp_s, lp_s, f_Plan_bootPartition_L2, f_Model_bootPartition_L2, if_neg (nI_ge (show i < np by omega) (by omega)), if_neg (nI_ge (show i < np by omega) (by omega)), ix_in (show i < 4 by omega) (by decide), ix_in (show i < 4 by omega) (by decide)]
    dsimp only [lt_]
    by_cases h : so i = 0
    · rw [if_neg (fun q => q h), if_neg (fun q => q h)]
      exact ⟨nI i, rfl, rfl, Or.inr ⟨i, Nat.le_refl i, by omega, rfl, h⟩⟩
    · rw [if_pos h, if_pos h, nI_1]
      obtain ⟨z, e1, e2, hh⟩ := ih (i + 1) M (by omega) (by omega)
      refine ⟨z, e1, e2, ?_⟩
      rcases hh with ⟨e, hh⟩ | ⟨k, k1, k2, e, hk⟩
      · refine Or.inl ⟨e, fun k h1 h2 => ?_⟩
        by_cases hk : k = i
        · rw [hk]; exact h
        · exact hh k (by omega) h2
      · exact Or.inr ⟨k, by omega, k2, e, hk⟩
theorem bootP_eq {np N : Nat} {so : Nat → Int32} (hnp : np ≤ 4) (hN : 400000 ≤ N) : ∃ z : Int32, f_Plan_bootPartition N (nI np) so = some z ∧ f_Model_bootPartition N (nI np) so = some z ∧ ((z = -1 ∧ ∀ k, k < np → ¬ so k = 0) ∨ ∃ k, k < np ∧ z = nI k ∧ so k = 0) := by
  obtain ⟨z, e1, e2, hh⟩ := bootP_loop (so := so) hnp np 0 N (by omega) (by omega)
  refine ⟨z, e1, e2, ?_⟩
  rcases hh with ⟨e, hh⟩ | ⟨k, -, k2, e, hk⟩
  · exact Or.inl ⟨e, fun k hk => hh k (by omega) hk⟩
  · exact Or.inr ⟨k, k2, e, hk⟩
/-! pure: write: where the volume lies -/
def vTn (n : Nat) : Nat := if n ≤ 344 then 1 else 2
theorem lie_eq {n N : Nat} {a : Int32} (hn : 8 ≤ n ∧ n ≤ 600) (hN : 400000 ≤ N) : f_Volume_lieIn N (nI n) a = some (a, nI n, nI (vTn n), nI (n - (3 + 2 * vTn n))) := by
  obtain ⟨M, rfl⟩ : ∃ M, N = M + 2 := ⟨N - 2, by omega⟩
  have hc : ∀ t, t = 1 ∨ t = 2 → f_Volume_clustersIn (nI n) (nI t) = some (nI (n - (3 + 2 * t))) := fun t ht => by
    unfold f_Volume_clustersIn
    dsimp only [lt_]
    rw [sub12, show (2 : Int32) * nI t = nI (2 * t) from pk_mul 2 t, sub3, pk_sub (by omega)]
  have hb : ∀ c, c < 600 → f_Volume_tableBytes (nI c) = some (nI (((c + 2) * 3 + 1) / 2)) := fun c hc => by
    unfold f_Volume_tableBytes
    dsimp only [lt_]
    rw [show nI c + 2 = nI (c + 2) from nI_add c 2, show nI (c + 2) * 3 = nI ((c + 2) * 3) from pk_mul _ 3, nI_1, show nI ((c + 2) * 3 + 1) / 2 = nI (((c + 2) * 3 + 1) / 2) from pk_div (d := 2) (by omega) (by decide) (by decide)]
  have step : ∀ t k, t = 1 ∨ t = 2 → f_Volume_lieIn_L15 (nI n) a k (nI t) = if ((n - (3 + 2 * t) + 2) * 3 + 1) / 2 ≤ 512 * t then some (a, nI n, nI t, nI (n - (3 + 2 * t))) else k (nI (t + 1)) := fun t k ht => by
    rw [f_Volume_lieIn_L15, hc t ht]
    dsimp only [lt_]
    rw [bd_e, bd_e, hb _ (by omega), bd_e, if_neg (nI_ge (show t < n by omega) (by omega)), show (512 : Int32) * nI t = nI (512 * t) from pk_mul 512 t, nI_1]
    by_cases h : ((n - (3 + 2 * t) + 2) * 3 + 1) / 2 ≤ 512 * t
    · rw [if_pos h, if_pos (nI_le h (by omega))]
    · rw [if_neg h, if_neg (nI_ge (by omega) (by omega))]
  unfold f_Volume_lieIn
  rw [lp_s, show (1 : Int32) = nI 1 from rfl, step 1 _ (Or.inl rfl)]
  unfold vTn
  by_cases h : n ≤ 344
  · rw [if_pos (by omega), if_pos h]
  · rw [if_neg (by omega), if_neg h, lp_s, step 2 _ (Or.inr rfl), if_pos (by omega)]
theorem needs_eq {z : Nat} (hz : z ≤ 9000) : f_Volume_clustersFor (nI z) = some (nI ((z + 511) / 512)) ∧ f_Model_needs (nI z) = some (nI ((z + 511) / 512)) := by
  constructor
  · unfold f_Volume_clustersFor
    dsimp only [lt_]
    rw [show nI z + 512 = nI (z + 512) from nI_add z 512, show nI (z + 512) - 1 = nI (z + 512 - 1) from pk_sub (b := 1) (by omega)]
    exact congrArg some (pk_div (d := 512) (by omega) (by decide) (by decide))
  · unfold f_Model_needs
    dsimp only [lt_]
    rw [show nI z + 511 = nI (z + 511) from nI_add z 511]
    exact congrArg some (pk_div (d := 512) (by omega) (by decide) (by decide))
/-! pure: write: the reference's table size; the lowest free cluster -/
theorem tableOf_eq {n N : Nat} (hn : 8 ≤ n ∧ n ≤ 600) (hN : 400000 ≤ N) : f_Model_tableOf N (nI n) = some (nI (vTn n)) := by
  obtain ⟨M, rfl⟩ : ∃ M, N = M + 2 := ⟨N - 2, by omega⟩
  have step : ∀ t k, t = 1 ∨ t = 2 → f_Model_tableOf_L2 (nI n) k (nI t) = if ((n - (3 + 2 * t) + 2) * 3 + 1) / 2 ≤ 512 * t then some (nI t) else k (nI (t + 1)) := fun t k ht => by
    rw [f_Model_tableOf_L2]
    dsimp only [lt_]
    rw [show (2 : Int32) * nI t = nI (2 * t) from pk_mul 2 t, sub3, pk_sub (by omega), show nI (n - (3 + 2 * t)) + 2 = nI (n - (3 + 2 * t) + 2) from nI_add _ 2, show nI (n - (3 + 2 * t) + 2) * 3 = nI ((n - (3 + 2 * t) + 2) * 3) from pk_mul _ 3, nI_1, nI_1, show nI ((n - (3 + 2 * t) + 2) * 3 + 1) / 2 = nI (((n - (3 + 2 * t) + 2) * 3 + 1) / 2) from pk_div (d := 2) (by omega) (by decide) (by decide), show (512 : Int32) * nI t = nI (512 * t) from pk_mul 512 t]
    by_cases h : ((n - (3 + 2 * t) + 2) * 3 + 1) / 2 ≤ 512 * t
    · rw [if_pos h, if_pos (nI_le h (by omega))]
    · rw [if_neg h, if_neg (nI_ge (by omega) (by omega))]
  unfold f_Model_tableOf
  rw [lp_s, show (1 : Int32) = nI 1 from rfl, step 1 _ (Or.inl rfl)]
  unfold vTn
  by_cases h : n ≤ 344
  · rw [if_pos (by omega), if_pos h]
  · rw [if_neg (by omega), if_neg h, lp_s, step 2 _ (Or.inr rfl), if_pos (by omega)]
theorem free_loop {S c : Nat} {x y : Nat → Int32} (hS : S ≤ 600) (hc : c + 2 ≤ S) (hR : ∀ k, 2 ≤ k → k < c + 2 → (x k = 0 ↔ y k = 0)) : ∀ (r i M : Nat), c + 2 ≤ i + r → 2 ≤ i ∧ i ≤ 2 ^ 20 → r < M → ∃ z : Int32, lp_ (fun _ => none) (f_Volume_lowestFree_L2 (nI c) S x) M (nI i) = some z ∧ lp_ (fun _ => none) (f_Model_lowestFree_L2 (nI c) y) M (nI i) = some z ∧ ((z = -1 ∧ ∀ k, i ≤ k → k < c + 2 → ¬ x k = 0) ∨ ∃ k, i ≤ k ∧ k < c + 2 ∧ z = nI k ∧ x k = 0 ∧ ∀ j, i ≤ j → j < k → ¬ x j = 0) := by
  intro r
  induction r with
  | zero =>
    intro i M' hi hi2 hM
    obtain ⟨M, rfl⟩ : ∃ M, M' = M + 1 := ⟨M' - 1, by omega⟩
    rw [lp_s, lp_s, f_Volume_lowestFree_L2, f_Model_lowestFree_L2]
    dsimp only [lt_]
    rw [show nI c + 2 = nI (c + 2) from nI_add c 2, if_pos (nI_le (show c + 2 ≤ i by omega) (by omega)), if_pos (nI_le (show c + 2 ≤ i by omega) (by omega))]
    exact ⟨-1, rfl, rfl, Or.inl ⟨rfl, fun k h1 h2 => absurd h2 (by omega)⟩⟩
  | succ r ih =>
    intro i M' hi hi2 hM
    obtain ⟨M, rfl⟩ : ∃ M, M' = M + 1 := ⟨M' - 1, by omega⟩
    rw [lp_s, lp_s, f_Volume_lowestFree_L2, f_Model_lowestFree_L2]
    dsimp only [lt_]
    rw [show nI c + 2 = nI (c + 2) from nI_add c 2]
    by_cases hlt : c + 2 ≤ i
    · rw [if_pos (nI_le hlt (by omega)), if_pos (nI_le hlt (by omega))]
      exact ⟨-1, rfl, rfl, Or.inl ⟨rfl, fun k h1 h2 => absurd h2 (by omega)⟩⟩
    rw [if_neg (nI_ge (show i < c + 2 by omega) (by omega)), if_neg (nI_ge (show i < c + 2 by omega) (by omega)), ix_in (show i < S by omega) (by omega), ix_in (show i < 700 by omega) (by decide)]
    by_cases h : x i = 0
    · rw [if_neg (fun q => q h), if_neg (fun q => q ((hR i (by omega) (by omega)).mp h))]
      exact ⟨nI i, rfl, rfl, Or.inr ⟨i, Nat.le_refl i, by omega, rfl, h, fun j h1 h2 => absurd h2 (by omega)⟩⟩
    · rw [if_pos h, if_pos (fun q => h ((hR i (by omega) (by omega)).mpr q)), nI_1]
      obtain ⟨z, e1, e2, hh⟩ := ih (i + 1) M (by omega) (by omega) (by omega)
      refine ⟨z, e1, e2, ?_⟩
      rcases hh with ⟨e, hh⟩ | ⟨k, k1, k2, e, hk, hj⟩
      · refine Or.inl ⟨e, fun k h1 h2 => ?_⟩
        by_cases hk : k = i
        · rw [hk]; exact h
        · exact hh k (by omega) h2
      · refine Or.inr ⟨k, by omega, k2, e, hk, fun j h1 h2 => ?_⟩
        by_cases hji : j = i
        · rw [hji]; exact h
        · exact hj j (by omega) h2
theorem free_eq {S c i N : Nat} {x y : Nat → Int32} (hS : S ≤ 600) (hc : c + 2 ≤ S) (hN : 400000 ≤ N) (hi : 2 ≤ i ∧ i ≤ 2 ^ 20) (hR : ∀ k, 2 ≤ k → k < c + 2 → (x k = 0 ↔ y k = 0)) : ∃ z : Int32, f_Volume_lowestFree N (nI c) S x (nI i) = some z ∧ f_Model_lowestFree N (nI c) y (nI i) = some z ∧ ((z = -1 ∧ ∀ k, i ≤ k → k < c + 2 → ¬ x k = 0) ∨ ∃ k, i ≤ k ∧ k < c + 2 ∧ z = nI k ∧ x k = 0 ∧ ∀ j, i ≤ j → j < k → ¬ x j = 0) := free_loop hS hc hR (c + 2) i N (by omega) hi (by omega)
/-! pure: write: the volume is possible -/
theorem poss_eq {S c : Nat} (hS : S ≤ 600) (h1 : 1 ≤ c) (hc : c + 2 ≤ S) : f_Volume_isPossible (nI c) S = some 1 := by
  unfold f_Volume_isPossible
  dsimp only [lt_]
  rw [if_neg (show ¬ nI c < (1 : Int32) from Int32.not_lt.mpr (nI_le (a := 1) h1 (by omega))), show nI c + 2 = nI (c + 2) from nI_add c 2, show Int32.ofNat S = nI S from rfl, if_neg (Int32.not_lt.mpr (nI_le hc (by omega)))]
theorem vTn_ok {n : Nat} (hn : 8 ≤ n ∧ n ≤ 600) : (vTn n = 1 ∨ vTn n = 2) ∧ 1 ≤ n - (3 + 2 * vTn n) ∧ n - (3 + 2 * vTn n) + 2 ≤ n ∧ ((n - (3 + 2 * vTn n) + 2) * 3 + 1) / 2 ≤ 512 * vTn n := by
  unfold vTn
  by_cases h : n ≤ 344
  · rw [if_pos h]; omega
  · rw [if_neg h]; omega
theorem poss_0 {S : Nat} : f_Volume_isPossible 0 S = some 0 := by
  unfold f_Volume_isPossible
  rw [if_pos (show (0 : Int32) < 1 by decide)]
/-! pure: write: a cluster's sector -/
theorem vsec_eq {s t k : Nat} : f_Volume_sectorOf (nI s) (nI t) (nI k) = some (nI (s + 1 + 2 * t + k)) := by
  unfold f_Volume_sectorOf f_Volume_directorySector
  dsimp only [lt_]
  rw [nI_1, show (2 : Int32) * nI t = nI (2 * t) from pk_mul 2 t, nI_add, bd_e, show nI (s + 1 + 2 * t) + 2 = nI (s + 1 + 2 * t + 2) from nI_add _ 2, nI_add, show nI (s + 1 + 2 * t + 2 + k) - 2 = nI (s + 1 + 2 * t + 2 + k - 2) from pk_sub (b := 2) (by omega), show s + 1 + 2 * t + 2 + k - 2 = s + 1 + 2 * t + k by omega]
/-- P is the way of a file of n clusters through the reference's followers -/
def pathM (y : Nat → Int32) (P : Nat → Nat) (n : Nat) : Prop := (∀ i, i < n → P i < 700) ∧ ∀ i, i + 1 < n → y (P i) = nI (P (i + 1))
theorem msec_loop {s t j n : Nat} {y : Nat → Int32} {P : Nat → Nat} (hP : pathM y P n) (hj : j < n) (hn : n < 2 ^ 20) : ∀ (r i M : Nat), i + r = j → r < M → lp_ (fun _ _ => none) (f_Model_sectorOf_L10 (nI j) (nI s) (nI t) y) M (nI i) (nI (P i)) = some (nI (s + 1 + 2 * t + P j)) := by
  intro r
  induction r with
  | zero =>
    intro i M' hi hM
    obtain ⟨M, rfl⟩ : ∃ M, M' = M + 1 := ⟨M' - 1, by omega⟩
    have e : i = j := by omega
    subst e
    rw [lp_s, f_Model_sectorOf_L10, if_pos (nI_le (Nat.le_refl i) (by omega))]
    dsimp only [lt_]
    rw [show nI s + 3 = nI (s + 3) from nI_add s 3, show (2 : Int32) * nI t = nI (2 * t) from pk_mul 2 t, nI_add, nI_add, show nI (s + 3 + 2 * t + P i) - 2 = nI (s + 3 + 2 * t + P i - 2) from pk_sub (b := 2) (by omega), show s + 3 + 2 * t + P i - 2 = s + 1 + 2 * t + P i by omega]
  | succ r ih =>
    intro i M' hi hM
    obtain ⟨M, rfl⟩ : ∃ M, M' = M + 1 := ⟨M' - 1, by omega⟩
    rw [lp_s, f_Model_sectorOf_L10, if_neg (nI_ge (show i < j by omega) (by omega)), ix_in (hP.1 i (by omega)) (by decide), hP.2 i (by omega)]
    dsimp only [lt_]
    rw [nI_1]
    exact ih (i + 1) M (by omega) (by omega)
theorem msec_eq {s t j n k N : Nat} {y hd : Nat → Int32} {P : Nat → Nat} (hP : pathM y P n) (hj : j < n) (hn : n < 2 ^ 18) (hN : 400000 ≤ N) (hk : k < 12) (hh : hd k = nI (P 0)) : f_Model_sectorOf N hd (nI k) (nI j) (nI s) (nI t) y = some (nI (s + 1 + 2 * t + P j)) := by
  unfold f_Model_sectorOf
  rw [ix_in hk (by decide), hh]
  exact msec_loop hP hj (by omega) j 0 N (by omega) (by omega)
/-! pure: write: a file's byte -/
theorem body_eq {k j n : Nat} {se : Nat → Int32} (hk : k < 12) (hj : j ≤ 9000) (hs : se k = nI n) (hn : n ≤ 255) : (ix_ 12 se (nI k) (fun (v33 : Int32) => some ((v33 + (7 : Int32) * nI j + nI j / 200) &&& 255))) = some (nI ((n + 7 * j + j / 200) % 256)) ∧ (ix_ 12 se (nI k) (fun (v153 : Int32) => some ((v153 + (7 : Int32) * nI j + nI j / 200) - (v153 + (7 : Int32) * nI j + nI j / 200) / 256 * 256))) = some (nI ((n + 7 * j + j / 200) % 256)) := by
  have e : nI n + (7 : Int32) * nI j + nI j / 200 = nI (n + 7 * j + j / 200) := by
    rw [show (7 : Int32) * nI j = nI (7 * j) from pk_mul 7 j, show nI j / 200 = nI (j / 200) from pk_div (d := 200) (by omega) (by decide) (by decide), nI_add, nI_add]
  constructor
  · rw [ix_in hk (by decide), hs, e, and255]
  · rw [ix_in hk (by decide), hs, e]
    exact congrArg some (pk_rem (d := 256) (by omega) (by decide) (by decide))
