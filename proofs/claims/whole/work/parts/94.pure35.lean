/-! pure: write: the reference's table size; the lowest free cluster -/
theorem tableOf_eq {n N : Nat} (hn : 8 ≤ n ∧ n ≤ 600) (hN : 400000 ≤ N) : f_Model_tableOf N (nI n) = some (nI (vTn n)) := by
  obtain ⟨M, rfl⟩ : ∃ M, N = M + 2 := ⟨N - 2, by omega⟩
  have step : ∀ t k, t = 1 ∨ t = 2 → f_Model_tableOf_L2 (nI n) k (nI t) = if ((n - (3 + 2 * t) + 2) * 3 + 1) / 2 ≤ 512 * t then some (nI t) else k (nI (t + 1)) := fun t k ht => by
    rw [f_Model_tableOf_L2]
    dsimp only [lt_]
    rw [show (2 : Int32) * nI t = nI (2 * t) from pk_mul 2 t, sub3, pk_sub (by omega), show nI (n - (3 + 2 * t)) + 2 = nI (n - (3 + 2 * t) + 2) from nI_add _ 2, show nI (n - (3 + 2 * t) + 2) * 3 = nI ((n - (3 + 2 * t) + 2) * 3) from pk_mul _ 3, nI_1, nI_1, show nI ((n - (3 + 2 * t) + 2) * 3 + 1) / 2 = nI (((n - (3 + 2 * t) + 2) * 3 + 1) / 2) from pk_div (d := 2) (by omega) (by decide) (by decide), show (512 : Int32) * nI t = nI (512 * t) from pk_mul 512 t]
    by_cases h : ((n - (3 + 2 * t) + 2) * 3 + 1) / 2 ≤ 512 * t
    · rw [if_pos h, if_pos (nI_le h (by omega))]
    · rw [if_neg h, if_neg (nI_ge (by omega) (by omega))]
  unfold f_Model_tableOf
  rw [lp_s, show (1 : Int32) = nI 1 from rfl, step 1 _ (Or.inl rfl)]
  unfold vTn
  by_cases h : n ≤ 344
  · rw [if_pos (by omega), if_pos h]
  · rw [if_neg (by omega), if_neg h, lp_s, step 2 _ (Or.inr rfl), if_pos (by omega)]
theorem free_loop {S c : Nat} {x y : Nat → Int32} (hS : S ≤ 600) (hc : c + 2 ≤ S) (hR : ∀ k, 2 ≤ k → k < c + 2 → (x k = 0 ↔ y k = 0)) : ∀ (r i M : Nat), c + 2 ≤ i + r → 2 ≤ i ∧ i ≤ 2 ^ 20 → r < M → ∃ z : Int32, lp_ (fun _ => none) (f_Volume_lowestFree_L2 (nI c) S x) M (nI i) = some z ∧ lp_ (fun _ => none) (f_Model_lowestFree_L2 (nI c) y) M (nI i) = some z ∧ ((z = -1 ∧ ∀ k, i ≤ k → k < c + 2 → ¬ x k = 0) ∨ ∃ k, i ≤ k ∧ k < c + 2 ∧ z = nI k ∧ x k = 0 ∧ ∀ j, i ≤ j → j < k → ¬ x j = 0) := by
  intro r
  induction r with
  | zero =>
    intro i M' hi hi2 hM
    obtain ⟨M, rfl⟩ : ∃ M, M' = M + 1 := ⟨M' - 1, by omega⟩
    rw [lp_s, lp_s, f_Volume_lowestFree_L2, f_Model_lowestFree_L2]
    dsimp only [lt_]
    rw [show nI c + 2 = nI (c + 2) from nI_add c 2, if_pos (nI_le (show c + 2 ≤ i by omega) (by omega)), if_pos (nI_le (show c + 2 ≤ i by omega) (by omega))]
    exact ⟨-1, rfl, rfl, Or.inl ⟨rfl, fun k h1 h2 => absurd h2 (by omega)⟩⟩
  | succ r ih =>
    intro i M' hi hi2 hM
    obtain ⟨M, rfl⟩ : ∃ M, M' = M + 1 := ⟨M' - 1, by omega⟩
    rw [lp_s, lp_s, f_Volume_lowestFree_L2, f_Model_lowestFree_L2]
    dsimp only [lt_]
    rw [show nI c + 2 = nI (c + 2) from nI_add c 2]
    by_cases hlt : c + 2 ≤ i
    · rw [if_pos (nI_le hlt (by omega)), if_pos (nI_le hlt (by omega))]
      exact ⟨-1, rfl, rfl, Or.inl ⟨rfl, fun k h1 h2 => absurd h2 (by omega)⟩⟩
    rw [if_neg (nI_ge (show i < c + 2 by omega) (by omega)), if_neg (nI_ge (show i < c + 2 by omega) (by omega)), ix_in (show i < S by omega) (by omega), ix_in (show i < 700 by omega) (by decide)]
    by_cases h : x i = 0
    · rw [if_neg (fun q => q h), if_neg (fun q => q ((hR i (by omega) (by omega)).mp h))]
      exact ⟨nI i, rfl, rfl, Or.inr ⟨i, Nat.le_refl i, by omega, rfl, h, fun j h1 h2 => absurd h2 (by omega)⟩⟩
    · rw [if_pos h, if_pos (fun q => h ((hR i (by omega) (by omega)).mpr q)), nI_1]
      obtain ⟨z, e1, e2, hh⟩ := ih (i + 1) M (by omega) (by omega) (by omega)
      refine ⟨z, e1, e2, ?_⟩
      rcases hh with ⟨e, hh⟩ | ⟨k, k1, k2, e, hk, hj⟩
      · refine Or.inl ⟨e, fun k h1 h2 => ?_⟩
        by_cases hk : k = i
        · rw [hk]; exact h
        · exact hh k (by omega) h2
      · refine Or.inr ⟨k, by omega, k2, e, hk, fun j h1 h2 => ?_⟩
        by_cases hji : j = i
        · rw [hji]; exact h
        · exact hj j (by omega) h2
theorem free_eq {S c i N : Nat} {x y : Nat → Int32} (hS : S ≤ 600) (hc : c + 2 ≤ S) (hN : 400000 ≤ N) (hi : 2 ≤ i ∧ i ≤ 2 ^ 20) (hR : ∀ k, 2 ≤ k → k < c + 2 → (x k = 0 ↔ y k = 0)) : ∃ z : Int32, f_Volume_lowestFree N (nI c) S x (nI i) = some z ∧ f_Model_lowestFree N (nI c) y (nI i) = some z ∧ ((z = -1 ∧ ∀ k, i ≤ k → k < c + 2 → ¬ x k = 0) ∨ ∃ k, i ≤ k ∧ k < c + 2 ∧ z = nI k ∧ x k = 0 ∧ ∀ j, i ≤ j → j < k → ¬ x j = 0) := free_loop hS hc hR (c + 2) i N (by omega) hi (by omega)
