/-! pure: write: where the volume lies -/
def vTn (n : Nat) : Nat := if n ≤ 344 then 1 else 2
theorem lie_eq {n N : Nat} {a : Int32} (hn : 8 ≤ n ∧ n ≤ 600) (hN : 400000 ≤ N) : f_Volume_lieIn N (nI n) a = some (a, nI n, nI (vTn n), nI (n - (3 + 2 * vTn n))) := by
  obtain ⟨M, rfl⟩ : ∃ M, N = M + 2 := ⟨N - 2, by omega⟩
  have hc : ∀ t, t = 1 ∨ t = 2 → f_Volume_clustersIn (nI n) (nI t) = some (nI (n - (3 + 2 * t))) := fun t ht => by
    unfold f_Volume_clustersIn
    dsimp only [lt_]
    rw [sub12, show (2 : Int32) * nI t = nI (2 * t) from pk_mul 2 t, sub3, pk_sub (by omega)]
  have hb : ∀ c, c < 600 → f_Volume_tableBytes (nI c) = some (nI (((c + 2) * 3 + 1) / 2)) := fun c hc => by
    unfold f_Volume_tableBytes
    dsimp only [lt_]
    rw [show nI c + 2 = nI (c + 2) from nI_add c 2, show nI (c + 2) * 3 = nI ((c + 2) * 3) from pk_mul _ 3, nI_1, show nI ((c + 2) * 3 + 1) / 2 = nI (((c + 2) * 3 + 1) / 2) from pk_div (d := 2) (by omega) (by decide) (by decide)]
  have step : ∀ t k, t = 1 ∨ t = 2 → f_Volume_lieIn_L15 (nI n) a k (nI t) = if ((n - (3 + 2 * t) + 2) * 3 + 1) / 2 ≤ 512 * t then some (a, nI n, nI t, nI (n - (3 + 2 * t))) else k (nI (t + 1)) := fun t k ht => by
    rw [f_Volume_lieIn_L15, hc t ht]
    dsimp only [lt_]
    rw [bd_e, bd_e, hb _ (by omega), bd_e, if_neg (nI_ge (show t < n by omega) (by omega)), show (512 : Int32) * nI t = nI (512 * t) from pk_mul 512 t, nI_1]
    by_cases h : ((n - (3 + 2 * t) + 2) * 3 + 1) / 2 ≤ 512 * t
    · rw [if_pos h, if_pos (nI_le h (by omega))]
    · rw [if_neg h, if_neg (nI_ge (by omega) (by omega))]
  unfold f_Volume_lieIn
  rw [lp_s, show (1 : Int32) = nI 1 from rfl, step 1 _ (Or.inl rfl)]
  unfold vTn
  by_cases h : n ≤ 344
  · rw [if_pos (by omega), if_pos h]
  · rw [if_neg (by omega), if_neg h, lp_s, step 2 _ (Or.inr rfl), if_pos (by omega)]
theorem needs_eq {z : Nat} (hz : z ≤ 9000) : f_Volume_clustersFor (nI z) = some (nI ((z + 511) / 512)) ∧ f_Model_needs (nI z) = some (nI ((z + 511) / 512)) := by
  constructor
  · unfold f_Volume_clustersFor
    dsimp only [lt_]
    rw [show nI z + 512 = nI (z + 512) from nI_add z 512, show nI (z + 512) - 1 = nI (z + 512 - 1) from pk_sub (b := 1) (by omega)]
    exact congrArg some (pk_div (d := 512) (by omega) (by decide) (by decide))
  · unfold f_Model_needs
    dsimp only [lt_]
    rw [show nI z + 511 = nI (z + 511) from nI_add z 511]
    exact congrArg some (pk_div (d := 512) (by omega) (by decide) (by decide))
