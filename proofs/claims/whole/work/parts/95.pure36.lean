/-! pure: write: the volume is possible -/
theorem poss_eq {S c : Nat} (hS : S ≤ 600) (h1 : 1 ≤ c) (hc : c + 2 ≤ S) : f_Volume_isPossible (nI c) S = some 1 := by
  unfold f_Volume_isPossible
  dsimp only [lt_]
  rw [if_neg (show ¬ nI c < (1 : Int32) from Int32.not_lt.mpr (nI_le (a := 1) h1 (by omega))), show nI c + 2 = nI (c + 2) from nI_add c 2, show Int32.ofNat S = nI S from rfl, if_neg (Int32.not_lt.mpr (nI_le hc (by omega)))]
theorem vTn_ok {n : Nat} (hn : 8 ≤ n ∧ n ≤ 600) : (vTn n = 1 ∨ vTn n = 2) ∧ 1 ≤ n - (3 + 2 * vTn n) ∧ n - (3 + 2 * vTn n) + 2 ≤ n ∧ ((n - (3 + 2 * vTn n) + 2) * 3 + 1) / 2 ≤ 512 * vTn n := by
  unfold vTn
  by_cases h : n ≤ 344
  · rw [if_pos h]; omega
  · rw [if_neg h]; omega
theorem poss_0 {S : Nat} : f_Volume_isPossible 0 S = some 0 := by
  unfold f_Volume_isPossible
  rw [if_pos (show (0 : Int32) < 1 by decide)]
