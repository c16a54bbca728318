/-! pure: write: the boot partition -/
theorem bootP_loop {np : Nat} {so : Nat → Int32} (hnp : np ≤ 4) : ∀ (r i M : Nat), i + r = np → r < M → ∃ z : Int32, lp_ (fun _ => none) (f_Plan_bootPartition_L2 (nI np) so) M (nI i) = some z ∧ lp_ (fun _ => none) (f_Model_bootPartition_L2 (nI np) so) M (nI i) = some z ∧ ((z = -1 ∧ ∀ k, i ≤ k → k < np → ¬ so k = 0) ∨ ∃ k, i ≤ k ∧ k < np ∧ z = nI k ∧ so k = 0) := by
  intro r
  induction r with
  | zero =>
    intro i M' hi hM
    obtain ⟨M, rfl⟩ : ∃ M, M' = M + 1 := ⟨M' - 1, by omega⟩
    rw [lp_s, lp_s, f_Plan_bootPartition_L2, f_Model_bootPartition_L2, if_pos (nI_le (show np ≤ i by omega) (by omega)), if_pos (nI_le (show np ≤ i by omega) (by omega))]
    exact ⟨-1, rfl, rfl, Or.inl ⟨rfl, fun k h1 h2 => absurd h2 (by omega)⟩⟩
  | succ r ih =>
    intro i M' hi hM
    obtain ⟨M, rfl⟩ : ∃ M, M' = M + 1 := ⟨M' - 1, by omega⟩
    rw [lp_s, lp_s, f_Plan_bootPartition_L2, f_Model_bootPartition_L2, if_neg (nI_ge (show i < np by omega) (by omega)), if_neg (nI_ge (show i < np by omega) (by omega)), ix_in (show i < 4 by omega) (by decide), ix_in (show i < 4 by omega) (by decide)]
    dsimp only [lt_]
    by_cases h : so i = 0
    · rw [if_neg (fun q => q h), if_neg (fun q => q h)]
      exact ⟨nI i, rfl, rfl, Or.inr ⟨i, Nat.le_refl i, by omega, rfl, h⟩⟩
    · rw [if_pos h, if_pos h, nI_1]
      obtain ⟨z, e1, e2, hh⟩ := ih (i + 1) M (by omega) (by omega)
      refine ⟨z, e1, e2, ?_⟩
      rcases hh with ⟨e, hh⟩ | ⟨k, k1, k2, e, hk⟩
      · refine Or.inl ⟨e, fun k h1 h2 => ?_⟩
        by_cases hk : k = i
        · rw [hk]; exact h
        · exact hh k (by omega) h2
      · exact Or.inr ⟨k, by omega, k2, e, hk⟩
theorem bootP_eq {np N : Nat} {so : Nat → Int32} (hnp : np ≤ 4) (hN : 400000 ≤ N) : ∃ z : Int32, f_Plan_bootPartition N (nI np) so = some z ∧ f_Model_bootPartition N (nI np) so = some z ∧ ((z = -1 ∧ ∀ k, k < np → ¬ so k = 0) ∨ ∃ k, k < np ∧ z = nI k ∧ so k = 0) := by
  obtain ⟨z, e1, e2, hh⟩ := bootP_loop (so := so) hnp np 0 N (by omega) (by omega)
  refine ⟨z, e1, e2, ?_⟩
  rcases hh with ⟨e, hh⟩ | ⟨k, -, k2, e, hk⟩
  · exact Or.inl ⟨e, fun k hk => hh k (by omega) hk⟩
  · exact Or.inr ⟨k, k2, e, hk⟩
