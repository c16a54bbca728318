/-! pure: memory read; calls that are refused -/
theorem memory_eq {m : Nat → Int64} {mem : Nat → Int32} (hM : ∀ q, q < 65536 → gB m q = mB mem q) (a : Int32) : ((a < 0 ∨ nI 65536 ≤ a) ∧ f_Model_memory a mem = some (0, 1)) ∨ (¬ (a < 0 ∨ nI 65536 ≤ a) ∧ ∃ v : Int32, f_Store_get a (nI 65536) 8192 m = some v ∧ f_Model_memory a mem = some (v, 0)) := by
  rcases pk_ix a (n := 65536) (by decide) with h | h | ⟨j, hj, e⟩
  · left
    refine ⟨Or.inl h, ?_⟩
    unfold f_Model_memory
    rw [in_eq, if_neg (fun q => absurd h (Int32.not_lt.mpr q.1)), bd_e]
    dsimp only [lt_]
    rw [if_pos (show (0 : Int32) = 0 from rfl), if_neg (show ¬ ¬ (1 : Int32) = 1 by decide)]
  · left
    refine ⟨Or.inr h, ?_⟩
    unfold f_Model_memory
    have hn : ¬ (0 ≤ a ∧ a ≤ 65535) := fun q => by
      have h1 := Int32.le_trans h q.2
      exact absurd h1 (show ¬ nI 65536 ≤ 65535 by decide)
    rw [in_eq, if_neg hn, bd_e]
    dsimp only [lt_]
    rw [if_pos (show (0 : Int32) = 0 from rfl), if_neg (show ¬ ¬ (1 : Int32) = 1 by decide)]
  · right
    subst e
    refine ⟨fun q => q.elim (nI_pos (by omega)) (nI_ge hj (by decide)), nI (gB m j), get_in hj (by decide) (by decide), ?_⟩
    unfold f_Model_memory
    rw [in_eq, if_pos ⟨nI_pos' (by omega), show nI j ≤ 65535 from nI_le (b := 65535) (by omega) (by decide)⟩, bd_e]
    dsimp only [lt_]
    rw [if_neg (show ¬ (1 : Int32) = 0 by decide), if_pos (show ¬ (0 : Int32) = 1 by decide), ix_in hj (by decide), and_lo8, hM j hj]
    rfl
theorem boot_refused {N : Nat} {d mem : Nat → Int32} {S a1 h0 f0 k0 z0 y0 : Int32} (ha : ¬ a1 = 0) (hb : ¬ a1 = 1) : f_Model_boot N a1 d S mem h0 f0 k0 z0 y0 = some (0, 1, h0, f0, k0, z0, y0, mem) := by
  unfold f_Model_boot
  have hn : ¬ (0 ≤ a1 ∧ a1 ≤ 1) := fun q => by
    obtain ⟨n, h1, h2, e⟩ := i32_in (lo := 0) (hi := 1) (by decide) q.1 q.2 (by decide)
    have : n = 0 ∨ n = 1 := by omega
    rcases this with c | c <;> subst c
    · exact ha e
    · exact hb e
  rw [in_eq, if_neg hn, bd_e]
  dsimp only [lt_]
  rw [if_pos (show (0 : Int32) = 0 from rfl), if_neg (show ¬ ¬ (1 : Int32) = 1 by decide)]
