/-! pure: write: a cluster's sector -/
theorem vsec_eq {s t k : Nat} : f_Volume_sectorOf (nI s) (nI t) (nI k) = some (nI (s + 1 + 2 * t + k)) := by
  unfold f_Volume_sectorOf f_Volume_directorySector
  dsimp only [lt_]
  rw [nI_1, show (2 : Int32) * nI t = nI (2 * t) from pk_mul 2 t, nI_add, bd_e, show nI (s + 1 + 2 * t) + 2 = nI (s + 1 + 2 * t + 2) from nI_add _ 2, nI_add, show nI (s + 1 + 2 * t + 2 + k) - 2 = nI (s + 1 + 2 * t + 2 + k - 2) from pk_sub (b := 2) (by omega), show s + 1 + 2 * t + 2 + k - 2 = s + 1 + 2 * t + k by omega]
/-- P is the way of a file of n clusters through the reference's followers -/
def pathM (y : Nat → Int32) (P : Nat → Nat) (n : Nat) : Prop := (∀ i, i < n → P i < 700) ∧ ∀ i, i + 1 < n → y (P i) = nI (P (i + 1))
theorem msec_loop {s t j n : Nat} {y : Nat → Int32} {P : Nat → Nat} (hP : pathM y P n) (hj : j < n) (hn : n < 2 ^ 20) : ∀ (r i M : Nat), i + r = j → r < M → lp_ (fun _ _ => none) (f_Model_sectorOf_L10 (nI j) (nI s) (nI t) y) M (nI i) (nI (P i)) = some (nI (s + 1 + 2 * t + P j)) := by
  intro r
  induction r with
  | zero =>
    intro i M' hi hM
    obtain ⟨M, rfl⟩ : ∃ M, M' = M + 1 := ⟨M' - 1, by omega⟩
    have e : i = j := by omega
    subst e
    rw [lp_s, f_Model_sectorOf_L10, if_pos (nI_le (Nat.le_refl i) (by omega))]
    dsimp only [lt_]
    rw [show nI s + 3 = nI (s + 3) from nI_add s 3, show (2 : Int32) * nI t = nI (2 * t) from pk_mul 2 t, nI_add, nI_add, show nI (s + 3 + 2 * t + P i) - 2 = nI (s + 3 + 2 * t + P i - 2) from pk_sub (b := 2) (by omega), show s + 3 + 2 * t + P i - 2 = s + 1 + 2 * t + P i by omega]
  | succ r ih =>
    intro i M' hi hM
    obtain ⟨M, rfl⟩ : ∃ M, M' = M + 1 := ⟨M' - 1, by omega⟩
    rw [lp_s, f_Model_sectorOf_L10, if_neg (nI_ge (show i < j by omega) (by omega)), ix_in (hP.1 i (by omega)) (by decide), hP.2 i (by omega)]
    dsimp only [lt_]
    rw [nI_1]
    exact ih (i + 1) M (by omega) (by omega)
theorem msec_eq {s t j n k N : Nat} {y hd : Nat → Int32} {P : Nat → Nat} (hP : pathM y P n) (hj : j < n) (hn : n < 2 ^ 18) (hN : 400000 ≤ N) (hk : k < 12) (hh : hd k = nI (P 0)) : f_Model_sectorOf N hd (nI k) (nI j) (nI s) (nI t) y = some (nI (s + 1 + 2 * t + P j)) := by
  unfold f_Model_sectorOf
  rw [ix_in hk (by decide), hh]
  exact msec_loop hP hj (by omega) j 0 N (by omega) (by omega)
