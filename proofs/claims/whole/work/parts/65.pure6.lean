/-! pure: partition, where, address, byteAt, poke, sum: both sides -/
theorem in_eq (a lo hi : Int32) : f_Model_in a lo hi = some (if lo ≤ a ∧ a ≤ hi then 1 else 0) := by
  unfold f_Model_in
  by_cases h1 : a < lo
  · rw [if_pos h1, if_neg (fun h => (Int32.not_le.mpr h1) h.1)]
  · rw [if_neg h1]
    by_cases h2 : hi < a
    · rw [if_pos h2, if_neg (fun h => (Int32.not_le.mpr h2) h.2)]
    · rw [if_neg h2, if_pos ⟨Int32.not_lt.mp h1, Int32.not_lt.mp h2⟩]
theorem i32_le {a b : Int32} : a ≤ b ↔ a.toInt ≤ b.toInt := Int32.le_iff_toInt_le
theorem i32_lt {a b : Int32} : a < b ↔ a.toInt < b.toInt := Int32.lt_iff_toInt_lt
theorem i32_eq {a b : Int32} : a = b ↔ a.toInt = b.toInt := Int32.toInt_inj.symm
/-- a number between two small ones -/
theorem i32_in {a : Int32} {lo hi : Nat} (hh : hi < 2 ^ 31) (h1 : nI lo ≤ a) (h2 : a ≤ nI hi) (hlo : lo < 2 ^ 31) : ∃ n, lo ≤ n ∧ n ≤ hi ∧ a = nI n := by
  rw [i32_le, nI_toInt hlo] at h1
  rw [i32_le, nI_toInt hh] at h2
  refine ⟨a.toInt.toNat, by omega, by omega, ?_⟩
  rw [i32_eq, nI_toInt (by omega)]
  omega
/-- the plan's partitions: each in its place -/
def PlanOk (S np : Nat) (so st le : Nat → Int32) : Prop := ∀ k, k < np → (so k = 0 ∨ so k = 1) ∧ ∃ s n : Nat, st k = nI s ∧ le k = nI n ∧ 40 ≤ s ∧ 8 ≤ n ∧ n ≤ 600 ∧ s + n ≤ S - 33
theorem next_eq {S np : Nat} (hS : 100 ≤ S ∧ S ≤ 600) (hnp : np < 4) {so st le : Nat → Int32} (hok : PlanOk S np so st le) : ∃ b : Nat, 40 ≤ b ∧ b ≤ 608 ∧ f_Plan_nextStart (nI np) st le = some (nI b) ∧ (np ≠ 0 → nI b = (st (np - 1) + le (np - 1) + 7) / 8 * 8) ∧ (np = 0 → b = 40) := by
  unfold f_Plan_nextStart
  by_cases h0 : np = 0
  · subst h0
    refine ⟨40, by omega, by omega, ?_, fun h => absurd rfl h, fun _ => rfl⟩
    rw [if_neg (by decide)]
    rfl
  · have hne : ¬ nI np = 0 := nI_ne0 (by omega) (by omega)
    obtain ⟨-, s, n, e1, e2, g1, g2, g3, g4⟩ := hok (np - 1) (by omega)
    have hm : nI np - 1 = nI (np - 1) := by
      obtain ⟨q, rfl⟩ : ∃ q, np = q + 1 := ⟨np - 1, by omega⟩
      rw [nI_pred]
      rfl
    have hb : (st (np - 1) + le (np - 1) + 7) / 8 * 8 = nI ((s + n + 7) / 8 * 8) := by
      rw [e1, e2, nI_add, show (7 : Int32) = nI 7 from rfl, nI_add, show (8 : Int32) = nI 8 from rfl, pk_div (by omega) (by decide) (by decide), pk_mul]
    refine ⟨(s + n + 7) / 8 * 8, by omega, by omega, ?_, fun _ => hb.symm, fun h => absurd h h0⟩
    rw [if_pos hne]
    dsimp only [lt_]
    rw [hm, ix_in (by omega) (by decide), ix_in (by omega) (by decide), hb]
theorem part_eq {S np : Nat} (hS : 100 ≤ S ∧ S ≤ 600) (hnp : np ≤ 4) {so st le : Nat → Int32} (hok : PlanOk S np so st le) (a1 a2 : Int32) :
    ∃ (r : Int32) (np' : Nat) (so' st' le' : Nat → Int32), np' ≤ 4 ∧ PlanOk S np' so' st' le' ∧ f_BootMaker_partition a2 (nI np) so st le (nI (S - 34)) a1 = some (r, nI np', so', st', le') ∧ f_Model_partition a1 (nI np) so st le a2 (nI S) = some (r, 0, nI np', so', st', le') := by
  unfold f_BootMaker_partition f_Plan_addPartition f_Model_partition
  rw [in_eq, bd_e, in_eq]
  dsimp only [lt_]
  by_cases h1 : a1 = 0 ∨ a1 = 1
  · have hA : (0 : Int32) ≤ a1 ∧ a1 ≤ 1 := by rcases h1 with rfl | rfl <;> decide
    rw [if_pos hA, if_neg (show ¬ (1 : Int32) = 0 by decide), bd_e]
    have hj : ∀ {β : Type} (X Y : β), (if a1 = 0 then X else if ¬ a1 = 1 then Y else X) = X := by
      intro β X Y
      rcases h1 with h | h
      · rw [if_pos h]
      · by_cases q : a1 = 0
        · rw [if_pos q]
        · rw [if_neg q, if_neg (not_not_intro h)]
    rw [hj]
    by_cases h2 : (8 : Int32) ≤ a2 ∧ a2 ≤ 600
    · obtain ⟨n, q1, q2, rfl⟩ := i32_in (lo := 8) (hi := 600) (by decide) h2.1 h2.2 (by decide)
      rw [if_neg (Int32.not_lt.mpr h2.1), if_pos h2.2, if_pos h2, if_pos (show ¬ (1 : Int32) = 0 by decide)]
      by_cases h3 : np < 4
      · rw [if_pos (show nI np < 4 from nI_lt (a := np) (b := 4) h3 (by decide)), if_pos (show ¬ nI np = 4 from fun h => by rw [show (4 : Int32) = nI 4 from rfl, nI_eq (by omega) (by omega)] at h; omega)]
        obtain ⟨b, b1, b2, hb, hb1, hb0⟩ := next_eq hS h3 hok
        rw [hb, bd_e]
        have hs : nI b + nI n - 1 = nI (b + n - 1) := by
          rw [nI_add]
          obtain ⟨q, hq⟩ : ∃ q, b + n = q + 1 := ⟨b + n - 1, by omega⟩
          rw [hq, nI_pred]
          rfl
        have hj2 : ∀ {β : Type} (K : Int32 → Option β), (if ¬ nI np = 0 then ix_ 4 st (nI np - 1) (fun v47 => ix_ 4 le (nI np - 1) (fun v49 => K ((v47 + v49 + 7) / 8 * 8))) else K 40) = K (nI b) := by
          intro β K
          by_cases h0 : np = 0
          · rw [if_neg (not_not_intro (by rw [h0]; rfl)), hb0 h0]
            rfl
          · have hm : nI np - 1 = nI (np - 1) := by
              obtain ⟨q, rfl⟩ : ∃ q, np = q + 1 := ⟨np - 1, by omega⟩
              rw [nI_pred]
              rfl
            rw [if_pos (nI_ne0 (by omega) (by omega)), hm, ix_in (by omega) (by decide), ix_in (by omega) (by decide), ← hb1 h0]
        have e := hj2 (fun x => if x + nI n - 1 ≤ nI S - 34 then up_i 4 so (nI np) a1 (fun f41 => up_i 4 st (nI np) x (fun f42 => up_i 4 le (nI np) (nI n) (fun f43 => some (nI np + 1 - 1, (0 : Int32), nI np + 1, f41, f42, f43)))) else some (-3, 0, nI np, so, st, le))
        rw [e, hs, show nI S - 34 = nI (S - 34) from pk_sub (a := S) (b := 34) (by omega)]
        by_cases h4 : b + n - 1 ≤ S - 34
        · rw [if_pos (nI_le h4 (by omega)), if_pos (nI_le h4 (by omega))]
          rw [upi_in (by omega) (by decide), upi_in (by omega) (by decide), upi_in (by omega) (by decide), upi_in (by omega) (by decide), upi_in (by omega) (by decide), upi_in (by omega) (by decide), nI_1, nI_pred, bd_e]
          refine ⟨nI np, np + 1, upd so np a1, upd st np (nI b), upd le np (nI n), by omega, ?_, rfl, rfl⟩
          intro k hk
          by_cases hkn : k = np
          · subst hkn
            rw [pk_us, pk_us, pk_us]
            exact ⟨h1, b, n, rfl, rfl, b1, q1, q2, by omega⟩
          · rw [pk_un hkn, pk_un hkn, pk_un hkn]
            exact hok k (by omega)
        · rw [if_neg (nI_ge (by omega) (by omega)), if_neg (nI_ge (by omega) (by omega)), bd_e]
          exact ⟨-3, np, so, st, le, hnp, hok, rfl, rfl⟩
      · have h4 : np = 4 := by omega
        subst h4
        rw [if_neg (show ¬ nI 4 < 4 by decide), if_neg (show ¬ ¬ nI 4 = 4 by decide), bd_e]
        exact ⟨-3, 4, so, st, le, hnp, hok, rfl, rfl⟩
    · rw [if_neg h2, if_neg (show ¬ ¬ (0 : Int32) = 0 by decide)]
      by_cases h3 : a2 < 8
      · rw [if_pos h3, bd_e]
        exact ⟨-2, np, so, st, le, hnp, hok, rfl, rfl⟩
      · rw [if_neg h3, if_neg (fun h => h2 ⟨Int32.not_lt.mp h3, h⟩), bd_e]
        exact ⟨-2, np, so, st, le, hnp, hok, rfl, rfl⟩
  · have hA : ¬ ((0 : Int32) ≤ a1 ∧ a1 ≤ 1) := by
      intro h
      obtain ⟨n, q1, q2, e⟩ := i32_in (lo := 0) (hi := 1) (by decide) h.1 h.2 (by decide)
      apply h1
      rcases (show n = 0 ∨ n = 1 by omega) with rfl | rfl
      · exact Or.inl e
      · exact Or.inr e
    rw [if_neg hA, if_pos (show (0 : Int32) = 0 from rfl), if_neg (fun h : a1 = 0 => h1 (Or.inl h)), if_pos (fun h : a1 = 1 => h1 (Or.inr h)), bd_e]
    exact ⟨-2, np, so, st, le, hnp, hok, rfl, rfl⟩
theorem where_eq {S np : Nat} (hnp : np ≤ 4) {so st le : Nat → Int32} (a1 a2 : Int32) : ∃ r : Int32, f_BootMaker_where a1 (nI np) a2 st le so = some r ∧ f_Model_where (nI np) a1 a2 so le st = some (r, 0) := by
  unfold f_BootMaker_where f_Plan_tellPartition f_Model_where
  dsimp only [lt_]
  rw [in_eq, bd_e]
  by_cases h : (0 : Int32) ≤ a1 ∧ a1 ≤ nI np - 1
  · have hnp1 : 0 < np := by
      rcases Nat.eq_zero_or_pos np with h0 | h0
      · subst h0
        have h2 := Int32.le_trans h.1 h.2
        exact absurd h2 (by decide)
      · exact h0
    have hm : nI np - 1 = nI (np - 1) := by
      obtain ⟨q, rfl⟩ : ∃ q, np = q + 1 := ⟨np - 1, by omega⟩
      rw [nI_pred]
      rfl
    rw [hm] at h
    obtain ⟨k, -, hk, rfl⟩ := i32_in (lo := 0) (hi := np - 1) (by omega) h.1 h.2 (by decide)
    rw [hm, if_pos h, if_neg (nI_pos (by omega)), if_pos (nI_lt (by omega) (by omega)), if_pos (show ¬ (1 : Int32) = 0 by decide), ix_in (by omega) (by decide), ix_in (by omega) (by decide), ix_in (by omega) (by decide), ix_in (by omega) (by decide), ix_in (by omega) (by decide), ix_in (by omega) (by decide)]
    by_cases h0 : a2 = 0
    · rw [if_pos h0, if_neg (not_not_intro h0)]; exact ⟨_, rfl, rfl⟩
    · rw [if_neg h0, if_pos h0]
      by_cases h1 : a2 = 1
      · rw [if_pos h1, if_neg (not_not_intro h1)]; exact ⟨_, rfl, rfl⟩
      · rw [if_neg h1, if_pos h1]
        by_cases h2 : a2 = 2
        · rw [if_pos h2, if_neg (not_not_intro h2)]; exact ⟨_, rfl, rfl⟩
        · rw [if_neg h2, if_pos h2]; exact ⟨_, rfl, rfl⟩
  · rw [if_neg h, if_neg (show ¬ ¬ (0 : Int32) = 0 by decide)]
    by_cases h1 : a1 < 0
    · rw [if_pos h1]; exact ⟨_, rfl, rfl⟩
    · rw [if_neg h1, if_neg (fun q => h ⟨Int32.not_lt.mp h1, ?_⟩)]
      · exact ⟨_, rfl, rfl⟩
      · obtain ⟨j, hj, rfl⟩ := nI_of h1
        have hj2 : j < np := by
          have := (nI_ltI hj (by omega)).mp q
          exact this
        have hm : nI np - 1 = nI (np - 1) := by
          obtain ⟨q, rfl⟩ : ∃ q, np = q + 1 := ⟨np - 1, by omega⟩
          rw [nI_pred]
          rfl
        rw [hm]
        exact nI_le (by omega) (by omega)
