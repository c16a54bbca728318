/-! pure: names; file: both sides -/
/-- k bytes, none of them 0 -/
def NmK (k x : Nat) : Prop := x < 256 ^ k ∧ ∀ i, i < k → bY x i ≠ 0
theorem bY_0 (x c : Nat) (hc : c < 256) : bY (x * 256 + c) 0 = c := by
  unfold bY
  rw [Nat.mul_zero, Nat.pow_zero, Nat.div_one]
  omega
theorem bY_s (x c i : Nat) (hc : c < 256) : bY (x * 256 + c) (i + 1) = bY x i := by
  unfold bY
  rw [show 8 * (i + 1) = 8 + 8 * i by omega, Nat.pow_add, ← Nat.div_div_eq_div_mul, show (2 : Nat) ^ 8 = 256 from rfl, show (x * 256 + c) / 256 = x by omega]
theorem NmK_s {k x c : Nat} (h : NmK k x) (hc : c < 256) (h0 : c ≠ 0) : NmK (k + 1) (x * 256 + c) := by
  refine ⟨?_, fun i hi => ?_⟩
  · have := h.1
    rw [Nat.pow_succ]
    omega
  · cases i with
    | zero => rw [bY_0 x c hc]; exact h0
    | succ i => rw [bY_s x c i hc]; exact h.2 i (by omega)
theorem letter_eq (c : Int32) : ∃ u : Int32, f_Plan_isNameCharacter c = some u ∧ f_Model_isLetter c = some u := by
  have h : ∃ u : Int32, f_Plan_isNameCharacter c = some u := by
    unfold f_Plan_isNameCharacter
    dsimp only [lt_]
    repeat' split
    all_goals exact ⟨_, rfl⟩
  obtain ⟨u, hu⟩ := h
  exact ⟨u, hu, hu⟩
theorem m8 (j : Nat) : nI (8 * (j + 1)) + (-8) = nI (8 * j) := by
  rw [show 8 * (j + 1) = 8 * j + 8 by omega, ← nI_add, show nI 8 = (8 : Int32) from rfl, Int32.add_assoc, show (8 : Int32) + (-8) = 0 by decide, Int32.add_zero]
theorem chr_eq {v : Int64} {x j : Nat} (hx : x < 2 ^ 64) (e : v = lN x) (hj : j < 8) : (v.toUInt64 >>> ((nI (8 * j)).toInt64.toUInt64 &&& Int64.toUInt64 63)).toInt64.toInt32 &&& 255 = nI (bY x j) ∧ ((v.toUInt64 >>> ((nI (8 * j)).toInt64.toUInt64 &&& Int64.toUInt64 63)).toInt64 &&& 255).toInt32 = nI (bY x j) := by
  have hd : x / 2 ^ (8 * j) < 2 ^ 64 := Nat.lt_of_le_of_lt (Nat.div_le_self _ _) hx
  rw [e, wb_shr hx (by omega)]
  refine ⟨?_, ?_⟩
  · rw [lN_i, and255]; rfl
  · rw [show (255 : Int64) = lN (2 ^ 8 - 1) from rfl, wb_mask hd (by decide), lN_i]; rfl
theorem name_loop {v : Int64} {x : Nat} (hx : x < 2 ^ 64) (e : v = lN x) : ∀ (j N k y : Nat), j < N → k + j ≤ 8 → NmK k y → ∃ r : Int64, lp_ (fun _ _ => none) (f_Plan_nameIn_L6 v) N (nI (8 * j) + (-8)) (lN y) = some r ∧ lp_ (fun _ _ => none) (f_Model_told_L6 v) N (nI j + (-1)) (lN y) = some r ∧ (r = 0 ∨ ∃ k' y' : Nat, k' ≤ 8 ∧ r = lN y' ∧ NmK k' y') := by
  intro j
  induction j with
  | zero =>
    intro N k y hN hk hy
    obtain ⟨M, rfl⟩ : ∃ M, N = M + 1 := ⟨N - 1, by omega⟩
    rw [lp_s, lp_s, f_Plan_nameIn_L6, f_Model_told_L6, if_pos (by decide), if_pos (by decide)]
    exact ⟨_, rfl, rfl, Or.inr ⟨k, y, by omega, rfl, hy⟩⟩
  | succ j ih =>
    intro N k y hN hk hy
    obtain ⟨M, rfl⟩ : ∃ M, N = M + 1 := ⟨N - 1, by omega⟩
    obtain ⟨c1, c2⟩ := chr_eq (v := v) hx e (show j < 8 by omega)
    have hb := bY_lt x j
    rw [lp_s, lp_s, f_Plan_nameIn_L6, f_Model_told_L6, m8, pk_m1, if_neg (nI_pos (by omega)), if_neg (nI_pos (by omega))]
    dsimp only [lt_]
    rw [show (8 : Int32) * nI j = nI (8 * j) from pk_mul 8 j, c1, c2]
    by_cases h0 : bY x j = 0
    · rw [h0, if_pos (show nI 0 = 0 from rfl), if_neg (show ¬ ¬ nI 0 = 0 from not_not_intro rfl)]
      exact ih M k y (by omega) (by omega) hy
    · have hne : ¬ nI (bY x j) = 0 := nI_ne0 (by omega) (by omega)
      obtain ⟨u, hu1, hu2⟩ := letter_eq (nI (bY x j))
      rw [if_neg hne, if_pos hne, hu1, hu2, bd_e, bd_e]
      by_cases hu : u = 0
      · rw [if_neg (not_not_intro hu), if_neg (not_not_intro hu)]
        exact ⟨0, rfl, rfl, Or.inl rfl⟩
      · rw [if_pos hu, if_pos hu]
        have hpw : 256 ^ k * 256 ≤ 2 ^ 64 := by
          rw [← Nat.pow_succ, show (256 : Nat) = 2 ^ 8 from rfl, ← Nat.pow_mul]
          exact Nat.pow_le_pow_right (by decide) (by omega)
        have hy1 := hy.1
        have ea : (lN y <<< ((8 : Int32).toInt64 &&& 63)) ||| (nI (bY x j)).toInt64 = lN (y * 256 + bY x j) := by
          rw [show ((8 : Int32).toInt64 &&& 63) = ((nI 8).toInt64 &&& 63) from rfl, wb_shl _ (by decide), nI_l (by omega), g_or (k := 8) (p := 2 ^ 8) rfl hb (by omega)]
        rw [ea]
        exact ih M (k + 1) _ (by omega) (by omega) (NmK_s hy hb h0)
/-- a file's name: some letters, one to eight -/
def NmOk (v : Int64) : Prop := ∃ k y : Nat, 1 ≤ k ∧ k ≤ 8 ∧ v = lN y ∧ NmK k y
theorem name_eq {N : Nat} (hN : 8 < N) (v : Int64) : ∃ r : Int64, f_Plan_nameIn N v = some r ∧ f_Model_told N v = some r ∧ (r = 0 ∨ NmOk r) := by
  obtain ⟨x, hx, e⟩ := wb_of v
  obtain ⟨r, h1, h2, h3⟩ := name_loop hx e 8 N 0 0 hN (by omega) ⟨by decide, fun i hi => absurd hi (by omega)⟩
  refine ⟨r, h1, h2, ?_⟩
  rcases h3 with h | ⟨k, y, hk, e2, hy⟩
  · exact Or.inl h
  · cases k with
    | zero =>
      have := hy.1
      rw [Nat.pow_zero] at this
      have hy0 : y = 0 := by omega
      subst hy0
      exact Or.inl e2
    | succ k => exact Or.inr ⟨k + 1, y, by omega, hk, e2, hy⟩
/-- the plan's files -/
def FilesOk (nf : Nat) (nm : Nat → Int64) (sz se : Nat → Int32) : Prop := ∀ k, k < nf → NmOk (nm k) ∧ (∃ n : Nat, sz k = nI n ∧ n ≤ 9000) ∧ ∃ n : Nat, se k = nI n ∧ n ≤ 255
theorem named_eq {nf : Nat} (hnf : nf ≤ 12) (nm : Nat → Int64) (v : Int64) : ∀ (r i N : Nat), i + r = nf → r < N → ∃ z : Int32, lp_ (fun _ => none) (f_Plan_fileNamed_L2 (nI nf) nm v) N (nI i) = some z ∧ (z = -1 ∧ (∀ k, i ≤ k → k < nf → ¬ nm k = v) ∨ ∃ k, i ≤ k ∧ k < nf ∧ z = nI k ∧ nm k = v ∧ ∀ k', i ≤ k' → k' < k → ¬ nm k' = v) := by
  intro r
  induction r with
  | zero =>
    intro i N hi hN
    obtain ⟨M, rfl⟩ : ∃ M, N = M + 1 := ⟨N - 1, by omega⟩
    rw [lp_s, f_Plan_fileNamed_L2, if_pos (nI_le (by omega) (by omega))]
    exact ⟨-1, rfl, Or.inl ⟨rfl, fun k h1 h2 => absurd h2 (by omega)⟩⟩
  | succ r ih =>
    intro i N hi hN
    obtain ⟨M, rfl⟩ : ∃ M, N = M + 1 := ⟨N - 1, by omega⟩
    rw [lp_s, f_Plan_fileNamed_L2, if_neg (nI_ge (by omega) (by omega)), ix_in (by omega) (by decide)]
    dsimp only [lt_]
    have hc : lg_cmp (nm i) v = 0 ↔ nm i = v := by
      unfold lg_cmp
      by_cases h1 : nm i > v
      · rw [if_pos h1]
        refine ⟨fun q => absurd q (by decide), fun q => ?_⟩
        rw [q] at h1
        exact absurd h1 Int64.lt_irrefl
      · rw [if_neg h1]
        by_cases h2 : nm i = v
        · rw [if_pos h2]; exact ⟨fun _ => h2, fun _ => rfl⟩
        · rw [if_neg h2]; exact ⟨fun q => absurd q (by decide), fun q => absurd q h2⟩
    by_cases h : nm i = v
    · rw [if_neg (not_not_intro (hc.mpr h))]
      exact ⟨nI i, rfl, Or.inr ⟨i, Nat.le_refl _, by omega, rfl, h, fun k' h1 h2 => absurd h2 (by omega)⟩⟩
    · rw [if_pos (fun q => h (hc.mp q)), nI_1]
      obtain ⟨z, hz, hh⟩ := ih (i + 1) M (by omega) (by omega)
      refine ⟨z, hz, ?_⟩
      rcases hh with ⟨e, hn⟩ | ⟨k, k1, k2, e, hk, hn⟩
      · refine Or.inl ⟨e, fun k h1 h2 => ?_⟩
        by_cases hki : k = i
        · rw [hki]; exact h
        · exact hn k (by omega) h2
      · refine Or.inr ⟨k, by omega, k2, e, hk, fun k' h1 h2 => ?_⟩
        by_cases hki : k' = i
        · rw [hki]; exact h
        · exact hn k' (by omega) h2
/-- which file has a name: -1, or its number; the reference asks alike -/
theorem fileNamed_eq {nf N : Nat} (hnf : nf ≤ 12) (hN : 12 < N) (nm : Nat → Int64) (v : Int64) : ∃ z : Int32, f_Plan_fileNamed N (nI nf) nm v = some z ∧ f_Model_named N (nI nf) nm v = some z ∧ (z = -1 ∧ (∀ k, k < nf → ¬ nm k = v) ∨ ∃ k, k < nf ∧ z = nI k ∧ nm k = v) := by
  obtain ⟨z, hz, h⟩ := named_eq hnf nm v nf 0 N (by omega) (by omega)
  refine ⟨z, hz, hz, ?_⟩
  rcases h with ⟨e, h⟩ | ⟨k, -, h2, h3, h4, -⟩
  · exact Or.inl ⟨e, fun k hk => h k (by omega) hk⟩
  · exact Or.inr ⟨k, h2, h3, h4⟩
theorem lgc0 (v : Int64) : lg_cmp v 0 = 0 ↔ v = 0 := by
  unfold lg_cmp
  by_cases h1 : v > 0
  · rw [if_pos h1]
    refine ⟨fun q => absurd q (by decide), fun q => ?_⟩
    rw [q] at h1
    exact absurd h1 Int64.lt_irrefl
  · rw [if_neg h1]
    by_cases h2 : v = 0
    · rw [if_pos h2]; exact ⟨fun _ => h2, fun _ => rfl⟩
    · rw [if_neg h2]; exact ⟨fun q => absurd q (by decide), fun q => absurd q h2⟩
theorem file_eq {nf N : Nat} (hnf : nf ≤ 12) (hN : 12 < N) {nm : Nat → Int64} {sz se sc : Nat → Int32} (hok : FilesOk nf nm sz se) (a1 : Int64) (a2 a3 a4 : Int32) :
    ∃ (r : Int32) (nf' : Nat) (nm' : Nat → Int64) (sz' se' sc' : Nat → Int32), nf' ≤ 12 ∧ FilesOk nf' nm' sz' se' ∧ f_BootMaker_file N a1 (nI nf) nm sz se sc a2 a3 a4 = some (r, nI nf', nm', sz', se', sc') ∧ f_Model_file N a1 (nI nf) nm sz se sc a2 a3 a4 = some (r, 0, nI nf', nm', sz', se', sc') := by
  obtain ⟨v, e1, e2, hv⟩ := name_eq (N := N) (by omega) a1
  unfold f_BootMaker_file f_Plan_addFile f_Model_file
  rw [e1, e2, bd_e, bd_e]
  dsimp only [lt_]
  by_cases hv0 : v = 0
  · rw [if_pos ((lgc0 v).mpr hv0), if_pos ((lgc0 v).mpr hv0), bd_e]
    exact ⟨-2, nf, nm, sz, se, sc, hnf, hok, rfl, rfl⟩
  · have hc : ¬ lg_cmp v 0 = 0 := fun q => hv0 ((lgc0 v).mp q)
    rw [if_neg hc, if_neg hc, in_eq, bd_e]
    by_cases h2 : (0 : Int32) ≤ a2 ∧ a2 ≤ 9000
    · rw [if_neg (Int32.not_lt.mpr h2.1), if_neg (Int32.not_lt.mpr h2.2), if_pos h2, if_neg (show ¬ (1 : Int32) = 0 by decide), in_eq, bd_e]
      by_cases h3 : (0 : Int32) ≤ a3 ∧ a3 ≤ 255
      · rw [if_neg (Int32.not_lt.mpr h3.1), if_pos h3.2, if_pos h3, if_pos (show ¬ (1 : Int32) = 0 by decide)]
        obtain ⟨z, f1, f2, hz⟩ := fileNamed_eq hnf hN nm v
        rw [f1, f2, bd_e, bd_e]
        rcases hz with ⟨rfl, -⟩ | ⟨k, hk, rfl, -⟩
        · rw [if_pos rfl, if_pos (show (-1 : Int32) < 0 by decide)]
          by_cases h4 : nf < 12
          · rw [if_pos (show nI nf < 12 from nI_lt (a := nf) (b := 12) h4 (by decide)), if_pos (show ¬ nI nf = 12 from fun h => by rw [show (12 : Int32) = nI 12 from rfl, nI_eq (by omega) (by omega)] at h; omega)]
            rw [upl_in h4 (by decide), upl_in h4 (by decide), upi_in h4 (by decide), upi_in h4 (by decide), upi_in h4 (by decide), upi_in h4 (by decide), upz_in h4 (by decide), upz_in h4 (by decide), nI_1, nI_pred, bd_e]
            refine ⟨nI nf, nf + 1, vp_updL nm nf v, upd sz nf a2, upd se nf a3, upd sc nf (vp_nar .boolean a4), by omega, ?_, rfl, rfl⟩
            intro k hk
            by_cases hkn : k = nf
            · subst hkn
              rw [pk_uLs, pk_us, pk_us]
              obtain ⟨n2, -, q2, g2⟩ := i32_in (lo := 0) (hi := 9000) (by decide) h2.1 h2.2 (by decide)
              obtain ⟨n3, -, q3, g3⟩ := i32_in (lo := 0) (hi := 255) (by decide) h3.1 h3.2 (by decide)
              exact ⟨hv.resolve_left hv0, ⟨n2, g2, q2⟩, n3, g3, q3⟩
            · rw [pk_uLn hkn, pk_un hkn, pk_un hkn]
              exact hok k (by omega)
          · have h5 : nf = 12 := by omega
            subst h5
            rw [if_neg (show ¬ nI 12 < 12 by decide), if_neg (show ¬ ¬ nI 12 = 12 by decide), bd_e]
            exact ⟨-3, 12, nm, sz, se, sc, hnf, hok, rfl, rfl⟩
        · rw [if_neg (show ¬ nI k = -1 from fun h => nI_pos (n := k) (by omega) (by rw [h]; decide)), if_neg (nI_pos (by omega)), bd_e]
          exact ⟨-4, nf, nm, sz, se, sc, hnf, hok, rfl, rfl⟩
      · rw [if_neg h3, if_neg (show ¬ ¬ (0 : Int32) = 0 by decide)]
        by_cases h4 : a3 < 0
        · rw [if_pos h4, bd_e]
          exact ⟨-2, nf, nm, sz, se, sc, hnf, hok, rfl, rfl⟩
        · rw [if_neg h4, if_neg (fun h => h3 ⟨Int32.not_lt.mp h4, h⟩), bd_e]
          exact ⟨-2, nf, nm, sz, se, sc, hnf, hok, rfl, rfl⟩
    · rw [if_neg h2, if_pos (show (0 : Int32) = 0 from rfl)]
      by_cases h4 : a2 < 0
      · rw [if_pos h4, bd_e]
        exact ⟨-2, nf, nm, sz, se, sc, hnf, hok, rfl, rfl⟩
      · rw [if_neg h4, if_pos (Int32.not_le.mp (fun h => h2 ⟨Int32.not_lt.mp h4, h⟩)), bd_e]
        exact ⟨-2, nf, nm, sz, se, sc, hnf, hok, rfl, rfl⟩
