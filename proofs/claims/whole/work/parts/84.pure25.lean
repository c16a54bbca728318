/-! pure: the kernel's chain of clusters, the class -/
theorem lge {x y : Nat} (hx : x < 2 ^ 62) (hy : y < 2 ^ 62) : 0 ≤ lg_cmp (lN x) (lN y) ↔ y ≤ x := by
  have h := lgn (lN x) (lN y)
  rw [pk_lLT (by omega) (by omega)] at h
  rw [← Int32.not_lt, h]
  omega
theorem lgle {x y : Nat} (hx : x < 2 ^ 62) (hy : y < 2 ^ 62) : lg_cmp (lN x) (lN y) ≤ 0 ↔ x ≤ y := by
  rw [lgl, pk_lLE (by omega) (by omega)]
def cA (b : Nat → Nat) (s c0 : Nat) : Nat → Nat
  | 0 => c0
  | i + 1 => enN b s (cA b s c0 i)
theorem cA_lt {b : Nat → Nat} (hb : ∀ p, b p < 256) {s c0 : Nat} (h : c0 < 65536) : ∀ i, cA b s c0 i < 65536
  | 0 => h
  | i + 1 => Nat.lt_trans (enN_lt hb s _) (by decide)
def chOk (b : Nat → Nat) (s c0 c n : Nat) : Prop := (∀ i, i < n → 2 ≤ cA b s c0 i ∧ cA b s c0 i ≤ c + 1) ∧ (n = 0 ∨ 4088 ≤ cA b s c0 n)
theorem chain_loop {S s t c c0 n N : Nat} {w : Nat → Int64} (hS : 100 ≤ S ∧ S ≤ 600) (hN : 400000 ≤ N) (hv : s + c + 3 + 2 * t ≤ S) (ht : ((c + 2) * 3 + 1) / 2 ≤ 512 * t) (h0 : c0 < 65536) (hn : n ≤ c) : ∀ (r i M : Nat) (x : Nat → Int32), i + r = n → r < M → (∀ j, j < i → 2 ≤ cA (gB w) s c0 j ∧ cA (gB w) s c0 j ≤ c + 1) → (∀ j, j < i → x j = nI (cA (gB w) s c0 j)) → ∃ (z : Int32) (x' : Nat → Int32), lp_ (fun _ _ _ => none) (f_Firmware_followChain_L44 N (lN n) (nI c) S (nI s) (nI (512 * S)) (64 * S) w) M (nI i) (nI (cA (gB w) s c0 i)) x = some (z, x') ∧ ((z = 1 ∧ chOk (gB w) s c0 c n ∧ ∀ j, j < n → x' j = nI (cA (gB w) s c0 j)) ∨ (z = 0 ∧ ¬ chOk (gB w) s c0 c n)) := by
  intro r
  induction r with
  | zero =>
    intro i M' x hi hM hA hx
    obtain ⟨M, rfl⟩ : ∃ M, M' = M + 1 := ⟨M' - 1, by omega⟩
    have e : i = n := by omega
    subst e
    have hc := cA_lt (gB_lt w) (s := s) h0 i
    rw [lp_s, f_Firmware_followChain_L44]
    dsimp only [lt_]
    rw [nI_l (by omega), if_pos ((lge (by omega) (by omega)).mpr (Nat.le_refl i))]
    by_cases hz : i = 0
    · rw [if_pos (show lg_cmp (lN i) 0 = 0 from (lgk (k := 0) (by omega) (by decide)).mpr hz)]
      exact ⟨1, x, rfl, Or.inl ⟨rfl, ⟨hA, Or.inl hz⟩, hx⟩⟩
    · rw [if_neg (show ¬ lg_cmp (lN i) 0 = 0 from fun q => hz ((lgk (k := 0) (by omega) (by decide)).mp q))]
      by_cases h4 : 4088 ≤ cA (gB w) s c0 i
      · rw [if_neg (show ¬ nI (cA (gB w) s c0 i) < (4088 : Int32) from Int32.not_lt.mpr (nI_le (a := 4088) h4 (by omega)))]
        exact ⟨1, x, rfl, Or.inl ⟨rfl, ⟨hA, Or.inr h4⟩, hx⟩⟩
      · rw [if_pos (show nI (cA (gB w) s c0 i) < (4088 : Int32) from nI_lt (b := 4088) (by omega) (by decide))]
        exact ⟨0, x, rfl, Or.inr ⟨rfl, fun q => q.2.elim hz h4⟩⟩
  | succ r ih =>
    intro i M' x hi hM hA hx
    obtain ⟨M, rfl⟩ : ∃ M, M' = M + 1 := ⟨M' - 1, by omega⟩
    have hc := cA_lt (gB_lt w) (s := s) h0 i
    rw [lp_s, f_Firmware_followChain_L44]
    dsimp only [lt_]
    rw [nI_l (by omega), if_neg (fun q => absurd ((lge (by omega) (by omega)).mp q) (by omega))]
    by_cases h2 : 2 ≤ cA (gB w) s c0 i
    case neg =>
      rw [if_pos (show nI (cA (gB w) s c0 i) < (2 : Int32) from nI_lt (b := 2) (by omega) (by decide))]
      exact ⟨0, x, rfl, Or.inr ⟨rfl, fun q => h2 (q.1 i (by omega)).1⟩⟩
    rw [if_neg (show ¬ nI (cA (gB w) s c0 i) < (2 : Int32) from Int32.not_lt.mpr (nI_le (a := 2) h2 (by omega))), show nI c + 1 = nI (c + 1) from nI_add c 1]
    by_cases h3 : cA (gB w) s c0 i ≤ c + 1
    case neg =>
      rw [if_neg (nI_ge (by omega) (by omega))]
      exact ⟨0, x, rfl, Or.inr ⟨rfl, fun q => h3 (q.1 i (by omega)).2⟩⟩
    rw [if_pos (nI_le h3 (by omega)), upi_in (by omega) (by omega), cEn_eq hS hN (by omega) (by omega), bd_e, nI_1]
    refine ih (i + 1) M _ (by omega) (by omega) (fun j hj => ?_) (fun j hj => ?_)
    · by_cases e : j = i
      · rw [e]; exact ⟨h2, h3⟩
      · exact hA j (by omega)
    · by_cases e : j = i
      · rw [e]; simp [upd]
      · simp [upd, e]; exact hx j (by omega)
theorem sz_512 {z : Nat} (hz : z < 2 ^ 32) : (lN z + 511) / 512 = lN ((z + 511) / 512) ∧ (lN z + 512 - 1) / 512 = lN ((z + 511) / 512) := by
  constructor
  · rw [show lN z + 511 = lN (z + 511) from lN_add z 511]
    exact pk_lDiv (b := 512) (by omega) (by decide) (by decide)
  · rw [show lN z + 512 = lN (z + 512) from lN_add z 512, show lN (z + 512) - 1 = lN (z + 512 - 1) from lN_sub (b := 1) (by omega)]
    exact pk_lDiv (b := 512) (by omega) (by decide) (by decide)
theorem chain_class {S s t c c0 z N : Nat} {w : Nat → Int64} {x : Nat → Int32} (hS : 100 ≤ S ∧ S ≤ 600) (hN : 400000 ≤ N) (hv : s + c + 3 + 2 * t ≤ S) (ht : ((c + 2) * 3 + 1) / 2 ≤ 512 * t) (h0 : c0 < 65536) (hz : z < 2 ^ 32) : ∃ (r : Int32) (x' : Nat → Int32), f_Firmware_followChain N (lN z) (nI c) x S (nI s) (nI (512 * S)) (64 * S) w (nI c0) = some (r, x') ∧ ((r = 1 ∧ ((z + 511) / 512 ≤ c ∧ chOk (gB w) s c0 c ((z + 511) / 512)) ∧ ∀ j, j < (z + 511) / 512 → x' j = nI (cA (gB w) s c0 j)) ∨ (r = 0 ∧ ¬ ((z + 511) / 512 ≤ c ∧ chOk (gB w) s c0 c ((z + 511) / 512)))) := by
  unfold f_Firmware_followChain
  dsimp only [lt_]
  rw [(sz_512 hz).2, nI_l (show c < 2 ^ 31 by omega), show Int32.ofNat S = nI S from rfl, nI_l (show S < 2 ^ 31 by omega)]
  by_cases h : (z + 511) / 512 ≤ c
  · rw [if_neg (fun q => absurd ((lgc (by omega) (by omega)).mp q) (by omega)), if_pos ((lgle (by omega) (by omega)).mpr (by omega))]
    obtain ⟨r, x', e, hh⟩ := chain_loop (w := w) hS hN hv ht h0 h ((z + 511) / 512) 0 N x (by omega) (by omega) (fun j hj => absurd hj (by omega)) (fun j hj => absurd hj (by omega))
    refine ⟨r, x', e, ?_⟩
    rcases hh with ⟨a, b, d⟩ | ⟨a, b⟩
    · exact Or.inl ⟨a, ⟨h, b⟩, d⟩
    · exact Or.inr ⟨a, fun q => b q.2⟩
  · rw [if_pos ((lgc (by omega) (by omega)).mpr (by omega))]
    exact ⟨0, x, rfl, Or.inr ⟨rfl, fun q => h q.1⟩⟩
