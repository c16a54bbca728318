def hdrOk (S s : Nat) (b : Nat → Nat) : Prop := rowIs b (512 * s) (tVal 2) 8 ∧ loN b (512 * s + 12) 4 = 92 ∧ loN b (512 * s + 24) 8 = s ∧ loN b (512 * s + 80) 4 = 128 ∧ loN b (512 * s + 84) 4 = 128 ∧ tailOk S (512 * s) b
theorem loN4 {b : Nat → Nat} (hb : ∀ p, b p < 256) (p : Nat) : loN b p 4 < 2 ^ 32 := Nat.lt_of_lt_of_le (loN_lt hb 4 p) (by decide)
theorem lgN {x y : Nat} (hx : x < 2 ^ 64) (hy : y < 2 ^ 64) : lg_cmp (lN x) (lN y) = 0 ↔ x = y := by
  rw [lgz]
  exact ⟨lN_inj hx hy, fun h => by rw [h]⟩
theorem header_eq {S s N : Nat} (hS : 100 ≤ S ∧ S ≤ 600) (hs : s < S) (hN : 400000 ≤ N) {w : Nat → Int64} {T : Nat → Int32} (hT : isT T) (u : Int32) : ∃ r u' : Int32, f_Firmware_isGoodHeader N (nI s) (nI (512 * S)) (64 * S) w u T (nI S) = some (r, u') ∧ (r = 1 ∧ hdrOk S s (gB w) ∨ r = 0 ∧ ¬ hdrOk S s (gB w)) := by
  unfold f_Firmware_isGoodHeader
  dsimp only [lt_]
  rw [show nI s * 512 = nI (512 * s) from by rw [show (512 : Int32) = nI 512 from rfl, pk_mul, Nat.mul_comm]]
  obtain ⟨z, hz, hrow⟩ := holds_eq (w := w) (f := tVal 2) (p := 512 * s) (k := 8) (len := 512 * S) (n := 64 * S) (N := N) (by omega) (by omega) (by omega) (by omega)
  rw [hz, bd_e]
  rcases hrow with ⟨rfl, hrow⟩ | ⟨rfl, hrow⟩
  · rw [if_neg (show ¬ (1 : Int32) = 0 by decide)]
    rw [show nI (512 * s) + 12 = nI (512 * s + 12) from nI_add _ 12, cl 4 (k := 4) rfl (by omega) (by omega) (by omega) (by decide) (by omega), bd_e, show (92 : Int64) = lN 92 from rfl]
    have b1 := loN4 (gB_lt w) (512 * s + 12)
    by_cases h1 : loN (gB w) (512 * s + 12) 4 = 92
    · rw [if_neg (not_not_intro ((lgN (by omega) (by omega)).mpr h1))]
      rw [show nI (512 * s) + 24 = nI (512 * s + 24) from nI_add _ 24, cl 8 (k := 8) rfl (by omega) (by omega) (by omega) (by decide) (by omega), bd_e, nI_l (show s < 2 ^ 31 by omega)]
      have b2 := loN8 (gB_lt w) (512 * s + 24)
      by_cases h2 : loN (gB w) (512 * s + 24) 8 = s
      · rw [if_neg (not_not_intro ((lgN b2 (by omega)).mpr h2))]
        rw [show nI (512 * s) + 80 = nI (512 * s + 80) from nI_add _ 80, cl 4 (k := 4) rfl (by omega) (by omega) (by omega) (by decide) (by omega), bd_e, show (128 : Int64) = lN 128 from rfl]
        have b3 := loN4 (gB_lt w) (512 * s + 80)
        by_cases h3 : loN (gB w) (512 * s + 80) 4 = 128
        · rw [if_neg (not_not_intro ((lgN (by omega) (by omega)).mpr h3))]
          rw [show nI (512 * s) + 84 = nI (512 * s + 84) from nI_add _ 84, cl 4 (k := 4) rfl (by omega) (by omega) (by omega) (by decide) (by omega), bd_e]
          have b4 := loN4 (gB_lt w) (512 * s + 84)
          by_cases h4 : loN (gB w) (512 * s + 84) 4 = 128
          · rw [if_neg (not_not_intro ((lgN (by omega) (by omega)).mpr h4))]
            rw [show nI (512 * s) + 16 = nI (512 * s + 16) from nI_add _ 16, cl 4 (k := 4) rfl (by omega) (by omega) (by omega) (by decide) (by omega), bd_e, overHeader_eq hT (by omega) (by omega) (by omega) (by omega), bd_e]
            by_cases h5 : (lN (loN (gB w) (512 * s + 16) 4)).toInt32 = cR (hB (gB w) (512 * s)) 0 92 ^^^ (-1)
            · rw [if_neg (not_not_intro h5)]
              obtain ⟨r, u', e1, e2⟩ := entries_eq hS hs hN hT (cR (hB (gB w) (512 * s)) 0 92) (w := w)
              rw [e1, bd_e]
              rcases e2 with ⟨rfl, e2⟩ | ⟨rfl, e2⟩
              · rw [if_neg (show ¬ (1 : Int32) = 0 by decide)]
                exact ⟨1, _, rfl, Or.inl ⟨rfl, hrow, h1, h2, h3, h4, h5, e2.1, e2.2⟩⟩
              · rw [if_pos (show (0 : Int32) = 0 from rfl)]
                exact ⟨0, _, rfl, Or.inr ⟨rfl, fun q => e2 ⟨q.2.2.2.2.2.2.1, q.2.2.2.2.2.2.2⟩⟩⟩
            · rw [if_pos h5]
              exact ⟨0, _, rfl, Or.inr ⟨rfl, fun q => h5 q.2.2.2.2.2.1⟩⟩
          · rw [if_pos (fun q => h4 ((lgN (by omega) (by omega)).mp q))]
            exact ⟨0, _, rfl, Or.inr ⟨rfl, fun q => h4 q.2.2.2.2.1⟩⟩
        · rw [if_pos (fun q => h3 ((lgN (by omega) (by omega)).mp q))]
          exact ⟨0, _, rfl, Or.inr ⟨rfl, fun q => h3 q.2.2.2.1⟩⟩
      · rw [if_pos (fun q => h2 ((lgN b2 (by omega)).mp q))]
        exact ⟨0, _, rfl, Or.inr ⟨rfl, fun q => h2 q.2.2.1⟩⟩
    · rw [if_pos (fun q => h1 ((lgN (by omega) (by omega)).mp q))]
      exact ⟨0, _, rfl, Or.inr ⟨rfl, fun q => h1 q.2.1⟩⟩
  · rw [if_pos (show (0 : Int32) = 0 from rfl)]
    exact ⟨0, _, rfl, Or.inr ⟨rfl, fun q => hrow q.1⟩⟩
theorem isGood_loop {S s N : Nat} (hS : 100 ≤ S ∧ S ≤ 600) (hs : s < S) (h8 : 8 < N) {d : Nat → Int32} (x : Int32) : ∀ (r i M : Nat), i + r = 92 → r < M → lp_ (fun _ _ => none) (f_Model_isGood_L188 N (nI (512 * s)) d x (nI S)) M (nI i) (cR (hB (mB d) (512 * s)) 0 i) = f_Model_isGood_L188 N (nI (512 * s)) d x (nI S) (fun _ _ => none) 92 (cR (hB (mB d) (512 * s)) 0 92) := by
  intro r
  induction r with
  | zero =>
    intro i N' hi hN
    obtain ⟨M, rfl⟩ : ∃ M, N' = M + 1 := ⟨N' - 1, by omega⟩
    have : i = 92 := by omega
    subst this
    rw [lp_s, f_Model_isGood_L188, f_Model_isGood_L188, if_pos (show (92 : Int32) ≤ nI 92 by decide), if_pos (show (92 : Int32) ≤ 92 by decide)]
  | succ r ih =>
    intro i N' hi hN
    obtain ⟨M, rfl⟩ : ∃ M, N' = M + 1 := ⟨N' - 1, by omega⟩
    rw [← ih (i + 1) M (by omega) (by omega)]
    rw [lp_s, f_Model_isGood_L188, if_neg (show ¬ (92 : Int32) ≤ nI i from nI_ge (a := i) (b := 92) (by omega) (by omega)), in_eq, bd_e]
    dsimp only [lt_]
    have e : cR (hB (mB d) (512 * s)) 0 (i + 1) = cN 8 (cR (hB (mB d) (512 * s)) 0 i ^^^ nI (hB (mB d) (512 * s) i)) := by
      show cN 8 (cR (hB (mB d) (512 * s)) 0 i ^^^ nI (hB (mB d) (512 * s) (0 + i))) = _
      rw [Nat.zero_add]
    by_cases h1 : (16 : Int32) ≤ nI i ∧ nI i ≤ 19
    · have g1 : 16 ≤ i := (nI_leI (a := 16) (b := i) (by omega) (by omega)).mp h1.1
      have g2 : i ≤ 19 := (nI_leI (a := i) (b := 19) (by omega) (by omega)).mp h1.2
      rw [if_pos h1, if_neg (show ¬ (1 : Int32) = 0 by decide), goesOn_eq _ _ h8, bd_e, nI_1, e, show hB (mB d) (512 * s) i = 0 from by unfold hB; rw [if_pos (by omega)]]
      rfl
    · have g : ¬ (16 ≤ i ∧ i < 20) := fun q => h1 ⟨(nI_leI (a := 16) (b := i) (by omega) (by omega)).mpr q.1, (nI_leI (a := i) (b := 19) (by omega) (by omega)).mpr (by omega)⟩
      rw [if_neg h1, if_pos (show (0 : Int32) = 0 from rfl), nI_add, mget_in (by omega), bd_e, goesOn_eq _ _ h8, bd_e, nI_1, e, show hB (mB d) (512 * s) i = mB d (512 * s + i) from by unfold hB; rw [if_neg g]]
theorem isGood_tail {S s N : Nat} (hS : 100 ≤ S ∧ S ≤ 600) (hs : s < S) (hN : 400000 ≤ N) {d : Nat → Int32} (x : Int32) : ∃ r : Int32, lp_ (fun _ _ => none) (f_Model_isGood_L188 N (nI (512 * s)) d x (nI S)) N 0 (-1) = some r ∧ (r = 1 ∧ (¬ x = 0 ∧ tailOk S (512 * s) (mB d)) ∨ r = 0 ∧ ¬ (¬ x = 0 ∧ tailOk S (512 * s) (mB d))) := by
  have hl : lp_ (fun _ _ => none) (f_Model_isGood_L188 N (nI (512 * s)) d x (nI S)) N 0 (-1) = _ := isGood_loop hS hs (by omega) x 92 0 N (by omega) (by omega)
  rw [hl, f_Model_isGood_L188, if_pos (show (92 : Int32) ≤ 92 by decide)]
  dsimp only [lt_]
  rw [show nI (512 * s) + 72 = nI (512 * s + 72) from nI_add _ 72, ml 8 (k := 8) rfl (by omega) (by decide) (by omega), bd_e]
  by_cases hx : x = 0
  · rw [if_pos hx]
    exact ⟨0, rfl, Or.inr ⟨rfl, fun q => q.1 hx⟩⟩
  · rw [if_neg hx, show nI (512 * s) + 16 = nI (512 * s + 16) from nI_add _ 16, ml 4 (k := 4) rfl (by omega) (by decide) (by omega), bd_e]
    by_cases h5 : (lN (loN (mB d) (512 * s + 16) 4)).toInt32 = cR (hB (mB d) (512 * s)) 0 92 ^^^ (-1)
    · rw [if_neg (not_not_intro h5), show nI S - 32 = nI (S - 32) from pk_sub (a := S) (b := 32) (by omega), nI_l (show S - 32 < 2 ^ 31 by omega), show nI (512 * s) + 88 = nI (512 * s + 88) from nI_add _ 88, ml 4 (k := 4) rfl (by omega) (by decide) (by omega), bd_e]
      have he := loN8 (mB_lt d) (512 * s + 72)
      have hc := place_cmp hS he
      unfold tailOk
      generalize hE : loN (mB d) (512 * s + 72) 8 = e at he hc ⊢
      by_cases h1 : lg_cmp (lN e) 0 < 0
      · rw [if_pos h1]
        exact ⟨0, rfl, Or.inr ⟨rfl, fun q => (hc.mpr q.2.2.1).1 h1⟩⟩
      · rw [if_neg h1]
        by_cases h2 : lg_cmp (lN e) (lN (S - 32)) ≤ 0
        · have hle := hc.mp ⟨h1, h2⟩
          rw [if_pos h2, lN_i, show (512 : Int32) * nI e = nI (512 * e) from pk_mul 512 e, show f_Model_sumOf N 16384 (nI (512 * e)) d = _ from sumOf_eq (n := 16384) (by omega) (by omega) (by omega), bd_e]
          by_cases h3 : (lN (loN (mB d) (512 * s + 88) 4)).toInt32 = cR (mB d) (512 * e) 16384 ^^^ (-1)
          · rw [if_neg (not_not_intro h3)]
            exact ⟨1, rfl, Or.inl ⟨rfl, hx, h5, hle, h3⟩⟩
          · rw [if_pos h3]
            exact ⟨0, rfl, Or.inr ⟨rfl, fun q => h3 q.2.2.2⟩⟩
        · rw [if_neg h2]
          exact ⟨0, rfl, Or.inr ⟨rfl, fun q => h2 (hc.mpr q.2.2.1).2⟩⟩
    · rw [if_pos h5]
      exact ⟨0, rfl, Or.inr ⟨rfl, fun q => h5 q.2.1⟩⟩
