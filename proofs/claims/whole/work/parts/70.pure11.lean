theorem row8 (b : Nat → Nat) (h : Nat) : rowIs b h (tVal 2) 8 ↔ (nI (b (h + 0)) = 69 ∧ nI (b (h + 1)) = 70 ∧ nI (b (h + 2)) = 73 ∧ nI (b (h + 3)) = 32 ∧ nI (b (h + 4)) = 80 ∧ nI (b (h + 5)) = 65 ∧ nI (b (h + 6)) = 82 ∧ nI (b (h + 7)) = 84) := by
  constructor
  · intro q
    exact ⟨q 0 (by decide), q 1 (by decide), q 2 (by decide), q 3 (by decide), q 4 (by decide), q 5 (by decide), q 6 (by decide), q 7 (by decide)⟩
  · rintro ⟨q0, q1, q2, q3, q4, q5, q6, q7⟩ j hj
    match j, hj with
    | 0, _ => exact q0
    | 1, _ => exact q1
    | 2, _ => exact q2
    | 3, _ => exact q3
    | 4, _ => exact q4
    | 5, _ => exact q5
    | 6, _ => exact q6
    | 7, _ => exact q7
    | (k + 8), h => exact absurd h (by omega)
theorem isGood_eq {S s N : Nat} (hS : 100 ≤ S ∧ S ≤ 600) (hs : s < S) (hN : 400000 ≤ N) {d : Nat → Int32} : ∃ r : Int32, f_Model_isGood N (nI s) d (nI S) = some r ∧ (r = 1 ∧ hdrOk S s (mB d) ∨ r = 0 ∧ ¬ hdrOk S s (mB d)) := by
  obtain ⟨r0, t0, hr0⟩ := isGood_tail (d := d) hS hs hN 0
  obtain ⟨r1, t1, hr1⟩ := isGood_tail (d := d) hS hs hN 1
  have z0 : r0 = 0 := by
    rcases hr0 with ⟨-, q, -⟩ | ⟨q, -⟩
    · exact absurd rfl q
    · exact q
  subst z0
  unfold f_Model_isGood
  dsimp only [lt_]
  rw [show (512 : Int32) * nI s = nI (512 * s) from pk_mul 512 s, t0, t1, if_pos (show (0 : Int32) = 0 from rfl), if_neg (show ¬ (1 : Int32) = 0 by decide)]
  rw [show nI (512 * s) + 1 = nI (512 * s + 1) from nI_add _ 1, show nI (512 * s) + 2 = nI (512 * s + 2) from nI_add _ 2, show nI (512 * s) + 3 = nI (512 * s + 3) from nI_add _ 3, show nI (512 * s) + 4 = nI (512 * s + 4) from nI_add _ 4, show nI (512 * s) + 5 = nI (512 * s + 5) from nI_add _ 5, show nI (512 * s) + 6 = nI (512 * s + 6) from nI_add _ 6, show nI (512 * s) + 7 = nI (512 * s + 7) from nI_add _ 7]
  rw [mget_in (show 512 * s < 307200 by omega), bd_e, mget_in (show 512 * s + 1 < 307200 by omega), bd_e, mget_in (show 512 * s + 2 < 307200 by omega), bd_e, mget_in (show 512 * s + 3 < 307200 by omega), bd_e, mget_in (show 512 * s + 4 < 307200 by omega), bd_e, mget_in (show 512 * s + 5 < 307200 by omega), bd_e, mget_in (show 512 * s + 6 < 307200 by omega), bd_e, mget_in (show 512 * s + 7 < 307200 by omega), bd_e]
  rw [show nI (512 * s) + 12 = nI (512 * s + 12) from nI_add _ 12, show nI (512 * s) + 24 = nI (512 * s + 24) from nI_add _ 24, show nI (512 * s) + 80 = nI (512 * s + 80) from nI_add _ 80, show nI (512 * s) + 84 = nI (512 * s + 84) from nI_add _ 84]
  rw [show f_Model_lowAt N 4 (nI (512 * s + 12)) d = _ from ml 4 (k := 4) rfl (by omega) (by decide) (by omega), bd_e, show f_Model_lowAt N 8 (nI (512 * s + 24)) d = _ from ml 8 (k := 8) rfl (by omega) (by decide) (by omega), bd_e, show f_Model_lowAt N 4 (nI (512 * s + 80)) d = _ from ml 4 (k := 4) rfl (by omega) (by decide) (by omega), bd_e, show f_Model_lowAt N 4 (nI (512 * s + 84)) d = _ from ml 4 (k := 4) rfl (by omega) (by decide) (by omega), bd_e]
  rw [nI_l (show s < 2 ^ 31 by omega), show (92 : Int64) = lN 92 from rfl, show (128 : Int64) = lN 128 from rfl]
  have b1 := loN4 (mB_lt d) (512 * s + 12)
  have b2 := loN8 (mB_lt d) (512 * s + 24)
  have b3 := loN4 (mB_lt d) (512 * s + 80)
  have b4 := loN4 (mB_lt d) (512 * s + 84)
  unfold hdrOk
  rw [row8, Nat.add_zero]
  by_cases q0 : nI (mB d (512 * s)) = 69
  · rw [if_neg (not_not_intro q0)]
    by_cases q1 : nI (mB d (512 * s + 1)) = 70
    · rw [if_neg (not_not_intro q1)]
      by_cases q2 : nI (mB d (512 * s + 2)) = 73
      · rw [if_neg (not_not_intro q2)]
        by_cases q3 : nI (mB d (512 * s + 3)) = 32
        · rw [if_neg (not_not_intro q3)]
          by_cases q4 : nI (mB d (512 * s + 4)) = 80
          · rw [if_neg (not_not_intro q4)]
            by_cases q5 : nI (mB d (512 * s + 5)) = 65
            · rw [if_neg (not_not_intro q5)]
              by_cases q6 : nI (mB d (512 * s + 6)) = 82
              · rw [if_neg (not_not_intro q6)]
                by_cases q7 : nI (mB d (512 * s + 7)) = 84
                · rw [if_neg (not_not_intro q7)]
                  by_cases h1 : loN (mB d) (512 * s + 12) 4 = 92
                  · rw [if_neg (not_not_intro ((lgN (by omega) (by omega)).mpr h1))]
                    by_cases h2 : loN (mB d) (512 * s + 24) 8 = s
                    · rw [if_neg (not_not_intro ((lgN b2 (by omega)).mpr h2))]
                      by_cases h3 : loN (mB d) (512 * s + 80) 4 = 128
                      · rw [if_neg (not_not_intro ((lgN (by omega) (by omega)).mpr h3))]
                        by_cases h4 : loN (mB d) (512 * s + 84) 4 = 128
                        · rw [if_neg (not_not_intro ((lgN (by omega) (by omega)).mpr h4))]
                          refine ⟨r1, rfl, ?_⟩
                          rcases hr1 with ⟨e, q⟩ | ⟨e, q⟩
                          · exact Or.inl ⟨e, ⟨q0, q1, q2, q3, q4, q5, q6, q7⟩, h1, h2, h3, h4, q.2⟩
                          · exact Or.inr ⟨e, fun z => q ⟨by decide, z.2.2.2.2.2⟩⟩
                        · rw [if_pos (fun q => h4 ((lgN (by omega) (by omega)).mp q))]
                          exact ⟨0, rfl, Or.inr ⟨rfl, fun q => h4 q.2.2.2.2.1⟩⟩
                      · rw [if_pos (fun q => h3 ((lgN (by omega) (by omega)).mp q))]
                        exact ⟨0, rfl, Or.inr ⟨rfl, fun q => h3 q.2.2.2.1⟩⟩
                    · rw [if_pos (fun q => h2 ((lgN b2 (by omega)).mp q))]
                      exact ⟨0, rfl, Or.inr ⟨rfl, fun q => h2 q.2.2.1⟩⟩
                  · rw [if_pos (fun q => h1 ((lgN (by omega) (by omega)).mp q))]
                    exact ⟨0, rfl, Or.inr ⟨rfl, fun q => h1 q.2.1⟩⟩
                · rw [if_pos q7]; exact ⟨0, rfl, Or.inr ⟨rfl, fun q => q7 q.1.2.2.2.2.2.2.2⟩⟩
              · rw [if_pos q6]; exact ⟨0, rfl, Or.inr ⟨rfl, fun q => q6 q.1.2.2.2.2.2.2.1⟩⟩
            · rw [if_pos q5]; exact ⟨0, rfl, Or.inr ⟨rfl, fun q => q5 q.1.2.2.2.2.2.1⟩⟩
          · rw [if_pos q4]; exact ⟨0, rfl, Or.inr ⟨rfl, fun q => q4 q.1.2.2.2.2.1⟩⟩
        · rw [if_pos q3]; exact ⟨0, rfl, Or.inr ⟨rfl, fun q => q3 q.1.2.2.2.1⟩⟩
      · rw [if_pos q2]; exact ⟨0, rfl, Or.inr ⟨rfl, fun q => q2 q.1.2.2.1⟩⟩
    · rw [if_pos q1]; exact ⟨0, rfl, Or.inr ⟨rfl, fun q => q1 q.1.2.1⟩⟩
  · rw [if_pos q0]; exact ⟨0, rfl, Or.inr ⟨rfl, fun q => q0 q.1.1⟩⟩
theorem hdr_congr {S s : Nat} (hS : 100 ≤ S ∧ S ≤ 600) (hs : s < S) {b b' : Nat → Nat} (hD : ∀ q, q < 512 * S → b q = b' q) (h : hdrOk S s b) : hdrOk S s b' := by
  have lo : ∀ p k, p + k ≤ 512 * S → loN b p k = loN b' p k := fun p k hp => loN_congr k p (fun q h1 h2 => hD q (by omega))
  obtain ⟨h0, h1, h2, h3, h4, h5, h6, h7⟩ := h
  have e := lo (512 * s + 72) 8 (by omega)
  refine ⟨fun j hj => ?_, ?_, ?_, ?_, ?_, ?_, ?_, ?_⟩
  · rw [← hD _ (by omega)]; exact h0 j hj
  · rw [← lo _ _ (by omega)]; exact h1
  · rw [← lo _ _ (by omega)]; exact h2
  · rw [← lo _ _ (by omega)]; exact h3
  · rw [← lo _ _ (by omega)]; exact h4
  · rw [← lo _ _ (by omega), h5]
    refine congrArg (fun x : Int32 => x ^^^ (-1)) (cR_congr 92 (fun j hj => ?_))
    unfold hB
    by_cases q : 16 ≤ 0 + j ∧ 0 + j < 20
    · rw [if_pos q, if_pos q]
    · rw [if_neg q, if_neg q, hD _ (by omega)]
  · rw [← e]; exact h6
  · rw [← e, ← lo _ _ (by omega), h7]
    exact congrArg (fun x : Int32 => x ^^^ (-1)) (cR_congr 16384 (fun j hj => hD _ (by omega)))
/-- both sides judge a header alike -/
theorem good_eq {S s N : Nat} (hS : 100 ≤ S ∧ S ≤ 600) (hs : s < S) (hN : 400000 ≤ N) {w : Nat → Int64} {d : Nat → Int32} {T : Nat → Int32} (hT : isT T) (hD : Alike_ S w d) (u : Int32) : ∃ r u' : Int32, f_Firmware_isGoodHeader N (nI s) (nI (512 * S)) (64 * S) w u T (nI S) = some (r, u') ∧ f_Model_isGood N (nI s) d (nI S) = some r ∧ (r = 0 ∨ r = 1 ∧ hdrOk S s (gB w)) := by
  obtain ⟨r, u', e1, h1⟩ := header_eq (w := w) hS hs hN hT u
  obtain ⟨r2, e2, h2⟩ := isGood_eq (d := d) hS hs hN
  refine ⟨r, u', e1, ?_, ?_⟩
  · rcases h1 with ⟨rfl, h1⟩ | ⟨rfl, h1⟩ <;> rcases h2 with ⟨rfl, h2⟩ | ⟨rfl, h2⟩
    · exact e2
    · exact absurd (hdr_congr hS hs hD h1) h2
    · exact absurd (hdr_congr hS hs (fun q hq => (hD q hq).symm) h2) h1
    · exact e2
  · rcases h1 with ⟨rfl, h1⟩ | ⟨rfl, -⟩
    · exact Or.inr ⟨rfl, h1⟩
    · exact Or.inl rfl
