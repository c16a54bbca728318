/-! pure: write: a file's byte -/
theorem body_eq {k j n : Nat} {se : Nat → Int32} (hk : k < 12) (hj : j ≤ 9000) (hs : se k = nI n) (hn : n ≤ 255) : (ix_ 12 se (nI k) (fun (v33 : Int32) => some ((v33 + (7 : Int32) * nI j + nI j / 200) &&& 255))) = some (nI ((n + 7 * j + j / 200) % 256)) ∧ (ix_ 12 se (nI k) (fun (v153 : Int32) => some ((v153 + (7 : Int32) * nI j + nI j / 200) - (v153 + (7 : Int32) * nI j + nI j / 200) / 256 * 256))) = some (nI ((n + 7 * j + j / 200) % 256)) := by
  have e : nI n + (7 : Int32) * nI j + nI j / 200 = nI (n + 7 * j + j / 200) := by
    rw [show (7 : Int32) * nI j = nI (7 * j) from pk_mul 7 j, show nI j / 200 = nI (j / 200) from pk_div (d := 200) (by omega) (by decide) (by decide), nI_add, nI_add]
  constructor
  · rw [ix_in hk (by decide), hs, e, and255]
  · rw [ix_in hk (by decide), hs, e]
    exact congrArg some (pk_rem (d := 256) (by omega) (by decide) (by decide))
