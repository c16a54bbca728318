/-! pure: address, booted, byteAt, poke, sum, file: both sides -/
theorem address_eq (a1 k : Int32) : ∃ r k' : Int32, f_BootMaker_address a1 k = some (r, k') ∧ f_Model_address a1 k = some (r, 0, k') := by
  unfold f_BootMaker_address f_Model_address
  by_cases h : 0 ≤ a1
  · rw [if_pos h, if_pos h]; exact ⟨_, _, rfl, rfl⟩
  · rw [if_neg h, if_neg h]; exact ⟨_, _, rfl, rfl⟩
theorem booted_eq (t a h b k z : Int32) : ∃ r : Int32, f_BootMaker_booted t a h b k z = some r ∧ f_Model_booted t a z k b h = some (r, 0) := by
  unfold f_BootMaker_booted f_Firmware_tell f_Model_booted
  by_cases ht : t = 0
  · rw [if_neg (not_not_intro ht), if_neg (not_not_intro ht)]; exact ⟨_, rfl, rfl⟩
  · rw [if_pos ht, if_pos ht]
    by_cases h0 : a = 0
    · rw [if_pos h0, if_neg (not_not_intro h0)]; exact ⟨_, rfl, rfl⟩
    · rw [if_neg h0, if_pos h0]
      by_cases h1 : a = 1
      · rw [if_pos h1, if_neg (not_not_intro h1)]; exact ⟨_, rfl, rfl⟩
      · rw [if_neg h1, if_pos h1]
        by_cases h2 : a = 2
        · rw [if_pos h2, if_neg (not_not_intro h2)]; exact ⟨_, rfl, rfl⟩
        · rw [if_neg h2, if_pos h2]
          by_cases h3 : a = 3
          · rw [if_pos h3, if_neg (not_not_intro h3)]; exact ⟨_, rfl, rfl⟩
          · rw [if_neg h3, if_pos h3]; exact ⟨_, rfl, rfl⟩
/-- the disks are alike: every byte of S sectors -/
def Alike_ (S : Nat) (w : Nat → Int64) (d : Nat → Int32) : Prop := ∀ p, p < 512 * S → gB w p = mB d p
theorem dlast {S : Nat} (hS : 100 ≤ S ∧ S ≤ 600) : (512 : Int32) * nI S - 1 = nI (512 * S - 1) := by
  rw [show (512 : Int32) = nI 512 from rfl, pk_mul]
  obtain ⟨q, hq⟩ : ∃ q, 512 * S = q + 1 := ⟨512 * S - 1, by omega⟩
  rw [hq, nI_pred]
  rfl
/-- an address is on the disk, or both sides see that it isn't -/
theorem onDisk {S : Nat} (hS : 100 ≤ S ∧ S ≤ 600) (a : Int32) : (∃ p, p < 512 * S ∧ a = nI p ∧ f_Store_has a (nI (512 * S)) = some 1 ∧ f_Model_in a 0 (nI (512 * S - 1)) = some 1) ∨ (f_Store_has a (nI (512 * S)) = some 0 ∧ f_Model_in a 0 (nI (512 * S - 1)) = some 0) := by
  by_cases h : a < 0
  · right
    refine ⟨by unfold f_Store_has; rw [if_pos h], ?_⟩
    rw [in_eq, if_neg (fun q => (Int32.not_le.mpr h) q.1)]
  · obtain ⟨p, hp, rfl⟩ := nI_of h
    by_cases h2 : p < 512 * S
    · left
      refine ⟨p, h2, rfl, ?_, ?_⟩
      · rw [has_eq (by omega) hp, if_pos h2]
      · rw [in_eq, if_pos ⟨nI_pos' hp, nI_le (by omega) (by omega)⟩]
    · right
      refine ⟨?_, ?_⟩
      · rw [has_eq (by omega) hp, if_neg h2]
      · rw [in_eq, if_neg (fun q => nI_ge (a := 512 * S - 1) (b := p) (by omega) hp q.2)]
theorem byteAt_eq {S : Nat} (hS : 100 ≤ S ∧ S ≤ 600) {w : Nat → Int64} {d : Nat → Int32} (hD : Alike_ S w d) (a : Int32) : ∃ r : Int32, f_BootMaker_byteAt a (nI (512 * S)) (64 * S) w = some r ∧ f_Model_byteAt (nI S) a d = some (r, 0) := by
  unfold f_BootMaker_byteAt f_Model_byteAt
  dsimp only [lt_]
  rw [dlast hS]
  rcases onDisk hS a with ⟨p, hp, rfl, e1, e2⟩ | ⟨e1, e2⟩
  · rw [e1, e2, bd_e, bd_e, if_neg (show ¬ (1 : Int32) = 0 by decide), if_neg (show ¬ (1 : Int32) = 0 by decide), get_in hp (by omega) (by omega), mget_in (by omega), bd_e, bd_e, hD p hp]
    exact ⟨_, rfl, rfl⟩
  · rw [e1, e2, bd_e, bd_e, if_pos rfl, if_pos rfl]
    exact ⟨_, rfl, rfl⟩
theorem poke_eq {S : Nat} (hS : 100 ≤ S ∧ S ≤ 600) {w : Nat → Int64} {d : Nat → Int32} (hD : Alike_ S w d) (a v : Int32) : ∃ (r : Int32) (w' : Nat → Int64) (d' : Nat → Int32), f_BootMaker_poke a (nI (512 * S)) (64 * S) w v = some (r, w') ∧ f_Model_poke (nI S) a d v = some (r, 0, d') ∧ Alike_ S w' d' := by
  unfold f_BootMaker_poke f_Model_poke
  dsimp only [lt_]
  rw [dlast hS]
  rcases onDisk hS a with ⟨p, hp, rfl, e1, e2⟩ | ⟨e1, e2⟩
  · rw [e1, e2, bd_e, bd_e, if_pos (show ¬ (1 : Int32) = 0 by decide), if_pos (show ¬ (1 : Int32) = 0 by decide), get_in hp (by omega) (by omega), mget_in (by omega), bd_e, bd_e, put_in v hp (by omega) (by omega), bd_e, upb_in (by omega) (by decide), hD p hp]
    refine ⟨_, _, _, rfl, rfl, fun q hq => ?_⟩
    rw [gB_pB, mB_upd, hD q hq]
  · rw [e1, e2, bd_e, bd_e, if_neg (show ¬ ¬ (0 : Int32) = 0 by decide), if_neg (show ¬ ¬ (0 : Int32) = 0 by decide)]
    exact ⟨_, _, _, rfl, rfl, hD⟩
theorem lgc {x y : Nat} (hx : x < 2 ^ 62) (hy : y < 2 ^ 62) : (0 < lg_cmp (lN x) (lN y)) ↔ y < x := by
  unfold lg_cmp
  by_cases h : lN y < lN x
  · have := (pk_lLT (by omega) (by omega)).mp h
    simp only [if_pos h]
    exact ⟨fun _ => this, fun _ => by decide⟩
  · have h1 : ¬ y < x := fun q => h ((pk_lLT (by omega) (by omega)).mpr q)
    simp only [if_neg h]
    refine ⟨fun q => ?_, fun q => absurd q h1⟩
    exfalso
    by_cases h2 : lN x = lN y
    · rw [if_pos h2] at q; exact absurd q (by decide)
    · rw [if_neg h2] at q; exact absurd q (by decide)
theorem sum_eq {S N : Nat} (hS : 100 ≤ S ∧ S ≤ 600) (hN : 400000 ≤ N) {w : Nat → Int64} {d : Nat → Int32} {T : Nat → Int32} (hT : isT T) (hD : Alike_ S w d) (u a b : Int32) : ∃ r u' : Int32, f_BootMaker_sum N u b a (nI (512 * S)) (64 * S) w T = some (r, u') ∧ f_Model_sum N b a (nI S) d = some (r, 0) := by
  unfold f_BootMaker_sum f_Model_sum
  dsimp only [lt_]
  by_cases ha : a < 0
  · by_cases hb : b < 0
    · rw [if_pos ha, if_pos rfl, if_pos hb]; exact ⟨_, _, rfl, rfl⟩
    · rw [if_pos ha, if_pos rfl, if_neg hb, if_pos ha]; exact ⟨_, _, rfl, rfl⟩
  · by_cases hb : b < 0
    · rw [if_neg ha, if_pos hb, if_pos rfl, if_pos hb]; exact ⟨_, _, rfl, rfl⟩
    · obtain ⟨p, hp, rfl⟩ := nI_of ha
      obtain ⟨n, hn, rfl⟩ := nI_of hb
      rw [if_neg ha, if_neg hb, if_neg hb, if_neg ha, nI_l hp, nI_l hn, lN_add, nI_l (show 512 * S < 2 ^ 31 by omega), nI_l (show S < 2 ^ 31 by omega), show (512 : Int64) = lN 512 from rfl, lN_mul]
      by_cases h : 512 * S < p + n
      · have hc := (lgc (x := p + n) (y := 512 * S) (by omega) (by omega)).mpr h
        rw [if_pos hc, if_pos rfl, if_pos hc]
        exact ⟨_, _, rfl, rfl⟩
      · have hc : ¬ 0 < lg_cmp (lN (p + n)) (lN (512 * S)) := fun q => h ((lgc (by omega) (by omega)).mp q)
        rw [if_neg hc, if_neg (show ¬ (1 : Int32) = 0 by decide), if_neg hc, over_eq hT (by omega) (by omega) (by omega) (by omega), bd_e, sumOf_eq (by omega) (by omega) (by omega), bd_e, cR_congr (b := gB w) (b' := mB d) (p := p) (p' := p) n (fun j hj => hD _ (by omega))]
        exact ⟨_, _, rfl, rfl⟩
