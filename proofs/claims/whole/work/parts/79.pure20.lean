theorem fc_congr {S : Nat} (hS : 100 ≤ S) {b b' : Nat → Nat} (hD : ∀ q, q < 512 * S → b q = b' q) {k : Nat} (hk : k ≤ 20) : fr_ b k = fr_ b' k ∧ ct_ b k = ct_ b' k :=
  ⟨loN_congr 4 _ (fun q h1 h2 => hD q (by omega)), loN_congr 2 _ (fun q h1 h2 => hD q (by omega))⟩
theorem sec_congr {S : Nat} (hS : 100 ≤ S) {b b' : Nat → Nat} (hD : ∀ q, q < 512 * S → b q = b' q) : ∀ (r k i : Nat), k + r ≤ 21 → secAt b r k i = secAt b' r k i
  | 0, _, _, _ => rfl
  | r + 1, k, i, h => by
    obtain ⟨e1, e2⟩ := fc_congr hS hD (show k ≤ 20 by omega)
    show (if i < ct_ b k then fr_ b k + i else secAt b r (k + 1) (i - ct_ b k)) = (if i < ct_ b' k then fr_ b' k + i else secAt b' r (k + 1) (i - ct_ b' k))
    rw [e1, e2, sec_congr hS hD r (k + 1) _ (by omega)]
theorem tot_congr {S : Nat} (hS : 100 ≤ S) {b b' : Nat → Nat} (hD : ∀ q, q < 512 * S → b q = b' q) : ∀ (r k : Nat), k + r ≤ 21 → tot_ b r k = tot_ b' r k
  | 0, _, _ => rfl
  | r + 1, k, h => by
    show ct_ b k + tot_ b r (k + 1) = ct_ b' k + tot_ b' r (k + 1)
    rw [(fc_congr hS hD (show k ≤ 20 by omega)).2, tot_congr hS hD r (k + 1) (by omega)]
theorem ld_congr {S : Nat} (hS : 100 ≤ S ∧ S ≤ 600) {b b' : Nat → Nat} (hD : ∀ q, q < 512 * S → b q = b' q) (h : ldOk S b) : ldOk S b' ∧ loN b (lds b + 4) 4 = loN b' (lds b' + 4) 4 := by
  obtain ⟨⟨a1, a2, a3, a4⟩, ⟨ho, ht⟩, hs, hr, hat⟩ := h
  have e64 : b 64 = b' 64 := hD 64 (by omega)
  have ez : ldz b = ldz b' := by
    unfold ldz
    rw [← e64]
    exact loN_congr 4 _ (fun q h1 h2 => hD q (by omega))
  have hs0 := sec_lt (b 64) 0 0 ho (by omega)
  have es : lds b = lds b' := by
    unfold lds
    rw [← e64, sec_congr hS.1 hD _ _ _ (by omega)]
  have hl : lds b + 512 ≤ 512 * S := by unfold lds; omega
  have hat2 : loN b (lds b + 4) 4 = loN b' (lds b' + 4) 4 := by
    rw [← es]
    exact loN_congr 4 _ (fun q h1 h2 => hD q (by omega))
  refine ⟨⟨⟨by omega, by omega, by omega, by omega⟩, ⟨fun j h1 h2 => ?_, ?_⟩, ?_, fun j hj => ?_, by omega⟩, hat2⟩
  · obtain ⟨c1, c2⟩ := fc_congr hS.1 hD (k := j) (by omega)
    rw [← c1, ← c2]
    exact ho j (by omega) (by omega)
  · rw [← e64, ← ez, ← tot_congr hS.1 hD _ _ (by omega)]
    exact ht
  · rw [← e64, ← ez]
    rw [show loN b' (69 + 6 * b 64) 4 = loN b (69 + 6 * b 64) 4 from (loN_congr 4 _ (fun q h1 h2 => hD q (by omega))).symm, ← hs]
    refine congrArg (fun x : Int32 => x ^^^ (-1)) (cR_congr _ (fun j hj => ?_)).symm
    unfold lb_
    have hlt := sec_lt (b 64) 0 ((0 + j) / 512) ho (by omega)
    rw [← sec_congr hS.1 hD _ _ _ (by omega)]
    exact hD _ (by omega)
  · rw [← es, ← hD _ (by omega)]
    exact hr j hj
/-- booting by the loader: both sides give the same reason and start -/
theorem loader_eq {S N : Nat} (hS : 100 ≤ S ∧ S ≤ 600) (hN : 400000 ≤ N) {w : Nat → Int64} {d : Nat → Int32} {T : Nat → Int32} (hT : isT T) (hD : Alike_ S w d) (u : Int32) (ls : Nat → Int32) : ∃ (r b u' : Int32) (ls' : Nat → Int32), f_Firmware_searchLoader N (nI (512 * S)) (64 * S) w (-1) ls u (nI S) T = some (r, b, ls', u') ∧ f_Model_byLoader N d (-1) (nI S) = some (r, b) ∧ ((r = 0 ∧ ∃ f, f < S ∧ b = nI f) ∨ r = 9 ∧ b = -1) := by
  obtain ⟨r, b', u', ls', e1, h1⟩ := loader_class (w := w) hT hS hN (-1) u ls
  obtain ⟨r2, f, e2, h2⟩ := loader_model (d := d) hS hN (-1)
  rcases h1 with ⟨rfl, o1, rfl⟩ | ⟨rfl, o1, rfl⟩ <;> rcases h2 with ⟨rfl, o2, rfl⟩ | ⟨rfl, o2, rfl⟩
  · obtain ⟨-, ee⟩ := ld_congr hS hD o1
    rw [← ee] at e2
    exact ⟨_, _, _, _, e1, e2, Or.inl ⟨rfl, _, o1.2.2.2.2, rfl⟩⟩
  · exact absurd (ld_congr hS hD o1).1 o2
  · exact absurd (ld_congr hS (fun q hq => (hD q hq).symm) o2).1 o1
  · exact ⟨_, _, _, _, e1, e2, Or.inr ⟨rfl, rfl⟩⟩
