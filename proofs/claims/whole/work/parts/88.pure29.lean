/-! pure: the kernel loaded, alike -/
theorem kr_congr {S s t c c0 z : Nat} {b b' : Nat → Nat} (h : ∀ q, q < 512 * S → b q = b' q) (hv : s + c + 3 + 2 * t ≤ S) (hc : 8 ≤ z → c0 ≤ c + 1) : (krOk b s t c0 z ↔ krOk b' s t c0 z) ∧ (8 ≤ z → loN b (kH s t c0 + 4) 4 = loN b' (kH s t c0 + 4) 4) := by
  have hH : 8 ≤ z → kH s t c0 + 512 ≤ 512 * S := fun q => by have := hc q; unfold kH; omega
  have e : 8 ≤ z → loN b (kH s t c0 + 4) 4 = loN b' (kH s t c0 + 4) 4 := fun q => loN_congr 4 _ (fun r h1 h2 => h r (by have := hH q; omega))
  refine ⟨⟨?_, ?_⟩, e⟩
  · rintro ⟨h8, hr, h6⟩
    have := hH h8
    exact ⟨h8, fun j hj => by rw [← h _ (by omega)]; exact hr j hj, by rw [← e h8]; exact h6⟩
  · rintro ⟨h8, hr, h6⟩
    have := hH h8
    exact ⟨h8, fun j hj => by rw [h _ (by omega)]; exact hr j hj, by rw [e h8]; exact h6⟩
set_option maxHeartbeats 1000000 in
theorem load_eq {S s N : Nat} {w m : Nat → Int64} {d mem ch : Nat → Int32} {kA kS : Int32} (hS : 100 ≤ S ∧ S ≤ 600) (hs : s < S) (hN : 400000 ≤ N) (hD : Alike_ S w d) (hM : ∀ q, q < 65536 → gB m q = mB mem q) : ∃ (r T C kA' kS' : Int32) (ch' : Nat → Int32) (m' : Nat → Int64) (mem' : Nat → Int32), f_Firmware_loadKernel N (nI s) (nI (512 * S)) (64 * S) w (nI S) ch S kA kS m (nI 65536) 8192 = some (r, T, C, kA', kS', ch', m') ∧ f_Model_loaded N (nI s) d kA kS mem (nI S) = some (r, kA', kS', mem') ∧ ∀ q, q < 65536 → gB m' q = mB mem' q := by
  obtain ⟨z, hz, hh⟩ := vol_class (N := N) (w := w) hS hs hN
  obtain ⟨v1, v2⟩ := vol_model (N := N) (d := d) (kA := kA) (kS := kS) (mem := mem) hS hs hN
  obtain ⟨eT, eL, eV⟩ := vol_congr hD hs
  unfold f_Firmware_loadKernel
  rw [hz, bd_e]
  dsimp only [lt_]
  rcases hh with ⟨e, hv⟩ | ⟨e, hv⟩
  case inr =>
    rw [e, if_neg (show ¬ ¬ (0 : Int32) = 0 by decide), v2 (fun q => hv (eV.mpr q))]
    exact ⟨5, _, _, kA, kS, ch, m, mem, rfl, rfl, hM⟩
  rw [e, if_pos (show ¬ (1 : Int32) = 0 by decide), v1 (eV.mp hv), ← eT, ← eL]
  obtain ⟨-, -, -, -, -, -, h6, h7, h8, h9⟩ := hv
  generalize vT (gB w) s = t at h6 h7 h8 ⊢
  generalize vL (gB w) s = L at h7 h8 h9 ⊢
  obtain ⟨c, rfl⟩ : ∃ c, L = c + (3 + 2 * t) := ⟨L - (3 + 2 * t), by omega⟩
  rw [pk_sub (by omega), Nat.add_sub_cancel]
  rw [Nat.add_sub_cancel] at h8
  have hv : s + c + 3 + 2 * t ≤ S := by omega
  unfold mRest
  obtain ⟨y, k1, k2, k3⟩ := kernel_eq (s := s) (t := t) hS hN hD (by omega)
  rw [k1, bd_e, k2, bd_e]
  rcases k3 with k3 | ⟨j, hj, k3⟩
  · rw [k3, if_neg (show ¬ ¬ (-1 : Int32) = -1 by decide), if_neg (show ¬ (0 : Int32) ≤ -1 by decide)]
    exact ⟨6, _, _, kA, kS, ch, m, mem, rfl, rfl, hM⟩
  generalize hP : 512 * (s + 1 + 2 * t) + 32 * j = P at k3
  rw [k3, if_pos (show ¬ nI P = -1 from fun q => absurd (show nI P < 0 by rw [q]; decide) (nI_pos (by omega))), if_pos (nI_pos' (by omega)), show nI P + 28 = nI (P + 28) from nI_add P 28, show nI P + 26 = nI (P + 26) from nI_add P 26, cl 4 (k := 4) rfl (by omega) (by omega) (by omega) (by decide) (by omega), bd_e, cl 2 (k := 2) rfl (by omega) (by omega) (by omega) (by decide) (by omega), bd_e, ml 4 (k := 4) rfl (by omega) (by decide) (by omega), bd_e, ml 2 (k := 2) rfl (by omega) (by decide) (by omega), bd_e, lN_i, lN_i, lN_i, ← loN_congr 4 (P + 28) (fun q h1 h2 => hD q (by omega)), ← loN_congr 2 (P + 26) (fun q h1 h2 => hD q (by omega))]
  have hz4 : loN (gB w) (P + 28) 4 < 2 ^ 32 := loN4 (gB_lt w) _
  have hc0 : loN (gB w) (P + 26) 2 < 65536 := loN2 (gB_lt w) _
  generalize loN (gB w) (P + 28) 4 = z4 at hz4 ⊢
  generalize loN (gB w) (P + 26) 2 = c0 at hc0 ⊢
  obtain ⟨r, x', hr, hrr⟩ := chain_class (x := ch) (w := w) hS hN hv h8 hc0 hz4
  rw [hr, bd_e, (sz_512 hz4).1, nI_l (show c < 2 ^ 31 by omega)]
  have hsym : ∀ q, q < 512 * S → mB d q = gB w q := fun q hq => (hD q hq).symm
  rcases hrr with ⟨e1, ⟨hn, hch⟩, hx⟩ | ⟨e1, hno⟩
  case inr =>
    dsimp only
    rw [e1, if_neg (show ¬ ¬ (0 : Int32) = 0 by decide)]
    refine ⟨7, _, _, kA, kS, x', m, mem, rfl, ?_, hM⟩
    by_cases hn : (z4 + 511) / 512 ≤ c
    · rw [if_pos ((lgle (by omega) (by omega)).mpr hn)]
      refine (mchain_loop (S := S) (c := c) (z := lN z4) hS hv h8 hc0 hn ((z4 + 511) / 512) 0 N (by omega) (by omega) (fun j hj => absurd hj (by omega)) (fun q => Or.inl q.symm)).2 (fun q => hno ⟨hn, ?_⟩)
      exact chOk_congr hsym hv h8 q
    · rw [if_neg (fun q => hn ((lgle (by omega) (by omega)).mp q))]
  dsimp only
  have hch' : chOk (mB d) s c0 c ((z4 + 511) / 512) := chOk_congr hD hv h8 hch
  rw [e1, if_pos (show ¬ (1 : Int32) = 0 by decide), if_pos ((lgle (by omega) (by omega)).mpr hn)]
  have hm := (mchain_loop (S := S) (c := c) (N := N) (z := lN z4) (kA := kA) (kS := kS) (mem := mem) hS hv h8 hc0 hn ((z4 + 511) / 512) 0 N (by omega) (by omega) (fun j hj => absurd hj (by omega)) (fun q => Or.inl q.symm)).1 hch'
  have hm' : lp_ (fun _ _ => none) (f_Model_loaded_L277 N (lN ((z4 + 511) / 512)) (lN z4) (nI s) (nI t) (nI c0) d kA kS mem (nI c)) N 0 (nI c0) = mTail N (lN z4) (nI s) (nI t) (nI c0) d kA kS mem := hm
  rw [hm']
  obtain ⟨a1, a2⟩ := copy_class (N := N) (m := m) (x := x') (kA := kA) (kS := kS) hS hN hv hn hch.1 hx
  obtain ⟨b1, b2⟩ := copy_model (N := N) (mem := mem) (kA := kA) (kS := kS) hS hN hv h8 hn hch'.1
  have hc1 : 8 ≤ z4 → c0 ≤ c + 1 := fun q => (hch.1 0 (by omega)).2
  obtain ⟨g1, g2⟩ := kr_congr (z := z4) (c0 := c0) hD hv hc1
  by_cases hk : krOk (gB w) s t c0 z4
  · obtain ⟨m', p1, p2⟩ := a2 hk
    obtain ⟨mem', q1, q2⟩ := b2 (g1.mp hk)
    rw [p1, bd_e, q1]
    dsimp only
    rw [if_neg (show ¬ (1 : Int32) = 0 by decide), ← g2 hk.1]
    rw [← g2 hk.1] at q2
    refine ⟨0, _, _, _, _, x', m', mem', rfl, rfl, fun q hq => ?_⟩
    rw [p2 q hq, q2 q hq]
    by_cases hin : loN (gB w) (kH s t c0 + 4) 4 ≤ q ∧ q < loN (gB w) (kH s t c0 + 4) 4 + z4
    · rw [if_pos hin, if_pos hin]
      generalize hjj : q - loN (gB w) (kH s t c0 + 4) 4 = jj
      have hjz : jj < z4 := by omega
      have hcc := hch.1 (jj / 512) (by omega)
      unfold kP
      rw [← ch_congr hD hv h8 hch.1 (jj / 512) (by omega)]
      exact hD _ (by omega)
    · rw [if_neg hin, if_neg hin]
      exact hM q hq
  · rw [a1 hk, bd_e, b1 (fun q => hk (g1.mpr q))]
    dsimp only
    rw [if_pos (show (0 : Int32) = 0 from rfl)]
    exact ⟨8, _, _, kA, kS, x', m, mem, rfl, rfl, hM⟩
