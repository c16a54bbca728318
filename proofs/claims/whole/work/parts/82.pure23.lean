/-! pure: the first sector of the boot partition -/
def vL (b : Nat → Nat) (s : Nat) : Nat := loN b (512 * s + 19) 2
def vT (b : Nat → Nat) (s : Nat) : Nat := loN b (512 * s + 22) 2
def volOk (S s : Nat) (b : Nat → Nat) : Prop := (nI (b (512 * s + 510)) = 85 ∧ nI (b (512 * s + 511)) = 170) ∧ loN b (512 * s + 11) 2 = 512 ∧ nI (b (512 * s + 13)) = 1 ∧ loN b (512 * s + 14) 2 = 1 ∧ nI (b (512 * s + 16)) = 2 ∧ loN b (512 * s + 17) 2 = 32 ∧ vT b s ≠ 0 ∧ 4 + 2 * vT b s ≤ vL b s ∧ ((vL b s - (3 + 2 * vT b s) + 2) * 3 + 1) / 2 ≤ 512 * vT b s ∧ s + vL b s ≤ S
theorem sub3 (L t : Nat) : nI L - 3 - nI t = nI L - nI (3 + t) := by
  rw [← nI_add 3 t, Int32.sub_eq_add_neg, Int32.sub_eq_add_neg, Int32.sub_eq_add_neg, Int32.neg_add, Int32.sub_eq_add_neg, Int32.add_assoc]
  rfl
theorem sub12 (x : Int32) : x - 1 - 2 = x - 3 := by
  rw [Int32.sub_eq_add_neg, Int32.sub_eq_add_neg, Int32.sub_eq_add_neg, Int32.add_assoc]
  rfl
theorem sub_lt1 {L t : Nat} (hL : L < 65536) (ht : t < 65536) : nI L - nI (3 + 2 * t) < 1 ↔ ¬ 4 + 2 * t ≤ L := by
  rw [Int32.lt_iff_toInt_lt, pk_sub_toInt (by omega) (by omega), show (1 : Int32).toInt = 1 from rfl]
  omega
theorem lgk {x k : Nat} (hx : x < 65536) (hk : k < 65536) : lg_cmp (lN x) (lN k) = 0 ↔ x = k := by
  rw [lgz]
  exact ⟨fun h => lN_inj (by omega) (by omega) h, fun h => by rw [h]⟩
set_option maxHeartbeats 1000000 in
theorem vol_class {S s N : Nat} {w : Nat → Int64} (hS : 100 ≤ S ∧ S ≤ 600) (hs : s < S) (hN : 400000 ≤ N) : ∃ z : Int32, f_Firmware_readVolumeSector N (nI s) (nI (512 * S)) (64 * S) w (nI S) = some (z, nI (vT (gB w) s), nI (vL (gB w) s) - nI (3 + 2 * vT (gB w) s)) ∧ (z = 1 ∧ volOk S s (gB w) ∨ z = 0 ∧ ¬ volOk S s (gB w)) := by
  have hL : vL (gB w) s < 65536 := loN2 (gB_lt w) _
  have hT : vT (gB w) s < 65536 := loN2 (gB_lt w) _
  obtain ⟨z, hz, hh⟩ := isBoot_eq (N := N) (w := w) hS hs (by omega)
  unfold f_Firmware_readVolumeSector f_Volume_clustersIn f_Volume_tableBytes
  dsimp only [lt_]
  rw [show nI s * 512 = nI (512 * s) from by rw [show (512 : Int32) = nI 512 from rfl, pk_mul, Nat.mul_comm]]
  rw [show nI (512 * s) + 19 = nI (512 * s + 19) from nI_add _ 19, show nI (512 * s) + 22 = nI (512 * s + 22) from nI_add _ 22, show nI (512 * s) + 11 = nI (512 * s + 11) from nI_add _ 11, show nI (512 * s) + 13 = nI (512 * s + 13) from nI_add _ 13, show nI (512 * s) + 14 = nI (512 * s + 14) from nI_add _ 14, show nI (512 * s) + 16 = nI (512 * s + 16) from nI_add _ 16, show nI (512 * s) + 17 = nI (512 * s + 17) from nI_add _ 17]
  rw [cl (p := 512 * s + 19) 2 (k := 2) rfl (by omega) (by omega) (by omega) (by decide) (by omega), bd_e, cl (p := 512 * s + 22) 2 (k := 2) rfl (by omega) (by omega) (by omega) (by decide) (by omega), bd_e, lN_i, lN_i, bd_e, hz, bd_e]
  rw [cl (p := 512 * s + 11) 2 (k := 2) rfl (by omega) (by omega) (by omega) (by decide) (by omega), bd_e, get_in (p := 512 * s + 13) (by omega) (by omega) (by omega), bd_e, cl (p := 512 * s + 14) 2 (k := 2) rfl (by omega) (by omega) (by omega) (by decide) (by omega), bd_e, get_in (p := 512 * s + 16) (by omega) (by omega) (by omega), bd_e, cl (p := 512 * s + 17) 2 (k := 2) rfl (by omega) (by omega) (by omega) (by decide) (by omega), bd_e, bd_e]
  change ∃ z' : Int32, _ ∧ _
  rw [sub12, show (2 : Int32) * nI (loN (gB w) (512 * s + 22) 2) = nI (2 * vT (gB w) s) from pk_mul 2 _, sub3, show loN (gB w) (512 * s + 19) 2 = vL (gB w) s from rfl, show loN (gB w) (512 * s + 22) 2 = vT (gB w) s from rfl, nI_add, show (512 : Int32) * nI (vT (gB w) s) = nI (512 * vT (gB w) s) from pk_mul 512 _]
  generalize eC : nI (vL (gB w) s) - nI (3 + 2 * vT (gB w) s) = C
  rcases hh with ⟨e, h0⟩ | ⟨e, h0⟩
  case inr => rw [e, if_pos rfl]; exact ⟨0, rfl, Or.inr ⟨rfl, fun q => h0 q.1⟩⟩
  rw [e, if_neg (show ¬ (1 : Int32) = 0 by decide)]
  by_cases h1 : loN (gB w) (512 * s + 11) 2 = 512
  case neg => rw [if_pos (show ¬ lg_cmp (lN (loN (gB w) (512 * s + 11) 2)) 512 = 0 from fun q => h1 ((lgk (k := 512) (loN2 (gB_lt w) _) (by decide)).mp q))]; exact ⟨0, rfl, Or.inr ⟨rfl, fun q => h1 q.2.1⟩⟩
  rw [if_neg (show ¬ ¬ lg_cmp (lN (loN (gB w) (512 * s + 11) 2)) 512 = 0 from fun q => q ((lgk (k := 512) (loN2 (gB_lt w) _) (by decide)).mpr h1))]
  by_cases h2 : nI (gB w (512 * s + 13)) = 1
  case neg => rw [if_pos h2]; exact ⟨0, rfl, Or.inr ⟨rfl, fun q => h2 q.2.2.1⟩⟩
  rw [if_neg (show ¬ ¬ nI (gB w (512 * s + 13)) = 1 from fun q => q h2)]
  by_cases h3 : loN (gB w) (512 * s + 14) 2 = 1
  case neg => rw [if_pos (show ¬ lg_cmp (lN (loN (gB w) (512 * s + 14) 2)) 1 = 0 from fun q => h3 ((lgk (k := 1) (loN2 (gB_lt w) _) (by decide)).mp q))]; exact ⟨0, rfl, Or.inr ⟨rfl, fun q => h3 q.2.2.2.1⟩⟩
  rw [if_neg (show ¬ ¬ lg_cmp (lN (loN (gB w) (512 * s + 14) 2)) 1 = 0 from fun q => q ((lgk (k := 1) (loN2 (gB_lt w) _) (by decide)).mpr h3))]
  by_cases h4 : nI (gB w (512 * s + 16)) = 2
  case neg => rw [if_pos h4]; exact ⟨0, rfl, Or.inr ⟨rfl, fun q => h4 q.2.2.2.2.1⟩⟩
  rw [if_neg (show ¬ ¬ nI (gB w (512 * s + 16)) = 2 from fun q => q h4)]
  by_cases h5 : loN (gB w) (512 * s + 17) 2 = 32
  case neg => rw [if_pos (show ¬ lg_cmp (lN (loN (gB w) (512 * s + 17) 2)) 32 = 0 from fun q => h5 ((lgk (k := 32) (loN2 (gB_lt w) _) (by decide)).mp q))]; exact ⟨0, rfl, Or.inr ⟨rfl, fun q => h5 q.2.2.2.2.2.1⟩⟩
  rw [if_neg (show ¬ ¬ lg_cmp (lN (loN (gB w) (512 * s + 17) 2)) 32 = 0 from fun q => q ((lgk (k := 32) (loN2 (gB_lt w) _) (by decide)).mpr h5))]
  by_cases h6 : vT (gB w) s = 0
  · rw [h6, if_pos (show nI 0 ≤ 0 by decide)]; exact ⟨0, rfl, Or.inr ⟨rfl, fun q => q.2.2.2.2.2.2.1 h6⟩⟩
  rw [if_neg (show ¬ nI (vT (gB w) s) ≤ 0 from nI_ge (a := 0) (b := vT (gB w) s) (by omega) (by omega))]
  by_cases h7 : 4 + 2 * vT (gB w) s ≤ vL (gB w) s
  case neg => rw [if_pos (show C < 1 from eC ▸ (sub_lt1 hL hT).mpr h7)]; exact ⟨0, rfl, Or.inr ⟨rfl, fun q => h7 q.2.2.2.2.2.2.2.1⟩⟩
  rw [if_neg (show ¬ C < 1 from fun q => (sub_lt1 hL hT).mp (eC.symm ▸ q) h7)]
  have eC' : C = nI (vL (gB w) s - (3 + 2 * vT (gB w) s)) := by rw [← eC, pk_sub (by omega)]
  rw [eC', show nI (vL (gB w) s - (3 + 2 * vT (gB w) s)) + 2 = nI (vL (gB w) s - (3 + 2 * vT (gB w) s) + 2) from nI_add _ 2, show nI (vL (gB w) s - (3 + 2 * vT (gB w) s) + 2) * 3 = nI ((vL (gB w) s - (3 + 2 * vT (gB w) s) + 2) * 3) from pk_mul _ 3, nI_1, show nI ((vL (gB w) s - (3 + 2 * vT (gB w) s) + 2) * 3 + 1) / 2 = nI (((vL (gB w) s - (3 + 2 * vT (gB w) s) + 2) * 3 + 1) / 2) from pk_div (d := 2) (by omega) (by decide) (by decide)]
  by_cases h8 : ((vL (gB w) s - (3 + 2 * vT (gB w) s) + 2) * 3 + 1) / 2 ≤ 512 * vT (gB w) s
  case neg => rw [if_pos (nI_lt (by omega) (by omega))]; exact ⟨0, rfl, Or.inr ⟨rfl, fun q => h8 q.2.2.2.2.2.2.2.2.1⟩⟩
  rw [if_neg (show ¬ nI (512 * vT (gB w) s) < nI (((vL (gB w) s - (3 + 2 * vT (gB w) s) + 2) * 3 + 1) / 2) from Int32.not_lt.mpr (nI_le h8 (by omega)))]
  by_cases h9 : s + vL (gB w) s ≤ S
  case neg => rw [if_pos (nI_lt (by omega) (by omega))]; exact ⟨0, rfl, Or.inr ⟨rfl, fun q => h9 q.2.2.2.2.2.2.2.2.2⟩⟩
  rw [if_neg (show ¬ nI S < nI (s + vL (gB w) s) from Int32.not_lt.mpr (nI_le h9 (by omega)))]
  exact ⟨1, rfl, Or.inl ⟨rfl, h0, h1, h2, h3, h4, h5, h6, h7, h8, h9⟩⟩
