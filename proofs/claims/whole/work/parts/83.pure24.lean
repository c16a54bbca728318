/-! pure: the first sector of the boot partition, the reference -/
theorem nE2 {x y : Nat} (hx : x < 2 ^ 32) (hy : y < 2 ^ 32) (h : nI x = nI y) : x = y := by
  have h3 : (nI x).toBitVec.toNat = (nI y).toBitVec.toNat := by rw [h]
  rw [pk_tn hx, pk_tn hy] at h3
  exact h3
/-- what the reference does once the first sector is good -/
def mRest (N s t c : Nat) (d : Nat → Int32) (t_kernelAt t_kernelSize : Int32) (t_memory : Nat → Int32) : Option (Int32 × Int32 × Int32 × (Nat → Int32)) :=
  bd_ (f_Model_kernelEntry N (nI (s + 1 + 2 * t)) d) (fun u18104 => if 0 ≤ u18104 then bd_ (f_Model_lowAt N 4 (u18104 + 28) d) (fun u18106 => if lg_cmp ((u18106 + 511) / 512) (nI c).toInt64 ≤ 0 then bd_ (f_Model_lowAt N 2 (u18104 + 26) d) (fun u18112 => lp_ (fun _ _ => none) (f_Model_loaded_L277 N ((u18106 + 511) / 512) u18106 (nI s) (nI t) u18112.toInt32 d t_kernelAt t_kernelSize t_memory (nI c)) N 0 u18112.toInt32) else some (7, t_kernelAt, t_kernelSize, t_memory)) else some (6, t_kernelAt, t_kernelSize, t_memory))
set_option maxHeartbeats 2000000 in
theorem vol_model {S s N : Nat} {d : Nat → Int32} {kA kS : Int32} {mem : Nat → Int32} (hS : 100 ≤ S ∧ S ≤ 600) (hs : s < S) (hN : 400000 ≤ N) : (volOk S s (mB d) → f_Model_loaded N (nI s) d kA kS mem (nI S) = mRest N s (vT (mB d) s) (vL (mB d) s - (3 + 2 * vT (mB d) s)) d kA kS mem) ∧ (¬ volOk S s (mB d) → f_Model_loaded N (nI s) d kA kS mem (nI S) = some (5, kA, kS, mem)) := by
  have hL : vL (mB d) s < 65536 := loN2 (mB_lt d) _
  have hT : vT (mB d) s < 65536 := loN2 (mB_lt d) _
  unfold f_Model_loaded
  dsimp only [lt_]
  rw [show (512 : Int32) * nI s = nI (512 * s) from pk_mul 512 s]
  rw [show nI (512 * s) + 19 = nI (512 * s + 19) from nI_add _ 19, show nI (512 * s) + 22 = nI (512 * s + 22) from nI_add _ 22, show nI (512 * s) + 11 = nI (512 * s + 11) from nI_add _ 11, show nI (512 * s) + 13 = nI (512 * s + 13) from nI_add _ 13, show nI (512 * s) + 14 = nI (512 * s + 14) from nI_add _ 14, show nI (512 * s) + 16 = nI (512 * s + 16) from nI_add _ 16, show nI (512 * s) + 17 = nI (512 * s + 17) from nI_add _ 17, show nI (512 * s) + 510 = nI (512 * s + 510) from nI_add _ 510, show nI (512 * s) + 511 = nI (512 * s + 511) from nI_add _ 511]
  rw [mget_in (p := 512 * s + 510) (by omega), bd_e, mget_in (p := 512 * s + 511) (by omega), bd_e, ml (p := 512 * s + 19) 2 (k := 2) rfl (by omega) (by decide) (by omega), bd_e, bd_e, ml (p := 512 * s + 22) 2 (k := 2) rfl (by omega) (by decide) (by omega), bd_e, bd_e, lN_i, lN_i]
  rw [ml (p := 512 * s + 11) 2 (k := 2) rfl (by omega) (by decide) (by omega), bd_e, mget_in (p := 512 * s + 13) (by omega), bd_e, ml (p := 512 * s + 14) 2 (k := 2) rfl (by omega) (by decide) (by omega), bd_e, mget_in (p := 512 * s + 16) (by omega), bd_e, ml (p := 512 * s + 17) 2 (k := 2) rfl (by omega) (by decide) (by omega), bd_e]
  rw [if_pos (show (0 : Int32) = 0 from rfl), if_neg (show ¬ (1 : Int32) = 0 by decide)]
  rw [show (2 : Int32) * nI (loN (mB d) (512 * s + 22) 2) = nI (2 * vT (mB d) s) from pk_mul 2 _, sub3, show loN (mB d) (512 * s + 19) 2 = vL (mB d) s from rfl, show loN (mB d) (512 * s + 22) 2 = vT (mB d) s from rfl, show nI s + nI (vL (mB d) s) = nI (s + vL (mB d) s) from nI_add _ _, show (512 : Int32) * nI (vT (mB d) s) = nI (512 * vT (mB d) s) from pk_mul 512 _, show nI s + 1 = nI (s + 1) from nI_add s 1, show nI (s + 1) + nI (2 * vT (mB d) s) = nI (s + 1 + 2 * vT (mB d) s) from nI_add _ _]
  by_cases h00 : nI (mB d (512 * s + 510)) = 85
  case neg => rw [if_pos h00]; exact ⟨fun q => absurd q.1.1 h00, fun _ => rfl⟩
  rw [if_neg (show ¬ ¬ nI (mB d (512 * s + 510)) = 85 from fun q => q h00)]
  by_cases h01 : nI (mB d (512 * s + 511)) = 170
  case neg => rw [if_pos h01]; exact ⟨fun q => absurd q.1.2 h01, fun _ => rfl⟩
  rw [if_neg (show ¬ ¬ nI (mB d (512 * s + 511)) = 170 from fun q => q h01)]
  by_cases h1 : loN (mB d) (512 * s + 11) 2 = 512
  case neg => rw [if_pos (show ¬ lg_cmp (lN (loN (mB d) (512 * s + 11) 2)) 512 = 0 from fun q => h1 ((lgk (k := 512) (loN2 (mB_lt d) _) (by decide)).mp q))]; exact ⟨fun q => absurd q.2.1 h1, fun _ => rfl⟩
  rw [if_neg (show ¬ ¬ lg_cmp (lN (loN (mB d) (512 * s + 11) 2)) 512 = 0 from fun q => q ((lgk (k := 512) (loN2 (mB_lt d) _) (by decide)).mpr h1))]
  by_cases h2 : nI (mB d (512 * s + 13)) = 1
  case neg => rw [if_pos h2]; exact ⟨fun q => absurd q.2.2.1 h2, fun _ => rfl⟩
  rw [if_neg (show ¬ ¬ nI (mB d (512 * s + 13)) = 1 from fun q => q h2)]
  by_cases h3 : loN (mB d) (512 * s + 14) 2 = 1
  case neg => rw [if_pos (show ¬ lg_cmp (lN (loN (mB d) (512 * s + 14) 2)) 1 = 0 from fun q => h3 ((lgk (k := 1) (loN2 (mB_lt d) _) (by decide)).mp q))]; exact ⟨fun q => absurd q.2.2.2.1 h3, fun _ => rfl⟩
  rw [if_neg (show ¬ ¬ lg_cmp (lN (loN (mB d) (512 * s + 14) 2)) 1 = 0 from fun q => q ((lgk (k := 1) (loN2 (mB_lt d) _) (by decide)).mpr h3))]
  by_cases h4 : nI (mB d (512 * s + 16)) = 2
  case neg => rw [if_pos h4]; exact ⟨fun q => absurd q.2.2.2.2.1 h4, fun _ => rfl⟩
  rw [if_neg (show ¬ ¬ nI (mB d (512 * s + 16)) = 2 from fun q => q h4)]
  by_cases h5 : loN (mB d) (512 * s + 17) 2 = 32
  case neg => rw [if_pos (show ¬ lg_cmp (lN (loN (mB d) (512 * s + 17) 2)) 32 = 0 from fun q => h5 ((lgk (k := 32) (loN2 (mB_lt d) _) (by decide)).mp q))]; exact ⟨fun q => absurd q.2.2.2.2.2.1 h5, fun _ => rfl⟩
  rw [if_neg (show ¬ ¬ lg_cmp (lN (loN (mB d) (512 * s + 17) 2)) 32 = 0 from fun q => q ((lgk (k := 32) (loN2 (mB_lt d) _) (by decide)).mpr h5))]
  by_cases h6 : vT (mB d) s = 0
  · rw [h6, if_pos (show nI 0 = 0 by decide)]; exact ⟨fun q => absurd h6 q.2.2.2.2.2.2.1, fun _ => rfl⟩
  rw [if_neg (show ¬ nI (vT (mB d) s) = 0 from fun q => h6 (nE2 (y := 0) (by omega) (by decide) q))]
  by_cases h7 : 4 + 2 * vT (mB d) s ≤ vL (mB d) s
  case neg => rw [if_pos ((sub_lt1 hL hT).mpr h7)]; exact ⟨fun q => absurd q.2.2.2.2.2.2.2.1 h7, fun _ => rfl⟩
  rw [if_neg (show ¬ nI (vL (mB d) s) - nI (3 + 2 * vT (mB d) s) < 1 from fun q => (sub_lt1 hL hT).mp q h7)]
  rw [pk_sub (show 3 + 2 * vT (mB d) s ≤ vL (mB d) s by omega), show nI (vL (mB d) s - (3 + 2 * vT (mB d) s)) + 2 = nI (vL (mB d) s - (3 + 2 * vT (mB d) s) + 2) from nI_add _ 2, show nI (vL (mB d) s - (3 + 2 * vT (mB d) s) + 2) * 3 = nI ((vL (mB d) s - (3 + 2 * vT (mB d) s) + 2) * 3) from pk_mul _ 3, show nI ((vL (mB d) s - (3 + 2 * vT (mB d) s) + 2) * 3) + 1 = nI ((vL (mB d) s - (3 + 2 * vT (mB d) s) + 2) * 3 + 1) from nI_add _ 1, show nI ((vL (mB d) s - (3 + 2 * vT (mB d) s) + 2) * 3 + 1) / 2 = nI (((vL (mB d) s - (3 + 2 * vT (mB d) s) + 2) * 3 + 1) / 2) from pk_div (d := 2) (by omega) (by decide) (by decide)]
  by_cases h8 : ((vL (mB d) s - (3 + 2 * vT (mB d) s) + 2) * 3 + 1) / 2 ≤ 512 * vT (mB d) s
  case neg => rw [if_pos (nI_lt (by omega) (by omega))]; exact ⟨fun q => absurd q.2.2.2.2.2.2.2.2.1 h8, fun _ => rfl⟩
  rw [if_neg (show ¬ nI (512 * vT (mB d) s) < nI (((vL (mB d) s - (3 + 2 * vT (mB d) s) + 2) * 3 + 1) / 2) from Int32.not_lt.mpr (nI_le h8 (by omega)))]
  by_cases h9 : s + vL (mB d) s ≤ S
  case neg => rw [if_neg (show ¬ nI (s + vL (mB d) s) ≤ nI S from nI_ge (by omega) (by omega))]; exact ⟨fun q => absurd q.2.2.2.2.2.2.2.2.2 h9, fun _ => rfl⟩
  rw [if_pos (nI_le h9 (by omega))]
  exact ⟨fun _ => rfl, fun q => absurd ⟨⟨h00, h01⟩, h1, h2, h3, h4, h5, h6, h7, h8, h9⟩ q⟩
theorem vol_congr {S s : Nat} {b b' : Nat → Nat} (h : ∀ q, q < 512 * S → b q = b' q) (hs : s < S) : vT b s = vT b' s ∧ vL b s = vL b' s ∧ (volOk S s b ↔ volOk S s b') := by
  have e1 : vT b s = vT b' s := loN_congr 2 _ (fun q h1 h2 => h q (by omega))
  have e2 : vL b s = vL b' s := loN_congr 2 _ (fun q h1 h2 => h q (by omega))
  refine ⟨e1, e2, ?_⟩
  unfold volOk
  rw [e1, e2, h (512 * s + 510) (by omega), h (512 * s + 511) (by omega), h (512 * s + 13) (by omega), h (512 * s + 16) (by omega), loN_congr 2 (512 * s + 11) (fun q h1 h2 => h q (by omega)), loN_congr 2 (512 * s + 14) (fun q h1 h2 => h q (by omega)), loN_congr 2 (512 * s + 17) (fun q h1 h2 => h q (by omega))]
