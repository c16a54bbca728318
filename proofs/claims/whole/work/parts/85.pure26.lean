/-! pure: the kernel's chain of clusters, the reference -/
def mTail (N : Nat) (u18106 : Int64) (t_found : Int32) (v18091 : Int32) (v18113 : Int32) (t_disk : Nat → Int32) (t_kernelAt : Int32) (t_kernelSize : Int32) (t_memory : Nat → Int32) : Option (Int32 × Int32 × Int32 × (Nat → Int32)) :=
  lt_ (lg_cmp u18106 8) (fun v19602 => if 0 ≤ v19602 then lt_ (t_found + 3) (fun v19603 => lt_ ((2 : Int32) * v18091) (fun v19604 => lt_ (v19603 + v19604) (fun v19605 => lt_ (v19605 + v18113) (fun v19606 => lt_ (v19606 - 2) (fun v19607 => lt_ ((512 : Int32) * v19607) (fun v19608 => lt_ (v19608 + 4) (fun v19609 => bd_ (f_Model_lowAt N 4 v19609 t_disk) (fun u19610 => bd_ (f_Model_get t_disk v19608) (fun u19611 => lt_ (fun (x19618 : Int32) => if x19618 = 0 then some (8, t_kernelAt, t_kernelSize, t_memory) else lt_ (u19610 + u18106) (fun v19619 => lt_ (lg_cmp v19619 65536) (fun v19620 => if v19620 ≤ 0 then lp_ (fun _ _ _ => none) (f_Model_loaded_L477 u18106 u19610 t_found v18091 t_disk) N 0 v18113 t_memory else some (8, t_kernelAt, t_kernelSize, t_memory)))) (fun (j448 : Int32 → Option (Int32 × Int32 × Int32 × (Nat → Int32))) => lt_ (j448 0) (fun (j447 : Option (Int32 × Int32 × Int32 × (Nat → Int32))) => if ¬ u19611 = (75 : Int32) then j447 else lt_ (v19608 + 1) (fun v19889 => bd_ (f_Model_get t_disk v19889) (fun u19890 => if ¬ u19890 = (82 : Int32) then j447 else lt_ (v19608 + 2) (fun v19891 => bd_ (f_Model_get t_disk v19891) (fun u19892 => if ¬ u19892 = (78 : Int32) then j447 else lt_ (v19608 + 3) (fun v19893 => bd_ (f_Model_get t_disk v19893) (fun u19894 => if ¬ u19894 = (76 : Int32) then j447 else j448 1))))))))))))))))) else some (8, t_kernelAt, t_kernelSize, t_memory))
theorem mchain_loop {S s t c c0 n N : Nat} {d : Nat → Int32} {z : Int64} {kA kS : Int32} {mem : Nat → Int32} (hS : 100 ≤ S ∧ S ≤ 600) (hv : s + c + 3 + 2 * t ≤ S) (ht : ((c + 2) * 3 + 1) / 2 ≤ 512 * t) (h0 : c0 < 65536) (hn : n ≤ c) : ∀ (r i M : Nat), i + r = n → r < M → (∀ j, j < i → 2 ≤ cA (mB d) s c0 j ∧ cA (mB d) s c0 j ≤ c + 1) → (i = n → n = 0 ∨ 4088 ≤ cA (mB d) s c0 n) → (chOk (mB d) s c0 c n → lp_ (fun _ _ => none) (f_Model_loaded_L277 N (lN n) z (nI s) (nI t) (nI c0) d kA kS mem (nI c)) M (nI i) (nI (cA (mB d) s c0 i)) = mTail N z (nI s) (nI t) (nI c0) d kA kS mem) ∧ (¬ chOk (mB d) s c0 c n → lp_ (fun _ _ => none) (f_Model_loaded_L277 N (lN n) z (nI s) (nI t) (nI c0) d kA kS mem (nI c)) M (nI i) (nI (cA (mB d) s c0 i)) = some (7, kA, kS, mem)) := by
  intro r
  induction r with
  | zero =>
    intro i M' hi hM hA hx
    obtain ⟨M, rfl⟩ : ∃ M, M' = M + 1 := ⟨M' - 1, by omega⟩
    have e : i = n := by omega
    subst e
    refine ⟨fun _ => ?_, fun q => absurd ⟨hA, hx rfl⟩ q⟩
    rw [lp_s, f_Model_loaded_L277, lt_, lt_, nI_l (by omega), if_pos ((lge (by omega) (by omega)).mpr (Nat.le_refl i))]
    rfl
  | succ r ih =>
    intro i M' hi hM hA hx
    obtain ⟨M, rfl⟩ : ∃ M, M' = M + 1 := ⟨M' - 1, by omega⟩
    have hc := cA_lt (mB_lt d) (s := s) h0 i
    have hc' := cA_lt (mB_lt d) (s := s) h0 (i + 1)
    have hin : f_Model_in (nI (cA (mB d) s c0 i)) 2 (nI (c + 1)) = some (if 2 ≤ cA (mB d) s c0 i ∧ cA (mB d) s c0 i ≤ c + 1 then 1 else 0) := by
      rw [in_eq]
      by_cases h2 : 2 ≤ cA (mB d) s c0 i
      · by_cases h3 : cA (mB d) s c0 i ≤ c + 1
        · rw [if_pos ⟨nI_le (a := 2) h2 (by omega), nI_le h3 (by omega)⟩, if_pos ⟨h2, h3⟩]
        · rw [if_neg (fun q => absurd q.2 (nI_ge (by omega) (by omega))), if_neg (fun q => h3 q.2)]
      · rw [if_neg (fun q => absurd q.1 (nI_ge (b := 2) (by omega) (by decide))), if_neg (fun q => h2 q.1)]
    rw [lp_s, f_Model_loaded_L277]
    dsimp only [lt_]
    rw [nI_l (show i < 2 ^ 31 by omega), if_neg (fun q => absurd ((lge (by omega) (by omega)).mp q) (by omega)), show nI c + 1 = nI (c + 1) from nI_add c 1, hin, bd_e]
    by_cases h2 : 2 ≤ cA (mB d) s c0 i ∧ cA (mB d) s c0 i ≤ c + 1
    case neg =>
      rw [if_neg h2, if_neg (show ¬ ¬ (0 : Int32) = 0 by decide)]
      exact ⟨fun q => absurd (q.1 i (by omega)) h2, fun _ => rfl⟩
    have hA' : ∀ j, j < i + 1 → 2 ≤ cA (mB d) s c0 j ∧ cA (mB d) s c0 j ≤ c + 1 := fun j hj => by
      by_cases e : j = i
      · rw [e]; exact h2
      · exact hA j (by omega)
    rw [if_pos h2, if_pos (show ¬ (1 : Int32) = 0 by decide), show nI s + 1 = nI (s + 1) from nI_add s 1, mEn_eq (by omega) (by omega), bd_e, show lN n - 1 = lN (n - 1) from lN_sub (b := 1) (by omega), nI_1, show enN (mB d) s (cA (mB d) s c0 i) = cA (mB d) s c0 (i + 1) from rfl]
    by_cases hl : i = n - 1
    · rw [if_neg (show ¬ ¬ lg_cmp (lN i) (lN (n - 1)) = 0 from fun q => q ((lgk (by omega) (by omega)).mpr hl))]
      have en : n = i + 1 := by omega
      by_cases h4 : 4088 ≤ cA (mB d) s c0 (i + 1)
      · rw [if_pos (show (4088 : Int32) ≤ nI (cA (mB d) s c0 (i + 1)) from nI_le (a := 4088) h4 (by omega))]
        exact ih (i + 1) M (by omega) (by omega) hA' (fun _ => Or.inr (en ▸ h4))
      · rw [if_neg (show ¬ (4088 : Int32) ≤ nI (cA (mB d) s c0 (i + 1)) from nI_ge (b := 4088) (by omega) (by decide))]
        refine ⟨fun q => ?_, fun _ => rfl⟩
        rcases q.2 with q | q
        · omega
        · rw [en] at q; exact absurd q h4
    · rw [if_pos (show ¬ lg_cmp (lN i) (lN (n - 1)) = 0 from fun q => hl ((lgk (by omega) (by omega)).mp q))]
      exact ih (i + 1) M (by omega) (by omega) hA' (fun q => absurd q (by omega))
theorem ch_congr {S s t c c0 n : Nat} {b b' : Nat → Nat} (h : ∀ q, q < 512 * S → b q = b' q) (hv : s + c + 3 + 2 * t ≤ S) (ht : ((c + 2) * 3 + 1) / 2 ≤ 512 * t) (ho : ∀ i, i < n → 2 ≤ cA b s c0 i ∧ cA b s c0 i ≤ c + 1) : ∀ i, i ≤ n → cA b s c0 i = cA b' s c0 i
  | 0, _ => rfl
  | i + 1, hi => by
    show enN b s (cA b s c0 i) = enN b' s (cA b' s c0 i)
    rw [← ch_congr h hv ht ho i (by omega)]
    have := ho i (by omega)
    exact en_congr (S := S) h (by omega)
theorem chOk_congr {S s t c c0 n : Nat} {b b' : Nat → Nat} (h : ∀ q, q < 512 * S → b q = b' q) (hv : s + c + 3 + 2 * t ≤ S) (ht : ((c + 2) * 3 + 1) / 2 ≤ 512 * t) (ho : chOk b s c0 c n) : chOk b' s c0 c n := by
  have e := ch_congr h hv ht ho.1
  refine ⟨fun i hi => ?_, ?_⟩
  · rw [← e i (by omega)]; exact ho.1 i hi
  · rw [← e n (Nat.le_refl n)]; exact ho.2
