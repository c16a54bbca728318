/-! pure: the kernel's chain of clusters, the class -/
theorem lge {x y : Nat} (hx : x < 2 ^ 62) (hy : y < 2 ^ 62) : 0 ≤ lg_cmp (lN x) (lN y) ↔ y ≤ x := by
  have h := lgn (lN x) (lN y)
  rw [pk_lLT (by omega) (by omega)] at h
  rw [← Int32.not_lt, h]
  omega
theorem lgle {x y : Nat} (hx : x < 2 ^ 62) (hy : y < 2 ^ 62) : lg_cmp (lN x) (lN y) ≤ 0 ↔ x ≤ y := by
  rw [lgl, pk_lLE (by omega) (by omega)]
def cA (b : Nat → Nat) (s c0 : Nat) : Nat → Nat
  | 0 => c0
  | i + 1 => enN b s (cA b s c0 i)
theorem cA_lt {b : Nat → Nat} (hb : ∀ p, b p < 256) {s c0 : Nat} (h : c0 < 65536) : ∀ i, cA b s c0 i < 65536
  | 0 => h
  | i + 1 => Nat.lt_trans (enN_lt hb s _) (by decide)
def chOk (b : Nat → Nat) (s c0 c n : Nat) : Prop := (∀ i, i < n → 2 ≤ cA b s c0 i ∧ cA b s c0 i ≤ c + 1) ∧ (n = 0 ∨ 4088 ≤ cA b s c0 n)
theorem chain_loop {S s t c c0 n N : Nat} {w : Nat → Int64} (hS : 100 ≤ S ∧ S ≤ 600) (hN : 400000 ≤ N) (hv : s + c + 3 + 2 * t ≤ S) (ht : ((c + 2) * 3 + 1) / 2 ≤ 512 * t) (h0 : c0 < 65536) (hn : n ≤ c) : ∀ (r i M : Nat) (x : Nat → Int32), i + r = n → r < M → (∀ j, j < i → 2 ≤ cA (gB w) s c0 j ∧ cA (gB w) s c0 j ≤ c + 1) → (∀ j, j < i → x j = nI (cA (gB w) s c0 j)) → ∃ (z : Int32) (x' : Nat → Int32), lp_ (fun _ _ _ => none) (f_Firmware_followChain_L44 N (lN n) (nI c) S (nI s) (nI (512 * S)) (64 * S) w) M (nI i) (nI (cA (gB w) s c0 i)) x = some (z, x') ∧ ((z = 1 ∧ chOk (gB w) s c0 c n ∧ ∀ j, j < n → x' j = nI (cA (gB w) s c0 j)) ∨ (z = 0 ∧ ¬ chOk (gB w) s c0 c n)) := by
  intro r
  induction r with
  | zero =>
    intro i M' x hi hM hA hx
    obtain ⟨M, rfl⟩ : ∃ M, M' = M + 1 := ⟨M' - 1, by omega⟩
    have e : i = n := by omega
    subst e
    have hc := cA_lt (gB_lt w) (s := s) h0 i
    rw [lp_s, f_Firmware_followChain_L44]
    dsimp only [lt_]
    rw [nI_l (by omega), if_pos ((lge (by omega) (by omega)).mpr (Nat.le_refl i))]
    by_cases hz : i = 0
    · rw [if_pos (show lg_cmp (lN i) 0 = 0 from (lgk (k := 0) (by omega) (by decide)).mpr hz)]
      exact ⟨1, x, rfl, Or.inl ⟨rfl, ⟨hA, Or.inl hz⟩, hx⟩⟩
    · rw [if_neg (show ¬ lg_cmp (lN i) 0 = 0 from fun q => hz ((lgk (k := 0) (by omega) (by decide)).mp q))]
      by_cases h4 : 4088 ≤ cA (gB w) s c0 i
      · rw [if_neg (show ¬ nI (cA (gB w) s c0 i) < (4088 : Int32) from Int32.not_lt.mpr (nI_le (a := 4088) h4 (by omega)))]
        exact ⟨1, x, rfl, Or.inl ⟨rfl, ⟨hA, Or.inr h4⟩, hx⟩⟩
      · rw [if_pos (show nI (cA (gB w) s c0 i) < (4088 : Int32) from nI_lt (b := 4088) (by omega) (by decide))]
        exact ⟨0, x, rfl, Or.inr ⟨rfl, fun q => q.2.elim hz h4⟩⟩
  | succ r ih =>
    intro i M' x hi hM hA hx
    obtain ⟨M, rfl⟩ : ∃ M, M' = M + 1 := ⟨M' - 1, by omega⟩
    have hc := cA_lt (gB_lt w) (s := s) h0 i
    rw [lp_s, f_Firmware_followChain_L44]
    dsimp only [lt_]
    rw [nI_l (by omega), if_neg (fun q => absurd ((lge (by omega) (by omega)).mp q) (by omega))]
    by_cases h2 : 2 ≤ cA (gB w) s c0 i
    case neg =>
      rw [if_pos (show nI (cA (gB w) s c0 i) < (2 : Int32) from nI_lt (b := 2) (by omega) (by decide))]
      exact ⟨0, x, rfl, Or.inr ⟨rfl, fun q => h2 (q.1 i (by omega)).1⟩⟩
    rw [if_neg (show ¬ nI (cA (gB w) s c0 i) < (2 : Int32) from Int32.not_lt.mpr (nI_le (a := 2) h2 (by omega))), show nI c + 1 = nI (c + 1) from nI_add c 1]
    by_cases h3 : cA (gB w) s c0 i ≤ c + 1
    case neg =>
      rw [if_neg (nI_ge (by omega) (by omega))]
      exact ⟨0, x, rfl, Or.inr ⟨rfl, fun q => h3 (q.1 i (by omega)).2⟩⟩
    rw [if_pos (nI_le h3 (by omega)), upi_in (by omega) (by omega), cEn_eq hS hN (by omega) (by omega), bd_e, nI_1]
    refine ih (i + 1) M _ (by omega) (by omega) (fun j hj => ?_) (fun j hj => ?_)
    · by_cases e : j = i
      · rw [e]; exact ⟨h2, h3⟩
      · exact hA j (by omega)
    · by_cases e : j = i
      · rw [e]; simp [upd]
      · simp [upd, e]; exact hx j (by omega)
theorem sz_512 {z : Nat} (hz : z < 2 ^ 32) : (lN z + 511) / 512 = lN ((z + 511) / 512) ∧ (lN z + 512 - 1) / 512 = lN ((z + 511) / 512) := by
  constructor
  · rw [show lN z + 511 = lN (z + 511) from lN_add z 511]
    exact pk_lDiv (b := 512) (by omega) (by decide) (by decide)
  · rw [show lN z + 512 = lN (z + 512) from lN_add z 512, show lN (z + 512) - 1 = lN (z + 512 - 1) from lN_sub (b := 1) (by omega)]
    exact pk_lDiv (b := 512) (by omega) (by decide) (by decide)
theorem chain_class {S s t c c0 z N : Nat} {w : Nat → Int64} {x : Nat → Int32} (hS : 100 ≤ S ∧ S ≤ 600) (hN : 400000 ≤ N) (hv : s + c + 3 + 2 * t ≤ S) (ht : ((c + 2) * 3 + 1) / 2 ≤ 512 * t) (h0 : c0 < 65536) (hz : z < 2 ^ 32) : ∃ (r : Int32) (x' : Nat → Int32), f_Firmware_followChain N (lN z) (nI c) x S (nI s) (nI (512 * S)) (64 * S) w (nI c0) = some (r, x') ∧ ((r = 1 ∧ ((z + 511) / 512 ≤ c ∧ chOk (gB w) s c0 c ((z + 511) / 512)) ∧ ∀ j, j < (z + 511) / 512 → x' j = nI (cA (gB w) s c0 j)) ∨ (r = 0 ∧ ¬ ((z + 511) / 512 ≤ c ∧ chOk (gB w) s c0 c ((z + 511) / 512)))) := by
  unfold f_Firmware_followChain
  dsimp only [lt_]
  rw [(sz_512 hz).2, nI_l (show c < 2 ^ 31 by omega), show Int32.ofNat S = nI S from rfl, nI_l (show S < 2 ^ 31 by omega)]
  by_cases h : (z + 511) / 512 ≤ c
  · rw [if_neg (fun q => absurd ((lgc (by omega) (by omega)).mp q) (by omega)), if_pos ((lgle (by omega) (by omega)).mpr (by omega))]
    obtain ⟨r, x', e, hh⟩ := chain_loop (w := w) hS hN hv ht h0 h ((z + 511) / 512) 0 N x (by omega) (by omega) (fun j hj => absurd hj (by omega)) (fun j hj => absurd hj (by omega))
    refine ⟨r, x', e, ?_⟩
    rcases hh with ⟨a, b, d⟩ | ⟨a, b⟩
    · exact Or.inl ⟨a, ⟨h, b⟩, d⟩
    · exact Or.inr ⟨a, fun q => b q.2⟩
  · rw [if_pos ((lgc (by omega) (by omega)).mpr (by omega))]
    exact ⟨0, x, rfl, Or.inr ⟨rfl, fun q => h q.1⟩⟩
/-! pure: the kernel's chain of clusters, the reference -/
def mTail (N : Nat) (u18106 : Int64) (t_found : Int32) (v18091 : Int32) (v18113 : Int32) (t_disk : Nat → Int32) (t_kernelAt : Int32) (t_kernelSize : Int32) (t_memory : Nat → Int32) : Option (Int32 × Int32 × Int32 × (Nat → Int32)) :=
  lt_ (lg_cmp u18106 8) (fun v19602 => if 0 ≤ v19602 then lt_ (t_found + 3) (fun v19603 => lt_ ((2 : Int32) * v18091) (fun v19604 => lt_ (v19603 + v19604) (fun v19605 => lt_ (v19605 + v18113) (fun v19606 => lt_ (v19606 - 2) (fun v19607 => lt_ ((512 : Int32) * v19607) (fun v19608 => lt_ (v19608 + 4) (fun v19609 => bd_ (f_Model_lowAt N 4 v19609 t_disk) (fun u19610 => bd_ (f_Model_get t_disk v19608) (fun u19611 => lt_ (fun (x19618 : Int32) => if x19618 = 0 then some (8, t_kernelAt, t_kernelSize, t_memory) else lt_ (u19610 + u18106) (fun v19619 => lt_ (lg_cmp v19619 65536) (fun v19620 => if v19620 ≤ 0 then lp_ (fun _ _ _ => none) (f_Model_loaded_L477 u18106 u19610 t_found v18091 t_disk) N 0 v18113 t_memory else some (8, t_kernelAt, t_kernelSize, t_memory)))) (fun (j448 : Int32 → Option (Int32 × Int32 × Int32 × (Nat → Int32))) => lt_ (j448 0) (fun (j447 : Option (Int32 × Int32 × Int32 × (Nat → Int32))) => if ¬ u19611 = (75 : Int32) then j447 else lt_ (v19608 + 1) (fun v19889 => bd_ (f_Model_get t_disk v19889) (fun u19890 => if ¬ u19890 = (82 : Int32) then j447 else lt_ (v19608 + 2) (fun v19891 => bd_ (f_Model_get t_disk v19891) (fun u19892 => if ¬ u19892 = (78 : Int32) then j447 else lt_ (v19608 + 3) (fun v19893 => bd_ (f_Model_get t_disk v19893) (fun u19894 => if ¬ u19894 = (76 : Int32) then j447 else j448 1))))))))))))))))) else some (8, t_kernelAt, t_kernelSize, t_memory))
theorem mchain_loop {S s t c c0 n N : Nat} {d : Nat → Int32} {z : Int64} {kA kS : Int32} {mem : Nat → Int32} (hS : 100 ≤ S ∧ S ≤ 600) (hv : s + c + 3 + 2 * t ≤ S) (ht : ((c + 2) * 3 + 1) / 2 ≤ 512 * t) (h0 : c0 < 65536) (hn : n ≤ c) : ∀ (r i M : Nat), i + r = n → r < M → (∀ j, j < i → 2 ≤ cA (mB d) s c0 j ∧ cA (mB d) s c0 j ≤ c + 1) → (i = n → n = 0 ∨ 4088 ≤ cA (mB d) s c0 n) → (chOk (mB d) s c0 c n → lp_ (fun _ _ => none) (f_Model_loaded_L277 N (lN n) z (nI s) (nI t) (nI c0) d kA kS mem (nI c)) M (nI i) (nI (cA (mB d) s c0 i)) = mTail N z (nI s) (nI t) (nI c0) d kA kS mem) ∧ (¬ chOk (mB d) s c0 c n → lp_ (fun _ _ => none) (f_Model_loaded_L277 N (lN n) z (nI s) (nI t) (nI c0) d kA kS mem (nI c)) M (nI i) (nI (cA (mB d) s c0 i)) = some (7, kA, kS, mem)) := by
  intro r
  induction r with
  | zero =>
    intro i M' hi hM hA hx
    obtain ⟨M, rfl⟩ : ∃ M, M' = M + 1 := ⟨M' - 1, by omega⟩
    have e : i = n := by omega
    subst e
    refine ⟨fun _ => ?_, fun q => absurd ⟨hA, hx rfl⟩ q⟩
    rw [lp_s, f_Model_loaded_L277, lt_, lt_, nI_l (by omega), if_pos ((lge (by omega) (by omega)).mpr (Nat.le_refl i))]
    rfl
  | succ r ih =>
    intro i M' hi hM hA hx
    obtain ⟨M, rfl⟩ : ∃ M, M' = M + 1 := ⟨M' - 1, by omega⟩
    have hc := cA_lt (mB_lt d) (s := s) h0 i
    have hc' := cA_lt (mB_lt d) (s := s) h0 (i + 1)
    have hin : f_Model_in (nI (cA (mB d) s c0 i)) 2 (nI (c + 1)) = some (if 2 ≤ cA (mB d) s c0 i ∧ cA (mB d) s c0 i ≤ c + 1 then 1 else 0) := by
      rw [in_eq]
      by_cases h2 : 2 ≤ cA (mB d) s c0 i
      · by_cases h3 : cA (mB d) s c0 i ≤ c + 1
        · rw [if_pos ⟨nI_le (a := 2) h2 (by omega), nI_le h3 (by omega)⟩, if_pos ⟨h2, h3⟩]
        · rw [if_neg (fun q => absurd q.2 (nI_ge (by omega) (by omega))), if_neg (fun q => h3 q.2)]
      · rw [if_neg (fun q => absurd q.1 (nI_ge (b := 2) (by omega) (by decide))), if_neg (fun q => h2 q.1)]
    rw [lp_s, f_Model_loaded_L277]
    dsimp only [lt_]
    rw [nI_l (show i < 2 ^ 31 by omega), if_neg (fun q => absurd ((lge (by omega) (by omega)).mp q) (by omega)), show nI c + 1 = nI (c + 1) from nI_add c 1, hin, bd_e]
    by_cases h2 : 2 ≤ cA (mB d) s c0 i ∧ cA (mB d) s c0 i ≤ c + 1
    case neg =>
      rw [if_neg h2, if_neg (show ¬ ¬ (0 : Int32) = 0 by decide)]
      exact ⟨fun q => absurd (q.1 i (by omega)) h2, fun _ => rfl⟩
    have hA' : ∀ j, j < i + 1 → 2 ≤ cA (mB d) s c0 j ∧ cA (mB d) s c0 j ≤ c + 1 := fun j hj => by
      by_cases e : j = i
      · rw [e]; exact h2
      · exact hA j (by omega)
    rw [if_pos h2, if_pos (show ¬ (1 : Int32) = 0 by decide), show nI s + 1 = nI (s + 1) from nI_add s 1, mEn_eq (by omega) (by omega), bd_e, show lN n - 1 = lN (n - 1) from lN_sub (b := 1) (by omega), nI_1, show enN (mB d) s (cA (mB d) s c0 i) = cA (mB d) s c0 (i + 1) from rfl]
    by_cases hl : i = n - 1
    · rw [if_neg (show ¬ ¬ lg_cmp (lN i) (lN (n - 1)) = 0 from fun q => q ((lgk (by omega) (by omega)).mpr hl))]
      have en : n = i + 1 := by omega
      by_cases h4 : 4088 ≤ cA (mB d) s c0 (i + 1)
      · rw [if_pos (show (4088 : Int32) ≤ nI (cA (mB d) s c0 (i + 1)) from nI_le (a := 4088) h4 (by omega))]
        exact ih (i + 1) M (by omega) (by omega) hA' (fun _ => Or.inr (en ▸ h4))
      · rw [if_neg (show ¬ (4088 : Int32) ≤ nI (cA (mB d) s c0 (i + 1)) from nI_ge (b := 4088) (by omega) (by decide))]
        refine ⟨fun q => ?_, fun _ => rfl⟩
        rcases q.2 with q | q
        · omega
        · rw [en] at q; exact absurd q h4
    · rw [if_pos (show ¬ lg_cmp (lN i) (lN (n - 1)) = 0 from fun q => hl ((lgk (by omega) (by omega)).mp q))]
      exact ih (i + 1) M (by omega) (by omega) hA' (fun q => absurd q (by omega))
theorem ch_congr {S s t c c0 n : Nat} {b b' : Nat → Nat} (h : ∀ q, q < 512 * S → b q = b' q) (hv : s + c + 3 + 2 * t ≤ S) (ht : ((c + 2) * 3 + 1) / 2 ≤ 512 * t) (ho : ∀ i, i < n → 2 ≤ cA b s c0 i ∧ cA b s c0 i ≤ c + 1) : ∀ i, i ≤ n → cA b s c0 i = cA b' s c0 i
  | 0, _ => rfl
  | i + 1, hi => by
    show enN b s (cA b s c0 i) = enN b' s (cA b' s c0 i)
    rw [← ch_congr h hv ht ho i (by omega)]
    have := ho i (by omega)
    exact en_congr (S := S) h (by omega)
theorem chOk_congr {S s t c c0 n : Nat} {b b' : Nat → Nat} (h : ∀ q, q < 512 * S → b q = b' q) (hv : s + c + 3 + 2 * t ≤ S) (ht : ((c + 2) * 3 + 1) / 2 ≤ 512 * t) (ho : chOk b s c0 c n) : chOk b' s c0 c n := by
  have e := ch_congr h hv ht ho.1
  refine ⟨fun i hi => ?_, ?_⟩
  · rw [← e i (by omega)]; exact ho.1 i hi
  · rw [← e n (Nat.le_refl n)]; exact ho.2
/-! pure: the kernel copied -/
def kP (b : Nat → Nat) (s t c0 j : Nat) : Nat := 512 * (s + 1 + 2 * t + cA b s c0 (j / 512)) + j % 512
theorem clAt_eq {s t c : Nat} : f_Firmware_clusterAt (nI s) (nI t) (nI (c + 2)) = some (nI (512 * (s + 1 + 2 * t + (c + 2)))) := by
  unfold f_Firmware_clusterAt
  dsimp only [lt_]
  rw [nI_1, show (2 : Int32) * nI t = nI (2 * t) from pk_mul 2 t, nI_add, show nI (s + 1 + 2 * t) + 2 = nI (s + 1 + 2 * t + 2) from nI_add _ 2, nI_add, show nI (s + 1 + 2 * t + 2 + (c + 2)) - 2 = nI (s + 1 + 2 * t + 2 + (c + 2) - 2) from pk_sub (b := 2) (by omega), show nI (s + 1 + 2 * t + 2 + (c + 2) - 2) * 512 = nI ((s + 1 + 2 * t + 2 + (c + 2) - 2) * 512) from pk_mul _ 512, show (s + 1 + 2 * t + 2 + (c + 2) - 2) * 512 = 512 * (s + 1 + 2 * t + (c + 2)) by omega]
theorem clAt2 {s t k : Nat} (hk : 2 ≤ k) : f_Firmware_clusterAt (nI s) (nI t) (nI k) = some (nI (512 * (s + 1 + 2 * t + k))) := by
  obtain ⟨c, rfl⟩ : ∃ c, k = c + 2 := ⟨k - 2, by omega⟩
  exact clAt_eq
theorem copy_loop {S s t c c0 z a : Nat} {w : Nat → Int64} {x : Nat → Int32} {N : Nat} (hS : 100 ≤ S ∧ S ≤ 600) (hv : s + c + 3 + 2 * t ≤ S) (hn : (z + 511) / 512 ≤ c) (ho : ∀ i, i < (z + 511) / 512 → 2 ≤ cA (gB w) s c0 i ∧ cA (gB w) s c0 i ≤ c + 1) (hx : ∀ j, j < (z + 511) / 512 → x j = nI (cA (gB w) s c0 j)) (ha : a + z ≤ 65536) : ∀ (r i M : Nat) (m : Nat → Int64), i + r = z → r < M → ∃ m' : Nat → Int64, lp_ (fun _ _ => none) (f_Firmware_copyKernel_L60 (lN a) (nI z) S x (nI s) (nI t) (nI (512 * S)) (64 * S) w (nI 65536) 8192) M (nI i) m = some (1, nI a, nI z, m') ∧ ∀ q, q < 65536 → gB m' q = if a + i ≤ q ∧ q < a + z then gB w (kP (gB w) s t c0 (q - a)) else gB m q := by
  intro r
  induction r with
  | zero =>
    intro i M' m hi hM
    obtain ⟨M, rfl⟩ : ∃ M, M' = M + 1 := ⟨M' - 1, by omega⟩
    rw [lp_s, f_Firmware_copyKernel_L60]
    dsimp only [lt_]
    rw [if_pos (nI_le (by omega) (by omega)), lN_i]
    exact ⟨m, rfl, fun q _ => by rw [if_neg (by omega)]⟩
  | succ r ih =>
    intro i M' m hi hM
    obtain ⟨M, rfl⟩ : ∃ M, M' = M + 1 := ⟨M' - 1, by omega⟩
    have hq : i / 512 < (z + 511) / 512 := by omega
    obtain ⟨h2, h3⟩ := ho (i / 512) hq
    rw [lp_s, f_Firmware_copyKernel_L60]
    dsimp only [lt_]
    rw [if_neg (nI_ge (by omega) (by omega)), show nI i / 512 = nI (i / 512) from pk_div (d := 512) (by omega) (by decide) (by decide), show Int32.ofNat S = nI S from rfl, if_neg (nI_ge (show i / 512 < S by omega) (by omega)), lN_i, nI_add, ix_in (show i / 512 < S by omega) (by omega), hx _ hq, clAt2 h2, bd_e, show nI i - nI (i / 512) * 512 = nI (i % 512) by rw [show nI (i / 512) * 512 = nI (i / 512 * 512) from pk_mul _ 512, pk_sub (by omega), show i - i / 512 * 512 = i % 512 by omega], nI_add, get_in (by omega) (by omega) (by omega), bd_e, put_in _ (show a + i < 65536 by omega) (by omega) (by omega), bd_e, nI_1]
    obtain ⟨m', e, hm⟩ := ih (i + 1) M (pB m (a + i) (nI (gB w (512 * (s + 1 + 2 * t + cA (gB w) s c0 (i / 512)) + i % 512)))) (by omega) (by omega)
    refine ⟨m', e, fun q hq' => ?_⟩
    rw [hm q hq', gB_pB, lo8_nI, Nat.mod_eq_of_lt (gB_lt w _)]
    by_cases e1 : q = a + i
    · subst e1
      rw [if_neg (by omega), if_pos rfl, if_pos (by omega), show a + i - a = i by omega]
      rfl
    · by_cases e2 : a + (i + 1) ≤ q ∧ q < a + z
      · rw [if_pos e2, if_pos (by omega)]
      · rw [if_neg e2, if_neg e1, if_neg (by omega)]
theorem lo8_nar (x : Int32) : lo8 (vp_nar .byte x) = lo8 x := lo8_of (bp_b x)
theorem mB_updn (m : Nat → Int32) (p q : Nat) (x : Int32) : mB (upd m p (vp_nar .byte x)) q = if q = p then lo8 x else mB m q := by
  unfold mB
  by_cases h : q = p
  · rw [h, pk_us, if_pos rfl, lo8_nar]
  · rw [pk_un h, if_neg h]
theorem mcopy_loop {S s t c c0 z a : Nat} {d : Nat → Int32} (hS : 100 ≤ S ∧ S ≤ 600) (hv : s + c + 3 + 2 * t ≤ S) (ht : ((c + 2) * 3 + 1) / 2 ≤ 512 * t) (hn : (z + 511) / 512 ≤ c) (ho : ∀ i, i < (z + 511) / 512 → 2 ≤ cA (mB d) s c0 i ∧ cA (mB d) s c0 i ≤ c + 1) (ha : a + z ≤ 65536) : ∀ (r i M : Nat) (m : Nat → Int32), i + r = z → r < M → ∃ m' : Nat → Int32, lp_ (fun _ _ _ => none) (f_Model_loaded_L477 (lN z) (lN a) (nI s) (nI t) d) M (nI i) (nI (cA (mB d) s c0 ((i - 1) / 512))) m = some (0, nI a, nI z, m') ∧ ∀ q, q < 65536 → mB m' q = if a + i ≤ q ∧ q < a + z then mB d (kP (mB d) s t c0 (q - a)) else mB m q := by
  intro r
  induction r with
  | zero =>
    intro i M' m hi hM
    obtain ⟨M, rfl⟩ : ∃ M, M' = M + 1 := ⟨M' - 1, by omega⟩
    rw [lp_s, f_Model_loaded_L477]
    dsimp only [lt_]
    rw [nI_l (by omega), if_pos ((lge (by omega) (by omega)).mpr (by omega)), lN_i, lN_i]
    exact ⟨m, rfl, fun q _ => by rw [if_neg (by omega)]⟩
  | succ r ih =>
    intro i M' m hi hM
    obtain ⟨M, rfl⟩ : ∃ M, M' = M + 1 := ⟨M' - 1, by omega⟩
    have hq : i / 512 < (z + 511) / 512 := by omega
    obtain ⟨h2, h3⟩ := ho (i / 512) hq
    obtain ⟨m', e, hm⟩ := ih (i + 1) M (upd m (a + i) (vp_nar .byte (d (512 * (s + 1 + 2 * t + cA (mB d) s c0 (i / 512)) + i % 512)))) (by omega) (by omega)
    have e' : lp_ (fun _ _ _ => none) (f_Model_loaded_L477 (lN z) (lN a) (nI s) (nI t) d) M (nI (i + 1)) (nI (cA (mB d) s c0 (i / 512))) (upd m (a + i) (vp_nar .byte (d (512 * (s + 1 + 2 * t + cA (mB d) s c0 (i / 512)) + i % 512)))) = some (0, nI a, nI z, m') := e
    have hrem : nI i - nI i / 512 * 512 = nI (i % 512) := pk_rem (d := 512) (by omega) (by decide) (by decide)
    have step : ∀ k, k = cA (mB d) s c0 (i / 512) → nI s + 3 + (2 : Int32) * nI t + nI k - 2 = nI (s + 1 + 2 * t + k) := fun k hk => by
      rw [show nI s + 3 = nI (s + 3) from nI_add s 3, show (2 : Int32) * nI t = nI (2 * t) from pk_mul 2 t, nI_add, nI_add, show nI (s + 3 + 2 * t + k) - 2 = nI (s + 3 + 2 * t + k - 2) from pk_sub (b := 2) (by omega), show s + 3 + 2 * t + k - 2 = s + 1 + 2 * t + k by omega]
    refine ⟨m', ?_, fun q hq' => ?_⟩
    · rw [lp_s, f_Model_loaded_L477]
      dsimp only [lt_]
      rw [nI_l (by omega), if_neg (fun q => absurd ((lge (by omega) (by omega)).mp q) (by omega)), hrem, lN_i a, nI_add a i, nI_1]
      have fin : ∀ k, k = cA (mB d) s c0 (i / 512) → (ix_ 307200 d ((512 : Int32) * (nI s + 3 + (2 : Int32) * nI t + nI k - 2) + nI (i % 512)) (fun v => up_b 65536 m (nI (a + i)) v (fun f => lp_ (fun _ _ _ => none) (f_Model_loaded_L477 (lN z) (lN a) (nI s) (nI t) d) M (nI (i + 1)) (nI k) f))) = some (0, nI a, nI z, m') := fun k hk => by
        rw [step k hk, show (512 : Int32) * nI (s + 1 + 2 * t + k) = nI (512 * (s + 1 + 2 * t + k)) from pk_mul 512 _, nI_add, ix_in (by omega) (by decide), upb_in (by omega) (by decide), hk]
        exact e'
      by_cases h0 : i = 0
      · subst h0
        rw [if_pos (show nI 0 ≤ 0 by decide)]
        exact fin _ rfl
      · rw [if_neg (show ¬ nI i ≤ 0 from nI_ge (a := 0) (b := i) (by omega) (by omega))]
        by_cases h5 : i % 512 = 0
        · obtain ⟨h2', h3'⟩ := ho ((i - 1) / 512) (by omega)
          rw [h5, if_neg (show ¬ ¬ nI 0 = 0 by decide), show nI s + 1 = nI (s + 1) from nI_add s 1, mEn_eq (by omega) (by omega), bd_e]
          have hk : enN (mB d) s (cA (mB d) s c0 ((i - 1) / 512)) = cA (mB d) s c0 (i / 512) := by
            rw [show i / 512 = (i - 1) / 512 + 1 by omega]
            rfl
          have := fin _ hk
          rw [h5] at this
          exact this
        · rw [if_pos (show ¬ nI (i % 512) = 0 from fun q => h5 (nE2 (y := 0) (by omega) (by decide) q))]
          exact fin _ (by rw [show (i - 1) / 512 = i / 512 by omega])
    · rw [hm q hq', mB_updn]
      by_cases e1 : q = a + i
      · subst e1
        rw [if_neg (by omega), if_pos rfl, if_pos (by omega), show a + i - a = i by omega]
        rfl
      · by_cases e2 : a + (i + 1) ≤ q ∧ q < a + z
        · rw [if_pos e2, if_pos (by omega)]
        · rw [if_neg e2, if_neg e1, if_neg (by omega)]
/-! pure: the kernel's head, the kernel copied -/
theorem krnRow {b : Nat → Nat} {p : Nat} (hb : ∀ q, b q < 256) : rowIs b p (sByt 11) 4 ↔ b p = 75 ∧ b (p + 1) = 82 ∧ b (p + 2) = 78 ∧ b (p + 3) = 76 := by
  constructor
  · intro h
    exact ⟨(nE (hb _) (by decide)).mp (h 0 (by decide)), (nE (hb _) (by decide)).mp (h 1 (by decide)), (nE (hb _) (by decide)).mp (h 2 (by decide)), (nE (hb _) (by decide)).mp (h 3 (by decide))⟩
  · rintro ⟨h0, h1, h2, h3⟩ j hj
    have : j = 0 ∨ j = 1 ∨ j = 2 ∨ j = 3 := by omega
    rcases this with e | e | e | e <;> subst e
    · exact congrArg nI h0
    · exact congrArg nI h1
    · exact congrArg nI h2
    · exact congrArg nI h3
def kH (s t c0 : Nat) : Nat := 512 * (s + 1 + 2 * t + c0)
def krOk (b : Nat → Nat) (s t c0 z : Nat) : Prop := 8 ≤ z ∧ rowIs b (kH s t c0) (sByt 11) 4 ∧ loN b (kH s t c0 + 4) 4 + z ≤ 65536
theorem copy_class {S s t c c0 z N : Nat} {w m : Nat → Int64} {x : Nat → Int32} {kA kS : Int32} (hS : 100 ≤ S ∧ S ≤ 600) (hN : 400000 ≤ N) (hv : s + c + 3 + 2 * t ≤ S) (hn : (z + 511) / 512 ≤ c) (ho : ∀ i, i < (z + 511) / 512 → 2 ≤ cA (gB w) s c0 i ∧ cA (gB w) s c0 i ≤ c + 1) (hx : ∀ j, j < (z + 511) / 512 → x j = nI (cA (gB w) s c0 j)) : (¬ krOk (gB w) s t c0 z → f_Firmware_copyKernel N (nI z) S x (nI s) (nI t) (nI (512 * S)) (64 * S) w kA kS m (nI 65536) 8192 = some (0, kA, kS, m)) ∧ (krOk (gB w) s t c0 z → ∃ m' : Nat → Int64, f_Firmware_copyKernel N (nI z) S x (nI s) (nI t) (nI (512 * S)) (64 * S) w kA kS m (nI 65536) 8192 = some (1, nI (loN (gB w) (kH s t c0 + 4) 4), nI z, m') ∧ ∀ q, q < 65536 → gB m' q = if loN (gB w) (kH s t c0 + 4) 4 ≤ q ∧ q < loN (gB w) (kH s t c0 + 4) 4 + z then gB w (kP (gB w) s t c0 (q - loN (gB w) (kH s t c0 + 4) 4)) else gB m q) := by
  unfold f_Firmware_copyKernel
  dsimp only [lt_]
  by_cases h8 : 8 ≤ z
  case neg =>
    rw [if_neg (show ¬ (8 : Int32) ≤ nI z from nI_ge (b := 8) (by omega) (by decide))]
    exact ⟨fun _ => rfl, fun q => absurd q.1 h8⟩
  have hA : loN (gB w) (kH s t c0 + 4) 4 < 2 ^ 32 := loN4 (gB_lt w) _
  obtain ⟨h2, h3⟩ : 2 ≤ c0 ∧ c0 ≤ c + 1 := ho 0 (by omega)
  have hH : kH s t c0 + 512 ≤ 512 * S := by unfold kH; omega
  obtain ⟨u, hu, hh⟩ := text_eq (w := w) (f := sByt 11) (k := 4) (p := kH s t c0) (len := 512 * S) (n := 64 * S) (N := N) (fun j hj => sByt_tx 11 (by decide) j hj) (by omega) (by omega) (by omega) (by omega)
  rw [if_pos (show (8 : Int32) ≤ nI z from nI_le (a := 8) h8 (by omega)), show (0 : Int32) = nI 0 from rfl, ix_in (show 0 < S by omega) (by omega), hx 0 (by omega), show cA (gB w) s c0 0 = c0 from rfl, clAt2 h2, bd_e, show 512 * (s + 1 + 2 * t + c0) = kH s t c0 from rfl, show nI (kH s t c0) + 4 = nI (kH s t c0 + 4) from nI_add _ 4, cl 4 (k := 4) rfl (by omega) (by omega) (by omega) (by decide) (by omega), bd_e, hu, bd_e, nI_l (by omega), lN_add]
  rcases hh with ⟨e, hr⟩ | ⟨e, hr⟩
  · rw [e, if_neg (show ¬ (1 : Int32) = nI 0 by decide)]
    by_cases h6 : loN (gB w) (kH s t c0 + 4) 4 + z ≤ 65536
    · rw [if_pos (show lg_cmp (lN (loN (gB w) (kH s t c0 + 4) 4 + z)) 65536 ≤ nI 0 from (lgle (y := 65536) (by omega) (by decide)).mpr h6)]
      refine ⟨fun q => absurd ⟨h8, hr, h6⟩ q, fun _ => ?_⟩
      obtain ⟨m', e, hm⟩ := copy_loop (N := N) (w := w) (x := x) hS hv hn ho hx h6 z 0 N m (by omega) (by omega)
      exact ⟨m', e, hm⟩
    · rw [if_neg (show ¬ lg_cmp (lN (loN (gB w) (kH s t c0 + 4) 4 + z)) 65536 ≤ nI 0 from fun q => h6 ((lgle (y := 65536) (by omega) (by decide)).mp q))]
      exact ⟨fun _ => rfl, fun q => absurd q.2.2 h6⟩
  · rw [e, if_pos (show (0 : Int32) = nI 0 from rfl)]
    exact ⟨fun _ => rfl, fun q => absurd q.2.1 hr⟩
set_option maxHeartbeats 1000000 in
theorem copy_model {S s t c c0 z N : Nat} {d mem : Nat → Int32} {kA kS : Int32} (hS : 100 ≤ S ∧ S ≤ 600) (hN : 400000 ≤ N) (hv : s + c + 3 + 2 * t ≤ S) (ht : ((c + 2) * 3 + 1) / 2 ≤ 512 * t) (hn : (z + 511) / 512 ≤ c) (ho : ∀ i, i < (z + 511) / 512 → 2 ≤ cA (mB d) s c0 i ∧ cA (mB d) s c0 i ≤ c + 1) : (¬ krOk (mB d) s t c0 z → mTail N (lN z) (nI s) (nI t) (nI c0) d kA kS mem = some (8, kA, kS, mem)) ∧ (krOk (mB d) s t c0 z → ∃ m' : Nat → Int32, mTail N (lN z) (nI s) (nI t) (nI c0) d kA kS mem = some (0, nI (loN (mB d) (kH s t c0 + 4) 4), nI z, m') ∧ ∀ q, q < 65536 → mB m' q = if loN (mB d) (kH s t c0 + 4) 4 ≤ q ∧ q < loN (mB d) (kH s t c0 + 4) 4 + z then mB d (kP (mB d) s t c0 (q - loN (mB d) (kH s t c0 + 4) 4)) else mB mem q) := by
  have hm : ∀ q c : Nat, c < 256 → (nI (mB d q) = nI c ↔ mB d q = c) := fun q c hc => nE (mB_lt d q) hc
  unfold mTail
  dsimp only [lt_]
  by_cases h8 : 8 ≤ z
  case neg =>
    rw [if_neg (show ¬ 0 ≤ lg_cmp (lN z) 8 from fun q => h8 ((lge (y := 8) (by omega) (by decide)).mp q))]
    exact ⟨fun _ => rfl, fun q => absurd q.1 h8⟩
  have hA : loN (mB d) (kH s t c0 + 4) 4 < 2 ^ 32 := loN4 (mB_lt d) _
  obtain ⟨h2, h3⟩ : 2 ≤ c0 ∧ c0 ≤ c + 1 := ho 0 (by omega)
  have hH : kH s t c0 + 512 ≤ 512 * S := by unfold kH; omega
  rw [if_pos (show 0 ≤ lg_cmp (lN z) 8 from (lge (y := 8) (by omega) (by decide)).mpr h8)]
  rw [show nI s + 3 = nI (s + 3) from nI_add s 3, show (2 : Int32) * nI t = nI (2 * t) from pk_mul 2 t, nI_add (s + 3) (2 * t), nI_add (s + 3 + 2 * t) c0, show nI (s + 3 + 2 * t + c0) - 2 = nI (s + 3 + 2 * t + c0 - 2) from pk_sub (b := 2) (by omega), show s + 3 + 2 * t + c0 - 2 = s + 1 + 2 * t + c0 by omega, show (512 : Int32) * nI (s + 1 + 2 * t + c0) = nI (kH s t c0) from pk_mul 512 _]
  rw [show nI (kH s t c0) + 4 = nI (kH s t c0 + 4) from nI_add _ 4, show nI (kH s t c0) + 1 = nI (kH s t c0 + 1) from nI_add _ 1, show nI (kH s t c0) + 2 = nI (kH s t c0 + 2) from nI_add _ 2, show nI (kH s t c0) + 3 = nI (kH s t c0 + 3) from nI_add _ 3, ml 4 (k := 4) rfl (by omega) (by decide) (by omega), bd_e, mget_in (p := kH s t c0) (by omega), bd_e, mget_in (p := kH s t c0 + 1) (by omega), bd_e, mget_in (p := kH s t c0 + 2) (by omega), bd_e, mget_in (p := kH s t c0 + 3) (by omega), bd_e, if_pos (show (0 : Int32) = 0 from rfl), if_neg (show ¬ (1 : Int32) = 0 by decide), lN_add]
  by_cases r0 : mB d (kH s t c0) = 75
  case neg => rw [if_pos (show ¬ nI (mB d (kH s t c0)) = (75 : Int32) from fun q => r0 ((hm _ 75 (by decide)).mp q))]; exact ⟨fun _ => rfl, fun q => absurd ((krnRow (mB_lt d)).mp q.2.1).1 r0⟩
  rw [if_neg (show ¬ ¬ nI (mB d (kH s t c0)) = (75 : Int32) from fun q => q (congrArg nI r0))]
  by_cases r1 : mB d (kH s t c0 + 1) = 82
  case neg => rw [if_pos (show ¬ nI (mB d (kH s t c0 + 1)) = (82 : Int32) from fun q => r1 ((hm _ 82 (by decide)).mp q))]; exact ⟨fun _ => rfl, fun q => absurd ((krnRow (mB_lt d)).mp q.2.1).2.1 r1⟩
  rw [if_neg (show ¬ ¬ nI (mB d (kH s t c0 + 1)) = (82 : Int32) from fun q => q (congrArg nI r1))]
  by_cases r2 : mB d (kH s t c0 + 2) = 78
  case neg => rw [if_pos (show ¬ nI (mB d (kH s t c0 + 2)) = (78 : Int32) from fun q => r2 ((hm _ 78 (by decide)).mp q))]; exact ⟨fun _ => rfl, fun q => absurd ((krnRow (mB_lt d)).mp q.2.1).2.2.1 r2⟩
  rw [if_neg (show ¬ ¬ nI (mB d (kH s t c0 + 2)) = (78 : Int32) from fun q => q (congrArg nI r2))]
  by_cases r3 : mB d (kH s t c0 + 3) = 76
  case neg => rw [if_pos (show ¬ nI (mB d (kH s t c0 + 3)) = (76 : Int32) from fun q => r3 ((hm _ 76 (by decide)).mp q))]; exact ⟨fun _ => rfl, fun q => absurd ((krnRow (mB_lt d)).mp q.2.1).2.2.2 r3⟩
  rw [if_neg (show ¬ ¬ nI (mB d (kH s t c0 + 3)) = (76 : Int32) from fun q => q (congrArg nI r3))]
  by_cases h6 : loN (mB d) (kH s t c0 + 4) 4 + z ≤ 65536
  · rw [if_pos (show lg_cmp (lN (loN (mB d) (kH s t c0 + 4) 4 + z)) 65536 ≤ 0 from (lgle (y := 65536) (by omega) (by decide)).mpr h6)]
    refine ⟨fun q => absurd ⟨h8, (krnRow (mB_lt d)).mpr ⟨r0, r1, r2, r3⟩, h6⟩ q, fun _ => ?_⟩
    obtain ⟨m', e, hm'⟩ := mcopy_loop (d := d) (c0 := c0) hS hv ht hn ho h6 z 0 N mem (by omega) (by omega)
    exact ⟨m', e, hm'⟩
  · rw [if_neg (show ¬ lg_cmp (lN (loN (mB d) (kH s t c0 + 4) 4 + z)) 65536 ≤ 0 from fun q => h6 ((lgle (y := 65536) (by omega) (by decide)).mp q))]
    exact ⟨fun _ => rfl, fun q => absurd q.2.2 h6⟩
/-! pure: the kernel loaded, alike -/
theorem kr_congr {S s t c c0 z : Nat} {b b' : Nat → Nat} (h : ∀ q, q < 512 * S → b q = b' q) (hv : s + c + 3 + 2 * t ≤ S) (hc : 8 ≤ z → c0 ≤ c + 1) : (krOk b s t c0 z ↔ krOk b' s t c0 z) ∧ (8 ≤ z → loN b (kH s t c0 + 4) 4 = loN b' (kH s t c0 + 4) 4) := by
  have hH : 8 ≤ z → kH s t c0 + 512 ≤ 512 * S := fun q => by have := hc q; unfold kH; omega
  have e : 8 ≤ z → loN b (kH s t c0 + 4) 4 = loN b' (kH s t c0 + 4) 4 := fun q => loN_congr 4 _ (fun r h1 h2 => h r (by have := hH q; omega))
  refine ⟨⟨?_, ?_⟩, e⟩
  · rintro ⟨h8, hr, h6⟩
    have := hH h8
    exact ⟨h8, fun j hj => by rw [← h _ (by omega)]; exact hr j hj, by rw [← e h8]; exact h6⟩
  · rintro ⟨h8, hr, h6⟩
    have := hH h8
    exact ⟨h8, fun j hj => by rw [h _ (by omega)]; exact hr j hj, by rw [e h8]; exact h6⟩
set_option maxHeartbeats 1000000 in
theorem load_eq {S s N : Nat} {w m : Nat → Int64} {d mem ch : Nat → Int32} {kA kS : Int32} (hS : 100 ≤ S ∧ S ≤ 600) (hs : s < S) (hN : 400000 ≤ N) (hD : Alike_ S w d) (hM : ∀ q, q < 65536 → gB m q = mB mem q) : ∃ (r T C kA' kS' : Int32) (ch' : Nat → Int32) (m' : Nat → Int64) (mem' : Nat → Int32), f_Firmware_loadKernel N (nI s) (nI (512 * S)) (64 * S) w (nI S) ch S kA kS m (nI 65536) 8192 = some (r, T, C, kA', kS', ch', m') ∧ f_Model_loaded N (nI s) d kA kS mem (nI S) = some (r, kA', kS', mem') ∧ ∀ q, q < 65536 → gB m' q = mB mem' q := by
  obtain ⟨z, hz, hh⟩ := vol_class (N := N) (w := w) hS hs hN
  obtain ⟨v1, v2⟩ := vol_model (N := N) (d := d) (kA := kA) (kS := kS) (mem := mem) hS hs hN
  obtain ⟨eT, eL, eV⟩ := vol_congr hD hs
  unfold f_Firmware_loadKernel
  rw [hz, bd_e]
  dsimp only [lt_]
  rcases hh with ⟨e, hv⟩ | ⟨e, hv⟩
  case inr =>
    rw [e, if_neg (show ¬ ¬ (0 : Int32) = 0 by decide), v2 (fun q => hv (eV.mpr q))]
    exact ⟨5, _, _, kA, kS, ch, m, mem, rfl, rfl, hM⟩
  rw [e, if_pos (show ¬ (1 : Int32) = 0 by decide), v1 (eV.mp hv), ← eT, ← eL]
  obtain ⟨-, -, -, -, -, -, h6, h7, h8, h9⟩ := hv
  generalize vT (gB w) s = t at h6 h7 h8 ⊢
  generalize vL (gB w) s = L at h7 h8 h9 ⊢
  obtain ⟨c, rfl⟩ : ∃ c, L = c + (3 + 2 * t) := ⟨L - (3 + 2 * t), by omega⟩
  rw [pk_sub (by omega), Nat.add_sub_cancel]
  rw [Nat.add_sub_cancel] at h8
  have hv : s + c + 3 + 2 * t ≤ S := by omega
  unfold mRest
  obtain ⟨y, k1, k2, k3⟩ := kernel_eq (s := s) (t := t) hS hN hD (by omega)
  rw [k1, bd_e, k2, bd_e]
  rcases k3 with k3 | ⟨j, hj, k3⟩
  · rw [k3, if_neg (show ¬ ¬ (-1 : Int32) = -1 by decide), if_neg (show ¬ (0 : Int32) ≤ -1 by decide)]
    exact ⟨6, _, _, kA, kS, ch, m, mem, rfl, rfl, hM⟩
  generalize hP : 512 * (s + 1 + 2 * t) + 32 * j = P at k3
  rw [k3, if_pos (show ¬ nI P = -1 from fun q => absurd (show nI P < 0 by rw [q]; decide) (nI_pos (by omega))), if_pos (nI_pos' (by omega)), show nI P + 28 = nI (P + 28) from nI_add P 28, show nI P + 26 = nI (P + 26) from nI_add P 26, cl 4 (k := 4) rfl (by omega) (by omega) (by omega) (by decide) (by omega), bd_e, cl 2 (k := 2) rfl (by omega) (by omega) (by omega) (by decide) (by omega), bd_e, ml 4 (k := 4) rfl (by omega) (by decide) (by omega), bd_e, ml 2 (k := 2) rfl (by omega) (by decide) (by omega), bd_e, lN_i, lN_i, lN_i, ← loN_congr 4 (P + 28) (fun q h1 h2 => hD q (by omega)), ← loN_congr 2 (P + 26) (fun q h1 h2 => hD q (by omega))]
  have hz4 : loN (gB w) (P + 28) 4 < 2 ^ 32 := loN4 (gB_lt w) _
  have hc0 : loN (gB w) (P + 26) 2 < 65536 := loN2 (gB_lt w) _
  generalize loN (gB w) (P + 28) 4 = z4 at hz4 ⊢
  generalize loN (gB w) (P + 26) 2 = c0 at hc0 ⊢
  obtain ⟨r, x', hr, hrr⟩ := chain_class (x := ch) (w := w) hS hN hv h8 hc0 hz4
  rw [hr, bd_e, (sz_512 hz4).1, nI_l (show c < 2 ^ 31 by omega)]
  have hsym : ∀ q, q < 512 * S → mB d q = gB w q := fun q hq => (hD q hq).symm
  rcases hrr with ⟨e1, ⟨hn, hch⟩, hx⟩ | ⟨e1, hno⟩
  case inr =>
    dsimp only
    rw [e1, if_neg (show ¬ ¬ (0 : Int32) = 0 by decide)]
    refine ⟨7, _, _, kA, kS, x', m, mem, rfl, ?_, hM⟩
    by_cases hn : (z4 + 511) / 512 ≤ c
    · rw [if_pos ((lgle (by omega) (by omega)).mpr hn)]
      refine (mchain_loop (S := S) (c := c) (z := lN z4) hS hv h8 hc0 hn ((z4 + 511) / 512) 0 N (by omega) (by omega) (fun j hj => absurd hj (by omega)) (fun q => Or.inl q.symm)).2 (fun q => hno ⟨hn, ?_⟩)
      exact chOk_congr hsym hv h8 q
    · rw [if_neg (fun q => hn ((lgle (by omega) (by omega)).mp q))]
  dsimp only
  have hch' : chOk (mB d) s c0 c ((z4 + 511) / 512) := chOk_congr hD hv h8 hch
  rw [e1, if_pos (show ¬ (1 : Int32) = 0 by decide), if_pos ((lgle (by omega) (by omega)).mpr hn)]
  have hm := (mchain_loop (S := S) (c := c) (N := N) (z := lN z4) (kA := kA) (kS := kS) (mem := mem) hS hv h8 hc0 hn ((z4 + 511) / 512) 0 N (by omega) (by omega) (fun j hj => absurd hj (by omega)) (fun q => Or.inl q.symm)).1 hch'
  have hm' : lp_ (fun _ _ => none) (f_Model_loaded_L277 N (lN ((z4 + 511) / 512)) (lN z4) (nI s) (nI t) (nI c0) d kA kS mem (nI c)) N 0 (nI c0) = mTail N (lN z4) (nI s) (nI t) (nI c0) d kA kS mem := hm
  rw [hm']
  obtain ⟨a1, a2⟩ := copy_class (N := N) (m := m) (x := x') (kA := kA) (kS := kS) hS hN hv hn hch.1 hx
  obtain ⟨b1, b2⟩ := copy_model (N := N) (mem := mem) (kA := kA) (kS := kS) hS hN hv h8 hn hch'.1
  have hc1 : 8 ≤ z4 → c0 ≤ c + 1 := fun q => (hch.1 0 (by omega)).2
  obtain ⟨g1, g2⟩ := kr_congr (z := z4) (c0 := c0) hD hv hc1
  by_cases hk : krOk (gB w) s t c0 z4
  · obtain ⟨m', p1, p2⟩ := a2 hk
    obtain ⟨mem', q1, q2⟩ := b2 (g1.mp hk)
    rw [p1, bd_e, q1]
    dsimp only
    rw [if_neg (show ¬ (1 : Int32) = 0 by decide), ← g2 hk.1]
    rw [← g2 hk.1] at q2
    refine ⟨0, _, _, _, _, x', m', mem', rfl, rfl, fun q hq => ?_⟩
    rw [p2 q hq, q2 q hq]
    by_cases hin : loN (gB w) (kH s t c0 + 4) 4 ≤ q ∧ q < loN (gB w) (kH s t c0 + 4) 4 + z4
    · rw [if_pos hin, if_pos hin]
      generalize hjj : q - loN (gB w) (kH s t c0 + 4) 4 = jj
      have hjz : jj < z4 := by omega
      have hcc := hch.1 (jj / 512) (by omega)
      unfold kP
      rw [← ch_congr hD hv h8 hch.1 (jj / 512) (by omega)]
      exact hD _ (by omega)
    · rw [if_neg hin, if_neg hin]
      exact hM q hq
  · rw [a1 hk, bd_e, b1 (fun q => hk (g1.mpr q))]
    dsimp only
    rw [if_pos (show (0 : Int32) = 0 from rfl)]
    exact ⟨8, _, _, kA, kS, x', m, mem, rfl, rfl, hM⟩
/-! pure: boot, alike -/
def bEnd (N : Nat) (t_disk : Nat → Int32) (x55 : Int32) (t_sectors : Int32) (a1 : Int32) (x65 : Nat → Int32) : Option (Int32 × Int32 × Int32 × Int32 × Int32 × Int32 × Int32 × (Nat → Int32)) :=
  bd_ (f_Model_get t_disk 510) (fun u74 => if ¬ u74 = (85 : Int32) then some (1, x55, 0, (-1), (-1), (-1), 1, x65) else bd_ (f_Model_get t_disk 511) (fun u75 => if u75 = (170 : Int32) then lt_ (fun (x78 : Int32) (x79 : Int32) (x80 : Int32) => if x78 ≤ 0 then bd_ (f_Model_loaded N x80 t_disk (-1) (-1) x65 t_sectors) (fun u81 => some (u81.1, x55, x79, x80, u81.2.1, u81.2.2.1, 1, u81.2.2.2)) else some (x78, x55, x79, x80, (-1), (-1), 1, x65)) (fun (j116 : Int32 → Int32 → Int32 → Option (Int32 × Int32 × Int32 × Int32 × Int32 × Int32 × Int32 × (Nat → Int32))) => if ¬ a1 = 0 then bd_ (f_Model_byLoader N t_disk (-1) t_sectors) (fun u82 => j116 u82.1 0 u82.2) else bd_ (f_Model_byTable N t_disk t_sectors (-1) 0) (fun u83 => j116 u83.1 u83.2.1 u83.2.2)) else some (1, x55, 0, (-1), (-1), (-1), 1, x65)))
theorem mclear_loop {N : Nat} {d : Nat → Int32} {x55 S a1 : Int32} : ∀ (r i M : Nat) (m : Nat → Int32), i + r = 65536 → r < M → (∀ q, q < i → mB m q = 0) → ∃ m' : Nat → Int32, lp_ (fun _ _ => none) (f_Model_boot_L55 N d x55 S a1) M (nI i) m = bEnd N d x55 S a1 m' ∧ ∀ q, q < 65536 → mB m' q = 0 := by
  intro r
  induction r with
  | zero =>
    intro i M' m hi hM hm
    obtain ⟨M, rfl⟩ : ∃ M, M' = M + 1 := ⟨M' - 1, by omega⟩
    have e : i = 65536 := by omega
    subst e
    rw [lp_s, f_Model_boot_L55, if_pos (show (65536 : Int32) ≤ nI 65536 by decide)]
    exact ⟨m, rfl, hm⟩
  | succ r ih =>
    intro i M' m hi hM hm
    obtain ⟨M, rfl⟩ : ∃ M, M' = M + 1 := ⟨M' - 1, by omega⟩
    rw [lp_s, f_Model_boot_L55, if_neg (show ¬ (65536 : Int32) ≤ nI i from nI_ge (b := 65536) (by omega) (by decide)), upb_in (by omega) (by decide)]
    dsimp only [lt_]
    rw [nI_1]
    refine ih (i + 1) M _ (by omega) (by omega) (fun q hq => ?_)
    rw [mB_updn]
    by_cases h : q = i
    · rw [if_pos h]; decide
    · rw [if_neg h]; exact hm q (by omega)
set_option maxHeartbeats 1000000 in
theorem start_eq {S N : Nat} {w m : Nat → Int64} {d mem ch ls T : Nat → Int32} {ts cs a1 u h0 f0 k0 z0 y0 : Int32} (hS : 100 ≤ S ∧ S ≤ 600) (hN : 400000 ≤ N) (hT : isT T) (hD : Alike_ S w d) (ha : a1 = 0 ∨ a1 = 1) : ∃ (r T' C' h b kA kS u' : Int32) (ls' ch' : Nat → Int32) (m' : Nat → Int64) (mem' : Nat → Int32), f_Firmware_start N 8192 m (nI (512 * S)) (64 * S) w (nI S) ch S (nI 65536) ts cs a1 ls u T = some (r, T', C', 1, h, b, kA, kS, ls', ch', m', u') ∧ f_Model_boot N a1 d (nI S) mem h0 f0 k0 z0 y0 = some (r, 0, h, b, kA, kS, 1, mem') ∧ ∀ q, q < 65536 → gB m' q = mB mem' q := by
  obtain ⟨g, hg, hg0⟩ := clear_eq (n := 8192) (N := N) (w := m) (by decide) (by omega)
  obtain ⟨mem1, hm1, hm0⟩ := mclear_loop (N := N) (d := d) (x55 := 0) (S := nI S) (a1 := a1) 65536 0 N mem (by decide) (by omega) (fun q hq => absurd hq (by omega))
  have hM : ∀ q, q < 65536 → gB g q = mB mem1 q := fun q hq => by rw [hg0 q hq, hm0 q hq]
  have hin : f_Model_in a1 0 1 = some 1 := by rcases ha with e | e <;> subst e <;> rfl
  have hB : f_Model_boot N a1 d (nI S) mem h0 f0 k0 z0 y0 = bEnd N d 0 (nI S) a1 mem1 := by
    unfold f_Model_boot
    rw [hin, bd_e]
    dsimp only [lt_]
    rw [if_neg (show ¬ (1 : Int32) = 0 by decide), if_pos (show ¬ (0 : Int32) = 1 by decide)]
    exact hm1
  rw [hB]
  unfold f_Firmware_start f_Firmware_forget bEnd
  obtain ⟨z, hz, hh⟩ := isBoot_eq (N := N) (w := w) (s := 0) hS (by omega) (by omega)
  have hz' : f_Store_isBootSector N 0 (nI (512 * S)) (64 * S) w = some z := hz
  rw [hg, bd_e, bd_e, hz', bd_e, show (510 : Int32) = nI 510 from rfl, show (511 : Int32) = nI 511 from rfl, mget_in (by decide), bd_e, mget_in (by decide), bd_e]
  dsimp only [lt_]
  rw [show 512 * 0 + 510 = 510 from rfl, show 512 * 0 + 511 = 511 from rfl, hD 510 (by omega), hD 511 (by omega)] at hh
  rcases hh with ⟨e, p1, p2⟩ | ⟨e, p⟩
  case inr =>
    rw [e, if_neg (show ¬ ¬ (0 : Int32) = 0 by decide)]
    refine ⟨1, _, _, 0, -1, -1, -1, _, _, _, g, mem1, rfl, ?_, hM⟩
    by_cases q1 : nI (mB d 510) = 85
    · rw [if_neg (show ¬ ¬ nI (mB d 510) = 85 from fun q => q q1), if_neg (fun q => p ⟨q1, q⟩)]
    · rw [if_pos q1]
  rw [e, if_pos (show ¬ (1 : Int32) = 0 by decide), if_neg (show ¬ ¬ nI (mB d 510) = 85 from fun q => q p1), if_pos p2]
  rcases ha with e1 | e1
  · subst e1
    rw [if_neg (show ¬ ¬ (0 : Int32) = 0 by decide), if_neg (show ¬ ¬ (0 : Int32) = 0 by decide)]
    obtain ⟨r, h, b, u', t1, t2, t3, t4⟩ := table_eq hS hN hT hD u
    rw [t1, bd_e, t2, bd_e]
    dsimp only
    by_cases hr : r = 0
    · obtain ⟨f, hf, eb⟩ := t3 hr
      obtain ⟨r2, T', C', kA, kS, ch', m', mem', l1, l2, l3⟩ := load_eq (ch := ch) (kA := -1) (kS := -1) hS hf hN hD hM
      rw [if_pos hr, if_pos (show r ≤ 0 by rw [hr]; decide), eb, l1, bd_e, l2, bd_e]
      exact ⟨r2, T', C', h, nI f, kA, kS, u', ls, ch', m', mem', rfl, rfl, l3⟩
    · rw [if_neg hr, if_neg (show ¬ r ≤ 0 by rcases t4 with q | q | q | q <;> first | exact absurd q hr | (rw [q]; decide))]
      exact ⟨r, ts, cs, h, b, -1, -1, u', ls, ch, g, mem1, rfl, rfl, hM⟩
  · subst e1
    rw [if_pos (show ¬ (1 : Int32) = 0 by decide), if_pos (show ¬ (1 : Int32) = 0 by decide)]
    obtain ⟨r, b, u', ls', t1, t2, t3⟩ := loader_eq hS hN hT hD u ls
    rw [t1, bd_e, t2, bd_e]
    dsimp only
    rcases t3 with ⟨hr, f, hf, eb⟩ | ⟨hr, eb⟩
    · obtain ⟨r2, T', C', kA, kS, ch', m', mem', l1, l2, l3⟩ := load_eq (ch := ch) (kA := -1) (kS := -1) hS hf hN hD hM
      rw [if_pos hr, if_pos (show r ≤ 0 by rw [hr]; decide), eb, l1, bd_e, l2, bd_e]
      exact ⟨r2, T', C', 0, nI f, kA, kS, u', ls', ch', m', mem', rfl, rfl, l3⟩
    · rw [if_neg (show ¬ r = 0 by rw [hr]; decide), if_neg (show ¬ r ≤ 0 by rw [hr]; decide)]
      exact ⟨r, ts, cs, 0, b, -1, -1, u', ls', ch, g, mem1, rfl, rfl, hM⟩
/-! pure: memory read; calls that are refused -/
theorem memory_eq {m : Nat → Int64} {mem : Nat → Int32} (hM : ∀ q, q < 65536 → gB m q = mB mem q) (a : Int32) : ((a < 0 ∨ nI 65536 ≤ a) ∧ f_Model_memory a mem = some (0, 1)) ∨ (¬ (a < 0 ∨ nI 65536 ≤ a) ∧ ∃ v : Int32, f_Store_get a (nI 65536) 8192 m = some v ∧ f_Model_memory a mem = some (v, 0)) := by
  rcases pk_ix a (n := 65536) (by decide) with h | h | ⟨j, hj, e⟩
  · left
    refine ⟨Or.inl h, ?_⟩
    unfold f_Model_memory
    rw [in_eq, if_neg (fun q => absurd h (Int32.not_lt.mpr q.1)), bd_e]
    dsimp only [lt_]
    rw [if_pos (show (0 : Int32) = 0 from rfl), if_neg (show ¬ ¬ (1 : Int32) = 1 by decide)]
  · left
    refine ⟨Or.inr h, ?_⟩
    unfold f_Model_memory
    have hn : ¬ (0 ≤ a ∧ a ≤ 65535) := fun q => by
      have h1 := Int32.le_trans h q.2
      exact absurd h1 (show ¬ nI 65536 ≤ 65535 by decide)
    rw [in_eq, if_neg hn, bd_e]
    dsimp only [lt_]
    rw [if_pos (show (0 : Int32) = 0 from rfl), if_neg (show ¬ ¬ (1 : Int32) = 1 by decide)]
  · right
    subst e
    refine ⟨fun q => q.elim (nI_pos (by omega)) (nI_ge hj (by decide)), nI (gB m j), get_in hj (by decide) (by decide), ?_⟩
    unfold f_Model_memory
    rw [in_eq, if_pos ⟨nI_pos' (by omega), show nI j ≤ 65535 from nI_le (b := 65535) (by omega) (by decide)⟩, bd_e]
    dsimp only [lt_]
    rw [if_neg (show ¬ (1 : Int32) = 0 by decide), if_pos (show ¬ (0 : Int32) = 1 by decide), ix_in hj (by decide), and_lo8, hM j hj]
    rfl
theorem boot_refused {N : Nat} {d mem : Nat → Int32} {S a1 h0 f0 k0 z0 y0 : Int32} (ha : ¬ a1 = 0) (hb : ¬ a1 = 1) : f_Model_boot N a1 d S mem h0 f0 k0 z0 y0 = some (0, 1, h0, f0, k0, z0, y0, mem) := by
  unfold f_Model_boot
  have hn : ¬ (0 ≤ a1 ∧ a1 ≤ 1) := fun q => by
    obtain ⟨n, h1, h2, e⟩ := i32_in (lo := 0) (hi := 1) (by decide) q.1 q.2 (by decide)
    have : n = 0 ∨ n = 1 := by omega
    rcases this with c | c <;> subst c
    · exact ha e
    · exact hb e
  rw [in_eq, if_neg hn, bd_e]
  dsimp only [lt_]
  rw [if_pos (show (0 : Int32) = 0 from rfl), if_neg (show ¬ ¬ (1 : Int32) = 1 by decide)]
/-! pure: the constructors' values -/
theorem nw_in {β : Type} {B n : Nat} {K : Nat → Option β} (hn : n ≤ B) (hB : B < 2 ^ 31) : nw_ B (nI n) K = K n := by
  unfold nw_
  rw [nI_clamp (by omega), if_neg (fun q => q.elim (nI_pos (by omega)) (fun q => absurd hn (by omega)))]
theorem sect_of (a : Int32) : ∃ S : Nat, 100 ≤ S ∧ S ≤ 600 ∧ ∀ {β : Type} (F : Int32 → Option β), (if a < (100 : Int32) then F 200 else if (600 : Int32) < a then F 200 else F a) = F (nI S) := by
  by_cases h1 : a < 100
  · exact ⟨200, by decide, by decide, fun F => by rw [if_pos h1]; rfl⟩
  · by_cases h2 : 600 < a
    · exact ⟨200, by decide, by decide, fun F => by rw [if_neg h1, if_pos h2]; rfl⟩
    · obtain ⟨n, q1, q2, e⟩ := i32_in (a := a) (lo := 100) (hi := 600) (by decide) (Int32.not_lt.mp h1) (Int32.not_lt.mp h2) (by decide)
      exact ⟨n, q1, q2, fun F => by rw [if_neg h1, if_neg h2, e]⟩
theorem init_eq {N : Nat} (hN : 400000 ≤ N) (a : Int32) : ∃ (S : Nat) (T : Nat → Int32), (100 ≤ S ∧ S ≤ 600) ∧ isT T ∧ f_BootMaker_init N a = some (nI (512 * S), 64 * S, (fun _ => 0), 0, T, nI S - 33 - 1, 0, 0, 0, (fun _ => 0), (fun _ => 0), (fun _ => 0), (fun _ => 0), (fun _ => 0), (fun _ => 0), (fun _ => 0), nI S, 0, 0, 0, 0, 0, (fun _ => 0), (fun _ => 0), (fun _ => 0), S, (fun _ => 0), nI S, 0, 0, 0, 0, (-1), (-1), (-1), nI 65536, 8192, (fun _ => 0), (fun _ => 0), S, (fun _ => 0)) ∧ f_Model_init a = some (0, nI S, 0, 0, 0, 0, 0, 0, 0, (-1), (-1), (-1), 0, (fun _ => 0), (fun _ => 0), (fun _ => 0), (fun _ => 0), (fun _ => 0), (fun _ => 0), (fun _ => 0), (fun _ => 0), (fun _ => 0), (fun _ => 0), (fun _ => 0)) := by
  obtain ⟨S, h1, h2, hF⟩ := sect_of a
  obtain ⟨T, hT, hT'⟩ := sinit_eq (N := N) (by omega)
  refine ⟨S, T, ⟨h1, h2⟩, hT', ?_, ?_⟩
  · unfold f_BootMaker_init
    dsimp only [lt_]
    refine (hF (fun x49 => bd_ (f_Store_init (x49 * 512)) (fun u52 => bd_ (f_Sums_init N) (fun u55 => bd_ (f_Plan_init x49) (fun u58 => bd_ (f_Writer_init x49) (fun u61 => bd_ (f_Firmware_init x49) (fun u64 => some (u52.1, u52.2.1, u52.2.2, u55.1, u55.2, u58.1, u58.2.1, u58.2.2.1, u58.2.2.2.1, u58.2.2.2.2.1, u58.2.2.2.2.2.1, u58.2.2.2.2.2.2.1, u58.2.2.2.2.2.2.2.1, u58.2.2.2.2.2.2.2.2.1, u58.2.2.2.2.2.2.2.2.2.1, u58.2.2.2.2.2.2.2.2.2.2, u61.1, u61.2.1, u61.2.2.1, u61.2.2.2.1, u61.2.2.2.2.1, u61.2.2.2.2.2.1, u61.2.2.2.2.2.2.1, u61.2.2.2.2.2.2.2.1, u61.2.2.2.2.2.2.2.2.1, u61.2.2.2.2.2.2.2.2.2.1, u61.2.2.2.2.2.2.2.2.2.2, u64.1, u64.2.1, u64.2.2.1, u64.2.2.2.1, u64.2.2.2.2.1, u64.2.2.2.2.2.1, u64.2.2.2.2.2.2.1, u64.2.2.2.2.2.2.2.1, u64.2.2.2.2.2.2.2.2.1, u64.2.2.2.2.2.2.2.2.2.1, u64.2.2.2.2.2.2.2.2.2.2.1, u64.2.2.2.2.2.2.2.2.2.2.2.1, u64.2.2.2.2.2.2.2.2.2.2.2.2.1, u64.2.2.2.2.2.2.2.2.2.2.2.2.2)))))))).trans ?_
    unfold f_Store_init f_Plan_init f_Writer_init f_Volume_init f_Firmware_init f_Store_init
    dsimp only [lt_]
    rw [show nI S * 512 = nI (512 * S) by rw [show nI S * 512 = nI (S * 512) from pk_mul S 512, Nat.mul_comm], show nI (512 * S) + 7 = nI (512 * S + 7) from nI_add _ 7, show nI (512 * S + 7) / 8 = nI ((512 * S + 7) / 8) from pk_div (d := 8) (by omega) (by decide) (by decide), show (512 * S + 7) / 8 = 64 * S by omega, nw_in (show 64 * S ≤ 38400 by omega) (by decide), bd_e, hT, bd_e, bd_e, nw_in h2 (by decide), bd_e, bd_e, show ((65536 : Int32) + 7) / 8 = nI 8192 by decide, nw_in (show 8192 ≤ 38400 by decide) (by decide), bd_e, nw_in h2 (by decide), bd_e]
    rfl
  · unfold f_Model_init
    dsimp only [lt_]
    exact hF (fun x => some (0, x, 0, 0, 0, 0, 0, 0, 0, (-1), (-1), (-1), 0, (fun _ => 0), (fun _ => 0), (fun _ => 0), (fun _ => 0), (fun _ => 0), (fun _ => 0), (fun _ => 0), (fun _ => 0), (fun _ => 0), (fun _ => 0), (fun _ => 0)))
