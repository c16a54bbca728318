/-! pure: the kernel copied -/
def kP (b : Nat → Nat) (s t c0 j : Nat) : Nat := 512 * (s + 1 + 2 * t + cA b s c0 (j / 512)) + j % 512
theorem clAt_eq {s t c : Nat} : f_Firmware_clusterAt (nI s) (nI t) (nI (c + 2)) = some (nI (512 * (s + 1 + 2 * t + (c + 2)))) := by
  unfold f_Firmware_clusterAt
  dsimp only [lt_]
  rw [nI_1, show (2 : Int32) * nI t = nI (2 * t) from pk_mul 2 t, nI_add, show nI (s + 1 + 2 * t) + 2 = nI (s + 1 + 2 * t + 2) from nI_add _ 2, nI_add, show nI (s + 1 + 2 * t + 2 + (c + 2)) - 2 = nI (s + 1 + 2 * t + 2 + (c + 2) - 2) from pk_sub (b := 2) (by omega), show nI (s + 1 + 2 * t + 2 + (c + 2) - 2) * 512 = nI ((s + 1 + 2 * t + 2 + (c + 2) - 2) * 512) from pk_mul _ 512, show (s + 1 + 2 * t + 2 + (c + 2) - 2) * 512 = 512 * (s + 1 + 2 * t + (c + 2)) by omega]
theorem clAt2 {s t k : Nat} (hk : 2 ≤ k) : f_Firmware_clusterAt (nI s) (nI t) (nI k) = some (nI (512 * (s + 1 + 2 * t + k))) := by
  obtain ⟨c, rfl⟩ : ∃ c, k = c + 2 := ⟨k - 2, by omega⟩
  exact clAt_eq
theorem copy_loop {S s t c c0 z a : Nat} {w : Nat → Int64} {x : Nat → Int32} {N : Nat} (hS : 100 ≤ S ∧ S ≤ 600) (hv : s + c + 3 + 2 * t ≤ S) (hn : (z + 511) / 512 ≤ c) (ho : ∀ i, i < (z + 511) / 512 → 2 ≤ cA (gB w) s c0 i ∧ cA (gB w) s c0 i ≤ c + 1) (hx : ∀ j, j < (z + 511) / 512 → x j = nI (cA (gB w) s c0 j)) (ha : a + z ≤ 65536) : ∀ (r i M : Nat) (m : Nat → Int64), i + r = z → r < M → ∃ m' : Nat → Int64, lp_ (fun _ _ => none) (f_Firmware_copyKernel_L60 (lN a) (nI z) S x (nI s) (nI t) (nI (512 * S)) (64 * S) w (nI 65536) 8192) M (nI i) m = some (1, nI a, nI z, m') ∧ ∀ q, q < 65536 → gB m' q = if a + i ≤ q ∧ q < a + z then gB w (kP (gB w) s t c0 (q - a)) else gB m q := by
  intro r
  induction r with
  | zero =>
    intro i M' m hi hM
    obtain ⟨M, rfl⟩ : ∃ M, M' = M + 1 := ⟨M' - 1, by omega⟩
    rw [lp_s, f_Firmware_copyKernel_L60]
    dsimp only [lt_]
    rw [if_pos (nI_le (by omega) (by omega)), lN_i]
    exact ⟨m, rfl, fun q _ => by rw [if_neg (by omega)]⟩
  | succ r ih =>
    intro i M' m hi hM
    obtain ⟨M, rfl⟩ : ∃ M, M' = M + 1 := ⟨M' - 1, by omega⟩
    have hq : i / 512 < (z + 511) / 512 := by omega
    obtain ⟨h2, h3⟩ := ho (i / 512) hq
    rw [lp_s, f_Firmware_copyKernel_L60]
    dsimp only [lt_]
    rw [if_neg (nI_ge (by omega) (by omega)), show nI i / 512 = nI (i / 512) from pk_div (d := 512) (by omega) (by decide) (by decide), show Int32.ofNat S = nI S from rfl, if_neg (nI_ge (show i / 512 < S by omega) (by omega)), lN_i, nI_add, ix_in (show i / 512 < S by omega) (by omega), hx _ hq, clAt2 h2, bd_e, show nI i - nI (i / 512) * 512 = nI (i % 512) by rw [show nI (i / 512) * 512 = nI (i / 512 * 512) from pk_mul _ 512, pk_sub (by omega), show i - i / 512 * 512 = i % 512 by omega], nI_add, get_in (by omega) (by omega) (by omega), bd_e, put_in _ (show a + i < 65536 by omega) (by omega) (by omega), bd_e, nI_1]
    obtain ⟨m', e, hm⟩ := ih (i + 1) M (pB m (a + i) (nI (gB w (512 * (s + 1 + 2 * t + cA (gB w) s c0 (i / 512)) + i % 512)))) (by omega) (by omega)
    refine ⟨m', e, fun q hq' => ?_⟩
    rw [hm q hq', gB_pB, lo8_nI, Nat.mod_eq_of_lt (gB_lt w _)]
    by_cases e1 : q = a + i
    · subst e1
      rw [if_neg (by omega), if_pos rfl, if_pos (by omega), show a + i - a = i by omega]
      rfl
    · by_cases e2 : a + (i + 1) ≤ q ∧ q < a + z
      · rw [if_pos e2, if_pos (by omega)]
      · rw [if_neg e2, if_neg e1, if_neg (by omega)]
theorem lo8_nar (x : Int32) : lo8 (vp_nar .byte x) = lo8 x := lo8_of (bp_b x)
theorem mB_updn (m : Nat → Int32) (p q : Nat) (x : Int32) : mB (upd m p (vp_nar .byte x)) q = if q = p then lo8 x else mB m q := by
  unfold mB
  by_cases h : q = p
  · rw [h, pk_us, if_pos rfl, lo8_nar]
  · rw [pk_un h, if_neg h]
theorem mcopy_loop {S s t c c0 z a : Nat} {d : Nat → Int32} (hS : 100 ≤ S ∧ S ≤ 600) (hv : s + c + 3 + 2 * t ≤ S) (ht : ((c + 2) * 3 + 1) / 2 ≤ 512 * t) (hn : (z + 511) / 512 ≤ c) (ho : ∀ i, i < (z + 511) / 512 → 2 ≤ cA (mB d) s c0 i ∧ cA (mB d) s c0 i ≤ c + 1) (ha : a + z ≤ 65536) : ∀ (r i M : Nat) (m : Nat → Int32), i + r = z → r < M → ∃ m' : Nat → Int32, lp_ (fun _ _ _ => none) (f_Model_loaded_L477 (lN z) (lN a) (nI s) (nI t) d) M (nI i) (nI (cA (mB d) s c0 ((i - 1) / 512))) m = some (0, nI a, nI z, m') ∧ ∀ q, q < 65536 → mB m' q = if a + i ≤ q ∧ q < a + z then mB d (kP (mB d) s t c0 (q - a)) else mB m q := by
  intro r
  induction r with
  | zero =>
    intro i M' m hi hM
    obtain ⟨M, rfl⟩ : ∃ M, M' = M + 1 := ⟨M' - 1, by omega⟩
    rw [lp_s, f_Model_loaded_L477]
    dsimp only [lt_]
    rw [nI_l (by omega), if_pos ((lge (by omega) (by omega)).mpr (by omega)), lN_i, lN_i]
    exact ⟨m, rfl, fun q _ => by rw [if_neg (by omega)]⟩
  | succ r ih =>
    intro i M' m hi hM
    obtain ⟨M, rfl⟩ : ∃ M, M' = M + 1 := ⟨M' - 1, by omega⟩
    have hq : i / 512 < (z + 511) / 512 := by omega
    obtain ⟨h2, h3⟩ := ho (i / 512) hq
    obtain ⟨m', e, hm⟩ := ih (i + 1) M (upd m (a + i) (vp_nar .byte (d (512 * (s + 1 + 2 * t + cA (mB d) s c0 (i / 512)) + i % 512)))) (by omega) (by omega)
    have e' : lp_ (fun _ _ _ => none) (f_Model_loaded_L477 (lN z) (lN a) (nI s) (nI t) d) M (nI (i + 1)) (nI (cA (mB d) s c0 (i / 512))) (upd m (a + i) (vp_nar .byte (d (512 * (s + 1 + 2 * t + cA (mB d) s c0 (i / 512)) + i % 512)))) = some (0, nI a, nI z, m') := e
    have hrem : nI i - nI i / 512 * 512 = nI (i % 512) := pk_rem (d := 512) (by omega) (by decide) (by decide)
    have step : ∀ k, k = cA (mB d) s c0 (i / 512) → nI s + 3 + (2 : Int32) * nI t + nI k - 2 = nI (s + 1 + 2 * t + k) := fun k hk => by
      rw [show nI s + 3 = nI (s + 3) from nI_add s 3, show (2 : Int32) * nI t = nI (2 * t) from pk_mul 2 t, nI_add, nI_add, show nI (s + 3 + 2 * t + k) - 2 = nI (s + 3 + 2 * t + k - 2) from pk_sub (b := 2) (by omega), show s + 3 + 2 * t + k - 2 = s + 1 + 2 * t + k by omega]
    refine ⟨m', ?_, fun q hq' => ?_⟩
    · rw [lp_s, f_Model_loaded_L477]
      dsimp only [lt_]
      rw [nI_l (by omega), if_neg (fun q => absurd ((lge (by omega) (by omega)).mp q) (by omega)), hrem, lN_i a, nI_add a i, nI_1]
      have fin : ∀ k, k = cA (mB d) s c0 (i / 512) → (ix_ 307200 d ((512 : Int32) * (nI s + 3 + (2 : Int32) * nI t + nI k - 2) + nI (i % 512)) (fun v => up_b 65536 m (nI (a + i)) v (fun f => lp_ (fun _ _ _ => none) (f_Model_loaded_L477 (lN z) (lN a) (nI s) (nI t) d) M (nI (i + 1)) (nI k) f))) = some (0, nI a, nI z, m') := fun k hk => by
        rw [step k hk, show (512 : Int32) * nI (s + 1 + 2 * t + k) = nI (512 * (s + 1 + 2 * t + k)) from pk_mul 512 _, nI_add, ix_in (by omega) (by decide), upb_in (by omega) (by decide), hk]
        exact e'
      by_cases h0 : i = 0
      · subst h0
        rw [if_pos (show nI 0 ≤ 0 by decide)]
        exact fin _ rfl
      · rw [if_neg (show ¬ nI i ≤ 0 from nI_ge (a := 0) (b := i) (by omega) (by omega))]
        by_cases h5 : i % 512 = 0
        · obtain ⟨h2', h3'⟩ := ho ((i - 1) / 512) (by omega)
          rw [h5, if_neg (show ¬ ¬ nI 0 = 0 by decide), show nI s + 1 = nI (s + 1) from nI_add s 1, mEn_eq (by omega) (by omega), bd_e]
          have hk : enN (mB d) s (cA (mB d) s c0 ((i - 1) / 512)) = cA (mB d) s c0 (i / 512) := by
            rw [show i / 512 = (i - 1) / 512 + 1 by omega]
            rfl
          have := fin _ hk
          rw [h5] at this
          exact this
        · rw [if_pos (show ¬ nI (i % 512) = 0 from fun q => h5 (nE2 (y := 0) (by omega) (by decide) q))]
          exact fin _ (by rw [show (i - 1) / 512 = i / 512 by omega])
    · rw [hm q hq', mB_updn]
      by_cases e1 : q = a + i
      · subst e1
        rw [if_neg (by omega), if_pos rfl, if_pos (by omega), show a + i - a = i by omega]
        rfl
      · by_cases e2 : a + (i + 1) ≤ q ∧ q < a + z
        · rw [if_pos e2, if_pos (by omega)]
        · rw [if_neg e2, if_neg e1, if_neg (by omega)]
