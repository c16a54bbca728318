/-! pure: the kernel's entry in the directory -/
def kerOk (b : Nat → Nat) (p : Nat) : Prop := rowIs b p (sByt 10) 11 ∧ b (p + 11) = 32
theorem nE {x y : Nat} (hx : x < 256) (hy : y < 256) : nI x = nI y ↔ x = y := by
  constructor
  · intro h
    have h2 := congrArg (fun z : Int32 => z.toBitVec.toNat) h
    have h3 : (nI x).toBitVec.toNat = (nI y).toBitVec.toNat := h2
    rw [pk_tn (by omega), pk_tn (by omega)] at h3
    exact h3
  · intro h; rw [h]
theorem ksp {p N : Nat} {x : Int32} {k2 : Int32 → Option Int32} {d : Nat → Int32} (hp : p + 12 ≤ 307200) : ∀ (r i M : Nat), i + r = 11 → r < M → lp_ (fun _ _ => none) (f_Model_kernelEntry_L123 x k2 (nI p) d) M (nI i) 0 = k2 (x + 1) ∧ ((∀ j, i ≤ j → j < 11 → mB d (p + j) = 32) → lp_ (fun _ _ => none) (f_Model_kernelEntry_L123 x k2 (nI p) d) M (nI i) 1 = some (nI p)) ∧ ((∃ j, i ≤ j ∧ j < 11 ∧ mB d (p + j) ≠ 32) → lp_ (fun _ _ => none) (f_Model_kernelEntry_L123 x k2 (nI p) d) M (nI i) 1 = k2 (x + 1)) := by
  intro r
  induction r with
  | zero =>
    intro i M' hi hM
    obtain ⟨M, rfl⟩ : ∃ M, M' = M + 1 := ⟨M' - 1, by omega⟩
    have e : i = 11 := by omega
    subst e
    refine ⟨?_, fun _ => ?_, fun ⟨j, h1, h2, _⟩ => absurd h2 (by omega)⟩
    · rw [lp_s, f_Model_kernelEntry_L123, if_pos (show (11 : Int32) ≤ nI 11 by decide), if_pos rfl]
      rfl
    · rw [lp_s, f_Model_kernelEntry_L123, if_pos (show (11 : Int32) ≤ nI 11 by decide), if_neg (by decide)]
  | succ r ih =>
    intro i M' hi hM
    obtain ⟨M, rfl⟩ : ∃ M, M' = M + 1 := ⟨M' - 1, by omega⟩
    obtain ⟨g1, g2, g3⟩ := ih (i + 1) M (by omega) (by omega)
    have hlt : ¬ (11 : Int32) ≤ nI i := nI_ge (a := i) (b := 11) (by omega) (by decide)
    have hb := mB_lt d (p + i)
    refine ⟨?_, fun h => ?_, fun ⟨j, h1, h2, h3⟩ => ?_⟩
    · rw [lp_s, f_Model_kernelEntry_L123, if_neg hlt]
      dsimp only [lt_]
      rw [if_pos rfl, nI_1]
      exact g1
    · rw [lp_s, f_Model_kernelEntry_L123, if_neg hlt]
      dsimp only [lt_]
      rw [if_neg (show ¬ (1 : Int32) = 0 by decide), nI_add, mget_in (by omega), bd_e, h i (by omega) (by omega), if_neg (show ¬ ¬ nI 32 = (32 : Int32) by decide), nI_1]
      exact g2 (fun j a c => h j (by omega) c)
    · rw [lp_s, f_Model_kernelEntry_L123, if_neg hlt]
      dsimp only [lt_]
      rw [if_neg (show ¬ (1 : Int32) = 0 by decide), nI_add, mget_in (by omega), bd_e, nI_1]
      by_cases hc : mB d (p + i) = 32
      · rw [hc, if_neg (show ¬ ¬ nI 32 = (32 : Int32) by decide)]
        refine g3 ⟨j, ?_, h2, h3⟩
        rcases Nat.eq_or_lt_of_le h1 with e | e
        · subst e; exact absurd hc h3
        · omega
      · rw [if_pos (show ¬ nI (mB d (p + i)) = (32 : Int32) from fun h => hc ((nE hb (by decide)).mp h))]
        exact g1
theorem kerRow {b : Nat → Nat} {p : Nat} (hb : ∀ q, b q < 256) : rowIs b p (sByt 10) 11 ↔ b p = 75 ∧ b (p + 1) = 69 ∧ b (p + 2) = 82 ∧ b (p + 3) = 78 ∧ b (p + 4) = 69 ∧ b (p + 5) = 76 ∧ ∀ j, 6 ≤ j → j < 11 → b (p + j) = 32 := by
  constructor
  · intro h
    refine ⟨(nE (hb _) (by decide)).mp (h 0 (by decide)), (nE (hb _) (by decide)).mp (h 1 (by decide)), (nE (hb _) (by decide)).mp (h 2 (by decide)), (nE (hb _) (by decide)).mp (h 3 (by decide)), (nE (hb _) (by decide)).mp (h 4 (by decide)), (nE (hb _) (by decide)).mp (h 5 (by decide)), fun j h1 h2 => ?_⟩
    refine (nE (hb _) (by decide)).mp ((h j h2).trans ?_)
    have : j = 6 ∨ j = 7 ∨ j = 8 ∨ j = 9 ∨ j = 10 := by omega
    rcases this with e | e | e | e | e <;> subst e <;> rfl
  · rintro ⟨h0, h1, h2, h3, h4, h5, h6⟩ j hj
    by_cases h : 6 ≤ j
    · rw [h6 j h hj]
      have : j = 6 ∨ j = 7 ∨ j = 8 ∨ j = 9 ∨ j = 10 := by omega
      rcases this with e | e | e | e | e <;> subst e <;> rfl
    · have : j = 0 ∨ j = 1 ∨ j = 2 ∨ j = 3 ∨ j = 4 ∨ j = 5 := by omega
      rcases this with e | e | e | e | e | e <;> subst e
      · exact congrArg nI h0
      · exact congrArg nI h1
      · exact congrArg nI h2
      · exact congrArg nI h3
      · exact congrArg nI h4
      · exact congrArg nI h5
set_option maxHeartbeats 1000000 in
theorem kerM {s i N p : Nat} {k2 : Int32 → Option Int32} {d : Nat → Int32} (hN : 400000 ≤ N) (hi : i < 32) (hpe : p = 512 * s + 32 * i) (hp : p + 12 ≤ 307200) : (mB d p = 0 → f_Model_kernelEntry_L2 N (nI s) d k2 (nI i) = some (-1)) ∧ (mB d p ≠ 0 → kerOk (mB d) p → f_Model_kernelEntry_L2 N (nI s) d k2 (nI i) = some (nI p)) ∧ (mB d p ≠ 0 → ¬ kerOk (mB d) p → f_Model_kernelEntry_L2 N (nI s) d k2 (nI i) = k2 (nI (i + 1))) := by
  have hm : ∀ q c : Nat, c < 256 → (nI (mB d q) = nI c ↔ mB d q = c) := fun q c hc => nE (mB_lt d q) hc
  have hlt : ¬ (32 : Int32) ≤ nI i := nI_ge (a := i) (b := 32) (by omega) (by decide)
  have e1 : (512 : Int32) * nI s = nI (512 * s) := pk_mul 512 s
  have e2 : (32 : Int32) * nI i = nI (32 * i) := pk_mul 32 i
  obtain ⟨g1, g2, g3⟩ := ksp (x := nI i) (k2 := k2) (N := N) hp 5 6 N (by omega) (by omega)
  have g1' : lp_ (fun _ _ => none) (f_Model_kernelEntry_L123 (nI i) k2 (nI p) d) N 6 0 = k2 (nI (i + 1)) := by rw [← nI_1]; exact g1
  refine ⟨fun h => ?_, fun h hk => ?_, fun h hk => ?_⟩
  · rw [f_Model_kernelEntry_L2, if_neg hlt]
    dsimp only [lt_]
    rw [e1, e2, nI_add, ← hpe, mget_in (by omega), bd_e, h, if_neg (show ¬ ¬ nI 0 = 0 by decide)]
  · obtain ⟨hr, h11⟩ := hk
    obtain ⟨h0, h1, h2, h3, h4, h5, h6⟩ := (kerRow (mB_lt d)).mp hr
    rw [f_Model_kernelEntry_L2, if_neg hlt]
    dsimp only [lt_]
    rw [e1, e2, nI_add, ← hpe, mget_in (by omega), bd_e, h0, if_pos (show ¬ nI 75 = 0 by decide), bd_e, if_neg (show ¬ ¬ nI 75 = (75 : Int32) by decide), nI_1, mget_in (by omega), bd_e, h1, if_neg (show ¬ ¬ nI 69 = (69 : Int32) by decide)]
    rw [show nI p + 2 = nI (p + 2) from nI_add p 2, mget_in (by omega), bd_e, h2, if_neg (show ¬ ¬ nI 82 = (82 : Int32) by decide), show nI p + 3 = nI (p + 3) from nI_add p 3, mget_in (by omega), bd_e, h3, if_neg (show ¬ ¬ nI 78 = (78 : Int32) by decide), show nI p + 4 = nI (p + 4) from nI_add p 4, mget_in (by omega), bd_e, h4, if_neg (show ¬ ¬ nI 69 = (69 : Int32) by decide), show nI p + 5 = nI (p + 5) from nI_add p 5, mget_in (by omega), bd_e, h5, if_neg (show ¬ ¬ nI 76 = (76 : Int32) by decide), show nI p + 11 = nI (p + 11) from nI_add p 11, mget_in (by omega), bd_e, h11, if_neg (show ¬ ¬ nI 32 = (32 : Int32) by decide)]
    exact g2 h6
  · rw [f_Model_kernelEntry_L2, if_neg hlt]
    dsimp only [lt_]
    rw [e1, e2, nI_add, ← hpe, mget_in (by omega), bd_e, if_pos (show ¬ nI (mB d p) = 0 from fun q => h ((hm p 0 (by decide)).mp q)), bd_e, g1']
    by_cases h0 : mB d p = 75
    case neg => rw [if_pos (show ¬ nI (mB d p) = (75 : Int32) from fun q => h0 ((hm p 75 (by decide)).mp q))]
    rw [h0, if_neg (show ¬ ¬ nI 75 = (75 : Int32) by decide), nI_1, mget_in (by omega), bd_e]
    by_cases h1 : mB d (p + 1) = 69
    case neg => rw [if_pos (show ¬ nI (mB d (p + 1)) = (69 : Int32) from fun q => h1 ((hm _ 69 (by decide)).mp q))]
    rw [h1, if_neg (show ¬ ¬ nI 69 = (69 : Int32) by decide), show nI p + 2 = nI (p + 2) from nI_add p 2, mget_in (by omega), bd_e]
    by_cases h2 : mB d (p + 2) = 82
    case neg => rw [if_pos (show ¬ nI (mB d (p + 2)) = (82 : Int32) from fun q => h2 ((hm _ 82 (by decide)).mp q))]
    rw [h2, if_neg (show ¬ ¬ nI 82 = (82 : Int32) by decide), show nI p + 3 = nI (p + 3) from nI_add p 3, mget_in (by omega), bd_e]
    by_cases h3 : mB d (p + 3) = 78
    case neg => rw [if_pos (show ¬ nI (mB d (p + 3)) = (78 : Int32) from fun q => h3 ((hm _ 78 (by decide)).mp q))]
    rw [h3, if_neg (show ¬ ¬ nI 78 = (78 : Int32) by decide), show nI p + 4 = nI (p + 4) from nI_add p 4, mget_in (by omega), bd_e]
    by_cases h4 : mB d (p + 4) = 69
    case neg => rw [if_pos (show ¬ nI (mB d (p + 4)) = (69 : Int32) from fun q => h4 ((hm _ 69 (by decide)).mp q))]
    rw [h4, if_neg (show ¬ ¬ nI 69 = (69 : Int32) by decide), show nI p + 5 = nI (p + 5) from nI_add p 5, mget_in (by omega), bd_e]
    by_cases h5 : mB d (p + 5) = 76
    case neg => rw [if_pos (show ¬ nI (mB d (p + 5)) = (76 : Int32) from fun q => h5 ((hm _ 76 (by decide)).mp q))]
    rw [h5, if_neg (show ¬ ¬ nI 76 = (76 : Int32) by decide), show nI p + 11 = nI (p + 11) from nI_add p 11, mget_in (by omega), bd_e]
    by_cases h11 : mB d (p + 11) = 32
    case neg => rw [if_pos (show ¬ nI (mB d (p + 11)) = (32 : Int32) from fun q => h11 ((hm _ 32 (by decide)).mp q))]
    rw [h11, if_neg (show ¬ ¬ nI 32 = (32 : Int32) by decide)]
    by_cases h6 : ∃ j, 6 ≤ j ∧ j < 11 ∧ mB d (p + j) ≠ 32
    · rw [← nI_1]; exact g3 h6
    · refine absurd ⟨(kerRow (mB_lt d)).mpr ⟨h0, h1, h2, h3, h4, h5, fun j a c => ?_⟩, h11⟩ hk
      exact Classical.byContradiction (fun q => h6 ⟨j, a, c, q⟩)
theorem kerC {S D i N p : Nat} {k20 : Int32 → Option Int32} {w : Nat → Int64} (hS : 100 ≤ S ∧ S ≤ 600) (hN : 400000 ≤ N) (hi : i < 32) (hpe : p = D + 32 * i) (hp : p + 12 ≤ 512 * S) : (gB w p = 0 → f_Firmware_kernelEntry_L20 N (nI D) (nI (512 * S)) (64 * S) w k20 (nI i) = some (-1)) ∧ (gB w p ≠ 0 → kerOk (gB w) p → f_Firmware_kernelEntry_L20 N (nI D) (nI (512 * S)) (64 * S) w k20 (nI i) = some (nI p)) ∧ (gB w p ≠ 0 → ¬ kerOk (gB w) p → f_Firmware_kernelEntry_L20 N (nI D) (nI (512 * S)) (64 * S) w k20 (nI i) = k20 (nI (i + 1))) := by
  have hm : ∀ q c : Nat, c < 256 → (nI (gB w q) = nI c ↔ gB w q = c) := fun q c hc => nE (gB_lt w q) hc
  have hlt : ¬ (32 : Int32) ≤ nI i := nI_ge (a := i) (b := 32) (by omega) (by decide)
  have e2 : nI i * (32 : Int32) = nI (32 * i) := by rw [show nI i * (32 : Int32) = nI (i * 32) from pk_mul i 32, Nat.mul_comm]
  obtain ⟨z, hz, hh⟩ := text_eq (w := w) (f := sByt 10) (k := 11) (p := p) (len := 512 * S) (n := 64 * S) (N := N) (fun j hj => sByt_tx 10 (by decide) j hj) (by omega) (by omega) (by omega) (by omega)
  rw [f_Firmware_kernelEntry_L20, if_neg hlt]
  dsimp only [lt_]
  rw [e2, nI_add, ← hpe, get_in (by omega) (by omega) (by omega), bd_e, hz, bd_e, nI_1]
  refine ⟨fun h => ?_, fun h hk => ?_, fun h hk => ?_⟩
  · rw [h, if_neg (show ¬ ¬ nI 0 = 0 by decide)]
  · rw [if_pos (show ¬ nI (gB w p) = 0 from fun q => h ((hm p 0 (by decide)).mp q))]
    rcases hh with ⟨e, _⟩ | ⟨e, hr⟩
    · rw [e, if_neg (show ¬ (1 : Int32) = 0 by decide), show nI p + 11 = nI (p + 11) from nI_add p 11, get_in (by omega) (by omega) (by omega), bd_e, hk.2, if_neg (show ¬ ¬ nI 32 = (32 : Int32) by decide)]
    · exact absurd hk.1 hr
  · rw [if_pos (show ¬ nI (gB w p) = 0 from fun q => h ((hm p 0 (by decide)).mp q))]
    rcases hh with ⟨e, hr⟩ | ⟨e, hr⟩
    · rw [e, if_neg (show ¬ (1 : Int32) = 0 by decide), show nI p + 11 = nI (p + 11) from nI_add p 11, get_in (by omega) (by omega) (by omega), bd_e, if_pos (show ¬ nI (gB w (p + 11)) = (32 : Int32) from fun q => hk ⟨hr, (hm _ 32 (by decide)).mp q⟩)]
    · rw [e, if_pos rfl]
theorem ker_congr {S p : Nat} {b b' : Nat → Nat} (h : ∀ q, q < 512 * S → b q = b' q) (hp : p + 12 ≤ 512 * S) : kerOk b p ↔ kerOk b' p := by
  unfold kerOk
  rw [h (p + 11) (by omega)]
  constructor
  · rintro ⟨a, c⟩
    exact ⟨fun j hj => by rw [← h (p + j) (by omega)]; exact a j hj, c⟩
  · rintro ⟨a, c⟩
    exact ⟨fun j hj => by rw [h (p + j) (by omega)]; exact a j hj, c⟩
theorem ker_loop {S s N : Nat} {w : Nat → Int64} {d : Nat → Int32} (hS : 100 ≤ S ∧ S ≤ 600) (hN : 400000 ≤ N) (hD : Alike_ S w d) (hp : 512 * s + 1024 ≤ 512 * S) : ∀ (r i M : Nat), i + r = 32 → r < M → ∃ z : Int32, lp_ (fun _ => none) (f_Firmware_kernelEntry_L20 N (nI (512 * s)) (nI (512 * S)) (64 * S) w) M (nI i) = some z ∧ lp_ (fun _ => none) (f_Model_kernelEntry_L2 N (nI s) d) M (nI i) = some z ∧ (z = -1 ∨ ∃ j, j < 32 ∧ z = nI (512 * s + 32 * j)) := by
  intro r
  induction r with
  | zero =>
    intro i M' hi hM
    obtain ⟨M, rfl⟩ : ∃ M, M' = M + 1 := ⟨M' - 1, by omega⟩
    have e : i = 32 := by omega
    subst e
    rw [lp_s, lp_s, f_Model_kernelEntry_L2, f_Firmware_kernelEntry_L20, if_pos (show (32 : Int32) ≤ nI 32 by decide), if_pos (show (32 : Int32) ≤ nI 32 by decide)]
    exact ⟨-1, rfl, rfl, Or.inl rfl⟩
  | succ r ih =>
    intro i M' hi hM
    obtain ⟨M, rfl⟩ : ∃ M, M' = M + 1 := ⟨M' - 1, by omega⟩
    rw [lp_s, lp_s]
    obtain ⟨c1, c2, c3⟩ := kerC (D := 512 * s) (p := 512 * s + 32 * i) (k20 := lp_ (fun _ => none) (f_Firmware_kernelEntry_L20 N (nI (512 * s)) (nI (512 * S)) (64 * S) w) M) (w := w) hS hN (show i < 32 by omega) rfl (by omega)
    obtain ⟨m1, m2, m3⟩ := kerM (s := s) (p := 512 * s + 32 * i) (k2 := lp_ (fun _ => none) (f_Model_kernelEntry_L2 N (nI s) d) M) (d := d) hN (show i < 32 by omega) rfl (by omega)
    have hd := hD (512 * s + 32 * i) (by omega)
    by_cases h0 : gB w (512 * s + 32 * i) = 0
    · rw [c1 h0, m1 (hd ▸ h0)]
      exact ⟨-1, rfl, rfl, Or.inl rfl⟩
    · have h0' : mB d (512 * s + 32 * i) ≠ 0 := hd ▸ h0
      have hk := ker_congr (p := 512 * s + 32 * i) hD (by omega)
      by_cases h1 : kerOk (gB w) (512 * s + 32 * i)
      · rw [c2 h0 h1, m2 h0' (hk.mp h1)]
        exact ⟨_, rfl, rfl, Or.inr ⟨i, by omega, rfl⟩⟩
      · rw [c3 h0 h1, m3 h0' (fun q => h1 (hk.mpr q))]
        exact ih (i + 1) M (by omega) (by omega)
theorem kernel_eq {S s t N : Nat} {w : Nat → Int64} {d : Nat → Int32} (hS : 100 ≤ S ∧ S ≤ 600) (hN : 400000 ≤ N) (hD : Alike_ S w d) (hp : 512 * (s + 1 + 2 * t) + 1024 ≤ 512 * S) : ∃ z : Int32, f_Firmware_kernelEntry N (nI s) (nI t) (nI (512 * S)) (64 * S) w = some z ∧ f_Model_kernelEntry N (nI (s + 1 + 2 * t)) d = some z ∧ (z = -1 ∨ ∃ j, j < 32 ∧ z = nI (512 * (s + 1 + 2 * t) + 32 * j)) := by
  unfold f_Firmware_kernelEntry f_Model_kernelEntry
  dsimp only [lt_]
  rw [nI_1, show (2 : Int32) * nI t = nI (2 * t) from pk_mul 2 t, nI_add, show nI (s + 1 + 2 * t) * 512 = nI (512 * (s + 1 + 2 * t)) by rw [show nI (s + 1 + 2 * t) * 512 = nI ((s + 1 + 2 * t) * 512) from pk_mul _ 512, Nat.mul_comm]]
  exact ker_loop hS hN hD hp 32 0 N (by omega) (by omega)
