/-! pure: the kernel's head, the kernel copied -/
theorem krnRow {b : Nat → Nat} {p : Nat} (hb : ∀ q, b q < 256) : rowIs b p (sByt 11) 4 ↔ b p = 75 ∧ b (p + 1) = 82 ∧ b (p + 2) = 78 ∧ b (p + 3) = 76 := by
  constructor
  · intro h
    exact ⟨(nE (hb _) (by decide)).mp (h 0 (by decide)), (nE (hb _) (by decide)).mp (h 1 (by decide)), (nE (hb _) (by decide)).mp (h 2 (by decide)), (nE (hb _) (by decide)).mp (h 3 (by decide))⟩
  · rintro ⟨h0, h1, h2, h3⟩ j hj
    have : j = 0 ∨ j = 1 ∨ j = 2 ∨ j = 3 := by omega
    rcases this with e | e | e | e <;> subst e
    · exact congrArg nI h0
    · exact congrArg nI h1
    · exact congrArg nI h2
    · exact congrArg nI h3
def kH (s t c0 : Nat) : Nat := 512 * (s + 1 + 2 * t + c0)
def krOk (b : Nat → Nat) (s t c0 z : Nat) : Prop := 8 ≤ z ∧ rowIs b (kH s t c0) (sByt 11) 4 ∧ loN b (kH s t c0 + 4) 4 + z ≤ 65536
theorem copy_class {S s t c c0 z N : Nat} {w m : Nat → Int64} {x : Nat → Int32} {kA kS : Int32} (hS : 100 ≤ S ∧ S ≤ 600) (hN : 400000 ≤ N) (hv : s + c + 3 + 2 * t ≤ S) (hn : (z + 511) / 512 ≤ c) (ho : ∀ i, i < (z + 511) / 512 → 2 ≤ cA (gB w) s c0 i ∧ cA (gB w) s c0 i ≤ c + 1) (hx : ∀ j, j < (z + 511) / 512 → x j = nI (cA (gB w) s c0 j)) : (¬ krOk (gB w) s t c0 z → f_Firmware_copyKernel N (nI z) S x (nI s) (nI t) (nI (512 * S)) (64 * S) w kA kS m (nI 65536) 8192 = some (0, kA, kS, m)) ∧ (krOk (gB w) s t c0 z → ∃ m' : Nat → Int64, f_Firmware_copyKernel N (nI z) S x (nI s) (nI t) (nI (512 * S)) (64 * S) w kA kS m (nI 65536) 8192 = some (1, nI (loN (gB w) (kH s t c0 + 4) 4), nI z, m') ∧ ∀ q, q < 65536 → gB m' q = if loN (gB w) (kH s t c0 + 4) 4 ≤ q ∧ q < loN (gB w) (kH s t c0 + 4) 4 + z then gB w (kP (gB w) s t c0 (q - loN (gB w) (kH s t c0 + 4) 4)) else gB m q) := by
  unfold f_Firmware_copyKernel
  dsimp only [lt_]
  by_cases h8 : 8 ≤ z
  case neg =>
    rw [if_neg (show ¬ (8 : Int32) ≤ nI z from nI_ge (b := 8) (by omega) (by decide))]
    exact ⟨fun _ => rfl, fun q => absurd q.1 h8⟩
  have hA : loN (gB w) (kH s t c0 + 4) 4 < 2 ^ 32 := loN4 (gB_lt w) _
  obtain ⟨h2, h3⟩ : 2 ≤ c0 ∧ c0 ≤ c + 1 := ho 0 (by omega)
  have hH : kH s t c0 + 512 ≤ 512 * S := by unfold kH; omega
  obtain ⟨u, hu, hh⟩ := text_eq (w := w) (f := sByt 11) (k := 4) (p := kH s t c0) (len := 512 * S) (n := 64 * S) (N := N) (fun j hj => sByt_tx 11 (by decide) j hj) (by omega) (by omega) (by omega) (by omega)
  rw [if_pos (show (8 : Int32) ≤ nI z from nI_le (a := 8) h8 (by omega)), show (0 : Int32) = nI 0 from rfl, ix_in (show 0 < S by omega) (by omega), hx 0 (by omega), show cA (gB w) s c0 0 = c0 from rfl, clAt2 h2, bd_e, show 512 * (s + 1 + 2 * t + c0) = kH s t c0 from rfl, show nI (kH s t c0) + 4 = nI (kH s t c0 + 4) from nI_add _ 4, cl 4 (k := 4) rfl (by omega) (by omega) (by omega) (by decide) (by omega), bd_e, hu, bd_e, nI_l (by omega), lN_add]
  rcases hh with ⟨e, hr⟩ | ⟨e, hr⟩
  · rw [e, if_neg (show ¬ (1 : Int32) = nI 0 by decide)]
    by_cases h6 : loN (gB w) (kH s t c0 + 4) 4 + z ≤ 65536
    · rw [if_pos (show lg_cmp (lN (loN (gB w) (kH s t c0 + 4) 4 + z)) 65536 ≤ nI 0 from (lgle (y := 65536) (by omega) (by decide)).mpr h6)]
      refine ⟨fun q => absurd ⟨h8, hr, h6⟩ q, fun _ => ?_⟩
      obtain ⟨m', e, hm⟩ := copy_loop (N := N) (w := w) (x := x) hS hv hn ho hx h6 z 0 N m (by omega) (by omega)
      exact ⟨m', e, hm⟩
    · rw [if_neg (show ¬ lg_cmp (lN (loN (gB w) (kH s t c0 + 4) 4 + z)) 65536 ≤ nI 0 from fun q => h6 ((lgle (y := 65536) (by omega) (by decide)).mp q))]
      exact ⟨fun _ => rfl, fun q => absurd q.2.2 h6⟩
  · rw [e, if_pos (show (0 : Int32) = nI 0 from rfl)]
    exact ⟨fun _ => rfl, fun q => absurd q.2.1 hr⟩
set_option maxHeartbeats 1000000 in
theorem copy_model {S s t c c0 z N : Nat} {d mem : Nat → Int32} {kA kS : Int32} (hS : 100 ≤ S ∧ S ≤ 600) (hN : 400000 ≤ N) (hv : s + c + 3 + 2 * t ≤ S) (ht : ((c + 2) * 3 + 1) / 2 ≤ 512 * t) (hn : (z + 511) / 512 ≤ c) (ho : ∀ i, i < (z + 511) / 512 → 2 ≤ cA (mB d) s c0 i ∧ cA (mB d) s c0 i ≤ c + 1) : (¬ krOk (mB d) s t c0 z → mTail N (lN z) (nI s) (nI t) (nI c0) d kA kS mem = some (8, kA, kS, mem)) ∧ (krOk (mB d) s t c0 z → ∃ m' : Nat → Int32, mTail N (lN z) (nI s) (nI t) (nI c0) d kA kS mem = some (0, nI (loN (mB d) (kH s t c0 + 4) 4), nI z, m') ∧ ∀ q, q < 65536 → mB m' q = if loN (mB d) (kH s t c0 + 4) 4 ≤ q ∧ q < loN (mB d) (kH s t c0 + 4) 4 + z then mB d (kP (mB d) s t c0 (q - loN (mB d) (kH s t c0 + 4) 4)) else mB mem q) := by
  have hm : ∀ q c : Nat, c < 256 → (nI (mB d q) = nI c ↔ mB d q = c) := fun q c hc => nE (mB_lt d q) hc
  unfold mTail
  dsimp only [lt_]
  by_cases h8 : 8 ≤ z
  case neg =>
    rw [if_neg (show ¬ 0 ≤ lg_cmp (lN z) 8 from fun q => h8 ((lge (y := 8) (by omega) (by decide)).mp q))]
    exact ⟨fun _ => rfl, fun q => absurd q.1 h8⟩
  have hA : loN (mB d) (kH s t c0 + 4) 4 < 2 ^ 32 := loN4 (mB_lt d) _
  obtain ⟨h2, h3⟩ : 2 ≤ c0 ∧ c0 ≤ c + 1 := ho 0 (by omega)
  have hH : kH s t c0 + 512 ≤ 512 * S := by unfold kH; omega
  rw [if_pos (show 0 ≤ lg_cmp (lN z) 8 from (lge (y := 8) (by omega) (by decide)).mpr h8)]
  rw [show nI s + 3 = nI (s + 3) from nI_add s 3, show (2 : Int32) * nI t = nI (2 * t) from pk_mul 2 t, nI_add (s + 3) (2 * t), nI_add (s + 3 + 2 * t) c0, show nI (s + 3 + 2 * t + c0) - 2 = nI (s + 3 + 2 * t + c0 - 2) from pk_sub (b := 2) (by omega), show s + 3 + 2 * t + c0 - 2 = s + 1 + 2 * t + c0 by omega, show (512 : Int32) * nI (s + 1 + 2 * t + c0) = nI (kH s t c0) from pk_mul 512 _]
  rw [show nI (kH s t c0) + 4 = nI (kH s t c0 + 4) from nI_add _ 4, show nI (kH s t c0) + 1 = nI (kH s t c0 + 1) from nI_add _ 1, show nI (kH s t c0) + 2 = nI (kH s t c0 + 2) from nI_add _ 2, show nI (kH s t c0) + 3 = nI (kH s t c0 + 3) from nI_add _ 3, ml 4 (k := 4) rfl (by omega) (by decide) (by omega), bd_e, mget_in (p := kH s t c0) (by omega), bd_e, mget_in (p := kH s t c0 + 1) (by omega), bd_e, mget_in (p := kH s t c0 + 2) (by omega), bd_e, mget_in (p := kH s t c0 + 3) (by omega), bd_e, if_pos (show (0 : Int32) = 0 from rfl), if_neg (show ¬ (1 : Int32) = 0 by decide), lN_add]
  by_cases r0 : mB d (kH s t c0) = 75
  case neg => rw [if_pos (show ¬ nI (mB d (kH s t c0)) = (75 : Int32) from fun q => r0 ((hm _ 75 (by decide)).mp q))]; exact ⟨fun _ => rfl, fun q => absurd ((krnRow (mB_lt d)).mp q.2.1).1 r0⟩
  rw [if_neg (show ¬ ¬ nI (mB d (kH s t c0)) = (75 : Int32) from fun q => q (congrArg nI r0))]
  by_cases r1 : mB d (kH s t c0 + 1) = 82
  case neg => rw [if_pos (show ¬ nI (mB d (kH s t c0 + 1)) = (82 : Int32) from fun q => r1 ((hm _ 82 (by decide)).mp q))]; exact ⟨fun _ => rfl, fun q => absurd ((krnRow (mB_lt d)).mp q.2.1).2.1 r1⟩
  rw [if_neg (show ¬ ¬ nI (mB d (kH s t c0 + 1)) = (82 : Int32) from fun q => q (congrArg nI r1))]
  by_cases r2 : mB d (kH s t c0 + 2) = 78
  case neg => rw [if_pos (show ¬ nI (mB d (kH s t c0 + 2)) = (78 : Int32) from fun q => r2 ((hm _ 78 (by decide)).mp q))]; exact ⟨fun _ => rfl, fun q => absurd ((krnRow (mB_lt d)).mp q.2.1).2.2.1 r2⟩
  rw [if_neg (show ¬ ¬ nI (mB d (kH s t c0 + 2)) = (78 : Int32) from fun q => q (congrArg nI r2))]
  by_cases r3 : mB d (kH s t c0 + 3) = 76
  case neg => rw [if_pos (show ¬ nI (mB d (kH s t c0 + 3)) = (76 : Int32) from fun q => r3 ((hm _ 76 (by decide)).mp q))]; exact ⟨fun _ => rfl, fun q => absurd ((krnRow (mB_lt d)).mp q.2.1).2.2.2 r3⟩
  rw [if_neg (show ¬ ¬ nI (mB d (kH s t c0 + 3)) = (76 : Int32) from fun q => q (congrArg nI r3))]
  by_cases h6 : loN (mB d) (kH s t c0 + 4) 4 + z ≤ 65536
  · rw [if_pos (show lg_cmp (lN (loN (mB d) (kH s t c0 + 4) 4 + z)) 65536 ≤ 0 from (lgle (y := 65536) (by omega) (by decide)).mpr h6)]
    refine ⟨fun q => absurd ⟨h8, (krnRow (mB_lt d)).mpr ⟨r0, r1, r2, r3⟩, h6⟩ q, fun _ => ?_⟩
    obtain ⟨m', e, hm'⟩ := mcopy_loop (d := d) (c0 := c0) hS hv ht hn ho h6 z 0 N mem (by omega) (by omega)
    exact ⟨m', e, hm'⟩
  · rw [if_neg (show ¬ lg_cmp (lN (loN (mB d) (kH s t c0 + 4) 4 + z)) 65536 ≤ 0 from fun q => h6 ((lgle (y := 65536) (by omega) (by decide)).mp q))]
    exact ⟨fun _ => rfl, fun q => absurd q.2.2 h6⟩
