/-! pure: sums over bytes; the table's making -/
/-- the sum's register behind k bytes of b from p on -/
def cR (b : Nat → Nat) (p : Nat) : Nat → Int32
  | 0 => -1
  | k + 1 => cN 8 (cR b p k ^^^ nI (b (p + k)))
theorem cR_congr {b b' : Nat → Nat} {p p' : Nat} : ∀ k, (∀ j, j < k → b (p + j) = b' (p' + j)) → cR b p k = cR b' p' k
  | 0, _ => rfl
  | k + 1, h => by
    show cN 8 (cR b p k ^^^ nI (b (p + k))) = cN 8 (cR b' p' k ^^^ nI (b' (p' + k)))
    rw [cR_congr k (fun j hj => h j (by omega)), h k (by omega)]
theorem over_loop {len wn n p : Nat} {w : Nat → Int64} {T : Nat → Int32} (hT : isT T) (hp : p + n ≤ len) (hl : len ≤ 8 * wn) (hn : wn < 2 ^ 27) : ∀ (r i N : Nat), i + r = n → r < N → lp_ (fun _ _ => none) (f_Sums_over_L7 (nI n) (nI p) (nI len) wn w T) N (nI i) (cR (gB w) p i) = some (cR (gB w) p n ^^^ (-1), cR (gB w) p n) := by
  intro r
  induction r with
  | zero =>
    intro i N hi hN
    obtain ⟨M, rfl⟩ : ∃ M, N = M + 1 := ⟨N - 1, by omega⟩
    rw [lp_s, f_Sums_over_L7, if_pos (nI_le (by omega) (by omega)), show i = n by omega]
    rfl
  | succ r ih =>
    intro i N hi hN
    obtain ⟨M, rfl⟩ : ∃ M, N = M + 1 := ⟨N - 1, by omega⟩
    rw [lp_s, f_Sums_over_L7, if_neg (nI_ge (by omega) (by omega))]
    dsimp only [lt_]
    rw [nI_add, get_in (by omega) hl hn, bd_e, add_eq hT _ (gB_lt w _), bd_e, nI_1]
    exact ih (i + 1) M (by omega) (by omega)
theorem over_eq {len wn n p N : Nat} {w : Nat → Int64} {T : Nat → Int32} (hT : isT T) (hp : p + n ≤ len) (hl : len ≤ 8 * wn) (hn : wn < 2 ^ 27) (hN : n < N) : f_Sums_over N (nI n) (nI p) (nI len) wn w T = some (cR (gB w) p n ^^^ (-1), cR (gB w) p n) :=
  over_loop hT hp hl hn n 0 N (by omega) hN
theorem sumOf_loop {n p N0 : Nat} {d : Nat → Int32} (h8 : 8 < N0) (hp : p + n ≤ 307200) : ∀ (r i N : Nat), i + r = n → r < N → lp_ (fun _ _ => none) (f_Model_sumOf_L5 N0 (nI n) (nI p) d) N (nI i) (cR (mB d) p i) = some (cR (mB d) p n ^^^ (-1)) := by
  intro r
  induction r with
  | zero =>
    intro i N hi hN
    obtain ⟨M, rfl⟩ : ∃ M, N = M + 1 := ⟨N - 1, by omega⟩
    rw [lp_s, f_Model_sumOf_L5, if_pos (nI_le (by omega) (by omega)), show i = n by omega]
    rfl
  | succ r ih =>
    intro i N hi hN
    obtain ⟨M, rfl⟩ : ∃ M, N = M + 1 := ⟨N - 1, by omega⟩
    rw [lp_s, f_Model_sumOf_L5, if_neg (nI_ge (by omega) (by omega))]
    dsimp only [lt_]
    rw [nI_add, mget_in (by omega), bd_e, goesOn_eq _ _ h8, bd_e, nI_1]
    exact ih (i + 1) M (by omega) (by omega)
theorem sumOf_eq {n p N : Nat} {d : Nat → Int32} (hp : p + n ≤ 307200) (hN : n < N) (h8 : 8 < N) : f_Model_sumOf N (nI n) (nI p) d = some (cR (mB d) p n ^^^ (-1)) :=
  sumOf_loop h8 hp n 0 N (by omega) hN
/-- a header's bytes, its own sum's taken as 0 -/
def hB (b : Nat → Nat) (h : Nat) : Nat → Nat := fun j => if 16 ≤ j ∧ j < 20 then 0 else b (h + j)
theorem hB_lt {b : Nat → Nat} (hb : ∀ p, b p < 256) (h j : Nat) : hB b h j < 256 := by
  unfold hB
  by_cases q : 16 ≤ j ∧ j < 20
  · rw [if_pos q]; decide
  · rw [if_neg q]; exact hb _
theorem overHeader_loop {len wn p : Nat} {w : Nat → Int64} {T : Nat → Int32} (hT : isT T) (hp : p + 92 ≤ len) (hl : len ≤ 8 * wn) (hn : wn < 2 ^ 27) : ∀ (r i N : Nat), i + r = 92 → r < N → lp_ (fun _ _ => none) (f_Sums_overHeader_L6 T (nI p) (nI len) wn w) N (nI i) (cR (hB (gB w) p) 0 i) = some (cR (hB (gB w) p) 0 92 ^^^ (-1), cR (hB (gB w) p) 0 92) := by
  intro r
  induction r with
  | zero =>
    intro i N hi hN
    obtain ⟨M, rfl⟩ : ∃ M, N = M + 1 := ⟨N - 1, by omega⟩
    rw [lp_s, f_Sums_overHeader_L6, if_pos (show (92 : Int32) ≤ nI i from nI_le (a := 92) (b := i) (by omega) (by omega)), show i = 92 by omega]
    rfl
  | succ r ih =>
    intro i N hi hN
    obtain ⟨M, rfl⟩ : ∃ M, N = M + 1 := ⟨N - 1, by omega⟩
    rw [lp_s, f_Sums_overHeader_L6, if_neg (show ¬ (92 : Int32) ≤ nI i from nI_ge (a := i) (b := 92) (by omega) (by omega))]
    dsimp only [lt_]
    have key : ∀ y : Nat, y < 256 → hB (gB w) p i = y → bd_ (f_Sums_add (cR (hB (gB w) p) 0 i) (nI y) T) (fun u107 => lp_ (fun _ _ => none) (f_Sums_overHeader_L6 T (nI p) (nI len) wn w) M (nI i + 1) u107) = some (cR (hB (gB w) p) 0 92 ^^^ (-1), cR (hB (gB w) p) 0 92) := by
      intro y hy e
      rw [add_eq hT _ hy, bd_e, nI_1, ← ih (i + 1) M (by omega) (by omega)]
      show _ = lp_ (fun _ _ => none) (f_Sums_overHeader_L6 T (nI p) (nI len) wn w) M (nI (i + 1)) (cN 8 (cR (hB (gB w) p) 0 i ^^^ nI (hB (gB w) p (0 + i))))
      rw [Nat.zero_add, e]
    by_cases h1 : i < 16
    · rw [if_pos (show nI i < (16 : Int32) from nI_lt (a := i) (b := 16) h1 (by omega)), if_pos rfl, nI_add, get_in (by omega) hl hn, bd_e]
      exact key _ (gB_lt w _) (by unfold hB; rw [if_neg (by omega)])
    · rw [if_neg (show ¬ nI i < (16 : Int32) from nI_nlt (a := i) (b := 16) (by omega) (by omega))]
      by_cases h2 : 20 ≤ i
      · rw [if_pos (show (20 : Int32) ≤ nI i from nI_le (a := 20) (b := i) h2 (by omega)), if_pos rfl, nI_add, get_in (by omega) hl hn, bd_e]
        exact key _ (gB_lt w _) (by unfold hB; rw [if_neg (by omega)])
      · rw [if_neg (show ¬ (20 : Int32) ≤ nI i from nI_ge (a := i) (b := 20) (by omega) (by omega)), if_neg (by decide)]
        exact key 0 (by decide) (by unfold hB; rw [if_pos (by omega)])
theorem overHeader_eq {len wn p N : Nat} {w : Nat → Int64} {T : Nat → Int32} (hT : isT T) (hp : p + 92 ≤ len) (hl : len ≤ 8 * wn) (hn : wn < 2 ^ 27) (hN : 92 < N) : f_Sums_overHeader N T (nI p) (nI len) wn w = some (cR (hB (gB w) p) 0 92 ^^^ (-1), cR (hB (gB w) p) 0 92) :=
  overHeader_loop hT hp hl hn 92 0 N (by omega) hN
theorem sinit_in {f : Nat → Int32} {x : Int32} {k15 : Int32 → (Nat → Int32) → Option (Int32 × (Nat → Int32))} : ∀ (r i N : Nat) (v : Int32), i + r = 8 → r < N → lp_ (fun _ _ => none) (f_Sums_init_L26 f x k15) N (nI i) v = up_i 256 f x (cN r v) (fun f' => k15 (x + 1) f') := by
  intro r
  induction r with
  | zero =>
    intro i N v hi hN
    obtain ⟨M, rfl⟩ : ∃ M, N = M + 1 := ⟨N - 1, by omega⟩
    rw [lp_s, f_Sums_init_L26, if_pos (show (8 : Int32) ≤ nI i from nI_le (a := 8) (b := i) (by omega) (by omega))]
    rfl
  | succ r ih =>
    intro i N v hi hN
    obtain ⟨M, rfl⟩ : ∃ M, N = M + 1 := ⟨N - 1, by omega⟩
    rw [lp_s, f_Sums_init_L26, if_neg (show ¬ (8 : Int32) ≤ nI i from nI_ge (a := i) (b := 8) (by omega) (by omega))]
    dsimp only [lt_]
    rw [nI_1]
    show _ = up_i 256 f x (cN r (cS v)) _
    unfold cS
    by_cases h : v &&& 1 = 1
    · rw [if_neg (not_not_intro h), if_neg (not_not_intro h)]
      exact ih (i + 1) M _ (by omega) (by omega)
    · rw [if_pos h, if_pos h]
      exact ih (i + 1) M _ (by omega) (by omega)
theorem sinit_loop {N0 : Nat} (h8 : 8 < N0) : ∀ (r i N : Nat) (f : Nat → Int32), i + r = 256 → r < N → (∀ j, j < i → f j = cN 8 (nI j)) → ∃ T, lp_ (fun _ _ => none) (f_Sums_init_L15 N0) N (nI i) f = some (0, T) ∧ isT T := by
  intro r
  induction r with
  | zero =>
    intro i N f hi hN hf
    obtain ⟨M, rfl⟩ : ∃ M, N = M + 1 := ⟨N - 1, by omega⟩
    refine ⟨f, ?_, fun j hj => hf j (by omega)⟩
    rw [lp_s, f_Sums_init_L15, if_pos (show (256 : Int32) ≤ nI i from nI_le (a := 256) (b := i) (by omega) (by omega))]
  | succ r ih =>
    intro i N f hi hN hf
    obtain ⟨M, rfl⟩ : ∃ M, N = M + 1 := ⟨N - 1, by omega⟩
    rw [lp_s, f_Sums_init_L15, if_neg (show ¬ (256 : Int32) ≤ nI i from nI_ge (a := i) (b := 256) (by omega) (by omega))]
    rw [show (0 : Int32) = nI 0 from rfl, sinit_in 8 0 N0 (nI i) (by omega) h8, upi_in (by omega) (by decide), nI_1]
    refine ih (i + 1) M _ (by omega) (by omega) (fun j hj => ?_)
    by_cases h : j = i
    · rw [h, pk_us]
    · rw [pk_un h]; exact hf j (by omega)
theorem sinit_eq {N : Nat} (hN : 256 < N) : ∃ T, f_Sums_init N = some (0, T) ∧ isT T := sinit_loop (by omega) 256 0 N _ (by omega) hN (fun j hj => absurd hj (by omega))
