/-! pure: rows and texts written; a store cleared -/
def pR (w : Nat → Int64) (p : Nat) (f : Nat → Int32) : Nat → (Nat → Int64)
  | 0 => w
  | k + 1 => pB (pR w p f k) (p + k) (f k)
theorem gB_pR (w : Nat → Int64) (p : Nat) (f : Nat → Int32) (q : Nat) : ∀ k, gB (pR w p f k) q = if p ≤ q ∧ q < p + k then lo8 (f (q - p)) else gB w q
  | 0 => by rw [if_neg (by omega)]; rfl
  | k + 1 => by
    show gB (pB (pR w p f k) (p + k) (f k)) q = _
    rw [gB_pB, gB_pR w p f q k]
    by_cases h : q = p + k
    · rw [if_pos h, if_pos (by omega), h, show p + k - p = k by omega]
    · rw [if_neg h]
      by_cases h2 : p ≤ q ∧ q < p + k
      · rw [if_pos h2, if_pos (by omega)]
      · rw [if_neg h2, if_neg (by omega)]
theorem putRow_loop {len n p k : Nat} {w : Nat → Int64} {f : Nat → Int32} (hp : p + k ≤ len) (hl : len ≤ 8 * n) (hn : n < 2 ^ 27) : ∀ (r i N : Nat), i + r = k → r < N → lp_ (fun _ _ => none) (f_Store_putRow_L2 k (nI p) f (nI len) n) N (nI i) (pR w p f i) = some (pR w p f k) := by
  intro r
  induction r with
  | zero =>
    intro i N hi hN
    obtain ⟨M, rfl⟩ : ∃ M, N = M + 1 := ⟨N - 1, by omega⟩
    rw [lp_s, f_Store_putRow_L2, if_pos (show Int32.ofNat k ≤ nI i from nI_le (a := k) (b := i) (by omega) (by omega)), show i = k by omega]
  | succ r ih =>
    intro i N hi hN
    obtain ⟨M, rfl⟩ : ∃ M, N = M + 1 := ⟨N - 1, by omega⟩
    rw [lp_s, f_Store_putRow_L2, if_neg (show ¬ Int32.ofNat k ≤ nI i from nI_ge (a := i) (b := k) (by omega) (by omega))]
    dsimp only [lt_]
    rw [ix_in (by omega) (by omega), nI_add, put_in _ (by omega) hl hn, bd_e, nI_1]
    exact ih (i + 1) M (by omega) (by omega)
theorem putRow_eq {len n p k N : Nat} {w : Nat → Int64} {f : Nat → Int32} (hp : p + k ≤ len) (hl : len ≤ 8 * n) (hn : n < 2 ^ 27) (hN : k < N) : f_Store_putRow N k (nI p) f (nI len) n w = some (pR w p f k) := putRow_loop hp hl hn k 0 N (by omega) hN
theorem putText_loop {len n p k : Nat} {w : Nat → Int64} {f : Nat → Int32} (hf : isTx f k) (hp : p + k ≤ len) (hl : len ≤ 8 * n) (hn : n < 2 ^ 27) : ∀ (r i N : Nat), i + r = k → r < N → lp_ (fun _ _ => none) (f_Store_putText_L2 k (nI p) f (nI len) n) N (nI i) (pR w p f i) = some (pR w p f k) := by
  intro r
  induction r with
  | zero =>
    intro i N hi hN
    obtain ⟨M, rfl⟩ : ∃ M, N = M + 1 := ⟨N - 1, by omega⟩
    rw [lp_s, f_Store_putText_L2, strlen_eq (by omega), bd_e, if_pos (nI_le (by omega) (by omega)), show i = k by omega]
  | succ r ih =>
    intro i N hi hN
    obtain ⟨M, rfl⟩ : ∃ M, N = M + 1 := ⟨N - 1, by omega⟩
    rw [lp_s, f_Store_putText_L2, strlen_eq (by omega), bd_e, if_neg (nI_ge (by omega) (by omega))]
    dsimp only [lt_]
    rw [charAt_eq (by omega) hf (by omega), bd_e, nI_add, put_in _ (by omega) hl hn, bd_e, nI_1]
    exact ih (i + 1) M (by omega) (by omega)
theorem putText_eq {len n p k N : Nat} {w : Nat → Int64} {f : Nat → Int32} (hf : isTx f k) (hp : p + k ≤ len) (hl : len ≤ 8 * n) (hn : n < 2 ^ 27) (hN : k < N) : f_Store_putText N k (nI p) f (nI len) n w = some (pR w p f k) := putText_loop hf hp hl hn k 0 N (by omega) hN
theorem fillJ_loop {n : Nat} (hn : n < 2 ^ 31) {v : Int64} : ∀ (r i N : Nat) (f : Nat → Int64), i + r = n → r < N → (∀ j, j < i → f j = v) → ∃ g, lp_ (fun _ _ => none) (f_Arrays_fillJ_L6 n v) N (nI i) f = some g ∧ ∀ j, j < n → g j = v := by
  intro r
  induction r with
  | zero =>
    intro i N f hi hN hf
    obtain ⟨M, rfl⟩ : ∃ M, N = M + 1 := ⟨N - 1, by omega⟩
    rw [lp_s, f_Arrays_fillJ_L6, if_pos (show Int32.ofNat n ≤ nI i from nI_le (a := n) (b := i) (by omega) (by omega))]
    exact ⟨f, rfl, fun j hj => hf j (by omega)⟩
  | succ r ih =>
    intro i N f hi hN hf
    obtain ⟨M, rfl⟩ : ∃ M, N = M + 1 := ⟨N - 1, by omega⟩
    rw [lp_s, f_Arrays_fillJ_L6, if_neg (show ¬ Int32.ofNat n ≤ nI i from nI_ge (a := i) (b := n) (by omega) (by omega)), upl_in (by omega) hn]
    dsimp only [lt_]
    rw [nI_1]
    refine ih (i + 1) M _ (by omega) (by omega) (fun j hj => ?_)
    by_cases h : j = i
    · rw [h, pk_uLs]
    · rw [pk_uLn h]; exact hf j (by omega)
theorem clear_eq {n N : Nat} {w : Nat → Int64} (hn : n < 2 ^ 27) (hN : n < N) : ∃ g, f_Store_clear N n w = some g ∧ ∀ q, q < 8 * n → gB g q = 0 := by
  obtain ⟨g, h1, h2⟩ := fillJ_loop (n := n) (by omega) (v := 0) n 0 N w (by omega) hN (fun j hj => absurd hj (by omega))
  refine ⟨g, ?_, fun q hq => ?_⟩
  · unfold f_Store_clear
    rw [show f_Arrays_fillJ N n 0 w = some g from h1, bd_e]
  · unfold gB
    rw [h2 (q / 8) (by omega)]
    show bY 0 (q % 8) = 0
    unfold bY
    rw [Nat.zero_div]
theorem mark_eq {S s N : Nat} {w : Nat → Int64} (hS : 100 ≤ S ∧ S ≤ 600) (hs : s < S) (hN : 8 < N) : f_Store_markBootSector N (nI s) (nI (512 * S)) (64 * S) w = some (pLo w (512 * s + 510) 43605 2) := by
  unfold f_Store_markBootSector
  dsimp only [lt_]
  rw [show nI s * 512 = nI (512 * s) from by rw [show (512 : Int32) = nI 512 from rfl, pk_mul, Nat.mul_comm], show nI (512 * s) + 510 = nI (512 * s + 510) from nI_add _ 510, show (2 : Int32) = nI 2 from rfl, putLow_eq (by omega) (by omega) (by omega) (by omega), bd_e]
theorem isBoot_eq {S s N : Nat} {w : Nat → Int64} (hS : 100 ≤ S ∧ S ≤ 600) (hs : s < S) (hN : 8 < N) : ∃ z : Int32, f_Store_isBootSector N (nI s) (nI (512 * S)) (64 * S) w = some z ∧ (z = 1 ∧ (nI (gB w (512 * s + 510)) = 85 ∧ nI (gB w (512 * s + 511)) = 170) ∨ z = 0 ∧ ¬ (nI (gB w (512 * s + 510)) = 85 ∧ nI (gB w (512 * s + 511)) = 170)) := by
  unfold f_Store_isBootSector
  dsimp only [lt_]
  rw [show nI s * 512 = nI (512 * s) from by rw [show (512 : Int32) = nI 512 from rfl, pk_mul, Nat.mul_comm], show nI (512 * s) + 510 = nI (512 * s + 510) from nI_add _ 510, cl 2 (k := 2) rfl (by omega) (by omega) (by omega) (by decide) hN, bd_e, show (43605 : Int64) = lN 43605 from rfl]
  have a1 := gB_lt w (512 * s + 510)
  have a2 := gB_lt w (512 * s + 511)
  have e : loN (gB w) (512 * s + 510) 2 = gB w (512 * s + 510) + 256 * (gB w (512 * s + 511) + 256 * 0) := rfl
  have h85 : nI (gB w (512 * s + 510)) = 85 ↔ gB w (512 * s + 510) = 85 := nI_eq (b := 85) (by omega) (by decide)
  have h170 : nI (gB w (512 * s + 511)) = 170 ↔ gB w (512 * s + 511) = 170 := nI_eq (b := 170) (by omega) (by decide)
  by_cases h : lg_cmp (lN (loN (gB w) (512 * s + 510) 2)) (lN 43605) = 0
  · rw [if_neg (not_not_intro h)]
    have := (lgN (by omega) (by omega)).mp h
    exact ⟨1, rfl, Or.inl ⟨rfl, h85.mpr (by omega), h170.mpr (by omega)⟩⟩
  · rw [if_pos h]
    refine ⟨0, rfl, Or.inr ⟨rfl, fun q => h ((lgN (by omega) (by omega)).mpr ?_)⟩⟩
    have q1 := h85.mp q.1
    have q2 := h170.mp q.2
    omega
