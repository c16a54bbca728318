theorem bp_b (x : Int32) : x.toInt8.toInt32 &&& 255 = x &&& 255 := by
  apply Int32.toBitVec_inj.mp
  rw [Int32.toBitVec_and, Int32.toBitVec_and, Int8.toBitVec_toInt32, Int32.toBitVec_toInt8]
  apply BitVec.eq_of_getLsbD_eq
  intro i hi
  rw [BitVec.getLsbD_and, BitVec.getLsbD_and]
  have hm : ∀ i < 32, 8 ≤ i → (255 : Int32).toBitVec.getLsbD i = false := by decide
  rcases Nat.lt_or_ge i 8 with z | z
  · rw [BitVec.getLsbD_signExtend, BitVec.getLsbD_signExtend, if_pos z, if_pos hi]
    simp only [z, hi, decide_true, Bool.true_and]
  · rw [hm i hi z]; simp
/-! ===== the char cast and 65535 ===== -/
/-! pure: putLow; the reference's get, low, lowAt -/
def bv (v : Int64) (k : Nat) : Int32 := (v.toUInt64 >>> ((nI (8 * k)).toInt64.toUInt64 &&& Int64.toUInt64 63)).toInt64.toInt32
theorem lo8_nI (y : Nat) : lo8 (nI y) = y % 256 := by
  unfold lo8
  show (BitVec.ofNat 32 y).toNat % 256 = _
  rw [BitVec.toNat_ofNat]
  omega
theorem bv_lo {v : Int64} {k : Nat} (hk : k < 8) : lo8 (bv v k) = bY v.toBitVec.toNat k := by
  obtain ⟨x, hx, e⟩ := wb_of v
  unfold bv bY
  rw [e, wb_shr hx (by omega), lN_i, lo8_nI, wb_tn hx]
def pLo (w : Nat → Int64) (p : Nat) (v : Int64) : Nat → (Nat → Int64)
  | 0 => w
  | k + 1 => pB (pLo w p v k) (p + k) (bv v k)
theorem gB_pLo (w : Nat → Int64) (p : Nat) (v : Int64) (q : Nat) : ∀ k, k ≤ 8 → gB (pLo w p v k) q = if p ≤ q ∧ q < p + k then bY v.toBitVec.toNat (q - p) else gB w q
  | 0, _ => by rw [if_neg (by omega)]; rfl
  | k + 1, hk => by
    show gB (pB (pLo w p v k) (p + k) (bv v k)) q = _
    rw [gB_pB, gB_pLo w p v q k (by omega)]
    by_cases h : q = p + k
    · rw [if_pos h, if_pos (by omega), bv_lo (by omega), h]
      congr 1
      omega
    · rw [if_neg h]
      by_cases h2 : p ≤ q ∧ q < p + k
      · rw [if_pos h2, if_pos (by omega)]
      · rw [if_neg h2, if_neg (by omega)]
theorem putLow_loop {len n p k : Nat} {w : Nat → Int64} {v : Int64} (hp : p + k ≤ len) (hl : len ≤ 8 * n) (hn : n < 2 ^ 27) : ∀ (r i N : Nat), i + r = k → r < N → lp_ (fun _ _ => none) (f_Store_putLow_L3 (nI k) (nI p) v (nI len) n) N (nI i) (pLo w p v i) = some (pLo w p v k) := by
  intro r
  induction r with
  | zero =>
    intro i N hi hN
    obtain ⟨M, rfl⟩ : ∃ M, N = M + 1 := ⟨N - 1, by omega⟩
    rw [lp_s]
    unfold f_Store_putLow_L3
    rw [if_pos (nI_le (by omega) (by omega)), show i = k by omega]
  | succ r ih =>
    intro i N hi hN
    obtain ⟨M, rfl⟩ : ∃ M, N = M + 1 := ⟨N - 1, by omega⟩
    rw [lp_s]
    unfold f_Store_putLow_L3
    rw [if_neg (nI_ge (by omega) (by omega))]
    dsimp only [lt_]
    rw [nI_add, put_in _ (by omega) hl hn, bd_e, nI_1, show (8 : Int32) = nI 8 from rfl, pk_mul]
    exact ih (i + 1) M (by omega) (by omega)
theorem putLow_eq {len n p k N : Nat} {w : Nat → Int64} {v : Int64} (hp : p + k ≤ len) (hl : len ≤ 8 * n) (hn : n < 2 ^ 27) (hN : k < N) : f_Store_putLow N (nI k) (nI p) v (nI len) n w = some (pLo w p v k) :=
  putLow_loop hp hl hn k 0 N (by omega) hN
/-- the reference's byte at p -/
def mB (d : Nat → Int32) (p : Nat) : Nat := lo8 (d p)
theorem mB_lt (d : Nat → Int32) (p : Nat) : mB d p < 256 := lo8_lt _
theorem and_lo8 (x : Int32) : x &&& 255 = nI (lo8 x) := pk_and x 8 (by decide)
theorem lo8_of {x y : Int32} (h : x &&& 255 = y &&& 255) : lo8 x = lo8 y := by
  rw [and_lo8, and_lo8] at h
  have h1 := lo8_lt x
  have h2 := lo8_lt y
  exact (nI_eq (by omega) (by omega)).mp h
theorem mget_in {d : Nat → Int32} {p : Nat} (hp : p < 307200) : f_Model_get d (nI p) = some (nI (mB d p)) := by
  unfold f_Model_get
  rw [ix_in hp (by decide)]
  dsimp only [lt_]
  rw [and_lo8]
  rfl
theorem lo8_byte (x : Int32) : lo8 (vp_nar .byte x.toInt8.toInt32) = lo8 x := by
  apply lo8_of
  rw [pk_vb]
  exact bp_b x
def mLo (d : Nat → Int32) (p : Nat) (v : Int64) : Nat → (Nat → Int32)
  | 0 => d
  | k + 1 => upd (mLo d p v k) (p + k) (vp_nar .byte (bv v k).toInt8.toInt32)
theorem mB_upd (d : Nat → Int32) (p q : Nat) (x : Int32) : mB (upd d p (vp_nar .byte x.toInt8.toInt32)) q = if q = p then lo8 x else mB d q := by
  unfold mB
  by_cases h : q = p
  · rw [if_pos h, h, pk_us, lo8_byte]
  · rw [if_neg h, pk_un h]
theorem mB_mLo (d : Nat → Int32) (p : Nat) (v : Int64) (q : Nat) : ∀ k, k ≤ 8 → mB (mLo d p v k) q = if p ≤ q ∧ q < p + k then bY v.toBitVec.toNat (q - p) else mB d q
  | 0, _ => by rw [if_neg (by omega)]; rfl
  | k + 1, hk => by
    show mB (upd (mLo d p v k) (p + k) _) q = _
    rw [mB_upd, mB_mLo d p v q k (by omega)]
    by_cases h : q = p + k
    · rw [if_pos h, if_pos (by omega), bv_lo (by omega), h]
      congr 1
      omega
    · rw [if_neg h]
      by_cases h2 : p ≤ q ∧ q < p + k
      · rw [if_pos h2, if_pos (by omega)]
      · rw [if_neg h2, if_neg (by omega)]
theorem low_loop {p k : Nat} {d : Nat → Int32} {v : Int64} (hp : p + k ≤ 307200) : ∀ (r i N : Nat), i + r = k → r < N → lp_ (fun _ _ => none) (f_Model_low_L3 (nI k) (nI p) v) N (nI i) (mLo d p v i) = some (mLo d p v k) := by
  intro r
  induction r with
  | zero =>
    intro i N hi hN
    obtain ⟨M, rfl⟩ : ∃ M, N = M + 1 := ⟨N - 1, by omega⟩
    rw [lp_s]
    unfold f_Model_low_L3
    rw [if_pos (nI_le (by omega) (by omega)), show i = k by omega]
  | succ r ih =>
    intro i N hi hN
    obtain ⟨M, rfl⟩ : ∃ M, N = M + 1 := ⟨N - 1, by omega⟩
    rw [lp_s]
    unfold f_Model_low_L3
    rw [if_neg (nI_ge (by omega) (by omega))]
    dsimp only [lt_]
    rw [nI_add, upb_in (by omega) (by decide), nI_1, show (8 : Int32) = nI 8 from rfl, pk_mul]
    exact ih (i + 1) M (by omega) (by omega)
theorem low_eq {p k N : Nat} {d : Nat → Int32} {v : Int64} (hp : p + k ≤ 307200) (hN : k < N) : f_Model_low N (nI k) (nI p) v d = some (mLo d p v k) := low_loop hp k 0 N (by omega) hN
theorem lowAt_loop {p k : Nat} {d : Nat → Int32} (hp : p + k ≤ 307200) (hk : k ≤ 8) : ∀ (j N : Nat), j ≤ k → j < N → lp_ (fun _ _ => none) (f_Model_lowAt_L7 (nI p) d) N (nI j + (-1)) (lN (loN (mB d) (p + j) (k - j))) = some (lN (loN (mB d) p k)) := by
  intro j
  induction j with
  | zero =>
    intro N _ hN
    obtain ⟨M, rfl⟩ : ∃ M, N = M + 1 := ⟨N - 1, by omega⟩
    rw [lp_s]
    unfold f_Model_lowAt_L7
    rw [if_pos (by decide)]
    rfl
  | succ j ih =>
    intro N hj hN
    obtain ⟨M, rfl⟩ : ∃ M, N = M + 1 := ⟨N - 1, by omega⟩
    rw [lp_s]
    have hkj : k - j = (k - (j + 1)) + 1 := by omega
    have hlt := loN_lt (mB_lt d) (k - (j + 1)) (p + (j + 1))
    have hpw : 256 ^ (k - (j + 1)) * 256 ≤ 2 ^ 64 := by
      rw [← Nat.pow_succ, show (256 : Nat) = 2 ^ 8 from rfl, ← Nat.pow_mul]
      exact Nat.pow_le_pow_right (by decide) (by omega)
    have hb := mB_lt d (p + j)
    unfold f_Model_lowAt_L7
    rw [pk_m1, if_neg (nI_pos (by omega))]
    dsimp only [lt_]
    rw [nI_add, mget_in (by omega), bd_e]
    show lp_ (fun _ _ => none) (f_Model_lowAt_L7 (nI p) d) M (nI j + (-1)) ((lN (loN (mB d) (p + (j + 1)) (k - (j + 1))) <<< ((8 : Int32).toInt64 &&& 63)) ||| (nI (mB d (p + j))).toInt64) = _
    rw [show ((8 : Int32).toInt64 &&& 63) = ((nI 8).toInt64 &&& 63) from rfl, wb_shl _ (by decide), nI_l (by omega), g_or (k := 8) (p := 2 ^ 8) rfl hb (by omega)]
    have e : loN (mB d) (p + (j + 1)) (k - (j + 1)) * 2 ^ 8 + mB d (p + j) = loN (mB d) (p + j) (k - j) := by
      rw [hkj]
      show _ = mB d (p + j) + 256 * loN (mB d) (p + j + 1) (k - (j + 1))
      rw [show p + (j + 1) = p + j + 1 by omega]
      omega
    rw [e]
    exact ih M (by omega) (by omega)
theorem lowAt_eq {p k N : Nat} {d : Nat → Int32} (hp : p + k ≤ 307200) (hk : k ≤ 8) (hN : k < N) : f_Model_lowAt N (nI k) (nI p) d = some (lN (loN (mB d) p k)) := by
  have h := lowAt_loop (d := d) hp hk k N (Nat.le_refl _) hN
  rw [Nat.sub_self] at h
  unfold f_Model_lowAt
  dsimp only [lt_]
  rw [show nI k - 1 = nI k + (-1) from by rw [Int32.sub_eq_add_neg]]
  exact h
