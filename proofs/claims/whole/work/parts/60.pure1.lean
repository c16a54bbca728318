/-! pure: bytes in words; the sum -/
def bY (x j : Nat) : Nat := x / 2 ^ (8 * j) % 256
theorem bY_tb (x j i : Nat) : (bY x j).testBit i = (decide (i < 8) && x.testBit (8 * j + i)) := by
  unfold bY
  rw [show (256 : Nat) = 2 ^ 8 from rfl, Nat.testBit_mod_two_pow, Nat.testBit_div_two_pow]
  first | rfl | rw [Nat.add_comm]
theorem bY_lt (x j : Nat) : bY x j < 256 := Nat.mod_lt _ (by decide)
theorem sh8 : ∀ k : Nat, k < 8 → ((nI (8 * k)).toInt64 &&& 63).toBitVec.smod 64 = BitVec.ofNat 64 (8 * k) := by decide +kernel
theorem t255 (i : Nat) : (255#64).getLsbD i = decide (i < 8) := by
  by_cases h : i < 64
  · have : ∀ i : Fin 64, (255#64).getLsbD i.val = decide (i.val < 8) := by decide +kernel
    exact this ⟨i, h⟩
  · rw [BitVec.getLsbD_of_ge _ _ (by omega)]
    simp; omega
theorem gp_word (w v : Int64) {j k : Nat} (hj : j < 8) (hk : k < 8) :
    bY ((w &&& (((255 : Int64) <<< ((nI (8 * k)).toInt64 &&& 63)) ^^^ (-1))) ||| ((v &&& 255) <<< ((nI (8 * k)).toInt64 &&& 63))).toBitVec.toNat j = if j = k then v.toBitVec.toNat % 256 else bY w.toBitVec.toNat j := by
  have hs := sh8 k hk
  have h1 : (255 : Int64).toBitVec = 255#64 := rfl
  have h2 : (-1 : Int64).toBitVec = BitVec.allOnes 64 := by decide +kernel
  have hk2 : (BitVec.ofNat 64 (8 * k)).toNat = 8 * k := by rw [BitVec.toNat_ofNat, Nat.mod_eq_of_lt (by omega)]
  generalize ((nI (8 * k)).toInt64 &&& 63) = sh at hs ⊢
  apply Nat.eq_of_testBit_eq
  intro i
  rw [bY_tb]
  simp only [Int64.toBitVec_or, Int64.toBitVec_and, Int64.toBitVec_xor, Int64.toBitVec_shiftLeft, hs, h1, h2]
  rw [BitVec.testBit_toNat]
  simp only [BitVec.getLsbD_or, BitVec.getLsbD_and, BitVec.getLsbD_xor, BitVec.shiftLeft_eq', BitVec.getLsbD_shiftLeft, hk2, t255, BitVec.getLsbD_allOnes]
  by_cases hi : i < 8
  · have e1 : 8 * j + i < 64 := by omega
    by_cases hjk : j = k
    · subst hjk
      rw [if_pos rfl, show (256 : Nat) = 2 ^ 8 from rfl, Nat.testBit_mod_two_pow, BitVec.testBit_toNat]
      have e2 : ¬ 8 * j + i < 8 * j := by omega
      have e3 : 8 * j + i - 8 * j = i := by omega
      simp [hi, e1, e2, e3]
    · rw [if_neg hjk, bY_tb, BitVec.testBit_toNat]
      by_cases hlt : j < k
      · have e2 : 8 * j + i < 8 * k := by omega
        simp [hi, e1, e2]
      · have e2 : ¬ 8 * j + i < 8 * k := by omega
        have e3 : ¬ 8 * j + i - 8 * k < 8 := by omega
        simp [hi, e1, e2, e3]
  · simp [hi]
    by_cases hjk : j = k
    · rw [if_pos hjk, show (256 : Nat) = 2 ^ 8 from rfl, Nat.testBit_mod_two_pow]; simp [hi]
    · rw [if_neg hjk, bY_tb]; simp [hi]
/-- the byte at address p of the words w -/
def gB (w : Nat → Int64) (p : Nat) : Nat := bY (w (p / 8)).toBitVec.toNat (p % 8)
/-- the words with byte v at p -/
def pB (w : Nat → Int64) (p : Nat) (v : Int32) : Nat → Int64 := vp_updL w (p / 8) ((w (p / 8) &&& (((255 : Int64) <<< ((nI (8 * (p % 8))).toInt64 &&& 63)) ^^^ (-1))) ||| ((v.toInt64 &&& 255) <<< ((nI (8 * (p % 8))).toInt64 &&& 63)))
def lo8 (v : Int32) : Nat := v.toBitVec.toNat % 256
theorem lo8_l (v : Int32) : v.toInt64.toBitVec.toNat % 256 = lo8 v := by
  unfold lo8
  show (v.toBitVec.signExtend 64).toNat % 256 = _
  apply Nat.eq_of_testBit_eq
  intro i
  rw [show (256 : Nat) = 2 ^ 8 from rfl, Nat.testBit_mod_two_pow, Nat.testBit_mod_two_pow, BitVec.testBit_toNat, BitVec.testBit_toNat, BitVec.getLsbD_signExtend]
  by_cases hi : i < 8
  · simp [hi, show i < 64 by omega, show i < 32 by omega]
  · simp [hi]
theorem gB_pB (w : Nat → Int64) (p q : Nat) (v : Int32) : gB (pB w p v) q = if q = p then lo8 v else gB w q := by
  unfold gB pB vp_updL
  by_cases h : q / 8 = p / 8
  · rw [if_pos h, gp_word _ _ (Nat.mod_lt _ (by decide)) (Nat.mod_lt _ (by decide)), lo8_l]
    by_cases h2 : q % 8 = p % 8
    · rw [if_pos h2, if_pos (by omega)]
    · rw [if_neg h2, if_neg (fun e => h2 (by rw [e])), h]
  · rw [if_neg h, if_neg (fun e => h (by rw [e]))]
theorem lo8_lt (v : Int32) : lo8 v < 256 := Nat.mod_lt _ (by decide)
theorem gB_lt (w : Nat → Int64) (p : Nat) : gB w p < 256 := bY_lt _ _
theorem wb_tb (n : Nat) : (lN n).toBitVec = BitVec.ofNat 64 n := rfl
theorem wb_inj {a b : Int64} (h : a.toBitVec = b.toBitVec) : a = b := Int64.toBitVec_inj.mp h
theorem wb_tn {n : Nat} (h : n < 2 ^ 64) : (lN n).toBitVec.toNat = n := by rw [wb_tb, BitVec.toNat_ofNat, Nat.mod_eq_of_lt h]
theorem wb_of (x : Int64) : ∃ n, n < 2 ^ 64 ∧ x = lN n := ⟨x.toBitVec.toNat, x.toBitVec.isLt, wb_inj (by rw [wb_tb]; simp)⟩
theorem wb_of32 (x : Int32) : ∃ n, n < 2 ^ 32 ∧ x = nI n := ⟨x.toBitVec.toNat, x.toBitVec.isLt, Int32.toBitVec_inj.mp (by show _ = BitVec.ofNat 32 _; simp)⟩
theorem wb_c : ∀ k, k < 64 → ((nI k).toInt64 &&& 63) = lN k := by decide +kernel
theorem wb_cu : ∀ k, k < 64 → ((nI k).toInt64.toUInt64 &&& Int64.toUInt64 63) = UInt64.ofNat k := by decide +kernel
theorem wb_sm : ∀ k, k < 64 → (BitVec.ofNat 64 k).smod 64 = BitVec.ofNat 64 k := by decide +kernel
theorem wb_pw {a b : Nat} (h : a ≤ b) : 2 ^ b = 2 ^ a * 2 ^ (b - a) := by rw [← Nat.pow_add]; congr 1; omega
theorem wb_lt2 {a b : Nat} (h : a < b) : 2 ^ a < 2 ^ b := Nat.pow_lt_pow_right (by decide) h
theorem wb_mod (n : Nat) : lN n = lN (n % 2 ^ 64) := wb_inj (by rw [wb_tb, wb_tb]; apply BitVec.eq_of_toNat_eq; rw [BitVec.toNat_ofNat, BitVec.toNat_ofNat, Nat.mod_mod])
theorem wb_shr {n k : Nat} (hn : n < 2 ^ 64) (hk : k < 64) : ((lN n).toUInt64 >>> ((nI k).toInt64.toUInt64 &&& Int64.toUInt64 63)).toInt64 = lN (n / 2 ^ k) := by
  rw [wb_cu k hk]
  apply wb_inj
  apply BitVec.eq_of_toNat_eq
  show ((lN n).toUInt64 >>> UInt64.ofNat k).toNat = (BitVec.ofNat 64 _).toNat
  have h1 : (UInt64.ofNat k).toNat = k := by
    show (BitVec.ofNat 64 k).toNat = k
    rw [BitVec.toNat_ofNat, Nat.mod_eq_of_lt (by omega)]
  have h2 : (lN n).toUInt64.toNat = n := wb_tn hn
  rw [UInt64.toNat_shiftRight, h1, h2, Nat.mod_eq_of_lt hk, Nat.shiftRight_eq_div_pow, BitVec.toNat_ofNat, Nat.mod_eq_of_lt (Nat.lt_of_le_of_lt (Nat.div_le_self _ _) hn)]
theorem wb_shl (n : Nat) {k : Nat} (hk : k < 64) : lN n <<< ((nI k).toInt64 &&& 63) = lN (n * 2 ^ k) := by
  rw [wb_c k hk]
  apply wb_inj
  rw [Int64.toBitVec_shiftLeft, wb_tb, wb_tb, wb_tb, wb_sm k hk]
  apply BitVec.eq_of_toNat_eq
  rw [BitVec.shiftLeft_eq', BitVec.toNat_shiftLeft, BitVec.toNat_ofNat, BitVec.toNat_ofNat, BitVec.toNat_ofNat, Nat.mod_eq_of_lt (show k < 2 ^ 64 by omega), Nat.shiftLeft_eq, Nat.mul_mod, Nat.mod_mod, ← Nat.mul_mod]
theorem wb_and {a b : Nat} (ha : a < 2 ^ 64) (hb : b < 2 ^ 64) : lN a &&& lN b = lN (a &&& b) := by
  apply wb_inj
  rw [Int64.toBitVec_and, wb_tb, wb_tb, wb_tb]
  apply BitVec.eq_of_toNat_eq
  rw [BitVec.toNat_and, BitVec.toNat_ofNat, BitVec.toNat_ofNat, BitVec.toNat_ofNat, Nat.mod_eq_of_lt ha, Nat.mod_eq_of_lt hb, Nat.mod_eq_of_lt (Nat.and_lt_two_pow _ hb)]
theorem wb_or {a b : Nat} (ha : a < 2 ^ 64) (hb : b < 2 ^ 64) : lN a ||| lN b = lN (a ||| b) := by
  apply wb_inj
  rw [Int64.toBitVec_or, wb_tb, wb_tb, wb_tb]
  apply BitVec.eq_of_toNat_eq
  rw [BitVec.toNat_or, BitVec.toNat_ofNat, BitVec.toNat_ofNat, BitVec.toNat_ofNat, Nat.mod_eq_of_lt ha, Nat.mod_eq_of_lt hb, Nat.mod_eq_of_lt (Nat.or_lt_two_pow ha hb)]
theorem wb_mask {n k : Nat} (hn : n < 2 ^ 64) (hk : k < 64) : lN n &&& lN (2 ^ k - 1) = lN (n % 2 ^ k) := by
  rw [wb_and hn (by have := wb_lt2 hk; omega), Nat.and_two_pow_sub_one_eq_mod]
theorem u_tn {n : Nat} (h : n < 2 ^ 64) : (UInt64.ofNat n).toNat = n := Nat.mod_eq_of_lt h
theorem g_or {k p a b : Nat} (hp : 2 ^ k = p) (ha : a < p) (h : b * p + a < 2 ^ 64) : lN (b * p) ||| lN a = lN (b * p + a) := by
  subst hp
  have h1 : b * 2 ^ k ||| a = b * 2 ^ k + a := by rw [← Nat.shiftLeft_eq, Nat.shiftLeft_add_eq_or_of_lt ha]
  have h3 : UInt64.ofNat (b * 2 ^ k) ||| UInt64.ofNat a = UInt64.ofNat (b * 2 ^ k + a) := UInt64.toNat_inj.mp (by rw [UInt64.toNat_or, u_tn (by omega), u_tn (by omega), u_tn h, h1])
  have h2 := congrArg UInt64.toInt64 h3
  exact h2

/-! pure: steps of the printed functions -/
theorem lp_s {F : Type} {z : F} {b : F → F} {n : Nat} : lp_ z b (n + 1) = b (lp_ z b n) := rfl
theorem bd_e {α β : Type} {a : α} {f : α → Option β} : bd_ (some a) f = f a := rfl
theorem ix_in {α β : Type} {n j : Nat} {f : Nat → α} {K : α → Option β} (hj : j < n) (hn : n < 2 ^ 31) : ix_ n f (nI j) K = K (f j) := by
  unfold ix_
  rw [if_neg (nI_in hj hn), nI_clamp (by omega)]
theorem upl_in {β : Type} {n j : Nat} {f : Nat → Int64} {x : Int64} {K : (Nat → Int64) → Option β} (hj : j < n) (hn : n < 2 ^ 31) : up_l n f (nI j) x K = K (vp_updL f j x) := by
  unfold up_l
  rw [if_neg (nI_in hj hn), nI_clamp (by omega)]
theorem upi_in {β : Type} {n j : Nat} {f : Nat → Int32} {x : Int32} {K : (Nat → Int32) → Option β} (hj : j < n) (hn : n < 2 ^ 31) : up_i n f (nI j) x K = K (upd f j x) := by
  unfold up_i
  rw [if_neg (nI_in hj hn), nI_clamp (by omega)]
theorem upb_in {β : Type} {n j : Nat} {f : Nat → Int32} {x : Int32} {K : (Nat → Int32) → Option β} (hj : j < n) (hn : n < 2 ^ 31) : up_b n f (nI j) x K = K (upd f j (vp_nar .byte x)) := by
  unfold up_b
  rw [if_neg (nI_in hj hn), nI_clamp (by omega)]
theorem upz_in {β : Type} {n j : Nat} {f : Nat → Int32} {x : Int32} {K : (Nat → Int32) → Option β} (hj : j < n) (hn : n < 2 ^ 31) : up_z n f (nI j) x K = K (upd f j (vp_nar .boolean x)) := by
  unfold up_z
  rw [if_neg (nI_in hj hn), nI_clamp (by omega)]
/-! pure: Store's reads and writes, by bytes -/
theorem and255 (y : Nat) : nI y &&& 255 = nI (y % 256) := by
  rw [pk_and (nI y) (m := 255) 8 (by decide)]
  congr 1
  show (BitVec.ofNat 32 y).toNat % 2 ^ 8 = y % 256
  rw [BitVec.toNat_ofNat]
  omega
theorem get_in {len n p : Nat} {w : Nat → Int64} (hp : p < len) (hl : len ≤ 8 * n) (hn : n < 2 ^ 27) : f_Store_get (nI p) (nI len) n w = some (nI (gB w p)) := by
  unfold f_Store_get
  rw [if_neg (nI_pos (by omega)), if_neg (nI_ge hp (by omega))]
  dsimp only [lt_]
  have h1 : nI p >>> ((3 : Int32) &&& 31) = nI (p / 8) := pk_shrN (by omega) _ 3 (by decide)
  have h2 : nI p &&& 7 = nI (p % 8) := pk_andN (by omega) 3 (by decide)
  have h3 : nI (p % 8) <<< ((3 : Int32) &&& 31) = nI (p % 8 * 8) := pk_shlN _ 3 (by decide) (by omega)
  rw [h1, h2, h3, ix_in (show p / 8 < n by omega) (by omega)]
  obtain ⟨x, hx, e⟩ := wb_of (w (p / 8))
  unfold gB bY
  rw [e, wb_shr hx (by omega), lN_i, and255, wb_tn hx, Nat.mul_comm (p % 8) 8]
theorem get_out {len : Int32} {n : Nat} {x : Int32} {w : Nat → Int64} (h : x < 0 ∨ len ≤ x) : f_Store_get x len n w = some 0 := by
  unfold f_Store_get
  by_cases h1 : x < 0
  · rw [if_pos h1]
  · rw [if_neg h1, if_pos (h.resolve_left h1)]
theorem put_in {len n p : Nat} {w : Nat → Int64} (v : Int32) (hp : p < len) (hl : len ≤ 8 * n) (hn : n < 2 ^ 27) : f_Store_put (nI p) w (nI len) n v = some (pB w p v) := by
  unfold f_Store_put
  rw [if_neg (nI_pos (by omega)), if_neg (nI_ge hp (by omega))]
  dsimp only [lt_]
  have h1 : nI p >>> ((3 : Int32) &&& 31) = nI (p / 8) := pk_shrN (by omega) _ 3 (by decide)
  have h2 : nI p &&& 7 = nI (p % 8) := pk_andN (by omega) 3 (by decide)
  have h3 : nI (p % 8) <<< ((3 : Int32) &&& 31) = nI (8 * (p % 8)) := by rw [Nat.mul_comm]; exact pk_shlN _ 3 (by decide) (by omega)
  rw [h1, h2, h3, ix_in (show p / 8 < n by omega) (by omega), upl_in (show p / 8 < n by omega) (by omega)]
  rfl
theorem has_eq {len p : Nat} (hl : len < 2 ^ 31) (hp : p < 2 ^ 31) : f_Store_has (nI p) (nI len) = some (if p < len then 1 else 0) := by
  unfold f_Store_has
  rw [if_neg (nI_pos hp)]
  by_cases h : p < len
  · rw [if_neg (nI_ge h hl), if_pos h]
  · rw [if_pos (nI_le (by omega) hp), if_neg h]
/-- k bytes of b from p on, the lowest first -/
def loN (b : Nat → Nat) : Nat → Nat → Nat
  | _, 0 => 0
  | p, k + 1 => b p + 256 * loN b (p + 1) k
theorem loN_lt {b : Nat → Nat} (hb : ∀ p, b p < 256) : ∀ k p, loN b p k < 256 ^ k
  | 0, _ => by simp [loN]
  | k + 1, p => by
    have h1 := loN_lt hb k (p + 1)
    have h2 := hb p
    unfold loN
    rw [Nat.pow_succ]
    omega
theorem getLow_loop {len n p k : Nat} {w : Nat → Int64} (hp : p + k ≤ len) (hl : len ≤ 8 * n) (hn : n < 2 ^ 27) (hk : k ≤ 8) : ∀ (j N : Nat), j ≤ k → j < N → lp_ (fun _ _ => none) (f_Store_getLow_L7 (nI p) (nI len) n w) N (nI j + (-1)) (lN (loN (gB w) (p + j) (k - j))) = some (lN (loN (gB w) p k)) := by
  intro j
  induction j with
  | zero =>
    intro N _ hN
    obtain ⟨M, rfl⟩ : ∃ M, N = M + 1 := ⟨N - 1, by omega⟩
    rw [lp_s]
    unfold f_Store_getLow_L7
    rw [if_pos (by decide)]
    rfl
  | succ j ih =>
    intro N hj hN
    obtain ⟨M, rfl⟩ : ∃ M, N = M + 1 := ⟨N - 1, by omega⟩
    rw [lp_s]
    have hkj : k - j = (k - (j + 1)) + 1 := by omega
    have hlt := loN_lt (gB_lt w) (k - (j + 1)) (p + (j + 1))
    have hpw : 256 ^ (k - (j + 1)) * 256 ≤ 2 ^ 64 := by
      rw [← Nat.pow_succ, show (256 : Nat) = 2 ^ 8 from rfl, ← Nat.pow_mul]
      exact Nat.pow_le_pow_right (by decide) (by omega)
    have hb := gB_lt w (p + j)
    unfold f_Store_getLow_L7
    rw [pk_m1, if_neg (nI_pos (by omega))]
    dsimp only [lt_]
    rw [nI_add, get_in (by omega) hl hn, bd_e]
    show lp_ (fun _ _ => none) (f_Store_getLow_L7 (nI p) (nI len) n w) M (nI j + (-1)) ((lN (loN (gB w) (p + (j + 1)) (k - (j + 1))) <<< ((8 : Int32).toInt64 &&& 63)) ||| (nI (gB w (p + j))).toInt64) = _
    rw [show ((8 : Int32).toInt64 &&& 63) = ((nI 8).toInt64 &&& 63) from rfl, wb_shl _ (by decide), nI_l (by omega), g_or (k := 8) (p := 2 ^ 8) rfl hb (by omega)]
    have e : loN (gB w) (p + (j + 1)) (k - (j + 1)) * 2 ^ 8 + gB w (p + j) = loN (gB w) (p + j) (k - j) := by
      rw [hkj]
      show _ = gB w (p + j) + 256 * loN (gB w) (p + j + 1) (k - (j + 1))
      rw [show p + (j + 1) = p + j + 1 by omega]
      omega
    rw [e]
    exact ih M (by omega) (by omega)
theorem getLow_eq {len n p k N : Nat} {w : Nat → Int64} (hp : p + k ≤ len) (hl : len ≤ 8 * n) (hn : n < 2 ^ 27) (hk : k ≤ 8) (hN : k < N) : f_Store_getLow N (nI k) (nI p) (nI len) n w = some (lN (loN (gB w) p k)) := by
  have h := getLow_loop (w := w) hp hl hn hk k N (Nat.le_refl _) hN
  rw [Nat.sub_self] at h
  unfold f_Store_getLow
  dsimp only [lt_]
  rw [show nI k - 1 = nI k + (-1) from by rw [Int32.sub_eq_add_neg]]
  exact h
theorem bp_b (x : Int32) : x.toInt8.toInt32 &&& 255 = x &&& 255 := by
  apply Int32.toBitVec_inj.mp
  rw [Int32.toBitVec_and, Int32.toBitVec_and, Int8.toBitVec_toInt32, Int32.toBitVec_toInt8]
  apply BitVec.eq_of_getLsbD_eq
  intro i hi
  rw [BitVec.getLsbD_and, BitVec.getLsbD_and]
  have hm : ∀ i < 32, 8 ≤ i → (255 : Int32).toBitVec.getLsbD i = false := by decide
  rcases Nat.lt_or_ge i 8 with z | z
  · rw [BitVec.getLsbD_signExtend, BitVec.getLsbD_signExtend, if_pos z, if_pos hi]
    simp only [z, hi, decide_true, Bool.true_and]
  · rw [hm i hi z]; simp
/-! ===== the char cast and 65535 ===== -/
/-! pure: putLow; the reference's get, low, lowAt -/
def bv (v : Int64) (k : Nat) : Int32 := (v.toUInt64 >>> ((nI (8 * k)).toInt64.toUInt64 &&& Int64.toUInt64 63)).toInt64.toInt32
theorem lo8_nI (y : Nat) : lo8 (nI y) = y % 256 := by
  unfold lo8
  show (BitVec.ofNat 32 y).toNat % 256 = _
  rw [BitVec.toNat_ofNat]
  omega
theorem bv_lo {v : Int64} {k : Nat} (hk : k < 8) : lo8 (bv v k) = bY v.toBitVec.toNat k := by
  obtain ⟨x, hx, e⟩ := wb_of v
  unfold bv bY
  rw [e, wb_shr hx (by omega), lN_i, lo8_nI, wb_tn hx]
def pLo (w : Nat → Int64) (p : Nat) (v : Int64) : Nat → (Nat → Int64)
  | 0 => w
  | k + 1 => pB (pLo w p v k) (p + k) (bv v k)
theorem gB_pLo (w : Nat → Int64) (p : Nat) (v : Int64) (q : Nat) : ∀ k, k ≤ 8 → gB (pLo w p v k) q = if p ≤ q ∧ q < p + k then bY v.toBitVec.toNat (q - p) else gB w q
  | 0, _ => by rw [if_neg (by omega)]; rfl
  | k + 1, hk => by
    show gB (pB (pLo w p v k) (p + k) (bv v k)) q = _
    rw [gB_pB, gB_pLo w p v q k (by omega)]
    by_cases h : q = p + k
    · rw [if_pos h, if_pos (by omega), bv_lo (by omega), h]
      congr 1
      omega
    · rw [if_neg h]
      by_cases h2 : p ≤ q ∧ q < p + k
      · rw [if_pos h2, if_pos (by omega)]
      · rw [if_neg h2, if_neg (by omega)]
theorem putLow_loop {len n p k : Nat} {w : Nat → Int64} {v : Int64} (hp : p + k ≤ len) (hl : len ≤ 8 * n) (hn : n < 2 ^ 27) : ∀ (r i N : Nat), i + r = k → r < N → lp_ (fun _ _ => none) (f_Store_putLow_L3 (nI k) (nI p) v (nI len) n) N (nI i) (pLo w p v i) = some (pLo w p v k) := by
  intro r
  induction r with
  | zero =>
    intro i N hi hN
    obtain ⟨M, rfl⟩ : ∃ M, N = M + 1 := ⟨N - 1, by omega⟩
    rw [lp_s]
    unfold f_Store_putLow_L3
    rw [if_pos (nI_le (by omega) (by omega)), show i = k by omega]
  | succ r ih =>
    intro i N hi hN
    obtain ⟨M, rfl⟩ : ∃ M, N = M + 1 := ⟨N - 1, by omega⟩
    rw [lp_s]
    unfold f_Store_putLow_L3
    rw [if_neg (nI_ge (by omega) (by omega))]
    dsimp only [lt_]
    rw [nI_add, put_in _ (by omega) hl hn, bd_e, nI_1, show (8 : Int32) = nI 8 from rfl, pk_mul]
    exact ih (i + 1) M (by omega) (by omega)
theorem putLow_eq {len n p k N : Nat} {w : Nat → Int64} {v : Int64} (hp : p + k ≤ len) (hl : len ≤ 8 * n) (hn : n < 2 ^ 27) (hN : k < N) : f_Store_putLow N (nI k) (nI p) v (nI len) n w = some (pLo w p v k) :=
  putLow_loop hp hl hn k 0 N (by omega) hN
/-- the reference's byte at p -/
def mB (d : Nat → Int32) (p : Nat) : Nat := lo8 (d p)
theorem mB_lt (d : Nat → Int32) (p : Nat) : mB d p < 256 := lo8_lt _
theorem and_lo8 (x : Int32) : x &&& 255 = nI (lo8 x) := pk_and x 8 (by decide)
theorem lo8_of {x y : Int32} (h : x &&& 255 = y &&& 255) : lo8 x = lo8 y := by
  rw [and_lo8, and_lo8] at h
  have h1 := lo8_lt x
  have h2 := lo8_lt y
  exact (nI_eq (by omega) (by omega)).mp h
theorem mget_in {d : Nat → Int32} {p : Nat} (hp : p < 307200) : f_Model_get d (nI p) = some (nI (mB d p)) := by
  unfold f_Model_get
  rw [ix_in hp (by decide)]
  dsimp only [lt_]
  rw [and_lo8]
  rfl
theorem lo8_byte (x : Int32) : lo8 (vp_nar .byte x.toInt8.toInt32) = lo8 x := by
  apply lo8_of
  rw [pk_vb]
  exact bp_b x
def mLo (d : Nat → Int32) (p : Nat) (v : Int64) : Nat → (Nat → Int32)
  | 0 => d
  | k + 1 => upd (mLo d p v k) (p + k) (vp_nar .byte (bv v k).toInt8.toInt32)
theorem mB_upd (d : Nat → Int32) (p q : Nat) (x : Int32) : mB (upd d p (vp_nar .byte x.toInt8.toInt32)) q = if q = p then lo8 x else mB d q := by
  unfold mB
  by_cases h : q = p
  · rw [if_pos h, h, pk_us, lo8_byte]
  · rw [if_neg h, pk_un h]
theorem mB_mLo (d : Nat → Int32) (p : Nat) (v : Int64) (q : Nat) : ∀ k, k ≤ 8 → mB (mLo d p v k) q = if p ≤ q ∧ q < p + k then bY v.toBitVec.toNat (q - p) else mB d q
  | 0, _ => by rw [if_neg (by omega)]; rfl
  | k + 1, hk => by
    show mB (upd (mLo d p v k) (p + k) _) q = _
    rw [mB_upd, mB_mLo d p v q k (by omega)]
    by_cases h : q = p + k
    · rw [if_pos h, if_pos (by omega), bv_lo (by omega), h]
      congr 1
      omega
    · rw [if_neg h]
      by_cases h2 : p ≤ q ∧ q < p + k
      · rw [if_pos h2, if_pos (by omega)]
      · rw [if_neg h2, if_neg (by omega)]
theorem low_loop {p k : Nat} {d : Nat → Int32} {v : Int64} (hp : p + k ≤ 307200) : ∀ (r i N : Nat), i + r = k → r < N → lp_ (fun _ _ => none) (f_Model_low_L3 (nI k) (nI p) v) N (nI i) (mLo d p v i) = some (mLo d p v k) := by
  intro r
  induction r with
  | zero =>
    intro i N hi hN
    obtain ⟨M, rfl⟩ : ∃ M, N = M + 1 := ⟨N - 1, by omega⟩
    rw [lp_s]
    unfold f_Model_low_L3
    rw [if_pos (nI_le (by omega) (by omega)), show i = k by omega]
  | succ r ih =>
    intro i N hi hN
    obtain ⟨M, rfl⟩ : ∃ M, N = M + 1 := ⟨N - 1, by omega⟩
    rw [lp_s]
    unfold f_Model_low_L3
    rw [if_neg (nI_ge (by omega) (by omega))]
    dsimp only [lt_]
    rw [nI_add, upb_in (by omega) (by decide), nI_1, show (8 : Int32) = nI 8 from rfl, pk_mul]
    exact ih (i + 1) M (by omega) (by omega)
theorem low_eq {p k N : Nat} {d : Nat → Int32} {v : Int64} (hp : p + k ≤ 307200) (hN : k < N) : f_Model_low N (nI k) (nI p) v d = some (mLo d p v k) := low_loop hp k 0 N (by omega) hN
theorem lowAt_loop {p k : Nat} {d : Nat → Int32} (hp : p + k ≤ 307200) (hk : k ≤ 8) : ∀ (j N : Nat), j ≤ k → j < N → lp_ (fun _ _ => none) (f_Model_lowAt_L7 (nI p) d) N (nI j + (-1)) (lN (loN (mB d) (p + j) (k - j))) = some (lN (loN (mB d) p k)) := by
  intro j
  induction j with
  | zero =>
    intro N _ hN
    obtain ⟨M, rfl⟩ : ∃ M, N = M + 1 := ⟨N - 1, by omega⟩
    rw [lp_s]
    unfold f_Model_lowAt_L7
    rw [if_pos (by decide)]
    rfl
  | succ j ih =>
    intro N hj hN
    obtain ⟨M, rfl⟩ : ∃ M, N = M + 1 := ⟨N - 1, by omega⟩
    rw [lp_s]
    have hkj : k - j = (k - (j + 1)) + 1 := by omega
    have hlt := loN_lt (mB_lt d) (k - (j + 1)) (p + (j + 1))
    have hpw : 256 ^ (k - (j + 1)) * 256 ≤ 2 ^ 64 := by
      rw [← Nat.pow_succ, show (256 : Nat) = 2 ^ 8 from rfl, ← Nat.pow_mul]
      exact Nat.pow_le_pow_right (by decide) (by omega)
    have hb := mB_lt d (p + j)
    unfold f_Model_lowAt_L7
    rw [pk_m1, if_neg (nI_pos (by omega))]
    dsimp only [lt_]
    rw [nI_add, mget_in (by omega), bd_e]
    show lp_ (fun _ _ => none) (f_Model_lowAt_L7 (nI p) d) M (nI j + (-1)) ((lN (loN (mB d) (p + (j + 1)) (k - (j + 1))) <<< ((8 : Int32).toInt64 &&& 63)) ||| (nI (mB d (p + j))).toInt64) = _
    rw [show ((8 : Int32).toInt64 &&& 63) = ((nI 8).toInt64 &&& 63) from rfl, wb_shl _ (by decide), nI_l (by omega), g_or (k := 8) (p := 2 ^ 8) rfl hb (by omega)]
    have e : loN (mB d) (p + (j + 1)) (k - (j + 1)) * 2 ^ 8 + mB d (p + j) = loN (mB d) (p + j) (k - j) := by
      rw [hkj]
      show _ = mB d (p + j) + 256 * loN (mB d) (p + j + 1) (k - (j + 1))
      rw [show p + (j + 1) = p + j + 1 by omega]
      omega
    rw [e]
    exact ih M (by omega) (by omega)
theorem lowAt_eq {p k N : Nat} {d : Nat → Int32} (hp : p + k ≤ 307200) (hk : k ≤ 8) (hN : k < N) : f_Model_lowAt N (nI k) (nI p) d = some (lN (loN (mB d) p k)) := by
  have h := lowAt_loop (d := d) hp hk k N (Nat.le_refl _) hN
  rw [Nat.sub_self] at h
  unfold f_Model_lowAt
  dsimp only [lt_]
  rw [show nI k - 1 = nI k + (-1) from by rw [Int32.sub_eq_add_neg]]
  exact h
/-! pure: the sum: a table of eight steps -/
def c1 (x : BitVec 32) : BitVec 32 := if x.getLsbD 0 = true then (x >>> 1) ^^^ 0xEDB88320#32 else x >>> 1
def cB : Nat → BitVec 32 → BitVec 32
  | 0, x => x
  | k + 1, x => cB k (c1 x)
theorem c1_xor (x y : BitVec 32) : c1 (x ^^^ y) = c1 x ^^^ c1 y := by
  apply BitVec.eq_of_getLsbD_eq
  intro i hi
  unfold c1
  rw [BitVec.getLsbD_xor]
  cases hx : x.getLsbD 0 <;> cases hy : y.getLsbD 0 <;> simp only [Bool.xor_false, Bool.xor_true, Bool.not_false, Bool.not_true, if_true, if_false, Bool.false_eq_true, BitVec.getLsbD_xor, BitVec.getLsbD_ushiftRight] <;> cases x.getLsbD (1 + i) <;> cases y.getLsbD (1 + i) <;> cases (0xEDB88320#32).getLsbD i <;> rfl
theorem cB_xor : ∀ (k : Nat) (x y : BitVec 32), cB k (x ^^^ y) = cB k x ^^^ cB k y
  | 0, _, _ => rfl
  | k + 1, x, y => by
    show cB k (c1 (x ^^^ y)) = cB k (c1 x) ^^^ cB k (c1 y)
    rw [c1_xor, cB_xor k]
theorem c1_shl {y : BitVec 32} (hy : y.toNat < 2 ^ 24) {k : Nat} (hk : k < 8) : c1 (y <<< (k + 1)) = y <<< k := by
  have h0 : (y <<< (k + 1)).getLsbD 0 = false := by rw [BitVec.getLsbD_shiftLeft]; simp
  unfold c1
  rw [h0, if_neg (by decide)]
  apply BitVec.eq_of_getLsbD_eq
  intro i hi
  rw [BitVec.getLsbD_ushiftRight, BitVec.getLsbD_shiftLeft, BitVec.getLsbD_shiftLeft]
  have e : 1 + i - (k + 1) = i - k := by omega
  rw [e]
  by_cases h1 : i < k
  · simp [h1, show 1 + i < k + 1 by omega]
  · by_cases h2 : 1 + i < 32
    · simp [h1, h2, hi, show ¬ 1 + i < k + 1 by omega]
    · have h3 : y.getLsbD (i - k) = false := by
        rw [← BitVec.testBit_toNat]
        exact Nat.testBit_lt_two_pow (Nat.lt_of_lt_of_le hy (Nat.pow_le_pow_right (by decide) (by omega)))
      simp [h3]
theorem cB_shl {y : BitVec 32} (hy : y.toNat < 2 ^ 24) : ∀ k, k ≤ 8 → cB k (y <<< k) = y
  | 0, _ => by show y <<< 0 = y; simp
  | k + 1, hk => by
    show cB k (c1 (y <<< (k + 1))) = y
    rw [c1_shl hy (by omega), cB_shl hy k (by omega)]
theorem bsplit (x : BitVec 32) : x = (x &&& 255#32) ^^^ ((x >>> 8) <<< 8) := by
  apply BitVec.eq_of_getLsbD_eq
  intro i hi
  rw [BitVec.getLsbD_xor, BitVec.getLsbD_and, BitVec.getLsbD_shiftLeft, BitVec.getLsbD_ushiftRight]
  have h255 : (255#32).getLsbD i = decide (i < 8) := by
    have : ∀ i : Fin 32, (255#32).getLsbD i.val = decide (i.val < 8) := by decide +kernel
    exact this ⟨i, hi⟩
  rw [h255]
  by_cases h : i < 8
  · simp [h]
  · simp [h, hi, show 8 + (i - 8) = i by omega]
theorem cB8 (x : BitVec 32) : cB 8 x = cB 8 (x &&& 255#32) ^^^ (x >>> 8) := by
  have hy : (x >>> 8).toNat < 2 ^ 24 := by
    rw [BitVec.toNat_ushiftRight, Nat.shiftRight_eq_div_pow]
    have := x.isLt
    omega
  have h := cB_xor 8 (x &&& 255#32) ((x >>> 8) <<< 8)
  rw [← bsplit, cB_shl hy 8 (by decide)] at h
  exact h
/-- one step, and k steps, as the programs do them -/
def cS (v : Int32) : Int32 := if ¬ v &&& 1 = 1 then (v.toUInt32 >>> ((1 : Int32).toUInt32 &&& Int32.toUInt32 31)).toInt32 else (v.toUInt32 >>> ((1 : Int32).toUInt32 &&& Int32.toUInt32 31)).toInt32 ^^^ (-306674912)
def cN : Nat → Int32 → Int32
  | 0, v => v
  | k + 1, v => cN k (cS v)
theorem ush_bv (v s : Int32) (k : Nat) (hs : ((s.toUInt32 &&& Int32.toUInt32 31).toBitVec % 32).toNat = k) : (v.toUInt32 >>> (s.toUInt32 &&& Int32.toUInt32 31)).toInt32.toBitVec = v.toBitVec >>> k := by
  apply BitVec.eq_of_toNat_eq
  rw [pk_ushr v s k hs, BitVec.toNat_ushiftRight, Nat.shiftRight_eq_div_pow]
theorem odd_bv (v : Int32) : v &&& 1 = 1 ↔ v.toBitVec.getLsbD 0 = true := by
  rw [← Int32.toBitVec_inj]
  show v.toBitVec &&& 1#32 = 1#32 ↔ _
  constructor
  · intro h
    have := congrArg (fun x => BitVec.getLsbD x 0) h
    simpa using this
  · intro h
    apply BitVec.eq_of_getLsbD_eq
    intro i hi
    rw [BitVec.getLsbD_and]
    have h1 : (1#32).getLsbD i = decide (i = 0) := by
      have : ∀ i : Fin 32, (1#32).getLsbD i.val = decide (i.val = 0) := by decide +kernel
      exact this ⟨i, hi⟩
    rw [h1]
    by_cases h0 : i = 0
    · subst h0; simp [h]
    · simp [h0]
theorem cS_bv (v : Int32) : (cS v).toBitVec = c1 v.toBitVec := by
  unfold cS c1
  by_cases h : v &&& 1 = 1
  · rw [if_neg (not_not_intro h), if_pos ((odd_bv v).mp h), Int32.toBitVec_xor, ush_bv v 1 1 (by decide)]
    rfl
  · rw [if_pos h, if_neg (fun q => h ((odd_bv v).mpr q)), ush_bv v 1 1 (by decide)]
theorem cN_bv : ∀ (k : Nat) (v : Int32), (cN k v).toBitVec = cB k v.toBitVec
  | 0, _ => rfl
  | k + 1, v => by
    show (cN k (cS v)).toBitVec = cB k (c1 v.toBitVec)
    rw [cN_bv k, cS_bv]
theorem cN8 (v : Int32) : cN 8 v = cN 8 (v &&& 255) ^^^ (v.toUInt32 >>> ((8 : Int32).toUInt32 &&& Int32.toUInt32 31)).toInt32 := by
  apply Int32.toBitVec_inj.mp
  rw [Int32.toBitVec_xor, cN_bv, cN_bv, ush_bv v 8 8 (by decide), Int32.toBitVec_and, cB8]
  rfl
theorem goesOn_loop : ∀ (r i N : Nat) (v : Int32), i + r = 8 → r < N → lp_ (fun _ _ => none) f_Model_goesOn_L6 N (nI i) v = some (cN r v) := by
  intro r
  induction r with
  | zero =>
    intro i N v hi hN
    obtain ⟨M, rfl⟩ : ∃ M, N = M + 1 := ⟨N - 1, by omega⟩
    rw [lp_s]
    rw [f_Model_goesOn_L6, if_pos (show (8 : Int32) ≤ nI i from nI_le (a := 8) (b := i) (by omega) (by omega))]
    rfl
  | succ r ih =>
    intro i N v hi hN
    obtain ⟨M, rfl⟩ : ∃ M, N = M + 1 := ⟨N - 1, by omega⟩
    rw [lp_s]
    rw [f_Model_goesOn_L6, if_neg (show ¬ (8 : Int32) ≤ nI i from nI_ge (a := i) (b := 8) (by omega) (by omega))]
    dsimp only [lt_]
    rw [nI_1]
    show _ = some (cN r (cS v))
    unfold cS
    by_cases h : v &&& 1 = 1
    · rw [if_neg (not_not_intro h), if_neg (not_not_intro h)]
      exact ih (i + 1) M _ (by omega) (by omega)
    · rw [if_pos h, if_pos h]
      exact ih (i + 1) M _ (by omega) (by omega)
theorem goesOn_eq {N : Nat} (a b : Int32) (hN : 8 < N) : f_Model_goesOn N a b = some (cN 8 (a ^^^ b)) := goesOn_loop 8 0 N _ (by omega) hN
/-- the table -/
def isT (T : Nat → Int32) : Prop := ∀ j, j < 256 → T j = cN 8 (nI j)
theorem add_eq {T : Nat → Int32} (hT : isT T) (b : Int32) {y : Nat} (hy : y < 256) : f_Sums_add b (nI y) T = some (cN 8 (b ^^^ nI y)) := by
  unfold f_Sums_add
  dsimp only [lt_]
  have h := lo8_lt (b ^^^ nI y)
  rw [and_lo8, ix_in h (by decide), hT _ h, cN8 (b ^^^ nI y), and_lo8]
  congr 2
  apply Int32.toBitVec_inj.mp
  rw [ush_bv _ 8 8 (by decide), ush_bv _ 8 8 (by decide), Int32.toBitVec_xor]
  apply BitVec.eq_of_getLsbD_eq
  intro i hi
  rw [BitVec.getLsbD_ushiftRight, BitVec.getLsbD_ushiftRight, BitVec.getLsbD_xor]
  have h2 : (nI y).toBitVec.getLsbD (8 + i) = false := by
    rw [← BitVec.testBit_toNat, pk_tn (by omega)]
    exact Nat.testBit_lt_two_pow (Nat.lt_of_lt_of_le hy (show 2 ^ 8 ≤ 2 ^ (8 + i) from Nat.pow_le_pow_right (by decide) (by omega)))
  rw [h2]
  simp
/-! pure: sums over bytes; the table's making -/
/-- the sum's register behind k bytes of b from p on -/
def cR (b : Nat → Nat) (p : Nat) : Nat → Int32
  | 0 => -1
  | k + 1 => cN 8 (cR b p k ^^^ nI (b (p + k)))
theorem cR_congr {b b' : Nat → Nat} {p p' : Nat} : ∀ k, (∀ j, j < k → b (p + j) = b' (p' + j)) → cR b p k = cR b' p' k
  | 0, _ => rfl
  | k + 1, h => by
    show cN 8 (cR b p k ^^^ nI (b (p + k))) = cN 8 (cR b' p' k ^^^ nI (b' (p' + k)))
    rw [cR_congr k (fun j hj => h j (by omega)), h k (by omega)]
theorem over_loop {len wn n p : Nat} {w : Nat → Int64} {T : Nat → Int32} (hT : isT T) (hp : p + n ≤ len) (hl : len ≤ 8 * wn) (hn : wn < 2 ^ 27) : ∀ (r i N : Nat), i + r = n → r < N → lp_ (fun _ _ => none) (f_Sums_over_L7 (nI n) (nI p) (nI len) wn w T) N (nI i) (cR (gB w) p i) = some (cR (gB w) p n ^^^ (-1), cR (gB w) p n) := by
  intro r
  induction r with
  | zero =>
    intro i N hi hN
    obtain ⟨M, rfl⟩ : ∃ M, N = M + 1 := ⟨N - 1, by omega⟩
    rw [lp_s, f_Sums_over_L7, if_pos (nI_le (by omega) (by omega)), show i = n by omega]
    rfl
  | succ r ih =>
    intro i N hi hN
    obtain ⟨M, rfl⟩ : ∃ M, N = M + 1 := ⟨N - 1, by omega⟩
    rw [lp_s, f_Sums_over_L7, if_neg (nI_ge (by omega) (by omega))]
    dsimp only [lt_]
    rw [nI_add, get_in (by omega) hl hn, bd_e, add_eq hT _ (gB_lt w _), bd_e, nI_1]
    exact ih (i + 1) M (by omega) (by omega)
theorem over_eq {len wn n p N : Nat} {w : Nat → Int64} {T : Nat → Int32} (hT : isT T) (hp : p + n ≤ len) (hl : len ≤ 8 * wn) (hn : wn < 2 ^ 27) (hN : n < N) : f_Sums_over N (nI n) (nI p) (nI len) wn w T = some (cR (gB w) p n ^^^ (-1), cR (gB w) p n) :=
  over_loop hT hp hl hn n 0 N (by omega) hN
theorem sumOf_loop {n p N0 : Nat} {d : Nat → Int32} (h8 : 8 < N0) (hp : p + n ≤ 307200) : ∀ (r i N : Nat), i + r = n → r < N → lp_ (fun _ _ => none) (f_Model_sumOf_L5 N0 (nI n) (nI p) d) N (nI i) (cR (mB d) p i) = some (cR (mB d) p n ^^^ (-1)) := by
  intro r
  induction r with
  | zero =>
    intro i N hi hN
    obtain ⟨M, rfl⟩ : ∃ M, N = M + 1 := ⟨N - 1, by omega⟩
    rw [lp_s, f_Model_sumOf_L5, if_pos (nI_le (by omega) (by omega)), show i = n by omega]
    rfl
  | succ r ih =>
    intro i N hi hN
    obtain ⟨M, rfl⟩ : ∃ M, N = M + 1 := ⟨N - 1, by omega⟩
    rw [lp_s, f_Model_sumOf_L5, if_neg (nI_ge (by omega) (by omega))]
    dsimp only [lt_]
    rw [nI_add, mget_in (by omega), bd_e, goesOn_eq _ _ h8, bd_e, nI_1]
    exact ih (i + 1) M (by omega) (by omega)
theorem sumOf_eq {n p N : Nat} {d : Nat → Int32} (hp : p + n ≤ 307200) (hN : n < N) (h8 : 8 < N) : f_Model_sumOf N (nI n) (nI p) d = some (cR (mB d) p n ^^^ (-1)) :=
  sumOf_loop h8 hp n 0 N (by omega) hN
/-- a header's bytes, its own sum's taken as 0 -/
def hB (b : Nat → Nat) (h : Nat) : Nat → Nat := fun j => if 16 ≤ j ∧ j < 20 then 0 else b (h + j)
theorem hB_lt {b : Nat → Nat} (hb : ∀ p, b p < 256) (h j : Nat) : hB b h j < 256 := by
  unfold hB
  by_cases q : 16 ≤ j ∧ j < 20
  · rw [if_pos q]; decide
  · rw [if_neg q]; exact hb _
theorem overHeader_loop {len wn p : Nat} {w : Nat → Int64} {T : Nat → Int32} (hT : isT T) (hp : p + 92 ≤ len) (hl : len ≤ 8 * wn) (hn : wn < 2 ^ 27) : ∀ (r i N : Nat), i + r = 92 → r < N → lp_ (fun _ _ => none) (f_Sums_overHeader_L6 T (nI p) (nI len) wn w) N (nI i) (cR (hB (gB w) p) 0 i) = some (cR (hB (gB w) p) 0 92 ^^^ (-1), cR (hB (gB w) p) 0 92) := by
  intro r
  induction r with
  | zero =>
    intro i N hi hN
    obtain ⟨M, rfl⟩ : ∃ M, N = M + 1 := ⟨N - 1, by omega⟩
    rw [lp_s, f_Sums_overHeader_L6, if_pos (show (92 : Int32) ≤ nI i from nI_le (a := 92) (b := i) (by omega) (by omega)), show i = 92 by omega]
    rfl
  | succ r ih =>
    intro i N hi hN
    obtain ⟨M, rfl⟩ : ∃ M, N = M + 1 := ⟨N - 1, by omega⟩
    rw [lp_s, f_Sums_overHeader_L6, if_neg (show ¬ (92 : Int32) ≤ nI i from nI_ge (a := i) (b := 92) (by omega) (by omega))]
    dsimp only [lt_]
    have key : ∀ y : Nat, y < 256 → hB (gB w) p i = y → bd_ (f_Sums_add (cR (hB (gB w) p) 0 i) (nI y) T) (fun u107 => lp_ (fun _ _ => none) (f_Sums_overHeader_L6 T (nI p) (nI len) wn w) M (nI i + 1) u107) = some (cR (hB (gB w) p) 0 92 ^^^ (-1), cR (hB (gB w) p) 0 92) := by
      intro y hy e
      rw [add_eq hT _ hy, bd_e, nI_1, ← ih (i + 1) M (by omega) (by omega)]
      show _ = lp_ (fun _ _ => none) (f_Sums_overHeader_L6 T (nI p) (nI len) wn w) M (nI (i + 1)) (cN 8 (cR (hB (gB w) p) 0 i ^^^ nI (hB (gB w) p (0 + i))))
      rw [Nat.zero_add, e]
    by_cases h1 : i < 16
    · rw [if_pos (show nI i < (16 : Int32) from nI_lt (a := i) (b := 16) h1 (by omega)), if_pos rfl, nI_add, get_in (by omega) hl hn, bd_e]
      exact key _ (gB_lt w _) (by unfold hB; rw [if_neg (by omega)])
    · rw [if_neg (show ¬ nI i < (16 : Int32) from nI_nlt (a := i) (b := 16) (by omega) (by omega))]
      by_cases h2 : 20 ≤ i
      · rw [if_pos (show (20 : Int32) ≤ nI i from nI_le (a := 20) (b := i) h2 (by omega)), if_pos rfl, nI_add, get_in (by omega) hl hn, bd_e]
        exact key _ (gB_lt w _) (by unfold hB; rw [if_neg (by omega)])
      · rw [if_neg (show ¬ (20 : Int32) ≤ nI i from nI_ge (a := i) (b := 20) (by omega) (by omega)), if_neg (by decide)]
        exact key 0 (by decide) (by unfold hB; rw [if_pos (by omega)])
theorem overHeader_eq {len wn p N : Nat} {w : Nat → Int64} {T : Nat → Int32} (hT : isT T) (hp : p + 92 ≤ len) (hl : len ≤ 8 * wn) (hn : wn < 2 ^ 27) (hN : 92 < N) : f_Sums_overHeader N T (nI p) (nI len) wn w = some (cR (hB (gB w) p) 0 92 ^^^ (-1), cR (hB (gB w) p) 0 92) :=
  overHeader_loop hT hp hl hn 92 0 N (by omega) hN
theorem sinit_in {f : Nat → Int32} {x : Int32} {k15 : Int32 → (Nat → Int32) → Option (Int32 × (Nat → Int32))} : ∀ (r i N : Nat) (v : Int32), i + r = 8 → r < N → lp_ (fun _ _ => none) (f_Sums_init_L26 f x k15) N (nI i) v = up_i 256 f x (cN r v) (fun f' => k15 (x + 1) f') := by
  intro r
  induction r with
  | zero =>
    intro i N v hi hN
    obtain ⟨M, rfl⟩ : ∃ M, N = M + 1 := ⟨N - 1, by omega⟩
    rw [lp_s, f_Sums_init_L26, if_pos (show (8 : Int32) ≤ nI i from nI_le (a := 8) (b := i) (by omega) (by omega))]
    rfl
  | succ r ih =>
    intro i N v hi hN
    obtain ⟨M, rfl⟩ : ∃ M, N = M + 1 := ⟨N - 1, by omega⟩
    rw [lp_s, f_Sums_init_L26, if_neg (show ¬ (8 : Int32) ≤ nI i from nI_ge (a := i) (b := 8) (by omega) (by omega))]
    dsimp only [lt_]
    rw [nI_1]
    show _ = up_i 256 f x (cN r (cS v)) _
    unfold cS
    by_cases h : v &&& 1 = 1
    · rw [if_neg (not_not_intro h), if_neg (not_not_intro h)]
      exact ih (i + 1) M _ (by omega) (by omega)
    · rw [if_pos h, if_pos h]
      exact ih (i + 1) M _ (by omega) (by omega)
theorem sinit_loop {N0 : Nat} (h8 : 8 < N0) : ∀ (r i N : Nat) (f : Nat → Int32), i + r = 256 → r < N → (∀ j, j < i → f j = cN 8 (nI j)) → ∃ T, lp_ (fun _ _ => none) (f_Sums_init_L15 N0) N (nI i) f = some (0, T) ∧ isT T := by
  intro r
  induction r with
  | zero =>
    intro i N f hi hN hf
    obtain ⟨M, rfl⟩ : ∃ M, N = M + 1 := ⟨N - 1, by omega⟩
    refine ⟨f, ?_, fun j hj => hf j (by omega)⟩
    rw [lp_s, f_Sums_init_L15, if_pos (show (256 : Int32) ≤ nI i from nI_le (a := 256) (b := i) (by omega) (by omega))]
  | succ r ih =>
    intro i N f hi hN hf
    obtain ⟨M, rfl⟩ : ∃ M, N = M + 1 := ⟨N - 1, by omega⟩
    rw [lp_s, f_Sums_init_L15, if_neg (show ¬ (256 : Int32) ≤ nI i from nI_ge (a := i) (b := 256) (by omega) (by omega))]
    rw [show (0 : Int32) = nI 0 from rfl, sinit_in 8 0 N0 (nI i) (by omega) h8, upi_in (by omega) (by decide), nI_1]
    refine ih (i + 1) M _ (by omega) (by omega) (fun j hj => ?_)
    by_cases h : j = i
    · rw [h, pk_us]
    · rw [pk_un h]; exact hf j (by omega)
theorem sinit_eq {N : Nat} (hN : 256 < N) : ∃ T, f_Sums_init N = some (0, T) ∧ isT T := sinit_loop (by omega) 256 0 N _ (by omega) hN (fun j hj => absurd hj (by omega))
/-! pure: partition, where, address, byteAt, poke, sum: both sides -/
theorem in_eq (a lo hi : Int32) : f_Model_in a lo hi = some (if lo ≤ a ∧ a ≤ hi then 1 else 0) := by
  unfold f_Model_in
  by_cases h1 : a < lo
  · rw [if_pos h1, if_neg (fun h => (Int32.not_le.mpr h1) h.1)]
  · rw [if_neg h1]
    by_cases h2 : hi < a
    · rw [if_pos h2, if_neg (fun h => (Int32.not_le.mpr h2) h.2)]
    · rw [if_neg h2, if_pos ⟨Int32.not_lt.mp h1, Int32.not_lt.mp h2⟩]
theorem i32_le {a b : Int32} : a ≤ b ↔ a.toInt ≤ b.toInt := Int32.le_iff_toInt_le
theorem i32_lt {a b : Int32} : a < b ↔ a.toInt < b.toInt := Int32.lt_iff_toInt_lt
theorem i32_eq {a b : Int32} : a = b ↔ a.toInt = b.toInt := Int32.toInt_inj.symm
/-- a number between two small ones -/
theorem i32_in {a : Int32} {lo hi : Nat} (hh : hi < 2 ^ 31) (h1 : nI lo ≤ a) (h2 : a ≤ nI hi) (hlo : lo < 2 ^ 31) : ∃ n, lo ≤ n ∧ n ≤ hi ∧ a = nI n := by
  rw [i32_le, nI_toInt hlo] at h1
  rw [i32_le, nI_toInt hh] at h2
  refine ⟨a.toInt.toNat, by omega, by omega, ?_⟩
  rw [i32_eq, nI_toInt (by omega)]
  omega
/-- the plan's partitions: each in its place -/
def PlanOk (S np : Nat) (so st le : Nat → Int32) : Prop := ∀ k, k < np → (so k = 0 ∨ so k = 1) ∧ ∃ s n : Nat, st k = nI s ∧ le k = nI n ∧ 40 ≤ s ∧ 8 ≤ n ∧ n ≤ 600 ∧ s + n ≤ S - 33
theorem next_eq {S np : Nat} (hS : 100 ≤ S ∧ S ≤ 600) (hnp : np < 4) {so st le : Nat → Int32} (hok : PlanOk S np so st le) : ∃ b : Nat, 40 ≤ b ∧ b ≤ 608 ∧ f_Plan_nextStart (nI np) st le = some (nI b) ∧ (np ≠ 0 → nI b = (st (np - 1) + le (np - 1) + 7) / 8 * 8) ∧ (np = 0 → b = 40) := by
  unfold f_Plan_nextStart
  by_cases h0 : np = 0
  · subst h0
    refine ⟨40, by omega, by omega, ?_, fun h => absurd rfl h, fun _ => rfl⟩
    rw [if_neg (by decide)]
    rfl
  · have hne : ¬ nI np = 0 := nI_ne0 (by omega) (by omega)
    obtain ⟨-, s, n, e1, e2, g1, g2, g3, g4⟩ := hok (np - 1) (by omega)
    have hm : nI np - 1 = nI (np - 1) := by
      obtain ⟨q, rfl⟩ : ∃ q, np = q + 1 := ⟨np - 1, by omega⟩
      rw [nI_pred]
      rfl
    have hb : (st (np - 1) + le (np - 1) + 7) / 8 * 8 = nI ((s + n + 7) / 8 * 8) := by
      rw [e1, e2, nI_add, show (7 : Int32) = nI 7 from rfl, nI_add, show (8 : Int32) = nI 8 from rfl, pk_div (by omega) (by decide) (by decide), pk_mul]
    refine ⟨(s + n + 7) / 8 * 8, by omega, by omega, ?_, fun _ => hb.symm, fun h => absurd h h0⟩
    rw [if_pos hne]
    dsimp only [lt_]
    rw [hm, ix_in (by omega) (by decide), ix_in (by omega) (by decide), hb]
theorem part_eq {S np : Nat} (hS : 100 ≤ S ∧ S ≤ 600) (hnp : np ≤ 4) {so st le : Nat → Int32} (hok : PlanOk S np so st le) (a1 a2 : Int32) :
    ∃ (r : Int32) (np' : Nat) (so' st' le' : Nat → Int32), np' ≤ 4 ∧ PlanOk S np' so' st' le' ∧ f_BootMaker_partition a2 (nI np) so st le (nI (S - 34)) a1 = some (r, nI np', so', st', le') ∧ f_Model_partition a1 (nI np) so st le a2 (nI S) = some (r, 0, nI np', so', st', le') := by
  unfold f_BootMaker_partition f_Plan_addPartition f_Model_partition
  rw [in_eq, bd_e, in_eq]
  dsimp only [lt_]
  by_cases h1 : a1 = 0 ∨ a1 = 1
  · have hA : (0 : Int32) ≤ a1 ∧ a1 ≤ 1 := by rcases h1 with rfl | rfl <;> decide
    rw [if_pos hA, if_neg (show ¬ (1 : Int32) = 0 by decide), bd_e]
    have hj : ∀ {β : Type} (X Y : β), (if a1 = 0 then X else if ¬ a1 = 1 then Y else X) = X := by
      intro β X Y
      rcases h1 with h | h
      · rw [if_pos h]
      · by_cases q : a1 = 0
        · rw [if_pos q]
        · rw [if_neg q, if_neg (not_not_intro h)]
    rw [hj]
    by_cases h2 : (8 : Int32) ≤ a2 ∧ a2 ≤ 600
    · obtain ⟨n, q1, q2, rfl⟩ := i32_in (lo := 8) (hi := 600) (by decide) h2.1 h2.2 (by decide)
      rw [if_neg (Int32.not_lt.mpr h2.1), if_pos h2.2, if_pos h2, if_pos (show ¬ (1 : Int32) = 0 by decide)]
      by_cases h3 : np < 4
      · rw [if_pos (show nI np < 4 from nI_lt (a := np) (b := 4) h3 (by decide)), if_pos (show ¬ nI np = 4 from fun h => by rw [show (4 : Int32) = nI 4 from rfl, nI_eq (by omega) (by omega)] at h; omega)]
        obtain ⟨b, b1, b2, hb, hb1, hb0⟩ := next_eq hS h3 hok
        rw [hb, bd_e]
        have hs : nI b + nI n - 1 = nI (b + n - 1) := by
          rw [nI_add]
          obtain ⟨q, hq⟩ : ∃ q, b + n = q + 1 := ⟨b + n - 1, by omega⟩
          rw [hq, nI_pred]
          rfl
        have hj2 : ∀ {β : Type} (K : Int32 → Option β), (if ¬ nI np = 0 then ix_ 4 st (nI np - 1) (fun v47 => ix_ 4 le (nI np - 1) (fun v49 => K ((v47 + v49 + 7) / 8 * 8))) else K 40) = K (nI b) := by
          intro β K
          by_cases h0 : np = 0
          · rw [if_neg (not_not_intro (by rw [h0]; rfl)), hb0 h0]
            rfl
          · have hm : nI np - 1 = nI (np - 1) := by
              obtain ⟨q, rfl⟩ : ∃ q, np = q + 1 := ⟨np - 1, by omega⟩
              rw [nI_pred]
              rfl
            rw [if_pos (nI_ne0 (by omega) (by omega)), hm, ix_in (by omega) (by decide), ix_in (by omega) (by decide), ← hb1 h0]
        have e := hj2 (fun x => if x + nI n - 1 ≤ nI S - 34 then up_i 4 so (nI np) a1 (fun f41 => up_i 4 st (nI np) x (fun f42 => up_i 4 le (nI np) (nI n) (fun f43 => some (nI np + 1 - 1, (0 : Int32), nI np + 1, f41, f42, f43)))) else some (-3, 0, nI np, so, st, le))
        rw [e, hs, show nI S - 34 = nI (S - 34) from pk_sub (a := S) (b := 34) (by omega)]
        by_cases h4 : b + n - 1 ≤ S - 34
        · rw [if_pos (nI_le h4 (by omega)), if_pos (nI_le h4 (by omega))]
          rw [upi_in (by omega) (by decide), upi_in (by omega) (by decide), upi_in (by omega) (by decide), upi_in (by omega) (by decide), upi_in (by omega) (by decide), upi_in (by omega) (by decide), nI_1, nI_pred, bd_e]
          refine ⟨nI np, np + 1, upd so np a1, upd st np (nI b), upd le np (nI n), by omega, ?_, rfl, rfl⟩
          intro k hk
          by_cases hkn : k = np
          · subst hkn
            rw [pk_us, pk_us, pk_us]
            exact ⟨h1, b, n, rfl, rfl, b1, q1, q2, by omega⟩
          · rw [pk_un hkn, pk_un hkn, pk_un hkn]
            exact hok k (by omega)
        · rw [if_neg (nI_ge (by omega) (by omega)), if_neg (nI_ge (by omega) (by omega)), bd_e]
          exact ⟨-3, np, so, st, le, hnp, hok, rfl, rfl⟩
      · have h4 : np = 4 := by omega
        subst h4
        rw [if_neg (show ¬ nI 4 < 4 by decide), if_neg (show ¬ ¬ nI 4 = 4 by decide), bd_e]
        exact ⟨-3, 4, so, st, le, hnp, hok, rfl, rfl⟩
    · rw [if_neg h2, if_neg (show ¬ ¬ (0 : Int32) = 0 by decide)]
      by_cases h3 : a2 < 8
      · rw [if_pos h3, bd_e]
        exact ⟨-2, np, so, st, le, hnp, hok, rfl, rfl⟩
      · rw [if_neg h3, if_neg (fun h => h2 ⟨Int32.not_lt.mp h3, h⟩), bd_e]
        exact ⟨-2, np, so, st, le, hnp, hok, rfl, rfl⟩
  · have hA : ¬ ((0 : Int32) ≤ a1 ∧ a1 ≤ 1) := by
      intro h
      obtain ⟨n, q1, q2, e⟩ := i32_in (lo := 0) (hi := 1) (by decide) h.1 h.2 (by decide)
      apply h1
      rcases (show n = 0 ∨ n = 1 by omega) with rfl | rfl
      · exact Or.inl e
      · exact Or.inr e
    rw [if_neg hA, if_pos (show (0 : Int32) = 0 from rfl), if_neg (fun h : a1 = 0 => h1 (Or.inl h)), if_pos (fun h : a1 = 1 => h1 (Or.inr h)), bd_e]
    exact ⟨-2, np, so, st, le, hnp, hok, rfl, rfl⟩
theorem where_eq {S np : Nat} (hnp : np ≤ 4) {so st le : Nat → Int32} (a1 a2 : Int32) : ∃ r : Int32, f_BootMaker_where a1 (nI np) a2 st le so = some r ∧ f_Model_where (nI np) a1 a2 so le st = some (r, 0) := by
  unfold f_BootMaker_where f_Plan_tellPartition f_Model_where
  dsimp only [lt_]
  rw [in_eq, bd_e]
  by_cases h : (0 : Int32) ≤ a1 ∧ a1 ≤ nI np - 1
  · have hnp1 : 0 < np := by
      rcases Nat.eq_zero_or_pos np with h0 | h0
      · subst h0
        have h2 := Int32.le_trans h.1 h.2
        exact absurd h2 (by decide)
      · exact h0
    have hm : nI np - 1 = nI (np - 1) := by
      obtain ⟨q, rfl⟩ : ∃ q, np = q + 1 := ⟨np - 1, by omega⟩
      rw [nI_pred]
      rfl
    rw [hm] at h
    obtain ⟨k, -, hk, rfl⟩ := i32_in (lo := 0) (hi := np - 1) (by omega) h.1 h.2 (by decide)
    rw [hm, if_pos h, if_neg (nI_pos (by omega)), if_pos (nI_lt (by omega) (by omega)), if_pos (show ¬ (1 : Int32) = 0 by decide), ix_in (by omega) (by decide), ix_in (by omega) (by decide), ix_in (by omega) (by decide), ix_in (by omega) (by decide), ix_in (by omega) (by decide), ix_in (by omega) (by decide)]
    by_cases h0 : a2 = 0
    · rw [if_pos h0, if_neg (not_not_intro h0)]; exact ⟨_, rfl, rfl⟩
    · rw [if_neg h0, if_pos h0]
      by_cases h1 : a2 = 1
      · rw [if_pos h1, if_neg (not_not_intro h1)]; exact ⟨_, rfl, rfl⟩
      · rw [if_neg h1, if_pos h1]
        by_cases h2 : a2 = 2
        · rw [if_pos h2, if_neg (not_not_intro h2)]; exact ⟨_, rfl, rfl⟩
        · rw [if_neg h2, if_pos h2]; exact ⟨_, rfl, rfl⟩
  · rw [if_neg h, if_neg (show ¬ ¬ (0 : Int32) = 0 by decide)]
    by_cases h1 : a1 < 0
    · rw [if_pos h1]; exact ⟨_, rfl, rfl⟩
    · rw [if_neg h1, if_neg (fun q => h ⟨Int32.not_lt.mp h1, ?_⟩)]
      · exact ⟨_, rfl, rfl⟩
      · obtain ⟨j, hj, rfl⟩ := nI_of h1
        have hj2 : j < np := by
          have := (nI_ltI hj (by omega)).mp q
          exact this
        have hm : nI np - 1 = nI (np - 1) := by
          obtain ⟨q, rfl⟩ : ∃ q, np = q + 1 := ⟨np - 1, by omega⟩
          rw [nI_pred]
          rfl
        rw [hm]
        exact nI_le (by omega) (by omega)
/-! pure: address, booted, byteAt, poke, sum, file: both sides -/
theorem address_eq (a1 k : Int32) : ∃ r k' : Int32, f_BootMaker_address a1 k = some (r, k') ∧ f_Model_address a1 k = some (r, 0, k') := by
  unfold f_BootMaker_address f_Model_address
  by_cases h : 0 ≤ a1
  · rw [if_pos h, if_pos h]; exact ⟨_, _, rfl, rfl⟩
  · rw [if_neg h, if_neg h]; exact ⟨_, _, rfl, rfl⟩
theorem booted_eq (t a h b k z : Int32) : ∃ r : Int32, f_BootMaker_booted t a h b k z = some r ∧ f_Model_booted t a z k b h = some (r, 0) := by
  unfold f_BootMaker_booted f_Firmware_tell f_Model_booted
  by_cases ht : t = 0
  · rw [if_neg (not_not_intro ht), if_neg (not_not_intro ht)]; exact ⟨_, rfl, rfl⟩
  · rw [if_pos ht, if_pos ht]
    by_cases h0 : a = 0
    · rw [if_pos h0, if_neg (not_not_intro h0)]; exact ⟨_, rfl, rfl⟩
    · rw [if_neg h0, if_pos h0]
      by_cases h1 : a = 1
      · rw [if_pos h1, if_neg (not_not_intro h1)]; exact ⟨_, rfl, rfl⟩
      · rw [if_neg h1, if_pos h1]
        by_cases h2 : a = 2
        · rw [if_pos h2, if_neg (not_not_intro h2)]; exact ⟨_, rfl, rfl⟩
        · rw [if_neg h2, if_pos h2]
          by_cases h3 : a = 3
          · rw [if_pos h3, if_neg (not_not_intro h3)]; exact ⟨_, rfl, rfl⟩
          · rw [if_neg h3, if_pos h3]; exact ⟨_, rfl, rfl⟩
/-- the disks are alike: every byte of S sectors -/
def Alike_ (S : Nat) (w : Nat → Int64) (d : Nat → Int32) : Prop := ∀ p, p < 512 * S → gB w p = mB d p
theorem dlast {S : Nat} (hS : 100 ≤ S ∧ S ≤ 600) : (512 : Int32) * nI S - 1 = nI (512 * S - 1) := by
  rw [show (512 : Int32) = nI 512 from rfl, pk_mul]
  obtain ⟨q, hq⟩ : ∃ q, 512 * S = q + 1 := ⟨512 * S - 1, by omega⟩
  rw [hq, nI_pred]
  rfl
/-- an address is on the disk, or both sides see that it isn't -/
theorem onDisk {S : Nat} (hS : 100 ≤ S ∧ S ≤ 600) (a : Int32) : (∃ p, p < 512 * S ∧ a = nI p ∧ f_Store_has a (nI (512 * S)) = some 1 ∧ f_Model_in a 0 (nI (512 * S - 1)) = some 1) ∨ (f_Store_has a (nI (512 * S)) = some 0 ∧ f_Model_in a 0 (nI (512 * S - 1)) = some 0) := by
  by_cases h : a < 0
  · right
    refine ⟨by unfold f_Store_has; rw [if_pos h], ?_⟩
    rw [in_eq, if_neg (fun q => (Int32.not_le.mpr h) q.1)]
  · obtain ⟨p, hp, rfl⟩ := nI_of h
    by_cases h2 : p < 512 * S
    · left
      refine ⟨p, h2, rfl, ?_, ?_⟩
      · rw [has_eq (by omega) hp, if_pos h2]
      · rw [in_eq, if_pos ⟨nI_pos' hp, nI_le (by omega) (by omega)⟩]
    · right
      refine ⟨?_, ?_⟩
      · rw [has_eq (by omega) hp, if_neg h2]
      · rw [in_eq, if_neg (fun q => nI_ge (a := 512 * S - 1) (b := p) (by omega) hp q.2)]
theorem byteAt_eq {S : Nat} (hS : 100 ≤ S ∧ S ≤ 600) {w : Nat → Int64} {d : Nat → Int32} (hD : Alike_ S w d) (a : Int32) : ∃ r : Int32, f_BootMaker_byteAt a (nI (512 * S)) (64 * S) w = some r ∧ f_Model_byteAt (nI S) a d = some (r, 0) := by
  unfold f_BootMaker_byteAt f_Model_byteAt
  dsimp only [lt_]
  rw [dlast hS]
  rcases onDisk hS a with ⟨p, hp, rfl, e1, e2⟩ | ⟨e1, e2⟩
  · rw [e1, e2, bd_e, bd_e, if_neg (show ¬ (1 : Int32) = 0 by decide), if_neg (show ¬ (1 : Int32) = 0 by decide), get_in hp (by omega) (by omega), mget_in (by omega), bd_e, bd_e, hD p hp]
    exact ⟨_, rfl, rfl⟩
  · rw [e1, e2, bd_e, bd_e, if_pos rfl, if_pos rfl]
    exact ⟨_, rfl, rfl⟩
theorem poke_eq {S : Nat} (hS : 100 ≤ S ∧ S ≤ 600) {w : Nat → Int64} {d : Nat → Int32} (hD : Alike_ S w d) (a v : Int32) : ∃ (r : Int32) (w' : Nat → Int64) (d' : Nat → Int32), f_BootMaker_poke a (nI (512 * S)) (64 * S) w v = some (r, w') ∧ f_Model_poke (nI S) a d v = some (r, 0, d') ∧ Alike_ S w' d' := by
  unfold f_BootMaker_poke f_Model_poke
  dsimp only [lt_]
  rw [dlast hS]
  rcases onDisk hS a with ⟨p, hp, rfl, e1, e2⟩ | ⟨e1, e2⟩
  · rw [e1, e2, bd_e, bd_e, if_pos (show ¬ (1 : Int32) = 0 by decide), if_pos (show ¬ (1 : Int32) = 0 by decide), get_in hp (by omega) (by omega), mget_in (by omega), bd_e, bd_e, put_in v hp (by omega) (by omega), bd_e, upb_in (by omega) (by decide), hD p hp]
    refine ⟨_, _, _, rfl, rfl, fun q hq => ?_⟩
    rw [gB_pB, mB_upd, hD q hq]
  · rw [e1, e2, bd_e, bd_e, if_neg (show ¬ ¬ (0 : Int32) = 0 by decide), if_neg (show ¬ ¬ (0 : Int32) = 0 by decide)]
    exact ⟨_, _, _, rfl, rfl, hD⟩
theorem lgc {x y : Nat} (hx : x < 2 ^ 62) (hy : y < 2 ^ 62) : (0 < lg_cmp (lN x) (lN y)) ↔ y < x := by
  unfold lg_cmp
  by_cases h : lN y < lN x
  · have := (pk_lLT (by omega) (by omega)).mp h
    simp only [if_pos h]
    exact ⟨fun _ => this, fun _ => by decide⟩
  · have h1 : ¬ y < x := fun q => h ((pk_lLT (by omega) (by omega)).mpr q)
    simp only [if_neg h]
    refine ⟨fun q => ?_, fun q => absurd q h1⟩
    exfalso
    by_cases h2 : lN x = lN y
    · rw [if_pos h2] at q; exact absurd q (by decide)
    · rw [if_neg h2] at q; exact absurd q (by decide)
theorem sum_eq {S N : Nat} (hS : 100 ≤ S ∧ S ≤ 600) (hN : 400000 ≤ N) {w : Nat → Int64} {d : Nat → Int32} {T : Nat → Int32} (hT : isT T) (hD : Alike_ S w d) (u a b : Int32) : ∃ r u' : Int32, f_BootMaker_sum N u b a (nI (512 * S)) (64 * S) w T = some (r, u') ∧ f_Model_sum N b a (nI S) d = some (r, 0) := by
  unfold f_BootMaker_sum f_Model_sum
  dsimp only [lt_]
  by_cases ha : a < 0
  · by_cases hb : b < 0
    · rw [if_pos ha, if_pos rfl, if_pos hb]; exact ⟨_, _, rfl, rfl⟩
    · rw [if_pos ha, if_pos rfl, if_neg hb, if_pos ha]; exact ⟨_, _, rfl, rfl⟩
  · by_cases hb : b < 0
    · rw [if_neg ha, if_pos hb, if_pos rfl, if_pos hb]; exact ⟨_, _, rfl, rfl⟩
    · obtain ⟨p, hp, rfl⟩ := nI_of ha
      obtain ⟨n, hn, rfl⟩ := nI_of hb
      rw [if_neg ha, if_neg hb, if_neg hb, if_neg ha, nI_l hp, nI_l hn, lN_add, nI_l (show 512 * S < 2 ^ 31 by omega), nI_l (show S < 2 ^ 31 by omega), show (512 : Int64) = lN 512 from rfl, lN_mul]
      by_cases h : 512 * S < p + n
      · have hc := (lgc (x := p + n) (y := 512 * S) (by omega) (by omega)).mpr h
        rw [if_pos hc, if_pos rfl, if_pos hc]
        exact ⟨_, _, rfl, rfl⟩
      · have hc : ¬ 0 < lg_cmp (lN (p + n)) (lN (512 * S)) := fun q => h ((lgc (by omega) (by omega)).mp q)
        rw [if_neg hc, if_neg (show ¬ (1 : Int32) = 0 by decide), if_neg hc, over_eq hT (by omega) (by omega) (by omega) (by omega), bd_e, sumOf_eq (by omega) (by omega) (by omega), bd_e, cR_congr (b := gB w) (b' := mB d) (p := p) (p' := p) n (fun j hj => hD _ (by omega))]
        exact ⟨_, _, rfl, rfl⟩
/-! pure: names; file: both sides -/
/-- k bytes, none of them 0 -/
def NmK (k x : Nat) : Prop := x < 256 ^ k ∧ ∀ i, i < k → bY x i ≠ 0
theorem bY_0 (x c : Nat) (hc : c < 256) : bY (x * 256 + c) 0 = c := by
  unfold bY
  rw [Nat.mul_zero, Nat.pow_zero, Nat.div_one]
  omega
theorem bY_s (x c i : Nat) (hc : c < 256) : bY (x * 256 + c) (i + 1) = bY x i := by
  unfold bY
  rw [show 8 * (i + 1) = 8 + 8 * i by omega, Nat.pow_add, ← Nat.div_div_eq_div_mul, show (2 : Nat) ^ 8 = 256 from rfl, show (x * 256 + c) / 256 = x by omega]
theorem NmK_s {k x c : Nat} (h : NmK k x) (hc : c < 256) (h0 : c ≠ 0) : NmK (k + 1) (x * 256 + c) := by
  refine ⟨?_, fun i hi => ?_⟩
  · have := h.1
    rw [Nat.pow_succ]
    omega
  · cases i with
    | zero => rw [bY_0 x c hc]; exact h0
    | succ i => rw [bY_s x c i hc]; exact h.2 i (by omega)
theorem letter_eq (c : Int32) : ∃ u : Int32, f_Plan_isNameCharacter c = some u ∧ f_Model_isLetter c = some u := by
  have h : ∃ u : Int32, f_Plan_isNameCharacter c = some u := by
    unfold f_Plan_isNameCharacter
    dsimp only [lt_]
    repeat' split
    all_goals exact ⟨_, rfl⟩
  obtain ⟨u, hu⟩ := h
  exact ⟨u, hu, hu⟩
theorem m8 (j : Nat) : nI (8 * (j + 1)) + (-8) = nI (8 * j) := by
  rw [show 8 * (j + 1) = 8 * j + 8 by omega, ← nI_add, show nI 8 = (8 : Int32) from rfl, Int32.add_assoc, show (8 : Int32) + (-8) = 0 by decide, Int32.add_zero]
theorem chr_eq {v : Int64} {x j : Nat} (hx : x < 2 ^ 64) (e : v = lN x) (hj : j < 8) : (v.toUInt64 >>> ((nI (8 * j)).toInt64.toUInt64 &&& Int64.toUInt64 63)).toInt64.toInt32 &&& 255 = nI (bY x j) ∧ ((v.toUInt64 >>> ((nI (8 * j)).toInt64.toUInt64 &&& Int64.toUInt64 63)).toInt64 &&& 255).toInt32 = nI (bY x j) := by
  have hd : x / 2 ^ (8 * j) < 2 ^ 64 := Nat.lt_of_le_of_lt (Nat.div_le_self _ _) hx
  rw [e, wb_shr hx (by omega)]
  refine ⟨?_, ?_⟩
  · rw [lN_i, and255]; rfl
  · rw [show (255 : Int64) = lN (2 ^ 8 - 1) from rfl, wb_mask hd (by decide), lN_i]; rfl
theorem name_loop {v : Int64} {x : Nat} (hx : x < 2 ^ 64) (e : v = lN x) : ∀ (j N k y : Nat), j < N → k + j ≤ 8 → NmK k y → ∃ r : Int64, lp_ (fun _ _ => none) (f_Plan_nameIn_L6 v) N (nI (8 * j) + (-8)) (lN y) = some r ∧ lp_ (fun _ _ => none) (f_Model_told_L6 v) N (nI j + (-1)) (lN y) = some r ∧ (r = 0 ∨ ∃ k' y' : Nat, k' ≤ 8 ∧ r = lN y' ∧ NmK k' y') := by
  intro j
  induction j with
  | zero =>
    intro N k y hN hk hy
    obtain ⟨M, rfl⟩ : ∃ M, N = M + 1 := ⟨N - 1, by omega⟩
    rw [lp_s, lp_s, f_Plan_nameIn_L6, f_Model_told_L6, if_pos (by decide), if_pos (by decide)]
    exact ⟨_, rfl, rfl, Or.inr ⟨k, y, by omega, rfl, hy⟩⟩
  | succ j ih =>
    intro N k y hN hk hy
    obtain ⟨M, rfl⟩ : ∃ M, N = M + 1 := ⟨N - 1, by omega⟩
    obtain ⟨c1, c2⟩ := chr_eq (v := v) hx e (show j < 8 by omega)
    have hb := bY_lt x j
    rw [lp_s, lp_s, f_Plan_nameIn_L6, f_Model_told_L6, m8, pk_m1, if_neg (nI_pos (by omega)), if_neg (nI_pos (by omega))]
    dsimp only [lt_]
    rw [show (8 : Int32) * nI j = nI (8 * j) from pk_mul 8 j, c1, c2]
    by_cases h0 : bY x j = 0
    · rw [h0, if_pos (show nI 0 = 0 from rfl), if_neg (show ¬ ¬ nI 0 = 0 from not_not_intro rfl)]
      exact ih M k y (by omega) (by omega) hy
    · have hne : ¬ nI (bY x j) = 0 := nI_ne0 (by omega) (by omega)
      obtain ⟨u, hu1, hu2⟩ := letter_eq (nI (bY x j))
      rw [if_neg hne, if_pos hne, hu1, hu2, bd_e, bd_e]
      by_cases hu : u = 0
      · rw [if_neg (not_not_intro hu), if_neg (not_not_intro hu)]
        exact ⟨0, rfl, rfl, Or.inl rfl⟩
      · rw [if_pos hu, if_pos hu]
        have hpw : 256 ^ k * 256 ≤ 2 ^ 64 := by
          rw [← Nat.pow_succ, show (256 : Nat) = 2 ^ 8 from rfl, ← Nat.pow_mul]
          exact Nat.pow_le_pow_right (by decide) (by omega)
        have hy1 := hy.1
        have ea : (lN y <<< ((8 : Int32).toInt64 &&& 63)) ||| (nI (bY x j)).toInt64 = lN (y * 256 + bY x j) := by
          rw [show ((8 : Int32).toInt64 &&& 63) = ((nI 8).toInt64 &&& 63) from rfl, wb_shl _ (by decide), nI_l (by omega), g_or (k := 8) (p := 2 ^ 8) rfl hb (by omega)]
        rw [ea]
        exact ih M (k + 1) _ (by omega) (by omega) (NmK_s hy hb h0)
/-- a file's name: some letters, one to eight -/
def NmOk (v : Int64) : Prop := ∃ k y : Nat, 1 ≤ k ∧ k ≤ 8 ∧ v = lN y ∧ NmK k y
theorem name_eq {N : Nat} (hN : 8 < N) (v : Int64) : ∃ r : Int64, f_Plan_nameIn N v = some r ∧ f_Model_told N v = some r ∧ (r = 0 ∨ NmOk r) := by
  obtain ⟨x, hx, e⟩ := wb_of v
  obtain ⟨r, h1, h2, h3⟩ := name_loop hx e 8 N 0 0 hN (by omega) ⟨by decide, fun i hi => absurd hi (by omega)⟩
  refine ⟨r, h1, h2, ?_⟩
  rcases h3 with h | ⟨k, y, hk, e2, hy⟩
  · exact Or.inl h
  · cases k with
    | zero =>
      have := hy.1
      rw [Nat.pow_zero] at this
      have hy0 : y = 0 := by omega
      subst hy0
      exact Or.inl e2
    | succ k => exact Or.inr ⟨k + 1, y, by omega, hk, e2, hy⟩
/-- the plan's files -/
def FilesOk (nf : Nat) (nm : Nat → Int64) (sz se : Nat → Int32) : Prop := ∀ k, k < nf → NmOk (nm k) ∧ (∃ n : Nat, sz k = nI n ∧ n ≤ 9000) ∧ ∃ n : Nat, se k = nI n ∧ n ≤ 255
theorem named_eq {nf : Nat} (hnf : nf ≤ 12) (nm : Nat → Int64) (v : Int64) : ∀ (r i N : Nat), i + r = nf → r < N → ∃ z : Int32, lp_ (fun _ => none) (f_Plan_fileNamed_L2 (nI nf) nm v) N (nI i) = some z ∧ (z = -1 ∧ (∀ k, i ≤ k → k < nf → ¬ nm k = v) ∨ ∃ k, i ≤ k ∧ k < nf ∧ z = nI k ∧ nm k = v ∧ ∀ k', i ≤ k' → k' < k → ¬ nm k' = v) := by
  intro r
  induction r with
  | zero =>
    intro i N hi hN
    obtain ⟨M, rfl⟩ : ∃ M, N = M + 1 := ⟨N - 1, by omega⟩
    rw [lp_s, f_Plan_fileNamed_L2, if_pos (nI_le (by omega) (by omega))]
    exact ⟨-1, rfl, Or.inl ⟨rfl, fun k h1 h2 => absurd h2 (by omega)⟩⟩
  | succ r ih =>
    intro i N hi hN
    obtain ⟨M, rfl⟩ : ∃ M, N = M + 1 := ⟨N - 1, by omega⟩
    rw [lp_s, f_Plan_fileNamed_L2, if_neg (nI_ge (by omega) (by omega)), ix_in (by omega) (by decide)]
    dsimp only [lt_]
    have hc : lg_cmp (nm i) v = 0 ↔ nm i = v := by
      unfold lg_cmp
      by_cases h1 : nm i > v
      · rw [if_pos h1]
        refine ⟨fun q => absurd q (by decide), fun q => ?_⟩
        rw [q] at h1
        exact absurd h1 Int64.lt_irrefl
      · rw [if_neg h1]
        by_cases h2 : nm i = v
        · rw [if_pos h2]; exact ⟨fun _ => h2, fun _ => rfl⟩
        · rw [if_neg h2]; exact ⟨fun q => absurd q (by decide), fun q => absurd q h2⟩
    by_cases h : nm i = v
    · rw [if_neg (not_not_intro (hc.mpr h))]
      exact ⟨nI i, rfl, Or.inr ⟨i, Nat.le_refl _, by omega, rfl, h, fun k' h1 h2 => absurd h2 (by omega)⟩⟩
    · rw [if_pos (fun q => h (hc.mp q)), nI_1]
      obtain ⟨z, hz, hh⟩ := ih (i + 1) M (by omega) (by omega)
      refine ⟨z, hz, ?_⟩
      rcases hh with ⟨e, hn⟩ | ⟨k, k1, k2, e, hk, hn⟩
      · refine Or.inl ⟨e, fun k h1 h2 => ?_⟩
        by_cases hki : k = i
        · rw [hki]; exact h
        · exact hn k (by omega) h2
      · refine Or.inr ⟨k, by omega, k2, e, hk, fun k' h1 h2 => ?_⟩
        by_cases hki : k' = i
        · rw [hki]; exact h
        · exact hn k' (by omega) h2
/-- which file has a name: -1, or its number; the reference asks alike -/
theorem fileNamed_eq {nf N : Nat} (hnf : nf ≤ 12) (hN : 12 < N) (nm : Nat → Int64) (v : Int64) : ∃ z : Int32, f_Plan_fileNamed N (nI nf) nm v = some z ∧ f_Model_named N (nI nf) nm v = some z ∧ (z = -1 ∧ (∀ k, k < nf → ¬ nm k = v) ∨ ∃ k, k < nf ∧ z = nI k ∧ nm k = v) := by
  obtain ⟨z, hz, h⟩ := named_eq hnf nm v nf 0 N (by omega) (by omega)
  refine ⟨z, hz, hz, ?_⟩
  rcases h with ⟨e, h⟩ | ⟨k, -, h2, h3, h4, -⟩
  · exact Or.inl ⟨e, fun k hk => h k (by omega) hk⟩
  · exact Or.inr ⟨k, h2, h3, h4⟩
theorem lgc0 (v : Int64) : lg_cmp v 0 = 0 ↔ v = 0 := by
  unfold lg_cmp
  by_cases h1 : v > 0
  · rw [if_pos h1]
    refine ⟨fun q => absurd q (by decide), fun q => ?_⟩
    rw [q] at h1
    exact absurd h1 Int64.lt_irrefl
  · rw [if_neg h1]
    by_cases h2 : v = 0
    · rw [if_pos h2]; exact ⟨fun _ => h2, fun _ => rfl⟩
    · rw [if_neg h2]; exact ⟨fun q => absurd q (by decide), fun q => absurd q h2⟩
theorem file_eq {nf N : Nat} (hnf : nf ≤ 12) (hN : 12 < N) {nm : Nat → Int64} {sz se sc : Nat → Int32} (hok : FilesOk nf nm sz se) (a1 : Int64) (a2 a3 a4 : Int32) :
    ∃ (r : Int32) (nf' : Nat) (nm' : Nat → Int64) (sz' se' sc' : Nat → Int32), nf' ≤ 12 ∧ FilesOk nf' nm' sz' se' ∧ f_BootMaker_file N a1 (nI nf) nm sz se sc a2 a3 a4 = some (r, nI nf', nm', sz', se', sc') ∧ f_Model_file N a1 (nI nf) nm sz se sc a2 a3 a4 = some (r, 0, nI nf', nm', sz', se', sc') := by
  obtain ⟨v, e1, e2, hv⟩ := name_eq (N := N) (by omega) a1
  unfold f_BootMaker_file f_Plan_addFile f_Model_file
  rw [e1, e2, bd_e, bd_e]
  dsimp only [lt_]
  by_cases hv0 : v = 0
  · rw [if_pos ((lgc0 v).mpr hv0), if_pos ((lgc0 v).mpr hv0), bd_e]
    exact ⟨-2, nf, nm, sz, se, sc, hnf, hok, rfl, rfl⟩
  · have hc : ¬ lg_cmp v 0 = 0 := fun q => hv0 ((lgc0 v).mp q)
    rw [if_neg hc, if_neg hc, in_eq, bd_e]
    by_cases h2 : (0 : Int32) ≤ a2 ∧ a2 ≤ 9000
    · rw [if_neg (Int32.not_lt.mpr h2.1), if_neg (Int32.not_lt.mpr h2.2), if_pos h2, if_neg (show ¬ (1 : Int32) = 0 by decide), in_eq, bd_e]
      by_cases h3 : (0 : Int32) ≤ a3 ∧ a3 ≤ 255
      · rw [if_neg (Int32.not_lt.mpr h3.1), if_pos h3.2, if_pos h3, if_pos (show ¬ (1 : Int32) = 0 by decide)]
        obtain ⟨z, f1, f2, hz⟩ := fileNamed_eq hnf hN nm v
        rw [f1, f2, bd_e, bd_e]
        rcases hz with ⟨rfl, -⟩ | ⟨k, hk, rfl, -⟩
        · rw [if_pos rfl, if_pos (show (-1 : Int32) < 0 by decide)]
          by_cases h4 : nf < 12
          · rw [if_pos (show nI nf < 12 from nI_lt (a := nf) (b := 12) h4 (by decide)), if_pos (show ¬ nI nf = 12 from fun h => by rw [show (12 : Int32) = nI 12 from rfl, nI_eq (by omega) (by omega)] at h; omega)]
            rw [upl_in h4 (by decide), upl_in h4 (by decide), upi_in h4 (by decide), upi_in h4 (by decide), upi_in h4 (by decide), upi_in h4 (by decide), upz_in h4 (by decide), upz_in h4 (by decide), nI_1, nI_pred, bd_e]
            refine ⟨nI nf, nf + 1, vp_updL nm nf v, upd sz nf a2, upd se nf a3, upd sc nf (vp_nar .boolean a4), by omega, ?_, rfl, rfl⟩
            intro k hk
            by_cases hkn : k = nf
            · subst hkn
              rw [pk_uLs, pk_us, pk_us]
              obtain ⟨n2, -, q2, g2⟩ := i32_in (lo := 0) (hi := 9000) (by decide) h2.1 h2.2 (by decide)
              obtain ⟨n3, -, q3, g3⟩ := i32_in (lo := 0) (hi := 255) (by decide) h3.1 h3.2 (by decide)
              exact ⟨hv.resolve_left hv0, ⟨n2, g2, q2⟩, n3, g3, q3⟩
            · rw [pk_uLn hkn, pk_un hkn, pk_un hkn]
              exact hok k (by omega)
          · have h5 : nf = 12 := by omega
            subst h5
            rw [if_neg (show ¬ nI 12 < 12 by decide), if_neg (show ¬ ¬ nI 12 = 12 by decide), bd_e]
            exact ⟨-3, 12, nm, sz, se, sc, hnf, hok, rfl, rfl⟩
        · rw [if_neg (show ¬ nI k = -1 from fun h => nI_pos (n := k) (by omega) (by rw [h]; decide)), if_neg (nI_pos (by omega)), bd_e]
          exact ⟨-4, nf, nm, sz, se, sc, hnf, hok, rfl, rfl⟩
      · rw [if_neg h3, if_neg (show ¬ ¬ (0 : Int32) = 0 by decide)]
        by_cases h4 : a3 < 0
        · rw [if_pos h4, bd_e]
          exact ⟨-2, nf, nm, sz, se, sc, hnf, hok, rfl, rfl⟩
        · rw [if_neg h4, if_neg (fun h => h3 ⟨Int32.not_lt.mp h4, h⟩), bd_e]
          exact ⟨-2, nf, nm, sz, se, sc, hnf, hok, rfl, rfl⟩
    · rw [if_neg h2, if_pos (show (0 : Int32) = 0 from rfl)]
      by_cases h4 : a2 < 0
      · rw [if_pos h4, bd_e]
        exact ⟨-2, nf, nm, sz, se, sc, hnf, hok, rfl, rfl⟩
      · rw [if_neg h4, if_pos (Int32.not_le.mp (fun h => h2 ⟨Int32.not_lt.mp h4, h⟩)), bd_e]
        exact ⟨-2, nf, nm, sz, se, sc, hnf, hok, rfl, rfl⟩
