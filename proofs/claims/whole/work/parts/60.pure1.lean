/-! pure: bytes in words; the sum -/
def bY (x j : Nat) : Nat := x / 2 ^ (8 * j) % 256
theorem bY_tb (x j i : Nat) : (bY x j).testBit i = (decide (i < 8) && x.testBit (8 * j + i)) := by
  unfold bY
  rw [show (256 : Nat) = 2 ^ 8 from rfl, Nat.testBit_mod_two_pow, Nat.testBit_div_two_pow]
  first | rfl | rw [Nat.add_comm]
theorem bY_lt (x j : Nat) : bY x j < 256 := Nat.mod_lt _ (by decide)
theorem sh8 : ∀ k : Nat, k < 8 → ((nI (8 * k)).toInt64 &&& 63).toBitVec.smod 64 = BitVec.ofNat 64 (8 * k) := by decide +kernel
theorem t255 (i : Nat) : (255#64).getLsbD i = decide (i < 8) := by
  by_cases h : i < 64
  · have : ∀ i : Fin 64, (255#64).getLsbD i.val = decide (i.val < 8) := by decide +kernel
    exact this ⟨i, h⟩
  · rw [BitVec.getLsbD_of_ge _ _ (by omega)]
    simp; omega
theorem gp_word (w v : Int64) {j k : Nat} (hj : j < 8) (hk : k < 8) :
    bY ((w &&& (((255 : Int64) <<< ((nI (8 * k)).toInt64 &&& 63)) ^^^ (-1))) ||| ((v &&& 255) <<< ((nI (8 * k)).toInt64 &&& 63))).toBitVec.toNat j = if j = k then v.toBitVec.toNat % 256 else bY w.toBitVec.toNat j := by
  have hs := sh8 k hk
  have h1 : (255 : Int64).toBitVec = 255#64 := rfl
  have h2 : (-1 : Int64).toBitVec = BitVec.allOnes 64 := by decide +kernel
  have hk2 : (BitVec.ofNat 64 (8 * k)).toNat = 8 * k := by rw [BitVec.toNat_ofNat, Nat.mod_eq_of_lt (by omega)]
  generalize ((nI (8 * k)).toInt64 &&& 63) = sh at hs ⊢
  apply Nat.eq_of_testBit_eq
  intro i
  rw [bY_tb]
  simp only [Int64.toBitVec_or, Int64.toBitVec_and, Int64.toBitVec_xor, Int64.toBitVec_shiftLeft, hs, h1, h2]
  rw [BitVec.testBit_toNat]
  simp only [BitVec.getLsbD_or, BitVec.getLsbD_and, BitVec.getLsbD_xor, BitVec.shiftLeft_eq', BitVec.getLsbD_shiftLeft, hk2, t255, BitVec.getLsbD_allOnes]
  by_cases hi : i < 8
  · have e1 : 8 * j + i < 64 := by omega
    by_cases hjk : j = k
    · subst hjk
      rw [if_pos rfl, show (256 : Nat) = 2 ^ 8 from rfl, Nat.testBit_mod_two_pow, BitVec.testBit_toNat]
      have e2 : ¬ 8 * j + i < 8 * j := by omega
      have e3 : 8 * j + i - 8 * j = i := by omega
      simp [hi, e1, e2, e3]
    · rw [if_neg hjk, bY_tb, BitVec.testBit_toNat]
      by_cases hlt : j < k
      · have e2 : 8 * j + i < 8 * k := by omega
        simp [hi, e1, e2]
      · have e2 : ¬ 8 * j + i < 8 * k := by omega
        have e3 : ¬ 8 * j + i - 8 * k < 8 := by omega
        simp [hi, e1, e2, e3]
  · simp [hi]
    by_cases hjk : j = k
    · rw [if_pos hjk, show (256 : Nat) = 2 ^ 8 from rfl, Nat.testBit_mod_two_pow]; simp [hi]
    · rw [if_neg hjk, bY_tb]; simp [hi]
/-- the byte at address p of the words w -/
def gB (w : Nat → Int64) (p : Nat) : Nat := bY (w (p / 8)).toBitVec.toNat (p % 8)
/-- the words with byte v at p -/
def pB (w : Nat → Int64) (p : Nat) (v : Int32) : Nat → Int64 := vp_updL w (p / 8) ((w (p / 8) &&& (((255 : Int64) <<< ((nI (8 * (p % 8))).toInt64 &&& 63)) ^^^ (-1))) ||| ((v.toInt64 &&& 255) <<< ((nI (8 * (p % 8))).toInt64 &&& 63)))
def lo8 (v : Int32) : Nat := v.toBitVec.toNat % 256
theorem lo8_l (v : Int32) : v.toInt64.toBitVec.toNat % 256 = lo8 v := by
  unfold lo8
  show (v.toBitVec.signExtend 64).toNat % 256 = _
  apply Nat.eq_of_testBit_eq
  intro i
  rw [show (256 : Nat) = 2 ^ 8 from rfl, Nat.testBit_mod_two_pow, Nat.testBit_mod_two_pow, BitVec.testBit_toNat, BitVec.testBit_toNat, BitVec.getLsbD_signExtend]
  by_cases hi : i < 8
  · simp [hi, show i < 64 by omega, show i < 32 by omega]
  · simp [hi]
theorem gB_pB (w : Nat → Int64) (p q : Nat) (v : Int32) : gB (pB w p v) q = if q = p then lo8 v else gB w q := by
  unfold gB pB vp_updL
  by_cases h : q / 8 = p / 8
  · rw [if_pos h, gp_word _ _ (Nat.mod_lt _ (by decide)) (Nat.mod_lt _ (by decide)), lo8_l]
    by_cases h2 : q % 8 = p % 8
    · rw [if_pos h2, if_pos (by omega)]
    · rw [if_neg h2, if_neg (fun e => h2 (by rw [e])), h]
  · rw [if_neg h, if_neg (fun e => h (by rw [e]))]
theorem lo8_lt (v : Int32) : lo8 v < 256 := Nat.mod_lt _ (by decide)
theorem gB_lt (w : Nat → Int64) (p : Nat) : gB w p < 256 := bY_lt _ _
