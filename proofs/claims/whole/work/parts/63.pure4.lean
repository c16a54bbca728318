/-! pure: the sum: a table of eight steps -/
def c1 (x : BitVec 32) : BitVec 32 := if x.getLsbD 0 = true then (x >>> 1) ^^^ 0xEDB88320#32 else x >>> 1
def cB : Nat → BitVec 32 → BitVec 32
  | 0, x => x
  | k + 1, x => cB k (c1 x)
theorem c1_xor (x y : BitVec 32) : c1 (x ^^^ y) = c1 x ^^^ c1 y := by
  apply BitVec.eq_of_getLsbD_eq
  intro i hi
  unfold c1
  rw [BitVec.getLsbD_xor]
  cases hx : x.getLsbD 0 <;> cases hy : y.getLsbD 0 <;> simp only [Bool.xor_false, Bool.xor_true, Bool.not_false, Bool.not_true, if_true, if_false, Bool.false_eq_true, BitVec.getLsbD_xor, BitVec.getLsbD_ushiftRight] <;> cases x.getLsbD (1 + i) <;> cases y.getLsbD (1 + i) <;> cases (0xEDB88320#32).getLsbD i <;> rfl
theorem cB_xor : ∀ (k : Nat) (x y : BitVec 32), cB k (x ^^^ y) = cB k x ^^^ cB k y
  | 0, _, _ => rfl
  | k + 1, x, y => by
    show cB k (c1 (x ^^^ y)) = cB k (c1 x) ^^^ cB k (c1 y)
    rw [c1_xor, cB_xor k]
theorem c1_shl {y : BitVec 32} (hy : y.toNat < 2 ^ 24) {k : Nat} (hk : k < 8) : c1 (y <<< (k + 1)) = y <<< k := by
  have h0 : (y <<< (k + 1)).getLsbD 0 = false := by rw [BitVec.getLsbD_shiftLeft]; simp
  unfold c1
  rw [h0, if_neg (by decide)]
  apply BitVec.eq_of_getLsbD_eq
  intro i hi
  rw [BitVec.getLsbD_ushiftRight, BitVec.getLsbD_shiftLeft, BitVec.getLsbD_shiftLeft]
  have e : 1 + i - (k + 1) = i - k := by omega
  rw [e]
  by_cases h1 : i < k
  · simp [h1, show 1 + i < k + 1 by omega]
  · by_cases h2 : 1 + i < 32
    · simp [h1, h2, hi, show ¬ 1 + i < k + 1 by omega]
    · have h3 : y.getLsbD (i - k) = false := by
        rw [← BitVec.testBit_toNat]
        exact Nat.testBit_lt_two_pow (Nat.lt_of_lt_of_le hy (Nat.pow_le_pow_right (by decide) (by omega)))
      simp [h3]
theorem cB_shl {y : BitVec 32} (hy : y.toNat < 2 ^ 24) : ∀ k, k ≤ 8 → cB k (y <<< k) = y
  | 0, _ => by show y <<< 0 = y; simp
  | k + 1, hk => by
    show cB k (c1 (y <<< (k + 1))) = y
    rw [c1_shl hy (by omega), cB_shl hy k (by omega)]
theorem bsplit (x : BitVec 32) : x = (x &&& 255#32) ^^^ ((x >>> 8) <<< 8) := by
  apply BitVec.eq_of_getLsbD_eq
  intro i hi
  rw [BitVec.getLsbD_xor, BitVec.getLsbD_and, BitVec.getLsbD_shiftLeft, BitVec.getLsbD_ushiftRight]
  have h255 : (255#32).getLsbD i = decide (i < 8) := by
    have : ∀ i : Fin 32, (255#32).getLsbD i.val = decide (i.val < 8) := by decide +kernel
    exact this ⟨i, hi⟩
  rw [h255]
  by_cases h : i < 8
  · simp [h]
  · simp [h, hi, show 8 + (i - 8) = i by omega]
theorem cB8 (x : BitVec 32) : cB 8 x = cB 8 (x &&& 255#32) ^^^ (x >>> 8) := by
  have hy : (x >>> 8).toNat < 2 ^ 24 := by
    rw [BitVec.toNat_ushiftRight, Nat.shiftRight_eq_div_pow]
    have := x.isLt
    omega
  have h := cB_xor 8 (x &&& 255#32) ((x >>> 8) <<< 8)
  rw [← bsplit, cB_shl hy 8 (by decide)] at h
  exact h
/-- one step, and k steps, as the programs do them -/
def cS (v : Int32) : Int32 := if ¬ v &&& 1 = 1 then (v.toUInt32 >>> ((1 : Int32).toUInt32 &&& Int32.toUInt32 31)).toInt32 else (v.toUInt32 >>> ((1 : Int32).toUInt32 &&& Int32.toUInt32 31)).toInt32 ^^^ (-306674912)
def cN : Nat → Int32 → Int32
  | 0, v => v
  | k + 1, v => cN k (cS v)
theorem ush_bv (v s : Int32) (k : Nat) (hs : ((s.toUInt32 &&& Int32.toUInt32 31).toBitVec % 32).toNat = k) : (v.toUInt32 >>> (s.toUInt32 &&& Int32.toUInt32 31)).toInt32.toBitVec = v.toBitVec >>> k := by
  apply BitVec.eq_of_toNat_eq
  rw [pk_ushr v s k hs, BitVec.toNat_ushiftRight, Nat.shiftRight_eq_div_pow]
theorem odd_bv (v : Int32) : v &&& 1 = 1 ↔ v.toBitVec.getLsbD 0 = true := by
  rw [← Int32.toBitVec_inj]
  show v.toBitVec &&& 1#32 = 1#32 ↔ _
  constructor
  · intro h
    have := congrArg (fun x => BitVec.getLsbD x 0) h
    simpa using this
  · intro h
    apply BitVec.eq_of_getLsbD_eq
    intro i hi
    rw [BitVec.getLsbD_and]
    have h1 : (1#32).getLsbD i = decide (i = 0) := by
      have : ∀ i : Fin 32, (1#32).getLsbD i.val = decide (i.val = 0) := by decide +kernel
      exact this ⟨i, hi⟩
    rw [h1]
    by_cases h0 : i = 0
    · subst h0; simp [h]
    · simp [h0]
theorem cS_bv (v : Int32) : (cS v).toBitVec = c1 v.toBitVec := by
  unfold cS c1
  by_cases h : v &&& 1 = 1
  · rw [if_neg (not_not_intro h), if_pos ((odd_bv v).mp h), Int32.toBitVec_xor, ush_bv v 1 1 (by decide)]
    rfl
  · rw [if_pos h, if_neg (fun q => h ((odd_bv v).mpr q)), ush_bv v 1 1 (by decide)]
theorem cN_bv : ∀ (k : Nat) (v : Int32), (cN k v).toBitVec = cB k v.toBitVec
  | 0, _ => rfl
  | k + 1, v => by
    show (cN k (cS v)).toBitVec = cB k (c1 v.toBitVec)
    rw [cN_bv k, cS_bv]
theorem cN8 (v : Int32) : cN 8 v = cN 8 (v &&& 255) ^^^ (v.toUInt32 >>> ((8 : Int32).toUInt32 &&& Int32.toUInt32 31)).toInt32 := by
  apply Int32.toBitVec_inj.mp
  rw [Int32.toBitVec_xor, cN_bv, cN_bv, ush_bv v 8 8 (by decide), Int32.toBitVec_and, cB8]
  rfl
theorem goesOn_loop : ∀ (r i N : Nat) (v : Int32), i + r = 8 → r < N → lp_ (fun _ _ => none) f_Model_goesOn_L6 N (nI i) v = some (cN r v) := by
  intro r
  induction r with
  | zero =>
    intro i N v hi hN
    obtain ⟨M, rfl⟩ : ∃ M, N = M + 1 := ⟨N - 1, by omega⟩
    rw [lp_s]
    rw [f_Model_goesOn_L6, if_pos (show (8 : Int32) ≤ nI i from nI_le (a := 8) (b := i) (by omega) (by omega))]
    rfl
  | succ r ih =>
    intro i N v hi hN
    obtain ⟨M, rfl⟩ : ∃ M, N = M + 1 := ⟨N - 1, by omega⟩
    rw [lp_s]
    rw [f_Model_goesOn_L6, if_neg (show ¬ (8 : Int32) ≤ nI i from nI_ge (a := i) (b := 8) (by omega) (by omega))]
    dsimp only [lt_]
    rw [nI_1]
    show _ = some (cN r (cS v))
    unfold cS
    by_cases h : v &&& 1 = 1
    · rw [if_neg (not_not_intro h), if_neg (not_not_intro h)]
      exact ih (i + 1) M _ (by omega) (by omega)
    · rw [if_pos h, if_pos h]
      exact ih (i + 1) M _ (by omega) (by omega)
theorem goesOn_eq {N : Nat} (a b : Int32) (hN : 8 < N) : f_Model_goesOn N a b = some (cN 8 (a ^^^ b)) := goesOn_loop 8 0 N _ (by omega) hN
/-- the table -/
def isT (T : Nat → Int32) : Prop := ∀ j, j < 256 → T j = cN 8 (nI j)
theorem add_eq {T : Nat → Int32} (hT : isT T) (b : Int32) {y : Nat} (hy : y < 256) : f_Sums_add b (nI y) T = some (cN 8 (b ^^^ nI y)) := by
  unfold f_Sums_add
  dsimp only [lt_]
  have h := lo8_lt (b ^^^ nI y)
  rw [and_lo8, ix_in h (by decide), hT _ h, cN8 (b ^^^ nI y), and_lo8]
  congr 2
  apply Int32.toBitVec_inj.mp
  rw [ush_bv _ 8 8 (by decide), ush_bv _ 8 8 (by decide), Int32.toBitVec_xor]
  apply BitVec.eq_of_getLsbD_eq
  intro i hi
  rw [BitVec.getLsbD_ushiftRight, BitVec.getLsbD_ushiftRight, BitVec.getLsbD_xor]
  have h2 : (nI y).toBitVec.getLsbD (8 + i) = false := by
    rw [← BitVec.testBit_toNat, pk_tn (by omega)]
    exact Nat.testBit_lt_two_pow (Nat.lt_of_lt_of_le hy (show 2 ^ 8 ≤ 2 ^ (8 + i) from Nat.pow_le_pow_right (by decide) (by omega)))
  rw [h2]
  simp
