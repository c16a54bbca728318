theorem wb_tb (n : Nat) : (lN n).toBitVec = BitVec.ofNat 64 n := rfl
theorem wb_inj {a b : Int64} (h : a.toBitVec = b.toBitVec) : a = b := Int64.toBitVec_inj.mp h
theorem wb_tn {n : Nat} (h : n < 2 ^ 64) : (lN n).toBitVec.toNat = n := by rw [wb_tb, BitVec.toNat_ofNat, Nat.mod_eq_of_lt h]
theorem wb_of (x : Int64) : ∃ n, n < 2 ^ 64 ∧ x = lN n := ⟨x.toBitVec.toNat, x.toBitVec.isLt, wb_inj (by rw [wb_tb]; simp)⟩
theorem wb_of32 (x : Int32) : ∃ n, n < 2 ^ 32 ∧ x = nI n := ⟨x.toBitVec.toNat, x.toBitVec.isLt, Int32.toBitVec_inj.mp (by show _ = BitVec.ofNat 32 _; simp)⟩
theorem wb_c : ∀ k, k < 64 → ((nI k).toInt64 &&& 63) = lN k := by decide +kernel
theorem wb_cu : ∀ k, k < 64 → ((nI k).toInt64.toUInt64 &&& Int64.toUInt64 63) = UInt64.ofNat k := by decide +kernel
theorem wb_sm : ∀ k, k < 64 → (BitVec.ofNat 64 k).smod 64 = BitVec.ofNat 64 k := by decide +kernel
theorem wb_pw {a b : Nat} (h : a ≤ b) : 2 ^ b = 2 ^ a * 2 ^ (b - a) := by rw [← Nat.pow_add]; congr 1; omega
theorem wb_lt2 {a b : Nat} (h : a < b) : 2 ^ a < 2 ^ b := Nat.pow_lt_pow_right (by decide) h
theorem wb_mod (n : Nat) : lN n = lN (n % 2 ^ 64) := wb_inj (by rw [wb_tb, wb_tb]; apply BitVec.eq_of_toNat_eq; rw [BitVec.toNat_ofNat, BitVec.toNat_ofNat, Nat.mod_mod])
theorem wb_shr {n k : Nat} (hn : n < 2 ^ 64) (hk : k < 64) : ((lN n).toUInt64 >>> ((nI k).toInt64.toUInt64 &&& Int64.toUInt64 63)).toInt64 = lN (n / 2 ^ k) := by
  rw [wb_cu k hk]
  apply wb_inj
  apply BitVec.eq_of_toNat_eq
  show ((lN n).toUInt64 >>> UInt64.ofNat k).toNat = (BitVec.ofNat 64 _).toNat
  have h1 : (UInt64.ofNat k).toNat = k := by
    show (BitVec.ofNat 64 k).toNat = k
    rw [BitVec.toNat_ofNat, Nat.mod_eq_of_lt (by omega)]
  have h2 : (lN n).toUInt64.toNat = n := wb_tn hn
  rw [UInt64.toNat_shiftRight, h1, h2, Nat.mod_eq_of_lt hk, Nat.shiftRight_eq_div_pow, BitVec.toNat_ofNat, Nat.mod_eq_of_lt (Nat.lt_of_le_of_lt (Nat.div_le_self _ _) hn)]
theorem wb_shl (n : Nat) {k : Nat} (hk : k < 64) : lN n <<< ((nI k).toInt64 &&& 63) = lN (n * 2 ^ k) := by
  rw [wb_c k hk]
  apply wb_inj
  rw [Int64.toBitVec_shiftLeft, wb_tb, wb_tb, wb_tb, wb_sm k hk]
  apply BitVec.eq_of_toNat_eq
  rw [BitVec.shiftLeft_eq', BitVec.toNat_shiftLeft, BitVec.toNat_ofNat, BitVec.toNat_ofNat, BitVec.toNat_ofNat, Nat.mod_eq_of_lt (show k < 2 ^ 64 by omega), Nat.shiftLeft_eq, Nat.mul_mod, Nat.mod_mod, ← Nat.mul_mod]
theorem wb_and {a b : Nat} (ha : a < 2 ^ 64) (hb : b < 2 ^ 64) : lN a &&& lN b = lN (a &&& b) := by
  apply wb_inj
  rw [Int64.toBitVec_and, wb_tb, wb_tb, wb_tb]
  apply BitVec.eq_of_toNat_eq
  rw [BitVec.toNat_and, BitVec.toNat_ofNat, BitVec.toNat_ofNat, BitVec.toNat_ofNat, Nat.mod_eq_of_lt ha, Nat.mod_eq_of_lt hb, Nat.mod_eq_of_lt (Nat.and_lt_two_pow _ hb)]
theorem wb_or {a b : Nat} (ha : a < 2 ^ 64) (hb : b < 2 ^ 64) : lN a ||| lN b = lN (a ||| b) := by
  apply wb_inj
  rw [Int64.toBitVec_or, wb_tb, wb_tb, wb_tb]
  apply BitVec.eq_of_toNat_eq
  rw [BitVec.toNat_or, BitVec.toNat_ofNat, BitVec.toNat_ofNat, BitVec.toNat_ofNat, Nat.mod_eq_of_lt ha, Nat.mod_eq_of_lt hb, Nat.mod_eq_of_lt (Nat.or_lt_two_pow ha hb)]
theorem wb_mask {n k : Nat} (hn : n < 2 ^ 64) (hk : k < 64) : lN n &&& lN (2 ^ k - 1) = lN (n % 2 ^ k) := by
  rw [wb_and hn (by have := wb_lt2 hk; omega), Nat.and_two_pow_sub_one_eq_mod]
theorem u_tn {n : Nat} (h : n < 2 ^ 64) : (UInt64.ofNat n).toNat = n := Nat.mod_eq_of_lt h
theorem g_or {k p a b : Nat} (hp : 2 ^ k = p) (ha : a < p) (h : b * p + a < 2 ^ 64) : lN (b * p) ||| lN a = lN (b * p + a) := by
  subst hp
  have h1 : b * 2 ^ k ||| a = b * 2 ^ k + a := by rw [← Nat.shiftLeft_eq, Nat.shiftLeft_add_eq_or_of_lt ha]
  have h3 : UInt64.ofNat (b * 2 ^ k) ||| UInt64.ofNat a = UInt64.ofNat (b * 2 ^ k + a) := UInt64.toNat_inj.mp (by rw [UInt64.toNat_or, u_tn (by omega), u_tn (by omega), u_tn h, h1])
  have h2 := congrArg UInt64.toInt64 h3
  exact h2

/-! pure: steps of the printed functions -/
theorem lp_s {F : Type} {z : F} {b : F → F} {n : Nat} : lp_ z b (n + 1) = b (lp_ z b n) := rfl
theorem bd_e {α β : Type} {a : α} {f : α → Option β} : bd_ (some a) f = f a := rfl
theorem ix_in {α β : Type} {n j : Nat} {f : Nat → α} {K : α → Option β} (hj : j < n) (hn : n < 2 ^ 31) : ix_ n f (nI j) K = K (f j) := by
  unfold ix_
  rw [if_neg (nI_in hj hn), nI_clamp (by omega)]
theorem upl_in {β : Type} {n j : Nat} {f : Nat → Int64} {x : Int64} {K : (Nat → Int64) → Option β} (hj : j < n) (hn : n < 2 ^ 31) : up_l n f (nI j) x K = K (vp_updL f j x) := by
  unfold up_l
  rw [if_neg (nI_in hj hn), nI_clamp (by omega)]
theorem upi_in {β : Type} {n j : Nat} {f : Nat → Int32} {x : Int32} {K : (Nat → Int32) → Option β} (hj : j < n) (hn : n < 2 ^ 31) : up_i n f (nI j) x K = K (upd f j x) := by
  unfold up_i
  rw [if_neg (nI_in hj hn), nI_clamp (by omega)]
theorem upb_in {β : Type} {n j : Nat} {f : Nat → Int32} {x : Int32} {K : (Nat → Int32) → Option β} (hj : j < n) (hn : n < 2 ^ 31) : up_b n f (nI j) x K = K (upd f j (vp_nar .byte x)) := by
  unfold up_b
  rw [if_neg (nI_in hj hn), nI_clamp (by omega)]
theorem upz_in {β : Type} {n j : Nat} {f : Nat → Int32} {x : Int32} {K : (Nat → Int32) → Option β} (hj : j < n) (hn : n < 2 ^ 31) : up_z n f (nI j) x K = K (upd f j (vp_nar .boolean x)) := by
  unfold up_z
  rw [if_neg (nI_in hj hn), nI_clamp (by omega)]
/-! pure: Store's reads and writes, by bytes -/
theorem and255 (y : Nat) : nI y &&& 255 = nI (y % 256) := by
  rw [pk_and (nI y) (m := 255) 8 (by decide)]
  congr 1
  show (BitVec.ofNat 32 y).toNat % 2 ^ 8 = y % 256
  rw [BitVec.toNat_ofNat]
  omega
theorem get_in {len n p : Nat} {w : Nat → Int64} (hp : p < len) (hl : len ≤ 8 * n) (hn : n < 2 ^ 27) : f_Store_get (nI p) (nI len) n w = some (nI (gB w p)) := by
  unfold f_Store_get
  rw [if_neg (nI_pos (by omega)), if_neg (nI_ge hp (by omega))]
  dsimp only [lt_]
  have h1 : nI p >>> ((3 : Int32) &&& 31) = nI (p / 8) := pk_shrN (by omega) _ 3 (by decide)
  have h2 : nI p &&& 7 = nI (p % 8) := pk_andN (by omega) 3 (by decide)
  have h3 : nI (p % 8) <<< ((3 : Int32) &&& 31) = nI (p % 8 * 8) := pk_shlN _ 3 (by decide) (by omega)
  rw [h1, h2, h3, ix_in (show p / 8 < n by omega) (by omega)]
  obtain ⟨x, hx, e⟩ := wb_of (w (p / 8))
  unfold gB bY
  rw [e, wb_shr hx (by omega), lN_i, and255, wb_tn hx, Nat.mul_comm (p % 8) 8]
theorem get_out {len : Int32} {n : Nat} {x : Int32} {w : Nat → Int64} (h : x < 0 ∨ len ≤ x) : f_Store_get x len n w = some 0 := by
  unfold f_Store_get
  by_cases h1 : x < 0
  · rw [if_pos h1]
  · rw [if_neg h1, if_pos (h.resolve_left h1)]
theorem put_in {len n p : Nat} {w : Nat → Int64} (v : Int32) (hp : p < len) (hl : len ≤ 8 * n) (hn : n < 2 ^ 27) : f_Store_put (nI p) w (nI len) n v = some (pB w p v) := by
  unfold f_Store_put
  rw [if_neg (nI_pos (by omega)), if_neg (nI_ge hp (by omega))]
  dsimp only [lt_]
  have h1 : nI p >>> ((3 : Int32) &&& 31) = nI (p / 8) := pk_shrN (by omega) _ 3 (by decide)
  have h2 : nI p &&& 7 = nI (p % 8) := pk_andN (by omega) 3 (by decide)
  have h3 : nI (p % 8) <<< ((3 : Int32) &&& 31) = nI (8 * (p % 8)) := by rw [Nat.mul_comm]; exact pk_shlN _ 3 (by decide) (by omega)
  rw [h1, h2, h3, ix_in (show p / 8 < n by omega) (by omega), upl_in (show p / 8 < n by omega) (by omega)]
  rfl
theorem has_eq {len p : Nat} (hl : len < 2 ^ 31) (hp : p < 2 ^ 31) : f_Store_has (nI p) (nI len) = some (if p < len then 1 else 0) := by
  unfold f_Store_has
  rw [if_neg (nI_pos hp)]
  by_cases h : p < len
  · rw [if_neg (nI_ge h hl), if_pos h]
  · rw [if_pos (nI_le (by omega) hp), if_neg h]
/-- k bytes of b from p on, the lowest first -/
def loN (b : Nat → Nat) : Nat → Nat → Nat
  | _, 0 => 0
  | p, k + 1 => b p + 256 * loN b (p + 1) k
theorem loN_lt {b : Nat → Nat} (hb : ∀ p, b p < 256) : ∀ k p, loN b p k < 256 ^ k
  | 0, _ => by simp [loN]
  | k + 1, p => by
    have h1 := loN_lt hb k (p + 1)
    have h2 := hb p
    unfold loN
    rw [Nat.pow_succ]
    omega
theorem getLow_loop {len n p k : Nat} {w : Nat → Int64} (hp : p + k ≤ len) (hl : len ≤ 8 * n) (hn : n < 2 ^ 27) (hk : k ≤ 8) : ∀ (j N : Nat), j ≤ k → j < N → lp_ (fun _ _ => none) (f_Store_getLow_L7 (nI p) (nI len) n w) N (nI j + (-1)) (lN (loN (gB w) (p + j) (k - j))) = some (lN (loN (gB w) p k)) := by
  intro j
  induction j with
  | zero =>
    intro N _ hN
    obtain ⟨M, rfl⟩ : ∃ M, N = M + 1 := ⟨N - 1, by omega⟩
    rw [lp_s]
    unfold f_Store_getLow_L7
    rw [if_pos (by decide)]
    rfl
  | succ j ih =>
    intro N hj hN
    obtain ⟨M, rfl⟩ : ∃ M, N = M + 1 := ⟨N - 1, by omega⟩
    rw [lp_s]
    have hkj : k - j = (k - (j + 1)) + 1 := by omega
    have hlt := loN_lt (gB_lt w) (k - (j + 1)) (p + (j + 1))
    have hpw : 256 ^ (k - (j + 1)) * 256 ≤ 2 ^ 64 := by
      rw [← Nat.pow_succ, show (256 : Nat) = 2 ^ 8 from rfl, ← Nat.pow_mul]
      exact Nat.pow_le_pow_right (by decide) (by omega)
    have hb := gB_lt w (p + j)
    unfold f_Store_getLow_L7
    rw [pk_m1, if_neg (nI_pos (by omega))]
    dsimp only [lt_]
    rw [nI_add, get_in (by omega) hl hn, bd_e]
    show lp_ (fun _ _ => none) (f_Store_getLow_L7 (nI p) (nI len) n w) M (nI j + (-1)) ((lN (loN (gB w) (p + (j + 1)) (k - (j + 1))) <<< ((8 : Int32).toInt64 &&& 63)) ||| (nI (gB w (p + j))).toInt64) = _
    rw [show ((8 : Int32).toInt64 &&& 63) = ((nI 8).toInt64 &&& 63) from rfl, wb_shl _ (by decide), nI_l (by omega), g_or (k := 8) (p := 2 ^ 8) rfl hb (by omega)]
    have e : loN (gB w) (p + (j + 1)) (k - (j + 1)) * 2 ^ 8 + gB w (p + j) = loN (gB w) (p + j) (k - j) := by
      rw [hkj]
      show _ = gB w (p + j) + 256 * loN (gB w) (p + j + 1) (k - (j + 1))
      rw [show p + (j + 1) = p + j + 1 by omega]
      omega
    rw [e]
    exact ih M (by omega) (by omega)
theorem getLow_eq {len n p k N : Nat} {w : Nat → Int64} (hp : p + k ≤ len) (hl : len ≤ 8 * n) (hn : n < 2 ^ 27) (hk : k ≤ 8) (hN : k < N) : f_Store_getLow N (nI k) (nI p) (nI len) n w = some (lN (loN (gB w) p k)) := by
  have h := getLow_loop (w := w) hp hl hn hk k N (Nat.le_refl _) hN
  rw [Nat.sub_self] at h
  unfold f_Store_getLow
  dsimp only [lt_]
  rw [show nI k - 1 = nI k + (-1) from by rw [Int32.sub_eq_add_neg]]
  exact h
