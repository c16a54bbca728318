/-! pure: entries of the cluster table -/
theorem or8 {a c : Nat} (ha : a < 256) (hc : c < 256) : nI a ||| nI c <<< ((8 : Int32) &&& 31) = nI (a + 256 * c) := by
  have h1 : c * 2 ^ 8 ||| a = c * 2 ^ 8 + a := by rw [← Nat.shiftLeft_eq, Nat.shiftLeft_add_eq_or_of_lt (show a < 2 ^ 8 by omega)]
  apply Int32.toBitVec_inj.mp
  rw [Int32.toBitVec_or, Int32.toBitVec_shiftLeft]
  apply BitVec.eq_of_toNat_eq
  rw [show (((8 : Int32) &&& 31).toBitVec.smod 32) = 8#32 by decide, BitVec.toNat_or, BitVec.shiftLeft_eq', BitVec.toNat_shiftLeft, pk_tn (by omega), pk_tn (by omega), pk_tn (by omega), show (8#32).toNat = 8 from rfl, Nat.shiftLeft_eq, Nat.mod_eq_of_lt (by omega), Nat.or_comm, h1]
  omega
/-- the entry c of the cluster table behind the sector s -/
def enN (b : Nat → Nat) (s c : Nat) : Nat := if c % 2 = 0 then loN b (512 * (s + 1) + c * 3 / 2) 2 % 4096 else loN b (512 * (s + 1) + c * 3 / 2) 2 / 16
theorem loN2 {b : Nat → Nat} (hb : ∀ p, b p < 256) (p : Nat) : loN b p 2 < 65536 := Nat.lt_of_lt_of_le (loN_lt hb 2 p) (by decide)
theorem enN_lt {b : Nat → Nat} (hb : ∀ p, b p < 256) (s c : Nat) : enN b s c < 4096 := by
  unfold enN
  have := loN2 hb (512 * (s + 1) + c * 3 / 2)
  split <;> omega
theorem en_fin {v c : Nat} (hv : v < 65536) (hc : c < 2 ^ 20) : (if ¬ nI (c % 2) = 0 then some (nI v >>> ((4 : Int32) &&& 31)) else some (nI v &&& 4095)) = some (nI (if c % 2 = 0 then v % 4096 else v / 16)) := by
  by_cases h : c % 2 = 0
  · rw [h, if_neg (by decide), if_pos rfl, pk_andN (by omega) 12 (by decide)]
  · have h' : c % 2 = 1 := by omega
    rw [h', if_pos (by decide), if_neg (by decide), pk_shrN (by omega) _ 4 (by decide)]
theorem cEn_eq {S s c N : Nat} {w : Nat → Int64} (hS : 100 ≤ S ∧ S ≤ 600) (hN : 400000 ≤ N) (hp : 512 * (s + 1) + c * 3 / 2 + 2 ≤ 512 * S) (hc : c < 2 ^ 20) : f_Firmware_clusterEntry N (nI s) (nI c) (nI (512 * S)) (64 * S) w = some (nI (enN (gB w) s c)) := by
  unfold f_Firmware_clusterEntry
  dsimp only [lt_]
  rw [nI_1, show nI (s + 1) * 512 = nI ((s + 1) * 512) from pk_mul _ 512, show nI c * 3 = nI (c * 3) from pk_mul _ 3, show nI (c * 3) / 2 = nI (c * 3 / 2) from pk_div (d := 2) (by omega) (by decide) (by decide), nI_add, show (s + 1) * 512 = 512 * (s + 1) by omega, cl 2 (k := 2) rfl (by omega) (by omega) (by omega) (by decide) (by omega), bd_e, lN_i, show nI c - nI c / 2 * 2 = nI (c % 2) from pk_rem (d := 2) (by omega) (by decide) (by decide)]
  exact en_fin (loN2 (gB_lt w) _) hc
theorem mEn_eq {s c : Nat} {d : Nat → Int32} (hp : 512 * (s + 1) + c * 3 / 2 + 2 ≤ 307200) (hc : c < 2 ^ 20) : f_Model_entryAt (nI (s + 1)) (nI c) d = some (nI (enN (mB d) s c)) := by
  unfold f_Model_entryAt
  dsimp only [lt_]
  rw [show (512 : Int32) * nI (s + 1) = nI (512 * (s + 1)) from pk_mul 512 _, show nI c * 3 = nI (c * 3) from pk_mul _ 3, show nI (c * 3) / 2 = nI (c * 3 / 2) from pk_div (d := 2) (by omega) (by decide) (by decide), nI_add, mget_in (by omega), bd_e, nI_1, mget_in (by omega), bd_e, or8 (mB_lt d _) (mB_lt d _), show nI c - nI c / 2 * 2 = nI (c % 2) from pk_rem (d := 2) (by omega) (by decide) (by decide)]
  have e : mB d (512 * (s + 1) + c * 3 / 2) + 256 * mB d (512 * (s + 1) + c * 3 / 2 + 1) = loN (mB d) (512 * (s + 1) + c * 3 / 2) 2 := by
    show _ = mB d _ + 256 * (mB d _ + 256 * 0)
    omega
  rw [e]
  exact en_fin (loN2 (mB_lt d) _) hc
theorem en_congr {S s c : Nat} {b b' : Nat → Nat} (h : ∀ p, p < 512 * S → b p = b' p) (hp : 512 * (s + 1) + c * 3 / 2 + 2 ≤ 512 * S) : enN b s c = enN b' s c := by
  unfold enN
  rw [loN_congr 2 _ (fun q h1 h2 => h q (by omega))]
