theorem find_eq {S N s : Nat} (hS : 100 ≤ S ∧ S ≤ 600) (hs : s < S) (hN : 400000 ≤ N) {w : Nat → Int64} {d : Nat → Int32} (hD : Alike_ S w d) (hok : hdrOk S s (gB w)) (hd fnd uu : Int32) : ∃ z : Int32, bd_ (f_Store_getLow N 8 (nI s * 512 + 72) (nI (512 * S)) (64 * S) w) (fun u26 => bd_ (f_Firmware_bootStartIn N (u26.toInt32 * 512) (nI (512 * S)) (64 * S) w (nI S)) (fun u29 => if ¬ u29 = -1 then some ((0 : Int32), hd, u29, uu) else some (4, hd, u29, uu))) = some (if z = -1 then 4 else 0, hd, z, uu) ∧ bd_ (f_Model_lowAt N 8 ((512 : Int32) * nI s + 72) d) (fun u1259 => lp_ (fun _ => none) (f_Model_byTable_L97 N hd fnd ((512 : Int32) * u1259.toInt32) d (nI S)) N 0) = some (if z = -1 then (4, hd, fnd) else (0, hd, z)) ∧ (z = -1 ∨ ∃ f, f < S ∧ z = nI f) := by
  have hle := hok.2.2.2.2.2.2.1
  have el : loN (gB w) (512 * s + 72) 8 = loN (mB d) (512 * s + 72) 8 := loN_congr 8 _ (fun q h1 h2 => hD q (by omega))
  rw [show nI s * 512 = nI (512 * s) from by rw [show (512 : Int32) = nI 512 from rfl, pk_mul, Nat.mul_comm], show (512 : Int32) * nI s = nI (512 * s) from pk_mul 512 s, show nI (512 * s) + 72 = nI (512 * s + 72) from nI_add _ 72, cl 8 (k := 8) rfl (by omega) (by omega) (by omega) (by decide) (by omega), bd_e, ml 8 (k := 8) rfl (by omega) (by decide) (by omega), bd_e, ← el]
  generalize loN (gB w) (512 * s + 72) 8 = e at hle ⊢
  rw [lN_i, show nI e * 512 = nI (512 * e) from by rw [show (512 : Int32) = nI 512 from rfl, pk_mul, Nat.mul_comm], show (512 : Int32) * nI e = nI (512 * e) from pk_mul 512 e]
  obtain ⟨z, z1, z2, z3⟩ := find_loop (N := N) (P := 512 * e) hS hN (by omega) hD hd fnd 128 0 N (by omega) (by omega)
  refine ⟨z, ?_, z2, z3⟩
  have z1' : f_Firmware_bootStartIn N (nI (512 * e)) (nI (512 * S)) (64 * S) w (nI S) = some z := z1
  rw [z1', bd_e]
  by_cases h : z = -1
  · rw [if_neg (not_not_intro h), if_pos h]
  · rw [if_pos h, if_neg h]
/-- booting by the table: both sides give the same reason, header, start -/
theorem table_eq {S N : Nat} (hS : 100 ≤ S ∧ S ≤ 600) (hN : 400000 ≤ N) {w : Nat → Int64} {d : Nat → Int32} {T : Nat → Int32} (hT : isT T) (hD : Alike_ S w d) (u : Int32) : ∃ r h b u' : Int32, f_Firmware_searchTable N (nI (512 * S)) (64 * S) w u T (nI S) 0 (-1) = some (r, h, b, u') ∧ f_Model_byTable N d (nI S) (-1) 0 = some (r, h, b) ∧ (r = 0 → ∃ f, f < S ∧ b = nI f) ∧ (r = 0 ∨ r = 2 ∨ r = 3 ∨ r = 4) := by
  unfold f_Firmware_searchTable f_Model_byTable
  rw [show (450 : Int32) = nI 450 from rfl, get_in (show 450 < 512 * S by omega) (by omega) (by omega), mget_in (by omega), bd_e, bd_e, hD 450 (by omega)]
  by_cases h0 : nI (mB d 450) = 238
  · rw [if_pos h0, if_pos h0]
    obtain ⟨r1, u1, e1, e2, e3⟩ := good_eq (s := 1) hS (by omega) hN hT hD u
    rw [show f_Firmware_isGoodHeader N 1 (nI (512 * S)) (64 * S) w u T (nI S) = _ from e1, show f_Model_isGood N 1 d (nI S) = _ from e2, bd_e, bd_e]
    dsimp only [lt_]
    rcases e3 with rfl | ⟨rfl, hok⟩
    · rw [if_pos (show (0 : Int32) = 0 from rfl), if_pos (show (0 : Int32) = 0 from rfl), show nI S - 1 = nI (S - 1) from pk_sub (a := S) (b := 1) (by omega)]
      obtain ⟨r2, u2, g1, g2, g3⟩ := good_eq (s := S - 1) hS (by omega) hN hT hD u1
      rw [g1, g2, bd_e, bd_e]
      rcases g3 with rfl | ⟨rfl, hok⟩
      · refine ⟨3, 0, -1, u2, ?_, ?_, fun q => absurd q (by decide), by decide⟩
        · rw [if_neg (show ¬ ¬ (0 : Int32) = 0 by decide)]
        · rw [if_pos (show (0 : Int32) = 0 from rfl), if_neg (show ¬ ¬ (0 : Int32) = 0 by decide)]
      · obtain ⟨z, z1, z2, z3⟩ := find_eq (s := S - 1) hS (by omega) hN hD hok 2 (-1) u2
        refine ⟨if z = -1 then 4 else 0, 2, z, u2, ?_, ?_, ?_, ?_⟩
        · rw [if_pos (show ¬ (1 : Int32) = 0 by decide)]
          exact z1
        · rw [if_neg (show ¬ (1 : Int32) = 0 by decide), if_pos (show ¬ (2 : Int32) = 0 by decide), if_pos (show ¬ (2 : Int32) = 1 by decide)]
          rw [z2]
          by_cases h : z = -1
          · rw [if_pos h, if_pos h, h]
          · rw [if_neg h, if_neg h]
        · intro q
          rcases z3 with h | h
          · rw [if_pos h] at q; exact absurd q (by decide)
          · exact h
        · by_cases h : z = -1
          · rw [if_pos h]; decide
          · rw [if_neg h]; exact Or.inl rfl
    · rw [if_neg (show ¬ (1 : Int32) = 0 by decide), if_neg (show ¬ (1 : Int32) = 0 by decide)]
      obtain ⟨z, z1, z2, z3⟩ := find_eq (s := 1) hS (by omega) hN hD hok 1 (-1) u1
      refine ⟨if z = -1 then 4 else 0, 1, z, u1, z1, ?_, ?_, ?_⟩
      · rw [if_pos (show ¬ (1 : Int32) = 0 by decide), if_neg (show ¬ ¬ (1 : Int32) = 1 by decide)]
        refine Eq.trans z2 ?_
        by_cases h : z = -1
        · rw [if_pos h, if_pos h, h]
        · rw [if_neg h, if_neg h]
      · intro q
        rcases z3 with h | h
        · rw [if_pos h] at q; exact absurd q (by decide)
        · exact h
      · by_cases h : z = -1
        · rw [if_pos h]; decide
        · rw [if_neg h]; exact Or.inl rfl
  · rw [if_neg h0, if_neg h0]
    exact ⟨2, 0, -1, u, rfl, rfl, fun q => absurd q (by decide), by decide⟩
