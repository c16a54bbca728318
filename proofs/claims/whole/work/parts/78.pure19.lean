theorem msum_loop {S N R z : Nat} {d : Nat → Int32} (hS : 100 ≤ S ∧ S ≤ 600) (hN : 400000 ≤ N) (hR : mB d 64 = R) (hR20 : R ≤ 20) (hz : z ≤ 9000) (ho : runsOk S (mB d) R 0) (ht : (z + 511) / 512 ≤ tot_ (mB d) R 0) (fnd : Int32) : ∀ (r i M : Nat), i + r = z → r < M → lp_ (fun _ _ => none) (f_Model_byLoader_L148 N (lN z) d (nI R) fnd (nI S)) M (nI i) (cR (lb_ (mB d) R) 0 i) = f_Model_byLoader_L148 N (lN z) d (nI R) fnd (nI S) (fun _ _ => none) (nI z) (cR (lb_ (mB d) R) 0 z) := by
  intro r
  induction r with
  | zero =>
    intro i M' hi hM
    obtain ⟨M, rfl⟩ : ∃ M, M' = M + 1 := ⟨M' - 1, by omega⟩
    have : i = z := by omega
    subst this
    have hc : 0 ≤ lg_cmp (lN i) (lN i) := by rw [(lgz (lN i) (lN i)).mpr rfl]; decide
    rw [lp_s, f_Model_byLoader_L148, f_Model_byLoader_L148]
    dsimp only [lt_]
    rw [nI_l (show i < 2 ^ 31 by omega), if_pos hc, if_pos hc]
  | succ r ih =>
    intro i M' hi hM
    obtain ⟨M, rfl⟩ : ∃ M, M' = M + 1 := ⟨M' - 1, by omega⟩
    have hlt := sec_lt R 0 (i / 512) ho (by omega)
    rw [← ih (i + 1) M (by omega) (by omega), lp_s, f_Model_byLoader_L148]
    dsimp only [lt_]
    rw [nI_l (show i < 2 ^ 31 by omega), if_neg (Int32.not_le.mpr ((lgn _ _).mpr ((pk_lLT (by omega) (by omega)).mpr (show i < z by omega)))), show (512 : Int32) = nI 512 from rfl, pk_rem (by omega) (by decide) (by decide), pk_div (by omega) (by decide) (by decide), runAt_eq hS hN hR hR20 ho (by omega) (by omega), bd_e, pk_mul, nI_add, mget_in (by omega), bd_e, goesOn_eq _ _ (by omega), bd_e, nI_1]
    show _ = lp_ (fun _ _ => none) (f_Model_byLoader_L148 N (lN z) d (nI R) fnd (nI S)) M (nI (i + 1)) (cN 8 (cR (lb_ (mB d) R) 0 i ^^^ nI (lb_ (mB d) R (0 + i))))
    rw [Nat.zero_add]
    rfl
theorem row4 (b : Nat → Nat) (h : Nat) : rowIs b h (sByt 9) 4 ↔ (nI (b (h + 0)) = 76 ∧ nI (b (h + 1)) = 79 ∧ nI (b (h + 2)) = 65 ∧ nI (b (h + 3)) = 68) := by
  constructor
  · intro q
    exact ⟨q 0 (by decide), q 1 (by decide), q 2 (by decide), q 3 (by decide)⟩
  · rintro ⟨q0, q1, q2, q3⟩ j hj
    match j, hj with
    | 0, _ => exact q0
    | 1, _ => exact q1
    | 2, _ => exact q2
    | 3, _ => exact q3
    | (k + 4), h => exact absurd h (by omega)
theorem mend_eq {S N R z : Nat} {d : Nat → Int32} (hS : 100 ≤ S ∧ S ≤ 600) (hN : 400000 ≤ N) (hR : mB d 64 = R) (hR20 : R ≤ 20) (hz8 : 8 ≤ z) (hz : z ≤ 9000) (ho : runsOk S (mB d) R 0) (ht : (z + 511) / 512 ≤ tot_ (mB d) R 0) (fnd : Int32) : ∃ r f : Int32, lp_ (fun _ _ => none) (f_Model_byLoader_L148 N (lN z) d (nI R) fnd (nI S)) N 0 (-1) = some (r, f) ∧ ((r = 0 ∧ (cR (lb_ (mB d) R) 0 z ^^^ (-1) = (lN (loN (mB d) (69 + 6 * R) 4)).toInt32 ∧ rowIs (mB d) (512 * secAt (mB d) R 0 0) (sByt 9) 4 ∧ loN (mB d) (512 * secAt (mB d) R 0 0 + 4) 4 < S) ∧ f = nI (loN (mB d) (512 * secAt (mB d) R 0 0 + 4) 4)) ∨ (r = 9 ∧ ¬ (cR (lb_ (mB d) R) 0 z ^^^ (-1) = (lN (loN (mB d) (69 + 6 * R) 4)).toInt32 ∧ rowIs (mB d) (512 * secAt (mB d) R 0 0) (sByt 9) 4 ∧ loN (mB d) (512 * secAt (mB d) R 0 0 + 4) 4 < S) ∧ f = fnd)) := by
  have hl : lp_ (fun _ _ => none) (f_Model_byLoader_L148 N (lN z) d (nI R) fnd (nI S)) N 0 (-1) = _ := msum_loop hS hN hR hR20 hz ho ht fnd z 0 N (by omega) (by omega)
  have hs0 := sec_lt R 0 0 ho (by omega)
  have hc : 0 ≤ lg_cmp (lN z) (lN z) := by rw [(lgz (lN z) (lN z)).mpr rfl]; decide
  have hra : f_Model_runAt N d 0 = some (nI (secAt (mB d) R 0 0)) := runAt_eq (i := 0) hS hN hR hR20 ho (by omega) (by decide)
  rw [hl, f_Model_byLoader_L148]
  dsimp only [lt_]
  rw [nI_l (show z < 2 ^ 31 by omega), if_pos hc, hra, bd_e, show (512 : Int32) * nI (secAt (mB d) R 0 0) = nI (512 * secAt (mB d) R 0 0) from pk_mul 512 _, show (6 : Int32) * nI R = nI (6 * R) from pk_mul 6 R, show (69 : Int32) + nI (6 * R) = nI (69 + 6 * R) from nI_add 69 _, ml 4 (k := 4) rfl (by omega) (by decide) (by omega), bd_e, row4, Nat.add_zero]
  generalize hpe : 512 * secAt (mB d) R 0 0 = p
  have hp : p + 512 ≤ 512 * S := by omega
  rw [show nI p + 1 = nI (p + 1) from nI_add _ 1, show nI p + 2 = nI (p + 2) from nI_add _ 2, show nI p + 3 = nI (p + 3) from nI_add _ 3, show nI p + 4 = nI (p + 4) from nI_add _ 4, mget_in (show p < 307200 by omega), bd_e, mget_in (show p + 1 < 307200 by omega), bd_e, mget_in (show p + 2 < 307200 by omega), bd_e, mget_in (show p + 3 < 307200 by omega), bd_e, ml 4 (k := 4) rfl (by omega) (by decide) (by omega), bd_e, nI_l (show S < 2 ^ 31 by omega), lN_i (loN (mB d) (p + 4) 4)]
  have h4 := loN4 (mB_lt d) (p + 4)
  by_cases h5 : cR (lb_ (mB d) R) 0 z ^^^ (-1) = (lN (loN (mB d) (69 + 6 * R) 4)).toInt32
  · rw [if_neg (not_not_intro h5)]
    by_cases q0 : nI (mB d p) = 76
    · rw [if_neg (not_not_intro q0)]
      by_cases q1 : nI (mB d (p + 1)) = 79
      · rw [if_neg (not_not_intro q1)]
        by_cases q2 : nI (mB d (p + 2)) = 65
        · rw [if_neg (not_not_intro q2)]
          by_cases q3 : nI (mB d (p + 3)) = 68
          · rw [if_pos q3]
            by_cases h6 : loN (mB d) (p + 4) 4 < S
            · rw [if_pos ((lgn _ _).mpr ((pk_lLT (by omega) (by omega)).mpr h6))]
              exact ⟨0, _, rfl, Or.inl ⟨rfl, ⟨h5, ⟨q0, q1, q2, q3⟩, h6⟩, rfl⟩⟩
            · rw [if_neg (fun q => h6 ((pk_lLT (by omega) (by omega)).mp ((lgn _ _).mp q)))]
              exact ⟨9, fnd, rfl, Or.inr ⟨rfl, fun q => h6 q.2.2, rfl⟩⟩
          · rw [if_neg q3]; exact ⟨9, fnd, rfl, Or.inr ⟨rfl, fun q => q3 q.2.1.2.2.2, rfl⟩⟩
        · rw [if_pos q2]; exact ⟨9, fnd, rfl, Or.inr ⟨rfl, fun q => q2 q.2.1.2.2.1, rfl⟩⟩
      · rw [if_pos q1]; exact ⟨9, fnd, rfl, Or.inr ⟨rfl, fun q => q1 q.2.1.2.1, rfl⟩⟩
    · rw [if_pos q0]; exact ⟨9, fnd, rfl, Or.inr ⟨rfl, fun q => q0 q.2.1.1, rfl⟩⟩
  · rw [if_pos h5]; exact ⟨9, fnd, rfl, Or.inr ⟨rfl, fun q => h5 q.1, rfl⟩⟩
theorem pages_loop {S N R : Nat} {d : Nat → Int32} (hS : 100 ≤ S ∧ S ≤ 600) (hN : 400000 ≤ N) (hR20 : R ≤ 20) (fnd : Int32) : ∀ (r k M : Nat), k + r = R → r < M → (runsOk S (mB d) r k ∧ lp_ (fun _ _ => none) (f_Model_byLoader_L25 N (nI R) d fnd (nI S)) M (nI k) (lN (tot_ (mB d) k 0)) = f_Model_byLoader_L25 N (nI R) d fnd (nI S) (fun _ _ => none) (nI R) (lN (tot_ (mB d) R 0))) ∨ (¬ runsOk S (mB d) r k ∧ lp_ (fun _ _ => none) (f_Model_byLoader_L25 N (nI R) d fnd (nI S)) M (nI k) (lN (tot_ (mB d) k 0)) = some (9, fnd)) := by
  intro r
  induction r with
  | zero =>
    intro k M' hk hM
    obtain ⟨M, rfl⟩ : ∃ M, M' = M + 1 := ⟨M' - 1, by omega⟩
    have : k = R := by omega
    subst this
    left
    refine ⟨fun j h1 h2 => absurd h2 (by omega), ?_⟩
    rw [lp_s, f_Model_byLoader_L25, f_Model_byLoader_L25, if_pos (nI_le (Nat.le_refl _) (by omega)), if_pos (nI_le (Nat.le_refl _) (by omega))]
  | succ r ih =>
    intro k M' hk hM
    obtain ⟨M, rfl⟩ : ∃ M, M' = M + 1 := ⟨M' - 1, by omega⟩
    have hct := ct_lt (mB_lt d) k
    have hfr := fr_lt (mB_lt d) k
    have ht := tot_s (mB d) k 0
    rw [Nat.zero_add] at ht
    have hih := ih (k + 1) M (by omega) (by omega)
    rw [ht] at hih
    rw [lp_s, f_Model_byLoader_L25, if_neg (nI_ge (by omega) (by omega))]
    dsimp only [lt_]
    rw [show (6 : Int32) * nI k = nI (6 * k) from pk_mul 6 k, show (65 : Int32) + nI (6 * k) = nI (65 + 6 * k) from nI_add 65 _, show (69 : Int32) + nI (6 * k) = nI (69 + 6 * k) from nI_add 69 _, ml 4 (k := 4) rfl (by omega) (by decide) (by omega), bd_e, ml 2 (k := 2) rfl (by omega) (by decide) (by omega), bd_e]
    have ec : loN (mB d) (69 + 6 * k) 2 = ct_ (mB d) k := rfl
    have ef : loN (mB d) (65 + 6 * k) 4 = fr_ (mB d) k := rfl
    rw [ec, ef, lN_add, lN_add, nI_1, nI_l (show S < 2 ^ 31 by omega), show (0 : Int64) = lN 0 from rfl]
    by_cases h0 : ct_ (mB d) k = 0
    · rw [if_pos ((lgN (by omega) (by decide)).mpr h0)]
      exact Or.inr ⟨fun q => (q k (by omega) (by omega)).1 h0, rfl⟩
    · rw [if_neg (fun q => h0 ((lgN (by omega) (by decide)).mp q))]
      by_cases h1 : fr_ (mB d) k + ct_ (mB d) k ≤ S
      · rw [if_pos ((lgl _ _).mpr ((pk_lLE (by omega) (by omega)).mpr h1))]
        rcases hih with ⟨q, e⟩ | ⟨q, e⟩
        · refine Or.inl ⟨fun j h1' h2' => ?_, e⟩
          by_cases hjk : j = k
          · rw [hjk]; exact ⟨h0, h1⟩
          · exact q j (by omega) (by omega)
        · exact Or.inr ⟨fun q3 => q (fun j h1' h2' => q3 j (by omega) (by omega)), e⟩
      · rw [if_neg (fun q => h1 ((pk_lLE (by omega) (by omega)).mp ((lgl _ _).mp q)))]
        exact Or.inr ⟨fun q => h1 (q k (by omega) (by omega)).2, rfl⟩
theorem tot_lt {b : Nat → Nat} (hb : ∀ p, b p < 256) : ∀ r k, tot_ b r k ≤ 65536 * r
  | 0, _ => Nat.le_refl _
  | r + 1, k => by
    have h1 := tot_lt hb r (k + 1)
    have h2 := ct_lt hb k
    show ct_ b k + tot_ b r (k + 1) ≤ _
    omega
theorem loader_model {S N : Nat} {d : Nat → Int32} (hS : 100 ≤ S ∧ S ≤ 600) (hN : 400000 ≤ N) (fnd : Int32) : ∃ r f : Int32, f_Model_byLoader N d fnd (nI S) = some (r, f) ∧ ((r = 0 ∧ ldOk S (mB d) ∧ f = nI (loN (mB d) (lds (mB d) + 4) 4)) ∨ (r = 9 ∧ ¬ ldOk S (mB d) ∧ f = fnd)) := by
  unfold f_Model_byLoader
  rw [show (64 : Int32) = nI 64 from rfl, mget_in (by decide), bd_e]
  have hRl := mB_lt d 64
  unfold ldOk
  generalize hRe : mB d 64 = R at hRl ⊢
  have ez : ldz (mB d) = loN (mB d) (65 + 6 * R) 4 := by unfold ldz; rw [hRe]
  have es : lds (mB d) = 512 * secAt (mB d) R 0 0 := by unfold lds; rw [hRe]
  rw [ez, es]
  by_cases h0 : R = 0
  · rw [if_pos (show nI R = 0 by rw [h0]; rfl)]
    exact ⟨9, fnd, rfl, Or.inr ⟨rfl, fun q => by have := q.1.1; omega, rfl⟩⟩
  · rw [if_neg (nI_ne0 (by omega) (by omega))]
    by_cases h1 : R ≤ 20
    · rw [if_pos (show nI R ≤ 20 from nI_le (a := R) (b := 20) h1 (by decide))]
      have hp := pages_loop (d := d) hS hN h1 fnd R 0 N (by omega) (by omega)
      have hp0 : lp_ (fun _ _ => none) (f_Model_byLoader_L25 N (nI R) d fnd (nI S)) N 0 0 = lp_ (fun _ _ => none) (f_Model_byLoader_L25 N (nI R) d fnd (nI S)) N (nI 0) (lN (tot_ (mB d) 0 0)) := rfl
      rw [hp0]
      have htl := tot_lt (mB_lt d) R 0
      rcases hp with ⟨ho, e⟩ | ⟨ho, e⟩
      · rw [e, f_Model_byLoader_L25, if_pos (nI_le (Nat.le_refl _) (by omega))]
        dsimp only [lt_]
        rw [show (6 : Int32) * nI R = nI (6 * R) from pk_mul 6 R, show (65 : Int32) + nI (6 * R) = nI (65 + 6 * R) from nI_add 65 _, ml 4 (k := 4) rfl (by omega) (by decide) (by omega), bd_e]
        have hz4 := loN4 (mB_lt d) (65 + 6 * R)
        generalize loN (mB d) (65 + 6 * R) 4 = z at hz4 ⊢
        rw [show (8 : Int64) = lN 8 from rfl, show (9000 : Int64) = lN 9000 from rfl, show (512 : Int64) = lN 512 from rfl, lN_mul]
        by_cases h2 : z < 8
        · rw [if_pos ((lgn _ _).mpr ((pk_lLT (by omega) (by omega)).mpr h2))]
          exact ⟨9, fnd, rfl, Or.inr ⟨rfl, fun q => by have := q.1.2.2.1; omega, rfl⟩⟩
        · rw [if_neg (fun q => h2 ((pk_lLT (by omega) (by omega)).mp ((lgn _ _).mp q)))]
          by_cases h3 : 9000 < z
          · rw [if_pos ((lgp _ _).mpr ((pk_lLT (by omega) (by omega)).mpr h3))]
            exact ⟨9, fnd, rfl, Or.inr ⟨rfl, fun q => by have := q.1.2.2.2; omega, rfl⟩⟩
          · rw [if_neg (fun q => h3 ((pk_lLT (by omega) (by omega)).mp ((lgp _ _).mp q)))]
            by_cases h4 : z ≤ 512 * tot_ (mB d) R 0
            · rw [if_pos (Int32.not_lt.mp (fun q => by
                have := (pk_lLT (by omega) (by omega)).mp ((lgn _ _).mp q)
                omega))]
              obtain ⟨r, f, e2, hh⟩ := mend_eq hS hN hRe h1 (show 8 ≤ z by omega) (show z ≤ 9000 by omega) ho (by omega) fnd
              refine ⟨r, f, e2, ?_⟩
              rcases hh with ⟨a, q, q2⟩ | ⟨a, q, q2⟩
              · exact Or.inl ⟨a, ⟨⟨by omega, h1, by omega, by omega⟩, ⟨ho, by omega⟩, q⟩, q2⟩
              · exact Or.inr ⟨a, fun q3 => q q3.2.2, q2⟩
            · rw [if_neg (Int32.not_le.mpr ((lgn _ _).mpr ((pk_lLT (by omega) (by omega)).mpr (show 512 * tot_ (mB d) R 0 < z by omega))))]
              exact ⟨9, fnd, rfl, Or.inr ⟨rfl, fun q => h4 (by have := q.2.1.2; omega), rfl⟩⟩
      · rw [e]
        exact ⟨9, fnd, rfl, Or.inr ⟨rfl, fun q => ho q.2.1.1, rfl⟩⟩
    · rw [if_neg (show ¬ nI R ≤ 20 from nI_ge (a := 20) (b := R) (by omega) (by omega))]
      exact ⟨9, fnd, rfl, Or.inr ⟨rfl, fun q => h1 q.1.2.1, rfl⟩⟩
