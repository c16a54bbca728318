/-! pure: the loader's runs are collected; its bytes are summed -/
theorem collect_loop {S N R nd : Nat} {w : Nat → Int64} (hS : 100 ≤ S ∧ S ≤ 600) (hN : 400000 ≤ N) (hR20 : R ≤ 20) (hnd : nd ≤ 18) : ∀ (r k c M : Nat) (f : Nat → Int32), k + r = R → r < M → c = min nd (tot_ (gB w) k 0) → (∀ j, j < c → f j = nI (secAt (gB w) R 0 j)) → ∃ (z : Int32) (g : Nat → Int32), lp_ (fun _ _ _ => none) (f_Firmware_collectRuns_L11 N (nI R) (nI nd) (nI (512 * S)) (64 * S) w (nI S)) M (nI k) (nI c) f = some (z, g) ∧ ((z = 1 ∧ (runsOk S (gB w) r k ∧ nd ≤ tot_ (gB w) R 0) ∧ ∀ j, j < nd → g j = nI (secAt (gB w) R 0 j)) ∨ (z = 0 ∧ ¬ (runsOk S (gB w) r k ∧ nd ≤ tot_ (gB w) R 0))) := by
  intro r
  induction r with
  | zero =>
    intro k c M' f hk hM hc hf
    obtain ⟨M, rfl⟩ : ∃ M, M' = M + 1 := ⟨M' - 1, by omega⟩
    have hkR : k = R := by omega
    subst hkR
    rw [lp_s, f_Firmware_collectRuns_L11, if_pos (nI_le (Nat.le_refl _) (by omega))]
    by_cases h : c = nd
    · rw [if_neg (not_not_intro (show nI c = nI nd by rw [h]))]
      refine ⟨1, f, rfl, Or.inl ⟨rfl, ⟨fun j h1 h2 => absurd h2 (by omega), by omega⟩, fun j hj => hf j (by omega)⟩⟩
    · rw [if_pos (fun q => h ((nI_eq (by omega) (by omega)).mp q))]
      exact ⟨0, f, rfl, Or.inr ⟨rfl, fun q => h (by have := q.2; omega)⟩⟩
  | succ r ih =>
    intro k c M' f hk hM hc hf
    obtain ⟨M, rfl⟩ : ∃ M, M' = M + 1 := ⟨M' - 1, by omega⟩
    have hct := ct_lt (gB_lt w) k
    have hfr := fr_lt (gB_lt w) k
    rw [lp_s, f_Firmware_collectRuns_L11, if_neg (nI_ge (by omega) (by omega))]
    dsimp only [lt_]
    rw [show nI k * 6 = nI (6 * k) from by rw [show (6 : Int32) = nI 6 from rfl, pk_mul, Nat.mul_comm], show (65 : Int32) + nI (6 * k) = nI (65 + 6 * k) from nI_add 65 _, show nI (65 + 6 * k) + 4 = nI (69 + 6 * k) from by rw [show (4 : Int32) = nI 4 from rfl, nI_add]; congr 1; omega, cl 4 (k := 4) rfl (by omega) (by omega) (by omega) (by decide) (by omega), bd_e, cl 2 (k := 2) rfl (by omega) (by omega) (by omega) (by decide) (by omega), bd_e]
    show ∃ z g, (if lg_cmp (lN (ct_ (gB w) k)) 0 = 0 then some (0, f) else if lg_cmp (lN (fr_ (gB w) k) + lN (ct_ (gB w) k)) (nI S).toInt64 ≤ 0 then lp_ (fun _ _ _ => none) (f_Firmware_collectRuns_L79 (lN (ct_ (gB w) k)) (nI k) (lp_ (fun _ _ _ => none) (f_Firmware_collectRuns_L11 N (nI R) (nI nd) (nI (512 * S)) (64 * S) w (nI S)) M) (nI nd) (lN (fr_ (gB w) k))) N 0 (nI c) f else some (0, f)) = some (z, g) ∧ _
    rw [lN_add, nI_l (show S < 2 ^ 31 by omega), show (0 : Int64) = lN 0 from rfl]
    by_cases h0 : ct_ (gB w) k = 0
    · rw [if_pos ((lgN (by omega) (by decide)).mpr h0)]
      exact ⟨0, f, rfl, Or.inr ⟨rfl, fun q => (q.1 k (by omega) (by omega)).1 h0⟩⟩
    · rw [if_neg (fun q => h0 ((lgN (by omega) (by decide)).mp q))]
      by_cases h1 : fr_ (gB w) k + ct_ (gB w) k ≤ S
      · rw [if_pos ((lgl _ _).mpr ((pk_lLE (by omega) (by omega)).mpr h1))]
        obtain ⟨m, g, e, h2, h3, h4⟩ := collect_in (x := nI k) (k11 := lp_ (fun _ _ _ => none) (f_Firmware_collectRuns_L11 N (nI R) (nI nd) (nI (512 * S)) (64 * S) w (nI S)) M) (nd := nd) (c0 := 0) (fk := fr_ (gB w) k) (ck := ct_ (gB w) k) hnd (by omega) (ct_ (gB w) k) 0 c N f (by omega) (by omega) (by omega)
        have ht := tot_s (gB w) k 0
        rw [Nat.zero_add] at ht
        have hcm : c + m = min nd (tot_ (gB w) (k + 1) 0) := by
          rw [ht]
          rcases h2 with ⟨a, q⟩ | ⟨a, q⟩ <;> omega
        have hg : ∀ j, j < c + m → g j = nI (secAt (gB w) R 0 j) := by
          intro j hj
          by_cases hjc : j < c
          · rw [h3 j hjc]; exact hf j hjc
          · obtain ⟨t, rfl⟩ : ∃ t, j = c + t := ⟨j - c, by omega⟩
            have hT : c = tot_ (gB w) k 0 := by
              rcases h2 with ⟨a, q⟩ | ⟨a, q⟩ <;> omega
            rw [h4 t (by omega)]
            have hs := sec_split (gB w) k 0 (r + 1) t
            rw [hk, Nat.zero_add, ← hT] at hs
            rw [hs]
            show nI (fr_ (gB w) k + 0 + t) = nI (if t < ct_ (gB w) k then fr_ (gB w) k + t else _)
            rw [if_pos (by rcases h2 with ⟨a, q⟩ | ⟨a, q⟩ <;> omega), Nat.add_zero]
        obtain ⟨z, g2, e2, hz⟩ := ih (k + 1) (c + m) M g (by omega) (by omega) hcm hg
        rw [show (0 : Int32) = nI 0 from rfl, e, nI_1, e2]
        refine ⟨z, g2, rfl, ?_⟩
        rcases hz with ⟨a, q, q2⟩ | ⟨a, q⟩
        · refine Or.inl ⟨a, ⟨fun j h1' h2' => ?_, q.2⟩, q2⟩
          by_cases hjk : j = k
          · rw [hjk]; exact ⟨h0, h1⟩
          · exact q.1 j (by omega) (by omega)
        · exact Or.inr ⟨a, fun q3 => q ⟨fun j h1' h2' => q3.1 j (by omega) (by omega), q3.2⟩⟩
      · rw [if_neg (fun q => h1 ((pk_lLE (by omega) (by omega)).mp ((lgl _ _).mp q)))]
        exact ⟨0, f, rfl, Or.inr ⟨rfl, fun q => h1 (q.1 k (by omega) (by omega)).2⟩⟩
theorem need_eq {z : Nat} (hz : z ≤ 9000) : f_Volume_clustersFor (nI z) = some (nI ((z + 511) / 512)) := by
  unfold f_Volume_clustersFor
  dsimp only [lt_]
  rw [show (512 : Int32) = nI 512 from rfl, nI_add, show nI (z + 512) - 1 = nI (z + 511) from nI_pred (z + 511), pk_div (by omega) (by decide) (by decide)]
theorem collect_eq {S N R z : Nat} {w : Nat → Int64} (hS : 100 ≤ S ∧ S ≤ 600) (hN : 400000 ≤ N) (hR20 : R ≤ 20) (hz : z ≤ 9000) (f : Nat → Int32) : ∃ (y : Int32) (g : Nat → Int32), f_Firmware_collectRuns N (nI z) (nI R) (nI (512 * S)) (64 * S) w (nI S) f = some (y, g) ∧ ((y = 1 ∧ (runsOk S (gB w) R 0 ∧ (z + 511) / 512 ≤ tot_ (gB w) R 0) ∧ ∀ j, j < (z + 511) / 512 → g j = nI (secAt (gB w) R 0 j)) ∨ (y = 0 ∧ ¬ (runsOk S (gB w) R 0 ∧ (z + 511) / 512 ≤ tot_ (gB w) R 0))) := by
  unfold f_Firmware_collectRuns
  rw [need_eq hz, bd_e]
  exact collect_loop hS hN hR20 (by omega) R 0 0 N f (by omega) (by omega) (by show 0 = min _ 0; omega) (fun j hj => absurd hj (by omega))
/-- the loader's i-th byte -/
def lb_ (b : Nat → Nat) (R : Nat) : Nat → Nat := fun i => b (512 * secAt b R 0 (i / 512) + i % 512)
theorem lsum_loop {S R z : Nat} {w : Nat → Int64} {T g : Nat → Int32} (hT : isT T) (hS : 100 ≤ S ∧ S ≤ 600) (hz : z ≤ 9000) (ho : runsOk S (gB w) R 0) (ht : (z + 511) / 512 ≤ tot_ (gB w) R 0) (hg : ∀ j, j < (z + 511) / 512 → g j = nI (secAt (gB w) R 0 j)) : ∀ (r i M : Nat), i + r = z → r < M → lp_ (fun _ _ => none) (f_Firmware_loaderSum_L9 (nI z) g (nI (512 * S)) (64 * S) w T) M (nI i) (cR (lb_ (gB w) R) 0 i) = some (cR (lb_ (gB w) R) 0 z ^^^ (-1), cR (lb_ (gB w) R) 0 z) := by
  intro r
  induction r with
  | zero =>
    intro i M' hi hM
    obtain ⟨M, rfl⟩ : ∃ M, M' = M + 1 := ⟨M' - 1, by omega⟩
    rw [lp_s, f_Firmware_loaderSum_L9]
    dsimp only [lt_]
    rw [if_pos (nI_le (by omega) (by omega)), show i = z by omega]
    rfl
  | succ r ih =>
    intro i M' hi hM
    obtain ⟨M, rfl⟩ : ∃ M, M' = M + 1 := ⟨M' - 1, by omega⟩
    have hlt := sec_lt R 0 (i / 512) ho (by omega)
    rw [lp_s, f_Firmware_loaderSum_L9]
    dsimp only [lt_]
    rw [if_neg (nI_ge (by omega) (by omega)), show (512 : Int32) = nI 512 from rfl, pk_rem (by omega) (by decide) (by decide), pk_div (by omega) (by decide) (by decide), if_neg (show ¬ (18 : Int32) ≤ nI (i / 512) from nI_ge (a := i / 512) (b := 18) (by omega) (by omega)), ix_in (by omega) (by decide), hg _ (by omega), pk_mul, nI_add, get_in (by omega) (by omega) (by omega), bd_e, add_eq hT _ (gB_lt w _), bd_e, nI_1, ← ih (i + 1) M (by omega) (by omega)]
    show _ = lp_ (fun _ _ => none) (f_Firmware_loaderSum_L9 (nI z) g (nI (512 * S)) (64 * S) w T) M (nI (i + 1)) (cN 8 (cR (lb_ (gB w) R) 0 i ^^^ nI (lb_ (gB w) R (0 + i))))
    rw [Nat.zero_add]
    unfold lb_
    rw [Nat.mul_comm 512 (secAt (gB w) R 0 (i / 512))]
