/-! pure: write: both sides' writes, told by bytes; the loader's sum -/
/-- from bytes b to b2 on the one side, from c to c2 on the other: all within A, and what was alike stays alike -/
def Sim (A : Nat → Prop) (b b2 c c2 : Nat → Nat) : Prop := ∀ q, (A q → b q = c q → b2 q = c2 q) ∧ (¬ A q → b2 q = b q ∧ c2 q = c q)
theorem Sim_refl (A : Nat → Prop) (b c : Nat → Nat) : Sim A b b c c := fun _ => ⟨fun _ h => h, fun _ => ⟨rfl, rfl⟩⟩
theorem Sim_trans {A : Nat → Prop} {b b2 b3 c c2 c3 : Nat → Nat} (h1 : Sim A b b2 c c2) (h2 : Sim A b2 b3 c2 c3) : Sim A b b3 c c3 := fun q => ⟨fun a e => (h2 q).1 a ((h1 q).1 a e), fun a => ⟨by rw [((h2 q).2 a).1, ((h1 q).2 a).1], by rw [((h2 q).2 a).2, ((h1 q).2 a).2]⟩⟩
theorem Sim_put {A : Nat → Prop} {w : Nat → Int64} {d : Nat → Int32} {p : Nat} {u v : Int32} (hA : A p) (h : lo8 u = lo8 v) : Sim A (gB w) (gB (pB w p u)) (mB d) (mB (upd d p (vp_nar .byte v.toInt8.toInt32))) := fun q => by
  rw [gB_pB, mB_upd]
  by_cases e : q = p
  · rw [if_pos e, if_pos e]
    exact ⟨fun _ _ => h, fun a => absurd (e ▸ hA) a⟩
  · rw [if_neg e, if_neg e]
    exact ⟨fun _ a => a, fun _ => ⟨rfl, rfl⟩⟩
theorem Sim_low {A : Nat → Prop} {w : Nat → Int64} {d : Nat → Int32} {p k : Nat} {v : Int64} (hk : k ≤ 8) (hA : ∀ q, p ≤ q → q < p + k → A q) : Sim A (gB w) (gB (pLo w p v k)) (mB d) (mB (mLo d p v k)) := fun q => by
  rw [gB_pLo _ _ _ _ k hk, mB_mLo _ _ _ _ k hk]
  by_cases e : p ≤ q ∧ q < p + k
  · rw [if_pos e, if_pos e]
    exact ⟨fun _ _ => rfl, fun a => absurd (hA q e.1 e.2) a⟩
  · rw [if_neg e, if_neg e]
    exact ⟨fun _ a => a, fun _ => ⟨rfl, rfl⟩⟩
/-- where each side's bytes are given by one spec on D, and else stay -/
theorem Sim_of {A : Nat → Prop} {b b2 c c2 v : Nat → Nat} {p k : Nat} (hA : ∀ q, p ≤ q → q < p + k → A q) (h1 : ∀ q, b2 q = if p ≤ q ∧ q < p + k then v q else b q) (h2 : ∀ q, c2 q = if p ≤ q ∧ q < p + k then v q else c q) : Sim A b b2 c c2 := fun q => by
  rw [h1, h2]
  by_cases e : p ≤ q ∧ q < p + k
  · rw [if_pos e, if_pos e]
    exact ⟨fun _ _ => rfl, fun a => absurd (hA q e.1 e.2) a⟩
  · rw [if_neg e, if_neg e]
    exact ⟨fun _ a => a, fun _ => ⟨rfl, rfl⟩⟩
theorem bY_l {a i : Nat} (ha : a < 2 ^ 31) : bY (nI a).toInt64.toBitVec.toNat i = bY a i := by rw [nI_l ha, wb_tn (by omega)]
theorem fsum_loop {nf k z : Nat} {sz se T : Nat → Int32} {nm : Nat → Int64} {ss ad : Int32} (hT : isT T) (hnf : nf ≤ 12) (hok : FilesOk nf nm sz se) (hk : k < nf) (hz : sz k = nI z) (hz2 : z ≤ 9000) : ∀ (r i M : Nat), i + r = z → r < M → lp_ (fun _ _ => none) (f_Writer_fileSum_L9 sz (nI k) se nm ss ad T) M (nI i) (cR (fB sz se nm ss ad k) 0 i) = some (cR (fB sz se nm ss ad k) 0 z ^^^ (-1), cR (fB sz se nm ss ad k) 0 z) := by
  intro r
  induction r with
  | zero =>
    intro i M' hi hM
    obtain ⟨M, rfl⟩ : ∃ M, M' = M + 1 := ⟨M' - 1, by omega⟩
    rw [lp_s, f_Writer_fileSum_L9, ix_in (show k < 12 by omega) (by decide), hz, if_pos (nI_le (show z ≤ i by omega) (by omega)), show i = z by omega]
    rfl
  | succ r ih =>
    intro i M' hi hM
    obtain ⟨M, rfl⟩ : ∃ M, M' = M + 1 := ⟨M' - 1, by omega⟩
    rw [lp_s, f_Writer_fileSum_L9, ix_in (show k < 12 by omega) (by decide), hz, if_neg (nI_ge (show i < z by omega) (by omega)), (fbyte_eq hnf hok hk (by omega)).1, bd_e, add_eq hT _ (fB_lt _ _ _ _ _ _ _), bd_e]
    dsimp only [lt_]
    have e : cN 8 (cR (fB sz se nm ss ad k) 0 i ^^^ nI (fB sz se nm ss ad k i)) = cR (fB sz se nm ss ad k) 0 (i + 1) := by
      show _ = cN 8 (cR (fB sz se nm ss ad k) 0 i ^^^ nI (fB sz se nm ss ad k (0 + i)))
      rw [Nat.zero_add]
    rw [nI_1, e]
    exact ih (i + 1) M (by omega) (by omega)
theorem fsum_eq {nf k z N : Nat} {sz se T : Nat → Int32} {nm : Nat → Int64} {ss ad : Int32} (hT : isT T) (hnf : nf ≤ 12) (hok : FilesOk nf nm sz se) (hk : k < nf) (hz : sz k = nI z) (hz2 : z ≤ 9000) (hN : 400000 ≤ N) : f_Writer_fileSum N sz (nI k) se nm ss ad T = some (cR (fB sz se nm ss ad k) 0 z ^^^ (-1), cR (fB sz se nm ss ad k) 0 z) := by
  unfold f_Writer_fileSum f_Sums_begin
  rw [bd_e]
  exact fsum_loop hT hnf hok hk hz hz2 z 0 N (by omega) (by omega)
theorem bsum_loop {nf k z p N : Nat} {sz se d : Nat → Int32} {nm : Nat → Int64} {ss ad : Int32} {J : (Nat → Int32) → Option (Nat → Int32)} (hnf : nf ≤ 12) (hok : FilesOk nf nm sz se) (hk : k < nf) (hz : sz k = nI z) (hz2 : z ≤ 9000) (hN : 400000 ≤ N) (hp : p ≤ 1000) : ∀ (r i M : Nat), i + r = z → r < M → lp_ (fun _ _ => none) (f_Model_beginning_L140 N sz (nI k) (nI p) d J se nm ss ad) M (nI i) (cR (fB sz se nm ss ad k) 0 i) = J (mLo (mLo d (p + 6) (nI z).toInt64 4) (p + 10) (cR (fB sz se nm ss ad k) 0 z ^^^ (-1)).toInt64 4) := by
  intro r
  induction r with
  | zero =>
    intro i M' hi hM
    obtain ⟨M, rfl⟩ : ∃ M, M' = M + 1 := ⟨M' - 1, by omega⟩
    rw [lp_s, f_Model_beginning_L140, ix_in (show k < 12 by omega) (by decide), hz, if_pos (nI_le (show z ≤ i by omega) (by omega)), show i = z by omega]
    dsimp only [lt_]
    rw [ix_in (show k < 12 by omega) (by decide), hz, show nI p + 6 = nI (p + 6) from nI_add p 6, show nI p + 10 = nI (p + 10) from nI_add p 10, show f_Model_low N 4 (nI (p + 6)) (nI z).toInt64 d = some (mLo d (p + 6) (nI z).toInt64 4) from low_eq (k := 4) (by omega) (by omega), bd_e]
    rw [show f_Model_low N 4 (nI (p + 10)) (cR (fB sz se nm ss ad k) 0 z ^^^ (-1)).toInt64 (mLo d (p + 6) (nI z).toInt64 4) = some (mLo (mLo d (p + 6) (nI z).toInt64 4) (p + 10) (cR (fB sz se nm ss ad k) 0 z ^^^ (-1)).toInt64 4) from low_eq (k := 4) (by omega) (by omega), bd_e]
  | succ r ih =>
    intro i M' hi hM
    obtain ⟨M, rfl⟩ : ∃ M, M' = M + 1 := ⟨M' - 1, by omega⟩
    rw [lp_s, f_Model_beginning_L140, ix_in (show k < 12 by omega) (by decide), hz, if_neg (nI_ge (show i < z by omega) (by omega)), (fbyte_eq hnf hok hk (by omega)).2, bd_e, goesOn_eq _ _ (by omega), bd_e]
    dsimp only [lt_]
    have e : cN 8 (cR (fB sz se nm ss ad k) 0 i ^^^ nI (fB sz se nm ss ad k i)) = cR (fB sz se nm ss ad k) 0 (i + 1) := by
      show _ = cN 8 (cR (fB sz se nm ss ad k) 0 i ^^^ nI (fB sz se nm ss ad k (0 + i)))
      rw [Nat.zero_add]
    rw [nI_1, e]
    exact ih (i + 1) M (by omega) (by omega)
/-! pure: write: the runs written in sector 0, on both sides -/
/-- byte o of the runs' rows, b the first cluster's base -/
def runV (P : Nat → Nat) (b n o : Nat) : Nat := if o % 6 < 4 then bY (b + rS P n (o / 6)) (o % 6) else bY (rL P n (o / 6)) (o % 6 - 4)
theorem wruns_loop {S k N R b n : Nat} {sz se T f g : Nat → Int32} {nm : Nat → Int64} {ss ad : Int32} {P : Nat → Nat} (hS : 100 ≤ S ∧ S ≤ 600) (hN : 400000 ≤ N) (hR : rN P n = R) (hR18 : R ≤ 18) (hb : b ≤ 700) (hP : ∀ j, j < R → rS P n j < 700) (hL : ∀ j, rL P n j ≤ 18) (hr : rHas P b n f g) : ∀ (r j M : Nat) (w : Nat → Int64), j + r = R → r < M → ∃ w', lp_ (fun _ _ _ => none) (f_Writer_writeRuns_L21 N (nI R) sz (nI k) (nI (512 * S)) (64 * S) se nm ss ad T f g) M (nI j) (nI (65 + 6 * j)) w = f_Writer_writeRuns_L21 N (nI R) sz (nI k) (nI (512 * S)) (64 * S) se nm ss ad T f g (fun _ _ _ => none) (nI R) (nI (65 + 6 * R)) w' ∧ ∀ q, gB w' q = if 65 + 6 * j ≤ q ∧ q < 65 + 6 * R then runV P b n (q - 65) else gB w q := by
  intro r
  induction r with
  | zero =>
    intro j M' w hj hM
    obtain ⟨M, rfl⟩ : ∃ M, M' = M + 1 := ⟨M' - 1, by omega⟩
    have e : j = R := by omega
    subst e
    refine ⟨w, ?_, fun q => by rw [if_neg (by omega)]⟩
    rw [lp_s, f_Writer_writeRuns_L21, f_Writer_writeRuns_L21, if_pos (nI_le (Nat.le_refl j) (by omega)), if_pos (nI_le (Nat.le_refl j) (by omega))]
  | succ r ih =>
    intro j M' w hj hM
    obtain ⟨M, rfl⟩ : ∃ M, M' = M + 1 := ⟨M' - 1, by omega⟩
    obtain ⟨r1, r2⟩ := hr j (by omega)
    have hPj := hP j (by omega)
    have hLj := hL j
    obtain ⟨w', e, hw⟩ := ih (j + 1) M (pLo (pLo w (65 + 6 * j) (nI (b + rS P n j)).toInt64 4) (65 + 6 * j + 4) (nI (rL P n j)).toInt64 2) (by omega) (by omega)
    refine ⟨w', ?_, fun q => ?_⟩
    · rw [lp_s, f_Writer_writeRuns_L21, if_neg (nI_ge (show j < R by omega) (by omega)), ix_in (show j < 20 by omega) (by decide), r1]
      dsimp only [lt_]
      rw [show f_Store_putLow N 4 (nI (65 + 6 * j)) (nI (b + rS P n j)).toInt64 (nI (512 * S)) (64 * S) w = some (pLo w (65 + 6 * j) (nI (b + rS P n j)).toInt64 4) from putLow_eq (k := 4) (by omega) (by omega) (by omega) (by omega), bd_e, ix_in (show j < 20 by omega) (by decide), r2, show nI (65 + 6 * j) + 4 = nI (65 + 6 * j + 4) from nI_add _ 4, show f_Store_putLow N 2 (nI (65 + 6 * j + 4)) (nI (rL P n j)).toInt64 (nI (512 * S)) (64 * S) (pLo w (65 + 6 * j) (nI (b + rS P n j)).toInt64 4) = some (pLo (pLo w (65 + 6 * j) (nI (b + rS P n j)).toInt64 4) (65 + 6 * j + 4) (nI (rL P n j)).toInt64 2) from putLow_eq (k := 2) (by omega) (by omega) (by omega) (by omega), bd_e, nI_1, show nI (65 + 6 * j) + 6 = nI (65 + 6 * (j + 1)) from nI_add (65 + 6 * j) 6]
      exact e
    · rw [hw, gB_pLo _ _ _ _ 2 (by decide), gB_pLo _ _ _ _ 4 (by decide), bY_l (by omega), bY_l (by omega)]
      by_cases h1 : 65 + 6 * (j + 1) ≤ q ∧ q < 65 + 6 * R
      · rw [if_pos h1, if_pos (by omega)]
      · rw [if_neg h1]
        by_cases h2 : 65 + 6 * j + 4 ≤ q ∧ q < 65 + 6 * j + 4 + 2
        · rw [if_pos h2, if_pos (by omega)]
          unfold runV
          rw [if_neg (by omega), show (q - 65) / 6 = j by omega, show (q - 65) % 6 - 4 = q - (65 + 6 * j + 4) by omega]
        · rw [if_neg h2]
          by_cases h3 : 65 + 6 * j ≤ q ∧ q < 65 + 6 * j + 4
          · rw [if_pos h3, if_pos (by omega)]
            unfold runV
            rw [if_pos (by omega), show (q - 65) / 6 = j by omega, show (q - 65) % 6 = q - (65 + 6 * j) by omega]
          · rw [if_neg h3, if_neg (by omega)]
theorem bY2 {x : Nat} (h : x < 65536) : bY x 0 + 256 * bY x 1 = x := by
  unfold bY
  rw [show 2 ^ (8 * 0) = 1 from rfl, show 2 ^ (8 * 1) = 256 from rfl]
  omega
theorem loN2' (b : Nat → Nat) (p : Nat) : loN b p 2 = b p + 256 * b (p + 1) := by
  show b p + 256 * (b (p + 1) + 256 * 0) = _
  omega
theorem bruns_loop {N k n s t z : Nat} {sz se hy y d0 : Nat → Int32} {nm : Nat → Int64} {ad : Int32} {P : Nat → Nat} {J : (Nat → Int32) → Option (Nat → Int32)} (hs : s ≤ 600) (ht : t ≤ 2) (hN : 400000 ≤ N) (hz : sz k = nI z) (hz2 : z ≤ 9000) (hzn : (z + 511) / 512 = n) (hP : pathM y P n) (hk : k < 12) (hh : hy k = if 0 < n then nI (P 0) else 0) (h0 : ∀ q, 65 ≤ q → q < 200 → mB d0 q = 0) : ∀ (r i M : Nat) (d : Nat → Int32), i + r = n → r < M → (∀ q, mB d q = if 65 ≤ q ∧ q < 65 + 6 * rN P i then runV P (s + 1 + 2 * t) i (q - 65) else mB d0 q) → ∃ d', lp_ (fun _ _ _ => none) (f_Model_beginning_L47 N sz (nI k) J se nm (nI s) ad hy (nI t) y) M (nI i) (nI (59 + 6 * rN P i)) d = lp_ (fun _ _ => none) (f_Model_beginning_L140 N sz (nI k) (nI (59 + 6 * rN P n)) d' J se nm (nI s) ad) N 0 (-1) ∧ ∀ q, mB d' q = if 65 ≤ q ∧ q < 65 + 6 * rN P n then runV P (s + 1 + 2 * t) n (q - 65) else mB d0 q := by
  intro r
  induction r with
  | zero =>
    intro i M' d hi hM hd
    obtain ⟨M, rfl⟩ : ∃ M, M' = M + 1 := ⟨M' - 1, by omega⟩
    have e : i = n := by omega
    subst e
    refine ⟨d, ?_, hd⟩
    rw [lp_s, f_Model_beginning_L47, ix_in hk (by decide), hz, (needs_eq hz2).2, bd_e, hzn, if_pos (nI_le (Nat.le_refl i) (by omega))]
  | succ r ih =>
    intro i M' d hi hM hd
    obtain ⟨M, rfl⟩ : ∃ M, M' = M + 1 := ⟨M' - 1, by omega⟩
    have hh' : hy k = nI (P 0) := by rw [hh, if_pos (by omega)]
    have p1 := hP.1 i (by omega)
    have hle := rN_le P i
    have hLl := rL_le P i
    have stepNo : ∀ hg : ¬ rGo P i, ∃ d', bd_ (f_Model_sectorOf N hy (nI k) (nI i) (nI s) (nI t) y) (fun u853 => bd_ (f_Model_low N 4 (nI (59 + 6 * rN P i) + 6) u853.toInt64 d) (fun u855 => bd_ (f_Model_lowAt N 2 (nI (59 + 6 * rN P i) + 6 + 4) u855) (fun u848 => bd_ (f_Model_low N 2 (nI (59 + 6 * rN P i) + 6 + 4) (u848 + 1) u855) (fun u850 => lp_ (fun _ _ _ => none) (f_Model_beginning_L47 N sz (nI k) J se nm (nI s) ad hy (nI t) y) M (nI (i + 1)) (nI (59 + 6 * rN P i) + 6) u850)))) = lp_ (fun _ _ => none) (f_Model_beginning_L140 N sz (nI k) (nI (59 + 6 * rN P n)) d' J se nm (nI s) ad) N 0 (-1) ∧ ∀ q, mB d' q = if 65 ≤ q ∧ q < 65 + 6 * rN P n then runV P (s + 1 + 2 * t) n (q - 65) else mB d0 q := fun hg => by
      rw [show nI (59 + 6 * rN P i) + 6 = nI (65 + 6 * rN P i) from (nI_add _ 6).trans (congrArg nI (by omega)), show nI (65 + 6 * rN P i) + 4 = nI (65 + 6 * rN P i + 4) from nI_add _ 4, msec_eq hP (show i < n by omega) (by omega) hN hk hh', bd_e, show f_Model_low N 4 (nI (65 + 6 * rN P i)) (nI (s + 1 + 2 * t + P i)).toInt64 d = some (mLo d (65 + 6 * rN P i) (nI (s + 1 + 2 * t + P i)).toInt64 4) from low_eq (k := 4) (by omega) (by omega), bd_e, show f_Model_lowAt N 2 (nI (65 + 6 * rN P i + 4)) (mLo d (65 + 6 * rN P i) (nI (s + 1 + 2 * t + P i)).toInt64 4) = _ from lowAt_eq (k := 2) (by omega) (by decide) (by omega), bd_e]
      have hz0 : ∀ q, 65 + 6 * rN P i + 4 ≤ q → q < 65 + 6 * rN P i + 6 → mB (mLo d (65 + 6 * rN P i) (nI (s + 1 + 2 * t + P i)).toInt64 4) q = 0 := fun q a b => by
        rw [mB_mLo _ _ _ _ 4 (by decide), if_neg (by omega), hd, if_neg (by omega)]
        exact h0 q (by omega) (by omega)
      rw [loN2', hz0 (65 + 6 * rN P i + 4) (by omega) (by omega), hz0 (65 + 6 * rN P i + 4 + 1) (by omega) (by omega), show lN (0 + 256 * 0) + 1 = (nI 1).toInt64 by decide +kernel, show f_Model_low N 2 (nI (65 + 6 * rN P i + 4)) (nI 1).toInt64 (mLo d (65 + 6 * rN P i) (nI (s + 1 + 2 * t + P i)).toInt64 4) = _ from low_eq (k := 2) (by omega) (by omega), bd_e, show nI (65 + 6 * rN P i) = nI (59 + 6 * rN P (i + 1)) by rw [rN_no hg]; exact congrArg nI (by omega)]
      refine ih (i + 1) M _ (by omega) (by omega) (fun q => ?_)
      rw [mB_mLo _ _ _ _ 2 (by decide), mB_mLo _ _ _ _ 4 (by decide), bY_l (by omega), bY_l (by omega), hd, rN_no hg]
      by_cases h2 : 65 + 6 * rN P i + 4 ≤ q ∧ q < 65 + 6 * rN P i + 4 + 2
      · rw [if_pos h2, if_pos (by omega)]
        unfold runV
        rw [if_neg (by omega), show (q - 65) / 6 = rN P i by omega, rL_no hg, if_pos rfl, show (q - 65) % 6 - 4 = q - (65 + 6 * rN P i + 4) by omega]
      · rw [if_neg h2]
        by_cases h3 : 65 + 6 * rN P i ≤ q ∧ q < 65 + 6 * rN P i + 4
        · rw [if_pos h3, if_pos (by omega)]
          unfold runV
          rw [if_pos (by omega), show (q - 65) / 6 = rN P i by omega, rS_no hg, if_pos rfl, show (q - 65) % 6 = q - (65 + 6 * rN P i) by omega]
        · rw [if_neg h3]
          by_cases h4 : 65 ≤ q ∧ q < 65 + 6 * rN P i
          · rw [if_pos h4, if_pos (by omega)]
            have hne : ¬ (q - 65) / 6 = rN P i := by omega
            unfold runV
            rw [rS_no hg, rL_no hg, if_neg hne, if_neg hne]
          · rw [if_neg h4, if_neg (by omega)]
    rw [lp_s, f_Model_beginning_L47, ix_in hk (by decide), hz, (needs_eq hz2).2, bd_e, hzn, if_neg (nI_ge (show i < n by omega) (by omega))]
    dsimp only [lt_]
    rw [nI_1]
    by_cases hi0 : i = 0
    · have hg : ¬ rGo P i := fun q => absurd q.1 (by omega)
      rw [if_pos (show nI i = 0 by rw [hi0]; rfl), if_neg (show ¬ (1 : Int32) = 0 by decide)]
      exact stepNo hg
    · have p2 := hP.1 (i - 1) (by omega)
      have hpos := rN_pos P i (by omega)
      rw [if_neg (nI_ne0 (by omega) (by omega))]
      have e1 : f_Model_sectorOf N hy (nI k) (nI (i - 1)) (nI s) (nI t) y = _ := msec_eq hP (show i - 1 < n by omega) (by omega) hN hk hh'
      have e2 : f_Model_sectorOf N hy (nI k) (nI i) (nI s) (nI t) y = _ := msec_eq hP (show i < n by omega) (by omega) hN hk hh'
      by_cases hg : rGo P i
      · rw [e2, bd_e, show nI i - 1 = nI (i - 1) from pk_sub (b := 1) (by omega), e1, bd_e, nI_1, if_pos (by rw [hg.2]; exact congrArg nI (by omega)), if_pos rfl, show nI (59 + 6 * rN P i) + 4 = nI (59 + 6 * rN P i + 4) from nI_add _ 4, show f_Model_lowAt N 2 (nI (59 + 6 * rN P i + 4)) d = _ from lowAt_eq (k := 2) (by omega) (by decide) (by omega), bd_e]
        have hb : ∀ o, o < 2 → mB d (59 + 6 * rN P i + 4 + o) = bY (rL P i (rN P i - 1)) o := fun o ho => by
          rw [hd, if_pos (by omega)]
          unfold runV
          rw [if_neg (by omega), show (59 + 6 * rN P i + 4 + o - 65) / 6 = rN P i - 1 by omega, show (59 + 6 * rN P i + 4 + o - 65) % 6 - 4 = o by omega]
        have hl1 := hLl (rN P i - 1)
        rw [loN2', hb 1 (by decide), show mB d (59 + 6 * rN P i + 4) = bY (rL P i (rN P i - 1)) 0 from hb 0 (by decide), bY2 (by omega), show lN (rL P i (rN P i - 1)) + 1 = (nI (rL P i (rN P i - 1) + 1)).toInt64 by rw [nI_l (by omega)]; exact (Int64.ofNat_add _ 1).symm, show f_Model_low N 2 (nI (59 + 6 * rN P i + 4)) (nI (rL P i (rN P i - 1) + 1)).toInt64 d = _ from low_eq (k := 2) (by omega) (by omega), bd_e, ← rN_go hg]
        refine ih (i + 1) M _ (by omega) (by omega) (fun q => ?_)
        rw [mB_mLo _ _ _ _ 2 (by decide), rN_go hg, bY_l (by omega), hd]
        by_cases h2 : 59 + 6 * rN P i + 4 ≤ q ∧ q < 59 + 6 * rN P i + 4 + 2
        · rw [if_pos h2, if_pos (by omega)]
          unfold runV
          rw [if_neg (by omega), show (q - 65) / 6 = rN P i - 1 by omega, rL_go hg, if_pos (by omega), show (q - 65) % 6 - 4 = q - (59 + 6 * rN P i + 4) by omega]
        · rw [if_neg h2]
          by_cases h4 : 65 ≤ q ∧ q < 65 + 6 * rN P i
          · rw [if_pos h4, if_pos h4]
            unfold runV
            rw [rS_go hg]
            by_cases h5 : (q - 65) % 6 < 4
            · rw [if_pos h5, if_pos h5]
            · rw [if_neg h5, if_neg h5, rL_go hg, if_neg (by omega)]
          · rw [if_neg h4, if_neg h4]
      · have hne : ¬ nI (s + 1 + 2 * t + P i) = nI (s + 1 + 2 * t + P (i - 1) + 1) := fun q => hg ⟨by omega, by have := (nI_eq (by omega) (by omega)).mp q; omega⟩
        have hno := stepNo hg
        rw [e2, bd_e] at hno ⊢
        rw [show nI i - 1 = nI (i - 1) from pk_sub (b := 1) (by omega), e1, bd_e, nI_1, if_neg hne, if_neg (show ¬ (1 : Int32) = 0 by decide), bd_e]
        exact hno
/-! pure: write: sector 0, on both sides -/
theorem Sim_putn {A : Nat → Prop} {w : Nat → Int64} {d : Nat → Int32} {p : Nat} {u v : Int32} (hA : A p) (h : lo8 u = lo8 v) : Sim A (gB w) (gB (pB w p u)) (mB d) (mB (upd d p (vp_nar .byte v))) := fun q => by
  rw [gB_pB, mB_updn]
  by_cases e : q = p
  · rw [if_pos e, if_pos e]
    exact ⟨fun _ _ => h, fun a => absurd (e ▸ hA) a⟩
  · rw [if_neg e, if_neg e]
    exact ⟨fun _ a => a, fun _ => ⟨rfl, rfl⟩⟩
theorem upbL {β : Type} {i : Int32} (j : Nat) {f : Nat → Int32} {x : Int32} {K : (Nat → Int32) → Option β} (hi : i = nI j) (hj : j < 307200) : up_b 307200 f i x K = K (upd f j (vp_nar .byte x)) := by
  rw [hi, upb_in hj (by decide)]
/-- four bytes put by the reference -/
def mW (d : Nat → Int32) (p : Nat) (a b c e : Int32) : Nat → Int32 := upd (upd (upd (upd d p (vp_nar .byte a.toInt8.toInt32)) (p + 1) (vp_nar .byte b.toInt8.toInt32)) (p + 2) (vp_nar .byte c.toInt8.toInt32)) (p + 3) (vp_nar .byte e.toInt8.toInt32)
theorem word_eq {d : Nat → Int32} {p : Nat} {a b c e : Int32} (hp : p + 4 ≤ 307200) : f_Model_word a d (nI p) b c e = some (mW d p a b c e) := by
  unfold f_Model_word mW
  dsimp only [lt_]
  rw [upb_in (show p < 307200 by omega) (by decide), show nI p + 1 = nI (p + 1) from nI_add p 1, upb_in (show p + 1 < 307200 by omega) (by decide), show nI p + 2 = nI (p + 2) from nI_add p 2, upb_in (show p + 2 < 307200 by omega) (by decide), show nI p + 3 = nI (p + 3) from nI_add p 3, upb_in (show p + 3 < 307200 by omega) (by decide)]
/-- the end of sector 0, from the reference's side -/
def zEnd (S : Nat) (d : Nat → Int32) : Nat → Int32 := upd (upd (mLo (mLo (mW (mW d 446 0 0 2 0) 450 238 255 255 255) 454 1 4) 458 (nI S - 1).toInt64 4) 510 (vp_nar .byte 85)) 511 (vp_nar .byte (-86))
def zEndC (S : Nat) (w : Nat → Int64) : Nat → Int64 := pLo (pLo (pLo (pR w 446 (tVal 3) 8) 454 1 4) 458 (nI S - 1).toInt64 4) 510 43605 2
theorem zEnd_sim {S : Nat} {w : Nat → Int64} {d : Nat → Int32} : Sim (fun q => q < 512) (gB w) (gB (zEndC S w)) (mB d) (mB (zEnd S d)) := by
  have t : ∀ i : Fin 8, lo8 (tVal 3 i.val) = lo8 (([0, 0, 2, 0, 238, 255, 255, 255] : List Int32).getD i.val 0) := by decide +kernel
  have s1 : Sim (fun q => q < 512) (gB w) (gB (pR w 446 (tVal 3) 8)) (mB d) (mB (mW (mW d 446 0 0 2 0) 450 238 255 255 255)) :=
    Sim_trans (Sim_put (show 446 + 0 < 512 by decide) (t 0)) (Sim_trans (Sim_put (show 446 + 1 < 512 by decide) (t 1)) (Sim_trans (Sim_put (show 446 + 2 < 512 by decide) (t 2)) (Sim_trans (Sim_put (show 446 + 3 < 512 by decide) (t 3)) (Sim_trans (Sim_put (show 446 + 4 < 512 by decide) (t 4)) (Sim_trans (Sim_put (show 446 + 5 < 512 by decide) (t 5)) (Sim_trans (Sim_put (show 446 + 6 < 512 by decide) (t 6)) (Sim_put (show 446 + 7 < 512 by decide) (t 7))))))))
  refine Sim_trans s1 (Sim_trans (Sim_low (p := 454) (k := 4) (v := 1) (by decide) (fun q a b => by show q < 512; omega)) (Sim_trans (Sim_low (p := 458) (k := 4) (v := (nI S - 1).toInt64) (by decide) (fun q a b => by show q < 512; omega)) ?_))
  exact Sim_trans (Sim_putn (show 510 + 0 < 512 by decide) (by decide +kernel)) (Sim_putn (show 510 + 1 < 512 by decide) (by decide +kernel))
theorem zEnd_class {S N : Nat} {w : Nat → Int64} {u : Int32} (hS : 100 ≤ S ∧ S ≤ 600) (hN : 400000 ≤ N) : bd_ (f_Store_putRow N 8 446 (tVal 3) (nI (512 * S)) (64 * S) w) (fun u29 => bd_ (f_Store_putLow N 4 454 1 (nI (512 * S)) (64 * S) u29) (fun u30 => bd_ (f_Store_putLow N 4 458 (nI S - 1).toInt64 (nI (512 * S)) (64 * S) u30) (fun u33 => bd_ (f_Store_markBootSector N 0 (nI (512 * S)) (64 * S) u33) (fun u34 => some (u34, u))))) = some (zEndC S w, u) := by
  rw [show f_Store_putRow N 8 446 (tVal 3) (nI (512 * S)) (64 * S) w = _ from putRow_eq (p := 446) (k := 8) (by omega) (by omega) (by omega) (by omega), bd_e, show f_Store_putLow N 4 454 1 (nI (512 * S)) (64 * S) (pR w 446 (tVal 3) 8) = _ from putLow_eq (p := 454) (k := 4) (by omega) (by omega) (by omega) (by omega), bd_e, show f_Store_putLow N 4 458 (nI S - 1).toInt64 (nI (512 * S)) (64 * S) (pLo (pR w 446 (tVal 3) 8) 454 1 4) = _ from putLow_eq (p := 458) (k := 4) (by omega) (by omega) (by omega) (by omega), bd_e, show f_Store_markBootSector N 0 (nI (512 * S)) (64 * S) (pLo (pLo (pR w 446 (tVal 3) 8) 454 1 4) 458 (nI S - 1).toInt64 4) = _ from mark_eq (s := 0) hS (by omega) (by omega), bd_e]
  rfl
theorem zEnd_model {S N : Nat} {d : Nat → Int32} (hN : 400000 ≤ N) : bd_ (f_Model_word 0 d 446 0 2 0) (fun u596 => bd_ (f_Model_word 238 u596 450 255 255 255) (fun u597 => bd_ (f_Model_low N 4 454 1 u597) (fun u598 => bd_ (f_Model_low N 4 458 (nI S - 1).toInt64 u598) (fun u601 => up_b 307200 u601 510 85 (fun (f602 : Nat → Int32) => up_b 307200 f602 511 (-86) (fun (f603 : Nat → Int32) => some (f603))))))) = some (zEnd S d) := by
  rw [show f_Model_word 0 d 446 0 2 0 = _ from word_eq (p := 446) (by decide), bd_e, show f_Model_word 238 (mW d 446 0 0 2 0) 450 255 255 255 = _ from word_eq (p := 450) (by decide), bd_e, show f_Model_low N 4 454 1 (mW (mW d 446 0 0 2 0) 450 238 255 255 255) = _ from low_eq (p := 454) (k := 4) (by omega) (by omega), bd_e, show f_Model_low N 4 458 (nI S - 1).toInt64 (mLo (mW (mW d 446 0 0 2 0) 450 238 255 255 255) 454 1 4) = _ from low_eq (p := 458) (k := 4) (by omega) (by omega), bd_e, upbL (i := 510) 510 rfl (by decide), upbL (i := 511) 511 rfl (by decide)]
  rfl
/-- what the placing left of the loader, where there is one -/
def ldAt (sz hy y vs vl : Nat → Int32) (vr : Int32) (l n s t c : Nat) : Prop := ∃ (P : Nat → Nat) (x : Nat → Int32), n = nN sz l ∧ chn x y P c 0 n ∧ (hy l = if 0 < n then nI (P 0) else 0) ∧ vr = nI (rN P n) ∧ rHas P (s + 1 + 2 * t) n vs vl
theorem zero_none {S N nf : Nat} {w : Nat → Int64} {d sz se T vs vl hy y : Nat → Int32} {nm : Nat → Int64} {ub vr ss ss2 t2 ad : Int32} (hS : 100 ≤ S ∧ S ≤ 600) (hN : 400000 ≤ N) (hf : f_Plan_fileNamed N (nI nf) nm 83903281120594 = some (-1)) : ∃ (w' : Nat → Int64) (ub' : Int32) (d' : Nat → Int32), f_Writer_writeSectorZero N w (nI (512 * S)) (64 * S) (nI nf) nm (nI S) ub vr sz se ss ad T vs vl = some (w', ub') ∧ f_Model_beginning N d (nI S) (-1) sz hy ss2 t2 y se nm ad = some d' ∧ Sim (fun q => q < 512) (gB w) (gB w') (mB d) (mB d') := by
  refine ⟨zEndC S (pB (pB w 0 235) 1 62), ub, zEnd S (upd (upd d 0 (vp_nar .byte (-21))) 1 (vp_nar .byte 62)), ?_, ?_, Sim_trans (Sim_trans (Sim_putn (show 0 < 512 by decide) (by decide +kernel)) (Sim_putn (show 1 < 512 by decide) (by decide +kernel))) zEnd_sim⟩
  · unfold f_Writer_writeSectorZero
    rw [show f_Store_put 0 w (nI (512 * S)) (64 * S) 235 = _ from put_in (p := 0) _ (by omega) (by omega) (by omega), bd_e, show f_Store_put 1 (pB w 0 235) (nI (512 * S)) (64 * S) 62 = _ from put_in (p := 1) _ (by omega) (by omega) (by omega), bd_e, hf, bd_e]
    dsimp only [lt_]
    rw [if_pos rfl]
    exact zEnd_class hS hN
  · unfold f_Model_beginning
    rw [upbL (i := 0) 0 rfl (by decide), upbL (i := 1) 1 rfl (by decide)]
    dsimp only [lt_]
    rw [if_pos (show (-1 : Int32) < 0 by decide)]
    exact zEnd_model hN
/-! pure: write: sector 0 with a loader, on both sides -/
theorem zero_some {S N nf l s t c : Nat} {w : Nat → Int64} {d sz se T vs vl hy y : Nat → Int32} {nm : Nat → Int64} {ub vr ad : Int32} (hS : 100 ≤ S ∧ S ≤ 600) (hN : 400000 ≤ N) (hT : isT T) (hnf : nf ≤ 12) (hok : FilesOk nf nm sz se) (hl : l < nf) (hs : s ≤ 600) (ht : t ≤ 2) (hc : c ≤ 598) (hf : f_Plan_fileNamed N (nI nf) nm 83903281120594 = some (nI l)) (hld : ldAt sz hy y vs vl vr l (nN sz l) s t c) (h0 : ∀ q, q < 512 → mB d q = 0) : ∃ (w' : Nat → Int64) (ub' : Int32) (d' : Nat → Int32), f_Writer_writeSectorZero N w (nI (512 * S)) (64 * S) (nI nf) nm (nI S) ub vr sz se (nI s) ad T vs vl = some (w', ub') ∧ f_Model_beginning N d (nI S) (nI l) sz hy (nI s) (nI t) y se nm ad = some d' ∧ Sim (fun q => q < 512) (gB w) (gB w') (mB d) (mB d') := by
  obtain ⟨P, x, -, hch, hh, hvr, hr⟩ := hld
  obtain ⟨hz, hz2⟩ := zN_ok hok hl
  have hn18 := nN_le hok hl
  have hRn := rN_le P (nN sz l)
  have hl12 : l < 12 := by omega
  have s01 : Sim (fun q => q < 512) (gB w) (gB (pB (pB w 0 235) 1 62)) (mB d) (mB (upd (upd d 0 (vp_nar .byte (-21))) 1 (vp_nar .byte 62))) := Sim_trans (Sim_putn (show 0 < 512 by decide) (by decide +kernel)) (Sim_putn (show 1 < 512 by decide) (by decide +kernel))
  by_cases hzz : zN sz l = 0
  · have hn0 : nN sz l = 0 := by unfold nN; omega
    refine ⟨zEndC S (pB (pB w 0 235) 1 62), ub, zEnd S (upd (upd d 0 (vp_nar .byte (-21))) 1 (vp_nar .byte 62)), ?_, ?_, Sim_trans s01 zEnd_sim⟩
    · unfold f_Writer_writeSectorZero
      rw [show f_Store_put 0 w (nI (512 * S)) (64 * S) 235 = _ from put_in (p := 0) _ (by omega) (by omega) (by omega), bd_e, show f_Store_put 1 (pB w 0 235) (nI (512 * S)) (64 * S) 62 = _ from put_in (p := 1) _ (by omega) (by omega) (by omega), bd_e, hf, bd_e]
      dsimp only [lt_]
      rw [if_neg (show ¬ nI l = ((-1) : Int32) from fun q => absurd (q ▸ nI_pos' (n := l) (by omega) : (0 : Int32) ≤ -1) (by decide)), hvr, hn0, show rN P 0 = 0 from rfl, if_pos (show nI 0 ≤ 0 by decide)]
      exact zEnd_class hS hN
    · unfold f_Model_beginning
      rw [upbL (i := 0) 0 rfl (by decide), upbL (i := 1) 1 rfl (by decide)]
      dsimp only [lt_]
      rw [if_neg (nI_pos (show l < 2 ^ 31 by omega)), ix_in hl12 (by decide), hz, hzz, if_pos (show nI 0 ≤ 0 by decide)]
      exact zEnd_model hN
  · have hnp : 0 < nN sz l := by unfold nN; omega
    have hRp := rN_pos P (nN sz l) hnp
    obtain ⟨w1, e1, hw1⟩ := wruns_loop (S := S) (k := l) (sz := sz) (se := se) (T := T) (nm := nm) (ss := nI s) (ad := ad) hS hN (rfl : rN P (nN sz l) = rN P (nN sz l)) (by omega) (show s + 1 + 2 * t ≤ 700 by omega) (fun j hj => rS_lt (b := 700) (fun q hq => by have := hch.1 q (by omega) hq; omega) (nN sz l) j (Nat.le_refl _) hj) (fun j => by have := rL_le P (nN sz l) j; omega) hr (rN P (nN sz l)) 0 N (pB (pB (pB w 0 235) 1 62) 64 (nI (rN P (nN sz l)))) (by omega) (by omega)
    have hd1 : ∀ q, 65 ≤ q → q < 200 → mB (upd (upd (upd d 0 (vp_nar .byte (-21))) 1 (vp_nar .byte 62)) 64 (vp_nar .byte (nI (rN P (nN sz l))).toInt8.toInt32)) q = 0 := fun q a b => by
      rw [mB_upd, if_neg (by omega), mB_updn, if_neg (by omega), mB_updn, if_neg (by omega)]
      exact h0 q (by omega)
    obtain ⟨d1, e2, hd2⟩ := bruns_loop (N := N) (k := l) (n := nN sz l) (s := s) (t := t) (z := zN sz l) (sz := sz) (se := se) (hy := hy) (y := y) (nm := nm) (ad := ad) (P := P) (J := fun x595 => bd_ (f_Model_word 0 x595 446 0 2 0) (fun u596 => bd_ (f_Model_word 238 u596 450 255 255 255) (fun u597 => bd_ (f_Model_low N 4 454 1 u597) (fun u598 => bd_ (f_Model_low N 4 458 (nI S - 1).toInt64 u598) (fun u601 => up_b 307200 u601 510 85 (fun (f602 : Nat → Int32) => up_b 307200 f602 511 (-86) (fun (f603 : Nat → Int32) => some (f603)))))))) hs ht hN hz hz2 rfl (chn_path (by omega) hch) hl12 hh hd1 (nN sz l) 0 N (upd (upd (upd d 0 (vp_nar .byte (-21))) 1 (vp_nar .byte 62)) 64 (vp_nar .byte (nI (rN P (nN sz l))).toInt8.toInt32)) (by omega) (by omega) (fun q => by rw [show rN P 0 = 0 from rfl, if_neg (show ¬ (65 ≤ q ∧ q < 65 + 6 * 0) by omega)])
    have hs3 : Sim (fun q => q < 512) (gB (pB (pB (pB w 0 235) 1 62) 64 (nI (rN P (nN sz l))))) (gB w1) (mB (upd (upd (upd d 0 (vp_nar .byte (-21))) 1 (vp_nar .byte 62)) 64 (vp_nar .byte (nI (rN P (nN sz l))).toInt8.toInt32))) (mB d1) := Sim_of (v := fun q => runV P (s + 1 + 2 * t) (nN sz l) (q - 65)) (p := 65) (k := 6 * rN P (nN sz l)) (fun q a b => by show q < 512; omega) (fun q => by rw [hw1]) hd2
    refine ⟨zEndC S (pLo (pLo w1 (65 + 6 * rN P (nN sz l)) (nI (zN sz l)).toInt64 4) (65 + 6 * rN P (nN sz l) + 4) (cR (fB sz se nm (nI s) ad l) 0 (zN sz l) ^^^ (-1)).toInt64 4), cR (fB sz se nm (nI s) ad l) 0 (zN sz l), zEnd S (mLo (mLo d1 (65 + 6 * rN P (nN sz l)) (nI (zN sz l)).toInt64 4) (65 + 6 * rN P (nN sz l) + 4) (cR (fB sz se nm (nI s) ad l) 0 (zN sz l) ^^^ (-1)).toInt64 4), ?_, ?_, ?_⟩
    · unfold f_Writer_writeSectorZero f_Writer_writeRuns
      rw [show f_Store_put 0 w (nI (512 * S)) (64 * S) 235 = _ from put_in (p := 0) _ (by omega) (by omega) (by omega), bd_e, show f_Store_put 1 (pB w 0 235) (nI (512 * S)) (64 * S) 62 = _ from put_in (p := 1) _ (by omega) (by omega) (by omega), bd_e, hf, bd_e]
      dsimp only [lt_]
      rw [if_neg (show ¬ nI l = ((-1) : Int32) from fun q => absurd (q ▸ nI_pos' (n := l) (by omega) : (0 : Int32) ≤ -1) (by decide)), hvr, if_neg (nI_nle hRp (by omega)), show f_Store_put 64 (pB (pB w 0 235) 1 62) (nI (512 * S)) (64 * S) (nI (rN P (nN sz l))) = _ from put_in (p := 64) _ (by omega) (by omega) (by omega), bd_e]
      have e1' : lp_ (fun _ _ _ => none) (f_Writer_writeRuns_L21 N (nI (rN P (nN sz l))) sz (nI l) (nI (512 * S)) (64 * S) se nm (nI s) ad T vs vl) N 0 65 (pB (pB (pB w 0 235) 1 62) 64 (nI (rN P (nN sz l)))) = _ := e1
      rw [e1', f_Writer_writeRuns_L21, if_pos (nI_le (Nat.le_refl _) (by omega)), ix_in hl12 (by decide), hz]
      dsimp only [lt_]
      rw [show f_Store_putLow N 4 (nI (65 + 6 * rN P (nN sz l))) (nI (zN sz l)).toInt64 (nI (512 * S)) (64 * S) w1 = _ from putLow_eq (k := 4) (by omega) (by omega) (by omega) (by omega), bd_e, fsum_eq hT hnf hok hl hz hz2 hN, bd_e, show nI (65 + 6 * rN P (nN sz l)) + 4 = nI (65 + 6 * rN P (nN sz l) + 4) from nI_add _ 4]
      dsimp only
      rw [show f_Store_putLow N 4 (nI (65 + 6 * rN P (nN sz l) + 4)) (cR (fB sz se nm (nI s) ad l) 0 (zN sz l) ^^^ (-1)).toInt64 (nI (512 * S)) (64 * S) (pLo w1 (65 + 6 * rN P (nN sz l)) (nI (zN sz l)).toInt64 4) = _ from putLow_eq (k := 4) (by omega) (by omega) (by omega) (by omega), bd_e, bd_e]
      exact zEnd_class hS hN
    · unfold f_Model_beginning
      rw [upbL (i := 0) 0 rfl (by decide), upbL (i := 1) 1 rfl (by decide)]
      dsimp only [lt_]
      rw [if_neg (nI_pos (show l < 2 ^ 31 by omega)), ix_in hl12 (by decide), hz, if_neg (nI_nle (show 0 < zN sz l by omega) (by omega)), runs_eq (n := nN sz l) hs ht hN hz hz2 rfl (chn_path (by omega) hch) hl12 hh, bd_e, upbL (i := 64) 64 rfl (by decide)]
      have e2' : lp_ (fun _ _ _ => none) (f_Model_beginning_L47 N sz (nI l) _ se nm (nI s) ad hy (nI t) y) N 0 59 _ = _ := e2
      rw [e2']
      have e3 := bsum_loop (N := N) (k := l) (z := zN sz l) (p := 59 + 6 * rN P (nN sz l)) (sz := sz) (se := se) (d := d1) (nm := nm) (ss := nI s) (ad := ad) (J := fun x595 => bd_ (f_Model_word 0 x595 446 0 2 0) (fun u596 => bd_ (f_Model_word 238 u596 450 255 255 255) (fun u597 => bd_ (f_Model_low N 4 454 1 u597) (fun u598 => bd_ (f_Model_low N 4 458 (nI S - 1).toInt64 u598) (fun u601 => up_b 307200 u601 510 85 (fun (f602 : Nat → Int32) => up_b 307200 f602 511 (-86) (fun (f603 : Nat → Int32) => some (f603)))))))) hnf hok hl hz hz2 hN (by omega) (zN sz l) 0 N (by omega) (by omega)
      have e3' : lp_ (fun _ _ => none) (f_Model_beginning_L140 N sz (nI l) (nI (59 + 6 * rN P (nN sz l))) d1 _ se nm (nI s) ad) N 0 (-1) = _ := e3
      rw [e3', show 59 + 6 * rN P (nN sz l) + 6 = 65 + 6 * rN P (nN sz l) by omega, show 59 + 6 * rN P (nN sz l) + 10 = 65 + 6 * rN P (nN sz l) + 4 by omega]
      exact zEnd_model hN
    · exact Sim_trans s01 (Sim_trans (Sim_put (show 64 < 512 by decide) rfl) (Sim_trans hs3 (Sim_trans (Sim_low (by decide) (fun q a b => by show q < 512; omega)) (Sim_trans (Sim_low (by decide) (fun q a b => by show q < 512; omega)) zEnd_sim))))
/-! pure: write: an entry of the table, on both sides -/
def nmL (g : Nat → Int32) (a1 : Int32) (a2 : Int32) (d_length : Int32) (d_words_n : Nat) (k152 : Int32 → (Nat → Int64) → Option ((Nat → Int64))) (x1443 : Int32) (x1444 : Nat → Int64) : Option ((Nat → Int64)) :=
  bd_ (f_String_length 4) (fun u1458 => if u1458 ≤ x1443 then lt_ (a1 + 56) (fun v1459 => bd_ (f_String_length 4) (fun u1460 => lt_ ((2 : Int32) * u1460) (fun v1461 => lt_ (v1459 + v1461) (fun v1462 => lt_ ((48 : Int32) + a2) (fun v1463 => bd_ (f_Store_put v1462 x1444 d_length d_words_n v1463) (fun u1464 => some (u1464))))))) else lt_ (a1 + 56) (fun v1465 => lt_ ((2 : Int32) * x1443) (fun v1466 => lt_ (v1465 + v1466) (fun v1467 => bd_ (f_String_charAt x1443 4 g) (fun u1468 => bd_ (f_Store_put v1467 x1444 d_length d_words_n u1468) (fun u1469 => lt_ (x1443 + 1) (fun v1470 => k152 v1470 u1469)))))))
theorem nmL_a : @f_Writer_writeEntry_L152 = nmL (sByt 3) := rfl
theorem nmL_b : @f_Writer_writeEntry_L152' = nmL (sByt 2) := rfl
theorem nmL_c : @f_Writer_writeEntry_L42' = @f_Writer_writeEntry_L42 := rfl
/-- a partition's name put by the class -/
def nmW (g : Nat → Int32) (w : Nat → Int64) (p k : Nat) : Nat → Int64 := pB (pB (pB (pB (pB w (p + 56) (g 0)) (p + 58) (g 1)) (p + 60) (g 2)) (p + 62) (g 3)) (p + 64) (nI (48 + k))
theorem nm_eq {S p k N : Nat} {g : Nat → Int32} {w : Nat → Int64} (hS : 100 ≤ S ∧ S ≤ 600) (hN : 400000 ≤ N) (hp : p + 128 ≤ 512 * S) (hg : isTx g 4) : lp_ (fun _ _ => none) (nmL g (nI p) (nI k) (nI (512 * S)) (64 * S)) N 0 w = some (nmW g w p k) := by
  have step : ∀ (i : Nat) (v : Nat → Int64) (K : Int32 → (Nat → Int64) → Option ((Nat → Int64))), i < 4 → nmL g (nI p) (nI k) (nI (512 * S)) (64 * S) K (nI i) v = K (nI (i + 1)) (pB v (p + 56 + 2 * i) (g i)) := fun i v K hi => by
    rw [nmL, strlen_eq (by decide), bd_e, if_neg (nI_ge hi (by omega))]
    dsimp only [lt_]
    rw [show nI p + 56 = nI (p + 56) from nI_add p 56, show (2 : Int32) * nI i = nI (2 * i) from pk_mul 2 i, nI_add, charAt_eq (by decide) hg hi, bd_e, put_in _ (by omega) (by omega) (by omega), bd_e, nI_1]
  obtain ⟨M, rfl⟩ : ∃ M, N = M + 5 := ⟨N - 5, by omega⟩
  rw [lp_s, show (0 : Int32) = nI 0 from rfl, step 0 _ _ (by decide), lp_s, step 1 _ _ (by decide), lp_s, step 2 _ _ (by decide), lp_s, step 3 _ _ (by decide), lp_s, nmL, strlen_eq (by decide), bd_e, if_pos (nI_le (Nat.le_refl 4) (by decide))]
  dsimp only [lt_]
  rw [bd_e, show nI p + 56 = nI (p + 56) from nI_add p 56, show (2 : Int32) * nI 4 = nI 8 by decide, nI_add, show (48 : Int32) + nI k = nI (48 + k) from nI_add 48 k, put_in _ (show p + 56 + 8 < 512 * S by omega) (by omega) (by omega), bd_e]
  rfl
/-- an entry put by the class -/
def enW (g : Nat → Int32) (w : Nat → Int64) (p k σ : Nat) (a b : Int32) : Nat → Int64 := nmW g (pLo (pLo (pR (pR w p (tVal σ) 16) (p + 16) (fun i => nI (32 * (k + 1) + i)) 16) (p + 32) a.toInt64 8) (p + 40) b.toInt64 8) p k
theorem en_loop {S p k N : Nat} {x : Int32} {w : Nat → Int64} {st le : Nat → Int32} (hS : 100 ≤ S ∧ S ≤ 600) (hN : 400000 ≤ N) (hk : k < 4) (hp : p + 128 ≤ 512 * S) (hx : x = 0 ∨ x = 1) : ∀ (r i M : Nat), i + r = 16 → r < M → lp_ (fun _ _ => none) (f_Writer_writeEntry_L42 N (nI p) st (nI k) (nI (512 * S)) (64 * S) le x) M (nI i) (pR w (p + 16) (fun i => nI (32 * (k + 1) + i)) i) = some (nmW (if x = 0 then sByt 3 else sByt 2) (pLo (pLo (pR w (p + 16) (fun i => nI (32 * (k + 1) + i)) 16) (p + 32) (st k).toInt64 8) (p + 40) (st k + le k - 1).toInt64 8) p k) := by
  intro r
  induction r with
  | zero =>
    intro i M' hi hM
    obtain ⟨M, rfl⟩ : ∃ M, M' = M + 1 := ⟨M' - 1, by omega⟩
    have e : i = 16 := by omega
    subst e
    rw [lp_s, f_Writer_writeEntry_L42, if_pos (show (16 : Int32) ≤ nI 16 by decide)]
    dsimp only [lt_]
    rw [ix_in hk (by decide), show nI p + 32 = nI (p + 32) from nI_add p 32, show ∀ v, f_Store_putLow N 8 (nI (p + 32)) (st k).toInt64 (nI (512 * S)) (64 * S) v = some (pLo v (p + 32) (st k).toInt64 8) from fun v => putLow_eq (k := 8) (by omega) (by omega) (by omega) (by omega), bd_e, ix_in hk (by decide), ix_in hk (by decide), show nI p + 40 = nI (p + 40) from nI_add p 40, show ∀ v, f_Store_putLow N 8 (nI (p + 40)) (st k + le k - 1).toInt64 (nI (512 * S)) (64 * S) v = some (pLo v (p + 40) (st k + le k - 1).toInt64 8) from fun v => putLow_eq (k := 8) (by omega) (by omega) (by omega) (by omega), bd_e]
    rcases hx with e | e
    · rw [if_pos e, if_pos e, nmL_a]
      exact nm_eq hS hN hp (sByt_tx 3 (by decide))
    · have e' : ¬ x = 0 := by rw [e]; decide
      rw [if_neg e', if_neg e', nmL_b]
      exact nm_eq hS hN hp (sByt_tx 2 (by decide))
  | succ r ih =>
    intro i M' hi hM
    obtain ⟨M, rfl⟩ : ∃ M, M' = M + 1 := ⟨M' - 1, by omega⟩
    rw [lp_s, f_Writer_writeEntry_L42, if_neg (show ¬ (16 : Int32) ≤ nI i from nI_ge (b := 16) (by omega) (by decide))]
    dsimp only [lt_]
    rw [show nI p + 16 = nI (p + 16) from nI_add p 16, nI_add, nI_1, show (32 : Int32) * nI (k + 1) = nI (32 * (k + 1)) from pk_mul 32 (k + 1), nI_add, put_in _ (show p + 16 + i < 512 * S by omega) (by omega) (by omega), bd_e, nI_1]
    exact ih (i + 1) M (by omega) (by omega)
theorem entry_class {S p k N σ : Nat} {w : Nat → Int64} {so st le : Nat → Int32} (hS : 100 ≤ S ∧ S ≤ 600) (hN : 400000 ≤ N) (hk : k < 4) (hp : p + 128 ≤ 512 * S) (hσ : σ = 0 ∨ σ = 1) (hso : so k = nI σ) : f_Writer_writeEntry N so (nI k) (nI p) (nI (512 * S)) (64 * S) w st le = some (enW (sByt (2 + σ)) w p k σ (st k) (st k + le k - 1)) := by
  unfold f_Writer_writeEntry
  rw [ix_in hk (by decide), hso]
  dsimp only [lt_]
  rcases hσ with e | e
  · subst e
    rw [if_neg (show ¬ ¬ nI 0 = 0 by decide), if_neg (show ¬ (1 : Int32) = 0 by decide), show f_Store_putRow N 16 (nI p) (tVal 0) (nI (512 * S)) (64 * S) w = _ from putRow_eq (k := 16) (by omega) (by omega) (by omega) (by omega), bd_e, nmL_c]
    have := en_loop (st := st) (le := le) (w := pR w p (tVal 0) 16) hS hN hk hp (Or.inr rfl) 16 0 N (by omega) (by omega)
    rw [if_neg (show ¬ (1 : Int32) = 0 by decide)] at this
    exact this
  · subst e
    rw [if_pos (show ¬ nI 1 = 0 by decide), if_pos rfl, show f_Store_putRow N 16 (nI p) (tVal 1) (nI (512 * S)) (64 * S) w = _ from putRow_eq (k := 16) (by omega) (by omega) (by omega) (by omega), bd_e]
    have := en_loop (st := st) (le := le) (w := pR w p (tVal 1) 16) hS hN hk hp (Or.inl rfl) 16 0 N (by omega) (by omega)
    rw [if_pos rfl] at this
    exact this
/-! pure: write: an entry of the table, the reference's side; both alike -/
theorem six_1 : ∀ i, i < 16 → f_Model_sixteen (nI i) (nI 1) = some (tVal 1 i) := by decide +kernel
theorem six_s {σ i : Nat} (hσ : σ = 0 ∨ σ = 1) (hi : i < 16) : f_Model_sixteen (nI i) (nI σ) = some (tVal σ i) := by
  rcases hσ with e | e
  · subst e; exact six_eq i hi
  · subst e; exact six_1 i hi
/-- a partition's name put by the reference -/
def nmD (g : Nat → Int32) (d : Nat → Int32) (p k : Nat) : Nat → Int32 := upd (mW (mW d (p + 56) (g 0) 0 (g 1) 0) (p + 60) (g 2) 0 (g 3) 0) (p + 64) (vp_nar .byte (nI (48 + k)).toInt8.toInt32)
theorem men_loop {p k N σ : Nat} {so st le d0 : Nat → Int32} {K : Int32 → (Nat → Int32) → Option (Nat → Int32)} (hN : 400000 ≤ N) (hk : k < 4) (hp : p + 128 ≤ 307200) (hσ : σ = 0 ∨ σ = 1) (hso : so k = nI σ) : ∀ (r i M : Nat) (d : Nat → Int32), i + r = 16 → r < M → (∀ q, mB d q = if p ≤ q ∧ q < p + i then lo8 (tVal σ (q - p)) else if p + 16 ≤ q ∧ q < p + 16 + i then lo8 (nI (32 * (k + 1) + (q - (p + 16)))) else mB d0 q) → ∃ d' : Nat → Int32, lp_ (fun _ _ => none) (f_Model_tables_L49 N (nI p) st (nI k) le so K) M (nI i) d = K (nI (k + 1)) (nmD (sByt (2 + σ)) (mLo (mLo d' (p + 32) (st k).toInt64 8) (p + 40) (st k + le k - 1).toInt64 8) p k) ∧ ∀ q, mB d' q = if p ≤ q ∧ q < p + 16 then lo8 (tVal σ (q - p)) else if p + 16 ≤ q ∧ q < p + 16 + 16 then lo8 (nI (32 * (k + 1) + (q - (p + 16)))) else mB d0 q := by
  intro r
  induction r with
  | zero =>
    intro i M' d hi hM hd
    obtain ⟨M, rfl⟩ : ∃ M, M' = M + 1 := ⟨M' - 1, by omega⟩
    have e : i = 16 := by omega
    subst e
    refine ⟨d, ?_, hd⟩
    rw [lp_s, f_Model_tables_L49, if_pos (show (16 : Int32) ≤ nI 16 by decide)]
    dsimp only [lt_]
    rw [ix_in (f := st) hk (by decide), show nI p + 32 = nI (p + 32) from nI_add p 32, show ∀ v, f_Model_low N 8 (nI (p + 32)) (st k).toInt64 v = some (mLo v (p + 32) (st k).toInt64 8) from fun v => low_eq (k := 8) (by omega) (by omega), bd_e, ix_in (f := st) hk (by decide), ix_in (f := le) hk (by decide), show nI p + 40 = nI (p + 40) from nI_add p 40, show ∀ v, f_Model_low N 8 (nI (p + 40)) (st k + le k - 1).toInt64 v = some (mLo v (p + 40) (st k + le k - 1).toInt64 8) from fun v => low_eq (k := 8) (by omega) (by omega), bd_e, ix_in (f := so) hk (by decide), hso, show nI p + 56 = nI (p + 56) from nI_add p 56]
    have h0 : σ = 0 ∨ σ = 1 := hσ
    rcases hσ with e | e
    · subst e
      have hn : ¬ ¬ nI 0 = 0 := by decide
      rw [if_neg hn, ix_in (f := so) hk (by decide), hso, if_neg hn, word_eq (by omega), bd_e, ix_in (f := so) hk (by decide), hso, if_neg hn, ix_in (f := so) hk (by decide), hso, if_neg hn, show nI p + 60 = nI (p + 60) from nI_add p 60, word_eq (by omega), bd_e, show nI p + 64 = nI (p + 64) from nI_add p 64, show (48 : Int32) + nI k = nI (48 + k) from nI_add 48 k, nI_1, upb_in (show p + 64 < 307200 by omega) (by decide)]
      rfl
    · subst e
      have hn : ¬ nI 1 = 0 := by decide
      rw [if_pos hn, ix_in (f := so) hk (by decide), hso, if_pos hn, word_eq (by omega), bd_e, ix_in (f := so) hk (by decide), hso, if_pos hn, ix_in (f := so) hk (by decide), hso, if_pos hn, show nI p + 60 = nI (p + 60) from nI_add p 60, word_eq (by omega), bd_e, show nI p + 64 = nI (p + 64) from nI_add p 64, show (48 : Int32) + nI k = nI (48 + k) from nI_add 48 k, nI_1, upb_in (show p + 64 < 307200 by omega) (by decide)]
      rfl
  | succ r ih =>
    intro i M' d hi hM hd
    obtain ⟨M, rfl⟩ : ∃ M, M' = M + 1 := ⟨M' - 1, by omega⟩
    rw [lp_s, f_Model_tables_L49, if_neg (show ¬ (16 : Int32) ≤ nI i from nI_ge (b := 16) (by omega) (by decide))]
    dsimp only [lt_]
    rw [ix_in (f := so) hk (by decide), hso, six_s hσ (by omega), bd_e, nI_add, upb_in (show p + i < 307200 by omega) (by decide), show nI p + 16 = nI (p + 16) from nI_add p 16, nI_add, nI_1, show (32 : Int32) * nI (k + 1) = nI (32 * (k + 1)) from pk_mul 32 (k + 1), nI_add, upb_in (show p + 16 + i < 307200 by omega) (by decide), nI_1]
    refine ih (i + 1) M _ (by omega) (by omega) (fun q => ?_)
    rw [mB_upd, mB_upd, hd]
    by_cases h1 : q = p + 16 + i
    · rw [if_pos h1, if_neg (by omega), if_pos (by omega), h1, Nat.add_sub_cancel_left]
    · rw [if_neg h1]
      by_cases h2 : q = p + i
      · rw [if_pos h2, if_pos (by omega), h2, Nat.add_sub_cancel_left]
      · rw [if_neg h2]
        by_cases h3 : p ≤ q ∧ q < p + i
        · rw [if_pos h3, if_pos (by omega)]
        · rw [if_neg h3]
          by_cases h4 : p + 16 ≤ q ∧ q < p + 16 + i
          · rw [if_pos h4, if_neg (by omega), if_pos (by omega)]
          · rw [if_neg h4, if_neg (by omega), if_neg (by omega)]
theorem nm_sim {A : Nat → Prop} {g : Nat → Int32} {w : Nat → Int64} {d : Nat → Int32} {p k : Nat} (hA : ∀ q, p ≤ q → q < p + 128 → A q) (hz : ∀ q, p + 56 ≤ q → q < p + 64 → gB w q = 0) : Sim A (gB w) (gB (nmW g w p k)) (mB d) (mB (nmD g d p k)) := fun q => by
  have l0 : lo8 0 = 0 := by decide
  unfold nmW nmD mW
  rw [gB_pB, gB_pB, gB_pB, gB_pB, gB_pB, mB_upd, mB_upd, mB_upd, mB_upd, mB_upd, mB_upd, mB_upd, mB_upd, mB_upd, l0]
  have e60 : p + 56 + 1 = p + 57 ∧ p + 56 + 2 = p + 58 ∧ p + 56 + 3 = p + 59 ∧ p + 60 + 1 = p + 61 ∧ p + 60 + 2 = p + 62 ∧ p + 60 + 3 = p + 63 := by omega
  obtain ⟨a1, a2, a3, a4, a5, a6⟩ := e60
  rw [a1, a2, a3, a4, a5, a6]
  by_cases h : p + 56 ≤ q ∧ q ≤ p + 64
  · refine ⟨fun _ _ => ?_, fun n => absurd (hA q (by omega) (by omega)) n⟩
    obtain ⟨j, rfl⟩ : ∃ j, q = p + 56 + j := ⟨q - (p + 56), by omega⟩
    have hj : j = 0 ∨ j = 1 ∨ j = 2 ∨ j = 3 ∨ j = 4 ∨ j = 5 ∨ j = 6 ∨ j = 7 ∨ j = 8 := by omega
    have z := hz (p + 56 + j) (by omega)
    rcases hj with e | e | e | e | e | e | e | e | e
    · subst e; rw [if_neg (by omega), if_neg (by omega), if_neg (by omega), if_neg (by omega), if_pos (by omega), if_neg (by omega), if_neg (by omega), if_neg (by omega), if_neg (by omega), if_neg (by omega), if_neg (by omega), if_neg (by omega), if_neg (by omega), if_pos (by omega)]
    · subst e; rw [if_neg (by omega), if_neg (by omega), if_neg (by omega), if_neg (by omega), if_neg (by omega), if_neg (by omega), if_neg (by omega), if_neg (by omega), if_neg (by omega), if_neg (by omega), if_neg (by omega), if_neg (by omega), if_pos (by omega)]; exact z (by omega)
    · subst e; rw [if_neg (by omega), if_neg (by omega), if_neg (by omega), if_pos (by omega), if_neg (by omega), if_neg (by omega), if_neg (by omega), if_neg (by omega), if_neg (by omega), if_neg (by omega), if_pos (by omega)]
    · subst e; rw [if_neg (by omega), if_neg (by omega), if_neg (by omega), if_neg (by omega), if_neg (by omega), if_neg (by omega), if_neg (by omega), if_neg (by omega), if_neg (by omega), if_neg (by omega), if_pos (by omega)]; exact z (by omega)
    · subst e; rw [if_neg (by omega), if_neg (by omega), if_pos (by omega), if_neg (by omega), if_neg (by omega), if_neg (by omega), if_neg (by omega), if_pos (by omega)]
    · subst e; rw [if_neg (by omega), if_neg (by omega), if_neg (by omega), if_neg (by omega), if_neg (by omega), if_neg (by omega), if_neg (by omega), if_neg (by omega), if_pos (by omega)]; exact z (by omega)
    · subst e; rw [if_neg (by omega), if_pos (by omega), if_neg (by omega), if_neg (by omega), if_pos (by omega)]
    · subst e; rw [if_neg (by omega), if_neg (by omega), if_neg (by omega), if_neg (by omega), if_neg (by omega), if_neg (by omega), if_pos (by omega)]; exact z (by omega)
    · subst e; rw [if_pos (by omega), if_pos (by omega)]
  · rw [if_neg (by omega), if_neg (by omega), if_neg (by omega), if_neg (by omega), if_neg (by omega), if_neg (by omega), if_neg (by omega), if_neg (by omega), if_neg (by omega), if_neg (by omega), if_neg (by omega), if_neg (by omega), if_neg (by omega), if_neg (by omega)]
    exact ⟨fun _ a => a, fun _ => ⟨rfl, rfl⟩⟩
theorem entry_sim {p k N σ : Nat} {A : Nat → Prop} {w : Nat → Int64} {so st le d : Nat → Int32} {K : Int32 → (Nat → Int32) → Option (Nat → Int32)} (hN : 400000 ≤ N) (hk : k < 4) (hp : p + 128 ≤ 307200) (hσ : σ = 0 ∨ σ = 1) (hso : so k = nI σ) (hA : ∀ q, p ≤ q → q < p + 128 → A q) (hz : ∀ q, p + 56 ≤ q → q < p + 64 → gB w q = 0) : ∃ d' : Nat → Int32, lp_ (fun _ _ => none) (f_Model_tables_L49 N (nI p) st (nI k) le so K) N 0 d = K (nI (k + 1)) d' ∧ Sim A (gB w) (gB (enW (sByt (2 + σ)) w p k σ (st k) (st k + le k - 1))) (mB d) (mB d') ∧ (∀ q, (q < p ∨ p + 128 ≤ q) → gB (enW (sByt (2 + σ)) w p k σ (st k) (st k + le k - 1)) q = gB w q ∧ mB d' q = mB d q) := by
  obtain ⟨d1, e1, hd1⟩ := men_loop (d0 := d) (st := st) (le := le) (K := K) hN hk hp hσ hso 16 0 N d (by omega) (by omega) (fun q => by rw [if_neg (by omega), if_neg (by omega)])
  have main : ∀ A : Nat → Prop, (∀ q, p ≤ q → q < p + 128 → A q) → Sim A (gB w) (gB (enW (sByt (2 + σ)) w p k σ (st k) (st k + le k - 1))) (mB d) (mB (nmD (sByt (2 + σ)) (mLo (mLo d1 (p + 32) (st k).toInt64 8) (p + 40) (st k + le k - 1).toInt64 8) p k)) := fun A hA => by
    unfold enW
    refine Sim_trans (Sim_of (v := fun q => if q < p + 16 then lo8 (tVal σ (q - p)) else lo8 (nI (32 * (k + 1) + (q - (p + 16))))) (p := p) (k := 32) (fun q a b => hA q a (by omega)) (b2 := gB (pR (pR w p (tVal σ) 16) (p + 16) (fun i => nI (32 * (k + 1) + i)) 16)) (c2 := mB d1) (fun q => ?_) (fun q => ?_)) (Sim_trans (Sim_low (by decide) (fun q a b => hA q (by omega) (by omega))) (Sim_trans (Sim_low (by decide) (fun q a b => hA q (by omega) (by omega))) (nm_sim hA (fun q a b => ?_))))
    · rw [gB_pR, gB_pR]
      by_cases h1 : p + 16 ≤ q ∧ q < p + 16 + 16
      · rw [if_pos h1, if_pos (by omega), if_neg (by omega)]
      · rw [if_neg h1]
        by_cases h2 : p ≤ q ∧ q < p + 16
        · rw [if_pos h2, if_pos (by omega), if_pos (by omega)]
        · rw [if_neg h2, if_neg (by omega)]
    · rw [hd1]
      by_cases h2 : p ≤ q ∧ q < p + 16
      · rw [if_pos h2, if_pos (by omega), if_pos (by omega)]
      · rw [if_neg h2]
        by_cases h1 : p + 16 ≤ q ∧ q < p + 16 + 16
        · rw [if_pos h1, if_pos (by omega), if_neg (by omega)]
        · rw [if_neg h1, if_neg (by omega)]
    · rw [gB_pLo _ _ _ _ 8 (by decide), if_neg (by omega), gB_pLo _ _ _ _ 8 (by decide), if_neg (by omega), gB_pR, if_neg (by omega), gB_pR, if_neg (by omega)]
      exact hz q a b
  refine ⟨_, e1, main A hA, fun q hq => ?_⟩
  have := (main (fun q => p ≤ q ∧ q < p + 128) (fun q a b => ⟨a, b⟩) q).2 (by omega)
  exact this
/-! pure: write: a table's header, on both sides -/
/-- bytes put by the reference, in their order -/
def mR (d : Nat → Int32) (p : Nat) (f : Nat → Int32) : Nat → (Nat → Int32)
  | 0 => d
  | k + 1 => upd (mR d p f k) (p + k) (vp_nar .byte (f k).toInt8.toInt32)
theorem mB_mR (d : Nat → Int32) (p : Nat) (f : Nat → Int32) (q : Nat) : ∀ k, mB (mR d p f k) q = if p ≤ q ∧ q < p + k then lo8 (f (q - p)) else mB d q
  | 0 => by rw [if_neg (by omega)]; rfl
  | k + 1 => by
    show mB (upd (mR d p f k) (p + k) _) q = _
    rw [mB_upd, mB_mR d p f q k]
    by_cases h : q = p + k
    · rw [if_pos h, if_pos (by omega), h, Nat.add_sub_cancel_left]
    · rw [if_neg h]
      by_cases h2 : p ≤ q ∧ q < p + k
      · rw [if_pos h2, if_pos (by omega)]
      · rw [if_neg h2, if_neg (by omega)]
theorem Sim_row {A : Nat → Prop} {w : Nat → Int64} {d f g : Nat → Int32} {p k : Nat} (hA : ∀ q, p ≤ q → q < p + k → A q) (h : ∀ i, i < k → lo8 (f i) = lo8 (g i)) : Sim A (gB w) (gB (pR w p f k)) (mB d) (mB (mR d p g k)) := fun q => by
  rw [gB_pR, mB_mR]
  by_cases e : p ≤ q ∧ q < p + k
  · rw [if_pos e, if_pos e]
    exact ⟨fun _ _ => h _ (by omega), fun a => absurd (hA q e.1 e.2) a⟩
  · rw [if_neg e, if_neg e]
    exact ⟨fun _ a => a, fun _ => ⟨rfl, rfl⟩⟩
/-- a header put by the class, by the reference: up to its sums -/
def hW (w : Nat → Int64) (h : Nat) (o x l e : Int64) : Nat → Int64 := pLo (pLo (pLo (pR (pLo (pLo (pLo (pLo (pLo (pB (pR w h (tVal 2) 8) (h + 10) 1) (h + 12) 92 4) (h + 24) o 8) (h + 32) x 8) (h + 40) 34 8) (h + 48) l 8) (h + 56) (fun i => nI (17 * i + 1)) 16) (h + 72) e 8) (h + 80) 128 4) (h + 84) 128 4
def hD0 (d : Nat → Int32) (h : Nat) (o x l : Int64) : Nat → Int32 := mLo (mLo (mLo (mLo (mLo (upd (mW (mW d h 69 70 73 32) (h + 4) 80 65 82 84) (h + 10) (vp_nar .byte 1)) (h + 12) 92 4) (h + 24) o 8) (h + 32) x 8) (h + 40) 34 8) (h + 48) l 8
def hD (d : Nat → Int32) (h : Nat) (o x l e : Int64) : Nat → Int32 := mLo (mLo (mLo (mR (hD0 d h o x l) (h + 56) (fun i => nI (17 * i + 1)) 16) (h + 72) e 8) (h + 80) 128 4) (h + 84) 128 4
theorem hdr_sim {A : Nat → Prop} {w : Nat → Int64} {d : Nat → Int32} {h : Nat} {o x l e : Int64} (hA : ∀ q, h ≤ q → q < h + 92 → A q) : Sim A (gB w) (gB (hW w h o x l e)) (mB d) (mB (hD d h o x l e)) := by
  have t : ∀ i : Fin 8, lo8 (tVal 2 i.val) = lo8 (([69, 70, 73, 32, 80, 65, 82, 84] : List Int32).getD i.val 0) := by decide +kernel
  have s1 : Sim A (gB w) (gB (pR w h (tVal 2) 8)) (mB d) (mB (mW (mW d h 69 70 73 32) (h + 4) 80 65 82 84)) :=
    Sim_trans (Sim_put (hA (h + 0) (by omega) (by omega)) (t 0)) (Sim_trans (Sim_put (hA (h + 1) (by omega) (by omega)) (t 1)) (Sim_trans (Sim_put (hA (h + 2) (by omega) (by omega)) (t 2)) (Sim_trans (Sim_put (hA (h + 3) (by omega) (by omega)) (t 3)) (Sim_trans (Sim_put (hA (h + 4) (by omega) (by omega)) (t 4)) (Sim_trans (Sim_put (hA (h + 5) (by omega) (by omega)) (t 5)) (Sim_trans (Sim_put (hA (h + 6) (by omega) (by omega)) (t 6)) (Sim_put (hA (h + 7) (by omega) (by omega)) (t 7))))))))
  unfold hW hD hD0
  exact Sim_trans s1 (Sim_trans (Sim_putn (hA _ (by omega) (by omega)) rfl) (Sim_trans (Sim_low (by decide) (fun q a b => hA q (by omega) (by omega))) (Sim_trans (Sim_low (by decide) (fun q a b => hA q (by omega) (by omega))) (Sim_trans (Sim_low (by decide) (fun q a b => hA q (by omega) (by omega))) (Sim_trans (Sim_low (by decide) (fun q a b => hA q (by omega) (by omega))) (Sim_trans (Sim_low (by decide) (fun q a b => hA q (by omega) (by omega))) (Sim_trans (Sim_row (fun q a b => hA q (by omega) (by omega)) (fun _ _ => rfl)) (Sim_trans (Sim_low (by decide) (fun q a b => hA q (by omega) (by omega))) (Sim_trans (Sim_low (by decide) (fun q a b => hA q (by omega) (by omega))) (Sim_low (by decide) (fun q a b => hA q (by omega) (by omega))))))))))))
theorem hW_16 {w : Nat → Int64} {h q : Nat} {o x l e : Int64} (h1 : h + 16 ≤ q) (h2 : q < h + 20) : gB (hW w h o x l e) q = gB w q := by
  unfold hW
  rw [gB_pLo _ _ _ _ 4 (by decide), if_neg (by omega), gB_pLo _ _ _ _ 4 (by decide), if_neg (by omega), gB_pLo _ _ _ _ 8 (by decide), if_neg (by omega), gB_pR, if_neg (by omega), gB_pLo _ _ _ _ 8 (by decide), if_neg (by omega), gB_pLo _ _ _ _ 8 (by decide), if_neg (by omega), gB_pLo _ _ _ _ 8 (by decide), if_neg (by omega), gB_pLo _ _ _ _ 8 (by decide), if_neg (by omega), gB_pLo _ _ _ _ 4 (by decide), if_neg (by omega), gB_pB, if_neg (by omega), gB_pR, if_neg (by omega)]
/-- the whole header: its two sums told by register values -/
def hWs (w : Nat → Int64) (h : Nat) (o x l e : Int64) (s1 s2 : Int32) : Nat → Int64 := pLo (pLo (hW w h o x l e) (h + 88) s1.toInt64 4) (h + 16) s2.toInt64 4
def hDs (d : Nat → Int32) (h : Nat) (o x l e : Int64) (s1 s2 : Int32) : Nat → Int32 := mLo (mLo (hD d h o x l e) (h + 88) s1.toInt64 4) (h + 16) s2.toInt64 4
theorem pw2 {S N p : Nat} {v : Int64} {u : Nat → Int64} (hS : 100 ≤ S ∧ S ≤ 600) (hN : 400000 ≤ N) (hp : p + 2 ≤ 512 * S) : f_Store_putLow N 2 (nI p) v (nI (512 * S)) (64 * S) u = some (pLo u p v 2) := putLow_eq (k := 2) hp (by omega) (by omega) (by omega)
theorem pw4 {S N p : Nat} {v : Int64} {u : Nat → Int64} (hS : 100 ≤ S ∧ S ≤ 600) (hN : 400000 ≤ N) (hp : p + 4 ≤ 512 * S) : f_Store_putLow N 4 (nI p) v (nI (512 * S)) (64 * S) u = some (pLo u p v 4) := putLow_eq (k := 4) hp (by omega) (by omega) (by omega)
theorem pw8 {S N p : Nat} {v : Int64} {u : Nat → Int64} (hS : 100 ≤ S ∧ S ≤ 600) (hN : 400000 ≤ N) (hp : p + 8 ≤ 512 * S) : f_Store_putLow N 8 (nI p) v (nI (512 * S)) (64 * S) u = some (pLo u p v 8) := putLow_eq (k := 8) hp (by omega) (by omega) (by omega)
theorem mw2 {N p : Nat} {v : Int64} {d : Nat → Int32} (hN : 400000 ≤ N) (hp : p + 2 ≤ 307200) : f_Model_low N 2 (nI p) v d = some (mLo d p v 2) := low_eq (k := 2) hp (by omega)
theorem mw4 {N p : Nat} {v : Int64} {d : Nat → Int32} (hN : 400000 ≤ N) (hp : p + 4 ≤ 307200) : f_Model_low N 4 (nI p) v d = some (mLo d p v 4) := low_eq (k := 4) hp (by omega)
theorem mw8 {N p : Nat} {v : Int64} {d : Nat → Int32} (hN : 400000 ≤ N) (hp : p + 8 ≤ 307200) : f_Model_low N 8 (nI p) v d = some (mLo d p v 8) := low_eq (k := 8) hp (by omega)
theorem hdr_class {S N O X E np : Nat} {w : Nat → Int64} {T so st le : Nat → Int32} {lu : Int32} {K : Int32 → (Nat → Int64) → Option ((Nat → Int64) × Int32)} (hS : 100 ≤ S ∧ S ≤ 600) (hN : 400000 ≤ N) (hT : isT T) (hO : O < S) (hE : 512 * E + 16384 ≤ 512 * S) (hnp : np ≤ 4) : ∃ u : Int32, f_Writer_writeTable_L3 N (nI np) (nI O) (nI (512 * S)) (64 * S) (nI X) lu (nI E) T so st le K (nI np) w = some (hWs w (512 * O) (nI O).toInt64 (nI X).toInt64 lu.toInt64 (nI E).toInt64 (cR (gB (hW w (512 * O) (nI O).toInt64 (nI X).toInt64 lu.toInt64 (nI E).toInt64)) (512 * E) 16384 ^^^ (-1)) (cR (hB (gB (pLo (hW w (512 * O) (nI O).toInt64 (nI X).toInt64 lu.toInt64 (nI E).toInt64) (512 * O + 88) (cR (gB (hW w (512 * O) (nI O).toInt64 (nI X).toInt64 lu.toInt64 (nI E).toInt64)) (512 * E) 16384 ^^^ (-1)).toInt64 4)) (512 * O)) 0 92 ^^^ (-1)), u) := by
  refine ⟨cR (hB (gB (pLo (hW w (512 * O) (nI O).toInt64 (nI X).toInt64 lu.toInt64 (nI E).toInt64) (512 * O + 88) (cR (gB (hW w (512 * O) (nI O).toInt64 (nI X).toInt64 lu.toInt64 (nI E).toInt64)) (512 * E) 16384 ^^^ (-1)).toInt64 4)) (512 * O)) 0 92, ?_⟩
  rw [f_Writer_writeTable_L3, if_pos (nI_le (Nat.le_refl np) (by omega))]
  dsimp only [lt_]
  have eO : nI O * 512 = nI (512 * O) := (pk_mul O 512).trans (congrArg nI (Nat.mul_comm _ _))
  have eE : nI E * 512 = nI (512 * E) := (pk_mul E 512).trans (congrArg nI (Nat.mul_comm _ _))
  have ad : ∀ j : Nat, nI (512 * O) + nI j = nI (512 * O + j) := fun j => nI_add _ j
  rw [eO, show ∀ u, f_Store_putRow N 8 (nI (512 * O)) (tVal 2) (nI (512 * S)) (64 * S) u = _ from fun u => putRow_eq (k := 8) (by omega) (by omega) (by omega) (by omega), bd_e, show nI (512 * O) + 10 = _ from ad 10, put_in _ (show 512 * O + 10 < 512 * S by omega) (by omega) (by omega), bd_e, show nI (512 * O) + 12 = _ from ad 12, pw4 hS hN (by omega), bd_e, show nI (512 * O) + 24 = _ from ad 24, pw8 hS hN (by omega), bd_e, show nI (512 * O) + 32 = _ from ad 32, pw8 hS hN (by omega), bd_e, show nI (512 * O) + 40 = _ from ad 40, pw8 hS hN (by omega), bd_e, show nI (512 * O) + 48 = _ from ad 48, pw8 hS hN (by omega), bd_e]
  have lp : ∀ (v : Nat → Int64) (r i M : Nat), i + r = 16 → r < M → lp_ (fun _ _ => none) (f_Writer_writeTable_L161 N (nI (512 * O)) (nI E) (nI (512 * S)) (64 * S) T) M (nI i) (pR v (512 * O + 56) (fun i => nI (17 * i + 1)) i) = f_Writer_writeTable_L161 N (nI (512 * O)) (nI E) (nI (512 * S)) (64 * S) T (fun _ _ => none) (nI 16) (pR v (512 * O + 56) (fun i => nI (17 * i + 1)) 16) := by
    intro v r
    induction r with
    | zero =>
      intro i M' hi hM
      obtain ⟨M, rfl⟩ : ∃ M, M' = M + 1 := ⟨M' - 1, by omega⟩
      have e : i = 16 := by omega
      subst e
      rw [lp_s, f_Writer_writeTable_L161, f_Writer_writeTable_L161, if_pos (show (16 : Int32) ≤ nI 16 by decide), if_pos (show (16 : Int32) ≤ nI 16 by decide)]
    | succ r ih =>
      intro i M' hi hM
      obtain ⟨M, rfl⟩ : ∃ M, M' = M + 1 := ⟨M' - 1, by omega⟩
      rw [lp_s, f_Writer_writeTable_L161, if_neg (show ¬ (16 : Int32) ≤ nI i from nI_ge (b := 16) (by omega) (by decide))]
      dsimp only [lt_]
      rw [show nI (512 * O) + 56 = _ from ad 56, nI_add, show (17 : Int32) * nI i = nI (17 * i) from pk_mul 17 i, nI_1, put_in _ (show 512 * O + 56 + i < 512 * S by omega) (by omega) (by omega), bd_e, nI_1]
      exact ih (i + 1) M (by omega) (by omega)
  have lp0 : ∀ v : Nat → Int64, lp_ (fun _ _ => none) (f_Writer_writeTable_L161 N (nI (512 * O)) (nI E) (nI (512 * S)) (64 * S) T) N 0 v = _ := fun v => lp v 16 0 N (by omega) (by omega)
  rw [lp0, f_Writer_writeTable_L161, if_pos (show (16 : Int32) ≤ nI 16 by decide)]
  dsimp only [lt_]
  rw [show nI (512 * O) + 72 = _ from ad 72, pw8 hS hN (by omega), bd_e, show nI (512 * O) + 80 = _ from ad 80, pw4 hS hN (by omega), bd_e, show nI (512 * O) + 84 = _ from ad 84, pw4 hS hN (by omega), bd_e, eE, show ∀ v, f_Sums_over N 16384 (nI (512 * E)) (nI (512 * S)) (64 * S) v T = _ from fun v => over_eq (n := 16384) hT (by omega) (by omega) (by omega) (by omega), bd_e, show nI (512 * O) + 88 = _ from ad 88, pw4 hS hN (by omega), bd_e, overHeader_eq hT (show 512 * O + 92 ≤ 512 * S by omega) (by omega) (by omega) (by omega), bd_e, show nI (512 * O) + 16 = _ from ad 16, pw4 hS hN (by omega), bd_e]
  rfl
/-! pure: write: a table, on both sides -/
/-- the reference's header behind the entries; its end: the printed text with the place held open -/
def tb402 (N : Nat) (v22799 : Int32) (v21372 : Int32) (x17095 : Int32) (k2 : Int32 → (Nat → Int32) → Option ((Nat → Int32))) (v22898 : Int32) (x22859 : Nat → Int32) : Int64 → Option (Nat → Int32) := fun (x22901 : Int64) => bd_ (f_Model_low N 8 v22898 x22901 x22859) (fun u22902 => lt_ (v22799 + 80) (fun v22903 => bd_ (f_Model_low N 4 v22903 128 u22902) (fun u22904 => lt_ (v22799 + 84) (fun v22905 => bd_ (f_Model_low N 4 v22905 128 u22904) (fun u22906 => lt_ (v22799 + 88) (fun v22907 => bd_ (f_Model_sumOf N 16384 v21372 u22906) (fun u22908 => lt_ (u22908.toInt64) (fun v22909 => bd_ (f_Model_low N 4 v22907 v22909 u22906) (fun u22910 => lt_ (v22799 + 16) (fun v22911 => bd_ (f_Model_sumOf N 92 v22799 u22910) (fun u22912 => lt_ (u22912.toInt64) (fun v22913 => bd_ (f_Model_low N 4 v22911 v22913 u22910) (fun u22914 => lt_ (x17095 + 1) (fun v22915 => k2 v22915 u22914))))))))))))))
def tb29 (N : Nat) (t_sectors : Int32) (v21372 : Int32) (x17095 : Int32) (k2 : Int32 → (Nat → Int32) → Option ((Nat → Int32))) (x22085 : Nat → Int32) : Int32 → Option (Nat → Int32) := fun (x22798 : Int32) => lt_ ((512 : Int32) * x22798) (fun v22799 => bd_ (f_Model_word 69 x22085 v22799 70 73 32) (fun u22800 => lt_ (v22799 + 4) (fun v22801 => bd_ (f_Model_word 80 u22800 v22801 65 82 84) (fun u22802 => lt_ (v22799 + 10) (fun v22803 => up_b 307200 u22802 v22803 1 (fun (f22804 : Nat → Int32) => lt_ (v22799 + 12) (fun v22805 => bd_ (f_Model_low N 4 v22805 92 f22804) (fun u22806 => lt_ (v22799 + 24) (fun v22807 => lt_ (x22798.toInt64) (fun v22808 => bd_ (f_Model_low N 8 v22807 v22808 u22806) (fun u22809 => lt_ (v22799 + 32) (fun v22810 => lt_ (t_sectors - x22798) (fun v22811 => lt_ (v22811.toInt64) (fun v22812 => bd_ (f_Model_low N 8 v22810 v22812 u22809) (fun u22813 => lt_ (v22799 + 40) (fun v22814 => bd_ (f_Model_low N 8 v22814 34 u22813) (fun u22815 => lt_ (v22799 + 48) (fun v22816 => lt_ (t_sectors - 34) (fun v22817 => lt_ (v22817.toInt64) (fun v22818 => bd_ (f_Model_low N 8 v22816 v22818 u22815) (fun u22819 => lp_ (fun _ _ => none) (f_Model_tables_L402 N v22799 v21372 x17095 k2 t_sectors) N 0 u22819)))))))))))))))))))))
theorem hdr_model {S N sd O E np : Nat} {d so st le : Nat → Int32} {k2 k29 : Int32 → (Nat → Int32) → Option (Nat → Int32)} (hS : 100 ≤ S ∧ S ≤ 600) (hN : 400000 ≤ N) (hsd : (sd = 0 ∧ O = 1 ∧ E = 2) ∨ (sd = 1 ∧ O = S - 1 ∧ E = S - 33)) (hnp : np ≤ 4) : f_Model_tables_L29 N (nI np) (nI S) (nI (512 * E)) (nI sd) k2 st le so k29 (nI np) d = k2 (nI (sd + 1)) (hDs d (512 * O) (nI O).toInt64 (nI (S - O)).toInt64 (nI (S - 34)).toInt64 (nI E).toInt64 (cR (mB (hD d (512 * O) (nI O).toInt64 (nI (S - O)).toInt64 (nI (S - 34)).toInt64 (nI E).toInt64)) (512 * E) 16384 ^^^ (-1)) (cR (mB (mLo (hD d (512 * O) (nI O).toInt64 (nI (S - O)).toInt64 (nI (S - 34)).toInt64 (nI E).toInt64) (512 * O + 88) (cR (mB (hD d (512 * O) (nI O).toInt64 (nI (S - O)).toInt64 (nI (S - 34)).toInt64 (nI E).toInt64)) (512 * E) 16384 ^^^ (-1)).toInt64 4)) (512 * O) 92 ^^^ (-1))) := by
  have hO : O < S := by omega
  have hE : 512 * E + 16384 ≤ 512 * S := by omega
  have a29 : f_Model_tables_L29 N (nI np) (nI S) (nI (512 * E)) (nI sd) k2 st le so k29 (nI np) d = tb29 N (nI S) (nI (512 * E)) (nI sd) k2 d (nI O) := by
    rw [f_Model_tables_L29, if_pos (nI_le (Nat.le_refl np) (by omega))]
    rcases hsd with ⟨e1, e2, -⟩ | ⟨e1, e2, -⟩
    · rw [e1, e2]; rfl
    · rw [e1, e2, ← show nI S - 1 = nI (S - 1) from pk_sub (b := 1) (by omega)]; rfl
  have a402 : ∀ (v : Nat → Int32) (K : Int32 → (Nat → Int32) → Option (Nat → Int32)), f_Model_tables_L402 N (nI (512 * O)) (nI (512 * E)) (nI sd) k2 (nI S) K (nI 16) v = tb402 N (nI (512 * O)) (nI (512 * E)) (nI sd) k2 (nI (512 * O) + 72) v (nI E).toInt64 := fun v K => by
    rw [f_Model_tables_L402, if_pos (show (16 : Int32) ≤ nI 16 by decide)]
    rcases hsd with ⟨e1, -, e2⟩ | ⟨e1, -, e2⟩
    · rw [e1, e2, show (nI 2).toInt64 = 2 by decide]; rfl
    · rw [e1, e2, ← show nI S - 33 = nI (S - 33) from pk_sub (b := 33) (by omega)]; rfl
  have ad : ∀ j : Nat, nI (512 * O) + nI j = nI (512 * O + j) := fun j => nI_add _ j
  rw [a29, tb29]
  dsimp only [lt_]
  rw [show (512 : Int32) * nI O = nI (512 * O) from pk_mul 512 O, word_eq (by omega), bd_e, show nI (512 * O) + 4 = _ from ad 4, word_eq (by omega), bd_e, show nI (512 * O) + 10 = _ from ad 10, upb_in (show 512 * O + 10 < 307200 by omega) (by decide), show nI (512 * O) + 12 = _ from ad 12, mw4 hN (by omega), bd_e, show nI (512 * O) + 24 = _ from ad 24, mw8 hN (by omega), bd_e, show nI (512 * O) + 32 = _ from ad 32, pk_sub (show O ≤ S by omega), mw8 hN (by omega), bd_e, show nI (512 * O) + 40 = _ from ad 40, mw8 hN (by omega), bd_e, show nI (512 * O) + 48 = _ from ad 48, show nI S - 34 = nI (S - 34) from pk_sub (b := 34) (by omega), mw8 hN (by omega), bd_e]
  have lp : ∀ (v : Nat → Int32) (r i M : Nat), i + r = 16 → r < M → lp_ (fun _ _ => none) (f_Model_tables_L402 N (nI (512 * O)) (nI (512 * E)) (nI sd) k2 (nI S)) M (nI i) (mR v (512 * O + 56) (fun i => nI (17 * i + 1)) i) = f_Model_tables_L402 N (nI (512 * O)) (nI (512 * E)) (nI sd) k2 (nI S) (fun _ _ => none) (nI 16) (mR v (512 * O + 56) (fun i => nI (17 * i + 1)) 16) := by
    intro v r
    induction r with
    | zero =>
      intro i M' hi hM
      obtain ⟨M, rfl⟩ : ∃ M, M' = M + 1 := ⟨M' - 1, by omega⟩
      have e : i = 16 := by omega
      subst e
      rw [lp_s, a402, a402]
    | succ r ih =>
      intro i M' hi hM
      obtain ⟨M, rfl⟩ : ∃ M, M' = M + 1 := ⟨M' - 1, by omega⟩
      rw [lp_s, f_Model_tables_L402, if_neg (show ¬ (16 : Int32) ≤ nI i from nI_ge (b := 16) (by omega) (by decide))]
      dsimp only [lt_]
      rw [show nI (512 * O) + 56 = _ from ad 56, nI_add, show (17 : Int32) * nI i = nI (17 * i) from pk_mul 17 i, nI_1, upb_in (show 512 * O + 56 + i < 307200 by omega) (by decide), nI_1]
      exact ih (i + 1) M (by omega) (by omega)
  have lp0 : ∀ v : Nat → Int32, lp_ (fun _ _ => none) (f_Model_tables_L402 N (nI (512 * O)) (nI (512 * E)) (nI sd) k2 (nI S)) N 0 v = _ := fun v => lp v 16 0 N (by omega) (by omega)
  rw [lp0, a402, tb402]
  dsimp only [lt_]
  rw [show nI (512 * O) + 72 = _ from ad 72, mw8 hN (by omega), bd_e, show nI (512 * O) + 80 = _ from ad 80, mw4 hN (by omega), bd_e, show nI (512 * O) + 84 = _ from ad 84, mw4 hN (by omega), bd_e, show ∀ v, f_Model_sumOf N 16384 (nI (512 * E)) v = _ from fun v => sumOf_eq (n := 16384) (by omega) (by omega) (by omega), bd_e, show nI (512 * O) + 88 = _ from ad 88, mw4 hN (by omega), bd_e, show ∀ v, f_Model_sumOf N 92 (nI (512 * O)) v = _ from fun v => sumOf_eq (n := 92) (by omega) (by omega) (by omega), bd_e, show nI (512 * O) + 16 = _ from ad 16, mw4 hN (by omega), bd_e, nI_1]
  rfl
theorem ents_loop {S N E O X sd np : Nat} {T so st le : Nat → Int32} {lu : Int32} {k2 : Int32 → (Nat → Int32) → Option (Nat → Int32)} (hS : 100 ≤ S ∧ S ≤ 600) (hN : 400000 ≤ N) (hE : 512 * E + 16384 ≤ 512 * S) (hnp : np ≤ 4) (hpl : PlanOk S np so st le) : ∀ (r k M1 M2 : Nat) (w : Nat → Int64) (d : Nat → Int32), k + r = np → r < M1 → r < M2 → (∀ q, 512 * E + 128 * k ≤ q → q < 512 * E + 512 → gB w q = 0) → ∃ (w' : Nat → Int64) (d' : Nat → Int32), lp_ (fun _ _ => none) (f_Writer_writeTable_L3 N (nI np) (nI O) (nI (512 * S)) (64 * S) (nI X) lu (nI E) T so st le) M1 (nI k) w = f_Writer_writeTable_L3 N (nI np) (nI O) (nI (512 * S)) (64 * S) (nI X) lu (nI E) T so st le (fun _ _ => none) (nI np) w' ∧ lp_ (fun _ _ => none) (f_Model_tables_L29 N (nI np) (nI S) (nI (512 * E)) (nI sd) k2 st le so) M2 (nI k) d = f_Model_tables_L29 N (nI np) (nI S) (nI (512 * E)) (nI sd) k2 st le so (fun _ _ => none) (nI np) d' ∧ Sim (fun q => 512 * E ≤ q ∧ q < 512 * E + 16384) (gB w) (gB w') (mB d) (mB d') := by
  intro r
  induction r with
  | zero =>
    intro k M1' M2' w d hk h1 h2 hz
    obtain ⟨M1, rfl⟩ : ∃ M, M1' = M + 1 := ⟨M1' - 1, by omega⟩
    obtain ⟨M2, rfl⟩ : ∃ M, M2' = M + 1 := ⟨M2' - 1, by omega⟩
    have e : k = np := by omega
    subst e
    refine ⟨w, d, ?_, ?_, Sim_refl _ _ _⟩
    · rw [lp_s, f_Writer_writeTable_L3, f_Writer_writeTable_L3, if_pos (nI_le (Nat.le_refl k) (by omega)), if_pos (nI_le (Nat.le_refl k) (by omega))]
    · rw [lp_s, f_Model_tables_L29, f_Model_tables_L29, if_pos (nI_le (Nat.le_refl k) (by omega)), if_pos (nI_le (Nat.le_refl k) (by omega))]
  | succ r ih =>
    intro k M1' M2' w d hk h1 h2 hz
    obtain ⟨M1, rfl⟩ : ∃ M, M1' = M + 1 := ⟨M1' - 1, by omega⟩
    obtain ⟨M2, rfl⟩ : ∃ M, M2' = M + 1 := ⟨M2' - 1, by omega⟩
    have hso : ∃ σ : Nat, (σ = 0 ∨ σ = 1) ∧ so k = nI σ := by
      rcases (hpl k (by omega)).1 with e | e
      · exact ⟨0, Or.inl rfl, e⟩
      · exact ⟨1, Or.inr rfl, e⟩
    obtain ⟨σ, hσ, hso⟩ := hso
    obtain ⟨d1, e1, hs, hfr⟩ := entry_sim (p := 512 * E + 128 * k) (A := fun q => 512 * E ≤ q ∧ q < 512 * E + 16384) (w := w) (d := d) (st := st) (le := le) (K := lp_ (fun _ _ => none) (f_Model_tables_L29 N (nI np) (nI S) (nI (512 * E)) (nI sd) k2 st le so) M2) hN (show k < 4 by omega) (by omega) hσ hso (fun q a b => ⟨by omega, by omega⟩) (fun q a b => hz q (by omega) (by omega))
    obtain ⟨w', d', b1, b2, b3⟩ := ih (k + 1) M1 M2 (enW (sByt (2 + σ)) w (512 * E + 128 * k) k σ (st k) (st k + le k - 1)) d1 (by omega) (by omega) (by omega) (fun q a b => by rw [(hfr q (by omega)).1]; exact hz q (by omega) b)
    refine ⟨w', d', ?_, ?_, Sim_trans hs b3⟩
    · rw [lp_s, f_Writer_writeTable_L3, if_neg (nI_ge (show k < np by omega) (by omega))]
      dsimp only [lt_]
      rw [show nI E * 512 = nI (512 * E) from (pk_mul E 512).trans (congrArg nI (Nat.mul_comm _ _)), show nI k * 128 = nI (128 * k) from (pk_mul k 128).trans (congrArg nI (Nat.mul_comm _ _)), nI_add, entry_class hS hN (show k < 4 by omega) (by omega) hσ hso, bd_e, nI_1]
      exact b1
    · rw [lp_s, f_Model_tables_L29, if_neg (nI_ge (show k < np by omega) (by omega))]
      dsimp only [lt_]
      rw [show (128 : Int32) * nI k = nI (128 * k) from pk_mul 128 k, nI_add, e1]
      exact b2
/-! pure: write: both tables, on both sides -/
theorem Sim_mono {A B : Nat → Prop} {b b2 c c2 : Nat → Nat} (h : ∀ q, A q → B q) (s : Sim A b b2 c c2) : Sim B b b2 c c2 := fun q => by
  by_cases a : A q
  · exact ⟨fun _ e => (s q).1 a e, fun n => absurd (h q a) n⟩
  · obtain ⟨e1, e2⟩ := (s q).2 a
    rw [e1, e2]
    exact ⟨fun _ e => e, fun _ => ⟨rfl, rfl⟩⟩
/-- the sectors of a table: its header and its entries -/
def tR (O E : Nat) (q : Nat) : Prop := (512 * O ≤ q ∧ q < 512 * O + 512) ∨ (512 * E ≤ q ∧ q < 512 * E + 16384)
theorem tab_sim {S N sd O E np : Nat} {w : Nat → Int64} {d T so st le : Nat → Int32} {k2 : Int32 → (Nat → Int32) → Option (Nat → Int32)} (hS : 100 ≤ S ∧ S ≤ 600) (hN : 400000 ≤ N) (hT : isT T) (hsd : (sd = 0 ∧ O = 1 ∧ E = 2) ∨ (sd = 1 ∧ O = S - 1 ∧ E = S - 33)) (hnp : np ≤ 4) (hpl : PlanOk S np so st le) (hz : ∀ q, tR O E q → gB w q = 0 ∧ mB d q = 0) : ∃ (w' : Nat → Int64) (u : Int32) (d' : Nat → Int32), f_Writer_writeTable N (nI np) (nI O) (nI (512 * S)) (64 * S) (nI (S - O)) (nI (S - 34)) (nI E) T so st le w = some (w', u) ∧ lp_ (fun _ _ => none) (f_Model_tables_L29 N (nI np) (nI S) (nI (512 * E)) (nI sd) k2 st le so) N 0 d = k2 (nI (sd + 1)) d' ∧ Sim (tR O E) (gB w) (gB w') (mB d) (mB d') := by
  have hO : O < S := by omega
  have hE : 512 * E + 16384 ≤ 512 * S := by omega
  have hdis : ∀ q, 512 * O ≤ q → q < 512 * O + 512 → ¬ (512 * E ≤ q ∧ q < 512 * E + 16384) := fun q a b => by omega
  obtain ⟨w1, d1, e1, e2, s1⟩ := ents_loop (S := S) (N := N) (E := E) (O := O) (X := S - O) (sd := sd) (np := np) (T := T) (so := so) (st := st) (le := le) (lu := nI (S - 34)) (k2 := k2) hS hN hE hnp hpl np 0 N N w d (by omega) (by omega) (by omega) (fun q a b => (hz q (Or.inr ⟨by omega, by omega⟩)).1)
  have s1' : Sim (tR O E) (gB w) (gB w1) (mB d) (mB d1) := Sim_mono (fun q a => Or.inr a) s1
  have ag1 : ∀ q, tR O E q → gB w1 q = mB d1 q := fun q a => (s1' q).1 a (by rw [(hz q a).1, (hz q a).2])
  have z1 : ∀ q, 512 * O ≤ q → q < 512 * O + 512 → gB w1 q = 0 := fun q a b => by
    rw [((s1 q).2 (hdis q a b)).1]
    exact (hz q (Or.inl ⟨a, b⟩)).1
  obtain ⟨u, c1⟩ := hdr_class (S := S) (N := N) (O := O) (X := S - O) (E := E) (np := np) (w := w1) (T := T) (so := so) (st := st) (le := le) (lu := nI (S - 34)) (K := fun _ _ => none) hS hN hT hO hE hnp
  have m1 := hdr_model (S := S) (N := N) (sd := sd) (O := O) (E := E) (np := np) (d := d1) (so := so) (st := st) (le := le) (k2 := k2) (k29 := fun _ _ => none) hS hN hsd hnp
  have s2 : Sim (tR O E) (gB w1) (gB (hW w1 (512 * O) (nI O).toInt64 (nI (S - O)).toInt64 (nI (S - 34)).toInt64 (nI E).toInt64)) (mB d1) (mB (hD d1 (512 * O) (nI O).toInt64 (nI (S - O)).toInt64 (nI (S - 34)).toInt64 (nI E).toInt64)) := hdr_sim (fun q a b => Or.inl ⟨a, by omega⟩)
  have ag2 : ∀ q, tR O E q → gB (hW w1 (512 * O) (nI O).toInt64 (nI (S - O)).toInt64 (nI (S - 34)).toInt64 (nI E).toInt64) q = mB (hD d1 (512 * O) (nI O).toInt64 (nI (S - O)).toInt64 (nI (S - 34)).toInt64 (nI E).toInt64) q := fun q a => (s2 q).1 a (ag1 q a)
  have hs1 : cR (gB (hW w1 (512 * O) (nI O).toInt64 (nI (S - O)).toInt64 (nI (S - 34)).toInt64 (nI E).toInt64)) (512 * E) 16384 = cR (mB (hD d1 (512 * O) (nI O).toInt64 (nI (S - O)).toInt64 (nI (S - 34)).toInt64 (nI E).toInt64)) (512 * E) 16384 := cR_congr 16384 (fun j hj => ag2 _ (Or.inr ⟨by omega, by omega⟩))
  have w16 : ∀ q, 512 * O + 16 ≤ q → q < 512 * O + 20 → gB (hW w1 (512 * O) (nI O).toInt64 (nI (S - O)).toInt64 (nI (S - 34)).toInt64 (nI E).toInt64) q = 0 := fun q a b => by
    rw [hW_16 a b]; exact z1 q (by omega) (by omega)
  rw [hs1] at c1
  generalize hg1 : (cR (mB (hD d1 (512 * O) (nI O).toInt64 (nI (S - O)).toInt64 (nI (S - 34)).toInt64 (nI E).toInt64)) (512 * E) 16384 ^^^ (-1)) = v1 at c1 m1
  generalize hg2 : hW w1 (512 * O) (nI O).toInt64 (nI (S - O)).toInt64 (nI (S - 34)).toInt64 (nI E).toInt64 = W at c1 s2 ag2 w16
  generalize hg3 : hD d1 (512 * O) (nI O).toInt64 (nI (S - O)).toInt64 (nI (S - 34)).toInt64 (nI E).toInt64 = D at m1 s2 ag2
  have s3 : Sim (tR O E) (gB W) (gB (pLo W (512 * O + 88) v1.toInt64 4)) (mB D) (mB (mLo D (512 * O + 88) v1.toInt64 4)) := Sim_low (by decide) (fun q a b => Or.inl ⟨by omega, by omega⟩)
  have hs2 : cR (hB (gB (pLo W (512 * O + 88) v1.toInt64 4)) (512 * O)) 0 92 = cR (mB (mLo D (512 * O + 88) v1.toInt64 4)) (512 * O) 92 := cR_congr 92 (fun j hj => by
    have ag := (s3 (512 * O + j)).1 (Or.inl ⟨by omega, by omega⟩) (ag2 _ (Or.inl ⟨by omega, by omega⟩))
    unfold hB
    rw [← ag, Nat.zero_add]
    by_cases h : 16 ≤ j ∧ j < 20
    · rw [if_pos h, gB_pLo _ _ _ _ 4 (by decide), if_neg (by omega), w16 _ (by omega) (by omega)]
    · rw [if_neg h])
  rw [hs2] at c1
  refine ⟨_, u, _, e1.trans c1, e2.trans m1, ?_⟩
  unfold hWs hDs
  rw [hg2, hg3]
  exact Sim_trans s1' (Sim_trans s2 (Sim_trans s3 (Sim_low (by decide) (fun q a b => Or.inl ⟨by omega, by omega⟩))))
theorem tables_model {S N np : Nat} {d so st le : Nat → Int32} (hS : 100 ≤ S ∧ S ≤ 600) (hN : 400000 ≤ N) : ∃ k0 k1 : Int32 → (Nat → Int32) → Option (Nat → Int32), f_Model_tables N (nI np) (nI S) st le so d = lp_ (fun _ _ => none) (f_Model_tables_L29 N (nI np) (nI S) (nI (512 * 2)) (nI 0) k0 st le so) N 0 d ∧ (∀ d1, k0 (nI (0 + 1)) d1 = lp_ (fun _ _ => none) (f_Model_tables_L29 N (nI np) (nI S) (nI (512 * (S - 33))) (nI 1) k1 st le so) N 0 d1) ∧ ∀ d2, k1 (nI (1 + 1)) d2 = some d2 := by
  obtain ⟨M, rfl⟩ : ∃ M, N = M + 3 := ⟨N - 3, by omega⟩
  refine ⟨lp_ (fun _ _ => none) (f_Model_tables_L2 (M + 3) (nI np) (nI S) st le so) (M + 2), lp_ (fun _ _ => none) (f_Model_tables_L2 (M + 3) (nI np) (nI S) st le so) (M + 1), ?_, fun d1 => ?_, fun d2 => ?_⟩
  · unfold f_Model_tables
    rw [show M + 3 = (M + 2) + 1 from rfl, lp_s, f_Model_tables_L2, if_neg (show ¬ (2 : Int32) ≤ 0 by decide)]
    rfl
  · rw [show M + 2 = (M + 1) + 1 from rfl, lp_s, f_Model_tables_L2, if_neg (show ¬ (2 : Int32) ≤ nI (0 + 1) by decide)]
    dsimp only [lt_]
    rw [if_pos (show ¬ nI (0 + 1) = 0 by decide), show nI S - 33 = nI (S - 33) from pk_sub (b := 33) (by omega), show (512 : Int32) * nI (S - 33) = nI (512 * (S - 33)) from pk_mul 512 _]
  · rw [lp_s, f_Model_tables_L2, if_pos (show (2 : Int32) ≤ nI (1 + 1) by decide)]
