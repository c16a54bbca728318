/-! pure: write: texts put by the reference; the directory's entry -/
/-- letter i of a text of L letters, blanks behind it -/
def tG (y L : Nat) (i : Nat) : Int32 := if i < L then bv (lN y) (L - 1 - i) else (32 : Int64).toInt32
theorem NmK_pos {k y i : Nat} (h : NmK k y) (hi : i < k) : y / 2 ^ (8 * i) ≠ 0 := fun q => h.2 i hi (by unfold bY; rw [q])
theorem NmK_zero {k y i : Nat} (h : NmK k y) (hi : k ≤ i) : y / 2 ^ (8 * i) = 0 := by
  apply Nat.div_eq_of_lt
  refine Nat.lt_of_lt_of_le h.1 ?_
  rw [Nat.pow_mul]
  exact Nat.pow_le_pow_right (by decide) hi
theorem NmK_64 {k y : Nat} (h : NmK k y) (hk : k ≤ 8) : y < 2 ^ 64 := by
  refine Nat.lt_of_lt_of_le h.1 ?_
  rw [show (256 : Nat) = 2 ^ 8 from rfl, ← Nat.pow_mul]
  exact Nat.pow_le_pow_right (by decide) (by omega)
theorem text_loop2 {p n y L : Nat} {d : Nat → Int32} (hL : L ≤ 8) (hp : p + n ≤ 307200) (hn : n ≤ 11) : ∀ (r i M : Nat), i + r = n → r < M → lp_ (fun _ _ => none) (f_Model_text_L31 (nI n) 0 (nI p) (nI L) (lN y)) M (nI i) (mR d p (tG y L) i) = some (mR d p (tG y L) n) := by
  intro r
  induction r with
  | zero =>
    intro i M' hi hM
    obtain ⟨M, rfl⟩ : ∃ M, M' = M + 1 := ⟨M' - 1, by omega⟩
    have e : i = n := by omega
    subst e
    rw [lp_s, f_Model_text_L31]
    dsimp only [lt_]
    rw [show nI i + 0 = nI i from nI_add i 0, if_pos (nI_le (Nat.le_refl i) (by omega))]
  | succ r ih =>
    intro i M' hi hM
    obtain ⟨M, rfl⟩ : ∃ M, M' = M + 1 := ⟨M' - 1, by omega⟩
    rw [lp_s, f_Model_text_L31]
    dsimp only [lt_]
    rw [show nI n + 0 = nI n from nI_add n 0, if_neg (nI_ge (show i < n by omega) (by omega)), nI_add, nI_1]
    have e : ∀ v : Int32, v = tG y L i → up_b 307200 (mR d p (tG y L) i) (nI (p + i)) v.toInt8.toInt32 (fun (f506 : Nat → Int32) => lp_ (fun _ _ => none) (f_Model_text_L31 (nI n) 0 (nI p) (nI L) (lN y)) M (nI (i + 1)) f506) = some (mR d p (tG y L) n) := fun v hv => by
      rw [hv, upb_in (show p + i < 307200 by omega) (by decide)]
      exact ih (i + 1) M (by omega) (by omega)
    by_cases h : i < L
    · rw [if_neg (nI_ge h (by omega)), show nI L - 1 = nI (L - 1) from pk_sub (b := 1) (by omega), pk_sub (show i ≤ L - 1 by omega), show (8 : Int32) * nI (L - 1 - i) = nI (8 * (L - 1 - i)) from pk_mul 8 _]
      exact e _ (by unfold tG; rw [if_pos h]; rfl)
    · rw [if_pos (nI_le (show L ≤ i by omega) (by omega))]
      exact e _ (by unfold tG; rw [if_neg h])
theorem text_count {p n y L N : Nat} {d : Nat → Int32} (hN : 400000 ≤ N) (hL : L ≤ 8) (hy : NmK L y) (hp : p + n ≤ 307200) (hn : n ≤ 11) : ∀ (r i M : Nat), i + r = L → r < M → lp_ (fun _ => none) (f_Model_text_L3 N (nI n) 0 (nI p) (lN y) d) M (nI i) = some (mR d p (tG y L) n) := by
  intro r
  have fin := text_loop2 (d := d) (y := y) hL hp hn n 0 N (by omega) (by omega)
  have fin' : lp_ (fun _ _ => none) (f_Model_text_L31 (nI n) 0 (nI p) (nI L) (lN y)) N 0 d = some (mR d p (tG y L) n) := fin
  induction r with
  | zero =>
    intro i M' hi hM
    obtain ⟨M, rfl⟩ : ∃ M, M' = M + 1 := ⟨M' - 1, by omega⟩
    have e : i = L := by omega
    subst e
    rw [lp_s, f_Model_text_L3]
    dsimp only [lt_]
    rw [fin']
    by_cases h8 : 8 ≤ i
    · rw [if_pos (show (8 : Int32) ≤ nI i from nI_le (a := 8) h8 (by omega))]
    · rw [if_neg (show ¬ (8 : Int32) ≤ nI i from nI_ge (b := 8) (by omega) (by omega)), show (8 : Int32) * nI i = nI (8 * i) from pk_mul 8 i, wb_shr (NmK_64 hy hL) (by omega), NmK_zero hy (Nat.le_refl i), if_pos (show lg_cmp (lN 0) 0 = 0 from (lgz _ _).mpr rfl)]
  | succ r ih =>
    intro i M' hi hM
    obtain ⟨M, rfl⟩ : ∃ M, M' = M + 1 := ⟨M' - 1, by omega⟩
    have hq : y / 2 ^ (8 * i) < 2 ^ 64 := Nat.lt_of_le_of_lt (Nat.div_le_self _ _) (NmK_64 hy hL)
    rw [lp_s, f_Model_text_L3]
    dsimp only [lt_]
    rw [if_neg (show ¬ (8 : Int32) ≤ nI i from nI_ge (b := 8) (by omega) (by omega)), show (8 : Int32) * nI i = nI (8 * i) from pk_mul 8 i, wb_shr (NmK_64 hy hL) (by omega), if_neg (show ¬ lg_cmp (lN (y / 2 ^ (8 * i))) 0 = 0 from fun q => NmK_pos hy (show i < L by omega) (lN_inj (y := 0) hq (by decide) ((lgz _ _).mp q))), nI_1]
    exact ih (i + 1) M (by omega) (by omega)
theorem text_put {p n y L N : Nat} {d : Nat → Int32} (hN : 400000 ≤ N) (hL : L ≤ 8) (hy : NmK L y) (hp : p + n ≤ 307200) (hn : n ≤ 11) : f_Model_text N (nI n) 0 (nI p) (lN y) d = some (mR d p (tG y L) n) := text_count hN hL hy hp hn L 0 N (by omega) (by omega)
/-- the letters that the class puts -/
def cG (y L : Nat) (i : Nat) : Int32 := nI (bY y (L - 1 - i))
/-- the end of a directory's entry -/
def dEnd (w : Nat → Int64) (p : Nat) (h z : Int32) : Nat → Int64 := pLo (pLo (pLo (pB w (p + 11) 32) (p + 24) 33 2) (p + 26) h.toInt64 2) (p + 28) z.toInt64 4
theorem dir_loop {S p k y L N : Nat} {nm : Nat → Int64} {hx sz : Nat → Int32} {w : Nat → Int64} (hS : 100 ≤ S ∧ S ≤ 600) (hN : 400000 ≤ N) (hk : k < 12) (hp : p + 32 ≤ 512 * S) (hL : L ≤ 8) (hnm : nm k = lN y) (hy : NmK L y) : ∀ (m M : Nat), m ≤ 8 → m < M → lp_ (fun _ _ _ => none) (f_Writer_writeDirectoryEntry_L16 N (nI p) (nI (512 * S)) (64 * S) hx (nI k) sz nm) M (nI (8 * m) + (-8)) (nI (L - m)) (pR w p (cG y L) (L - m)) = some (dEnd (pR w p (cG y L) L) p (hx k) (sz k)) := by
  intro m
  induction m with
  | zero =>
    intro M' _ hM
    obtain ⟨M, rfl⟩ : ∃ M, M' = M + 1 := ⟨M' - 1, by omega⟩
    rw [lp_s, f_Writer_writeDirectoryEntry_L16, if_pos (by decide)]
    dsimp only [lt_]
    rw [show nI p + 11 = nI (p + 11) from nI_add p 11, put_in _ (show p + 11 < 512 * S by omega) (by omega) (by omega), bd_e, show nI p + 24 = nI (p + 24) from nI_add p 24, pw2 hS hN (by omega), bd_e, ix_in hk (by decide), show nI p + 26 = nI (p + 26) from nI_add p 26, pw2 hS hN (by omega), bd_e, ix_in hk (by decide), show nI p + 28 = nI (p + 28) from nI_add p 28, pw4 hS hN (by omega), bd_e]
    rfl
  | succ m ih =>
    intro M' hm hM
    obtain ⟨M, rfl⟩ : ∃ M, M' = M + 1 := ⟨M' - 1, by omega⟩
    obtain ⟨c1, -⟩ := chr_eq (NmK_64 hy hL) hnm (show m < 8 by omega)
    rw [lp_s, f_Writer_writeDirectoryEntry_L16, m8, if_neg (nI_pos (by omega)), ix_in hk (by decide)]
    dsimp only [lt_]
    rw [c1]
    by_cases h : m < L
    · have hb := hy.2 m h
      have hb2 := bY_lt y m
      have e := ih M (by omega) (by omega)
      rw [if_neg (nI_ne0 (by omega) (by omega)), nI_add, put_in _ (show p + (L - (m + 1)) < 512 * S by omega) (by omega) (by omega), bd_e, nI_1]
      rw [show L - m = L - (m + 1) + 1 by omega, show pR w p (cG y L) (L - (m + 1) + 1) = pB (pR w p (cG y L) (L - (m + 1))) (p + (L - (m + 1))) (cG y L (L - (m + 1))) from rfl, show cG y L (L - (m + 1)) = nI (bY y m) by unfold cG; rw [show L - 1 - (L - (m + 1)) = m by omega]] at e
      exact e
    · have hb : bY y m = 0 := by unfold bY; rw [NmK_zero hy (by omega)]
      have e := ih M (by omega) (by omega)
      rw [hb, if_pos (show nI 0 = 0 from rfl), show L - (m + 1) = L - m by omega]
      exact e
theorem dir_class {S p k y L N : Nat} {nm : Nat → Int64} {hx sz : Nat → Int32} {w : Nat → Int64} (hS : 100 ≤ S ∧ S ≤ 600) (hN : 400000 ≤ N) (hk : k < 12) (hp : p + 32 ≤ 512 * S) (hL : L ≤ 8) (hnm : nm k = lN y) (hy : NmK L y) : f_Writer_writeDirectoryEntry N (nI p) (nI (512 * S)) (64 * S) w hx (nI k) sz nm = some (dEnd (pR (pR w p (sByt 7) 11) p (cG y L) L) p (hx k) (sz k)) := by
  unfold f_Writer_writeDirectoryEntry
  rw [show f_Store_putText N 11 (nI p) (sByt 7) (nI (512 * S)) (64 * S) w = _ from putText_eq (k := 11) (sByt_tx 7 (by decide)) (by omega) (by omega) (by omega) (by omega), bd_e]
  have e := dir_loop (w := pR w p (sByt 7) 11) (hx := hx) (sz := sz) hS hN hk hp hL hnm hy 8 N (by omega) (by omega)
  rw [show L - 8 = 0 by omega] at e
  exact e
/-- the entry put by the reference -/
def dEndM (d : Nat → Int32) (p : Nat) (h z : Int32) : Nat → Int32 := mLo (mLo (mLo (upd d (p + 11) (vp_nar .byte 32)) (p + 24) 33 2) (p + 26) h.toInt64 2) (p + 28) z.toInt64 4
theorem dir_sim {A : Nat → Prop} {w : Nat → Int64} {d : Nat → Int32} {p y L : Nat} {h z : Int32} (hL : L ≤ 8) (hy : NmK L y) (hA : ∀ q, p ≤ q → q < p + 32 → A q) : Sim A (gB w) (gB (dEnd (pR (pR w p (sByt 7) 11) p (cG y L) L) p h z)) (mB d) (mB (dEndM (mR d p (tG y L) 11) p h z)) := by
  have t7 : ∀ i : Fin 11, lo8 (sByt 7 i.val) = 32 := by decide +kernel
  unfold dEnd dEndM
  refine Sim_trans (Sim_of (v := fun q => if q - p < L then bY y (L - 1 - (q - p)) else 32) (p := p) (k := 11) (fun q a b => hA q a (by omega)) (b2 := gB (pR (pR w p (sByt 7) 11) p (cG y L) L)) (c2 := mB (mR d p (tG y L) 11)) (fun q => ?_) (fun q => ?_)) (Sim_trans (Sim_putn (hA _ (by omega) (by omega)) rfl) (Sim_trans (Sim_low (by decide) (fun q a b => hA q (by omega) (by omega))) (Sim_trans (Sim_low (by decide) (fun q a b => hA q (by omega) (by omega))) (Sim_low (by decide) (fun q a b => hA q (by omega) (by omega))))))
  · rw [gB_pR, gB_pR]
    by_cases h1 : p ≤ q ∧ q < p + L
    · rw [if_pos h1, if_pos (by omega), if_pos (by omega)]
      unfold cG
      rw [lo8_nI, Nat.mod_eq_of_lt (bY_lt _ _)]
    · rw [if_neg h1]
      by_cases h2 : p ≤ q ∧ q < p + 11
      · rw [if_pos h2, if_pos h2, if_neg (by omega)]
        exact t7 ⟨q - p, by omega⟩
      · rw [if_neg h2, if_neg h2]
  · rw [mB_mR]
    by_cases h2 : p ≤ q ∧ q < p + 11
    · rw [if_pos h2, if_pos h2]
      unfold tG
      by_cases h1 : q - p < L
      · rw [if_pos h1, if_pos h1, bv_lo (by omega), wb_tn (NmK_64 hy hL)]
      · rw [if_neg h1, if_neg h1]
        decide
    · rw [if_neg h2, if_neg h2]
/-! pure: write: the volume's first sector, on both sides -/
/-- the bytes of a volume of n sectors from the sector s on -/
def vA (s n q : Nat) : Prop := 512 * s ≤ q ∧ q < 512 * (s + n)
def vsW (w : Nat → Int64) (s n t : Nat) : Nat → Int64 := (pLo (pR (pR (pLo (pB (pB (pLo (pLo (pLo (pLo (pB (pLo (pLo (pB (pLo (pB (pLo (pR (pB (pB (pB w (512 * s) 235) (512 * s + 1) 60) (512 * s + 2) 144) (512 * s + 3) (sByt 4) 8) (512 * s + 11) 512 2) (512 * s + 13) 1) (512 * s + 14) 1 2) (512 * s + 16) 2) (512 * s + 17) 32 2) (512 * s + 19) (nI n).toInt64 2) (512 * s + 21) 248) (512 * s + 22) (nI t).toInt64 2) (512 * s + 24) 32 2) (512 * s + 26) 2 2) (512 * s + 28) (nI s).toInt64 4) (512 * s + 36) 128) (512 * s + 38) 41) (512 * s + 39) (nI s).toInt64 4) (512 * s + 43) (sByt 5) 11) (512 * s + 54) (sByt 6) 8) (512 * s + 510) 43605 2)
def vsD (d : Nat → Int32) (s n t : Nat) : Nat → Int32 := (upd (upd (mR (mR (mLo (upd (upd (mLo (mLo (mLo (mLo (upd (mLo (mLo (upd (mLo (upd (mLo (mR (upd (upd (upd d (512 * s) (vp_nar .byte (-21))) (512 * s + 1) (vp_nar .byte (60))) (512 * s + 2) (vp_nar .byte (-112))) (512 * s + 3) (tG 331807933778 5) 8) (512 * s + 11) 512 2) (512 * s + 13) (vp_nar .byte (1))) (512 * s + 14) 1 2) (512 * s + 16) (vp_nar .byte (2))) (512 * s + 17) 32 2) (512 * s + 19) (nI n).toInt64 2) (512 * s + 21) (vp_nar .byte (-8))) (512 * s + 22) (nI t).toInt64 2) (512 * s + 24) 32 2) (512 * s + 26) 2 2) (512 * s + 28) (nI s).toInt64 4) (512 * s + 36) (vp_nar .byte (-128))) (512 * s + 38) (vp_nar .byte (41))) (512 * s + 39) (nI s).toInt64 4) (512 * s + 43) (tG 1112493908 4) 11) (512 * s + 54) (tG 301743747378 5) 8) (512 * s + 510) (vp_nar .byte 85)) (512 * s + 511) (vp_nar .byte (-86)))
theorem vs_sim {A : Nat → Prop} {w : Nat → Int64} {d : Nat → Int32} {s n t : Nat} (hA : ∀ q, 512 * s ≤ q → q < 512 * s + 512 → A q) : Sim A (gB w) (gB (vsW w s n t)) (mB d) (mB (vsD d s n t)) := by
  have t4 : ∀ i : Fin 8, lo8 (sByt 4 i.val) = lo8 (tG 331807933778 5 i.val) := by decide +kernel
  have t5 : ∀ i : Fin 11, lo8 (sByt 5 i.val) = lo8 (tG 1112493908 4 i.val) := by decide +kernel
  have t6 : ∀ i : Fin 8, lo8 (sByt 6 i.val) = lo8 (tG 301743747378 5 i.val) := by decide +kernel
  unfold vsW vsD
  exact Sim_trans (Sim_putn (hA _ (by omega) (by omega)) (by decide +kernel)) (Sim_trans (Sim_putn (hA _ (by omega) (by omega)) (by decide +kernel)) (Sim_trans (Sim_putn (hA _ (by omega) (by omega)) (by decide +kernel)) (Sim_trans (Sim_row (fun q a b => hA q (by omega) (by omega)) (fun i hi => t4 ⟨i, hi⟩)) (Sim_trans (Sim_low (by decide) (fun q a b => hA q (by omega) (by omega))) (Sim_trans (Sim_putn (hA _ (by omega) (by omega)) (by decide +kernel)) (Sim_trans (Sim_low (by decide) (fun q a b => hA q (by omega) (by omega))) (Sim_trans (Sim_putn (hA _ (by omega) (by omega)) (by decide +kernel)) (Sim_trans (Sim_low (by decide) (fun q a b => hA q (by omega) (by omega))) (Sim_trans (Sim_low (by decide) (fun q a b => hA q (by omega) (by omega))) (Sim_trans (Sim_putn (hA _ (by omega) (by omega)) (by decide +kernel)) (Sim_trans (Sim_low (by decide) (fun q a b => hA q (by omega) (by omega))) (Sim_trans (Sim_low (by decide) (fun q a b => hA q (by omega) (by omega))) (Sim_trans (Sim_low (by decide) (fun q a b => hA q (by omega) (by omega))) (Sim_trans (Sim_low (by decide) (fun q a b => hA q (by omega) (by omega))) (Sim_trans (Sim_putn (hA _ (by omega) (by omega)) (by decide +kernel)) (Sim_trans (Sim_putn (hA _ (by omega) (by omega)) (by decide +kernel)) (Sim_trans (Sim_low (by decide) (fun q a b => hA q (by omega) (by omega))) (Sim_trans (Sim_row (fun q a b => hA q (by omega) (by omega)) (fun i hi => t5 ⟨i, hi⟩)) (Sim_trans (Sim_row (fun q a b => hA q (by omega) (by omega)) (fun i hi => t6 ⟨i, hi⟩)) (Sim_trans (Sim_putn (hA (512 * s + 510 + 0) (by omega) (by omega)) (by decide +kernel)) (Sim_putn (hA (512 * s + 510 + 1) (by omega) (by omega)) (by decide +kernel))))))))))))))))))))))
theorem vs_class {S s n t N : Nat} {w : Nat → Int64} (hS : 100 ≤ S ∧ S ≤ 600) (hN : 400000 ≤ N) (hs : s + 1 ≤ S) : f_Writer_writeVolumeSector N (nI s) w (nI (512 * S)) (64 * S) (nI n) (nI t) = some (vsW w s n t) := by
  have ad : ∀ j : Nat, nI (512 * s) + nI j = nI (512 * s + j) := fun j => nI_add _ j
  unfold f_Writer_writeVolumeSector
  dsimp only [lt_]
  rw [show nI s * 512 = nI (512 * s) from (pk_mul s 512).trans (congrArg nI (Nat.mul_comm _ _))]
  rw [put_in _ (show (512 * s) < 512 * S by omega) (by omega) (by omega), bd_e]
  rw [show nI (512 * s) + 1 = _ from ad 1, put_in _ (show (512 * s + 1) < 512 * S by omega) (by omega) (by omega), bd_e]
  rw [show nI (512 * s) + 2 = _ from ad 2, put_in _ (show (512 * s + 2) < 512 * S by omega) (by omega) (by omega), bd_e]
  rw [show nI (512 * s) + 3 = _ from ad 3, show ∀ v, f_Store_putText N 8 (nI (512 * s + 3)) (sByt 4) (nI (512 * S)) (64 * S) v = _ from fun v => putText_eq (k := 8) (sByt_tx 4 (by decide)) (by omega) (by omega) (by omega) (by omega), bd_e]
  rw [show nI (512 * s) + 11 = _ from ad 11, pw2 hS hN (by omega), bd_e]
  rw [show nI (512 * s) + 13 = _ from ad 13, put_in _ (show (512 * s + 13) < 512 * S by omega) (by omega) (by omega), bd_e]
  rw [show nI (512 * s) + 14 = _ from ad 14, pw2 hS hN (by omega), bd_e]
  rw [show nI (512 * s) + 16 = _ from ad 16, put_in _ (show (512 * s + 16) < 512 * S by omega) (by omega) (by omega), bd_e]
  rw [show nI (512 * s) + 17 = _ from ad 17, pw2 hS hN (by omega), bd_e]
  rw [show nI (512 * s) + 19 = _ from ad 19, pw2 hS hN (by omega), bd_e]
  rw [show nI (512 * s) + 21 = _ from ad 21, put_in _ (show (512 * s + 21) < 512 * S by omega) (by omega) (by omega), bd_e]
  rw [show nI (512 * s) + 22 = _ from ad 22, pw2 hS hN (by omega), bd_e]
  rw [show nI (512 * s) + 24 = _ from ad 24, pw2 hS hN (by omega), bd_e]
  rw [show nI (512 * s) + 26 = _ from ad 26, pw2 hS hN (by omega), bd_e]
  rw [show nI (512 * s) + 28 = _ from ad 28, pw4 hS hN (by omega), bd_e]
  rw [show nI (512 * s) + 36 = _ from ad 36, put_in _ (show (512 * s + 36) < 512 * S by omega) (by omega) (by omega), bd_e]
  rw [show nI (512 * s) + 38 = _ from ad 38, put_in _ (show (512 * s + 38) < 512 * S by omega) (by omega) (by omega), bd_e]
  rw [show nI (512 * s) + 39 = _ from ad 39, pw4 hS hN (by omega), bd_e]
  rw [show nI (512 * s) + 43 = _ from ad 43, show ∀ v, f_Store_putText N 11 (nI (512 * s + 43)) (sByt 5) (nI (512 * S)) (64 * S) v = _ from fun v => putText_eq (k := 11) (sByt_tx 5 (by decide)) (by omega) (by omega) (by omega) (by omega), bd_e]
  rw [show nI (512 * s) + 54 = _ from ad 54, show ∀ v, f_Store_putText N 8 (nI (512 * s + 54)) (sByt 6) (nI (512 * S)) (64 * S) v = _ from fun v => putText_eq (k := 8) (sByt_tx 6 (by decide)) (by omega) (by omega) (by omega) (by omega), bd_e]
  rw [mark_eq hS (show s < S by omega) (by omega), bd_e]
  rfl
theorem vs_model {s n t N nf c : Nat} {d hy sz y se : Nat → Int32} {nm : Nat → Int64} {ad0 : Int32} (hN : 400000 ≤ N) (hs : s + 1 ≤ 600) : f_Model_lay N (nI s) d (nI n) (nI t) (nI nf) nm hy sz y se ad0 (nI c) = lp_ (fun _ _ => none) (f_Model_lay_L268 N (nI nf) (nI s) (nI t) nm hy sz y se ad0 (nI c)) N 0 (vsD d s n t) := by
  have ad : ∀ j : Nat, nI (512 * s) + nI j = nI (512 * s + j) := fun j => nI_add _ j
  unfold f_Model_lay
  dsimp only [lt_]
  rw [show (512 : Int32) * nI s = nI (512 * s) from pk_mul 512 s]
  rw [upb_in (show (512 * s) < 307200 by omega) (by decide)]
  rw [show nI (512 * s) + 1 = _ from ad 1, upb_in (show (512 * s + 1) < 307200 by omega) (by decide)]
  rw [show nI (512 * s) + 2 = _ from ad 2, upb_in (show (512 * s + 2) < 307200 by omega) (by decide)]
  rw [show nI (512 * s) + 3 = _ from ad 3, show ∀ v, f_Model_text N 8 0 (nI (512 * s + 3)) 331807933778 v = _ from fun v => text_put (n := 8) (y := 331807933778) (L := 5) hN (by decide) (by unfold NmK; decide) (by omega) (by decide), bd_e]
  rw [show nI (512 * s) + 11 = _ from ad 11, mw2 hN (by omega), bd_e]
  rw [show nI (512 * s) + 13 = _ from ad 13, upb_in (show (512 * s + 13) < 307200 by omega) (by decide)]
  rw [show nI (512 * s) + 14 = _ from ad 14, mw2 hN (by omega), bd_e]
  rw [show nI (512 * s) + 16 = _ from ad 16, upb_in (show (512 * s + 16) < 307200 by omega) (by decide)]
  rw [show nI (512 * s) + 17 = _ from ad 17, mw2 hN (by omega), bd_e]
  rw [show nI (512 * s) + 19 = _ from ad 19, mw2 hN (by omega), bd_e]
  rw [show nI (512 * s) + 21 = _ from ad 21, upb_in (show (512 * s + 21) < 307200 by omega) (by decide)]
  rw [show nI (512 * s) + 22 = _ from ad 22, mw2 hN (by omega), bd_e]
  rw [show nI (512 * s) + 24 = _ from ad 24, mw2 hN (by omega), bd_e]
  rw [show nI (512 * s) + 26 = _ from ad 26, mw2 hN (by omega), bd_e]
  rw [show nI (512 * s) + 28 = _ from ad 28, mw4 hN (by omega), bd_e]
  rw [show nI (512 * s) + 36 = _ from ad 36, upb_in (show (512 * s + 36) < 307200 by omega) (by decide)]
  rw [show nI (512 * s) + 38 = _ from ad 38, upb_in (show (512 * s + 38) < 307200 by omega) (by decide)]
  rw [show nI (512 * s) + 39 = _ from ad 39, mw4 hN (by omega), bd_e]
  rw [show nI (512 * s) + 43 = _ from ad 43, show ∀ v, f_Model_text N 11 0 (nI (512 * s + 43)) 1112493908 v = _ from fun v => text_put (n := 11) (y := 1112493908) (L := 4) hN (by decide) (by unfold NmK; decide) (by omega) (by decide), bd_e]
  rw [show nI (512 * s) + 54 = _ from ad 54, show ∀ v, f_Model_text N 8 0 (nI (512 * s + 54)) 301743747378 v = _ from fun v => text_put (n := 8) (y := 301743747378) (L := 5) hN (by decide) (by unfold NmK; decide) (by omega) (by decide), bd_e]
  rw [show nI (512 * s) + 510 = _ from ad 510, upb_in (show 512 * s + 510 < 307200 by omega) (by decide), show nI (512 * s) + 511 = _ from ad 511, upb_in (show 512 * s + 511 < 307200 by omega) (by decide)]
  rfl
/-! pure: write: the cluster tables, on both sides -/
theorem or4 {a c : Nat} (ha : a < 16) (hc : c < 4096) : nI a ||| nI c <<< ((4 : Int32) &&& 31) = nI (a + 16 * c) := by
  have h1 : c * 2 ^ 4 ||| a = c * 2 ^ 4 + a := by rw [← Nat.shiftLeft_eq, Nat.shiftLeft_add_eq_or_of_lt (show a < 2 ^ 4 by omega)]
  apply Int32.toBitVec_inj.mp
  rw [Int32.toBitVec_or, Int32.toBitVec_shiftLeft]
  apply BitVec.eq_of_toNat_eq
  rw [show (((4 : Int32) &&& 31).toBitVec.smod 32) = 4#32 by decide, BitVec.toNat_or, BitVec.shiftLeft_eq', BitVec.toNat_shiftLeft, pk_tn (by omega), pk_tn (by omega), pk_tn (by omega), show (4#32).toNat = 4 from rfl, Nat.shiftLeft_eq, Nat.mod_eq_of_lt (by omega), Nat.or_comm, h1]
  omega
/-- twelve bits each, packed: byte o -/
def pk12 (V : Nat → Nat) (o : Nat) : Nat := if o % 3 = 0 then V (2 * (o / 3)) % 256 else if o % 3 = 1 then V (2 * (o / 3)) / 256 + 16 * (V (2 * (o / 3) + 1) % 16) else V (2 * (o / 3) + 1) / 16
/-- the values below e, behind them 0 -/
def vUp (V : Nat → Nat) (e j : Nat) : Nat := if j < e then V j else 0
theorem vUp_in {V : Nat → Nat} {e j : Nat} (h : j < e) : vUp V e j = V j := if_pos h
theorem vUp_out {V : Nat → Nat} {e j : Nat} (h : e ≤ j) : vUp V e j = 0 := if_neg (by omega)
theorem vUp_s {V : Nat → Nat} {e j : Nat} (h : j ≠ e) : vUp V (e + 1) j = vUp V e j := by
  by_cases q : j < e
  · rw [vUp_in q, vUp_in (by omega)]
  · rw [vUp_out (by omega), vUp_out (by omega)]
/-- the two bytes that entry e touches, as one number -/
def eU (V : Nat → Nat) (e : Nat) : Nat := if e % 2 = 0 then V e else V (e - 1) / 256 + 16 * V e
theorem eU_lt {V : Nat → Nat} {e : Nat} (hV : ∀ j, V j < 4096) : eU V e < 65536 := by
  have h1 := hV e
  have h2 := hV (e - 1)
  unfold eU
  split <;> omega
theorem pk_step {V : Nat → Nat} {e o : Nat} (hV : ∀ j, V j < 4096) : pk12 (vUp V (e + 1)) o = if o = e * 3 / 2 then eU V e % 256 else if o = e * 3 / 2 + 1 then eU V e / 256 else pk12 (vUp V e) o := by
  have h1 := hV e
  have h2 := hV (e - 1)
  unfold pk12 eU
  by_cases he : e % 2 = 0
  · rw [if_pos he]
    by_cases a : o = e * 3 / 2
    · rw [if_pos a, if_pos (by omega), show 2 * (o / 3) = e by omega, vUp_in (by omega)]
    · rw [if_neg a]
      by_cases b : o = e * 3 / 2 + 1
      · rw [if_pos b, if_neg (by omega), if_pos (by omega), show 2 * (o / 3) = e by omega, vUp_in (by omega), vUp_out (by omega)]
        omega
      · rw [if_neg b]
        by_cases c : o % 3 = 0
        · rw [if_pos c, if_pos c, vUp_s (by omega)]
        · rw [if_neg c, if_neg c]
          by_cases c1 : o % 3 = 1
          · rw [if_pos c1, if_pos c1, vUp_s (by omega), vUp_s (by omega)]
          · rw [if_neg c1, if_neg c1, vUp_s (by omega)]
  · rw [if_neg he]
    by_cases a : o = e * 3 / 2
    · rw [if_pos a, if_neg (by omega), if_pos (by omega), show 2 * (o / 3) = e - 1 by omega, show e - 1 + 1 = e by omega, vUp_in (by omega), vUp_in (by omega)]
      omega
    · rw [if_neg a]
      by_cases b : o = e * 3 / 2 + 1
      · rw [if_pos b, if_neg (by omega), if_neg (by omega), show 2 * (o / 3) + 1 = e by omega, vUp_in (by omega)]
        omega
      · rw [if_neg b]
        by_cases c : o % 3 = 0
        · rw [if_pos c, if_pos c, vUp_s (by omega)]
        · rw [if_neg c, if_neg c]
          by_cases c1 : o % 3 = 1
          · rw [if_pos c1, if_pos c1, vUp_s (by omega), vUp_s (by omega)]
          · rw [if_neg c1, if_neg c1, vUp_s (by omega)]
theorem pk_same {V : Nat → Nat} {e o : Nat} (h : V e = 0) : pk12 (vUp V (e + 1)) o = pk12 (vUp V e) o := by
  have hs : ∀ j, vUp V (e + 1) j = vUp V e j := fun j => by
    by_cases q : j = e
    · rw [q, vUp_in (by omega), vUp_out (by omega), h]
    · exact vUp_s q
  unfold pk12
  rw [hs, hs]
theorem pk_zero {V : Nat → Nat} {o : Nat} : pk12 (vUp V 0) o = 0 := by
  have hs : ∀ j, vUp V 0 j = 0 := fun j => vUp_out (by omega)
  unfold pk12
  rw [hs, hs]
  split
  · rfl
  · split <;> rfl
theorem bY_2 {u : Nat} (hu : u < 65536) : bY u 0 = u % 256 ∧ bY u 1 = u / 256 := by
  unfold bY
  rw [show 2 ^ (8 * 0) = 1 from rfl, show 2 ^ (8 * 1) = 256 from rfl, Nat.div_one]
  omega
theorem pk_put {V : Nat → Nat} {e T L : Nat} {b b' : Nat → Nat} (hV : ∀ j, V j < 4096) (hL : e * 3 / 2 + 2 ≤ L) (h : ∀ q, T ≤ q → q < T + L → b q = pk12 (vUp V e) (q - T)) (h' : ∀ q, b' q = if T + e * 3 / 2 ≤ q ∧ q < T + e * 3 / 2 + 2 then bY (eU V e) (q - (T + e * 3 / 2)) else b q) : (∀ q, T ≤ q → q < T + L → b' q = pk12 (vUp V (e + 1)) (q - T)) ∧ ∀ q, (q < T ∨ T + L ≤ q) → b' q = b q := by
  have hu := eU_lt (e := e) hV
  obtain ⟨b0, b1⟩ := bY_2 hu
  refine ⟨fun q h1 h2 => ?_, fun q hq => ?_⟩
  · rw [h', pk_step hV]
    by_cases a : q - T = e * 3 / 2
    · rw [if_pos (by omega), if_pos a, show q - (T + e * 3 / 2) = 0 by omega, b0]
    · by_cases c : q - T = e * 3 / 2 + 1
      · rw [if_pos (by omega), if_neg a, if_pos c, show q - (T + e * 3 / 2) = 1 by omega, b1]
      · rw [if_neg (by omega), if_neg a, if_neg c, h q h1 h2]
  · rw [h', if_neg (by omega)]
theorem cent_class {S T L e N : Nat} {V : Nat → Nat} {x : Nat → Int32} {w : Nat → Int64} (hS : 100 ≤ S ∧ S ≤ 600) (hN : 400000 ≤ N) (hV : ∀ j, V j < 4096) (he : e < S) (hx : x e = nI (V e)) (hT : T + L ≤ 512 * S) (hL : e * 3 / 2 + 2 ≤ L) (h : ∀ q, T ≤ q → q < T + L → gB w q = pk12 (vUp V e) (q - T)) : ∃ w', f_Writer_writeClusterEntry N (nI e) (nI T) S x (nI (512 * S)) (64 * S) w = some w' ∧ (∀ q, T ≤ q → q < T + L → gB w' q = pk12 (vUp V (e + 1)) (q - T)) ∧ ∀ q, (q < T ∨ T + L ≤ q) → gB w' q = gB w q := by
  have hu := eU_lt (e := e) hV
  have hVe := hV e
  have hVp := hV (e - 1)
  refine ⟨pLo w (T + e * 3 / 2) (nI (eU V e)).toInt64 2, ?_, pk_put hV hL h (fun q => by rw [gB_pLo _ _ _ _ 2 (by decide), bY_l (by omega)])⟩
  unfold f_Writer_writeClusterEntry
  dsimp only [lt_]
  rw [show nI e * 3 = nI (e * 3) from pk_mul _ 3, show nI (e * 3) / 2 = nI (e * 3 / 2) from pk_div (d := 2) (by omega) (by decide) (by decide), nI_add, fol_eq (by omega) he, bd_e, hx, show nI e - nI e / 2 * 2 = nI (e % 2) from pk_rem (d := 2) (by omega) (by decide) (by decide)]
  by_cases hev : e % 2 = 0
  · rw [hev, if_neg (show ¬ ¬ nI 0 = 0 by decide), show eU V e = V e from if_pos hev, pw2 hS hN (by omega), bd_e]
  · have hg : gB w (T + e * 3 / 2) = V (e - 1) / 256 := by
      rw [h _ (by omega) (by omega), Nat.add_sub_cancel_left]
      unfold pk12
      rw [if_neg (by omega), if_pos (by omega), show 2 * (e * 3 / 2 / 3) = e - 1 by omega, vUp_in (by omega), vUp_out (by omega)]
      omega
    rw [show e % 2 = 1 by omega, if_pos (show ¬ nI 1 = 0 by decide), get_in (show T + e * 3 / 2 < 512 * S by omega) (by omega) (by omega), bd_e, hg, or4 (by omega) hVe, show eU V e = V (e - 1) / 256 + 16 * V e from if_neg hev, pw2 hS hN (by omega), bd_e]
theorem cent_model {t0 L e : Nat} {V : Nat → Nat} {d : Nat → Int32} {v : Int32} (hV : ∀ j, V j < 4096) (he : e < 1000) (hv : v = nI (V e)) (hT : 512 * t0 + L ≤ 307200) (hL : e * 3 / 2 + 2 ≤ L) (h : ∀ q, 512 * t0 ≤ q → q < 512 * t0 + L → mB d q = pk12 (vUp V e) (q - 512 * t0)) : ∃ d', f_Model_entry (nI t0) (nI e) d v = some d' ∧ (∀ q, 512 * t0 ≤ q → q < 512 * t0 + L → mB d' q = pk12 (vUp V (e + 1)) (q - 512 * t0)) ∧ ∀ q, (q < 512 * t0 ∨ 512 * t0 + L ≤ q) → mB d' q = mB d q := by
  have hu := eU_lt (e := e) hV
  have hVe := hV e
  have hVp := hV (e - 1)
  refine ⟨upd (upd d (512 * t0 + e * 3 / 2) (vp_nar .byte (nI (eU V e)).toInt8.toInt32)) (512 * t0 + e * 3 / 2 + 1) (vp_nar .byte (nI (eU V e / 256)).toInt8.toInt32), ?_, pk_put hV hL h (fun q => ?_)⟩
  · unfold f_Model_entry
    dsimp only [lt_]
    rw [show (512 : Int32) * nI t0 = nI (512 * t0) from pk_mul 512 _, show nI e * 3 = nI (e * 3) from pk_mul _ 3, show nI (e * 3) / 2 = nI (e * 3 / 2) from pk_div (d := 2) (by omega) (by decide) (by decide), nI_add, mget_in (show 512 * t0 + e * 3 / 2 < 307200 by omega), bd_e, nI_1, mget_in (show 512 * t0 + e * 3 / 2 + 1 < 307200 by omega), bd_e, or8 (mB_lt d _) (mB_lt d _), show nI e - nI e / 2 * 2 = nI (e % 2) from pk_rem (d := 2) (by omega) (by decide) (by decide), h _ (by omega) (by omega), h _ (by omega) (by omega), Nat.add_sub_cancel_left, show 512 * t0 + e * 3 / 2 + 1 - 512 * t0 = e * 3 / 2 + 1 by omega, hv]
    have fin : ∀ u : Int32, u = nI (eU V e) → up_b 307200 d (nI (512 * t0 + e * 3 / 2)) u.toInt8.toInt32 (fun (f45 : Nat → Int32) => up_b 307200 f45 (nI (512 * t0 + e * 3 / 2 + 1)) (u >>> ((8 : Int32) &&& 31)).toInt8.toInt32 (fun (f49 : Nat → Int32) => some (f49))) = some (upd (upd d (512 * t0 + e * 3 / 2) (vp_nar .byte (nI (eU V e)).toInt8.toInt32)) (512 * t0 + e * 3 / 2 + 1) (vp_nar .byte (nI (eU V e / 256)).toInt8.toInt32)) := fun u q => by
      rw [q, pk_shrN (by omega) _ 8 (by decide), upb_in (show 512 * t0 + e * 3 / 2 < 307200 by omega) (by decide), upb_in (show 512 * t0 + e * 3 / 2 + 1 < 307200 by omega) (by decide)]
    by_cases hev : e % 2 = 0
    · have z0 : pk12 (vUp V e) (e * 3 / 2) = 0 := by
        unfold pk12
        rw [if_pos (by omega), vUp_out (by omega)]
      have z1 : pk12 (vUp V e) (e * 3 / 2 + 1) = 0 := by
        unfold pk12
        rw [if_neg (by omega), if_pos (by omega), vUp_out (by omega), vUp_out (by omega)]
      rw [z0, z1, hev, if_neg (show ¬ ¬ nI 0 = 0 by decide)]
      exact fin _ (by rw [show eU V e = V e from if_pos hev, show nI (0 + 256 * 0) &&& 61440 = 0 by decide, Int32.zero_or])
    · have z0 : pk12 (vUp V e) (e * 3 / 2) = V (e - 1) / 256 := by
        unfold pk12
        rw [if_neg (by omega), if_pos (by omega), show 2 * (e * 3 / 2 / 3) = e - 1 by omega, vUp_in (by omega), vUp_out (by omega)]
        omega
      have z1 : pk12 (vUp V e) (e * 3 / 2 + 1) = 0 := by
        unfold pk12
        rw [if_neg (by omega), if_neg (by omega), vUp_out (by omega)]
      rw [z0, z1, show e % 2 = 1 by omega, if_pos (show ¬ nI 1 = 0 by decide)]
      exact fin _ (by rw [show eU V e = V (e - 1) / 256 + 16 * V e from if_neg hev, show V (e - 1) / 256 + 256 * 0 = V (e - 1) / 256 by omega, pk_andN (by omega) 4 (by decide), Nat.mod_eq_of_lt (show V (e - 1) / 256 < 2 ^ 4 by omega), or4 (by omega) hVe])
  · obtain ⟨b0, b1⟩ := bY_2 hu
    rw [mB_upd, mB_upd, lo8_nI, lo8_nI]
    by_cases a : q = 512 * t0 + e * 3 / 2 + 1
    · rw [if_pos a, if_pos (by omega), show q - (512 * t0 + e * 3 / 2) = 1 by omega, b1, Nat.mod_eq_of_lt (by omega)]
    · rw [if_neg a]
      by_cases c : q = 512 * t0 + e * 3 / 2
      · rw [if_pos c, if_pos (by omega), show q - (512 * t0 + e * 3 / 2) = 0 by omega, b0]
      · rw [if_neg c, if_neg (by omega)]
/-! pure: write: both cluster tables, on both sides -/
theorem ctab_class {S s t c N : Nat} {V : Nat → Nat} {x : Nat → Int32} (hS : 100 ≤ S ∧ S ≤ 600) (hN : 400000 ≤ N) (hV : ∀ j, V j < 4096) (hc : c + 2 ≤ S) (hx : ∀ e, e < c + 2 → x e = nI (V e)) (hT : s + 1 + 2 * t ≤ S) (hL : ((c + 2) * 3 + 1) / 2 ≤ 512 * t) : ∀ (r e M : Nat) (w : Nat → Int64), e + r = c + 2 → r < M → (∀ q, 512 * (s + 1) ≤ q → q < 512 * (s + 1) + 512 * t → gB w q = pk12 (vUp V e) (q - 512 * (s + 1))) → (∀ q, 512 * (s + 1 + t) ≤ q → q < 512 * (s + 1 + t) + 512 * t → gB w q = pk12 (vUp V e) (q - 512 * (s + 1 + t))) → ∃ w', lp_ (fun _ _ => none) (f_Writer_writeClusterTables_L30 N (nI c) (nI (512 * (s + 1))) S x (nI (512 * S)) (64 * S) (nI (512 * (s + 1 + t)))) M (nI e) w = some w' ∧ (∀ q, 512 * (s + 1) ≤ q → q < 512 * (s + 1) + 512 * t → gB w' q = pk12 (vUp V (c + 2)) (q - 512 * (s + 1))) ∧ (∀ q, 512 * (s + 1 + t) ≤ q → q < 512 * (s + 1 + t) + 512 * t → gB w' q = pk12 (vUp V (c + 2)) (q - 512 * (s + 1 + t))) ∧ ∀ q, (q < 512 * (s + 1) ∨ 512 * (s + 1) + 1024 * t ≤ q) → gB w' q = gB w q := by
  intro r
  induction r with
  | zero =>
    intro e M' w he hM h1 h2
    obtain ⟨M, rfl⟩ : ∃ M, M' = M + 1 := ⟨M' - 1, by omega⟩
    have q : e = c + 2 := by omega
    subst q
    refine ⟨w, ?_, h1, h2, fun _ _ => rfl⟩
    rw [lp_s, f_Writer_writeClusterTables_L30]
    dsimp only [lt_]
    rw [show nI c + 2 = nI (c + 2) from nI_add c 2, if_pos (nI_le (Nat.le_refl _) (by omega))]
  | succ r ih =>
    intro e M' w he hM h1 h2
    obtain ⟨M, rfl⟩ : ∃ M, M' = M + 1 := ⟨M' - 1, by omega⟩
    obtain ⟨w1, a1, a2, a3⟩ := cent_class (T := 512 * (s + 1)) (L := 512 * t) hS hN hV (show e < S by omega) (hx e (by omega)) (by omega) (by omega) h1
    obtain ⟨w2, b1, b2, b3⟩ := cent_class (T := 512 * (s + 1 + t)) (L := 512 * t) (w := w1) hS hN hV (show e < S by omega) (hx e (by omega)) (by omega) (by omega) (fun q c1 c2 => by rw [a3 q (by omega)]; exact h2 q c1 c2)
    obtain ⟨w', d1, d2, d3, d4⟩ := ih (e + 1) M w2 (by omega) (by omega) (fun q c1 c2 => by rw [b3 q (by omega)]; exact a2 q c1 c2) b2
    refine ⟨w', ?_, d2, d3, fun q hq => by rw [d4 q hq, b3 q (by omega), a3 q (by omega)]⟩
    rw [lp_s, f_Writer_writeClusterTables_L30]
    dsimp only [lt_]
    rw [show nI c + 2 = nI (c + 2) from nI_add c 2, if_neg (nI_ge (show e < c + 2 by omega) (by omega)), a1, bd_e, b1, bd_e, nI_1]
    exact d1
/-- what the reference's follower says of the entry's value -/
def yV (V : Nat → Nat) (c : Nat) (y : Nat → Int32) : Prop := ∀ e, 2 ≤ e → e < c + 2 → (y e = 0 ∧ V e = 0) ∨ (¬ y e = 0 ∧ 0 ≤ y e ∧ y e = nI (V e)) ∨ (y e = -1 ∧ V e = 4095)
theorem ctab_model {t0 t c sd : Nat} {V : Nat → Nat} {y : Nat → Int32} {k268 : Int32 → (Nat → Int32) → Option (Nat → Int32)} (hV : ∀ j, V j < 4096) (hc : c + 2 ≤ 600) (hy : yV V c y) (hT : t0 + t ≤ 600) (hL : ((c + 2) * 3 + 1) / 2 ≤ 512 * t) : ∀ (r e M : Nat) (d : Nat → Int32), e + r = c + 2 → 2 ≤ e → r < M → (∀ q, 512 * t0 ≤ q → q < 512 * t0 + 512 * t → mB d q = pk12 (vUp V e) (q - 512 * t0)) → ∃ d', lp_ (fun _ _ => none) (f_Model_lay_L311 (nI c) (nI sd) k268 y (nI t0)) M (nI e) d = k268 (nI (sd + 1)) d' ∧ (∀ q, 512 * t0 ≤ q → q < 512 * t0 + 512 * t → mB d' q = pk12 (vUp V (c + 2)) (q - 512 * t0)) ∧ ∀ q, (q < 512 * t0 ∨ 512 * t0 + 512 * t ≤ q) → mB d' q = mB d q := by
  intro r
  induction r with
  | zero =>
    intro e M' d he h2 hM h
    obtain ⟨M, rfl⟩ : ∃ M, M' = M + 1 := ⟨M' - 1, by omega⟩
    have q : e = c + 2 := by omega
    subst q
    refine ⟨d, ?_, h, fun _ _ => rfl⟩
    rw [lp_s, f_Model_lay_L311]
    dsimp only [lt_]
    rw [show nI c + 2 = nI (c + 2) from nI_add c 2, if_pos (nI_le (Nat.le_refl _) (by omega)), nI_1]
  | succ r ih =>
    intro e M' d he h2 hM h
    obtain ⟨M, rfl⟩ : ∃ M, M' = M + 1 := ⟨M' - 1, by omega⟩
    rw [lp_s, f_Model_lay_L311]
    dsimp only [lt_]
    rw [show nI c + 2 = nI (c + 2) from nI_add c 2, if_neg (nI_ge (show e < c + 2 by omega) (by omega)), ix_in (show e < 700 by omega) (by decide)]
    rcases hy e h2 (by omega) with ⟨e0, v0⟩ | ⟨e0, e1, e2⟩ | ⟨e1, v1⟩
    · rw [if_pos e0, nI_1]
      exact ih (e + 1) M d (by omega) (by omega) (by omega) (fun q c1 c2 => by rw [pk_same v0]; exact h q c1 c2)
    · obtain ⟨d1, a1, a2, a3⟩ := cent_model (t0 := t0) (L := 512 * t) hV (show e < 1000 by omega) e2 (by omega) (by omega) h
      obtain ⟨d', b1, b2, b3⟩ := ih (e + 1) M d1 (by omega) (by omega) (by omega) a2
      refine ⟨d', ?_, b2, fun q hq => by rw [b3 q hq, a3 q hq]⟩
      rw [if_neg e0, ix_in (show e < 700 by omega) (by decide), if_pos e1, ix_in (show e < 700 by omega) (by decide), a1, bd_e, nI_1]
      exact b1
    · obtain ⟨d1, a1, a2, a3⟩ := cent_model (t0 := t0) (L := 512 * t) (v := 4095) hV (show e < 1000 by omega) (by rw [v1]; rfl) (by omega) (by omega) h
      obtain ⟨d', b1, b2, b3⟩ := ih (e + 1) M d1 (by omega) (by omega) (by omega) a2
      refine ⟨d', ?_, b2, fun q hq => by rw [b3 q hq, a3 q hq]⟩
      rw [if_neg (by rw [e1]; decide), ix_in (show e < 700 by omega) (by decide), if_neg (by rw [e1]; decide), a1, bd_e, nI_1]
      exact b1
theorem cside_model {s t c sd nf N M : Nat} {V : Nat → Nat} {y hy sz se : Nat → Int32} {nm : Nat → Int64} {ad : Int32} {d : Nat → Int32} (hN : 400000 ≤ N) (hV : ∀ j, V j < 4096) (h0 : V 0 = 4088) (h1 : V 1 = 4095) (hc : c + 2 ≤ 600) (hyV : yV V c y) (hsd : sd = 0 ∨ sd = 1) (hT : s + 1 + 2 * t ≤ 600) (hL : ((c + 2) * 3 + 1) / 2 ≤ 512 * t) (hz : ∀ q, 512 * (s + 1 + sd * t) ≤ q → q < 512 * (s + 1 + sd * t) + 512 * t → mB d q = 0) : ∃ d', lp_ (fun _ _ => none) (f_Model_lay_L268 N (nI nf) (nI s) (nI t) nm hy sz y se ad (nI c)) (M + 1) (nI sd) d = lp_ (fun _ _ => none) (f_Model_lay_L268 N (nI nf) (nI s) (nI t) nm hy sz y se ad (nI c)) M (nI (sd + 1)) d' ∧ (∀ q, 512 * (s + 1 + sd * t) ≤ q → q < 512 * (s + 1 + sd * t) + 512 * t → mB d' q = pk12 (vUp V (c + 2)) (q - 512 * (s + 1 + sd * t))) ∧ ∀ q, (q < 512 * (s + 1 + sd * t) ∨ 512 * (s + 1 + sd * t) + 512 * t ≤ q) → mB d' q = mB d q := by
  have hst : s + 1 + sd * t + t ≤ 600 := by
    rcases hsd with e | e
    · subst e; omega
    · subst e; omega
  generalize ht0 : s + 1 + sd * t = t0 at hz hst ⊢
  obtain ⟨d1, a1, a2, a3⟩ := cent_model (t0 := t0) (L := 512 * t) (e := 0) (v := 4088) (d := d) hV (by decide) (by rw [h0]; rfl) (by omega) (by omega) (fun q c1 c2 => by rw [pk_zero]; exact hz q c1 c2)
  obtain ⟨d2, b1, b2, b3⟩ := cent_model (t0 := t0) (L := 512 * t) (e := 1) (v := 4095) (d := d1) hV (by decide) (by rw [h1]; rfl) (by omega) (by omega) a2
  obtain ⟨d', g1, g2, g3⟩ := ctab_model (t0 := t0) (sd := sd) (k268 := lp_ (fun _ _ => none) (f_Model_lay_L268 N (nI nf) (nI s) (nI t) nm hy sz y se ad (nI c)) M) hV hc hyV hst hL c 2 N d2 (by omega) (by omega) (by omega) b2
  refine ⟨d', ?_, g2, fun q hq => by rw [g3 q hq, b3 q hq, a3 q hq]⟩
  rw [lp_s, f_Model_lay_L268, if_neg (show ¬ (2 : Int32) ≤ nI sd from by rcases hsd with e | e <;> rw [e] <;> decide)]
  dsimp only [lt_]
  rw [show nI sd * nI t = nI (sd * t) from pk_mul sd t, nI_1, nI_add, ht0, show f_Model_entry (nI t0) 0 d 4088 = some d1 from a1, bd_e, show f_Model_entry (nI t0) 1 d1 4095 = some d2 from b1, bd_e]
  exact g1
theorem ctab_sim {S s t c nf n N : Nat} {V : Nat → Nat} {x y hy sz se : Nat → Int32} {nm : Nat → Int64} {ad : Int32} {w : Nat → Int64} {d : Nat → Int32} (hS : 100 ≤ S ∧ S ≤ 600) (hN : 400000 ≤ N) (hV : ∀ j, V j < 4096) (h0 : V 0 = 4088) (h1 : V 1 = 4095) (hc : c + 2 ≤ S) (hx : ∀ e, e < c + 2 → x e = nI (V e)) (hyV : yV V c y) (hn : 1 + 2 * t ≤ n) (hT : s + n ≤ S) (hL : ((c + 2) * 3 + 1) / 2 ≤ 512 * t) (hz : ∀ q, 512 * (s + 1) ≤ q → q < 512 * (s + 1) + 1024 * t → gB w q = 0 ∧ mB d q = 0) : ∃ (w' : Nat → Int64) (d' : Nat → Int32), f_Writer_writeClusterTables N (nI s) (nI t) (nI c) S x (nI (512 * S)) (64 * S) w = some w' ∧ lp_ (fun _ _ => none) (f_Model_lay_L268 N (nI nf) (nI s) (nI t) nm hy sz y se ad (nI c)) N 0 d = lp_ (fun _ _ => none) (f_Model_lay_L377 N (nI nf) (nI s) (nI t) nm hy sz y se ad) N 0 d' ∧ Sim (vA s n) (gB w) (gB w') (mB d) (mB d') := by
  obtain ⟨w', a1, a2, a3, a4⟩ := ctab_class (s := s) (t := t) hS hN hV hc hx (by omega) hL (c + 2) 0 N w (by omega) (by omega) (fun q c1 c2 => by rw [pk_zero]; exact (hz q (by omega) (by omega)).1) (fun q c1 c2 => by rw [pk_zero]; exact (hz q (by omega) (by omega)).1)
  have cl : f_Writer_writeClusterTables N (nI s) (nI t) (nI c) S x (nI (512 * S)) (64 * S) w = some w' := by
    unfold f_Writer_writeClusterTables
    dsimp only [lt_]
    rw [nI_1, show nI (s + 1) * 512 = nI (512 * (s + 1)) from (pk_mul _ 512).trans (congrArg nI (Nat.mul_comm _ _)), show nI t * 512 = nI (512 * t) from (pk_mul _ 512).trans (congrArg nI (Nat.mul_comm _ _)), nI_add, show 512 * (s + 1) + 512 * t = 512 * (s + 1 + t) by omega]
    exact a1
  obtain ⟨M, rfl⟩ : ∃ M, N = M + 1 + 1 + 1 := ⟨N - 3, by omega⟩
  obtain ⟨d1, b1, b2, b3⟩ := cside_model (s := s) (t := t) (sd := 0) (nf := nf) (N := M + 1 + 1 + 1) (M := M + 1 + 1) (y := y) (hy := hy) (sz := sz) (se := se) (nm := nm) (ad := ad) (d := d) hN hV h0 h1 (show c + 2 ≤ 600 by omega) hyV (Or.inl rfl) (by omega) hL (fun q c1 c2 => (hz q (by omega) (by omega)).2)
  obtain ⟨d', g1, g2, g3⟩ := cside_model (s := s) (t := t) (sd := 1) (nf := nf) (N := M + 1 + 1 + 1) (M := M + 1) (y := y) (hy := hy) (sz := sz) (se := se) (nm := nm) (ad := ad) (d := d1) hN hV h0 h1 (show c + 2 ≤ 600 by omega) hyV (Or.inr rfl) (by omega) hL (fun q c1 c2 => by rw [b3 q (by omega)]; exact (hz q (by omega) (by omega)).2)
  rw [show s + 1 + 0 * t = s + 1 by omega] at b2 b3
  rw [show s + 1 + 1 * t = s + 1 + t by omega] at g2 g3
  refine ⟨w', d', cl, ?_, Sim_of (v := fun q => if q < 512 * (s + 1 + t) then pk12 (vUp V (c + 2)) (q - 512 * (s + 1)) else pk12 (vUp V (c + 2)) (q - 512 * (s + 1 + t))) (p := 512 * (s + 1)) (k := 1024 * t) (fun q c1 c2 => ⟨by omega, by omega⟩) (fun q => ?_) (fun q => ?_)⟩
  · have e0 : (0 : Int32) = nI 0 := rfl
    rw [e0]
    refine b1.trans (g1.trans ?_)
    rw [lp_s, f_Model_lay_L268, if_pos (show (2 : Int32) ≤ nI (1 + 1) by decide), e0]
  · by_cases h : 512 * (s + 1) ≤ q ∧ q < 512 * (s + 1) + 1024 * t
    · rw [if_pos h]
      by_cases h2 : q < 512 * (s + 1 + t)
      · rw [if_pos h2]; exact a2 q (by omega) (by omega)
      · rw [if_neg h2]; exact a3 q (by omega) (by omega)
    · rw [if_neg h]; exact a4 q (by omega)
  · by_cases h : 512 * (s + 1) ≤ q ∧ q < 512 * (s + 1) + 1024 * t
    · rw [if_pos h]
      by_cases h2 : q < 512 * (s + 1 + t)
      · rw [if_pos h2, g3 q (by omega)]; exact b2 q (by omega) (by omega)
      · rw [if_neg h2]; exact g2 q (by omega) (by omega)
    · rw [if_neg h, g3 q (by omega)]; exact b3 q (by omega)
/-! pure: write: a file's bytes, on both sides -/
theorem file_loop {S s t c n k z nf N : Nat} {x y hy sz se : Nat → Int32} {nm : Nat → Int64} {ad : Int32} {P : Nat → Nat} {K : Int32 → (Nat → Int32) → Option (Nat → Int32)} (hS : 100 ≤ S ∧ S ≤ 600) (hN : 400000 ≤ N) (hnf : nf ≤ 12) (hok : FilesOk nf nm sz se) (hk : k < nf) (hz : sz k = nI z) (hz2 : z ≤ 9000) (hn : n = c + 3 + 2 * t) (ht : t ≤ 2) (hsn : s + n ≤ S) (hP : chn x y P c 0 ((z + 511) / 512)) (hh : hy k = if 0 < (z + 511) / 512 then nI (P 0) else 0) : ∀ (r i M1 M2 : Nat) (at' cl : Int32) (w : Nat → Int64) (d : Nat → Int32), i + r = z → r < M1 → r < M2 → (i % 512 = 0 → i < z → cl = nI (P (i / 512))) → (i % 512 ≠ 0 → at' = nI (512 * (s + 1 + 2 * t + P (i / 512))) ∧ cl = x (P (i / 512))) → ∃ (w' : Nat → Int64) (d' : Nat → Int32), lp_ (fun _ _ _ _ => none) (f_Writer_writeFile_L47 (nI z) se (nI k) sz nm (nI s) ad (nI (512 * S)) (64 * S) (nI t) S x) M1 (nI i) at' cl w = some w' ∧ lp_ (fun _ _ => none) (f_Model_lay_L486 N sz (nI k) K hy (nI s) (nI t) y se nm ad) M2 (nI i) d = K (nI (k + 1)) d' ∧ Sim (vA s n) (gB w) (gB w') (mB d) (mB d') := by
  intro r
  induction r with
  | zero =>
    intro i M1' M2' at' cl w d hi h1 h2 ha hb
    obtain ⟨M1, rfl⟩ : ∃ M, M1' = M + 1 := ⟨M1' - 1, by omega⟩
    obtain ⟨M2, rfl⟩ : ∃ M, M2' = M + 1 := ⟨M2' - 1, by omega⟩
    refine ⟨w, d, ?_, ?_, Sim_refl _ _ _⟩
    · rw [lp_s, f_Writer_writeFile_L47, if_pos (nI_le (show z ≤ i by omega) (by omega))]
    · rw [lp_s, f_Model_lay_L486, ix_in (show k < 12 by omega) (by decide), hz, if_pos (nI_le (show z ≤ i by omega) (by omega))]
      dsimp only [lt_]
      rw [nI_1]
  | succ r ih =>
    intro i M1' M2' at' cl w d hi h1 h2 ha hb
    obtain ⟨M1, rfl⟩ : ∃ M, M1' = M + 1 := ⟨M1' - 1, by omega⟩
    obtain ⟨M2, rfl⟩ : ∃ M, M2' = M + 1 := ⟨M2' - 1, by omega⟩
    have hj : i / 512 < (z + 511) / 512 := by omega
    have hPj := hP.1 (i / 512) (by omega) hj
    have hh' : hy k = nI (P 0) := by rw [hh, if_pos (by omega)]
    obtain ⟨f1, f2⟩ := fbyte_eq (j := i) (ss := nI s) (ad := ad) hnf hok hk (by omega)
    obtain ⟨w', d', e1, e2, e3⟩ := ih (i + 1) M1 M2 (nI (512 * (s + 1 + 2 * t + P (i / 512)))) (x (P (i / 512))) (pB w (512 * (s + 1 + 2 * t + P (i / 512)) + i % 512) (nI (fB sz se nm (nI s) ad k i))) (upd d (512 * (s + 1 + 2 * t + P (i / 512)) + i % 512) (vp_nar .byte (nI (fB sz se nm (nI s) ad k i)).toInt8.toInt32)) (by omega) (by omega) (by omega) (fun a b => by rw [(hP.2.1 (i / 512) (by omega) (by omega)).1, show i / 512 + 1 = (i + 1) / 512 by omega]) (fun a => by rw [show (i + 1) / 512 = i / 512 by omega]; exact ⟨rfl, rfl⟩)
    refine ⟨w', d', ?_, ?_, Sim_trans (Sim_put ⟨by omega, by omega⟩ rfl) e3⟩
    · rw [lp_s, f_Writer_writeFile_L47, if_neg (nI_ge (show i < z by omega) (by omega))]
      dsimp only [lt_]
      rw [show nI i - nI i / 512 * 512 = nI (i % 512) from pk_rem (d := 512) (by omega) (by decide) (by decide), f1]
      by_cases h0 : i % 512 = 0
      · rw [if_neg (show ¬ ¬ nI (i % 512) = 0 from fun q => q (by rw [h0]; rfl)), ha h0 (by omega), vsec_eq, bd_e, fol_eq (by omega) (show P (i / 512) < S by omega), bd_e, show nI (s + 1 + 2 * t + P (i / 512)) * 512 = nI (512 * (s + 1 + 2 * t + P (i / 512))) from (pk_mul _ 512).trans (congrArg nI (Nat.mul_comm _ _)), nI_add, bd_e, put_in _ (show 512 * (s + 1 + 2 * t + P (i / 512)) + i % 512 < 512 * S by omega) (by omega) (by omega), bd_e, nI_1]
        exact e1
      · obtain ⟨g1, g2⟩ := hb h0
        rw [if_pos (nI_ne0 (by omega) (by omega)), g1, g2, nI_add, bd_e, put_in _ (show 512 * (s + 1 + 2 * t + P (i / 512)) + i % 512 < 512 * S by omega) (by omega) (by omega), bd_e, nI_1]
        exact e1
    · rw [lp_s, f_Model_lay_L486, ix_in (show k < 12 by omega) (by decide), hz, if_neg (nI_ge (show i < z by omega) (by omega))]
      dsimp only [lt_]
      rw [show nI i / 512 = nI (i / 512) from pk_div (d := 512) (by omega) (by decide) (by decide), msec_eq (chn_path (by omega) hP) hj (by omega) hN (show k < 12 by omega) hh', bd_e, show (512 : Int32) * nI (s + 1 + 2 * t + P (i / 512)) = nI (512 * (s + 1 + 2 * t + P (i / 512))) from pk_mul 512 _, show nI i - nI (i / 512) * 512 = nI (i % 512) from by rw [← show nI i / 512 = nI (i / 512) from pk_div (d := 512) (by omega) (by decide) (by decide)]; exact pk_rem (d := 512) (by omega) (by decide) (by decide), nI_add, f2, bd_e, upb_in (show 512 * (s + 1 + 2 * t + P (i / 512)) + i % 512 < 307200 by omega) (by decide), nI_1]
      exact e2
theorem dirsec_eq {s t : Nat} : f_Volume_directorySector (nI s) (nI t) = some (nI (s + 1 + 2 * t)) := by
  unfold f_Volume_directorySector
  dsimp only [lt_]
  rw [nI_1, show (2 : Int32) * nI t = nI (2 * t) from pk_mul 2 t, nI_add]
theorem files_sim {S s t c n nf N : Nat} {x y hx hy sz se : Nat → Int32} {nm : Nat → Int64} {ad : Int32} (hS : 100 ≤ S ∧ S ≤ 600) (hN : 400000 ≤ N) (hnf : nf ≤ 12) (hok : FilesOk nf nm sz se) (hn : n = c + 3 + 2 * t) (ht : t ≤ 2) (hsn : s + n ≤ S) (hp : placed sz c x y hx hy 0 nf) : ∀ (r k M : Nat) (w : Nat → Int64) (d : Nat → Int32), k + r = nf → r < M → ∃ (W : Nat → (Nat → Int64)) (d' : Nat → Int32), W k = w ∧ (∀ g, k ≤ g → g < nf → f_Writer_writeFile N sz (nI g) (nI s) (nI t) (nI (512 * S)) (64 * S) (W g) hx nm se ad S x = some (W (g + 1))) ∧ lp_ (fun _ _ => none) (f_Model_lay_L377 N (nI nf) (nI s) (nI t) nm hy sz y se ad) M (nI k) d = some d' ∧ Sim (vA s n) (gB w) (gB (W nf)) (mB d) (mB d') := by
  intro r
  induction r with
  | zero =>
    intro k M' w d hk hM
    obtain ⟨M, rfl⟩ : ∃ M, M' = M + 1 := ⟨M' - 1, by omega⟩
    refine ⟨fun _ => w, d, rfl, fun g a b => absurd b (by omega), ?_, Sim_refl _ _ _⟩
    rw [lp_s, f_Model_lay_L377, if_pos (nI_le (show nf ≤ k by omega) (by omega))]
  | succ r ih =>
    intro k M' w d hk hM
    obtain ⟨M, rfl⟩ : ∃ M, M' = M + 1 := ⟨M' - 1, by omega⟩
    have hk12 : k < 12 := by omega
    obtain ⟨hz, hz2⟩ := zN_ok hok (show k < nf by omega)
    obtain ⟨P, hch, hhx, hhy⟩ := hp k (by omega) (by omega)
    obtain ⟨⟨L, yn, hL1, hL8, hnm, hNm⟩, -, -⟩ := hok k (by omega)
    have hs1 : Sim (vA s n) (gB w) (gB (dEnd (pR (pR w (512 * (s + 1 + 2 * t) + 32 * k) (sByt 7) 11) (512 * (s + 1 + 2 * t) + 32 * k) (cG yn L) L) (512 * (s + 1 + 2 * t) + 32 * k) (hx k) (sz k))) (mB d) (mB (dEndM (mR d (512 * (s + 1 + 2 * t) + 32 * k) (tG yn L) 11) (512 * (s + 1 + 2 * t) + 32 * k) (hx k) (sz k))) := dir_sim hL8 hNm (fun q a b => ⟨by omega, by omega⟩)
    obtain ⟨w1, d1, a1, a2, a3⟩ := file_loop (x := x) (P := P) (K := lp_ (fun _ _ => none) (f_Model_lay_L377 N (nI nf) (nI s) (nI t) nm hy sz y se ad) M) (ad := ad) hS hN hnf hok (show k < nf by omega) hz hz2 hn ht hsn hch hhy (zN sz k) 0 N N 0 (hx k) (dEnd (pR (pR w (512 * (s + 1 + 2 * t) + 32 * k) (sByt 7) 11) (512 * (s + 1 + 2 * t) + 32 * k) (cG yn L) L) (512 * (s + 1 + 2 * t) + 32 * k) (hx k) (sz k)) (dEndM (mR d (512 * (s + 1 + 2 * t) + 32 * k) (tG yn L) 11) (512 * (s + 1 + 2 * t) + 32 * k) (hx k) (sz k)) (by omega) (by omega) (by omega) (fun _ h => by rw [hhx, if_pos (show 0 < nN sz k by unfold nN; omega)]) (fun h => absurd rfl h)
    obtain ⟨W, d', b1, b2, b3, b4⟩ := ih (k + 1) M w1 d1 (by omega) (by omega)
    refine ⟨fun g => if g = k then w else W g, d', if_pos rfl, fun g g1 g2 => ?_, ?_, ?_⟩
    · dsimp only
      by_cases e : g = k
      · subst e
        rw [if_pos rfl, if_neg (show ¬ g + 1 = g by omega), b1]
        unfold f_Writer_writeFile
        rw [ix_in hk12 (by decide), dirsec_eq, bd_e]
        dsimp only [lt_]
        rw [show nI (s + 1 + 2 * t) * 512 = nI (512 * (s + 1 + 2 * t)) from (pk_mul _ 512).trans (congrArg nI (Nat.mul_comm _ _)), show nI g * 32 = nI (32 * g) from (pk_mul _ 32).trans (congrArg nI (Nat.mul_comm _ _)), nI_add, dir_class hS hN hk12 (by omega) hL8 hnm hNm, bd_e, ix_in hk12 (by decide), hz]
        rw [hz] at a1
        exact a1
      · rw [if_neg e, if_neg (show ¬ g + 1 = k by omega)]
        exact b2 g (by omega) g2
    · rw [lp_s, f_Model_lay_L377, if_neg (nI_ge (show k < nf by omega) (by omega))]
      dsimp only [lt_]
      rw [nI_1, show (2 : Int32) * nI t = nI (2 * t) from pk_mul 2 t, nI_add, show (512 : Int32) * nI (s + 1 + 2 * t) = nI (512 * (s + 1 + 2 * t)) from pk_mul 512 _, show (32 : Int32) * nI k = nI (32 * k) from pk_mul 32 k, nI_add, ix_in hk12 (by decide), hnm, show ∀ v, f_Model_text N 11 0 (nI (512 * (s + 1 + 2 * t) + 32 * k)) (lN yn) v = _ from fun v => text_put (n := 11) hN hL8 hNm (by omega) (by decide), bd_e, show nI (512 * (s + 1 + 2 * t) + 32 * k) + 11 = _ from nI_add _ 11, upb_in (show 512 * (s + 1 + 2 * t) + 32 * k + 11 < 307200 by omega) (by decide), show nI (512 * (s + 1 + 2 * t) + 32 * k) + 24 = _ from nI_add _ 24, mw2 hN (by omega), bd_e, ix_in hk12 (by decide), show nI (512 * (s + 1 + 2 * t) + 32 * k) + 26 = _ from nI_add _ 26, mw2 hN (by omega), bd_e, ix_in hk12 (by decide), show nI (512 * (s + 1 + 2 * t) + 32 * k) + 28 = _ from nI_add _ 28, mw4 hN (by omega), bd_e, show hy k = hx k by rw [hhx, hhy]]
      rw [← b3]
      exact a2
    · dsimp only
      rw [if_neg (show ¬ nf = k by omega)]
      exact Sim_trans hs1 (Sim_trans a3 b4)
/-! pure: write: the disk cleared; the stages put together -/
theorem wclear_loop {S N : Nat} {u1147 x1141 x1142 ad np x1143 x1140 u1126 nf : Int32} {sz x1144 x1145 se st le so : Nat → Int32} {nm : Nat → Int64} (hS : 100 ≤ S ∧ S ≤ 600) : ∀ (r i M : Nat) (d : Nat → Int32), i + r = 512 * S → r < M → (∀ q, q < i → mB d q = 0) → ∃ d0 : Nat → Int32, lp_ (fun _ _ => none) (f_Model_write_L143 N (nI S) u1147 sz x1144 x1141 x1142 x1145 se nm ad np st le so x1143 x1140 u1126 nf) M (nI i) d = f_Model_write_L143 N (nI S) u1147 sz x1144 x1141 x1142 x1145 se nm ad np st le so x1143 x1140 u1126 nf (fun _ _ => none) (nI (512 * S)) d0 ∧ ∀ q, q < 512 * S → mB d0 q = 0 := by
  intro r
  induction r with
  | zero =>
    intro i M' d hi hM hd
    obtain ⟨M, rfl⟩ : ∃ M, M' = M + 1 := ⟨M' - 1, by omega⟩
    have e : i = 512 * S := by omega
    subst e
    refine ⟨d, ?_, hd⟩
    rw [lp_s, f_Model_write_L143, f_Model_write_L143]
    dsimp only [lt_]
    rw [show (512 : Int32) * nI S = nI (512 * S) from pk_mul 512 S, if_pos (nI_le (Nat.le_refl _) (by omega)), if_pos (nI_le (Nat.le_refl _) (by omega))]
  | succ r ih =>
    intro i M' d hi hM hd
    obtain ⟨M, rfl⟩ : ∃ M, M' = M + 1 := ⟨M' - 1, by omega⟩
    rw [lp_s, f_Model_write_L143]
    dsimp only [lt_]
    rw [show (512 : Int32) * nI S = nI (512 * S) from pk_mul 512 S, if_neg (nI_ge (show i < 512 * S by omega) (by omega)), upb_in (show i < 307200 by omega) (by decide), nI_1]
    refine ih (i + 1) M _ (by omega) (by omega) (fun q hq => ?_)
    rw [mB_updn]
    by_cases h : q = i
    · rw [if_pos h]; decide
    · rw [if_neg h]; exact hd q (by omega)
theorem tabs_all {S N np : Nat} {w1 : Nat → Int64} {d4 T so st le : Nat → Int32} (hS : 100 ≤ S ∧ S ≤ 600) (hN : 400000 ≤ N) (hT : isT T) (hnp : np ≤ 4) (hpl : PlanOk S np so st le) (z1 : ∀ q, tR 1 2 q → gB w1 q = 0 ∧ mB d4 q = 0) (z2 : ∀ q, tR (S - 1) (S - 33) q → gB w1 q = 0 ∧ mB d4 q = 0) : ∃ (w2 w3 : Nat → Int64) (u2 u3 : Int32) (d5 d6 : Nat → Int32), f_Writer_writeTable N (nI np) 1 (nI (512 * S)) (64 * S) (nI S - 1) (nI (S - 34)) 2 T so st le w1 = some (w2, u2) ∧ f_Writer_writeTable N (nI np) (nI S - 1) (nI (512 * S)) (64 * S) 1 (nI (S - 34)) (nI S - 33) T so st le w2 = some (w3, u3) ∧ f_Model_tables N (nI np) (nI S) st le so d4 = some d6 ∧ Sim (tR 1 2) (gB w1) (gB w2) (mB d4) (mB d5) ∧ Sim (tR (S - 1) (S - 33)) (gB w2) (gB w3) (mB d5) (mB d6) := by
  obtain ⟨k0, k1, m1, m2, m3⟩ := tables_model (S := S) (N := N) (np := np) (d := d4) (so := so) (st := st) (le := le) hS hN
  obtain ⟨w2, u2, d5, a1, a2, a3⟩ := tab_sim (S := S) (N := N) (sd := 0) (O := 1) (E := 2) (np := np) (w := w1) (d := d4) (T := T) (so := so) (st := st) (le := le) (k2 := k0) hS hN hT (Or.inl ⟨rfl, rfl, rfl⟩) hnp hpl z1
  have hdis : ∀ q, tR (S - 1) (S - 33) q → ¬ tR 1 2 q := fun q a b => by
    unfold tR at a b
    omega
  obtain ⟨w3, u3, d6, b1, b2, b3⟩ := tab_sim (S := S) (N := N) (sd := 1) (O := S - 1) (E := S - 33) (np := np) (w := w2) (d := d5) (T := T) (so := so) (st := st) (le := le) (k2 := k1) hS hN hT (Or.inr ⟨rfl, rfl, rfl⟩) hnp hpl (fun q a => by
    obtain ⟨e1, e2⟩ := (a3 q).2 (hdis q a)
    rw [e1, e2]; exact z2 q a)
  refine ⟨w2, w3, u2, u3, d5, d6, ?_, ?_, ?_, a3, b3⟩
  · rw [show nI S - 1 = nI (S - 1) from pk_sub (b := 1) (by omega)]
    exact a1
  · rw [show nI S - 1 = nI (S - 1) from pk_sub (b := 1) (by omega), show nI S - 33 = nI (S - 33) from pk_sub (b := 33) (by omega)]
    rw [show S - (S - 1) = 1 by omega] at b1
    exact b1
  · rw [m1, a2, m2, b2, m3]
theorem fin_alike {S s n : Nat} {w0 w1 w2 w3 w6 : Nat → Int64} {d0 d3 d4 d5 d6 : Nat → Int32} (hS : 100 ≤ S ∧ S ≤ 600) (hs : 40 ≤ s) (hsn : s + n ≤ S - 33) (hw : ∀ q, q < 512 * S → gB w0 q = 0) (hd : ∀ q, q < 512 * S → mB d0 q = 0) (sv : Sim (vA s n) (gB w3) (gB w6) (mB d0) (mB d3)) (sz : Sim (fun q => q < 512) (gB w0) (gB w1) (mB d3) (mB d4)) (s1 : Sim (tR 1 2) (gB w1) (gB w2) (mB d4) (mB d5)) (s2 : Sim (tR (S - 1) (S - 33)) (gB w2) (gB w3) (mB d5) (mB d6)) : Alike_ S w6 d6 := fun q hq => by
  have dis : (vA s n q → ¬ q < 512 ∧ ¬ tR 1 2 q ∧ ¬ tR (S - 1) (S - 33) q) ∧ (q < 512 → ¬ tR 1 2 q ∧ ¬ tR (S - 1) (S - 33) q) ∧ (tR 1 2 q → ¬ tR (S - 1) (S - 33) q) := by
    unfold vA tR
    omega
  obtain ⟨v1, v2⟩ := sv q
  obtain ⟨z1, z2⟩ := sz q
  obtain ⟨a1, a2⟩ := s1 q
  obtain ⟨b1, b2⟩ := s2 q
  have hw0 := hw q hq
  have hd0 := hd q hq
  by_cases hv : vA s n q
  · obtain ⟨n1, n2, n3⟩ := dis.1 hv
    rw [(b2 n3).2, (a2 n2).2, (z2 n1).2]
    refine v1 hv ?_
    rw [(b2 n3).1, (a2 n2).1, (z2 n1).1, hw0, hd0]
  · obtain ⟨e1, e2⟩ := v2 hv
    rw [e1]
    by_cases h0 : q < 512
    · obtain ⟨n2, n3⟩ := dis.2.1 h0
      rw [(b2 n3).2, (a2 n2).2, (b2 n3).1, (a2 n2).1]
      exact z1 h0 (by rw [hw0, e2, hd0])
    · obtain ⟨g1, g2⟩ := z2 h0
      by_cases h1 : tR 1 2 q
      · have n3 := dis.2.2 h1
        rw [(b2 n3).2, (b2 n3).1]
        exact a1 h1 (by rw [g1, g2, hw0, e2, hd0])
      · obtain ⟨c1, c2⟩ := a2 h1
        by_cases h2 : tR (S - 1) (S - 33) q
        · exact b1 h2 (by rw [c1, c2, g1, g2, hw0, e2, hd0])
        · rw [(b2 h2).1, (b2 h2).2, c1, c2, g1, g2, hw0, e2, hd0]
