/-! pure: write, on both sides, where no volume is -/
/-- both sides' writes: the answers are alike, and the disks behind them -/
def wrOk (S : Nat) (zc : Option (Int32 × (Nat → Int64) × Int32 × Int32 × Int32 × Int32 × Int32 × Int32 × (Nat → Int32) × (Nat → Int32) × (Nat → Int32) × (Nat → Int32))) (zm : Option (Int32 × Int32 × Int32 × Int32 × Int32 × (Nat → Int32) × (Nat → Int32) × (Nat → Int32))) : Prop := ∃ a b, zc = some a ∧ zm = some b ∧ a.1 = b.1 ∧ b.2.1 = 0 ∧ Alike_ S a.2.1 b.2.2.2.2.2.1
theorem write_none {S N np nf : Nat} {so st le nx sz sc fc ra rb se T d hd fo : Nat → Int32} {nm : Nat → Int64} {w : Nat → Int64} {vs vl vt ub ad ms mf mc : Int32} (hS : 100 ≤ S ∧ S ≤ 600) (hN : 400000 ≤ N) (hT : isT T) (hnp : np ≤ 4) (hpl : PlanOk S np so st le) (hnf : nf ≤ 12) (hD : Alike_ S w d) (b1 : f_Plan_bootPartition N (nI np) so = some (-1)) (b2 : f_Model_bootPartition N (nI np) so = some (-1)) : wrOk S (f_Writer_writeDisk N (nI np) so st le S (nI nf) nx sz sc fc nm ra rb vs vl vt (64 * S) w (nI (512 * S)) (nI S) ub se ad T (nI (S - 34))) (f_Model_write N (nI np) so (nI nf) nm (nI S) sz se ad st le d ms mf mc hd fo sc) := by
  by_cases h0 : nf = 0
  · subst h0
    obtain ⟨z, f1, f2, hz⟩ := fileNamed_eq (nf := 0) (N := N) (by decide) (by omega) nm 83903281120594
    have hz' : z = -1 := by
      rcases hz with ⟨e, -⟩ | ⟨k, hk, -⟩
      · exact e
      · exact absurd hk (Nat.not_lt_zero _)
    subst hz'
    obtain ⟨w0, c1, c2⟩ := clear_eq (n := 64 * S) (N := N) (w := w) (by omega) (by omega)
    have hw0 : ∀ q, q < 512 * S → gB w0 q = 0 := fun q hq => c2 q (by omega)
    obtain ⟨d0, e1, hd0⟩ := wclear_loop (S := S) (N := N) (u1147 := -1) (x1141 := ms) (x1142 := mf) (ad := ad) (np := nI np) (x1143 := mc) (x1140 := 0) (u1126 := -1) (nf := nI 0) (sz := sz) (x1144 := hd) (x1145 := fo) (se := se) (st := st) (le := le) (so := so) (nm := nm) hS (512 * S) 0 N d (by omega) (by omega) (fun q hq => absurd hq (by omega))
    obtain ⟨w1, u1, d4, z1, z2, z3⟩ := zero_none (S := S) (N := N) (nf := 0) (w := w0) (d := d0) (sz := sz) (se := se) (T := T) (vs := ra) (vl := rb) (hy := hd) (y := fo) (nm := nm) (ub := ub) (vr := 0) (ss := vs) (ss2 := ms) (t2 := mf) (ad := ad) hS hN f1
    have fz : ∀ q, ¬ q < 512 → q < 512 * S → gB w1 q = 0 ∧ mB d4 q = 0 := fun q a b => by
      obtain ⟨g1, g2⟩ := (z3 q).2 a
      rw [g1, g2]
      exact ⟨hw0 q b, hd0 q b⟩
    obtain ⟨w2, w3, u2, u3, d5, d6, t1, t2, t3, t4, t5⟩ := tabs_all (S := S) (N := N) (np := np) (w1 := w1) (d4 := d4) (T := T) (so := so) (st := st) (le := le) hS hN hT hnp hpl (fun q a => fz q (by unfold tR at a; omega) (by unfold tR at a; omega)) (fun q a => fz q (by unfold tR at a; omega) (by unfold tR at a; omega))
    have hal : Alike_ S w3 d6 := fin_alike (s := 40) (n := 0) hS (by decide) (by omega) hw0 hd0 (Sim_refl _ _ _) z3 t4 t5
    have e1' : lp_ (fun _ _ => none) (f_Model_write_L143 N (nI S) (-1) sz hd ms mf fo se nm ad (nI np) st le so mc 0 (-1) (nI 0)) N 0 d = _ := e1
    refine ⟨(0, w3, u3, vs, vl, vt, 0, 0, nx, fc, ra, rb), (0, 0, ms, mf, mc, d6, hd, fo), ?_, ?_, rfl, rfl, hal⟩
    · unfold f_Writer_writeDisk f_Writer_layOut f_Volume_forget
      rw [bd_e, b1, bd_e, if_neg (show ¬ ¬ (-1 : Int32) = -1 from fun q => q rfl), if_pos (show nI 0 ≤ 0 by decide), bd_e]
      dsimp only [lt_]
      rw [if_pos rfl, c1, bd_e, z1, bd_e]
      dsimp only
      rw [t1, bd_e]
      dsimp only
      rw [t2, bd_e, poss_0, bd_e, if_pos rfl]
    · unfold f_Model_write
      rw [b2, bd_e]
      dsimp only [lt_]
      rw [if_neg (show ¬ (0 : Int32) ≤ -1 by decide), if_pos (show nI 0 ≤ 0 by decide), if_pos (show (-1 : Int32) < 0 by decide), loa_c, bd_e, f2, bd_e, if_pos (show (-1 : Int32) < 0 by decide), e1', f_Model_write_L143]
      dsimp only [lt_]
      rw [show (512 : Int32) * nI S = nI (512 * S) from pk_mul 512 S, if_pos (nI_le (Nat.le_refl _) (by omega)), if_pos rfl, z2, bd_e, t3, bd_e]
  · refine ⟨(1, w, ub, vs, vl, vt, 0, 0, nx, fc, ra, rb), (1, 0, ms, mf, mc, d, hd, fo), ?_, ?_, rfl, rfl, hD⟩
    · unfold f_Writer_writeDisk f_Writer_layOut f_Volume_forget
      rw [bd_e, b1, bd_e, if_neg (show ¬ ¬ (-1 : Int32) = -1 from fun q => q rfl), if_neg (nI_nle (show 0 < nf by omega) (by omega)), bd_e]
      dsimp only
      rw [if_neg (show ¬ (1 : Int32) = 0 by decide)]
    · unfold f_Model_write
      rw [b2, bd_e]
      dsimp only [lt_]
      rw [if_neg (show ¬ (0 : Int32) ≤ -1 by decide), if_neg (nI_nle (show 0 < nf by omega) (by omega))]
/-! pure: write, on both sides, where the volume is -/
/-- the values of the cluster table's entries -/
def vN (x : Nat → Int32) (c e : Nat) : Nat := if e < c + 2 then (x e).toBitVec.toNat else 0
theorem vN_ok {x y : Nat → Int32} {c : Nat} (hR : fRel c x y) (h0 : x 0 = 4088) (h1 : x 1 = 4095) : (∀ j, vN x c j < 4096) ∧ vN x c 0 = 4088 ∧ vN x c 1 = 4095 ∧ (∀ e, e < c + 2 → x e = nI (vN x c e)) ∧ yV (vN x c) c y := by
  have a0 : vN x c 0 = 4088 := by unfold vN; rw [if_pos (by omega), h0]; decide
  have a1 : vN x c 1 = 4095 := by unfold vN; rw [if_pos (by omega), h1]; decide
  have a2 : ∀ e, 2 ≤ e → e < c + 2 → ∀ v : Nat, v < 4096 → x e = nI v → vN x c e = v := fun e _ he v hv hx => by
    unfold vN; rw [if_pos he, hx, pk_tn (by omega)]
  refine ⟨fun j => ?_, a0, a1, fun e he => ?_, fun e he1 he2 => ?_⟩
  · by_cases hj : j < c + 2
    · by_cases j0 : j = 0
      · rw [j0, a0]; decide
      · by_cases j1 : j = 1
        · rw [j1, a1]; decide
        · rcases hR j (by omega) hj with ⟨v, hv, e1, -⟩ | ⟨e1, -⟩
          · rw [a2 j (by omega) hj v hv e1]; exact hv
          · rw [a2 j (by omega) hj 4095 (by decide) e1]; decide
    · unfold vN; rw [if_neg hj]; decide
  · by_cases j0 : e = 0
    · rw [j0, a0, h0]; rfl
    · by_cases j1 : e = 1
      · rw [j1, a1, h1]; rfl
      · rcases hR e (by omega) he with ⟨v, hv, e1, -⟩ | ⟨e1, -⟩
        · rw [a2 e (by omega) he v hv e1, e1]
        · rw [a2 e (by omega) he 4095 (by decide) e1, e1]; rfl
  · rcases hR e he1 he2 with ⟨v, hv, e1, e2⟩ | ⟨e1, e2⟩
    · rw [a2 e he1 he2 v hv e1, e2]
      by_cases v0 : v = 0
      · exact Or.inl ⟨by rw [v0]; rfl, v0⟩
      · exact Or.inr (Or.inl ⟨nI_ne0 (by omega) (by omega), nI_pos' (by omega), rfl⟩)
    · exact Or.inr (Or.inr ⟨e2, a2 e he1 he2 4095 (by decide) e1⟩)
theorem lay_sim {S s n t c nf N : Nat} {x y hx hy sz se : Nat → Int32} {nm : Nat → Int64} {ad : Int32} {w3 : Nat → Int64} {d0 : Nat → Int32} (hS : 100 ≤ S ∧ S ≤ 600) (hN : 400000 ≤ N) (hnf : nf ≤ 12) (hok : FilesOk nf nm sz se) (hn : n = c + 3 + 2 * t) (ht : t = 1 ∨ t = 2) (hsn : s + n ≤ S) (hL : ((c + 2) * 3 + 1) / 2 ≤ 512 * t) (hR : fRel c x y) (h0 : x 0 = 4088) (h1 : x 1 = 4095) (hp : placed sz c x y hx hy 0 nf) (hz : ∀ q, vA s n q → gB w3 q = 0 ∧ mB d0 q = 0) : ∃ (w4 w5 : Nat → Int64) (W : Nat → (Nat → Int64)) (d3 : Nat → Int32), f_Writer_writeVolumeSector N (nI s) w3 (nI (512 * S)) (64 * S) (nI n) (nI t) = some w4 ∧ f_Writer_writeClusterTables N (nI s) (nI t) (nI c) S x (nI (512 * S)) (64 * S) w4 = some w5 ∧ W 0 = w5 ∧ (∀ g, g < nf → f_Writer_writeFile N sz (nI g) (nI s) (nI t) (nI (512 * S)) (64 * S) (W g) hx nm se ad S x = some (W (g + 1))) ∧ f_Model_lay N (nI s) d0 (nI n) (nI t) (nI nf) nm hy sz y se ad (nI c) = some d3 ∧ Sim (vA s n) (gB w3) (gB (W nf)) (mB d0) (mB d3) := by
  obtain ⟨v1, v2, v3, v4, v5⟩ := vN_ok hR h0 h1
  have s1 : Sim (fun q => 512 * s ≤ q ∧ q < 512 * s + 512) (gB w3) (gB (vsW w3 s n t)) (mB d0) (mB (vsD d0 s n t)) := vs_sim (fun q a b => ⟨a, b⟩)
  have s1' : Sim (vA s n) (gB w3) (gB (vsW w3 s n t)) (mB d0) (mB (vsD d0 s n t)) := Sim_mono (fun q a => ⟨a.1, by have := a.2; omega⟩) s1
  obtain ⟨w5, d2, a1, a2, a3⟩ := ctab_sim (s := s) (t := t) (c := c) (nf := nf) (n := n) (x := x) (y := y) (hy := hy) (sz := sz) (se := se) (nm := nm) (ad := ad) (w := vsW w3 s n t) (d := vsD d0 s n t) hS hN v1 v2 v3 (show c + 2 ≤ S by omega) v4 v5 (by omega) hsn hL (fun q b1 b2 => by
    obtain ⟨e1, e2⟩ := (s1 q).2 (by omega)
    rw [e1, e2]
    exact hz q ⟨by omega, by omega⟩)
  obtain ⟨W, d3, b1, b2, b3, b4⟩ := files_sim (s := s) (t := t) (c := c) (n := n) (x := x) (y := y) (hx := hx) (hy := hy) (ad := ad) hS hN hnf hok hn (by omega) hsn hp nf 0 N w5 d2 (by omega) (by omega)
  refine ⟨vsW w3 s n t, w5, W, d3, vs_class hS hN (by omega), a1, b1, fun g hg => b2 g (by omega) hg, ?_, Sim_trans s1' (Sim_trans a3 b4)⟩
  rw [vs_model hN (by omega), a2]
  exact b3
theorem wfiles_loop {S nf N : Nat} {sz se : Nat → Int32} {nm : Nat → Int64} {ad : Int32} {u27 : (Nat → Int64) × Int32} {u20 : Int32 × Int32 × Int32 × Int32 × Int32 × Int32 × (Nat → Int32) × (Nat → Int32) × (Nat → Int32) × (Nat → Int32)} {W : Nat → (Nat → Int64)} (hnf : nf ≤ 12) (h : ∀ g, g < nf → f_Writer_writeFile N sz (nI g) u20.2.1 u20.2.2.2.1 (nI (512 * S)) (64 * S) (W g) u20.2.2.2.2.2.2.2.1 nm se ad S u20.2.2.2.2.2.2.1 = some (W (g + 1))) : ∀ (r k M : Nat), k + r = nf → r < M → lp_ (fun _ _ => none) (f_Writer_writeDisk_L72 N (nI nf) u27 u20 sz (nI (512 * S)) (64 * S) nm se ad S) M (nI k) (W k) = some (0, W nf, u27.2, u20.2.1, u20.2.2.1, u20.2.2.2.1, u20.2.2.2.2.1, u20.2.2.2.2.2.1, u20.2.2.2.2.2.2.1, u20.2.2.2.2.2.2.2.1, u20.2.2.2.2.2.2.2.2.1, u20.2.2.2.2.2.2.2.2.2) := by
  intro r
  induction r with
  | zero =>
    intro k M' hk hM
    obtain ⟨M, rfl⟩ : ∃ M, M' = M + 1 := ⟨M' - 1, by omega⟩
    have e : k = nf := by omega
    subst e
    rw [lp_s, f_Writer_writeDisk_L72, if_pos (nI_le (Nat.le_refl k) (by omega))]
  | succ r ih =>
    intro k M' hk hM
    obtain ⟨M, rfl⟩ : ∃ M, M' = M + 1 := ⟨M' - 1, by omega⟩
    rw [lp_s, f_Writer_writeDisk_L72, if_neg (nI_ge (show k < nf by omega) (by omega)), h k (by omega), bd_e]
    dsimp only [lt_]
    rw [nI_1]
    exact ih (k + 1) M (by omega) (by omega)
/-! pure: write, on both sides -/
theorem write_boot {S N np nf b s n : Nat} {so st le nx sz sc fc ra rb se T d hd fo : Nat → Int32} {nm : Nat → Int64} {w : Nat → Int64} {vs vl vt ub ad ms mf mc : Int32} (hS : 100 ≤ S ∧ S ≤ 600) (hN : 400000 ≤ N) (hT : isT T) (hnp : np ≤ 4) (hpl : PlanOk S np so st le) (hnf : nf ≤ 12) (hok : FilesOk nf nm sz se) (hD : Alike_ S w d) (hb : b < np) (hst : st b = nI s) (hle : le b = nI n) (hs : 40 ≤ s) (hn8 : 8 ≤ n ∧ n ≤ 600) (hsn : s + n ≤ S - 33) (b1 : f_Plan_bootPartition N (nI np) so = some (nI b)) (b2 : f_Model_bootPartition N (nI np) so = some (nI b)) : wrOk S (f_Writer_writeDisk N (nI np) so st le S (nI nf) nx sz sc fc nm ra rb vs vl vt (64 * S) w (nI (512 * S)) (nI S) ub se ad T (nI (S - 34))) (f_Model_write N (nI np) so (nI nf) nm (nI S) sz se ad st le d ms mf mc hd fo sc) := by
  obtain ⟨ht, hc1, hc2, hL⟩ := vTn_ok hn8
  have hlie := lie_eq (a := st b) hn8 hN
  have htab := tableOf_eq hn8 hN
  have hsub : nI n - 3 - (2 : Int32) * nI (vTn n) = nI (n - (3 + 2 * vTn n)) := by
    rw [show (2 : Int32) * nI (vTn n) = nI (2 * vTn n) from pk_mul 2 _, sub3, pk_sub (by omega)]
  generalize htt : vTn n = t at *
  generalize hcc : n - (3 + 2 * t) = c at *
  have hb4 : b < 4 := by omega
  have nb : ¬ nI b = ((-1) : Int32) := fun q => absurd (q ▸ nI_pos' (n := b) (by omega) : (0 : Int32) ≤ -1) (by decide)
  have nb0 : ¬ nI b < 0 := nI_pos (by omega)
  rcases place_eq (S := S) (c := c) (nf := nf) (N := N) (nm := nm) (sz := sz) (se := se) (sc := sc) (nx := nx) (fc := fc) (hd := hd) (fo := fo) hS.2 (by omega) hN hnf hok with ⟨hle2, x, y, hx, hy, p1, p2, hR, hx0, hx1, hp⟩ | ⟨hlt, h, y, p1, p2⟩
  case inr =>
    have hnf0 : 0 < nf := by
      by_cases q : nf = 0
      · subst q; exact absurd hlt (Nat.not_lt_zero _)
      · omega
    refine ⟨(2, w, ub, st b, nI n, nI t, nI c, 0, nx, fc, ra, rb), (2, 0, st b, nI t, nI c, d, h, y), ?_, ?_, rfl, rfl, hD⟩
    · unfold f_Writer_writeDisk f_Writer_layOut f_Volume_forget
      rw [bd_e, b1, bd_e, if_pos nb, ix_in hb4 (by decide), ix_in hb4 (by decide), hle, hlie, bd_e]
      dsimp only
      rw [poss_eq hS.2 hc1 (by omega), bd_e, if_pos (show ¬ (1 : Int32) = 0 by decide), p1, bd_e]
      dsimp only
      rw [if_neg (show ¬ ¬ (0 : Int32) = 0 from fun q => q rfl), bd_e]
      dsimp only
      rw [if_neg (show ¬ (2 : Int32) = 0 by decide)]
    · unfold f_Model_write
      rw [b2, bd_e]
      dsimp only [lt_]
      rw [if_pos (show (0 : Int32) ≤ nI b from nI_pos' (by omega)), if_neg nb0, ix_in hb4 (by decide), ix_in hb4 (by decide), hle, htab, bd_e, ix_in hb4 (by decide), hle, hsub, if_neg (nI_nle (show 0 < c by omega) (by omega)), if_neg (nI_nle hnf0 (by omega)), if_neg (show ¬ (1 : Int32) = 0 by decide), p2, bd_e]
      dsimp only
      rw [if_neg (show ¬ ¬ (0 : Int32) = 0 from fun q => q rfl)]
  case inl =>
    obtain ⟨w0, c1, c2⟩ := clear_eq (n := 64 * S) (N := N) (w := w) (by omega) (by omega)
    have hw0 : ∀ q, q < 512 * S → gB w0 q = 0 := fun q hq => c2 q (by omega)
    obtain ⟨z, f1, f2, hz⟩ := fileNamed_eq (nf := nf) (N := N) hnf (by omega) nm 83903281120594
    have hlay : ∃ (vr : Int32) (ra' rb' : Nat → Int32), f_Writer_layOut N (nI np) so st le S (nI nf) nx sz sc fc nm ra rb vs vl vt = some (0, nI s, nI n, nI t, nI c, vr, x, hx, ra', rb') ∧ (z = -1 ∨ ∃ l, l < nf ∧ z = nI l ∧ ldAt sz hy y ra' rb' vr l (nN sz l) s t c) := by
      rcases hz with ⟨e, -⟩ | ⟨l, hl, e, -⟩
      · refine ⟨0, ra, rb, ?_, Or.inl e⟩
        unfold f_Writer_layOut f_Volume_forget
        rw [bd_e, b1, bd_e, if_pos nb, ix_in hb4 (by decide), ix_in hb4 (by decide), hle, hlie, bd_e]
        dsimp only
        rw [poss_eq hS.2 hc1 (by omega), bd_e, if_pos (show ¬ (1 : Int32) = 0 by decide), p1, bd_e]
        dsimp only
        rw [if_pos (show ¬ (1 : Int32) = 0 by decide), f1, bd_e, if_pos e, hst]
      · obtain ⟨P, hch, hhx, hhy⟩ := hp l (by omega) hl
        obtain ⟨hsz, hsz2⟩ := zN_ok hok hl
        obtain ⟨ra', rb', g1, g2⟩ := findRuns_eq (S := S) (s := s) (t := t) (c := c) (n := nN sz l) (k := l) (z := zN sz l) (N := N) (x := x) (y := y) (hx := hx) (ra := ra) (rb := rb) (P := P) hS.2 (by omega) (by omega) (by omega) hN hsz2 rfl hch (by omega) hhx
        refine ⟨nI (rN P (nN sz l)), ra', rb', ?_, Or.inr ⟨l, hl, e, P, x, rfl, hch, hhy, rfl, g2⟩⟩
        unfold f_Writer_layOut f_Volume_forget
        rw [bd_e, b1, bd_e, if_pos nb, ix_in hb4 (by decide), ix_in hb4 (by decide), hle, hlie, bd_e]
        dsimp only
        rw [poss_eq hS.2 hc1 (by omega), bd_e, if_pos (show ¬ (1 : Int32) = 0 by decide), p1, bd_e]
        dsimp only
        rw [if_pos (show ¬ (1 : Int32) = 0 by decide), f1, bd_e, e, if_neg (show ¬ nI l = ((-1) : Int32) from fun q => absurd (q ▸ nI_pos' (n := l) (by omega) : (0 : Int32) ≤ -1) (by decide)), ix_in (show l < 12 by omega) (by decide), hsz, hst, g1, bd_e]
        dsimp only
        rw [if_pos (show ¬ (1 : Int32) = 0 by decide)]
    obtain ⟨vr, ra', rb', l1, hld⟩ := hlay
    obtain ⟨d0, e1, hd0⟩ := wclear_loop (S := S) (N := N) (u1147 := z) (x1141 := nI s) (x1142 := nI t) (ad := ad) (np := nI np) (x1143 := nI c) (x1140 := 1) (u1126 := nI b) (nf := nI nf) (sz := sz) (x1144 := hy) (x1145 := y) (se := se) (st := st) (le := le) (so := so) (nm := nm) hS (512 * S) 0 N d (by omega) (by omega) (fun q hq => absurd hq (by omega))
    have e1' : lp_ (fun _ _ => none) (f_Model_write_L143 N (nI S) z sz hy (nI s) (nI t) y se nm ad (nI np) st le so (nI c) 1 (nI b) (nI nf)) N 0 d = _ := e1
    have hzz : ∀ (w' : Nat → Int64) (d' : Nat → Int32), (∀ q, q < 512 → mB d' q = 0) → ∃ (w1 : Nat → Int64) (u1 : Int32) (d4 : Nat → Int32), f_Writer_writeSectorZero N w' (nI (512 * S)) (64 * S) (nI nf) nm (nI S) ub vr sz se (nI s) ad T ra' rb' = some (w1, u1) ∧ f_Model_beginning N d' (nI S) z sz hy (nI s) (nI t) y se nm ad = some d4 ∧ Sim (fun q => q < 512) (gB w') (gB w1) (mB d') (mB d4) := fun w' d' h0 => by
      rcases hld with e | ⟨l, hl, e, hld⟩
      · rw [e] at f1 ⊢
        exact zero_none hS hN f1
      · rw [e] at f1 ⊢
        exact zero_some hS hN hT hnf hok hl (by omega) (by omega) (by omega) f1 hld h0
    have d3z : ∃ d3, ∀ w3 : Nat → Int64, (∀ q, vA s n q → gB w3 q = 0) → ∃ (w4 w5 : Nat → Int64) (W : Nat → (Nat → Int64)), f_Writer_writeVolumeSector N (nI s) w3 (nI (512 * S)) (64 * S) (nI n) (nI t) = some w4 ∧ f_Writer_writeClusterTables N (nI s) (nI t) (nI c) S x (nI (512 * S)) (64 * S) w4 = some w5 ∧ W 0 = w5 ∧ (∀ g, g < nf → f_Writer_writeFile N sz (nI g) (nI s) (nI t) (nI (512 * S)) (64 * S) (W g) hx nm se ad S x = some (W (g + 1))) ∧ f_Model_lay N (nI s) d0 (nI n) (nI t) (nI nf) nm hy sz y se ad (nI c) = some d3 ∧ Sim (vA s n) (gB w3) (gB (W nf)) (mB d0) (mB d3) := by
      have ls : ∀ w3 : Nat → Int64, (∀ q, vA s n q → gB w3 q = 0) → _ := fun w3 hw3 => lay_sim (x := x) (y := y) (hx := hx) (hy := hy) (ad := ad) (w3 := w3) (d0 := d0) hS hN hnf hok (show n = c + 3 + 2 * t by omega) ht (show s + n ≤ S by omega) hL hR hx0 hx1 hp (fun q a => ⟨hw3 q a, hd0 q (by have := a.2; omega)⟩)
      obtain ⟨-, -, -, d3, -, -, -, -, m0, -⟩ := ls w0 (fun q a => hw0 q (by have := a.2; omega))
      refine ⟨d3, fun w3 hw3 => ?_⟩
      obtain ⟨w4, w5, W, d3', a1, a2, a3, a4, a5, a6⟩ := ls w3 hw3
      rw [m0] at a5
      have e : d3 = d3' := Option.some.inj a5
      subst e
      exact ⟨w4, w5, W, a1, a2, a3, a4, m0, a6⟩
    obtain ⟨d3, hd3⟩ := d3z
    obtain ⟨-, -, W', -, -, -, -, m0, sv0⟩ := hd3 w0 (fun q a => hw0 q (by have := a.2; omega))
    have hd3z : ∀ q, ¬ vA s n q → q < 512 * S → mB d3 q = 0 := fun q a b => by
      rw [((sv0 q).2 a).2]; exact hd0 q b
    obtain ⟨w1, u1, d4, z1, z2, z3⟩ := hzz w0 d3 (fun q a => hd3z q (fun v => by have := v.1; omega) (by omega))
    have fz : ∀ q, ¬ vA s n q → ¬ q < 512 → q < 512 * S → gB w1 q = 0 ∧ mB d4 q = 0 := fun q a0 a b => by
      obtain ⟨g1, g2⟩ := (z3 q).2 a
      rw [g1, g2]
      exact ⟨hw0 q b, hd3z q a0 b⟩
    obtain ⟨w2, w3, u2, u3, d5, d6, t1, t2, t3, t4, t5⟩ := tabs_all (S := S) (N := N) (np := np) (w1 := w1) (d4 := d4) (T := T) (so := so) (st := st) (le := le) hS hN hT hnp hpl (fun q a => fz q (fun v => by unfold tR at a; unfold vA at v; omega) (by unfold tR at a; omega) (by unfold tR at a; omega)) (fun q a => fz q (fun v => by unfold tR at a; unfold vA at v; omega) (by unfold tR at a; omega) (by unfold tR at a; omega))
    have hw3 : ∀ q, vA s n q → gB w3 q = 0 := fun q v => by
      rw [((t5 q).2 (fun a => by unfold tR at a; unfold vA at v; omega)).1, ((t4 q).2 (fun a => by unfold tR at a; unfold vA at v; omega)).1, ((z3 q).2 (fun a => by unfold vA at v; omega)).1]
      exact hw0 q (by have := v.2; omega)
    obtain ⟨w4, w5, W, g1, g2, g3, g4, g5, g6⟩ := hd3 w3 hw3
    have hal : Alike_ S (W nf) d6 := fin_alike (s := s) (n := n) hS hs hsn hw0 hd0 g6 z3 t4 t5
    refine ⟨(0, W nf, u3, nI s, nI n, nI t, nI c, vr, x, hx, ra', rb'), (0, 0, nI s, nI t, nI c, d6, hy, y), ?_, ?_, rfl, rfl, hal⟩
    · unfold f_Writer_writeDisk
      rw [l1, bd_e]
      dsimp only [lt_]
      rw [if_pos rfl, c1, bd_e, z1, bd_e]
      dsimp only
      rw [t1, bd_e]
      dsimp only
      rw [t2, bd_e, poss_eq hS.2 hc1 (by omega), bd_e, if_neg (show ¬ (1 : Int32) = 0 by decide)]
      dsimp only
      rw [g1, bd_e, g2, bd_e, ← g3]
      exact wfiles_loop (u27 := (w3, u3)) (u20 := (0, nI s, nI n, nI t, nI c, vr, x, hx, ra', rb')) (W := W) hnf g4 nf 0 N (by omega) (by omega)
    · have tail : lp_ (fun _ _ => none) (f_Model_write_L143 N (nI S) z sz hy (nI s) (nI t) y se nm ad (nI np) st le so (nI c) 1 (nI b) (nI nf)) N 0 d = some (0, 0, nI s, nI t, nI c, d6, hy, y) := by
        rw [e1', f_Model_write_L143]
        dsimp only [lt_]
        rw [show (512 : Int32) * nI S = nI (512 * S) from pk_mul 512 S, if_pos (nI_le (Nat.le_refl _) (by omega)), if_neg (show ¬ (1 : Int32) = 0 by decide), ix_in hb4 (by decide), hle, m0, bd_e, z2, bd_e, t3, bd_e]
      have tail2 : (if z < 0 then some ((0 : Int32), (0 : Int32), nI s, nI t, nI c, d6, hy, y) else bd_ (f_Model_runs N sz z hy (nI s) (nI t) y) (fun u1179 => if u1179 ≤ (20 : Int32) then some (0, 0, nI s, nI t, nI c, d6, hy, y) else some (3, 0, nI s, nI t, nI c, d, hy, y))) = some (0, 0, nI s, nI t, nI c, d6, hy, y) := by
        rcases hld with e | ⟨l, hl, e, P, x', -, hch, hhy, -, -⟩
        · rw [e, if_pos (by decide)]
        · obtain ⟨hsz, hsz2⟩ := zN_ok hok hl
          have hr1 := rN_le P (nN sz l)
          have hr2 := nN_le hok hl
          rw [e, if_neg (nI_pos (by omega)), runs_eq (n := nN sz l) (show s ≤ 600 by omega) (by omega) hN hsz hsz2 rfl (chn_path (by omega) hch) (by omega) hhy, bd_e, if_pos (show nI (rN P (nN sz l)) ≤ (20 : Int32) from nI_le (b := 20) (by omega) (by decide))]
      unfold f_Model_write
      rw [b2, bd_e]
      dsimp only [lt_]
      rw [if_pos (show (0 : Int32) ≤ nI b from nI_pos' (by omega)), if_neg nb0, ix_in hb4 (by decide), ix_in hb4 (by decide), hle, hst, htab, bd_e, ix_in hb4 (by decide), hle, hsub, if_neg (nI_nle (show 0 < c by omega) (by omega))]
      by_cases hf0 : nf = 0
      · have q0 : nI nf = 0 := by rw [hf0]; rfl
        rw [if_pos (show nI nf ≤ 0 from nI_le (b := 0) (by omega) (by decide)), if_neg (fun q => q q0), p2, bd_e]
        dsimp only
        rw [loa_c, bd_e, f2, bd_e, tail]
        exact tail2
      · have q0 : ¬ nI nf = 0 := nI_ne0 (by omega) (by omega)
        rw [if_neg (nI_nle (show 0 < nf by omega) (by omega)), if_neg (show ¬ (1 : Int32) = 0 by decide), p2, bd_e]
        dsimp only
        rw [if_pos (show ¬ (1 : Int32) = 0 by decide), if_pos q0, loa_c, bd_e, f2, bd_e, tail]
        exact tail2
theorem write_eq {S N np nf : Nat} {so st le nx sz sc fc ra rb se T d hd fo : Nat → Int32} {nm : Nat → Int64} {w : Nat → Int64} {vs vl vt ub ad ms mf mc : Int32} (hS : 100 ≤ S ∧ S ≤ 600) (hN : 400000 ≤ N) (hT : isT T) (hnp : np ≤ 4) (hpl : PlanOk S np so st le) (hnf : nf ≤ 12) (hok : FilesOk nf nm sz se) (hD : Alike_ S w d) : wrOk S (f_Writer_writeDisk N (nI np) so st le S (nI nf) nx sz sc fc nm ra rb vs vl vt (64 * S) w (nI (512 * S)) (nI S) ub se ad T (nI (S - 34))) (f_Model_write N (nI np) so (nI nf) nm (nI S) sz se ad st le d ms mf mc hd fo sc) := by
  obtain ⟨z, b1, b2, h⟩ := bootP_eq (so := so) hnp hN
  rcases h with ⟨e, -⟩ | ⟨b, hb, e, -⟩
  · rw [e] at b1 b2
    exact write_none hS hN hT hnp hpl hnf hD b1 b2
  · rw [e] at b1 b2
    obtain ⟨-, s, n, h1, h2, h3, h4, h5, h6⟩ := hpl b hb
    exact write_boot hS hN hT hnp hpl hnf hok hD hb h1 h2 h3 ⟨h4, h5⟩ h6 b1 b2
