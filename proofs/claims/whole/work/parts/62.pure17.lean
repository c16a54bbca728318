/-! pure: the loader's runs are collected; its bytes are summed -/
theorem collect_loop {S N R nd : Nat} {w : Nat → Int64} (hS : 100 ≤ S ∧ S ≤ 600) (hN : 400000 ≤ N) (hR20 : R ≤ 20) (hnd : nd ≤ 18) : ∀ (r k c M : Nat) (f : Nat → Int32), k + r = R → r < M → c = min nd (tot_ (gB w) k 0) → (∀ j, j < c → f j = nI (secAt (gB w) R 0 j)) → ∃ (z : Int32) (g : Nat → Int32), lp_ (fun _ _ _ => none) (f_Firmware_collectRuns_L11 N (nI R) (nI nd) (nI (512 * S)) (64 * S) w (nI S)) M (nI k) (nI c) f = some (z, g) ∧ ((z = 1 ∧ (runsOk S (gB w) r k ∧ nd ≤ tot_ (gB w) R 0) ∧ ∀ j, j < nd → g j = nI (secAt (gB w) R 0 j)) ∨ (z = 0 ∧ ¬ (runsOk S (gB w) r k ∧ nd ≤ tot_ (gB w) R 0))) := by
  intro r
  induction r with
  | zero =>
    intro k c M' f hk hM hc hf
    obtain ⟨M, rfl⟩ : ∃ M, M' = M + 1 := ⟨M' - 1, by omega⟩
    have hkR : k = R := by omega
    subst hkR
    rw [lp_s, f_Firmware_collectRuns_L11, if_pos (nI_le (Nat.le_refl _) (by omega))]
    by_cases h : c = nd
    · rw [if_neg (not_not_intro (show nI c = nI nd by rw [h]))]
      refine ⟨1, f, rfl, Or.inl ⟨rfl, ⟨fun j h1 h2 => absurd h2 (by omega), by omega⟩, fun j hj => hf j (by omega)⟩⟩
    · rw [if_pos (fun q => h ((nI_eq (by omega) (by omega)).mp q))]
      exact ⟨0, f, rfl, Or.inr ⟨rfl, fun q => h (by have := q.2; omega)⟩⟩
  | succ r ih =>
    intro k c M' f hk hM hc hf
    obtain ⟨M, rfl⟩ : ∃ M, M' = M + 1 := ⟨M' - 1, by omega⟩
    have hct := ct_lt (gB_lt w) k
    have hfr := fr_lt (gB_lt w) k
    rw [lp_s, f_Firmware_collectRuns_L11, if_neg (nI_ge (by omega) (by omega))]
    dsimp only [lt_]
    rw [show nI k * 6 = nI (6 * k) from by rw [show (6 : Int32) = nI 6 from rfl, pk_mul, Nat.mul_comm], show (65 : Int32) + nI (6 * k) = nI (65 + 6 * k) from nI_add 65 _, show nI (65 + 6 * k) + 4 = nI (69 + 6 * k) from by rw [show (4 : Int32) = nI 4 from rfl, nI_add]; congr 1; omega, cl 4 (k := 4) rfl (by omega) (by omega) (by omega) (by decide) (by omega), bd_e, cl 2 (k := 2) rfl (by omega) (by omega) (by omega) (by decide) (by omega), bd_e]
    show ∃ z g, (if lg_cmp (lN (ct_ (gB w) k)) 0 = 0 then some (0, f) else if lg_cmp (lN (fr_ (gB w) k) + lN (ct_ (gB w) k)) (nI S).toInt64 ≤ 0 then lp_ (fun _ _ _ => none) (f_Firmware_collectRuns_L79 (lN (ct_ (gB w) k)) (nI k) (lp_ (fun _ _ _ => none) (f_Firmware_collectRuns_L11 N (nI R) (nI nd) (nI (512 * S)) (64 * S) w (nI S)) M) (nI nd) (lN (fr_ (gB w) k))) N 0 (nI c) f else some (0, f)) = some (z, g) ∧ _
    rw [lN_add, nI_l (show S < 2 ^ 31 by omega), show (0 : Int64) = lN 0 from rfl]
    by_cases h0 : ct_ (gB w) k = 0
    · rw [if_pos ((lgN (by omega) (by decide)).mpr h0)]
      exact ⟨0, f, rfl, Or.inr ⟨rfl, fun q => (q.1 k (by omega) (by omega)).1 h0⟩⟩
    · rw [if_neg (fun q => h0 ((lgN (by omega) (by decide)).mp q))]
      by_cases h1 : fr_ (gB w) k + ct_ (gB w) k ≤ S
      · rw [if_pos ((lgl _ _).mpr ((pk_lLE (by omega) (by omega)).mpr h1))]
        obtain ⟨m, g, e, h2, h3, h4⟩ := collect_in (x := nI k) (k11 := lp_ (fun _ _ _ => none) (f_Firmware_collectRuns_L11 N (nI R) (nI nd) (nI (512 * S)) (64 * S) w (nI S)) M) (nd := nd) (c0 := 0) (fk := fr_ (gB w) k) (ck := ct_ (gB w) k) hnd (by omega) (ct_ (gB w) k) 0 c N f (by omega) (by omega) (by omega)
        have ht := tot_s (gB w) k 0
        rw [Nat.zero_add] at ht
        have hcm : c + m = min nd (tot_ (gB w) (k + 1) 0) := by
          rw [ht]
          rcases h2 with ⟨a, q⟩ | ⟨a, q⟩ <;> omega
        have hg : ∀ j, j < c + m → g j = nI (secAt (gB w) R 0 j) := by
          intro j hj
          by_cases hjc : j < c
          · rw [h3 j hjc]; exact hf j hjc
          · obtain ⟨t, rfl⟩ : ∃ t, j = c + t := ⟨j - c, by omega⟩
            have hT : c = tot_ (gB w) k 0 := by
              rcases h2 with ⟨a, q⟩ | ⟨a, q⟩ <;> omega
            rw [h4 t (by omega)]
            have hs := sec_split (gB w) k 0 (r + 1) t
            rw [hk, Nat.zero_add, ← hT] at hs
            rw [hs]
            show nI (fr_ (gB w) k + 0 + t) = nI (if t < ct_ (gB w) k then fr_ (gB w) k + t else _)
            rw [if_pos (by rcases h2 with ⟨a, q⟩ | ⟨a, q⟩ <;> omega), Nat.add_zero]
        obtain ⟨z, g2, e2, hz⟩ := ih (k + 1) (c + m) M g (by omega) (by omega) hcm hg
        rw [show (0 : Int32) = nI 0 from rfl, e, nI_1, e2]
        refine ⟨z, g2, rfl, ?_⟩
        rcases hz with ⟨a, q, q2⟩ | ⟨a, q⟩
        · refine Or.inl ⟨a, ⟨fun j h1' h2' => ?_, q.2⟩, q2⟩
          by_cases hjk : j = k
          · rw [hjk]; exact ⟨h0, h1⟩
          · exact q.1 j (by omega) (by omega)
        · exact Or.inr ⟨a, fun q3 => q ⟨fun j h1' h2' => q3.1 j (by omega) (by omega), q3.2⟩⟩
      · rw [if_neg (fun q => h1 ((pk_lLE (by omega) (by omega)).mp ((lgl _ _).mp q)))]
        exact ⟨0, f, rfl, Or.inr ⟨rfl, fun q => h1 (q.1 k (by omega) (by omega)).2⟩⟩
theorem need_eq {z : Nat} (hz : z ≤ 9000) : f_Volume_clustersFor (nI z) = some (nI ((z + 511) / 512)) := by
  unfold f_Volume_clustersFor
  dsimp only [lt_]
  rw [show (512 : Int32) = nI 512 from rfl, nI_add, show nI (z + 512) - 1 = nI (z + 511) from nI_pred (z + 511), pk_div (by omega) (by decide) (by decide)]
theorem collect_eq {S N R z : Nat} {w : Nat → Int64} (hS : 100 ≤ S ∧ S ≤ 600) (hN : 400000 ≤ N) (hR20 : R ≤ 20) (hz : z ≤ 9000) (f : Nat → Int32) : ∃ (y : Int32) (g : Nat → Int32), f_Firmware_collectRuns N (nI z) (nI R) (nI (512 * S)) (64 * S) w (nI S) f = some (y, g) ∧ ((y = 1 ∧ (runsOk S (gB w) R 0 ∧ (z + 511) / 512 ≤ tot_ (gB w) R 0) ∧ ∀ j, j < (z + 511) / 512 → g j = nI (secAt (gB w) R 0 j)) ∨ (y = 0 ∧ ¬ (runsOk S (gB w) R 0 ∧ (z + 511) / 512 ≤ tot_ (gB w) R 0))) := by
  unfold f_Firmware_collectRuns
  rw [need_eq hz, bd_e]
  exact collect_loop hS hN hR20 (by omega) R 0 0 N f (by omega) (by omega) (by show 0 = min _ 0; omega) (fun j hj => absurd hj (by omega))
/-- the loader's i-th byte -/
def lb_ (b : Nat → Nat) (R : Nat) : Nat → Nat := fun i => b (512 * secAt b R 0 (i / 512) + i % 512)
theorem lsum_loop {S R z : Nat} {w : Nat → Int64} {T g : Nat → Int32} (hT : isT T) (hS : 100 ≤ S ∧ S ≤ 600) (hz : z ≤ 9000) (ho : runsOk S (gB w) R 0) (ht : (z + 511) / 512 ≤ tot_ (gB w) R 0) (hg : ∀ j, j < (z + 511) / 512 → g j = nI (secAt (gB w) R 0 j)) : ∀ (r i M : Nat), i + r = z → r < M → lp_ (fun _ _ => none) (f_Firmware_loaderSum_L9 (nI z) g (nI (512 * S)) (64 * S) w T) M (nI i) (cR (lb_ (gB w) R) 0 i) = some (cR (lb_ (gB w) R) 0 z ^^^ (-1), cR (lb_ (gB w) R) 0 z) := by
  intro r
  induction r with
  | zero =>
    intro i M' hi hM
    obtain ⟨M, rfl⟩ : ∃ M, M' = M + 1 := ⟨M' - 1, by omega⟩
    rw [lp_s, f_Firmware_loaderSum_L9]
    dsimp only [lt_]
    rw [if_pos (nI_le (by omega) (by omega)), show i = z by omega]
    rfl
  | succ r ih =>
    intro i M' hi hM
    obtain ⟨M, rfl⟩ : ∃ M, M' = M + 1 := ⟨M' - 1, by omega⟩
    have hlt := sec_lt R 0 (i / 512) ho (by omega)
    rw [lp_s, f_Firmware_loaderSum_L9]
    dsimp only [lt_]
    rw [if_neg (nI_ge (by omega) (by omega)), show (512 : Int32) = nI 512 from rfl, pk_rem (by omega) (by decide) (by decide), pk_div (by omega) (by decide) (by decide), if_neg (show ¬ (18 : Int32) ≤ nI (i / 512) from nI_ge (a := i / 512) (b := 18) (by omega) (by omega)), ix_in (by omega) (by decide), hg _ (by omega), pk_mul, nI_add, get_in (by omega) (by omega) (by omega), bd_e, add_eq hT _ (gB_lt w _), bd_e, nI_1, ← ih (i + 1) M (by omega) (by omega)]
    show _ = lp_ (fun _ _ => none) (f_Firmware_loaderSum_L9 (nI z) g (nI (512 * S)) (64 * S) w T) M (nI (i + 1)) (cN 8 (cR (lb_ (gB w) R) 0 i ^^^ nI (lb_ (gB w) R (0 + i))))
    rw [Nat.zero_add]
    unfold lb_
    rw [Nat.mul_comm 512 (secAt (gB w) R 0 (i / 512))]
/-! pure: booting by the loader: both sides -/
def ldz (b : Nat → Nat) : Nat := loN b (65 + 6 * b 64) 4
def lds (b : Nat → Nat) : Nat := 512 * secAt b (b 64) 0 0
def ldOk (S : Nat) (b : Nat → Nat) : Prop := (1 ≤ b 64 ∧ b 64 ≤ 20 ∧ 8 ≤ ldz b ∧ ldz b ≤ 9000) ∧ (runsOk S b (b 64) 0 ∧ (ldz b + 511) / 512 ≤ tot_ b (b 64) 0) ∧ cR (lb_ b (b 64)) 0 (ldz b) ^^^ (-1) = (lN (loN b (69 + 6 * b 64) 4)).toInt32 ∧ rowIs b (lds b) (sByt 9) 4 ∧ loN b (lds b + 4) 4 < S
theorem loader_class {S N : Nat} {w : Nat → Int64} {T : Nat → Int32} (hT : isT T) (hS : 100 ≤ S ∧ S ≤ 600) (hN : 400000 ≤ N) (bs u : Int32) (ls : Nat → Int32) : ∃ (r b' u' : Int32) (ls' : Nat → Int32), f_Firmware_searchLoader N (nI (512 * S)) (64 * S) w bs ls u (nI S) T = some (r, b', ls', u') ∧ ((r = 0 ∧ ldOk S (gB w) ∧ b' = nI (loN (gB w) (lds (gB w) + 4) 4)) ∨ (r = 9 ∧ ¬ ldOk S (gB w) ∧ b' = bs)) := by
  unfold f_Firmware_searchLoader
  rw [show (64 : Int32) = nI 64 from rfl, get_in (show 64 < 512 * S by omega) (by omega) (by omega), bd_e]
  have hR := gB_lt w 64
  unfold ldOk
  generalize hRe : gB w 64 = R at hR ⊢
  have ez : ldz (gB w) = loN (gB w) (65 + 6 * R) 4 := by unfold ldz; rw [hRe]
  have es : lds (gB w) = 512 * secAt (gB w) R 0 0 := by unfold lds; rw [hRe]
  rw [ez, es]
  by_cases h0 : R = 0
  · rw [if_pos (show nI R = 0 by rw [h0]; rfl)]
    exact ⟨9, bs, u, ls, rfl, Or.inr ⟨rfl, fun q => by have := q.1.1; omega, rfl⟩⟩
  · rw [if_neg (nI_ne0 (by omega) (by omega))]
    by_cases h1 : R ≤ 20
    · rw [if_pos (show nI R ≤ 20 from nI_le (a := R) (b := 20) h1 (by decide))]
      dsimp only [lt_]
      rw [show nI R * 6 = nI (6 * R) from by rw [show (6 : Int32) = nI 6 from rfl, pk_mul, Nat.mul_comm], show (65 : Int32) + nI (6 * R) = nI (65 + 6 * R) from nI_add 65 _, cl 4 (k := 4) rfl (by omega) (by omega) (by omega) (by decide) (by omega), bd_e]
      have hz4 := loN4 (gB_lt w) (65 + 6 * R)
      generalize loN (gB w) (65 + 6 * R) 4 = z at hz4 ⊢
      rw [show (8 : Int64) = lN 8 from rfl, show (9000 : Int64) = lN 9000 from rfl, lN_i]
      by_cases h2 : z < 8
      · rw [if_pos ((lgn _ _).mpr ((pk_lLT (by omega) (by omega)).mpr h2))]
        exact ⟨9, bs, u, ls, rfl, Or.inr ⟨rfl, fun q => by have := q.1.2.2.1; omega, rfl⟩⟩
      · rw [if_neg (fun q => h2 ((pk_lLT (by omega) (by omega)).mp ((lgn _ _).mp q)))]
        by_cases h3 : 9000 < z
        · rw [if_pos ((lgp _ _).mpr ((pk_lLT (by omega) (by omega)).mpr h3))]
          exact ⟨9, bs, u, ls, rfl, Or.inr ⟨rfl, fun q => by have := q.1.2.2.2; omega, rfl⟩⟩
        · rw [if_neg (fun q => h3 ((pk_lLT (by omega) (by omega)).mp ((lgp _ _).mp q)))]
          obtain ⟨y, g, e1, hy⟩ := collect_eq (w := w) hS hN h1 (show z ≤ 9000 by omega) ls
          rw [e1, bd_e]
          rcases hy with ⟨rfl, hok, hg⟩ | ⟨rfl, hno⟩
          · have hsum : f_Firmware_loaderSum N (nI z) g (nI (512 * S)) (64 * S) w T = some (cR (lb_ (gB w) R) 0 z ^^^ (-1), cR (lb_ (gB w) R) 0 z) := lsum_loop hT hS (by omega) hok.1 hok.2 hg z 0 N (by omega) (by omega)
            have hs0 := sec_lt R 0 0 hok.1 (by omega)
            have hix : ∀ K : Int32 → Option (Int32 × Int32 × (Nat → Int32) × Int32), ix_ 18 g 0 K = K (g 0) := fun K => ix_in (j := 0) (by decide) (by decide)
            rw [if_pos (show ¬ (1 : Int32) = 0 by decide), hsum, bd_e, show nI (65 + 6 * R) + 4 = nI (69 + 6 * R) from by rw [show (4 : Int32) = nI 4 from rfl, nI_add]; congr 1; omega, cl 4 (k := 4) rfl (by omega) (by omega) (by omega) (by decide) (by omega), bd_e, hix]
            dsimp only
            rw [hg 0 (by omega), show nI (secAt (gB w) R 0 0) * 512 = nI (512 * secAt (gB w) R 0 0) from by rw [show (512 : Int32) = nI 512 from rfl, pk_mul, Nat.mul_comm]]
            generalize hpe : 512 * secAt (gB w) R 0 0 = p
            have hp : p + 512 ≤ 512 * S := by omega
            by_cases h5 : cR (lb_ (gB w) R) 0 z ^^^ (-1) = (lN (loN (gB w) (69 + 6 * R) 4)).toInt32
            · rw [if_pos h5, show nI p + 4 = nI (p + 4) from nI_add _ 4, cl 4 (k := 4) rfl (by omega) (by omega) (by omega) (by decide) (by omega), bd_e]
              obtain ⟨t, e2, ht⟩ := text_eq (w := w) (p := p) (k := 4) (len := 512 * S) (n := 64 * S) (N := N) (f := sByt 9) (sByt_tx 9 (by decide)) (by omega) (by omega) (by omega) (by omega)
              rw [e2, bd_e]
              rcases ht with ⟨rfl, ht⟩ | ⟨rfl, ht⟩
              · rw [if_neg (show ¬ (1 : Int32) = 0 by decide), nI_l (show S < 2 ^ 31 by omega), lN_i]
                have h4 := loN4 (gB_lt w) (p + 4)
                by_cases h6 : loN (gB w) (p + 4) 4 < S
                · rw [if_pos (show lg_cmp (lN (loN (gB w) (p + 4) 4)) (lN S) < 0 from (lgn _ _).mpr ((pk_lLT (by omega) (by omega)).mpr h6))]
                  exact ⟨0, _, _, g, rfl, Or.inl ⟨rfl, ⟨⟨by omega, h1, by omega, by omega⟩, hok, h5, ht, h6⟩, rfl⟩⟩
                · rw [if_neg (show ¬ lg_cmp (lN (loN (gB w) (p + 4) 4)) (lN S) < 0 from fun q => h6 ((pk_lLT (by omega) (by omega)).mp ((lgn _ _).mp q)))]
                  exact ⟨9, bs, _, g, rfl, Or.inr ⟨rfl, fun q => h6 q.2.2.2.2, rfl⟩⟩
              · rw [if_pos (show (0 : Int32) = 0 from rfl)]
                exact ⟨9, bs, _, g, rfl, Or.inr ⟨rfl, fun q => ht q.2.2.2.1, rfl⟩⟩
            · rw [if_neg h5]
              exact ⟨9, bs, _, g, rfl, Or.inr ⟨rfl, fun q => h5 q.2.2.1, rfl⟩⟩
          · rw [if_neg (show ¬ ¬ (0 : Int32) = 0 by decide)]
            exact ⟨9, bs, u, g, rfl, Or.inr ⟨rfl, fun q => hno q.2.1, rfl⟩⟩
    · rw [if_neg (show ¬ nI R ≤ 20 from nI_ge (a := 20) (b := R) (by omega) (by omega))]
      exact ⟨9, bs, u, ls, rfl, Or.inr ⟨rfl, fun q => h1 q.1.2.1, rfl⟩⟩
theorem msum_loop {S N R z : Nat} {d : Nat → Int32} (hS : 100 ≤ S ∧ S ≤ 600) (hN : 400000 ≤ N) (hR : mB d 64 = R) (hR20 : R ≤ 20) (hz : z ≤ 9000) (ho : runsOk S (mB d) R 0) (ht : (z + 511) / 512 ≤ tot_ (mB d) R 0) (fnd : Int32) : ∀ (r i M : Nat), i + r = z → r < M → lp_ (fun _ _ => none) (f_Model_byLoader_L148 N (lN z) d (nI R) fnd (nI S)) M (nI i) (cR (lb_ (mB d) R) 0 i) = f_Model_byLoader_L148 N (lN z) d (nI R) fnd (nI S) (fun _ _ => none) (nI z) (cR (lb_ (mB d) R) 0 z) := by
  intro r
  induction r with
  | zero =>
    intro i M' hi hM
    obtain ⟨M, rfl⟩ : ∃ M, M' = M + 1 := ⟨M' - 1, by omega⟩
    have : i = z := by omega
    subst this
    have hc : 0 ≤ lg_cmp (lN i) (lN i) := by rw [(lgz (lN i) (lN i)).mpr rfl]; decide
    rw [lp_s, f_Model_byLoader_L148, f_Model_byLoader_L148]
    dsimp only [lt_]
    rw [nI_l (show i < 2 ^ 31 by omega), if_pos hc, if_pos hc]
  | succ r ih =>
    intro i M' hi hM
    obtain ⟨M, rfl⟩ : ∃ M, M' = M + 1 := ⟨M' - 1, by omega⟩
    have hlt := sec_lt R 0 (i / 512) ho (by omega)
    rw [← ih (i + 1) M (by omega) (by omega), lp_s, f_Model_byLoader_L148]
    dsimp only [lt_]
    rw [nI_l (show i < 2 ^ 31 by omega), if_neg (Int32.not_le.mpr ((lgn _ _).mpr ((pk_lLT (by omega) (by omega)).mpr (show i < z by omega)))), show (512 : Int32) = nI 512 from rfl, pk_rem (by omega) (by decide) (by decide), pk_div (by omega) (by decide) (by decide), runAt_eq hS hN hR hR20 ho (by omega) (by omega), bd_e, pk_mul, nI_add, mget_in (by omega), bd_e, goesOn_eq _ _ (by omega), bd_e, nI_1]
    show _ = lp_ (fun _ _ => none) (f_Model_byLoader_L148 N (lN z) d (nI R) fnd (nI S)) M (nI (i + 1)) (cN 8 (cR (lb_ (mB d) R) 0 i ^^^ nI (lb_ (mB d) R (0 + i))))
    rw [Nat.zero_add]
    rfl
theorem row4 (b : Nat → Nat) (h : Nat) : rowIs b h (sByt 9) 4 ↔ (nI (b (h + 0)) = 76 ∧ nI (b (h + 1)) = 79 ∧ nI (b (h + 2)) = 65 ∧ nI (b (h + 3)) = 68) := by
  constructor
  · intro q
    exact ⟨q 0 (by decide), q 1 (by decide), q 2 (by decide), q 3 (by decide)⟩
  · rintro ⟨q0, q1, q2, q3⟩ j hj
    match j, hj with
    | 0, _ => exact q0
    | 1, _ => exact q1
    | 2, _ => exact q2
    | 3, _ => exact q3
    | (k + 4), h => exact absurd h (by omega)
theorem mend_eq {S N R z : Nat} {d : Nat → Int32} (hS : 100 ≤ S ∧ S ≤ 600) (hN : 400000 ≤ N) (hR : mB d 64 = R) (hR20 : R ≤ 20) (hz8 : 8 ≤ z) (hz : z ≤ 9000) (ho : runsOk S (mB d) R 0) (ht : (z + 511) / 512 ≤ tot_ (mB d) R 0) (fnd : Int32) : ∃ r f : Int32, lp_ (fun _ _ => none) (f_Model_byLoader_L148 N (lN z) d (nI R) fnd (nI S)) N 0 (-1) = some (r, f) ∧ ((r = 0 ∧ (cR (lb_ (mB d) R) 0 z ^^^ (-1) = (lN (loN (mB d) (69 + 6 * R) 4)).toInt32 ∧ rowIs (mB d) (512 * secAt (mB d) R 0 0) (sByt 9) 4 ∧ loN (mB d) (512 * secAt (mB d) R 0 0 + 4) 4 < S) ∧ f = nI (loN (mB d) (512 * secAt (mB d) R 0 0 + 4) 4)) ∨ (r = 9 ∧ ¬ (cR (lb_ (mB d) R) 0 z ^^^ (-1) = (lN (loN (mB d) (69 + 6 * R) 4)).toInt32 ∧ rowIs (mB d) (512 * secAt (mB d) R 0 0) (sByt 9) 4 ∧ loN (mB d) (512 * secAt (mB d) R 0 0 + 4) 4 < S) ∧ f = fnd)) := by
  have hl : lp_ (fun _ _ => none) (f_Model_byLoader_L148 N (lN z) d (nI R) fnd (nI S)) N 0 (-1) = _ := msum_loop hS hN hR hR20 hz ho ht fnd z 0 N (by omega) (by omega)
  have hs0 := sec_lt R 0 0 ho (by omega)
  have hc : 0 ≤ lg_cmp (lN z) (lN z) := by rw [(lgz (lN z) (lN z)).mpr rfl]; decide
  have hra : f_Model_runAt N d 0 = some (nI (secAt (mB d) R 0 0)) := runAt_eq (i := 0) hS hN hR hR20 ho (by omega) (by decide)
  rw [hl, f_Model_byLoader_L148]
  dsimp only [lt_]
  rw [nI_l (show z < 2 ^ 31 by omega), if_pos hc, hra, bd_e, show (512 : Int32) * nI (secAt (mB d) R 0 0) = nI (512 * secAt (mB d) R 0 0) from pk_mul 512 _, show (6 : Int32) * nI R = nI (6 * R) from pk_mul 6 R, show (69 : Int32) + nI (6 * R) = nI (69 + 6 * R) from nI_add 69 _, ml 4 (k := 4) rfl (by omega) (by decide) (by omega), bd_e, row4, Nat.add_zero]
  generalize hpe : 512 * secAt (mB d) R 0 0 = p
  have hp : p + 512 ≤ 512 * S := by omega
  rw [show nI p + 1 = nI (p + 1) from nI_add _ 1, show nI p + 2 = nI (p + 2) from nI_add _ 2, show nI p + 3 = nI (p + 3) from nI_add _ 3, show nI p + 4 = nI (p + 4) from nI_add _ 4, mget_in (show p < 307200 by omega), bd_e, mget_in (show p + 1 < 307200 by omega), bd_e, mget_in (show p + 2 < 307200 by omega), bd_e, mget_in (show p + 3 < 307200 by omega), bd_e, ml 4 (k := 4) rfl (by omega) (by decide) (by omega), bd_e, nI_l (show S < 2 ^ 31 by omega), lN_i (loN (mB d) (p + 4) 4)]
  have h4 := loN4 (mB_lt d) (p + 4)
  by_cases h5 : cR (lb_ (mB d) R) 0 z ^^^ (-1) = (lN (loN (mB d) (69 + 6 * R) 4)).toInt32
  · rw [if_neg (not_not_intro h5)]
    by_cases q0 : nI (mB d p) = 76
    · rw [if_neg (not_not_intro q0)]
      by_cases q1 : nI (mB d (p + 1)) = 79
      · rw [if_neg (not_not_intro q1)]
        by_cases q2 : nI (mB d (p + 2)) = 65
        · rw [if_neg (not_not_intro q2)]
          by_cases q3 : nI (mB d (p + 3)) = 68
          · rw [if_pos q3]
            by_cases h6 : loN (mB d) (p + 4) 4 < S
            · rw [if_pos ((lgn _ _).mpr ((pk_lLT (by omega) (by omega)).mpr h6))]
              exact ⟨0, _, rfl, Or.inl ⟨rfl, ⟨h5, ⟨q0, q1, q2, q3⟩, h6⟩, rfl⟩⟩
            · rw [if_neg (fun q => h6 ((pk_lLT (by omega) (by omega)).mp ((lgn _ _).mp q)))]
              exact ⟨9, fnd, rfl, Or.inr ⟨rfl, fun q => h6 q.2.2, rfl⟩⟩
          · rw [if_neg q3]; exact ⟨9, fnd, rfl, Or.inr ⟨rfl, fun q => q3 q.2.1.2.2.2, rfl⟩⟩
        · rw [if_pos q2]; exact ⟨9, fnd, rfl, Or.inr ⟨rfl, fun q => q2 q.2.1.2.2.1, rfl⟩⟩
      · rw [if_pos q1]; exact ⟨9, fnd, rfl, Or.inr ⟨rfl, fun q => q1 q.2.1.2.1, rfl⟩⟩
    · rw [if_pos q0]; exact ⟨9, fnd, rfl, Or.inr ⟨rfl, fun q => q0 q.2.1.1, rfl⟩⟩
  · rw [if_pos h5]; exact ⟨9, fnd, rfl, Or.inr ⟨rfl, fun q => h5 q.1, rfl⟩⟩
theorem pages_loop {S N R : Nat} {d : Nat → Int32} (hS : 100 ≤ S ∧ S ≤ 600) (hN : 400000 ≤ N) (hR20 : R ≤ 20) (fnd : Int32) : ∀ (r k M : Nat), k + r = R → r < M → (runsOk S (mB d) r k ∧ lp_ (fun _ _ => none) (f_Model_byLoader_L25 N (nI R) d fnd (nI S)) M (nI k) (lN (tot_ (mB d) k 0)) = f_Model_byLoader_L25 N (nI R) d fnd (nI S) (fun _ _ => none) (nI R) (lN (tot_ (mB d) R 0))) ∨ (¬ runsOk S (mB d) r k ∧ lp_ (fun _ _ => none) (f_Model_byLoader_L25 N (nI R) d fnd (nI S)) M (nI k) (lN (tot_ (mB d) k 0)) = some (9, fnd)) := by
  intro r
  induction r with
  | zero =>
    intro k M' hk hM
    obtain ⟨M, rfl⟩ : ∃ M, M' = M + 1 := ⟨M' - 1, by omega⟩
    have : k = R := by omega
    subst this
    left
    refine ⟨fun j h1 h2 => absurd h2 (by omega), ?_⟩
    rw [lp_s, f_Model_byLoader_L25, f_Model_byLoader_L25, if_pos (nI_le (Nat.le_refl _) (by omega)), if_pos (nI_le (Nat.le_refl _) (by omega))]
  | succ r ih =>
    intro k M' hk hM
    obtain ⟨M, rfl⟩ : ∃ M, M' = M + 1 := ⟨M' - 1, by omega⟩
    have hct := ct_lt (mB_lt d) k
    have hfr := fr_lt (mB_lt d) k
    have ht := tot_s (mB d) k 0
    rw [Nat.zero_add] at ht
    have hih := ih (k + 1) M (by omega) (by omega)
    rw [ht] at hih
    rw [lp_s, f_Model_byLoader_L25, if_neg (nI_ge (by omega) (by omega))]
    dsimp only [lt_]
    rw [show (6 : Int32) * nI k = nI (6 * k) from pk_mul 6 k, show (65 : Int32) + nI (6 * k) = nI (65 + 6 * k) from nI_add 65 _, show (69 : Int32) + nI (6 * k) = nI (69 + 6 * k) from nI_add 69 _, ml 4 (k := 4) rfl (by omega) (by decide) (by omega), bd_e, ml 2 (k := 2) rfl (by omega) (by decide) (by omega), bd_e]
    have ec : loN (mB d) (69 + 6 * k) 2 = ct_ (mB d) k := rfl
    have ef : loN (mB d) (65 + 6 * k) 4 = fr_ (mB d) k := rfl
    rw [ec, ef, lN_add, lN_add, nI_1, nI_l (show S < 2 ^ 31 by omega), show (0 : Int64) = lN 0 from rfl]
    by_cases h0 : ct_ (mB d) k = 0
    · rw [if_pos ((lgN (by omega) (by decide)).mpr h0)]
      exact Or.inr ⟨fun q => (q k (by omega) (by omega)).1 h0, rfl⟩
    · rw [if_neg (fun q => h0 ((lgN (by omega) (by decide)).mp q))]
      by_cases h1 : fr_ (mB d) k + ct_ (mB d) k ≤ S
      · rw [if_pos ((lgl _ _).mpr ((pk_lLE (by omega) (by omega)).mpr h1))]
        rcases hih with ⟨q, e⟩ | ⟨q, e⟩
        · refine Or.inl ⟨fun j h1' h2' => ?_, e⟩
          by_cases hjk : j = k
          · rw [hjk]; exact ⟨h0, h1⟩
          · exact q j (by omega) (by omega)
        · exact Or.inr ⟨fun q3 => q (fun j h1' h2' => q3 j (by omega) (by omega)), e⟩
      · rw [if_neg (fun q => h1 ((pk_lLE (by omega) (by omega)).mp ((lgl _ _).mp q)))]
        exact Or.inr ⟨fun q => h1 (q k (by omega) (by omega)).2, rfl⟩
theorem tot_lt {b : Nat → Nat} (hb : ∀ p, b p < 256) : ∀ r k, tot_ b r k ≤ 65536 * r
  | 0, _ => Nat.le_refl _
  | r + 1, k => by
    have h1 := tot_lt hb r (k + 1)
    have h2 := ct_lt hb k
    show ct_ b k + tot_ b r (k + 1) ≤ _
    omega
theorem loader_model {S N : Nat} {d : Nat → Int32} (hS : 100 ≤ S ∧ S ≤ 600) (hN : 400000 ≤ N) (fnd : Int32) : ∃ r f : Int32, f_Model_byLoader N d fnd (nI S) = some (r, f) ∧ ((r = 0 ∧ ldOk S (mB d) ∧ f = nI (loN (mB d) (lds (mB d) + 4) 4)) ∨ (r = 9 ∧ ¬ ldOk S (mB d) ∧ f = fnd)) := by
  unfold f_Model_byLoader
  rw [show (64 : Int32) = nI 64 from rfl, mget_in (by decide), bd_e]
  have hRl := mB_lt d 64
  unfold ldOk
  generalize hRe : mB d 64 = R at hRl ⊢
  have ez : ldz (mB d) = loN (mB d) (65 + 6 * R) 4 := by unfold ldz; rw [hRe]
  have es : lds (mB d) = 512 * secAt (mB d) R 0 0 := by unfold lds; rw [hRe]
  rw [ez, es]
  by_cases h0 : R = 0
  · rw [if_pos (show nI R = 0 by rw [h0]; rfl)]
    exact ⟨9, fnd, rfl, Or.inr ⟨rfl, fun q => by have := q.1.1; omega, rfl⟩⟩
  · rw [if_neg (nI_ne0 (by omega) (by omega))]
    by_cases h1 : R ≤ 20
    · rw [if_pos (show nI R ≤ 20 from nI_le (a := R) (b := 20) h1 (by decide))]
      have hp := pages_loop (d := d) hS hN h1 fnd R 0 N (by omega) (by omega)
      have hp0 : lp_ (fun _ _ => none) (f_Model_byLoader_L25 N (nI R) d fnd (nI S)) N 0 0 = lp_ (fun _ _ => none) (f_Model_byLoader_L25 N (nI R) d fnd (nI S)) N (nI 0) (lN (tot_ (mB d) 0 0)) := rfl
      rw [hp0]
      have htl := tot_lt (mB_lt d) R 0
      rcases hp with ⟨ho, e⟩ | ⟨ho, e⟩
      · rw [e, f_Model_byLoader_L25, if_pos (nI_le (Nat.le_refl _) (by omega))]
        dsimp only [lt_]
        rw [show (6 : Int32) * nI R = nI (6 * R) from pk_mul 6 R, show (65 : Int32) + nI (6 * R) = nI (65 + 6 * R) from nI_add 65 _, ml 4 (k := 4) rfl (by omega) (by decide) (by omega), bd_e]
        have hz4 := loN4 (mB_lt d) (65 + 6 * R)
        generalize loN (mB d) (65 + 6 * R) 4 = z at hz4 ⊢
        rw [show (8 : Int64) = lN 8 from rfl, show (9000 : Int64) = lN 9000 from rfl, show (512 : Int64) = lN 512 from rfl, lN_mul]
        by_cases h2 : z < 8
        · rw [if_pos ((lgn _ _).mpr ((pk_lLT (by omega) (by omega)).mpr h2))]
          exact ⟨9, fnd, rfl, Or.inr ⟨rfl, fun q => by have := q.1.2.2.1; omega, rfl⟩⟩
        · rw [if_neg (fun q => h2 ((pk_lLT (by omega) (by omega)).mp ((lgn _ _).mp q)))]
          by_cases h3 : 9000 < z
          · rw [if_pos ((lgp _ _).mpr ((pk_lLT (by omega) (by omega)).mpr h3))]
            exact ⟨9, fnd, rfl, Or.inr ⟨rfl, fun q => by have := q.1.2.2.2; omega, rfl⟩⟩
          · rw [if_neg (fun q => h3 ((pk_lLT (by omega) (by omega)).mp ((lgp _ _).mp q)))]
            by_cases h4 : z ≤ 512 * tot_ (mB d) R 0
            · rw [if_pos (Int32.not_lt.mp (fun q => by
                have := (pk_lLT (by omega) (by omega)).mp ((lgn _ _).mp q)
                omega))]
              obtain ⟨r, f, e2, hh⟩ := mend_eq hS hN hRe h1 (show 8 ≤ z by omega) (show z ≤ 9000 by omega) ho (by omega) fnd
              refine ⟨r, f, e2, ?_⟩
              rcases hh with ⟨a, q, q2⟩ | ⟨a, q, q2⟩
              · exact Or.inl ⟨a, ⟨⟨by omega, h1, by omega, by omega⟩, ⟨ho, by omega⟩, q⟩, q2⟩
              · exact Or.inr ⟨a, fun q3 => q q3.2.2, q2⟩
            · rw [if_neg (Int32.not_le.mpr ((lgn _ _).mpr ((pk_lLT (by omega) (by omega)).mpr (show 512 * tot_ (mB d) R 0 < z by omega))))]
              exact ⟨9, fnd, rfl, Or.inr ⟨rfl, fun q => h4 (by have := q.2.1.2; omega), rfl⟩⟩
      · rw [e]
        exact ⟨9, fnd, rfl, Or.inr ⟨rfl, fun q => ho q.2.1.1, rfl⟩⟩
    · rw [if_neg (show ¬ nI R ≤ 20 from nI_ge (a := 20) (b := R) (by omega) (by omega))]
      exact ⟨9, fnd, rfl, Or.inr ⟨rfl, fun q => h1 q.1.2.1, rfl⟩⟩
theorem fc_congr {S : Nat} (hS : 100 ≤ S) {b b' : Nat → Nat} (hD : ∀ q, q < 512 * S → b q = b' q) {k : Nat} (hk : k ≤ 20) : fr_ b k = fr_ b' k ∧ ct_ b k = ct_ b' k :=
  ⟨loN_congr 4 _ (fun q h1 h2 => hD q (by omega)), loN_congr 2 _ (fun q h1 h2 => hD q (by omega))⟩
theorem sec_congr {S : Nat} (hS : 100 ≤ S) {b b' : Nat → Nat} (hD : ∀ q, q < 512 * S → b q = b' q) : ∀ (r k i : Nat), k + r ≤ 21 → secAt b r k i = secAt b' r k i
  | 0, _, _, _ => rfl
  | r + 1, k, i, h => by
    obtain ⟨e1, e2⟩ := fc_congr hS hD (show k ≤ 20 by omega)
    show (if i < ct_ b k then fr_ b k + i else secAt b r (k + 1) (i - ct_ b k)) = (if i < ct_ b' k then fr_ b' k + i else secAt b' r (k + 1) (i - ct_ b' k))
    rw [e1, e2, sec_congr hS hD r (k + 1) _ (by omega)]
theorem tot_congr {S : Nat} (hS : 100 ≤ S) {b b' : Nat → Nat} (hD : ∀ q, q < 512 * S → b q = b' q) : ∀ (r k : Nat), k + r ≤ 21 → tot_ b r k = tot_ b' r k
  | 0, _, _ => rfl
  | r + 1, k, h => by
    show ct_ b k + tot_ b r (k + 1) = ct_ b' k + tot_ b' r (k + 1)
    rw [(fc_congr hS hD (show k ≤ 20 by omega)).2, tot_congr hS hD r (k + 1) (by omega)]
theorem ld_congr {S : Nat} (hS : 100 ≤ S ∧ S ≤ 600) {b b' : Nat → Nat} (hD : ∀ q, q < 512 * S → b q = b' q) (h : ldOk S b) : ldOk S b' ∧ loN b (lds b + 4) 4 = loN b' (lds b' + 4) 4 := by
  obtain ⟨⟨a1, a2, a3, a4⟩, ⟨ho, ht⟩, hs, hr, hat⟩ := h
  have e64 : b 64 = b' 64 := hD 64 (by omega)
  have ez : ldz b = ldz b' := by
    unfold ldz
    rw [← e64]
    exact loN_congr 4 _ (fun q h1 h2 => hD q (by omega))
  have hs0 := sec_lt (b 64) 0 0 ho (by omega)
  have es : lds b = lds b' := by
    unfold lds
    rw [← e64, sec_congr hS.1 hD _ _ _ (by omega)]
  have hl : lds b + 512 ≤ 512 * S := by unfold lds; omega
  have hat2 : loN b (lds b + 4) 4 = loN b' (lds b' + 4) 4 := by
    rw [← es]
    exact loN_congr 4 _ (fun q h1 h2 => hD q (by omega))
  refine ⟨⟨⟨by omega, by omega, by omega, by omega⟩, ⟨fun j h1 h2 => ?_, ?_⟩, ?_, fun j hj => ?_, by omega⟩, hat2⟩
  · obtain ⟨c1, c2⟩ := fc_congr hS.1 hD (k := j) (by omega)
    rw [← c1, ← c2]
    exact ho j (by omega) (by omega)
  · rw [← e64, ← ez, ← tot_congr hS.1 hD _ _ (by omega)]
    exact ht
  · rw [← e64, ← ez]
    rw [show loN b' (69 + 6 * b 64) 4 = loN b (69 + 6 * b 64) 4 from (loN_congr 4 _ (fun q h1 h2 => hD q (by omega))).symm, ← hs]
    refine congrArg (fun x : Int32 => x ^^^ (-1)) (cR_congr _ (fun j hj => ?_)).symm
    unfold lb_
    have hlt := sec_lt (b 64) 0 ((0 + j) / 512) ho (by omega)
    rw [← sec_congr hS.1 hD _ _ _ (by omega)]
    exact hD _ (by omega)
  · rw [← es, ← hD _ (by omega)]
    exact hr j hj
/-- booting by the loader: both sides give the same reason and start -/
theorem loader_eq {S N : Nat} (hS : 100 ≤ S ∧ S ≤ 600) (hN : 400000 ≤ N) {w : Nat → Int64} {d : Nat → Int32} {T : Nat → Int32} (hT : isT T) (hD : Alike_ S w d) (u : Int32) (ls : Nat → Int32) : ∃ (r b u' : Int32) (ls' : Nat → Int32), f_Firmware_searchLoader N (nI (512 * S)) (64 * S) w (-1) ls u (nI S) T = some (r, b, ls', u') ∧ f_Model_byLoader N d (-1) (nI S) = some (r, b) ∧ ((r = 0 ∧ ∃ f, f < S ∧ b = nI f) ∨ r = 9 ∧ b = -1) := by
  obtain ⟨r, b', u', ls', e1, h1⟩ := loader_class (w := w) hT hS hN (-1) u ls
  obtain ⟨r2, f, e2, h2⟩ := loader_model (d := d) hS hN (-1)
  rcases h1 with ⟨rfl, o1, rfl⟩ | ⟨rfl, o1, rfl⟩ <;> rcases h2 with ⟨rfl, o2, rfl⟩ | ⟨rfl, o2, rfl⟩
  · obtain ⟨-, ee⟩ := ld_congr hS hD o1
    rw [← ee] at e2
    exact ⟨_, _, _, _, e1, e2, Or.inl ⟨rfl, _, o1.2.2.2.2, rfl⟩⟩
  · exact absurd (ld_congr hS hD o1).1 o2
  · exact absurd (ld_congr hS (fun q hq => (hD q hq).symm) o2).1 o1
  · exact ⟨_, _, _, _, e1, e2, Or.inr ⟨rfl, rfl⟩⟩
/-! pure: entries of the cluster table -/
theorem or8 {a c : Nat} (ha : a < 256) (hc : c < 256) : nI a ||| nI c <<< ((8 : Int32) &&& 31) = nI (a + 256 * c) := by
  have h1 : c * 2 ^ 8 ||| a = c * 2 ^ 8 + a := by rw [← Nat.shiftLeft_eq, Nat.shiftLeft_add_eq_or_of_lt (show a < 2 ^ 8 by omega)]
  apply Int32.toBitVec_inj.mp
  rw [Int32.toBitVec_or, Int32.toBitVec_shiftLeft]
  apply BitVec.eq_of_toNat_eq
  rw [show (((8 : Int32) &&& 31).toBitVec.smod 32) = 8#32 by decide, BitVec.toNat_or, BitVec.shiftLeft_eq', BitVec.toNat_shiftLeft, pk_tn (by omega), pk_tn (by omega), pk_tn (by omega), show (8#32).toNat = 8 from rfl, Nat.shiftLeft_eq, Nat.mod_eq_of_lt (by omega), Nat.or_comm, h1]
  omega
/-- the entry c of the cluster table behind the sector s -/
def enN (b : Nat → Nat) (s c : Nat) : Nat := if c % 2 = 0 then loN b (512 * (s + 1) + c * 3 / 2) 2 % 4096 else loN b (512 * (s + 1) + c * 3 / 2) 2 / 16
theorem loN2 {b : Nat → Nat} (hb : ∀ p, b p < 256) (p : Nat) : loN b p 2 < 65536 := Nat.lt_of_lt_of_le (loN_lt hb 2 p) (by decide)
theorem enN_lt {b : Nat → Nat} (hb : ∀ p, b p < 256) (s c : Nat) : enN b s c < 4096 := by
  unfold enN
  have := loN2 hb (512 * (s + 1) + c * 3 / 2)
  split <;> omega
theorem en_fin {v c : Nat} (hv : v < 65536) (hc : c < 2 ^ 20) : (if ¬ nI (c % 2) = 0 then some (nI v >>> ((4 : Int32) &&& 31)) else some (nI v &&& 4095)) = some (nI (if c % 2 = 0 then v % 4096 else v / 16)) := by
  by_cases h : c % 2 = 0
  · rw [h, if_neg (by decide), if_pos rfl, pk_andN (by omega) 12 (by decide)]
  · have h' : c % 2 = 1 := by omega
    rw [h', if_pos (by decide), if_neg (by decide), pk_shrN (by omega) _ 4 (by decide)]
theorem cEn_eq {S s c N : Nat} {w : Nat → Int64} (hS : 100 ≤ S ∧ S ≤ 600) (hN : 400000 ≤ N) (hp : 512 * (s + 1) + c * 3 / 2 + 2 ≤ 512 * S) (hc : c < 2 ^ 20) : f_Firmware_clusterEntry N (nI s) (nI c) (nI (512 * S)) (64 * S) w = some (nI (enN (gB w) s c)) := by
  unfold f_Firmware_clusterEntry
  dsimp only [lt_]
  rw [nI_1, show nI (s + 1) * 512 = nI ((s + 1) * 512) from pk_mul _ 512, show nI c * 3 = nI (c * 3) from pk_mul _ 3, show nI (c * 3) / 2 = nI (c * 3 / 2) from pk_div (d := 2) (by omega) (by decide) (by decide), nI_add, show (s + 1) * 512 = 512 * (s + 1) by omega, cl 2 (k := 2) rfl (by omega) (by omega) (by omega) (by decide) (by omega), bd_e, lN_i, show nI c - nI c / 2 * 2 = nI (c % 2) from pk_rem (d := 2) (by omega) (by decide) (by decide)]
  exact en_fin (loN2 (gB_lt w) _) hc
theorem mEn_eq {s c : Nat} {d : Nat → Int32} (hp : 512 * (s + 1) + c * 3 / 2 + 2 ≤ 307200) (hc : c < 2 ^ 20) : f_Model_entryAt (nI (s + 1)) (nI c) d = some (nI (enN (mB d) s c)) := by
  unfold f_Model_entryAt
  dsimp only [lt_]
  rw [show (512 : Int32) * nI (s + 1) = nI (512 * (s + 1)) from pk_mul 512 _, show nI c * 3 = nI (c * 3) from pk_mul _ 3, show nI (c * 3) / 2 = nI (c * 3 / 2) from pk_div (d := 2) (by omega) (by decide) (by decide), nI_add, mget_in (by omega), bd_e, nI_1, mget_in (by omega), bd_e, or8 (mB_lt d _) (mB_lt d _), show nI c - nI c / 2 * 2 = nI (c % 2) from pk_rem (d := 2) (by omega) (by decide) (by decide)]
  have e : mB d (512 * (s + 1) + c * 3 / 2) + 256 * mB d (512 * (s + 1) + c * 3 / 2 + 1) = loN (mB d) (512 * (s + 1) + c * 3 / 2) 2 := by
    show _ = mB d _ + 256 * (mB d _ + 256 * 0)
    omega
  rw [e]
  exact en_fin (loN2 (mB_lt d) _) hc
theorem en_congr {S s c : Nat} {b b' : Nat → Nat} (h : ∀ p, p < 512 * S → b p = b' p) (hp : 512 * (s + 1) + c * 3 / 2 + 2 ≤ 512 * S) : enN b s c = enN b' s c := by
  unfold enN
  rw [loN_congr 2 _ (fun q h1 h2 => h q (by omega))]
/-! pure: the kernel's entry in the directory -/
def kerOk (b : Nat → Nat) (p : Nat) : Prop := rowIs b p (sByt 10) 11 ∧ b (p + 11) = 32
theorem nE {x y : Nat} (hx : x < 256) (hy : y < 256) : nI x = nI y ↔ x = y := by
  constructor
  · intro h
    have h2 := congrArg (fun z : Int32 => z.toBitVec.toNat) h
    have h3 : (nI x).toBitVec.toNat = (nI y).toBitVec.toNat := h2
    rw [pk_tn (by omega), pk_tn (by omega)] at h3
    exact h3
  · intro h; rw [h]
theorem ksp {p N : Nat} {x : Int32} {k2 : Int32 → Option Int32} {d : Nat → Int32} (hp : p + 12 ≤ 307200) : ∀ (r i M : Nat), i + r = 11 → r < M → lp_ (fun _ _ => none) (f_Model_kernelEntry_L123 x k2 (nI p) d) M (nI i) 0 = k2 (x + 1) ∧ ((∀ j, i ≤ j → j < 11 → mB d (p + j) = 32) → lp_ (fun _ _ => none) (f_Model_kernelEntry_L123 x k2 (nI p) d) M (nI i) 1 = some (nI p)) ∧ ((∃ j, i ≤ j ∧ j < 11 ∧ mB d (p + j) ≠ 32) → lp_ (fun _ _ => none) (f_Model_kernelEntry_L123 x k2 (nI p) d) M (nI i) 1 = k2 (x + 1)) := by
  intro r
  induction r with
  | zero =>
    intro i M' hi hM
    obtain ⟨M, rfl⟩ : ∃ M, M' = M + 1 := ⟨M' - 1, by omega⟩
    have e : i = 11 := by omega
    subst e
    refine ⟨?_, fun _ => ?_, fun ⟨j, h1, h2, _⟩ => absurd h2 (by omega)⟩
    · rw [lp_s, f_Model_kernelEntry_L123, if_pos (show (11 : Int32) ≤ nI 11 by decide), if_pos rfl]
      rfl
    · rw [lp_s, f_Model_kernelEntry_L123, if_pos (show (11 : Int32) ≤ nI 11 by decide), if_neg (by decide)]
  | succ r ih =>
    intro i M' hi hM
    obtain ⟨M, rfl⟩ : ∃ M, M' = M + 1 := ⟨M' - 1, by omega⟩
    obtain ⟨g1, g2, g3⟩ := ih (i + 1) M (by omega) (by omega)
    have hlt : ¬ (11 : Int32) ≤ nI i := nI_ge (a := i) (b := 11) (by omega) (by decide)
    have hb := mB_lt d (p + i)
    refine ⟨?_, fun h => ?_, fun ⟨j, h1, h2, h3⟩ => ?_⟩
    · rw [lp_s, f_Model_kernelEntry_L123, if_neg hlt]
      dsimp only [lt_]
      rw [if_pos rfl, nI_1]
      exact g1
    · rw [lp_s, f_Model_kernelEntry_L123, if_neg hlt]
      dsimp only [lt_]
      rw [if_neg (show ¬ (1 : Int32) = 0 by decide), nI_add, mget_in (by omega), bd_e, h i (by omega) (by omega), if_neg (show ¬ ¬ nI 32 = (32 : Int32) by decide), nI_1]
      exact g2 (fun j a c => h j (by omega) c)
    · rw [lp_s, f_Model_kernelEntry_L123, if_neg hlt]
      dsimp only [lt_]
      rw [if_neg (show ¬ (1 : Int32) = 0 by decide), nI_add, mget_in (by omega), bd_e, nI_1]
      by_cases hc : mB d (p + i) = 32
      · rw [hc, if_neg (show ¬ ¬ nI 32 = (32 : Int32) by decide)]
        refine g3 ⟨j, ?_, h2, h3⟩
        rcases Nat.eq_or_lt_of_le h1 with e | e
        · subst e; exact absurd hc h3
        · omega
      · rw [if_pos (show ¬ nI (mB d (p + i)) = (32 : Int32) from fun h => hc ((nE hb (by decide)).mp h))]
        exact g1
theorem kerRow {b : Nat → Nat} {p : Nat} (hb : ∀ q, b q < 256) : rowIs b p (sByt 10) 11 ↔ b p = 75 ∧ b (p + 1) = 69 ∧ b (p + 2) = 82 ∧ b (p + 3) = 78 ∧ b (p + 4) = 69 ∧ b (p + 5) = 76 ∧ ∀ j, 6 ≤ j → j < 11 → b (p + j) = 32 := by
  constructor
  · intro h
    refine ⟨(nE (hb _) (by decide)).mp (h 0 (by decide)), (nE (hb _) (by decide)).mp (h 1 (by decide)), (nE (hb _) (by decide)).mp (h 2 (by decide)), (nE (hb _) (by decide)).mp (h 3 (by decide)), (nE (hb _) (by decide)).mp (h 4 (by decide)), (nE (hb _) (by decide)).mp (h 5 (by decide)), fun j h1 h2 => ?_⟩
    refine (nE (hb _) (by decide)).mp ((h j h2).trans ?_)
    have : j = 6 ∨ j = 7 ∨ j = 8 ∨ j = 9 ∨ j = 10 := by omega
    rcases this with e | e | e | e | e <;> subst e <;> rfl
  · rintro ⟨h0, h1, h2, h3, h4, h5, h6⟩ j hj
    by_cases h : 6 ≤ j
    · rw [h6 j h hj]
      have : j = 6 ∨ j = 7 ∨ j = 8 ∨ j = 9 ∨ j = 10 := by omega
      rcases this with e | e | e | e | e <;> subst e <;> rfl
    · have : j = 0 ∨ j = 1 ∨ j = 2 ∨ j = 3 ∨ j = 4 ∨ j = 5 := by omega
      rcases this with e | e | e | e | e | e <;> subst e
      · exact congrArg nI h0
      · exact congrArg nI h1
      · exact congrArg nI h2
      · exact congrArg nI h3
      · exact congrArg nI h4
      · exact congrArg nI h5
set_option maxHeartbeats 1000000 in
theorem kerM {s i N p : Nat} {k2 : Int32 → Option Int32} {d : Nat → Int32} (hN : 400000 ≤ N) (hi : i < 32) (hpe : p = 512 * s + 32 * i) (hp : p + 12 ≤ 307200) : (mB d p = 0 → f_Model_kernelEntry_L2 N (nI s) d k2 (nI i) = some (-1)) ∧ (mB d p ≠ 0 → kerOk (mB d) p → f_Model_kernelEntry_L2 N (nI s) d k2 (nI i) = some (nI p)) ∧ (mB d p ≠ 0 → ¬ kerOk (mB d) p → f_Model_kernelEntry_L2 N (nI s) d k2 (nI i) = k2 (nI (i + 1))) := by
  have hm : ∀ q c : Nat, c < 256 → (nI (mB d q) = nI c ↔ mB d q = c) := fun q c hc => nE (mB_lt d q) hc
  have hlt : ¬ (32 : Int32) ≤ nI i := nI_ge (a := i) (b := 32) (by omega) (by decide)
  have e1 : (512 : Int32) * nI s = nI (512 * s) := pk_mul 512 s
  have e2 : (32 : Int32) * nI i = nI (32 * i) := pk_mul 32 i
  obtain ⟨g1, g2, g3⟩ := ksp (x := nI i) (k2 := k2) (N := N) hp 5 6 N (by omega) (by omega)
  have g1' : lp_ (fun _ _ => none) (f_Model_kernelEntry_L123 (nI i) k2 (nI p) d) N 6 0 = k2 (nI (i + 1)) := by rw [← nI_1]; exact g1
  refine ⟨fun h => ?_, fun h hk => ?_, fun h hk => ?_⟩
  · rw [f_Model_kernelEntry_L2, if_neg hlt]
    dsimp only [lt_]
    rw [e1, e2, nI_add, ← hpe, mget_in (by omega), bd_e, h, if_neg (show ¬ ¬ nI 0 = 0 by decide)]
  · obtain ⟨hr, h11⟩ := hk
    obtain ⟨h0, h1, h2, h3, h4, h5, h6⟩ := (kerRow (mB_lt d)).mp hr
    rw [f_Model_kernelEntry_L2, if_neg hlt]
    dsimp only [lt_]
    rw [e1, e2, nI_add, ← hpe, mget_in (by omega), bd_e, h0, if_pos (show ¬ nI 75 = 0 by decide), bd_e, if_neg (show ¬ ¬ nI 75 = (75 : Int32) by decide), nI_1, mget_in (by omega), bd_e, h1, if_neg (show ¬ ¬ nI 69 = (69 : Int32) by decide)]
    rw [show nI p + 2 = nI (p + 2) from nI_add p 2, mget_in (by omega), bd_e, h2, if_neg (show ¬ ¬ nI 82 = (82 : Int32) by decide), show nI p + 3 = nI (p + 3) from nI_add p 3, mget_in (by omega), bd_e, h3, if_neg (show ¬ ¬ nI 78 = (78 : Int32) by decide), show nI p + 4 = nI (p + 4) from nI_add p 4, mget_in (by omega), bd_e, h4, if_neg (show ¬ ¬ nI 69 = (69 : Int32) by decide), show nI p + 5 = nI (p + 5) from nI_add p 5, mget_in (by omega), bd_e, h5, if_neg (show ¬ ¬ nI 76 = (76 : Int32) by decide), show nI p + 11 = nI (p + 11) from nI_add p 11, mget_in (by omega), bd_e, h11, if_neg (show ¬ ¬ nI 32 = (32 : Int32) by decide)]
    exact g2 h6
  · rw [f_Model_kernelEntry_L2, if_neg hlt]
    dsimp only [lt_]
    rw [e1, e2, nI_add, ← hpe, mget_in (by omega), bd_e, if_pos (show ¬ nI (mB d p) = 0 from fun q => h ((hm p 0 (by decide)).mp q)), bd_e, g1']
    by_cases h0 : mB d p = 75
    case neg => rw [if_pos (show ¬ nI (mB d p) = (75 : Int32) from fun q => h0 ((hm p 75 (by decide)).mp q))]
    rw [h0, if_neg (show ¬ ¬ nI 75 = (75 : Int32) by decide), nI_1, mget_in (by omega), bd_e]
    by_cases h1 : mB d (p + 1) = 69
    case neg => rw [if_pos (show ¬ nI (mB d (p + 1)) = (69 : Int32) from fun q => h1 ((hm _ 69 (by decide)).mp q))]
    rw [h1, if_neg (show ¬ ¬ nI 69 = (69 : Int32) by decide), show nI p + 2 = nI (p + 2) from nI_add p 2, mget_in (by omega), bd_e]
    by_cases h2 : mB d (p + 2) = 82
    case neg => rw [if_pos (show ¬ nI (mB d (p + 2)) = (82 : Int32) from fun q => h2 ((hm _ 82 (by decide)).mp q))]
    rw [h2, if_neg (show ¬ ¬ nI 82 = (82 : Int32) by decide), show nI p + 3 = nI (p + 3) from nI_add p 3, mget_in (by omega), bd_e]
    by_cases h3 : mB d (p + 3) = 78
    case neg => rw [if_pos (show ¬ nI (mB d (p + 3)) = (78 : Int32) from fun q => h3 ((hm _ 78 (by decide)).mp q))]
    rw [h3, if_neg (show ¬ ¬ nI 78 = (78 : Int32) by decide), show nI p + 4 = nI (p + 4) from nI_add p 4, mget_in (by omega), bd_e]
    by_cases h4 : mB d (p + 4) = 69
    case neg => rw [if_pos (show ¬ nI (mB d (p + 4)) = (69 : Int32) from fun q => h4 ((hm _ 69 (by decide)).mp q))]
    rw [h4, if_neg (show ¬ ¬ nI 69 = (69 : Int32) by decide), show nI p + 5 = nI (p + 5) from nI_add p 5, mget_in (by omega), bd_e]
    by_cases h5 : mB d (p + 5) = 76
    case neg => rw [if_pos (show ¬ nI (mB d (p + 5)) = (76 : Int32) from fun q => h5 ((hm _ 76 (by decide)).mp q))]
    rw [h5, if_neg (show ¬ ¬ nI 76 = (76 : Int32) by decide), show nI p + 11 = nI (p + 11) from nI_add p 11, mget_in (by omega), bd_e]
    by_cases h11 : mB d (p + 11) = 32
    case neg => rw [if_pos (show ¬ nI (mB d (p + 11)) = (32 : Int32) from fun q => h11 ((hm _ 32 (by decide)).mp q))]
    rw [h11, if_neg (show ¬ ¬ nI 32 = (32 : Int32) by decide)]
    by_cases h6 : ∃ j, 6 ≤ j ∧ j < 11 ∧ mB d (p + j) ≠ 32
    · rw [← nI_1]; exact g3 h6
    · refine absurd ⟨(kerRow (mB_lt d)).mpr ⟨h0, h1, h2, h3, h4, h5, fun j a c => ?_⟩, h11⟩ hk
      exact Classical.byContradiction (fun q => h6 ⟨j, a, c, q⟩)
theorem kerC {S D i N p : Nat} {k20 : Int32 → Option Int32} {w : Nat → Int64} (hS : 100 ≤ S ∧ S ≤ 600) (hN : 400000 ≤ N) (hi : i < 32) (hpe : p = D + 32 * i) (hp : p + 12 ≤ 512 * S) : (gB w p = 0 → f_Firmware_kernelEntry_L20 N (nI D) (nI (512 * S)) (64 * S) w k20 (nI i) = some (-1)) ∧ (gB w p ≠ 0 → kerOk (gB w) p → f_Firmware_kernelEntry_L20 N (nI D) (nI (512 * S)) (64 * S) w k20 (nI i) = some (nI p)) ∧ (gB w p ≠ 0 → ¬ kerOk (gB w) p → f_Firmware_kernelEntry_L20 N (nI D) (nI (512 * S)) (64 * S) w k20 (nI i) = k20 (nI (i + 1))) := by
  have hm : ∀ q c : Nat, c < 256 → (nI (gB w q) = nI c ↔ gB w q = c) := fun q c hc => nE (gB_lt w q) hc
  have hlt : ¬ (32 : Int32) ≤ nI i := nI_ge (a := i) (b := 32) (by omega) (by decide)
  have e2 : nI i * (32 : Int32) = nI (32 * i) := by rw [show nI i * (32 : Int32) = nI (i * 32) from pk_mul i 32, Nat.mul_comm]
  obtain ⟨z, hz, hh⟩ := text_eq (w := w) (f := sByt 10) (k := 11) (p := p) (len := 512 * S) (n := 64 * S) (N := N) (fun j hj => sByt_tx 10 (by decide) j hj) (by omega) (by omega) (by omega) (by omega)
  rw [f_Firmware_kernelEntry_L20, if_neg hlt]
  dsimp only [lt_]
  rw [e2, nI_add, ← hpe, get_in (by omega) (by omega) (by omega), bd_e, hz, bd_e, nI_1]
  refine ⟨fun h => ?_, fun h hk => ?_, fun h hk => ?_⟩
  · rw [h, if_neg (show ¬ ¬ nI 0 = 0 by decide)]
  · rw [if_pos (show ¬ nI (gB w p) = 0 from fun q => h ((hm p 0 (by decide)).mp q))]
    rcases hh with ⟨e, _⟩ | ⟨e, hr⟩
    · rw [e, if_neg (show ¬ (1 : Int32) = 0 by decide), show nI p + 11 = nI (p + 11) from nI_add p 11, get_in (by omega) (by omega) (by omega), bd_e, hk.2, if_neg (show ¬ ¬ nI 32 = (32 : Int32) by decide)]
    · exact absurd hk.1 hr
  · rw [if_pos (show ¬ nI (gB w p) = 0 from fun q => h ((hm p 0 (by decide)).mp q))]
    rcases hh with ⟨e, hr⟩ | ⟨e, hr⟩
    · rw [e, if_neg (show ¬ (1 : Int32) = 0 by decide), show nI p + 11 = nI (p + 11) from nI_add p 11, get_in (by omega) (by omega) (by omega), bd_e, if_pos (show ¬ nI (gB w (p + 11)) = (32 : Int32) from fun q => hk ⟨hr, (hm _ 32 (by decide)).mp q⟩)]
    · rw [e, if_pos rfl]
theorem ker_congr {S p : Nat} {b b' : Nat → Nat} (h : ∀ q, q < 512 * S → b q = b' q) (hp : p + 12 ≤ 512 * S) : kerOk b p ↔ kerOk b' p := by
  unfold kerOk
  rw [h (p + 11) (by omega)]
  constructor
  · rintro ⟨a, c⟩
    exact ⟨fun j hj => by rw [← h (p + j) (by omega)]; exact a j hj, c⟩
  · rintro ⟨a, c⟩
    exact ⟨fun j hj => by rw [h (p + j) (by omega)]; exact a j hj, c⟩
theorem ker_loop {S s N : Nat} {w : Nat → Int64} {d : Nat → Int32} (hS : 100 ≤ S ∧ S ≤ 600) (hN : 400000 ≤ N) (hD : Alike_ S w d) (hp : 512 * s + 1024 ≤ 512 * S) : ∀ (r i M : Nat), i + r = 32 → r < M → ∃ z : Int32, lp_ (fun _ => none) (f_Firmware_kernelEntry_L20 N (nI (512 * s)) (nI (512 * S)) (64 * S) w) M (nI i) = some z ∧ lp_ (fun _ => none) (f_Model_kernelEntry_L2 N (nI s) d) M (nI i) = some z ∧ (z = -1 ∨ ∃ j, j < 32 ∧ z = nI (512 * s + 32 * j)) := by
  intro r
  induction r with
  | zero =>
    intro i M' hi hM
    obtain ⟨M, rfl⟩ : ∃ M, M' = M + 1 := ⟨M' - 1, by omega⟩
    have e : i = 32 := by omega
    subst e
    rw [lp_s, lp_s, f_Model_kernelEntry_L2, f_Firmware_kernelEntry_L20, if_pos (show (32 : Int32) ≤ nI 32 by decide), if_pos (show (32 : Int32) ≤ nI 32 by decide)]
    exact ⟨-1, rfl, rfl, Or.inl rfl⟩
  | succ r ih =>
    intro i M' hi hM
    obtain ⟨M, rfl⟩ : ∃ M, M' = M + 1 := ⟨M' - 1, by omega⟩
    rw [lp_s, lp_s]
    obtain ⟨c1, c2, c3⟩ := kerC (D := 512 * s) (p := 512 * s + 32 * i) (k20 := lp_ (fun _ => none) (f_Firmware_kernelEntry_L20 N (nI (512 * s)) (nI (512 * S)) (64 * S) w) M) (w := w) hS hN (show i < 32 by omega) rfl (by omega)
    obtain ⟨m1, m2, m3⟩ := kerM (s := s) (p := 512 * s + 32 * i) (k2 := lp_ (fun _ => none) (f_Model_kernelEntry_L2 N (nI s) d) M) (d := d) hN (show i < 32 by omega) rfl (by omega)
    have hd := hD (512 * s + 32 * i) (by omega)
    by_cases h0 : gB w (512 * s + 32 * i) = 0
    · rw [c1 h0, m1 (hd ▸ h0)]
      exact ⟨-1, rfl, rfl, Or.inl rfl⟩
    · have h0' : mB d (512 * s + 32 * i) ≠ 0 := hd ▸ h0
      have hk := ker_congr (p := 512 * s + 32 * i) hD (by omega)
      by_cases h1 : kerOk (gB w) (512 * s + 32 * i)
      · rw [c2 h0 h1, m2 h0' (hk.mp h1)]
        exact ⟨_, rfl, rfl, Or.inr ⟨i, by omega, rfl⟩⟩
      · rw [c3 h0 h1, m3 h0' (fun q => h1 (hk.mpr q))]
        exact ih (i + 1) M (by omega) (by omega)
theorem kernel_eq {S s t N : Nat} {w : Nat → Int64} {d : Nat → Int32} (hS : 100 ≤ S ∧ S ≤ 600) (hN : 400000 ≤ N) (hD : Alike_ S w d) (hp : 512 * (s + 1 + 2 * t) + 1024 ≤ 512 * S) : ∃ z : Int32, f_Firmware_kernelEntry N (nI s) (nI t) (nI (512 * S)) (64 * S) w = some z ∧ f_Model_kernelEntry N (nI (s + 1 + 2 * t)) d = some z ∧ (z = -1 ∨ ∃ j, j < 32 ∧ z = nI (512 * (s + 1 + 2 * t) + 32 * j)) := by
  unfold f_Firmware_kernelEntry f_Model_kernelEntry
  dsimp only [lt_]
  rw [nI_1, show (2 : Int32) * nI t = nI (2 * t) from pk_mul 2 t, nI_add, show nI (s + 1 + 2 * t) * 512 = nI (512 * (s + 1 + 2 * t)) by rw [show nI (s + 1 + 2 * t) * 512 = nI ((s + 1 + 2 * t) * 512) from pk_mul _ 512, Nat.mul_comm]]
  exact ker_loop hS hN hD hp 32 0 N (by omega) (by omega)
/-! pure: the first sector of the boot partition -/
def vL (b : Nat → Nat) (s : Nat) : Nat := loN b (512 * s + 19) 2
def vT (b : Nat → Nat) (s : Nat) : Nat := loN b (512 * s + 22) 2
def volOk (S s : Nat) (b : Nat → Nat) : Prop := (nI (b (512 * s + 510)) = 85 ∧ nI (b (512 * s + 511)) = 170) ∧ loN b (512 * s + 11) 2 = 512 ∧ nI (b (512 * s + 13)) = 1 ∧ loN b (512 * s + 14) 2 = 1 ∧ nI (b (512 * s + 16)) = 2 ∧ loN b (512 * s + 17) 2 = 32 ∧ vT b s ≠ 0 ∧ 4 + 2 * vT b s ≤ vL b s ∧ ((vL b s - (3 + 2 * vT b s) + 2) * 3 + 1) / 2 ≤ 512 * vT b s ∧ s + vL b s ≤ S
theorem sub3 (L t : Nat) : nI L - 3 - nI t = nI L - nI (3 + t) := by
  rw [← nI_add 3 t, Int32.sub_eq_add_neg, Int32.sub_eq_add_neg, Int32.sub_eq_add_neg, Int32.neg_add, Int32.sub_eq_add_neg, Int32.add_assoc]
  rfl
theorem sub12 (x : Int32) : x - 1 - 2 = x - 3 := by
  rw [Int32.sub_eq_add_neg, Int32.sub_eq_add_neg, Int32.sub_eq_add_neg, Int32.add_assoc]
  rfl
theorem sub_lt1 {L t : Nat} (hL : L < 65536) (ht : t < 65536) : nI L - nI (3 + 2 * t) < 1 ↔ ¬ 4 + 2 * t ≤ L := by
  rw [Int32.lt_iff_toInt_lt, pk_sub_toInt (by omega) (by omega), show (1 : Int32).toInt = 1 from rfl]
  omega
theorem lgk {x k : Nat} (hx : x < 65536) (hk : k < 65536) : lg_cmp (lN x) (lN k) = 0 ↔ x = k := by
  rw [lgz]
  exact ⟨fun h => lN_inj (by omega) (by omega) h, fun h => by rw [h]⟩
set_option maxHeartbeats 1000000 in
theorem vol_class {S s N : Nat} {w : Nat → Int64} (hS : 100 ≤ S ∧ S ≤ 600) (hs : s < S) (hN : 400000 ≤ N) : ∃ z : Int32, f_Firmware_readVolumeSector N (nI s) (nI (512 * S)) (64 * S) w (nI S) = some (z, nI (vT (gB w) s), nI (vL (gB w) s) - nI (3 + 2 * vT (gB w) s)) ∧ (z = 1 ∧ volOk S s (gB w) ∨ z = 0 ∧ ¬ volOk S s (gB w)) := by
  have hL : vL (gB w) s < 65536 := loN2 (gB_lt w) _
  have hT : vT (gB w) s < 65536 := loN2 (gB_lt w) _
  obtain ⟨z, hz, hh⟩ := isBoot_eq (N := N) (w := w) hS hs (by omega)
  unfold f_Firmware_readVolumeSector f_Volume_clustersIn f_Volume_tableBytes
  dsimp only [lt_]
  rw [show nI s * 512 = nI (512 * s) from by rw [show (512 : Int32) = nI 512 from rfl, pk_mul, Nat.mul_comm]]
  rw [show nI (512 * s) + 19 = nI (512 * s + 19) from nI_add _ 19, show nI (512 * s) + 22 = nI (512 * s + 22) from nI_add _ 22, show nI (512 * s) + 11 = nI (512 * s + 11) from nI_add _ 11, show nI (512 * s) + 13 = nI (512 * s + 13) from nI_add _ 13, show nI (512 * s) + 14 = nI (512 * s + 14) from nI_add _ 14, show nI (512 * s) + 16 = nI (512 * s + 16) from nI_add _ 16, show nI (512 * s) + 17 = nI (512 * s + 17) from nI_add _ 17]
  rw [cl (p := 512 * s + 19) 2 (k := 2) rfl (by omega) (by omega) (by omega) (by decide) (by omega), bd_e, cl (p := 512 * s + 22) 2 (k := 2) rfl (by omega) (by omega) (by omega) (by decide) (by omega), bd_e, lN_i, lN_i, bd_e, hz, bd_e]
  rw [cl (p := 512 * s + 11) 2 (k := 2) rfl (by omega) (by omega) (by omega) (by decide) (by omega), bd_e, get_in (p := 512 * s + 13) (by omega) (by omega) (by omega), bd_e, cl (p := 512 * s + 14) 2 (k := 2) rfl (by omega) (by omega) (by omega) (by decide) (by omega), bd_e, get_in (p := 512 * s + 16) (by omega) (by omega) (by omega), bd_e, cl (p := 512 * s + 17) 2 (k := 2) rfl (by omega) (by omega) (by omega) (by decide) (by omega), bd_e, bd_e]
  change ∃ z' : Int32, _ ∧ _
  rw [sub12, show (2 : Int32) * nI (loN (gB w) (512 * s + 22) 2) = nI (2 * vT (gB w) s) from pk_mul 2 _, sub3, show loN (gB w) (512 * s + 19) 2 = vL (gB w) s from rfl, show loN (gB w) (512 * s + 22) 2 = vT (gB w) s from rfl, nI_add, show (512 : Int32) * nI (vT (gB w) s) = nI (512 * vT (gB w) s) from pk_mul 512 _]
  generalize eC : nI (vL (gB w) s) - nI (3 + 2 * vT (gB w) s) = C
  rcases hh with ⟨e, h0⟩ | ⟨e, h0⟩
  case inr => rw [e, if_pos rfl]; exact ⟨0, rfl, Or.inr ⟨rfl, fun q => h0 q.1⟩⟩
  rw [e, if_neg (show ¬ (1 : Int32) = 0 by decide)]
  by_cases h1 : loN (gB w) (512 * s + 11) 2 = 512
  case neg => rw [if_pos (show ¬ lg_cmp (lN (loN (gB w) (512 * s + 11) 2)) 512 = 0 from fun q => h1 ((lgk (k := 512) (loN2 (gB_lt w) _) (by decide)).mp q))]; exact ⟨0, rfl, Or.inr ⟨rfl, fun q => h1 q.2.1⟩⟩
  rw [if_neg (show ¬ ¬ lg_cmp (lN (loN (gB w) (512 * s + 11) 2)) 512 = 0 from fun q => q ((lgk (k := 512) (loN2 (gB_lt w) _) (by decide)).mpr h1))]
  by_cases h2 : nI (gB w (512 * s + 13)) = 1
  case neg => rw [if_pos h2]; exact ⟨0, rfl, Or.inr ⟨rfl, fun q => h2 q.2.2.1⟩⟩
  rw [if_neg (show ¬ ¬ nI (gB w (512 * s + 13)) = 1 from fun q => q h2)]
  by_cases h3 : loN (gB w) (512 * s + 14) 2 = 1
  case neg => rw [if_pos (show ¬ lg_cmp (lN (loN (gB w) (512 * s + 14) 2)) 1 = 0 from fun q => h3 ((lgk (k := 1) (loN2 (gB_lt w) _) (by decide)).mp q))]; exact ⟨0, rfl, Or.inr ⟨rfl, fun q => h3 q.2.2.2.1⟩⟩
  rw [if_neg (show ¬ ¬ lg_cmp (lN (loN (gB w) (512 * s + 14) 2)) 1 = 0 from fun q => q ((lgk (k := 1) (loN2 (gB_lt w) _) (by decide)).mpr h3))]
  by_cases h4 : nI (gB w (512 * s + 16)) = 2
  case neg => rw [if_pos h4]; exact ⟨0, rfl, Or.inr ⟨rfl, fun q => h4 q.2.2.2.2.1⟩⟩
  rw [if_neg (show ¬ ¬ nI (gB w (512 * s + 16)) = 2 from fun q => q h4)]
  by_cases h5 : loN (gB w) (512 * s + 17) 2 = 32
  case neg => rw [if_pos (show ¬ lg_cmp (lN (loN (gB w) (512 * s + 17) 2)) 32 = 0 from fun q => h5 ((lgk (k := 32) (loN2 (gB_lt w) _) (by decide)).mp q))]; exact ⟨0, rfl, Or.inr ⟨rfl, fun q => h5 q.2.2.2.2.2.1⟩⟩
  rw [if_neg (show ¬ ¬ lg_cmp (lN (loN (gB w) (512 * s + 17) 2)) 32 = 0 from fun q => q ((lgk (k := 32) (loN2 (gB_lt w) _) (by decide)).mpr h5))]
  by_cases h6 : vT (gB w) s = 0
  · rw [h6, if_pos (show nI 0 ≤ 0 by decide)]; exact ⟨0, rfl, Or.inr ⟨rfl, fun q => q.2.2.2.2.2.2.1 h6⟩⟩
  rw [if_neg (show ¬ nI (vT (gB w) s) ≤ 0 from nI_ge (a := 0) (b := vT (gB w) s) (by omega) (by omega))]
  by_cases h7 : 4 + 2 * vT (gB w) s ≤ vL (gB w) s
  case neg => rw [if_pos (show C < 1 from eC ▸ (sub_lt1 hL hT).mpr h7)]; exact ⟨0, rfl, Or.inr ⟨rfl, fun q => h7 q.2.2.2.2.2.2.2.1⟩⟩
  rw [if_neg (show ¬ C < 1 from fun q => (sub_lt1 hL hT).mp (eC.symm ▸ q) h7)]
  have eC' : C = nI (vL (gB w) s - (3 + 2 * vT (gB w) s)) := by rw [← eC, pk_sub (by omega)]
  rw [eC', show nI (vL (gB w) s - (3 + 2 * vT (gB w) s)) + 2 = nI (vL (gB w) s - (3 + 2 * vT (gB w) s) + 2) from nI_add _ 2, show nI (vL (gB w) s - (3 + 2 * vT (gB w) s) + 2) * 3 = nI ((vL (gB w) s - (3 + 2 * vT (gB w) s) + 2) * 3) from pk_mul _ 3, nI_1, show nI ((vL (gB w) s - (3 + 2 * vT (gB w) s) + 2) * 3 + 1) / 2 = nI (((vL (gB w) s - (3 + 2 * vT (gB w) s) + 2) * 3 + 1) / 2) from pk_div (d := 2) (by omega) (by decide) (by decide)]
  by_cases h8 : ((vL (gB w) s - (3 + 2 * vT (gB w) s) + 2) * 3 + 1) / 2 ≤ 512 * vT (gB w) s
  case neg => rw [if_pos (nI_lt (by omega) (by omega))]; exact ⟨0, rfl, Or.inr ⟨rfl, fun q => h8 q.2.2.2.2.2.2.2.2.1⟩⟩
  rw [if_neg (show ¬ nI (512 * vT (gB w) s) < nI (((vL (gB w) s - (3 + 2 * vT (gB w) s) + 2) * 3 + 1) / 2) from Int32.not_lt.mpr (nI_le h8 (by omega)))]
  by_cases h9 : s + vL (gB w) s ≤ S
  case neg => rw [if_pos (nI_lt (by omega) (by omega))]; exact ⟨0, rfl, Or.inr ⟨rfl, fun q => h9 q.2.2.2.2.2.2.2.2.2⟩⟩
  rw [if_neg (show ¬ nI S < nI (s + vL (gB w) s) from Int32.not_lt.mpr (nI_le h9 (by omega)))]
  exact ⟨1, rfl, Or.inl ⟨rfl, h0, h1, h2, h3, h4, h5, h6, h7, h8, h9⟩⟩
/-! pure: the first sector of the boot partition, the reference -/
theorem nE2 {x y : Nat} (hx : x < 2 ^ 32) (hy : y < 2 ^ 32) (h : nI x = nI y) : x = y := by
  have h3 : (nI x).toBitVec.toNat = (nI y).toBitVec.toNat := by rw [h]
  rw [pk_tn hx, pk_tn hy] at h3
  exact h3
/-- what the reference does once the first sector is good -/
def mRest (N s t c : Nat) (d : Nat → Int32) (t_kernelAt t_kernelSize : Int32) (t_memory : Nat → Int32) : Option (Int32 × Int32 × Int32 × (Nat → Int32)) :=
  bd_ (f_Model_kernelEntry N (nI (s + 1 + 2 * t)) d) (fun u18104 => if 0 ≤ u18104 then bd_ (f_Model_lowAt N 4 (u18104 + 28) d) (fun u18106 => if lg_cmp ((u18106 + 511) / 512) (nI c).toInt64 ≤ 0 then bd_ (f_Model_lowAt N 2 (u18104 + 26) d) (fun u18112 => lp_ (fun _ _ => none) (f_Model_loaded_L277 N ((u18106 + 511) / 512) u18106 (nI s) (nI t) u18112.toInt32 d t_kernelAt t_kernelSize t_memory (nI c)) N 0 u18112.toInt32) else some (7, t_kernelAt, t_kernelSize, t_memory)) else some (6, t_kernelAt, t_kernelSize, t_memory))
set_option maxHeartbeats 2000000 in
theorem vol_model {S s N : Nat} {d : Nat → Int32} {kA kS : Int32} {mem : Nat → Int32} (hS : 100 ≤ S ∧ S ≤ 600) (hs : s < S) (hN : 400000 ≤ N) : (volOk S s (mB d) → f_Model_loaded N (nI s) d kA kS mem (nI S) = mRest N s (vT (mB d) s) (vL (mB d) s - (3 + 2 * vT (mB d) s)) d kA kS mem) ∧ (¬ volOk S s (mB d) → f_Model_loaded N (nI s) d kA kS mem (nI S) = some (5, kA, kS, mem)) := by
  have hL : vL (mB d) s < 65536 := loN2 (mB_lt d) _
  have hT : vT (mB d) s < 65536 := loN2 (mB_lt d) _
  unfold f_Model_loaded
  dsimp only [lt_]
  rw [show (512 : Int32) * nI s = nI (512 * s) from pk_mul 512 s]
  rw [show nI (512 * s) + 19 = nI (512 * s + 19) from nI_add _ 19, show nI (512 * s) + 22 = nI (512 * s + 22) from nI_add _ 22, show nI (512 * s) + 11 = nI (512 * s + 11) from nI_add _ 11, show nI (512 * s) + 13 = nI (512 * s + 13) from nI_add _ 13, show nI (512 * s) + 14 = nI (512 * s + 14) from nI_add _ 14, show nI (512 * s) + 16 = nI (512 * s + 16) from nI_add _ 16, show nI (512 * s) + 17 = nI (512 * s + 17) from nI_add _ 17, show nI (512 * s) + 510 = nI (512 * s + 510) from nI_add _ 510, show nI (512 * s) + 511 = nI (512 * s + 511) from nI_add _ 511]
  rw [mget_in (p := 512 * s + 510) (by omega), bd_e, mget_in (p := 512 * s + 511) (by omega), bd_e, ml (p := 512 * s + 19) 2 (k := 2) rfl (by omega) (by decide) (by omega), bd_e, bd_e, ml (p := 512 * s + 22) 2 (k := 2) rfl (by omega) (by decide) (by omega), bd_e, bd_e, lN_i, lN_i]
  rw [ml (p := 512 * s + 11) 2 (k := 2) rfl (by omega) (by decide) (by omega), bd_e, mget_in (p := 512 * s + 13) (by omega), bd_e, ml (p := 512 * s + 14) 2 (k := 2) rfl (by omega) (by decide) (by omega), bd_e, mget_in (p := 512 * s + 16) (by omega), bd_e, ml (p := 512 * s + 17) 2 (k := 2) rfl (by omega) (by decide) (by omega), bd_e]
  rw [if_pos (show (0 : Int32) = 0 from rfl), if_neg (show ¬ (1 : Int32) = 0 by decide)]
  rw [show (2 : Int32) * nI (loN (mB d) (512 * s + 22) 2) = nI (2 * vT (mB d) s) from pk_mul 2 _, sub3, show loN (mB d) (512 * s + 19) 2 = vL (mB d) s from rfl, show loN (mB d) (512 * s + 22) 2 = vT (mB d) s from rfl, show nI s + nI (vL (mB d) s) = nI (s + vL (mB d) s) from nI_add _ _, show (512 : Int32) * nI (vT (mB d) s) = nI (512 * vT (mB d) s) from pk_mul 512 _, show nI s + 1 = nI (s + 1) from nI_add s 1, show nI (s + 1) + nI (2 * vT (mB d) s) = nI (s + 1 + 2 * vT (mB d) s) from nI_add _ _]
  by_cases h00 : nI (mB d (512 * s + 510)) = 85
  case neg => rw [if_pos h00]; exact ⟨fun q => absurd q.1.1 h00, fun _ => rfl⟩
  rw [if_neg (show ¬ ¬ nI (mB d (512 * s + 510)) = 85 from fun q => q h00)]
  by_cases h01 : nI (mB d (512 * s + 511)) = 170
  case neg => rw [if_pos h01]; exact ⟨fun q => absurd q.1.2 h01, fun _ => rfl⟩
  rw [if_neg (show ¬ ¬ nI (mB d (512 * s + 511)) = 170 from fun q => q h01)]
  by_cases h1 : loN (mB d) (512 * s + 11) 2 = 512
  case neg => rw [if_pos (show ¬ lg_cmp (lN (loN (mB d) (512 * s + 11) 2)) 512 = 0 from fun q => h1 ((lgk (k := 512) (loN2 (mB_lt d) _) (by decide)).mp q))]; exact ⟨fun q => absurd q.2.1 h1, fun _ => rfl⟩
  rw [if_neg (show ¬ ¬ lg_cmp (lN (loN (mB d) (512 * s + 11) 2)) 512 = 0 from fun q => q ((lgk (k := 512) (loN2 (mB_lt d) _) (by decide)).mpr h1))]
  by_cases h2 : nI (mB d (512 * s + 13)) = 1
  case neg => rw [if_pos h2]; exact ⟨fun q => absurd q.2.2.1 h2, fun _ => rfl⟩
  rw [if_neg (show ¬ ¬ nI (mB d (512 * s + 13)) = 1 from fun q => q h2)]
  by_cases h3 : loN (mB d) (512 * s + 14) 2 = 1
  case neg => rw [if_pos (show ¬ lg_cmp (lN (loN (mB d) (512 * s + 14) 2)) 1 = 0 from fun q => h3 ((lgk (k := 1) (loN2 (mB_lt d) _) (by decide)).mp q))]; exact ⟨fun q => absurd q.2.2.2.1 h3, fun _ => rfl⟩
  rw [if_neg (show ¬ ¬ lg_cmp (lN (loN (mB d) (512 * s + 14) 2)) 1 = 0 from fun q => q ((lgk (k := 1) (loN2 (mB_lt d) _) (by decide)).mpr h3))]
  by_cases h4 : nI (mB d (512 * s + 16)) = 2
  case neg => rw [if_pos h4]; exact ⟨fun q => absurd q.2.2.2.2.1 h4, fun _ => rfl⟩
  rw [if_neg (show ¬ ¬ nI (mB d (512 * s + 16)) = 2 from fun q => q h4)]
  by_cases h5 : loN (mB d) (512 * s + 17) 2 = 32
  case neg => rw [if_pos (show ¬ lg_cmp (lN (loN (mB d) (512 * s + 17) 2)) 32 = 0 from fun q => h5 ((lgk (k := 32) (loN2 (mB_lt d) _) (by decide)).mp q))]; exact ⟨fun q => absurd q.2.2.2.2.2.1 h5, fun _ => rfl⟩
  rw [if_neg (show ¬ ¬ lg_cmp (lN (loN (mB d) (512 * s + 17) 2)) 32 = 0 from fun q => q ((lgk (k := 32) (loN2 (mB_lt d) _) (by decide)).mpr h5))]
  by_cases h6 : vT (mB d) s = 0
  · rw [h6, if_pos (show nI 0 = 0 by decide)]; exact ⟨fun q => absurd h6 q.2.2.2.2.2.2.1, fun _ => rfl⟩
  rw [if_neg (show ¬ nI (vT (mB d) s) = 0 from fun q => h6 (nE2 (y := 0) (by omega) (by decide) q))]
  by_cases h7 : 4 + 2 * vT (mB d) s ≤ vL (mB d) s
  case neg => rw [if_pos ((sub_lt1 hL hT).mpr h7)]; exact ⟨fun q => absurd q.2.2.2.2.2.2.2.1 h7, fun _ => rfl⟩
  rw [if_neg (show ¬ nI (vL (mB d) s) - nI (3 + 2 * vT (mB d) s) < 1 from fun q => (sub_lt1 hL hT).mp q h7)]
  rw [pk_sub (show 3 + 2 * vT (mB d) s ≤ vL (mB d) s by omega), show nI (vL (mB d) s - (3 + 2 * vT (mB d) s)) + 2 = nI (vL (mB d) s - (3 + 2 * vT (mB d) s) + 2) from nI_add _ 2, show nI (vL (mB d) s - (3 + 2 * vT (mB d) s) + 2) * 3 = nI ((vL (mB d) s - (3 + 2 * vT (mB d) s) + 2) * 3) from pk_mul _ 3, show nI ((vL (mB d) s - (3 + 2 * vT (mB d) s) + 2) * 3) + 1 = nI ((vL (mB d) s - (3 + 2 * vT (mB d) s) + 2) * 3 + 1) from nI_add _ 1, show nI ((vL (mB d) s - (3 + 2 * vT (mB d) s) + 2) * 3 + 1) / 2 = nI (((vL (mB d) s - (3 + 2 * vT (mB d) s) + 2) * 3 + 1) / 2) from pk_div (d := 2) (by omega) (by decide) (by decide)]
  by_cases h8 : ((vL (mB d) s - (3 + 2 * vT (mB d) s) + 2) * 3 + 1) / 2 ≤ 512 * vT (mB d) s
  case neg => rw [if_pos (nI_lt (by omega) (by omega))]; exact ⟨fun q => absurd q.2.2.2.2.2.2.2.2.1 h8, fun _ => rfl⟩
  rw [if_neg (show ¬ nI (512 * vT (mB d) s) < nI (((vL (mB d) s - (3 + 2 * vT (mB d) s) + 2) * 3 + 1) / 2) from Int32.not_lt.mpr (nI_le h8 (by omega)))]
  by_cases h9 : s + vL (mB d) s ≤ S
  case neg => rw [if_neg (show ¬ nI (s + vL (mB d) s) ≤ nI S from nI_ge (by omega) (by omega))]; exact ⟨fun q => absurd q.2.2.2.2.2.2.2.2.2 h9, fun _ => rfl⟩
  rw [if_pos (nI_le h9 (by omega))]
  exact ⟨fun _ => rfl, fun q => absurd ⟨⟨h00, h01⟩, h1, h2, h3, h4, h5, h6, h7, h8, h9⟩ q⟩
theorem vol_congr {S s : Nat} {b b' : Nat → Nat} (h : ∀ q, q < 512 * S → b q = b' q) (hs : s < S) : vT b s = vT b' s ∧ vL b s = vL b' s ∧ (volOk S s b ↔ volOk S s b') := by
  have e1 : vT b s = vT b' s := loN_congr 2 _ (fun q h1 h2 => h q (by omega))
  have e2 : vL b s = vL b' s := loN_congr 2 _ (fun q h1 h2 => h q (by omega))
  refine ⟨e1, e2, ?_⟩
  unfold volOk
  rw [e1, e2, h (512 * s + 510) (by omega), h (512 * s + 511) (by omega), h (512 * s + 13) (by omega), h (512 * s + 16) (by omega), loN_congr 2 (512 * s + 11) (fun q h1 h2 => h q (by omega)), loN_congr 2 (512 * s + 14) (fun q h1 h2 => h q (by omega)), loN_congr 2 (512 * s + 17) (fun q h1 h2 => h q (by omega))]
