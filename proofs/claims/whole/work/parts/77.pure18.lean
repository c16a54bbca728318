/-! pure: booting by the loader: both sides -/
def ldz (b : Nat → Nat) : Nat := loN b (65 + 6 * b 64) 4
def lds (b : Nat → Nat) : Nat := 512 * secAt b (b 64) 0 0
def ldOk (S : Nat) (b : Nat → Nat) : Prop := (1 ≤ b 64 ∧ b 64 ≤ 20 ∧ 8 ≤ ldz b ∧ ldz b ≤ 9000) ∧ (runsOk S b (b 64) 0 ∧ (ldz b + 511) / 512 ≤ tot_ b (b 64) 0) ∧ cR (lb_ b (b 64)) 0 (ldz b) ^^^ (-1) = (lN (loN b (69 + 6 * b 64) 4)).toInt32 ∧ rowIs b (lds b) (sByt 9) 4 ∧ loN b (lds b + 4) 4 < S
theorem loader_class {S N : Nat} {w : Nat → Int64} {T : Nat → Int32} (hT : isT T) (hS : 100 ≤ S ∧ S ≤ 600) (hN : 400000 ≤ N) (bs u : Int32) (ls : Nat → Int32) : ∃ (r b' u' : Int32) (ls' : Nat → Int32), f_Firmware_searchLoader N (nI (512 * S)) (64 * S) w bs ls u (nI S) T = some (r, b', ls', u') ∧ ((r = 0 ∧ ldOk S (gB w) ∧ b' = nI (loN (gB w) (lds (gB w) + 4) 4)) ∨ (r = 9 ∧ ¬ ldOk S (gB w) ∧ b' = bs)) := by
  unfold f_Firmware_searchLoader
  rw [show (64 : Int32) = nI 64 from rfl, get_in (show 64 < 512 * S by omega) (by omega) (by omega), bd_e]
  have hR := gB_lt w 64
  unfold ldOk
  generalize hRe : gB w 64 = R at hR ⊢
  have ez : ldz (gB w) = loN (gB w) (65 + 6 * R) 4 := by unfold ldz; rw [hRe]
  have es : lds (gB w) = 512 * secAt (gB w) R 0 0 := by unfold lds; rw [hRe]
  rw [ez, es]
  by_cases h0 : R = 0
  · rw [if_pos (show nI R = 0 by rw [h0]; rfl)]
    exact ⟨9, bs, u, ls, rfl, Or.inr ⟨rfl, fun q => by have := q.1.1; omega, rfl⟩⟩
  · rw [if_neg (nI_ne0 (by omega) (by omega))]
    by_cases h1 : R ≤ 20
    · rw [if_pos (show nI R ≤ 20 from nI_le (a := R) (b := 20) h1 (by decide))]
      dsimp only [lt_]
      rw [show nI R * 6 = nI (6 * R) from by rw [show (6 : Int32) = nI 6 from rfl, pk_mul, Nat.mul_comm], show (65 : Int32) + nI (6 * R) = nI (65 + 6 * R) from nI_add 65 _, cl 4 (k := 4) rfl (by omega) (by omega) (by omega) (by decide) (by omega), bd_e]
      have hz4 := loN4 (gB_lt w) (65 + 6 * R)
      generalize loN (gB w) (65 + 6 * R) 4 = z at hz4 ⊢
      rw [show (8 : Int64) = lN 8 from rfl, show (9000 : Int64) = lN 9000 from rfl, lN_i]
      by_cases h2 : z < 8
      · rw [if_pos ((lgn _ _).mpr ((pk_lLT (by omega) (by omega)).mpr h2))]
        exact ⟨9, bs, u, ls, rfl, Or.inr ⟨rfl, fun q => by have := q.1.2.2.1; omega, rfl⟩⟩
      · rw [if_neg (fun q => h2 ((pk_lLT (by omega) (by omega)).mp ((lgn _ _).mp q)))]
        by_cases h3 : 9000 < z
        · rw [if_pos ((lgp _ _).mpr ((pk_lLT (by omega) (by omega)).mpr h3))]
          exact ⟨9, bs, u, ls, rfl, Or.inr ⟨rfl, fun q => by have := q.1.2.2.2; omega, rfl⟩⟩
        · rw [if_neg (fun q => h3 ((pk_lLT (by omega) (by omega)).mp ((lgp _ _).mp q)))]
          obtain ⟨y, g, e1, hy⟩ := collect_eq (w := w) hS hN h1 (show z ≤ 9000 by omega) ls
          rw [e1, bd_e]
          rcases hy with ⟨rfl, hok, hg⟩ | ⟨rfl, hno⟩
          · have hsum : f_Firmware_loaderSum N (nI z) g (nI (512 * S)) (64 * S) w T = some (cR (lb_ (gB w) R) 0 z ^^^ (-1), cR (lb_ (gB w) R) 0 z) := lsum_loop hT hS (by omega) hok.1 hok.2 hg z 0 N (by omega) (by omega)
            have hs0 := sec_lt R 0 0 hok.1 (by omega)
            have hix : ∀ K : Int32 → Option (Int32 × Int32 × (Nat → Int32) × Int32), ix_ 18 g 0 K = K (g 0) := fun K => ix_in (j := 0) (by decide) (by decide)
            rw [if_pos (show ¬ (1 : Int32) = 0 by decide), hsum, bd_e, show nI (65 + 6 * R) + 4 = nI (69 + 6 * R) from by rw [show (4 : Int32) = nI 4 from rfl, nI_add]; congr 1; omega, cl 4 (k := 4) rfl (by omega) (by omega) (by omega) (by decide) (by omega), bd_e, hix]
            dsimp only
            rw [hg 0 (by omega), show nI (secAt (gB w) R 0 0) * 512 = nI (512 * secAt (gB w) R 0 0) from by rw [show (512 : Int32) = nI 512 from rfl, pk_mul, Nat.mul_comm]]
            generalize hpe : 512 * secAt (gB w) R 0 0 = p
            have hp : p + 512 ≤ 512 * S := by omega
            by_cases h5 : cR (lb_ (gB w) R) 0 z ^^^ (-1) = (lN (loN (gB w) (69 + 6 * R) 4)).toInt32
            · rw [if_pos h5, show nI p + 4 = nI (p + 4) from nI_add _ 4, cl 4 (k := 4) rfl (by omega) (by omega) (by omega) (by decide) (by omega), bd_e]
              obtain ⟨t, e2, ht⟩ := text_eq (w := w) (p := p) (k := 4) (len := 512 * S) (n := 64 * S) (N := N) (f := sByt 9) (sByt_tx 9 (by decide)) (by omega) (by omega) (by omega) (by omega)
              rw [e2, bd_e]
              rcases ht with ⟨rfl, ht⟩ | ⟨rfl, ht⟩
              · rw [if_neg (show ¬ (1 : Int32) = 0 by decide), nI_l (show S < 2 ^ 31 by omega), lN_i]
                have h4 := loN4 (gB_lt w) (p + 4)
                by_cases h6 : loN (gB w) (p + 4) 4 < S
                · rw [if_pos (show lg_cmp (lN (loN (gB w) (p + 4) 4)) (lN S) < 0 from (lgn _ _).mpr ((pk_lLT (by omega) (by omega)).mpr h6))]
                  exact ⟨0, _, _, g, rfl, Or.inl ⟨rfl, ⟨⟨by omega, h1, by omega, by omega⟩, hok, h5, ht, h6⟩, rfl⟩⟩
                · rw [if_neg (show ¬ lg_cmp (lN (loN (gB w) (p + 4) 4)) (lN S) < 0 from fun q => h6 ((pk_lLT (by omega) (by omega)).mp ((lgn _ _).mp q)))]
                  exact ⟨9, bs, _, g, rfl, Or.inr ⟨rfl, fun q => h6 q.2.2.2.2, rfl⟩⟩
              · rw [if_pos (show (0 : Int32) = 0 from rfl)]
                exact ⟨9, bs, _, g, rfl, Or.inr ⟨rfl, fun q => ht q.2.2.2.1, rfl⟩⟩
            · rw [if_neg h5]
              exact ⟨9, bs, _, g, rfl, Or.inr ⟨rfl, fun q => h5 q.2.2.1, rfl⟩⟩
          · rw [if_neg (show ¬ ¬ (0 : Int32) = 0 by decide)]
            exact ⟨9, bs, u, g, rfl, Or.inr ⟨rfl, fun q => hno q.2.1, rfl⟩⟩
    · rw [if_neg (show ¬ nI R ≤ 20 from nI_ge (a := 20) (b := R) (by omega) (by omega))]
      exact ⟨9, bs, u, ls, rfl, Or.inr ⟨rfl, fun q => h1 q.1.2.1, rfl⟩⟩
