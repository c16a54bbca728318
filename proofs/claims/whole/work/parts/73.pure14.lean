/-! pure: texts -/
theorem strlen_eq {n : Nat} (hn : n < 2 ^ 31) : f_String_length n = some (nI n) := by
  unfold f_String_length
  rw [show f_String_coder = some 0 from rfl, bd_e]
  dsimp only [lt_]
  rw [show Int32.ofNat n = nI n from rfl, pk_shrN hn ((0 : Int32) &&& 31) 0 (by decide), Nat.pow_zero, Nat.div_one]
/-- every place holds a byte's number -/
def isTx (f : Nat → Int32) (n : Nat) : Prop := ∀ j, j < n → ∃ c : Nat, c < 256 ∧ f j = nI c
theorem charAt_eq {n i : Nat} {f : Nat → Int32} (hn : n < 2 ^ 31) (hf : isTx f n) (hi : i < n) : f_String_charAt (nI i) n f = some (f i) := by
  obtain ⟨c, hc, e⟩ := hf i hi
  unfold f_String_charAt
  rw [show f_String_isLatin1 = some 1 from rfl, bd_e, if_neg (show ¬ (1 : Int32) = 0 by decide)]
  unfold f_Latin1_charAt f_String_checkIndex f_Precond_checkIndex
  rw [show Int32.ofNat n = nI n from rfl, if_neg (nI_pos (by omega)), if_pos (nI_lt hi hn), bd_e, bd_e, ix_in hi hn]
  dsimp only [lt_]
  have e2 : (f i &&& 255).toUInt32 % 65536 = (f i &&& 255).toUInt32 % 65536 := rfl
  have e3 : ((f i &&& 255).toUInt32 % 65536).toInt32 = f i := by
    rw [pk_char, e, and255, Nat.mod_eq_of_lt hc, pk_tn (by omega), Nat.mod_eq_of_lt (by omega)]
  have e4 : vp_nar .char (f i) = f i := by
    have := pk_vc (f i &&& 255)
    rw [e3] at this
    exact this
  rw [e3, if_pos e4, bd_e, if_pos e4]
theorem text_loop {len n p k : Nat} {w : Nat → Int64} {f : Nat → Int32} (hf : isTx f k) (hp : p + k ≤ len) (hl : len ≤ 8 * n) (hn : n < 2 ^ 27) : ∀ (r i N : Nat), i + r = k → r < N → ∃ z : Int32, lp_ (fun _ => none) (f_Store_holdsText_L2 k (nI p) (nI len) n w f) N (nI i) = some z ∧ (z = 1 ∧ (∀ j, i ≤ j → j < k → nI (gB w (p + j)) = f j) ∨ z = 0 ∧ ∃ j, i ≤ j ∧ j < k ∧ ¬ nI (gB w (p + j)) = f j) := by
  intro r
  induction r with
  | zero =>
    intro i N hi hN
    obtain ⟨M, rfl⟩ : ∃ M, N = M + 1 := ⟨N - 1, by omega⟩
    rw [lp_s, f_Store_holdsText_L2, strlen_eq (by omega), bd_e, if_pos (nI_le (by omega) (by omega))]
    exact ⟨1, rfl, Or.inl ⟨rfl, fun j h1 h2 => absurd h2 (by omega)⟩⟩
  | succ r ih =>
    intro i N hi hN
    obtain ⟨M, rfl⟩ : ∃ M, N = M + 1 := ⟨N - 1, by omega⟩
    rw [lp_s, f_Store_holdsText_L2, strlen_eq (by omega), bd_e, if_neg (nI_ge (by omega) (by omega))]
    dsimp only [lt_]
    rw [nI_add, get_in (by omega) hl hn, bd_e, charAt_eq (by omega) hf (by omega), bd_e]
    by_cases h : nI (gB w (p + i)) = f i
    · rw [if_pos h, nI_1]
      obtain ⟨z, hz, hh⟩ := ih (i + 1) M (by omega) (by omega)
      refine ⟨z, hz, ?_⟩
      rcases hh with ⟨e, hh⟩ | ⟨e, j, j1, j2, hh⟩
      · refine Or.inl ⟨e, fun j h1 h2 => ?_⟩
        by_cases hj : j = i
        · rw [hj]; exact h
        · exact hh j (by omega) h2
      · exact Or.inr ⟨e, j, by omega, j2, hh⟩
    · rw [if_neg h]
      exact ⟨0, rfl, Or.inr ⟨rfl, i, Nat.le_refl _, by omega, h⟩⟩
theorem text_eq {len n p k N : Nat} {w : Nat → Int64} {f : Nat → Int32} (hf : isTx f k) (hp : p + k ≤ len) (hl : len ≤ 8 * n) (hn : n < 2 ^ 27) (hN : k < N) : ∃ z : Int32, f_Store_holdsText N k (nI p) (nI len) n w f = some z ∧ (z = 1 ∧ rowIs (gB w) p f k ∨ z = 0 ∧ ¬ rowIs (gB w) p f k) := by
  obtain ⟨z, hz, h⟩ := text_loop (w := w) hf hp hl hn k 0 N (by omega) hN
  refine ⟨z, hz, ?_⟩
  rcases h with ⟨e, h⟩ | ⟨e, j, -, j2, h⟩
  · exact Or.inl ⟨e, fun j hj => h j (by omega) hj⟩
  · exact Or.inr ⟨e, fun q => h (q j j2)⟩
theorem sByt_tx : ∀ i, i < 13 → ∀ j, j < sLen i → ∃ c : Nat, c < 256 ∧ sByt i j = nI c := by
  intro i hi j hj
  have h : ∀ i, i < 13 → ∀ j, j < sLen i → lo8 (sByt i j) < 256 ∧ sByt i j = nI (lo8 (sByt i j)) := by decide +kernel
  exact ⟨_, h i hi j hj⟩
