/-! pure: write: a file's byte, its head -/
theorem sha_sm : ∀ m : Nat, m < 4 → ((nI (8 * m)) &&& 31).toBitVec.smod 32 = BitVec.ofNat 32 (8 * m) := by decide +kernel
theorem sha_um : ∀ m : Nat, m < 4 → (((nI (8 * m)).toUInt32 &&& Int32.toUInt32 31).toBitVec % 32).toNat = 8 * m := by decide +kernel
theorem sha_of : ∀ m : Nat, m < 4 → (BitVec.ofNat 32 (8 * m)).toNat = 8 * m := by decide +kernel
theorem t255b (i : Nat) : (255#32).getLsbD i = decide (i < 8) := by
  by_cases h : i < 32
  · have : ∀ i : Fin 32, (255#32).getLsbD i.val = decide (i.val < 8) := by decide +kernel
    exact this ⟨i, h⟩
  · rw [BitVec.getLsbD_of_ge _ _ (by omega)]
    simp; omega
theorem shr_alike (a : Int32) {m : Nat} (hm : m < 4) : (a.toUInt32 >>> ((nI (8 * m)).toUInt32 &&& Int32.toUInt32 31)).toInt32 &&& 255 = (a >>> (nI (8 * m) &&& 31)) &&& 255 := by
  apply Int32.toBitVec_inj.mp
  rw [Int32.toBitVec_and, Int32.toBitVec_and, ush_bv a _ (8 * m) (sha_um m hm), Int32.toBitVec_shiftRight, sha_sm m hm]
  apply BitVec.eq_of_getLsbD_eq
  intro i hi
  rw [BitVec.getLsbD_and, BitVec.getLsbD_and, show (255 : Int32).toBitVec = 255#32 from rfl, t255b, BitVec.getLsbD_ushiftRight, BitVec.sshiftRight_eq', BitVec.getLsbD_sshiftRight, sha_of m hm]
  by_cases h8 : i < 8
  · rw [if_pos (by omega), show decide (32 ≤ i) = false from decide_eq_false (by omega)]
    simp
  · rw [show decide (i < 8) = false from decide_eq_false h8, Bool.and_false, Bool.and_false]
theorem head_class {j : Nat} (a : Int32) (hj : j < 8) {t : Nat} (ht : t = 0 ∨ t = 1) : f_Plan_headByte (nI j) a 4 (sByt t) = if j < 4 then some (sByt t j) else some ((a >>> (nI (8 * (j - 4)) &&& 31)) &&& 255) := by
  have hx : isTx (sByt t) 4 := by
    rcases ht with e | e
    · rw [e]; exact sByt_tx 0 (by decide)
    · rw [e]; exact sByt_tx 1 (by decide)
  unfold f_Plan_headByte
  dsimp only [lt_]
  rw [if_neg (show ¬ nI j < 0 from Int32.not_lt.mpr (nI_le (a := 0) (Nat.zero_le j) (by omega))), strlen_eq (by decide), bd_e]
  by_cases h : j < 4
  · rw [if_pos h, if_neg (nI_ge h (by omega)), charAt_eq (by decide) hx h, bd_e]
  · rw [if_neg h, if_pos (nI_le (show 4 ≤ j by omega) (by omega)), show nI j - 4 = nI (j - 4) from pk_sub (b := 4) (by omega), show (8 : Int32) * nI (j - 4) = nI (8 * (j - 4)) from pk_mul 8 (j - 4), shr_alike a (show j - 4 < 4 by omega)]
theorem head_model {j : Nat} (a : Int32) (hj : j < 8) (c : Nat → Int32) : (if ¬ nI j = 0 then if ¬ nI j = (1 : Int32) then if ¬ nI j = (2 : Int32) then if ¬ nI j = (3 : Int32) then some ((a >>> ((8 : Int32) * (nI j - 4) &&& 31)) &&& 255) else some (c 3) else some (c 2) else some (c 1) else some (c 0)) = if j < 4 then some (c j) else some ((a >>> (nI (8 * (j - 4)) &&& 31)) &&& 255) := by
  have e : j = 0 ∨ j = 1 ∨ j = 2 ∨ j = 3 ∨ 4 ≤ j := by omega
  rcases e with e | e | e | e | e
  · subst e; rfl
  · subst e; rfl
  · subst e; rfl
  · subst e; rfl
  · have n : ∀ t : Nat, t < 4 → ¬ nI j = nI t := fun t ht q => absurd ((nI_eq (by omega) (by omega)).mp q) (by omega)
    rw [if_pos (show ¬ nI j = 0 from n 0 (by decide)), if_pos (show ¬ nI j = 1 from n 1 (by decide)), if_pos (show ¬ nI j = 2 from n 2 (by decide)), if_pos (show ¬ nI j = 3 from n 3 (by decide)), if_neg (show ¬ j < 4 by omega), show nI j - 4 = nI (j - 4) from pk_sub (b := 4) (by omega), show (8 : Int32) * nI (j - 4) = nI (8 * (j - 4)) from pk_mul 8 (j - 4)]
theorem ker_c : f_Model_kernel = some 82761105687884 := by decide +kernel
theorem loa_c : f_Model_loader = some 83903281120594 := by decide +kernel
theorem fbyte_ex {k j n z : Nat} {se sz : Nat → Int32} {nm : Nat → Int64} {ss ad : Int32} (hk : k < 12) (hj : j ≤ 9000) (hs : se k = nI n) (hn : n ≤ 255) (hz : sz k = nI z) (hz2 : z ≤ 9000) : ∃ v : Nat, v < 256 ∧ f_Plan_fileByte se (nI k) (nI j) sz nm ss ad = some (nI v) ∧ f_Model_byteOf sz (nI k) se (nI j) nm ss ad = some (nI v) := by
  obtain ⟨b1, b2⟩ := body_eq (j := j) hk hj hs hn
  have hb : (n + 7 * j + j / 200) % 256 < 256 := Nat.mod_lt _ (by decide)
  have hh : ∀ (t : Nat) (a : Int32), t = 0 ∨ t = 1 → j < 8 → ∃ v : Nat, v < 256 ∧ (if j < 4 then some (sByt t j) else some ((a >>> (nI (8 * (j - 4)) &&& 31)) &&& 255)) = some (nI v) := fun t a ht h8 => by
    by_cases h4 : j < 4
    · rw [if_pos h4]
      rcases ht with e | e
      · subst e
        obtain ⟨c, h1, h2⟩ := sByt_tx 0 (by decide) j h4
        exact ⟨c, h1, by rw [h2]⟩
      · subst e
        obtain ⟨c, h1, h2⟩ := sByt_tx 1 (by decide) j h4
        exact ⟨c, h1, by rw [h2]⟩
    · rw [if_neg h4]
      exact ⟨_, lo8_lt _, by rw [and_lo8]⟩
  unfold f_Plan_fileByte f_Model_byteOf
  dsimp only [lt_]
  rw [b1, b2, ix_in (f := sz) hk (by decide), ix_in (f := sz) hk (by decide), hz]
  by_cases h8 : 8 ≤ j
  · rw [if_pos (show (8 : Int32) ≤ nI j from nI_le (a := 8) h8 (by omega)), if_pos (show (8 : Int32) ≤ nI j from nI_le (a := 8) h8 (by omega))]
    refine ⟨_, hb, rfl, ?_⟩
    rw [if_pos rfl, if_pos rfl]
    by_cases hz8 : nI z < (8 : Int32)
    · rw [if_pos hz8]
    · rw [if_neg hz8]
  rw [if_neg (show ¬ (8 : Int32) ≤ nI j from nI_ge (b := 8) (by omega) (by omega)), if_neg (show ¬ (8 : Int32) ≤ nI j from nI_ge (b := 8) (by omega) (by omega))]
  by_cases hz8 : nI z < (8 : Int32)
  · rw [if_pos hz8, if_pos hz8]
    refine ⟨_, hb, rfl, ?_⟩
    rw [if_pos rfl, if_pos rfl]
  rw [if_neg hz8, if_neg hz8, if_neg (show ¬ (1 : Int32) = 0 by decide), if_neg (show ¬ (1 : Int32) = 0 by decide), ker_c, loa_c, ix_in (f := nm) hk (by decide), ix_in (f := nm) hk (by decide), ix_in (f := nm) hk (by decide)]
  rw [bd_e]
  by_cases hK : nm k = 82761105687884
  · have e : lg_cmp (nm k) 82761105687884 = 0 := (lgz _ _).mpr hK
    rw [if_neg (fun q => q e), if_neg (fun q => q e), head_class ad (by omega) (Or.inl rfl)]
    have hm := head_model (j := j) ad (by omega) (sByt 0)
    obtain ⟨v, hv, hv2⟩ := hh 0 ad (Or.inl rfl) (by omega)
    rw [hv2] at hm ⊢
    exact ⟨v, hv, rfl, hm⟩
  have e : ¬ lg_cmp (nm k) 82761105687884 = 0 := fun q => hK ((lgz _ _).mp q)
  rw [if_pos e, if_pos e, ix_in (f := nm) hk (by decide), bd_e]
  by_cases hL : nm k = 83903281120594
  · have e : lg_cmp (nm k) 83903281120594 = 0 := (lgz _ _).mpr hL
    rw [if_neg (fun q => q e), if_neg (fun q => q e), head_class ss (by omega) (Or.inr rfl)]
    have hm := head_model (j := j) ss (by omega) (sByt 1)
    obtain ⟨v, hv, hv2⟩ := hh 1 ss (Or.inr rfl) (by omega)
    rw [hv2] at hm ⊢
    exact ⟨v, hv, rfl, hm⟩
  · have e : ¬ lg_cmp (nm k) 83903281120594 = 0 := fun q => hL ((lgz _ _).mp q)
    rw [if_pos e, if_pos e]
    exact ⟨_, hb, rfl, rfl⟩
/-- the byte j of file k, as both sides tell it -/
def fB (sz se : Nat → Int32) (nm : Nat → Int64) (ss ad : Int32) (k j : Nat) : Nat := lo8 ((f_Model_byteOf sz (nI k) se (nI j) nm ss ad).getD 0)
theorem fB_lt (sz se : Nat → Int32) (nm : Nat → Int64) (ss ad : Int32) (k j : Nat) : fB sz se nm ss ad k j < 256 := lo8_lt _
theorem fbyte_eq {nf k j : Nat} {se sz : Nat → Int32} {nm : Nat → Int64} {ss ad : Int32} (hnf : nf ≤ 12) (hok : FilesOk nf nm sz se) (hk : k < nf) (hj : j ≤ 9000) : f_Plan_fileByte se (nI k) (nI j) sz nm ss ad = some (nI (fB sz se nm ss ad k j)) ∧ f_Model_byteOf sz (nI k) se (nI j) nm ss ad = some (nI (fB sz se nm ss ad k j)) := by
  obtain ⟨-, ⟨z, hz, hz2⟩, n, hs, hn⟩ := hok k hk
  obtain ⟨v, hv, e1, e2⟩ := fbyte_ex (j := j) (nm := nm) (ss := ss) (ad := ad) (show k < 12 by omega) hj hs hn hz hz2
  have e : fB sz se nm ss ad k j = v := by
    unfold fB
    rw [e2]
    show lo8 (nI v) = v
    rw [lo8_nI, Nat.mod_eq_of_lt hv]
  rw [e]
  exact ⟨e1, e2⟩
/-! pure: write: the free clusters counted; one cluster is placed on both sides -/
def fcnt (x : Nat → Int32) : Nat → Nat
  | 0 => 0
  | k + 1 => fcnt x k + if x (k + 2) = 0 then 1 else 0
theorem fcnt_congr {x x' : Nat → Int32} : ∀ k, (∀ j, 2 ≤ j → j < k + 2 → (x' j = 0 ↔ x j = 0)) → fcnt x' k = fcnt x k
  | 0, _ => rfl
  | k + 1, h => by
    show fcnt x' k + (if x' (k + 2) = 0 then 1 else 0) = fcnt x k + (if x (k + 2) = 0 then 1 else 0)
    rw [fcnt_congr k (fun j h1 h2 => h j h1 (by omega))]
    by_cases e : x (k + 2) = 0
    · rw [if_pos e, if_pos ((h (k + 2) (by omega) (by omega)).mpr e)]
    · rw [if_neg e, if_neg (fun q => e ((h (k + 2) (by omega) (by omega)).mp q))]
theorem fcnt_dec {x x' : Nat → Int32} {c : Nat} (h2 : 2 ≤ c) (hx : x c = 0) (hx' : ¬ x' c = 0) : ∀ k, c < k + 2 → (∀ j, 2 ≤ j → j < k + 2 → j ≠ c → (x' j = 0 ↔ x j = 0)) → fcnt x' k + 1 = fcnt x k
  | 0, hc, _ => absurd hc (by omega)
  | k + 1, hc, h => by
    show fcnt x' k + (if x' (k + 2) = 0 then 1 else 0) + 1 = fcnt x k + (if x (k + 2) = 0 then 1 else 0)
    by_cases e : c = k + 2
    · subst e
      rw [if_pos hx, if_neg hx', fcnt_congr k (fun j h1 h2 => h j h1 (by omega) (by omega))]
    · have ih := fcnt_dec h2 hx hx' k (by omega) (fun j h1 h2 => h j h1 (by omega))
      have hk := h (k + 2) (by omega) (by omega) (fun q => e q.symm)
      by_cases e2 : x (k + 2) = 0
      · rw [if_pos e2, if_pos (hk.mpr e2)]; omega
      · rw [if_neg e2, if_neg (fun q => e2 (hk.mp q))]; omega
theorem fcnt_none {x : Nat → Int32} : ∀ k, (∀ j, 2 ≤ j → j < k + 2 → ¬ x j = 0) → fcnt x k = 0
  | 0, _ => rfl
  | k + 1, h => by
    show fcnt x k + (if x (k + 2) = 0 then 1 else 0) = 0
    rw [fcnt_none k (fun j h1 h2 => h j h1 (by omega)), if_neg (h (k + 2) (by omega) (by omega))]
theorem fcnt_pos {x : Nat → Int32} {j k : Nat} (h2 : 2 ≤ j) (hj : j < k + 2) (hx : x j = 0) : 0 < fcnt x k := by
  have := fcnt_dec (x := x) (x' := upd x j 1) h2 hx (by rw [pk_us]; decide) k hj (fun i _ _ hi => by rw [pk_un hi])
  omega
theorem fcnt_all {x : Nat → Int32} : ∀ k, (∀ j, 2 ≤ j → j < k + 2 → x j = 0) → fcnt x k = k
  | 0, _ => rfl
  | k + 1, h => by
    show fcnt x k + (if x (k + 2) = 0 then 1 else 0) = k + 1
    rw [fcnt_all k (fun j h1 h2 => h j h1 (by omega)), if_pos (h (k + 2) (by omega) (by omega))]
/-- the class's followers and the reference's, told alike -/
def fRel (c : Nat) (x y : Nat → Int32) : Prop := ∀ k, 2 ≤ k → k < c + 2 → (∃ v : Nat, v < 4096 ∧ x k = nI v ∧ y k = nI v) ∨ (x k = 4095 ∧ y k = -1)
theorem fRel_z {c k : Nat} {x y : Nat → Int32} (h : fRel c x y) (h1 : 2 ≤ k) (h2 : k < c + 2) : x k = 0 ↔ y k = 0 := by
  rcases h k h1 h2 with ⟨v, -, e1, e2⟩ | ⟨e1, e2⟩
  · rw [e1, e2]
  · rw [e1, e2]; exact ⟨fun q => absurd q (by decide), fun q => absurd q (by decide)⟩
theorem fRel_upd {c k : Nat} {x y : Nat → Int32} (h : fRel c x y) {a b : Int32} (hab : (∃ v : Nat, v < 4096 ∧ a = nI v ∧ b = nI v) ∨ (a = 4095 ∧ b = -1)) : fRel c (upd x k a) (upd y k b) := fun j h1 h2 => by
  by_cases e : j = k
  · subst e; rw [pk_us, pk_us]; exact hab
  · rw [pk_un e, pk_un e]; exact h j h1 h2
/-- what is chosen: the lowest free cluster from i on, or else from 2 on: alike on both sides -/
theorem pick_eq {S c i N : Nat} {x y : Nat → Int32} (hS : S ≤ 600) (hc : c + 2 ≤ S) (hN : 400000 ≤ N) (hi : 2 ≤ i ∧ i ≤ 2 ^ 20) (hR : fRel c x y) (j : Int32) : ∃ z z2 : Int32, f_Volume_lowestFree N (nI c) S x (nI i) = some z ∧ f_Model_lowestFree N (nI c) y (nI i) = some z ∧ f_Volume_lowestFree N (nI c) S x 2 = some z2 ∧ f_Model_lowestFree N (nI c) y 2 = some z2 ∧ ((fcnt x c = 0 ∧ z = -1 ∧ z2 = -1) ∨ (0 < fcnt x c ∧ ((∃ k, 2 ≤ k ∧ k < c + 2 ∧ x k = 0 ∧ z = nI k) ∨ (z = -1 ∧ ∃ k, 2 ≤ k ∧ k < c + 2 ∧ x k = 0 ∧ z2 = nI k)))) := by
  obtain ⟨z, e1, e2, h⟩ := free_eq hS hc hN hi (fun k h1 h2 => fRel_z hR h1 h2)
  obtain ⟨z2, e3, e4, h'⟩ := free_eq (i := 2) hS hc hN (by omega) (fun k h1 h2 => fRel_z hR h1 h2)
  refine ⟨z, z2, e1, e2, e3, e4, ?_⟩
  rcases h with ⟨e, h⟩ | ⟨k, h1, h2, e, hk, -⟩
  · rcases h' with ⟨e', h'⟩ | ⟨k, h1, h2, e', hk, -⟩
    · exact Or.inl ⟨fcnt_none c h', e, e'⟩
    · exact Or.inr ⟨fcnt_pos h1 h2 hk, Or.inr ⟨e, k, h1, h2, hk, e'⟩⟩
  · exact Or.inr ⟨fcnt_pos (show 2 ≤ k by omega) h2 hk, Or.inl ⟨k, by omega, h2, hk, e⟩⟩
/-! pure: write: one cluster is placed, on both sides -/
def plJ (S : Nat) (k16 : Int32 → Int32 → Int32 → (Nat → Int32) → (Nat → Int32) → Option ((Nat → Int32) × (Nat → Int32))) (i la f : Int32) (x hx : Nat → Int32) (v j : Int32) : Option ((Nat → Int32) × (Nat → Int32)) := if ¬ v = ((-1) : Int32) then (if ¬ i = 0 then up_i S x la v (fun (f240 : Nat → Int32) => up_i S f240 v 4095 (fun (f238 : Nat → Int32) => k16 (i + 1) v j f238 hx)) else up_i 12 hx f v (fun (f241 : Nat → Int32) => up_i S x v 4095 (fun (f238 : Nat → Int32) => k16 (i + 1) v j f238 f241))) else some (x, hx)
def plM (k51 : Int32 → Int32 → Int32 → (Nat → Int32) → (Nat → Int32) → Option (Int32 × (Nat → Int32) × (Nat → Int32))) (i la f : Int32) (y hy : Nat → Int32) (v j : Int32) : Option (Int32 × (Nat → Int32) × (Nat → Int32)) := if 0 ≤ v then (if ¬ i = 0 then up_i 700 y la v (fun (f2614 : Nat → Int32) => up_i 700 f2614 v (-1) (fun (f2612 : Nat → Int32) => k51 (i + 1) j v hy f2612)) else up_i 12 hy f v (fun (f2615 : Nat → Int32) => up_i 700 y v (-1) (fun (f2612 : Nat → Int32) => k51 (i + 1) j v f2615 f2612))) else some (0, hy, y)
theorem plJ_ok {S c i la f ch : Nat} {k16 : Int32 → Int32 → Int32 → (Nat → Int32) → (Nat → Int32) → Option ((Nat → Int32) × (Nat → Int32))} {x hx : Nat → Int32} {j : Int32} (hS : S ≤ 600) (hc : c + 2 ≤ S) (hf : f < 12) (hi : i < 2 ^ 20) (hla : 0 < i → 2 ≤ la ∧ la < c + 2) (hch : 2 ≤ ch ∧ ch < c + 2) : plJ S k16 (nI i) (nI la) (nI f) x hx (nI ch) j = k16 (nI (i + 1)) (nI ch) j (upd (if i = 0 then x else upd x la (nI ch)) ch 4095) (if i = 0 then upd hx f (nI ch) else hx) := by
  unfold plJ
  rw [if_pos (show ¬ nI ch = ((-1) : Int32) from fun q => absurd (q ▸ nI_pos' (n := ch) (by omega) : (0 : Int32) ≤ -1) (by decide)), nI_1]
  by_cases h : i = 0
  · rw [if_neg (fun q => q (by rw [h]; rfl)), if_pos h, if_pos h, upi_in hf (by decide), upi_in (show ch < S by omega) (by omega)]
  · rw [if_pos (nI_ne0 (by omega) (by omega)), if_neg h, if_neg h, upi_in (show la < S by have := hla (by omega); omega) (by omega), upi_in (show ch < S by omega) (by omega)]
theorem plM_ok {c i la f ch : Nat} {k51 : Int32 → Int32 → Int32 → (Nat → Int32) → (Nat → Int32) → Option (Int32 × (Nat → Int32) × (Nat → Int32))} {y hy : Nat → Int32} {j : Int32} (hc : c + 2 ≤ 600) (hf : f < 12) (hi : i < 2 ^ 20) (hla : 0 < i → 2 ≤ la ∧ la < c + 2) (hch : 2 ≤ ch ∧ ch < c + 2) : plM k51 (nI i) (nI la) (nI f) y hy (nI ch) j = k51 (nI (i + 1)) j (nI ch) (if i = 0 then upd hy f (nI ch) else hy) (upd (if i = 0 then y else upd y la (nI ch)) ch (-1)) := by
  unfold plM
  rw [if_pos (nI_pos' (n := ch) (by omega)), nI_1]
  by_cases h : i = 0
  · rw [if_neg (fun q => q (by rw [h]; rfl)), if_pos h, if_pos h, upi_in hf (by decide), upi_in (show ch < 700 by omega) (by decide)]
  · rw [if_pos (nI_ne0 (by omega) (by omega)), if_neg h, if_neg h, upi_in (show la < 700 by have := hla (by omega); omega) (by decide), upi_in (show ch < 700 by omega) (by decide)]
theorem plJ_at {S c n i la f N : Nat} {k16 : Int32 → Int32 → Int32 → (Nat → Int32) → (Nat → Int32) → Option ((Nat → Int32) × (Nat → Int32))} {x hx : Nat → Int32} {j : Int32} (hi : i < n) (hn : n ≤ 18) : f_Volume_placeFile_L16 N (nI n) (nI c) S (nI f) k16 (nI i) (nI la) j x hx = bd_ (f_Volume_lowestFree N (nI c) S x (nI (if ¬ j = 0 ∧ 0 < i then la + 2 else 2))) (fun u => if ¬ u = ((-1) : Int32) then plJ S k16 (nI i) (nI la) (nI f) x hx u j else bd_ (f_Volume_lowestFree N (nI c) S x 2) (fun u => plJ S k16 (nI i) (nI la) (nI f) x hx u 0)) := by
  rw [f_Volume_placeFile_L16, if_neg (nI_ge hi (by omega))]
  dsimp only [lt_]
  by_cases h : j = 0
  · rw [if_pos h, if_neg (fun q => q.1 h)]
    rfl
  · rw [if_neg h]
    by_cases h0 : 0 < i
    · rw [if_neg (show ¬ nI i ≤ 0 from nI_nle h0 (by omega)), if_pos ⟨h, h0⟩, show nI la + 2 = nI (la + 2) from nI_add la 2]
      rfl
    · rw [if_pos (show nI i ≤ 0 from nI_le (b := 0) (by omega) (by decide)), if_neg (fun q => h0 q.2)]
      rfl
theorem plM_at {c n i la f z N : Nat} {k24 : Int32 → (Nat → Int32) → (Nat → Int32) → Option (Int32 × (Nat → Int32) × (Nat → Int32))} {k51 : Int32 → Int32 → Int32 → (Nat → Int32) → (Nat → Int32) → Option (Int32 × (Nat → Int32) × (Nat → Int32))} {y hy sz : Nat → Int32} {j : Int32} (hf : f < 12) (hz : sz f = nI z) (hz2 : z ≤ 9000) (hzn : (z + 511) / 512 = n) (hi : i < n) : f_Model_given_L51 N sz (nI f) k24 (nI c) k51 (nI i) j (nI la) hy y = bd_ (f_Model_lowestFree N (nI c) y (nI (if ¬ j = 0 ∧ 0 < i then la + 2 else 2))) (fun u => if 0 ≤ u then plM k51 (nI i) (nI la) (nI f) y hy u j else bd_ (f_Model_lowestFree N (nI c) y 2) (fun u => plM k51 (nI i) (nI la) (nI f) y hy u 0)) := by
  rw [f_Model_given_L51, ix_in hf (by decide), hz, (needs_eq hz2).2, bd_e, hzn, if_neg (nI_ge hi (by omega))]
  dsimp only [lt_]
  by_cases h : j = 0
  · rw [if_pos h, if_neg (fun q => q.1 h)]
    rfl
  · rw [if_neg h]
    by_cases h0 : 0 < i
    · rw [if_neg (show ¬ nI i ≤ 0 from nI_nle h0 (by omega)), if_pos ⟨h, h0⟩, show nI la + 2 = nI (la + 2) from nI_add la 2]
      rfl
    · rw [if_pos (show nI i ≤ 0 from nI_le (b := 0) (by omega) (by decide)), if_neg (fun q => h0 q.2)]
      rfl
theorem place_step {S c n i la f z N : Nat} {x y sz : Nat → Int32} (hS : S ≤ 600) (hc : c + 2 ≤ S) (hN : 400000 ≤ N) (hf : f < 12) (hz : sz f = nI z) (hz2 : z ≤ 9000) (hzn : (z + 511) / 512 = n) (hi : i < n) (hla : 0 < i → 2 ≤ la ∧ la < c + 2) (hR : fRel c x y) (j : Int32) :
    (fcnt x c = 0 ∧ ∀ k24 k51 hy, f_Model_given_L51 N sz (nI f) k24 (nI c) k51 (nI i) j (nI la) hy y = some (0, hy, y)) ∨
    (0 < fcnt x c ∧ ∃ (ch : Nat) (j' : Int32), (2 ≤ ch ∧ ch < c + 2) ∧ x ch = 0 ∧ (∀ k16 hx, f_Volume_placeFile_L16 N (nI n) (nI c) S (nI f) k16 (nI i) (nI la) j x hx = k16 (nI (i + 1)) (nI ch) j' (upd (if i = 0 then x else upd x la (nI ch)) ch 4095) (if i = 0 then upd hx f (nI ch) else hx)) ∧ ∀ k24 k51 hy, f_Model_given_L51 N sz (nI f) k24 (nI c) k51 (nI i) j (nI la) hy y = k51 (nI (i + 1)) j' (nI ch) (if i = 0 then upd hy f (nI ch) else hy) (upd (if i = 0 then y else upd y la (nI ch)) ch (-1))) := by
  have hb : 2 ≤ (if ¬ j = 0 ∧ 0 < i then la + 2 else 2) ∧ (if ¬ j = 0 ∧ 0 < i then la + 2 else 2) ≤ 2 ^ 20 := by
    by_cases h : ¬ j = 0 ∧ 0 < i
    · rw [if_pos h]
      have := hla h.2
      omega
    · rw [if_neg h]; omega
  obtain ⟨u, u2, e1, e2, e3, e4, h⟩ := pick_eq hS hc hN hb hR j
  rcases h with ⟨h0, hu, hu2⟩ | ⟨h0, ⟨k, k1, k2, hk, hu⟩ | ⟨hu, k, k1, k2, hk, hu2⟩⟩
  · refine Or.inl ⟨h0, fun k24 k51 hy => ?_⟩
    rw [plM_at hf hz hz2 hzn hi, e2, bd_e, hu, if_neg (by decide), e4, bd_e, hu2]
    rfl
  · refine Or.inr ⟨h0, k, j, ⟨k1, k2⟩, hk, fun k16 hx => ?_, fun k24 k51 hy => ?_⟩
    · rw [plJ_at hi (by omega), e1, bd_e, hu, if_pos (show ¬ nI k = ((-1) : Int32) from fun q => absurd (q ▸ nI_pos' (n := k) (by omega) : (0 : Int32) ≤ -1) (by decide)), plJ_ok hS hc hf (by omega) hla ⟨k1, k2⟩]
    · rw [plM_at hf hz hz2 hzn hi, e2, bd_e, hu, if_pos (nI_pos' (n := k) (by omega)), plM_ok (by omega) hf (by omega) hla ⟨k1, k2⟩]
  · refine Or.inr ⟨h0, k, 0, ⟨k1, k2⟩, hk, fun k16 hx => ?_, fun k24 k51 hy => ?_⟩
    · rw [plJ_at hi (by omega), e1, bd_e, hu, if_neg (by decide), e3, bd_e, hu2, plJ_ok hS hc hf (by omega) hla ⟨k1, k2⟩]
    · rw [plM_at hf hz hz2 hzn hi, e2, bd_e, hu, if_neg (by decide), e4, bd_e, hu2, plM_ok (by omega) hf (by omega) hla ⟨k1, k2⟩]
/-! pure: write: a file is placed, on both sides -/
/-- P is the way of a file's clusters from i on up to n, on both sides -/
def chn (x y : Nat → Int32) (P : Nat → Nat) (c i n : Nat) : Prop := (∀ t, i ≤ t → t < n → 2 ≤ P t ∧ P t < c + 2) ∧ (∀ t, i ≤ t → t + 1 < n → x (P t) = nI (P (t + 1)) ∧ y (P t) = nI (P (t + 1))) ∧ (i < n → x (P (n - 1)) = 4095 ∧ y (P (n - 1)) = -1)
theorem place_loop {S c n f z N : Nat} {sz : Nat → Int32} (hS : S ≤ 600) (hc : c + 2 ≤ S) (hN : 400000 ≤ N) (hf : f < 12) (hz : sz f = nI z) (hz2 : z ≤ 9000) (hzn : (z + 511) / 512 = n) (k24 : Int32 → (Nat → Int32) → (Nat → Int32) → Option (Int32 × (Nat → Int32) × (Nat → Int32))) : ∀ (r i la M1 M2 : Nat) (j : Int32) (x y hx hy : Nat → Int32), i + r = n → r < M1 → r < M2 → (0 < i → (2 ≤ la ∧ la < c + 2) ∧ ¬ x la = 0 ∧ ¬ y la = 0) → fRel c x y →
    (r ≤ fcnt x c → ∃ (x' y' : Nat → Int32) (P : Nat → Nat), lp_ (fun _ _ _ _ _ => none) (f_Volume_placeFile_L16 N (nI n) (nI c) S (nI f)) M1 (nI i) (nI la) j x hx = some (x', if i = 0 ∧ 0 < r then upd hx f (nI (P 0)) else hx) ∧ lp_ (fun _ _ _ _ _ => none) (f_Model_given_L51 N sz (nI f) k24 (nI c)) M2 (nI i) j (nI la) hy y = k24 (nI (f + 1)) (if i = 0 ∧ 0 < r then upd hy f (nI (P 0)) else hy) y' ∧ fRel c x' y' ∧ chn x' y' P c i n ∧ (0 < i → (x' la = if 0 < r then nI (P i) else x la) ∧ y' la = if 0 < r then nI (P i) else y la) ∧ (∀ q, (i = 0 ∨ q ≠ la) → ¬ x q = 0 → x' q = x q) ∧ (∀ q, (i = 0 ∨ q ≠ la) → ¬ y q = 0 → y' q = y q) ∧ fcnt x' c + r = fcnt x c) ∧
    (fcnt x c < r → ∃ h y' : Nat → Int32, lp_ (fun _ _ _ _ _ => none) (f_Model_given_L51 N sz (nI f) k24 (nI c)) M2 (nI i) j (nI la) hy y = some (0, h, y')) := by
  intro r
  induction r with
  | zero =>
    intro i la M1' M2' j x y hx hy hi h1 h2 hla hR
    obtain ⟨M1, rfl⟩ : ∃ M, M1' = M + 1 := ⟨M1' - 1, by omega⟩
    obtain ⟨M2, rfl⟩ : ∃ M, M2' = M + 1 := ⟨M2' - 1, by omega⟩
    refine ⟨fun _ => ⟨x, y, fun _ => 0, ?_, ?_, hR, ⟨fun t a b => absurd b (by omega), fun t a b => absurd b (by omega), fun b => absurd b (by omega)⟩, fun _ => ⟨by rw [if_neg (by omega)], by rw [if_neg (by omega)]⟩, fun _ _ _ => rfl, fun _ _ _ => rfl, rfl⟩, fun q => absurd q (by omega)⟩
    · rw [lp_s, f_Volume_placeFile_L16, if_pos (nI_le (show n ≤ i by omega) (by omega)), if_neg (by omega)]
    · rw [lp_s, f_Model_given_L51, ix_in hf (by decide), hz, (needs_eq hz2).2, bd_e, hzn, if_pos (nI_le (show n ≤ i by omega) (by omega)), if_neg (by omega)]
      dsimp only [lt_]
      rw [nI_1]
  | succ r ih =>
    intro i la M1' M2' j x y hx hy hi h1 h2 hla hR
    obtain ⟨M1, rfl⟩ : ∃ M, M1' = M + 1 := ⟨M1' - 1, by omega⟩
    obtain ⟨M2, rfl⟩ : ∃ M, M2' = M + 1 := ⟨M2' - 1, by omega⟩
    rcases place_step hS hc hN hf hz hz2 hzn (show i < n by omega) (fun q => (hla q).1) hR j with ⟨h0, hm⟩ | ⟨h0, ch, j', hch, hx0, hcl, hm⟩
    · exact ⟨fun q => absurd q (by omega), fun _ => ⟨hy, y, by rw [lp_s]; exact hm _ _ _⟩⟩
    · have hy0 : y ch = 0 := (fRel_z hR hch.1 hch.2).mp hx0
      have nch : ¬ nI ch = 0 := nI_ne0 (by omega) (by omega)
      have nel : 0 < i → ch ≠ la := fun q e => (hla q).2.1 (e ▸ hx0)
      have hxa : ∀ q, q ≠ ch → (i = 0 ∨ q ≠ la) → (upd (if i = 0 then x else upd x la (nI ch)) ch 4095) q = x q := fun q a b => by
        rw [pk_un a]
        by_cases h : i = 0
        · rw [if_pos h]
        · rw [if_neg h, pk_un (b.resolve_left h)]
      have hya : ∀ q, q ≠ ch → (i = 0 ∨ q ≠ la) → (upd (if i = 0 then y else upd y la (nI ch)) ch (-1)) q = y q := fun q a b => by
        rw [pk_un a]
        by_cases h : i = 0
        · rw [if_pos h]
        · rw [if_neg h, pk_un (b.resolve_left h)]
      have hxl : 0 < i → (upd (if i = 0 then x else upd x la (nI ch)) ch 4095) la = nI ch := fun q => by
        rw [pk_un (fun e => nel q e.symm), if_neg (by omega), pk_us]
      have hyl : 0 < i → (upd (if i = 0 then y else upd y la (nI ch)) ch (-1)) la = nI ch := fun q => by
        rw [pk_un (fun e => nel q e.symm), if_neg (by omega), pk_us]
      have hR' : fRel c (upd (if i = 0 then x else upd x la (nI ch)) ch 4095) (upd (if i = 0 then y else upd y la (nI ch)) ch (-1)) := by
        refine fRel_upd ?_ (Or.inr ⟨rfl, rfl⟩)
        by_cases h : i = 0
        · rw [if_pos h, if_pos h]; exact hR
        · rw [if_neg h, if_neg h]; exact fRel_upd hR (Or.inl ⟨ch, by omega, rfl, rfl⟩)
      have hcnt : fcnt (upd (if i = 0 then x else upd x la (nI ch)) ch 4095) c + 1 = fcnt x c := by
        refine fcnt_dec hch.1 hx0 (by rw [pk_us]; decide) c hch.2 (fun q _ _ hq => ?_)
        by_cases e : 0 < i ∧ q = la
        · rw [e.2, hxl e.1]
          exact ⟨fun a => absurd a nch, fun a => absurd a (hla e.1).2.1⟩
        · rw [hxa q hq (by omega)]
      obtain ⟨ihA, ihB⟩ := ih (i + 1) ch M1 M2 j' (upd (if i = 0 then x else upd x la (nI ch)) ch 4095) (upd (if i = 0 then y else upd y la (nI ch)) ch (-1)) (if i = 0 then upd hx f (nI ch) else hx) (if i = 0 then upd hy f (nI ch) else hy) (by omega) (by omega) (by omega) (fun _ => ⟨hch, by rw [pk_us]; decide, by rw [pk_us]; decide⟩) hR'
      refine ⟨fun hle => ?_, fun hlt => ?_⟩
      · obtain ⟨x', y', P, e1, e2, hR2, ⟨c1, c2, c3⟩, hl, kx, ky, hc2⟩ := ihA (by omega)
        obtain ⟨hl1, hl2⟩ := hl (by omega)
        rw [pk_us] at hl1 hl2
        have P0 : ∀ t, t ≠ i → (fun t => if t = i then ch else P t) t = P t := fun t ht => if_neg ht
        have Pi : (fun t => if t = i then ch else P t) i = ch := if_pos rfl
        have hhd : ∀ h : Nat → Int32, (if i + 1 = 0 ∧ 0 < r then upd (if i = 0 then upd h f (nI ch) else h) f (nI (P 0)) else (if i = 0 then upd h f (nI ch) else h)) = (if i = 0 ∧ 0 < r + 1 then upd h f (nI (if 0 = i then ch else P 0)) else h) := fun h => by
          rw [if_neg (by omega)]
          by_cases e : i = 0
          · rw [if_pos e, if_pos ⟨e, by omega⟩, if_pos e.symm]
          · rw [if_neg e, if_neg (fun q => e q.1)]
        rw [hhd] at e1 e2
        refine ⟨x', y', fun t => if t = i then ch else P t, ?_, ?_, hR2, ⟨fun t a b => ?_, fun t a b => ?_, fun _ => ?_⟩, fun hp => ⟨?_, ?_⟩, fun q a b => ?_, fun q a b => ?_, by omega⟩
        · rw [lp_s, hcl]; exact e1
        · rw [lp_s, hm]; exact e2
        · by_cases e : t = i
          · rw [e, Pi]; exact hch
          · rw [P0 t e]; exact c1 t (by omega) b
        · by_cases e : t = i
          · rw [e, Pi, P0 (i + 1) (by omega), hl1, hl2, if_pos (by omega), if_pos (by omega)]
            exact ⟨rfl, rfl⟩
          · rw [P0 t e, P0 (t + 1) (by omega)]; exact c2 t (by omega) b
        · by_cases e : i + 1 = n
          · have e' : n - 1 = i := by omega
            rw [e', Pi, hl1, hl2, if_neg (by omega), if_neg (by omega)]
            exact ⟨rfl, rfl⟩
          · rw [P0 (n - 1) (by omega)]; exact c3 (by omega)
        · rw [if_pos (by omega), Pi, kx la (Or.inr (fun e => nel hp e.symm)) (by rw [hxl hp]; exact nch), hxl hp]
        · rw [if_pos (by omega), Pi, ky la (Or.inr (fun e => nel hp e.symm)) (by rw [hyl hp]; exact nch), hyl hp]
        · have hq : q ≠ ch := fun e => b (e ▸ hx0)
          rw [kx q (Or.inr hq) (by rw [hxa q hq a]; exact b), hxa q hq a]
        · have hq : q ≠ ch := fun e => b (e ▸ hy0)
          rw [ky q (Or.inr hq) (by rw [hya q hq a]; exact b), hya q hq a]
      · obtain ⟨h, y', e⟩ := ihB (by omega)
        exact ⟨h, y', by rw [lp_s, hm]; exact e⟩
theorem chn_keep {x y x' y' : Nat → Int32} {P : Nat → Nat} {c n : Nat} (hc : c ≤ 600) (h : chn x y P c 0 n) (kx : ∀ q, ¬ x q = 0 → x' q = x q) (ky : ∀ q, ¬ y q = 0 → y' q = y q) : chn x' y' P c 0 n := by
  obtain ⟨h1, h2, h3⟩ := h
  refine ⟨h1, fun t a b => ?_, fun a => ?_⟩
  · obtain ⟨e1, e2⟩ := h2 t a b
    have hn : ¬ nI (P (t + 1)) = 0 := nI_ne0 (by have := h1 (t + 1) (by omega) b; omega) (by have := h1 (t + 1) (by omega) b; omega)
    exact ⟨by rw [kx _ (by rw [e1]; exact hn), e1], by rw [ky _ (by rw [e2]; exact hn), e2]⟩
  · obtain ⟨e1, e2⟩ := h3 a
    exact ⟨by rw [kx _ (by rw [e1]; decide), e1], by rw [ky _ (by rw [e2]; decide), e2]⟩
/-! pure: write: all files are placed, on both sides -/
def zN (sz : Nat → Int32) (g : Nat) : Nat := (sz g).toBitVec.toNat
/-- the clusters that file g needs -/
def nN (sz : Nat → Int32) (g : Nat) : Nat := (zN sz g + 511) / 512
def totC (sz : Nat → Int32) : Nat → Nat → Nat
  | _, 0 => 0
  | f, r + 1 => nN sz f + totC sz (f + 1) r
theorem zN_ok {nf g : Nat} {nm : Nat → Int64} {sz se : Nat → Int32} (hok : FilesOk nf nm sz se) (hg : g < nf) : sz g = nI (zN sz g) ∧ zN sz g ≤ 9000 := by
  obtain ⟨-, ⟨z, hz, hz2⟩, -⟩ := hok g hg
  have e : zN sz g = z := by unfold zN; rw [hz, pk_tn (by omega)]
  rw [e]; exact ⟨hz, hz2⟩
theorem nN_le {nf g : Nat} {nm : Nat → Int64} {sz se : Nat → Int32} (hok : FilesOk nf nm sz se) (hg : g < nf) : nN sz g ≤ 18 := by
  have := (zN_ok hok hg).2
  unfold nN
  omega
theorem totC_le {nf : Nat} {nm : Nat → Int64} {sz se : Nat → Int32} (hok : FilesOk nf nm sz se) : ∀ r f, f + r = nf → totC sz f r ≤ 18 * r
  | 0, _, _ => Nat.zero_le _
  | r + 1, f, h => by
    have h1 := totC_le hok r (f + 1) (by omega)
    have h2 := nN_le hok (show f < nf by omega)
    show nN sz f + totC sz (f + 1) r ≤ _
    omega
/-- what the files' places are behind the placing: alike on both sides -/
def placed (sz : Nat → Int32) (c : Nat) (x y hx hy : Nat → Int32) (f nf : Nat) : Prop := ∀ g, f ≤ g → g < nf → ∃ P : Nat → Nat, chn x y P c 0 (nN sz g) ∧ (hx g = if 0 < nN sz g then nI (P 0) else 0) ∧ hy g = if 0 < nN sz g then nI (P 0) else 0
theorem files_loop {S c nf N : Nat} {nm : Nat → Int64} {sz se sc : Nat → Int32} (hS : S ≤ 600) (hc : c + 2 ≤ S) (hN : 400000 ≤ N) (hnf : nf ≤ 12) (hok : FilesOk nf nm sz se) : ∀ (r f M1 M2 : Nat) (x y hx hy : Nat → Int32), f + r = nf → r < M1 → r < M2 → fRel c x y →
    (totC sz f r ≤ fcnt x c → ∃ (x' y' hx' hy' : Nat → Int32), lp_ (fun _ _ _ => none) (f_Volume_placeFiles_L68 N (nI nf) sz sc (nI c) S) M1 (nI f) x hx = some (1, x', hx') ∧ lp_ (fun _ _ _ => none) (f_Model_given_L24 N (nI nf) sc sz (nI c)) M2 (nI f) hy y = some (1, hy', y') ∧ fRel c x' y' ∧ (∀ g, g < f → hx' g = hx g ∧ hy' g = hy g) ∧ placed sz c x' y' hx' hy' f nf ∧ (∀ q, ¬ x q = 0 → x' q = x q) ∧ (∀ q, ¬ y q = 0 → y' q = y q)) ∧
    (fcnt x c < totC sz f r → ∃ h y' : Nat → Int32, lp_ (fun _ _ _ => none) (f_Model_given_L24 N (nI nf) sc sz (nI c)) M2 (nI f) hy y = some (0, h, y')) := by
  intro r
  induction r with
  | zero =>
    intro f M1' M2' x y hx hy hf h1 h2 hR
    obtain ⟨M1, rfl⟩ : ∃ M, M1' = M + 1 := ⟨M1' - 1, by omega⟩
    obtain ⟨M2, rfl⟩ : ∃ M, M2' = M + 1 := ⟨M2' - 1, by omega⟩
    refine ⟨fun _ => ⟨x, y, hx, hy, ?_, ?_, hR, fun _ _ => ⟨rfl, rfl⟩, fun g a b => absurd b (by omega), fun _ _ => rfl, fun _ _ => rfl⟩, fun q => absurd q (Nat.not_lt_zero _)⟩
    · rw [lp_s, f_Volume_placeFiles_L68, if_pos (nI_le (show nf ≤ f by omega) (by omega))]
    · rw [lp_s, f_Model_given_L24, if_pos (nI_le (show nf ≤ f by omega) (by omega))]
  | succ r ih =>
    intro f M1' M2' x y hx hy hf h1 h2 hR
    obtain ⟨M1, rfl⟩ : ∃ M, M1' = M + 1 := ⟨M1' - 1, by omega⟩
    obtain ⟨M2, rfl⟩ : ∃ M, M2' = M + 1 := ⟨M2' - 1, by omega⟩
    obtain ⟨hz, hz2⟩ := zN_ok hok (show f < nf by omega)
    obtain ⟨pA, pB⟩ := place_loop (n := nN sz f) hS hc hN (show f < 12 by omega) hz hz2 rfl (lp_ (fun _ _ _ => none) (f_Model_given_L24 N (nI nf) sc sz (nI c)) M2) (nN sz f) 0 0 N N (sc f) x y (upd hx f 0) (upd hy f 0) (by omega) (by have := nN_le hok (show f < nf by omega); omega) (by have := nN_le hok (show f < nf by omega); omega) (fun q => absurd q (by omega)) hR
    have hm : lp_ (fun _ _ _ => none) (f_Model_given_L24 N (nI nf) sc sz (nI c)) (M2 + 1) (nI f) hy y = lp_ (fun _ _ _ _ _ => none) (f_Model_given_L51 N sz (nI f) (lp_ (fun _ _ _ => none) (f_Model_given_L24 N (nI nf) sc sz (nI c)) M2) (nI c)) N (nI 0) (sc f) (nI 0) (upd hy f 0) y := by
      rw [lp_s, f_Model_given_L24, if_neg (nI_ge (show f < nf by omega) (by omega)), upi_in (show f < 12 by omega) (by decide), ix_in (show f < 12 by omega) (by decide)]
      rfl
    have ht : totC sz f (r + 1) = nN sz f + totC sz (f + 1) r := rfl
    rw [ht]
    by_cases hle : nN sz f ≤ fcnt x c
    · obtain ⟨x1, y1, P, e1, e2, hR1, hch, -, kx, ky, hcnt⟩ := pA hle
      obtain ⟨ihA, ihB⟩ := ih (f + 1) M1 M2 x1 y1 (if (0 = 0) ∧ 0 < nN sz f then upd (upd hx f 0) f (nI (P 0)) else upd hx f 0) (if (0 = 0) ∧ 0 < nN sz f then upd (upd hy f 0) f (nI (P 0)) else upd hy f 0) (by omega) (by omega) (by omega) hR1
      refine ⟨fun hle2 => ?_, fun hlt => ?_⟩
      · obtain ⟨x', y', hx', hy', a1, a2, hR2, hh, hp, kx2, ky2⟩ := ihA (by omega)
        have hd : ∀ h : Nat → Int32, (if (0 = 0) ∧ 0 < nN sz f then upd (upd h f 0) f (nI (P 0)) else upd h f 0) f = if 0 < nN sz f then nI (P 0) else 0 := fun h => by
          by_cases q : 0 < nN sz f
          · rw [if_pos ⟨rfl, q⟩, if_pos q, pk_us]
          · rw [if_neg (fun s => q s.2), if_neg q, pk_us]
        have hd2 : ∀ (h : Nat → Int32) (g : Nat), g ≠ f → (if (0 = 0) ∧ 0 < nN sz f then upd (upd h f 0) f (nI (P 0)) else upd h f 0) g = h g := fun h g hg => by
          by_cases q : 0 < nN sz f
          · rw [if_pos ⟨rfl, q⟩, pk_un hg, pk_un hg]
          · rw [if_neg (fun s => q s.2), pk_un hg]
        refine ⟨x', y', hx', hy', ?_, ?_, hR2, fun g hg => ?_, fun g a b => ?_, fun q hq => ?_, fun q hq => ?_⟩
        · rw [lp_s, f_Volume_placeFiles_L68, if_neg (nI_ge (show f < nf by omega) (by omega)), ix_in (show f < 12 by omega) (by decide), hz, (needs_eq hz2).1, bd_e, ix_in (show f < 12 by omega) (by decide), f_Volume_placeFile, upi_in (show f < 12 by omega) (by decide)]
          have e1' : lp_ (fun _ _ _ _ _ => none) (f_Volume_placeFile_L16 N (nI ((zN sz f + 511) / 512)) (nI c) S (nI f)) N 0 0 (sc f) x (upd hx f 0) = _ := e1
          rw [e1', bd_e]
          dsimp only [lt_]
          rw [nI_1]
          exact a1
        · rw [hm, e2]; exact a2
        · obtain ⟨b1, b2⟩ := hh g (by omega)
          rw [b1, b2, hd2 hx g (by omega), hd2 hy g (by omega)]
          exact ⟨rfl, rfl⟩
        · by_cases e : g = f
          · subst e
            obtain ⟨b1, b2⟩ := hh g (by omega)
            exact ⟨P, chn_keep (by omega) hch kx2 ky2, by rw [b1, hd], by rw [b2, hd]⟩
          · exact hp g (by omega) b
        · have e := kx q (Or.inl rfl) hq
          rw [kx2 q (by rw [e]; exact hq), e]
        · have e := ky q (Or.inl rfl) hq
          rw [ky2 q (by rw [e]; exact hq), e]
      · obtain ⟨h, y', e⟩ := ihB (by omega)
        exact ⟨h, y', by rw [hm, e2]; exact e⟩
    · refine ⟨fun q => absurd q (by omega), fun _ => ?_⟩
      obtain ⟨h, y', e⟩ := pB (by omega)
      exact ⟨h, y', by rw [hm]; exact e⟩
theorem fillI_loop {n : Nat} (hn : n < 2 ^ 31) {v : Int32} : ∀ (r i N : Nat) (f : Nat → Int32), i + r = n → r < N → (∀ j, j < i → f j = v) → ∃ g, lp_ (fun _ _ => none) (f_Arrays_fillI_L5 n v) N (nI i) f = some g ∧ ∀ j, j < n → g j = v := by
  intro r
  induction r with
  | zero =>
    intro i N f hi hN hf
    obtain ⟨M, rfl⟩ : ∃ M, N = M + 1 := ⟨N - 1, by omega⟩
    rw [lp_s, f_Arrays_fillI_L5, if_pos (show Int32.ofNat n ≤ nI i from nI_le (a := n) (b := i) (by omega) (by omega))]
    exact ⟨f, rfl, fun j hj => hf j (by omega)⟩
  | succ r ih =>
    intro i N f hi hN hf
    obtain ⟨M, rfl⟩ : ∃ M, N = M + 1 := ⟨N - 1, by omega⟩
    rw [lp_s, f_Arrays_fillI_L5, if_neg (show ¬ Int32.ofNat n ≤ nI i from nI_ge (a := i) (b := n) (by omega) (by omega)), upi_in (by omega) hn]
    dsimp only [lt_]
    rw [nI_1]
    refine ih (i + 1) M _ (by omega) (by omega) (fun j hj => ?_)
    by_cases h : j = i
    · rw [h, pk_us]
    · rw [pk_un h]; exact hf j (by omega)
/-! pure: write: the placing of all files, from the start -/
theorem gzero_loop {N : Nat} {nf c : Int32} {sc sz hd : Nat → Int32} : ∀ (r i M : Nat) (y : Nat → Int32), i + r = 700 → r < M → (∀ j, j < i → y j = 0) → ∃ g : Nat → Int32, lp_ (fun _ _ => none) (f_Model_given_L2 N nf sc sz c hd) M (nI i) y = lp_ (fun _ _ _ => none) (f_Model_given_L24 N nf sc sz c) N 0 hd g ∧ ∀ j, j < 700 → g j = 0 := by
  intro r
  induction r with
  | zero =>
    intro i M' y hi hM hy
    obtain ⟨M, rfl⟩ : ∃ M, M' = M + 1 := ⟨M' - 1, by omega⟩
    rw [lp_s, f_Model_given_L2, if_pos (show (700 : Int32) ≤ nI i from nI_le (a := 700) (by omega) (by omega))]
    exact ⟨y, rfl, fun j hj => hy j (by omega)⟩
  | succ r ih =>
    intro i M' y hi hM hy
    obtain ⟨M, rfl⟩ : ∃ M, M' = M + 1 := ⟨M' - 1, by omega⟩
    rw [lp_s, f_Model_given_L2, if_neg (show ¬ (700 : Int32) ≤ nI i from nI_ge (b := 700) (by omega) (by omega)), upi_in (show i < 700 by omega) (by decide)]
    dsimp only [lt_]
    rw [nI_1]
    refine ih (i + 1) M _ (by omega) (by omega) (fun j hj => ?_)
    by_cases h : j = i
    · rw [h, pk_us]
    · rw [pk_un h]; exact hy j (by omega)
theorem psum_loop {S c nf N : Nat} {nm : Nat → Int64} {sz se sc nx fc : Nat → Int32} (hc : c ≤ 600) (hnf : nf ≤ 12) (hok : FilesOk nf nm sz se) : ∀ (r f a M : Nat), f + r = nf → r < M → a + 18 * r ≤ 1000 → lp_ (fun _ _ => none) (f_Volume_placeFiles_L4 N (nI nf) (nI c) S nx sz sc fc) M (nI f) (nI a) = if a + totC sz f r ≤ c then bd_ (f_Arrays_fillI N S 0 nx) (fun u130 => up_i S u130 0 4088 (fun (f131 : Nat → Int32) => up_i S f131 1 4095 (fun (f132 : Nat → Int32) => lp_ (fun _ _ _ => none) (f_Volume_placeFiles_L68 N (nI nf) sz sc (nI c) S) N 0 f132 fc))) else some (0, nx, fc) := by
  intro r
  induction r with
  | zero =>
    intro f a M' hf hM ha
    obtain ⟨M, rfl⟩ : ∃ M, M' = M + 1 := ⟨M' - 1, by omega⟩
    rw [lp_s, f_Volume_placeFiles_L4, if_pos (nI_le (show nf ≤ f by omega) (by omega))]
    have ht : totC sz f 0 = 0 := rfl
    rw [ht]
    by_cases h : a ≤ c
    · rw [if_pos (nI_le h (by omega)), if_pos (show a + 0 ≤ c by omega)]
    · rw [if_neg (nI_ge (show c < a by omega) (by omega)), if_neg (show ¬ a + 0 ≤ c by omega)]
  | succ r ih =>
    intro f a M' hf hM ha
    obtain ⟨M, rfl⟩ : ∃ M, M' = M + 1 := ⟨M' - 1, by omega⟩
    obtain ⟨hz, hz2⟩ := zN_ok hok (show f < nf by omega)
    have ht : totC sz f (r + 1) = nN sz f + totC sz (f + 1) r := rfl
    have hn := nN_le hok (show f < nf by omega)
    rw [lp_s, f_Volume_placeFiles_L4, if_neg (nI_ge (show f < nf by omega) (by omega)), ix_in (show f < 12 by omega) (by decide), hz, (needs_eq hz2).1, bd_e]
    dsimp only [lt_]
    rw [nI_1, nI_add, show (zN sz f + 511) / 512 = nN sz f from rfl, ih (f + 1) (a + nN sz f) M (by omega) (by omega) (by omega), ht, Nat.add_assoc]
theorem place_eq {S c nf N : Nat} {nm : Nat → Int64} {sz se sc nx fc hd fo : Nat → Int32} (hS : S ≤ 600) (hc : c + 2 ≤ S) (hN : 400000 ≤ N) (hnf : nf ≤ 12) (hok : FilesOk nf nm sz se) :
    (totC sz 0 nf ≤ c ∧ ∃ x y hx hy : Nat → Int32, f_Volume_placeFiles N (nI nf) (nI c) S nx sz sc fc = some (1, x, hx) ∧ f_Model_given N (nI nf) sc sz (nI c) hd fo = some (1, hy, y) ∧ fRel c x y ∧ x 0 = 4088 ∧ x 1 = 4095 ∧ placed sz c x y hx hy 0 nf) ∨
    (c < totC sz 0 nf ∧ ∃ h y : Nat → Int32, f_Volume_placeFiles N (nI nf) (nI c) S nx sz sc fc = some (0, nx, fc) ∧ f_Model_given N (nI nf) sc sz (nI c) hd fo = some (0, h, y)) := by
  have h1 : f_Volume_placeFiles N (nI nf) (nI c) S nx sz sc fc = _ := psum_loop (S := S) (N := N) (sc := sc) (nx := nx) (fc := fc) (show c ≤ 600 by omega) hnf hok nf 0 0 N (by omega) (by omega) (by omega)
  rw [Nat.zero_add] at h1
  obtain ⟨y0, e2, hy0⟩ := gzero_loop (N := N) (nf := nI nf) (c := nI c) (sc := sc) (sz := sz) (hd := hd) 700 0 N fo (by omega) (by omega) (fun j hj => absurd hj (by omega))
  have h2 : f_Model_given N (nI nf) sc sz (nI c) hd fo = _ := e2
  obtain ⟨x0, e1, hx0⟩ := fillI_loop (n := S) (by omega) (v := 0) S 0 N nx (by omega) (by omega) (fun j hj => absurd hj (by omega))
  have e1' : f_Arrays_fillI N S 0 nx = some x0 := e1
  have hx1 : ∀ k, 2 ≤ k → k < c + 2 → upd (upd x0 0 4088) 1 4095 k = 0 := fun k a b => by
    rw [pk_un (by omega), pk_un (by omega)]
    exact hx0 k (by omega)
  have hR : fRel c (upd (upd x0 0 4088) 1 4095) y0 := fun k a b => Or.inl ⟨0, by decide, hx1 k a b, hy0 k (by omega)⟩
  have hcnt : fcnt (upd (upd x0 0 4088) 1 4095) c = c := fcnt_all c hx1
  obtain ⟨fA, fB⟩ := files_loop (sc := sc) hS hc hN hnf hok nf 0 N N (upd (upd x0 0 4088) 1 4095) y0 fc hd (by omega) (by omega) (by omega) hR
  rw [hcnt] at fA fB
  by_cases h : totC sz 0 nf ≤ c
  · obtain ⟨x, y, hx, hy, a1, a2, hR2, -, hp, kx, ky⟩ := fA h
    refine Or.inl ⟨h, x, y, hx, hy, ?_, ?_, hR2, ?_, ?_, hp⟩
    · rw [h1, if_pos h, e1', bd_e, show (up_i S x0 0 4088 : ((Nat → Int32) → Option (Int32 × (Nat → Int32) × (Nat → Int32))) → _) = up_i S x0 (nI 0) 4088 from rfl, upi_in (show 0 < S by omega) (by omega), show (up_i S (upd x0 0 4088) 1 4095 : ((Nat → Int32) → Option (Int32 × (Nat → Int32) × (Nat → Int32))) → _) = up_i S (upd x0 0 4088) (nI 1) 4095 from rfl, upi_in (show 1 < S by omega) (by omega)]
      exact a1
    · rw [h2]; exact a2
    · rw [kx 0 (by rw [pk_un (by decide), pk_us]; decide), pk_un (by decide), pk_us]
    · rw [kx 1 (by rw [pk_us]; decide), pk_us]
  · obtain ⟨g, y, e⟩ := fB (by omega)
    refine Or.inr ⟨by omega, g, y, ?_, ?_⟩
    · rw [h1, if_neg h]
    · rw [h2]; exact e
/-! pure: write: the runs of the loader, on both sides -/
abbrev rGo (P : Nat → Nat) (i : Nat) : Prop := 0 < i ∧ P i = P (i - 1) + 1
/-- the number of runs among the first i clusters; where each begins; how long each is -/
def rN (P : Nat → Nat) : Nat → Nat
  | 0 => 0
  | i + 1 => if rGo P i then rN P i else rN P i + 1
def rS (P : Nat → Nat) : Nat → Nat → Nat
  | 0, _ => 0
  | i + 1, j => if rGo P i then rS P i j else if j = rN P i then P i else rS P i j
def rL (P : Nat → Nat) : Nat → Nat → Nat
  | 0, _ => 0
  | i + 1, j => if rGo P i then (if j + 1 = rN P i then rL P i j + 1 else rL P i j) else if j = rN P i then 1 else rL P i j
theorem rN_go {P : Nat → Nat} {i : Nat} (h : rGo P i) : rN P (i + 1) = rN P i := if_pos h
theorem rN_no {P : Nat → Nat} {i : Nat} (h : ¬ rGo P i) : rN P (i + 1) = rN P i + 1 := if_neg h
theorem rS_go {P : Nat → Nat} {i : Nat} (h : rGo P i) (j : Nat) : rS P (i + 1) j = rS P i j := if_pos h
theorem rS_no {P : Nat → Nat} {i : Nat} (h : ¬ rGo P i) (j : Nat) : rS P (i + 1) j = if j = rN P i then P i else rS P i j := if_neg h
theorem rL_go {P : Nat → Nat} {i : Nat} (h : rGo P i) (j : Nat) : rL P (i + 1) j = if j + 1 = rN P i then rL P i j + 1 else rL P i j := if_pos h
theorem rL_no {P : Nat → Nat} {i : Nat} (h : ¬ rGo P i) (j : Nat) : rL P (i + 1) j = if j = rN P i then 1 else rL P i j := if_neg h
theorem rN_le (P : Nat → Nat) : ∀ i, rN P i ≤ i
  | 0 => Nat.le_refl 0
  | i + 1 => by
    have := rN_le P i
    by_cases h : rGo P i
    · rw [rN_go h]; omega
    · rw [rN_no h]; omega
theorem rN_pos (P : Nat → Nat) : ∀ i, 0 < i → 0 < rN P i
  | 0, h => absurd h (by omega)
  | i + 1, _ => by
    by_cases h : rGo P i
    · rw [rN_go h]; exact rN_pos P i h.1
    · rw [rN_no h]; omega
theorem rL_le (P : Nat → Nat) : ∀ i j, rL P i j ≤ i
  | 0, _ => Nat.le_refl 0
  | i + 1, j => by
    have := rL_le P i j
    by_cases h : rGo P i
    · rw [rL_go h]
      by_cases e : j + 1 = rN P i
      · rw [if_pos e]; omega
      · rw [if_neg e]; omega
    · rw [rL_no h]
      by_cases e : j = rN P i
      · rw [if_pos e]; omega
      · rw [if_neg e]; omega
theorem rS_end (P : Nat → Nat) : ∀ i, 0 < i → rS P i (rN P i - 1) + rL P i (rN P i - 1) = P (i - 1) + 1
  | 0, h => absurd h (by omega)
  | i + 1, _ => by
    by_cases h : rGo P i
    · have ih := rS_end P i h.1
      have hp := rN_pos P i h.1
      rw [rN_go h, rS_go h, rL_go h, if_pos (show rN P i - 1 + 1 = rN P i by omega), Nat.add_sub_cancel, h.2]
      omega
    · rw [rN_no h, Nat.add_sub_cancel, rS_no h, rL_no h, if_pos rfl, if_pos rfl, Nat.add_sub_cancel]
theorem rS_lt {P : Nat → Nat} {n b : Nat} (hP : ∀ t, t < n → P t < b) : ∀ i j, i ≤ n → j < rN P i → rS P i j < b
  | 0, _, _, hj => absurd hj (Nat.not_lt_zero _)
  | i + 1, j, hi, hj => by
    by_cases h : rGo P i
    · rw [rN_go h] at hj
      rw [rS_go h]; exact rS_lt hP i j (by omega) hj
    · rw [rN_no h] at hj
      rw [rS_no h]
      by_cases e : j = rN P i
      · rw [if_pos e]; exact hP i (by omega)
      · rw [if_neg e]; exact rS_lt hP i j (by omega) (by omega)
theorem fol_eq {S k : Nat} {x : Nat → Int32} (hS : S ≤ 600) (hk : k < S) : f_Volume_follower (nI k) S x = some (x k) := by
  unfold f_Volume_follower
  rw [if_neg (nI_pos (by omega)), if_neg (show ¬ Int32.ofNat S ≤ nI k from nI_ge (a := k) (b := S) hk (by omega)), ix_in hk (by omega)]
/-- what the class holds of the first i clusters' runs -/
def rHas (P : Nat → Nat) (b i : Nat) (f g : Nat → Int32) : Prop := ∀ j, j < rN P i → f j = nI (b + rS P i j) ∧ g j = nI (rL P i j)
theorem find_loopR {S s t c n : Nat} {x y : Nat → Int32} {P : Nat → Nat} (hS : S ≤ 600) (hc : c + 2 ≤ S) (hs : s ≤ 600) (ht : t ≤ 2) (hn : n ≤ 18) (hP : chn x y P c 0 n) : ∀ (r i M : Nat) (cl : Int32) (f g : Nat → Int32), i + r = n → r < M → (i < n → cl = nI (P i)) → rHas P (s + 1 + 2 * t) i f g → ∃ f' g' : Nat → Int32, lp_ (fun _ _ _ _ _ => none) (f_Volume_findRuns_L16 (nI n) (nI s) (nI t) S x) M (nI i) cl (nI (rN P i)) f g = some (1, nI (rN P n), f', g') ∧ rHas P (s + 1 + 2 * t) n f' g' := by
  intro r
  induction r with
  | zero =>
    intro i M' cl f g hi hM hcl hr
    obtain ⟨M, rfl⟩ : ∃ M, M' = M + 1 := ⟨M' - 1, by omega⟩
    have e : i = n := by omega
    subst e
    rw [lp_s, f_Volume_findRuns_L16, if_pos (nI_le (Nat.le_refl i) (by omega))]
    exact ⟨f, g, rfl, hr⟩
  | succ r ih =>
    intro i M' cl f g hi hM hcl hr
    obtain ⟨M, rfl⟩ : ∃ M, M' = M + 1 := ⟨M' - 1, by omega⟩
    have hPi := hP.1 i (by omega) (by omega)
    have hNi := rN_le P i
    have hfol : i + 1 < n → x (P i) = nI (P (i + 1)) := fun h => (hP.2.1 i (by omega) h).1
    rw [hcl (by omega), lp_s, f_Volume_findRuns_L16, if_neg (nI_ge (show i < n by omega) (by omega)), vsec_eq, bd_e]
    dsimp only [lt_]
    rw [fol_eq hS (show P i < S by omega)]
    by_cases h0 : i = 0
    · have hg : ¬ rGo P i := fun q => absurd q.1 (by omega)
      rw [if_pos (show nI (rN P i) ≤ 0 from nI_le (b := 0) (by omega) (by decide)), if_pos (show nI (rN P i) < (20 : Int32) from nI_lt (b := 20) (by omega) (by decide)), upi_in (show rN P i < 20 by omega) (by decide), upi_in (show rN P i < 20 by omega) (by decide), bd_e, nI_1, nI_1, ← rN_no hg]
      refine ih (i + 1) M (x (P i)) _ _ (by omega) (by omega) hfol (fun j hj => ?_)
      rw [rN_no hg] at hj
      rw [rS_no hg, rL_no hg]
      by_cases e : j = rN P i
      · rw [if_pos e, if_pos e, e, pk_us, pk_us]; exact ⟨rfl, rfl⟩
      · rw [if_neg e, if_neg e, pk_un e, pk_un e]; exact hr j (by omega)
    · have hpos := rN_pos P i (by omega)
      have hpm := hP.1 (i - 1) (by omega) (by omega)
      have hend := rS_end P i (by omega)
      obtain ⟨r1, r2⟩ := hr (rN P i - 1) (by omega)
      have hLl := rL_le P i (rN P i - 1)
      rw [if_neg (show ¬ nI (rN P i) ≤ 0 from nI_nle hpos (by omega)), show nI (rN P i) - 1 = nI (rN P i - 1) from pk_sub (b := 1) (by omega), ix_in (show rN P i - 1 < 20 by omega) (by decide), ix_in (show rN P i - 1 < 20 by omega) (by decide), r1, r2, nI_add, show s + 1 + 2 * t + rS P i (rN P i - 1) + rL P i (rN P i - 1) = s + 1 + 2 * t + (P (i - 1) + 1) by omega]
      by_cases hg : rGo P i
      · have eP := hg.2
        rw [if_neg (show ¬ ¬ nI (s + 1 + 2 * t + (P (i - 1) + 1)) = nI (s + 1 + 2 * t + P i) from fun q => q (by rw [eP])), ix_in (show rN P i - 1 < 20 by omega) (by decide), r2, nI_1, upi_in (show rN P i - 1 < 20 by omega) (by decide), bd_e, nI_1, ← rN_go hg]
        refine ih (i + 1) M (x (P i)) _ _ (by omega) (by omega) hfol (fun j hj => ?_)
        rw [rN_go hg] at hj ⊢
        rw [rS_go hg, rL_go hg]
        by_cases e : j + 1 = rN P i
        · have e' : j = rN P i - 1 := by omega
          rw [if_pos e, ← e', pk_us]
          exact ⟨(hr j hj).1, rfl⟩
        · rw [if_neg e, pk_un (by omega)]
          exact hr j hj
      · have nP : ¬ nI (s + 1 + 2 * t + (P (i - 1) + 1)) = nI (s + 1 + 2 * t + P i) := fun q => hg ⟨by omega, by have := (nI_eq (by omega) (by omega)).mp q; omega⟩
        rw [if_pos nP, if_pos (show nI (rN P i) < (20 : Int32) from nI_lt (b := 20) (by omega) (by decide)), upi_in (show rN P i < 20 by omega) (by decide), upi_in (show rN P i < 20 by omega) (by decide), bd_e, nI_1, nI_1, ← rN_no hg]
        refine ih (i + 1) M (x (P i)) _ _ (by omega) (by omega) hfol (fun j hj => ?_)
        rw [rN_no hg] at hj
        rw [rS_no hg, rL_no hg]
        by_cases e : j = rN P i
        · rw [if_pos e, if_pos e, e, pk_us, pk_us]; exact ⟨rfl, rfl⟩
        · rw [if_neg e, if_neg e, pk_un e, pk_un e]; exact hr j (by omega)
theorem findRuns_eq {S s t c n k z N : Nat} {x y hx ra rb : Nat → Int32} {P : Nat → Nat} (hS : S ≤ 600) (hc : c + 2 ≤ S) (hs : s ≤ 600) (ht : t ≤ 2) (hN : 400000 ≤ N) (hz : z ≤ 9000) (hzn : (z + 511) / 512 = n) (hP : chn x y P c 0 n) (hk : k < 12) (hh : hx k = if 0 < n then nI (P 0) else 0) : ∃ f' g' : Nat → Int32, f_Volume_findRuns N hx (nI k) (nI z) (nI s) (nI t) S x 0 ra rb = some (1, nI (rN P n), f', g') ∧ rHas P (s + 1 + 2 * t) n f' g' := by
  unfold f_Volume_findRuns
  rw [ix_in hk (by decide), (needs_eq hz).1, bd_e, hzn]
  exact find_loopR hS hc hs ht (by omega) hP n 0 N (hx k) ra rb (by omega) (by omega) (fun q => by rw [hh, if_pos q]) (fun j hj => absurd hj (Nat.not_lt_zero _))
theorem chn_path {x y : Nat → Int32} {P : Nat → Nat} {c n : Nat} (hc : c ≤ 600) (h : chn x y P c 0 n) : pathM y P n := ⟨fun i hi => by have := h.1 i (by omega) hi; omega, fun i hi => (h.2.1 i (by omega) hi).2⟩
theorem runs_loop {s t n k z N : Nat} {y hy sz : Nat → Int32} {P : Nat → Nat} (hs : s ≤ 600) (ht : t ≤ 2) (hN : 400000 ≤ N) (hz : sz k = nI z) (hz2 : z ≤ 9000) (hzn : (z + 511) / 512 = n) (hP : pathM y P n) (hk : k < 12) (hh : hy k = if 0 < n then nI (P 0) else 0) : ∀ (r i M : Nat), i + r = n → r < M → lp_ (fun _ _ => none) (f_Model_runs_L4 N sz (nI k) hy (nI s) (nI t) y) M (nI i) (nI (rN P i)) = some (nI (rN P n)) := by
  intro r
  induction r with
  | zero =>
    intro i M' hi hM
    obtain ⟨M, rfl⟩ : ∃ M, M' = M + 1 := ⟨M' - 1, by omega⟩
    have e : i = n := by omega
    subst e
    rw [lp_s, f_Model_runs_L4, ix_in hk (by decide), hz, (needs_eq hz2).2, bd_e, hzn, if_pos (nI_le (Nat.le_refl i) (by omega))]
  | succ r ih =>
    intro i M' hi hM
    obtain ⟨M, rfl⟩ : ∃ M, M' = M + 1 := ⟨M' - 1, by omega⟩
    rw [lp_s, f_Model_runs_L4, ix_in hk (by decide), hz, (needs_eq hz2).2, bd_e, hzn, if_neg (nI_ge (show i < n by omega) (by omega))]
    dsimp only [lt_]
    rw [nI_1, nI_1]
    by_cases h0 : i = 0
    · have hg : ¬ rGo P i := fun q => absurd q.1 (by omega)
      rw [if_pos (show nI i = 0 by rw [h0]; rfl), ← rN_no hg]
      exact ih (i + 1) M (by omega) (by omega)
    · have hh' : hy k = nI (P 0) := by rw [hh, if_pos (by omega)]
      have p1 := hP.1 i (by omega)
      have p2 := hP.1 (i - 1) (by omega)
      rw [if_neg (nI_ne0 (by omega) (by omega)), msec_eq hP (show i < n by omega) (by omega) hN hk hh', bd_e, show nI i - 1 = nI (i - 1) from pk_sub (b := 1) (by omega), msec_eq hP (show i - 1 < n by omega) (by omega) hN hk hh', bd_e, nI_1]
      by_cases hg : rGo P i
      · rw [if_pos (by rw [hg.2]; exact congrArg nI (by omega)), show nI (rN P i) + 0 = nI (rN P i) from nI_add _ 0, ← rN_go hg]
        exact ih (i + 1) M (by omega) (by omega)
      · rw [if_neg (fun q => hg ⟨by omega, by have := (nI_eq (by omega) (by omega)).mp q; omega⟩), ← rN_no hg]
        exact ih (i + 1) M (by omega) (by omega)
theorem runs_eq {s t n k z N : Nat} {y hy sz : Nat → Int32} {P : Nat → Nat} (hs : s ≤ 600) (ht : t ≤ 2) (hN : 400000 ≤ N) (hz : sz k = nI z) (hz2 : z ≤ 9000) (hzn : (z + 511) / 512 = n) (hP : pathM y P n) (hk : k < 12) (hh : hy k = if 0 < n then nI (P 0) else 0) : f_Model_runs N sz (nI k) hy (nI s) (nI t) y = some (nI (rN P n)) := runs_loop hs ht hN hz hz2 hzn hP hk hh n 0 N (by omega) (by omega)
