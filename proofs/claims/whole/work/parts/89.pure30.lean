/-! pure: boot, alike -/
def bEnd (N : Nat) (t_disk : Nat → Int32) (x55 : Int32) (t_sectors : Int32) (a1 : Int32) (x65 : Nat → Int32) : Option (Int32 × Int32 × Int32 × Int32 × Int32 × Int32 × Int32 × (Nat → Int32)) :=
  bd_ (f_Model_get t_disk 510) (fun u74 => if ¬ u74 = (85 : Int32) then some (1, x55, 0, (-1), (-1), (-1), 1, x65) else bd_ (f_Model_get t_disk 511) (fun u75 => if u75 = (170 : Int32) then lt_ (fun (x78 : Int32) (x79 : Int32) (x80 : Int32) => if x78 ≤ 0 then bd_ (f_Model_loaded N x80 t_disk (-1) (-1) x65 t_sectors) (fun u81 => some (u81.1, x55, x79, x80, u81.2.1, u81.2.2.1, 1, u81.2.2.2)) else some (x78, x55, x79, x80, (-1), (-1), 1, x65)) (fun (j116 : Int32 → Int32 → Int32 → Option (Int32 × Int32 × Int32 × Int32 × Int32 × Int32 × Int32 × (Nat → Int32))) => if ¬ a1 = 0 then bd_ (f_Model_byLoader N t_disk (-1) t_sectors) (fun u82 => j116 u82.1 0 u82.2) else bd_ (f_Model_byTable N t_disk t_sectors (-1) 0) (fun u83 => j116 u83.1 u83.2.1 u83.2.2)) else some (1, x55, 0, (-1), (-1), (-1), 1, x65)))
theorem mclear_loop {N : Nat} {d : Nat → Int32} {x55 S a1 : Int32} : ∀ (r i M : Nat) (m : Nat → Int32), i + r = 65536 → r < M → (∀ q, q < i → mB m q = 0) → ∃ m' : Nat → Int32, lp_ (fun _ _ => none) (f_Model_boot_L55 N d x55 S a1) M (nI i) m = bEnd N d x55 S a1 m' ∧ ∀ q, q < 65536 → mB m' q = 0 := by
  intro r
  induction r with
  | zero =>
    intro i M' m hi hM hm
    obtain ⟨M, rfl⟩ : ∃ M, M' = M + 1 := ⟨M' - 1, by omega⟩
    have e : i = 65536 := by omega
    subst e
    rw [lp_s, f_Model_boot_L55, if_pos (show (65536 : Int32) ≤ nI 65536 by decide)]
    exact ⟨m, rfl, hm⟩
  | succ r ih =>
    intro i M' m hi hM hm
    obtain ⟨M, rfl⟩ : ∃ M, M' = M + 1 := ⟨M' - 1, by omega⟩
    rw [lp_s, f_Model_boot_L55, if_neg (show ¬ (65536 : Int32) ≤ nI i from nI_ge (b := 65536) (by omega) (by decide)), upb_in (by omega) (by decide)]
    dsimp only [lt_]
    rw [nI_1]
    refine ih (i + 1) M _ (by omega) (by omega) (fun q hq => ?_)
    rw [mB_updn]
    by_cases h : q = i
    · rw [if_pos h]; decide
    · rw [if_neg h]; exact hm q (by omega)
set_option maxHeartbeats 1000000 in
theorem start_eq {S N : Nat} {w m : Nat → Int64} {d mem ch ls T : Nat → Int32} {ts cs a1 u h0 f0 k0 z0 y0 : Int32} (hS : 100 ≤ S ∧ S ≤ 600) (hN : 400000 ≤ N) (hT : isT T) (hD : Alike_ S w d) (ha : a1 = 0 ∨ a1 = 1) : ∃ (r T' C' h b kA kS u' : Int32) (ls' ch' : Nat → Int32) (m' : Nat → Int64) (mem' : Nat → Int32), f_Firmware_start N 8192 m (nI (512 * S)) (64 * S) w (nI S) ch S (nI 65536) ts cs a1 ls u T = some (r, T', C', 1, h, b, kA, kS, ls', ch', m', u') ∧ f_Model_boot N a1 d (nI S) mem h0 f0 k0 z0 y0 = some (r, 0, h, b, kA, kS, 1, mem') ∧ ∀ q, q < 65536 → gB m' q = mB mem' q := by
  obtain ⟨g, hg, hg0⟩ := clear_eq (n := 8192) (N := N) (w := m) (by decide) (by omega)
  obtain ⟨mem1, hm1, hm0⟩ := mclear_loop (N := N) (d := d) (x55 := 0) (S := nI S) (a1 := a1) 65536 0 N mem (by decide) (by omega) (fun q hq => absurd hq (by omega))
  have hM : ∀ q, q < 65536 → gB g q = mB mem1 q := fun q hq => by rw [hg0 q hq, hm0 q hq]
  have hin : f_Model_in a1 0 1 = some 1 := by rcases ha with e | e <;> subst e <;> rfl
  have hB : f_Model_boot N a1 d (nI S) mem h0 f0 k0 z0 y0 = bEnd N d 0 (nI S) a1 mem1 := by
    unfold f_Model_boot
    rw [hin, bd_e]
    dsimp only [lt_]
    rw [if_neg (show ¬ (1 : Int32) = 0 by decide), if_pos (show ¬ (0 : Int32) = 1 by decide)]
    exact hm1
  rw [hB]
  unfold f_Firmware_start f_Firmware_forget bEnd
  obtain ⟨z, hz, hh⟩ := isBoot_eq (N := N) (w := w) (s := 0) hS (by omega) (by omega)
  have hz' : f_Store_isBootSector N 0 (nI (512 * S)) (64 * S) w = some z := hz
  rw [hg, bd_e, bd_e, hz', bd_e, show (510 : Int32) = nI 510 from rfl, show (511 : Int32) = nI 511 from rfl, mget_in (by decide), bd_e, mget_in (by decide), bd_e]
  dsimp only [lt_]
  rw [show 512 * 0 + 510 = 510 from rfl, show 512 * 0 + 511 = 511 from rfl, hD 510 (by omega), hD 511 (by omega)] at hh
  rcases hh with ⟨e, p1, p2⟩ | ⟨e, p⟩
  case inr =>
    rw [e, if_neg (show ¬ ¬ (0 : Int32) = 0 by decide)]
    refine ⟨1, _, _, 0, -1, -1, -1, _, _, _, g, mem1, rfl, ?_, hM⟩
    by_cases q1 : nI (mB d 510) = 85
    · rw [if_neg (show ¬ ¬ nI (mB d 510) = 85 from fun q => q q1), if_neg (fun q => p ⟨q1, q⟩)]
    · rw [if_pos q1]
  rw [e, if_pos (show ¬ (1 : Int32) = 0 by decide), if_neg (show ¬ ¬ nI (mB d 510) = 85 from fun q => q p1), if_pos p2]
  rcases ha with e1 | e1
  · subst e1
    rw [if_neg (show ¬ ¬ (0 : Int32) = 0 by decide), if_neg (show ¬ ¬ (0 : Int32) = 0 by decide)]
    obtain ⟨r, h, b, u', t1, t2, t3, t4⟩ := table_eq hS hN hT hD u
    rw [t1, bd_e, t2, bd_e]
    dsimp only
    by_cases hr : r = 0
    · obtain ⟨f, hf, eb⟩ := t3 hr
      obtain ⟨r2, T', C', kA, kS, ch', m', mem', l1, l2, l3⟩ := load_eq (ch := ch) (kA := -1) (kS := -1) hS hf hN hD hM
      rw [if_pos hr, if_pos (show r ≤ 0 by rw [hr]; decide), eb, l1, bd_e, l2, bd_e]
      exact ⟨r2, T', C', h, nI f, kA, kS, u', ls, ch', m', mem', rfl, rfl, l3⟩
    · rw [if_neg hr, if_neg (show ¬ r ≤ 0 by rcases t4 with q | q | q | q <;> first | exact absurd q hr | (rw [q]; decide))]
      exact ⟨r, ts, cs, h, b, -1, -1, u', ls, ch, g, mem1, rfl, rfl, hM⟩
  · subst e1
    rw [if_pos (show ¬ (1 : Int32) = 0 by decide), if_pos (show ¬ (1 : Int32) = 0 by decide)]
    obtain ⟨r, b, u', ls', t1, t2, t3⟩ := loader_eq hS hN hT hD u ls
    rw [t1, bd_e, t2, bd_e]
    dsimp only
    rcases t3 with ⟨hr, f, hf, eb⟩ | ⟨hr, eb⟩
    · obtain ⟨r2, T', C', kA, kS, ch', m', mem', l1, l2, l3⟩ := load_eq (ch := ch) (kA := -1) (kS := -1) hS hf hN hD hM
      rw [if_pos hr, if_pos (show r ≤ 0 by rw [hr]; decide), eb, l1, bd_e, l2, bd_e]
      exact ⟨r2, T', C', 0, nI f, kA, kS, u', ls', ch', m', mem', rfl, rfl, l3⟩
    · rw [if_neg (show ¬ r = 0 by rw [hr]; decide), if_neg (show ¬ r ≤ 0 by rw [hr]; decide)]
      exact ⟨r, ts, cs, 0, b, -1, -1, u', ls', ch, g, mem1, rfl, rfl, hM⟩
