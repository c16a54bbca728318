/-! pure: the constructors' values -/
theorem nw_in {β : Type} {B n : Nat} {K : Nat → Option β} (hn : n ≤ B) (hB : B < 2 ^ 31) : nw_ B (nI n) K = K n := by
  unfold nw_
  rw [nI_clamp (by omega), if_neg (fun q => q.elim (nI_pos (by omega)) (fun q => absurd hn (by omega)))]
theorem sect_of (a : Int32) : ∃ S : Nat, 100 ≤ S ∧ S ≤ 600 ∧ ∀ {β : Type} (F : Int32 → Option β), (if a < (100 : Int32) then F 200 else if (600 : Int32) < a then F 200 else F a) = F (nI S) := by
  by_cases h1 : a < 100
  · exact ⟨200, by decide, by decide, fun F => by rw [if_pos h1]; rfl⟩
  · by_cases h2 : 600 < a
    · exact ⟨200, by decide, by decide, fun F => by rw [if_neg h1, if_pos h2]; rfl⟩
    · obtain ⟨n, q1, q2, e⟩ := i32_in (a := a) (lo := 100) (hi := 600) (by decide) (Int32.not_lt.mp h1) (Int32.not_lt.mp h2) (by decide)
      exact ⟨n, q1, q2, fun F => by rw [if_neg h1, if_neg h2, e]⟩
theorem init_eq {N : Nat} (hN : 400000 ≤ N) (a : Int32) : ∃ (S : Nat) (T : Nat → Int32), (100 ≤ S ∧ S ≤ 600) ∧ isT T ∧ f_BootMaker_init N a = some (nI (512 * S), 64 * S, (fun _ => 0), 0, T, nI S - 33 - 1, 0, 0, 0, (fun _ => 0), (fun _ => 0), (fun _ => 0), (fun _ => 0), (fun _ => 0), (fun _ => 0), (fun _ => 0), nI S, 0, 0, 0, 0, 0, (fun _ => 0), (fun _ => 0), (fun _ => 0), S, (fun _ => 0), nI S, 0, 0, 0, 0, (-1), (-1), (-1), nI 65536, 8192, (fun _ => 0), (fun _ => 0), S, (fun _ => 0)) ∧ f_Model_init a = some (0, nI S, 0, 0, 0, 0, 0, 0, 0, (-1), (-1), (-1), 0, (fun _ => 0), (fun _ => 0), (fun _ => 0), (fun _ => 0), (fun _ => 0), (fun _ => 0), (fun _ => 0), (fun _ => 0), (fun _ => 0), (fun _ => 0), (fun _ => 0)) := by
  obtain ⟨S, h1, h2, hF⟩ := sect_of a
  obtain ⟨T, hT, hT'⟩ := sinit_eq (N := N) (by omega)
  refine ⟨S, T, ⟨h1, h2⟩, hT', ?_, ?_⟩
  · unfold f_BootMaker_init
    dsimp only [lt_]
    refine (hF (fun x49 => bd_ (f_Store_init (x49 * 512)) (fun u52 => bd_ (f_Sums_init N) (fun u55 => bd_ (f_Plan_init x49) (fun u58 => bd_ (f_Writer_init x49) (fun u61 => bd_ (f_Firmware_init x49) (fun u64 => some (u52.1, u52.2.1, u52.2.2, u55.1, u55.2, u58.1, u58.2.1, u58.2.2.1, u58.2.2.2.1, u58.2.2.2.2.1, u58.2.2.2.2.2.1, u58.2.2.2.2.2.2.1, u58.2.2.2.2.2.2.2.1, u58.2.2.2.2.2.2.2.2.1, u58.2.2.2.2.2.2.2.2.2.1, u58.2.2.2.2.2.2.2.2.2.2, u61.1, u61.2.1, u61.2.2.1, u61.2.2.2.1, u61.2.2.2.2.1, u61.2.2.2.2.2.1, u61.2.2.2.2.2.2.1, u61.2.2.2.2.2.2.2.1, u61.2.2.2.2.2.2.2.2.1, u61.2.2.2.2.2.2.2.2.2.1, u61.2.2.2.2.2.2.2.2.2.2, u64.1, u64.2.1, u64.2.2.1, u64.2.2.2.1, u64.2.2.2.2.1, u64.2.2.2.2.2.1, u64.2.2.2.2.2.2.1, u64.2.2.2.2.2.2.2.1, u64.2.2.2.2.2.2.2.2.1, u64.2.2.2.2.2.2.2.2.2.1, u64.2.2.2.2.2.2.2.2.2.2.1, u64.2.2.2.2.2.2.2.2.2.2.2.1, u64.2.2.2.2.2.2.2.2.2.2.2.2.1, u64.2.2.2.2.2.2.2.2.2.2.2.2.2)))))))).trans ?_
    unfold f_Store_init f_Plan_init f_Writer_init f_Volume_init f_Firmware_init f_Store_init
    dsimp only [lt_]
    rw [show nI S * 512 = nI (512 * S) by rw [show nI S * 512 = nI (S * 512) from pk_mul S 512, Nat.mul_comm], show nI (512 * S) + 7 = nI (512 * S + 7) from nI_add _ 7, show nI (512 * S + 7) / 8 = nI ((512 * S + 7) / 8) from pk_div (d := 8) (by omega) (by decide) (by decide), show (512 * S + 7) / 8 = 64 * S by omega, nw_in (show 64 * S ≤ 38400 by omega) (by decide), bd_e, hT, bd_e, bd_e, nw_in h2 (by decide), bd_e, bd_e, show ((65536 : Int32) + 7) / 8 = nI 8192 by decide, nw_in (show 8192 ≤ 38400 by decide) (by decide), bd_e, nw_in h2 (by decide), bd_e]
    rfl
  · unfold f_Model_init
    dsimp only [lt_]
    exact hF (fun x => some (0, x, 0, 0, 0, 0, 0, 0, 0, (-1), (-1), (-1), 0, (fun _ => 0), (fun _ => 0), (fun _ => 0), (fun _ => 0), (fun _ => 0), (fun _ => 0), (fun _ => 0), (fun _ => 0), (fun _ => 0), (fun _ => 0), (fun _ => 0)))
