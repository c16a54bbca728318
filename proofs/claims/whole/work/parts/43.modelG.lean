def wd_Model_runAt (g : GT) (t_o : Nat) (t_disk_a : Nat) (t_sort_a : Nat) (t_first_a : Nat) (t_many_a : Nat) (t_name_a : Nat) (t_size_a : Nat) (t_seed_a : Nat) (t_scattered_a : Nat) (t_head_a : Nat) (t_follows_a : Nat) (t_memory_a : Nat) (t_thrown : Int32) (t_sectors : Int32) (t_partitions : Int32) (t_files : Int32) (t_address : Int32) (t_start : Int32) (t_fat : Int32) (t_clusters : Int32) (t_header : Int32) (t_found : Int32) (t_kernelAt : Int32) (t_kernelSize : Int32) (t_any : Int32) (t_disk : Nat → Int32) : va_W := [(t_o, .inr (7, [.int t_thrown, .int t_sectors, .ref t_disk_a, .int t_partitions, .ref t_sort_a, .ref t_first_a, .ref t_many_a, .int t_files, .ref t_name_a, .ref t_size_a, .ref t_seed_a, .ref t_scattered_a, .int t_address, .int t_start, .int t_fat, .int t_clusters, .ref t_head_a, .ref t_follows_a, .int t_header, .int t_found, .int t_kernelAt, .int t_kernelSize, .int t_any, .ref t_memory_a])), (t_disk_a, .inl (g.2.2.2.2, 307200, .inl t_disk))]
def f_Model_runAt_L4 (N : Nat) (t_disk : Nat → Int32) (k4 : Int32 → Int32 → Option (Int32)) (x51 : Int32) (x52 : Int32) : Option (Int32) :=
  bd_ (f_Model_get t_disk 64) (fun u65 => if u65 ≤ x51 then some ((-1)) else lt_ ((6 : Int32) * x51) (fun v66 => lt_ ((69 : Int32) + v66) (fun v67 => bd_ (f_Model_lowAt N 2 v67 t_disk) (fun u68 => lt_ (u68.toInt32) (fun v69 => if v69 ≤ x52 then lt_ (x52 - v69) (fun v70 => lt_ (x51 + 1) (fun v71 => k4 v71 v70)) else lt_ ((6 : Int32) * x51) (fun v72 => lt_ ((65 : Int32) + v72) (fun v73 => bd_ (f_Model_lowAt N 4 v73 t_disk) (fun u74 => lt_ (u74.toInt32) (fun v75 => lt_ (v75 + x52) (fun v76 => some (v76)))))))))))
def f_Model_runAt (N : Nat) (t_disk : Nat → Int32) (a1 : Int32) : Option (Int32) :=
  lp_ (fun _ _ => none) (f_Model_runAt_L4 N t_disk) N 0 a1
def rm_Model_runAt : Room := { frames := 2, cells := 0, slots := 0, locals := 46 }
set_option maxHeartbeats 4000000 in
set_option maxRecDepth 100000 in
theorem c_Model_runAt (l : Launch) (g : GT) (E : (Nat → Prop) → State → Prop) (hEe : Ee E) (t_o : Nat) (t_disk_a : Nat) (t_sort_a : Nat) (t_first_a : Nat) (t_many_a : Nat) (t_name_a : Nat) (t_size_a : Nat) (t_seed_a : Nat) (t_scattered_a : Nat) (t_head_a : Nat) (t_follows_a : Nat) (t_memory_a : Nat) (t_thrown : Int32) (t_sectors : Int32) (t_partitions : Int32) (t_files : Int32) (t_address : Int32) (t_start : Int32) (t_fat : Int32) (t_clusters : Int32) (t_header : Int32) (t_found : Int32) (t_kernelAt : Int32) (t_kernelSize : Int32) (t_any : Int32) (t_disk : Nat → Int32) (a1 : Int32) (N : Nat) (z : Int32) (hf : f_Model_runAt N t_disk a1 = some z) : Cg l g E y_Model_runAt ws_Model_runAt rm_Model_runAt [.ref t_o, .int a1] (wd_Model_runAt g t_o t_disk_a t_sort_a t_first_a t_many_a t_name_a t_size_a t_seed_a t_scattered_a t_head_a t_follows_a t_memory_a t_thrown t_sectors t_partitions t_files t_address t_start t_fat t_clusters t_header t_found t_kernelAt t_kernelSize t_any t_disk) (some (.int z)) (wd_Model_runAt g t_o t_disk_a t_sort_a t_first_a t_many_a t_name_a t_size_a t_seed_a t_scattered_a t_head_a t_follows_a t_memory_a t_thrown t_sectors t_partitions t_files t_address t_start t_fat t_clusters t_header t_found t_kernelAt t_kernelSize t_any t_disk) := by
  refine Ct.ofI hEe good_W (by decide) rfl (Nat.le_of_ble_eq_true rfl) ?_
  intro p e s m args below meth c A ls Q hC hw hl hret
  have hC : CX p m c b_Model_runAt 5 s args Wall R_Model g.1 classes (tK g) E A := hC
  have hl : lv_has ls 5 [(0, .ref t_o), (1, .int a1)] := hl
  unfold f_Model_runAt at hf
  refine n_iload_n hC hl 1 d_Model_runAt_0 rfl rfl ?_
  refine n_istore_n hC [(2, .int a1), (0, .ref t_o), (1, .int a1)] hl d_Model_runAt_1 rfl (by decide) rfl (fun ls hl => ?_)
  refine n_iconst hC 0 d_Model_runAt_2 (by decide) ?_
  refine n_istore_n hC [(3, .int 0), (2, .int a1), (0, .ref t_o), (1, .int a1)] hl d_Model_runAt_3 rfl (by decide) rfl (fun ls hl => ?_)
  have hL4 := lw2 (B := f_Model_runAt_L4 N t_disk) (z := z) (fun (x51 : Int32) (x52 : Int32) => ∀ (H : Heap) (locs : List Loc) (ls : Array Slot), WS g.1 classes A s.heap H locs (wd_Model_runAt g t_o t_disk_a t_sort_a t_first_a t_many_a t_name_a t_size_a t_seed_a t_scattered_a t_head_a t_follows_a t_memory_a t_thrown t_sectors t_partitions t_files t_address t_start t_fat t_clusters t_header t_found t_kernelAt t_kernelSize t_any t_disk) → lv_has ls 5 [(3, .int x51), (2, .int x52), (0, .ref t_o)] → W p l e rm_Model_runAt s m args below meth c H locs 0 0 Q (F0 m 4 ls [])) (by
    intro k4 hk4 x51 x52 hf H locs ls hw hl
    unfold f_Model_runAt_L4 at hf
    refine n_iload_n hC hl 0 d_Model_runAt_4 rfl rfl ?_
    refine n_aload_n hC hl 2 d_Model_runAt_5 rfl rfl ?_
    refine n_bipush hC 64 d_Model_runAt_6 (by decide) ?_
    obtain ⟨u65, hu65, hf⟩ := bd_s hf
    refine n_callVi hC hw fc_Model_64 (c_Model_get l g E hEe t_o t_disk_a t_sort_a t_first_a t_many_a t_name_a t_size_a t_seed_a t_scattered_a t_head_a t_follows_a t_memory_a t_thrown t_sectors t_partitions t_files t_address t_start t_fat t_clusters t_header t_found t_kernelAt t_kernelSize t_any t_disk 64 u65 hu65) [0, 1] (wd_Model_runAt g t_o t_disk_a t_sort_a t_first_a t_many_a t_name_a t_size_a t_seed_a t_scattered_a t_head_a t_follows_a t_memory_a t_thrown t_sectors t_partitions t_files t_address t_start t_fat t_clusters t_header t_found t_kernelAt t_kernelSize t_any t_disk) 0 rfl ⟨rfl, rfl⟩ ⟨Nat.le_of_ble_eq_true rfl, Nat.le_of_ble_eq_true rfl⟩ rfl (At_.cons rfl (At_.cons rfl At_.nil)) (At_.cons rfl (At_.cons rfl At_.nil)) Sm_.refl rfl hl.1 (Nat.le_of_ble_eq_true rfl) ⟨Nat.zero_le _, Nat.zero_le _⟩ d_Model_runAt_8 (fun H locs hw => ?_) rfl
    refine n_icmp_ge hC hf 62 d_Model_runAt_11 (by decide) (fun hf => ?_) (fun hf => ?_)
    · refine n_iconst hC (-1) d_Model_runAt_62 (by decide) ?_
      cases hf
      exact hret _ _ _ _ hw rfl d_Model_runAt_63
    · refine n_aload_n hC hl 2 d_Model_runAt_14 rfl rfl ?_
      refine n_bipush hC 69 d_Model_runAt_15 (by decide) ?_
      refine n_bipush hC 6 d_Model_runAt_17 (by decide) ?_
      refine n_iload_n hC hl 0 d_Model_runAt_19 rfl rfl ?_
      refine n_imul hC hf d_Model_runAt_20 (fun v66 hf => ?_)
      refine n_iadd hC hf d_Model_runAt_21 (fun v67 hf => ?_)
      refine n_iconst hC 2 d_Model_runAt_22 (by decide) ?_
      obtain ⟨u68, hu68, hf⟩ := bd_s hf
      refine n_callVl hC hw fc_Model_162 (c_Model_lowAt l g E hEe t_o t_disk_a t_sort_a t_first_a t_many_a t_name_a t_size_a t_seed_a t_scattered_a t_head_a t_follows_a t_memory_a t_thrown t_sectors t_partitions t_files t_address t_start t_fat t_clusters t_header t_found t_kernelAt t_kernelSize t_any t_disk v67 2 N u68 hu68) [0, 1] (wd_Model_runAt g t_o t_disk_a t_sort_a t_first_a t_many_a t_name_a t_size_a t_seed_a t_scattered_a t_head_a t_follows_a t_memory_a t_thrown t_sectors t_partitions t_files t_address t_start t_fat t_clusters t_header t_found t_kernelAt t_kernelSize t_any t_disk) 0 rfl ⟨rfl, rfl⟩ ⟨Nat.le_of_ble_eq_true rfl, Nat.le_of_ble_eq_true rfl⟩ rfl (At_.cons rfl (At_.cons rfl At_.nil)) (At_.cons rfl (At_.cons rfl At_.nil)) Sm_.refl rfl hl.1 (Nat.le_of_ble_eq_true rfl) ⟨Nat.zero_le _, Nat.zero_le _⟩ d_Model_runAt_23 (fun H locs hw => ?_) rfl
      refine n_l2i hC hf d_Model_runAt_26 (fun v69 hf => ?_)
      refine n_istore hC [(4, .int v69), (3, .int x51), (2, .int x52), (0, .ref t_o)] hl d_Model_runAt_27 (by decide) rfl (fun ls hl => ?_)
      refine n_iload_n hC hl 2 d_Model_runAt_29 rfl rfl ?_
      refine n_iload hC hl 0 d_Model_runAt_30 rfl ?_
      refine n_icmp_ge hC hf 51 d_Model_runAt_32 (by decide) (fun hf => ?_) (fun hf => ?_)
      · refine n_iload_n hC hl 2 d_Model_runAt_51 rfl rfl ?_
        refine n_iload hC hl 0 d_Model_runAt_52 rfl ?_
        refine n_isub hC hf d_Model_runAt_54 (fun v70 hf => ?_)
        refine n_istore_n hC [(2, .int v70), (4, .int v69), (3, .int x51), (0, .ref t_o)] hl d_Model_runAt_55 rfl (by decide) rfl (fun ls hl => ?_)
        refine n_iinc hC (k := 2) hf (by decide) (fun v71 => [(3, .int v71), (2, .int v70), (4, .int v69), (0, .ref t_o)]) hl d_Model_runAt_56 rfl (by decide) (fun _ => rfl) (fun v71 ls hf hl => ?_)
        refine n_goto hC 4 d_Model_runAt_59 (by decide) ?_
        exact hk4 _ _ hf _ _ _ hw (lv_sub hl [0, 1, 3] rfl)
      · refine n_aload_n hC hl 3 d_Model_runAt_35 rfl rfl ?_
        refine n_bipush hC 65 d_Model_runAt_36 (by decide) ?_
        refine n_bipush hC 6 d_Model_runAt_38 (by decide) ?_
        refine n_iload_n hC hl 1 d_Model_runAt_40 rfl rfl ?_
        refine n_imul hC hf d_Model_runAt_41 (fun v72 hf => ?_)
        refine n_iadd hC hf d_Model_runAt_42 (fun v73 hf => ?_)
        refine n_iconst hC 4 d_Model_runAt_43 (by decide) ?_
        obtain ⟨u74, hu74, hf⟩ := bd_s hf
        refine n_callVl hC hw fc_Model_162 (c_Model_lowAt l g E hEe t_o t_disk_a t_sort_a t_first_a t_many_a t_name_a t_size_a t_seed_a t_scattered_a t_head_a t_follows_a t_memory_a t_thrown t_sectors t_partitions t_files t_address t_start t_fat t_clusters t_header t_found t_kernelAt t_kernelSize t_any t_disk v73 4 N u74 hu74) [0, 1] (wd_Model_runAt g t_o t_disk_a t_sort_a t_first_a t_many_a t_name_a t_size_a t_seed_a t_scattered_a t_head_a t_follows_a t_memory_a t_thrown t_sectors t_partitions t_files t_address t_start t_fat t_clusters t_header t_found t_kernelAt t_kernelSize t_any t_disk) 0 rfl ⟨rfl, rfl⟩ ⟨Nat.le_of_ble_eq_true rfl, Nat.le_of_ble_eq_true rfl⟩ rfl (At_.cons rfl (At_.cons rfl At_.nil)) (At_.cons rfl (At_.cons rfl At_.nil)) Sm_.refl rfl hl.1 (Nat.le_of_ble_eq_true rfl) ⟨Nat.zero_le _, Nat.zero_le _⟩ d_Model_runAt_44 (fun H locs hw => ?_) rfl
        refine n_l2i hC hf d_Model_runAt_47 (fun v75 hf => ?_)
        refine n_iload_n hC hl 2 d_Model_runAt_48 rfl rfl ?_
        refine n_iadd hC hf d_Model_runAt_49 (fun v76 hf => ?_)
        cases hf
        exact hret _ _ _ _ hw rfl d_Model_runAt_50
    )
  exact hL4 N _ _ hf _ _ _ hw (lv_sub hl [0, 1, 2] rfl)
def wd_Model_byLoader (g : GT) (t_o : Nat) (t_disk_a : Nat) (t_sort_a : Nat) (t_first_a : Nat) (t_many_a : Nat) (t_name_a : Nat) (t_size_a : Nat) (t_seed_a : Nat) (t_scattered_a : Nat) (t_head_a : Nat) (t_follows_a : Nat) (t_memory_a : Nat) (t_thrown : Int32) (t_sectors : Int32) (t_partitions : Int32) (t_files : Int32) (t_address : Int32) (t_start : Int32) (t_fat : Int32) (t_clusters : Int32) (t_header : Int32) (t_found : Int32) (t_kernelAt : Int32) (t_kernelSize : Int32) (t_any : Int32) (t_disk : Nat → Int32) : va_W := [(t_o, .inr (7, [.int t_thrown, .int t_sectors, .ref t_disk_a, .int t_partitions, .ref t_sort_a, .ref t_first_a, .ref t_many_a, .int t_files, .ref t_name_a, .ref t_size_a, .ref t_seed_a, .ref t_scattered_a, .int t_address, .int t_start, .int t_fat, .int t_clusters, .ref t_head_a, .ref t_follows_a, .int t_header, .int t_found, .int t_kernelAt, .int t_kernelSize, .int t_any, .ref t_memory_a])), (t_disk_a, .inl (g.2.2.2.2, 307200, .inl t_disk))]
def f_Model_byLoader_L148 (N : Nat) (u549 : Int64) (t_disk : Nat → Int32) (u328 : Int32) (t_found : Int32) (t_sectors : Int32) (k148 : Int32 → Int32 → Option (Int32 × Int32)) (x583 : Int32) (x584 : Int32) : Option (Int32 × Int32) :=
  lt_ (x583.toInt64) (fun v614 => lt_ (lg_cmp v614 u549) (fun v615 => if 0 ≤ v615 then bd_ (f_Model_runAt N t_disk 0) (fun u616 => lt_ ((512 : Int32) * u616) (fun v617 => lt_ (x584 ^^^ (-1)) (fun v618 => lt_ ((6 : Int32) * u328) (fun v619 => lt_ ((69 : Int32) + v619) (fun v620 => bd_ (f_Model_lowAt N 4 v620 t_disk) (fun u621 => lt_ (u621.toInt32) (fun v622 => if ¬ v618 = v622 then some (9, t_found) else bd_ (f_Model_get t_disk v617) (fun u623 => if ¬ u623 = (76 : Int32) then some (9, t_found) else lt_ (v617 + 1) (fun v624 => bd_ (f_Model_get t_disk v624) (fun u625 => if ¬ u625 = (79 : Int32) then some (9, t_found) else lt_ (v617 + 2) (fun v626 => bd_ (f_Model_get t_disk v626) (fun u627 => if ¬ u627 = (65 : Int32) then some (9, t_found) else lt_ (v617 + 3) (fun v628 => bd_ (f_Model_get t_disk v628) (fun u629 => if u629 = (68 : Int32) then lt_ (v617 + 4) (fun v630 => bd_ (f_Model_lowAt N 4 v630 t_disk) (fun u631 => lt_ (t_sectors.toInt64) (fun v632 => lt_ (lg_cmp u631 v632) (fun v633 => if v633 < 0 then lt_ (u631.toInt32) (fun v634 => some (0, v634)) else some (9, t_found))))) else some (9, t_found))))))))))))))) else lt_ (x583 / 512) (fun v635 => bd_ (f_Model_runAt N t_disk v635) (fun u636 => lt_ ((512 : Int32) * u636) (fun v637 => lt_ (x583 - x583 / 512 * 512) (fun v638 => lt_ (v637 + v638) (fun v639 => bd_ (f_Model_get t_disk v639) (fun u640 => bd_ (f_Model_goesOn N x584 u640) (fun u641 => lt_ (x583 + 1) (fun v642 => k148 v642 u641))))))))))
def f_Model_byLoader_L25 (N : Nat) (u328 : Int32) (t_disk : Nat → Int32) (t_found : Int32) (t_sectors : Int32) (k25 : Int32 → Int64 → Option (Int32 × Int32)) (x437 : Int32) (x438 : Int64) : Option (Int32 × Int32) :=
  if u328 ≤ x437 then lt_ ((6 : Int32) * u328) (fun v547 => lt_ ((65 : Int32) + v547) (fun v548 => bd_ (f_Model_lowAt N 4 v548 t_disk) (fun u549 => lt_ (lg_cmp u549 8) (fun v550 => if v550 < 0 then some (9, t_found) else lt_ (lg_cmp u549 9000) (fun v551 => if 0 < v551 then some (9, t_found) else lt_ ((512 : Int64) * x438) (fun v552 => lt_ (lg_cmp v552 u549) (fun v553 => if 0 ≤ v553 then lp_ (fun _ _ => none) (f_Model_byLoader_L148 N u549 t_disk u328 t_found t_sectors) N 0 (-1) else some (9, t_found)))))))) else lt_ ((6 : Int32) * x437) (fun v643 => lt_ ((65 : Int32) + v643) (fun v644 => bd_ (f_Model_lowAt N 4 v644 t_disk) (fun u645 => lt_ ((6 : Int32) * x437) (fun v646 => lt_ ((69 : Int32) + v646) (fun v647 => bd_ (f_Model_lowAt N 2 v647 t_disk) (fun u648 => lt_ (lg_cmp u648 0) (fun v649 => if v649 = 0 then some (9, t_found) else lt_ (u645 + u648) (fun v650 => lt_ (t_sectors.toInt64) (fun v651 => lt_ (lg_cmp v650 v651) (fun v652 => if v652 ≤ 0 then lt_ (x438 + u648) (fun v653 => lt_ (x437 + 1) (fun v654 => k25 v654 v653)) else some (9, t_found)))))))))))
def f_Model_byLoader (N : Nat) (t_disk : Nat → Int32) (t_found : Int32) (t_sectors : Int32) : Option (Int32 × Int32) :=
  bd_ (f_Model_get t_disk 64) (fun u328 => if u328 = 0 then some (9, t_found) else if u328 ≤ (20 : Int32) then lp_ (fun _ _ => none) (f_Model_byLoader_L25 N u328 t_disk t_found t_sectors) N 0 0 else some (9, t_found))
def rm_Model_byLoader : Room := { frames := 3, cells := 0, slots := 0, locals := 70 }
set_option maxHeartbeats 4000000 in
set_option maxRecDepth 100000 in
theorem c_Model_byLoader (l : Launch) (g : GT) (E : (Nat → Prop) → State → Prop) (hEe : Ee E) (t_o : Nat) (t_disk_a : Nat) (t_sort_a : Nat) (t_first_a : Nat) (t_many_a : Nat) (t_name_a : Nat) (t_size_a : Nat) (t_seed_a : Nat) (t_scattered_a : Nat) (t_head_a : Nat) (t_follows_a : Nat) (t_memory_a : Nat) (t_thrown : Int32) (t_sectors : Int32) (t_partitions : Int32) (t_files : Int32) (t_address : Int32) (t_start : Int32) (t_fat : Int32) (t_clusters : Int32) (t_header : Int32) (t_found : Int32) (t_kernelAt : Int32) (t_kernelSize : Int32) (t_any : Int32) (t_disk : Nat → Int32) (N : Nat) (z : Int32 × Int32) (hf : f_Model_byLoader N t_disk t_found t_sectors = some z) : Cg l g E y_Model_byLoader ws_Model_byLoader rm_Model_byLoader [.ref t_o] (wd_Model_byLoader g t_o t_disk_a t_sort_a t_first_a t_many_a t_name_a t_size_a t_seed_a t_scattered_a t_head_a t_follows_a t_memory_a t_thrown t_sectors t_partitions t_files t_address t_start t_fat t_clusters t_header t_found t_kernelAt t_kernelSize t_any t_disk) (some (.int z.1)) (wd_Model_byLoader g t_o t_disk_a t_sort_a t_first_a t_many_a t_name_a t_size_a t_seed_a t_scattered_a t_head_a t_follows_a t_memory_a t_thrown t_sectors t_partitions t_files t_address t_start t_fat t_clusters t_header z.2 t_kernelAt t_kernelSize t_any t_disk) := by
  refine Ct.ofI hEe good_W (by decide) rfl (Nat.le_of_ble_eq_true rfl) ?_
  intro p e s m args below meth c A ls Q hC hw hl hret
  have hC : CX p m c b_Model_byLoader 10 s args Wall R_Model g.1 classes (tK g) E A := hC
  have hl : lv_has ls 10 [(0, .ref t_o)] := hl
  unfold f_Model_byLoader at hf
  refine n_aload_n hC hl 0 d_Model_byLoader_0 rfl rfl ?_
  refine n_bipush hC 64 d_Model_byLoader_1 (by decide) ?_
  obtain ⟨u328, hu328, hf⟩ := bd_s hf
  refine n_callVi hC hw fc_Model_64 (c_Model_get l g E hEe t_o t_disk_a t_sort_a t_first_a t_many_a t_name_a t_size_a t_seed_a t_scattered_a t_head_a t_follows_a t_memory_a t_thrown t_sectors t_partitions t_files t_address t_start t_fat t_clusters t_header t_found t_kernelAt t_kernelSize t_any t_disk 64 u328 hu328) [0, 1] (wd_Model_byLoader g t_o t_disk_a t_sort_a t_first_a t_many_a t_name_a t_size_a t_seed_a t_scattered_a t_head_a t_follows_a t_memory_a t_thrown t_sectors t_partitions t_files t_address t_start t_fat t_clusters t_header t_found t_kernelAt t_kernelSize t_any t_disk) 0 rfl ⟨rfl, rfl⟩ ⟨Nat.le_of_ble_eq_true rfl, Nat.le_of_ble_eq_true rfl⟩ rfl (At_.cons rfl (At_.cons rfl At_.nil)) (At_.cons rfl (At_.cons rfl At_.nil)) Sm_.refl rfl hl.1 (Nat.le_of_ble_eq_true rfl) ⟨Nat.zero_le _, Nat.zero_le _⟩ d_Model_byLoader_3 (fun H locs hw => ?_) rfl
  refine n_istore_n hC [(1, .int u328), (0, .ref t_o)] hl d_Model_byLoader_6 rfl (by decide) rfl (fun ls hl => ?_)
  refine n_iload_n hC hl 0 d_Model_byLoader_7 rfl rfl ?_
  refine n_if_eq hC hf 17 d_Model_byLoader_8 (by decide) (fun hf => ?_) (fun hf => ?_)
  · refine n_bipush hC 9 d_Model_byLoader_17 (by decide) ?_
    cases hf
    exact hret _ _ _ _ hw (show narrow .int (Value.int 9) = Value.int 9 from rfl) d_Model_byLoader_19
  · refine n_iload_n hC hl 0 d_Model_byLoader_11 rfl rfl ?_
    refine n_bipush hC 20 d_Model_byLoader_12 (by decide) ?_
    refine n_icmp_le hC hf 20 d_Model_byLoader_14 (by decide) (fun hf => ?_) (fun hf => ?_)
    · refine n_lconst hC 0 d_Model_byLoader_20 (by decide) ?_
      refine n_lstore_n hC [(2, .long 0), (1, .int u328), (0, .ref t_o)] hl d_Model_byLoader_21 rfl (by decide) rfl (fun ls hl => ?_)
      refine n_iconst hC 0 d_Model_byLoader_22 (by decide) ?_
      refine n_istore hC [(4, .int 0), (2, .long 0), (1, .int u328), (0, .ref t_o)] hl d_Model_byLoader_23 (by decide) rfl (fun ls hl => ?_)
      have hL25 := lw2 (B := f_Model_byLoader_L25 N u328 t_disk t_found t_sectors) (z := z) (fun (x437 : Int32) (x438 : Int64) => ∀ (H : Heap) (locs : List Loc) (ls : Array Slot), WS g.1 classes A s.heap H locs (wd_Model_byLoader g t_o t_disk_a t_sort_a t_first_a t_many_a t_name_a t_size_a t_seed_a t_scattered_a t_head_a t_follows_a t_memory_a t_thrown t_sectors t_partitions t_files t_address t_start t_fat t_clusters t_header t_found t_kernelAt t_kernelSize t_any t_disk) → lv_has ls 10 [(4, .int x437), (2, .long x438), (1, .int u328), (0, .ref t_o)] → W p l e rm_Model_byLoader s m args below meth c H locs 0 0 Q (F0 m 25 ls [])) (by
        intro k25 hk25 x437 x438 hf H locs ls hw hl
        unfold f_Model_byLoader_L25 at hf
        refine n_iload hC hl 0 d_Model_byLoader_25 rfl ?_
        refine n_iload_n hC hl 2 d_Model_byLoader_27 rfl rfl ?_
        refine n_icmp_ge hC hf 96 d_Model_byLoader_28 (by decide) (fun hf => ?_) (fun hf => ?_)
        · refine n_aload_n hC hl 3 d_Model_byLoader_96 rfl rfl ?_
          refine n_bipush hC 65 d_Model_byLoader_97 (by decide) ?_
          refine n_bipush hC 6 d_Model_byLoader_99 (by decide) ?_
          refine n_iload_n hC hl 2 d_Model_byLoader_101 rfl rfl ?_
          refine n_imul hC hf d_Model_byLoader_102 (fun v547 hf => ?_)
          refine n_iadd hC hf d_Model_byLoader_103 (fun v548 hf => ?_)
          refine n_iconst hC 4 d_Model_byLoader_104 (by decide) ?_
          obtain ⟨u549, hu549, hf⟩ := bd_s hf
          refine n_callVl hC hw fc_Model_162 (c_Model_lowAt l g E hEe t_o t_disk_a t_sort_a t_first_a t_many_a t_name_a t_size_a t_seed_a t_scattered_a t_head_a t_follows_a t_memory_a t_thrown t_sectors t_partitions t_files t_address t_start t_fat t_clusters t_header t_found t_kernelAt t_kernelSize t_any t_disk v548 4 N u549 hu549) [0, 1] (wd_Model_byLoader g t_o t_disk_a t_sort_a t_first_a t_many_a t_name_a t_size_a t_seed_a t_scattered_a t_head_a t_follows_a t_memory_a t_thrown t_sectors t_partitions t_files t_address t_start t_fat t_clusters t_header t_found t_kernelAt t_kernelSize t_any t_disk) 0 rfl ⟨rfl, rfl⟩ ⟨Nat.le_of_ble_eq_true rfl, Nat.le_of_ble_eq_true rfl⟩ rfl (At_.cons rfl (At_.cons rfl At_.nil)) (At_.cons rfl (At_.cons rfl At_.nil)) Sm_.refl rfl hl.1 (Nat.le_of_ble_eq_true rfl) ⟨Nat.zero_le _, Nat.zero_le _⟩ d_Model_byLoader_105 (fun H locs hw => ?_) rfl
          refine n_lstore hC [(4, .long u549), (2, .long x438), (1, .int u328), (0, .ref t_o)] hl d_Model_byLoader_108 (by decide) rfl (fun ls hl => ?_)
          refine n_lload hC hl 0 d_Model_byLoader_110 rfl ?_
          refine n_ldc2 hC 8 kc_Model_230 d_Model_byLoader_112 ?_
          refine n_lcmp hC hf d_Model_byLoader_115 (fun v550 hf => ?_)
          refine n_if_lt hC hf 139 d_Model_byLoader_116 (by decide) (fun hf => ?_) (fun hf => ?_)
          · refine n_bipush hC 9 d_Model_byLoader_139 (by decide) ?_
            cases hf
            exact hret _ _ _ _ hw (show narrow .int (Value.int 9) = Value.int 9 from rfl) d_Model_byLoader_141
          · refine n_lload hC hl 0 d_Model_byLoader_119 rfl ?_
            refine n_ldc2 hC 9000 kc_Model_232 d_Model_byLoader_121 ?_
            refine n_lcmp hC hf d_Model_byLoader_124 (fun v551 hf => ?_)
            refine n_if_gt hC hf 139 d_Model_byLoader_125 (by decide) (fun hf => ?_) (fun hf => ?_)
            · refine n_bipush hC 9 d_Model_byLoader_139 (by decide) ?_
              cases hf
              exact hret _ _ _ _ hw (show narrow .int (Value.int 9) = Value.int 9 from rfl) d_Model_byLoader_141
            · refine n_ldc2 hC 512 kc_Model_77 d_Model_byLoader_128 ?_
              refine n_lload_n hC hl 1 d_Model_byLoader_131 rfl rfl ?_
              refine n_lmul hC hf d_Model_byLoader_132 (fun v552 hf => ?_)
              refine n_lload hC hl 0 d_Model_byLoader_133 rfl ?_
              refine n_lcmp hC hf d_Model_byLoader_135 (fun v553 hf => ?_)
              refine n_if_ge hC hf 142 d_Model_byLoader_136 (by decide) (fun hf => ?_) (fun hf => ?_)
              · refine n_iconst hC (-1) d_Model_byLoader_142 (by decide) ?_
                refine n_istore hC [(6, .int (-1)), (4, .long u549), (2, .long x438), (1, .int u328), (0, .ref t_o)] hl d_Model_byLoader_143 (by decide) rfl (fun ls hl => ?_)
                refine n_iconst hC 0 d_Model_byLoader_145 (by decide) ?_
                refine n_istore hC [(7, .int 0), (6, .int (-1)), (4, .long u549), (2, .long x438), (1, .int u328), (0, .ref t_o)] hl d_Model_byLoader_146 (by decide) rfl (fun ls hl => ?_)
                have hL148 := lw2 (B := f_Model_byLoader_L148 N u549 t_disk u328 t_found t_sectors) (z := z) (fun (x583 : Int32) (x584 : Int32) => ∀ (H : Heap) (locs : List Loc) (ls : Array Slot), WS g.1 classes A s.heap H locs (wd_Model_byLoader g t_o t_disk_a t_sort_a t_first_a t_many_a t_name_a t_size_a t_seed_a t_scattered_a t_head_a t_follows_a t_memory_a t_thrown t_sectors t_partitions t_files t_address t_start t_fat t_clusters t_header t_found t_kernelAt t_kernelSize t_any t_disk) → lv_has ls 10 [(7, .int x583), (6, .int x584), (4, .long u549), (1, .int u328), (0, .ref t_o)] → W p l e rm_Model_byLoader s m args below meth c H locs 0 0 Q (F0 m 148 ls [])) (by
                  intro k148 hk148 x583 x584 hf H locs ls hw hl
                  unfold f_Model_byLoader_L148 at hf
                  refine n_iload hC hl 0 d_Model_byLoader_148 rfl ?_
                  refine n_i2l hC hf d_Model_byLoader_150 (fun v614 hf => ?_)
                  refine n_lload hC hl 2 d_Model_byLoader_151 rfl ?_
                  refine n_lcmp hC hf d_Model_byLoader_153 (fun v615 hf => ?_)
                  refine n_if_ge hC hf 195 d_Model_byLoader_154 (by decide) (fun hf => ?_) (fun hf => ?_)
                  · refine n_sipush hC 512 d_Model_byLoader_195 (by decide) ?_
                    refine n_aload_n hC hl 4 d_Model_byLoader_198 rfl rfl ?_
                    refine n_iconst hC 0 d_Model_byLoader_199 (by decide) ?_
                    obtain ⟨u616, hu616, hf⟩ := bd_s hf
                    refine n_callVi hC hw fc_Model_234 (c_Model_runAt l g E hEe t_o t_disk_a t_sort_a t_first_a t_many_a t_name_a t_size_a t_seed_a t_scattered_a t_head_a t_follows_a t_memory_a t_thrown t_sectors t_partitions t_files t_address t_start t_fat t_clusters t_header t_found t_kernelAt t_kernelSize t_any t_disk 0 N u616 hu616) [0, 1] (wd_Model_byLoader g t_o t_disk_a t_sort_a t_first_a t_many_a t_name_a t_size_a t_seed_a t_scattered_a t_head_a t_follows_a t_memory_a t_thrown t_sectors t_partitions t_files t_address t_start t_fat t_clusters t_header t_found t_kernelAt t_kernelSize t_any t_disk) 0 rfl ⟨rfl, rfl⟩ ⟨Nat.le_of_ble_eq_true rfl, Nat.le_of_ble_eq_true rfl⟩ rfl (At_.cons rfl (At_.cons rfl At_.nil)) (At_.cons rfl (At_.cons rfl At_.nil)) Sm_.refl rfl hl.1 (Nat.le_of_ble_eq_true rfl) ⟨Nat.zero_le _, Nat.zero_le _⟩ d_Model_byLoader_200 (fun H locs hw => ?_) rfl
                    refine n_imul hC hf d_Model_byLoader_203 (fun v617 hf => ?_)
                    refine n_istore hC [(7, .int v617), (6, .int x584), (4, .long u549), (1, .int u328), (0, .ref t_o)] hl d_Model_byLoader_204 (by decide) rfl (fun ls hl => ?_)
                    refine n_iload hC hl 1 d_Model_byLoader_206 rfl ?_
                    refine n_iconst hC (-1) d_Model_byLoader_208 (by decide) ?_
                    refine n_ixor hC hf d_Model_byLoader_209 (fun v618 hf => ?_)
                    refine n_aload_n hC hl 4 d_Model_byLoader_210 rfl rfl ?_
                    refine n_bipush hC 69 d_Model_byLoader_211 (by decide) ?_
                    refine n_bipush hC 6 d_Model_byLoader_213 (by decide) ?_
                    refine n_iload_n hC hl 3 d_Model_byLoader_215 rfl rfl ?_
                    refine n_imul hC hf d_Model_byLoader_216 (fun v619 hf => ?_)
                    refine n_iadd hC hf d_Model_byLoader_217 (fun v620 hf => ?_)
                    refine n_iconst hC 4 d_Model_byLoader_218 (by decide) ?_
                    obtain ⟨u621, hu621, hf⟩ := bd_s hf
                    refine n_callVl hC hw fc_Model_162 (c_Model_lowAt l g E hEe t_o t_disk_a t_sort_a t_first_a t_many_a t_name_a t_size_a t_seed_a t_scattered_a t_head_a t_follows_a t_memory_a t_thrown t_sectors t_partitions t_files t_address t_start t_fat t_clusters t_header t_found t_kernelAt t_kernelSize t_any t_disk v620 4 N u621 hu621) [0, 1] (wd_Model_byLoader g t_o t_disk_a t_sort_a t_first_a t_many_a t_name_a t_size_a t_seed_a t_scattered_a t_head_a t_follows_a t_memory_a t_thrown t_sectors t_partitions t_files t_address t_start t_fat t_clusters t_header t_found t_kernelAt t_kernelSize t_any t_disk) 0 rfl ⟨rfl, rfl⟩ ⟨Nat.le_of_ble_eq_true rfl, Nat.le_of_ble_eq_true rfl⟩ rfl (At_.cons rfl (At_.cons rfl At_.nil)) (At_.cons rfl (At_.cons rfl At_.nil)) Sm_.refl rfl hl.1 (Nat.le_of_ble_eq_true rfl) ⟨Nat.zero_le _, Nat.zero_le _⟩ d_Model_byLoader_219 (fun H locs hw => ?_) rfl
                    refine n_l2i hC hf d_Model_byLoader_222 (fun v622 hf => ?_)
                    refine n_icmp_ne hC hf 276 d_Model_byLoader_223 (by decide) (fun hf => ?_) (fun hf => ?_)
                    · refine n_bipush hC 9 d_Model_byLoader_276 (by decide) ?_
                      cases hf
                      exact hret _ _ _ _ hw (show narrow .int (Value.int 9) = Value.int 9 from rfl) d_Model_byLoader_278
                    · refine n_aload_n hC hl 4 d_Model_byLoader_226 rfl rfl ?_
                      refine n_iload hC hl 0 d_Model_byLoader_227 rfl ?_
                      obtain ⟨u623, hu623, hf⟩ := bd_s hf
                      refine n_callVi hC hw fc_Model_64 (c_Model_get l g E hEe t_o t_disk_a t_sort_a t_first_a t_many_a t_name_a t_size_a t_seed_a t_scattered_a t_head_a t_follows_a t_memory_a t_thrown t_sectors t_partitions t_files t_address t_start t_fat t_clusters t_header t_found t_kernelAt t_kernelSize t_any t_disk v617 u623 hu623) [0, 1] (wd_Model_byLoader g t_o t_disk_a t_sort_a t_first_a t_many_a t_name_a t_size_a t_seed_a t_scattered_a t_head_a t_follows_a t_memory_a t_thrown t_sectors t_partitions t_files t_address t_start t_fat t_clusters t_header t_found t_kernelAt t_kernelSize t_any t_disk) 0 rfl ⟨rfl, rfl⟩ ⟨Nat.le_of_ble_eq_true rfl, Nat.le_of_ble_eq_true rfl⟩ rfl (At_.cons rfl (At_.cons rfl At_.nil)) (At_.cons rfl (At_.cons rfl At_.nil)) Sm_.refl rfl hl.1 (Nat.le_of_ble_eq_true rfl) ⟨Nat.zero_le _, Nat.zero_le _⟩ d_Model_byLoader_229 (fun H locs hw => ?_) rfl
                      refine n_bipush hC 76 d_Model_byLoader_232 (by decide) ?_
                      refine n_icmp_ne hC hf 276 d_Model_byLoader_234 (by decide) (fun hf => ?_) (fun hf => ?_)
                      · refine n_bipush hC 9 d_Model_byLoader_276 (by decide) ?_
                        cases hf
                        exact hret _ _ _ _ hw (show narrow .int (Value.int 9) = Value.int 9 from rfl) d_Model_byLoader_278
                      · refine n_aload_n hC hl 4 d_Model_byLoader_237 rfl rfl ?_
                        refine n_iload hC hl 0 d_Model_byLoader_238 rfl ?_
                        refine n_iconst hC 1 d_Model_byLoader_240 (by decide) ?_
                        refine n_iadd hC hf d_Model_byLoader_241 (fun v624 hf => ?_)
                        obtain ⟨u625, hu625, hf⟩ := bd_s hf
                        refine n_callVi hC hw fc_Model_64 (c_Model_get l g E hEe t_o t_disk_a t_sort_a t_first_a t_many_a t_name_a t_size_a t_seed_a t_scattered_a t_head_a t_follows_a t_memory_a t_thrown t_sectors t_partitions t_files t_address t_start t_fat t_clusters t_header t_found t_kernelAt t_kernelSize t_any t_disk v624 u625 hu625) [0, 1] (wd_Model_byLoader g t_o t_disk_a t_sort_a t_first_a t_many_a t_name_a t_size_a t_seed_a t_scattered_a t_head_a t_follows_a t_memory_a t_thrown t_sectors t_partitions t_files t_address t_start t_fat t_clusters t_header t_found t_kernelAt t_kernelSize t_any t_disk) 0 rfl ⟨rfl, rfl⟩ ⟨Nat.le_of_ble_eq_true rfl, Nat.le_of_ble_eq_true rfl⟩ rfl (At_.cons rfl (At_.cons rfl At_.nil)) (At_.cons rfl (At_.cons rfl At_.nil)) Sm_.refl rfl hl.1 (Nat.le_of_ble_eq_true rfl) ⟨Nat.zero_le _, Nat.zero_le _⟩ d_Model_byLoader_242 (fun H locs hw => ?_) rfl
                        refine n_bipush hC 79 d_Model_byLoader_245 (by decide) ?_
                        refine n_icmp_ne hC hf 276 d_Model_byLoader_247 (by decide) (fun hf => ?_) (fun hf => ?_)
                        · refine n_bipush hC 9 d_Model_byLoader_276 (by decide) ?_
                          cases hf
                          exact hret _ _ _ _ hw (show narrow .int (Value.int 9) = Value.int 9 from rfl) d_Model_byLoader_278
                        · refine n_aload_n hC hl 4 d_Model_byLoader_250 rfl rfl ?_
                          refine n_iload hC hl 0 d_Model_byLoader_251 rfl ?_
                          refine n_iconst hC 2 d_Model_byLoader_253 (by decide) ?_
                          refine n_iadd hC hf d_Model_byLoader_254 (fun v626 hf => ?_)
                          obtain ⟨u627, hu627, hf⟩ := bd_s hf
                          refine n_callVi hC hw fc_Model_64 (c_Model_get l g E hEe t_o t_disk_a t_sort_a t_first_a t_many_a t_name_a t_size_a t_seed_a t_scattered_a t_head_a t_follows_a t_memory_a t_thrown t_sectors t_partitions t_files t_address t_start t_fat t_clusters t_header t_found t_kernelAt t_kernelSize t_any t_disk v626 u627 hu627) [0, 1] (wd_Model_byLoader g t_o t_disk_a t_sort_a t_first_a t_many_a t_name_a t_size_a t_seed_a t_scattered_a t_head_a t_follows_a t_memory_a t_thrown t_sectors t_partitions t_files t_address t_start t_fat t_clusters t_header t_found t_kernelAt t_kernelSize t_any t_disk) 0 rfl ⟨rfl, rfl⟩ ⟨Nat.le_of_ble_eq_true rfl, Nat.le_of_ble_eq_true rfl⟩ rfl (At_.cons rfl (At_.cons rfl At_.nil)) (At_.cons rfl (At_.cons rfl At_.nil)) Sm_.refl rfl hl.1 (Nat.le_of_ble_eq_true rfl) ⟨Nat.zero_le _, Nat.zero_le _⟩ d_Model_byLoader_255 (fun H locs hw => ?_) rfl
                          refine n_bipush hC 65 d_Model_byLoader_258 (by decide) ?_
                          refine n_icmp_ne hC hf 276 d_Model_byLoader_260 (by decide) (fun hf => ?_) (fun hf => ?_)
                          · refine n_bipush hC 9 d_Model_byLoader_276 (by decide) ?_
                            cases hf
                            exact hret _ _ _ _ hw (show narrow .int (Value.int 9) = Value.int 9 from rfl) d_Model_byLoader_278
                          · refine n_aload_n hC hl 4 d_Model_byLoader_263 rfl rfl ?_
                            refine n_iload hC hl 0 d_Model_byLoader_264 rfl ?_
                            refine n_iconst hC 3 d_Model_byLoader_266 (by decide) ?_
                            refine n_iadd hC hf d_Model_byLoader_267 (fun v628 hf => ?_)
                            obtain ⟨u629, hu629, hf⟩ := bd_s hf
                            refine n_callVi hC hw fc_Model_64 (c_Model_get l g E hEe t_o t_disk_a t_sort_a t_first_a t_many_a t_name_a t_size_a t_seed_a t_scattered_a t_head_a t_follows_a t_memory_a t_thrown t_sectors t_partitions t_files t_address t_start t_fat t_clusters t_header t_found t_kernelAt t_kernelSize t_any t_disk v628 u629 hu629) [0, 1] (wd_Model_byLoader g t_o t_disk_a t_sort_a t_first_a t_many_a t_name_a t_size_a t_seed_a t_scattered_a t_head_a t_follows_a t_memory_a t_thrown t_sectors t_partitions t_files t_address t_start t_fat t_clusters t_header t_found t_kernelAt t_kernelSize t_any t_disk) 0 rfl ⟨rfl, rfl⟩ ⟨Nat.le_of_ble_eq_true rfl, Nat.le_of_ble_eq_true rfl⟩ rfl (At_.cons rfl (At_.cons rfl At_.nil)) (At_.cons rfl (At_.cons rfl At_.nil)) Sm_.refl rfl hl.1 (Nat.le_of_ble_eq_true rfl) ⟨Nat.zero_le _, Nat.zero_le _⟩ d_Model_byLoader_268 (fun H locs hw => ?_) rfl
                            refine n_bipush hC 68 d_Model_byLoader_271 (by decide) ?_
                            refine n_icmp_eq hC hf 279 d_Model_byLoader_273 (by decide) (fun hf => ?_) (fun hf => ?_)
                            · refine n_aload_n hC hl 4 d_Model_byLoader_279 rfl rfl ?_
                              refine n_iload hC hl 0 d_Model_byLoader_280 rfl ?_
                              refine n_iconst hC 4 d_Model_byLoader_282 (by decide) ?_
                              refine n_iadd hC hf d_Model_byLoader_283 (fun v630 hf => ?_)
                              refine n_iconst hC 4 d_Model_byLoader_284 (by decide) ?_
                              obtain ⟨u631, hu631, hf⟩ := bd_s hf
                              refine n_callVl hC hw fc_Model_162 (c_Model_lowAt l g E hEe t_o t_disk_a t_sort_a t_first_a t_many_a t_name_a t_size_a t_seed_a t_scattered_a t_head_a t_follows_a t_memory_a t_thrown t_sectors t_partitions t_files t_address t_start t_fat t_clusters t_header t_found t_kernelAt t_kernelSize t_any t_disk v630 4 N u631 hu631) [0, 1] (wd_Model_byLoader g t_o t_disk_a t_sort_a t_first_a t_many_a t_name_a t_size_a t_seed_a t_scattered_a t_head_a t_follows_a t_memory_a t_thrown t_sectors t_partitions t_files t_address t_start t_fat t_clusters t_header t_found t_kernelAt t_kernelSize t_any t_disk) 0 rfl ⟨rfl, rfl⟩ ⟨Nat.le_of_ble_eq_true rfl, Nat.le_of_ble_eq_true rfl⟩ rfl (At_.cons rfl (At_.cons rfl At_.nil)) (At_.cons rfl (At_.cons rfl At_.nil)) Sm_.refl rfl hl.1 (Nat.le_of_ble_eq_true rfl) ⟨Nat.zero_le _, Nat.zero_le _⟩ d_Model_byLoader_285 (fun H locs hw => ?_) rfl
                              refine n_lstore hC [(8, .long u631), (7, .int v617), (6, .int x584), (4, .long u549), (1, .int u328), (0, .ref t_o)] hl d_Model_byLoader_288 (by decide) rfl (fun ls hl => ?_)
                              refine n_lload hC hl 0 d_Model_byLoader_290 rfl ?_
                              refine n_aload_n hC hl 5 d_Model_byLoader_292 rfl rfl ?_
                              refine n_get hC hw fg_Model_48 0 rfl rfl d_Model_byLoader_293 ?_
                              refine n_i2l hC hf d_Model_byLoader_296 (fun v632 hf => ?_)
                              refine n_lcmp hC hf d_Model_byLoader_297 (fun v633 hf => ?_)
                              refine n_if_lt hC hf 304 d_Model_byLoader_298 (by decide) (fun hf => ?_) (fun hf => ?_)
                              · refine n_aload_n hC hl 5 d_Model_byLoader_304 rfl rfl ?_
                                refine n_lload hC hl 0 d_Model_byLoader_305 rfl ?_
                                refine n_l2i hC hf d_Model_byLoader_307 (fun v634 hf => ?_)
                                refine n_put hC hw fp_Model_52 0 (wd_Model_byLoader g t_o t_disk_a t_sort_a t_first_a t_many_a t_name_a t_size_a t_seed_a t_scattered_a t_head_a t_follows_a t_memory_a t_thrown t_sectors t_partitions t_files t_address t_start t_fat t_clusters t_header v634 t_kernelAt t_kernelSize t_any t_disk) rfl rfl rfl (Nat.le_of_ble_eq_true rfl) d_Model_byLoader_308 rfl (fun H locs hw => ?_)
                                refine n_iconst hC 0 d_Model_byLoader_311 (by decide) ?_
                                cases hf
                                exact hret _ _ _ _ hw (show narrow .int (Value.int 0) = Value.int 0 from rfl) d_Model_byLoader_312
                              · refine n_bipush hC 9 d_Model_byLoader_301 (by decide) ?_
                                cases hf
                                exact hret _ _ _ _ hw (show narrow .int (Value.int 9) = Value.int 9 from rfl) d_Model_byLoader_303
                            · refine n_bipush hC 9 d_Model_byLoader_276 (by decide) ?_
                              cases hf
                              exact hret _ _ _ _ hw (show narrow .int (Value.int 9) = Value.int 9 from rfl) d_Model_byLoader_278
                  · refine n_iload hC hl 1 d_Model_byLoader_157 rfl ?_
                    refine n_aload_n hC hl 4 d_Model_byLoader_159 rfl rfl ?_
                    refine n_sipush hC 512 d_Model_byLoader_160 (by decide) ?_
                    refine n_aload_n hC hl 4 d_Model_byLoader_163 rfl rfl ?_
                    refine n_iload hC hl 0 d_Model_byLoader_164 rfl ?_
                    refine n_sipush hC 512 d_Model_byLoader_166 (by decide) ?_
                    refine n_idiv hC hf d_Model_byLoader_169 (by decide) (fun v635 hf => ?_)
                    obtain ⟨u636, hu636, hf⟩ := bd_s hf
                    refine n_callVi hC hw fc_Model_234 (c_Model_runAt l g E hEe t_o t_disk_a t_sort_a t_first_a t_many_a t_name_a t_size_a t_seed_a t_scattered_a t_head_a t_follows_a t_memory_a t_thrown t_sectors t_partitions t_files t_address t_start t_fat t_clusters t_header t_found t_kernelAt t_kernelSize t_any t_disk v635 N u636 hu636) [0, 1] (wd_Model_byLoader g t_o t_disk_a t_sort_a t_first_a t_many_a t_name_a t_size_a t_seed_a t_scattered_a t_head_a t_follows_a t_memory_a t_thrown t_sectors t_partitions t_files t_address t_start t_fat t_clusters t_header t_found t_kernelAt t_kernelSize t_any t_disk) 0 rfl ⟨rfl, rfl⟩ ⟨Nat.le_of_ble_eq_true rfl, Nat.le_of_ble_eq_true rfl⟩ rfl (At_.cons rfl (At_.cons rfl At_.nil)) (At_.cons rfl (At_.cons rfl At_.nil)) Sm_.refl rfl hl.1 (Nat.le_of_ble_eq_true rfl) ⟨Nat.zero_le _, Nat.zero_le _⟩ d_Model_byLoader_170 (fun H locs hw => ?_) rfl
                    refine n_imul hC hf d_Model_byLoader_173 (fun v637 hf => ?_)
                    refine n_iload hC hl 0 d_Model_byLoader_174 rfl ?_
                    refine n_sipush hC 512 d_Model_byLoader_176 (by decide) ?_
                    refine n_irem hC hf d_Model_byLoader_179 (by decide) (fun v638 hf => ?_)
                    refine n_iadd hC hf d_Model_byLoader_180 (fun v639 hf => ?_)
                    obtain ⟨u640, hu640, hf⟩ := bd_s hf
                    refine n_callVi hC hw fc_Model_64 (c_Model_get l g E hEe t_o t_disk_a t_sort_a t_first_a t_many_a t_name_a t_size_a t_seed_a t_scattered_a t_head_a t_follows_a t_memory_a t_thrown t_sectors t_partitions t_files t_address t_start t_fat t_clusters t_header t_found t_kernelAt t_kernelSize t_any t_disk v639 u640 hu640) [0, 1] (wd_Model_byLoader g t_o t_disk_a t_sort_a t_first_a t_many_a t_name_a t_size_a t_seed_a t_scattered_a t_head_a t_follows_a t_memory_a t_thrown t_sectors t_partitions t_files t_address t_start t_fat t_clusters t_header t_found t_kernelAt t_kernelSize t_any t_disk) 0 rfl ⟨rfl, rfl⟩ ⟨Nat.le_of_ble_eq_true rfl, Nat.le_of_ble_eq_true rfl⟩ rfl (At_.cons rfl (At_.cons rfl At_.nil)) (At_.cons rfl (At_.cons rfl At_.nil)) Sm_.refl rfl hl.1 (Nat.le_of_ble_eq_true rfl) ⟨Nat.zero_le _, Nat.zero_le _⟩ d_Model_byLoader_181 (fun H locs hw => ?_) rfl
                    obtain ⟨u641, hu641, hf⟩ := bd_s hf
                    refine n_callSi hC hw fc_Model_69 (c_Model_goesOn l g E hEe x584 u640 N u641 hu641) [] (wd_Model_byLoader g t_o t_disk_a t_sort_a t_first_a t_many_a t_name_a t_size_a t_seed_a t_scattered_a t_head_a t_follows_a t_memory_a t_thrown t_sectors t_partitions t_files t_address t_start t_fat t_clusters t_header t_found t_kernelAt t_kernelSize t_any t_disk) ⟨rfl, rfl⟩ ⟨Nat.le_of_ble_eq_true rfl, Nat.le_of_ble_eq_true rfl⟩ rfl At_.nil At_.nil Sm_.refl rfl hl.1 (Nat.le_of_ble_eq_true rfl) ⟨Nat.zero_le _, Nat.zero_le _⟩ d_Model_byLoader_184 (fun H locs hw => ?_) rfl
                    refine n_istore hC [(6, .int u641), (7, .int x583), (4, .long u549), (1, .int u328), (0, .ref t_o)] hl d_Model_byLoader_187 (by decide) rfl (fun ls hl => ?_)
                    refine n_iinc hC (k := 1) hf (by decide) (fun v642 => [(7, .int v642), (6, .int u641), (4, .long u549), (1, .int u328), (0, .ref t_o)]) hl d_Model_byLoader_189 rfl (by decide) (fun _ => rfl) (fun v642 ls hf hl => ?_)
                    refine n_goto hC 148 d_Model_byLoader_192 (by decide) ?_
                    exact hk148 _ _ hf _ _ _ hw (lv_sub hl [0, 1, 2, 3, 4] rfl)
                  )
                exact hL148 N _ _ hf _ _ _ hw (lv_sub hl [0, 1, 2, 4, 5] rfl)
              · refine n_bipush hC 9 d_Model_byLoader_139 (by decide) ?_
                cases hf
                exact hret _ _ _ _ hw (show narrow .int (Value.int 9) = Value.int 9 from rfl) d_Model_byLoader_141
        · refine n_aload_n hC hl 3 d_Model_byLoader_31 rfl rfl ?_
          refine n_bipush hC 65 d_Model_byLoader_32 (by decide) ?_
          refine n_bipush hC 6 d_Model_byLoader_34 (by decide) ?_
          refine n_iload hC hl 0 d_Model_byLoader_36 rfl ?_
          refine n_imul hC hf d_Model_byLoader_38 (fun v643 hf => ?_)
          refine n_iadd hC hf d_Model_byLoader_39 (fun v644 hf => ?_)
          refine n_iconst hC 4 d_Model_byLoader_40 (by decide) ?_
          obtain ⟨u645, hu645, hf⟩ := bd_s hf
          refine n_callVl hC hw fc_Model_162 (c_Model_lowAt l g E hEe t_o t_disk_a t_sort_a t_first_a t_many_a t_name_a t_size_a t_seed_a t_scattered_a t_head_a t_follows_a t_memory_a t_thrown t_sectors t_partitions t_files t_address t_start t_fat t_clusters t_header t_found t_kernelAt t_kernelSize t_any t_disk v644 4 N u645 hu645) [0, 1] (wd_Model_byLoader g t_o t_disk_a t_sort_a t_first_a t_many_a t_name_a t_size_a t_seed_a t_scattered_a t_head_a t_follows_a t_memory_a t_thrown t_sectors t_partitions t_files t_address t_start t_fat t_clusters t_header t_found t_kernelAt t_kernelSize t_any t_disk) 0 rfl ⟨rfl, rfl⟩ ⟨Nat.le_of_ble_eq_true rfl, Nat.le_of_ble_eq_true rfl⟩ rfl (At_.cons rfl (At_.cons rfl At_.nil)) (At_.cons rfl (At_.cons rfl At_.nil)) Sm_.refl rfl hl.1 (Nat.le_of_ble_eq_true rfl) ⟨Nat.zero_le _, Nat.zero_le _⟩ d_Model_byLoader_41 (fun H locs hw => ?_) rfl
          refine n_lstore hC [(5, .long u645), (4, .int x437), (2, .long x438), (1, .int u328), (0, .ref t_o)] hl d_Model_byLoader_44 (by decide) rfl (fun ls hl => ?_)
          refine n_aload_n hC hl 4 d_Model_byLoader_46 rfl rfl ?_
          refine n_bipush hC 69 d_Model_byLoader_47 (by decide) ?_
          refine n_bipush hC 6 d_Model_byLoader_49 (by decide) ?_
          refine n_iload hC hl 1 d_Model_byLoader_51 rfl ?_
          refine n_imul hC hf d_Model_byLoader_53 (fun v646 hf => ?_)
          refine n_iadd hC hf d_Model_byLoader_54 (fun v647 hf => ?_)
          refine n_iconst hC 2 d_Model_byLoader_55 (by decide) ?_
          obtain ⟨u648, hu648, hf⟩ := bd_s hf
          refine n_callVl hC hw fc_Model_162 (c_Model_lowAt l g E hEe t_o t_disk_a t_sort_a t_first_a t_many_a t_name_a t_size_a t_seed_a t_scattered_a t_head_a t_follows_a t_memory_a t_thrown t_sectors t_partitions t_files t_address t_start t_fat t_clusters t_header t_found t_kernelAt t_kernelSize t_any t_disk v647 2 N u648 hu648) [0, 1] (wd_Model_byLoader g t_o t_disk_a t_sort_a t_first_a t_many_a t_name_a t_size_a t_seed_a t_scattered_a t_head_a t_follows_a t_memory_a t_thrown t_sectors t_partitions t_files t_address t_start t_fat t_clusters t_header t_found t_kernelAt t_kernelSize t_any t_disk) 0 rfl ⟨rfl, rfl⟩ ⟨Nat.le_of_ble_eq_true rfl, Nat.le_of_ble_eq_true rfl⟩ rfl (At_.cons rfl (At_.cons rfl At_.nil)) (At_.cons rfl (At_.cons rfl At_.nil)) Sm_.refl rfl hl.1 (Nat.le_of_ble_eq_true rfl) ⟨Nat.zero_le _, Nat.zero_le _⟩ d_Model_byLoader_56 (fun H locs hw => ?_) rfl
          refine n_lstore hC [(7, .long u648), (5, .long u645), (4, .int x437), (2, .long x438), (1, .int u328), (0, .ref t_o)] hl d_Model_byLoader_59 (by decide) rfl (fun ls hl => ?_)
          refine n_lload hC hl 0 d_Model_byLoader_61 rfl ?_
          refine n_lconst hC 0 d_Model_byLoader_63 (by decide) ?_
          refine n_lcmp hC hf d_Model_byLoader_64 (fun v649 hf => ?_)
          refine n_if_eq hC hf 82 d_Model_byLoader_65 (by decide) (fun hf => ?_) (fun hf => ?_)
          · refine n_bipush hC 9 d_Model_byLoader_82 (by decide) ?_
            cases hf
            exact hret _ _ _ _ hw (show narrow .int (Value.int 9) = Value.int 9 from rfl) d_Model_byLoader_84
          · refine n_lload hC hl 1 d_Model_byLoader_68 rfl ?_
            refine n_lload hC hl 0 d_Model_byLoader_70 rfl ?_
            refine n_ladd hC hf d_Model_byLoader_72 (fun v650 hf => ?_)
            refine n_aload_n hC hl 5 d_Model_byLoader_73 rfl rfl ?_
            refine n_get hC hw fg_Model_48 0 rfl rfl d_Model_byLoader_74 ?_
            refine n_i2l hC hf d_Model_byLoader_77 (fun v651 hf => ?_)
            refine n_lcmp hC hf d_Model_byLoader_78 (fun v652 hf => ?_)
            refine n_if_le hC hf 85 d_Model_byLoader_79 (by decide) (fun hf => ?_) (fun hf => ?_)
            · refine n_lload_n hC hl 3 d_Model_byLoader_85 rfl rfl ?_
              refine n_lload hC hl 0 d_Model_byLoader_86 rfl ?_
              refine n_ladd hC hf d_Model_byLoader_88 (fun v653 hf => ?_)
              refine n_lstore_n hC [(2, .long v653), (7, .long u648), (5, .long u645), (4, .int x437), (1, .int u328), (0, .ref t_o)] hl d_Model_byLoader_89 rfl (by decide) rfl (fun ls hl => ?_)
              refine n_iinc hC (k := 3) hf (by decide) (fun v654 => [(4, .int v654), (2, .long v653), (7, .long u648), (5, .long u645), (1, .int u328), (0, .ref t_o)]) hl d_Model_byLoader_90 rfl (by decide) (fun _ => rfl) (fun v654 ls hf hl => ?_)
              refine n_goto hC 25 d_Model_byLoader_93 (by decide) ?_
              exact hk25 _ _ hf _ _ _ hw (lv_sub hl [0, 1, 4, 5] rfl)
            · refine n_bipush hC 9 d_Model_byLoader_82 (by decide) ?_
              cases hf
              exact hret _ _ _ _ hw (show narrow .int (Value.int 9) = Value.int 9 from rfl) d_Model_byLoader_84
        )
      exact hL25 N _ _ hf _ _ _ hw (lv_sub hl [0, 1, 2, 3] rfl)
    · refine n_bipush hC 9 d_Model_byLoader_17 (by decide) ?_
      cases hf
      exact hret _ _ _ _ hw (show narrow .int (Value.int 9) = Value.int 9 from rfl) d_Model_byLoader_19
def wd_Model_entryAt (g : GT) (t_o : Nat) (t_disk_a : Nat) (t_sort_a : Nat) (t_first_a : Nat) (t_many_a : Nat) (t_name_a : Nat) (t_size_a : Nat) (t_seed_a : Nat) (t_scattered_a : Nat) (t_head_a : Nat) (t_follows_a : Nat) (t_memory_a : Nat) (t_thrown : Int32) (t_sectors : Int32) (t_partitions : Int32) (t_files : Int32) (t_address : Int32) (t_start : Int32) (t_fat : Int32) (t_clusters : Int32) (t_header : Int32) (t_found : Int32) (t_kernelAt : Int32) (t_kernelSize : Int32) (t_any : Int32) (t_disk : Nat → Int32) : va_W := [(t_o, .inr (7, [.int t_thrown, .int t_sectors, .ref t_disk_a, .int t_partitions, .ref t_sort_a, .ref t_first_a, .ref t_many_a, .int t_files, .ref t_name_a, .ref t_size_a, .ref t_seed_a, .ref t_scattered_a, .int t_address, .int t_start, .int t_fat, .int t_clusters, .ref t_head_a, .ref t_follows_a, .int t_header, .int t_found, .int t_kernelAt, .int t_kernelSize, .int t_any, .ref t_memory_a])), (t_disk_a, .inl (g.2.2.2.2, 307200, .inl t_disk))]
def f_Model_entryAt (a1 : Int32) (a2 : Int32) (t_disk : Nat → Int32) : Option (Int32) :=
  lt_ ((512 : Int32) * a1) (fun v13 => lt_ (a2 * 3) (fun v14 => lt_ (v14 / 2) (fun v15 => lt_ (v13 + v15) (fun v16 => bd_ (f_Model_get t_disk v16) (fun u17 => lt_ (v16 + 1) (fun v18 => bd_ (f_Model_get t_disk v18) (fun u19 => lt_ (u19 <<< ((8 : Int32) &&& 31)) (fun v20 => lt_ (u17 ||| v20) (fun v21 => lt_ (a2 - a2 / 2 * 2) (fun v22 => if ¬ v22 = 0 then lt_ (v21 >>> ((4 : Int32) &&& 31)) (fun v23 => some (v23)) else lt_ (v21 &&& 4095) (fun v24 => some (v24))))))))))))
def rm_Model_entryAt : Room := { frames := 1, cells := 0, slots := 0, locals := 21 }
set_option maxHeartbeats 4000000 in
set_option maxRecDepth 100000 in
theorem c_Model_entryAt (l : Launch) (g : GT) (E : (Nat → Prop) → State → Prop) (hEe : Ee E) (t_o : Nat) (t_disk_a : Nat) (t_sort_a : Nat) (t_first_a : Nat) (t_many_a : Nat) (t_name_a : Nat) (t_size_a : Nat) (t_seed_a : Nat) (t_scattered_a : Nat) (t_head_a : Nat) (t_follows_a : Nat) (t_memory_a : Nat) (t_thrown : Int32) (t_sectors : Int32) (t_partitions : Int32) (t_files : Int32) (t_address : Int32) (t_start : Int32) (t_fat : Int32) (t_clusters : Int32) (t_header : Int32) (t_found : Int32) (t_kernelAt : Int32) (t_kernelSize : Int32) (t_any : Int32) (t_disk : Nat → Int32) (a1 : Int32) (a2 : Int32) (z : Int32) (hf : f_Model_entryAt a1 a2 t_disk = some z) : Cg l g E y_Model_entryAt ws_Model_entryAt rm_Model_entryAt [.ref t_o, .int a1, .int a2] (wd_Model_entryAt g t_o t_disk_a t_sort_a t_first_a t_many_a t_name_a t_size_a t_seed_a t_scattered_a t_head_a t_follows_a t_memory_a t_thrown t_sectors t_partitions t_files t_address t_start t_fat t_clusters t_header t_found t_kernelAt t_kernelSize t_any t_disk) (some (.int z)) (wd_Model_entryAt g t_o t_disk_a t_sort_a t_first_a t_many_a t_name_a t_size_a t_seed_a t_scattered_a t_head_a t_follows_a t_memory_a t_thrown t_sectors t_partitions t_files t_address t_start t_fat t_clusters t_header t_found t_kernelAt t_kernelSize t_any t_disk) := by
  refine Ct.ofI hEe good_W (by decide) rfl (Nat.le_of_ble_eq_true rfl) ?_
  intro p e s m args below meth c A ls Q hC hw hl hret
  have hC : CX p m c b_Model_entryAt 5 s args Wall R_Model g.1 classes (tK g) E A := hC
  have hl : lv_has ls 5 [(0, .ref t_o), (1, .int a1), (2, .int a2)] := hl
  unfold f_Model_entryAt at hf
  refine n_sipush hC 512 d_Model_entryAt_0 (by decide) ?_
  refine n_iload_n hC hl 1 d_Model_entryAt_3 rfl rfl ?_
  refine n_imul hC hf d_Model_entryAt_4 (fun v13 hf => ?_)
  refine n_iload_n hC hl 2 d_Model_entryAt_5 rfl rfl ?_
  refine n_iconst hC 3 d_Model_entryAt_6 (by decide) ?_
  refine n_imul hC hf d_Model_entryAt_7 (fun v14 hf => ?_)
  refine n_iconst hC 2 d_Model_entryAt_8 (by decide) ?_
  refine n_idiv hC hf d_Model_entryAt_9 (by decide) (fun v15 hf => ?_)
  refine n_iadd hC hf d_Model_entryAt_10 (fun v16 hf => ?_)
  refine n_istore_n hC [(3, .int v16), (0, .ref t_o), (1, .int a1), (2, .int a2)] hl d_Model_entryAt_11 rfl (by decide) rfl (fun ls hl => ?_)
  refine n_aload_n hC hl 1 d_Model_entryAt_12 rfl rfl ?_
  refine n_iload_n hC hl 0 d_Model_entryAt_13 rfl rfl ?_
  obtain ⟨u17, hu17, hf⟩ := bd_s hf
  refine n_callVi hC hw fc_Model_64 (c_Model_get l g E hEe t_o t_disk_a t_sort_a t_first_a t_many_a t_name_a t_size_a t_seed_a t_scattered_a t_head_a t_follows_a t_memory_a t_thrown t_sectors t_partitions t_files t_address t_start t_fat t_clusters t_header t_found t_kernelAt t_kernelSize t_any t_disk v16 u17 hu17) [0, 1] (wd_Model_entryAt g t_o t_disk_a t_sort_a t_first_a t_many_a t_name_a t_size_a t_seed_a t_scattered_a t_head_a t_follows_a t_memory_a t_thrown t_sectors t_partitions t_files t_address t_start t_fat t_clusters t_header t_found t_kernelAt t_kernelSize t_any t_disk) 0 rfl ⟨rfl, rfl⟩ ⟨Nat.le_of_ble_eq_true rfl, Nat.le_of_ble_eq_true rfl⟩ rfl (At_.cons rfl (At_.cons rfl At_.nil)) (At_.cons rfl (At_.cons rfl At_.nil)) Sm_.refl rfl hl.1 (Nat.le_of_ble_eq_true rfl) ⟨Nat.zero_le _, Nat.zero_le _⟩ d_Model_entryAt_14 (fun H locs hw => ?_) rfl
  refine n_aload_n hC hl 1 d_Model_entryAt_17 rfl rfl ?_
  refine n_iload_n hC hl 0 d_Model_entryAt_18 rfl rfl ?_
  refine n_iconst hC 1 d_Model_entryAt_19 (by decide) ?_
  refine n_iadd hC hf d_Model_entryAt_20 (fun v18 hf => ?_)
  obtain ⟨u19, hu19, hf⟩ := bd_s hf
  refine n_callVi hC hw fc_Model_64 (c_Model_get l g E hEe t_o t_disk_a t_sort_a t_first_a t_many_a t_name_a t_size_a t_seed_a t_scattered_a t_head_a t_follows_a t_memory_a t_thrown t_sectors t_partitions t_files t_address t_start t_fat t_clusters t_header t_found t_kernelAt t_kernelSize t_any t_disk v18 u19 hu19) [0, 1] (wd_Model_entryAt g t_o t_disk_a t_sort_a t_first_a t_many_a t_name_a t_size_a t_seed_a t_scattered_a t_head_a t_follows_a t_memory_a t_thrown t_sectors t_partitions t_files t_address t_start t_fat t_clusters t_header t_found t_kernelAt t_kernelSize t_any t_disk) 0 rfl ⟨rfl, rfl⟩ ⟨Nat.le_of_ble_eq_true rfl, Nat.le_of_ble_eq_true rfl⟩ rfl (At_.cons rfl (At_.cons rfl At_.nil)) (At_.cons rfl (At_.cons rfl At_.nil)) Sm_.refl rfl hl.1 (Nat.le_of_ble_eq_true rfl) ⟨Nat.zero_le _, Nat.zero_le _⟩ d_Model_entryAt_21 (fun H locs hw => ?_) rfl
  refine n_bipush hC 8 d_Model_entryAt_24 (by decide) ?_
  refine n_ishl hC hf d_Model_entryAt_26 (fun v20 hf => ?_)
  refine n_ior hC hf d_Model_entryAt_27 (fun v21 hf => ?_)
  refine n_istore hC [(4, .int v21), (3, .int v16), (0, .ref t_o), (1, .int a1), (2, .int a2)] hl d_Model_entryAt_28 (by decide) rfl (fun ls hl => ?_)
  refine n_iload_n hC hl 4 d_Model_entryAt_30 rfl rfl ?_
  refine n_iconst hC 2 d_Model_entryAt_31 (by decide) ?_
  refine n_irem hC hf d_Model_entryAt_32 (by decide) (fun v22 hf => ?_)
  refine n_if_ne hC hf 45 d_Model_entryAt_33 (by decide) (fun hf => ?_) (fun hf => ?_)
  · refine n_iload hC hl 0 d_Model_entryAt_45 rfl ?_
    refine n_iconst hC 4 d_Model_entryAt_47 (by decide) ?_
    refine n_ishr hC hf d_Model_entryAt_48 (fun v23 hf => ?_)
    cases hf
    exact hret _ _ _ _ hw rfl d_Model_entryAt_49
  · refine n_iload hC hl 0 d_Model_entryAt_36 rfl ?_
    refine n_sipush hC 4095 d_Model_entryAt_38 (by decide) ?_
    refine n_iand hC hf d_Model_entryAt_41 (fun v24 hf => ?_)
    refine n_goto hC 49 d_Model_entryAt_42 (by decide) ?_
    cases hf
    exact hret _ _ _ _ hw rfl d_Model_entryAt_49
def wd_Model_kernelEntry (g : GT) (t_o : Nat) (t_disk_a : Nat) (t_sort_a : Nat) (t_first_a : Nat) (t_many_a : Nat) (t_name_a : Nat) (t_size_a : Nat) (t_seed_a : Nat) (t_scattered_a : Nat) (t_head_a : Nat) (t_follows_a : Nat) (t_memory_a : Nat) (t_thrown : Int32) (t_sectors : Int32) (t_partitions : Int32) (t_files : Int32) (t_address : Int32) (t_start : Int32) (t_fat : Int32) (t_clusters : Int32) (t_header : Int32) (t_found : Int32) (t_kernelAt : Int32) (t_kernelSize : Int32) (t_any : Int32) (t_disk : Nat → Int32) : va_W := [(t_o, .inr (7, [.int t_thrown, .int t_sectors, .ref t_disk_a, .int t_partitions, .ref t_sort_a, .ref t_first_a, .ref t_many_a, .int t_files, .ref t_name_a, .ref t_size_a, .ref t_seed_a, .ref t_scattered_a, .int t_address, .int t_start, .int t_fat, .int t_clusters, .ref t_head_a, .ref t_follows_a, .int t_header, .int t_found, .int t_kernelAt, .int t_kernelSize, .int t_any, .ref t_memory_a])), (t_disk_a, .inl (g.2.2.2.2, 307200, .inl t_disk))]
def f_Model_kernelEntry_L123 (x710 : Int32) (k2 : Int32 → Option (Int32)) (v890 : Int32) (t_disk : Nat → Int32) (k123 : Int32 → Int32 → Option (Int32)) (x912 : Int32) (x913 : Int32) : Option (Int32) :=
  if (11 : Int32) ≤ x912 then if x913 = 0 then lt_ (x710 + 1) (fun v920 => k2 v920) else some (v890) else lt_ (fun (x923 : Int32) => lt_ (x912 + 1) (fun v924 => k123 v924 x923)) (fun (j153 : Int32 → Option (Int32)) => lt_ (j153 0) (fun (j152 : Option (Int32)) => if x913 = 0 then j152 else lt_ (v890 + x912) (fun v928 => bd_ (f_Model_get t_disk v928) (fun u929 => if ¬ u929 = (32 : Int32) then j152 else j153 1))))
def f_Model_kernelEntry_L2 (N : Nat) (a1 : Int32) (t_disk : Nat → Int32) (k2 : Int32 → Option (Int32)) (x710 : Int32) : Option (Int32) :=
  if (32 : Int32) ≤ x710 then some ((-1)) else lt_ ((512 : Int32) * a1) (fun v888 => lt_ ((32 : Int32) * x710) (fun v889 => lt_ (v888 + v889) (fun v890 => bd_ (f_Model_get t_disk v890) (fun u891 => if ¬ u891 = 0 then bd_ (f_Model_get t_disk v890) (fun u892 => lt_ (fun (x905 : Int32) => lp_ (fun _ _ => none) (f_Model_kernelEntry_L123 x710 k2 v890 t_disk) N 6 x905) (fun (j117 : Int32 → Option (Int32)) => lt_ (j117 0) (fun (j116 : Option (Int32)) => if ¬ u892 = (75 : Int32) then j116 else lt_ (v890 + 1) (fun v962 => bd_ (f_Model_get t_disk v962) (fun u963 => if ¬ u963 = (69 : Int32) then j116 else lt_ (v890 + 2) (fun v964 => bd_ (f_Model_get t_disk v964) (fun u965 => if ¬ u965 = (82 : Int32) then j116 else lt_ (v890 + 3) (fun v966 => bd_ (f_Model_get t_disk v966) (fun u967 => if ¬ u967 = (78 : Int32) then j116 else lt_ (v890 + 4) (fun v968 => bd_ (f_Model_get t_disk v968) (fun u969 => if ¬ u969 = (69 : Int32) then j116 else lt_ (v890 + 5) (fun v970 => bd_ (f_Model_get t_disk v970) (fun u971 => if ¬ u971 = (76 : Int32) then j116 else lt_ (v890 + 11) (fun v972 => bd_ (f_Model_get t_disk v972) (fun u973 => if ¬ u973 = (32 : Int32) then j116 else j117 1))))))))))))))) else some ((-1))))))
def f_Model_kernelEntry (N : Nat) (a1 : Int32) (t_disk : Nat → Int32) : Option (Int32) :=
  lp_ (fun _ => none) (f_Model_kernelEntry_L2 N a1 t_disk) N 0
def rm_Model_kernelEntry : Room := { frames := 1, cells := 0, slots := 0, locals := 21 }
set_option maxHeartbeats 4000000 in
set_option maxRecDepth 100000 in
theorem c_Model_kernelEntry (l : Launch) (g : GT) (E : (Nat → Prop) → State → Prop) (hEe : Ee E) (t_o : Nat) (t_disk_a : Nat) (t_sort_a : Nat) (t_first_a : Nat) (t_many_a : Nat) (t_name_a : Nat) (t_size_a : Nat) (t_seed_a : Nat) (t_scattered_a : Nat) (t_head_a : Nat) (t_follows_a : Nat) (t_memory_a : Nat) (t_thrown : Int32) (t_sectors : Int32) (t_partitions : Int32) (t_files : Int32) (t_address : Int32) (t_start : Int32) (t_fat : Int32) (t_clusters : Int32) (t_header : Int32) (t_found : Int32) (t_kernelAt : Int32) (t_kernelSize : Int32) (t_any : Int32) (t_disk : Nat → Int32) (a1 : Int32) (N : Nat) (z : Int32) (hf : f_Model_kernelEntry N a1 t_disk = some z) : Cg l g E y_Model_kernelEntry ws_Model_kernelEntry rm_Model_kernelEntry [.ref t_o, .int a1] (wd_Model_kernelEntry g t_o t_disk_a t_sort_a t_first_a t_many_a t_name_a t_size_a t_seed_a t_scattered_a t_head_a t_follows_a t_memory_a t_thrown t_sectors t_partitions t_files t_address t_start t_fat t_clusters t_header t_found t_kernelAt t_kernelSize t_any t_disk) (some (.int z)) (wd_Model_kernelEntry g t_o t_disk_a t_sort_a t_first_a t_many_a t_name_a t_size_a t_seed_a t_scattered_a t_head_a t_follows_a t_memory_a t_thrown t_sectors t_partitions t_files t_address t_start t_fat t_clusters t_header t_found t_kernelAt t_kernelSize t_any t_disk) := by
  refine Ct.ofI hEe good_W (by decide) rfl (Nat.le_of_ble_eq_true rfl) ?_
  intro p e s m args below meth c A ls Q hC hw hl hret
  have hC : CX p m c b_Model_kernelEntry 6 s args Wall R_Model g.1 classes (tK g) E A := hC
  have hl : lv_has ls 6 [(0, .ref t_o), (1, .int a1)] := hl
  unfold f_Model_kernelEntry at hf
  refine n_iconst hC 0 d_Model_kernelEntry_0 (by decide) ?_
  refine n_istore_n hC [(2, .int 0), (0, .ref t_o), (1, .int a1)] hl d_Model_kernelEntry_1 rfl (by decide) rfl (fun ls hl => ?_)
  have hL2 := lw1 (B := f_Model_kernelEntry_L2 N a1 t_disk) (z := z) (fun (x710 : Int32) => ∀ (H : Heap) (locs : List Loc) (ls : Array Slot), WS g.1 classes A s.heap H locs (wd_Model_kernelEntry g t_o t_disk_a t_sort_a t_first_a t_many_a t_name_a t_size_a t_seed_a t_scattered_a t_head_a t_follows_a t_memory_a t_thrown t_sectors t_partitions t_files t_address t_start t_fat t_clusters t_header t_found t_kernelAt t_kernelSize t_any t_disk) → lv_has ls 6 [(2, .int x710), (0, .ref t_o), (1, .int a1)] → W p l e rm_Model_kernelEntry s m args below meth c H locs 0 0 Q (F0 m 2 ls [])) (by
    intro k2 hk2 x710 hf H locs ls hw hl
    unfold f_Model_kernelEntry_L2 at hf
    refine n_iload_n hC hl 0 d_Model_kernelEntry_2 rfl rfl ?_
    refine n_bipush hC 32 d_Model_kernelEntry_3 (by decide) ?_
    refine n_icmp_ge hC hf 174 d_Model_kernelEntry_5 (by decide) (fun hf => ?_) (fun hf => ?_)
    · refine n_iconst hC (-1) d_Model_kernelEntry_174 (by decide) ?_
      cases hf
      exact hret _ _ _ _ hw rfl d_Model_kernelEntry_175
    · refine n_sipush hC 512 d_Model_kernelEntry_8 (by decide) ?_
      refine n_iload_n hC hl 2 d_Model_kernelEntry_11 rfl rfl ?_
      refine n_imul hC hf d_Model_kernelEntry_12 (fun v888 hf => ?_)
      refine n_bipush hC 32 d_Model_kernelEntry_13 (by decide) ?_
      refine n_iload_n hC hl 0 d_Model_kernelEntry_15 rfl rfl ?_
      refine n_imul hC hf d_Model_kernelEntry_16 (fun v889 hf => ?_)
      refine n_iadd hC hf d_Model_kernelEntry_17 (fun v890 hf => ?_)
      refine n_istore_n hC [(3, .int v890), (2, .int x710), (0, .ref t_o), (1, .int a1)] hl d_Model_kernelEntry_18 rfl (by decide) rfl (fun ls hl => ?_)
      refine n_aload_n hC hl 2 d_Model_kernelEntry_19 rfl rfl ?_
      refine n_iload_n hC hl 0 d_Model_kernelEntry_20 rfl rfl ?_
      obtain ⟨u891, hu891, hf⟩ := bd_s hf
      refine n_callVi hC hw fc_Model_64 (c_Model_get l g E hEe t_o t_disk_a t_sort_a t_first_a t_many_a t_name_a t_size_a t_seed_a t_scattered_a t_head_a t_follows_a t_memory_a t_thrown t_sectors t_partitions t_files t_address t_start t_fat t_clusters t_header t_found t_kernelAt t_kernelSize t_any t_disk v890 u891 hu891) [0, 1] (wd_Model_kernelEntry g t_o t_disk_a t_sort_a t_first_a t_many_a t_name_a t_size_a t_seed_a t_scattered_a t_head_a t_follows_a t_memory_a t_thrown t_sectors t_partitions t_files t_address t_start t_fat t_clusters t_header t_found t_kernelAt t_kernelSize t_any t_disk) 0 rfl ⟨rfl, rfl⟩ ⟨Nat.le_of_ble_eq_true rfl, Nat.le_of_ble_eq_true rfl⟩ rfl (At_.cons rfl (At_.cons rfl At_.nil)) (At_.cons rfl (At_.cons rfl At_.nil)) Sm_.refl rfl hl.1 (Nat.le_of_ble_eq_true rfl) ⟨Nat.zero_le _, Nat.zero_le _⟩ d_Model_kernelEntry_21 (fun H locs hw => ?_) rfl
      refine n_if_ne hC hf 29 d_Model_kernelEntry_24 (by decide) (fun hf => ?_) (fun hf => ?_)
      · refine n_aload_n hC hl 2 d_Model_kernelEntry_29 rfl rfl ?_
        refine n_iload_n hC hl 0 d_Model_kernelEntry_30 rfl rfl ?_
        obtain ⟨u892, hu892, hf⟩ := bd_s hf
        refine n_callVi hC hw fc_Model_64 (c_Model_get l g E hEe t_o t_disk_a t_sort_a t_first_a t_many_a t_name_a t_size_a t_seed_a t_scattered_a t_head_a t_follows_a t_memory_a t_thrown t_sectors t_partitions t_files t_address t_start t_fat t_clusters t_header t_found t_kernelAt t_kernelSize t_any t_disk v890 u892 hu892) [0, 1] (wd_Model_kernelEntry g t_o t_disk_a t_sort_a t_first_a t_many_a t_name_a t_size_a t_seed_a t_scattered_a t_head_a t_follows_a t_memory_a t_thrown t_sectors t_partitions t_files t_address t_start t_fat t_clusters t_header t_found t_kernelAt t_kernelSize t_any t_disk) 0 rfl ⟨rfl, rfl⟩ ⟨Nat.le_of_ble_eq_true rfl, Nat.le_of_ble_eq_true rfl⟩ rfl (At_.cons rfl (At_.cons rfl At_.nil)) (At_.cons rfl (At_.cons rfl At_.nil)) Sm_.refl rfl hl.1 (Nat.le_of_ble_eq_true rfl) ⟨Nat.zero_le _, Nat.zero_le _⟩ d_Model_kernelEntry_31 (fun H locs hw => ?_) rfl
        refine n_bipush hC 75 d_Model_kernelEntry_34 (by decide) ?_
        refine jn1 (fun (x905 : Int32) => ∀ (H : Heap) (locs : List Loc) (ls : Array Slot), WS g.1 classes A s.heap H locs (wd_Model_kernelEntry g t_o t_disk_a t_sort_a t_first_a t_many_a t_name_a t_size_a t_seed_a t_scattered_a t_head_a t_follows_a t_memory_a t_thrown t_sectors t_partitions t_files t_address t_start t_fat t_clusters t_header t_found t_kernelAt t_kernelSize t_any t_disk) → lv_has ls 6 [(3, .int v890), (2, .int x710), (0, .ref t_o), (1, .int a1)] → W p l e rm_Model_kernelEntry s m args below meth c H locs 0 0 Q (F0 m 117 ls [.int x905])) hf (fun x905 hf H locs ls hw hl => ?_) (fun j117 hj117 hf => ?_)
        · refine n_istore hC [(4, .int x905), (3, .int v890), (2, .int x710), (0, .ref t_o), (1, .int a1)] hl d_Model_kernelEntry_117 (by decide) rfl (fun ls hl => ?_)
          refine n_bipush hC 6 d_Model_kernelEntry_119 (by decide) ?_
          refine n_istore hC [(5, .int 6), (4, .int x905), (3, .int v890), (2, .int x710), (0, .ref t_o), (1, .int a1)] hl d_Model_kernelEntry_121 (by decide) rfl (fun ls hl => ?_)
          have hL123 := lw2 (B := f_Model_kernelEntry_L123 x710 k2 v890 t_disk) (z := z) (fun (x912 : Int32) (x913 : Int32) => ∀ (H : Heap) (locs : List Loc) (ls : Array Slot), WS g.1 classes A s.heap H locs (wd_Model_kernelEntry g t_o t_disk_a t_sort_a t_first_a t_many_a t_name_a t_size_a t_seed_a t_scattered_a t_head_a t_follows_a t_memory_a t_thrown t_sectors t_partitions t_files t_address t_start t_fat t_clusters t_header t_found t_kernelAt t_kernelSize t_any t_disk) → lv_has ls 6 [(5, .int x912), (4, .int x913), (3, .int v890), (2, .int x710), (0, .ref t_o), (1, .int a1)] → W p l e rm_Model_kernelEntry s m args below meth c H locs 0 0 Q (F0 m 123 ls [])) (by
            intro k123 hk123 x912 x913 hf H locs ls hw hl
            unfold f_Model_kernelEntry_L123 at hf
            refine n_iload hC hl 0 d_Model_kernelEntry_123 rfl ?_
            refine n_bipush hC 11 d_Model_kernelEntry_125 (by decide) ?_
            refine n_icmp_ge hC hf 161 d_Model_kernelEntry_127 (by decide) (fun hf => ?_) (fun hf => ?_)
            · refine n_iload hC hl 1 d_Model_kernelEntry_161 rfl ?_
              refine n_if_eq hC hf 168 d_Model_kernelEntry_163 (by decide) (fun hf => ?_) (fun hf => ?_)
              · refine n_iinc hC (k := 3) hf (by decide) (fun v920 => [(2, .int v920), (5, .int x912), (4, .int x913), (3, .int v890), (0, .ref t_o), (1, .int a1)]) hl d_Model_kernelEntry_168 rfl (by decide) (fun _ => rfl) (fun v920 ls hf hl => ?_)
                refine n_goto hC 2 d_Model_kernelEntry_171 (by decide) ?_
                exact hk2 _ hf _ _ _ hw (lv_sub hl [0, 4, 5] rfl)
              · refine n_iload_n hC hl 2 d_Model_kernelEntry_166 rfl rfl ?_
                cases hf
                exact hret _ _ _ _ hw rfl d_Model_kernelEntry_167
            · refine n_iload hC hl 1 d_Model_kernelEntry_130 rfl ?_
              refine jn1 (fun (x923 : Int32) => ∀ (H : Heap) (locs : List Loc) (ls : Array Slot), WS g.1 classes A s.heap H locs (wd_Model_kernelEntry g t_o t_disk_a t_sort_a t_first_a t_many_a t_name_a t_size_a t_seed_a t_scattered_a t_head_a t_follows_a t_memory_a t_thrown t_sectors t_partitions t_files t_address t_start t_fat t_clusters t_header t_found t_kernelAt t_kernelSize t_any t_disk) → lv_has ls 6 [(5, .int x912), (3, .int v890), (2, .int x710), (0, .ref t_o), (1, .int a1)] → W p l e rm_Model_kernelEntry s m args below meth c H locs 0 0 Q (F0 m 153 ls [.int x923])) hf (fun x923 hf H locs ls hw hl => ?_) (fun j153 hj153 hf => ?_)
              · refine n_istore hC [(4, .int x923), (5, .int x912), (3, .int v890), (2, .int x710), (0, .ref t_o), (1, .int a1)] hl d_Model_kernelEntry_153 (by decide) rfl (fun ls hl => ?_)
                refine n_iinc hC (k := 1) hf (by decide) (fun v924 => [(5, .int v924), (4, .int x923), (3, .int v890), (2, .int x710), (0, .ref t_o), (1, .int a1)]) hl d_Model_kernelEntry_155 rfl (by decide) (fun _ => rfl) (fun v924 ls hf hl => ?_)
                refine n_goto hC 123 d_Model_kernelEntry_158 (by decide) ?_
                exact hk123 _ _ hf _ _ _ hw (lv_sub hl [0, 1, 2, 3, 4, 5] rfl)
              refine jn0 (∀ (H : Heap) (locs : List Loc) (ls : Array Slot), WS g.1 classes A s.heap H locs (wd_Model_kernelEntry g t_o t_disk_a t_sort_a t_first_a t_many_a t_name_a t_size_a t_seed_a t_scattered_a t_head_a t_follows_a t_memory_a t_thrown t_sectors t_partitions t_files t_address t_start t_fat t_clusters t_header t_found t_kernelAt t_kernelSize t_any t_disk) → lv_has ls 6 [(5, .int x912), (3, .int v890), (2, .int x710), (0, .ref t_o), (1, .int a1)] → W p l e rm_Model_kernelEntry s m args below meth c H locs 0 0 Q (F0 m 152 ls [])) hf (fun hf H locs ls hw hl => ?_) (fun j152 hj152 hf => ?_)
              · refine n_iconst hC 0 d_Model_kernelEntry_152 (by decide) ?_
                exact hj153 _ hf _ _ _ hw (lv_sub hl [0, 1, 2, 3, 4] rfl)
              refine n_if_eq hC hf 152 d_Model_kernelEntry_132 (by decide) (fun hf => ?_) (fun hf => ?_)
              · exact hj152 hf _ _ _ hw (lv_sub hl [0, 2, 3, 4, 5] rfl)
              · refine n_aload_n hC hl 4 d_Model_kernelEntry_135 rfl rfl ?_
                refine n_iload_n hC hl 2 d_Model_kernelEntry_136 rfl rfl ?_
                refine n_iload hC hl 0 d_Model_kernelEntry_137 rfl ?_
                refine n_iadd hC hf d_Model_kernelEntry_139 (fun v928 hf => ?_)
                obtain ⟨u929, hu929, hf⟩ := bd_s hf
                refine n_callVi hC hw fc_Model_64 (c_Model_get l g E hEe t_o t_disk_a t_sort_a t_first_a t_many_a t_name_a t_size_a t_seed_a t_scattered_a t_head_a t_follows_a t_memory_a t_thrown t_sectors t_partitions t_files t_address t_start t_fat t_clusters t_header t_found t_kernelAt t_kernelSize t_any t_disk v928 u929 hu929) [0, 1] (wd_Model_kernelEntry g t_o t_disk_a t_sort_a t_first_a t_many_a t_name_a t_size_a t_seed_a t_scattered_a t_head_a t_follows_a t_memory_a t_thrown t_sectors t_partitions t_files t_address t_start t_fat t_clusters t_header t_found t_kernelAt t_kernelSize t_any t_disk) 0 rfl ⟨rfl, rfl⟩ ⟨Nat.le_of_ble_eq_true rfl, Nat.le_of_ble_eq_true rfl⟩ rfl (At_.cons rfl (At_.cons rfl At_.nil)) (At_.cons rfl (At_.cons rfl At_.nil)) Sm_.refl rfl hl.1 (Nat.le_of_ble_eq_true rfl) ⟨Nat.zero_le _, Nat.zero_le _⟩ d_Model_kernelEntry_140 (fun H locs hw => ?_) rfl
                refine n_bipush hC 32 d_Model_kernelEntry_143 (by decide) ?_
                refine n_icmp_ne hC hf 152 d_Model_kernelEntry_145 (by decide) (fun hf => ?_) (fun hf => ?_)
                · exact hj152 hf _ _ _ hw (lv_sub hl [0, 2, 3, 4, 5] rfl)
                · refine n_iconst hC 1 d_Model_kernelEntry_148 (by decide) ?_
                  refine n_goto hC 153 d_Model_kernelEntry_149 (by decide) ?_
                  exact hj153 _ hf _ _ _ hw (lv_sub hl [0, 2, 3, 4, 5] rfl)
            )
          exact hL123 N _ _ hf _ _ _ hw (lv_sub hl [0, 1, 2, 3, 4, 5] rfl)
        refine jn0 (∀ (H : Heap) (locs : List Loc) (ls : Array Slot), WS g.1 classes A s.heap H locs (wd_Model_kernelEntry g t_o t_disk_a t_sort_a t_first_a t_many_a t_name_a t_size_a t_seed_a t_scattered_a t_head_a t_follows_a t_memory_a t_thrown t_sectors t_partitions t_files t_address t_start t_fat t_clusters t_header t_found t_kernelAt t_kernelSize t_any t_disk) → lv_has ls 6 [(3, .int v890), (2, .int x710), (0, .ref t_o), (1, .int a1)] → W p l e rm_Model_kernelEntry s m args below meth c H locs 0 0 Q (F0 m 116 ls [])) hf (fun hf H locs ls hw hl => ?_) (fun j116 hj116 hf => ?_)
        · refine n_iconst hC 0 d_Model_kernelEntry_116 (by decide) ?_
          exact hj117 _ hf _ _ _ hw (lv_sub hl [0, 1, 2, 3] rfl)
        refine n_icmp_ne hC hf 116 d_Model_kernelEntry_36 (by decide) (fun hf => ?_) (fun hf => ?_)
        · exact hj116 hf _ _ _ hw (lv_sub hl [0, 1, 2, 3] rfl)
        · refine n_aload_n hC hl 2 d_Model_kernelEntry_39 rfl rfl ?_
          refine n_iload_n hC hl 0 d_Model_kernelEntry_40 rfl rfl ?_
          refine n_iconst hC 1 d_Model_kernelEntry_41 (by decide) ?_
          refine n_iadd hC hf d_Model_kernelEntry_42 (fun v962 hf => ?_)
          obtain ⟨u963, hu963, hf⟩ := bd_s hf
          refine n_callVi hC hw fc_Model_64 (c_Model_get l g E hEe t_o t_disk_a t_sort_a t_first_a t_many_a t_name_a t_size_a t_seed_a t_scattered_a t_head_a t_follows_a t_memory_a t_thrown t_sectors t_partitions t_files t_address t_start t_fat t_clusters t_header t_found t_kernelAt t_kernelSize t_any t_disk v962 u963 hu963) [0, 1] (wd_Model_kernelEntry g t_o t_disk_a t_sort_a t_first_a t_many_a t_name_a t_size_a t_seed_a t_scattered_a t_head_a t_follows_a t_memory_a t_thrown t_sectors t_partitions t_files t_address t_start t_fat t_clusters t_header t_found t_kernelAt t_kernelSize t_any t_disk) 0 rfl ⟨rfl, rfl⟩ ⟨Nat.le_of_ble_eq_true rfl, Nat.le_of_ble_eq_true rfl⟩ rfl (At_.cons rfl (At_.cons rfl At_.nil)) (At_.cons rfl (At_.cons rfl At_.nil)) Sm_.refl rfl hl.1 (Nat.le_of_ble_eq_true rfl) ⟨Nat.zero_le _, Nat.zero_le _⟩ d_Model_kernelEntry_43 (fun H locs hw => ?_) rfl
          refine n_bipush hC 69 d_Model_kernelEntry_46 (by decide) ?_
          refine n_icmp_ne hC hf 116 d_Model_kernelEntry_48 (by decide) (fun hf => ?_) (fun hf => ?_)
          · exact hj116 hf _ _ _ hw (lv_sub hl [0, 1, 2, 3] rfl)
          · refine n_aload_n hC hl 2 d_Model_kernelEntry_51 rfl rfl ?_
            refine n_iload_n hC hl 0 d_Model_kernelEntry_52 rfl rfl ?_
            refine n_iconst hC 2 d_Model_kernelEntry_53 (by decide) ?_
            refine n_iadd hC hf d_Model_kernelEntry_54 (fun v964 hf => ?_)
            obtain ⟨u965, hu965, hf⟩ := bd_s hf
            refine n_callVi hC hw fc_Model_64 (c_Model_get l g E hEe t_o t_disk_a t_sort_a t_first_a t_many_a t_name_a t_size_a t_seed_a t_scattered_a t_head_a t_follows_a t_memory_a t_thrown t_sectors t_partitions t_files t_address t_start t_fat t_clusters t_header t_found t_kernelAt t_kernelSize t_any t_disk v964 u965 hu965) [0, 1] (wd_Model_kernelEntry g t_o t_disk_a t_sort_a t_first_a t_many_a t_name_a t_size_a t_seed_a t_scattered_a t_head_a t_follows_a t_memory_a t_thrown t_sectors t_partitions t_files t_address t_start t_fat t_clusters t_header t_found t_kernelAt t_kernelSize t_any t_disk) 0 rfl ⟨rfl, rfl⟩ ⟨Nat.le_of_ble_eq_true rfl, Nat.le_of_ble_eq_true rfl⟩ rfl (At_.cons rfl (At_.cons rfl At_.nil)) (At_.cons rfl (At_.cons rfl At_.nil)) Sm_.refl rfl hl.1 (Nat.le_of_ble_eq_true rfl) ⟨Nat.zero_le _, Nat.zero_le _⟩ d_Model_kernelEntry_55 (fun H locs hw => ?_) rfl
            refine n_bipush hC 82 d_Model_kernelEntry_58 (by decide) ?_
            refine n_icmp_ne hC hf 116 d_Model_kernelEntry_60 (by decide) (fun hf => ?_) (fun hf => ?_)
            · exact hj116 hf _ _ _ hw (lv_sub hl [0, 1, 2, 3] rfl)
            · refine n_aload_n hC hl 2 d_Model_kernelEntry_63 rfl rfl ?_
              refine n_iload_n hC hl 0 d_Model_kernelEntry_64 rfl rfl ?_
              refine n_iconst hC 3 d_Model_kernelEntry_65 (by decide) ?_
              refine n_iadd hC hf d_Model_kernelEntry_66 (fun v966 hf => ?_)
              obtain ⟨u967, hu967, hf⟩ := bd_s hf
              refine n_callVi hC hw fc_Model_64 (c_Model_get l g E hEe t_o t_disk_a t_sort_a t_first_a t_many_a t_name_a t_size_a t_seed_a t_scattered_a t_head_a t_follows_a t_memory_a t_thrown t_sectors t_partitions t_files t_address t_start t_fat t_clusters t_header t_found t_kernelAt t_kernelSize t_any t_disk v966 u967 hu967) [0, 1] (wd_Model_kernelEntry g t_o t_disk_a t_sort_a t_first_a t_many_a t_name_a t_size_a t_seed_a t_scattered_a t_head_a t_follows_a t_memory_a t_thrown t_sectors t_partitions t_files t_address t_start t_fat t_clusters t_header t_found t_kernelAt t_kernelSize t_any t_disk) 0 rfl ⟨rfl, rfl⟩ ⟨Nat.le_of_ble_eq_true rfl, Nat.le_of_ble_eq_true rfl⟩ rfl (At_.cons rfl (At_.cons rfl At_.nil)) (At_.cons rfl (At_.cons rfl At_.nil)) Sm_.refl rfl hl.1 (Nat.le_of_ble_eq_true rfl) ⟨Nat.zero_le _, Nat.zero_le _⟩ d_Model_kernelEntry_67 (fun H locs hw => ?_) rfl
              refine n_bipush hC 78 d_Model_kernelEntry_70 (by decide) ?_
              refine n_icmp_ne hC hf 116 d_Model_kernelEntry_72 (by decide) (fun hf => ?_) (fun hf => ?_)
              · exact hj116 hf _ _ _ hw (lv_sub hl [0, 1, 2, 3] rfl)
              · refine n_aload_n hC hl 2 d_Model_kernelEntry_75 rfl rfl ?_
                refine n_iload_n hC hl 0 d_Model_kernelEntry_76 rfl rfl ?_
                refine n_iconst hC 4 d_Model_kernelEntry_77 (by decide) ?_
                refine n_iadd hC hf d_Model_kernelEntry_78 (fun v968 hf => ?_)
                obtain ⟨u969, hu969, hf⟩ := bd_s hf
                refine n_callVi hC hw fc_Model_64 (c_Model_get l g E hEe t_o t_disk_a t_sort_a t_first_a t_many_a t_name_a t_size_a t_seed_a t_scattered_a t_head_a t_follows_a t_memory_a t_thrown t_sectors t_partitions t_files t_address t_start t_fat t_clusters t_header t_found t_kernelAt t_kernelSize t_any t_disk v968 u969 hu969) [0, 1] (wd_Model_kernelEntry g t_o t_disk_a t_sort_a t_first_a t_many_a t_name_a t_size_a t_seed_a t_scattered_a t_head_a t_follows_a t_memory_a t_thrown t_sectors t_partitions t_files t_address t_start t_fat t_clusters t_header t_found t_kernelAt t_kernelSize t_any t_disk) 0 rfl ⟨rfl, rfl⟩ ⟨Nat.le_of_ble_eq_true rfl, Nat.le_of_ble_eq_true rfl⟩ rfl (At_.cons rfl (At_.cons rfl At_.nil)) (At_.cons rfl (At_.cons rfl At_.nil)) Sm_.refl rfl hl.1 (Nat.le_of_ble_eq_true rfl) ⟨Nat.zero_le _, Nat.zero_le _⟩ d_Model_kernelEntry_79 (fun H locs hw => ?_) rfl
                refine n_bipush hC 69 d_Model_kernelEntry_82 (by decide) ?_
                refine n_icmp_ne hC hf 116 d_Model_kernelEntry_84 (by decide) (fun hf => ?_) (fun hf => ?_)
                · exact hj116 hf _ _ _ hw (lv_sub hl [0, 1, 2, 3] rfl)
                · refine n_aload_n hC hl 2 d_Model_kernelEntry_87 rfl rfl ?_
                  refine n_iload_n hC hl 0 d_Model_kernelEntry_88 rfl rfl ?_
                  refine n_iconst hC 5 d_Model_kernelEntry_89 (by decide) ?_
                  refine n_iadd hC hf d_Model_kernelEntry_90 (fun v970 hf => ?_)
                  obtain ⟨u971, hu971, hf⟩ := bd_s hf
                  refine n_callVi hC hw fc_Model_64 (c_Model_get l g E hEe t_o t_disk_a t_sort_a t_first_a t_many_a t_name_a t_size_a t_seed_a t_scattered_a t_head_a t_follows_a t_memory_a t_thrown t_sectors t_partitions t_files t_address t_start t_fat t_clusters t_header t_found t_kernelAt t_kernelSize t_any t_disk v970 u971 hu971) [0, 1] (wd_Model_kernelEntry g t_o t_disk_a t_sort_a t_first_a t_many_a t_name_a t_size_a t_seed_a t_scattered_a t_head_a t_follows_a t_memory_a t_thrown t_sectors t_partitions t_files t_address t_start t_fat t_clusters t_header t_found t_kernelAt t_kernelSize t_any t_disk) 0 rfl ⟨rfl, rfl⟩ ⟨Nat.le_of_ble_eq_true rfl, Nat.le_of_ble_eq_true rfl⟩ rfl (At_.cons rfl (At_.cons rfl At_.nil)) (At_.cons rfl (At_.cons rfl At_.nil)) Sm_.refl rfl hl.1 (Nat.le_of_ble_eq_true rfl) ⟨Nat.zero_le _, Nat.zero_le _⟩ d_Model_kernelEntry_91 (fun H locs hw => ?_) rfl
                  refine n_bipush hC 76 d_Model_kernelEntry_94 (by decide) ?_
                  refine n_icmp_ne hC hf 116 d_Model_kernelEntry_96 (by decide) (fun hf => ?_) (fun hf => ?_)
                  · exact hj116 hf _ _ _ hw (lv_sub hl [0, 1, 2, 3] rfl)
                  · refine n_aload_n hC hl 2 d_Model_kernelEntry_99 rfl rfl ?_
                    refine n_iload_n hC hl 0 d_Model_kernelEntry_100 rfl rfl ?_
                    refine n_bipush hC 11 d_Model_kernelEntry_101 (by decide) ?_
                    refine n_iadd hC hf d_Model_kernelEntry_103 (fun v972 hf => ?_)
                    obtain ⟨u973, hu973, hf⟩ := bd_s hf
                    refine n_callVi hC hw fc_Model_64 (c_Model_get l g E hEe t_o t_disk_a t_sort_a t_first_a t_many_a t_name_a t_size_a t_seed_a t_scattered_a t_head_a t_follows_a t_memory_a t_thrown t_sectors t_partitions t_files t_address t_start t_fat t_clusters t_header t_found t_kernelAt t_kernelSize t_any t_disk v972 u973 hu973) [0, 1] (wd_Model_kernelEntry g t_o t_disk_a t_sort_a t_first_a t_many_a t_name_a t_size_a t_seed_a t_scattered_a t_head_a t_follows_a t_memory_a t_thrown t_sectors t_partitions t_files t_address t_start t_fat t_clusters t_header t_found t_kernelAt t_kernelSize t_any t_disk) 0 rfl ⟨rfl, rfl⟩ ⟨Nat.le_of_ble_eq_true rfl, Nat.le_of_ble_eq_true rfl⟩ rfl (At_.cons rfl (At_.cons rfl At_.nil)) (At_.cons rfl (At_.cons rfl At_.nil)) Sm_.refl rfl hl.1 (Nat.le_of_ble_eq_true rfl) ⟨Nat.zero_le _, Nat.zero_le _⟩ d_Model_kernelEntry_104 (fun H locs hw => ?_) rfl
                    refine n_bipush hC 32 d_Model_kernelEntry_107 (by decide) ?_
                    refine n_icmp_ne hC hf 116 d_Model_kernelEntry_109 (by decide) (fun hf => ?_) (fun hf => ?_)
                    · exact hj116 hf _ _ _ hw (lv_sub hl [0, 1, 2, 3] rfl)
                    · refine n_iconst hC 1 d_Model_kernelEntry_112 (by decide) ?_
                      refine n_goto hC 117 d_Model_kernelEntry_113 (by decide) ?_
                      exact hj117 _ hf _ _ _ hw (lv_sub hl [0, 1, 2, 3] rfl)
      · refine n_iconst hC (-1) d_Model_kernelEntry_27 (by decide) ?_
        cases hf
        exact hret _ _ _ _ hw rfl d_Model_kernelEntry_28
    )
  exact hL2 N _ hf _ _ _ hw (lv_sub hl [0, 1, 2] rfl)
