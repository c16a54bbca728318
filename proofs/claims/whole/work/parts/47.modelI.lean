def wd_Model_boot (g : GT) (t_o : Nat) (t_disk_a : Nat) (t_memory_a : Nat) (t_sort_a : Nat) (t_first_a : Nat) (t_many_a : Nat) (t_name_a : Nat) (t_size_a : Nat) (t_seed_a : Nat) (t_scattered_a : Nat) (t_head_a : Nat) (t_follows_a : Nat) (t_thrown : Int32) (t_sectors : Int32) (t_partitions : Int32) (t_files : Int32) (t_address : Int32) (t_start : Int32) (t_fat : Int32) (t_clusters : Int32) (t_header : Int32) (t_found : Int32) (t_kernelAt : Int32) (t_kernelSize : Int32) (t_any : Int32) (t_disk : Nat → Int32) (t_memory : Nat → Int32) : va_W := [(t_o, .inr (7, [.int t_thrown, .int t_sectors, .ref t_disk_a, .int t_partitions, .ref t_sort_a, .ref t_first_a, .ref t_many_a, .int t_files, .ref t_name_a, .ref t_size_a, .ref t_seed_a, .ref t_scattered_a, .int t_address, .int t_start, .int t_fat, .int t_clusters, .ref t_head_a, .ref t_follows_a, .int t_header, .int t_found, .int t_kernelAt, .int t_kernelSize, .int t_any, .ref t_memory_a])), (t_disk_a, .inl (g.2.2.2.2, 307200, .inl t_disk)), (t_memory_a, .inl (g.2.2.2.2, 65536, .inl t_memory))]
def f_Model_boot_L55 (N : Nat) (t_disk : Nat → Int32) (x55 : Int32) (t_sectors : Int32) (a1 : Int32) (k55 : Int32 → (Nat → Int32) → Option (Int32 × Int32 × Int32 × Int32 × Int32 × Int32 × Int32 × (Nat → Int32))) (x64 : Int32) (x65 : Nat → Int32) : Option (Int32 × Int32 × Int32 × Int32 × Int32 × Int32 × Int32 × (Nat → Int32)) :=
  if (65536 : Int32) ≤ x64 then bd_ (f_Model_get t_disk 510) (fun u74 => if ¬ u74 = (85 : Int32) then some (1, x55, 0, (-1), (-1), (-1), 1, x65) else bd_ (f_Model_get t_disk 511) (fun u75 => if u75 = (170 : Int32) then lt_ (fun (x78 : Int32) (x79 : Int32) (x80 : Int32) => if x78 ≤ 0 then bd_ (f_Model_loaded N x80 t_disk (-1) (-1) x65 t_sectors) (fun u81 => some (u81.1, x55, x79, x80, u81.2.1, u81.2.2.1, 1, u81.2.2.2)) else some (x78, x55, x79, x80, (-1), (-1), 1, x65)) (fun (j116 : Int32 → Int32 → Int32 → Option (Int32 × Int32 × Int32 × Int32 × Int32 × Int32 × Int32 × (Nat → Int32))) => if ¬ a1 = 0 then bd_ (f_Model_byLoader N t_disk (-1) t_sectors) (fun u82 => j116 u82.1 0 u82.2) else bd_ (f_Model_byTable N t_disk t_sectors (-1) 0) (fun u83 => j116 u83.1 u83.2.1 u83.2.2)) else some (1, x55, 0, (-1), (-1), (-1), 1, x65))) else up_b 65536 x65 x64 0 (fun (f84 : Nat → Int32) => lt_ (x64 + 1) (fun v85 => k55 v85 f84))
def f_Model_boot (N : Nat) (a1 : Int32) (t_disk : Nat → Int32) (t_sectors : Int32) (t_memory : Nat → Int32) (t_header : Int32) (t_found : Int32) (t_kernelAt : Int32) (t_kernelSize : Int32) (t_any : Int32) : Option (Int32 × Int32 × Int32 × Int32 × Int32 × Int32 × Int32 × (Nat → Int32)) :=
  bd_ (f_Model_in a1 0 1) (fun u54 => lt_ (fun (x55 : Int32) => if ¬ x55 = (1 : Int32) then lp_ (fun _ _ => none) (f_Model_boot_L55 N t_disk x55 t_sectors a1) N 0 t_memory else some (0, x55, t_header, t_found, t_kernelAt, t_kernelSize, t_any, t_memory)) (fun (j15 : Int32 → Option (Int32 × Int32 × Int32 × Int32 × Int32 × Int32 × Int32 × (Nat → Int32))) => if u54 = 0 then j15 1 else j15 0))
def rm_Model_boot : Room := { frames := 4, cells := 0, slots := 0, locals := 101 }
set_option maxHeartbeats 4000000 in
set_option maxRecDepth 100000 in
theorem c_Model_boot (l : Launch) (g : GT) (E : (Nat → Prop) → State → Prop) (hEe : Ee E) (t_o : Nat) (t_disk_a : Nat) (t_memory_a : Nat) (t_sort_a : Nat) (t_first_a : Nat) (t_many_a : Nat) (t_name_a : Nat) (t_size_a : Nat) (t_seed_a : Nat) (t_scattered_a : Nat) (t_head_a : Nat) (t_follows_a : Nat) (t_thrown : Int32) (t_sectors : Int32) (t_partitions : Int32) (t_files : Int32) (t_address : Int32) (t_start : Int32) (t_fat : Int32) (t_clusters : Int32) (t_header : Int32) (t_found : Int32) (t_kernelAt : Int32) (t_kernelSize : Int32) (t_any : Int32) (t_disk : Nat → Int32) (t_memory : Nat → Int32) (a1 : Int32) (N : Nat) (z : Int32 × Int32 × Int32 × Int32 × Int32 × Int32 × Int32 × (Nat → Int32)) (hf : f_Model_boot N a1 t_disk t_sectors t_memory t_header t_found t_kernelAt t_kernelSize t_any = some z) : Cg l g E y_Model_boot ws_Model_boot rm_Model_boot [.ref t_o, .int a1] (wd_Model_boot g t_o t_disk_a t_memory_a t_sort_a t_first_a t_many_a t_name_a t_size_a t_seed_a t_scattered_a t_head_a t_follows_a t_thrown t_sectors t_partitions t_files t_address t_start t_fat t_clusters t_header t_found t_kernelAt t_kernelSize t_any t_disk t_memory) (some (.int z.1)) (wd_Model_boot g t_o t_disk_a t_memory_a t_sort_a t_first_a t_many_a t_name_a t_size_a t_seed_a t_scattered_a t_head_a t_follows_a z.2.1 t_sectors t_partitions t_files t_address t_start t_fat t_clusters z.2.2.1 z.2.2.2.1 z.2.2.2.2.1 z.2.2.2.2.2.1 z.2.2.2.2.2.2.1 t_disk z.2.2.2.2.2.2.2) := by
  refine Ct.ofI hEe good_W (by decide) rfl (Nat.le_of_ble_eq_true rfl) ?_
  intro p e s m args below meth c A ls Q hC hw hl hret
  have hC : CX p m c b_Model_boot 3 s args Wall R_Model g.1 classes (tK g) E A := hC
  have hl : lv_has ls 3 [(0, .ref t_o), (1, .int a1)] := hl
  unfold f_Model_boot at hf
  refine n_aload_n hC hl 0 d_Model_boot_0 rfl rfl ?_
  refine n_iload_n hC hl 1 d_Model_boot_1 rfl rfl ?_
  refine n_iconst hC 0 d_Model_boot_2 (by decide) ?_
  refine n_iconst hC 1 d_Model_boot_3 (by decide) ?_
  obtain ⟨u54, hu54, hf⟩ := bd_s hf
  refine n_callSi hC hw fc_Model_73 (c_Model_in l g E hEe a1 0 1 u54 hu54) [] (wd_Model_boot g t_o t_disk_a t_memory_a t_sort_a t_first_a t_many_a t_name_a t_size_a t_seed_a t_scattered_a t_head_a t_follows_a t_thrown t_sectors t_partitions t_files t_address t_start t_fat t_clusters t_header t_found t_kernelAt t_kernelSize t_any t_disk t_memory) ⟨rfl, rfl⟩ ⟨Nat.le_of_ble_eq_true rfl, Nat.le_of_ble_eq_true rfl⟩ rfl At_.nil At_.nil Sm_.refl rfl hl.1 (Nat.le_of_ble_eq_true rfl) ⟨Nat.zero_le _, Nat.zero_le _⟩ d_Model_boot_4 (fun H locs hw => ?_) rfl
  refine jn1 (fun (x55 : Int32) => ∀ (H : Heap) (locs : List Loc) (ls : Array Slot), WS g.1 classes A s.heap H locs (wd_Model_boot g t_o t_disk_a t_memory_a t_sort_a t_first_a t_many_a t_name_a t_size_a t_seed_a t_scattered_a t_head_a t_follows_a t_thrown t_sectors t_partitions t_files t_address t_start t_fat t_clusters t_header t_found t_kernelAt t_kernelSize t_any t_disk t_memory) → lv_has ls 3 [(0, .ref t_o), (1, .int a1)] → W p l e rm_Model_boot s m args below meth c H locs 0 0 Q (F0 m 15 ls [.int x55, .ref t_o])) hf (fun x55 hf H locs ls hw hl => ?_) (fun j15 hj15 hf => ?_)
  · refine n_put hC hw fp_Model_61 0 (wd_Model_boot g t_o t_disk_a t_memory_a t_sort_a t_first_a t_many_a t_name_a t_size_a t_seed_a t_scattered_a t_head_a t_follows_a x55 t_sectors t_partitions t_files t_address t_start t_fat t_clusters t_header t_found t_kernelAt t_kernelSize t_any t_disk t_memory) rfl rfl rfl (Nat.le_of_ble_eq_true rfl) d_Model_boot_15 rfl (fun H locs hw => ?_)
    refine n_aload_n hC hl 0 d_Model_boot_18 rfl rfl ?_
    refine n_get hC hw fg_Model_61 0 rfl rfl d_Model_boot_19 ?_
    refine n_iconst hC 1 d_Model_boot_22 (by decide) ?_
    refine n_icmp_ne hC hf 28 d_Model_boot_23 (by decide) (fun hf => ?_) (fun hf => ?_)
    · refine n_aload_n hC hl 0 d_Model_boot_28 rfl rfl ?_
      refine n_iconst hC 1 d_Model_boot_29 (by decide) ?_
      refine n_put hC hw fp_Model_211 0 (wd_Model_boot g t_o t_disk_a t_memory_a t_sort_a t_first_a t_many_a t_name_a t_size_a t_seed_a t_scattered_a t_head_a t_follows_a x55 t_sectors t_partitions t_files t_address t_start t_fat t_clusters t_header t_found t_kernelAt t_kernelSize 1 t_disk t_memory) rfl rfl rfl (Nat.le_of_ble_eq_true rfl) d_Model_boot_30 rfl (fun H locs hw => ?_)
      refine n_aload_n hC hl 0 d_Model_boot_33 rfl rfl ?_
      refine n_iconst hC 0 d_Model_boot_34 (by decide) ?_
      refine n_put hC hw fp_Model_215 0 (wd_Model_boot g t_o t_disk_a t_memory_a t_sort_a t_first_a t_many_a t_name_a t_size_a t_seed_a t_scattered_a t_head_a t_follows_a x55 t_sectors t_partitions t_files t_address t_start t_fat t_clusters 0 t_found t_kernelAt t_kernelSize 1 t_disk t_memory) rfl rfl rfl (Nat.le_of_ble_eq_true rfl) d_Model_boot_35 rfl (fun H locs hw => ?_)
      refine n_aload_n hC hl 0 d_Model_boot_38 rfl rfl ?_
      refine n_iconst hC (-1) d_Model_boot_39 (by decide) ?_
      refine n_put hC hw fp_Model_52 0 (wd_Model_boot g t_o t_disk_a t_memory_a t_sort_a t_first_a t_many_a t_name_a t_size_a t_seed_a t_scattered_a t_head_a t_follows_a x55 t_sectors t_partitions t_files t_address t_start t_fat t_clusters 0 (-1) t_kernelAt t_kernelSize 1 t_disk t_memory) rfl rfl rfl (Nat.le_of_ble_eq_true rfl) d_Model_boot_40 rfl (fun H locs hw => ?_)
      refine n_aload_n hC hl 0 d_Model_boot_43 rfl rfl ?_
      refine n_iconst hC (-1) d_Model_boot_44 (by decide) ?_
      refine n_put hC hw fp_Model_55 0 (wd_Model_boot g t_o t_disk_a t_memory_a t_sort_a t_first_a t_many_a t_name_a t_size_a t_seed_a t_scattered_a t_head_a t_follows_a x55 t_sectors t_partitions t_files t_address t_start t_fat t_clusters 0 (-1) (-1) t_kernelSize 1 t_disk t_memory) rfl rfl rfl (Nat.le_of_ble_eq_true rfl) d_Model_boot_45 rfl (fun H locs hw => ?_)
      refine n_aload_n hC hl 0 d_Model_boot_48 rfl rfl ?_
      refine n_iconst hC (-1) d_Model_boot_49 (by decide) ?_
      refine n_put hC hw fp_Model_58 0 (wd_Model_boot g t_o t_disk_a t_memory_a t_sort_a t_first_a t_many_a t_name_a t_size_a t_seed_a t_scattered_a t_head_a t_follows_a x55 t_sectors t_partitions t_files t_address t_start t_fat t_clusters 0 (-1) (-1) (-1) 1 t_disk t_memory) rfl rfl rfl (Nat.le_of_ble_eq_true rfl) d_Model_boot_50 rfl (fun H locs hw => ?_)
      refine n_iconst hC 0 d_Model_boot_53 (by decide) ?_
      refine n_istore_n hC [(2, .int 0), (0, .ref t_o), (1, .int a1)] hl d_Model_boot_54 rfl (by decide) rfl (fun ls hl => ?_)
      have hL55 := lw2 (B := f_Model_boot_L55 N t_disk x55 t_sectors a1) (z := z) (fun (x64 : Int32) (x65 : Nat → Int32) => ∀ (H : Heap) (locs : List Loc) (ls : Array Slot), WS g.1 classes A s.heap H locs (wd_Model_boot g t_o t_disk_a t_memory_a t_sort_a t_first_a t_many_a t_name_a t_size_a t_seed_a t_scattered_a t_head_a t_follows_a x55 t_sectors t_partitions t_files t_address t_start t_fat t_clusters 0 (-1) (-1) (-1) 1 t_disk x65) → lv_has ls 3 [(2, .int x64), (0, .ref t_o), (1, .int a1)] → W p l e rm_Model_boot s m args below meth c H locs 0 0 Q (F0 m 55 ls [])) (by
        intro k55 hk55 x64 x65 hf H locs ls hw hl
        unfold f_Model_boot_L55 at hf
        refine n_iload_n hC hl 0 d_Model_boot_55 rfl rfl ?_
        refine n_ldc hC 65536 kc_Model_44 d_Model_boot_56 ?_
        refine n_icmp_ge hC hf 74 d_Model_boot_58 (by decide) (fun hf => ?_) (fun hf => ?_)
        · refine n_aload_n hC hl 1 d_Model_boot_74 rfl rfl ?_
          refine n_sipush hC 510 d_Model_boot_75 (by decide) ?_
          obtain ⟨u74, hu74, hf⟩ := bd_s hf
          refine n_callVi hC hw fc_Model_64 (c_Model_get l g E hEe t_o t_disk_a t_sort_a t_first_a t_many_a t_name_a t_size_a t_seed_a t_scattered_a t_head_a t_follows_a t_memory_a x55 t_sectors t_partitions t_files t_address t_start t_fat t_clusters 0 (-1) (-1) (-1) 1 t_disk 510 u74 hu74) [0, 1] (wd_Model_boot g t_o t_disk_a t_memory_a t_sort_a t_first_a t_many_a t_name_a t_size_a t_seed_a t_scattered_a t_head_a t_follows_a x55 t_sectors t_partitions t_files t_address t_start t_fat t_clusters 0 (-1) (-1) (-1) 1 t_disk x65) 0 rfl ⟨rfl, rfl⟩ ⟨Nat.le_of_ble_eq_true rfl, Nat.le_of_ble_eq_true rfl⟩ rfl (At_.cons rfl (At_.cons rfl At_.nil)) (At_.cons rfl (At_.cons rfl At_.nil)) Sm_.refl rfl hl.1 (Nat.le_of_ble_eq_true rfl) ⟨Nat.zero_le _, Nat.zero_le _⟩ d_Model_boot_78 (fun H locs hw => ?_) rfl
          refine n_bipush hC 85 d_Model_boot_81 (by decide) ?_
          refine n_icmp_ne hC hf 99 d_Model_boot_83 (by decide) (fun hf => ?_) (fun hf => ?_)
          · refine n_iconst hC 1 d_Model_boot_99 (by decide) ?_
            cases hf
            exact hret _ _ _ _ hw (show narrow .int (Value.int 1) = Value.int 1 from rfl) d_Model_boot_100
          · refine n_aload_n hC hl 1 d_Model_boot_86 rfl rfl ?_
            refine n_sipush hC 511 d_Model_boot_87 (by decide) ?_
            obtain ⟨u75, hu75, hf⟩ := bd_s hf
            refine n_callVi hC hw fc_Model_64 (c_Model_get l g E hEe t_o t_disk_a t_sort_a t_first_a t_many_a t_name_a t_size_a t_seed_a t_scattered_a t_head_a t_follows_a t_memory_a x55 t_sectors t_partitions t_files t_address t_start t_fat t_clusters 0 (-1) (-1) (-1) 1 t_disk 511 u75 hu75) [0, 1] (wd_Model_boot g t_o t_disk_a t_memory_a t_sort_a t_first_a t_many_a t_name_a t_size_a t_seed_a t_scattered_a t_head_a t_follows_a x55 t_sectors t_partitions t_files t_address t_start t_fat t_clusters 0 (-1) (-1) (-1) 1 t_disk x65) 0 rfl ⟨rfl, rfl⟩ ⟨Nat.le_of_ble_eq_true rfl, Nat.le_of_ble_eq_true rfl⟩ rfl (At_.cons rfl (At_.cons rfl At_.nil)) (At_.cons rfl (At_.cons rfl At_.nil)) Sm_.refl rfl hl.1 (Nat.le_of_ble_eq_true rfl) ⟨Nat.zero_le _, Nat.zero_le _⟩ d_Model_boot_90 (fun H locs hw => ?_) rfl
            refine n_sipush hC 170 d_Model_boot_93 (by decide) ?_
            refine n_icmp_eq hC hf 101 d_Model_boot_96 (by decide) (fun hf => ?_) (fun hf => ?_)
            · refine n_iload_n hC hl 2 d_Model_boot_101 rfl rfl ?_
              refine jn3 (fun (x78 : Int32) (x79 : Int32) (x80 : Int32) => ∀ (H : Heap) (locs : List Loc) (ls : Array Slot), WS g.1 classes A s.heap H locs (wd_Model_boot g t_o t_disk_a t_memory_a t_sort_a t_first_a t_many_a t_name_a t_size_a t_seed_a t_scattered_a t_head_a t_follows_a x55 t_sectors t_partitions t_files t_address t_start t_fat t_clusters x79 x80 (-1) (-1) 1 t_disk x65) → lv_has ls 3 [(0, .ref t_o)] → W p l e rm_Model_boot s m args below meth c H locs 0 0 Q (F0 m 116 ls [.int x78])) hf (fun x78 x79 x80 hf H locs ls hw hl => ?_) (fun j116 hj116 hf => ?_)
              · refine n_istore_n hC [(2, .int x78), (0, .ref t_o)] hl d_Model_boot_116 rfl (by decide) rfl (fun ls hl => ?_)
                refine n_iload_n hC hl 0 d_Model_boot_117 rfl rfl ?_
                refine n_if_le hC hf 125 d_Model_boot_118 (by decide) (fun hf => ?_) (fun hf => ?_)
                · refine n_aload_n hC hl 1 d_Model_boot_125 rfl rfl ?_
                  obtain ⟨u81, hu81, hf⟩ := bd_s hf
                  refine n_callVi hC hw fc_Model_224 (c_Model_loaded l g E hEe t_o t_disk_a t_memory_a t_sort_a t_first_a t_many_a t_name_a t_size_a t_seed_a t_scattered_a t_head_a t_follows_a x55 t_sectors t_partitions t_files t_address t_start t_fat t_clusters x79 x80 (-1) (-1) 1 t_disk x65 N u81 hu81) [0, 1, 2] (wd_Model_boot g t_o t_disk_a t_memory_a t_sort_a t_first_a t_many_a t_name_a t_size_a t_seed_a t_scattered_a t_head_a t_follows_a x55 t_sectors t_partitions t_files t_address t_start t_fat t_clusters x79 x80 u81.2.1 u81.2.2.1 1 t_disk u81.2.2.2) 0 rfl ⟨rfl, rfl⟩ ⟨Nat.le_of_ble_eq_true rfl, Nat.le_of_ble_eq_true rfl⟩ rfl (At_.cons rfl (At_.cons rfl (At_.cons rfl At_.nil))) (At_.cons rfl (At_.cons rfl (At_.cons rfl At_.nil))) (Sm_.upd rfl (Sm_.keep (Sm_.upd rfl Sm_.nil))) rfl hl.1 (Nat.le_of_ble_eq_true rfl) ⟨Nat.zero_le _, Nat.zero_le _⟩ d_Model_boot_126 (fun H locs hw => ?_) rfl
                  cases hf
                  exact hret _ _ _ _ hw (show narrow .int (Value.int u81.1) = Value.int u81.1 from rfl) d_Model_boot_129
                · refine n_iload_n hC hl 0 d_Model_boot_121 rfl rfl ?_
                  refine n_goto hC 129 d_Model_boot_122 (by decide) ?_
                  cases hf
                  exact hret _ _ _ _ hw (show narrow .int (Value.int x78) = Value.int x78 from rfl) d_Model_boot_129
              refine n_if_ne hC hf 112 d_Model_boot_102 (by decide) (fun hf => ?_) (fun hf => ?_)
              · refine n_aload_n hC hl 1 d_Model_boot_112 rfl rfl ?_
                obtain ⟨u82, hu82, hf⟩ := bd_s hf
                refine n_callVi hC hw fc_Model_221 (c_Model_byLoader l g E hEe t_o t_disk_a t_sort_a t_first_a t_many_a t_name_a t_size_a t_seed_a t_scattered_a t_head_a t_follows_a t_memory_a x55 t_sectors t_partitions t_files t_address t_start t_fat t_clusters 0 (-1) (-1) (-1) 1 t_disk N u82 hu82) [0, 1] (wd_Model_boot g t_o t_disk_a t_memory_a t_sort_a t_first_a t_many_a t_name_a t_size_a t_seed_a t_scattered_a t_head_a t_follows_a x55 t_sectors t_partitions t_files t_address t_start t_fat t_clusters 0 u82.2 (-1) (-1) 1 t_disk x65) 0 rfl ⟨rfl, rfl⟩ ⟨Nat.le_of_ble_eq_true rfl, Nat.le_of_ble_eq_true rfl⟩ rfl (At_.cons rfl (At_.cons rfl At_.nil)) (At_.cons rfl (At_.cons rfl At_.nil)) (Sm_.upd rfl (Sm_.keep (Sm_.keep Sm_.nil))) rfl hl.1 (Nat.le_of_ble_eq_true rfl) ⟨Nat.zero_le _, Nat.zero_le _⟩ d_Model_boot_113 (fun H locs hw => ?_) rfl
                exact hj116 _ _ _ hf _ _ _ hw (lv_sub hl [1] rfl)
              · refine n_aload_n hC hl 1 d_Model_boot_105 rfl rfl ?_
                obtain ⟨u83, hu83, hf⟩ := bd_s hf
                refine n_callVi hC hw fc_Model_218 (c_Model_byTable l g E hEe t_o t_disk_a t_sort_a t_first_a t_many_a t_name_a t_size_a t_seed_a t_scattered_a t_head_a t_follows_a t_memory_a x55 t_sectors t_partitions t_files t_address t_start t_fat t_clusters 0 (-1) (-1) (-1) 1 t_disk N u83 hu83) [0, 1] (wd_Model_boot g t_o t_disk_a t_memory_a t_sort_a t_first_a t_many_a t_name_a t_size_a t_seed_a t_scattered_a t_head_a t_follows_a x55 t_sectors t_partitions t_files t_address t_start t_fat t_clusters u83.2.1 u83.2.2 (-1) (-1) 1 t_disk x65) 0 rfl ⟨rfl, rfl⟩ ⟨Nat.le_of_ble_eq_true rfl, Nat.le_of_ble_eq_true rfl⟩ rfl (At_.cons rfl (At_.cons rfl At_.nil)) (At_.cons rfl (At_.cons rfl At_.nil)) (Sm_.upd rfl (Sm_.keep (Sm_.keep Sm_.nil))) rfl hl.1 (Nat.le_of_ble_eq_true rfl) ⟨Nat.zero_le _, Nat.zero_le _⟩ d_Model_boot_106 (fun H locs hw => ?_) rfl
                refine n_goto hC 116 d_Model_boot_109 (by decide) ?_
                exact hj116 _ _ _ hf _ _ _ hw (lv_sub hl [1] rfl)
            · refine n_iconst hC 1 d_Model_boot_99 (by decide) ?_
              cases hf
              exact hret _ _ _ _ hw (show narrow .int (Value.int 1) = Value.int 1 from rfl) d_Model_boot_100
        · refine n_aload_n hC hl 1 d_Model_boot_61 rfl rfl ?_
          refine n_get hC hw fg_Model_45 0 rfl rfl d_Model_boot_62 ?_
          refine n_iload_n hC hl 0 d_Model_boot_65 rfl rfl ?_
          refine n_iconst hC 0 d_Model_boot_66 (by decide) ?_
          refine n_bast hC hw hf 2 3 (fun f84 => wd_Model_boot g t_o t_disk_a t_memory_a t_sort_a t_first_a t_many_a t_name_a t_size_a t_seed_a t_scattered_a t_head_a t_follows_a x55 t_sectors t_partitions t_files t_address t_start t_fat t_clusters 0 (-1) (-1) (-1) 1 t_disk f84) rfl rfl d_Model_boot_67 (fun _ => rfl) (fun f84 H locs hf hw => ?_)
          refine n_iinc hC (k := 0) hf (by decide) (fun v85 => [(2, .int v85), (0, .ref t_o), (1, .int a1)]) hl d_Model_boot_68 rfl (by decide) (fun _ => rfl) (fun v85 ls hf hl => ?_)
          refine n_goto hC 55 d_Model_boot_71 (by decide) ?_
          exact hk55 _ _ hf _ _ _ hw (lv_sub hl [0, 1, 2] rfl)
        )
      exact hL55 N _ _ hf _ _ _ hw (lv_sub hl [0, 1, 2] rfl)
    · refine n_iconst hC 0 d_Model_boot_26 (by decide) ?_
      cases hf
      exact hret _ _ _ _ hw (show narrow .int (Value.int 0) = Value.int 0 from rfl) d_Model_boot_27
  refine n_if_eq hC hf 14 d_Model_boot_7 (by decide) (fun hf => ?_) (fun hf => ?_)
  · refine n_iconst hC 1 d_Model_boot_14 (by decide) ?_
    exact hj15 _ hf _ _ _ hw (lv_sub hl [0, 1] rfl)
  · refine n_iconst hC 0 d_Model_boot_10 (by decide) ?_
    refine n_goto hC 15 d_Model_boot_11 (by decide) ?_
    exact hj15 _ hf _ _ _ hw (lv_sub hl [0, 1] rfl)
def wd_Model_booted (g : GT) (t_o : Nat) (t_disk_a : Nat) (t_sort_a : Nat) (t_first_a : Nat) (t_many_a : Nat) (t_name_a : Nat) (t_size_a : Nat) (t_seed_a : Nat) (t_scattered_a : Nat) (t_head_a : Nat) (t_follows_a : Nat) (t_memory_a : Nat) (t_thrown : Int32) (t_sectors : Int32) (t_partitions : Int32) (t_files : Int32) (t_address : Int32) (t_start : Int32) (t_fat : Int32) (t_clusters : Int32) (t_header : Int32) (t_found : Int32) (t_kernelAt : Int32) (t_kernelSize : Int32) (t_any : Int32) : va_W := [(t_o, .inr (7, [.int t_thrown, .int t_sectors, .ref t_disk_a, .int t_partitions, .ref t_sort_a, .ref t_first_a, .ref t_many_a, .int t_files, .ref t_name_a, .ref t_size_a, .ref t_seed_a, .ref t_scattered_a, .int t_address, .int t_start, .int t_fat, .int t_clusters, .ref t_head_a, .ref t_follows_a, .int t_header, .int t_found, .int t_kernelAt, .int t_kernelSize, .int t_any, .ref t_memory_a]))]
def f_Model_booted (t_any : Int32) (a1 : Int32) (t_kernelSize : Int32) (t_kernelAt : Int32) (t_found : Int32) (t_header : Int32) : Option (Int32 × Int32) :=
  if ¬ t_any = 0 then if ¬ a1 = 0 then if ¬ a1 = (1 : Int32) then if ¬ a1 = (2 : Int32) then if ¬ a1 = (3 : Int32) then some ((-1), 0) else some (t_kernelSize, 0) else some (t_kernelAt, 0) else some (t_found, 0) else some (t_header, 0) else some ((-1), 0)
def rm_Model_booted : Room := { frames := 0, cells := 0, slots := 0, locals := 0 }
set_option maxHeartbeats 4000000 in
set_option maxRecDepth 100000 in
theorem c_Model_booted (l : Launch) (g : GT) (E : (Nat → Prop) → State → Prop) (hEe : Ee E) (t_o : Nat) (t_disk_a : Nat) (t_sort_a : Nat) (t_first_a : Nat) (t_many_a : Nat) (t_name_a : Nat) (t_size_a : Nat) (t_seed_a : Nat) (t_scattered_a : Nat) (t_head_a : Nat) (t_follows_a : Nat) (t_memory_a : Nat) (t_thrown : Int32) (t_sectors : Int32) (t_partitions : Int32) (t_files : Int32) (t_address : Int32) (t_start : Int32) (t_fat : Int32) (t_clusters : Int32) (t_header : Int32) (t_found : Int32) (t_kernelAt : Int32) (t_kernelSize : Int32) (t_any : Int32) (a1 : Int32) (z : Int32 × Int32) (hf : f_Model_booted t_any a1 t_kernelSize t_kernelAt t_found t_header = some z) : Cg l g E y_Model_booted ws_Model_booted rm_Model_booted [.ref t_o, .int a1] (wd_Model_booted g t_o t_disk_a t_sort_a t_first_a t_many_a t_name_a t_size_a t_seed_a t_scattered_a t_head_a t_follows_a t_memory_a t_thrown t_sectors t_partitions t_files t_address t_start t_fat t_clusters t_header t_found t_kernelAt t_kernelSize t_any) (some (.int z.1)) (wd_Model_booted g t_o t_disk_a t_sort_a t_first_a t_many_a t_name_a t_size_a t_seed_a t_scattered_a t_head_a t_follows_a t_memory_a z.2 t_sectors t_partitions t_files t_address t_start t_fat t_clusters t_header t_found t_kernelAt t_kernelSize t_any) := by
  refine Ct.ofI hEe good_W (by decide) rfl (Nat.le_of_ble_eq_true rfl) ?_
  intro p e s m args below meth c A ls Q hC hw hl hret
  have hC : CX p m c b_Model_booted 2 s args Wall R_Model g.1 classes (tK g) E A := hC
  have hl : lv_has ls 2 [(0, .ref t_o), (1, .int a1)] := hl
  unfold f_Model_booted at hf
  refine n_aload_n hC hl 0 d_Model_booted_0 rfl rfl ?_
  refine n_iconst hC 0 d_Model_booted_1 (by decide) ?_
  refine n_put hC hw fp_Model_61 0 (wd_Model_booted g t_o t_disk_a t_sort_a t_first_a t_many_a t_name_a t_size_a t_seed_a t_scattered_a t_head_a t_follows_a t_memory_a 0 t_sectors t_partitions t_files t_address t_start t_fat t_clusters t_header t_found t_kernelAt t_kernelSize t_any) rfl rfl rfl (Nat.le_of_ble_eq_true rfl) d_Model_booted_2 rfl (fun H locs hw => ?_)
  refine n_aload_n hC hl 0 d_Model_booted_5 rfl rfl ?_
  refine n_get hC hw fg_Model_211 0 rfl rfl d_Model_booted_6 ?_
  refine n_if_ne hC hf 14 d_Model_booted_9 (by decide) (fun hf => ?_) (fun hf => ?_)
  · refine n_iload_n hC hl 1 d_Model_booted_14 rfl rfl ?_
    refine n_if_ne hC hf 25 d_Model_booted_15 (by decide) (fun hf => ?_) (fun hf => ?_)
    · refine n_iload_n hC hl 1 d_Model_booted_25 rfl rfl ?_
      refine n_iconst hC 1 d_Model_booted_26 (by decide) ?_
      refine n_icmp_ne hC hf 37 d_Model_booted_27 (by decide) (fun hf => ?_) (fun hf => ?_)
      · refine n_iload_n hC hl 1 d_Model_booted_37 rfl rfl ?_
        refine n_iconst hC 2 d_Model_booted_38 (by decide) ?_
        refine n_icmp_ne hC hf 49 d_Model_booted_39 (by decide) (fun hf => ?_) (fun hf => ?_)
        · refine n_iload_n hC hl 1 d_Model_booted_49 rfl rfl ?_
          refine n_iconst hC 3 d_Model_booted_50 (by decide) ?_
          refine n_icmp_ne hC hf 61 d_Model_booted_51 (by decide) (fun hf => ?_) (fun hf => ?_)
          · refine n_iconst hC (-1) d_Model_booted_61 (by decide) ?_
            cases hf
            exact hret _ _ _ _ hw (show narrow .int (Value.int (-1)) = Value.int (-1) from rfl) d_Model_booted_62
          · refine n_aload_n hC hl 0 d_Model_booted_54 rfl rfl ?_
            refine n_get hC hw fg_Model_58 0 rfl rfl d_Model_booted_55 ?_
            refine n_goto hC 62 d_Model_booted_58 (by decide) ?_
            cases hf
            exact hret _ _ _ _ hw (show narrow .int (Value.int t_kernelSize) = Value.int t_kernelSize from rfl) d_Model_booted_62
        · refine n_aload_n hC hl 0 d_Model_booted_42 rfl rfl ?_
          refine n_get hC hw fg_Model_55 0 rfl rfl d_Model_booted_43 ?_
          refine n_goto hC 62 d_Model_booted_46 (by decide) ?_
          cases hf
          exact hret _ _ _ _ hw (show narrow .int (Value.int t_kernelAt) = Value.int t_kernelAt from rfl) d_Model_booted_62
      · refine n_aload_n hC hl 0 d_Model_booted_30 rfl rfl ?_
        refine n_get hC hw fg_Model_52 0 rfl rfl d_Model_booted_31 ?_
        refine n_goto hC 62 d_Model_booted_34 (by decide) ?_
        cases hf
        exact hret _ _ _ _ hw (show narrow .int (Value.int t_found) = Value.int t_found from rfl) d_Model_booted_62
    · refine n_aload_n hC hl 0 d_Model_booted_18 rfl rfl ?_
      refine n_get hC hw fg_Model_215 0 rfl rfl d_Model_booted_19 ?_
      refine n_goto hC 62 d_Model_booted_22 (by decide) ?_
      cases hf
      exact hret _ _ _ _ hw (show narrow .int (Value.int t_header) = Value.int t_header from rfl) d_Model_booted_62
  · refine n_iconst hC (-1) d_Model_booted_12 (by decide) ?_
    cases hf
    exact hret _ _ _ _ hw (show narrow .int (Value.int (-1)) = Value.int (-1) from rfl) d_Model_booted_13
def wd_Model_memory (g : GT) (t_o : Nat) (t_memory_a : Nat) (t_disk_a : Nat) (t_sort_a : Nat) (t_first_a : Nat) (t_many_a : Nat) (t_name_a : Nat) (t_size_a : Nat) (t_seed_a : Nat) (t_scattered_a : Nat) (t_head_a : Nat) (t_follows_a : Nat) (t_thrown : Int32) (t_sectors : Int32) (t_partitions : Int32) (t_files : Int32) (t_address : Int32) (t_start : Int32) (t_fat : Int32) (t_clusters : Int32) (t_header : Int32) (t_found : Int32) (t_kernelAt : Int32) (t_kernelSize : Int32) (t_any : Int32) (t_memory : Nat → Int32) : va_W := [(t_o, .inr (7, [.int t_thrown, .int t_sectors, .ref t_disk_a, .int t_partitions, .ref t_sort_a, .ref t_first_a, .ref t_many_a, .int t_files, .ref t_name_a, .ref t_size_a, .ref t_seed_a, .ref t_scattered_a, .int t_address, .int t_start, .int t_fat, .int t_clusters, .ref t_head_a, .ref t_follows_a, .int t_header, .int t_found, .int t_kernelAt, .int t_kernelSize, .int t_any, .ref t_memory_a])), (t_memory_a, .inl (g.2.2.2.2, 65536, .inl t_memory))]
def f_Model_memory (a1 : Int32) (t_memory : Nat → Int32) : Option (Int32 × Int32) :=
  bd_ (f_Model_in a1 0 65535) (fun u6 => lt_ (fun (x7 : Int32) => if ¬ x7 = (1 : Int32) then ix_ 65536 t_memory a1 (fun (v8 : Int32) => lt_ (v8 &&& 255) (fun v9 => some (v9, x7))) else some (0, x7)) (fun (j16 : Int32 → Option (Int32 × Int32)) => if u6 = 0 then j16 1 else j16 0))
def rm_Model_memory : Room := { frames := 1, cells := 0, slots := 0, locals := 22 }
set_option maxHeartbeats 4000000 in
set_option maxRecDepth 100000 in
theorem c_Model_memory (l : Launch) (g : GT) (E : (Nat → Prop) → State → Prop) (hEe : Ee E) (t_o : Nat) (t_memory_a : Nat) (t_disk_a : Nat) (t_sort_a : Nat) (t_first_a : Nat) (t_many_a : Nat) (t_name_a : Nat) (t_size_a : Nat) (t_seed_a : Nat) (t_scattered_a : Nat) (t_head_a : Nat) (t_follows_a : Nat) (t_thrown : Int32) (t_sectors : Int32) (t_partitions : Int32) (t_files : Int32) (t_address : Int32) (t_start : Int32) (t_fat : Int32) (t_clusters : Int32) (t_header : Int32) (t_found : Int32) (t_kernelAt : Int32) (t_kernelSize : Int32) (t_any : Int32) (t_memory : Nat → Int32) (a1 : Int32) (z : Int32 × Int32) (hf : f_Model_memory a1 t_memory = some z) : Cg l g E y_Model_memory ws_Model_memory rm_Model_memory [.ref t_o, .int a1] (wd_Model_memory g t_o t_memory_a t_disk_a t_sort_a t_first_a t_many_a t_name_a t_size_a t_seed_a t_scattered_a t_head_a t_follows_a t_thrown t_sectors t_partitions t_files t_address t_start t_fat t_clusters t_header t_found t_kernelAt t_kernelSize t_any t_memory) (some (.int z.1)) (wd_Model_memory g t_o t_memory_a t_disk_a t_sort_a t_first_a t_many_a t_name_a t_size_a t_seed_a t_scattered_a t_head_a t_follows_a z.2 t_sectors t_partitions t_files t_address t_start t_fat t_clusters t_header t_found t_kernelAt t_kernelSize t_any t_memory) := by
  refine Ct.ofI hEe good_W (by decide) rfl (Nat.le_of_ble_eq_true rfl) ?_
  intro p e s m args below meth c A ls Q hC hw hl hret
  have hC : CX p m c b_Model_memory 2 s args Wall R_Model g.1 classes (tK g) E A := hC
  have hl : lv_has ls 2 [(0, .ref t_o), (1, .int a1)] := hl
  unfold f_Model_memory at hf
  refine n_aload_n hC hl 0 d_Model_memory_0 rfl rfl ?_
  refine n_iload_n hC hl 1 d_Model_memory_1 rfl rfl ?_
  refine n_iconst hC 0 d_Model_memory_2 (by decide) ?_
  refine n_ldc hC 65535 kc_Model_247 d_Model_memory_3 ?_
  obtain ⟨u6, hu6, hf⟩ := bd_s hf
  refine n_callSi hC hw fc_Model_73 (c_Model_in l g E hEe a1 0 65535 u6 hu6) [] (wd_Model_memory g t_o t_memory_a t_disk_a t_sort_a t_first_a t_many_a t_name_a t_size_a t_seed_a t_scattered_a t_head_a t_follows_a t_thrown t_sectors t_partitions t_files t_address t_start t_fat t_clusters t_header t_found t_kernelAt t_kernelSize t_any t_memory) ⟨rfl, rfl⟩ ⟨Nat.le_of_ble_eq_true rfl, Nat.le_of_ble_eq_true rfl⟩ rfl At_.nil At_.nil Sm_.refl rfl hl.1 (Nat.le_of_ble_eq_true rfl) ⟨Nat.zero_le _, Nat.zero_le _⟩ d_Model_memory_5 (fun H locs hw => ?_) rfl
  refine jn1 (fun (x7 : Int32) => ∀ (H : Heap) (locs : List Loc) (ls : Array Slot), WS g.1 classes A s.heap H locs (wd_Model_memory g t_o t_memory_a t_disk_a t_sort_a t_first_a t_many_a t_name_a t_size_a t_seed_a t_scattered_a t_head_a t_follows_a t_thrown t_sectors t_partitions t_files t_address t_start t_fat t_clusters t_header t_found t_kernelAt t_kernelSize t_any t_memory) → lv_has ls 2 [(0, .ref t_o), (1, .int a1)] → W p l e rm_Model_memory s m args below meth c H locs 0 0 Q (F0 m 16 ls [.int x7, .ref t_o])) hf (fun x7 hf H locs ls hw hl => ?_) (fun j16 hj16 hf => ?_)
  · refine n_put hC hw fp_Model_61 0 (wd_Model_memory g t_o t_memory_a t_disk_a t_sort_a t_first_a t_many_a t_name_a t_size_a t_seed_a t_scattered_a t_head_a t_follows_a x7 t_sectors t_partitions t_files t_address t_start t_fat t_clusters t_header t_found t_kernelAt t_kernelSize t_any t_memory) rfl rfl rfl (Nat.le_of_ble_eq_true rfl) d_Model_memory_16 rfl (fun H locs hw => ?_)
    refine n_aload_n hC hl 0 d_Model_memory_19 rfl rfl ?_
    refine n_get hC hw fg_Model_61 0 rfl rfl d_Model_memory_20 ?_
    refine n_iconst hC 1 d_Model_memory_23 (by decide) ?_
    refine n_icmp_ne hC hf 31 d_Model_memory_24 (by decide) (fun hf => ?_) (fun hf => ?_)
    · refine n_aload_n hC hl 0 d_Model_memory_31 rfl rfl ?_
      refine n_get hC hw fg_Model_45 0 rfl rfl d_Model_memory_32 ?_
      refine n_iload_n hC hl 1 d_Model_memory_35 rfl rfl ?_
      refine n_bald hC hw hf 1 3 rfl rfl d_Model_memory_36 (fun v8 hf => ?_)
      refine n_sipush hC 255 d_Model_memory_37 (by decide) ?_
      refine n_iand hC hf d_Model_memory_40 (fun v9 hf => ?_)
      cases hf
      exact hret _ _ _ _ hw (show narrow .int (Value.int v9) = Value.int v9 from rfl) d_Model_memory_41
    · refine n_iconst hC 0 d_Model_memory_27 (by decide) ?_
      refine n_goto hC 41 d_Model_memory_28 (by decide) ?_
      cases hf
      exact hret _ _ _ _ hw (show narrow .int (Value.int 0) = Value.int 0 from rfl) d_Model_memory_41
  refine n_if_eq hC hf 15 d_Model_memory_8 (by decide) (fun hf => ?_) (fun hf => ?_)
  · refine n_iconst hC 1 d_Model_memory_15 (by decide) ?_
    exact hj16 _ hf _ _ _ hw (lv_sub hl [0, 1] rfl)
  · refine n_iconst hC 0 d_Model_memory_11 (by decide) ?_
    refine n_goto hC 16 d_Model_memory_12 (by decide) ?_
    exact hj16 _ hf _ _ _ hw (lv_sub hl [0, 1] rfl)
def wd_Model_write (g : GT) (t_o : Nat) (t_disk_a : Nat) (t_sort_a : Nat) (t_first_a : Nat) (t_many_a : Nat) (t_name_a : Nat) (t_size_a : Nat) (t_seed_a : Nat) (t_scattered_a : Nat) (t_head_a : Nat) (t_follows_a : Nat) (t_memory_a : Nat) (t_thrown : Int32) (t_sectors : Int32) (t_partitions : Int32) (t_files : Int32) (t_address : Int32) (t_start : Int32) (t_fat : Int32) (t_clusters : Int32) (t_header : Int32) (t_found : Int32) (t_kernelAt : Int32) (t_kernelSize : Int32) (t_any : Int32) (t_disk : Nat → Int32) (t_sort : Nat → Int32) (t_first : Nat → Int32) (t_many : Nat → Int32) (t_name : Nat → Int64) (t_size : Nat → Int32) (t_seed : Nat → Int32) (t_scattered : Nat → Int32) (t_head : Nat → Int32) (t_follows : Nat → Int32) : va_W := [(t_o, .inr (7, [.int t_thrown, .int t_sectors, .ref t_disk_a, .int t_partitions, .ref t_sort_a, .ref t_first_a, .ref t_many_a, .int t_files, .ref t_name_a, .ref t_size_a, .ref t_seed_a, .ref t_scattered_a, .int t_address, .int t_start, .int t_fat, .int t_clusters, .ref t_head_a, .ref t_follows_a, .int t_header, .int t_found, .int t_kernelAt, .int t_kernelSize, .int t_any, .ref t_memory_a])), (t_disk_a, .inl (g.2.2.2.2, 307200, .inl t_disk)), (t_sort_a, .inl (g.2.1, 4, .inl t_sort)), (t_first_a, .inl (g.2.1, 4, .inl t_first)), (t_many_a, .inl (g.2.1, 4, .inl t_many)), (t_name_a, .inl (g.2.2.1, 12, .inr (.inl t_name))), (t_size_a, .inl (g.2.1, 12, .inl t_size)), (t_seed_a, .inl (g.2.1, 12, .inl t_seed)), (t_scattered_a, .inl (g.2.2.2.1, 12, .inl t_scattered)), (t_head_a, .inl (g.2.1, 12, .inl t_head)), (t_follows_a, .inl (g.2.1, 700, .inl t_follows))]
def f_Model_write_L143 (N : Nat) (t_sectors : Int32) (u1147 : Int32) (t_size : Nat → Int32) (x1144 : Nat → Int32) (x1141 : Int32) (x1142 : Int32) (x1145 : Nat → Int32) (t_seed : Nat → Int32) (t_name : Nat → Int64) (t_address : Int32) (t_partitions : Int32) (t_first : Nat → Int32) (t_many : Nat → Int32) (t_sort : Nat → Int32) (x1143 : Int32) (x1140 : Int32) (u1126 : Int32) (t_files : Int32) (k143 : Int32 → (Nat → Int32) → Option (Int32 × Int32 × Int32 × Int32 × Int32 × (Nat → Int32) × (Nat → Int32) × (Nat → Int32))) (x1158 : Int32) (x1159 : Nat → Int32) : Option (Int32 × Int32 × Int32 × Int32 × Int32 × (Nat → Int32) × (Nat → Int32) × (Nat → Int32)) :=
  lt_ ((512 : Int32) * t_sectors) (fun v1169 => if v1169 ≤ x1158 then lt_ (fun (x1172 : Nat → Int32) => bd_ (f_Model_beginning N x1172 t_sectors u1147 t_size x1144 x1141 x1142 x1145 t_seed t_name t_address) (fun u1173 => bd_ (f_Model_tables N t_partitions t_sectors t_first t_many t_sort u1173) (fun u1174 => some (0, 0, x1141, x1142, x1143, u1174, x1144, x1145)))) (fun (j184 : (Nat → Int32) → Option (Int32 × Int32 × Int32 × Int32 × Int32 × (Nat → Int32) × (Nat → Int32) × (Nat → Int32))) => if x1140 = 0 then j184 x1159 else ix_ 4 t_many u1126 (fun (v1175 : Int32) => bd_ (f_Model_lay N x1141 x1159 v1175 x1142 t_files t_name x1144 t_size x1145 t_seed t_address x1143) (fun u1176 => j184 u1176))) else up_b 307200 x1159 x1158 0 (fun (f1177 : Nat → Int32) => lt_ (x1158 + 1) (fun v1178 => k143 v1178 f1177)))
def f_Model_write (N : Nat) (t_partitions : Int32) (t_sort : Nat → Int32) (t_files : Int32) (t_name : Nat → Int64) (t_sectors : Int32) (t_size : Nat → Int32) (t_seed : Nat → Int32) (t_address : Int32) (t_first : Nat → Int32) (t_many : Nat → Int32) (t_disk : Nat → Int32) (t_start : Int32) (t_fat : Int32) (t_clusters : Int32) (t_head : Nat → Int32) (t_follows : Nat → Int32) (t_scattered : Nat → Int32) : Option (Int32 × Int32 × Int32 × Int32 × Int32 × (Nat → Int32) × (Nat → Int32) × (Nat → Int32)) :=
  bd_ (f_Model_bootPartition N t_partitions t_sort) (fun u1126 => lt_ (lt_ (fun (x1140 : Int32) (x1141 : Int32) (x1142 : Int32) (x1143 : Int32) (x1144 : Nat → Int32) (x1145 : Nat → Int32) => bd_ (f_Model_loader ) (fun u1146 => bd_ (f_Model_named N t_files t_name u1146) (fun u1147 => lt_ (lp_ (fun _ _ => none) (f_Model_write_L143 N t_sectors u1147 t_size x1144 x1141 x1142 x1145 t_seed t_name t_address t_partitions t_first t_many t_sort x1143 x1140 u1126 t_files) N 0 t_disk) (fun (j140 : Option (Int32 × Int32 × Int32 × Int32 × Int32 × (Nat → Int32) × (Nat → Int32) × (Nat → Int32))) => if u1147 < 0 then j140 else bd_ (f_Model_runs N t_size u1147 x1144 x1141 x1142 x1145) (fun u1179 => if u1179 ≤ (20 : Int32) then j140 else some (3, 0, x1141, x1142, x1143, t_disk, x1144, x1145)))))) (fun (j116 : Int32 → Int32 → Int32 → Int32 → (Nat → Int32) → (Nat → Int32) → Option (Int32 × Int32 × Int32 × Int32 × Int32 × (Nat → Int32) × (Nat → Int32) × (Nat → Int32))) => if u1126 < 0 then j116 0 t_start t_fat t_clusters t_head t_follows else ix_ 4 t_first u1126 (fun (v1180 : Int32) => ix_ 4 t_many u1126 (fun (v1181 : Int32) => bd_ (f_Model_tableOf N v1181) (fun u1182 => ix_ 4 t_many u1126 (fun (v1183 : Int32) => lt_ (v1183 - 3) (fun v1184 => lt_ ((2 : Int32) * u1182) (fun v1185 => lt_ (v1184 - v1185) (fun v1186 => lt_ (fun (x1187 : Int32) => lt_ (fun (x1189 : Nat → Int32) (x1190 : Nat → Int32) => if ¬ t_files = 0 then j116 x1187 v1180 u1182 v1186 x1189 x1190 else bd_ (f_Model_given N t_files t_scattered t_size v1186 x1189 x1190) (fun u1191 => j116 x1187 v1180 u1182 v1186 u1191.2.1 u1191.2.2)) (fun (j104 : (Nat → Int32) → (Nat → Int32) → Option (Int32 × Int32 × Int32 × Int32 × Int32 × (Nat → Int32) × (Nat → Int32) × (Nat → Int32))) => if t_files ≤ 0 then j104 t_head t_follows else if x1187 = 0 then some (2, 0, v1180, u1182, v1186, t_disk, t_head, t_follows) else bd_ (f_Model_given N t_files t_scattered t_size v1186 t_head t_follows) (fun u1192 => if ¬ u1192.1 = 0 then j104 u1192.2.1 u1192.2.2 else some (2, 0, v1180, u1182, v1186, t_disk, u1192.2.1, u1192.2.2)))) (fun (j83 : Int32 → Option (Int32 × Int32 × Int32 × Int32 × Int32 × (Nat → Int32) × (Nat → Int32) × (Nat → Int32))) => if v1186 ≤ 0 then j83 0 else j83 1)))))))))) (fun (j23 : Option (Int32 × Int32 × Int32 × Int32 × Int32 × (Nat → Int32) × (Nat → Int32) × (Nat → Int32))) => if 0 ≤ u1126 then j23 else if t_files ≤ 0 then j23 else some (1, 0, t_start, t_fat, t_clusters, t_disk, t_head, t_follows)))
def rm_Model_write : Room := { frames := 3, cells := 0, slots := 0, locals := 72 }
set_option maxHeartbeats 4000000 in
set_option maxRecDepth 100000 in
theorem c_Model_write (l : Launch) (g : GT) (E : (Nat → Prop) → State → Prop) (hEe : Ee E) (t_o : Nat) (t_disk_a : Nat) (t_sort_a : Nat) (t_first_a : Nat) (t_many_a : Nat) (t_name_a : Nat) (t_size_a : Nat) (t_seed_a : Nat) (t_scattered_a : Nat) (t_head_a : Nat) (t_follows_a : Nat) (t_memory_a : Nat) (t_thrown : Int32) (t_sectors : Int32) (t_partitions : Int32) (t_files : Int32) (t_address : Int32) (t_start : Int32) (t_fat : Int32) (t_clusters : Int32) (t_header : Int32) (t_found : Int32) (t_kernelAt : Int32) (t_kernelSize : Int32) (t_any : Int32) (t_disk : Nat → Int32) (t_sort : Nat → Int32) (t_first : Nat → Int32) (t_many : Nat → Int32) (t_name : Nat → Int64) (t_size : Nat → Int32) (t_seed : Nat → Int32) (t_scattered : Nat → Int32) (t_head : Nat → Int32) (t_follows : Nat → Int32) (N : Nat) (z : Int32 × Int32 × Int32 × Int32 × Int32 × (Nat → Int32) × (Nat → Int32) × (Nat → Int32)) (hf : f_Model_write N t_partitions t_sort t_files t_name t_sectors t_size t_seed t_address t_first t_many t_disk t_start t_fat t_clusters t_head t_follows t_scattered = some z) : Cg l g E y_Model_write ws_Model_write rm_Model_write [.ref t_o] (wd_Model_write g t_o t_disk_a t_sort_a t_first_a t_many_a t_name_a t_size_a t_seed_a t_scattered_a t_head_a t_follows_a t_memory_a t_thrown t_sectors t_partitions t_files t_address t_start t_fat t_clusters t_header t_found t_kernelAt t_kernelSize t_any t_disk t_sort t_first t_many t_name t_size t_seed t_scattered t_head t_follows) (some (.int z.1)) (wd_Model_write g t_o t_disk_a t_sort_a t_first_a t_many_a t_name_a t_size_a t_seed_a t_scattered_a t_head_a t_follows_a t_memory_a z.2.1 t_sectors t_partitions t_files t_address z.2.2.1 z.2.2.2.1 z.2.2.2.2.1 t_header t_found t_kernelAt t_kernelSize t_any z.2.2.2.2.2.1 t_sort t_first t_many t_name t_size t_seed t_scattered z.2.2.2.2.2.2.1 z.2.2.2.2.2.2.2) := by
  refine Ct.ofI hEe good_W (by decide) rfl (Nat.le_of_ble_eq_true rfl) ?_
  intro p e s m args below meth c A ls Q hC hw hl hret
  have hC : CX p m c b_Model_write 5 s args Wall R_Model g.1 classes (tK g) E A := hC
  have hl : lv_has ls 5 [(0, .ref t_o)] := hl
  unfold f_Model_write at hf
  refine n_aload_n hC hl 0 d_Model_write_0 rfl rfl ?_
  refine n_iconst hC 0 d_Model_write_1 (by decide) ?_
  refine n_put hC hw fp_Model_61 0 (wd_Model_write g t_o t_disk_a t_sort_a t_first_a t_many_a t_name_a t_size_a t_seed_a t_scattered_a t_head_a t_follows_a t_memory_a 0 t_sectors t_partitions t_files t_address t_start t_fat t_clusters t_header t_found t_kernelAt t_kernelSize t_any t_disk t_sort t_first t_many t_name t_size t_seed t_scattered t_head t_follows) rfl rfl rfl (Nat.le_of_ble_eq_true rfl) d_Model_write_2 rfl (fun H locs hw => ?_)
  refine n_aload_n hC hl 0 d_Model_write_5 rfl rfl ?_
  obtain ⟨u1126, hu1126, hf⟩ := bd_s hf
  refine n_callVi hC hw fc_Model_134 (c_Model_bootPartition l g E hEe t_o t_sort_a t_disk_a t_first_a t_many_a t_name_a t_size_a t_seed_a t_scattered_a t_head_a t_follows_a t_memory_a 0 t_sectors t_partitions t_files t_address t_start t_fat t_clusters t_header t_found t_kernelAt t_kernelSize t_any t_sort N u1126 hu1126) [0, 2] (wd_Model_write g t_o t_disk_a t_sort_a t_first_a t_many_a t_name_a t_size_a t_seed_a t_scattered_a t_head_a t_follows_a t_memory_a 0 t_sectors t_partitions t_files t_address t_start t_fat t_clusters t_header t_found t_kernelAt t_kernelSize t_any t_disk t_sort t_first t_many t_name t_size t_seed t_scattered t_head t_follows) 0 rfl ⟨rfl, rfl⟩ ⟨Nat.le_of_ble_eq_true rfl, Nat.le_of_ble_eq_true rfl⟩ rfl (At_.cons rfl (At_.cons rfl At_.nil)) (At_.cons rfl (At_.cons rfl At_.nil)) Sm_.refl rfl hl.1 (Nat.le_of_ble_eq_true rfl) ⟨Nat.zero_le _, Nat.zero_le _⟩ d_Model_write_6 (fun H locs hw => ?_) rfl
  refine n_istore_n hC [(1, .int u1126), (0, .ref t_o)] hl d_Model_write_9 rfl (by decide) rfl (fun ls hl => ?_)
  refine n_iload_n hC hl 0 d_Model_write_10 rfl rfl ?_
  refine jn0 (∀ (H : Heap) (locs : List Loc) (ls : Array Slot), WS g.1 classes A s.heap H locs (wd_Model_write g t_o t_disk_a t_sort_a t_first_a t_many_a t_name_a t_size_a t_seed_a t_scattered_a t_head_a t_follows_a t_memory_a 0 t_sectors t_partitions t_files t_address t_start t_fat t_clusters t_header t_found t_kernelAt t_kernelSize t_any t_disk t_sort t_first t_many t_name t_size t_seed t_scattered t_head t_follows) → lv_has ls 5 [(1, .int u1126), (0, .ref t_o)] → W p l e rm_Model_write s m args below meth c H locs 0 0 Q (F0 m 23 ls [])) hf (fun hf H locs ls hw hl => ?_) (fun j23 hj23 hf => ?_)
  · refine n_iconst hC 0 d_Model_write_23 (by decide) ?_
    refine n_istore_n hC [(2, .int 0), (1, .int u1126), (0, .ref t_o)] hl d_Model_write_24 rfl (by decide) rfl (fun ls hl => ?_)
    refine n_iload_n hC hl 1 d_Model_write_25 rfl rfl ?_
    refine jn6 (fun (x1140 : Int32) (x1141 : Int32) (x1142 : Int32) (x1143 : Int32) (x1144 : Nat → Int32) (x1145 : Nat → Int32) => ∀ (H : Heap) (locs : List Loc) (ls : Array Slot), WS g.1 classes A s.heap H locs (wd_Model_write g t_o t_disk_a t_sort_a t_first_a t_many_a t_name_a t_size_a t_seed_a t_scattered_a t_head_a t_follows_a t_memory_a 0 t_sectors t_partitions t_files t_address x1141 x1142 x1143 t_header t_found t_kernelAt t_kernelSize t_any t_disk t_sort t_first t_many t_name t_size t_seed t_scattered x1144 x1145) → lv_has ls 5 [(2, .int x1140), (1, .int u1126), (0, .ref t_o)] → W p l e rm_Model_write s m args below meth c H locs 0 0 Q (F0 m 116 ls [])) hf (fun x1140 x1141 x1142 x1143 x1144 x1145 hf H locs ls hw hl => ?_) (fun j116 hj116 hf => ?_)
    · refine n_aload_n hC hl 2 d_Model_write_116 rfl rfl ?_
      obtain ⟨u1146, hu1146, hf⟩ := bd_s hf
      refine n_callSl hC hw fc_Model_131 (c_Model_loader l g E hEe  u1146 hu1146) [] (wd_Model_write g t_o t_disk_a t_sort_a t_first_a t_many_a t_name_a t_size_a t_seed_a t_scattered_a t_head_a t_follows_a t_memory_a 0 t_sectors t_partitions t_files t_address x1141 x1142 x1143 t_header t_found t_kernelAt t_kernelSize t_any t_disk t_sort t_first t_many t_name t_size t_seed t_scattered x1144 x1145) ⟨rfl, rfl⟩ ⟨Nat.le_of_ble_eq_true rfl, Nat.le_of_ble_eq_true rfl⟩ rfl At_.nil At_.nil Sm_.refl rfl hl.1 (Nat.le_of_ble_eq_true rfl) ⟨Nat.zero_le _, Nat.zero_le _⟩ d_Model_write_117 (fun H locs hw => ?_) rfl
      obtain ⟨u1147, hu1147, hf⟩ := bd_s hf
      refine n_callVi hC hw fc_Model_98 (c_Model_named l g E hEe t_o t_name_a t_disk_a t_sort_a t_first_a t_many_a t_size_a t_seed_a t_scattered_a t_head_a t_follows_a t_memory_a 0 t_sectors t_partitions t_files t_address x1141 x1142 x1143 t_header t_found t_kernelAt t_kernelSize t_any t_name u1146 N u1147 hu1147) [0, 5] (wd_Model_write g t_o t_disk_a t_sort_a t_first_a t_many_a t_name_a t_size_a t_seed_a t_scattered_a t_head_a t_follows_a t_memory_a 0 t_sectors t_partitions t_files t_address x1141 x1142 x1143 t_header t_found t_kernelAt t_kernelSize t_any t_disk t_sort t_first t_many t_name t_size t_seed t_scattered x1144 x1145) 0 rfl ⟨rfl, rfl⟩ ⟨Nat.le_of_ble_eq_true rfl, Nat.le_of_ble_eq_true rfl⟩ rfl (At_.cons rfl (At_.cons rfl At_.nil)) (At_.cons rfl (At_.cons rfl At_.nil)) Sm_.refl rfl hl.1 (Nat.le_of_ble_eq_true rfl) ⟨Nat.zero_le _, Nat.zero_le _⟩ d_Model_write_120 (fun H locs hw => ?_) rfl
      refine n_istore_n hC [(3, .int u1147), (2, .int x1140), (1, .int u1126), (0, .ref t_o)] hl d_Model_write_123 rfl (by decide) rfl (fun ls hl => ?_)
      refine n_iload_n hC hl 0 d_Model_write_124 rfl rfl ?_
      refine jn0 (∀ (H : Heap) (locs : List Loc) (ls : Array Slot), WS g.1 classes A s.heap H locs (wd_Model_write g t_o t_disk_a t_sort_a t_first_a t_many_a t_name_a t_size_a t_seed_a t_scattered_a t_head_a t_follows_a t_memory_a 0 t_sectors t_partitions t_files t_address x1141 x1142 x1143 t_header t_found t_kernelAt t_kernelSize t_any t_disk t_sort t_first t_many t_name t_size t_seed t_scattered x1144 x1145) → lv_has ls 5 [(3, .int u1147), (2, .int x1140), (1, .int u1126), (0, .ref t_o)] → W p l e rm_Model_write s m args below meth c H locs 0 0 Q (F0 m 140 ls [])) hf (fun hf H locs ls hw hl => ?_) (fun j140 hj140 hf => ?_)
      · refine n_iconst hC 0 d_Model_write_140 (by decide) ?_
        refine n_istore hC [(4, .int 0), (3, .int u1147), (2, .int x1140), (1, .int u1126), (0, .ref t_o)] hl d_Model_write_141 (by decide) rfl (fun ls hl => ?_)
        have hL143 := lw2 (B := f_Model_write_L143 N t_sectors u1147 t_size x1144 x1141 x1142 x1145 t_seed t_name t_address t_partitions t_first t_many t_sort x1143 x1140 u1126 t_files) (z := z) (fun (x1158 : Int32) (x1159 : Nat → Int32) => ∀ (H : Heap) (locs : List Loc) (ls : Array Slot), WS g.1 classes A s.heap H locs (wd_Model_write g t_o t_disk_a t_sort_a t_first_a t_many_a t_name_a t_size_a t_seed_a t_scattered_a t_head_a t_follows_a t_memory_a 0 t_sectors t_partitions t_files t_address x1141 x1142 x1143 t_header t_found t_kernelAt t_kernelSize t_any x1159 t_sort t_first t_many t_name t_size t_seed t_scattered x1144 x1145) → lv_has ls 5 [(4, .int x1158), (3, .int u1147), (2, .int x1140), (1, .int u1126), (0, .ref t_o)] → W p l e rm_Model_write s m args below meth c H locs 0 0 Q (F0 m 143 ls [])) (by
          intro k143 hk143 x1158 x1159 hf H locs ls hw hl
          unfold f_Model_write_L143 at hf
          refine n_iload hC hl 0 d_Model_write_143 rfl ?_
          refine n_sipush hC 512 d_Model_write_145 (by decide) ?_
          refine n_aload_n hC hl 4 d_Model_write_148 rfl rfl ?_
          refine n_get hC hw fg_Model_48 0 rfl rfl d_Model_write_149 ?_
          refine n_imul hC hf d_Model_write_152 (fun v1169 hf => ?_)
          refine n_icmp_ge hC hf 170 d_Model_write_153 (by decide) (fun hf => ?_) (fun hf => ?_)
          · refine n_iload_n hC hl 2 d_Model_write_170 rfl rfl ?_
            refine jn1 (fun (x1172 : Nat → Int32) => ∀ (H : Heap) (locs : List Loc) (ls : Array Slot), WS g.1 classes A s.heap H locs (wd_Model_write g t_o t_disk_a t_sort_a t_first_a t_many_a t_name_a t_size_a t_seed_a t_scattered_a t_head_a t_follows_a t_memory_a 0 t_sectors t_partitions t_files t_address x1141 x1142 x1143 t_header t_found t_kernelAt t_kernelSize t_any x1172 t_sort t_first t_many t_name t_size t_seed t_scattered x1144 x1145) → lv_has ls 5 [(3, .int u1147), (0, .ref t_o)] → W p l e rm_Model_write s m args below meth c H locs 0 0 Q (F0 m 184 ls [])) hf (fun x1172 hf H locs ls hw hl => ?_) (fun j184 hj184 hf => ?_)
            · refine n_aload_n hC hl 1 d_Model_write_184 rfl rfl ?_
              refine n_iload_n hC hl 0 d_Model_write_185 rfl rfl ?_
              obtain ⟨u1173, hu1173, hf⟩ := bd_s hf
              refine n_callVv hC hw fc_Model_152 (c_Model_beginning l g E hEe t_o t_disk_a t_name_a t_size_a t_seed_a t_head_a t_follows_a t_sort_a t_first_a t_many_a t_scattered_a t_memory_a 0 t_sectors t_partitions t_files t_address x1141 x1142 x1143 t_header t_found t_kernelAt t_kernelSize t_any x1172 t_name t_size t_seed x1144 x1145 u1147 N u1173 hu1173) [0, 1, 5, 6, 7, 9, 10] (wd_Model_write g t_o t_disk_a t_sort_a t_first_a t_many_a t_name_a t_size_a t_seed_a t_scattered_a t_head_a t_follows_a t_memory_a 0 t_sectors t_partitions t_files t_address x1141 x1142 x1143 t_header t_found t_kernelAt t_kernelSize t_any u1173 t_sort t_first t_many t_name t_size t_seed t_scattered x1144 x1145) 0 rfl ⟨rfl, rfl⟩ ⟨Nat.le_of_ble_eq_true rfl, Nat.le_of_ble_eq_true rfl⟩ rfl (At_.cons rfl (At_.cons rfl (At_.cons rfl (At_.cons rfl (At_.cons rfl (At_.cons rfl (At_.cons rfl At_.nil))))))) (At_.cons rfl (At_.cons rfl (At_.cons rfl (At_.cons rfl (At_.cons rfl (At_.cons rfl (At_.cons rfl At_.nil))))))) (Sm_.keep (Sm_.upd rfl (Sm_.keep (Sm_.keep (Sm_.keep (Sm_.keep (Sm_.keep (Sm_.keep (Sm_.keep (Sm_.keep (Sm_.keep Sm_.nil))))))))))) rfl hl.1 (Nat.le_of_ble_eq_true rfl) ⟨Nat.zero_le _, Nat.zero_le _⟩ d_Model_write_186 (fun H locs hw => ?_) rfl
              refine n_aload_n hC hl 1 d_Model_write_189 rfl rfl ?_
              obtain ⟨u1174, hu1174, hf⟩ := bd_s hf
              refine n_callVv hC hw fc_Model_155 (c_Model_tables l g E hEe t_o t_disk_a t_sort_a t_first_a t_many_a t_name_a t_size_a t_seed_a t_scattered_a t_head_a t_follows_a t_memory_a 0 t_sectors t_partitions t_files t_address x1141 x1142 x1143 t_header t_found t_kernelAt t_kernelSize t_any u1173 t_sort t_first t_many N u1174 hu1174) [0, 1, 2, 3, 4] (wd_Model_write g t_o t_disk_a t_sort_a t_first_a t_many_a t_name_a t_size_a t_seed_a t_scattered_a t_head_a t_follows_a t_memory_a 0 t_sectors t_partitions t_files t_address x1141 x1142 x1143 t_header t_found t_kernelAt t_kernelSize t_any u1174 t_sort t_first t_many t_name t_size t_seed t_scattered x1144 x1145) 0 rfl ⟨rfl, rfl⟩ ⟨Nat.le_of_ble_eq_true rfl, Nat.le_of_ble_eq_true rfl⟩ rfl (At_.cons rfl (At_.cons rfl (At_.cons rfl (At_.cons rfl (At_.cons rfl At_.nil))))) (At_.cons rfl (At_.cons rfl (At_.cons rfl (At_.cons rfl (At_.cons rfl At_.nil))))) (Sm_.keep (Sm_.upd rfl (Sm_.keep (Sm_.keep (Sm_.keep (Sm_.keep (Sm_.keep (Sm_.keep (Sm_.keep (Sm_.keep (Sm_.keep Sm_.nil))))))))))) rfl hl.1 (Nat.le_of_ble_eq_true rfl) ⟨Nat.zero_le _, Nat.zero_le _⟩ d_Model_write_190 (fun H locs hw => ?_) rfl
              refine n_iconst hC 0 d_Model_write_193 (by decide) ?_
              cases hf
              exact hret _ _ _ _ hw (show narrow .int (Value.int 0) = Value.int 0 from rfl) d_Model_write_194
            refine n_if_eq hC hf 184 d_Model_write_171 (by decide) (fun hf => ?_) (fun hf => ?_)
            · exact hj184 _ hf _ _ _ hw (lv_sub hl [1, 4] rfl)
            · refine n_aload_n hC hl 4 d_Model_write_174 rfl rfl ?_
              refine n_aload_n hC hl 4 d_Model_write_175 rfl rfl ?_
              refine n_get hC hw fg_Model_21 0 rfl rfl d_Model_write_176 ?_
              refine n_iload_n hC hl 3 d_Model_write_179 rfl rfl ?_
              refine n_iald hC hw hf 4 0 rfl rfl d_Model_write_180 (fun v1175 hf => ?_)
              obtain ⟨u1176, hu1176, hf⟩ := bd_s hf
              refine n_callVv hC hw fc_Model_148 (c_Model_lay l g E hEe t_o t_disk_a t_name_a t_size_a t_seed_a t_head_a t_follows_a t_sort_a t_first_a t_many_a t_scattered_a t_memory_a 0 t_sectors t_partitions t_files t_address x1141 x1142 x1143 t_header t_found t_kernelAt t_kernelSize t_any x1159 t_name t_size t_seed x1144 x1145 v1175 N u1176 hu1176) [0, 1, 5, 6, 7, 9, 10] (wd_Model_write g t_o t_disk_a t_sort_a t_first_a t_many_a t_name_a t_size_a t_seed_a t_scattered_a t_head_a t_follows_a t_memory_a 0 t_sectors t_partitions t_files t_address x1141 x1142 x1143 t_header t_found t_kernelAt t_kernelSize t_any u1176 t_sort t_first t_many t_name t_size t_seed t_scattered x1144 x1145) 0 rfl ⟨rfl, rfl⟩ ⟨Nat.le_of_ble_eq_true rfl, Nat.le_of_ble_eq_true rfl⟩ rfl (At_.cons rfl (At_.cons rfl (At_.cons rfl (At_.cons rfl (At_.cons rfl (At_.cons rfl (At_.cons rfl At_.nil))))))) (At_.cons rfl (At_.cons rfl (At_.cons rfl (At_.cons rfl (At_.cons rfl (At_.cons rfl (At_.cons rfl At_.nil))))))) (Sm_.keep (Sm_.upd rfl (Sm_.keep (Sm_.keep (Sm_.keep (Sm_.keep (Sm_.keep (Sm_.keep (Sm_.keep (Sm_.keep (Sm_.keep Sm_.nil))))))))))) rfl hl.1 (Nat.le_of_ble_eq_true rfl) ⟨Nat.zero_le _, Nat.zero_le _⟩ d_Model_write_181 (fun H locs hw => ?_) rfl
              exact hj184 _ hf _ _ _ hw (lv_sub hl [1, 4] rfl)
          · refine n_aload_n hC hl 4 d_Model_write_156 rfl rfl ?_
            refine n_get hC hw fg_Model_8 0 rfl rfl d_Model_write_157 ?_
            refine n_iload hC hl 0 d_Model_write_160 rfl ?_
            refine n_iconst hC 0 d_Model_write_162 (by decide) ?_
            refine n_bast hC hw hf 1 3 (fun f1177 => wd_Model_write g t_o t_disk_a t_sort_a t_first_a t_many_a t_name_a t_size_a t_seed_a t_scattered_a t_head_a t_follows_a t_memory_a 0 t_sectors t_partitions t_files t_address x1141 x1142 x1143 t_header t_found t_kernelAt t_kernelSize t_any f1177 t_sort t_first t_many t_name t_size t_seed t_scattered x1144 x1145) rfl rfl d_Model_write_163 (fun _ => rfl) (fun f1177 H locs hf hw => ?_)
            refine n_iinc hC (k := 0) hf (by decide) (fun v1178 => [(4, .int v1178), (3, .int u1147), (2, .int x1140), (1, .int u1126), (0, .ref t_o)]) hl d_Model_write_164 rfl (by decide) (fun _ => rfl) (fun v1178 ls hf hl => ?_)
            refine n_goto hC 143 d_Model_write_167 (by decide) ?_
            exact hk143 _ _ hf _ _ _ hw (lv_sub hl [0, 1, 2, 3, 4] rfl)
          )
        exact hL143 N _ _ hf _ _ _ hw (lv_sub hl [0, 1, 2, 3, 4] rfl)
      refine n_if_lt hC hf 140 d_Model_write_125 (by decide) (fun hf => ?_) (fun hf => ?_)
      · exact hj140 hf _ _ _ hw (lv_sub hl [0, 1, 2, 3] rfl)
      · refine n_aload_n hC hl 3 d_Model_write_128 rfl rfl ?_
        refine n_iload_n hC hl 0 d_Model_write_129 rfl rfl ?_
        obtain ⟨u1179, hu1179, hf⟩ := bd_s hf
        refine n_callVi hC hw fc_Model_145 (c_Model_runs l g E hEe t_o t_size_a t_head_a t_follows_a t_disk_a t_sort_a t_first_a t_many_a t_name_a t_seed_a t_scattered_a t_memory_a 0 t_sectors t_partitions t_files t_address x1141 x1142 x1143 t_header t_found t_kernelAt t_kernelSize t_any t_size x1144 x1145 u1147 N u1179 hu1179) [0, 6, 9, 10] (wd_Model_write g t_o t_disk_a t_sort_a t_first_a t_many_a t_name_a t_size_a t_seed_a t_scattered_a t_head_a t_follows_a t_memory_a 0 t_sectors t_partitions t_files t_address x1141 x1142 x1143 t_header t_found t_kernelAt t_kernelSize t_any t_disk t_sort t_first t_many t_name t_size t_seed t_scattered x1144 x1145) 0 rfl ⟨rfl, rfl⟩ ⟨Nat.le_of_ble_eq_true rfl, Nat.le_of_ble_eq_true rfl⟩ rfl (At_.cons rfl (At_.cons rfl (At_.cons rfl (At_.cons rfl At_.nil)))) (At_.cons rfl (At_.cons rfl (At_.cons rfl (At_.cons rfl At_.nil)))) Sm_.refl rfl hl.1 (Nat.le_of_ble_eq_true rfl) ⟨Nat.zero_le _, Nat.zero_le _⟩ d_Model_write_130 (fun H locs hw => ?_) rfl
        refine n_bipush hC 20 d_Model_write_133 (by decide) ?_
        refine n_icmp_le hC hf 140 d_Model_write_135 (by decide) (fun hf => ?_) (fun hf => ?_)
        · exact hj140 hf _ _ _ hw (lv_sub hl [0, 1, 2, 3] rfl)
        · refine n_iconst hC 3 d_Model_write_138 (by decide) ?_
          cases hf
          exact hret _ _ _ _ hw (show narrow .int (Value.int 3) = Value.int 3 from rfl) d_Model_write_139
    refine n_if_lt hC hf 116 d_Model_write_26 (by decide) (fun hf => ?_) (fun hf => ?_)
    · exact hj116 _ _ _ _ _ _ hf _ _ _ hw (lv_sub hl [0, 1, 2] rfl)
    · refine n_aload_n hC hl 2 d_Model_write_29 rfl rfl ?_
      refine n_aload_n hC hl 2 d_Model_write_30 rfl rfl ?_
      refine n_get hC hw fg_Model_18 0 rfl rfl d_Model_write_31 ?_
      refine n_iload_n hC hl 1 d_Model_write_34 rfl rfl ?_
      refine n_iald hC hw hf 3 0 rfl rfl d_Model_write_35 (fun v1180 hf => ?_)
      refine n_put hC hw fp_Model_118 0 (wd_Model_write g t_o t_disk_a t_sort_a t_first_a t_many_a t_name_a t_size_a t_seed_a t_scattered_a t_head_a t_follows_a t_memory_a 0 t_sectors t_partitions t_files t_address v1180 t_fat t_clusters t_header t_found t_kernelAt t_kernelSize t_any t_disk t_sort t_first t_many t_name t_size t_seed t_scattered t_head t_follows) rfl rfl rfl (Nat.le_of_ble_eq_true rfl) d_Model_write_36 rfl (fun H locs hw => ?_)
      refine n_aload_n hC hl 2 d_Model_write_39 rfl rfl ?_
      refine n_aload_n hC hl 2 d_Model_write_40 rfl rfl ?_
      refine n_get hC hw fg_Model_21 0 rfl rfl d_Model_write_41 ?_
      refine n_iload_n hC hl 1 d_Model_write_44 rfl rfl ?_
      refine n_iald hC hw hf 4 0 rfl rfl d_Model_write_45 (fun v1181 hf => ?_)
      obtain ⟨u1182, hu1182, hf⟩ := bd_s hf
      refine n_callSi hC hw fc_Model_138 (c_Model_tableOf l g E hEe v1181 N u1182 hu1182) [] (wd_Model_write g t_o t_disk_a t_sort_a t_first_a t_many_a t_name_a t_size_a t_seed_a t_scattered_a t_head_a t_follows_a t_memory_a 0 t_sectors t_partitions t_files t_address v1180 t_fat t_clusters t_header t_found t_kernelAt t_kernelSize t_any t_disk t_sort t_first t_many t_name t_size t_seed t_scattered t_head t_follows) ⟨rfl, rfl⟩ ⟨Nat.le_of_ble_eq_true rfl, Nat.le_of_ble_eq_true rfl⟩ rfl At_.nil At_.nil Sm_.refl rfl hl.1 (Nat.le_of_ble_eq_true rfl) ⟨Nat.zero_le _, Nat.zero_le _⟩ d_Model_write_46 (fun H locs hw => ?_) rfl
      refine n_put hC hw fp_Model_121 0 (wd_Model_write g t_o t_disk_a t_sort_a t_first_a t_many_a t_name_a t_size_a t_seed_a t_scattered_a t_head_a t_follows_a t_memory_a 0 t_sectors t_partitions t_files t_address v1180 u1182 t_clusters t_header t_found t_kernelAt t_kernelSize t_any t_disk t_sort t_first t_many t_name t_size t_seed t_scattered t_head t_follows) rfl rfl rfl (Nat.le_of_ble_eq_true rfl) d_Model_write_49 rfl (fun H locs hw => ?_)
      refine n_aload_n hC hl 2 d_Model_write_52 rfl rfl ?_
      refine n_aload_n hC hl 2 d_Model_write_53 rfl rfl ?_
      refine n_get hC hw fg_Model_21 0 rfl rfl d_Model_write_54 ?_
      refine n_iload_n hC hl 1 d_Model_write_57 rfl rfl ?_
      refine n_iald hC hw hf 4 0 rfl rfl d_Model_write_58 (fun v1183 hf => ?_)
      refine n_iconst hC 3 d_Model_write_59 (by decide) ?_
      refine n_isub hC hf d_Model_write_60 (fun v1184 hf => ?_)
      refine n_iconst hC 2 d_Model_write_61 (by decide) ?_
      refine n_aload_n hC hl 2 d_Model_write_62 rfl rfl ?_
      refine n_get hC hw fg_Model_121 0 rfl rfl d_Model_write_63 ?_
      refine n_imul hC hf d_Model_write_66 (fun v1185 hf => ?_)
      refine n_isub hC hf d_Model_write_67 (fun v1186 hf => ?_)
      refine n_put hC hw fp_Model_109 0 (wd_Model_write g t_o t_disk_a t_sort_a t_first_a t_many_a t_name_a t_size_a t_seed_a t_scattered_a t_head_a t_follows_a t_memory_a 0 t_sectors t_partitions t_files t_address v1180 u1182 v1186 t_header t_found t_kernelAt t_kernelSize t_any t_disk t_sort t_first t_many t_name t_size t_seed t_scattered t_head t_follows) rfl rfl rfl (Nat.le_of_ble_eq_true rfl) d_Model_write_68 rfl (fun H locs hw => ?_)
      refine n_aload_n hC hl 2 d_Model_write_71 rfl rfl ?_
      refine n_get hC hw fg_Model_109 0 rfl rfl d_Model_write_72 ?_
      refine jn1 (fun (x1187 : Int32) => ∀ (H : Heap) (locs : List Loc) (ls : Array Slot), WS g.1 classes A s.heap H locs (wd_Model_write g t_o t_disk_a t_sort_a t_first_a t_many_a t_name_a t_size_a t_seed_a t_scattered_a t_head_a t_follows_a t_memory_a 0 t_sectors t_partitions t_files t_address v1180 u1182 v1186 t_header t_found t_kernelAt t_kernelSize t_any t_disk t_sort t_first t_many t_name t_size t_seed t_scattered t_head t_follows) → lv_has ls 5 [(1, .int u1126), (0, .ref t_o)] → W p l e rm_Model_write s m args below meth c H locs 0 0 Q (F0 m 83 ls [.int x1187])) hf (fun x1187 hf H locs ls hw hl => ?_) (fun j83 hj83 hf => ?_)
      · refine n_istore_n hC [(2, .int x1187), (1, .int u1126), (0, .ref t_o)] hl d_Model_write_83 rfl (by decide) rfl (fun ls hl => ?_)
        refine n_aload_n hC hl 2 d_Model_write_84 rfl rfl ?_
        refine n_get hC hw fg_Model_91 0 rfl rfl d_Model_write_85 ?_
        refine jn2 (fun (x1189 : Nat → Int32) (x1190 : Nat → Int32) => ∀ (H : Heap) (locs : List Loc) (ls : Array Slot), WS g.1 classes A s.heap H locs (wd_Model_write g t_o t_disk_a t_sort_a t_first_a t_many_a t_name_a t_size_a t_seed_a t_scattered_a t_head_a t_follows_a t_memory_a 0 t_sectors t_partitions t_files t_address v1180 u1182 v1186 t_header t_found t_kernelAt t_kernelSize t_any t_disk t_sort t_first t_many t_name t_size t_seed t_scattered x1189 x1190) → lv_has ls 5 [(2, .int x1187), (1, .int u1126), (0, .ref t_o)] → W p l e rm_Model_write s m args below meth c H locs 0 0 Q (F0 m 104 ls [])) hf (fun x1189 x1190 hf H locs ls hw hl => ?_) (fun j104 hj104 hf => ?_)
        · refine n_aload_n hC hl 2 d_Model_write_104 rfl rfl ?_
          refine n_get hC hw fg_Model_91 0 rfl rfl d_Model_write_105 ?_
          refine n_if_ne hC hf 116 d_Model_write_108 (by decide) (fun hf => ?_) (fun hf => ?_)
          · exact hj116 _ _ _ _ _ _ hf _ _ _ hw (lv_sub hl [0, 1, 2] rfl)
          · refine n_aload_n hC hl 2 d_Model_write_111 rfl rfl ?_
            obtain ⟨u1191, hu1191, hf⟩ := bd_s hf
            refine n_callVi hC hw fc_Model_141 (c_Model_given l g E hEe t_o t_size_a t_scattered_a t_head_a t_follows_a t_disk_a t_sort_a t_first_a t_many_a t_name_a t_seed_a t_memory_a 0 t_sectors t_partitions t_files t_address v1180 u1182 v1186 t_header t_found t_kernelAt t_kernelSize t_any t_size t_scattered x1189 x1190 N u1191 hu1191) [0, 6, 8, 9, 10] (wd_Model_write g t_o t_disk_a t_sort_a t_first_a t_many_a t_name_a t_size_a t_seed_a t_scattered_a t_head_a t_follows_a t_memory_a 0 t_sectors t_partitions t_files t_address v1180 u1182 v1186 t_header t_found t_kernelAt t_kernelSize t_any t_disk t_sort t_first t_many t_name t_size t_seed t_scattered u1191.2.1 u1191.2.2) 0 rfl ⟨rfl, rfl⟩ ⟨Nat.le_of_ble_eq_true rfl, Nat.le_of_ble_eq_true rfl⟩ rfl (At_.cons rfl (At_.cons rfl (At_.cons rfl (At_.cons rfl (At_.cons rfl At_.nil))))) (At_.cons rfl (At_.cons rfl (At_.cons rfl (At_.cons rfl (At_.cons rfl At_.nil))))) (Sm_.keep (Sm_.keep (Sm_.keep (Sm_.keep (Sm_.keep (Sm_.keep (Sm_.keep (Sm_.keep (Sm_.keep (Sm_.upd rfl (Sm_.upd rfl Sm_.nil))))))))))) rfl hl.1 (Nat.le_of_ble_eq_true rfl) ⟨Nat.zero_le _, Nat.zero_le _⟩ d_Model_write_112 (fun H locs hw => ?_) rfl
            refine n_pop hC d_Model_write_115 rfl ?_
            exact hj116 _ _ _ _ _ _ hf _ _ _ hw (lv_sub hl [0, 1, 2] rfl)
        refine n_if_le hC hf 104 d_Model_write_88 (by decide) (fun hf => ?_) (fun hf => ?_)
        · exact hj104 _ _ hf _ _ _ hw (lv_sub hl [0, 1, 2] rfl)
        · refine n_iload_n hC hl 0 d_Model_write_91 rfl rfl ?_
          refine n_if_eq hC hf 102 d_Model_write_92 (by decide) (fun hf => ?_) (fun hf => ?_)
          · refine n_iconst hC 2 d_Model_write_102 (by decide) ?_
            cases hf
            exact hret _ _ _ _ hw (show narrow .int (Value.int 2) = Value.int 2 from rfl) d_Model_write_103
          · refine n_aload_n hC hl 2 d_Model_write_95 rfl rfl ?_
            obtain ⟨u1192, hu1192, hf⟩ := bd_s hf
            refine n_callVi hC hw fc_Model_141 (c_Model_given l g E hEe t_o t_size_a t_scattered_a t_head_a t_follows_a t_disk_a t_sort_a t_first_a t_many_a t_name_a t_seed_a t_memory_a 0 t_sectors t_partitions t_files t_address v1180 u1182 v1186 t_header t_found t_kernelAt t_kernelSize t_any t_size t_scattered t_head t_follows N u1192 hu1192) [0, 6, 8, 9, 10] (wd_Model_write g t_o t_disk_a t_sort_a t_first_a t_many_a t_name_a t_size_a t_seed_a t_scattered_a t_head_a t_follows_a t_memory_a 0 t_sectors t_partitions t_files t_address v1180 u1182 v1186 t_header t_found t_kernelAt t_kernelSize t_any t_disk t_sort t_first t_many t_name t_size t_seed t_scattered u1192.2.1 u1192.2.2) 0 rfl ⟨rfl, rfl⟩ ⟨Nat.le_of_ble_eq_true rfl, Nat.le_of_ble_eq_true rfl⟩ rfl (At_.cons rfl (At_.cons rfl (At_.cons rfl (At_.cons rfl (At_.cons rfl At_.nil))))) (At_.cons rfl (At_.cons rfl (At_.cons rfl (At_.cons rfl (At_.cons rfl At_.nil))))) (Sm_.keep (Sm_.keep (Sm_.keep (Sm_.keep (Sm_.keep (Sm_.keep (Sm_.keep (Sm_.keep (Sm_.keep (Sm_.upd rfl (Sm_.upd rfl Sm_.nil))))))))))) rfl hl.1 (Nat.le_of_ble_eq_true rfl) ⟨Nat.zero_le _, Nat.zero_le _⟩ d_Model_write_96 (fun H locs hw => ?_) rfl
            refine n_if_ne hC hf 104 d_Model_write_99 (by decide) (fun hf => ?_) (fun hf => ?_)
            · exact hj104 _ _ hf _ _ _ hw (lv_sub hl [0, 1, 2] rfl)
            · refine n_iconst hC 2 d_Model_write_102 (by decide) ?_
              cases hf
              exact hret _ _ _ _ hw (show narrow .int (Value.int 2) = Value.int 2 from rfl) d_Model_write_103
      refine n_if_le hC hf 82 d_Model_write_75 (by decide) (fun hf => ?_) (fun hf => ?_)
      · refine n_iconst hC 0 d_Model_write_82 (by decide) ?_
        exact hj83 _ hf _ _ _ hw (lv_sub hl [1, 2] rfl)
      · refine n_iconst hC 1 d_Model_write_78 (by decide) ?_
        refine n_goto hC 83 d_Model_write_79 (by decide) ?_
        exact hj83 _ hf _ _ _ hw (lv_sub hl [1, 2] rfl)
  refine n_if_ge hC hf 23 d_Model_write_11 (by decide) (fun hf => ?_) (fun hf => ?_)
  · exact hj23 hf _ _ _ hw (lv_sub hl [0, 1] rfl)
  · refine n_aload_n hC hl 1 d_Model_write_14 rfl rfl ?_
    refine n_get hC hw fg_Model_91 0 rfl rfl d_Model_write_15 ?_
    refine n_if_le hC hf 23 d_Model_write_18 (by decide) (fun hf => ?_) (fun hf => ?_)
    · exact hj23 hf _ _ _ hw (lv_sub hl [0, 1] rfl)
    · refine n_iconst hC 1 d_Model_write_21 (by decide) ?_
      cases hf
      exact hret _ _ _ _ hw (show narrow .int (Value.int 1) = Value.int 1 from rfl) d_Model_write_22
