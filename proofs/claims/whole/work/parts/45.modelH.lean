def wd_Model_loaded (g : GT) (t_o : Nat) (t_disk_a : Nat) (t_memory_a : Nat) (t_sort_a : Nat) (t_first_a : Nat) (t_many_a : Nat) (t_name_a : Nat) (t_size_a : Nat) (t_seed_a : Nat) (t_scattered_a : Nat) (t_head_a : Nat) (t_follows_a : Nat) (t_thrown : Int32) (t_sectors : Int32) (t_partitions : Int32) (t_files : Int32) (t_address : Int32) (t_start : Int32) (t_fat : Int32) (t_clusters : Int32) (t_header : Int32) (t_found : Int32) (t_kernelAt : Int32) (t_kernelSize : Int32) (t_any : Int32) (t_disk : Nat → Int32) (t_memory : Nat → Int32) : va_W := [(t_o, .inr (7, [.int t_thrown, .int t_sectors, .ref t_disk_a, .int t_partitions, .ref t_sort_a, .ref t_first_a, .ref t_many_a, .int t_files, .ref t_name_a, .ref t_size_a, .ref t_seed_a, .ref t_scattered_a, .int t_address, .int t_start, .int t_fat, .int t_clusters, .ref t_head_a, .ref t_follows_a, .int t_header, .int t_found, .int t_kernelAt, .int t_kernelSize, .int t_any, .ref t_memory_a])), (t_disk_a, .inl (g.2.2.2.2, 307200, .inl t_disk)), (t_memory_a, .inl (g.2.2.2.2, 65536, .inl t_memory))]
def f_Model_loaded_L477 (u18106 : Int64) (u19610 : Int64) (t_found : Int32) (v18091 : Int32) (t_disk : Nat → Int32) (k477 : Int32 → Int32 → (Nat → Int32) → Option (Int32 × Int32 × Int32 × (Nat → Int32))) (x19667 : Int32) (x19668 : Int32) (x19669 : Nat → Int32) : Option (Int32 × Int32 × Int32 × (Nat → Int32)) :=
  lt_ (x19667.toInt64) (fun v19716 => lt_ (lg_cmp v19716 u18106) (fun v19717 => if 0 ≤ v19717 then lt_ (u19610.toInt32) (fun v19718 => lt_ (u18106.toInt32) (fun v19719 => some (0, v19718, v19719, x19669))) else lt_ (fun (x19723 : Int32) => lt_ (u19610.toInt32) (fun v19724 => lt_ (v19724 + x19667) (fun v19725 => lt_ (t_found + 3) (fun v19726 => lt_ ((2 : Int32) * v18091) (fun v19727 => lt_ (v19726 + v19727) (fun v19728 => lt_ (v19728 + x19723) (fun v19729 => lt_ (v19729 - 2) (fun v19730 => lt_ ((512 : Int32) * v19730) (fun v19731 => lt_ (x19667 - x19667 / 512 * 512) (fun v19732 => lt_ (v19731 + v19732) (fun v19733 => ix_ 307200 t_disk v19733 (fun (v19734 : Int32) => up_b 65536 x19669 v19725 v19734 (fun (f19735 : Nat → Int32) => lt_ (x19667 + 1) (fun v19736 => k477 v19736 x19723 f19735)))))))))))))) (fun (j514 : Int32 → Option (Int32 × Int32 × Int32 × (Nat → Int32))) => if x19667 ≤ 0 then j514 x19668 else lt_ (x19667 - x19667 / 512 * 512) (fun v19737 => if ¬ v19737 = 0 then j514 x19668 else lt_ (t_found + 1) (fun v19738 => bd_ (f_Model_entryAt v19738 x19668 t_disk) (fun u19739 => j514 u19739))))))
def f_Model_loaded_L277 (N : Nat) (v18108 : Int64) (u18106 : Int64) (t_found : Int32) (v18091 : Int32) (v18113 : Int32) (t_disk : Nat → Int32) (t_kernelAt : Int32) (t_kernelSize : Int32) (t_memory : Nat → Int32) (v18094 : Int32) (k277 : Int32 → Int32 → Option (Int32 × Int32 × Int32 × (Nat → Int32))) (x18856 : Int32) (x18857 : Int32) : Option (Int32 × Int32 × Int32 × (Nat → Int32)) :=
  lt_ (x18856.toInt64) (fun v19600 => lt_ (lg_cmp v19600 v18108) (fun v19601 => if 0 ≤ v19601 then lt_ (lg_cmp u18106 8) (fun v19602 => if 0 ≤ v19602 then lt_ (t_found + 3) (fun v19603 => lt_ ((2 : Int32) * v18091) (fun v19604 => lt_ (v19603 + v19604) (fun v19605 => lt_ (v19605 + v18113) (fun v19606 => lt_ (v19606 - 2) (fun v19607 => lt_ ((512 : Int32) * v19607) (fun v19608 => lt_ (v19608 + 4) (fun v19609 => bd_ (f_Model_lowAt N 4 v19609 t_disk) (fun u19610 => bd_ (f_Model_get t_disk v19608) (fun u19611 => lt_ (fun (x19618 : Int32) => if x19618 = 0 then some (8, t_kernelAt, t_kernelSize, t_memory) else lt_ (u19610 + u18106) (fun v19619 => lt_ (lg_cmp v19619 65536) (fun v19620 => if v19620 ≤ 0 then lp_ (fun _ _ _ => none) (f_Model_loaded_L477 u18106 u19610 t_found v18091 t_disk) N 0 v18113 t_memory else some (8, t_kernelAt, t_kernelSize, t_memory)))) (fun (j448 : Int32 → Option (Int32 × Int32 × Int32 × (Nat → Int32))) => lt_ (j448 0) (fun (j447 : Option (Int32 × Int32 × Int32 × (Nat → Int32))) => if ¬ u19611 = (75 : Int32) then j447 else lt_ (v19608 + 1) (fun v19889 => bd_ (f_Model_get t_disk v19889) (fun u19890 => if ¬ u19890 = (82 : Int32) then j447 else lt_ (v19608 + 2) (fun v19891 => bd_ (f_Model_get t_disk v19891) (fun u19892 => if ¬ u19892 = (78 : Int32) then j447 else lt_ (v19608 + 3) (fun v19893 => bd_ (f_Model_get t_disk v19893) (fun u19894 => if ¬ u19894 = (76 : Int32) then j447 else j448 1))))))))))))))))) else some (8, t_kernelAt, t_kernelSize, t_memory)) else lt_ (v18094 + 1) (fun v19895 => bd_ (f_Model_in x18857 2 v19895) (fun u19896 => if ¬ u19896 = 0 then lt_ (t_found + 1) (fun v19897 => bd_ (f_Model_entryAt v19897 x18857 t_disk) (fun u19898 => lt_ (x18856.toInt64) (fun v19899 => lt_ (v18108 - 1) (fun v19900 => lt_ (lg_cmp v19899 v19900) (fun v19901 => lt_ (lt_ (x18856 + 1) (fun v19902 => k277 v19902 u19898)) (fun (j338 : Option (Int32 × Int32 × Int32 × (Nat → Int32))) => if ¬ v19901 = 0 then j338 else if (4088 : Int32) ≤ u19898 then j338 else some (7, t_kernelAt, t_kernelSize, t_memory))))))) else some (7, t_kernelAt, t_kernelSize, t_memory)))))
def f_Model_loaded (N : Nat) (t_found : Int32) (t_disk : Nat → Int32) (t_kernelAt : Int32) (t_kernelSize : Int32) (t_memory : Nat → Int32) (t_sectors : Int32) : Option (Int32 × Int32 × Int32 × (Nat → Int32)) :=
  lt_ ((512 : Int32) * t_found) (fun v18067 => lt_ (v18067 + 510) (fun v18068 => bd_ (f_Model_get t_disk v18068) (fun u18069 => lt_ (fun (x18085 : Int32) => lt_ (v18067 + 19) (fun v18086 => bd_ (f_Model_lowAt N 2 v18086 t_disk) (fun u18087 => lt_ (u18087.toInt32) (fun v18088 => lt_ (v18067 + 22) (fun v18089 => bd_ (f_Model_lowAt N 2 v18089 t_disk) (fun u18090 => lt_ (u18090.toInt32) (fun v18091 => lt_ (v18088 - 3) (fun v18092 => lt_ ((2 : Int32) * v18091) (fun v18093 => lt_ (v18092 - v18093) (fun v18094 => if x18085 = 0 then some (5, t_kernelAt, t_kernelSize, t_memory) else if v18091 = 0 then some (5, t_kernelAt, t_kernelSize, t_memory) else if v18094 < (1 : Int32) then some (5, t_kernelAt, t_kernelSize, t_memory) else lt_ (v18094 + 2) (fun v18095 => lt_ (v18095 * 3) (fun v18096 => lt_ (v18096 + 1) (fun v18097 => lt_ (v18097 / 2) (fun v18098 => lt_ ((512 : Int32) * v18091) (fun v18099 => if v18099 < v18098 then some (5, t_kernelAt, t_kernelSize, t_memory) else lt_ (t_found + v18088) (fun v18100 => if v18100 ≤ t_sectors then lt_ (t_found + 1) (fun v18101 => lt_ ((2 : Int32) * v18091) (fun v18102 => lt_ (v18101 + v18102) (fun v18103 => bd_ (f_Model_kernelEntry N v18103 t_disk) (fun u18104 => if 0 ≤ u18104 then lt_ (u18104 + 28) (fun v18105 => bd_ (f_Model_lowAt N 4 v18105 t_disk) (fun u18106 => lt_ (u18106 + 511) (fun v18107 => lt_ (v18107 / 512) (fun v18108 => lt_ (v18094.toInt64) (fun v18109 => lt_ (lg_cmp v18108 v18109) (fun v18110 => if v18110 ≤ 0 then lt_ (u18104 + 26) (fun v18111 => bd_ (f_Model_lowAt N 2 v18111 t_disk) (fun u18112 => lt_ (u18112.toInt32) (fun v18113 => lp_ (fun _ _ => none) (f_Model_loaded_L277 N v18108 u18106 t_found v18091 v18113 t_disk t_kernelAt t_kernelSize t_memory v18094) N 0 v18113))) else some (7, t_kernelAt, t_kernelSize, t_memory))))))) else some (6, t_kernelAt, t_kernelSize, t_memory))))) else some (5, t_kernelAt, t_kernelSize, t_memory))))))))))))))))) (fun (j113 : Int32 → Option (Int32 × Int32 × Int32 × (Nat → Int32))) => lt_ (j113 0) (fun (j112 : Option (Int32 × Int32 × Int32 × (Nat → Int32))) => if ¬ u18069 = (85 : Int32) then j112 else lt_ (v18067 + 511) (fun v22174 => bd_ (f_Model_get t_disk v22174) (fun u22175 => if ¬ u22175 = (170 : Int32) then j112 else lt_ (v18067 + 11) (fun v22176 => bd_ (f_Model_lowAt N 2 v22176 t_disk) (fun u22177 => lt_ (lg_cmp u22177 512) (fun v22178 => if ¬ v22178 = 0 then j112 else lt_ (v18067 + 13) (fun v22179 => bd_ (f_Model_get t_disk v22179) (fun u22180 => if ¬ u22180 = (1 : Int32) then j112 else lt_ (v18067 + 14) (fun v22181 => bd_ (f_Model_lowAt N 2 v22181 t_disk) (fun u22182 => lt_ (lg_cmp u22182 1) (fun v22183 => if ¬ v22183 = 0 then j112 else lt_ (v18067 + 16) (fun v22184 => bd_ (f_Model_get t_disk v22184) (fun u22185 => if ¬ u22185 = (2 : Int32) then j112 else lt_ (v18067 + 17) (fun v22186 => bd_ (f_Model_lowAt N 2 v22186 t_disk) (fun u22187 => lt_ (lg_cmp u22187 32) (fun v22188 => if ¬ v22188 = 0 then j112 else j113 1))))))))))))))))))))
def rm_Model_loaded : Room := { frames := 2, cells := 0, slots := 0, locals := 46 }
set_option maxHeartbeats 4000000 in
set_option maxRecDepth 100000 in
theorem c_Model_loaded (l : Launch) (g : GT) (E : (Nat → Prop) → State → Prop) (hEe : Ee E) (t_o : Nat) (t_disk_a : Nat) (t_memory_a : Nat) (t_sort_a : Nat) (t_first_a : Nat) (t_many_a : Nat) (t_name_a : Nat) (t_size_a : Nat) (t_seed_a : Nat) (t_scattered_a : Nat) (t_head_a : Nat) (t_follows_a : Nat) (t_thrown : Int32) (t_sectors : Int32) (t_partitions : Int32) (t_files : Int32) (t_address : Int32) (t_start : Int32) (t_fat : Int32) (t_clusters : Int32) (t_header : Int32) (t_found : Int32) (t_kernelAt : Int32) (t_kernelSize : Int32) (t_any : Int32) (t_disk : Nat → Int32) (t_memory : Nat → Int32) (N : Nat) (z : Int32 × Int32 × Int32 × (Nat → Int32)) (hf : f_Model_loaded N t_found t_disk t_kernelAt t_kernelSize t_memory t_sectors = some z) : Cg l g E y_Model_loaded ws_Model_loaded rm_Model_loaded [.ref t_o] (wd_Model_loaded g t_o t_disk_a t_memory_a t_sort_a t_first_a t_many_a t_name_a t_size_a t_seed_a t_scattered_a t_head_a t_follows_a t_thrown t_sectors t_partitions t_files t_address t_start t_fat t_clusters t_header t_found t_kernelAt t_kernelSize t_any t_disk t_memory) (some (.int z.1)) (wd_Model_loaded g t_o t_disk_a t_memory_a t_sort_a t_first_a t_many_a t_name_a t_size_a t_seed_a t_scattered_a t_head_a t_follows_a t_thrown t_sectors t_partitions t_files t_address t_start t_fat t_clusters t_header t_found z.2.1 z.2.2.1 t_any t_disk z.2.2.2) := by
  refine Ct.ofI hEe good_W (by decide) rfl (Nat.le_of_ble_eq_true rfl) ?_
  intro p e s m args below meth c A ls Q hC hw hl hret
  have hC : CX p m c b_Model_loaded 18 s args Wall R_Model g.1 classes (tK g) E A := hC
  have hl : lv_has ls 18 [(0, .ref t_o)] := hl
  unfold f_Model_loaded at hf
  refine n_sipush hC 512 d_Model_loaded_0 (by decide) ?_
  refine n_aload_n hC hl 0 d_Model_loaded_3 rfl rfl ?_
  refine n_get hC hw fg_Model_52 0 rfl rfl d_Model_loaded_4 ?_
  refine n_imul hC hf d_Model_loaded_7 (fun v18067 hf => ?_)
  refine n_istore_n hC [(1, .int v18067), (0, .ref t_o)] hl d_Model_loaded_8 rfl (by decide) rfl (fun ls hl => ?_)
  refine n_aload_n hC hl 1 d_Model_loaded_9 rfl rfl ?_
  refine n_iload_n hC hl 0 d_Model_loaded_10 rfl rfl ?_
  refine n_sipush hC 510 d_Model_loaded_11 (by decide) ?_
  refine n_iadd hC hf d_Model_loaded_14 (fun v18068 hf => ?_)
  obtain ⟨u18069, hu18069, hf⟩ := bd_s hf
  refine n_callVi hC hw fc_Model_64 (c_Model_get l g E hEe t_o t_disk_a t_sort_a t_first_a t_many_a t_name_a t_size_a t_seed_a t_scattered_a t_head_a t_follows_a t_memory_a t_thrown t_sectors t_partitions t_files t_address t_start t_fat t_clusters t_header t_found t_kernelAt t_kernelSize t_any t_disk v18068 u18069 hu18069) [0, 1] (wd_Model_loaded g t_o t_disk_a t_memory_a t_sort_a t_first_a t_many_a t_name_a t_size_a t_seed_a t_scattered_a t_head_a t_follows_a t_thrown t_sectors t_partitions t_files t_address t_start t_fat t_clusters t_header t_found t_kernelAt t_kernelSize t_any t_disk t_memory) 0 rfl ⟨rfl, rfl⟩ ⟨Nat.le_of_ble_eq_true rfl, Nat.le_of_ble_eq_true rfl⟩ rfl (At_.cons rfl (At_.cons rfl At_.nil)) (At_.cons rfl (At_.cons rfl At_.nil)) Sm_.refl rfl hl.1 (Nat.le_of_ble_eq_true rfl) ⟨Nat.zero_le _, Nat.zero_le _⟩ d_Model_loaded_15 (fun H locs hw => ?_) rfl
  refine n_bipush hC 85 d_Model_loaded_18 (by decide) ?_
  refine jn1 (fun (x18085 : Int32) => ∀ (H : Heap) (locs : List Loc) (ls : Array Slot), WS g.1 classes A s.heap H locs (wd_Model_loaded g t_o t_disk_a t_memory_a t_sort_a t_first_a t_many_a t_name_a t_size_a t_seed_a t_scattered_a t_head_a t_follows_a t_thrown t_sectors t_partitions t_files t_address t_start t_fat t_clusters t_header t_found t_kernelAt t_kernelSize t_any t_disk t_memory) → lv_has ls 18 [(1, .int v18067), (0, .ref t_o)] → W p l e rm_Model_loaded s m args below meth c H locs 0 0 Q (F0 m 113 ls [.int x18085])) hf (fun x18085 hf H locs ls hw hl => ?_) (fun j113 hj113 hf => ?_)
  · refine n_istore_n hC [(2, .int x18085), (1, .int v18067), (0, .ref t_o)] hl d_Model_loaded_113 rfl (by decide) rfl (fun ls hl => ?_)
    refine n_aload_n hC hl 2 d_Model_loaded_114 rfl rfl ?_
    refine n_iload_n hC hl 1 d_Model_loaded_115 rfl rfl ?_
    refine n_bipush hC 19 d_Model_loaded_116 (by decide) ?_
    refine n_iadd hC hf d_Model_loaded_118 (fun v18086 hf => ?_)
    refine n_iconst hC 2 d_Model_loaded_119 (by decide) ?_
    obtain ⟨u18087, hu18087, hf⟩ := bd_s hf
    refine n_callVl hC hw fc_Model_162 (c_Model_lowAt l g E hEe t_o t_disk_a t_sort_a t_first_a t_many_a t_name_a t_size_a t_seed_a t_scattered_a t_head_a t_follows_a t_memory_a t_thrown t_sectors t_partitions t_files t_address t_start t_fat t_clusters t_header t_found t_kernelAt t_kernelSize t_any t_disk v18086 2 N u18087 hu18087) [0, 1] (wd_Model_loaded g t_o t_disk_a t_memory_a t_sort_a t_first_a t_many_a t_name_a t_size_a t_seed_a t_scattered_a t_head_a t_follows_a t_thrown t_sectors t_partitions t_files t_address t_start t_fat t_clusters t_header t_found t_kernelAt t_kernelSize t_any t_disk t_memory) 0 rfl ⟨rfl, rfl⟩ ⟨Nat.le_of_ble_eq_true rfl, Nat.le_of_ble_eq_true rfl⟩ rfl (At_.cons rfl (At_.cons rfl At_.nil)) (At_.cons rfl (At_.cons rfl At_.nil)) Sm_.refl rfl hl.1 (Nat.le_of_ble_eq_true rfl) ⟨Nat.zero_le _, Nat.zero_le _⟩ d_Model_loaded_120 (fun H locs hw => ?_) rfl
    refine n_l2i hC hf d_Model_loaded_123 (fun v18088 hf => ?_)
    refine n_istore_n hC [(3, .int v18088), (2, .int x18085), (1, .int v18067), (0, .ref t_o)] hl d_Model_loaded_124 rfl (by decide) rfl (fun ls hl => ?_)
    refine n_aload_n hC hl 3 d_Model_loaded_125 rfl rfl ?_
    refine n_iload_n hC hl 2 d_Model_loaded_126 rfl rfl ?_
    refine n_bipush hC 22 d_Model_loaded_127 (by decide) ?_
    refine n_iadd hC hf d_Model_loaded_129 (fun v18089 hf => ?_)
    refine n_iconst hC 2 d_Model_loaded_130 (by decide) ?_
    obtain ⟨u18090, hu18090, hf⟩ := bd_s hf
    refine n_callVl hC hw fc_Model_162 (c_Model_lowAt l g E hEe t_o t_disk_a t_sort_a t_first_a t_many_a t_name_a t_size_a t_seed_a t_scattered_a t_head_a t_follows_a t_memory_a t_thrown t_sectors t_partitions t_files t_address t_start t_fat t_clusters t_header t_found t_kernelAt t_kernelSize t_any t_disk v18089 2 N u18090 hu18090) [0, 1] (wd_Model_loaded g t_o t_disk_a t_memory_a t_sort_a t_first_a t_many_a t_name_a t_size_a t_seed_a t_scattered_a t_head_a t_follows_a t_thrown t_sectors t_partitions t_files t_address t_start t_fat t_clusters t_header t_found t_kernelAt t_kernelSize t_any t_disk t_memory) 0 rfl ⟨rfl, rfl⟩ ⟨Nat.le_of_ble_eq_true rfl, Nat.le_of_ble_eq_true rfl⟩ rfl (At_.cons rfl (At_.cons rfl At_.nil)) (At_.cons rfl (At_.cons rfl At_.nil)) Sm_.refl rfl hl.1 (Nat.le_of_ble_eq_true rfl) ⟨Nat.zero_le _, Nat.zero_le _⟩ d_Model_loaded_131 (fun H locs hw => ?_) rfl
    refine n_l2i hC hf d_Model_loaded_134 (fun v18091 hf => ?_)
    refine n_istore hC [(4, .int v18091), (3, .int v18088), (2, .int x18085), (1, .int v18067), (0, .ref t_o)] hl d_Model_loaded_135 (by decide) rfl (fun ls hl => ?_)
    refine n_iload_n hC hl 1 d_Model_loaded_137 rfl rfl ?_
    refine n_iconst hC 3 d_Model_loaded_138 (by decide) ?_
    refine n_isub hC hf d_Model_loaded_139 (fun v18092 hf => ?_)
    refine n_iconst hC 2 d_Model_loaded_140 (by decide) ?_
    refine n_iload hC hl 0 d_Model_loaded_141 rfl ?_
    refine n_imul hC hf d_Model_loaded_143 (fun v18093 hf => ?_)
    refine n_isub hC hf d_Model_loaded_144 (fun v18094 hf => ?_)
    refine n_istore hC [(5, .int v18094), (4, .int v18091), (3, .int v18088), (2, .int x18085), (1, .int v18067), (0, .ref t_o)] hl d_Model_loaded_145 (by decide) rfl (fun ls hl => ?_)
    refine n_iload_n hC hl 3 d_Model_loaded_147 rfl rfl ?_
    refine n_if_eq hC hf 194 d_Model_loaded_148 (by decide) (fun hf => ?_) (fun hf => ?_)
    · refine n_iconst hC 5 d_Model_loaded_194 (by decide) ?_
      cases hf
      exact hret _ _ _ _ hw (show narrow .int (Value.int 5) = Value.int 5 from rfl) d_Model_loaded_195
    · refine n_iload hC hl 1 d_Model_loaded_151 rfl ?_
      refine n_if_eq hC hf 194 d_Model_loaded_153 (by decide) (fun hf => ?_) (fun hf => ?_)
      · refine n_iconst hC 5 d_Model_loaded_194 (by decide) ?_
        cases hf
        exact hret _ _ _ _ hw (show narrow .int (Value.int 5) = Value.int 5 from rfl) d_Model_loaded_195
      · refine n_iload hC hl 0 d_Model_loaded_156 rfl ?_
        refine n_iconst hC 1 d_Model_loaded_158 (by decide) ?_
        refine n_icmp_lt hC hf 194 d_Model_loaded_159 (by decide) (fun hf => ?_) (fun hf => ?_)
        · refine n_iconst hC 5 d_Model_loaded_194 (by decide) ?_
          cases hf
          exact hret _ _ _ _ hw (show narrow .int (Value.int 5) = Value.int 5 from rfl) d_Model_loaded_195
        · refine n_iload hC hl 0 d_Model_loaded_162 rfl ?_
          refine n_iconst hC 2 d_Model_loaded_164 (by decide) ?_
          refine n_iadd hC hf d_Model_loaded_165 (fun v18095 hf => ?_)
          refine n_iconst hC 3 d_Model_loaded_166 (by decide) ?_
          refine n_imul hC hf d_Model_loaded_167 (fun v18096 hf => ?_)
          refine n_iconst hC 1 d_Model_loaded_168 (by decide) ?_
          refine n_iadd hC hf d_Model_loaded_169 (fun v18097 hf => ?_)
          refine n_iconst hC 2 d_Model_loaded_170 (by decide) ?_
          refine n_idiv hC hf d_Model_loaded_171 (by decide) (fun v18098 hf => ?_)
          refine n_sipush hC 512 d_Model_loaded_172 (by decide) ?_
          refine n_iload hC hl 1 d_Model_loaded_175 rfl ?_
          refine n_imul hC hf d_Model_loaded_177 (fun v18099 hf => ?_)
          refine n_icmp_gt hC hf 194 d_Model_loaded_178 (by decide) (fun hf => ?_) (fun hf => ?_)
          · refine n_iconst hC 5 d_Model_loaded_194 (by decide) ?_
            cases hf
            exact hret _ _ _ _ hw (show narrow .int (Value.int 5) = Value.int 5 from rfl) d_Model_loaded_195
          · refine n_aload_n hC hl 5 d_Model_loaded_181 rfl rfl ?_
            refine n_get hC hw fg_Model_52 0 rfl rfl d_Model_loaded_182 ?_
            refine n_iload_n hC hl 2 d_Model_loaded_185 rfl rfl ?_
            refine n_iadd hC hf d_Model_loaded_186 (fun v18100 hf => ?_)
            refine n_aload_n hC hl 5 d_Model_loaded_187 rfl rfl ?_
            refine n_get hC hw fg_Model_48 0 rfl rfl d_Model_loaded_188 ?_
            refine n_icmp_le hC hf 196 d_Model_loaded_191 (by decide) (fun hf => ?_) (fun hf => ?_)
            · refine n_aload_n hC hl 5 d_Model_loaded_196 rfl rfl ?_
              refine n_aload_n hC hl 5 d_Model_loaded_197 rfl rfl ?_
              refine n_get hC hw fg_Model_52 0 rfl rfl d_Model_loaded_198 ?_
              refine n_iconst hC 1 d_Model_loaded_201 (by decide) ?_
              refine n_iadd hC hf d_Model_loaded_202 (fun v18101 hf => ?_)
              refine n_iconst hC 2 d_Model_loaded_203 (by decide) ?_
              refine n_iload hC hl 1 d_Model_loaded_204 rfl ?_
              refine n_imul hC hf d_Model_loaded_206 (fun v18102 hf => ?_)
              refine n_iadd hC hf d_Model_loaded_207 (fun v18103 hf => ?_)
              obtain ⟨u18104, hu18104, hf⟩ := bd_s hf
              refine n_callVi hC hw fc_Model_237 (c_Model_kernelEntry l g E hEe t_o t_disk_a t_sort_a t_first_a t_many_a t_name_a t_size_a t_seed_a t_scattered_a t_head_a t_follows_a t_memory_a t_thrown t_sectors t_partitions t_files t_address t_start t_fat t_clusters t_header t_found t_kernelAt t_kernelSize t_any t_disk v18103 N u18104 hu18104) [0, 1] (wd_Model_loaded g t_o t_disk_a t_memory_a t_sort_a t_first_a t_many_a t_name_a t_size_a t_seed_a t_scattered_a t_head_a t_follows_a t_thrown t_sectors t_partitions t_files t_address t_start t_fat t_clusters t_header t_found t_kernelAt t_kernelSize t_any t_disk t_memory) 0 rfl ⟨rfl, rfl⟩ ⟨Nat.le_of_ble_eq_true rfl, Nat.le_of_ble_eq_true rfl⟩ rfl (At_.cons rfl (At_.cons rfl At_.nil)) (At_.cons rfl (At_.cons rfl At_.nil)) Sm_.refl rfl hl.1 (Nat.le_of_ble_eq_true rfl) ⟨Nat.zero_le _, Nat.zero_le _⟩ d_Model_loaded_208 (fun H locs hw => ?_) rfl
              refine n_istore hC [(6, .int u18104), (5, .int v18094), (4, .int v18091), (3, .int v18088), (2, .int x18085), (1, .int v18067), (0, .ref t_o)] hl d_Model_loaded_211 (by decide) rfl (fun ls hl => ?_)
              refine n_iload hC hl 0 d_Model_loaded_213 rfl ?_
              refine n_if_ge hC hf 221 d_Model_loaded_215 (by decide) (fun hf => ?_) (fun hf => ?_)
              · refine n_aload_n hC hl 6 d_Model_loaded_221 rfl rfl ?_
                refine n_iload hC hl 0 d_Model_loaded_222 rfl ?_
                refine n_bipush hC 28 d_Model_loaded_224 (by decide) ?_
                refine n_iadd hC hf d_Model_loaded_226 (fun v18105 hf => ?_)
                refine n_iconst hC 4 d_Model_loaded_227 (by decide) ?_
                obtain ⟨u18106, hu18106, hf⟩ := bd_s hf
                refine n_callVl hC hw fc_Model_162 (c_Model_lowAt l g E hEe t_o t_disk_a t_sort_a t_first_a t_many_a t_name_a t_size_a t_seed_a t_scattered_a t_head_a t_follows_a t_memory_a t_thrown t_sectors t_partitions t_files t_address t_start t_fat t_clusters t_header t_found t_kernelAt t_kernelSize t_any t_disk v18105 4 N u18106 hu18106) [0, 1] (wd_Model_loaded g t_o t_disk_a t_memory_a t_sort_a t_first_a t_many_a t_name_a t_size_a t_seed_a t_scattered_a t_head_a t_follows_a t_thrown t_sectors t_partitions t_files t_address t_start t_fat t_clusters t_header t_found t_kernelAt t_kernelSize t_any t_disk t_memory) 0 rfl ⟨rfl, rfl⟩ ⟨Nat.le_of_ble_eq_true rfl, Nat.le_of_ble_eq_true rfl⟩ rfl (At_.cons rfl (At_.cons rfl At_.nil)) (At_.cons rfl (At_.cons rfl At_.nil)) Sm_.refl rfl hl.1 (Nat.le_of_ble_eq_true rfl) ⟨Nat.zero_le _, Nat.zero_le _⟩ d_Model_loaded_228 (fun H locs hw => ?_) rfl
                refine n_lstore hC [(7, .long u18106), (6, .int u18104), (5, .int v18094), (4, .int v18091), (3, .int v18088), (2, .int x18085), (1, .int v18067), (0, .ref t_o)] hl d_Model_loaded_231 (by decide) rfl (fun ls hl => ?_)
                refine n_lload hC hl 0 d_Model_loaded_233 rfl ?_
                refine n_ldc2 hC 511 kc_Model_240 d_Model_loaded_235 ?_
                refine n_ladd hC hf d_Model_loaded_238 (fun v18107 hf => ?_)
                refine n_ldc2 hC 512 kc_Model_77 d_Model_loaded_239 ?_
                refine n_ldiv hC hf d_Model_loaded_242 (by decide) (fun v18108 hf => ?_)
                refine n_lstore hC [(9, .long v18108), (7, .long u18106), (6, .int u18104), (5, .int v18094), (4, .int v18091), (3, .int v18088), (2, .int x18085), (1, .int v18067), (0, .ref t_o)] hl d_Model_loaded_243 (by decide) rfl (fun ls hl => ?_)
                refine n_lload hC hl 0 d_Model_loaded_245 rfl ?_
                refine n_iload hC hl 3 d_Model_loaded_247 rfl ?_
                refine n_i2l hC hf d_Model_loaded_249 (fun v18109 hf => ?_)
                refine n_lcmp hC hf d_Model_loaded_250 (fun v18110 hf => ?_)
                refine n_if_le hC hf 257 d_Model_loaded_251 (by decide) (fun hf => ?_) (fun hf => ?_)
                · refine n_aload_n hC hl 8 d_Model_loaded_257 rfl rfl ?_
                  refine n_iload hC hl 2 d_Model_loaded_258 rfl ?_
                  refine n_bipush hC 26 d_Model_loaded_260 (by decide) ?_
                  refine n_iadd hC hf d_Model_loaded_262 (fun v18111 hf => ?_)
                  refine n_iconst hC 2 d_Model_loaded_263 (by decide) ?_
                  obtain ⟨u18112, hu18112, hf⟩ := bd_s hf
                  refine n_callVl hC hw fc_Model_162 (c_Model_lowAt l g E hEe t_o t_disk_a t_sort_a t_first_a t_many_a t_name_a t_size_a t_seed_a t_scattered_a t_head_a t_follows_a t_memory_a t_thrown t_sectors t_partitions t_files t_address t_start t_fat t_clusters t_header t_found t_kernelAt t_kernelSize t_any t_disk v18111 2 N u18112 hu18112) [0, 1] (wd_Model_loaded g t_o t_disk_a t_memory_a t_sort_a t_first_a t_many_a t_name_a t_size_a t_seed_a t_scattered_a t_head_a t_follows_a t_thrown t_sectors t_partitions t_files t_address t_start t_fat t_clusters t_header t_found t_kernelAt t_kernelSize t_any t_disk t_memory) 0 rfl ⟨rfl, rfl⟩ ⟨Nat.le_of_ble_eq_true rfl, Nat.le_of_ble_eq_true rfl⟩ rfl (At_.cons rfl (At_.cons rfl At_.nil)) (At_.cons rfl (At_.cons rfl At_.nil)) Sm_.refl rfl hl.1 (Nat.le_of_ble_eq_true rfl) ⟨Nat.zero_le _, Nat.zero_le _⟩ d_Model_loaded_264 (fun H locs hw => ?_) rfl
                  refine n_l2i hC hf d_Model_loaded_267 (fun v18113 hf => ?_)
                  refine n_istore hC [(11, .int v18113), (9, .long v18108), (7, .long u18106), (6, .int u18104), (5, .int v18094), (4, .int v18091), (3, .int v18088), (2, .int x18085), (1, .int v18067), (0, .ref t_o)] hl d_Model_loaded_268 (by decide) rfl (fun ls hl => ?_)
                  refine n_iload hC hl 0 d_Model_loaded_270 rfl ?_
                  refine n_istore hC [(12, .int v18113), (11, .int v18113), (9, .long v18108), (7, .long u18106), (6, .int u18104), (5, .int v18094), (4, .int v18091), (3, .int v18088), (2, .int x18085), (1, .int v18067), (0, .ref t_o)] hl d_Model_loaded_272 (by decide) rfl (fun ls hl => ?_)
                  refine n_iconst hC 0 d_Model_loaded_274 (by decide) ?_
                  refine n_istore hC [(13, .int 0), (12, .int v18113), (11, .int v18113), (9, .long v18108), (7, .long u18106), (6, .int u18104), (5, .int v18094), (4, .int v18091), (3, .int v18088), (2, .int x18085), (1, .int v18067), (0, .ref t_o)] hl d_Model_loaded_275 (by decide) rfl (fun ls hl => ?_)
                  have hL277 := lw2 (B := f_Model_loaded_L277 N v18108 u18106 t_found v18091 v18113 t_disk t_kernelAt t_kernelSize t_memory v18094) (z := z) (fun (x18856 : Int32) (x18857 : Int32) => ∀ (H : Heap) (locs : List Loc) (ls : Array Slot), WS g.1 classes A s.heap H locs (wd_Model_loaded g t_o t_disk_a t_memory_a t_sort_a t_first_a t_many_a t_name_a t_size_a t_seed_a t_scattered_a t_head_a t_follows_a t_thrown t_sectors t_partitions t_files t_address t_start t_fat t_clusters t_header t_found t_kernelAt t_kernelSize t_any t_disk t_memory) → lv_has ls 18 [(13, .int x18856), (12, .int x18857), (11, .int v18113), (9, .long v18108), (7, .long u18106), (5, .int v18094), (4, .int v18091), (0, .ref t_o)] → W p l e rm_Model_loaded s m args below meth c H locs 0 0 Q (F0 m 277 ls [])) (by
                    intro k277 hk277 x18856 x18857 hf H locs ls hw hl
                    unfold f_Model_loaded_L277 at hf
                    refine n_iload hC hl 0 d_Model_loaded_277 rfl ?_
                    refine n_i2l hC hf d_Model_loaded_279 (fun v19600 hf => ?_)
                    refine n_lload hC hl 3 d_Model_loaded_280 rfl ?_
                    refine n_lcmp hC hf d_Model_loaded_282 (fun v19601 hf => ?_)
                    refine n_if_ge hC hf 348 d_Model_loaded_283 (by decide) (fun hf => ?_) (fun hf => ?_)
                    · refine n_lload hC hl 4 d_Model_loaded_348 rfl ?_
                      refine n_ldc2 hC 8 kc_Model_230 d_Model_loaded_350 ?_
                      refine n_lcmp hC hf d_Model_loaded_353 (fun v19602 hf => ?_)
                      refine n_if_ge hC hf 360 d_Model_loaded_354 (by decide) (fun hf => ?_) (fun hf => ?_)
                      · refine n_sipush hC 512 d_Model_loaded_360 (by decide) ?_
                        refine n_aload_n hC hl 7 d_Model_loaded_363 rfl rfl ?_
                        refine n_get hC hw fg_Model_52 0 rfl rfl d_Model_loaded_364 ?_
                        refine n_iconst hC 3 d_Model_loaded_367 (by decide) ?_
                        refine n_iadd hC hf d_Model_loaded_368 (fun v19603 hf => ?_)
                        refine n_iconst hC 2 d_Model_loaded_369 (by decide) ?_
                        refine n_iload hC hl 6 d_Model_loaded_370 rfl ?_
                        refine n_imul hC hf d_Model_loaded_372 (fun v19604 hf => ?_)
                        refine n_iadd hC hf d_Model_loaded_373 (fun v19605 hf => ?_)
                        refine n_iload hC hl 2 d_Model_loaded_374 rfl ?_
                        refine n_iadd hC hf d_Model_loaded_376 (fun v19606 hf => ?_)
                        refine n_iconst hC 2 d_Model_loaded_377 (by decide) ?_
                        refine n_isub hC hf d_Model_loaded_378 (fun v19607 hf => ?_)
                        refine n_imul hC hf d_Model_loaded_379 (fun v19608 hf => ?_)
                        refine n_istore hC [(13, .int v19608), (12, .int x18857), (11, .int v18113), (9, .long v18108), (7, .long u18106), (5, .int v18094), (4, .int v18091), (0, .ref t_o)] hl d_Model_loaded_380 (by decide) rfl (fun ls hl => ?_)
                        refine n_aload_n hC hl 7 d_Model_loaded_382 rfl rfl ?_
                        refine n_iload hC hl 0 d_Model_loaded_383 rfl ?_
                        refine n_iconst hC 4 d_Model_loaded_385 (by decide) ?_
                        refine n_iadd hC hf d_Model_loaded_386 (fun v19609 hf => ?_)
                        refine n_iconst hC 4 d_Model_loaded_387 (by decide) ?_
                        obtain ⟨u19610, hu19610, hf⟩ := bd_s hf
                        refine n_callVl hC hw fc_Model_162 (c_Model_lowAt l g E hEe t_o t_disk_a t_sort_a t_first_a t_many_a t_name_a t_size_a t_seed_a t_scattered_a t_head_a t_follows_a t_memory_a t_thrown t_sectors t_partitions t_files t_address t_start t_fat t_clusters t_header t_found t_kernelAt t_kernelSize t_any t_disk v19609 4 N u19610 hu19610) [0, 1] (wd_Model_loaded g t_o t_disk_a t_memory_a t_sort_a t_first_a t_many_a t_name_a t_size_a t_seed_a t_scattered_a t_head_a t_follows_a t_thrown t_sectors t_partitions t_files t_address t_start t_fat t_clusters t_header t_found t_kernelAt t_kernelSize t_any t_disk t_memory) 0 rfl ⟨rfl, rfl⟩ ⟨Nat.le_of_ble_eq_true rfl, Nat.le_of_ble_eq_true rfl⟩ rfl (At_.cons rfl (At_.cons rfl At_.nil)) (At_.cons rfl (At_.cons rfl At_.nil)) Sm_.refl rfl hl.1 (Nat.le_of_ble_eq_true rfl) ⟨Nat.zero_le _, Nat.zero_le _⟩ d_Model_loaded_388 (fun H locs hw => ?_) rfl
                        refine n_lstore hC [(14, .long u19610), (13, .int v19608), (12, .int x18857), (11, .int v18113), (9, .long v18108), (7, .long u18106), (5, .int v18094), (4, .int v18091), (0, .ref t_o)] hl d_Model_loaded_391 (by decide) rfl (fun ls hl => ?_)
                        refine n_aload_n hC hl 8 d_Model_loaded_393 rfl rfl ?_
                        refine n_iload hC hl 1 d_Model_loaded_394 rfl ?_
                        obtain ⟨u19611, hu19611, hf⟩ := bd_s hf
                        refine n_callVi hC hw fc_Model_64 (c_Model_get l g E hEe t_o t_disk_a t_sort_a t_first_a t_many_a t_name_a t_size_a t_seed_a t_scattered_a t_head_a t_follows_a t_memory_a t_thrown t_sectors t_partitions t_files t_address t_start t_fat t_clusters t_header t_found t_kernelAt t_kernelSize t_any t_disk v19608 u19611 hu19611) [0, 1] (wd_Model_loaded g t_o t_disk_a t_memory_a t_sort_a t_first_a t_many_a t_name_a t_size_a t_seed_a t_scattered_a t_head_a t_follows_a t_thrown t_sectors t_partitions t_files t_address t_start t_fat t_clusters t_header t_found t_kernelAt t_kernelSize t_any t_disk t_memory) 0 rfl ⟨rfl, rfl⟩ ⟨Nat.le_of_ble_eq_true rfl, Nat.le_of_ble_eq_true rfl⟩ rfl (At_.cons rfl (At_.cons rfl At_.nil)) (At_.cons rfl (At_.cons rfl At_.nil)) Sm_.refl rfl hl.1 (Nat.le_of_ble_eq_true rfl) ⟨Nat.zero_le _, Nat.zero_le _⟩ d_Model_loaded_396 (fun H locs hw => ?_) rfl
                        refine n_bipush hC 75 d_Model_loaded_399 (by decide) ?_
                        refine jn1 (fun (x19618 : Int32) => ∀ (H : Heap) (locs : List Loc) (ls : Array Slot), WS g.1 classes A s.heap H locs (wd_Model_loaded g t_o t_disk_a t_memory_a t_sort_a t_first_a t_many_a t_name_a t_size_a t_seed_a t_scattered_a t_head_a t_follows_a t_thrown t_sectors t_partitions t_files t_address t_start t_fat t_clusters t_header t_found t_kernelAt t_kernelSize t_any t_disk t_memory) → lv_has ls 18 [(14, .long u19610), (11, .int v18113), (7, .long u18106), (4, .int v18091), (0, .ref t_o)] → W p l e rm_Model_loaded s m args below meth c H locs 0 0 Q (F0 m 448 ls [.int x19618])) hf (fun x19618 hf H locs ls hw hl => ?_) (fun j448 hj448 hf => ?_)
                        · refine n_istore hC [(16, .int x19618), (14, .long u19610), (11, .int v18113), (7, .long u18106), (4, .int v18091), (0, .ref t_o)] hl d_Model_loaded_448 (by decide) rfl (fun ls hl => ?_)
                          refine n_iload hC hl 0 d_Model_loaded_450 rfl ?_
                          refine n_if_eq hC hf 467 d_Model_loaded_452 (by decide) (fun hf => ?_) (fun hf => ?_)
                          · refine n_bipush hC 8 d_Model_loaded_467 (by decide) ?_
                            cases hf
                            exact hret _ _ _ _ hw (show narrow .int (Value.int 8) = Value.int 8 from rfl) d_Model_loaded_469
                          · refine n_lload hC hl 1 d_Model_loaded_455 rfl ?_
                            refine n_lload hC hl 3 d_Model_loaded_457 rfl ?_
                            refine n_ladd hC hf d_Model_loaded_459 (fun v19619 hf => ?_)
                            refine n_ldc2 hC 65536 kc_Model_245 d_Model_loaded_460 ?_
                            refine n_lcmp hC hf d_Model_loaded_463 (fun v19620 hf => ?_)
                            refine n_if_le hC hf 470 d_Model_loaded_464 (by decide) (fun hf => ?_) (fun hf => ?_)
                            · refine n_iload hC hl 2 d_Model_loaded_470 rfl ?_
                              refine n_istore hC [(12, .int v18113), (16, .int x19618), (14, .long u19610), (11, .int v18113), (7, .long u18106), (4, .int v18091), (0, .ref t_o)] hl d_Model_loaded_472 (by decide) rfl (fun ls hl => ?_)
                              refine n_iconst hC 0 d_Model_loaded_474 (by decide) ?_
                              refine n_istore hC [(17, .int 0), (12, .int v18113), (16, .int x19618), (14, .long u19610), (11, .int v18113), (7, .long u18106), (4, .int v18091), (0, .ref t_o)] hl d_Model_loaded_475 (by decide) rfl (fun ls hl => ?_)
                              have hL477 := lw3 (B := f_Model_loaded_L477 u18106 u19610 t_found v18091 t_disk) (z := z) (fun (x19667 : Int32) (x19668 : Int32) (x19669 : Nat → Int32) => ∀ (H : Heap) (locs : List Loc) (ls : Array Slot), WS g.1 classes A s.heap H locs (wd_Model_loaded g t_o t_disk_a t_memory_a t_sort_a t_first_a t_many_a t_name_a t_size_a t_seed_a t_scattered_a t_head_a t_follows_a t_thrown t_sectors t_partitions t_files t_address t_start t_fat t_clusters t_header t_found t_kernelAt t_kernelSize t_any t_disk x19669) → lv_has ls 18 [(17, .int x19667), (12, .int x19668), (14, .long u19610), (7, .long u18106), (4, .int v18091), (0, .ref t_o)] → W p l e rm_Model_loaded s m args below meth c H locs 0 0 Q (F0 m 477 ls [])) (by
                                intro k477 hk477 x19667 x19668 x19669 hf H locs ls hw hl
                                unfold f_Model_loaded_L477 at hf
                                refine n_iload hC hl 0 d_Model_loaded_477 rfl ?_
                                refine n_i2l hC hf d_Model_loaded_479 (fun v19716 hf => ?_)
                                refine n_lload hC hl 3 d_Model_loaded_480 rfl ?_
                                refine n_lcmp hC hf d_Model_loaded_482 (fun v19717 hf => ?_)
                                refine n_if_ge hC hf 563 d_Model_loaded_483 (by decide) (fun hf => ?_) (fun hf => ?_)
                                · refine n_aload_n hC hl 5 d_Model_loaded_563 rfl rfl ?_
                                  refine n_lload hC hl 2 d_Model_loaded_564 rfl ?_
                                  refine n_l2i hC hf d_Model_loaded_566 (fun v19718 hf => ?_)
                                  refine n_put hC hw fp_Model_55 0 (wd_Model_loaded g t_o t_disk_a t_memory_a t_sort_a t_first_a t_many_a t_name_a t_size_a t_seed_a t_scattered_a t_head_a t_follows_a t_thrown t_sectors t_partitions t_files t_address t_start t_fat t_clusters t_header t_found v19718 t_kernelSize t_any t_disk x19669) rfl rfl rfl (Nat.le_of_ble_eq_true rfl) d_Model_loaded_567 rfl (fun H locs hw => ?_)
                                  refine n_aload_n hC hl 5 d_Model_loaded_570 rfl rfl ?_
                                  refine n_lload hC hl 3 d_Model_loaded_571 rfl ?_
                                  refine n_l2i hC hf d_Model_loaded_573 (fun v19719 hf => ?_)
                                  refine n_put hC hw fp_Model_58 0 (wd_Model_loaded g t_o t_disk_a t_memory_a t_sort_a t_first_a t_many_a t_name_a t_size_a t_seed_a t_scattered_a t_head_a t_follows_a t_thrown t_sectors t_partitions t_files t_address t_start t_fat t_clusters t_header t_found v19718 v19719 t_any t_disk x19669) rfl rfl rfl (Nat.le_of_ble_eq_true rfl) d_Model_loaded_574 rfl (fun H locs hw => ?_)
                                  refine n_iconst hC 0 d_Model_loaded_577 (by decide) ?_
                                  cases hf
                                  exact hret _ _ _ _ hw (show narrow .int (Value.int 0) = Value.int 0 from rfl) d_Model_loaded_578
                                · refine n_iload hC hl 0 d_Model_loaded_486 rfl ?_
                                  refine jn1 (fun (x19723 : Int32) => ∀ (H : Heap) (locs : List Loc) (ls : Array Slot), WS g.1 classes A s.heap H locs (wd_Model_loaded g t_o t_disk_a t_memory_a t_sort_a t_first_a t_many_a t_name_a t_size_a t_seed_a t_scattered_a t_head_a t_follows_a t_thrown t_sectors t_partitions t_files t_address t_start t_fat t_clusters t_header t_found t_kernelAt t_kernelSize t_any t_disk x19669) → lv_has ls 18 [(17, .int x19667), (12, .int x19723), (14, .long u19610), (7, .long u18106), (4, .int v18091), (0, .ref t_o)] → W p l e rm_Model_loaded s m args below meth c H locs 0 0 Q (F0 m 514 ls [])) hf (fun x19723 hf H locs ls hw hl => ?_) (fun j514 hj514 hf => ?_)
                                  · refine n_aload_n hC hl 5 d_Model_loaded_514 rfl rfl ?_
                                    refine n_get hC hw fg_Model_45 0 rfl rfl d_Model_loaded_515 ?_
                                    refine n_lload hC hl 2 d_Model_loaded_518 rfl ?_
                                    refine n_l2i hC hf d_Model_loaded_520 (fun v19724 hf => ?_)
                                    refine n_iload hC hl 0 d_Model_loaded_521 rfl ?_
                                    refine n_iadd hC hf d_Model_loaded_523 (fun v19725 hf => ?_)
                                    refine n_aload_n hC hl 5 d_Model_loaded_524 rfl rfl ?_
                                    refine n_get hC hw fg_Model_8 0 rfl rfl d_Model_loaded_525 ?_
                                    refine n_sipush hC 512 d_Model_loaded_528 (by decide) ?_
                                    refine n_aload_n hC hl 5 d_Model_loaded_531 rfl rfl ?_
                                    refine n_get hC hw fg_Model_52 0 rfl rfl d_Model_loaded_532 ?_
                                    refine n_iconst hC 3 d_Model_loaded_535 (by decide) ?_
                                    refine n_iadd hC hf d_Model_loaded_536 (fun v19726 hf => ?_)
                                    refine n_iconst hC 2 d_Model_loaded_537 (by decide) ?_
                                    refine n_iload hC hl 4 d_Model_loaded_538 rfl ?_
                                    refine n_imul hC hf d_Model_loaded_540 (fun v19727 hf => ?_)
                                    refine n_iadd hC hf d_Model_loaded_541 (fun v19728 hf => ?_)
                                    refine n_iload hC hl 1 d_Model_loaded_542 rfl ?_
                                    refine n_iadd hC hf d_Model_loaded_544 (fun v19729 hf => ?_)
                                    refine n_iconst hC 2 d_Model_loaded_545 (by decide) ?_
                                    refine n_isub hC hf d_Model_loaded_546 (fun v19730 hf => ?_)
                                    refine n_imul hC hf d_Model_loaded_547 (fun v19731 hf => ?_)
                                    refine n_iload hC hl 0 d_Model_loaded_548 rfl ?_
                                    refine n_sipush hC 512 d_Model_loaded_550 (by decide) ?_
                                    refine n_irem hC hf d_Model_loaded_553 (by decide) (fun v19732 hf => ?_)
                                    refine n_iadd hC hf d_Model_loaded_554 (fun v19733 hf => ?_)
                                    refine n_bald hC hw hf 1 3 rfl rfl d_Model_loaded_555 (fun v19734 hf => ?_)
                                    refine n_bast hC hw hf 2 3 (fun f19735 => wd_Model_loaded g t_o t_disk_a t_memory_a t_sort_a t_first_a t_many_a t_name_a t_size_a t_seed_a t_scattered_a t_head_a t_follows_a t_thrown t_sectors t_partitions t_files t_address t_start t_fat t_clusters t_header t_found t_kernelAt t_kernelSize t_any t_disk f19735) rfl rfl d_Model_loaded_556 (fun _ => rfl) (fun f19735 H locs hf hw => ?_)
                                    refine n_iinc hC (k := 0) hf (by decide) (fun v19736 => [(17, .int v19736), (12, .int x19723), (14, .long u19610), (7, .long u18106), (4, .int v18091), (0, .ref t_o)]) hl d_Model_loaded_557 rfl (by decide) (fun _ => rfl) (fun v19736 ls hf hl => ?_)
                                    refine n_goto hC 477 d_Model_loaded_560 (by decide) ?_
                                    exact hk477 _ _ _ hf _ _ _ hw (lv_sub hl [0, 1, 2, 3, 4, 5] rfl)
                                  refine n_if_le hC hf 514 d_Model_loaded_488 (by decide) (fun hf => ?_) (fun hf => ?_)
                                  · exact hj514 _ hf _ _ _ hw (lv_sub hl [0, 1, 2, 3, 4, 5] rfl)
                                  · refine n_iload hC hl 0 d_Model_loaded_491 rfl ?_
                                    refine n_sipush hC 512 d_Model_loaded_493 (by decide) ?_
                                    refine n_irem hC hf d_Model_loaded_496 (by decide) (fun v19737 hf => ?_)
                                    refine n_if_ne hC hf 514 d_Model_loaded_497 (by decide) (fun hf => ?_) (fun hf => ?_)
                                    · exact hj514 _ hf _ _ _ hw (lv_sub hl [0, 1, 2, 3, 4, 5] rfl)
                                    · refine n_aload_n hC hl 5 d_Model_loaded_500 rfl rfl ?_
                                      refine n_aload_n hC hl 5 d_Model_loaded_501 rfl rfl ?_
                                      refine n_get hC hw fg_Model_52 0 rfl rfl d_Model_loaded_502 ?_
                                      refine n_iconst hC 1 d_Model_loaded_505 (by decide) ?_
                                      refine n_iadd hC hf d_Model_loaded_506 (fun v19738 hf => ?_)
                                      refine n_iload hC hl 1 d_Model_loaded_507 rfl ?_
                                      obtain ⟨u19739, hu19739, hf⟩ := bd_s hf
                                      refine n_callVi hC hw fc_Model_242 (c_Model_entryAt l g E hEe t_o t_disk_a t_sort_a t_first_a t_many_a t_name_a t_size_a t_seed_a t_scattered_a t_head_a t_follows_a t_memory_a t_thrown t_sectors t_partitions t_files t_address t_start t_fat t_clusters t_header t_found t_kernelAt t_kernelSize t_any t_disk v19738 x19668 u19739 hu19739) [0, 1] (wd_Model_loaded g t_o t_disk_a t_memory_a t_sort_a t_first_a t_many_a t_name_a t_size_a t_seed_a t_scattered_a t_head_a t_follows_a t_thrown t_sectors t_partitions t_files t_address t_start t_fat t_clusters t_header t_found t_kernelAt t_kernelSize t_any t_disk x19669) 0 rfl ⟨rfl, rfl⟩ ⟨Nat.le_of_ble_eq_true rfl, Nat.le_of_ble_eq_true rfl⟩ rfl (At_.cons rfl (At_.cons rfl At_.nil)) (At_.cons rfl (At_.cons rfl At_.nil)) Sm_.refl rfl hl.1 (Nat.le_of_ble_eq_true rfl) ⟨Nat.zero_le _, Nat.zero_le _⟩ d_Model_loaded_509 (fun H locs hw => ?_) rfl
                                      refine n_istore hC [(12, .int u19739), (17, .int x19667), (14, .long u19610), (7, .long u18106), (4, .int v18091), (0, .ref t_o)] hl d_Model_loaded_512 (by decide) rfl (fun ls hl => ?_)
                                      exact hj514 _ hf _ _ _ hw (lv_sub hl [1, 0, 2, 3, 4, 5] rfl)
                                )
                              exact hL477 N _ _ _ hf _ _ _ hw (lv_sub hl [0, 1, 3, 5, 6, 7] rfl)
                            · refine n_bipush hC 8 d_Model_loaded_467 (by decide) ?_
                              cases hf
                              exact hret _ _ _ _ hw (show narrow .int (Value.int 8) = Value.int 8 from rfl) d_Model_loaded_469
                        refine jn0 (∀ (H : Heap) (locs : List Loc) (ls : Array Slot), WS g.1 classes A s.heap H locs (wd_Model_loaded g t_o t_disk_a t_memory_a t_sort_a t_first_a t_many_a t_name_a t_size_a t_seed_a t_scattered_a t_head_a t_follows_a t_thrown t_sectors t_partitions t_files t_address t_start t_fat t_clusters t_header t_found t_kernelAt t_kernelSize t_any t_disk t_memory) → lv_has ls 18 [(14, .long u19610), (11, .int v18113), (7, .long u18106), (4, .int v18091), (0, .ref t_o)] → W p l e rm_Model_loaded s m args below meth c H locs 0 0 Q (F0 m 447 ls [])) hf (fun hf H locs ls hw hl => ?_) (fun j447 hj447 hf => ?_)
                        · refine n_iconst hC 0 d_Model_loaded_447 (by decide) ?_
                          exact hj448 _ hf _ _ _ hw (lv_sub hl [0, 1, 2, 3, 4] rfl)
                        refine n_icmp_ne hC hf 447 d_Model_loaded_401 (by decide) (fun hf => ?_) (fun hf => ?_)
                        · exact hj447 hf _ _ _ hw (lv_sub hl [0, 3, 5, 7, 8] rfl)
                        · refine n_aload_n hC hl 8 d_Model_loaded_404 rfl rfl ?_
                          refine n_iload hC hl 1 d_Model_loaded_405 rfl ?_
                          refine n_iconst hC 1 d_Model_loaded_407 (by decide) ?_
                          refine n_iadd hC hf d_Model_loaded_408 (fun v19889 hf => ?_)
                          obtain ⟨u19890, hu19890, hf⟩ := bd_s hf
                          refine n_callVi hC hw fc_Model_64 (c_Model_get l g E hEe t_o t_disk_a t_sort_a t_first_a t_many_a t_name_a t_size_a t_seed_a t_scattered_a t_head_a t_follows_a t_memory_a t_thrown t_sectors t_partitions t_files t_address t_start t_fat t_clusters t_header t_found t_kernelAt t_kernelSize t_any t_disk v19889 u19890 hu19890) [0, 1] (wd_Model_loaded g t_o t_disk_a t_memory_a t_sort_a t_first_a t_many_a t_name_a t_size_a t_seed_a t_scattered_a t_head_a t_follows_a t_thrown t_sectors t_partitions t_files t_address t_start t_fat t_clusters t_header t_found t_kernelAt t_kernelSize t_any t_disk t_memory) 0 rfl ⟨rfl, rfl⟩ ⟨Nat.le_of_ble_eq_true rfl, Nat.le_of_ble_eq_true rfl⟩ rfl (At_.cons rfl (At_.cons rfl At_.nil)) (At_.cons rfl (At_.cons rfl At_.nil)) Sm_.refl rfl hl.1 (Nat.le_of_ble_eq_true rfl) ⟨Nat.zero_le _, Nat.zero_le _⟩ d_Model_loaded_409 (fun H locs hw => ?_) rfl
                          refine n_bipush hC 82 d_Model_loaded_412 (by decide) ?_
                          refine n_icmp_ne hC hf 447 d_Model_loaded_414 (by decide) (fun hf => ?_) (fun hf => ?_)
                          · exact hj447 hf _ _ _ hw (lv_sub hl [0, 3, 5, 7, 8] rfl)
                          · refine n_aload_n hC hl 8 d_Model_loaded_417 rfl rfl ?_
                            refine n_iload hC hl 1 d_Model_loaded_418 rfl ?_
                            refine n_iconst hC 2 d_Model_loaded_420 (by decide) ?_
                            refine n_iadd hC hf d_Model_loaded_421 (fun v19891 hf => ?_)
                            obtain ⟨u19892, hu19892, hf⟩ := bd_s hf
                            refine n_callVi hC hw fc_Model_64 (c_Model_get l g E hEe t_o t_disk_a t_sort_a t_first_a t_many_a t_name_a t_size_a t_seed_a t_scattered_a t_head_a t_follows_a t_memory_a t_thrown t_sectors t_partitions t_files t_address t_start t_fat t_clusters t_header t_found t_kernelAt t_kernelSize t_any t_disk v19891 u19892 hu19892) [0, 1] (wd_Model_loaded g t_o t_disk_a t_memory_a t_sort_a t_first_a t_many_a t_name_a t_size_a t_seed_a t_scattered_a t_head_a t_follows_a t_thrown t_sectors t_partitions t_files t_address t_start t_fat t_clusters t_header t_found t_kernelAt t_kernelSize t_any t_disk t_memory) 0 rfl ⟨rfl, rfl⟩ ⟨Nat.le_of_ble_eq_true rfl, Nat.le_of_ble_eq_true rfl⟩ rfl (At_.cons rfl (At_.cons rfl At_.nil)) (At_.cons rfl (At_.cons rfl At_.nil)) Sm_.refl rfl hl.1 (Nat.le_of_ble_eq_true rfl) ⟨Nat.zero_le _, Nat.zero_le _⟩ d_Model_loaded_422 (fun H locs hw => ?_) rfl
                            refine n_bipush hC 78 d_Model_loaded_425 (by decide) ?_
                            refine n_icmp_ne hC hf 447 d_Model_loaded_427 (by decide) (fun hf => ?_) (fun hf => ?_)
                            · exact hj447 hf _ _ _ hw (lv_sub hl [0, 3, 5, 7, 8] rfl)
                            · refine n_aload_n hC hl 8 d_Model_loaded_430 rfl rfl ?_
                              refine n_iload hC hl 1 d_Model_loaded_431 rfl ?_
                              refine n_iconst hC 3 d_Model_loaded_433 (by decide) ?_
                              refine n_iadd hC hf d_Model_loaded_434 (fun v19893 hf => ?_)
                              obtain ⟨u19894, hu19894, hf⟩ := bd_s hf
                              refine n_callVi hC hw fc_Model_64 (c_Model_get l g E hEe t_o t_disk_a t_sort_a t_first_a t_many_a t_name_a t_size_a t_seed_a t_scattered_a t_head_a t_follows_a t_memory_a t_thrown t_sectors t_partitions t_files t_address t_start t_fat t_clusters t_header t_found t_kernelAt t_kernelSize t_any t_disk v19893 u19894 hu19894) [0, 1] (wd_Model_loaded g t_o t_disk_a t_memory_a t_sort_a t_first_a t_many_a t_name_a t_size_a t_seed_a t_scattered_a t_head_a t_follows_a t_thrown t_sectors t_partitions t_files t_address t_start t_fat t_clusters t_header t_found t_kernelAt t_kernelSize t_any t_disk t_memory) 0 rfl ⟨rfl, rfl⟩ ⟨Nat.le_of_ble_eq_true rfl, Nat.le_of_ble_eq_true rfl⟩ rfl (At_.cons rfl (At_.cons rfl At_.nil)) (At_.cons rfl (At_.cons rfl At_.nil)) Sm_.refl rfl hl.1 (Nat.le_of_ble_eq_true rfl) ⟨Nat.zero_le _, Nat.zero_le _⟩ d_Model_loaded_435 (fun H locs hw => ?_) rfl
                              refine n_bipush hC 76 d_Model_loaded_438 (by decide) ?_
                              refine n_icmp_ne hC hf 447 d_Model_loaded_440 (by decide) (fun hf => ?_) (fun hf => ?_)
                              · exact hj447 hf _ _ _ hw (lv_sub hl [0, 3, 5, 7, 8] rfl)
                              · refine n_iconst hC 1 d_Model_loaded_443 (by decide) ?_
                                refine n_goto hC 448 d_Model_loaded_444 (by decide) ?_
                                exact hj448 _ hf _ _ _ hw (lv_sub hl [0, 3, 5, 7, 8] rfl)
                      · refine n_bipush hC 8 d_Model_loaded_357 (by decide) ?_
                        cases hf
                        exact hret _ _ _ _ hw (show narrow .int (Value.int 8) = Value.int 8 from rfl) d_Model_loaded_359
                    · refine n_iload hC hl 1 d_Model_loaded_286 rfl ?_
                      refine n_iconst hC 2 d_Model_loaded_288 (by decide) ?_
                      refine n_iload hC hl 5 d_Model_loaded_289 rfl ?_
                      refine n_iconst hC 1 d_Model_loaded_291 (by decide) ?_
                      refine n_iadd hC hf d_Model_loaded_292 (fun v19895 hf => ?_)
                      obtain ⟨u19896, hu19896, hf⟩ := bd_s hf
                      refine n_callSi hC hw fc_Model_73 (c_Model_in l g E hEe x18857 2 v19895 u19896 hu19896) [] (wd_Model_loaded g t_o t_disk_a t_memory_a t_sort_a t_first_a t_many_a t_name_a t_size_a t_seed_a t_scattered_a t_head_a t_follows_a t_thrown t_sectors t_partitions t_files t_address t_start t_fat t_clusters t_header t_found t_kernelAt t_kernelSize t_any t_disk t_memory) ⟨rfl, rfl⟩ ⟨Nat.le_of_ble_eq_true rfl, Nat.le_of_ble_eq_true rfl⟩ rfl At_.nil At_.nil Sm_.refl rfl hl.1 (Nat.le_of_ble_eq_true rfl) ⟨Nat.zero_le _, Nat.zero_le _⟩ d_Model_loaded_293 (fun H locs hw => ?_) rfl
                      refine n_if_ne hC hf 302 d_Model_loaded_296 (by decide) (fun hf => ?_) (fun hf => ?_)
                      · refine n_aload_n hC hl 7 d_Model_loaded_302 rfl rfl ?_
                        refine n_aload_n hC hl 7 d_Model_loaded_303 rfl rfl ?_
                        refine n_get hC hw fg_Model_52 0 rfl rfl d_Model_loaded_304 ?_
                        refine n_iconst hC 1 d_Model_loaded_307 (by decide) ?_
                        refine n_iadd hC hf d_Model_loaded_308 (fun v19897 hf => ?_)
                        refine n_iload hC hl 1 d_Model_loaded_309 rfl ?_
                        obtain ⟨u19898, hu19898, hf⟩ := bd_s hf
                        refine n_callVi hC hw fc_Model_242 (c_Model_entryAt l g E hEe t_o t_disk_a t_sort_a t_first_a t_many_a t_name_a t_size_a t_seed_a t_scattered_a t_head_a t_follows_a t_memory_a t_thrown t_sectors t_partitions t_files t_address t_start t_fat t_clusters t_header t_found t_kernelAt t_kernelSize t_any t_disk v19897 x18857 u19898 hu19898) [0, 1] (wd_Model_loaded g t_o t_disk_a t_memory_a t_sort_a t_first_a t_many_a t_name_a t_size_a t_seed_a t_scattered_a t_head_a t_follows_a t_thrown t_sectors t_partitions t_files t_address t_start t_fat t_clusters t_header t_found t_kernelAt t_kernelSize t_any t_disk t_memory) 0 rfl ⟨rfl, rfl⟩ ⟨Nat.le_of_ble_eq_true rfl, Nat.le_of_ble_eq_true rfl⟩ rfl (At_.cons rfl (At_.cons rfl At_.nil)) (At_.cons rfl (At_.cons rfl At_.nil)) Sm_.refl rfl hl.1 (Nat.le_of_ble_eq_true rfl) ⟨Nat.zero_le _, Nat.zero_le _⟩ d_Model_loaded_311 (fun H locs hw => ?_) rfl
                        refine n_istore hC [(14, .int u19898), (13, .int x18856), (12, .int x18857), (11, .int v18113), (9, .long v18108), (7, .long u18106), (5, .int v18094), (4, .int v18091), (0, .ref t_o)] hl d_Model_loaded_314 (by decide) rfl (fun ls hl => ?_)
                        refine n_iload hC hl 1 d_Model_loaded_316 rfl ?_
                        refine n_i2l hC hf d_Model_loaded_318 (fun v19899 hf => ?_)
                        refine n_lload hC hl 4 d_Model_loaded_319 rfl ?_
                        refine n_lconst hC 1 d_Model_loaded_321 (by decide) ?_
                        refine n_lsub hC hf d_Model_loaded_322 (fun v19900 hf => ?_)
                        refine n_lcmp hC hf d_Model_loaded_323 (fun v19901 hf => ?_)
                        refine jn0 (∀ (H : Heap) (locs : List Loc) (ls : Array Slot), WS g.1 classes A s.heap H locs (wd_Model_loaded g t_o t_disk_a t_memory_a t_sort_a t_first_a t_many_a t_name_a t_size_a t_seed_a t_scattered_a t_head_a t_follows_a t_thrown t_sectors t_partitions t_files t_address t_start t_fat t_clusters t_header t_found t_kernelAt t_kernelSize t_any t_disk t_memory) → lv_has ls 18 [(14, .int u19898), (13, .int x18856), (11, .int v18113), (9, .long v18108), (7, .long u18106), (5, .int v18094), (4, .int v18091), (0, .ref t_o)] → W p l e rm_Model_loaded s m args below meth c H locs 0 0 Q (F0 m 338 ls [])) hf (fun hf H locs ls hw hl => ?_) (fun j338 hj338 hf => ?_)
                        · refine n_iload hC hl 0 d_Model_loaded_338 rfl ?_
                          refine n_istore hC [(12, .int u19898), (14, .int u19898), (13, .int x18856), (11, .int v18113), (9, .long v18108), (7, .long u18106), (5, .int v18094), (4, .int v18091), (0, .ref t_o)] hl d_Model_loaded_340 (by decide) rfl (fun ls hl => ?_)
                          refine n_iinc hC (k := 2) hf (by decide) (fun v19902 => [(13, .int v19902), (12, .int u19898), (14, .int u19898), (11, .int v18113), (9, .long v18108), (7, .long u18106), (5, .int v18094), (4, .int v18091), (0, .ref t_o)]) hl d_Model_loaded_342 rfl (by decide) (fun _ => rfl) (fun v19902 ls hf hl => ?_)
                          refine n_goto hC 277 d_Model_loaded_345 (by decide) ?_
                          exact hk277 _ _ hf _ _ _ hw (lv_sub hl [0, 1, 3, 4, 5, 6, 7, 8] rfl)
                        refine n_if_ne hC hf 338 d_Model_loaded_324 (by decide) (fun hf => ?_) (fun hf => ?_)
                        · exact hj338 hf _ _ _ hw (lv_sub hl [0, 1, 3, 4, 5, 6, 7, 8] rfl)
                        · refine n_iload hC hl 0 d_Model_loaded_327 rfl ?_
                          refine n_sipush hC 4088 d_Model_loaded_329 (by decide) ?_
                          refine n_icmp_ge hC hf 338 d_Model_loaded_332 (by decide) (fun hf => ?_) (fun hf => ?_)
                          · exact hj338 hf _ _ _ hw (lv_sub hl [0, 1, 3, 4, 5, 6, 7, 8] rfl)
                          · refine n_bipush hC 7 d_Model_loaded_335 (by decide) ?_
                            cases hf
                            exact hret _ _ _ _ hw (show narrow .int (Value.int 7) = Value.int 7 from rfl) d_Model_loaded_337
                      · refine n_bipush hC 7 d_Model_loaded_299 (by decide) ?_
                        cases hf
                        exact hret _ _ _ _ hw (show narrow .int (Value.int 7) = Value.int 7 from rfl) d_Model_loaded_301
                    )
                  exact hL277 N _ _ hf _ _ _ hw (lv_sub hl [0, 1, 2, 3, 4, 6, 7, 11] rfl)
                · refine n_bipush hC 7 d_Model_loaded_254 (by decide) ?_
                  cases hf
                  exact hret _ _ _ _ hw (show narrow .int (Value.int 7) = Value.int 7 from rfl) d_Model_loaded_256
              · refine n_bipush hC 6 d_Model_loaded_218 (by decide) ?_
                cases hf
                exact hret _ _ _ _ hw (show narrow .int (Value.int 6) = Value.int 6 from rfl) d_Model_loaded_220
            · refine n_iconst hC 5 d_Model_loaded_194 (by decide) ?_
              cases hf
              exact hret _ _ _ _ hw (show narrow .int (Value.int 5) = Value.int 5 from rfl) d_Model_loaded_195
  refine jn0 (∀ (H : Heap) (locs : List Loc) (ls : Array Slot), WS g.1 classes A s.heap H locs (wd_Model_loaded g t_o t_disk_a t_memory_a t_sort_a t_first_a t_many_a t_name_a t_size_a t_seed_a t_scattered_a t_head_a t_follows_a t_thrown t_sectors t_partitions t_files t_address t_start t_fat t_clusters t_header t_found t_kernelAt t_kernelSize t_any t_disk t_memory) → lv_has ls 18 [(1, .int v18067), (0, .ref t_o)] → W p l e rm_Model_loaded s m args below meth c H locs 0 0 Q (F0 m 112 ls [])) hf (fun hf H locs ls hw hl => ?_) (fun j112 hj112 hf => ?_)
  · refine n_iconst hC 0 d_Model_loaded_112 (by decide) ?_
    exact hj113 _ hf _ _ _ hw (lv_sub hl [0, 1] rfl)
  refine n_icmp_ne hC hf 112 d_Model_loaded_20 (by decide) (fun hf => ?_) (fun hf => ?_)
  · exact hj112 hf _ _ _ hw (lv_sub hl [0, 1] rfl)
  · refine n_aload_n hC hl 1 d_Model_loaded_23 rfl rfl ?_
    refine n_iload_n hC hl 0 d_Model_loaded_24 rfl rfl ?_
    refine n_sipush hC 511 d_Model_loaded_25 (by decide) ?_
    refine n_iadd hC hf d_Model_loaded_28 (fun v22174 hf => ?_)
    obtain ⟨u22175, hu22175, hf⟩ := bd_s hf
    refine n_callVi hC hw fc_Model_64 (c_Model_get l g E hEe t_o t_disk_a t_sort_a t_first_a t_many_a t_name_a t_size_a t_seed_a t_scattered_a t_head_a t_follows_a t_memory_a t_thrown t_sectors t_partitions t_files t_address t_start t_fat t_clusters t_header t_found t_kernelAt t_kernelSize t_any t_disk v22174 u22175 hu22175) [0, 1] (wd_Model_loaded g t_o t_disk_a t_memory_a t_sort_a t_first_a t_many_a t_name_a t_size_a t_seed_a t_scattered_a t_head_a t_follows_a t_thrown t_sectors t_partitions t_files t_address t_start t_fat t_clusters t_header t_found t_kernelAt t_kernelSize t_any t_disk t_memory) 0 rfl ⟨rfl, rfl⟩ ⟨Nat.le_of_ble_eq_true rfl, Nat.le_of_ble_eq_true rfl⟩ rfl (At_.cons rfl (At_.cons rfl At_.nil)) (At_.cons rfl (At_.cons rfl At_.nil)) Sm_.refl rfl hl.1 (Nat.le_of_ble_eq_true rfl) ⟨Nat.zero_le _, Nat.zero_le _⟩ d_Model_loaded_29 (fun H locs hw => ?_) rfl
    refine n_sipush hC 170 d_Model_loaded_32 (by decide) ?_
    refine n_icmp_ne hC hf 112 d_Model_loaded_35 (by decide) (fun hf => ?_) (fun hf => ?_)
    · exact hj112 hf _ _ _ hw (lv_sub hl [0, 1] rfl)
    · refine n_aload_n hC hl 1 d_Model_loaded_38 rfl rfl ?_
      refine n_iload_n hC hl 0 d_Model_loaded_39 rfl rfl ?_
      refine n_bipush hC 11 d_Model_loaded_40 (by decide) ?_
      refine n_iadd hC hf d_Model_loaded_42 (fun v22176 hf => ?_)
      refine n_iconst hC 2 d_Model_loaded_43 (by decide) ?_
      obtain ⟨u22177, hu22177, hf⟩ := bd_s hf
      refine n_callVl hC hw fc_Model_162 (c_Model_lowAt l g E hEe t_o t_disk_a t_sort_a t_first_a t_many_a t_name_a t_size_a t_seed_a t_scattered_a t_head_a t_follows_a t_memory_a t_thrown t_sectors t_partitions t_files t_address t_start t_fat t_clusters t_header t_found t_kernelAt t_kernelSize t_any t_disk v22176 2 N u22177 hu22177) [0, 1] (wd_Model_loaded g t_o t_disk_a t_memory_a t_sort_a t_first_a t_many_a t_name_a t_size_a t_seed_a t_scattered_a t_head_a t_follows_a t_thrown t_sectors t_partitions t_files t_address t_start t_fat t_clusters t_header t_found t_kernelAt t_kernelSize t_any t_disk t_memory) 0 rfl ⟨rfl, rfl⟩ ⟨Nat.le_of_ble_eq_true rfl, Nat.le_of_ble_eq_true rfl⟩ rfl (At_.cons rfl (At_.cons rfl At_.nil)) (At_.cons rfl (At_.cons rfl At_.nil)) Sm_.refl rfl hl.1 (Nat.le_of_ble_eq_true rfl) ⟨Nat.zero_le _, Nat.zero_le _⟩ d_Model_loaded_44 (fun H locs hw => ?_) rfl
      refine n_ldc2 hC 512 kc_Model_77 d_Model_loaded_47 ?_
      refine n_lcmp hC hf d_Model_loaded_50 (fun v22178 hf => ?_)
      refine n_if_ne hC hf 112 d_Model_loaded_51 (by decide) (fun hf => ?_) (fun hf => ?_)
      · exact hj112 hf _ _ _ hw (lv_sub hl [0, 1] rfl)
      · refine n_aload_n hC hl 1 d_Model_loaded_54 rfl rfl ?_
        refine n_iload_n hC hl 0 d_Model_loaded_55 rfl rfl ?_
        refine n_bipush hC 13 d_Model_loaded_56 (by decide) ?_
        refine n_iadd hC hf d_Model_loaded_58 (fun v22179 hf => ?_)
        obtain ⟨u22180, hu22180, hf⟩ := bd_s hf
        refine n_callVi hC hw fc_Model_64 (c_Model_get l g E hEe t_o t_disk_a t_sort_a t_first_a t_many_a t_name_a t_size_a t_seed_a t_scattered_a t_head_a t_follows_a t_memory_a t_thrown t_sectors t_partitions t_files t_address t_start t_fat t_clusters t_header t_found t_kernelAt t_kernelSize t_any t_disk v22179 u22180 hu22180) [0, 1] (wd_Model_loaded g t_o t_disk_a t_memory_a t_sort_a t_first_a t_many_a t_name_a t_size_a t_seed_a t_scattered_a t_head_a t_follows_a t_thrown t_sectors t_partitions t_files t_address t_start t_fat t_clusters t_header t_found t_kernelAt t_kernelSize t_any t_disk t_memory) 0 rfl ⟨rfl, rfl⟩ ⟨Nat.le_of_ble_eq_true rfl, Nat.le_of_ble_eq_true rfl⟩ rfl (At_.cons rfl (At_.cons rfl At_.nil)) (At_.cons rfl (At_.cons rfl At_.nil)) Sm_.refl rfl hl.1 (Nat.le_of_ble_eq_true rfl) ⟨Nat.zero_le _, Nat.zero_le _⟩ d_Model_loaded_59 (fun H locs hw => ?_) rfl
        refine n_iconst hC 1 d_Model_loaded_62 (by decide) ?_
        refine n_icmp_ne hC hf 112 d_Model_loaded_63 (by decide) (fun hf => ?_) (fun hf => ?_)
        · exact hj112 hf _ _ _ hw (lv_sub hl [0, 1] rfl)
        · refine n_aload_n hC hl 1 d_Model_loaded_66 rfl rfl ?_
          refine n_iload_n hC hl 0 d_Model_loaded_67 rfl rfl ?_
          refine n_bipush hC 14 d_Model_loaded_68 (by decide) ?_
          refine n_iadd hC hf d_Model_loaded_70 (fun v22181 hf => ?_)
          refine n_iconst hC 2 d_Model_loaded_71 (by decide) ?_
          obtain ⟨u22182, hu22182, hf⟩ := bd_s hf
          refine n_callVl hC hw fc_Model_162 (c_Model_lowAt l g E hEe t_o t_disk_a t_sort_a t_first_a t_many_a t_name_a t_size_a t_seed_a t_scattered_a t_head_a t_follows_a t_memory_a t_thrown t_sectors t_partitions t_files t_address t_start t_fat t_clusters t_header t_found t_kernelAt t_kernelSize t_any t_disk v22181 2 N u22182 hu22182) [0, 1] (wd_Model_loaded g t_o t_disk_a t_memory_a t_sort_a t_first_a t_many_a t_name_a t_size_a t_seed_a t_scattered_a t_head_a t_follows_a t_thrown t_sectors t_partitions t_files t_address t_start t_fat t_clusters t_header t_found t_kernelAt t_kernelSize t_any t_disk t_memory) 0 rfl ⟨rfl, rfl⟩ ⟨Nat.le_of_ble_eq_true rfl, Nat.le_of_ble_eq_true rfl⟩ rfl (At_.cons rfl (At_.cons rfl At_.nil)) (At_.cons rfl (At_.cons rfl At_.nil)) Sm_.refl rfl hl.1 (Nat.le_of_ble_eq_true rfl) ⟨Nat.zero_le _, Nat.zero_le _⟩ d_Model_loaded_72 (fun H locs hw => ?_) rfl
          refine n_lconst hC 1 d_Model_loaded_75 (by decide) ?_
          refine n_lcmp hC hf d_Model_loaded_76 (fun v22183 hf => ?_)
          refine n_if_ne hC hf 112 d_Model_loaded_77 (by decide) (fun hf => ?_) (fun hf => ?_)
          · exact hj112 hf _ _ _ hw (lv_sub hl [0, 1] rfl)
          · refine n_aload_n hC hl 1 d_Model_loaded_80 rfl rfl ?_
            refine n_iload_n hC hl 0 d_Model_loaded_81 rfl rfl ?_
            refine n_bipush hC 16 d_Model_loaded_82 (by decide) ?_
            refine n_iadd hC hf d_Model_loaded_84 (fun v22184 hf => ?_)
            obtain ⟨u22185, hu22185, hf⟩ := bd_s hf
            refine n_callVi hC hw fc_Model_64 (c_Model_get l g E hEe t_o t_disk_a t_sort_a t_first_a t_many_a t_name_a t_size_a t_seed_a t_scattered_a t_head_a t_follows_a t_memory_a t_thrown t_sectors t_partitions t_files t_address t_start t_fat t_clusters t_header t_found t_kernelAt t_kernelSize t_any t_disk v22184 u22185 hu22185) [0, 1] (wd_Model_loaded g t_o t_disk_a t_memory_a t_sort_a t_first_a t_many_a t_name_a t_size_a t_seed_a t_scattered_a t_head_a t_follows_a t_thrown t_sectors t_partitions t_files t_address t_start t_fat t_clusters t_header t_found t_kernelAt t_kernelSize t_any t_disk t_memory) 0 rfl ⟨rfl, rfl⟩ ⟨Nat.le_of_ble_eq_true rfl, Nat.le_of_ble_eq_true rfl⟩ rfl (At_.cons rfl (At_.cons rfl At_.nil)) (At_.cons rfl (At_.cons rfl At_.nil)) Sm_.refl rfl hl.1 (Nat.le_of_ble_eq_true rfl) ⟨Nat.zero_le _, Nat.zero_le _⟩ d_Model_loaded_85 (fun H locs hw => ?_) rfl
            refine n_iconst hC 2 d_Model_loaded_88 (by decide) ?_
            refine n_icmp_ne hC hf 112 d_Model_loaded_89 (by decide) (fun hf => ?_) (fun hf => ?_)
            · exact hj112 hf _ _ _ hw (lv_sub hl [0, 1] rfl)
            · refine n_aload_n hC hl 1 d_Model_loaded_92 rfl rfl ?_
              refine n_iload_n hC hl 0 d_Model_loaded_93 rfl rfl ?_
              refine n_bipush hC 17 d_Model_loaded_94 (by decide) ?_
              refine n_iadd hC hf d_Model_loaded_96 (fun v22186 hf => ?_)
              refine n_iconst hC 2 d_Model_loaded_97 (by decide) ?_
              obtain ⟨u22187, hu22187, hf⟩ := bd_s hf
              refine n_callVl hC hw fc_Model_162 (c_Model_lowAt l g E hEe t_o t_disk_a t_sort_a t_first_a t_many_a t_name_a t_size_a t_seed_a t_scattered_a t_head_a t_follows_a t_memory_a t_thrown t_sectors t_partitions t_files t_address t_start t_fat t_clusters t_header t_found t_kernelAt t_kernelSize t_any t_disk v22186 2 N u22187 hu22187) [0, 1] (wd_Model_loaded g t_o t_disk_a t_memory_a t_sort_a t_first_a t_many_a t_name_a t_size_a t_seed_a t_scattered_a t_head_a t_follows_a t_thrown t_sectors t_partitions t_files t_address t_start t_fat t_clusters t_header t_found t_kernelAt t_kernelSize t_any t_disk t_memory) 0 rfl ⟨rfl, rfl⟩ ⟨Nat.le_of_ble_eq_true rfl, Nat.le_of_ble_eq_true rfl⟩ rfl (At_.cons rfl (At_.cons rfl At_.nil)) (At_.cons rfl (At_.cons rfl At_.nil)) Sm_.refl rfl hl.1 (Nat.le_of_ble_eq_true rfl) ⟨Nat.zero_le _, Nat.zero_le _⟩ d_Model_loaded_98 (fun H locs hw => ?_) rfl
              refine n_ldc2 hC 32 kc_Model_193 d_Model_loaded_101 ?_
              refine n_lcmp hC hf d_Model_loaded_104 (fun v22188 hf => ?_)
              refine n_if_ne hC hf 112 d_Model_loaded_105 (by decide) (fun hf => ?_) (fun hf => ?_)
              · exact hj112 hf _ _ _ hw (lv_sub hl [0, 1] rfl)
              · refine n_iconst hC 1 d_Model_loaded_108 (by decide) ?_
                refine n_goto hC 113 d_Model_loaded_109 (by decide) ?_
                exact hj113 _ hf _ _ _ hw (lv_sub hl [0, 1] rfl)
