def wd_Model_thrown (g : GT) (t_o : Nat) (t_disk_a : Nat) (t_sort_a : Nat) (t_first_a : Nat) (t_many_a : Nat) (t_name_a : Nat) (t_size_a : Nat) (t_seed_a : Nat) (t_scattered_a : Nat) (t_head_a : Nat) (t_follows_a : Nat) (t_memory_a : Nat) (t_thrown : Int32) (t_sectors : Int32) (t_partitions : Int32) (t_files : Int32) (t_address : Int32) (t_start : Int32) (t_fat : Int32) (t_clusters : Int32) (t_header : Int32) (t_found : Int32) (t_kernelAt : Int32) (t_kernelSize : Int32) (t_any : Int32) : va_W := [(t_o, .inr (7, [.int t_thrown, .int t_sectors, .ref t_disk_a, .int t_partitions, .ref t_sort_a, .ref t_first_a, .ref t_many_a, .int t_files, .ref t_name_a, .ref t_size_a, .ref t_seed_a, .ref t_scattered_a, .int t_address, .int t_start, .int t_fat, .int t_clusters, .ref t_head_a, .ref t_follows_a, .int t_header, .int t_found, .int t_kernelAt, .int t_kernelSize, .int t_any, .ref t_memory_a]))]
def f_Model_thrown (t_thrown : Int32) : Option (Int32) :=
  some (t_thrown)
def rm_Model_thrown : Room := { frames := 0, cells := 0, slots := 0, locals := 0 }
set_option maxHeartbeats 4000000 in
set_option maxRecDepth 100000 in
theorem c_Model_thrown (l : Launch) (g : GT) (E : (Nat → Prop) → State → Prop) (hEe : Ee E) (t_o : Nat) (t_disk_a : Nat) (t_sort_a : Nat) (t_first_a : Nat) (t_many_a : Nat) (t_name_a : Nat) (t_size_a : Nat) (t_seed_a : Nat) (t_scattered_a : Nat) (t_head_a : Nat) (t_follows_a : Nat) (t_memory_a : Nat) (t_thrown : Int32) (t_sectors : Int32) (t_partitions : Int32) (t_files : Int32) (t_address : Int32) (t_start : Int32) (t_fat : Int32) (t_clusters : Int32) (t_header : Int32) (t_found : Int32) (t_kernelAt : Int32) (t_kernelSize : Int32) (t_any : Int32) (z : Int32) (hf : f_Model_thrown t_thrown = some z) : Cg l g E y_Model_thrown ws_Model_thrown rm_Model_thrown [.ref t_o] (wd_Model_thrown g t_o t_disk_a t_sort_a t_first_a t_many_a t_name_a t_size_a t_seed_a t_scattered_a t_head_a t_follows_a t_memory_a t_thrown t_sectors t_partitions t_files t_address t_start t_fat t_clusters t_header t_found t_kernelAt t_kernelSize t_any) (some (.int z)) (wd_Model_thrown g t_o t_disk_a t_sort_a t_first_a t_many_a t_name_a t_size_a t_seed_a t_scattered_a t_head_a t_follows_a t_memory_a t_thrown t_sectors t_partitions t_files t_address t_start t_fat t_clusters t_header t_found t_kernelAt t_kernelSize t_any) := by
  refine Ct.ofI hEe good_W (by decide) rfl (Nat.le_of_ble_eq_true rfl) ?_
  intro p e s m args below meth c A ls Q hC hw hl hret
  have hC : CX p m c b_Model_thrown 1 s args Wall R_Model g.1 classes (tK g) E A := hC
  have hl : lv_has ls 1 [(0, .ref t_o)] := hl
  unfold f_Model_thrown at hf
  refine n_aload_n hC hl 0 d_Model_thrown_0 rfl rfl ?_
  refine n_get hC hw fg_Model_61 0 rfl rfl d_Model_thrown_1 ?_
  cases hf
  exact hret _ _ _ _ hw rfl d_Model_thrown_4
def wd_Model_in (g : GT)  : va_W := []
def f_Model_in (a1 : Int32) (a2 : Int32) (a3 : Int32) : Option (Int32) :=
  if a1 < a2 then some (0) else if a3 < a1 then some (0) else some (1)
def rm_Model_in : Room := { frames := 0, cells := 0, slots := 0, locals := 0 }
set_option maxHeartbeats 4000000 in
set_option maxRecDepth 100000 in
theorem c_Model_in (l : Launch) (g : GT) (E : (Nat → Prop) → State → Prop) (hEe : Ee E) (a1 : Int32) (a2 : Int32) (a3 : Int32) (z : Int32) (hf : f_Model_in a1 a2 a3 = some z) : Cg l g E y_Model_in ws_Model_in rm_Model_in [.int a1, .int a2, .int a3] (wd_Model_in g) (some (.int z)) (wd_Model_in g) := by
  refine Ct.ofI hEe good_W (by decide) rfl (Nat.le_of_ble_eq_true rfl) ?_
  intro p e s m args below meth c A ls Q hC hw hl hret
  have hC : CX p m c b_Model_in 3 s args Wall R_Model g.1 classes (tK g) E A := hC
  have hl : lv_has ls 3 [(0, .int a1), (1, .int a2), (2, .int a3)] := hl
  unfold f_Model_in at hf
  refine n_iload_n hC hl 0 d_Model_in_0 rfl rfl ?_
  refine n_iload_n hC hl 1 d_Model_in_1 rfl rfl ?_
  refine n_icmp_lt hC hf 14 d_Model_in_2 (by decide) (fun hf => ?_) (fun hf => ?_)
  · refine n_iconst hC 0 d_Model_in_14 (by decide) ?_
    cases hf
    exact hret _ _ _ _ hw rfl d_Model_in_15
  · refine n_iload_n hC hl 0 d_Model_in_5 rfl rfl ?_
    refine n_iload_n hC hl 2 d_Model_in_6 rfl rfl ?_
    refine n_icmp_gt hC hf 14 d_Model_in_7 (by decide) (fun hf => ?_) (fun hf => ?_)
    · refine n_iconst hC 0 d_Model_in_14 (by decide) ?_
      cases hf
      exact hret _ _ _ _ hw rfl d_Model_in_15
    · refine n_iconst hC 1 d_Model_in_10 (by decide) ?_
      refine n_goto hC 15 d_Model_in_11 (by decide) ?_
      cases hf
      exact hret _ _ _ _ hw rfl d_Model_in_15
def wd_Model_get (g : GT) (t_o : Nat) (t_disk_a : Nat) (t_sort_a : Nat) (t_first_a : Nat) (t_many_a : Nat) (t_name_a : Nat) (t_size_a : Nat) (t_seed_a : Nat) (t_scattered_a : Nat) (t_head_a : Nat) (t_follows_a : Nat) (t_memory_a : Nat) (t_thrown : Int32) (t_sectors : Int32) (t_partitions : Int32) (t_files : Int32) (t_address : Int32) (t_start : Int32) (t_fat : Int32) (t_clusters : Int32) (t_header : Int32) (t_found : Int32) (t_kernelAt : Int32) (t_kernelSize : Int32) (t_any : Int32) (t_disk : Nat → Int32) : va_W := [(t_o, .inr (7, [.int t_thrown, .int t_sectors, .ref t_disk_a, .int t_partitions, .ref t_sort_a, .ref t_first_a, .ref t_many_a, .int t_files, .ref t_name_a, .ref t_size_a, .ref t_seed_a, .ref t_scattered_a, .int t_address, .int t_start, .int t_fat, .int t_clusters, .ref t_head_a, .ref t_follows_a, .int t_header, .int t_found, .int t_kernelAt, .int t_kernelSize, .int t_any, .ref t_memory_a])), (t_disk_a, .inl (g.2.2.2.2, 307200, .inl t_disk))]
def f_Model_get (t_disk : Nat → Int32) (a1 : Int32) : Option (Int32) :=
  ix_ 307200 t_disk a1 (fun (v3 : Int32) => lt_ (v3 &&& 255) (fun v4 => some (v4)))
def rm_Model_get : Room := { frames := 0, cells := 0, slots := 0, locals := 0 }
set_option maxHeartbeats 4000000 in
set_option maxRecDepth 100000 in
theorem c_Model_get (l : Launch) (g : GT) (E : (Nat → Prop) → State → Prop) (hEe : Ee E) (t_o : Nat) (t_disk_a : Nat) (t_sort_a : Nat) (t_first_a : Nat) (t_many_a : Nat) (t_name_a : Nat) (t_size_a : Nat) (t_seed_a : Nat) (t_scattered_a : Nat) (t_head_a : Nat) (t_follows_a : Nat) (t_memory_a : Nat) (t_thrown : Int32) (t_sectors : Int32) (t_partitions : Int32) (t_files : Int32) (t_address : Int32) (t_start : Int32) (t_fat : Int32) (t_clusters : Int32) (t_header : Int32) (t_found : Int32) (t_kernelAt : Int32) (t_kernelSize : Int32) (t_any : Int32) (t_disk : Nat → Int32) (a1 : Int32) (z : Int32) (hf : f_Model_get t_disk a1 = some z) : Cg l g E y_Model_get ws_Model_get rm_Model_get [.ref t_o, .int a1] (wd_Model_get g t_o t_disk_a t_sort_a t_first_a t_many_a t_name_a t_size_a t_seed_a t_scattered_a t_head_a t_follows_a t_memory_a t_thrown t_sectors t_partitions t_files t_address t_start t_fat t_clusters t_header t_found t_kernelAt t_kernelSize t_any t_disk) (some (.int z)) (wd_Model_get g t_o t_disk_a t_sort_a t_first_a t_many_a t_name_a t_size_a t_seed_a t_scattered_a t_head_a t_follows_a t_memory_a t_thrown t_sectors t_partitions t_files t_address t_start t_fat t_clusters t_header t_found t_kernelAt t_kernelSize t_any t_disk) := by
  refine Ct.ofI hEe good_W (by decide) rfl (Nat.le_of_ble_eq_true rfl) ?_
  intro p e s m args below meth c A ls Q hC hw hl hret
  have hC : CX p m c b_Model_get 2 s args Wall R_Model g.1 classes (tK g) E A := hC
  have hl : lv_has ls 2 [(0, .ref t_o), (1, .int a1)] := hl
  unfold f_Model_get at hf
  refine n_aload_n hC hl 0 d_Model_get_0 rfl rfl ?_
  refine n_get hC hw fg_Model_8 0 rfl rfl d_Model_get_1 ?_
  refine n_iload_n hC hl 1 d_Model_get_4 rfl rfl ?_
  refine n_bald hC hw hf 1 3 rfl rfl d_Model_get_5 (fun v3 hf => ?_)
  refine n_sipush hC 255 d_Model_get_6 (by decide) ?_
  refine n_iand hC hf d_Model_get_9 (fun v4 hf => ?_)
  cases hf
  exact hret _ _ _ _ hw rfl d_Model_get_10
def wd_Model_low (g : GT) (t_o : Nat) (t_disk_a : Nat) (t_sort_a : Nat) (t_first_a : Nat) (t_many_a : Nat) (t_name_a : Nat) (t_size_a : Nat) (t_seed_a : Nat) (t_scattered_a : Nat) (t_head_a : Nat) (t_follows_a : Nat) (t_memory_a : Nat) (t_thrown : Int32) (t_sectors : Int32) (t_partitions : Int32) (t_files : Int32) (t_address : Int32) (t_start : Int32) (t_fat : Int32) (t_clusters : Int32) (t_header : Int32) (t_found : Int32) (t_kernelAt : Int32) (t_kernelSize : Int32) (t_any : Int32) (t_disk : Nat → Int32) : va_W := [(t_o, .inr (7, [.int t_thrown, .int t_sectors, .ref t_disk_a, .int t_partitions, .ref t_sort_a, .ref t_first_a, .ref t_many_a, .int t_files, .ref t_name_a, .ref t_size_a, .ref t_seed_a, .ref t_scattered_a, .int t_address, .int t_start, .int t_fat, .int t_clusters, .ref t_head_a, .ref t_follows_a, .int t_header, .int t_found, .int t_kernelAt, .int t_kernelSize, .int t_any, .ref t_memory_a])), (t_disk_a, .inl (g.2.2.2.2, 307200, .inl t_disk))]
def f_Model_low_L3 (a2 : Int32) (a1 : Int32) (a3 : Int64) (k3 : Int32 → (Nat → Int32) → Option ((Nat → Int32))) (x31 : Int32) (x32 : Nat → Int32) : Option ((Nat → Int32)) :=
  if a2 ≤ x31 then some (x32) else lt_ (a1 + x31) (fun v40 => lt_ ((8 : Int32) * x31) (fun v41 => lt_ ((a3.toUInt64 >>> (v41.toInt64.toUInt64 &&& Int64.toUInt64 63)).toInt64) (fun v42 => lt_ (v42.toInt32) (fun v43 => lt_ (v43.toInt8.toInt32) (fun v44 => up_b 307200 x32 v40 v44 (fun (f45 : Nat → Int32) => lt_ (x31 + 1) (fun v46 => k3 v46 f45)))))))
def f_Model_low (N : Nat) (a2 : Int32) (a1 : Int32) (a3 : Int64) (t_disk : Nat → Int32) : Option ((Nat → Int32)) :=
  lp_ (fun _ _ => none) (f_Model_low_L3 a2 a1 a3) N 0 t_disk
def rm_Model_low : Room := { frames := 0, cells := 0, slots := 0, locals := 0 }
set_option maxHeartbeats 4000000 in
set_option maxRecDepth 100000 in
theorem c_Model_low (l : Launch) (g : GT) (E : (Nat → Prop) → State → Prop) (hEe : Ee E) (t_o : Nat) (t_disk_a : Nat) (t_sort_a : Nat) (t_first_a : Nat) (t_many_a : Nat) (t_name_a : Nat) (t_size_a : Nat) (t_seed_a : Nat) (t_scattered_a : Nat) (t_head_a : Nat) (t_follows_a : Nat) (t_memory_a : Nat) (t_thrown : Int32) (t_sectors : Int32) (t_partitions : Int32) (t_files : Int32) (t_address : Int32) (t_start : Int32) (t_fat : Int32) (t_clusters : Int32) (t_header : Int32) (t_found : Int32) (t_kernelAt : Int32) (t_kernelSize : Int32) (t_any : Int32) (t_disk : Nat → Int32) (a1 : Int32) (a2 : Int32) (a3 : Int64) (N : Nat) (z : (Nat → Int32)) (hf : f_Model_low N a2 a1 a3 t_disk = some z) : Cg l g E y_Model_low ws_Model_low rm_Model_low [.ref t_o, .int a1, .int a2, .long a3] (wd_Model_low g t_o t_disk_a t_sort_a t_first_a t_many_a t_name_a t_size_a t_seed_a t_scattered_a t_head_a t_follows_a t_memory_a t_thrown t_sectors t_partitions t_files t_address t_start t_fat t_clusters t_header t_found t_kernelAt t_kernelSize t_any t_disk) none (wd_Model_low g t_o t_disk_a t_sort_a t_first_a t_many_a t_name_a t_size_a t_seed_a t_scattered_a t_head_a t_follows_a t_memory_a t_thrown t_sectors t_partitions t_files t_address t_start t_fat t_clusters t_header t_found t_kernelAt t_kernelSize t_any z) := by
  refine Ct.ofV hEe good_W (by decide) rfl (Nat.le_of_ble_eq_true rfl) ?_
  intro p e s m args below meth c A ls Q hC hw hl hret
  have hC : CX p m c b_Model_low 6 s args Wall R_Model g.1 classes (tK g) E A := hC
  have hl : lv_has ls 6 [(0, .ref t_o), (1, .int a1), (2, .int a2), (3, .long a3)] := hl
  unfold f_Model_low at hf
  refine n_iconst hC 0 d_Model_low_0 (by decide) ?_
  refine n_istore hC [(5, .int 0), (0, .ref t_o), (1, .int a1), (2, .int a2), (3, .long a3)] hl d_Model_low_1 (by decide) rfl (fun ls hl => ?_)
  have hL3 := lw2 (B := f_Model_low_L3 a2 a1 a3) (z := z) (fun (x31 : Int32) (x32 : Nat → Int32) => ∀ (H : Heap) (locs : List Loc) (ls : Array Slot), WS g.1 classes A s.heap H locs (wd_Model_low g t_o t_disk_a t_sort_a t_first_a t_many_a t_name_a t_size_a t_seed_a t_scattered_a t_head_a t_follows_a t_memory_a t_thrown t_sectors t_partitions t_files t_address t_start t_fat t_clusters t_header t_found t_kernelAt t_kernelSize t_any x32) → lv_has ls 6 [(5, .int x31), (0, .ref t_o), (1, .int a1), (2, .int a2), (3, .long a3)] → W p l e rm_Model_low s m args below meth c H locs 0 0 Q (F0 m 3 ls [])) (by
    intro k3 hk3 x31 x32 hf H locs ls hw hl
    unfold f_Model_low_L3 at hf
    refine n_iload hC hl 0 d_Model_low_3 rfl ?_
    refine n_iload_n hC hl 3 d_Model_low_5 rfl rfl ?_
    refine n_icmp_ge hC hf 33 d_Model_low_6 (by decide) (fun hf => ?_) (fun hf => ?_)
    · cases hf
      exact hret _ _ _ _ hw d_Model_low_33
    · refine n_aload_n hC hl 1 d_Model_low_9 rfl rfl ?_
      refine n_get hC hw fg_Model_8 0 rfl rfl d_Model_low_10 ?_
      refine n_iload_n hC hl 2 d_Model_low_13 rfl rfl ?_
      refine n_iload hC hl 0 d_Model_low_14 rfl ?_
      refine n_iadd hC hf d_Model_low_16 (fun v40 hf => ?_)
      refine n_lload_n hC hl 4 d_Model_low_17 rfl rfl ?_
      refine n_bipush hC 8 d_Model_low_18 (by decide) ?_
      refine n_iload hC hl 0 d_Model_low_20 rfl ?_
      refine n_imul hC hf d_Model_low_22 (fun v41 hf => ?_)
      refine n_lushr hC hf d_Model_low_23 (fun v42 hf => ?_)
      refine n_l2i hC hf d_Model_low_24 (fun v43 hf => ?_)
      refine n_i2b hC hf d_Model_low_25 (fun v44 hf => ?_)
      refine n_bast hC hw hf 1 3 (fun f45 => wd_Model_low g t_o t_disk_a t_sort_a t_first_a t_many_a t_name_a t_size_a t_seed_a t_scattered_a t_head_a t_follows_a t_memory_a t_thrown t_sectors t_partitions t_files t_address t_start t_fat t_clusters t_header t_found t_kernelAt t_kernelSize t_any f45) rfl rfl d_Model_low_26 (fun _ => rfl) (fun f45 H locs hf hw => ?_)
      refine n_iinc hC (k := 0) hf (by decide) (fun v46 => [(5, .int v46), (0, .ref t_o), (1, .int a1), (2, .int a2), (3, .long a3)]) hl d_Model_low_27 rfl (by decide) (fun _ => rfl) (fun v46 ls hf hl => ?_)
      refine n_goto hC 3 d_Model_low_30 (by decide) ?_
      exact hk3 _ _ hf _ _ _ hw (lv_sub hl [0, 1, 2, 3, 4] rfl)
    )
  exact hL3 N _ _ hf _ _ _ hw (lv_sub hl [0, 1, 2, 3, 4] rfl)
def wd_Model_lowAt (g : GT) (t_o : Nat) (t_disk_a : Nat) (t_sort_a : Nat) (t_first_a : Nat) (t_many_a : Nat) (t_name_a : Nat) (t_size_a : Nat) (t_seed_a : Nat) (t_scattered_a : Nat) (t_head_a : Nat) (t_follows_a : Nat) (t_memory_a : Nat) (t_thrown : Int32) (t_sectors : Int32) (t_partitions : Int32) (t_files : Int32) (t_address : Int32) (t_start : Int32) (t_fat : Int32) (t_clusters : Int32) (t_header : Int32) (t_found : Int32) (t_kernelAt : Int32) (t_kernelSize : Int32) (t_any : Int32) (t_disk : Nat → Int32) : va_W := [(t_o, .inr (7, [.int t_thrown, .int t_sectors, .ref t_disk_a, .int t_partitions, .ref t_sort_a, .ref t_first_a, .ref t_many_a, .int t_files, .ref t_name_a, .ref t_size_a, .ref t_seed_a, .ref t_scattered_a, .int t_address, .int t_start, .int t_fat, .int t_clusters, .ref t_head_a, .ref t_follows_a, .int t_header, .int t_found, .int t_kernelAt, .int t_kernelSize, .int t_any, .ref t_memory_a])), (t_disk_a, .inl (g.2.2.2.2, 307200, .inl t_disk))]
def f_Model_lowAt_L7 (a1 : Int32) (t_disk : Nat → Int32) (k7 : Int32 → Int64 → Option (Int64)) (x29 : Int32) (x30 : Int64) : Option (Int64) :=
  if x29 < 0 then some (x30) else lt_ (x30 <<< ((8 : Int32).toInt64 &&& 63)) (fun v37 => lt_ (a1 + x29) (fun v38 => bd_ (f_Model_get t_disk v38) (fun u39 => lt_ (u39.toInt64) (fun v40 => lt_ (v37 ||| v40) (fun v41 => lt_ (x29 + (-1)) (fun v42 => k7 v42 v41))))))
def f_Model_lowAt (N : Nat) (a2 : Int32) (a1 : Int32) (t_disk : Nat → Int32) : Option (Int64) :=
  lt_ (a2 - 1) (fun v22 => lp_ (fun _ _ => none) (f_Model_lowAt_L7 a1 t_disk) N v22 0)
def rm_Model_lowAt : Room := { frames := 1, cells := 0, slots := 0, locals := 21 }
set_option maxHeartbeats 4000000 in
set_option maxRecDepth 100000 in
theorem c_Model_lowAt (l : Launch) (g : GT) (E : (Nat → Prop) → State → Prop) (hEe : Ee E) (t_o : Nat) (t_disk_a : Nat) (t_sort_a : Nat) (t_first_a : Nat) (t_many_a : Nat) (t_name_a : Nat) (t_size_a : Nat) (t_seed_a : Nat) (t_scattered_a : Nat) (t_head_a : Nat) (t_follows_a : Nat) (t_memory_a : Nat) (t_thrown : Int32) (t_sectors : Int32) (t_partitions : Int32) (t_files : Int32) (t_address : Int32) (t_start : Int32) (t_fat : Int32) (t_clusters : Int32) (t_header : Int32) (t_found : Int32) (t_kernelAt : Int32) (t_kernelSize : Int32) (t_any : Int32) (t_disk : Nat → Int32) (a1 : Int32) (a2 : Int32) (N : Nat) (z : Int64) (hf : f_Model_lowAt N a2 a1 t_disk = some z) : Cg l g E y_Model_lowAt ws_Model_lowAt rm_Model_lowAt [.ref t_o, .int a1, .int a2] (wd_Model_lowAt g t_o t_disk_a t_sort_a t_first_a t_many_a t_name_a t_size_a t_seed_a t_scattered_a t_head_a t_follows_a t_memory_a t_thrown t_sectors t_partitions t_files t_address t_start t_fat t_clusters t_header t_found t_kernelAt t_kernelSize t_any t_disk) (some (.long z)) (wd_Model_lowAt g t_o t_disk_a t_sort_a t_first_a t_many_a t_name_a t_size_a t_seed_a t_scattered_a t_head_a t_follows_a t_memory_a t_thrown t_sectors t_partitions t_files t_address t_start t_fat t_clusters t_header t_found t_kernelAt t_kernelSize t_any t_disk) := by
  refine Ct.ofL hEe good_W (by decide) rfl (Nat.le_of_ble_eq_true rfl) ?_
  intro p e s m args below meth c A ls Q hC hw hl hret
  have hC : CX p m c b_Model_lowAt 6 s args Wall R_Model g.1 classes (tK g) E A := hC
  have hl : lv_has ls 6 [(0, .ref t_o), (1, .int a1), (2, .int a2)] := hl
  unfold f_Model_lowAt at hf
  refine n_lconst hC 0 d_Model_lowAt_0 (by decide) ?_
  refine n_lstore_n hC [(3, .long 0), (0, .ref t_o), (1, .int a1), (2, .int a2)] hl d_Model_lowAt_1 rfl (by decide) rfl (fun ls hl => ?_)
  refine n_iload_n hC hl 3 d_Model_lowAt_2 rfl rfl ?_
  refine n_iconst hC 1 d_Model_lowAt_3 (by decide) ?_
  refine n_isub hC hf d_Model_lowAt_4 (fun v22 hf => ?_)
  refine n_istore hC [(5, .int v22), (3, .long 0), (0, .ref t_o), (1, .int a1), (2, .int a2)] hl d_Model_lowAt_5 (by decide) rfl (fun ls hl => ?_)
  have hL7 := lw2 (B := f_Model_lowAt_L7 a1 t_disk) (z := z) (fun (x29 : Int32) (x30 : Int64) => ∀ (H : Heap) (locs : List Loc) (ls : Array Slot), WS g.1 classes A s.heap H locs (wd_Model_lowAt g t_o t_disk_a t_sort_a t_first_a t_many_a t_name_a t_size_a t_seed_a t_scattered_a t_head_a t_follows_a t_memory_a t_thrown t_sectors t_partitions t_files t_address t_start t_fat t_clusters t_header t_found t_kernelAt t_kernelSize t_any t_disk) → lv_has ls 6 [(5, .int x29), (3, .long x30), (0, .ref t_o), (1, .int a1)] → W p l e rm_Model_lowAt s m args below meth c H locs 0 0 Q (F0 m 7 ls [])) (by
    intro k7 hk7 x29 x30 hf H locs ls hw hl
    unfold f_Model_lowAt_L7 at hf
    refine n_iload hC hl 0 d_Model_lowAt_7 rfl ?_
    refine n_if_lt hC hf 33 d_Model_lowAt_9 (by decide) (fun hf => ?_) (fun hf => ?_)
    · refine n_lload_n hC hl 1 d_Model_lowAt_33 rfl rfl ?_
      cases hf
      exact hret _ _ _ _ hw d_Model_lowAt_34
    · refine n_lload_n hC hl 1 d_Model_lowAt_12 rfl rfl ?_
      refine n_bipush hC 8 d_Model_lowAt_13 (by decide) ?_
      refine n_lshl hC hf d_Model_lowAt_15 (fun v37 hf => ?_)
      refine n_aload_n hC hl 2 d_Model_lowAt_16 rfl rfl ?_
      refine n_iload_n hC hl 3 d_Model_lowAt_17 rfl rfl ?_
      refine n_iload hC hl 0 d_Model_lowAt_18 rfl ?_
      refine n_iadd hC hf d_Model_lowAt_20 (fun v38 hf => ?_)
      obtain ⟨u39, hu39, hf⟩ := bd_s hf
      refine n_callVi hC hw fc_Model_64 (c_Model_get l g E hEe t_o t_disk_a t_sort_a t_first_a t_many_a t_name_a t_size_a t_seed_a t_scattered_a t_head_a t_follows_a t_memory_a t_thrown t_sectors t_partitions t_files t_address t_start t_fat t_clusters t_header t_found t_kernelAt t_kernelSize t_any t_disk v38 u39 hu39) [0, 1] (wd_Model_lowAt g t_o t_disk_a t_sort_a t_first_a t_many_a t_name_a t_size_a t_seed_a t_scattered_a t_head_a t_follows_a t_memory_a t_thrown t_sectors t_partitions t_files t_address t_start t_fat t_clusters t_header t_found t_kernelAt t_kernelSize t_any t_disk) 0 rfl ⟨rfl, rfl⟩ ⟨Nat.le_of_ble_eq_true rfl, Nat.le_of_ble_eq_true rfl⟩ rfl (At_.cons rfl (At_.cons rfl At_.nil)) (At_.cons rfl (At_.cons rfl At_.nil)) Sm_.refl rfl hl.1 (Nat.le_of_ble_eq_true rfl) ⟨Nat.zero_le _, Nat.zero_le _⟩ d_Model_lowAt_21 (fun H locs hw => ?_) rfl
      refine n_i2l hC hf d_Model_lowAt_24 (fun v40 hf => ?_)
      refine n_lor hC hf d_Model_lowAt_25 (fun v41 hf => ?_)
      refine n_lstore_n hC [(3, .long v41), (5, .int x29), (0, .ref t_o), (1, .int a1)] hl d_Model_lowAt_26 rfl (by decide) rfl (fun ls hl => ?_)
      refine n_iinc hC (k := 1) hf (by decide) (fun v42 => [(5, .int v42), (3, .long v41), (0, .ref t_o), (1, .int a1)]) hl d_Model_lowAt_27 rfl (by decide) (fun _ => rfl) (fun v42 ls hf hl => ?_)
      refine n_goto hC 7 d_Model_lowAt_30 (by decide) ?_
      exact hk7 _ _ hf _ _ _ hw (lv_sub hl [0, 1, 2, 3] rfl)
    )
  exact hL7 N _ _ hf _ _ _ hw (lv_sub hl [0, 1, 2, 3] rfl)
def wd_Model_goesOn (g : GT)  : va_W := []
def f_Model_goesOn_L6  (k6 : Int32 → Int32 → Option (Int32)) (x29 : Int32) (x30 : Int32) : Option (Int32) :=
  if (8 : Int32) ≤ x29 then some (x30) else lt_ (x30 &&& 1) (fun v37 => lt_ (fun (x41 : Int32) => lt_ (x29 + 1) (fun v42 => k6 v42 x41)) (fun (j31 : Int32 → Option (Int32)) => if ¬ v37 = (1 : Int32) then lt_ ((x30.toUInt32 >>> ((1 : Int32).toUInt32 &&& Int32.toUInt32 31)).toInt32) (fun v43 => j31 v43) else lt_ ((x30.toUInt32 >>> ((1 : Int32).toUInt32 &&& Int32.toUInt32 31)).toInt32) (fun v44 => lt_ (v44 ^^^ (-306674912)) (fun v45 => j31 v45))))
def f_Model_goesOn (N : Nat) (a1 : Int32) (a2 : Int32) : Option (Int32) :=
  lt_ (a1 ^^^ a2) (fun v22 => lp_ (fun _ _ => none) (f_Model_goesOn_L6 ) N 0 v22)
def rm_Model_goesOn : Room := { frames := 0, cells := 0, slots := 0, locals := 0 }
set_option maxHeartbeats 4000000 in
set_option maxRecDepth 100000 in
theorem c_Model_goesOn (l : Launch) (g : GT) (E : (Nat → Prop) → State → Prop) (hEe : Ee E) (a1 : Int32) (a2 : Int32) (N : Nat) (z : Int32) (hf : f_Model_goesOn N a1 a2 = some z) : Cg l g E y_Model_goesOn ws_Model_goesOn rm_Model_goesOn [.int a1, .int a2] (wd_Model_goesOn g) (some (.int z)) (wd_Model_goesOn g) := by
  refine Ct.ofI hEe good_W (by decide) rfl (Nat.le_of_ble_eq_true rfl) ?_
  intro p e s m args below meth c A ls Q hC hw hl hret
  have hC : CX p m c b_Model_goesOn 4 s args Wall R_Model g.1 classes (tK g) E A := hC
  have hl : lv_has ls 4 [(0, .int a1), (1, .int a2)] := hl
  unfold f_Model_goesOn at hf
  refine n_iload_n hC hl 0 d_Model_goesOn_0 rfl rfl ?_
  refine n_iload_n hC hl 1 d_Model_goesOn_1 rfl rfl ?_
  refine n_ixor hC hf d_Model_goesOn_2 (fun v22 hf => ?_)
  refine n_istore_n hC [(2, .int v22), (0, .int a1), (1, .int a2)] hl d_Model_goesOn_3 rfl (by decide) rfl (fun ls hl => ?_)
  refine n_iconst hC 0 d_Model_goesOn_4 (by decide) ?_
  refine n_istore_n hC [(3, .int 0), (2, .int v22), (0, .int a1), (1, .int a2)] hl d_Model_goesOn_5 rfl (by decide) rfl (fun ls hl => ?_)
  have hL6 := lw2 (B := f_Model_goesOn_L6 ) (z := z) (fun (x29 : Int32) (x30 : Int32) => ∀ (H : Heap) (locs : List Loc) (ls : Array Slot), WS g.1 classes A s.heap H locs (wd_Model_goesOn g) → lv_has ls 4 [(3, .int x29), (2, .int x30)] → W p l e rm_Model_goesOn s m args below meth c H locs 0 0 Q (F0 m 6 ls [])) (by
    intro k6 hk6 x29 x30 hf H locs ls hw hl
    unfold f_Model_goesOn_L6 at hf
    refine n_iload_n hC hl 0 d_Model_goesOn_6 rfl rfl ?_
    refine n_bipush hC 8 d_Model_goesOn_7 (by decide) ?_
    refine n_icmp_ge hC hf 38 d_Model_goesOn_9 (by decide) (fun hf => ?_) (fun hf => ?_)
    · refine n_iload_n hC hl 1 d_Model_goesOn_38 rfl rfl ?_
      cases hf
      exact hret _ _ _ _ hw rfl d_Model_goesOn_39
    · refine n_iload_n hC hl 1 d_Model_goesOn_12 rfl rfl ?_
      refine n_iconst hC 1 d_Model_goesOn_13 (by decide) ?_
      refine n_iand hC hf d_Model_goesOn_14 (fun v37 hf => ?_)
      refine n_iconst hC 1 d_Model_goesOn_15 (by decide) ?_
      refine jn1 (fun (x41 : Int32) => ∀ (H : Heap) (locs : List Loc) (ls : Array Slot), WS g.1 classes A s.heap H locs (wd_Model_goesOn g) → lv_has ls 4 [(3, .int x29)] → W p l e rm_Model_goesOn s m args below meth c H locs 0 0 Q (F0 m 31 ls [.int x41])) hf (fun x41 hf H locs ls hw hl => ?_) (fun j31 hj31 hf => ?_)
      · refine n_istore_n hC [(2, .int x41), (3, .int x29)] hl d_Model_goesOn_31 rfl (by decide) rfl (fun ls hl => ?_)
        refine n_iinc hC (k := 1) hf (by decide) (fun v42 => [(3, .int v42), (2, .int x41)]) hl d_Model_goesOn_32 rfl (by decide) (fun _ => rfl) (fun v42 ls hf hl => ?_)
        refine n_goto hC 6 d_Model_goesOn_35 (by decide) ?_
        exact hk6 _ _ hf _ _ _ hw (lv_sub hl [0, 1] rfl)
      refine n_icmp_ne hC hf 28 d_Model_goesOn_16 (by decide) (fun hf => ?_) (fun hf => ?_)
      · refine n_iload_n hC hl 1 d_Model_goesOn_28 rfl rfl ?_
        refine n_iconst hC 1 d_Model_goesOn_29 (by decide) ?_
        refine n_iushr hC hf d_Model_goesOn_30 (fun v43 hf => ?_)
        exact hj31 _ hf _ _ _ hw (lv_sub hl [0] rfl)
      · refine n_iload_n hC hl 1 d_Model_goesOn_19 rfl rfl ?_
        refine n_iconst hC 1 d_Model_goesOn_20 (by decide) ?_
        refine n_iushr hC hf d_Model_goesOn_21 (fun v44 hf => ?_)
        refine n_ldc hC (-306674912) kc_Model_68 d_Model_goesOn_22 ?_
        refine n_ixor hC hf d_Model_goesOn_24 (fun v45 hf => ?_)
        refine n_goto hC 31 d_Model_goesOn_25 (by decide) ?_
        exact hj31 _ hf _ _ _ hw (lv_sub hl [0] rfl)
    )
  exact hL6 N _ _ hf _ _ _ hw (lv_sub hl [0, 1] rfl)
def wd_Model_sumOf (g : GT) (t_o : Nat) (t_disk_a : Nat) (t_sort_a : Nat) (t_first_a : Nat) (t_many_a : Nat) (t_name_a : Nat) (t_size_a : Nat) (t_seed_a : Nat) (t_scattered_a : Nat) (t_head_a : Nat) (t_follows_a : Nat) (t_memory_a : Nat) (t_thrown : Int32) (t_sectors : Int32) (t_partitions : Int32) (t_files : Int32) (t_address : Int32) (t_start : Int32) (t_fat : Int32) (t_clusters : Int32) (t_header : Int32) (t_found : Int32) (t_kernelAt : Int32) (t_kernelSize : Int32) (t_any : Int32) (t_disk : Nat → Int32) : va_W := [(t_o, .inr (7, [.int t_thrown, .int t_sectors, .ref t_disk_a, .int t_partitions, .ref t_sort_a, .ref t_first_a, .ref t_many_a, .int t_files, .ref t_name_a, .ref t_size_a, .ref t_seed_a, .ref t_scattered_a, .int t_address, .int t_start, .int t_fat, .int t_clusters, .ref t_head_a, .ref t_follows_a, .int t_header, .int t_found, .int t_kernelAt, .int t_kernelSize, .int t_any, .ref t_memory_a])), (t_disk_a, .inl (g.2.2.2.2, 307200, .inl t_disk))]
def f_Model_sumOf_L5 (N : Nat) (a2 : Int32) (a1 : Int32) (t_disk : Nat → Int32) (k5 : Int32 → Int32 → Option (Int32)) (x23 : Int32) (x24 : Int32) : Option (Int32) :=
  if a2 ≤ x23 then lt_ (x24 ^^^ (-1)) (fun v30 => some (v30)) else lt_ (a1 + x23) (fun v31 => bd_ (f_Model_get t_disk v31) (fun u32 => bd_ (f_Model_goesOn N x24 u32) (fun u33 => lt_ (x23 + 1) (fun v34 => k5 v34 u33))))
def f_Model_sumOf (N : Nat) (a2 : Int32) (a1 : Int32) (t_disk : Nat → Int32) : Option (Int32) :=
  lp_ (fun _ _ => none) (f_Model_sumOf_L5 N a2 a1 t_disk) N 0 (-1)
def rm_Model_sumOf : Room := { frames := 1, cells := 0, slots := 0, locals := 23 }
set_option maxHeartbeats 4000000 in
set_option maxRecDepth 100000 in
theorem c_Model_sumOf (l : Launch) (g : GT) (E : (Nat → Prop) → State → Prop) (hEe : Ee E) (t_o : Nat) (t_disk_a : Nat) (t_sort_a : Nat) (t_first_a : Nat) (t_many_a : Nat) (t_name_a : Nat) (t_size_a : Nat) (t_seed_a : Nat) (t_scattered_a : Nat) (t_head_a : Nat) (t_follows_a : Nat) (t_memory_a : Nat) (t_thrown : Int32) (t_sectors : Int32) (t_partitions : Int32) (t_files : Int32) (t_address : Int32) (t_start : Int32) (t_fat : Int32) (t_clusters : Int32) (t_header : Int32) (t_found : Int32) (t_kernelAt : Int32) (t_kernelSize : Int32) (t_any : Int32) (t_disk : Nat → Int32) (a1 : Int32) (a2 : Int32) (N : Nat) (z : Int32) (hf : f_Model_sumOf N a2 a1 t_disk = some z) : Cg l g E y_Model_sumOf ws_Model_sumOf rm_Model_sumOf [.ref t_o, .int a1, .int a2] (wd_Model_sumOf g t_o t_disk_a t_sort_a t_first_a t_many_a t_name_a t_size_a t_seed_a t_scattered_a t_head_a t_follows_a t_memory_a t_thrown t_sectors t_partitions t_files t_address t_start t_fat t_clusters t_header t_found t_kernelAt t_kernelSize t_any t_disk) (some (.int z)) (wd_Model_sumOf g t_o t_disk_a t_sort_a t_first_a t_many_a t_name_a t_size_a t_seed_a t_scattered_a t_head_a t_follows_a t_memory_a t_thrown t_sectors t_partitions t_files t_address t_start t_fat t_clusters t_header t_found t_kernelAt t_kernelSize t_any t_disk) := by
  refine Ct.ofI hEe good_W (by decide) rfl (Nat.le_of_ble_eq_true rfl) ?_
  intro p e s m args below meth c A ls Q hC hw hl hret
  have hC : CX p m c b_Model_sumOf 5 s args Wall R_Model g.1 classes (tK g) E A := hC
  have hl : lv_has ls 5 [(0, .ref t_o), (1, .int a1), (2, .int a2)] := hl
  unfold f_Model_sumOf at hf
  refine n_iconst hC (-1) d_Model_sumOf_0 (by decide) ?_
  refine n_istore_n hC [(3, .int (-1)), (0, .ref t_o), (1, .int a1), (2, .int a2)] hl d_Model_sumOf_1 rfl (by decide) rfl (fun ls hl => ?_)
  refine n_iconst hC 0 d_Model_sumOf_2 (by decide) ?_
  refine n_istore hC [(4, .int 0), (3, .int (-1)), (0, .ref t_o), (1, .int a1), (2, .int a2)] hl d_Model_sumOf_3 (by decide) rfl (fun ls hl => ?_)
  have hL5 := lw2 (B := f_Model_sumOf_L5 N a2 a1 t_disk) (z := z) (fun (x23 : Int32) (x24 : Int32) => ∀ (H : Heap) (locs : List Loc) (ls : Array Slot), WS g.1 classes A s.heap H locs (wd_Model_sumOf g t_o t_disk_a t_sort_a t_first_a t_many_a t_name_a t_size_a t_seed_a t_scattered_a t_head_a t_follows_a t_memory_a t_thrown t_sectors t_partitions t_files t_address t_start t_fat t_clusters t_header t_found t_kernelAt t_kernelSize t_any t_disk) → lv_has ls 5 [(4, .int x23), (3, .int x24), (0, .ref t_o), (1, .int a1), (2, .int a2)] → W p l e rm_Model_sumOf s m args below meth c H locs 0 0 Q (F0 m 5 ls [])) (by
    intro k5 hk5 x23 x24 hf H locs ls hw hl
    unfold f_Model_sumOf_L5 at hf
    refine n_iload hC hl 0 d_Model_sumOf_5 rfl ?_
    refine n_iload_n hC hl 4 d_Model_sumOf_7 rfl rfl ?_
    refine n_icmp_ge hC hf 30 d_Model_sumOf_8 (by decide) (fun hf => ?_) (fun hf => ?_)
    · refine n_iload_n hC hl 1 d_Model_sumOf_30 rfl rfl ?_
      refine n_iconst hC (-1) d_Model_sumOf_31 (by decide) ?_
      refine n_ixor hC hf d_Model_sumOf_32 (fun v30 hf => ?_)
      cases hf
      exact hret _ _ _ _ hw rfl d_Model_sumOf_33
    · refine n_iload_n hC hl 1 d_Model_sumOf_11 rfl rfl ?_
      refine n_aload_n hC hl 2 d_Model_sumOf_12 rfl rfl ?_
      refine n_iload_n hC hl 3 d_Model_sumOf_13 rfl rfl ?_
      refine n_iload hC hl 0 d_Model_sumOf_14 rfl ?_
      refine n_iadd hC hf d_Model_sumOf_16 (fun v31 hf => ?_)
      obtain ⟨u32, hu32, hf⟩ := bd_s hf
      refine n_callVi hC hw fc_Model_64 (c_Model_get l g E hEe t_o t_disk_a t_sort_a t_first_a t_many_a t_name_a t_size_a t_seed_a t_scattered_a t_head_a t_follows_a t_memory_a t_thrown t_sectors t_partitions t_files t_address t_start t_fat t_clusters t_header t_found t_kernelAt t_kernelSize t_any t_disk v31 u32 hu32) [0, 1] (wd_Model_sumOf g t_o t_disk_a t_sort_a t_first_a t_many_a t_name_a t_size_a t_seed_a t_scattered_a t_head_a t_follows_a t_memory_a t_thrown t_sectors t_partitions t_files t_address t_start t_fat t_clusters t_header t_found t_kernelAt t_kernelSize t_any t_disk) 0 rfl ⟨rfl, rfl⟩ ⟨Nat.le_of_ble_eq_true rfl, Nat.le_of_ble_eq_true rfl⟩ rfl (At_.cons rfl (At_.cons rfl At_.nil)) (At_.cons rfl (At_.cons rfl At_.nil)) Sm_.refl rfl hl.1 (Nat.le_of_ble_eq_true rfl) ⟨Nat.zero_le _, Nat.zero_le _⟩ d_Model_sumOf_17 (fun H locs hw => ?_) rfl
      obtain ⟨u33, hu33, hf⟩ := bd_s hf
      refine n_callSi hC hw fc_Model_69 (c_Model_goesOn l g E hEe x24 u32 N u33 hu33) [] (wd_Model_sumOf g t_o t_disk_a t_sort_a t_first_a t_many_a t_name_a t_size_a t_seed_a t_scattered_a t_head_a t_follows_a t_memory_a t_thrown t_sectors t_partitions t_files t_address t_start t_fat t_clusters t_header t_found t_kernelAt t_kernelSize t_any t_disk) ⟨rfl, rfl⟩ ⟨Nat.le_of_ble_eq_true rfl, Nat.le_of_ble_eq_true rfl⟩ rfl At_.nil At_.nil Sm_.refl rfl hl.1 (Nat.le_of_ble_eq_true rfl) ⟨Nat.zero_le _, Nat.zero_le _⟩ d_Model_sumOf_20 (fun H locs hw => ?_) rfl
      refine n_istore_n hC [(3, .int u33), (4, .int x23), (0, .ref t_o), (1, .int a1), (2, .int a2)] hl d_Model_sumOf_23 rfl (by decide) rfl (fun ls hl => ?_)
      refine n_iinc hC (k := 1) hf (by decide) (fun v34 => [(4, .int v34), (3, .int u33), (0, .ref t_o), (1, .int a1), (2, .int a2)]) hl d_Model_sumOf_24 rfl (by decide) (fun _ => rfl) (fun v34 ls hf hl => ?_)
      refine n_goto hC 5 d_Model_sumOf_27 (by decide) ?_
      exact hk5 _ _ hf _ _ _ hw (lv_sub hl [0, 1, 2, 3, 4] rfl)
    )
  exact hL5 N _ _ hf _ _ _ hw (lv_sub hl [0, 1, 2, 3, 4] rfl)
def wd_Model_byteAt (g : GT) (t_o : Nat) (t_disk_a : Nat) (t_sort_a : Nat) (t_first_a : Nat) (t_many_a : Nat) (t_name_a : Nat) (t_size_a : Nat) (t_seed_a : Nat) (t_scattered_a : Nat) (t_head_a : Nat) (t_follows_a : Nat) (t_memory_a : Nat) (t_thrown : Int32) (t_sectors : Int32) (t_partitions : Int32) (t_files : Int32) (t_address : Int32) (t_start : Int32) (t_fat : Int32) (t_clusters : Int32) (t_header : Int32) (t_found : Int32) (t_kernelAt : Int32) (t_kernelSize : Int32) (t_any : Int32) (t_disk : Nat → Int32) : va_W := [(t_o, .inr (7, [.int t_thrown, .int t_sectors, .ref t_disk_a, .int t_partitions, .ref t_sort_a, .ref t_first_a, .ref t_many_a, .int t_files, .ref t_name_a, .ref t_size_a, .ref t_seed_a, .ref t_scattered_a, .int t_address, .int t_start, .int t_fat, .int t_clusters, .ref t_head_a, .ref t_follows_a, .int t_header, .int t_found, .int t_kernelAt, .int t_kernelSize, .int t_any, .ref t_memory_a])), (t_disk_a, .inl (g.2.2.2.2, 307200, .inl t_disk))]
def f_Model_byteAt (t_sectors : Int32) (a1 : Int32) (t_disk : Nat → Int32) : Option (Int32 × Int32) :=
  lt_ ((512 : Int32) * t_sectors) (fun v5 => lt_ (v5 - 1) (fun v6 => bd_ (f_Model_in a1 0 v6) (fun u7 => if u7 = 0 then some ((-1), 0) else bd_ (f_Model_get t_disk a1) (fun u8 => some (u8, 0)))))
def rm_Model_byteAt : Room := { frames := 1, cells := 0, slots := 0, locals := 22 }
set_option maxHeartbeats 4000000 in
set_option maxRecDepth 100000 in
theorem c_Model_byteAt (l : Launch) (g : GT) (E : (Nat → Prop) → State → Prop) (hEe : Ee E) (t_o : Nat) (t_disk_a : Nat) (t_sort_a : Nat) (t_first_a : Nat) (t_many_a : Nat) (t_name_a : Nat) (t_size_a : Nat) (t_seed_a : Nat) (t_scattered_a : Nat) (t_head_a : Nat) (t_follows_a : Nat) (t_memory_a : Nat) (t_thrown : Int32) (t_sectors : Int32) (t_partitions : Int32) (t_files : Int32) (t_address : Int32) (t_start : Int32) (t_fat : Int32) (t_clusters : Int32) (t_header : Int32) (t_found : Int32) (t_kernelAt : Int32) (t_kernelSize : Int32) (t_any : Int32) (t_disk : Nat → Int32) (a1 : Int32) (z : Int32 × Int32) (hf : f_Model_byteAt t_sectors a1 t_disk = some z) : Cg l g E y_Model_byteAt ws_Model_byteAt rm_Model_byteAt [.ref t_o, .int a1] (wd_Model_byteAt g t_o t_disk_a t_sort_a t_first_a t_many_a t_name_a t_size_a t_seed_a t_scattered_a t_head_a t_follows_a t_memory_a t_thrown t_sectors t_partitions t_files t_address t_start t_fat t_clusters t_header t_found t_kernelAt t_kernelSize t_any t_disk) (some (.int z.1)) (wd_Model_byteAt g t_o t_disk_a t_sort_a t_first_a t_many_a t_name_a t_size_a t_seed_a t_scattered_a t_head_a t_follows_a t_memory_a z.2 t_sectors t_partitions t_files t_address t_start t_fat t_clusters t_header t_found t_kernelAt t_kernelSize t_any t_disk) := by
  refine Ct.ofI hEe good_W (by decide) rfl (Nat.le_of_ble_eq_true rfl) ?_
  intro p e s m args below meth c A ls Q hC hw hl hret
  have hC : CX p m c b_Model_byteAt 2 s args Wall R_Model g.1 classes (tK g) E A := hC
  have hl : lv_has ls 2 [(0, .ref t_o), (1, .int a1)] := hl
  unfold f_Model_byteAt at hf
  refine n_aload_n hC hl 0 d_Model_byteAt_0 rfl rfl ?_
  refine n_iconst hC 0 d_Model_byteAt_1 (by decide) ?_
  refine n_put hC hw fp_Model_61 0 (wd_Model_byteAt g t_o t_disk_a t_sort_a t_first_a t_many_a t_name_a t_size_a t_seed_a t_scattered_a t_head_a t_follows_a t_memory_a 0 t_sectors t_partitions t_files t_address t_start t_fat t_clusters t_header t_found t_kernelAt t_kernelSize t_any t_disk) rfl rfl rfl (Nat.le_of_ble_eq_true rfl) d_Model_byteAt_2 rfl (fun H locs hw => ?_)
  refine n_iload_n hC hl 1 d_Model_byteAt_5 rfl rfl ?_
  refine n_iconst hC 0 d_Model_byteAt_6 (by decide) ?_
  refine n_sipush hC 512 d_Model_byteAt_7 (by decide) ?_
  refine n_aload_n hC hl 0 d_Model_byteAt_10 rfl rfl ?_
  refine n_get hC hw fg_Model_48 0 rfl rfl d_Model_byteAt_11 ?_
  refine n_imul hC hf d_Model_byteAt_14 (fun v5 hf => ?_)
  refine n_iconst hC 1 d_Model_byteAt_15 (by decide) ?_
  refine n_isub hC hf d_Model_byteAt_16 (fun v6 hf => ?_)
  obtain ⟨u7, hu7, hf⟩ := bd_s hf
  refine n_callSi hC hw fc_Model_73 (c_Model_in l g E hEe a1 0 v6 u7 hu7) [] (wd_Model_byteAt g t_o t_disk_a t_sort_a t_first_a t_many_a t_name_a t_size_a t_seed_a t_scattered_a t_head_a t_follows_a t_memory_a 0 t_sectors t_partitions t_files t_address t_start t_fat t_clusters t_header t_found t_kernelAt t_kernelSize t_any t_disk) ⟨rfl, rfl⟩ ⟨Nat.le_of_ble_eq_true rfl, Nat.le_of_ble_eq_true rfl⟩ rfl At_.nil At_.nil Sm_.refl rfl hl.1 (Nat.le_of_ble_eq_true rfl) ⟨Nat.zero_le _, Nat.zero_le _⟩ d_Model_byteAt_17 (fun H locs hw => ?_) rfl
  refine n_if_eq hC hf 31 d_Model_byteAt_20 (by decide) (fun hf => ?_) (fun hf => ?_)
  · refine n_iconst hC (-1) d_Model_byteAt_31 (by decide) ?_
    cases hf
    exact hret _ _ _ _ hw (show narrow .int (Value.int (-1)) = Value.int (-1) from rfl) d_Model_byteAt_32
  · refine n_aload_n hC hl 0 d_Model_byteAt_23 rfl rfl ?_
    refine n_iload_n hC hl 1 d_Model_byteAt_24 rfl rfl ?_
    obtain ⟨u8, hu8, hf⟩ := bd_s hf
    refine n_callVi hC hw fc_Model_64 (c_Model_get l g E hEe t_o t_disk_a t_sort_a t_first_a t_many_a t_name_a t_size_a t_seed_a t_scattered_a t_head_a t_follows_a t_memory_a 0 t_sectors t_partitions t_files t_address t_start t_fat t_clusters t_header t_found t_kernelAt t_kernelSize t_any t_disk a1 u8 hu8) [0, 1] (wd_Model_byteAt g t_o t_disk_a t_sort_a t_first_a t_many_a t_name_a t_size_a t_seed_a t_scattered_a t_head_a t_follows_a t_memory_a 0 t_sectors t_partitions t_files t_address t_start t_fat t_clusters t_header t_found t_kernelAt t_kernelSize t_any t_disk) 0 rfl ⟨rfl, rfl⟩ ⟨Nat.le_of_ble_eq_true rfl, Nat.le_of_ble_eq_true rfl⟩ rfl (At_.cons rfl (At_.cons rfl At_.nil)) (At_.cons rfl (At_.cons rfl At_.nil)) Sm_.refl rfl hl.1 (Nat.le_of_ble_eq_true rfl) ⟨Nat.zero_le _, Nat.zero_le _⟩ d_Model_byteAt_25 (fun H locs hw => ?_) rfl
    refine n_goto hC 32 d_Model_byteAt_28 (by decide) ?_
    cases hf
    exact hret _ _ _ _ hw (show narrow .int (Value.int u8) = Value.int u8 from rfl) d_Model_byteAt_32
def wd_Model_poke (g : GT) (t_o : Nat) (t_disk_a : Nat) (t_sort_a : Nat) (t_first_a : Nat) (t_many_a : Nat) (t_name_a : Nat) (t_size_a : Nat) (t_seed_a : Nat) (t_scattered_a : Nat) (t_head_a : Nat) (t_follows_a : Nat) (t_memory_a : Nat) (t_thrown : Int32) (t_sectors : Int32) (t_partitions : Int32) (t_files : Int32) (t_address : Int32) (t_start : Int32) (t_fat : Int32) (t_clusters : Int32) (t_header : Int32) (t_found : Int32) (t_kernelAt : Int32) (t_kernelSize : Int32) (t_any : Int32) (t_disk : Nat → Int32) : va_W := [(t_o, .inr (7, [.int t_thrown, .int t_sectors, .ref t_disk_a, .int t_partitions, .ref t_sort_a, .ref t_first_a, .ref t_many_a, .int t_files, .ref t_name_a, .ref t_size_a, .ref t_seed_a, .ref t_scattered_a, .int t_address, .int t_start, .int t_fat, .int t_clusters, .ref t_head_a, .ref t_follows_a, .int t_header, .int t_found, .int t_kernelAt, .int t_kernelSize, .int t_any, .ref t_memory_a])), (t_disk_a, .inl (g.2.2.2.2, 307200, .inl t_disk))]
def f_Model_poke (t_sectors : Int32) (a1 : Int32) (t_disk : Nat → Int32) (a2 : Int32) : Option (Int32 × Int32 × (Nat → Int32)) :=
  lt_ ((512 : Int32) * t_sectors) (fun v7 => lt_ (v7 - 1) (fun v8 => bd_ (f_Model_in a1 0 v8) (fun u9 => if ¬ u9 = 0 then bd_ (f_Model_get t_disk a1) (fun u10 => lt_ (a2.toInt8.toInt32) (fun v11 => up_b 307200 t_disk a1 v11 (fun (f12 : Nat → Int32) => some (u10, 0, f12)))) else some ((-1), 0, t_disk))))
def rm_Model_poke : Room := { frames := 1, cells := 0, slots := 0, locals := 22 }
set_option maxHeartbeats 4000000 in
set_option maxRecDepth 100000 in
theorem c_Model_poke (l : Launch) (g : GT) (E : (Nat → Prop) → State → Prop) (hEe : Ee E) (t_o : Nat) (t_disk_a : Nat) (t_sort_a : Nat) (t_first_a : Nat) (t_many_a : Nat) (t_name_a : Nat) (t_size_a : Nat) (t_seed_a : Nat) (t_scattered_a : Nat) (t_head_a : Nat) (t_follows_a : Nat) (t_memory_a : Nat) (t_thrown : Int32) (t_sectors : Int32) (t_partitions : Int32) (t_files : Int32) (t_address : Int32) (t_start : Int32) (t_fat : Int32) (t_clusters : Int32) (t_header : Int32) (t_found : Int32) (t_kernelAt : Int32) (t_kernelSize : Int32) (t_any : Int32) (t_disk : Nat → Int32) (a1 : Int32) (a2 : Int32) (z : Int32 × Int32 × (Nat → Int32)) (hf : f_Model_poke t_sectors a1 t_disk a2 = some z) : Cg l g E y_Model_poke ws_Model_poke rm_Model_poke [.ref t_o, .int a1, .int a2] (wd_Model_poke g t_o t_disk_a t_sort_a t_first_a t_many_a t_name_a t_size_a t_seed_a t_scattered_a t_head_a t_follows_a t_memory_a t_thrown t_sectors t_partitions t_files t_address t_start t_fat t_clusters t_header t_found t_kernelAt t_kernelSize t_any t_disk) (some (.int z.1)) (wd_Model_poke g t_o t_disk_a t_sort_a t_first_a t_many_a t_name_a t_size_a t_seed_a t_scattered_a t_head_a t_follows_a t_memory_a z.2.1 t_sectors t_partitions t_files t_address t_start t_fat t_clusters t_header t_found t_kernelAt t_kernelSize t_any z.2.2) := by
  refine Ct.ofI hEe good_W (by decide) rfl (Nat.le_of_ble_eq_true rfl) ?_
  intro p e s m args below meth c A ls Q hC hw hl hret
  have hC : CX p m c b_Model_poke 4 s args Wall R_Model g.1 classes (tK g) E A := hC
  have hl : lv_has ls 4 [(0, .ref t_o), (1, .int a1), (2, .int a2)] := hl
  unfold f_Model_poke at hf
  refine n_aload_n hC hl 0 d_Model_poke_0 rfl rfl ?_
  refine n_iconst hC 0 d_Model_poke_1 (by decide) ?_
  refine n_put hC hw fp_Model_61 0 (wd_Model_poke g t_o t_disk_a t_sort_a t_first_a t_many_a t_name_a t_size_a t_seed_a t_scattered_a t_head_a t_follows_a t_memory_a 0 t_sectors t_partitions t_files t_address t_start t_fat t_clusters t_header t_found t_kernelAt t_kernelSize t_any t_disk) rfl rfl rfl (Nat.le_of_ble_eq_true rfl) d_Model_poke_2 rfl (fun H locs hw => ?_)
  refine n_iload_n hC hl 1 d_Model_poke_5 rfl rfl ?_
  refine n_iconst hC 0 d_Model_poke_6 (by decide) ?_
  refine n_sipush hC 512 d_Model_poke_7 (by decide) ?_
  refine n_aload_n hC hl 0 d_Model_poke_10 rfl rfl ?_
  refine n_get hC hw fg_Model_48 0 rfl rfl d_Model_poke_11 ?_
  refine n_imul hC hf d_Model_poke_14 (fun v7 hf => ?_)
  refine n_iconst hC 1 d_Model_poke_15 (by decide) ?_
  refine n_isub hC hf d_Model_poke_16 (fun v8 hf => ?_)
  obtain ⟨u9, hu9, hf⟩ := bd_s hf
  refine n_callSi hC hw fc_Model_73 (c_Model_in l g E hEe a1 0 v8 u9 hu9) [] (wd_Model_poke g t_o t_disk_a t_sort_a t_first_a t_many_a t_name_a t_size_a t_seed_a t_scattered_a t_head_a t_follows_a t_memory_a 0 t_sectors t_partitions t_files t_address t_start t_fat t_clusters t_header t_found t_kernelAt t_kernelSize t_any t_disk) ⟨rfl, rfl⟩ ⟨Nat.le_of_ble_eq_true rfl, Nat.le_of_ble_eq_true rfl⟩ rfl At_.nil At_.nil Sm_.refl rfl hl.1 (Nat.le_of_ble_eq_true rfl) ⟨Nat.zero_le _, Nat.zero_le _⟩ d_Model_poke_17 (fun H locs hw => ?_) rfl
  refine n_if_ne hC hf 25 d_Model_poke_20 (by decide) (fun hf => ?_) (fun hf => ?_)
  · refine n_aload_n hC hl 0 d_Model_poke_25 rfl rfl ?_
    refine n_iload_n hC hl 1 d_Model_poke_26 rfl rfl ?_
    obtain ⟨u10, hu10, hf⟩ := bd_s hf
    refine n_callVi hC hw fc_Model_64 (c_Model_get l g E hEe t_o t_disk_a t_sort_a t_first_a t_many_a t_name_a t_size_a t_seed_a t_scattered_a t_head_a t_follows_a t_memory_a 0 t_sectors t_partitions t_files t_address t_start t_fat t_clusters t_header t_found t_kernelAt t_kernelSize t_any t_disk a1 u10 hu10) [0, 1] (wd_Model_poke g t_o t_disk_a t_sort_a t_first_a t_many_a t_name_a t_size_a t_seed_a t_scattered_a t_head_a t_follows_a t_memory_a 0 t_sectors t_partitions t_files t_address t_start t_fat t_clusters t_header t_found t_kernelAt t_kernelSize t_any t_disk) 0 rfl ⟨rfl, rfl⟩ ⟨Nat.le_of_ble_eq_true rfl, Nat.le_of_ble_eq_true rfl⟩ rfl (At_.cons rfl (At_.cons rfl At_.nil)) (At_.cons rfl (At_.cons rfl At_.nil)) Sm_.refl rfl hl.1 (Nat.le_of_ble_eq_true rfl) ⟨Nat.zero_le _, Nat.zero_le _⟩ d_Model_poke_27 (fun H locs hw => ?_) rfl
    refine n_istore_n hC [(3, .int u10), (0, .ref t_o), (1, .int a1), (2, .int a2)] hl d_Model_poke_30 rfl (by decide) rfl (fun ls hl => ?_)
    refine n_aload_n hC hl 1 d_Model_poke_31 rfl rfl ?_
    refine n_get hC hw fg_Model_8 0 rfl rfl d_Model_poke_32 ?_
    refine n_iload_n hC hl 2 d_Model_poke_35 rfl rfl ?_
    refine n_iload_n hC hl 3 d_Model_poke_36 rfl rfl ?_
    refine n_i2b hC hf d_Model_poke_37 (fun v11 hf => ?_)
    refine n_bast hC hw hf 1 3 (fun f12 => wd_Model_poke g t_o t_disk_a t_sort_a t_first_a t_many_a t_name_a t_size_a t_seed_a t_scattered_a t_head_a t_follows_a t_memory_a 0 t_sectors t_partitions t_files t_address t_start t_fat t_clusters t_header t_found t_kernelAt t_kernelSize t_any f12) rfl rfl d_Model_poke_38 (fun _ => rfl) (fun f12 H locs hf hw => ?_)
    refine n_iload_n hC hl 0 d_Model_poke_39 rfl rfl ?_
    cases hf
    exact hret _ _ _ _ hw (show narrow .int (Value.int u10) = Value.int u10 from rfl) d_Model_poke_40
  · refine n_iconst hC (-1) d_Model_poke_23 (by decide) ?_
    cases hf
    exact hret _ _ _ _ hw (show narrow .int (Value.int (-1)) = Value.int (-1) from rfl) d_Model_poke_24
def wd_Model_sum (g : GT) (t_o : Nat) (t_disk_a : Nat) (t_sort_a : Nat) (t_first_a : Nat) (t_many_a : Nat) (t_name_a : Nat) (t_size_a : Nat) (t_seed_a : Nat) (t_scattered_a : Nat) (t_head_a : Nat) (t_follows_a : Nat) (t_memory_a : Nat) (t_thrown : Int32) (t_sectors : Int32) (t_partitions : Int32) (t_files : Int32) (t_address : Int32) (t_start : Int32) (t_fat : Int32) (t_clusters : Int32) (t_header : Int32) (t_found : Int32) (t_kernelAt : Int32) (t_kernelSize : Int32) (t_any : Int32) (t_disk : Nat → Int32) : va_W := [(t_o, .inr (7, [.int t_thrown, .int t_sectors, .ref t_disk_a, .int t_partitions, .ref t_sort_a, .ref t_first_a, .ref t_many_a, .int t_files, .ref t_name_a, .ref t_size_a, .ref t_seed_a, .ref t_scattered_a, .int t_address, .int t_start, .int t_fat, .int t_clusters, .ref t_head_a, .ref t_follows_a, .int t_header, .int t_found, .int t_kernelAt, .int t_kernelSize, .int t_any, .ref t_memory_a])), (t_disk_a, .inl (g.2.2.2.2, 307200, .inl t_disk))]
def f_Model_sum (N : Nat) (a2 : Int32) (a1 : Int32) (t_sectors : Int32) (t_disk : Nat → Int32) : Option (Int32 × Int32) :=
  if a2 < 0 then some (0, 0) else if a1 < 0 then some (0, 0) else lt_ (a1.toInt64) (fun v8 => lt_ (a2.toInt64) (fun v9 => lt_ (v8 + v9) (fun v10 => lt_ (t_sectors.toInt64) (fun v11 => lt_ ((512 : Int64) * v11) (fun v12 => lt_ (lg_cmp v10 v12) (fun v13 => if 0 < v13 then some (0, 0) else bd_ (f_Model_sumOf N a2 a1 t_disk) (fun u14 => some (u14, 0))))))))
def rm_Model_sum : Room := { frames := 2, cells := 0, slots := 0, locals := 47 }
set_option maxHeartbeats 4000000 in
set_option maxRecDepth 100000 in
theorem c_Model_sum (l : Launch) (g : GT) (E : (Nat → Prop) → State → Prop) (hEe : Ee E) (t_o : Nat) (t_disk_a : Nat) (t_sort_a : Nat) (t_first_a : Nat) (t_many_a : Nat) (t_name_a : Nat) (t_size_a : Nat) (t_seed_a : Nat) (t_scattered_a : Nat) (t_head_a : Nat) (t_follows_a : Nat) (t_memory_a : Nat) (t_thrown : Int32) (t_sectors : Int32) (t_partitions : Int32) (t_files : Int32) (t_address : Int32) (t_start : Int32) (t_fat : Int32) (t_clusters : Int32) (t_header : Int32) (t_found : Int32) (t_kernelAt : Int32) (t_kernelSize : Int32) (t_any : Int32) (t_disk : Nat → Int32) (a1 : Int32) (a2 : Int32) (N : Nat) (z : Int32 × Int32) (hf : f_Model_sum N a2 a1 t_sectors t_disk = some z) : Cg l g E y_Model_sum ws_Model_sum rm_Model_sum [.ref t_o, .int a1, .int a2] (wd_Model_sum g t_o t_disk_a t_sort_a t_first_a t_many_a t_name_a t_size_a t_seed_a t_scattered_a t_head_a t_follows_a t_memory_a t_thrown t_sectors t_partitions t_files t_address t_start t_fat t_clusters t_header t_found t_kernelAt t_kernelSize t_any t_disk) (some (.int z.1)) (wd_Model_sum g t_o t_disk_a t_sort_a t_first_a t_many_a t_name_a t_size_a t_seed_a t_scattered_a t_head_a t_follows_a t_memory_a z.2 t_sectors t_partitions t_files t_address t_start t_fat t_clusters t_header t_found t_kernelAt t_kernelSize t_any t_disk) := by
  refine Ct.ofI hEe good_W (by decide) rfl (Nat.le_of_ble_eq_true rfl) ?_
  intro p e s m args below meth c A ls Q hC hw hl hret
  have hC : CX p m c b_Model_sum 3 s args Wall R_Model g.1 classes (tK g) E A := hC
  have hl : lv_has ls 3 [(0, .ref t_o), (1, .int a1), (2, .int a2)] := hl
  unfold f_Model_sum at hf
  refine n_aload_n hC hl 0 d_Model_sum_0 rfl rfl ?_
  refine n_iconst hC 0 d_Model_sum_1 (by decide) ?_
  refine n_put hC hw fp_Model_61 0 (wd_Model_sum g t_o t_disk_a t_sort_a t_first_a t_many_a t_name_a t_size_a t_seed_a t_scattered_a t_head_a t_follows_a t_memory_a 0 t_sectors t_partitions t_files t_address t_start t_fat t_clusters t_header t_found t_kernelAt t_kernelSize t_any t_disk) rfl rfl rfl (Nat.le_of_ble_eq_true rfl) d_Model_sum_2 rfl (fun H locs hw => ?_)
  refine n_iload_n hC hl 2 d_Model_sum_5 rfl rfl ?_
  refine n_if_lt hC hf 40 d_Model_sum_6 (by decide) (fun hf => ?_) (fun hf => ?_)
  · refine n_iconst hC 0 d_Model_sum_40 (by decide) ?_
    cases hf
    exact hret _ _ _ _ hw (show narrow .int (Value.int 0) = Value.int 0 from rfl) d_Model_sum_41
  · refine n_iload_n hC hl 1 d_Model_sum_9 rfl rfl ?_
    refine n_if_lt hC hf 40 d_Model_sum_10 (by decide) (fun hf => ?_) (fun hf => ?_)
    · refine n_iconst hC 0 d_Model_sum_40 (by decide) ?_
      cases hf
      exact hret _ _ _ _ hw (show narrow .int (Value.int 0) = Value.int 0 from rfl) d_Model_sum_41
    · refine n_iload_n hC hl 1 d_Model_sum_13 rfl rfl ?_
      refine n_i2l hC hf d_Model_sum_14 (fun v8 hf => ?_)
      refine n_iload_n hC hl 2 d_Model_sum_15 rfl rfl ?_
      refine n_i2l hC hf d_Model_sum_16 (fun v9 hf => ?_)
      refine n_ladd hC hf d_Model_sum_17 (fun v10 hf => ?_)
      refine n_ldc2 hC 512 kc_Model_77 d_Model_sum_18 ?_
      refine n_aload_n hC hl 0 d_Model_sum_21 rfl rfl ?_
      refine n_get hC hw fg_Model_48 0 rfl rfl d_Model_sum_22 ?_
      refine n_i2l hC hf d_Model_sum_25 (fun v11 hf => ?_)
      refine n_lmul hC hf d_Model_sum_26 (fun v12 hf => ?_)
      refine n_lcmp hC hf d_Model_sum_27 (fun v13 hf => ?_)
      refine n_if_gt hC hf 40 d_Model_sum_28 (by decide) (fun hf => ?_) (fun hf => ?_)
      · refine n_iconst hC 0 d_Model_sum_40 (by decide) ?_
        cases hf
        exact hret _ _ _ _ hw (show narrow .int (Value.int 0) = Value.int 0 from rfl) d_Model_sum_41
      · refine n_aload_n hC hl 0 d_Model_sum_31 rfl rfl ?_
        refine n_iload_n hC hl 1 d_Model_sum_32 rfl rfl ?_
        refine n_iload_n hC hl 2 d_Model_sum_33 rfl rfl ?_
        obtain ⟨u14, hu14, hf⟩ := bd_s hf
        refine n_callVi hC hw fc_Model_79 (c_Model_sumOf l g E hEe t_o t_disk_a t_sort_a t_first_a t_many_a t_name_a t_size_a t_seed_a t_scattered_a t_head_a t_follows_a t_memory_a 0 t_sectors t_partitions t_files t_address t_start t_fat t_clusters t_header t_found t_kernelAt t_kernelSize t_any t_disk a1 a2 N u14 hu14) [0, 1] (wd_Model_sum g t_o t_disk_a t_sort_a t_first_a t_many_a t_name_a t_size_a t_seed_a t_scattered_a t_head_a t_follows_a t_memory_a 0 t_sectors t_partitions t_files t_address t_start t_fat t_clusters t_header t_found t_kernelAt t_kernelSize t_any t_disk) 0 rfl ⟨rfl, rfl⟩ ⟨Nat.le_of_ble_eq_true rfl, Nat.le_of_ble_eq_true rfl⟩ rfl (At_.cons rfl (At_.cons rfl At_.nil)) (At_.cons rfl (At_.cons rfl At_.nil)) Sm_.refl rfl hl.1 (Nat.le_of_ble_eq_true rfl) ⟨Nat.zero_le _, Nat.zero_le _⟩ d_Model_sum_34 (fun H locs hw => ?_) rfl
        refine n_goto hC 41 d_Model_sum_37 (by decide) ?_
        cases hf
        exact hret _ _ _ _ hw (show narrow .int (Value.int u14) = Value.int u14 from rfl) d_Model_sum_41
def wd_Model_partition (g : GT) (t_o : Nat) (t_sort_a : Nat) (t_first_a : Nat) (t_many_a : Nat) (t_disk_a : Nat) (t_name_a : Nat) (t_size_a : Nat) (t_seed_a : Nat) (t_scattered_a : Nat) (t_head_a : Nat) (t_follows_a : Nat) (t_memory_a : Nat) (t_thrown : Int32) (t_sectors : Int32) (t_partitions : Int32) (t_files : Int32) (t_address : Int32) (t_start : Int32) (t_fat : Int32) (t_clusters : Int32) (t_header : Int32) (t_found : Int32) (t_kernelAt : Int32) (t_kernelSize : Int32) (t_any : Int32) (t_sort : Nat → Int32) (t_first : Nat → Int32) (t_many : Nat → Int32) : va_W := [(t_o, .inr (7, [.int t_thrown, .int t_sectors, .ref t_disk_a, .int t_partitions, .ref t_sort_a, .ref t_first_a, .ref t_many_a, .int t_files, .ref t_name_a, .ref t_size_a, .ref t_seed_a, .ref t_scattered_a, .int t_address, .int t_start, .int t_fat, .int t_clusters, .ref t_head_a, .ref t_follows_a, .int t_header, .int t_found, .int t_kernelAt, .int t_kernelSize, .int t_any, .ref t_memory_a])), (t_sort_a, .inl (g.2.1, 4, .inl t_sort)), (t_first_a, .inl (g.2.1, 4, .inl t_first)), (t_many_a, .inl (g.2.1, 4, .inl t_many))]
def f_Model_partition (a1 : Int32) (t_partitions : Int32) (t_sort : Nat → Int32) (t_first : Nat → Int32) (t_many : Nat → Int32) (a2 : Int32) (t_sectors : Int32) : Option (Int32 × Int32 × Int32 × (Nat → Int32) × (Nat → Int32) × (Nat → Int32)) :=
  bd_ (f_Model_in a1 0 1) (fun u27 => if u27 = 0 then some ((-2), 0, t_partitions, t_sort, t_first, t_many) else bd_ (f_Model_in a2 8 600) (fun u28 => if ¬ u28 = 0 then if ¬ t_partitions = (4 : Int32) then lt_ (fun (x37 : Int32) => lt_ (x37 + a2) (fun v38 => lt_ (v38 - 1) (fun v39 => lt_ (t_sectors - 34) (fun v40 => if v39 ≤ v40 then up_i 4 t_sort t_partitions a1 (fun (f41 : Nat → Int32) => up_i 4 t_first t_partitions x37 (fun (f42 : Nat → Int32) => up_i 4 t_many t_partitions a2 (fun (f43 : Nat → Int32) => lt_ (t_partitions + 1) (fun v44 => lt_ (v44 - 1) (fun v45 => some (v45, 0, v44, f41, f42, f43)))))) else some ((-3), 0, t_partitions, t_sort, t_first, t_many))))) (fun (j84 : Int32 → Option (Int32 × Int32 × Int32 × (Nat → Int32) × (Nat → Int32) × (Nat → Int32))) => if ¬ t_partitions = 0 then lt_ (t_partitions - 1) (fun v46 => ix_ 4 t_first v46 (fun (v47 : Int32) => lt_ (t_partitions - 1) (fun v48 => ix_ 4 t_many v48 (fun (v49 : Int32) => lt_ (v47 + v49) (fun v50 => lt_ (v50 + 7) (fun v51 => lt_ (v51 / 8) (fun v52 => lt_ (v52 * 8) (fun v53 => j84 v53)))))))) else j84 40) else some ((-3), 0, t_partitions, t_sort, t_first, t_many) else some ((-2), 0, t_partitions, t_sort, t_first, t_many)))
def rm_Model_partition : Room := { frames := 1, cells := 0, slots := 0, locals := 22 }
set_option maxHeartbeats 4000000 in
set_option maxRecDepth 100000 in
theorem c_Model_partition (l : Launch) (g : GT) (E : (Nat → Prop) → State → Prop) (hEe : Ee E) (t_o : Nat) (t_sort_a : Nat) (t_first_a : Nat) (t_many_a : Nat) (t_disk_a : Nat) (t_name_a : Nat) (t_size_a : Nat) (t_seed_a : Nat) (t_scattered_a : Nat) (t_head_a : Nat) (t_follows_a : Nat) (t_memory_a : Nat) (t_thrown : Int32) (t_sectors : Int32) (t_partitions : Int32) (t_files : Int32) (t_address : Int32) (t_start : Int32) (t_fat : Int32) (t_clusters : Int32) (t_header : Int32) (t_found : Int32) (t_kernelAt : Int32) (t_kernelSize : Int32) (t_any : Int32) (t_sort : Nat → Int32) (t_first : Nat → Int32) (t_many : Nat → Int32) (a1 : Int32) (a2 : Int32) (z : Int32 × Int32 × Int32 × (Nat → Int32) × (Nat → Int32) × (Nat → Int32)) (hf : f_Model_partition a1 t_partitions t_sort t_first t_many a2 t_sectors = some z) : Cg l g E y_Model_partition ws_Model_partition rm_Model_partition [.ref t_o, .int a1, .int a2] (wd_Model_partition g t_o t_sort_a t_first_a t_many_a t_disk_a t_name_a t_size_a t_seed_a t_scattered_a t_head_a t_follows_a t_memory_a t_thrown t_sectors t_partitions t_files t_address t_start t_fat t_clusters t_header t_found t_kernelAt t_kernelSize t_any t_sort t_first t_many) (some (.int z.1)) (wd_Model_partition g t_o t_sort_a t_first_a t_many_a t_disk_a t_name_a t_size_a t_seed_a t_scattered_a t_head_a t_follows_a t_memory_a z.2.1 t_sectors z.2.2.1 t_files t_address t_start t_fat t_clusters t_header t_found t_kernelAt t_kernelSize t_any z.2.2.2.1 z.2.2.2.2.1 z.2.2.2.2.2) := by
  refine Ct.ofI hEe good_W (by decide) rfl (Nat.le_of_ble_eq_true rfl) ?_
  intro p e s m args below meth c A ls Q hC hw hl hret
  have hC : CX p m c b_Model_partition 4 s args Wall R_Model g.1 classes (tK g) E A := hC
  have hl : lv_has ls 4 [(0, .ref t_o), (1, .int a1), (2, .int a2)] := hl
  unfold f_Model_partition at hf
  refine n_aload_n hC hl 0 d_Model_partition_0 rfl rfl ?_
  refine n_iconst hC 0 d_Model_partition_1 (by decide) ?_
  refine n_put hC hw fp_Model_61 0 (wd_Model_partition g t_o t_sort_a t_first_a t_many_a t_disk_a t_name_a t_size_a t_seed_a t_scattered_a t_head_a t_follows_a t_memory_a 0 t_sectors t_partitions t_files t_address t_start t_fat t_clusters t_header t_found t_kernelAt t_kernelSize t_any t_sort t_first t_many) rfl rfl rfl (Nat.le_of_ble_eq_true rfl) d_Model_partition_2 rfl (fun H locs hw => ?_)
  refine n_iload_n hC hl 1 d_Model_partition_5 rfl rfl ?_
  refine n_iconst hC 0 d_Model_partition_6 (by decide) ?_
  refine n_iconst hC 1 d_Model_partition_7 (by decide) ?_
  obtain ⟨u27, hu27, hf⟩ := bd_s hf
  refine n_callSi hC hw fc_Model_73 (c_Model_in l g E hEe a1 0 1 u27 hu27) [] (wd_Model_partition g t_o t_sort_a t_first_a t_many_a t_disk_a t_name_a t_size_a t_seed_a t_scattered_a t_head_a t_follows_a t_memory_a 0 t_sectors t_partitions t_files t_address t_start t_fat t_clusters t_header t_found t_kernelAt t_kernelSize t_any t_sort t_first t_many) ⟨rfl, rfl⟩ ⟨Nat.le_of_ble_eq_true rfl, Nat.le_of_ble_eq_true rfl⟩ rfl At_.nil At_.nil Sm_.refl rfl hl.1 (Nat.le_of_ble_eq_true rfl) ⟨Nat.zero_le _, Nat.zero_le _⟩ d_Model_partition_8 (fun H locs hw => ?_) rfl
  refine n_if_eq hC hf 26 d_Model_partition_11 (by decide) (fun hf => ?_) (fun hf => ?_)
  · refine n_bipush hC (-2) d_Model_partition_26 (by decide) ?_
    cases hf
    exact hret _ _ _ _ hw (show narrow .int (Value.int (-2)) = Value.int (-2) from rfl) d_Model_partition_28
  · refine n_iload_n hC hl 2 d_Model_partition_14 rfl rfl ?_
    refine n_bipush hC 8 d_Model_partition_15 (by decide) ?_
    refine n_sipush hC 600 d_Model_partition_17 (by decide) ?_
    obtain ⟨u28, hu28, hf⟩ := bd_s hf
    refine n_callSi hC hw fc_Model_73 (c_Model_in l g E hEe a2 8 600 u28 hu28) [] (wd_Model_partition g t_o t_sort_a t_first_a t_many_a t_disk_a t_name_a t_size_a t_seed_a t_scattered_a t_head_a t_follows_a t_memory_a 0 t_sectors t_partitions t_files t_address t_start t_fat t_clusters t_header t_found t_kernelAt t_kernelSize t_any t_sort t_first t_many) ⟨rfl, rfl⟩ ⟨Nat.le_of_ble_eq_true rfl, Nat.le_of_ble_eq_true rfl⟩ rfl At_.nil At_.nil Sm_.refl rfl hl.1 (Nat.le_of_ble_eq_true rfl) ⟨Nat.zero_le _, Nat.zero_le _⟩ d_Model_partition_20 (fun H locs hw => ?_) rfl
    refine n_if_ne hC hf 29 d_Model_partition_23 (by decide) (fun hf => ?_) (fun hf => ?_)
    · refine n_aload_n hC hl 0 d_Model_partition_29 rfl rfl ?_
      refine n_get hC hw fg_Model_82 0 rfl rfl d_Model_partition_30 ?_
      refine n_iconst hC 4 d_Model_partition_33 (by decide) ?_
      refine n_icmp_ne hC hf 40 d_Model_partition_34 (by decide) (fun hf => ?_) (fun hf => ?_)
      · refine n_aload_n hC hl 0 d_Model_partition_40 rfl rfl ?_
        refine n_get hC hw fg_Model_82 0 rfl rfl d_Model_partition_41 ?_
        refine jn1 (fun (x37 : Int32) => ∀ (H : Heap) (locs : List Loc) (ls : Array Slot), WS g.1 classes A s.heap H locs (wd_Model_partition g t_o t_sort_a t_first_a t_many_a t_disk_a t_name_a t_size_a t_seed_a t_scattered_a t_head_a t_follows_a t_memory_a 0 t_sectors t_partitions t_files t_address t_start t_fat t_clusters t_header t_found t_kernelAt t_kernelSize t_any t_sort t_first t_many) → lv_has ls 4 [(0, .ref t_o), (1, .int a1), (2, .int a2)] → W p l e rm_Model_partition s m args below meth c H locs 0 0 Q (F0 m 84 ls [.int x37])) hf (fun x37 hf H locs ls hw hl => ?_) (fun j84 hj84 hf => ?_)
        · refine n_istore_n hC [(3, .int x37), (0, .ref t_o), (1, .int a1), (2, .int a2)] hl d_Model_partition_84 rfl (by decide) rfl (fun ls hl => ?_)
          refine n_iload_n hC hl 0 d_Model_partition_85 rfl rfl ?_
          refine n_iload_n hC hl 3 d_Model_partition_86 rfl rfl ?_
          refine n_iadd hC hf d_Model_partition_87 (fun v38 hf => ?_)
          refine n_iconst hC 1 d_Model_partition_88 (by decide) ?_
          refine n_isub hC hf d_Model_partition_89 (fun v39 hf => ?_)
          refine n_aload_n hC hl 1 d_Model_partition_90 rfl rfl ?_
          refine n_get hC hw fg_Model_48 0 rfl rfl d_Model_partition_91 ?_
          refine n_bipush hC 34 d_Model_partition_94 (by decide) ?_
          refine n_isub hC hf d_Model_partition_96 (fun v40 hf => ?_)
          refine n_icmp_le hC hf 103 d_Model_partition_97 (by decide) (fun hf => ?_) (fun hf => ?_)
          · refine n_aload_n hC hl 1 d_Model_partition_103 rfl rfl ?_
            refine n_get hC hw fg_Model_14 0 rfl rfl d_Model_partition_104 ?_
            refine n_aload_n hC hl 1 d_Model_partition_107 rfl rfl ?_
            refine n_get hC hw fg_Model_82 0 rfl rfl d_Model_partition_108 ?_
            refine n_iload_n hC hl 2 d_Model_partition_111 rfl rfl ?_
            refine n_iast hC hw hf 1 0 (fun f41 => wd_Model_partition g t_o t_sort_a t_first_a t_many_a t_disk_a t_name_a t_size_a t_seed_a t_scattered_a t_head_a t_follows_a t_memory_a 0 t_sectors t_partitions t_files t_address t_start t_fat t_clusters t_header t_found t_kernelAt t_kernelSize t_any f41 t_first t_many) rfl rfl d_Model_partition_112 (fun _ => rfl) (fun f41 H locs hf hw => ?_)
            refine n_aload_n hC hl 1 d_Model_partition_113 rfl rfl ?_
            refine n_get hC hw fg_Model_18 0 rfl rfl d_Model_partition_114 ?_
            refine n_aload_n hC hl 1 d_Model_partition_117 rfl rfl ?_
            refine n_get hC hw fg_Model_82 0 rfl rfl d_Model_partition_118 ?_
            refine n_iload_n hC hl 0 d_Model_partition_121 rfl rfl ?_
            refine n_iast hC hw hf 2 0 (fun f42 => wd_Model_partition g t_o t_sort_a t_first_a t_many_a t_disk_a t_name_a t_size_a t_seed_a t_scattered_a t_head_a t_follows_a t_memory_a 0 t_sectors t_partitions t_files t_address t_start t_fat t_clusters t_header t_found t_kernelAt t_kernelSize t_any f41 f42 t_many) rfl rfl d_Model_partition_122 (fun _ => rfl) (fun f42 H locs hf hw => ?_)
            refine n_aload_n hC hl 1 d_Model_partition_123 rfl rfl ?_
            refine n_get hC hw fg_Model_21 0 rfl rfl d_Model_partition_124 ?_
            refine n_aload_n hC hl 1 d_Model_partition_127 rfl rfl ?_
            refine n_get hC hw fg_Model_82 0 rfl rfl d_Model_partition_128 ?_
            refine n_iload_n hC hl 3 d_Model_partition_131 rfl rfl ?_
            refine n_iast hC hw hf 3 0 (fun f43 => wd_Model_partition g t_o t_sort_a t_first_a t_many_a t_disk_a t_name_a t_size_a t_seed_a t_scattered_a t_head_a t_follows_a t_memory_a 0 t_sectors t_partitions t_files t_address t_start t_fat t_clusters t_header t_found t_kernelAt t_kernelSize t_any f41 f42 f43) rfl rfl d_Model_partition_132 (fun _ => rfl) (fun f43 H locs hf hw => ?_)
            refine n_aload_n hC hl 1 d_Model_partition_133 rfl rfl ?_
            refine n_dup hC d_Model_partition_134 rfl ?_
            refine n_get hC hw fg_Model_82 0 rfl rfl d_Model_partition_135 ?_
            refine n_iconst hC 1 d_Model_partition_138 (by decide) ?_
            refine n_iadd hC hf d_Model_partition_139 (fun v44 hf => ?_)
            refine n_put hC hw fp_Model_82 0 (wd_Model_partition g t_o t_sort_a t_first_a t_many_a t_disk_a t_name_a t_size_a t_seed_a t_scattered_a t_head_a t_follows_a t_memory_a 0 t_sectors v44 t_files t_address t_start t_fat t_clusters t_header t_found t_kernelAt t_kernelSize t_any f41 f42 f43) rfl rfl rfl (Nat.le_of_ble_eq_true rfl) d_Model_partition_140 rfl (fun H locs hw => ?_)
            refine n_aload_n hC hl 1 d_Model_partition_143 rfl rfl ?_
            refine n_get hC hw fg_Model_82 0 rfl rfl d_Model_partition_144 ?_
            refine n_iconst hC 1 d_Model_partition_147 (by decide) ?_
            refine n_isub hC hf d_Model_partition_148 (fun v45 hf => ?_)
            cases hf
            exact hret _ _ _ _ hw (show narrow .int (Value.int v45) = Value.int v45 from rfl) d_Model_partition_149
          · refine n_bipush hC (-3) d_Model_partition_100 (by decide) ?_
            cases hf
            exact hret _ _ _ _ hw (show narrow .int (Value.int (-3)) = Value.int (-3) from rfl) d_Model_partition_102
        refine n_if_ne hC hf 52 d_Model_partition_44 (by decide) (fun hf => ?_) (fun hf => ?_)
        · refine n_aload_n hC hl 0 d_Model_partition_52 rfl rfl ?_
          refine n_get hC hw fg_Model_18 0 rfl rfl d_Model_partition_53 ?_
          refine n_aload_n hC hl 0 d_Model_partition_56 rfl rfl ?_
          refine n_get hC hw fg_Model_82 0 rfl rfl d_Model_partition_57 ?_
          refine n_iconst hC 1 d_Model_partition_60 (by decide) ?_
          refine n_isub hC hf d_Model_partition_61 (fun v46 hf => ?_)
          refine n_iald hC hw hf 2 0 rfl rfl d_Model_partition_62 (fun v47 hf => ?_)
          refine n_aload_n hC hl 0 d_Model_partition_63 rfl rfl ?_
          refine n_get hC hw fg_Model_21 0 rfl rfl d_Model_partition_64 ?_
          refine n_aload_n hC hl 0 d_Model_partition_67 rfl rfl ?_
          refine n_get hC hw fg_Model_82 0 rfl rfl d_Model_partition_68 ?_
          refine n_iconst hC 1 d_Model_partition_71 (by decide) ?_
          refine n_isub hC hf d_Model_partition_72 (fun v48 hf => ?_)
          refine n_iald hC hw hf 3 0 rfl rfl d_Model_partition_73 (fun v49 hf => ?_)
          refine n_iadd hC hf d_Model_partition_74 (fun v50 hf => ?_)
          refine n_bipush hC 7 d_Model_partition_75 (by decide) ?_
          refine n_iadd hC hf d_Model_partition_77 (fun v51 hf => ?_)
          refine n_bipush hC 8 d_Model_partition_78 (by decide) ?_
          refine n_idiv hC hf d_Model_partition_80 (by decide) (fun v52 hf => ?_)
          refine n_bipush hC 8 d_Model_partition_81 (by decide) ?_
          refine n_imul hC hf d_Model_partition_83 (fun v53 hf => ?_)
          exact hj84 _ hf _ _ _ hw (lv_sub hl [0, 1, 2] rfl)
        · refine n_bipush hC 40 d_Model_partition_47 (by decide) ?_
          refine n_goto hC 84 d_Model_partition_49 (by decide) ?_
          exact hj84 _ hf _ _ _ hw (lv_sub hl [0, 1, 2] rfl)
      · refine n_bipush hC (-3) d_Model_partition_37 (by decide) ?_
        cases hf
        exact hret _ _ _ _ hw (show narrow .int (Value.int (-3)) = Value.int (-3) from rfl) d_Model_partition_39
    · refine n_bipush hC (-2) d_Model_partition_26 (by decide) ?_
      cases hf
      exact hret _ _ _ _ hw (show narrow .int (Value.int (-2)) = Value.int (-2) from rfl) d_Model_partition_28
def wd_Model_where (g : GT) (t_o : Nat) (t_sort_a : Nat) (t_first_a : Nat) (t_many_a : Nat) (t_disk_a : Nat) (t_name_a : Nat) (t_size_a : Nat) (t_seed_a : Nat) (t_scattered_a : Nat) (t_head_a : Nat) (t_follows_a : Nat) (t_memory_a : Nat) (t_thrown : Int32) (t_sectors : Int32) (t_partitions : Int32) (t_files : Int32) (t_address : Int32) (t_start : Int32) (t_fat : Int32) (t_clusters : Int32) (t_header : Int32) (t_found : Int32) (t_kernelAt : Int32) (t_kernelSize : Int32) (t_any : Int32) (t_sort : Nat → Int32) (t_first : Nat → Int32) (t_many : Nat → Int32) : va_W := [(t_o, .inr (7, [.int t_thrown, .int t_sectors, .ref t_disk_a, .int t_partitions, .ref t_sort_a, .ref t_first_a, .ref t_many_a, .int t_files, .ref t_name_a, .ref t_size_a, .ref t_seed_a, .ref t_scattered_a, .int t_address, .int t_start, .int t_fat, .int t_clusters, .ref t_head_a, .ref t_follows_a, .int t_header, .int t_found, .int t_kernelAt, .int t_kernelSize, .int t_any, .ref t_memory_a])), (t_sort_a, .inl (g.2.1, 4, .inl t_sort)), (t_first_a, .inl (g.2.1, 4, .inl t_first)), (t_many_a, .inl (g.2.1, 4, .inl t_many))]
def f_Model_where (t_partitions : Int32) (a1 : Int32) (a2 : Int32) (t_sort : Nat → Int32) (t_many : Nat → Int32) (t_first : Nat → Int32) : Option (Int32 × Int32) :=
  lt_ (t_partitions - 1) (fun v6 => bd_ (f_Model_in a1 0 v6) (fun u7 => if ¬ u7 = 0 then if ¬ a2 = 0 then if ¬ a2 = (1 : Int32) then if ¬ a2 = (2 : Int32) then some ((-1), 0) else ix_ 4 t_sort a1 (fun (v8 : Int32) => some (v8, 0)) else ix_ 4 t_many a1 (fun (v9 : Int32) => some (v9, 0)) else ix_ 4 t_first a1 (fun (v10 : Int32) => some (v10, 0)) else some ((-1), 0)))
def rm_Model_where : Room := { frames := 1, cells := 0, slots := 0, locals := 22 }
set_option maxHeartbeats 4000000 in
set_option maxRecDepth 100000 in
theorem c_Model_where (l : Launch) (g : GT) (E : (Nat → Prop) → State → Prop) (hEe : Ee E) (t_o : Nat) (t_sort_a : Nat) (t_first_a : Nat) (t_many_a : Nat) (t_disk_a : Nat) (t_name_a : Nat) (t_size_a : Nat) (t_seed_a : Nat) (t_scattered_a : Nat) (t_head_a : Nat) (t_follows_a : Nat) (t_memory_a : Nat) (t_thrown : Int32) (t_sectors : Int32) (t_partitions : Int32) (t_files : Int32) (t_address : Int32) (t_start : Int32) (t_fat : Int32) (t_clusters : Int32) (t_header : Int32) (t_found : Int32) (t_kernelAt : Int32) (t_kernelSize : Int32) (t_any : Int32) (t_sort : Nat → Int32) (t_first : Nat → Int32) (t_many : Nat → Int32) (a1 : Int32) (a2 : Int32) (z : Int32 × Int32) (hf : f_Model_where t_partitions a1 a2 t_sort t_many t_first = some z) : Cg l g E y_Model_where ws_Model_where rm_Model_where [.ref t_o, .int a1, .int a2] (wd_Model_where g t_o t_sort_a t_first_a t_many_a t_disk_a t_name_a t_size_a t_seed_a t_scattered_a t_head_a t_follows_a t_memory_a t_thrown t_sectors t_partitions t_files t_address t_start t_fat t_clusters t_header t_found t_kernelAt t_kernelSize t_any t_sort t_first t_many) (some (.int z.1)) (wd_Model_where g t_o t_sort_a t_first_a t_many_a t_disk_a t_name_a t_size_a t_seed_a t_scattered_a t_head_a t_follows_a t_memory_a z.2 t_sectors t_partitions t_files t_address t_start t_fat t_clusters t_header t_found t_kernelAt t_kernelSize t_any t_sort t_first t_many) := by
  refine Ct.ofI hEe good_W (by decide) rfl (Nat.le_of_ble_eq_true rfl) ?_
  intro p e s m args below meth c A ls Q hC hw hl hret
  have hC : CX p m c b_Model_where 3 s args Wall R_Model g.1 classes (tK g) E A := hC
  have hl : lv_has ls 3 [(0, .ref t_o), (1, .int a1), (2, .int a2)] := hl
  unfold f_Model_where at hf
  refine n_aload_n hC hl 0 d_Model_where_0 rfl rfl ?_
  refine n_iconst hC 0 d_Model_where_1 (by decide) ?_
  refine n_put hC hw fp_Model_61 0 (wd_Model_where g t_o t_sort_a t_first_a t_many_a t_disk_a t_name_a t_size_a t_seed_a t_scattered_a t_head_a t_follows_a t_memory_a 0 t_sectors t_partitions t_files t_address t_start t_fat t_clusters t_header t_found t_kernelAt t_kernelSize t_any t_sort t_first t_many) rfl rfl rfl (Nat.le_of_ble_eq_true rfl) d_Model_where_2 rfl (fun H locs hw => ?_)
  refine n_iload_n hC hl 1 d_Model_where_5 rfl rfl ?_
  refine n_iconst hC 0 d_Model_where_6 (by decide) ?_
  refine n_aload_n hC hl 0 d_Model_where_7 rfl rfl ?_
  refine n_get hC hw fg_Model_82 0 rfl rfl d_Model_where_8 ?_
  refine n_iconst hC 1 d_Model_where_11 (by decide) ?_
  refine n_isub hC hf d_Model_where_12 (fun v6 hf => ?_)
  obtain ⟨u7, hu7, hf⟩ := bd_s hf
  refine n_callSi hC hw fc_Model_73 (c_Model_in l g E hEe a1 0 v6 u7 hu7) [] (wd_Model_where g t_o t_sort_a t_first_a t_many_a t_disk_a t_name_a t_size_a t_seed_a t_scattered_a t_head_a t_follows_a t_memory_a 0 t_sectors t_partitions t_files t_address t_start t_fat t_clusters t_header t_found t_kernelAt t_kernelSize t_any t_sort t_first t_many) ⟨rfl, rfl⟩ ⟨Nat.le_of_ble_eq_true rfl, Nat.le_of_ble_eq_true rfl⟩ rfl At_.nil At_.nil Sm_.refl rfl hl.1 (Nat.le_of_ble_eq_true rfl) ⟨Nat.zero_le _, Nat.zero_le _⟩ d_Model_where_13 (fun H locs hw => ?_) rfl
  refine n_if_ne hC hf 21 d_Model_where_16 (by decide) (fun hf => ?_) (fun hf => ?_)
  · refine n_iload_n hC hl 2 d_Model_where_21 rfl rfl ?_
    refine n_if_ne hC hf 34 d_Model_where_22 (by decide) (fun hf => ?_) (fun hf => ?_)
    · refine n_iload_n hC hl 2 d_Model_where_34 rfl rfl ?_
      refine n_iconst hC 1 d_Model_where_35 (by decide) ?_
      refine n_icmp_ne hC hf 48 d_Model_where_36 (by decide) (fun hf => ?_) (fun hf => ?_)
      · refine n_iload_n hC hl 2 d_Model_where_48 rfl rfl ?_
        refine n_iconst hC 2 d_Model_where_49 (by decide) ?_
        refine n_icmp_ne hC hf 62 d_Model_where_50 (by decide) (fun hf => ?_) (fun hf => ?_)
        · refine n_iconst hC (-1) d_Model_where_62 (by decide) ?_
          cases hf
          exact hret _ _ _ _ hw (show narrow .int (Value.int (-1)) = Value.int (-1) from rfl) d_Model_where_63
        · refine n_aload_n hC hl 0 d_Model_where_53 rfl rfl ?_
          refine n_get hC hw fg_Model_14 0 rfl rfl d_Model_where_54 ?_
          refine n_iload_n hC hl 1 d_Model_where_57 rfl rfl ?_
          refine n_iald hC hw hf 1 0 rfl rfl d_Model_where_58 (fun v8 hf => ?_)
          refine n_goto hC 63 d_Model_where_59 (by decide) ?_
          cases hf
          exact hret _ _ _ _ hw (show narrow .int (Value.int v8) = Value.int v8 from rfl) d_Model_where_63
      · refine n_aload_n hC hl 0 d_Model_where_39 rfl rfl ?_
        refine n_get hC hw fg_Model_21 0 rfl rfl d_Model_where_40 ?_
        refine n_iload_n hC hl 1 d_Model_where_43 rfl rfl ?_
        refine n_iald hC hw hf 3 0 rfl rfl d_Model_where_44 (fun v9 hf => ?_)
        refine n_goto hC 63 d_Model_where_45 (by decide) ?_
        cases hf
        exact hret _ _ _ _ hw (show narrow .int (Value.int v9) = Value.int v9 from rfl) d_Model_where_63
    · refine n_aload_n hC hl 0 d_Model_where_25 rfl rfl ?_
      refine n_get hC hw fg_Model_18 0 rfl rfl d_Model_where_26 ?_
      refine n_iload_n hC hl 1 d_Model_where_29 rfl rfl ?_
      refine n_iald hC hw hf 2 0 rfl rfl d_Model_where_30 (fun v10 hf => ?_)
      refine n_goto hC 63 d_Model_where_31 (by decide) ?_
      cases hf
      exact hret _ _ _ _ hw (show narrow .int (Value.int v10) = Value.int v10 from rfl) d_Model_where_63
  · refine n_iconst hC (-1) d_Model_where_19 (by decide) ?_
    cases hf
    exact hret _ _ _ _ hw (show narrow .int (Value.int (-1)) = Value.int (-1) from rfl) d_Model_where_20
def wd_Model_isLetter (g : GT)  : va_W := []
def f_Model_isLetter (a1 : Int32) : Option (Int32) :=
  lt_ (lt_ (if ¬ a1 = (95 : Int32) then some (0) else some (1)) (fun (j24 : Option (Int32)) => if a1 < (48 : Int32) then j24 else if a1 ≤ (57 : Int32) then some (1) else j24)) (fun (j12 : Option (Int32)) => if a1 < (65 : Int32) then j12 else if a1 ≤ (90 : Int32) then some (1) else j12)
def rm_Model_isLetter : Room := { frames := 0, cells := 0, slots := 0, locals := 0 }
set_option maxHeartbeats 4000000 in
set_option maxRecDepth 100000 in
theorem c_Model_isLetter (l : Launch) (g : GT) (E : (Nat → Prop) → State → Prop) (hEe : Ee E) (a1 : Int32) (z : Int32) (hf : f_Model_isLetter a1 = some z) : Cg l g E y_Model_isLetter ws_Model_isLetter rm_Model_isLetter [.int a1] (wd_Model_isLetter g) (some (.int z)) (wd_Model_isLetter g) := by
  refine Ct.ofI hEe good_W (by decide) rfl (Nat.le_of_ble_eq_true rfl) ?_
  intro p e s m args below meth c A ls Q hC hw hl hret
  have hC : CX p m c b_Model_isLetter 1 s args Wall R_Model g.1 classes (tK g) E A := hC
  have hl : lv_has ls 1 [(0, .int a1)] := hl
  unfold f_Model_isLetter at hf
  refine n_iload_n hC hl 0 d_Model_isLetter_0 rfl rfl ?_
  refine n_bipush hC 65 d_Model_isLetter_1 (by decide) ?_
  refine jn0 (∀ (H : Heap) (locs : List Loc) (ls : Array Slot), WS g.1 classes A s.heap H locs (wd_Model_isLetter g) → lv_has ls 1 [(0, .int a1)] → W p l e rm_Model_isLetter s m args below meth c H locs 0 0 Q (F0 m 12 ls [])) hf (fun hf H locs ls hw hl => ?_) (fun j12 hj12 hf => ?_)
  · refine n_iload_n hC hl 0 d_Model_isLetter_12 rfl rfl ?_
    refine n_bipush hC 48 d_Model_isLetter_13 (by decide) ?_
    refine jn0 (∀ (H : Heap) (locs : List Loc) (ls : Array Slot), WS g.1 classes A s.heap H locs (wd_Model_isLetter g) → lv_has ls 1 [(0, .int a1)] → W p l e rm_Model_isLetter s m args below meth c H locs 0 0 Q (F0 m 24 ls [])) hf (fun hf H locs ls hw hl => ?_) (fun j24 hj24 hf => ?_)
    · refine n_iload_n hC hl 0 d_Model_isLetter_24 rfl rfl ?_
      refine n_bipush hC 95 d_Model_isLetter_25 (by decide) ?_
      refine n_icmp_ne hC hf 34 d_Model_isLetter_27 (by decide) (fun hf => ?_) (fun hf => ?_)
      · refine n_iconst hC 0 d_Model_isLetter_34 (by decide) ?_
        cases hf
        exact hret _ _ _ _ hw rfl d_Model_isLetter_35
      · refine n_iconst hC 1 d_Model_isLetter_30 (by decide) ?_
        refine n_goto hC 35 d_Model_isLetter_31 (by decide) ?_
        cases hf
        exact hret _ _ _ _ hw rfl d_Model_isLetter_35
    refine n_icmp_lt hC hf 24 d_Model_isLetter_15 (by decide) (fun hf => ?_) (fun hf => ?_)
    · exact hj24 hf _ _ _ hw (lv_sub hl [0] rfl)
    · refine n_iload_n hC hl 0 d_Model_isLetter_18 rfl rfl ?_
      refine n_bipush hC 57 d_Model_isLetter_19 (by decide) ?_
      refine n_icmp_le hC hf 30 d_Model_isLetter_21 (by decide) (fun hf => ?_) (fun hf => ?_)
      · refine n_iconst hC 1 d_Model_isLetter_30 (by decide) ?_
        refine n_goto hC 35 d_Model_isLetter_31 (by decide) ?_
        cases hf
        exact hret _ _ _ _ hw rfl d_Model_isLetter_35
      · exact hj24 hf _ _ _ hw (lv_sub hl [0] rfl)
  refine n_icmp_lt hC hf 12 d_Model_isLetter_3 (by decide) (fun hf => ?_) (fun hf => ?_)
  · exact hj12 hf _ _ _ hw (lv_sub hl [0] rfl)
  · refine n_iload_n hC hl 0 d_Model_isLetter_6 rfl rfl ?_
    refine n_bipush hC 90 d_Model_isLetter_7 (by decide) ?_
    refine n_icmp_le hC hf 30 d_Model_isLetter_9 (by decide) (fun hf => ?_) (fun hf => ?_)
    · refine n_iconst hC 1 d_Model_isLetter_30 (by decide) ?_
      refine n_goto hC 35 d_Model_isLetter_31 (by decide) ?_
      cases hf
      exact hret _ _ _ _ hw rfl d_Model_isLetter_35
    · exact hj12 hf _ _ _ hw (lv_sub hl [0] rfl)
def wd_Model_told (g : GT)  : va_W := []
def f_Model_told_L6 (a1 : Int64) (k6 : Int32 → Int64 → Option (Int64)) (x43 : Int32) (x44 : Int64) : Option (Int64) :=
  if x43 < 0 then some (x44) else lt_ ((8 : Int32) * x43) (fun v55 => lt_ ((a1.toUInt64 >>> (v55.toInt64.toUInt64 &&& Int64.toUInt64 63)).toInt64) (fun v56 => lt_ (v56 &&& 255) (fun v57 => lt_ (v57.toInt32) (fun v58 => lt_ (fun (x63 : Int64) => lt_ (x43 + (-1)) (fun v64 => k6 v64 x63)) (fun (j52 : Int64 → Option (Int64)) => if ¬ v58 = 0 then bd_ (f_Model_isLetter v58) (fun u65 => if ¬ u65 = 0 then lt_ (x44 <<< ((8 : Int32).toInt64 &&& 63)) (fun v66 => lt_ (v58.toInt64) (fun v67 => lt_ (v66 ||| v67) (fun v68 => j52 v68))) else some (0)) else j52 x44)))))
def f_Model_told (N : Nat) (a1 : Int64) : Option (Int64) :=
  lp_ (fun _ _ => none) (f_Model_told_L6 a1) N 7 0
def rm_Model_told : Room := { frames := 1, cells := 0, slots := 0, locals := 20 }
set_option maxHeartbeats 4000000 in
set_option maxRecDepth 100000 in
theorem c_Model_told (l : Launch) (g : GT) (E : (Nat → Prop) → State → Prop) (hEe : Ee E) (a1 : Int64) (N : Nat) (z : Int64) (hf : f_Model_told N a1 = some z) : Cg l g E y_Model_told ws_Model_told rm_Model_told [.long a1] (wd_Model_told g) (some (.long z)) (wd_Model_told g) := by
  refine Ct.ofL hEe good_W (by decide) rfl (Nat.le_of_ble_eq_true rfl) ?_
  intro p e s m args below meth c A ls Q hC hw hl hret
  have hC : CX p m c b_Model_told 6 s args Wall R_Model g.1 classes (tK g) E A := hC
  have hl : lv_has ls 6 [(0, .long a1)] := hl
  unfold f_Model_told at hf
  refine n_lconst hC 0 d_Model_told_0 (by decide) ?_
  refine n_lstore_n hC [(2, .long 0), (0, .long a1)] hl d_Model_told_1 rfl (by decide) rfl (fun ls hl => ?_)
  refine n_bipush hC 7 d_Model_told_2 (by decide) ?_
  refine n_istore hC [(4, .int 7), (2, .long 0), (0, .long a1)] hl d_Model_told_4 (by decide) rfl (fun ls hl => ?_)
  have hL6 := lw2 (B := f_Model_told_L6 a1) (z := z) (fun (x43 : Int32) (x44 : Int64) => ∀ (H : Heap) (locs : List Loc) (ls : Array Slot), WS g.1 classes A s.heap H locs (wd_Model_told g) → lv_has ls 6 [(4, .int x43), (2, .long x44), (0, .long a1)] → W p l e rm_Model_told s m args below meth c H locs 0 0 Q (F0 m 6 ls [])) (by
    intro k6 hk6 x43 x44 hf H locs ls hw hl
    unfold f_Model_told_L6 at hf
    refine n_iload hC hl 0 d_Model_told_6 rfl ?_
    refine n_if_lt hC hf 58 d_Model_told_8 (by decide) (fun hf => ?_) (fun hf => ?_)
    · refine n_lload_n hC hl 1 d_Model_told_58 rfl rfl ?_
      cases hf
      exact hret _ _ _ _ hw d_Model_told_59
    · refine n_lload_n hC hl 2 d_Model_told_11 rfl rfl ?_
      refine n_bipush hC 8 d_Model_told_12 (by decide) ?_
      refine n_iload hC hl 0 d_Model_told_14 rfl ?_
      refine n_imul hC hf d_Model_told_16 (fun v55 hf => ?_)
      refine n_lushr hC hf d_Model_told_17 (fun v56 hf => ?_)
      refine n_ldc2 hC 255 kc_Model_85 d_Model_told_18 ?_
      refine n_land hC hf d_Model_told_21 (fun v57 hf => ?_)
      refine n_l2i hC hf d_Model_told_22 (fun v58 hf => ?_)
      refine n_istore hC [(5, .int v58), (4, .int x43), (2, .long x44), (0, .long a1)] hl d_Model_told_23 (by decide) rfl (fun ls hl => ?_)
      refine n_iload hC hl 0 d_Model_told_25 rfl ?_
      refine jn1 (fun (x63 : Int64) => ∀ (H : Heap) (locs : List Loc) (ls : Array Slot), WS g.1 classes A s.heap H locs (wd_Model_told g) → lv_has ls 6 [(2, .long x63), (4, .int x43), (0, .long a1)] → W p l e rm_Model_told s m args below meth c H locs 0 0 Q (F0 m 52 ls [])) hf (fun x63 hf H locs ls hw hl => ?_) (fun j52 hj52 hf => ?_)
      · refine n_iinc hC (k := 1) hf (by decide) (fun v64 => [(4, .int v64), (2, .long x63), (0, .long a1)]) hl d_Model_told_52 rfl (by decide) (fun _ => rfl) (fun v64 ls hf hl => ?_)
        refine n_goto hC 6 d_Model_told_55 (by decide) ?_
        exact hk6 _ _ hf _ _ _ hw (lv_sub hl [0, 1, 2] rfl)
      refine n_if_ne hC hf 33 d_Model_told_27 (by decide) (fun hf => ?_) (fun hf => ?_)
      · refine n_iload hC hl 0 d_Model_told_33 rfl ?_
        obtain ⟨u65, hu65, hf⟩ := bd_s hf
        refine n_callSi hC hw fc_Model_87 (c_Model_isLetter l g E hEe v58 u65 hu65) [] (wd_Model_told g) ⟨rfl, rfl⟩ ⟨Nat.le_of_ble_eq_true rfl, Nat.le_of_ble_eq_true rfl⟩ rfl At_.nil At_.nil Sm_.refl rfl hl.1 (Nat.le_of_ble_eq_true rfl) ⟨Nat.zero_le _, Nat.zero_le _⟩ d_Model_told_35 (fun H locs hw => ?_) rfl
        refine n_if_ne hC hf 43 d_Model_told_38 (by decide) (fun hf => ?_) (fun hf => ?_)
        · refine n_lload_n hC hl 2 d_Model_told_43 rfl rfl ?_
          refine n_bipush hC 8 d_Model_told_44 (by decide) ?_
          refine n_lshl hC hf d_Model_told_46 (fun v66 hf => ?_)
          refine n_iload hC hl 0 d_Model_told_47 rfl ?_
          refine n_i2l hC hf d_Model_told_49 (fun v67 hf => ?_)
          refine n_lor hC hf d_Model_told_50 (fun v68 hf => ?_)
          refine n_lstore_n hC [(2, .long v68), (5, .int v58), (4, .int x43), (0, .long a1)] hl d_Model_told_51 rfl (by decide) rfl (fun ls hl => ?_)
          exact hj52 _ hf _ _ _ hw (lv_sub hl [0, 2, 3] rfl)
        · refine n_lconst hC 0 d_Model_told_41 (by decide) ?_
          cases hf
          exact hret _ _ _ _ hw d_Model_told_42
      · refine n_goto hC 52 d_Model_told_30 (by decide) ?_
        exact hj52 _ hf _ _ _ hw (lv_sub hl [2, 1, 3] rfl)
    )
  exact hL6 N _ _ hf _ _ _ hw (lv_sub hl [0, 1, 2] rfl)
def wd_Model_named (g : GT) (t_o : Nat) (t_name_a : Nat) (t_disk_a : Nat) (t_sort_a : Nat) (t_first_a : Nat) (t_many_a : Nat) (t_size_a : Nat) (t_seed_a : Nat) (t_scattered_a : Nat) (t_head_a : Nat) (t_follows_a : Nat) (t_memory_a : Nat) (t_thrown : Int32) (t_sectors : Int32) (t_partitions : Int32) (t_files : Int32) (t_address : Int32) (t_start : Int32) (t_fat : Int32) (t_clusters : Int32) (t_header : Int32) (t_found : Int32) (t_kernelAt : Int32) (t_kernelSize : Int32) (t_any : Int32) (t_name : Nat → Int64) : va_W := [(t_o, .inr (7, [.int t_thrown, .int t_sectors, .ref t_disk_a, .int t_partitions, .ref t_sort_a, .ref t_first_a, .ref t_many_a, .int t_files, .ref t_name_a, .ref t_size_a, .ref t_seed_a, .ref t_scattered_a, .int t_address, .int t_start, .int t_fat, .int t_clusters, .ref t_head_a, .ref t_follows_a, .int t_header, .int t_found, .int t_kernelAt, .int t_kernelSize, .int t_any, .ref t_memory_a])), (t_name_a, .inl (g.2.2.1, 12, .inr (.inl t_name)))]
def f_Model_named_L2 (t_files : Int32) (t_name : Nat → Int64) (a1 : Int64) (k2 : Int32 → Option (Int32)) (x14 : Int32) : Option (Int32) :=
  if t_files ≤ x14 then some ((-1)) else ix_ 12 t_name x14 (fun (v18 : Int64) => lt_ (lg_cmp v18 a1) (fun v19 => if ¬ v19 = 0 then lt_ (x14 + 1) (fun v20 => k2 v20) else some (x14)))
def f_Model_named (N : Nat) (t_files : Int32) (t_name : Nat → Int64) (a1 : Int64) : Option (Int32) :=
  lp_ (fun _ => none) (f_Model_named_L2 t_files t_name a1) N 0
def rm_Model_named : Room := { frames := 0, cells := 0, slots := 0, locals := 0 }
set_option maxHeartbeats 4000000 in
set_option maxRecDepth 100000 in
theorem c_Model_named (l : Launch) (g : GT) (E : (Nat → Prop) → State → Prop) (hEe : Ee E) (t_o : Nat) (t_name_a : Nat) (t_disk_a : Nat) (t_sort_a : Nat) (t_first_a : Nat) (t_many_a : Nat) (t_size_a : Nat) (t_seed_a : Nat) (t_scattered_a : Nat) (t_head_a : Nat) (t_follows_a : Nat) (t_memory_a : Nat) (t_thrown : Int32) (t_sectors : Int32) (t_partitions : Int32) (t_files : Int32) (t_address : Int32) (t_start : Int32) (t_fat : Int32) (t_clusters : Int32) (t_header : Int32) (t_found : Int32) (t_kernelAt : Int32) (t_kernelSize : Int32) (t_any : Int32) (t_name : Nat → Int64) (a1 : Int64) (N : Nat) (z : Int32) (hf : f_Model_named N t_files t_name a1 = some z) : Cg l g E y_Model_named ws_Model_named rm_Model_named [.ref t_o, .long a1] (wd_Model_named g t_o t_name_a t_disk_a t_sort_a t_first_a t_many_a t_size_a t_seed_a t_scattered_a t_head_a t_follows_a t_memory_a t_thrown t_sectors t_partitions t_files t_address t_start t_fat t_clusters t_header t_found t_kernelAt t_kernelSize t_any t_name) (some (.int z)) (wd_Model_named g t_o t_name_a t_disk_a t_sort_a t_first_a t_many_a t_size_a t_seed_a t_scattered_a t_head_a t_follows_a t_memory_a t_thrown t_sectors t_partitions t_files t_address t_start t_fat t_clusters t_header t_found t_kernelAt t_kernelSize t_any t_name) := by
  refine Ct.ofI hEe good_W (by decide) rfl (Nat.le_of_ble_eq_true rfl) ?_
  intro p e s m args below meth c A ls Q hC hw hl hret
  have hC : CX p m c b_Model_named 4 s args Wall R_Model g.1 classes (tK g) E A := hC
  have hl : lv_has ls 4 [(0, .ref t_o), (1, .long a1)] := hl
  unfold f_Model_named at hf
  refine n_iconst hC 0 d_Model_named_0 (by decide) ?_
  refine n_istore_n hC [(3, .int 0), (0, .ref t_o), (1, .long a1)] hl d_Model_named_1 rfl (by decide) rfl (fun ls hl => ?_)
  have hL2 := lw1 (B := f_Model_named_L2 t_files t_name a1) (z := z) (fun (x14 : Int32) => ∀ (H : Heap) (locs : List Loc) (ls : Array Slot), WS g.1 classes A s.heap H locs (wd_Model_named g t_o t_name_a t_disk_a t_sort_a t_first_a t_many_a t_size_a t_seed_a t_scattered_a t_head_a t_follows_a t_memory_a t_thrown t_sectors t_partitions t_files t_address t_start t_fat t_clusters t_header t_found t_kernelAt t_kernelSize t_any t_name) → lv_has ls 4 [(3, .int x14), (0, .ref t_o), (1, .long a1)] → W p l e rm_Model_named s m args below meth c H locs 0 0 Q (F0 m 2 ls [])) (by
    intro k2 hk2 x14 hf H locs ls hw hl
    unfold f_Model_named_L2 at hf
    refine n_iload_n hC hl 0 d_Model_named_2 rfl rfl ?_
    refine n_aload_n hC hl 1 d_Model_named_3 rfl rfl ?_
    refine n_get hC hw fg_Model_91 0 rfl rfl d_Model_named_4 ?_
    refine n_icmp_ge hC hf 29 d_Model_named_7 (by decide) (fun hf => ?_) (fun hf => ?_)
    · refine n_iconst hC (-1) d_Model_named_29 (by decide) ?_
      cases hf
      exact hret _ _ _ _ hw rfl d_Model_named_30
    · refine n_aload_n hC hl 1 d_Model_named_10 rfl rfl ?_
      refine n_get hC hw fg_Model_24 0 rfl rfl d_Model_named_11 ?_
      refine n_iload_n hC hl 0 d_Model_named_14 rfl rfl ?_
      refine n_lald hC hw hf 1 1 rfl rfl d_Model_named_15 (fun v18 hf => ?_)
      refine n_lload_n hC hl 2 d_Model_named_16 rfl rfl ?_
      refine n_lcmp hC hf d_Model_named_17 (fun v19 hf => ?_)
      refine n_if_ne hC hf 23 d_Model_named_18 (by decide) (fun hf => ?_) (fun hf => ?_)
      · refine n_iinc hC (k := 0) hf (by decide) (fun v20 => [(3, .int v20), (0, .ref t_o), (1, .long a1)]) hl d_Model_named_23 rfl (by decide) (fun _ => rfl) (fun v20 ls hf hl => ?_)
        refine n_goto hC 2 d_Model_named_26 (by decide) ?_
        exact hk2 _ hf _ _ _ hw (lv_sub hl [0, 1, 2] rfl)
      · refine n_iload_n hC hl 0 d_Model_named_21 rfl rfl ?_
        cases hf
        exact hret _ _ _ _ hw rfl d_Model_named_22
    )
  exact hL2 N _ hf _ _ _ hw (lv_sub hl [0, 1, 2] rfl)
def wd_Model_file (g : GT) (t_o : Nat) (t_name_a : Nat) (t_size_a : Nat) (t_seed_a : Nat) (t_scattered_a : Nat) (t_disk_a : Nat) (t_sort_a : Nat) (t_first_a : Nat) (t_many_a : Nat) (t_head_a : Nat) (t_follows_a : Nat) (t_memory_a : Nat) (t_thrown : Int32) (t_sectors : Int32) (t_partitions : Int32) (t_files : Int32) (t_address : Int32) (t_start : Int32) (t_fat : Int32) (t_clusters : Int32) (t_header : Int32) (t_found : Int32) (t_kernelAt : Int32) (t_kernelSize : Int32) (t_any : Int32) (t_name : Nat → Int64) (t_size : Nat → Int32) (t_seed : Nat → Int32) (t_scattered : Nat → Int32) : va_W := [(t_o, .inr (7, [.int t_thrown, .int t_sectors, .ref t_disk_a, .int t_partitions, .ref t_sort_a, .ref t_first_a, .ref t_many_a, .int t_files, .ref t_name_a, .ref t_size_a, .ref t_seed_a, .ref t_scattered_a, .int t_address, .int t_start, .int t_fat, .int t_clusters, .ref t_head_a, .ref t_follows_a, .int t_header, .int t_found, .int t_kernelAt, .int t_kernelSize, .int t_any, .ref t_memory_a])), (t_name_a, .inl (g.2.2.1, 12, .inr (.inl t_name))), (t_size_a, .inl (g.2.1, 12, .inl t_size)), (t_seed_a, .inl (g.2.1, 12, .inl t_seed)), (t_scattered_a, .inl (g.2.2.2.1, 12, .inl t_scattered))]
def f_Model_file (N : Nat) (a1 : Int64) (t_files : Int32) (t_name : Nat → Int64) (t_size : Nat → Int32) (t_seed : Nat → Int32) (t_scattered : Nat → Int32) (a2 : Int32) (a3 : Int32) (a4 : Int32) : Option (Int32 × Int32 × Int32 × (Nat → Int64) × (Nat → Int32) × (Nat → Int32) × (Nat → Int32)) :=
  bd_ (f_Model_told N a1) (fun u12 => lt_ (lg_cmp u12 0) (fun v13 => if v13 = 0 then some ((-2), 0, t_files, t_name, t_size, t_seed, t_scattered) else bd_ (f_Model_in a2 0 9000) (fun u14 => if u14 = 0 then some ((-2), 0, t_files, t_name, t_size, t_seed, t_scattered) else bd_ (f_Model_in a3 0 255) (fun u15 => if ¬ u15 = 0 then bd_ (f_Model_named N t_files t_name u12) (fun u16 => if u16 < 0 then if ¬ t_files = (12 : Int32) then up_l 12 t_name t_files u12 (fun (f17 : Nat → Int64) => up_i 12 t_size t_files a2 (fun (f18 : Nat → Int32) => up_i 12 t_seed t_files a3 (fun (f19 : Nat → Int32) => up_z 12 t_scattered t_files a4 (fun (f20 : Nat → Int32) => lt_ (t_files + 1) (fun v21 => lt_ (v21 - 1) (fun v22 => some (v22, 0, v21, f17, f18, f19, f20))))))) else some ((-3), 0, t_files, t_name, t_size, t_seed, t_scattered) else some ((-4), 0, t_files, t_name, t_size, t_seed, t_scattered)) else some ((-2), 0, t_files, t_name, t_size, t_seed, t_scattered)))))
def rm_Model_file : Room := { frames := 2, cells := 0, slots := 0, locals := 45 }
set_option maxHeartbeats 4000000 in
set_option maxRecDepth 100000 in
theorem c_Model_file (l : Launch) (g : GT) (E : (Nat → Prop) → State → Prop) (hEe : Ee E) (t_o : Nat) (t_name_a : Nat) (t_size_a : Nat) (t_seed_a : Nat) (t_scattered_a : Nat) (t_disk_a : Nat) (t_sort_a : Nat) (t_first_a : Nat) (t_many_a : Nat) (t_head_a : Nat) (t_follows_a : Nat) (t_memory_a : Nat) (t_thrown : Int32) (t_sectors : Int32) (t_partitions : Int32) (t_files : Int32) (t_address : Int32) (t_start : Int32) (t_fat : Int32) (t_clusters : Int32) (t_header : Int32) (t_found : Int32) (t_kernelAt : Int32) (t_kernelSize : Int32) (t_any : Int32) (t_name : Nat → Int64) (t_size : Nat → Int32) (t_seed : Nat → Int32) (t_scattered : Nat → Int32) (a1 : Int64) (a2 : Int32) (a3 : Int32) (a4 : Int32) (N : Nat) (z : Int32 × Int32 × Int32 × (Nat → Int64) × (Nat → Int32) × (Nat → Int32) × (Nat → Int32)) (hf : f_Model_file N a1 t_files t_name t_size t_seed t_scattered a2 a3 a4 = some z) : Cg l g E y_Model_file ws_Model_file rm_Model_file [.ref t_o, .long a1, .int a2, .int a3, .int a4] (wd_Model_file g t_o t_name_a t_size_a t_seed_a t_scattered_a t_disk_a t_sort_a t_first_a t_many_a t_head_a t_follows_a t_memory_a t_thrown t_sectors t_partitions t_files t_address t_start t_fat t_clusters t_header t_found t_kernelAt t_kernelSize t_any t_name t_size t_seed t_scattered) (some (.int z.1)) (wd_Model_file g t_o t_name_a t_size_a t_seed_a t_scattered_a t_disk_a t_sort_a t_first_a t_many_a t_head_a t_follows_a t_memory_a z.2.1 t_sectors t_partitions z.2.2.1 t_address t_start t_fat t_clusters t_header t_found t_kernelAt t_kernelSize t_any z.2.2.2.1 z.2.2.2.2.1 z.2.2.2.2.2.1 z.2.2.2.2.2.2) := by
  refine Ct.ofI hEe good_W (by decide) rfl (Nat.le_of_ble_eq_true rfl) ?_
  intro p e s m args below meth c A ls Q hC hw hl hret
  have hC : CX p m c b_Model_file 8 s args Wall R_Model g.1 classes (tK g) E A := hC
  have hl : lv_has ls 8 [(0, .ref t_o), (1, .long a1), (3, .int a2), (4, .int a3), (5, .int a4)] := hl
  unfold f_Model_file at hf
  refine n_aload_n hC hl 0 d_Model_file_0 rfl rfl ?_
  refine n_iconst hC 0 d_Model_file_1 (by decide) ?_
  refine n_put hC hw fp_Model_61 0 (wd_Model_file g t_o t_name_a t_size_a t_seed_a t_scattered_a t_disk_a t_sort_a t_first_a t_many_a t_head_a t_follows_a t_memory_a 0 t_sectors t_partitions t_files t_address t_start t_fat t_clusters t_header t_found t_kernelAt t_kernelSize t_any t_name t_size t_seed t_scattered) rfl rfl rfl (Nat.le_of_ble_eq_true rfl) d_Model_file_2 rfl (fun H locs hw => ?_)
  refine n_lload_n hC hl 1 d_Model_file_5 rfl rfl ?_
  obtain ⟨u12, hu12, hf⟩ := bd_s hf
  refine n_callSl hC hw fc_Model_94 (c_Model_told l g E hEe a1 N u12 hu12) [] (wd_Model_file g t_o t_name_a t_size_a t_seed_a t_scattered_a t_disk_a t_sort_a t_first_a t_many_a t_head_a t_follows_a t_memory_a 0 t_sectors t_partitions t_files t_address t_start t_fat t_clusters t_header t_found t_kernelAt t_kernelSize t_any t_name t_size t_seed t_scattered) ⟨rfl, rfl⟩ ⟨Nat.le_of_ble_eq_true rfl, Nat.le_of_ble_eq_true rfl⟩ rfl At_.nil At_.nil Sm_.refl rfl hl.1 (Nat.le_of_ble_eq_true rfl) ⟨Nat.zero_le _, Nat.zero_le _⟩ d_Model_file_6 (fun H locs hw => ?_) rfl
  refine n_lstore hC [(6, .long u12), (0, .ref t_o), (1, .long a1), (3, .int a2), (4, .int a3), (5, .int a4)] hl d_Model_file_9 (by decide) rfl (fun ls hl => ?_)
  refine n_lload hC hl 0 d_Model_file_11 rfl ?_
  refine n_lconst hC 0 d_Model_file_13 (by decide) ?_
  refine n_lcmp hC hf d_Model_file_14 (fun v13 hf => ?_)
  refine n_if_eq hC hf 41 d_Model_file_15 (by decide) (fun hf => ?_) (fun hf => ?_)
  · refine n_bipush hC (-2) d_Model_file_41 (by decide) ?_
    cases hf
    exact hret _ _ _ _ hw (show narrow .int (Value.int (-2)) = Value.int (-2) from rfl) d_Model_file_43
  · refine n_iload_n hC hl 3 d_Model_file_18 rfl rfl ?_
    refine n_iconst hC 0 d_Model_file_19 (by decide) ?_
    refine n_sipush hC 9000 d_Model_file_20 (by decide) ?_
    obtain ⟨u14, hu14, hf⟩ := bd_s hf
    refine n_callSi hC hw fc_Model_73 (c_Model_in l g E hEe a2 0 9000 u14 hu14) [] (wd_Model_file g t_o t_name_a t_size_a t_seed_a t_scattered_a t_disk_a t_sort_a t_first_a t_many_a t_head_a t_follows_a t_memory_a 0 t_sectors t_partitions t_files t_address t_start t_fat t_clusters t_header t_found t_kernelAt t_kernelSize t_any t_name t_size t_seed t_scattered) ⟨rfl, rfl⟩ ⟨Nat.le_of_ble_eq_true rfl, Nat.le_of_ble_eq_true rfl⟩ rfl At_.nil At_.nil Sm_.refl rfl hl.1 (Nat.le_of_ble_eq_true rfl) ⟨Nat.zero_le _, Nat.zero_le _⟩ d_Model_file_23 (fun H locs hw => ?_) rfl
    refine n_if_eq hC hf 41 d_Model_file_26 (by decide) (fun hf => ?_) (fun hf => ?_)
    · refine n_bipush hC (-2) d_Model_file_41 (by decide) ?_
      cases hf
      exact hret _ _ _ _ hw (show narrow .int (Value.int (-2)) = Value.int (-2) from rfl) d_Model_file_43
    · refine n_iload hC hl 4 d_Model_file_29 rfl ?_
      refine n_iconst hC 0 d_Model_file_31 (by decide) ?_
      refine n_sipush hC 255 d_Model_file_32 (by decide) ?_
      obtain ⟨u15, hu15, hf⟩ := bd_s hf
      refine n_callSi hC hw fc_Model_73 (c_Model_in l g E hEe a3 0 255 u15 hu15) [] (wd_Model_file g t_o t_name_a t_size_a t_seed_a t_scattered_a t_disk_a t_sort_a t_first_a t_many_a t_head_a t_follows_a t_memory_a 0 t_sectors t_partitions t_files t_address t_start t_fat t_clusters t_header t_found t_kernelAt t_kernelSize t_any t_name t_size t_seed t_scattered) ⟨rfl, rfl⟩ ⟨Nat.le_of_ble_eq_true rfl, Nat.le_of_ble_eq_true rfl⟩ rfl At_.nil At_.nil Sm_.refl rfl hl.1 (Nat.le_of_ble_eq_true rfl) ⟨Nat.zero_le _, Nat.zero_le _⟩ d_Model_file_35 (fun H locs hw => ?_) rfl
      refine n_if_ne hC hf 44 d_Model_file_38 (by decide) (fun hf => ?_) (fun hf => ?_)
      · refine n_aload_n hC hl 1 d_Model_file_44 rfl rfl ?_
        refine n_lload hC hl 0 d_Model_file_45 rfl ?_
        obtain ⟨u16, hu16, hf⟩ := bd_s hf
        refine n_callVi hC hw fc_Model_98 (c_Model_named l g E hEe t_o t_name_a t_disk_a t_sort_a t_first_a t_many_a t_size_a t_seed_a t_scattered_a t_head_a t_follows_a t_memory_a 0 t_sectors t_partitions t_files t_address t_start t_fat t_clusters t_header t_found t_kernelAt t_kernelSize t_any t_name u12 N u16 hu16) [0, 1] (wd_Model_file g t_o t_name_a t_size_a t_seed_a t_scattered_a t_disk_a t_sort_a t_first_a t_many_a t_head_a t_follows_a t_memory_a 0 t_sectors t_partitions t_files t_address t_start t_fat t_clusters t_header t_found t_kernelAt t_kernelSize t_any t_name t_size t_seed t_scattered) 0 rfl ⟨rfl, rfl⟩ ⟨Nat.le_of_ble_eq_true rfl, Nat.le_of_ble_eq_true rfl⟩ rfl (At_.cons rfl (At_.cons rfl At_.nil)) (At_.cons rfl (At_.cons rfl At_.nil)) Sm_.refl rfl hl.1 (Nat.le_of_ble_eq_true rfl) ⟨Nat.zero_le _, Nat.zero_le _⟩ d_Model_file_47 (fun H locs hw => ?_) rfl
        refine n_if_lt hC hf 56 d_Model_file_50 (by decide) (fun hf => ?_) (fun hf => ?_)
        · refine n_aload_n hC hl 1 d_Model_file_56 rfl rfl ?_
          refine n_get hC hw fg_Model_91 0 rfl rfl d_Model_file_57 ?_
          refine n_bipush hC 12 d_Model_file_60 (by decide) ?_
          refine n_icmp_ne hC hf 68 d_Model_file_62 (by decide) (fun hf => ?_) (fun hf => ?_)
          · refine n_aload_n hC hl 1 d_Model_file_68 rfl rfl ?_
            refine n_get hC hw fg_Model_24 0 rfl rfl d_Model_file_69 ?_
            refine n_aload_n hC hl 1 d_Model_file_72 rfl rfl ?_
            refine n_get hC hw fg_Model_91 0 rfl rfl d_Model_file_73 ?_
            refine n_lload hC hl 0 d_Model_file_76 rfl ?_
            refine n_last hC hw hf 1 1 (fun f17 => wd_Model_file g t_o t_name_a t_size_a t_seed_a t_scattered_a t_disk_a t_sort_a t_first_a t_many_a t_head_a t_follows_a t_memory_a 0 t_sectors t_partitions t_files t_address t_start t_fat t_clusters t_header t_found t_kernelAt t_kernelSize t_any f17 t_size t_seed t_scattered) rfl rfl d_Model_file_78 (fun _ => rfl) (fun f17 H locs hf hw => ?_)
            refine n_aload_n hC hl 1 d_Model_file_79 rfl rfl ?_
            refine n_get hC hw fg_Model_28 0 rfl rfl d_Model_file_80 ?_
            refine n_aload_n hC hl 1 d_Model_file_83 rfl rfl ?_
            refine n_get hC hw fg_Model_91 0 rfl rfl d_Model_file_84 ?_
            refine n_iload_n hC hl 3 d_Model_file_87 rfl rfl ?_
            refine n_iast hC hw hf 2 0 (fun f18 => wd_Model_file g t_o t_name_a t_size_a t_seed_a t_scattered_a t_disk_a t_sort_a t_first_a t_many_a t_head_a t_follows_a t_memory_a 0 t_sectors t_partitions t_files t_address t_start t_fat t_clusters t_header t_found t_kernelAt t_kernelSize t_any f17 f18 t_seed t_scattered) rfl rfl d_Model_file_88 (fun _ => rfl) (fun f18 H locs hf hw => ?_)
            refine n_aload_n hC hl 1 d_Model_file_89 rfl rfl ?_
            refine n_get hC hw fg_Model_31 0 rfl rfl d_Model_file_90 ?_
            refine n_aload_n hC hl 1 d_Model_file_93 rfl rfl ?_
            refine n_get hC hw fg_Model_91 0 rfl rfl d_Model_file_94 ?_
            refine n_iload hC hl 4 d_Model_file_97 rfl ?_
            refine n_iast hC hw hf 3 0 (fun f19 => wd_Model_file g t_o t_name_a t_size_a t_seed_a t_scattered_a t_disk_a t_sort_a t_first_a t_many_a t_head_a t_follows_a t_memory_a 0 t_sectors t_partitions t_files t_address t_start t_fat t_clusters t_header t_found t_kernelAt t_kernelSize t_any f17 f18 f19 t_scattered) rfl rfl d_Model_file_99 (fun _ => rfl) (fun f19 H locs hf hw => ?_)
            refine n_aload_n hC hl 1 d_Model_file_100 rfl rfl ?_
            refine n_get hC hw fg_Model_34 0 rfl rfl d_Model_file_101 ?_
            refine n_aload_n hC hl 1 d_Model_file_104 rfl rfl ?_
            refine n_get hC hw fg_Model_91 0 rfl rfl d_Model_file_105 ?_
            refine n_iload hC hl 5 d_Model_file_108 rfl ?_
            refine n_zast hC hw hf 4 2 (fun f20 => wd_Model_file g t_o t_name_a t_size_a t_seed_a t_scattered_a t_disk_a t_sort_a t_first_a t_many_a t_head_a t_follows_a t_memory_a 0 t_sectors t_partitions t_files t_address t_start t_fat t_clusters t_header t_found t_kernelAt t_kernelSize t_any f17 f18 f19 f20) rfl rfl d_Model_file_110 (fun _ => rfl) (fun f20 H locs hf hw => ?_)
            refine n_aload_n hC hl 1 d_Model_file_111 rfl rfl ?_
            refine n_dup hC d_Model_file_112 rfl ?_
            refine n_get hC hw fg_Model_91 0 rfl rfl d_Model_file_113 ?_
            refine n_iconst hC 1 d_Model_file_116 (by decide) ?_
            refine n_iadd hC hf d_Model_file_117 (fun v21 hf => ?_)
            refine n_put hC hw fp_Model_91 0 (wd_Model_file g t_o t_name_a t_size_a t_seed_a t_scattered_a t_disk_a t_sort_a t_first_a t_many_a t_head_a t_follows_a t_memory_a 0 t_sectors t_partitions v21 t_address t_start t_fat t_clusters t_header t_found t_kernelAt t_kernelSize t_any f17 f18 f19 f20) rfl rfl rfl (Nat.le_of_ble_eq_true rfl) d_Model_file_118 rfl (fun H locs hw => ?_)
            refine n_aload_n hC hl 1 d_Model_file_121 rfl rfl ?_
            refine n_get hC hw fg_Model_91 0 rfl rfl d_Model_file_122 ?_
            refine n_iconst hC 1 d_Model_file_125 (by decide) ?_
            refine n_isub hC hf d_Model_file_126 (fun v22 hf => ?_)
            cases hf
            exact hret _ _ _ _ hw (show narrow .int (Value.int v22) = Value.int v22 from rfl) d_Model_file_127
          · refine n_bipush hC (-3) d_Model_file_65 (by decide) ?_
            cases hf
            exact hret _ _ _ _ hw (show narrow .int (Value.int (-3)) = Value.int (-3) from rfl) d_Model_file_67
        · refine n_bipush hC (-4) d_Model_file_53 (by decide) ?_
          cases hf
          exact hret _ _ _ _ hw (show narrow .int (Value.int (-4)) = Value.int (-4) from rfl) d_Model_file_55
      · refine n_bipush hC (-2) d_Model_file_41 (by decide) ?_
        cases hf
        exact hret _ _ _ _ hw (show narrow .int (Value.int (-2)) = Value.int (-2) from rfl) d_Model_file_43
def wd_Model_address (g : GT) (t_o : Nat) (t_disk_a : Nat) (t_sort_a : Nat) (t_first_a : Nat) (t_many_a : Nat) (t_name_a : Nat) (t_size_a : Nat) (t_seed_a : Nat) (t_scattered_a : Nat) (t_head_a : Nat) (t_follows_a : Nat) (t_memory_a : Nat) (t_thrown : Int32) (t_sectors : Int32) (t_partitions : Int32) (t_files : Int32) (t_address : Int32) (t_start : Int32) (t_fat : Int32) (t_clusters : Int32) (t_header : Int32) (t_found : Int32) (t_kernelAt : Int32) (t_kernelSize : Int32) (t_any : Int32) : va_W := [(t_o, .inr (7, [.int t_thrown, .int t_sectors, .ref t_disk_a, .int t_partitions, .ref t_sort_a, .ref t_first_a, .ref t_many_a, .int t_files, .ref t_name_a, .ref t_size_a, .ref t_seed_a, .ref t_scattered_a, .int t_address, .int t_start, .int t_fat, .int t_clusters, .ref t_head_a, .ref t_follows_a, .int t_header, .int t_found, .int t_kernelAt, .int t_kernelSize, .int t_any, .ref t_memory_a]))]
def f_Model_address (a1 : Int32) (t_address : Int32) : Option (Int32 × Int32 × Int32) :=
  if 0 ≤ a1 then some (1, 0, a1) else some (0, 0, t_address)
def rm_Model_address : Room := { frames := 0, cells := 0, slots := 0, locals := 0 }
set_option maxHeartbeats 4000000 in
set_option maxRecDepth 100000 in
theorem c_Model_address (l : Launch) (g : GT) (E : (Nat → Prop) → State → Prop) (hEe : Ee E) (t_o : Nat) (t_disk_a : Nat) (t_sort_a : Nat) (t_first_a : Nat) (t_many_a : Nat) (t_name_a : Nat) (t_size_a : Nat) (t_seed_a : Nat) (t_scattered_a : Nat) (t_head_a : Nat) (t_follows_a : Nat) (t_memory_a : Nat) (t_thrown : Int32) (t_sectors : Int32) (t_partitions : Int32) (t_files : Int32) (t_address : Int32) (t_start : Int32) (t_fat : Int32) (t_clusters : Int32) (t_header : Int32) (t_found : Int32) (t_kernelAt : Int32) (t_kernelSize : Int32) (t_any : Int32) (a1 : Int32) (z : Int32 × Int32 × Int32) (hf : f_Model_address a1 t_address = some z) : Cg l g E y_Model_address ws_Model_address rm_Model_address [.ref t_o, .int a1] (wd_Model_address g t_o t_disk_a t_sort_a t_first_a t_many_a t_name_a t_size_a t_seed_a t_scattered_a t_head_a t_follows_a t_memory_a t_thrown t_sectors t_partitions t_files t_address t_start t_fat t_clusters t_header t_found t_kernelAt t_kernelSize t_any) (some (.int z.1)) (wd_Model_address g t_o t_disk_a t_sort_a t_first_a t_many_a t_name_a t_size_a t_seed_a t_scattered_a t_head_a t_follows_a t_memory_a z.2.1 t_sectors t_partitions t_files z.2.2 t_start t_fat t_clusters t_header t_found t_kernelAt t_kernelSize t_any) := by
  refine Ct.ofI hEe good_W (by decide) rfl (Nat.le_of_ble_eq_true rfl) ?_
  intro p e s m args below meth c A ls Q hC hw hl hret
  have hC : CX p m c b_Model_address 2 s args Wall R_Model g.1 classes (tK g) E A := hC
  have hl : lv_has ls 2 [(0, .ref t_o), (1, .int a1)] := hl
  unfold f_Model_address at hf
  refine n_aload_n hC hl 0 d_Model_address_0 rfl rfl ?_
  refine n_iconst hC 0 d_Model_address_1 (by decide) ?_
  refine n_put hC hw fp_Model_61 0 (wd_Model_address g t_o t_disk_a t_sort_a t_first_a t_many_a t_name_a t_size_a t_seed_a t_scattered_a t_head_a t_follows_a t_memory_a 0 t_sectors t_partitions t_files t_address t_start t_fat t_clusters t_header t_found t_kernelAt t_kernelSize t_any) rfl rfl rfl (Nat.le_of_ble_eq_true rfl) d_Model_address_2 rfl (fun H locs hw => ?_)
  refine n_iload_n hC hl 1 d_Model_address_5 rfl rfl ?_
  refine n_if_ge hC hf 11 d_Model_address_6 (by decide) (fun hf => ?_) (fun hf => ?_)
  · refine n_aload_n hC hl 0 d_Model_address_11 rfl rfl ?_
    refine n_iload_n hC hl 1 d_Model_address_12 rfl rfl ?_
    refine n_put hC hw fp_Model_102 0 (wd_Model_address g t_o t_disk_a t_sort_a t_first_a t_many_a t_name_a t_size_a t_seed_a t_scattered_a t_head_a t_follows_a t_memory_a 0 t_sectors t_partitions t_files a1 t_start t_fat t_clusters t_header t_found t_kernelAt t_kernelSize t_any) rfl rfl rfl (Nat.le_of_ble_eq_true rfl) d_Model_address_13 rfl (fun H locs hw => ?_)
    refine n_iconst hC 1 d_Model_address_16 (by decide) ?_
    cases hf
    exact hret _ _ _ _ hw (show narrow .boolean (Value.int 1) = Value.int 1 from rfl) d_Model_address_17
  · refine n_iconst hC 0 d_Model_address_9 (by decide) ?_
    cases hf
    exact hret _ _ _ _ hw (show narrow .boolean (Value.int 0) = Value.int 0 from rfl) d_Model_address_10
def wd_Model_kernel (g : GT)  : va_W := []
def f_Model_kernel  : Option (Int64) :=
  some (82761105687884)
def rm_Model_kernel : Room := { frames := 0, cells := 0, slots := 0, locals := 0 }
set_option maxHeartbeats 4000000 in
set_option maxRecDepth 100000 in
theorem c_Model_kernel (l : Launch) (g : GT) (E : (Nat → Prop) → State → Prop) (hEe : Ee E)  (z : Int64) (hf : f_Model_kernel  = some z) : Cg l g E y_Model_kernel ws_Model_kernel rm_Model_kernel [] (wd_Model_kernel g) (some (.long z)) (wd_Model_kernel g) := by
  refine Ct.ofL hEe good_W (by decide) rfl (Nat.le_of_ble_eq_true rfl) ?_
  intro p e s m args below meth c A ls Q hC hw hl hret
  have hC : CX p m c b_Model_kernel 0 s args Wall R_Model g.1 classes (tK g) E A := hC
  have hl : lv_has ls 0 [] := hl
  unfold f_Model_kernel at hf
  refine n_ldc2 hC 82761105687884 kc_Model_105 d_Model_kernel_0 ?_
  cases hf
  exact hret _ _ _ _ hw d_Model_kernel_3
def wd_Model_loader (g : GT)  : va_W := []
def f_Model_loader  : Option (Int64) :=
  some (83903281120594)
def rm_Model_loader : Room := { frames := 0, cells := 0, slots := 0, locals := 0 }
set_option maxHeartbeats 4000000 in
set_option maxRecDepth 100000 in
theorem c_Model_loader (l : Launch) (g : GT) (E : (Nat → Prop) → State → Prop) (hEe : Ee E)  (z : Int64) (hf : f_Model_loader  = some z) : Cg l g E y_Model_loader ws_Model_loader rm_Model_loader [] (wd_Model_loader g) (some (.long z)) (wd_Model_loader g) := by
  refine Ct.ofL hEe good_W (by decide) rfl (Nat.le_of_ble_eq_true rfl) ?_
  intro p e s m args below meth c A ls Q hC hw hl hret
  have hC : CX p m c b_Model_loader 0 s args Wall R_Model g.1 classes (tK g) E A := hC
  have hl : lv_has ls 0 [] := hl
  unfold f_Model_loader at hf
  refine n_ldc2 hC 83903281120594 kc_Model_107 d_Model_loader_0 ?_
  cases hf
  exact hret _ _ _ _ hw d_Model_loader_3
