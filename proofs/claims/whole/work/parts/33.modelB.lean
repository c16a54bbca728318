def wd_Model_bootPartition (g : GT) (t_o : Nat) (t_sort_a : Nat) (t_disk_a : Nat) (t_first_a : Nat) (t_many_a : Nat) (t_name_a : Nat) (t_size_a : Nat) (t_seed_a : Nat) (t_scattered_a : Nat) (t_head_a : Nat) (t_follows_a : Nat) (t_memory_a : Nat) (t_thrown : Int32) (t_sectors : Int32) (t_partitions : Int32) (t_files : Int32) (t_address : Int32) (t_start : Int32) (t_fat : Int32) (t_clusters : Int32) (t_header : Int32) (t_found : Int32) (t_kernelAt : Int32) (t_kernelSize : Int32) (t_any : Int32) (t_sort : Nat → Int32) : va_W := [(t_o, .inr (7, [.int t_thrown, .int t_sectors, .ref t_disk_a, .int t_partitions, .ref t_sort_a, .ref t_first_a, .ref t_many_a, .int t_files, .ref t_name_a, .ref t_size_a, .ref t_seed_a, .ref t_scattered_a, .int t_address, .int t_start, .int t_fat, .int t_clusters, .ref t_head_a, .ref t_follows_a, .int t_header, .int t_found, .int t_kernelAt, .int t_kernelSize, .int t_any, .ref t_memory_a])), (t_sort_a, .inl (g.2.1, 4, .inl t_sort))]
def f_Model_bootPartition_L2 (t_partitions : Int32) (t_sort : Nat → Int32) (k2 : Int32 → Option (Int32)) (x10 : Int32) : Option (Int32) :=
  if t_partitions ≤ x10 then some ((-1)) else ix_ 4 t_sort x10 (fun (v13 : Int32) => if ¬ v13 = 0 then lt_ (x10 + 1) (fun v14 => k2 v14) else some (x10))
def f_Model_bootPartition (N : Nat) (t_partitions : Int32) (t_sort : Nat → Int32) : Option (Int32) :=
  lp_ (fun _ => none) (f_Model_bootPartition_L2 t_partitions t_sort) N 0
def rm_Model_bootPartition : Room := { frames := 0, cells := 0, slots := 0, locals := 0 }
set_option maxHeartbeats 4000000 in
set_option maxRecDepth 100000 in
theorem c_Model_bootPartition (l : Launch) (g : GT) (E : (Nat → Prop) → State → Prop) (hEe : Ee E) (t_o : Nat) (t_sort_a : Nat) (t_disk_a : Nat) (t_first_a : Nat) (t_many_a : Nat) (t_name_a : Nat) (t_size_a : Nat) (t_seed_a : Nat) (t_scattered_a : Nat) (t_head_a : Nat) (t_follows_a : Nat) (t_memory_a : Nat) (t_thrown : Int32) (t_sectors : Int32) (t_partitions : Int32) (t_files : Int32) (t_address : Int32) (t_start : Int32) (t_fat : Int32) (t_clusters : Int32) (t_header : Int32) (t_found : Int32) (t_kernelAt : Int32) (t_kernelSize : Int32) (t_any : Int32) (t_sort : Nat → Int32) (N : Nat) (z : Int32) (hf : f_Model_bootPartition N t_partitions t_sort = some z) : Cg l g E y_Model_bootPartition ws_Model_bootPartition rm_Model_bootPartition [.ref t_o] (wd_Model_bootPartition g t_o t_sort_a t_disk_a t_first_a t_many_a t_name_a t_size_a t_seed_a t_scattered_a t_head_a t_follows_a t_memory_a t_thrown t_sectors t_partitions t_files t_address t_start t_fat t_clusters t_header t_found t_kernelAt t_kernelSize t_any t_sort) (some (.int z)) (wd_Model_bootPartition g t_o t_sort_a t_disk_a t_first_a t_many_a t_name_a t_size_a t_seed_a t_scattered_a t_head_a t_follows_a t_memory_a t_thrown t_sectors t_partitions t_files t_address t_start t_fat t_clusters t_header t_found t_kernelAt t_kernelSize t_any t_sort) := by
  refine Ct.ofI hEe good_W (by decide) rfl (Nat.le_of_ble_eq_true rfl) ?_
  intro p e s m args below meth c A ls Q hC hw hl hret
  have hC : CX p m c b_Model_bootPartition 2 s args Wall R_Model g.1 classes (tK g) E A := hC
  have hl : lv_has ls 2 [(0, .ref t_o)] := hl
  unfold f_Model_bootPartition at hf
  refine n_iconst hC 0 d_Model_bootPartition_0 (by decide) ?_
  refine n_istore_n hC [(1, .int 0), (0, .ref t_o)] hl d_Model_bootPartition_1 rfl (by decide) rfl (fun ls hl => ?_)
  have hL2 := lw1 (B := f_Model_bootPartition_L2 t_partitions t_sort) (z := z) (fun (x10 : Int32) => ∀ (H : Heap) (locs : List Loc) (ls : Array Slot), WS g.1 classes A s.heap H locs (wd_Model_bootPartition g t_o t_sort_a t_disk_a t_first_a t_many_a t_name_a t_size_a t_seed_a t_scattered_a t_head_a t_follows_a t_memory_a t_thrown t_sectors t_partitions t_files t_address t_start t_fat t_clusters t_header t_found t_kernelAt t_kernelSize t_any t_sort) → lv_has ls 2 [(1, .int x10), (0, .ref t_o)] → W p l e rm_Model_bootPartition s m args below meth c H locs 0 0 Q (F0 m 2 ls [])) (by
    intro k2 hk2 x10 hf H locs ls hw hl
    unfold f_Model_bootPartition_L2 at hf
    refine n_iload_n hC hl 0 d_Model_bootPartition_2 rfl rfl ?_
    refine n_aload_n hC hl 1 d_Model_bootPartition_3 rfl rfl ?_
    refine n_get hC hw fg_Model_82 0 rfl rfl d_Model_bootPartition_4 ?_
    refine n_icmp_ge hC hf 27 d_Model_bootPartition_7 (by decide) (fun hf => ?_) (fun hf => ?_)
    · refine n_iconst hC (-1) d_Model_bootPartition_27 (by decide) ?_
      cases hf
      exact hret _ _ _ _ hw rfl d_Model_bootPartition_28
    · refine n_aload_n hC hl 1 d_Model_bootPartition_10 rfl rfl ?_
      refine n_get hC hw fg_Model_14 0 rfl rfl d_Model_bootPartition_11 ?_
      refine n_iload_n hC hl 0 d_Model_bootPartition_14 rfl rfl ?_
      refine n_iald hC hw hf 1 0 rfl rfl d_Model_bootPartition_15 (fun v13 hf => ?_)
      refine n_if_ne hC hf 21 d_Model_bootPartition_16 (by decide) (fun hf => ?_) (fun hf => ?_)
      · refine n_iinc hC (k := 0) hf (by decide) (fun v14 => [(1, .int v14), (0, .ref t_o)]) hl d_Model_bootPartition_21 rfl (by decide) (fun _ => rfl) (fun v14 ls hf hl => ?_)
        refine n_goto hC 2 d_Model_bootPartition_24 (by decide) ?_
        exact hk2 _ hf _ _ _ hw (lv_sub hl [0, 1] rfl)
      · refine n_iload_n hC hl 0 d_Model_bootPartition_19 rfl rfl ?_
        cases hf
        exact hret _ _ _ _ hw rfl d_Model_bootPartition_20
    )
  exact hL2 N _ hf _ _ _ hw (lv_sub hl [0, 1] rfl)
def wd_Model_tableOf (g : GT)  : va_W := []
def f_Model_tableOf_L2 (a1 : Int32) (k2 : Int32 → Option (Int32)) (x38 : Int32) : Option (Int32) :=
  lt_ (a1 - 3) (fun v48 => lt_ ((2 : Int32) * x38) (fun v49 => lt_ (v48 - v49) (fun v50 => lt_ (v50 + 2) (fun v51 => lt_ (v51 * 3) (fun v52 => lt_ (v52 + 1) (fun v53 => lt_ (v53 / 2) (fun v54 => lt_ ((512 : Int32) * x38) (fun v55 => if v54 ≤ v55 then some (x38) else lt_ (x38 + 1) (fun v56 => k2 v56)))))))))
def f_Model_tableOf (N : Nat) (a1 : Int32) : Option (Int32) :=
  lp_ (fun _ => none) (f_Model_tableOf_L2 a1) N 1
def rm_Model_tableOf : Room := { frames := 0, cells := 0, slots := 0, locals := 0 }
set_option maxHeartbeats 4000000 in
set_option maxRecDepth 100000 in
theorem c_Model_tableOf (l : Launch) (g : GT) (E : (Nat → Prop) → State → Prop) (hEe : Ee E) (a1 : Int32) (N : Nat) (z : Int32) (hf : f_Model_tableOf N a1 = some z) : Cg l g E y_Model_tableOf ws_Model_tableOf rm_Model_tableOf [.int a1] (wd_Model_tableOf g) (some (.int z)) (wd_Model_tableOf g) := by
  refine Ct.ofI hEe good_W (by decide) rfl (Nat.le_of_ble_eq_true rfl) ?_
  intro p e s m args below meth c A ls Q hC hw hl hret
  have hC : CX p m c b_Model_tableOf 2 s args Wall R_Model g.1 classes (tK g) E A := hC
  have hl : lv_has ls 2 [(0, .int a1)] := hl
  unfold f_Model_tableOf at hf
  refine n_iconst hC 1 d_Model_tableOf_0 (by decide) ?_
  refine n_istore_n hC [(1, .int 1), (0, .int a1)] hl d_Model_tableOf_1 rfl (by decide) rfl (fun ls hl => ?_)
  have hL2 := lw1 (B := f_Model_tableOf_L2 a1) (z := z) (fun (x38 : Int32) => ∀ (H : Heap) (locs : List Loc) (ls : Array Slot), WS g.1 classes A s.heap H locs (wd_Model_tableOf g) → lv_has ls 2 [(1, .int x38), (0, .int a1)] → W p l e rm_Model_tableOf s m args below meth c H locs 0 0 Q (F0 m 2 ls [])) (by
    intro k2 hk2 x38 hf H locs ls hw hl
    unfold f_Model_tableOf_L2 at hf
    refine n_iload_n hC hl 1 d_Model_tableOf_2 rfl rfl ?_
    refine n_iconst hC 3 d_Model_tableOf_3 (by decide) ?_
    refine n_isub hC hf d_Model_tableOf_4 (fun v48 hf => ?_)
    refine n_iconst hC 2 d_Model_tableOf_5 (by decide) ?_
    refine n_iload_n hC hl 0 d_Model_tableOf_6 rfl rfl ?_
    refine n_imul hC hf d_Model_tableOf_7 (fun v49 hf => ?_)
    refine n_isub hC hf d_Model_tableOf_8 (fun v50 hf => ?_)
    refine n_iconst hC 2 d_Model_tableOf_9 (by decide) ?_
    refine n_iadd hC hf d_Model_tableOf_10 (fun v51 hf => ?_)
    refine n_iconst hC 3 d_Model_tableOf_11 (by decide) ?_
    refine n_imul hC hf d_Model_tableOf_12 (fun v52 hf => ?_)
    refine n_iconst hC 1 d_Model_tableOf_13 (by decide) ?_
    refine n_iadd hC hf d_Model_tableOf_14 (fun v53 hf => ?_)
    refine n_iconst hC 2 d_Model_tableOf_15 (by decide) ?_
    refine n_idiv hC hf d_Model_tableOf_16 (by decide) (fun v54 hf => ?_)
    refine n_sipush hC 512 d_Model_tableOf_17 (by decide) ?_
    refine n_iload_n hC hl 0 d_Model_tableOf_20 rfl rfl ?_
    refine n_imul hC hf d_Model_tableOf_21 (fun v55 hf => ?_)
    refine n_icmp_le hC hf 31 d_Model_tableOf_22 (by decide) (fun hf => ?_) (fun hf => ?_)
    · refine n_iload_n hC hl 0 d_Model_tableOf_31 rfl rfl ?_
      cases hf
      exact hret _ _ _ _ hw rfl d_Model_tableOf_32
    · refine n_iinc hC (k := 0) hf (by decide) (fun v56 => [(1, .int v56), (0, .int a1)]) hl d_Model_tableOf_25 rfl (by decide) (fun _ => rfl) (fun v56 ls hf hl => ?_)
      refine n_goto hC 2 d_Model_tableOf_28 (by decide) ?_
      exact hk2 _ hf _ _ _ hw (lv_sub hl [0, 1] rfl)
    )
  exact hL2 N _ hf _ _ _ hw (lv_sub hl [0, 1] rfl)
def wd_Model_needs (g : GT)  : va_W := []
def f_Model_needs (a1 : Int32) : Option (Int32) :=
  lt_ (a1 + 511) (fun v3 => lt_ (v3 / 512) (fun v4 => some (v4)))
def rm_Model_needs : Room := { frames := 0, cells := 0, slots := 0, locals := 0 }
set_option maxHeartbeats 4000000 in
set_option maxRecDepth 100000 in
theorem c_Model_needs (l : Launch) (g : GT) (E : (Nat → Prop) → State → Prop) (hEe : Ee E) (a1 : Int32) (z : Int32) (hf : f_Model_needs a1 = some z) : Cg l g E y_Model_needs ws_Model_needs rm_Model_needs [.int a1] (wd_Model_needs g) (some (.int z)) (wd_Model_needs g) := by
  refine Ct.ofI hEe good_W (by decide) rfl (Nat.le_of_ble_eq_true rfl) ?_
  intro p e s m args below meth c A ls Q hC hw hl hret
  have hC : CX p m c b_Model_needs 1 s args Wall R_Model g.1 classes (tK g) E A := hC
  have hl : lv_has ls 1 [(0, .int a1)] := hl
  unfold f_Model_needs at hf
  refine n_iload_n hC hl 0 d_Model_needs_0 rfl rfl ?_
  refine n_sipush hC 511 d_Model_needs_1 (by decide) ?_
  refine n_iadd hC hf d_Model_needs_4 (fun v3 hf => ?_)
  refine n_sipush hC 512 d_Model_needs_5 (by decide) ?_
  refine n_idiv hC hf d_Model_needs_8 (by decide) (fun v4 hf => ?_)
  cases hf
  exact hret _ _ _ _ hw rfl d_Model_needs_9
def wd_Model_lowestFree (g : GT) (t_o : Nat) (t_follows_a : Nat) (t_disk_a : Nat) (t_sort_a : Nat) (t_first_a : Nat) (t_many_a : Nat) (t_name_a : Nat) (t_size_a : Nat) (t_seed_a : Nat) (t_scattered_a : Nat) (t_head_a : Nat) (t_memory_a : Nat) (t_thrown : Int32) (t_sectors : Int32) (t_partitions : Int32) (t_files : Int32) (t_address : Int32) (t_start : Int32) (t_fat : Int32) (t_clusters : Int32) (t_header : Int32) (t_found : Int32) (t_kernelAt : Int32) (t_kernelSize : Int32) (t_any : Int32) (t_follows : Nat → Int32) : va_W := [(t_o, .inr (7, [.int t_thrown, .int t_sectors, .ref t_disk_a, .int t_partitions, .ref t_sort_a, .ref t_first_a, .ref t_many_a, .int t_files, .ref t_name_a, .ref t_size_a, .ref t_seed_a, .ref t_scattered_a, .int t_address, .int t_start, .int t_fat, .int t_clusters, .ref t_head_a, .ref t_follows_a, .int t_header, .int t_found, .int t_kernelAt, .int t_kernelSize, .int t_any, .ref t_memory_a])), (t_follows_a, .inl (g.2.1, 700, .inl t_follows))]
def f_Model_lowestFree_L2 (t_clusters : Int32) (t_follows : Nat → Int32) (k2 : Int32 → Option (Int32)) (x14 : Int32) : Option (Int32) :=
  lt_ (t_clusters + 2) (fun v18 => if v18 ≤ x14 then some ((-1)) else ix_ 700 t_follows x14 (fun (v19 : Int32) => if ¬ v19 = 0 then lt_ (x14 + 1) (fun v20 => k2 v20) else some (x14)))
def f_Model_lowestFree (N : Nat) (t_clusters : Int32) (t_follows : Nat → Int32) (a1 : Int32) : Option (Int32) :=
  lp_ (fun _ => none) (f_Model_lowestFree_L2 t_clusters t_follows) N a1
def rm_Model_lowestFree : Room := { frames := 0, cells := 0, slots := 0, locals := 0 }
set_option maxHeartbeats 4000000 in
set_option maxRecDepth 100000 in
theorem c_Model_lowestFree (l : Launch) (g : GT) (E : (Nat → Prop) → State → Prop) (hEe : Ee E) (t_o : Nat) (t_follows_a : Nat) (t_disk_a : Nat) (t_sort_a : Nat) (t_first_a : Nat) (t_many_a : Nat) (t_name_a : Nat) (t_size_a : Nat) (t_seed_a : Nat) (t_scattered_a : Nat) (t_head_a : Nat) (t_memory_a : Nat) (t_thrown : Int32) (t_sectors : Int32) (t_partitions : Int32) (t_files : Int32) (t_address : Int32) (t_start : Int32) (t_fat : Int32) (t_clusters : Int32) (t_header : Int32) (t_found : Int32) (t_kernelAt : Int32) (t_kernelSize : Int32) (t_any : Int32) (t_follows : Nat → Int32) (a1 : Int32) (N : Nat) (z : Int32) (hf : f_Model_lowestFree N t_clusters t_follows a1 = some z) : Cg l g E y_Model_lowestFree ws_Model_lowestFree rm_Model_lowestFree [.ref t_o, .int a1] (wd_Model_lowestFree g t_o t_follows_a t_disk_a t_sort_a t_first_a t_many_a t_name_a t_size_a t_seed_a t_scattered_a t_head_a t_memory_a t_thrown t_sectors t_partitions t_files t_address t_start t_fat t_clusters t_header t_found t_kernelAt t_kernelSize t_any t_follows) (some (.int z)) (wd_Model_lowestFree g t_o t_follows_a t_disk_a t_sort_a t_first_a t_many_a t_name_a t_size_a t_seed_a t_scattered_a t_head_a t_memory_a t_thrown t_sectors t_partitions t_files t_address t_start t_fat t_clusters t_header t_found t_kernelAt t_kernelSize t_any t_follows) := by
  refine Ct.ofI hEe good_W (by decide) rfl (Nat.le_of_ble_eq_true rfl) ?_
  intro p e s m args below meth c A ls Q hC hw hl hret
  have hC : CX p m c b_Model_lowestFree 3 s args Wall R_Model g.1 classes (tK g) E A := hC
  have hl : lv_has ls 3 [(0, .ref t_o), (1, .int a1)] := hl
  unfold f_Model_lowestFree at hf
  refine n_iload_n hC hl 1 d_Model_lowestFree_0 rfl rfl ?_
  refine n_istore_n hC [(2, .int a1), (0, .ref t_o), (1, .int a1)] hl d_Model_lowestFree_1 rfl (by decide) rfl (fun ls hl => ?_)
  have hL2 := lw1 (B := f_Model_lowestFree_L2 t_clusters t_follows) (z := z) (fun (x14 : Int32) => ∀ (H : Heap) (locs : List Loc) (ls : Array Slot), WS g.1 classes A s.heap H locs (wd_Model_lowestFree g t_o t_follows_a t_disk_a t_sort_a t_first_a t_many_a t_name_a t_size_a t_seed_a t_scattered_a t_head_a t_memory_a t_thrown t_sectors t_partitions t_files t_address t_start t_fat t_clusters t_header t_found t_kernelAt t_kernelSize t_any t_follows) → lv_has ls 3 [(2, .int x14), (0, .ref t_o)] → W p l e rm_Model_lowestFree s m args below meth c H locs 0 0 Q (F0 m 2 ls [])) (by
    intro k2 hk2 x14 hf H locs ls hw hl
    unfold f_Model_lowestFree_L2 at hf
    refine n_iload_n hC hl 0 d_Model_lowestFree_2 rfl rfl ?_
    refine n_aload_n hC hl 1 d_Model_lowestFree_3 rfl rfl ?_
    refine n_get hC hw fg_Model_109 0 rfl rfl d_Model_lowestFree_4 ?_
    refine n_iconst hC 2 d_Model_lowestFree_7 (by decide) ?_
    refine n_iadd hC hf d_Model_lowestFree_8 (fun v18 hf => ?_)
    refine n_icmp_ge hC hf 29 d_Model_lowestFree_9 (by decide) (fun hf => ?_) (fun hf => ?_)
    · refine n_iconst hC (-1) d_Model_lowestFree_29 (by decide) ?_
      cases hf
      exact hret _ _ _ _ hw rfl d_Model_lowestFree_30
    · refine n_aload_n hC hl 1 d_Model_lowestFree_12 rfl rfl ?_
      refine n_get hC hw fg_Model_41 0 rfl rfl d_Model_lowestFree_13 ?_
      refine n_iload_n hC hl 0 d_Model_lowestFree_16 rfl rfl ?_
      refine n_iald hC hw hf 1 0 rfl rfl d_Model_lowestFree_17 (fun v19 hf => ?_)
      refine n_if_ne hC hf 23 d_Model_lowestFree_18 (by decide) (fun hf => ?_) (fun hf => ?_)
      · refine n_iinc hC (k := 0) hf (by decide) (fun v20 => [(2, .int v20), (0, .ref t_o)]) hl d_Model_lowestFree_23 rfl (by decide) (fun _ => rfl) (fun v20 ls hf hl => ?_)
        refine n_goto hC 2 d_Model_lowestFree_26 (by decide) ?_
        exact hk2 _ hf _ _ _ hw (lv_sub hl [0, 1] rfl)
      · refine n_iload_n hC hl 0 d_Model_lowestFree_21 rfl rfl ?_
        cases hf
        exact hret _ _ _ _ hw rfl d_Model_lowestFree_22
    )
  exact hL2 N _ hf _ _ _ hw (lv_sub hl [0, 1] rfl)
def wd_Model_given (g : GT) (t_o : Nat) (t_size_a : Nat) (t_scattered_a : Nat) (t_head_a : Nat) (t_follows_a : Nat) (t_disk_a : Nat) (t_sort_a : Nat) (t_first_a : Nat) (t_many_a : Nat) (t_name_a : Nat) (t_seed_a : Nat) (t_memory_a : Nat) (t_thrown : Int32) (t_sectors : Int32) (t_partitions : Int32) (t_files : Int32) (t_address : Int32) (t_start : Int32) (t_fat : Int32) (t_clusters : Int32) (t_header : Int32) (t_found : Int32) (t_kernelAt : Int32) (t_kernelSize : Int32) (t_any : Int32) (t_size : Nat → Int32) (t_scattered : Nat → Int32) (t_head : Nat → Int32) (t_follows : Nat → Int32) : va_W := [(t_o, .inr (7, [.int t_thrown, .int t_sectors, .ref t_disk_a, .int t_partitions, .ref t_sort_a, .ref t_first_a, .ref t_many_a, .int t_files, .ref t_name_a, .ref t_size_a, .ref t_seed_a, .ref t_scattered_a, .int t_address, .int t_start, .int t_fat, .int t_clusters, .ref t_head_a, .ref t_follows_a, .int t_header, .int t_found, .int t_kernelAt, .int t_kernelSize, .int t_any, .ref t_memory_a])), (t_size_a, .inl (g.2.1, 12, .inl t_size)), (t_scattered_a, .inl (g.2.2.2.1, 12, .inl t_scattered)), (t_head_a, .inl (g.2.1, 12, .inl t_head)), (t_follows_a, .inl (g.2.1, 700, .inl t_follows))]
def f_Model_given_L51 (N : Nat) (t_size : Nat → Int32) (x2350 : Int32) (k24 : Int32 → (Nat → Int32) → (Nat → Int32) → Option (Int32 × (Nat → Int32) × (Nat → Int32))) (t_clusters : Int32) (k51 : Int32 → Int32 → Int32 → (Nat → Int32) → (Nat → Int32) → Option (Int32 × (Nat → Int32) × (Nat → Int32))) (x2546 : Int32) (x2547 : Int32) (x2548 : Int32) (x2549 : Nat → Int32) (x2550 : Nat → Int32) : Option (Int32 × (Nat → Int32) × (Nat → Int32)) :=
  ix_ 12 t_size x2350 (fun (v2597 : Int32) => bd_ (f_Model_needs v2597) (fun u2598 => if u2598 ≤ x2546 then lt_ (x2350 + 1) (fun v2599 => k24 v2599 x2549 x2550) else lt_ (fun (x2604 : Int32) => lt_ (fun (x2606 : Int32) (x2607 : Int32) => if 0 ≤ x2606 then lt_ (fun (x2610 : Nat → Int32) (x2611 : Nat → Int32) => up_i 700 x2611 x2606 (-1) (fun (f2612 : Nat → Int32) => lt_ (x2546 + 1) (fun v2613 => k51 v2613 x2607 x2606 x2610 f2612))) (fun (j136 : (Nat → Int32) → (Nat → Int32) → Option (Int32 × (Nat → Int32) × (Nat → Int32))) => if ¬ x2546 = 0 then up_i 700 x2550 x2548 x2606 (fun (f2614 : Nat → Int32) => j136 x2549 f2614) else up_i 12 x2549 x2350 x2606 (fun (f2615 : Nat → Int32) => j136 f2615 x2550)) else some (0, x2549, x2550)) (fun (j105 : Int32 → Int32 → Option (Int32 × (Nat → Int32) × (Nat → Int32))) => if 0 ≤ x2604 then j105 x2604 x2547 else bd_ (f_Model_lowestFree N t_clusters x2550 2) (fun u2616 => j105 u2616 0))) (fun (j89 : Int32 → Option (Int32 × (Nat → Int32) × (Nat → Int32))) => lt_ (bd_ (f_Model_lowestFree N t_clusters x2550 2) (fun u2632 => j89 u2632)) (fun (j84 : Option (Int32 × (Nat → Int32) × (Nat → Int32))) => if x2547 = 0 then j84 else if x2546 ≤ 0 then j84 else lt_ (x2548 + 2) (fun v2633 => bd_ (f_Model_lowestFree N t_clusters x2550 v2633) (fun u2634 => j89 u2634))))))
def f_Model_given_L24 (N : Nat) (t_files : Int32) (t_scattered : Nat → Int32) (t_size : Nat → Int32) (t_clusters : Int32) (k24 : Int32 → (Nat → Int32) → (Nat → Int32) → Option (Int32 × (Nat → Int32) × (Nat → Int32))) (x2350 : Int32) (x2351 : Nat → Int32) (x2352 : Nat → Int32) : Option (Int32 × (Nat → Int32) × (Nat → Int32)) :=
  if t_files ≤ x2350 then some (1, x2351, x2352) else up_i 12 x2351 x2350 0 (fun (f2498 : Nat → Int32) => ix_ 12 t_scattered x2350 (fun (v2499 : Int32) => lp_ (fun _ _ _ _ _ => none) (f_Model_given_L51 N t_size x2350 k24 t_clusters) N 0 v2499 0 f2498 x2352))
def f_Model_given_L2 (N : Nat) (t_files : Int32) (t_scattered : Nat → Int32) (t_size : Nat → Int32) (t_clusters : Int32) (t_head : Nat → Int32) (k2 : Int32 → (Nat → Int32) → Option (Int32 × (Nat → Int32) × (Nat → Int32))) (x1763 : Int32) (x1764 : Nat → Int32) : Option (Int32 × (Nat → Int32) × (Nat → Int32)) :=
  if (700 : Int32) ≤ x1763 then lp_ (fun _ _ _ => none) (f_Model_given_L24 N t_files t_scattered t_size t_clusters) N 0 t_head x1764 else up_i 700 x1764 x1763 0 (fun (f2635 : Nat → Int32) => lt_ (x1763 + 1) (fun v2636 => k2 v2636 f2635))
def f_Model_given (N : Nat) (t_files : Int32) (t_scattered : Nat → Int32) (t_size : Nat → Int32) (t_clusters : Int32) (t_head : Nat → Int32) (t_follows : Nat → Int32) : Option (Int32 × (Nat → Int32) × (Nat → Int32)) :=
  lp_ (fun _ _ => none) (f_Model_given_L2 N t_files t_scattered t_size t_clusters t_head) N 0 t_follows
def rm_Model_given : Room := { frames := 1, cells := 0, slots := 0, locals := 22 }
set_option maxHeartbeats 4000000 in
set_option maxRecDepth 100000 in
theorem c_Model_given (l : Launch) (g : GT) (E : (Nat → Prop) → State → Prop) (hEe : Ee E) (t_o : Nat) (t_size_a : Nat) (t_scattered_a : Nat) (t_head_a : Nat) (t_follows_a : Nat) (t_disk_a : Nat) (t_sort_a : Nat) (t_first_a : Nat) (t_many_a : Nat) (t_name_a : Nat) (t_seed_a : Nat) (t_memory_a : Nat) (t_thrown : Int32) (t_sectors : Int32) (t_partitions : Int32) (t_files : Int32) (t_address : Int32) (t_start : Int32) (t_fat : Int32) (t_clusters : Int32) (t_header : Int32) (t_found : Int32) (t_kernelAt : Int32) (t_kernelSize : Int32) (t_any : Int32) (t_size : Nat → Int32) (t_scattered : Nat → Int32) (t_head : Nat → Int32) (t_follows : Nat → Int32) (N : Nat) (z : Int32 × (Nat → Int32) × (Nat → Int32)) (hf : f_Model_given N t_files t_scattered t_size t_clusters t_head t_follows = some z) : Cg l g E y_Model_given ws_Model_given rm_Model_given [.ref t_o] (wd_Model_given g t_o t_size_a t_scattered_a t_head_a t_follows_a t_disk_a t_sort_a t_first_a t_many_a t_name_a t_seed_a t_memory_a t_thrown t_sectors t_partitions t_files t_address t_start t_fat t_clusters t_header t_found t_kernelAt t_kernelSize t_any t_size t_scattered t_head t_follows) (some (.int z.1)) (wd_Model_given g t_o t_size_a t_scattered_a t_head_a t_follows_a t_disk_a t_sort_a t_first_a t_many_a t_name_a t_seed_a t_memory_a t_thrown t_sectors t_partitions t_files t_address t_start t_fat t_clusters t_header t_found t_kernelAt t_kernelSize t_any t_size t_scattered z.2.1 z.2.2) := by
  refine Ct.ofI hEe good_W (by decide) rfl (Nat.le_of_ble_eq_true rfl) ?_
  intro p e s m args below meth c A ls Q hC hw hl hret
  have hC : CX p m c b_Model_given 6 s args Wall R_Model g.1 classes (tK g) E A := hC
  have hl : lv_has ls 6 [(0, .ref t_o)] := hl
  unfold f_Model_given at hf
  refine n_iconst hC 0 d_Model_given_0 (by decide) ?_
  refine n_istore_n hC [(1, .int 0), (0, .ref t_o)] hl d_Model_given_1 rfl (by decide) rfl (fun ls hl => ?_)
  have hL2 := lw2 (B := f_Model_given_L2 N t_files t_scattered t_size t_clusters t_head) (z := z) (fun (x1763 : Int32) (x1764 : Nat → Int32) => ∀ (H : Heap) (locs : List Loc) (ls : Array Slot), WS g.1 classes A s.heap H locs (wd_Model_given g t_o t_size_a t_scattered_a t_head_a t_follows_a t_disk_a t_sort_a t_first_a t_many_a t_name_a t_seed_a t_memory_a t_thrown t_sectors t_partitions t_files t_address t_start t_fat t_clusters t_header t_found t_kernelAt t_kernelSize t_any t_size t_scattered t_head x1764) → lv_has ls 6 [(1, .int x1763), (0, .ref t_o)] → W p l e rm_Model_given s m args below meth c H locs 0 0 Q (F0 m 2 ls [])) (by
    intro k2 hk2 x1763 x1764 hf H locs ls hw hl
    unfold f_Model_given_L2 at hf
    refine n_iload_n hC hl 0 d_Model_given_2 rfl rfl ?_
    refine n_sipush hC 700 d_Model_given_3 (by decide) ?_
    refine n_icmp_ge hC hf 22 d_Model_given_6 (by decide) (fun hf => ?_) (fun hf => ?_)
    · refine n_iconst hC 0 d_Model_given_22 (by decide) ?_
      refine n_istore_n hC [(1, .int 0), (0, .ref t_o)] hl d_Model_given_23 rfl (by decide) rfl (fun ls hl => ?_)
      have hL24 := lw3 (B := f_Model_given_L24 N t_files t_scattered t_size t_clusters) (z := z) (fun (x2350 : Int32) (x2351 : Nat → Int32) (x2352 : Nat → Int32) => ∀ (H : Heap) (locs : List Loc) (ls : Array Slot), WS g.1 classes A s.heap H locs (wd_Model_given g t_o t_size_a t_scattered_a t_head_a t_follows_a t_disk_a t_sort_a t_first_a t_many_a t_name_a t_seed_a t_memory_a t_thrown t_sectors t_partitions t_files t_address t_start t_fat t_clusters t_header t_found t_kernelAt t_kernelSize t_any t_size t_scattered x2351 x2352) → lv_has ls 6 [(1, .int x2350), (0, .ref t_o)] → W p l e rm_Model_given s m args below meth c H locs 0 0 Q (F0 m 24 ls [])) (by
        intro k24 hk24 x2350 x2351 x2352 hf H locs ls hw hl
        unfold f_Model_given_L24 at hf
        refine n_iload_n hC hl 0 d_Model_given_24 rfl rfl ?_
        refine n_aload_n hC hl 1 d_Model_given_25 rfl rfl ?_
        refine n_get hC hw fg_Model_91 0 rfl rfl d_Model_given_26 ?_
        refine n_icmp_ge hC hf 159 d_Model_given_29 (by decide) (fun hf => ?_) (fun hf => ?_)
        · refine n_iconst hC 1 d_Model_given_159 (by decide) ?_
          cases hf
          exact hret _ _ _ _ hw (show narrow .boolean (Value.int 1) = Value.int 1 from rfl) d_Model_given_160
        · refine n_aload_n hC hl 1 d_Model_given_32 rfl rfl ?_
          refine n_get hC hw fg_Model_38 0 rfl rfl d_Model_given_33 ?_
          refine n_iload_n hC hl 0 d_Model_given_36 rfl rfl ?_
          refine n_iconst hC 0 d_Model_given_37 (by decide) ?_
          refine n_iast hC hw hf 3 0 (fun f2498 => wd_Model_given g t_o t_size_a t_scattered_a t_head_a t_follows_a t_disk_a t_sort_a t_first_a t_many_a t_name_a t_seed_a t_memory_a t_thrown t_sectors t_partitions t_files t_address t_start t_fat t_clusters t_header t_found t_kernelAt t_kernelSize t_any t_size t_scattered f2498 x2352) rfl rfl d_Model_given_38 (fun _ => rfl) (fun f2498 H locs hf hw => ?_)
          refine n_iconst hC 0 d_Model_given_39 (by decide) ?_
          refine n_istore_n hC [(2, .int 0), (1, .int x2350), (0, .ref t_o)] hl d_Model_given_40 rfl (by decide) rfl (fun ls hl => ?_)
          refine n_aload_n hC hl 2 d_Model_given_41 rfl rfl ?_
          refine n_get hC hw fg_Model_34 0 rfl rfl d_Model_given_42 ?_
          refine n_iload_n hC hl 1 d_Model_given_45 rfl rfl ?_
          refine n_zald hC hw hf 2 2 rfl rfl d_Model_given_46 (fun v2499 hf => ?_)
          refine n_istore_n hC [(3, .int v2499), (2, .int 0), (1, .int x2350), (0, .ref t_o)] hl d_Model_given_47 rfl (by decide) rfl (fun ls hl => ?_)
          refine n_iconst hC 0 d_Model_given_48 (by decide) ?_
          refine n_istore hC [(4, .int 0), (3, .int v2499), (2, .int 0), (1, .int x2350), (0, .ref t_o)] hl d_Model_given_49 (by decide) rfl (fun ls hl => ?_)
          have hL51 := lw5 (B := f_Model_given_L51 N t_size x2350 k24 t_clusters) (z := z) (fun (x2546 : Int32) (x2547 : Int32) (x2548 : Int32) (x2549 : Nat → Int32) (x2550 : Nat → Int32) => ∀ (H : Heap) (locs : List Loc) (ls : Array Slot), WS g.1 classes A s.heap H locs (wd_Model_given g t_o t_size_a t_scattered_a t_head_a t_follows_a t_disk_a t_sort_a t_first_a t_many_a t_name_a t_seed_a t_memory_a t_thrown t_sectors t_partitions t_files t_address t_start t_fat t_clusters t_header t_found t_kernelAt t_kernelSize t_any t_size t_scattered x2549 x2550) → lv_has ls 6 [(4, .int x2546), (3, .int x2547), (2, .int x2548), (1, .int x2350), (0, .ref t_o)] → W p l e rm_Model_given s m args below meth c H locs 0 0 Q (F0 m 51 ls [])) (by
            intro k51 hk51 x2546 x2547 x2548 x2549 x2550 hf H locs ls hw hl
            unfold f_Model_given_L51 at hf
            refine n_iload hC hl 0 d_Model_given_51 rfl ?_
            refine n_aload_n hC hl 4 d_Model_given_53 rfl rfl ?_
            refine n_get hC hw fg_Model_28 0 rfl rfl d_Model_given_54 ?_
            refine n_iload_n hC hl 3 d_Model_given_57 rfl rfl ?_
            refine n_iald hC hw hf 1 0 rfl rfl d_Model_given_58 (fun v2597 hf => ?_)
            obtain ⟨u2598, hu2598, hf⟩ := bd_s hf
            refine n_callSi hC hw fc_Model_112 (c_Model_needs l g E hEe v2597 u2598 hu2598) [] (wd_Model_given g t_o t_size_a t_scattered_a t_head_a t_follows_a t_disk_a t_sort_a t_first_a t_many_a t_name_a t_seed_a t_memory_a t_thrown t_sectors t_partitions t_files t_address t_start t_fat t_clusters t_header t_found t_kernelAt t_kernelSize t_any t_size t_scattered x2549 x2550) ⟨rfl, rfl⟩ ⟨Nat.le_of_ble_eq_true rfl, Nat.le_of_ble_eq_true rfl⟩ rfl At_.nil At_.nil Sm_.refl rfl hl.1 (Nat.le_of_ble_eq_true rfl) ⟨Nat.zero_le _, Nat.zero_le _⟩ d_Model_given_59 (fun H locs hw => ?_) rfl
            refine n_icmp_ge hC hf 153 d_Model_given_62 (by decide) (fun hf => ?_) (fun hf => ?_)
            · refine n_iinc hC (k := 3) hf (by decide) (fun v2599 => [(1, .int v2599), (4, .int x2546), (3, .int x2547), (2, .int x2548), (0, .ref t_o)]) hl d_Model_given_153 rfl (by decide) (fun _ => rfl) (fun v2599 ls hf hl => ?_)
              refine n_goto hC 24 d_Model_given_156 (by decide) ?_
              exact hk24 _ _ _ hf _ _ _ hw (lv_sub hl [0, 4] rfl)
            · refine n_iload_n hC hl 1 d_Model_given_65 rfl rfl ?_
              refine jn1 (fun (x2604 : Int32) => ∀ (H : Heap) (locs : List Loc) (ls : Array Slot), WS g.1 classes A s.heap H locs (wd_Model_given g t_o t_size_a t_scattered_a t_head_a t_follows_a t_disk_a t_sort_a t_first_a t_many_a t_name_a t_seed_a t_memory_a t_thrown t_sectors t_partitions t_files t_address t_start t_fat t_clusters t_header t_found t_kernelAt t_kernelSize t_any t_size t_scattered x2549 x2550) → lv_has ls 6 [(4, .int x2546), (3, .int x2547), (2, .int x2548), (1, .int x2350), (0, .ref t_o)] → W p l e rm_Model_given s m args below meth c H locs 0 0 Q (F0 m 89 ls [.int x2604])) hf (fun x2604 hf H locs ls hw hl => ?_) (fun j89 hj89 hf => ?_)
              · refine n_istore hC [(5, .int x2604), (4, .int x2546), (3, .int x2547), (2, .int x2548), (1, .int x2350), (0, .ref t_o)] hl d_Model_given_89 (by decide) rfl (fun ls hl => ?_)
                refine n_iload hC hl 0 d_Model_given_91 rfl ?_
                refine jn2 (fun (x2606 : Int32) (x2607 : Int32) => ∀ (H : Heap) (locs : List Loc) (ls : Array Slot), WS g.1 classes A s.heap H locs (wd_Model_given g t_o t_size_a t_scattered_a t_head_a t_follows_a t_disk_a t_sort_a t_first_a t_many_a t_name_a t_seed_a t_memory_a t_thrown t_sectors t_partitions t_files t_address t_start t_fat t_clusters t_header t_found t_kernelAt t_kernelSize t_any t_size t_scattered x2549 x2550) → lv_has ls 6 [(5, .int x2606), (4, .int x2546), (3, .int x2607), (2, .int x2548), (1, .int x2350), (0, .ref t_o)] → W p l e rm_Model_given s m args below meth c H locs 0 0 Q (F0 m 105 ls [])) hf (fun x2606 x2607 hf H locs ls hw hl => ?_) (fun j105 hj105 hf => ?_)
                · refine n_iload hC hl 0 d_Model_given_105 rfl ?_
                  refine n_if_ge hC hf 112 d_Model_given_107 (by decide) (fun hf => ?_) (fun hf => ?_)
                  · refine n_iload hC hl 1 d_Model_given_112 rfl ?_
                    refine jn2 (fun (x2610 : Nat → Int32) (x2611 : Nat → Int32) => ∀ (H : Heap) (locs : List Loc) (ls : Array Slot), WS g.1 classes A s.heap H locs (wd_Model_given g t_o t_size_a t_scattered_a t_head_a t_follows_a t_disk_a t_sort_a t_first_a t_many_a t_name_a t_seed_a t_memory_a t_thrown t_sectors t_partitions t_files t_address t_start t_fat t_clusters t_header t_found t_kernelAt t_kernelSize t_any t_size t_scattered x2610 x2611) → lv_has ls 6 [(5, .int x2606), (4, .int x2546), (3, .int x2607), (1, .int x2350), (0, .ref t_o)] → W p l e rm_Model_given s m args below meth c H locs 0 0 Q (F0 m 136 ls [])) hf (fun x2610 x2611 hf H locs ls hw hl => ?_) (fun j136 hj136 hf => ?_)
                    · refine n_aload_n hC hl 4 d_Model_given_136 rfl rfl ?_
                      refine n_get hC hw fg_Model_41 0 rfl rfl d_Model_given_137 ?_
                      refine n_iload hC hl 0 d_Model_given_140 rfl ?_
                      refine n_iconst hC (-1) d_Model_given_142 (by decide) ?_
                      refine n_iast hC hw hf 4 0 (fun f2612 => wd_Model_given g t_o t_size_a t_scattered_a t_head_a t_follows_a t_disk_a t_sort_a t_first_a t_many_a t_name_a t_seed_a t_memory_a t_thrown t_sectors t_partitions t_files t_address t_start t_fat t_clusters t_header t_found t_kernelAt t_kernelSize t_any t_size t_scattered x2610 f2612) rfl rfl d_Model_given_143 (fun _ => rfl) (fun f2612 H locs hf hw => ?_)
                      refine n_iload hC hl 0 d_Model_given_144 rfl ?_
                      refine n_istore_n hC [(2, .int x2606), (5, .int x2606), (4, .int x2546), (3, .int x2607), (1, .int x2350), (0, .ref t_o)] hl d_Model_given_146 rfl (by decide) rfl (fun ls hl => ?_)
                      refine n_iinc hC (k := 2) hf (by decide) (fun v2613 => [(4, .int v2613), (2, .int x2606), (5, .int x2606), (3, .int x2607), (1, .int x2350), (0, .ref t_o)]) hl d_Model_given_147 rfl (by decide) (fun _ => rfl) (fun v2613 ls hf hl => ?_)
                      refine n_goto hC 51 d_Model_given_150 (by decide) ?_
                      exact hk51 _ _ _ _ _ hf _ _ _ hw (lv_sub hl [0, 3, 1, 4, 5] rfl)
                    refine n_if_ne hC hf 128 d_Model_given_114 (by decide) (fun hf => ?_) (fun hf => ?_)
                    · refine n_aload_n hC hl 5 d_Model_given_128 rfl rfl ?_
                      refine n_get hC hw fg_Model_41 0 rfl rfl d_Model_given_129 ?_
                      refine n_iload_n hC hl 3 d_Model_given_132 rfl rfl ?_
                      refine n_iload hC hl 0 d_Model_given_133 rfl ?_
                      refine n_iast hC hw hf 4 0 (fun f2614 => wd_Model_given g t_o t_size_a t_scattered_a t_head_a t_follows_a t_disk_a t_sort_a t_first_a t_many_a t_name_a t_seed_a t_memory_a t_thrown t_sectors t_partitions t_files t_address t_start t_fat t_clusters t_header t_found t_kernelAt t_kernelSize t_any t_size t_scattered x2549 f2614) rfl rfl d_Model_given_135 (fun _ => rfl) (fun f2614 H locs hf hw => ?_)
                      exact hj136 _ _ hf _ _ _ hw (lv_sub hl [0, 1, 2, 4, 5] rfl)
                    · refine n_aload_n hC hl 5 d_Model_given_117 rfl rfl ?_
                      refine n_get hC hw fg_Model_38 0 rfl rfl d_Model_given_118 ?_
                      refine n_iload_n hC hl 4 d_Model_given_121 rfl rfl ?_
                      refine n_iload hC hl 0 d_Model_given_122 rfl ?_
                      refine n_iast hC hw hf 3 0 (fun f2615 => wd_Model_given g t_o t_size_a t_scattered_a t_head_a t_follows_a t_disk_a t_sort_a t_first_a t_many_a t_name_a t_seed_a t_memory_a t_thrown t_sectors t_partitions t_files t_address t_start t_fat t_clusters t_header t_found t_kernelAt t_kernelSize t_any t_size t_scattered f2615 x2550) rfl rfl d_Model_given_124 (fun _ => rfl) (fun f2615 H locs hf hw => ?_)
                      refine n_goto hC 136 d_Model_given_125 (by decide) ?_
                      exact hj136 _ _ hf _ _ _ hw (lv_sub hl [0, 1, 2, 4, 5] rfl)
                  · refine n_iconst hC 0 d_Model_given_110 (by decide) ?_
                    cases hf
                    exact hret _ _ _ _ hw (show narrow .boolean (Value.int 0) = Value.int 0 from rfl) d_Model_given_111
                refine n_if_ge hC hf 105 d_Model_given_93 (by decide) (fun hf => ?_) (fun hf => ?_)
                · exact hj105 _ _ hf _ _ _ hw (lv_sub hl [0, 1, 2, 3, 4, 5] rfl)
                · refine n_iconst hC 0 d_Model_given_96 (by decide) ?_
                  refine n_istore_n hC [(3, .int 0), (5, .int x2604), (4, .int x2546), (2, .int x2548), (1, .int x2350), (0, .ref t_o)] hl d_Model_given_97 rfl (by decide) rfl (fun ls hl => ?_)
                  refine n_aload_n hC hl 5 d_Model_given_98 rfl rfl ?_
                  refine n_iconst hC 2 d_Model_given_99 (by decide) ?_
                  obtain ⟨u2616, hu2616, hf⟩ := bd_s hf
                  refine n_callVi hC hw fc_Model_115 (c_Model_lowestFree l g E hEe t_o t_follows_a t_disk_a t_sort_a t_first_a t_many_a t_name_a t_size_a t_seed_a t_scattered_a t_head_a t_memory_a t_thrown t_sectors t_partitions t_files t_address t_start t_fat t_clusters t_header t_found t_kernelAt t_kernelSize t_any x2550 2 N u2616 hu2616) [0, 4] (wd_Model_given g t_o t_size_a t_scattered_a t_head_a t_follows_a t_disk_a t_sort_a t_first_a t_many_a t_name_a t_seed_a t_memory_a t_thrown t_sectors t_partitions t_files t_address t_start t_fat t_clusters t_header t_found t_kernelAt t_kernelSize t_any t_size t_scattered x2549 x2550) 0 rfl ⟨rfl, rfl⟩ ⟨Nat.le_of_ble_eq_true rfl, Nat.le_of_ble_eq_true rfl⟩ rfl (At_.cons rfl (At_.cons rfl At_.nil)) (At_.cons rfl (At_.cons rfl At_.nil)) Sm_.refl rfl hl.1 (Nat.le_of_ble_eq_true rfl) ⟨Nat.zero_le _, Nat.zero_le _⟩ d_Model_given_100 (fun H locs hw => ?_) rfl
                  refine n_istore hC [(5, .int u2616), (3, .int 0), (4, .int x2546), (2, .int x2548), (1, .int x2350), (0, .ref t_o)] hl d_Model_given_103 (by decide) rfl (fun ls hl => ?_)
                  exact hj105 _ _ hf _ _ _ hw (lv_sub hl [0, 2, 1, 3, 4, 5] rfl)
              refine jn0 (∀ (H : Heap) (locs : List Loc) (ls : Array Slot), WS g.1 classes A s.heap H locs (wd_Model_given g t_o t_size_a t_scattered_a t_head_a t_follows_a t_disk_a t_sort_a t_first_a t_many_a t_name_a t_seed_a t_memory_a t_thrown t_sectors t_partitions t_files t_address t_start t_fat t_clusters t_header t_found t_kernelAt t_kernelSize t_any t_size t_scattered x2549 x2550) → lv_has ls 6 [(4, .int x2546), (3, .int x2547), (2, .int x2548), (1, .int x2350), (0, .ref t_o)] → W p l e rm_Model_given s m args below meth c H locs 0 0 Q (F0 m 84 ls [])) hf (fun hf H locs ls hw hl => ?_) (fun j84 hj84 hf => ?_)
              · refine n_aload_n hC hl 4 d_Model_given_84 rfl rfl ?_
                refine n_iconst hC 2 d_Model_given_85 (by decide) ?_
                obtain ⟨u2632, hu2632, hf⟩ := bd_s hf
                refine n_callVi hC hw fc_Model_115 (c_Model_lowestFree l g E hEe t_o t_follows_a t_disk_a t_sort_a t_first_a t_many_a t_name_a t_size_a t_seed_a t_scattered_a t_head_a t_memory_a t_thrown t_sectors t_partitions t_files t_address t_start t_fat t_clusters t_header t_found t_kernelAt t_kernelSize t_any x2550 2 N u2632 hu2632) [0, 4] (wd_Model_given g t_o t_size_a t_scattered_a t_head_a t_follows_a t_disk_a t_sort_a t_first_a t_many_a t_name_a t_seed_a t_memory_a t_thrown t_sectors t_partitions t_files t_address t_start t_fat t_clusters t_header t_found t_kernelAt t_kernelSize t_any t_size t_scattered x2549 x2550) 0 rfl ⟨rfl, rfl⟩ ⟨Nat.le_of_ble_eq_true rfl, Nat.le_of_ble_eq_true rfl⟩ rfl (At_.cons rfl (At_.cons rfl At_.nil)) (At_.cons rfl (At_.cons rfl At_.nil)) Sm_.refl rfl hl.1 (Nat.le_of_ble_eq_true rfl) ⟨Nat.zero_le _, Nat.zero_le _⟩ d_Model_given_86 (fun H locs hw => ?_) rfl
                exact hj89 _ hf _ _ _ hw (lv_sub hl [0, 1, 2, 3, 4] rfl)
              refine n_if_eq hC hf 84 d_Model_given_66 (by decide) (fun hf => ?_) (fun hf => ?_)
              · exact hj84 hf _ _ _ hw (lv_sub hl [0, 1, 2, 3, 4] rfl)
              · refine n_iload hC hl 0 d_Model_given_69 rfl ?_
                refine n_if_le hC hf 84 d_Model_given_71 (by decide) (fun hf => ?_) (fun hf => ?_)
                · exact hj84 hf _ _ _ hw (lv_sub hl [0, 1, 2, 3, 4] rfl)
                · refine n_aload_n hC hl 4 d_Model_given_74 rfl rfl ?_
                  refine n_iload_n hC hl 2 d_Model_given_75 rfl rfl ?_
                  refine n_iconst hC 2 d_Model_given_76 (by decide) ?_
                  refine n_iadd hC hf d_Model_given_77 (fun v2633 hf => ?_)
                  obtain ⟨u2634, hu2634, hf⟩ := bd_s hf
                  refine n_callVi hC hw fc_Model_115 (c_Model_lowestFree l g E hEe t_o t_follows_a t_disk_a t_sort_a t_first_a t_many_a t_name_a t_size_a t_seed_a t_scattered_a t_head_a t_memory_a t_thrown t_sectors t_partitions t_files t_address t_start t_fat t_clusters t_header t_found t_kernelAt t_kernelSize t_any x2550 v2633 N u2634 hu2634) [0, 4] (wd_Model_given g t_o t_size_a t_scattered_a t_head_a t_follows_a t_disk_a t_sort_a t_first_a t_many_a t_name_a t_seed_a t_memory_a t_thrown t_sectors t_partitions t_files t_address t_start t_fat t_clusters t_header t_found t_kernelAt t_kernelSize t_any t_size t_scattered x2549 x2550) 0 rfl ⟨rfl, rfl⟩ ⟨Nat.le_of_ble_eq_true rfl, Nat.le_of_ble_eq_true rfl⟩ rfl (At_.cons rfl (At_.cons rfl At_.nil)) (At_.cons rfl (At_.cons rfl At_.nil)) Sm_.refl rfl hl.1 (Nat.le_of_ble_eq_true rfl) ⟨Nat.zero_le _, Nat.zero_le _⟩ d_Model_given_78 (fun H locs hw => ?_) rfl
                  refine n_goto hC 89 d_Model_given_81 (by decide) ?_
                  exact hj89 _ hf _ _ _ hw (lv_sub hl [0, 1, 2, 3, 4] rfl)
            )
          exact hL51 N _ _ _ _ _ hf _ _ _ hw (lv_sub hl [0, 1, 2, 3, 4] rfl)
        )
      exact hL24 N _ _ _ hf _ _ _ hw (lv_sub hl [0, 1] rfl)
    · refine n_aload_n hC hl 1 d_Model_given_9 rfl rfl ?_
      refine n_get hC hw fg_Model_41 0 rfl rfl d_Model_given_10 ?_
      refine n_iload_n hC hl 0 d_Model_given_13 rfl rfl ?_
      refine n_iconst hC 0 d_Model_given_14 (by decide) ?_
      refine n_iast hC hw hf 4 0 (fun f2635 => wd_Model_given g t_o t_size_a t_scattered_a t_head_a t_follows_a t_disk_a t_sort_a t_first_a t_many_a t_name_a t_seed_a t_memory_a t_thrown t_sectors t_partitions t_files t_address t_start t_fat t_clusters t_header t_found t_kernelAt t_kernelSize t_any t_size t_scattered t_head f2635) rfl rfl d_Model_given_15 (fun _ => rfl) (fun f2635 H locs hf hw => ?_)
      refine n_iinc hC (k := 0) hf (by decide) (fun v2636 => [(1, .int v2636), (0, .ref t_o)]) hl d_Model_given_16 rfl (by decide) (fun _ => rfl) (fun v2636 ls hf hl => ?_)
      refine n_goto hC 2 d_Model_given_19 (by decide) ?_
      exact hk2 _ _ hf _ _ _ hw (lv_sub hl [0, 1] rfl)
    )
  exact hL2 N _ _ hf _ _ _ hw (lv_sub hl [0, 1] rfl)
def wd_Model_sectorOf (g : GT) (t_o : Nat) (t_head_a : Nat) (t_follows_a : Nat) (t_disk_a : Nat) (t_sort_a : Nat) (t_first_a : Nat) (t_many_a : Nat) (t_name_a : Nat) (t_size_a : Nat) (t_seed_a : Nat) (t_scattered_a : Nat) (t_memory_a : Nat) (t_thrown : Int32) (t_sectors : Int32) (t_partitions : Int32) (t_files : Int32) (t_address : Int32) (t_start : Int32) (t_fat : Int32) (t_clusters : Int32) (t_header : Int32) (t_found : Int32) (t_kernelAt : Int32) (t_kernelSize : Int32) (t_any : Int32) (t_head : Nat → Int32) (t_follows : Nat → Int32) : va_W := [(t_o, .inr (7, [.int t_thrown, .int t_sectors, .ref t_disk_a, .int t_partitions, .ref t_sort_a, .ref t_first_a, .ref t_many_a, .int t_files, .ref t_name_a, .ref t_size_a, .ref t_seed_a, .ref t_scattered_a, .int t_address, .int t_start, .int t_fat, .int t_clusters, .ref t_head_a, .ref t_follows_a, .int t_header, .int t_found, .int t_kernelAt, .int t_kernelSize, .int t_any, .ref t_memory_a])), (t_head_a, .inl (g.2.1, 12, .inl t_head)), (t_follows_a, .inl (g.2.1, 700, .inl t_follows))]
def f_Model_sectorOf_L10 (a2 : Int32) (t_start : Int32) (t_fat : Int32) (t_follows : Nat → Int32) (k10 : Int32 → Int32 → Option (Int32)) (x33 : Int32) (x34 : Int32) : Option (Int32) :=
  if a2 ≤ x33 then lt_ (t_start + 3) (fun v42 => lt_ ((2 : Int32) * t_fat) (fun v43 => lt_ (v42 + v43) (fun v44 => lt_ (v44 + x34) (fun v45 => lt_ (v45 - 2) (fun v46 => some (v46)))))) else ix_ 700 t_follows x34 (fun (v47 : Int32) => lt_ (x33 + 1) (fun v48 => k10 v48 v47))
def f_Model_sectorOf (N : Nat) (t_head : Nat → Int32) (a1 : Int32) (a2 : Int32) (t_start : Int32) (t_fat : Int32) (t_follows : Nat → Int32) : Option (Int32) :=
  ix_ 12 t_head a1 (fun (v25 : Int32) => lp_ (fun _ _ => none) (f_Model_sectorOf_L10 a2 t_start t_fat t_follows) N 0 v25)
def rm_Model_sectorOf : Room := { frames := 0, cells := 0, slots := 0, locals := 0 }
set_option maxHeartbeats 4000000 in
set_option maxRecDepth 100000 in
theorem c_Model_sectorOf (l : Launch) (g : GT) (E : (Nat → Prop) → State → Prop) (hEe : Ee E) (t_o : Nat) (t_head_a : Nat) (t_follows_a : Nat) (t_disk_a : Nat) (t_sort_a : Nat) (t_first_a : Nat) (t_many_a : Nat) (t_name_a : Nat) (t_size_a : Nat) (t_seed_a : Nat) (t_scattered_a : Nat) (t_memory_a : Nat) (t_thrown : Int32) (t_sectors : Int32) (t_partitions : Int32) (t_files : Int32) (t_address : Int32) (t_start : Int32) (t_fat : Int32) (t_clusters : Int32) (t_header : Int32) (t_found : Int32) (t_kernelAt : Int32) (t_kernelSize : Int32) (t_any : Int32) (t_head : Nat → Int32) (t_follows : Nat → Int32) (a1 : Int32) (a2 : Int32) (N : Nat) (z : Int32) (hf : f_Model_sectorOf N t_head a1 a2 t_start t_fat t_follows = some z) : Cg l g E y_Model_sectorOf ws_Model_sectorOf rm_Model_sectorOf [.ref t_o, .int a1, .int a2] (wd_Model_sectorOf g t_o t_head_a t_follows_a t_disk_a t_sort_a t_first_a t_many_a t_name_a t_size_a t_seed_a t_scattered_a t_memory_a t_thrown t_sectors t_partitions t_files t_address t_start t_fat t_clusters t_header t_found t_kernelAt t_kernelSize t_any t_head t_follows) (some (.int z)) (wd_Model_sectorOf g t_o t_head_a t_follows_a t_disk_a t_sort_a t_first_a t_many_a t_name_a t_size_a t_seed_a t_scattered_a t_memory_a t_thrown t_sectors t_partitions t_files t_address t_start t_fat t_clusters t_header t_found t_kernelAt t_kernelSize t_any t_head t_follows) := by
  refine Ct.ofI hEe good_W (by decide) rfl (Nat.le_of_ble_eq_true rfl) ?_
  intro p e s m args below meth c A ls Q hC hw hl hret
  have hC : CX p m c b_Model_sectorOf 5 s args Wall R_Model g.1 classes (tK g) E A := hC
  have hl : lv_has ls 5 [(0, .ref t_o), (1, .int a1), (2, .int a2)] := hl
  unfold f_Model_sectorOf at hf
  refine n_aload_n hC hl 0 d_Model_sectorOf_0 rfl rfl ?_
  refine n_get hC hw fg_Model_38 0 rfl rfl d_Model_sectorOf_1 ?_
  refine n_iload_n hC hl 1 d_Model_sectorOf_4 rfl rfl ?_
  refine n_iald hC hw hf 1 0 rfl rfl d_Model_sectorOf_5 (fun v25 hf => ?_)
  refine n_istore_n hC [(3, .int v25), (0, .ref t_o), (1, .int a1), (2, .int a2)] hl d_Model_sectorOf_6 rfl (by decide) rfl (fun ls hl => ?_)
  refine n_iconst hC 0 d_Model_sectorOf_7 (by decide) ?_
  refine n_istore hC [(4, .int 0), (3, .int v25), (0, .ref t_o), (1, .int a1), (2, .int a2)] hl d_Model_sectorOf_8 (by decide) rfl (fun ls hl => ?_)
  have hL10 := lw2 (B := f_Model_sectorOf_L10 a2 t_start t_fat t_follows) (z := z) (fun (x33 : Int32) (x34 : Int32) => ∀ (H : Heap) (locs : List Loc) (ls : Array Slot), WS g.1 classes A s.heap H locs (wd_Model_sectorOf g t_o t_head_a t_follows_a t_disk_a t_sort_a t_first_a t_many_a t_name_a t_size_a t_seed_a t_scattered_a t_memory_a t_thrown t_sectors t_partitions t_files t_address t_start t_fat t_clusters t_header t_found t_kernelAt t_kernelSize t_any t_head t_follows) → lv_has ls 5 [(4, .int x33), (3, .int x34), (0, .ref t_o), (2, .int a2)] → W p l e rm_Model_sectorOf s m args below meth c H locs 0 0 Q (F0 m 10 ls [])) (by
    intro k10 hk10 x33 x34 hf H locs ls hw hl
    unfold f_Model_sectorOf_L10 at hf
    refine n_iload hC hl 0 d_Model_sectorOf_10 rfl ?_
    refine n_iload_n hC hl 3 d_Model_sectorOf_12 rfl rfl ?_
    refine n_icmp_ge hC hf 29 d_Model_sectorOf_13 (by decide) (fun hf => ?_) (fun hf => ?_)
    · refine n_aload_n hC hl 2 d_Model_sectorOf_29 rfl rfl ?_
      refine n_get hC hw fg_Model_118 0 rfl rfl d_Model_sectorOf_30 ?_
      refine n_iconst hC 3 d_Model_sectorOf_33 (by decide) ?_
      refine n_iadd hC hf d_Model_sectorOf_34 (fun v42 hf => ?_)
      refine n_iconst hC 2 d_Model_sectorOf_35 (by decide) ?_
      refine n_aload_n hC hl 2 d_Model_sectorOf_36 rfl rfl ?_
      refine n_get hC hw fg_Model_121 0 rfl rfl d_Model_sectorOf_37 ?_
      refine n_imul hC hf d_Model_sectorOf_40 (fun v43 hf => ?_)
      refine n_iadd hC hf d_Model_sectorOf_41 (fun v44 hf => ?_)
      refine n_iload_n hC hl 1 d_Model_sectorOf_42 rfl rfl ?_
      refine n_iadd hC hf d_Model_sectorOf_43 (fun v45 hf => ?_)
      refine n_iconst hC 2 d_Model_sectorOf_44 (by decide) ?_
      refine n_isub hC hf d_Model_sectorOf_45 (fun v46 hf => ?_)
      cases hf
      exact hret _ _ _ _ hw rfl d_Model_sectorOf_46
    · refine n_aload_n hC hl 2 d_Model_sectorOf_16 rfl rfl ?_
      refine n_get hC hw fg_Model_41 0 rfl rfl d_Model_sectorOf_17 ?_
      refine n_iload_n hC hl 1 d_Model_sectorOf_20 rfl rfl ?_
      refine n_iald hC hw hf 2 0 rfl rfl d_Model_sectorOf_21 (fun v47 hf => ?_)
      refine n_istore_n hC [(3, .int v47), (4, .int x33), (0, .ref t_o), (2, .int a2)] hl d_Model_sectorOf_22 rfl (by decide) rfl (fun ls hl => ?_)
      refine n_iinc hC (k := 1) hf (by decide) (fun v48 => [(4, .int v48), (3, .int v47), (0, .ref t_o), (2, .int a2)]) hl d_Model_sectorOf_23 rfl (by decide) (fun _ => rfl) (fun v48 ls hf hl => ?_)
      refine n_goto hC 10 d_Model_sectorOf_26 (by decide) ?_
      exact hk10 _ _ hf _ _ _ hw (lv_sub hl [0, 1, 2, 3] rfl)
    )
  exact hL10 N _ _ hf _ _ _ hw (lv_sub hl [0, 1, 2, 4] rfl)
def wd_Model_runs (g : GT) (t_o : Nat) (t_size_a : Nat) (t_head_a : Nat) (t_follows_a : Nat) (t_disk_a : Nat) (t_sort_a : Nat) (t_first_a : Nat) (t_many_a : Nat) (t_name_a : Nat) (t_seed_a : Nat) (t_scattered_a : Nat) (t_memory_a : Nat) (t_thrown : Int32) (t_sectors : Int32) (t_partitions : Int32) (t_files : Int32) (t_address : Int32) (t_start : Int32) (t_fat : Int32) (t_clusters : Int32) (t_header : Int32) (t_found : Int32) (t_kernelAt : Int32) (t_kernelSize : Int32) (t_any : Int32) (t_size : Nat → Int32) (t_head : Nat → Int32) (t_follows : Nat → Int32) : va_W := [(t_o, .inr (7, [.int t_thrown, .int t_sectors, .ref t_disk_a, .int t_partitions, .ref t_sort_a, .ref t_first_a, .ref t_many_a, .int t_files, .ref t_name_a, .ref t_size_a, .ref t_seed_a, .ref t_scattered_a, .int t_address, .int t_start, .int t_fat, .int t_clusters, .ref t_head_a, .ref t_follows_a, .int t_header, .int t_found, .int t_kernelAt, .int t_kernelSize, .int t_any, .ref t_memory_a])), (t_size_a, .inl (g.2.1, 12, .inl t_size)), (t_head_a, .inl (g.2.1, 12, .inl t_head)), (t_follows_a, .inl (g.2.1, 700, .inl t_follows))]
def f_Model_runs_L4 (N : Nat) (t_size : Nat → Int32) (a1 : Int32) (t_head : Nat → Int32) (t_start : Int32) (t_fat : Int32) (t_follows : Nat → Int32) (k4 : Int32 → Int32 → Option (Int32)) (x51 : Int32) (x52 : Int32) : Option (Int32) :=
  ix_ 12 t_size a1 (fun (v65 : Int32) => bd_ (f_Model_needs v65) (fun u66 => if u66 ≤ x51 then some (x52) else lt_ (fun (x71 : Int32) => lt_ (x52 + x71) (fun v72 => lt_ (x51 + 1) (fun v73 => k4 v73 v72))) (fun (j46 : Int32 → Option (Int32)) => lt_ (j46 1) (fun (j41 : Option (Int32)) => if x51 = 0 then j41 else bd_ (f_Model_sectorOf N t_head a1 x51 t_start t_fat t_follows) (fun u80 => lt_ (x51 - 1) (fun v81 => bd_ (f_Model_sectorOf N t_head a1 v81 t_start t_fat t_follows) (fun u82 => lt_ (u82 + 1) (fun v83 => if u80 = v83 then j46 0 else j41))))))))
def f_Model_runs (N : Nat) (t_size : Nat → Int32) (a1 : Int32) (t_head : Nat → Int32) (t_start : Int32) (t_fat : Int32) (t_follows : Nat → Int32) : Option (Int32) :=
  lp_ (fun _ _ => none) (f_Model_runs_L4 N t_size a1 t_head t_start t_fat t_follows) N 0 0
def rm_Model_runs : Room := { frames := 1, cells := 0, slots := 0, locals := 24 }
set_option maxHeartbeats 4000000 in
set_option maxRecDepth 100000 in
theorem c_Model_runs (l : Launch) (g : GT) (E : (Nat → Prop) → State → Prop) (hEe : Ee E) (t_o : Nat) (t_size_a : Nat) (t_head_a : Nat) (t_follows_a : Nat) (t_disk_a : Nat) (t_sort_a : Nat) (t_first_a : Nat) (t_many_a : Nat) (t_name_a : Nat) (t_seed_a : Nat) (t_scattered_a : Nat) (t_memory_a : Nat) (t_thrown : Int32) (t_sectors : Int32) (t_partitions : Int32) (t_files : Int32) (t_address : Int32) (t_start : Int32) (t_fat : Int32) (t_clusters : Int32) (t_header : Int32) (t_found : Int32) (t_kernelAt : Int32) (t_kernelSize : Int32) (t_any : Int32) (t_size : Nat → Int32) (t_head : Nat → Int32) (t_follows : Nat → Int32) (a1 : Int32) (N : Nat) (z : Int32) (hf : f_Model_runs N t_size a1 t_head t_start t_fat t_follows = some z) : Cg l g E y_Model_runs ws_Model_runs rm_Model_runs [.ref t_o, .int a1] (wd_Model_runs g t_o t_size_a t_head_a t_follows_a t_disk_a t_sort_a t_first_a t_many_a t_name_a t_seed_a t_scattered_a t_memory_a t_thrown t_sectors t_partitions t_files t_address t_start t_fat t_clusters t_header t_found t_kernelAt t_kernelSize t_any t_size t_head t_follows) (some (.int z)) (wd_Model_runs g t_o t_size_a t_head_a t_follows_a t_disk_a t_sort_a t_first_a t_many_a t_name_a t_seed_a t_scattered_a t_memory_a t_thrown t_sectors t_partitions t_files t_address t_start t_fat t_clusters t_header t_found t_kernelAt t_kernelSize t_any t_size t_head t_follows) := by
  refine Ct.ofI hEe good_W (by decide) rfl (Nat.le_of_ble_eq_true rfl) ?_
  intro p e s m args below meth c A ls Q hC hw hl hret
  have hC : CX p m c b_Model_runs 4 s args Wall R_Model g.1 classes (tK g) E A := hC
  have hl : lv_has ls 4 [(0, .ref t_o), (1, .int a1)] := hl
  unfold f_Model_runs at hf
  refine n_iconst hC 0 d_Model_runs_0 (by decide) ?_
  refine n_istore_n hC [(2, .int 0), (0, .ref t_o), (1, .int a1)] hl d_Model_runs_1 rfl (by decide) rfl (fun ls hl => ?_)
  refine n_iconst hC 0 d_Model_runs_2 (by decide) ?_
  refine n_istore_n hC [(3, .int 0), (2, .int 0), (0, .ref t_o), (1, .int a1)] hl d_Model_runs_3 rfl (by decide) rfl (fun ls hl => ?_)
  have hL4 := lw2 (B := f_Model_runs_L4 N t_size a1 t_head t_start t_fat t_follows) (z := z) (fun (x51 : Int32) (x52 : Int32) => ∀ (H : Heap) (locs : List Loc) (ls : Array Slot), WS g.1 classes A s.heap H locs (wd_Model_runs g t_o t_size_a t_head_a t_follows_a t_disk_a t_sort_a t_first_a t_many_a t_name_a t_seed_a t_scattered_a t_memory_a t_thrown t_sectors t_partitions t_files t_address t_start t_fat t_clusters t_header t_found t_kernelAt t_kernelSize t_any t_size t_head t_follows) → lv_has ls 4 [(3, .int x51), (2, .int x52), (0, .ref t_o), (1, .int a1)] → W p l e rm_Model_runs s m args below meth c H locs 0 0 Q (F0 m 4 ls [])) (by
    intro k4 hk4 x51 x52 hf H locs ls hw hl
    unfold f_Model_runs_L4 at hf
    refine n_iload_n hC hl 0 d_Model_runs_4 rfl rfl ?_
    refine n_aload_n hC hl 2 d_Model_runs_5 rfl rfl ?_
    refine n_get hC hw fg_Model_28 0 rfl rfl d_Model_runs_6 ?_
    refine n_iload_n hC hl 3 d_Model_runs_9 rfl rfl ?_
    refine n_iald hC hw hf 1 0 rfl rfl d_Model_runs_10 (fun v65 hf => ?_)
    obtain ⟨u66, hu66, hf⟩ := bd_s hf
    refine n_callSi hC hw fc_Model_112 (c_Model_needs l g E hEe v65 u66 hu66) [] (wd_Model_runs g t_o t_size_a t_head_a t_follows_a t_disk_a t_sort_a t_first_a t_many_a t_name_a t_seed_a t_scattered_a t_memory_a t_thrown t_sectors t_partitions t_files t_address t_start t_fat t_clusters t_header t_found t_kernelAt t_kernelSize t_any t_size t_head t_follows) ⟨rfl, rfl⟩ ⟨Nat.le_of_ble_eq_true rfl, Nat.le_of_ble_eq_true rfl⟩ rfl At_.nil At_.nil Sm_.refl rfl hl.1 (Nat.le_of_ble_eq_true rfl) ⟨Nat.zero_le _, Nat.zero_le _⟩ d_Model_runs_11 (fun H locs hw => ?_) rfl
    refine n_icmp_ge hC hf 54 d_Model_runs_14 (by decide) (fun hf => ?_) (fun hf => ?_)
    · refine n_iload_n hC hl 1 d_Model_runs_54 rfl rfl ?_
      cases hf
      exact hret _ _ _ _ hw rfl d_Model_runs_55
    · refine n_iload_n hC hl 1 d_Model_runs_17 rfl rfl ?_
      refine n_iload_n hC hl 0 d_Model_runs_18 rfl rfl ?_
      refine jn1 (fun (x71 : Int32) => ∀ (H : Heap) (locs : List Loc) (ls : Array Slot), WS g.1 classes A s.heap H locs (wd_Model_runs g t_o t_size_a t_head_a t_follows_a t_disk_a t_sort_a t_first_a t_many_a t_name_a t_seed_a t_scattered_a t_memory_a t_thrown t_sectors t_partitions t_files t_address t_start t_fat t_clusters t_header t_found t_kernelAt t_kernelSize t_any t_size t_head t_follows) → lv_has ls 4 [(3, .int x51), (0, .ref t_o), (1, .int a1)] → W p l e rm_Model_runs s m args below meth c H locs 0 0 Q (F0 m 46 ls [.int x71, .int x52])) hf (fun x71 hf H locs ls hw hl => ?_) (fun j46 hj46 hf => ?_)
      · refine n_iadd hC hf d_Model_runs_46 (fun v72 hf => ?_)
        refine n_istore_n hC [(2, .int v72), (3, .int x51), (0, .ref t_o), (1, .int a1)] hl d_Model_runs_47 rfl (by decide) rfl (fun ls hl => ?_)
        refine n_iinc hC (k := 1) hf (by decide) (fun v73 => [(3, .int v73), (2, .int v72), (0, .ref t_o), (1, .int a1)]) hl d_Model_runs_48 rfl (by decide) (fun _ => rfl) (fun v73 ls hf hl => ?_)
        refine n_goto hC 4 d_Model_runs_51 (by decide) ?_
        exact hk4 _ _ hf _ _ _ hw (lv_sub hl [0, 1, 2, 3] rfl)
      refine jn0 (∀ (H : Heap) (locs : List Loc) (ls : Array Slot), WS g.1 classes A s.heap H locs (wd_Model_runs g t_o t_size_a t_head_a t_follows_a t_disk_a t_sort_a t_first_a t_many_a t_name_a t_seed_a t_scattered_a t_memory_a t_thrown t_sectors t_partitions t_files t_address t_start t_fat t_clusters t_header t_found t_kernelAt t_kernelSize t_any t_size t_head t_follows) → lv_has ls 4 [(3, .int x51), (0, .ref t_o), (1, .int a1)] → W p l e rm_Model_runs s m args below meth c H locs 0 0 Q (F0 m 41 ls [.int x52])) hf (fun hf H locs ls hw hl => ?_) (fun j41 hj41 hf => ?_)
      · refine n_iconst hC 1 d_Model_runs_41 (by decide) ?_
        refine n_goto hC 46 d_Model_runs_42 (by decide) ?_
        exact hj46 _ hf _ _ _ hw (lv_sub hl [0, 1, 2] rfl)
      refine n_if_eq hC hf 41 d_Model_runs_19 (by decide) (fun hf => ?_) (fun hf => ?_)
      · exact hj41 hf _ _ _ hw (lv_sub hl [0, 2, 3] rfl)
      · refine n_aload_n hC hl 2 d_Model_runs_22 rfl rfl ?_
        refine n_iload_n hC hl 3 d_Model_runs_23 rfl rfl ?_
        refine n_iload_n hC hl 0 d_Model_runs_24 rfl rfl ?_
        obtain ⟨u80, hu80, hf⟩ := bd_s hf
        refine n_callVi hC hw fc_Model_124 (c_Model_sectorOf l g E hEe t_o t_head_a t_follows_a t_disk_a t_sort_a t_first_a t_many_a t_name_a t_size_a t_seed_a t_scattered_a t_memory_a t_thrown t_sectors t_partitions t_files t_address t_start t_fat t_clusters t_header t_found t_kernelAt t_kernelSize t_any t_head t_follows a1 x51 N u80 hu80) [0, 2, 3] (wd_Model_runs g t_o t_size_a t_head_a t_follows_a t_disk_a t_sort_a t_first_a t_many_a t_name_a t_seed_a t_scattered_a t_memory_a t_thrown t_sectors t_partitions t_files t_address t_start t_fat t_clusters t_header t_found t_kernelAt t_kernelSize t_any t_size t_head t_follows) 0 rfl ⟨rfl, rfl⟩ ⟨Nat.le_of_ble_eq_true rfl, Nat.le_of_ble_eq_true rfl⟩ rfl (At_.cons rfl (At_.cons rfl (At_.cons rfl At_.nil))) (At_.cons rfl (At_.cons rfl (At_.cons rfl At_.nil))) Sm_.refl rfl hl.1 (Nat.le_of_ble_eq_true rfl) ⟨Nat.zero_le _, Nat.zero_le _⟩ d_Model_runs_25 (fun H locs hw => ?_) rfl
        refine n_aload_n hC hl 2 d_Model_runs_28 rfl rfl ?_
        refine n_iload_n hC hl 3 d_Model_runs_29 rfl rfl ?_
        refine n_iload_n hC hl 0 d_Model_runs_30 rfl rfl ?_
        refine n_iconst hC 1 d_Model_runs_31 (by decide) ?_
        refine n_isub hC hf d_Model_runs_32 (fun v81 hf => ?_)
        obtain ⟨u82, hu82, hf⟩ := bd_s hf
        refine n_callVi hC hw fc_Model_124 (c_Model_sectorOf l g E hEe t_o t_head_a t_follows_a t_disk_a t_sort_a t_first_a t_many_a t_name_a t_size_a t_seed_a t_scattered_a t_memory_a t_thrown t_sectors t_partitions t_files t_address t_start t_fat t_clusters t_header t_found t_kernelAt t_kernelSize t_any t_head t_follows a1 v81 N u82 hu82) [0, 2, 3] (wd_Model_runs g t_o t_size_a t_head_a t_follows_a t_disk_a t_sort_a t_first_a t_many_a t_name_a t_seed_a t_scattered_a t_memory_a t_thrown t_sectors t_partitions t_files t_address t_start t_fat t_clusters t_header t_found t_kernelAt t_kernelSize t_any t_size t_head t_follows) 0 rfl ⟨rfl, rfl⟩ ⟨Nat.le_of_ble_eq_true rfl, Nat.le_of_ble_eq_true rfl⟩ rfl (At_.cons rfl (At_.cons rfl (At_.cons rfl At_.nil))) (At_.cons rfl (At_.cons rfl (At_.cons rfl At_.nil))) Sm_.refl rfl hl.1 (Nat.le_of_ble_eq_true rfl) ⟨Nat.zero_le _, Nat.zero_le _⟩ d_Model_runs_33 (fun H locs hw => ?_) rfl
        refine n_iconst hC 1 d_Model_runs_36 (by decide) ?_
        refine n_iadd hC hf d_Model_runs_37 (fun v83 hf => ?_)
        refine n_icmp_eq hC hf 45 d_Model_runs_38 (by decide) (fun hf => ?_) (fun hf => ?_)
        · refine n_iconst hC 0 d_Model_runs_45 (by decide) ?_
          exact hj46 _ hf _ _ _ hw (lv_sub hl [0, 2, 3] rfl)
        · exact hj41 hf _ _ _ hw (lv_sub hl [0, 2, 3] rfl)
    )
  exact hL4 N _ _ hf _ _ _ hw (lv_sub hl [0, 1, 2, 3] rfl)
def wd_Model_byteOf (g : GT) (t_o : Nat) (t_name_a : Nat) (t_size_a : Nat) (t_seed_a : Nat) (t_disk_a : Nat) (t_sort_a : Nat) (t_first_a : Nat) (t_many_a : Nat) (t_scattered_a : Nat) (t_head_a : Nat) (t_follows_a : Nat) (t_memory_a : Nat) (t_thrown : Int32) (t_sectors : Int32) (t_partitions : Int32) (t_files : Int32) (t_address : Int32) (t_start : Int32) (t_fat : Int32) (t_clusters : Int32) (t_header : Int32) (t_found : Int32) (t_kernelAt : Int32) (t_kernelSize : Int32) (t_any : Int32) (t_name : Nat → Int64) (t_size : Nat → Int32) (t_seed : Nat → Int32) : va_W := [(t_o, .inr (7, [.int t_thrown, .int t_sectors, .ref t_disk_a, .int t_partitions, .ref t_sort_a, .ref t_first_a, .ref t_many_a, .int t_files, .ref t_name_a, .ref t_size_a, .ref t_seed_a, .ref t_scattered_a, .int t_address, .int t_start, .int t_fat, .int t_clusters, .ref t_head_a, .ref t_follows_a, .int t_header, .int t_found, .int t_kernelAt, .int t_kernelSize, .int t_any, .ref t_memory_a])), (t_name_a, .inl (g.2.2.1, 12, .inr (.inl t_name))), (t_size_a, .inl (g.2.1, 12, .inl t_size)), (t_seed_a, .inl (g.2.1, 12, .inl t_seed))]
def f_Model_byteOf (t_size : Nat → Int32) (a1 : Int32) (t_seed : Nat → Int32) (a2 : Int32) (t_name : Nat → Int64) (t_start : Int32) (t_address : Int32) : Option (Int32) :=
  ix_ 12 t_size a1 (fun (v137 : Int32) => lt_ (fun (x138 : Int32) => lt_ (lt_ (ix_ 12 t_seed a1 (fun (v153 : Int32) => lt_ ((7 : Int32) * a2) (fun v154 => lt_ (v153 + v154) (fun v155 => lt_ (a2 / 200) (fun v156 => lt_ (v155 + v156) (fun v157 => lt_ (v157 - v157 / 256 * 256) (fun v158 => some (v158)))))))) (fun (j167 : Option (Int32)) => if x138 = 0 then j167 else ix_ 12 t_name a1 (fun (v159 : Int64) => bd_ (f_Model_loader ) (fun u160 => lt_ (lg_cmp v159 u160) (fun v161 => if ¬ v161 = 0 then j167 else if ¬ a2 = 0 then if ¬ a2 = (1 : Int32) then if ¬ a2 = (2 : Int32) then if ¬ a2 = (3 : Int32) then lt_ (a2 - 4) (fun v162 => lt_ ((8 : Int32) * v162) (fun v163 => lt_ (t_start >>> (v163 &&& 31)) (fun v164 => lt_ (v164 &&& 255) (fun v165 => some (v165))))) else some (68) else some (65) else some (79) else some (76)))))) (fun (j95 : Option (Int32)) => if x138 = 0 then j95 else ix_ 12 t_name a1 (fun (v166 : Int64) => bd_ (f_Model_kernel ) (fun u167 => lt_ (lg_cmp v166 u167) (fun v168 => if ¬ v168 = 0 then j95 else if ¬ a2 = 0 then if ¬ a2 = (1 : Int32) then if ¬ a2 = (2 : Int32) then if ¬ a2 = (3 : Int32) then lt_ (a2 - 4) (fun v169 => lt_ ((8 : Int32) * v169) (fun v170 => lt_ (t_address >>> (v170 &&& 31)) (fun v171 => lt_ (v171 &&& 255) (fun v172 => some (v172))))) else some (76) else some (78) else some (82) else some (75)))))) (fun (j22 : Int32 → Option (Int32)) => lt_ (j22 0) (fun (j21 : Option (Int32)) => if v137 < (8 : Int32) then j21 else if (8 : Int32) ≤ a2 then j21 else j22 1)))
def rm_Model_byteOf : Room := { frames := 1, cells := 0, slots := 0, locals := 19 }
set_option maxHeartbeats 4000000 in
set_option maxRecDepth 100000 in
theorem c_Model_byteOf (l : Launch) (g : GT) (E : (Nat → Prop) → State → Prop) (hEe : Ee E) (t_o : Nat) (t_name_a : Nat) (t_size_a : Nat) (t_seed_a : Nat) (t_disk_a : Nat) (t_sort_a : Nat) (t_first_a : Nat) (t_many_a : Nat) (t_scattered_a : Nat) (t_head_a : Nat) (t_follows_a : Nat) (t_memory_a : Nat) (t_thrown : Int32) (t_sectors : Int32) (t_partitions : Int32) (t_files : Int32) (t_address : Int32) (t_start : Int32) (t_fat : Int32) (t_clusters : Int32) (t_header : Int32) (t_found : Int32) (t_kernelAt : Int32) (t_kernelSize : Int32) (t_any : Int32) (t_name : Nat → Int64) (t_size : Nat → Int32) (t_seed : Nat → Int32) (a1 : Int32) (a2 : Int32) (z : Int32) (hf : f_Model_byteOf t_size a1 t_seed a2 t_name t_start t_address = some z) : Cg l g E y_Model_byteOf ws_Model_byteOf rm_Model_byteOf [.ref t_o, .int a1, .int a2] (wd_Model_byteOf g t_o t_name_a t_size_a t_seed_a t_disk_a t_sort_a t_first_a t_many_a t_scattered_a t_head_a t_follows_a t_memory_a t_thrown t_sectors t_partitions t_files t_address t_start t_fat t_clusters t_header t_found t_kernelAt t_kernelSize t_any t_name t_size t_seed) (some (.int z)) (wd_Model_byteOf g t_o t_name_a t_size_a t_seed_a t_disk_a t_sort_a t_first_a t_many_a t_scattered_a t_head_a t_follows_a t_memory_a t_thrown t_sectors t_partitions t_files t_address t_start t_fat t_clusters t_header t_found t_kernelAt t_kernelSize t_any t_name t_size t_seed) := by
  refine Ct.ofI hEe good_W (by decide) rfl (Nat.le_of_ble_eq_true rfl) ?_
  intro p e s m args below meth c A ls Q hC hw hl hret
  have hC : CX p m c b_Model_byteOf 4 s args Wall R_Model g.1 classes (tK g) E A := hC
  have hl : lv_has ls 4 [(0, .ref t_o), (1, .int a1), (2, .int a2)] := hl
  unfold f_Model_byteOf at hf
  refine n_aload_n hC hl 0 d_Model_byteOf_0 rfl rfl ?_
  refine n_get hC hw fg_Model_28 0 rfl rfl d_Model_byteOf_1 ?_
  refine n_iload_n hC hl 1 d_Model_byteOf_4 rfl rfl ?_
  refine n_iald hC hw hf 2 0 rfl rfl d_Model_byteOf_5 (fun v137 hf => ?_)
  refine n_bipush hC 8 d_Model_byteOf_6 (by decide) ?_
  refine jn1 (fun (x138 : Int32) => ∀ (H : Heap) (locs : List Loc) (ls : Array Slot), WS g.1 classes A s.heap H locs (wd_Model_byteOf g t_o t_name_a t_size_a t_seed_a t_disk_a t_sort_a t_first_a t_many_a t_scattered_a t_head_a t_follows_a t_memory_a t_thrown t_sectors t_partitions t_files t_address t_start t_fat t_clusters t_header t_found t_kernelAt t_kernelSize t_any t_name t_size t_seed) → lv_has ls 4 [(0, .ref t_o), (1, .int a1), (2, .int a2)] → W p l e rm_Model_byteOf s m args below meth c H locs 0 0 Q (F0 m 22 ls [.int x138])) hf (fun x138 hf H locs ls hw hl => ?_) (fun j22 hj22 hf => ?_)
  · refine n_istore_n hC [(3, .int x138), (0, .ref t_o), (1, .int a1), (2, .int a2)] hl d_Model_byteOf_22 rfl (by decide) rfl (fun ls hl => ?_)
    refine n_iload_n hC hl 0 d_Model_byteOf_23 rfl rfl ?_
    refine jn0 (∀ (H : Heap) (locs : List Loc) (ls : Array Slot), WS g.1 classes A s.heap H locs (wd_Model_byteOf g t_o t_name_a t_size_a t_seed_a t_disk_a t_sort_a t_first_a t_many_a t_scattered_a t_head_a t_follows_a t_memory_a t_thrown t_sectors t_partitions t_files t_address t_start t_fat t_clusters t_header t_found t_kernelAt t_kernelSize t_any t_name t_size t_seed) → lv_has ls 4 [(3, .int x138), (0, .ref t_o), (1, .int a1), (2, .int a2)] → W p l e rm_Model_byteOf s m args below meth c H locs 0 0 Q (F0 m 95 ls [])) hf (fun hf H locs ls hw hl => ?_) (fun j95 hj95 hf => ?_)
    · refine n_iload_n hC hl 0 d_Model_byteOf_95 rfl rfl ?_
      refine jn0 (∀ (H : Heap) (locs : List Loc) (ls : Array Slot), WS g.1 classes A s.heap H locs (wd_Model_byteOf g t_o t_name_a t_size_a t_seed_a t_disk_a t_sort_a t_first_a t_many_a t_scattered_a t_head_a t_follows_a t_memory_a t_thrown t_sectors t_partitions t_files t_address t_start t_fat t_clusters t_header t_found t_kernelAt t_kernelSize t_any t_name t_size t_seed) → lv_has ls 4 [(0, .ref t_o), (1, .int a1), (2, .int a2)] → W p l e rm_Model_byteOf s m args below meth c H locs 0 0 Q (F0 m 167 ls [])) hf (fun hf H locs ls hw hl => ?_) (fun j167 hj167 hf => ?_)
      · refine n_aload_n hC hl 0 d_Model_byteOf_167 rfl rfl ?_
        refine n_get hC hw fg_Model_31 0 rfl rfl d_Model_byteOf_168 ?_
        refine n_iload_n hC hl 1 d_Model_byteOf_171 rfl rfl ?_
        refine n_iald hC hw hf 3 0 rfl rfl d_Model_byteOf_172 (fun v153 hf => ?_)
        refine n_bipush hC 7 d_Model_byteOf_173 (by decide) ?_
        refine n_iload_n hC hl 2 d_Model_byteOf_175 rfl rfl ?_
        refine n_imul hC hf d_Model_byteOf_176 (fun v154 hf => ?_)
        refine n_iadd hC hf d_Model_byteOf_177 (fun v155 hf => ?_)
        refine n_iload_n hC hl 2 d_Model_byteOf_178 rfl rfl ?_
        refine n_sipush hC 200 d_Model_byteOf_179 (by decide) ?_
        refine n_idiv hC hf d_Model_byteOf_182 (by decide) (fun v156 hf => ?_)
        refine n_iadd hC hf d_Model_byteOf_183 (fun v157 hf => ?_)
        refine n_sipush hC 256 d_Model_byteOf_184 (by decide) ?_
        refine n_irem hC hf d_Model_byteOf_187 (by decide) (fun v158 hf => ?_)
        cases hf
        exact hret _ _ _ _ hw rfl d_Model_byteOf_188
      refine n_if_eq hC hf 167 d_Model_byteOf_96 (by decide) (fun hf => ?_) (fun hf => ?_)
      · exact hj167 hf _ _ _ hw (lv_sub hl [1, 2, 3] rfl)
      · refine n_aload_n hC hl 1 d_Model_byteOf_99 rfl rfl ?_
        refine n_get hC hw fg_Model_24 0 rfl rfl d_Model_byteOf_100 ?_
        refine n_iload_n hC hl 2 d_Model_byteOf_103 rfl rfl ?_
        refine n_lald hC hw hf 1 1 rfl rfl d_Model_byteOf_104 (fun v159 hf => ?_)
        obtain ⟨u160, hu160, hf⟩ := bd_s hf
        refine n_callSl hC hw fc_Model_131 (c_Model_loader l g E hEe  u160 hu160) [] (wd_Model_byteOf g t_o t_name_a t_size_a t_seed_a t_disk_a t_sort_a t_first_a t_many_a t_scattered_a t_head_a t_follows_a t_memory_a t_thrown t_sectors t_partitions t_files t_address t_start t_fat t_clusters t_header t_found t_kernelAt t_kernelSize t_any t_name t_size t_seed) ⟨rfl, rfl⟩ ⟨Nat.le_of_ble_eq_true rfl, Nat.le_of_ble_eq_true rfl⟩ rfl At_.nil At_.nil Sm_.refl rfl hl.1 (Nat.le_of_ble_eq_true rfl) ⟨Nat.zero_le _, Nat.zero_le _⟩ d_Model_byteOf_105 (fun H locs hw => ?_) rfl
        refine n_lcmp hC hf d_Model_byteOf_108 (fun v161 hf => ?_)
        refine n_if_ne hC hf 167 d_Model_byteOf_109 (by decide) (fun hf => ?_) (fun hf => ?_)
        · exact hj167 hf _ _ _ hw (lv_sub hl [1, 2, 3] rfl)
        · refine n_iload_n hC hl 3 d_Model_byteOf_112 rfl rfl ?_
          refine n_if_ne hC hf 121 d_Model_byteOf_113 (by decide) (fun hf => ?_) (fun hf => ?_)
          · refine n_iload_n hC hl 3 d_Model_byteOf_121 rfl rfl ?_
            refine n_iconst hC 1 d_Model_byteOf_122 (by decide) ?_
            refine n_icmp_ne hC hf 131 d_Model_byteOf_123 (by decide) (fun hf => ?_) (fun hf => ?_)
            · refine n_iload_n hC hl 3 d_Model_byteOf_131 rfl rfl ?_
              refine n_iconst hC 2 d_Model_byteOf_132 (by decide) ?_
              refine n_icmp_ne hC hf 141 d_Model_byteOf_133 (by decide) (fun hf => ?_) (fun hf => ?_)
              · refine n_iload_n hC hl 3 d_Model_byteOf_141 rfl rfl ?_
                refine n_iconst hC 3 d_Model_byteOf_142 (by decide) ?_
                refine n_icmp_ne hC hf 151 d_Model_byteOf_143 (by decide) (fun hf => ?_) (fun hf => ?_)
                · refine n_aload_n hC hl 1 d_Model_byteOf_151 rfl rfl ?_
                  refine n_get hC hw fg_Model_118 0 rfl rfl d_Model_byteOf_152 ?_
                  refine n_bipush hC 8 d_Model_byteOf_155 (by decide) ?_
                  refine n_iload_n hC hl 3 d_Model_byteOf_157 rfl rfl ?_
                  refine n_iconst hC 4 d_Model_byteOf_158 (by decide) ?_
                  refine n_isub hC hf d_Model_byteOf_159 (fun v162 hf => ?_)
                  refine n_imul hC hf d_Model_byteOf_160 (fun v163 hf => ?_)
                  refine n_ishr hC hf d_Model_byteOf_161 (fun v164 hf => ?_)
                  refine n_sipush hC 255 d_Model_byteOf_162 (by decide) ?_
                  refine n_iand hC hf d_Model_byteOf_165 (fun v165 hf => ?_)
                  cases hf
                  exact hret _ _ _ _ hw rfl d_Model_byteOf_166
                · refine n_bipush hC 68 d_Model_byteOf_146 (by decide) ?_
                  refine n_goto hC 166 d_Model_byteOf_148 (by decide) ?_
                  cases hf
                  exact hret _ _ _ _ hw rfl d_Model_byteOf_166
              · refine n_bipush hC 65 d_Model_byteOf_136 (by decide) ?_
                refine n_goto hC 166 d_Model_byteOf_138 (by decide) ?_
                cases hf
                exact hret _ _ _ _ hw rfl d_Model_byteOf_166
            · refine n_bipush hC 79 d_Model_byteOf_126 (by decide) ?_
              refine n_goto hC 166 d_Model_byteOf_128 (by decide) ?_
              cases hf
              exact hret _ _ _ _ hw rfl d_Model_byteOf_166
          · refine n_bipush hC 76 d_Model_byteOf_116 (by decide) ?_
            refine n_goto hC 166 d_Model_byteOf_118 (by decide) ?_
            cases hf
            exact hret _ _ _ _ hw rfl d_Model_byteOf_166
    refine n_if_eq hC hf 95 d_Model_byteOf_24 (by decide) (fun hf => ?_) (fun hf => ?_)
    · exact hj95 hf _ _ _ hw (lv_sub hl [0, 1, 2, 3] rfl)
    · refine n_aload_n hC hl 1 d_Model_byteOf_27 rfl rfl ?_
      refine n_get hC hw fg_Model_24 0 rfl rfl d_Model_byteOf_28 ?_
      refine n_iload_n hC hl 2 d_Model_byteOf_31 rfl rfl ?_
      refine n_lald hC hw hf 1 1 rfl rfl d_Model_byteOf_32 (fun v166 hf => ?_)
      obtain ⟨u167, hu167, hf⟩ := bd_s hf
      refine n_callSl hC hw fc_Model_127 (c_Model_kernel l g E hEe  u167 hu167) [] (wd_Model_byteOf g t_o t_name_a t_size_a t_seed_a t_disk_a t_sort_a t_first_a t_many_a t_scattered_a t_head_a t_follows_a t_memory_a t_thrown t_sectors t_partitions t_files t_address t_start t_fat t_clusters t_header t_found t_kernelAt t_kernelSize t_any t_name t_size t_seed) ⟨rfl, rfl⟩ ⟨Nat.le_of_ble_eq_true rfl, Nat.le_of_ble_eq_true rfl⟩ rfl At_.nil At_.nil Sm_.refl rfl hl.1 (Nat.le_of_ble_eq_true rfl) ⟨Nat.zero_le _, Nat.zero_le _⟩ d_Model_byteOf_33 (fun H locs hw => ?_) rfl
      refine n_lcmp hC hf d_Model_byteOf_36 (fun v168 hf => ?_)
      refine n_if_ne hC hf 95 d_Model_byteOf_37 (by decide) (fun hf => ?_) (fun hf => ?_)
      · exact hj95 hf _ _ _ hw (lv_sub hl [0, 1, 2, 3] rfl)
      · refine n_iload_n hC hl 3 d_Model_byteOf_40 rfl rfl ?_
        refine n_if_ne hC hf 49 d_Model_byteOf_41 (by decide) (fun hf => ?_) (fun hf => ?_)
        · refine n_iload_n hC hl 3 d_Model_byteOf_49 rfl rfl ?_
          refine n_iconst hC 1 d_Model_byteOf_50 (by decide) ?_
          refine n_icmp_ne hC hf 59 d_Model_byteOf_51 (by decide) (fun hf => ?_) (fun hf => ?_)
          · refine n_iload_n hC hl 3 d_Model_byteOf_59 rfl rfl ?_
            refine n_iconst hC 2 d_Model_byteOf_60 (by decide) ?_
            refine n_icmp_ne hC hf 69 d_Model_byteOf_61 (by decide) (fun hf => ?_) (fun hf => ?_)
            · refine n_iload_n hC hl 3 d_Model_byteOf_69 rfl rfl ?_
              refine n_iconst hC 3 d_Model_byteOf_70 (by decide) ?_
              refine n_icmp_ne hC hf 79 d_Model_byteOf_71 (by decide) (fun hf => ?_) (fun hf => ?_)
              · refine n_aload_n hC hl 1 d_Model_byteOf_79 rfl rfl ?_
                refine n_get hC hw fg_Model_102 0 rfl rfl d_Model_byteOf_80 ?_
                refine n_bipush hC 8 d_Model_byteOf_83 (by decide) ?_
                refine n_iload_n hC hl 3 d_Model_byteOf_85 rfl rfl ?_
                refine n_iconst hC 4 d_Model_byteOf_86 (by decide) ?_
                refine n_isub hC hf d_Model_byteOf_87 (fun v169 hf => ?_)
                refine n_imul hC hf d_Model_byteOf_88 (fun v170 hf => ?_)
                refine n_ishr hC hf d_Model_byteOf_89 (fun v171 hf => ?_)
                refine n_sipush hC 255 d_Model_byteOf_90 (by decide) ?_
                refine n_iand hC hf d_Model_byteOf_93 (fun v172 hf => ?_)
                cases hf
                exact hret _ _ _ _ hw rfl d_Model_byteOf_94
              · refine n_bipush hC 76 d_Model_byteOf_74 (by decide) ?_
                refine n_goto hC 94 d_Model_byteOf_76 (by decide) ?_
                cases hf
                exact hret _ _ _ _ hw rfl d_Model_byteOf_94
            · refine n_bipush hC 78 d_Model_byteOf_64 (by decide) ?_
              refine n_goto hC 94 d_Model_byteOf_66 (by decide) ?_
              cases hf
              exact hret _ _ _ _ hw rfl d_Model_byteOf_94
          · refine n_bipush hC 82 d_Model_byteOf_54 (by decide) ?_
            refine n_goto hC 94 d_Model_byteOf_56 (by decide) ?_
            cases hf
            exact hret _ _ _ _ hw rfl d_Model_byteOf_94
        · refine n_bipush hC 75 d_Model_byteOf_44 (by decide) ?_
          refine n_goto hC 94 d_Model_byteOf_46 (by decide) ?_
          cases hf
          exact hret _ _ _ _ hw rfl d_Model_byteOf_94
  refine jn0 (∀ (H : Heap) (locs : List Loc) (ls : Array Slot), WS g.1 classes A s.heap H locs (wd_Model_byteOf g t_o t_name_a t_size_a t_seed_a t_disk_a t_sort_a t_first_a t_many_a t_scattered_a t_head_a t_follows_a t_memory_a t_thrown t_sectors t_partitions t_files t_address t_start t_fat t_clusters t_header t_found t_kernelAt t_kernelSize t_any t_name t_size t_seed) → lv_has ls 4 [(0, .ref t_o), (1, .int a1), (2, .int a2)] → W p l e rm_Model_byteOf s m args below meth c H locs 0 0 Q (F0 m 21 ls [])) hf (fun hf H locs ls hw hl => ?_) (fun j21 hj21 hf => ?_)
  · refine n_iconst hC 0 d_Model_byteOf_21 (by decide) ?_
    exact hj22 _ hf _ _ _ hw (lv_sub hl [0, 1, 2] rfl)
  refine n_icmp_lt hC hf 21 d_Model_byteOf_8 (by decide) (fun hf => ?_) (fun hf => ?_)
  · exact hj21 hf _ _ _ hw (lv_sub hl [0, 1, 2] rfl)
  · refine n_iload_n hC hl 2 d_Model_byteOf_11 rfl rfl ?_
    refine n_bipush hC 8 d_Model_byteOf_12 (by decide) ?_
    refine n_icmp_ge hC hf 21 d_Model_byteOf_14 (by decide) (fun hf => ?_) (fun hf => ?_)
    · exact hj21 hf _ _ _ hw (lv_sub hl [0, 1, 2] rfl)
    · refine n_iconst hC 1 d_Model_byteOf_17 (by decide) ?_
      refine n_goto hC 22 d_Model_byteOf_18 (by decide) ?_
      exact hj22 _ hf _ _ _ hw (lv_sub hl [0, 1, 2] rfl)
def wd_Model_word (g : GT) (t_o : Nat) (t_disk_a : Nat) (t_sort_a : Nat) (t_first_a : Nat) (t_many_a : Nat) (t_name_a : Nat) (t_size_a : Nat) (t_seed_a : Nat) (t_scattered_a : Nat) (t_head_a : Nat) (t_follows_a : Nat) (t_memory_a : Nat) (t_thrown : Int32) (t_sectors : Int32) (t_partitions : Int32) (t_files : Int32) (t_address : Int32) (t_start : Int32) (t_fat : Int32) (t_clusters : Int32) (t_header : Int32) (t_found : Int32) (t_kernelAt : Int32) (t_kernelSize : Int32) (t_any : Int32) (t_disk : Nat → Int32) : va_W := [(t_o, .inr (7, [.int t_thrown, .int t_sectors, .ref t_disk_a, .int t_partitions, .ref t_sort_a, .ref t_first_a, .ref t_many_a, .int t_files, .ref t_name_a, .ref t_size_a, .ref t_seed_a, .ref t_scattered_a, .int t_address, .int t_start, .int t_fat, .int t_clusters, .ref t_head_a, .ref t_follows_a, .int t_header, .int t_found, .int t_kernelAt, .int t_kernelSize, .int t_any, .ref t_memory_a])), (t_disk_a, .inl (g.2.2.2.2, 307200, .inl t_disk))]
def f_Model_word (a2 : Int32) (t_disk : Nat → Int32) (a1 : Int32) (a3 : Int32) (a4 : Int32) (a5 : Int32) : Option ((Nat → Int32)) :=
  lt_ (a2.toInt8.toInt32) (fun v12 => up_b 307200 t_disk a1 v12 (fun (f13 : Nat → Int32) => lt_ (a1 + 1) (fun v14 => lt_ (a3.toInt8.toInt32) (fun v15 => up_b 307200 f13 v14 v15 (fun (f16 : Nat → Int32) => lt_ (a1 + 2) (fun v17 => lt_ (a4.toInt8.toInt32) (fun v18 => up_b 307200 f16 v17 v18 (fun (f19 : Nat → Int32) => lt_ (a1 + 3) (fun v20 => lt_ (a5.toInt8.toInt32) (fun v21 => up_b 307200 f19 v20 v21 (fun (f22 : Nat → Int32) => some (f22))))))))))))
def rm_Model_word : Room := { frames := 0, cells := 0, slots := 0, locals := 0 }
set_option maxHeartbeats 4000000 in
set_option maxRecDepth 100000 in
theorem c_Model_word (l : Launch) (g : GT) (E : (Nat → Prop) → State → Prop) (hEe : Ee E) (t_o : Nat) (t_disk_a : Nat) (t_sort_a : Nat) (t_first_a : Nat) (t_many_a : Nat) (t_name_a : Nat) (t_size_a : Nat) (t_seed_a : Nat) (t_scattered_a : Nat) (t_head_a : Nat) (t_follows_a : Nat) (t_memory_a : Nat) (t_thrown : Int32) (t_sectors : Int32) (t_partitions : Int32) (t_files : Int32) (t_address : Int32) (t_start : Int32) (t_fat : Int32) (t_clusters : Int32) (t_header : Int32) (t_found : Int32) (t_kernelAt : Int32) (t_kernelSize : Int32) (t_any : Int32) (t_disk : Nat → Int32) (a1 : Int32) (a2 : Int32) (a3 : Int32) (a4 : Int32) (a5 : Int32) (z : (Nat → Int32)) (hf : f_Model_word a2 t_disk a1 a3 a4 a5 = some z) : Cg l g E y_Model_word ws_Model_word rm_Model_word [.ref t_o, .int a1, .int a2, .int a3, .int a4, .int a5] (wd_Model_word g t_o t_disk_a t_sort_a t_first_a t_many_a t_name_a t_size_a t_seed_a t_scattered_a t_head_a t_follows_a t_memory_a t_thrown t_sectors t_partitions t_files t_address t_start t_fat t_clusters t_header t_found t_kernelAt t_kernelSize t_any t_disk) none (wd_Model_word g t_o t_disk_a t_sort_a t_first_a t_many_a t_name_a t_size_a t_seed_a t_scattered_a t_head_a t_follows_a t_memory_a t_thrown t_sectors t_partitions t_files t_address t_start t_fat t_clusters t_header t_found t_kernelAt t_kernelSize t_any z) := by
  refine Ct.ofV hEe good_W (by decide) rfl (Nat.le_of_ble_eq_true rfl) ?_
  intro p e s m args below meth c A ls Q hC hw hl hret
  have hC : CX p m c b_Model_word 6 s args Wall R_Model g.1 classes (tK g) E A := hC
  have hl : lv_has ls 6 [(0, .ref t_o), (1, .int a1), (2, .int a2), (3, .int a3), (4, .int a4), (5, .int a5)] := hl
  unfold f_Model_word at hf
  refine n_aload_n hC hl 0 d_Model_word_0 rfl rfl ?_
  refine n_get hC hw fg_Model_8 0 rfl rfl d_Model_word_1 ?_
  refine n_iload_n hC hl 1 d_Model_word_4 rfl rfl ?_
  refine n_iload_n hC hl 2 d_Model_word_5 rfl rfl ?_
  refine n_i2b hC hf d_Model_word_6 (fun v12 hf => ?_)
  refine n_bast hC hw hf 1 3 (fun f13 => wd_Model_word g t_o t_disk_a t_sort_a t_first_a t_many_a t_name_a t_size_a t_seed_a t_scattered_a t_head_a t_follows_a t_memory_a t_thrown t_sectors t_partitions t_files t_address t_start t_fat t_clusters t_header t_found t_kernelAt t_kernelSize t_any f13) rfl rfl d_Model_word_7 (fun _ => rfl) (fun f13 H locs hf hw => ?_)
  refine n_aload_n hC hl 0 d_Model_word_8 rfl rfl ?_
  refine n_get hC hw fg_Model_8 0 rfl rfl d_Model_word_9 ?_
  refine n_iload_n hC hl 1 d_Model_word_12 rfl rfl ?_
  refine n_iconst hC 1 d_Model_word_13 (by decide) ?_
  refine n_iadd hC hf d_Model_word_14 (fun v14 hf => ?_)
  refine n_iload_n hC hl 3 d_Model_word_15 rfl rfl ?_
  refine n_i2b hC hf d_Model_word_16 (fun v15 hf => ?_)
  refine n_bast hC hw hf 1 3 (fun f16 => wd_Model_word g t_o t_disk_a t_sort_a t_first_a t_many_a t_name_a t_size_a t_seed_a t_scattered_a t_head_a t_follows_a t_memory_a t_thrown t_sectors t_partitions t_files t_address t_start t_fat t_clusters t_header t_found t_kernelAt t_kernelSize t_any f16) rfl rfl d_Model_word_17 (fun _ => rfl) (fun f16 H locs hf hw => ?_)
  refine n_aload_n hC hl 0 d_Model_word_18 rfl rfl ?_
  refine n_get hC hw fg_Model_8 0 rfl rfl d_Model_word_19 ?_
  refine n_iload_n hC hl 1 d_Model_word_22 rfl rfl ?_
  refine n_iconst hC 2 d_Model_word_23 (by decide) ?_
  refine n_iadd hC hf d_Model_word_24 (fun v17 hf => ?_)
  refine n_iload hC hl 4 d_Model_word_25 rfl ?_
  refine n_i2b hC hf d_Model_word_27 (fun v18 hf => ?_)
  refine n_bast hC hw hf 1 3 (fun f19 => wd_Model_word g t_o t_disk_a t_sort_a t_first_a t_many_a t_name_a t_size_a t_seed_a t_scattered_a t_head_a t_follows_a t_memory_a t_thrown t_sectors t_partitions t_files t_address t_start t_fat t_clusters t_header t_found t_kernelAt t_kernelSize t_any f19) rfl rfl d_Model_word_28 (fun _ => rfl) (fun f19 H locs hf hw => ?_)
  refine n_aload_n hC hl 0 d_Model_word_29 rfl rfl ?_
  refine n_get hC hw fg_Model_8 0 rfl rfl d_Model_word_30 ?_
  refine n_iload_n hC hl 1 d_Model_word_33 rfl rfl ?_
  refine n_iconst hC 3 d_Model_word_34 (by decide) ?_
  refine n_iadd hC hf d_Model_word_35 (fun v20 hf => ?_)
  refine n_iload hC hl 5 d_Model_word_36 rfl ?_
  refine n_i2b hC hf d_Model_word_38 (fun v21 hf => ?_)
  refine n_bast hC hw hf 1 3 (fun f22 => wd_Model_word g t_o t_disk_a t_sort_a t_first_a t_many_a t_name_a t_size_a t_seed_a t_scattered_a t_head_a t_follows_a t_memory_a t_thrown t_sectors t_partitions t_files t_address t_start t_fat t_clusters t_header t_found t_kernelAt t_kernelSize t_any f22) rfl rfl d_Model_word_39 (fun _ => rfl) (fun f22 H locs hf hw => ?_)
  cases hf
  exact hret _ _ _ _ hw d_Model_word_40
def wd_Model_entry (g : GT) (t_o : Nat) (t_disk_a : Nat) (t_sort_a : Nat) (t_first_a : Nat) (t_many_a : Nat) (t_name_a : Nat) (t_size_a : Nat) (t_seed_a : Nat) (t_scattered_a : Nat) (t_head_a : Nat) (t_follows_a : Nat) (t_memory_a : Nat) (t_thrown : Int32) (t_sectors : Int32) (t_partitions : Int32) (t_files : Int32) (t_address : Int32) (t_start : Int32) (t_fat : Int32) (t_clusters : Int32) (t_header : Int32) (t_found : Int32) (t_kernelAt : Int32) (t_kernelSize : Int32) (t_any : Int32) (t_disk : Nat → Int32) : va_W := [(t_o, .inr (7, [.int t_thrown, .int t_sectors, .ref t_disk_a, .int t_partitions, .ref t_sort_a, .ref t_first_a, .ref t_many_a, .int t_files, .ref t_name_a, .ref t_size_a, .ref t_seed_a, .ref t_scattered_a, .int t_address, .int t_start, .int t_fat, .int t_clusters, .ref t_head_a, .ref t_follows_a, .int t_header, .int t_found, .int t_kernelAt, .int t_kernelSize, .int t_any, .ref t_memory_a])), (t_disk_a, .inl (g.2.2.2.2, 307200, .inl t_disk))]
def f_Model_entry (a1 : Int32) (a2 : Int32) (t_disk : Nat → Int32) (a3 : Int32) : Option ((Nat → Int32)) :=
  lt_ ((512 : Int32) * a1) (fun v28 => lt_ (a2 * 3) (fun v29 => lt_ (v29 / 2) (fun v30 => lt_ (v28 + v30) (fun v31 => bd_ (f_Model_get t_disk v31) (fun u32 => lt_ (v31 + 1) (fun v33 => bd_ (f_Model_get t_disk v33) (fun u34 => lt_ (u34 <<< ((8 : Int32) &&& 31)) (fun v35 => lt_ (u32 ||| v35) (fun v36 => lt_ (a2 - a2 / 2 * 2) (fun v37 => lt_ (fun (x43 : Int32) => lt_ (x43.toInt8.toInt32) (fun v44 => up_b 307200 t_disk v31 v44 (fun (f45 : Nat → Int32) => lt_ (v31 + 1) (fun v46 => lt_ (x43 >>> ((8 : Int32) &&& 31)) (fun v47 => lt_ (v47.toInt8.toInt32) (fun v48 => up_b 307200 f45 v46 v48 (fun (f49 : Nat → Int32) => some (f49)))))))) (fun (j58 : Int32 → Option ((Nat → Int32))) => if ¬ v37 = 0 then lt_ (v36 &&& 15) (fun v50 => lt_ (a3 <<< ((4 : Int32) &&& 31)) (fun v51 => lt_ (v50 ||| v51) (fun v52 => j58 v52))) else lt_ (v36 &&& 61440) (fun v53 => lt_ (v53 ||| a3) (fun v54 => j58 v54)))))))))))))
def rm_Model_entry : Room := { frames := 1, cells := 0, slots := 0, locals := 21 }
set_option maxHeartbeats 4000000 in
set_option maxRecDepth 100000 in
theorem c_Model_entry (l : Launch) (g : GT) (E : (Nat → Prop) → State → Prop) (hEe : Ee E) (t_o : Nat) (t_disk_a : Nat) (t_sort_a : Nat) (t_first_a : Nat) (t_many_a : Nat) (t_name_a : Nat) (t_size_a : Nat) (t_seed_a : Nat) (t_scattered_a : Nat) (t_head_a : Nat) (t_follows_a : Nat) (t_memory_a : Nat) (t_thrown : Int32) (t_sectors : Int32) (t_partitions : Int32) (t_files : Int32) (t_address : Int32) (t_start : Int32) (t_fat : Int32) (t_clusters : Int32) (t_header : Int32) (t_found : Int32) (t_kernelAt : Int32) (t_kernelSize : Int32) (t_any : Int32) (t_disk : Nat → Int32) (a1 : Int32) (a2 : Int32) (a3 : Int32) (z : (Nat → Int32)) (hf : f_Model_entry a1 a2 t_disk a3 = some z) : Cg l g E y_Model_entry ws_Model_entry rm_Model_entry [.ref t_o, .int a1, .int a2, .int a3] (wd_Model_entry g t_o t_disk_a t_sort_a t_first_a t_many_a t_name_a t_size_a t_seed_a t_scattered_a t_head_a t_follows_a t_memory_a t_thrown t_sectors t_partitions t_files t_address t_start t_fat t_clusters t_header t_found t_kernelAt t_kernelSize t_any t_disk) none (wd_Model_entry g t_o t_disk_a t_sort_a t_first_a t_many_a t_name_a t_size_a t_seed_a t_scattered_a t_head_a t_follows_a t_memory_a t_thrown t_sectors t_partitions t_files t_address t_start t_fat t_clusters t_header t_found t_kernelAt t_kernelSize t_any z) := by
  refine Ct.ofV hEe good_W (by decide) rfl (Nat.le_of_ble_eq_true rfl) ?_
  intro p e s m args below meth c A ls Q hC hw hl hret
  have hC : CX p m c b_Model_entry 6 s args Wall R_Model g.1 classes (tK g) E A := hC
  have hl : lv_has ls 6 [(0, .ref t_o), (1, .int a1), (2, .int a2), (3, .int a3)] := hl
  unfold f_Model_entry at hf
  refine n_sipush hC 512 d_Model_entry_0 (by decide) ?_
  refine n_iload_n hC hl 1 d_Model_entry_3 rfl rfl ?_
  refine n_imul hC hf d_Model_entry_4 (fun v28 hf => ?_)
  refine n_iload_n hC hl 2 d_Model_entry_5 rfl rfl ?_
  refine n_iconst hC 3 d_Model_entry_6 (by decide) ?_
  refine n_imul hC hf d_Model_entry_7 (fun v29 hf => ?_)
  refine n_iconst hC 2 d_Model_entry_8 (by decide) ?_
  refine n_idiv hC hf d_Model_entry_9 (by decide) (fun v30 hf => ?_)
  refine n_iadd hC hf d_Model_entry_10 (fun v31 hf => ?_)
  refine n_istore hC [(4, .int v31), (0, .ref t_o), (1, .int a1), (2, .int a2), (3, .int a3)] hl d_Model_entry_11 (by decide) rfl (fun ls hl => ?_)
  refine n_aload_n hC hl 1 d_Model_entry_13 rfl rfl ?_
  refine n_iload hC hl 0 d_Model_entry_14 rfl ?_
  obtain ⟨u32, hu32, hf⟩ := bd_s hf
  refine n_callVi hC hw fc_Model_64 (c_Model_get l g E hEe t_o t_disk_a t_sort_a t_first_a t_many_a t_name_a t_size_a t_seed_a t_scattered_a t_head_a t_follows_a t_memory_a t_thrown t_sectors t_partitions t_files t_address t_start t_fat t_clusters t_header t_found t_kernelAt t_kernelSize t_any t_disk v31 u32 hu32) [0, 1] (wd_Model_entry g t_o t_disk_a t_sort_a t_first_a t_many_a t_name_a t_size_a t_seed_a t_scattered_a t_head_a t_follows_a t_memory_a t_thrown t_sectors t_partitions t_files t_address t_start t_fat t_clusters t_header t_found t_kernelAt t_kernelSize t_any t_disk) 0 rfl ⟨rfl, rfl⟩ ⟨Nat.le_of_ble_eq_true rfl, Nat.le_of_ble_eq_true rfl⟩ rfl (At_.cons rfl (At_.cons rfl At_.nil)) (At_.cons rfl (At_.cons rfl At_.nil)) Sm_.refl rfl hl.1 (Nat.le_of_ble_eq_true rfl) ⟨Nat.zero_le _, Nat.zero_le _⟩ d_Model_entry_16 (fun H locs hw => ?_) rfl
  refine n_aload_n hC hl 1 d_Model_entry_19 rfl rfl ?_
  refine n_iload hC hl 0 d_Model_entry_20 rfl ?_
  refine n_iconst hC 1 d_Model_entry_22 (by decide) ?_
  refine n_iadd hC hf d_Model_entry_23 (fun v33 hf => ?_)
  obtain ⟨u34, hu34, hf⟩ := bd_s hf
  refine n_callVi hC hw fc_Model_64 (c_Model_get l g E hEe t_o t_disk_a t_sort_a t_first_a t_many_a t_name_a t_size_a t_seed_a t_scattered_a t_head_a t_follows_a t_memory_a t_thrown t_sectors t_partitions t_files t_address t_start t_fat t_clusters t_header t_found t_kernelAt t_kernelSize t_any t_disk v33 u34 hu34) [0, 1] (wd_Model_entry g t_o t_disk_a t_sort_a t_first_a t_many_a t_name_a t_size_a t_seed_a t_scattered_a t_head_a t_follows_a t_memory_a t_thrown t_sectors t_partitions t_files t_address t_start t_fat t_clusters t_header t_found t_kernelAt t_kernelSize t_any t_disk) 0 rfl ⟨rfl, rfl⟩ ⟨Nat.le_of_ble_eq_true rfl, Nat.le_of_ble_eq_true rfl⟩ rfl (At_.cons rfl (At_.cons rfl At_.nil)) (At_.cons rfl (At_.cons rfl At_.nil)) Sm_.refl rfl hl.1 (Nat.le_of_ble_eq_true rfl) ⟨Nat.zero_le _, Nat.zero_le _⟩ d_Model_entry_24 (fun H locs hw => ?_) rfl
  refine n_bipush hC 8 d_Model_entry_27 (by decide) ?_
  refine n_ishl hC hf d_Model_entry_29 (fun v35 hf => ?_)
  refine n_ior hC hf d_Model_entry_30 (fun v36 hf => ?_)
  refine n_istore hC [(5, .int v36), (4, .int v31), (0, .ref t_o), (1, .int a1), (2, .int a2), (3, .int a3)] hl d_Model_entry_31 (by decide) rfl (fun ls hl => ?_)
  refine n_iload_n hC hl 4 d_Model_entry_33 rfl rfl ?_
  refine n_iconst hC 2 d_Model_entry_34 (by decide) ?_
  refine n_irem hC hf d_Model_entry_35 (by decide) (fun v37 hf => ?_)
  refine jn1 (fun (x43 : Int32) => ∀ (H : Heap) (locs : List Loc) (ls : Array Slot), WS g.1 classes A s.heap H locs (wd_Model_entry g t_o t_disk_a t_sort_a t_first_a t_many_a t_name_a t_size_a t_seed_a t_scattered_a t_head_a t_follows_a t_memory_a t_thrown t_sectors t_partitions t_files t_address t_start t_fat t_clusters t_header t_found t_kernelAt t_kernelSize t_any t_disk) → lv_has ls 6 [(4, .int v31), (0, .ref t_o)] → W p l e rm_Model_entry s m args below meth c H locs 0 0 Q (F0 m 58 ls [.int x43])) hf (fun x43 hf H locs ls hw hl => ?_) (fun j58 hj58 hf => ?_)
  · refine n_istore hC [(5, .int x43), (4, .int v31), (0, .ref t_o)] hl d_Model_entry_58 (by decide) rfl (fun ls hl => ?_)
    refine n_aload_n hC hl 2 d_Model_entry_60 rfl rfl ?_
    refine n_get hC hw fg_Model_8 0 rfl rfl d_Model_entry_61 ?_
    refine n_iload hC hl 1 d_Model_entry_64 rfl ?_
    refine n_iload hC hl 0 d_Model_entry_66 rfl ?_
    refine n_i2b hC hf d_Model_entry_68 (fun v44 hf => ?_)
    refine n_bast hC hw hf 1 3 (fun f45 => wd_Model_entry g t_o t_disk_a t_sort_a t_first_a t_many_a t_name_a t_size_a t_seed_a t_scattered_a t_head_a t_follows_a t_memory_a t_thrown t_sectors t_partitions t_files t_address t_start t_fat t_clusters t_header t_found t_kernelAt t_kernelSize t_any f45) rfl rfl d_Model_entry_69 (fun _ => rfl) (fun f45 H locs hf hw => ?_)
    refine n_aload_n hC hl 2 d_Model_entry_70 rfl rfl ?_
    refine n_get hC hw fg_Model_8 0 rfl rfl d_Model_entry_71 ?_
    refine n_iload hC hl 1 d_Model_entry_74 rfl ?_
    refine n_iconst hC 1 d_Model_entry_76 (by decide) ?_
    refine n_iadd hC hf d_Model_entry_77 (fun v46 hf => ?_)
    refine n_iload hC hl 0 d_Model_entry_78 rfl ?_
    refine n_bipush hC 8 d_Model_entry_80 (by decide) ?_
    refine n_ishr hC hf d_Model_entry_82 (fun v47 hf => ?_)
    refine n_i2b hC hf d_Model_entry_83 (fun v48 hf => ?_)
    refine n_bast hC hw hf 1 3 (fun f49 => wd_Model_entry g t_o t_disk_a t_sort_a t_first_a t_many_a t_name_a t_size_a t_seed_a t_scattered_a t_head_a t_follows_a t_memory_a t_thrown t_sectors t_partitions t_files t_address t_start t_fat t_clusters t_header t_found t_kernelAt t_kernelSize t_any f49) rfl rfl d_Model_entry_84 (fun _ => rfl) (fun f49 H locs hf hw => ?_)
    cases hf
    exact hret _ _ _ _ hw d_Model_entry_85
  refine n_if_ne hC hf 49 d_Model_entry_36 (by decide) (fun hf => ?_) (fun hf => ?_)
  · refine n_iload hC hl 0 d_Model_entry_49 rfl ?_
    refine n_bipush hC 15 d_Model_entry_51 (by decide) ?_
    refine n_iand hC hf d_Model_entry_53 (fun v50 hf => ?_)
    refine n_iload_n hC hl 5 d_Model_entry_54 rfl rfl ?_
    refine n_iconst hC 4 d_Model_entry_55 (by decide) ?_
    refine n_ishl hC hf d_Model_entry_56 (fun v51 hf => ?_)
    refine n_ior hC hf d_Model_entry_57 (fun v52 hf => ?_)
    exact hj58 _ hf _ _ _ hw (lv_sub hl [1, 2] rfl)
  · refine n_iload hC hl 0 d_Model_entry_39 rfl ?_
    refine n_ldc hC 61440 kc_Model_192 d_Model_entry_41 ?_
    refine n_iand hC hf d_Model_entry_43 (fun v53 hf => ?_)
    refine n_iload_n hC hl 5 d_Model_entry_44 rfl rfl ?_
    refine n_ior hC hf d_Model_entry_45 (fun v54 hf => ?_)
    refine n_goto hC 58 d_Model_entry_46 (by decide) ?_
    exact hj58 _ hf _ _ _ hw (lv_sub hl [1, 2] rfl)
def wd_Model_text (g : GT) (t_o : Nat) (t_disk_a : Nat) (t_sort_a : Nat) (t_first_a : Nat) (t_many_a : Nat) (t_name_a : Nat) (t_size_a : Nat) (t_seed_a : Nat) (t_scattered_a : Nat) (t_head_a : Nat) (t_follows_a : Nat) (t_memory_a : Nat) (t_thrown : Int32) (t_sectors : Int32) (t_partitions : Int32) (t_files : Int32) (t_address : Int32) (t_start : Int32) (t_fat : Int32) (t_clusters : Int32) (t_header : Int32) (t_found : Int32) (t_kernelAt : Int32) (t_kernelSize : Int32) (t_any : Int32) (t_disk : Nat → Int32) : va_W := [(t_o, .inr (7, [.int t_thrown, .int t_sectors, .ref t_disk_a, .int t_partitions, .ref t_sort_a, .ref t_first_a, .ref t_many_a, .int t_files, .ref t_name_a, .ref t_size_a, .ref t_seed_a, .ref t_scattered_a, .int t_address, .int t_start, .int t_fat, .int t_clusters, .ref t_head_a, .ref t_follows_a, .int t_header, .int t_found, .int t_kernelAt, .int t_kernelSize, .int t_any, .ref t_memory_a])), (t_disk_a, .inl (g.2.2.2.2, 307200, .inl t_disk))]
def f_Model_text_L31 (a2 : Int32) (a4 : Int32) (a1 : Int32) (x370 : Int32) (a3 : Int64) (k31 : Int32 → (Nat → Int32) → Option ((Nat → Int32))) (x481 : Int32) (x482 : Nat → Int32) : Option ((Nat → Int32)) :=
  lt_ (a2 + a4) (fun v497 => if v497 ≤ x481 then some (x482) else lt_ (a1 + x481) (fun v498 => lt_ (fun (x503 : Int64) => lt_ (x503.toInt32) (fun v504 => lt_ (v504.toInt8.toInt32) (fun v505 => up_b 307200 x482 v498 v505 (fun (f506 : Nat → Int32) => lt_ (x481 + 1) (fun v507 => k31 v507 f506))))) (fun (j73 : Int64 → Option ((Nat → Int32))) => if x370 ≤ x481 then j73 32 else lt_ (x370 - 1) (fun v508 => lt_ (v508 - x481) (fun v509 => lt_ ((8 : Int32) * v509) (fun v510 => lt_ ((a3.toUInt64 >>> (v510.toInt64.toUInt64 &&& Int64.toUInt64 63)).toInt64) (fun v511 => j73 v511)))))))
def f_Model_text_L3 (N : Nat) (a2 : Int32) (a4 : Int32) (a1 : Int32) (a3 : Int64) (t_disk : Nat → Int32) (k3 : Int32 → Option ((Nat → Int32))) (x370 : Int32) : Option ((Nat → Int32)) :=
  lt_ (lp_ (fun _ _ => none) (f_Model_text_L31 a2 a4 a1 x370 a3) N 0 t_disk) (fun (j28 : Option ((Nat → Int32))) => if (8 : Int32) ≤ x370 then j28 else lt_ ((8 : Int32) * x370) (fun v512 => lt_ ((a3.toUInt64 >>> (v512.toInt64.toUInt64 &&& Int64.toUInt64 63)).toInt64) (fun v513 => lt_ (lg_cmp v513 0) (fun v514 => if v514 = 0 then j28 else lt_ (x370 + 1) (fun v515 => k3 v515)))))
def f_Model_text (N : Nat) (a2 : Int32) (a4 : Int32) (a1 : Int32) (a3 : Int64) (t_disk : Nat → Int32) : Option ((Nat → Int32)) :=
  lp_ (fun _ => none) (f_Model_text_L3 N a2 a4 a1 a3 t_disk) N 0
def rm_Model_text : Room := { frames := 0, cells := 0, slots := 0, locals := 0 }
set_option maxHeartbeats 4000000 in
set_option maxRecDepth 100000 in
theorem c_Model_text (l : Launch) (g : GT) (E : (Nat → Prop) → State → Prop) (hEe : Ee E) (t_o : Nat) (t_disk_a : Nat) (t_sort_a : Nat) (t_first_a : Nat) (t_many_a : Nat) (t_name_a : Nat) (t_size_a : Nat) (t_seed_a : Nat) (t_scattered_a : Nat) (t_head_a : Nat) (t_follows_a : Nat) (t_memory_a : Nat) (t_thrown : Int32) (t_sectors : Int32) (t_partitions : Int32) (t_files : Int32) (t_address : Int32) (t_start : Int32) (t_fat : Int32) (t_clusters : Int32) (t_header : Int32) (t_found : Int32) (t_kernelAt : Int32) (t_kernelSize : Int32) (t_any : Int32) (t_disk : Nat → Int32) (a1 : Int32) (a2 : Int32) (a3 : Int64) (a4 : Int32) (N : Nat) (z : (Nat → Int32)) (hf : f_Model_text N a2 a4 a1 a3 t_disk = some z) : Cg l g E y_Model_text ws_Model_text rm_Model_text [.ref t_o, .int a1, .int a2, .long a3, .int a4] (wd_Model_text g t_o t_disk_a t_sort_a t_first_a t_many_a t_name_a t_size_a t_seed_a t_scattered_a t_head_a t_follows_a t_memory_a t_thrown t_sectors t_partitions t_files t_address t_start t_fat t_clusters t_header t_found t_kernelAt t_kernelSize t_any t_disk) none (wd_Model_text g t_o t_disk_a t_sort_a t_first_a t_many_a t_name_a t_size_a t_seed_a t_scattered_a t_head_a t_follows_a t_memory_a t_thrown t_sectors t_partitions t_files t_address t_start t_fat t_clusters t_header t_found t_kernelAt t_kernelSize t_any z) := by
  refine Ct.ofV hEe good_W (by decide) rfl (Nat.le_of_ble_eq_true rfl) ?_
  intro p e s m args below meth c A ls Q hC hw hl hret
  have hC : CX p m c b_Model_text 8 s args Wall R_Model g.1 classes (tK g) E A := hC
  have hl : lv_has ls 8 [(0, .ref t_o), (1, .int a1), (2, .int a2), (3, .long a3), (5, .int a4)] := hl
  unfold f_Model_text at hf
  refine n_iconst hC 0 d_Model_text_0 (by decide) ?_
  refine n_istore hC [(6, .int 0), (0, .ref t_o), (1, .int a1), (2, .int a2), (3, .long a3), (5, .int a4)] hl d_Model_text_1 (by decide) rfl (fun ls hl => ?_)
  have hL3 := lw1 (B := f_Model_text_L3 N a2 a4 a1 a3 t_disk) (z := z) (fun (x370 : Int32) => ∀ (H : Heap) (locs : List Loc) (ls : Array Slot), WS g.1 classes A s.heap H locs (wd_Model_text g t_o t_disk_a t_sort_a t_first_a t_many_a t_name_a t_size_a t_seed_a t_scattered_a t_head_a t_follows_a t_memory_a t_thrown t_sectors t_partitions t_files t_address t_start t_fat t_clusters t_header t_found t_kernelAt t_kernelSize t_any t_disk) → lv_has ls 8 [(6, .int x370), (0, .ref t_o), (1, .int a1), (2, .int a2), (3, .long a3), (5, .int a4)] → W p l e rm_Model_text s m args below meth c H locs 0 0 Q (F0 m 3 ls [])) (by
    intro k3 hk3 x370 hf H locs ls hw hl
    unfold f_Model_text_L3 at hf
    refine n_iload hC hl 0 d_Model_text_3 rfl ?_
    refine n_bipush hC 8 d_Model_text_5 (by decide) ?_
    refine jn0 (∀ (H : Heap) (locs : List Loc) (ls : Array Slot), WS g.1 classes A s.heap H locs (wd_Model_text g t_o t_disk_a t_sort_a t_first_a t_many_a t_name_a t_size_a t_seed_a t_scattered_a t_head_a t_follows_a t_memory_a t_thrown t_sectors t_partitions t_files t_address t_start t_fat t_clusters t_header t_found t_kernelAt t_kernelSize t_any t_disk) → lv_has ls 8 [(6, .int x370), (0, .ref t_o), (1, .int a1), (2, .int a2), (3, .long a3), (5, .int a4)] → W p l e rm_Model_text s m args below meth c H locs 0 0 Q (F0 m 28 ls [])) hf (fun hf H locs ls hw hl => ?_) (fun j28 hj28 hf => ?_)
    · refine n_iconst hC 0 d_Model_text_28 (by decide) ?_
      refine n_istore hC [(7, .int 0), (6, .int x370), (0, .ref t_o), (1, .int a1), (2, .int a2), (3, .long a3), (5, .int a4)] hl d_Model_text_29 (by decide) rfl (fun ls hl => ?_)
      have hL31 := lw2 (B := f_Model_text_L31 a2 a4 a1 x370 a3) (z := z) (fun (x481 : Int32) (x482 : Nat → Int32) => ∀ (H : Heap) (locs : List Loc) (ls : Array Slot), WS g.1 classes A s.heap H locs (wd_Model_text g t_o t_disk_a t_sort_a t_first_a t_many_a t_name_a t_size_a t_seed_a t_scattered_a t_head_a t_follows_a t_memory_a t_thrown t_sectors t_partitions t_files t_address t_start t_fat t_clusters t_header t_found t_kernelAt t_kernelSize t_any x482) → lv_has ls 8 [(7, .int x481), (6, .int x370), (0, .ref t_o), (1, .int a1), (2, .int a2), (3, .long a3), (5, .int a4)] → W p l e rm_Model_text s m args below meth c H locs 0 0 Q (F0 m 31 ls [])) (by
        intro k31 hk31 x481 x482 hf H locs ls hw hl
        unfold f_Model_text_L31 at hf
        refine n_iload hC hl 0 d_Model_text_31 rfl ?_
        refine n_iload_n hC hl 4 d_Model_text_33 rfl rfl ?_
        refine n_iload hC hl 6 d_Model_text_34 rfl ?_
        refine n_iadd hC hf d_Model_text_36 (fun v497 hf => ?_)
        refine n_icmp_ge hC hf 82 d_Model_text_37 (by decide) (fun hf => ?_) (fun hf => ?_)
        · cases hf
          exact hret _ _ _ _ hw d_Model_text_82
        · refine n_aload_n hC hl 2 d_Model_text_40 rfl rfl ?_
          refine n_get hC hw fg_Model_8 0 rfl rfl d_Model_text_41 ?_
          refine n_iload_n hC hl 3 d_Model_text_44 rfl rfl ?_
          refine n_iload hC hl 0 d_Model_text_45 rfl ?_
          refine n_iadd hC hf d_Model_text_47 (fun v498 hf => ?_)
          refine n_iload hC hl 0 d_Model_text_48 rfl ?_
          refine n_iload hC hl 1 d_Model_text_50 rfl ?_
          refine jn1 (fun (x503 : Int64) => ∀ (H : Heap) (locs : List Loc) (ls : Array Slot), WS g.1 classes A s.heap H locs (wd_Model_text g t_o t_disk_a t_sort_a t_first_a t_many_a t_name_a t_size_a t_seed_a t_scattered_a t_head_a t_follows_a t_memory_a t_thrown t_sectors t_partitions t_files t_address t_start t_fat t_clusters t_header t_found t_kernelAt t_kernelSize t_any x482) → lv_has ls 8 [(7, .int x481), (6, .int x370), (0, .ref t_o), (1, .int a1), (2, .int a2), (3, .long a3), (5, .int a4)] → W p l e rm_Model_text s m args below meth c H locs 0 0 Q (F0 m 73 ls [.long x503, .int v498, .ref t_disk_a])) hf (fun x503 hf H locs ls hw hl => ?_) (fun j73 hj73 hf => ?_)
          · refine n_l2i hC hf d_Model_text_73 (fun v504 hf => ?_)
            refine n_i2b hC hf d_Model_text_74 (fun v505 hf => ?_)
            refine n_bast hC hw hf 1 3 (fun f506 => wd_Model_text g t_o t_disk_a t_sort_a t_first_a t_many_a t_name_a t_size_a t_seed_a t_scattered_a t_head_a t_follows_a t_memory_a t_thrown t_sectors t_partitions t_files t_address t_start t_fat t_clusters t_header t_found t_kernelAt t_kernelSize t_any f506) rfl rfl d_Model_text_75 (fun _ => rfl) (fun f506 H locs hf hw => ?_)
            refine n_iinc hC (k := 0) hf (by decide) (fun v507 => [(7, .int v507), (6, .int x370), (0, .ref t_o), (1, .int a1), (2, .int a2), (3, .long a3), (5, .int a4)]) hl d_Model_text_76 rfl (by decide) (fun _ => rfl) (fun v507 ls hf hl => ?_)
            refine n_goto hC 31 d_Model_text_79 (by decide) ?_
            exact hk31 _ _ hf _ _ _ hw (lv_sub hl [0, 1, 2, 3, 4, 5, 6] rfl)
          refine n_icmp_ge hC hf 70 d_Model_text_52 (by decide) (fun hf => ?_) (fun hf => ?_)
          · refine n_ldc2 hC 32 kc_Model_193 d_Model_text_70 ?_
            exact hj73 _ hf _ _ _ hw (lv_sub hl [0, 1, 2, 3, 4, 5, 6] rfl)
          · refine n_lload_n hC hl 5 d_Model_text_55 rfl rfl ?_
            refine n_bipush hC 8 d_Model_text_56 (by decide) ?_
            refine n_iload hC hl 1 d_Model_text_58 rfl ?_
            refine n_iconst hC 1 d_Model_text_60 (by decide) ?_
            refine n_isub hC hf d_Model_text_61 (fun v508 hf => ?_)
            refine n_iload hC hl 0 d_Model_text_62 rfl ?_
            refine n_isub hC hf d_Model_text_64 (fun v509 hf => ?_)
            refine n_imul hC hf d_Model_text_65 (fun v510 hf => ?_)
            refine n_lushr hC hf d_Model_text_66 (fun v511 hf => ?_)
            refine n_goto hC 73 d_Model_text_67 (by decide) ?_
            exact hj73 _ hf _ _ _ hw (lv_sub hl [0, 1, 2, 3, 4, 5, 6] rfl)
        )
      exact hL31 N _ _ hf _ _ _ hw (lv_sub hl [0, 1, 2, 3, 4, 5, 6] rfl)
    refine n_icmp_ge hC hf 28 d_Model_text_7 (by decide) (fun hf => ?_) (fun hf => ?_)
    · exact hj28 hf _ _ _ hw (lv_sub hl [0, 1, 2, 3, 4, 5] rfl)
    · refine n_lload_n hC hl 4 d_Model_text_10 rfl rfl ?_
      refine n_bipush hC 8 d_Model_text_11 (by decide) ?_
      refine n_iload hC hl 0 d_Model_text_13 rfl ?_
      refine n_imul hC hf d_Model_text_15 (fun v512 hf => ?_)
      refine n_lushr hC hf d_Model_text_16 (fun v513 hf => ?_)
      refine n_lconst hC 0 d_Model_text_17 (by decide) ?_
      refine n_lcmp hC hf d_Model_text_18 (fun v514 hf => ?_)
      refine n_if_eq hC hf 28 d_Model_text_19 (by decide) (fun hf => ?_) (fun hf => ?_)
      · exact hj28 hf _ _ _ hw (lv_sub hl [0, 1, 2, 3, 4, 5] rfl)
      · refine n_iinc hC (k := 0) hf (by decide) (fun v515 => [(6, .int v515), (0, .ref t_o), (1, .int a1), (2, .int a2), (3, .long a3), (5, .int a4)]) hl d_Model_text_22 rfl (by decide) (fun _ => rfl) (fun v515 ls hf hl => ?_)
        refine n_goto hC 3 d_Model_text_25 (by decide) ?_
        exact hk3 _ hf _ _ _ hw (lv_sub hl [0, 1, 2, 3, 4, 5] rfl)
    )
  exact hL3 N _ hf _ _ _ hw (lv_sub hl [0, 1, 2, 3, 4, 5] rfl)
def wd_Model_sixteen (g : GT)  : va_W := []
def f_Model_sixteen (a2 : Int32) (a1 : Int32) : Option (Int32) :=
  lt_ (fun (x41 : Int64) => lt_ (fun (x42 : Int64) => if (8 : Int32) ≤ a2 then lt_ ((8 : Int32) * a2) (fun v43 => lt_ ((120 : Int32) - v43) (fun v44 => lt_ ((x42.toUInt64 >>> (v44.toInt64.toUInt64 &&& Int64.toUInt64 63)).toInt64) (fun v45 => lt_ (v45 &&& 255) (fun v46 => lt_ (v46.toInt32) (fun v47 => some (v47)))))) else lt_ ((8 : Int32) * a2) (fun v48 => lt_ ((56 : Int32) - v48) (fun v49 => lt_ ((x41.toUInt64 >>> (v49.toInt64.toUInt64 &&& Int64.toUInt64 63)).toInt64) (fun v50 => lt_ (v50 &&& 255) (fun v51 => lt_ (v51.toInt32) (fun v52 => some (v52))))))) (fun (j27 : Int64 → Option (Int32)) => if ¬ a1 = 0 then j27 (-8664810549094737465) else j27 (-5022920268830553797))) (fun (j13 : Int64 → Option (Int32)) => if ¬ a1 = 0 then j13 (-6728148131701509308) else j13 2914720392792298001)
def rm_Model_sixteen : Room := { frames := 0, cells := 0, slots := 0, locals := 0 }
set_option maxHeartbeats 4000000 in
set_option maxRecDepth 100000 in
theorem c_Model_sixteen (l : Launch) (g : GT) (E : (Nat → Prop) → State → Prop) (hEe : Ee E) (a1 : Int32) (a2 : Int32) (z : Int32) (hf : f_Model_sixteen a2 a1 = some z) : Cg l g E y_Model_sixteen ws_Model_sixteen rm_Model_sixteen [.int a1, .int a2] (wd_Model_sixteen g) (some (.int z)) (wd_Model_sixteen g) := by
  refine Ct.ofI hEe good_W (by decide) rfl (Nat.le_of_ble_eq_true rfl) ?_
  intro p e s m args below meth c A ls Q hC hw hl hret
  have hC : CX p m c b_Model_sixteen 6 s args Wall R_Model g.1 classes (tK g) E A := hC
  have hl : lv_has ls 6 [(0, .int a1), (1, .int a2)] := hl
  unfold f_Model_sixteen at hf
  refine n_iload_n hC hl 0 d_Model_sixteen_0 rfl rfl ?_
  refine jn1 (fun (x41 : Int64) => ∀ (H : Heap) (locs : List Loc) (ls : Array Slot), WS g.1 classes A s.heap H locs (wd_Model_sixteen g) → lv_has ls 6 [(0, .int a1), (1, .int a2)] → W p l e rm_Model_sixteen s m args below meth c H locs 0 0 Q (F0 m 13 ls [.long x41])) hf (fun x41 hf H locs ls hw hl => ?_) (fun j13 hj13 hf => ?_)
  · refine n_lstore_n hC [(2, .long x41), (0, .int a1), (1, .int a2)] hl d_Model_sixteen_13 rfl (by decide) rfl (fun ls hl => ?_)
    refine n_iload_n hC hl 1 d_Model_sixteen_14 rfl rfl ?_
    refine jn1 (fun (x42 : Int64) => ∀ (H : Heap) (locs : List Loc) (ls : Array Slot), WS g.1 classes A s.heap H locs (wd_Model_sixteen g) → lv_has ls 6 [(2, .long x41), (1, .int a2)] → W p l e rm_Model_sixteen s m args below meth c H locs 0 0 Q (F0 m 27 ls [.long x42])) hf (fun x42 hf H locs ls hw hl => ?_) (fun j27 hj27 hf => ?_)
    · refine n_lstore hC [(4, .long x42), (2, .long x41), (1, .int a2)] hl d_Model_sixteen_27 (by decide) rfl (fun ls hl => ?_)
      refine n_iload_n hC hl 2 d_Model_sixteen_29 rfl rfl ?_
      refine n_bipush hC 8 d_Model_sixteen_30 (by decide) ?_
      refine n_icmp_ge hC hf 47 d_Model_sixteen_32 (by decide) (fun hf => ?_) (fun hf => ?_)
      · refine n_lload hC hl 0 d_Model_sixteen_47 rfl ?_
        refine n_bipush hC 120 d_Model_sixteen_49 (by decide) ?_
        refine n_bipush hC 8 d_Model_sixteen_51 (by decide) ?_
        refine n_iload_n hC hl 2 d_Model_sixteen_53 rfl rfl ?_
        refine n_imul hC hf d_Model_sixteen_54 (fun v43 hf => ?_)
        refine n_isub hC hf d_Model_sixteen_55 (fun v44 hf => ?_)
        refine n_lushr hC hf d_Model_sixteen_56 (fun v45 hf => ?_)
        refine n_ldc2 hC 255 kc_Model_85 d_Model_sixteen_57 ?_
        refine n_land hC hf d_Model_sixteen_60 (fun v46 hf => ?_)
        refine n_l2i hC hf d_Model_sixteen_61 (fun v47 hf => ?_)
        cases hf
        exact hret _ _ _ _ hw rfl d_Model_sixteen_62
      · refine n_lload_n hC hl 1 d_Model_sixteen_35 rfl rfl ?_
        refine n_bipush hC 56 d_Model_sixteen_36 (by decide) ?_
        refine n_bipush hC 8 d_Model_sixteen_38 (by decide) ?_
        refine n_iload_n hC hl 2 d_Model_sixteen_40 rfl rfl ?_
        refine n_imul hC hf d_Model_sixteen_41 (fun v48 hf => ?_)
        refine n_isub hC hf d_Model_sixteen_42 (fun v49 hf => ?_)
        refine n_lushr hC hf d_Model_sixteen_43 (fun v50 hf => ?_)
        refine n_goto hC 57 d_Model_sixteen_44 (by decide) ?_
        refine n_ldc2 hC 255 kc_Model_85 d_Model_sixteen_57 ?_
        refine n_land hC hf d_Model_sixteen_60 (fun v51 hf => ?_)
        refine n_l2i hC hf d_Model_sixteen_61 (fun v52 hf => ?_)
        cases hf
        exact hret _ _ _ _ hw rfl d_Model_sixteen_62
    refine n_if_ne hC hf 24 d_Model_sixteen_15 (by decide) (fun hf => ?_) (fun hf => ?_)
    · refine n_ldc2 hC (-8664810549094737465) kc_Model_179 d_Model_sixteen_24 ?_
      exact hj27 _ hf _ _ _ hw (lv_sub hl [0, 2] rfl)
    · refine n_ldc2 hC (-5022920268830553797) kc_Model_177 d_Model_sixteen_18 ?_
      refine n_goto hC 27 d_Model_sixteen_21 (by decide) ?_
      exact hj27 _ hf _ _ _ hw (lv_sub hl [0, 2] rfl)
  refine n_if_ne hC hf 10 d_Model_sixteen_1 (by decide) (fun hf => ?_) (fun hf => ?_)
  · refine n_ldc2 hC (-6728148131701509308) kc_Model_175 d_Model_sixteen_10 ?_
    exact hj13 _ hf _ _ _ hw (lv_sub hl [0, 1] rfl)
  · refine n_ldc2 hC 2914720392792298001 kc_Model_173 d_Model_sixteen_4 ?_
    refine n_goto hC 13 d_Model_sixteen_7 (by decide) ?_
    exact hj13 _ hf _ _ _ hw (lv_sub hl [0, 1] rfl)
