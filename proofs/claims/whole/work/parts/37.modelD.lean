def wd_Model_tables (g : GT) (t_o : Nat) (t_disk_a : Nat) (t_sort_a : Nat) (t_first_a : Nat) (t_many_a : Nat) (t_name_a : Nat) (t_size_a : Nat) (t_seed_a : Nat) (t_scattered_a : Nat) (t_head_a : Nat) (t_follows_a : Nat) (t_memory_a : Nat) (t_thrown : Int32) (t_sectors : Int32) (t_partitions : Int32) (t_files : Int32) (t_address : Int32) (t_start : Int32) (t_fat : Int32) (t_clusters : Int32) (t_header : Int32) (t_found : Int32) (t_kernelAt : Int32) (t_kernelSize : Int32) (t_any : Int32) (t_disk : Nat → Int32) (t_sort : Nat → Int32) (t_first : Nat → Int32) (t_many : Nat → Int32) : va_W := [(t_o, .inr (7, [.int t_thrown, .int t_sectors, .ref t_disk_a, .int t_partitions, .ref t_sort_a, .ref t_first_a, .ref t_many_a, .int t_files, .ref t_name_a, .ref t_size_a, .ref t_seed_a, .ref t_scattered_a, .int t_address, .int t_start, .int t_fat, .int t_clusters, .ref t_head_a, .ref t_follows_a, .int t_header, .int t_found, .int t_kernelAt, .int t_kernelSize, .int t_any, .ref t_memory_a])), (t_disk_a, .inl (g.2.2.2.2, 307200, .inl t_disk)), (t_sort_a, .inl (g.2.1, 4, .inl t_sort)), (t_first_a, .inl (g.2.1, 4, .inl t_first)), (t_many_a, .inl (g.2.1, 4, .inl t_many))]
def f_Model_tables_L402 (N : Nat) (v22799 : Int32) (v21372 : Int32) (x17095 : Int32) (k2 : Int32 → (Nat → Int32) → Option ((Nat → Int32))) (t_sectors : Int32) (k402 : Int32 → (Nat → Int32) → Option ((Nat → Int32))) (x22858 : Int32) (x22859 : Nat → Int32) : Option ((Nat → Int32)) :=
  if (16 : Int32) ≤ x22858 then lt_ (v22799 + 72) (fun v22898 => lt_ (fun (x22901 : Int64) => bd_ (f_Model_low N 8 v22898 x22901 x22859) (fun u22902 => lt_ (v22799 + 80) (fun v22903 => bd_ (f_Model_low N 4 v22903 128 u22902) (fun u22904 => lt_ (v22799 + 84) (fun v22905 => bd_ (f_Model_low N 4 v22905 128 u22904) (fun u22906 => lt_ (v22799 + 88) (fun v22907 => bd_ (f_Model_sumOf N 16384 v21372 u22906) (fun u22908 => lt_ (u22908.toInt64) (fun v22909 => bd_ (f_Model_low N 4 v22907 v22909 u22906) (fun u22910 => lt_ (v22799 + 16) (fun v22911 => bd_ (f_Model_sumOf N 92 v22799 u22910) (fun u22912 => lt_ (u22912.toInt64) (fun v22913 => bd_ (f_Model_low N 4 v22911 v22913 u22910) (fun u22914 => lt_ (x17095 + 1) (fun v22915 => k2 v22915 u22914))))))))))))))) (fun (j462 : Int64 → Option ((Nat → Int32))) => if ¬ x17095 = 0 then lt_ (t_sectors - 33) (fun v22916 => lt_ (v22916.toInt64) (fun v22917 => j462 v22917)) else j462 2)) else lt_ (v22799 + 56) (fun v22918 => lt_ (v22918 + x22858) (fun v22919 => lt_ ((17 : Int32) * x22858) (fun v22920 => lt_ (v22920 + 1) (fun v22921 => lt_ (v22921.toInt8.toInt32) (fun v22922 => up_b 307200 x22859 v22919 v22922 (fun (f22923 : Nat → Int32) => lt_ (x22858 + 1) (fun v22924 => k402 v22924 f22923)))))))
def f_Model_tables_L49 (N : Nat) (v22927 : Int32) (t_first : Nat → Int32) (x22084 : Int32) (t_many : Nat → Int32) (t_sort : Nat → Int32) (k29 : Int32 → (Nat → Int32) → Option ((Nat → Int32))) (k49 : Int32 → (Nat → Int32) → Option ((Nat → Int32))) (x23072 : Int32) (x23073 : Nat → Int32) : Option ((Nat → Int32)) :=
  if (16 : Int32) ≤ x23072 then lt_ (v22927 + 32) (fun v23218 => ix_ 4 t_first x22084 (fun (v23219 : Int32) => lt_ (v23219.toInt64) (fun v23220 => bd_ (f_Model_low N 8 v23218 v23220 x23073) (fun u23221 => lt_ (v22927 + 40) (fun v23222 => ix_ 4 t_first x22084 (fun (v23223 : Int32) => ix_ 4 t_many x22084 (fun (v23224 : Int32) => lt_ (v23223 + v23224) (fun v23225 => lt_ (v23225 - 1) (fun v23226 => lt_ (v23226.toInt64) (fun v23227 => bd_ (f_Model_low N 8 v23222 v23227 u23221) (fun u23228 => lt_ (v22927 + 56) (fun v23229 => ix_ 4 t_sort x22084 (fun (v23230 : Int32) => lt_ (fun (x23231 : Int32) => ix_ 4 t_sort x22084 (fun (v23232 : Int32) => lt_ (fun (x23233 : Int32) => bd_ (f_Model_word x23231 u23228 v23229 0 x23233 0) (fun u23234 => lt_ (v22927 + 60) (fun v23235 => ix_ 4 t_sort x22084 (fun (v23236 : Int32) => lt_ (fun (x23237 : Int32) => ix_ 4 t_sort x22084 (fun (v23238 : Int32) => lt_ (fun (x23239 : Int32) => bd_ (f_Model_word x23237 u23234 v23235 0 x23239 0) (fun u23240 => lt_ (v22927 + 64) (fun v23241 => lt_ ((48 : Int32) + x22084) (fun v23242 => lt_ (v23242.toInt8.toInt32) (fun v23243 => up_b 307200 u23240 v23241 v23243 (fun (f23244 : Nat → Int32) => lt_ (x22084 + 1) (fun v23245 => k29 v23245 f23244))))))) (fun (j234 : Int32 → Option ((Nat → Int32))) => if ¬ v23238 = 0 then j234 97 else j234 116))) (fun (j217 : Int32 → Option ((Nat → Int32))) => if ¬ v23236 = 0 then j217 116 else j217 111))))) (fun (j191 : Int32 → Option ((Nat → Int32))) => if ¬ v23232 = 0 then j191 97 else j191 111))) (fun (j174 : Int32 → Option ((Nat → Int32))) => if ¬ v23230 = 0 then j174 100 else j174 98)))))))))))))) else lt_ (v22927 + x23072) (fun v23246 => ix_ 4 t_sort x22084 (fun (v23247 : Int32) => bd_ (f_Model_sixteen x23072 v23247) (fun u23248 => lt_ (u23248.toInt8.toInt32) (fun v23249 => up_b 307200 x23073 v23246 v23249 (fun (f23250 : Nat → Int32) => lt_ (v22927 + 16) (fun v23251 => lt_ (v23251 + x23072) (fun v23252 => lt_ (x22084 + 1) (fun v23253 => lt_ ((32 : Int32) * v23253) (fun v23254 => lt_ (v23254 + x23072) (fun v23255 => lt_ (v23255.toInt8.toInt32) (fun v23256 => up_b 307200 f23250 v23252 v23256 (fun (f23257 : Nat → Int32) => lt_ (x23072 + 1) (fun v23258 => k49 v23258 f23257)))))))))))))
def f_Model_tables_L29 (N : Nat) (t_partitions : Int32) (t_sectors : Int32) (v21372 : Int32) (x17095 : Int32) (k2 : Int32 → (Nat → Int32) → Option ((Nat → Int32))) (t_first : Nat → Int32) (t_many : Nat → Int32) (t_sort : Nat → Int32) (k29 : Int32 → (Nat → Int32) → Option ((Nat → Int32))) (x22084 : Int32) (x22085 : Nat → Int32) : Option ((Nat → Int32)) :=
  if t_partitions ≤ x22084 then lt_ (fun (x22798 : Int32) => lt_ ((512 : Int32) * x22798) (fun v22799 => bd_ (f_Model_word 69 x22085 v22799 70 73 32) (fun u22800 => lt_ (v22799 + 4) (fun v22801 => bd_ (f_Model_word 80 u22800 v22801 65 82 84) (fun u22802 => lt_ (v22799 + 10) (fun v22803 => up_b 307200 u22802 v22803 1 (fun (f22804 : Nat → Int32) => lt_ (v22799 + 12) (fun v22805 => bd_ (f_Model_low N 4 v22805 92 f22804) (fun u22806 => lt_ (v22799 + 24) (fun v22807 => lt_ (x22798.toInt64) (fun v22808 => bd_ (f_Model_low N 8 v22807 v22808 u22806) (fun u22809 => lt_ (v22799 + 32) (fun v22810 => lt_ (t_sectors - x22798) (fun v22811 => lt_ (v22811.toInt64) (fun v22812 => bd_ (f_Model_low N 8 v22810 v22812 u22809) (fun u22813 => lt_ (v22799 + 40) (fun v22814 => bd_ (f_Model_low N 8 v22814 34 u22813) (fun u22815 => lt_ (v22799 + 48) (fun v22816 => lt_ (t_sectors - 34) (fun v22817 => lt_ (v22817.toInt64) (fun v22818 => bd_ (f_Model_low N 8 v22816 v22818 u22815) (fun u22819 => lp_ (fun _ _ => none) (f_Model_tables_L402 N v22799 v21372 x17095 k2 t_sectors) N 0 u22819)))))))))))))))))))))) (fun (j273 : Int32 → Option ((Nat → Int32))) => if ¬ x17095 = 0 then lt_ (t_sectors - 1) (fun v22925 => j273 v22925) else j273 1) else lt_ ((128 : Int32) * x22084) (fun v22926 => lt_ (v21372 + v22926) (fun v22927 => lp_ (fun _ _ => none) (f_Model_tables_L49 N v22927 t_first x22084 t_many t_sort k29) N 0 x22085))
def f_Model_tables_L2 (N : Nat) (t_partitions : Int32) (t_sectors : Int32) (t_first : Nat → Int32) (t_many : Nat → Int32) (t_sort : Nat → Int32) (k2 : Int32 → (Nat → Int32) → Option ((Nat → Int32))) (x17095 : Int32) (x17096 : Nat → Int32) : Option ((Nat → Int32)) :=
  if (2 : Int32) ≤ x17095 then some (x17096) else lt_ (fun (x21371 : Int32) => lt_ ((512 : Int32) * x21371) (fun v21372 => lp_ (fun _ _ => none) (f_Model_tables_L29 N t_partitions t_sectors v21372 x17095 k2 t_first t_many t_sort) N 0 x17096)) (fun (j25 : Int32 → Option ((Nat → Int32))) => if ¬ x17095 = 0 then lt_ (t_sectors - 33) (fun v23259 => j25 v23259) else j25 2)
def f_Model_tables (N : Nat) (t_partitions : Int32) (t_sectors : Int32) (t_first : Nat → Int32) (t_many : Nat → Int32) (t_sort : Nat → Int32) (t_disk : Nat → Int32) : Option ((Nat → Int32)) :=
  lp_ (fun _ _ => none) (f_Model_tables_L2 N t_partitions t_sectors t_first t_many t_sort) N 0 t_disk
def rm_Model_tables : Room := { frames := 2, cells := 0, slots := 0, locals := 47 }
set_option maxHeartbeats 4000000 in
set_option maxRecDepth 100000 in
theorem c_Model_tables (l : Launch) (g : GT) (E : (Nat → Prop) → State → Prop) (hEe : Ee E) (t_o : Nat) (t_disk_a : Nat) (t_sort_a : Nat) (t_first_a : Nat) (t_many_a : Nat) (t_name_a : Nat) (t_size_a : Nat) (t_seed_a : Nat) (t_scattered_a : Nat) (t_head_a : Nat) (t_follows_a : Nat) (t_memory_a : Nat) (t_thrown : Int32) (t_sectors : Int32) (t_partitions : Int32) (t_files : Int32) (t_address : Int32) (t_start : Int32) (t_fat : Int32) (t_clusters : Int32) (t_header : Int32) (t_found : Int32) (t_kernelAt : Int32) (t_kernelSize : Int32) (t_any : Int32) (t_disk : Nat → Int32) (t_sort : Nat → Int32) (t_first : Nat → Int32) (t_many : Nat → Int32) (N : Nat) (z : (Nat → Int32)) (hf : f_Model_tables N t_partitions t_sectors t_first t_many t_sort t_disk = some z) : Cg l g E y_Model_tables ws_Model_tables rm_Model_tables [.ref t_o] (wd_Model_tables g t_o t_disk_a t_sort_a t_first_a t_many_a t_name_a t_size_a t_seed_a t_scattered_a t_head_a t_follows_a t_memory_a t_thrown t_sectors t_partitions t_files t_address t_start t_fat t_clusters t_header t_found t_kernelAt t_kernelSize t_any t_disk t_sort t_first t_many) none (wd_Model_tables g t_o t_disk_a t_sort_a t_first_a t_many_a t_name_a t_size_a t_seed_a t_scattered_a t_head_a t_follows_a t_memory_a t_thrown t_sectors t_partitions t_files t_address t_start t_fat t_clusters t_header t_found t_kernelAt t_kernelSize t_any z t_sort t_first t_many) := by
  refine Ct.ofV hEe good_W (by decide) rfl (Nat.le_of_ble_eq_true rfl) ?_
  intro p e s m args below meth c A ls Q hC hw hl hret
  have hC : CX p m c b_Model_tables 6 s args Wall R_Model g.1 classes (tK g) E A := hC
  have hl : lv_has ls 6 [(0, .ref t_o)] := hl
  unfold f_Model_tables at hf
  refine n_iconst hC 0 d_Model_tables_0 (by decide) ?_
  refine n_istore_n hC [(1, .int 0), (0, .ref t_o)] hl d_Model_tables_1 rfl (by decide) rfl (fun ls hl => ?_)
  have hL2 := lw2 (B := f_Model_tables_L2 N t_partitions t_sectors t_first t_many t_sort) (z := z) (fun (x17095 : Int32) (x17096 : Nat → Int32) => ∀ (H : Heap) (locs : List Loc) (ls : Array Slot), WS g.1 classes A s.heap H locs (wd_Model_tables g t_o t_disk_a t_sort_a t_first_a t_many_a t_name_a t_size_a t_seed_a t_scattered_a t_head_a t_follows_a t_memory_a t_thrown t_sectors t_partitions t_files t_address t_start t_fat t_clusters t_header t_found t_kernelAt t_kernelSize t_any x17096 t_sort t_first t_many) → lv_has ls 6 [(1, .int x17095), (0, .ref t_o)] → W p l e rm_Model_tables s m args below meth c H locs 0 0 Q (F0 m 2 ls [])) (by
    intro k2 hk2 x17095 x17096 hf H locs ls hw hl
    unfold f_Model_tables_L2 at hf
    refine n_iload_n hC hl 0 d_Model_tables_2 rfl rfl ?_
    refine n_iconst hC 2 d_Model_tables_3 (by decide) ?_
    refine n_icmp_ge hC hf 535 d_Model_tables_4 (by decide) (fun hf => ?_) (fun hf => ?_)
    · cases hf
      exact hret _ _ _ _ hw d_Model_tables_535
    · refine n_sipush hC 512 d_Model_tables_7 (by decide) ?_
      refine n_iload_n hC hl 0 d_Model_tables_10 rfl rfl ?_
      refine jn1 (fun (x21371 : Int32) => ∀ (H : Heap) (locs : List Loc) (ls : Array Slot), WS g.1 classes A s.heap H locs (wd_Model_tables g t_o t_disk_a t_sort_a t_first_a t_many_a t_name_a t_size_a t_seed_a t_scattered_a t_head_a t_follows_a t_memory_a t_thrown t_sectors t_partitions t_files t_address t_start t_fat t_clusters t_header t_found t_kernelAt t_kernelSize t_any x17096 t_sort t_first t_many) → lv_has ls 6 [(1, .int x17095), (0, .ref t_o)] → W p l e rm_Model_tables s m args below meth c H locs 0 0 Q (F0 m 25 ls [.int x21371, .int 512])) hf (fun x21371 hf H locs ls hw hl => ?_) (fun j25 hj25 hf => ?_)
      · refine n_imul hC hf d_Model_tables_25 (fun v21372 hf => ?_)
        refine n_istore_n hC [(2, .int v21372), (1, .int x17095), (0, .ref t_o)] hl d_Model_tables_26 rfl (by decide) rfl (fun ls hl => ?_)
        refine n_iconst hC 0 d_Model_tables_27 (by decide) ?_
        refine n_istore_n hC [(3, .int 0), (2, .int v21372), (1, .int x17095), (0, .ref t_o)] hl d_Model_tables_28 rfl (by decide) rfl (fun ls hl => ?_)
        have hL29 := lw2 (B := f_Model_tables_L29 N t_partitions t_sectors v21372 x17095 k2 t_first t_many t_sort) (z := z) (fun (x22084 : Int32) (x22085 : Nat → Int32) => ∀ (H : Heap) (locs : List Loc) (ls : Array Slot), WS g.1 classes A s.heap H locs (wd_Model_tables g t_o t_disk_a t_sort_a t_first_a t_many_a t_name_a t_size_a t_seed_a t_scattered_a t_head_a t_follows_a t_memory_a t_thrown t_sectors t_partitions t_files t_address t_start t_fat t_clusters t_header t_found t_kernelAt t_kernelSize t_any x22085 t_sort t_first t_many) → lv_has ls 6 [(3, .int x22084), (2, .int v21372), (1, .int x17095), (0, .ref t_o)] → W p l e rm_Model_tables s m args below meth c H locs 0 0 Q (F0 m 29 ls [])) (by
          intro k29 hk29 x22084 x22085 hf H locs ls hw hl
          unfold f_Model_tables_L29 at hf
          refine n_iload_n hC hl 0 d_Model_tables_29 rfl rfl ?_
          refine n_aload_n hC hl 3 d_Model_tables_30 rfl rfl ?_
          refine n_get hC hw fg_Model_82 0 rfl rfl d_Model_tables_31 ?_
          refine n_icmp_ge hC hf 259 d_Model_tables_34 (by decide) (fun hf => ?_) (fun hf => ?_)
          · refine n_iload_n hC hl 2 d_Model_tables_259 rfl rfl ?_
            refine jn1 (fun (x22798 : Int32) => ∀ (H : Heap) (locs : List Loc) (ls : Array Slot), WS g.1 classes A s.heap H locs (wd_Model_tables g t_o t_disk_a t_sort_a t_first_a t_many_a t_name_a t_size_a t_seed_a t_scattered_a t_head_a t_follows_a t_memory_a t_thrown t_sectors t_partitions t_files t_address t_start t_fat t_clusters t_header t_found t_kernelAt t_kernelSize t_any x22085 t_sort t_first t_many) → lv_has ls 6 [(2, .int v21372), (1, .int x17095), (0, .ref t_o)] → W p l e rm_Model_tables s m args below meth c H locs 0 0 Q (F0 m 273 ls [.int x22798])) hf (fun x22798 hf H locs ls hw hl => ?_) (fun j273 hj273 hf => ?_)
            · refine n_istore_n hC [(3, .int x22798), (2, .int v21372), (1, .int x17095), (0, .ref t_o)] hl d_Model_tables_273 rfl (by decide) rfl (fun ls hl => ?_)
              refine n_sipush hC 512 d_Model_tables_274 (by decide) ?_
              refine n_iload_n hC hl 0 d_Model_tables_277 rfl rfl ?_
              refine n_imul hC hf d_Model_tables_278 (fun v22799 hf => ?_)
              refine n_istore hC [(4, .int v22799), (3, .int x22798), (2, .int v21372), (1, .int x17095), (0, .ref t_o)] hl d_Model_tables_279 (by decide) rfl (fun ls hl => ?_)
              refine n_aload_n hC hl 4 d_Model_tables_281 rfl rfl ?_
              refine n_iload hC hl 0 d_Model_tables_282 rfl ?_
              refine n_bipush hC 69 d_Model_tables_284 (by decide) ?_
              refine n_bipush hC 70 d_Model_tables_286 (by decide) ?_
              refine n_bipush hC 73 d_Model_tables_288 (by decide) ?_
              refine n_bipush hC 32 d_Model_tables_290 (by decide) ?_
              obtain ⟨u22800, hu22800, hf⟩ := bd_s hf
              refine n_callVv hC hw fc_Model_169 (c_Model_word l g E hEe t_o t_disk_a t_sort_a t_first_a t_many_a t_name_a t_size_a t_seed_a t_scattered_a t_head_a t_follows_a t_memory_a t_thrown t_sectors t_partitions t_files t_address t_start t_fat t_clusters t_header t_found t_kernelAt t_kernelSize t_any x22085 v22799 69 70 73 32 u22800 hu22800) [0, 1] (wd_Model_tables g t_o t_disk_a t_sort_a t_first_a t_many_a t_name_a t_size_a t_seed_a t_scattered_a t_head_a t_follows_a t_memory_a t_thrown t_sectors t_partitions t_files t_address t_start t_fat t_clusters t_header t_found t_kernelAt t_kernelSize t_any u22800 t_sort t_first t_many) 0 rfl ⟨rfl, rfl⟩ ⟨Nat.le_of_ble_eq_true rfl, Nat.le_of_ble_eq_true rfl⟩ rfl (At_.cons rfl (At_.cons rfl At_.nil)) (At_.cons rfl (At_.cons rfl At_.nil)) (Sm_.keep (Sm_.upd rfl (Sm_.keep (Sm_.keep (Sm_.keep Sm_.nil))))) rfl hl.1 (Nat.le_of_ble_eq_true rfl) ⟨Nat.zero_le _, Nat.zero_le _⟩ d_Model_tables_292 (fun H locs hw => ?_) rfl
              refine n_aload_n hC hl 4 d_Model_tables_295 rfl rfl ?_
              refine n_iload hC hl 0 d_Model_tables_296 rfl ?_
              refine n_iconst hC 4 d_Model_tables_298 (by decide) ?_
              refine n_iadd hC hf d_Model_tables_299 (fun v22801 hf => ?_)
              refine n_bipush hC 80 d_Model_tables_300 (by decide) ?_
              refine n_bipush hC 65 d_Model_tables_302 (by decide) ?_
              refine n_bipush hC 82 d_Model_tables_304 (by decide) ?_
              refine n_bipush hC 84 d_Model_tables_306 (by decide) ?_
              obtain ⟨u22802, hu22802, hf⟩ := bd_s hf
              refine n_callVv hC hw fc_Model_169 (c_Model_word l g E hEe t_o t_disk_a t_sort_a t_first_a t_many_a t_name_a t_size_a t_seed_a t_scattered_a t_head_a t_follows_a t_memory_a t_thrown t_sectors t_partitions t_files t_address t_start t_fat t_clusters t_header t_found t_kernelAt t_kernelSize t_any u22800 v22801 80 65 82 84 u22802 hu22802) [0, 1] (wd_Model_tables g t_o t_disk_a t_sort_a t_first_a t_many_a t_name_a t_size_a t_seed_a t_scattered_a t_head_a t_follows_a t_memory_a t_thrown t_sectors t_partitions t_files t_address t_start t_fat t_clusters t_header t_found t_kernelAt t_kernelSize t_any u22802 t_sort t_first t_many) 0 rfl ⟨rfl, rfl⟩ ⟨Nat.le_of_ble_eq_true rfl, Nat.le_of_ble_eq_true rfl⟩ rfl (At_.cons rfl (At_.cons rfl At_.nil)) (At_.cons rfl (At_.cons rfl At_.nil)) (Sm_.keep (Sm_.upd rfl (Sm_.keep (Sm_.keep (Sm_.keep Sm_.nil))))) rfl hl.1 (Nat.le_of_ble_eq_true rfl) ⟨Nat.zero_le _, Nat.zero_le _⟩ d_Model_tables_308 (fun H locs hw => ?_) rfl
              refine n_aload_n hC hl 4 d_Model_tables_311 rfl rfl ?_
              refine n_get hC hw fg_Model_8 0 rfl rfl d_Model_tables_312 ?_
              refine n_iload hC hl 0 d_Model_tables_315 rfl ?_
              refine n_bipush hC 10 d_Model_tables_317 (by decide) ?_
              refine n_iadd hC hf d_Model_tables_319 (fun v22803 hf => ?_)
              refine n_iconst hC 1 d_Model_tables_320 (by decide) ?_
              refine n_bast hC hw hf 1 3 (fun f22804 => wd_Model_tables g t_o t_disk_a t_sort_a t_first_a t_many_a t_name_a t_size_a t_seed_a t_scattered_a t_head_a t_follows_a t_memory_a t_thrown t_sectors t_partitions t_files t_address t_start t_fat t_clusters t_header t_found t_kernelAt t_kernelSize t_any f22804 t_sort t_first t_many) rfl rfl d_Model_tables_321 (fun _ => rfl) (fun f22804 H locs hf hw => ?_)
              refine n_aload_n hC hl 4 d_Model_tables_322 rfl rfl ?_
              refine n_iload hC hl 0 d_Model_tables_323 rfl ?_
              refine n_bipush hC 12 d_Model_tables_325 (by decide) ?_
              refine n_iadd hC hf d_Model_tables_327 (fun v22805 hf => ?_)
              refine n_iconst hC 4 d_Model_tables_328 (by decide) ?_
              refine n_ldc2 hC 92 kc_Model_184 d_Model_tables_329 ?_
              obtain ⟨u22806, hu22806, hf⟩ := bd_s hf
              refine n_callVv hC hw fc_Model_158 (c_Model_low l g E hEe t_o t_disk_a t_sort_a t_first_a t_many_a t_name_a t_size_a t_seed_a t_scattered_a t_head_a t_follows_a t_memory_a t_thrown t_sectors t_partitions t_files t_address t_start t_fat t_clusters t_header t_found t_kernelAt t_kernelSize t_any f22804 v22805 4 92 N u22806 hu22806) [0, 1] (wd_Model_tables g t_o t_disk_a t_sort_a t_first_a t_many_a t_name_a t_size_a t_seed_a t_scattered_a t_head_a t_follows_a t_memory_a t_thrown t_sectors t_partitions t_files t_address t_start t_fat t_clusters t_header t_found t_kernelAt t_kernelSize t_any u22806 t_sort t_first t_many) 0 rfl ⟨rfl, rfl⟩ ⟨Nat.le_of_ble_eq_true rfl, Nat.le_of_ble_eq_true rfl⟩ rfl (At_.cons rfl (At_.cons rfl At_.nil)) (At_.cons rfl (At_.cons rfl At_.nil)) (Sm_.keep (Sm_.upd rfl (Sm_.keep (Sm_.keep (Sm_.keep Sm_.nil))))) rfl hl.1 (Nat.le_of_ble_eq_true rfl) ⟨Nat.zero_le _, Nat.zero_le _⟩ d_Model_tables_332 (fun H locs hw => ?_) rfl
              refine n_aload_n hC hl 4 d_Model_tables_335 rfl rfl ?_
              refine n_iload hC hl 0 d_Model_tables_336 rfl ?_
              refine n_bipush hC 24 d_Model_tables_338 (by decide) ?_
              refine n_iadd hC hf d_Model_tables_340 (fun v22807 hf => ?_)
              refine n_bipush hC 8 d_Model_tables_341 (by decide) ?_
              refine n_iload_n hC hl 1 d_Model_tables_343 rfl rfl ?_
              refine n_i2l hC hf d_Model_tables_344 (fun v22808 hf => ?_)
              obtain ⟨u22809, hu22809, hf⟩ := bd_s hf
              refine n_callVv hC hw fc_Model_158 (c_Model_low l g E hEe t_o t_disk_a t_sort_a t_first_a t_many_a t_name_a t_size_a t_seed_a t_scattered_a t_head_a t_follows_a t_memory_a t_thrown t_sectors t_partitions t_files t_address t_start t_fat t_clusters t_header t_found t_kernelAt t_kernelSize t_any u22806 v22807 8 v22808 N u22809 hu22809) [0, 1] (wd_Model_tables g t_o t_disk_a t_sort_a t_first_a t_many_a t_name_a t_size_a t_seed_a t_scattered_a t_head_a t_follows_a t_memory_a t_thrown t_sectors t_partitions t_files t_address t_start t_fat t_clusters t_header t_found t_kernelAt t_kernelSize t_any u22809 t_sort t_first t_many) 0 rfl ⟨rfl, rfl⟩ ⟨Nat.le_of_ble_eq_true rfl, Nat.le_of_ble_eq_true rfl⟩ rfl (At_.cons rfl (At_.cons rfl At_.nil)) (At_.cons rfl (At_.cons rfl At_.nil)) (Sm_.keep (Sm_.upd rfl (Sm_.keep (Sm_.keep (Sm_.keep Sm_.nil))))) rfl hl.1 (Nat.le_of_ble_eq_true rfl) ⟨Nat.zero_le _, Nat.zero_le _⟩ d_Model_tables_345 (fun H locs hw => ?_) rfl
              refine n_aload_n hC hl 4 d_Model_tables_348 rfl rfl ?_
              refine n_iload hC hl 0 d_Model_tables_349 rfl ?_
              refine n_bipush hC 32 d_Model_tables_351 (by decide) ?_
              refine n_iadd hC hf d_Model_tables_353 (fun v22810 hf => ?_)
              refine n_bipush hC 8 d_Model_tables_354 (by decide) ?_
              refine n_aload_n hC hl 4 d_Model_tables_356 rfl rfl ?_
              refine n_get hC hw fg_Model_48 0 rfl rfl d_Model_tables_357 ?_
              refine n_iload_n hC hl 1 d_Model_tables_360 rfl rfl ?_
              refine n_isub hC hf d_Model_tables_361 (fun v22811 hf => ?_)
              refine n_i2l hC hf d_Model_tables_362 (fun v22812 hf => ?_)
              obtain ⟨u22813, hu22813, hf⟩ := bd_s hf
              refine n_callVv hC hw fc_Model_158 (c_Model_low l g E hEe t_o t_disk_a t_sort_a t_first_a t_many_a t_name_a t_size_a t_seed_a t_scattered_a t_head_a t_follows_a t_memory_a t_thrown t_sectors t_partitions t_files t_address t_start t_fat t_clusters t_header t_found t_kernelAt t_kernelSize t_any u22809 v22810 8 v22812 N u22813 hu22813) [0, 1] (wd_Model_tables g t_o t_disk_a t_sort_a t_first_a t_many_a t_name_a t_size_a t_seed_a t_scattered_a t_head_a t_follows_a t_memory_a t_thrown t_sectors t_partitions t_files t_address t_start t_fat t_clusters t_header t_found t_kernelAt t_kernelSize t_any u22813 t_sort t_first t_many) 0 rfl ⟨rfl, rfl⟩ ⟨Nat.le_of_ble_eq_true rfl, Nat.le_of_ble_eq_true rfl⟩ rfl (At_.cons rfl (At_.cons rfl At_.nil)) (At_.cons rfl (At_.cons rfl At_.nil)) (Sm_.keep (Sm_.upd rfl (Sm_.keep (Sm_.keep (Sm_.keep Sm_.nil))))) rfl hl.1 (Nat.le_of_ble_eq_true rfl) ⟨Nat.zero_le _, Nat.zero_le _⟩ d_Model_tables_363 (fun H locs hw => ?_) rfl
              refine n_aload_n hC hl 4 d_Model_tables_366 rfl rfl ?_
              refine n_iload hC hl 0 d_Model_tables_367 rfl ?_
              refine n_bipush hC 40 d_Model_tables_369 (by decide) ?_
              refine n_iadd hC hf d_Model_tables_371 (fun v22814 hf => ?_)
              refine n_bipush hC 8 d_Model_tables_372 (by decide) ?_
              refine n_ldc2 hC 34 kc_Model_186 d_Model_tables_374 ?_
              obtain ⟨u22815, hu22815, hf⟩ := bd_s hf
              refine n_callVv hC hw fc_Model_158 (c_Model_low l g E hEe t_o t_disk_a t_sort_a t_first_a t_many_a t_name_a t_size_a t_seed_a t_scattered_a t_head_a t_follows_a t_memory_a t_thrown t_sectors t_partitions t_files t_address t_start t_fat t_clusters t_header t_found t_kernelAt t_kernelSize t_any u22813 v22814 8 34 N u22815 hu22815) [0, 1] (wd_Model_tables g t_o t_disk_a t_sort_a t_first_a t_many_a t_name_a t_size_a t_seed_a t_scattered_a t_head_a t_follows_a t_memory_a t_thrown t_sectors t_partitions t_files t_address t_start t_fat t_clusters t_header t_found t_kernelAt t_kernelSize t_any u22815 t_sort t_first t_many) 0 rfl ⟨rfl, rfl⟩ ⟨Nat.le_of_ble_eq_true rfl, Nat.le_of_ble_eq_true rfl⟩ rfl (At_.cons rfl (At_.cons rfl At_.nil)) (At_.cons rfl (At_.cons rfl At_.nil)) (Sm_.keep (Sm_.upd rfl (Sm_.keep (Sm_.keep (Sm_.keep Sm_.nil))))) rfl hl.1 (Nat.le_of_ble_eq_true rfl) ⟨Nat.zero_le _, Nat.zero_le _⟩ d_Model_tables_377 (fun H locs hw => ?_) rfl
              refine n_aload_n hC hl 4 d_Model_tables_380 rfl rfl ?_
              refine n_iload hC hl 0 d_Model_tables_381 rfl ?_
              refine n_bipush hC 48 d_Model_tables_383 (by decide) ?_
              refine n_iadd hC hf d_Model_tables_385 (fun v22816 hf => ?_)
              refine n_bipush hC 8 d_Model_tables_386 (by decide) ?_
              refine n_aload_n hC hl 4 d_Model_tables_388 rfl rfl ?_
              refine n_get hC hw fg_Model_48 0 rfl rfl d_Model_tables_389 ?_
              refine n_bipush hC 34 d_Model_tables_392 (by decide) ?_
              refine n_isub hC hf d_Model_tables_394 (fun v22817 hf => ?_)
              refine n_i2l hC hf d_Model_tables_395 (fun v22818 hf => ?_)
              obtain ⟨u22819, hu22819, hf⟩ := bd_s hf
              refine n_callVv hC hw fc_Model_158 (c_Model_low l g E hEe t_o t_disk_a t_sort_a t_first_a t_many_a t_name_a t_size_a t_seed_a t_scattered_a t_head_a t_follows_a t_memory_a t_thrown t_sectors t_partitions t_files t_address t_start t_fat t_clusters t_header t_found t_kernelAt t_kernelSize t_any u22815 v22816 8 v22818 N u22819 hu22819) [0, 1] (wd_Model_tables g t_o t_disk_a t_sort_a t_first_a t_many_a t_name_a t_size_a t_seed_a t_scattered_a t_head_a t_follows_a t_memory_a t_thrown t_sectors t_partitions t_files t_address t_start t_fat t_clusters t_header t_found t_kernelAt t_kernelSize t_any u22819 t_sort t_first t_many) 0 rfl ⟨rfl, rfl⟩ ⟨Nat.le_of_ble_eq_true rfl, Nat.le_of_ble_eq_true rfl⟩ rfl (At_.cons rfl (At_.cons rfl At_.nil)) (At_.cons rfl (At_.cons rfl At_.nil)) (Sm_.keep (Sm_.upd rfl (Sm_.keep (Sm_.keep (Sm_.keep Sm_.nil))))) rfl hl.1 (Nat.le_of_ble_eq_true rfl) ⟨Nat.zero_le _, Nat.zero_le _⟩ d_Model_tables_396 (fun H locs hw => ?_) rfl
              refine n_iconst hC 0 d_Model_tables_399 (by decide) ?_
              refine n_istore hC [(5, .int 0), (4, .int v22799), (3, .int x22798), (2, .int v21372), (1, .int x17095), (0, .ref t_o)] hl d_Model_tables_400 (by decide) rfl (fun ls hl => ?_)
              have hL402 := lw2 (B := f_Model_tables_L402 N v22799 v21372 x17095 k2 t_sectors) (z := z) (fun (x22858 : Int32) (x22859 : Nat → Int32) => ∀ (H : Heap) (locs : List Loc) (ls : Array Slot), WS g.1 classes A s.heap H locs (wd_Model_tables g t_o t_disk_a t_sort_a t_first_a t_many_a t_name_a t_size_a t_seed_a t_scattered_a t_head_a t_follows_a t_memory_a t_thrown t_sectors t_partitions t_files t_address t_start t_fat t_clusters t_header t_found t_kernelAt t_kernelSize t_any x22859 t_sort t_first t_many) → lv_has ls 6 [(5, .int x22858), (4, .int v22799), (2, .int v21372), (1, .int x17095), (0, .ref t_o)] → W p l e rm_Model_tables s m args below meth c H locs 0 0 Q (F0 m 402 ls [])) (by
                intro k402 hk402 x22858 x22859 hf H locs ls hw hl
                unfold f_Model_tables_L402 at hf
                refine n_iload hC hl 0 d_Model_tables_402 rfl ?_
                refine n_bipush hC 16 d_Model_tables_404 (by decide) ?_
                refine n_icmp_ge hC hf 436 d_Model_tables_406 (by decide) (fun hf => ?_) (fun hf => ?_)
                · refine n_aload_n hC hl 4 d_Model_tables_436 rfl rfl ?_
                  refine n_iload hC hl 1 d_Model_tables_437 rfl ?_
                  refine n_bipush hC 72 d_Model_tables_439 (by decide) ?_
                  refine n_iadd hC hf d_Model_tables_441 (fun v22898 hf => ?_)
                  refine n_bipush hC 8 d_Model_tables_442 (by decide) ?_
                  refine n_iload_n hC hl 3 d_Model_tables_444 rfl rfl ?_
                  refine jn1 (fun (x22901 : Int64) => ∀ (H : Heap) (locs : List Loc) (ls : Array Slot), WS g.1 classes A s.heap H locs (wd_Model_tables g t_o t_disk_a t_sort_a t_first_a t_many_a t_name_a t_size_a t_seed_a t_scattered_a t_head_a t_follows_a t_memory_a t_thrown t_sectors t_partitions t_files t_address t_start t_fat t_clusters t_header t_found t_kernelAt t_kernelSize t_any x22859 t_sort t_first t_many) → lv_has ls 6 [(4, .int v22799), (2, .int v21372), (1, .int x17095), (0, .ref t_o)] → W p l e rm_Model_tables s m args below meth c H locs 0 0 Q (F0 m 462 ls [.long x22901, .int 8, .int v22898, .ref t_o])) hf (fun x22901 hf H locs ls hw hl => ?_) (fun j462 hj462 hf => ?_)
                  · obtain ⟨u22902, hu22902, hf⟩ := bd_s hf
                    refine n_callVv hC hw fc_Model_158 (c_Model_low l g E hEe t_o t_disk_a t_sort_a t_first_a t_many_a t_name_a t_size_a t_seed_a t_scattered_a t_head_a t_follows_a t_memory_a t_thrown t_sectors t_partitions t_files t_address t_start t_fat t_clusters t_header t_found t_kernelAt t_kernelSize t_any x22859 v22898 8 x22901 N u22902 hu22902) [0, 1] (wd_Model_tables g t_o t_disk_a t_sort_a t_first_a t_many_a t_name_a t_size_a t_seed_a t_scattered_a t_head_a t_follows_a t_memory_a t_thrown t_sectors t_partitions t_files t_address t_start t_fat t_clusters t_header t_found t_kernelAt t_kernelSize t_any u22902 t_sort t_first t_many) 0 rfl ⟨rfl, rfl⟩ ⟨Nat.le_of_ble_eq_true rfl, Nat.le_of_ble_eq_true rfl⟩ rfl (At_.cons rfl (At_.cons rfl At_.nil)) (At_.cons rfl (At_.cons rfl At_.nil)) (Sm_.keep (Sm_.upd rfl (Sm_.keep (Sm_.keep (Sm_.keep Sm_.nil))))) rfl hl.1 (Nat.le_of_ble_eq_true rfl) ⟨Nat.zero_le _, Nat.zero_le _⟩ d_Model_tables_462 (fun H locs hw => ?_) rfl
                    refine n_aload_n hC hl 3 d_Model_tables_465 rfl rfl ?_
                    refine n_iload hC hl 0 d_Model_tables_466 rfl ?_
                    refine n_bipush hC 80 d_Model_tables_468 (by decide) ?_
                    refine n_iadd hC hf d_Model_tables_470 (fun v22903 hf => ?_)
                    refine n_iconst hC 4 d_Model_tables_471 (by decide) ?_
                    refine n_ldc2 hC 128 kc_Model_190 d_Model_tables_472 ?_
                    obtain ⟨u22904, hu22904, hf⟩ := bd_s hf
                    refine n_callVv hC hw fc_Model_158 (c_Model_low l g E hEe t_o t_disk_a t_sort_a t_first_a t_many_a t_name_a t_size_a t_seed_a t_scattered_a t_head_a t_follows_a t_memory_a t_thrown t_sectors t_partitions t_files t_address t_start t_fat t_clusters t_header t_found t_kernelAt t_kernelSize t_any u22902 v22903 4 128 N u22904 hu22904) [0, 1] (wd_Model_tables g t_o t_disk_a t_sort_a t_first_a t_many_a t_name_a t_size_a t_seed_a t_scattered_a t_head_a t_follows_a t_memory_a t_thrown t_sectors t_partitions t_files t_address t_start t_fat t_clusters t_header t_found t_kernelAt t_kernelSize t_any u22904 t_sort t_first t_many) 0 rfl ⟨rfl, rfl⟩ ⟨Nat.le_of_ble_eq_true rfl, Nat.le_of_ble_eq_true rfl⟩ rfl (At_.cons rfl (At_.cons rfl At_.nil)) (At_.cons rfl (At_.cons rfl At_.nil)) (Sm_.keep (Sm_.upd rfl (Sm_.keep (Sm_.keep (Sm_.keep Sm_.nil))))) rfl hl.1 (Nat.le_of_ble_eq_true rfl) ⟨Nat.zero_le _, Nat.zero_le _⟩ d_Model_tables_475 (fun H locs hw => ?_) rfl
                    refine n_aload_n hC hl 3 d_Model_tables_478 rfl rfl ?_
                    refine n_iload hC hl 0 d_Model_tables_479 rfl ?_
                    refine n_bipush hC 84 d_Model_tables_481 (by decide) ?_
                    refine n_iadd hC hf d_Model_tables_483 (fun v22905 hf => ?_)
                    refine n_iconst hC 4 d_Model_tables_484 (by decide) ?_
                    refine n_ldc2 hC 128 kc_Model_190 d_Model_tables_485 ?_
                    obtain ⟨u22906, hu22906, hf⟩ := bd_s hf
                    refine n_callVv hC hw fc_Model_158 (c_Model_low l g E hEe t_o t_disk_a t_sort_a t_first_a t_many_a t_name_a t_size_a t_seed_a t_scattered_a t_head_a t_follows_a t_memory_a t_thrown t_sectors t_partitions t_files t_address t_start t_fat t_clusters t_header t_found t_kernelAt t_kernelSize t_any u22904 v22905 4 128 N u22906 hu22906) [0, 1] (wd_Model_tables g t_o t_disk_a t_sort_a t_first_a t_many_a t_name_a t_size_a t_seed_a t_scattered_a t_head_a t_follows_a t_memory_a t_thrown t_sectors t_partitions t_files t_address t_start t_fat t_clusters t_header t_found t_kernelAt t_kernelSize t_any u22906 t_sort t_first t_many) 0 rfl ⟨rfl, rfl⟩ ⟨Nat.le_of_ble_eq_true rfl, Nat.le_of_ble_eq_true rfl⟩ rfl (At_.cons rfl (At_.cons rfl At_.nil)) (At_.cons rfl (At_.cons rfl At_.nil)) (Sm_.keep (Sm_.upd rfl (Sm_.keep (Sm_.keep (Sm_.keep Sm_.nil))))) rfl hl.1 (Nat.le_of_ble_eq_true rfl) ⟨Nat.zero_le _, Nat.zero_le _⟩ d_Model_tables_488 (fun H locs hw => ?_) rfl
                    refine n_aload_n hC hl 3 d_Model_tables_491 rfl rfl ?_
                    refine n_iload hC hl 0 d_Model_tables_492 rfl ?_
                    refine n_bipush hC 88 d_Model_tables_494 (by decide) ?_
                    refine n_iadd hC hf d_Model_tables_496 (fun v22907 hf => ?_)
                    refine n_iconst hC 4 d_Model_tables_497 (by decide) ?_
                    refine n_aload_n hC hl 3 d_Model_tables_498 rfl rfl ?_
                    refine n_iload_n hC hl 1 d_Model_tables_499 rfl rfl ?_
                    refine n_sipush hC 16384 d_Model_tables_500 (by decide) ?_
                    obtain ⟨u22908, hu22908, hf⟩ := bd_s hf
                    refine n_callVi hC hw fc_Model_79 (c_Model_sumOf l g E hEe t_o t_disk_a t_sort_a t_first_a t_many_a t_name_a t_size_a t_seed_a t_scattered_a t_head_a t_follows_a t_memory_a t_thrown t_sectors t_partitions t_files t_address t_start t_fat t_clusters t_header t_found t_kernelAt t_kernelSize t_any u22906 v21372 16384 N u22908 hu22908) [0, 1] (wd_Model_tables g t_o t_disk_a t_sort_a t_first_a t_many_a t_name_a t_size_a t_seed_a t_scattered_a t_head_a t_follows_a t_memory_a t_thrown t_sectors t_partitions t_files t_address t_start t_fat t_clusters t_header t_found t_kernelAt t_kernelSize t_any u22906 t_sort t_first t_many) 0 rfl ⟨rfl, rfl⟩ ⟨Nat.le_of_ble_eq_true rfl, Nat.le_of_ble_eq_true rfl⟩ rfl (At_.cons rfl (At_.cons rfl At_.nil)) (At_.cons rfl (At_.cons rfl At_.nil)) Sm_.refl rfl hl.1 (Nat.le_of_ble_eq_true rfl) ⟨Nat.zero_le _, Nat.zero_le _⟩ d_Model_tables_503 (fun H locs hw => ?_) rfl
                    refine n_i2l hC hf d_Model_tables_506 (fun v22909 hf => ?_)
                    obtain ⟨u22910, hu22910, hf⟩ := bd_s hf
                    refine n_callVv hC hw fc_Model_158 (c_Model_low l g E hEe t_o t_disk_a t_sort_a t_first_a t_many_a t_name_a t_size_a t_seed_a t_scattered_a t_head_a t_follows_a t_memory_a t_thrown t_sectors t_partitions t_files t_address t_start t_fat t_clusters t_header t_found t_kernelAt t_kernelSize t_any u22906 v22907 4 v22909 N u22910 hu22910) [0, 1] (wd_Model_tables g t_o t_disk_a t_sort_a t_first_a t_many_a t_name_a t_size_a t_seed_a t_scattered_a t_head_a t_follows_a t_memory_a t_thrown t_sectors t_partitions t_files t_address t_start t_fat t_clusters t_header t_found t_kernelAt t_kernelSize t_any u22910 t_sort t_first t_many) 0 rfl ⟨rfl, rfl⟩ ⟨Nat.le_of_ble_eq_true rfl, Nat.le_of_ble_eq_true rfl⟩ rfl (At_.cons rfl (At_.cons rfl At_.nil)) (At_.cons rfl (At_.cons rfl At_.nil)) (Sm_.keep (Sm_.upd rfl (Sm_.keep (Sm_.keep (Sm_.keep Sm_.nil))))) rfl hl.1 (Nat.le_of_ble_eq_true rfl) ⟨Nat.zero_le _, Nat.zero_le _⟩ d_Model_tables_507 (fun H locs hw => ?_) rfl
                    refine n_aload_n hC hl 3 d_Model_tables_510 rfl rfl ?_
                    refine n_iload hC hl 0 d_Model_tables_511 rfl ?_
                    refine n_bipush hC 16 d_Model_tables_513 (by decide) ?_
                    refine n_iadd hC hf d_Model_tables_515 (fun v22911 hf => ?_)
                    refine n_iconst hC 4 d_Model_tables_516 (by decide) ?_
                    refine n_aload_n hC hl 3 d_Model_tables_517 rfl rfl ?_
                    refine n_iload hC hl 0 d_Model_tables_518 rfl ?_
                    refine n_bipush hC 92 d_Model_tables_520 (by decide) ?_
                    obtain ⟨u22912, hu22912, hf⟩ := bd_s hf
                    refine n_callVi hC hw fc_Model_79 (c_Model_sumOf l g E hEe t_o t_disk_a t_sort_a t_first_a t_many_a t_name_a t_size_a t_seed_a t_scattered_a t_head_a t_follows_a t_memory_a t_thrown t_sectors t_partitions t_files t_address t_start t_fat t_clusters t_header t_found t_kernelAt t_kernelSize t_any u22910 v22799 92 N u22912 hu22912) [0, 1] (wd_Model_tables g t_o t_disk_a t_sort_a t_first_a t_many_a t_name_a t_size_a t_seed_a t_scattered_a t_head_a t_follows_a t_memory_a t_thrown t_sectors t_partitions t_files t_address t_start t_fat t_clusters t_header t_found t_kernelAt t_kernelSize t_any u22910 t_sort t_first t_many) 0 rfl ⟨rfl, rfl⟩ ⟨Nat.le_of_ble_eq_true rfl, Nat.le_of_ble_eq_true rfl⟩ rfl (At_.cons rfl (At_.cons rfl At_.nil)) (At_.cons rfl (At_.cons rfl At_.nil)) Sm_.refl rfl hl.1 (Nat.le_of_ble_eq_true rfl) ⟨Nat.zero_le _, Nat.zero_le _⟩ d_Model_tables_522 (fun H locs hw => ?_) rfl
                    refine n_i2l hC hf d_Model_tables_525 (fun v22913 hf => ?_)
                    obtain ⟨u22914, hu22914, hf⟩ := bd_s hf
                    refine n_callVv hC hw fc_Model_158 (c_Model_low l g E hEe t_o t_disk_a t_sort_a t_first_a t_many_a t_name_a t_size_a t_seed_a t_scattered_a t_head_a t_follows_a t_memory_a t_thrown t_sectors t_partitions t_files t_address t_start t_fat t_clusters t_header t_found t_kernelAt t_kernelSize t_any u22910 v22911 4 v22913 N u22914 hu22914) [0, 1] (wd_Model_tables g t_o t_disk_a t_sort_a t_first_a t_many_a t_name_a t_size_a t_seed_a t_scattered_a t_head_a t_follows_a t_memory_a t_thrown t_sectors t_partitions t_files t_address t_start t_fat t_clusters t_header t_found t_kernelAt t_kernelSize t_any u22914 t_sort t_first t_many) 0 rfl ⟨rfl, rfl⟩ ⟨Nat.le_of_ble_eq_true rfl, Nat.le_of_ble_eq_true rfl⟩ rfl (At_.cons rfl (At_.cons rfl At_.nil)) (At_.cons rfl (At_.cons rfl At_.nil)) (Sm_.keep (Sm_.upd rfl (Sm_.keep (Sm_.keep (Sm_.keep Sm_.nil))))) rfl hl.1 (Nat.le_of_ble_eq_true rfl) ⟨Nat.zero_le _, Nat.zero_le _⟩ d_Model_tables_526 (fun H locs hw => ?_) rfl
                    refine n_iinc hC (k := 2) hf (by decide) (fun v22915 => [(1, .int v22915), (4, .int v22799), (2, .int v21372), (0, .ref t_o)]) hl d_Model_tables_529 rfl (by decide) (fun _ => rfl) (fun v22915 ls hf hl => ?_)
                    refine n_goto hC 2 d_Model_tables_532 (by decide) ?_
                    exact hk2 _ _ hf _ _ _ hw (lv_sub hl [0, 3] rfl)
                  refine n_if_ne hC hf 454 d_Model_tables_445 (by decide) (fun hf => ?_) (fun hf => ?_)
                  · refine n_aload_n hC hl 4 d_Model_tables_454 rfl rfl ?_
                    refine n_get hC hw fg_Model_48 0 rfl rfl d_Model_tables_455 ?_
                    refine n_bipush hC 33 d_Model_tables_458 (by decide) ?_
                    refine n_isub hC hf d_Model_tables_460 (fun v22916 hf => ?_)
                    refine n_i2l hC hf d_Model_tables_461 (fun v22917 hf => ?_)
                    exact hj462 _ hf _ _ _ hw (lv_sub hl [1, 2, 3, 4] rfl)
                  · refine n_ldc2 hC 2 kc_Model_188 d_Model_tables_448 ?_
                    refine n_goto hC 462 d_Model_tables_451 (by decide) ?_
                    exact hj462 _ hf _ _ _ hw (lv_sub hl [1, 2, 3, 4] rfl)
                · refine n_aload_n hC hl 4 d_Model_tables_409 rfl rfl ?_
                  refine n_get hC hw fg_Model_8 0 rfl rfl d_Model_tables_410 ?_
                  refine n_iload hC hl 1 d_Model_tables_413 rfl ?_
                  refine n_bipush hC 56 d_Model_tables_415 (by decide) ?_
                  refine n_iadd hC hf d_Model_tables_417 (fun v22918 hf => ?_)
                  refine n_iload hC hl 0 d_Model_tables_418 rfl ?_
                  refine n_iadd hC hf d_Model_tables_420 (fun v22919 hf => ?_)
                  refine n_bipush hC 17 d_Model_tables_421 (by decide) ?_
                  refine n_iload hC hl 0 d_Model_tables_423 rfl ?_
                  refine n_imul hC hf d_Model_tables_425 (fun v22920 hf => ?_)
                  refine n_iconst hC 1 d_Model_tables_426 (by decide) ?_
                  refine n_iadd hC hf d_Model_tables_427 (fun v22921 hf => ?_)
                  refine n_i2b hC hf d_Model_tables_428 (fun v22922 hf => ?_)
                  refine n_bast hC hw hf 1 3 (fun f22923 => wd_Model_tables g t_o t_disk_a t_sort_a t_first_a t_many_a t_name_a t_size_a t_seed_a t_scattered_a t_head_a t_follows_a t_memory_a t_thrown t_sectors t_partitions t_files t_address t_start t_fat t_clusters t_header t_found t_kernelAt t_kernelSize t_any f22923 t_sort t_first t_many) rfl rfl d_Model_tables_429 (fun _ => rfl) (fun f22923 H locs hf hw => ?_)
                  refine n_iinc hC (k := 0) hf (by decide) (fun v22924 => [(5, .int v22924), (4, .int v22799), (2, .int v21372), (1, .int x17095), (0, .ref t_o)]) hl d_Model_tables_430 rfl (by decide) (fun _ => rfl) (fun v22924 ls hf hl => ?_)
                  refine n_goto hC 402 d_Model_tables_433 (by decide) ?_
                  exact hk402 _ _ hf _ _ _ hw (lv_sub hl [0, 1, 2, 3, 4] rfl)
                )
              exact hL402 N _ _ hf _ _ _ hw (lv_sub hl [0, 1, 3, 4, 5] rfl)
            refine n_if_ne hC hf 267 d_Model_tables_260 (by decide) (fun hf => ?_) (fun hf => ?_)
            · refine n_aload_n hC hl 3 d_Model_tables_267 rfl rfl ?_
              refine n_get hC hw fg_Model_48 0 rfl rfl d_Model_tables_268 ?_
              refine n_iconst hC 1 d_Model_tables_271 (by decide) ?_
              refine n_isub hC hf d_Model_tables_272 (fun v22925 hf => ?_)
              exact hj273 _ hf _ _ _ hw (lv_sub hl [1, 2, 3] rfl)
            · refine n_iconst hC 1 d_Model_tables_263 (by decide) ?_
              refine n_goto hC 273 d_Model_tables_264 (by decide) ?_
              exact hj273 _ hf _ _ _ hw (lv_sub hl [1, 2, 3] rfl)
          · refine n_iload_n hC hl 1 d_Model_tables_37 rfl rfl ?_
            refine n_sipush hC 128 d_Model_tables_38 (by decide) ?_
            refine n_iload_n hC hl 0 d_Model_tables_41 rfl rfl ?_
            refine n_imul hC hf d_Model_tables_42 (fun v22926 hf => ?_)
            refine n_iadd hC hf d_Model_tables_43 (fun v22927 hf => ?_)
            refine n_istore hC [(4, .int v22927), (3, .int x22084), (2, .int v21372), (1, .int x17095), (0, .ref t_o)] hl d_Model_tables_44 (by decide) rfl (fun ls hl => ?_)
            refine n_iconst hC 0 d_Model_tables_46 (by decide) ?_
            refine n_istore hC [(5, .int 0), (4, .int v22927), (3, .int x22084), (2, .int v21372), (1, .int x17095), (0, .ref t_o)] hl d_Model_tables_47 (by decide) rfl (fun ls hl => ?_)
            have hL49 := lw2 (B := f_Model_tables_L49 N v22927 t_first x22084 t_many t_sort k29) (z := z) (fun (x23072 : Int32) (x23073 : Nat → Int32) => ∀ (H : Heap) (locs : List Loc) (ls : Array Slot), WS g.1 classes A s.heap H locs (wd_Model_tables g t_o t_disk_a t_sort_a t_first_a t_many_a t_name_a t_size_a t_seed_a t_scattered_a t_head_a t_follows_a t_memory_a t_thrown t_sectors t_partitions t_files t_address t_start t_fat t_clusters t_header t_found t_kernelAt t_kernelSize t_any x23073 t_sort t_first t_many) → lv_has ls 6 [(5, .int x23072), (4, .int v22927), (3, .int x22084), (2, .int v21372), (1, .int x17095), (0, .ref t_o)] → W p l e rm_Model_tables s m args below meth c H locs 0 0 Q (F0 m 49 ls [])) (by
              intro k49 hk49 x23072 x23073 hf H locs ls hw hl
              unfold f_Model_tables_L49 at hf
              refine n_iload hC hl 0 d_Model_tables_49 rfl ?_
              refine n_bipush hC 16 d_Model_tables_51 (by decide) ?_
              refine n_icmp_ge hC hf 107 d_Model_tables_53 (by decide) (fun hf => ?_) (fun hf => ?_)
              · refine n_aload_n hC hl 5 d_Model_tables_107 rfl rfl ?_
                refine n_iload hC hl 1 d_Model_tables_108 rfl ?_
                refine n_bipush hC 32 d_Model_tables_110 (by decide) ?_
                refine n_iadd hC hf d_Model_tables_112 (fun v23218 hf => ?_)
                refine n_bipush hC 8 d_Model_tables_113 (by decide) ?_
                refine n_aload_n hC hl 5 d_Model_tables_115 rfl rfl ?_
                refine n_get hC hw fg_Model_18 0 rfl rfl d_Model_tables_116 ?_
                refine n_iload_n hC hl 2 d_Model_tables_119 rfl rfl ?_
                refine n_iald hC hw hf 3 0 rfl rfl d_Model_tables_120 (fun v23219 hf => ?_)
                refine n_i2l hC hf d_Model_tables_121 (fun v23220 hf => ?_)
                obtain ⟨u23221, hu23221, hf⟩ := bd_s hf
                refine n_callVv hC hw fc_Model_158 (c_Model_low l g E hEe t_o t_disk_a t_sort_a t_first_a t_many_a t_name_a t_size_a t_seed_a t_scattered_a t_head_a t_follows_a t_memory_a t_thrown t_sectors t_partitions t_files t_address t_start t_fat t_clusters t_header t_found t_kernelAt t_kernelSize t_any x23073 v23218 8 v23220 N u23221 hu23221) [0, 1] (wd_Model_tables g t_o t_disk_a t_sort_a t_first_a t_many_a t_name_a t_size_a t_seed_a t_scattered_a t_head_a t_follows_a t_memory_a t_thrown t_sectors t_partitions t_files t_address t_start t_fat t_clusters t_header t_found t_kernelAt t_kernelSize t_any u23221 t_sort t_first t_many) 0 rfl ⟨rfl, rfl⟩ ⟨Nat.le_of_ble_eq_true rfl, Nat.le_of_ble_eq_true rfl⟩ rfl (At_.cons rfl (At_.cons rfl At_.nil)) (At_.cons rfl (At_.cons rfl At_.nil)) (Sm_.keep (Sm_.upd rfl (Sm_.keep (Sm_.keep (Sm_.keep Sm_.nil))))) rfl hl.1 (Nat.le_of_ble_eq_true rfl) ⟨Nat.zero_le _, Nat.zero_le _⟩ d_Model_tables_122 (fun H locs hw => ?_) rfl
                refine n_aload_n hC hl 5 d_Model_tables_125 rfl rfl ?_
                refine n_iload hC hl 1 d_Model_tables_126 rfl ?_
                refine n_bipush hC 40 d_Model_tables_128 (by decide) ?_
                refine n_iadd hC hf d_Model_tables_130 (fun v23222 hf => ?_)
                refine n_bipush hC 8 d_Model_tables_131 (by decide) ?_
                refine n_aload_n hC hl 5 d_Model_tables_133 rfl rfl ?_
                refine n_get hC hw fg_Model_18 0 rfl rfl d_Model_tables_134 ?_
                refine n_iload_n hC hl 2 d_Model_tables_137 rfl rfl ?_
                refine n_iald hC hw hf 3 0 rfl rfl d_Model_tables_138 (fun v23223 hf => ?_)
                refine n_aload_n hC hl 5 d_Model_tables_139 rfl rfl ?_
                refine n_get hC hw fg_Model_21 0 rfl rfl d_Model_tables_140 ?_
                refine n_iload_n hC hl 2 d_Model_tables_143 rfl rfl ?_
                refine n_iald hC hw hf 4 0 rfl rfl d_Model_tables_144 (fun v23224 hf => ?_)
                refine n_iadd hC hf d_Model_tables_145 (fun v23225 hf => ?_)
                refine n_iconst hC 1 d_Model_tables_146 (by decide) ?_
                refine n_isub hC hf d_Model_tables_147 (fun v23226 hf => ?_)
                refine n_i2l hC hf d_Model_tables_148 (fun v23227 hf => ?_)
                obtain ⟨u23228, hu23228, hf⟩ := bd_s hf
                refine n_callVv hC hw fc_Model_158 (c_Model_low l g E hEe t_o t_disk_a t_sort_a t_first_a t_many_a t_name_a t_size_a t_seed_a t_scattered_a t_head_a t_follows_a t_memory_a t_thrown t_sectors t_partitions t_files t_address t_start t_fat t_clusters t_header t_found t_kernelAt t_kernelSize t_any u23221 v23222 8 v23227 N u23228 hu23228) [0, 1] (wd_Model_tables g t_o t_disk_a t_sort_a t_first_a t_many_a t_name_a t_size_a t_seed_a t_scattered_a t_head_a t_follows_a t_memory_a t_thrown t_sectors t_partitions t_files t_address t_start t_fat t_clusters t_header t_found t_kernelAt t_kernelSize t_any u23228 t_sort t_first t_many) 0 rfl ⟨rfl, rfl⟩ ⟨Nat.le_of_ble_eq_true rfl, Nat.le_of_ble_eq_true rfl⟩ rfl (At_.cons rfl (At_.cons rfl At_.nil)) (At_.cons rfl (At_.cons rfl At_.nil)) (Sm_.keep (Sm_.upd rfl (Sm_.keep (Sm_.keep (Sm_.keep Sm_.nil))))) rfl hl.1 (Nat.le_of_ble_eq_true rfl) ⟨Nat.zero_le _, Nat.zero_le _⟩ d_Model_tables_149 (fun H locs hw => ?_) rfl
                refine n_aload_n hC hl 5 d_Model_tables_152 rfl rfl ?_
                refine n_iload hC hl 1 d_Model_tables_153 rfl ?_
                refine n_bipush hC 56 d_Model_tables_155 (by decide) ?_
                refine n_iadd hC hf d_Model_tables_157 (fun v23229 hf => ?_)
                refine n_aload_n hC hl 5 d_Model_tables_158 rfl rfl ?_
                refine n_get hC hw fg_Model_14 0 rfl rfl d_Model_tables_159 ?_
                refine n_iload_n hC hl 2 d_Model_tables_162 rfl rfl ?_
                refine n_iald hC hw hf 2 0 rfl rfl d_Model_tables_163 (fun v23230 hf => ?_)
                refine jn1 (fun (x23231 : Int32) => ∀ (H : Heap) (locs : List Loc) (ls : Array Slot), WS g.1 classes A s.heap H locs (wd_Model_tables g t_o t_disk_a t_sort_a t_first_a t_many_a t_name_a t_size_a t_seed_a t_scattered_a t_head_a t_follows_a t_memory_a t_thrown t_sectors t_partitions t_files t_address t_start t_fat t_clusters t_header t_found t_kernelAt t_kernelSize t_any u23228 t_sort t_first t_many) → lv_has ls 6 [(4, .int v22927), (3, .int x22084), (2, .int v21372), (1, .int x17095), (0, .ref t_o)] → W p l e rm_Model_tables s m args below meth c H locs 0 0 Q (F0 m 174 ls [.int x23231, .int v23229, .ref t_o])) hf (fun x23231 hf H locs ls hw hl => ?_) (fun j174 hj174 hf => ?_)
                · refine n_iconst hC 0 d_Model_tables_174 (by decide) ?_
                  refine n_aload_n hC hl 4 d_Model_tables_175 rfl rfl ?_
                  refine n_get hC hw fg_Model_14 0 rfl rfl d_Model_tables_176 ?_
                  refine n_iload_n hC hl 1 d_Model_tables_179 rfl rfl ?_
                  refine n_iald hC hw hf 2 0 rfl rfl d_Model_tables_180 (fun v23232 hf => ?_)
                  refine jn1 (fun (x23233 : Int32) => ∀ (H : Heap) (locs : List Loc) (ls : Array Slot), WS g.1 classes A s.heap H locs (wd_Model_tables g t_o t_disk_a t_sort_a t_first_a t_many_a t_name_a t_size_a t_seed_a t_scattered_a t_head_a t_follows_a t_memory_a t_thrown t_sectors t_partitions t_files t_address t_start t_fat t_clusters t_header t_found t_kernelAt t_kernelSize t_any u23228 t_sort t_first t_many) → lv_has ls 6 [(4, .int v22927), (3, .int x22084), (2, .int v21372), (1, .int x17095), (0, .ref t_o)] → W p l e rm_Model_tables s m args below meth c H locs 0 0 Q (F0 m 191 ls [.int x23233, .int 0, .int x23231, .int v23229, .ref t_o])) hf (fun x23233 hf H locs ls hw hl => ?_) (fun j191 hj191 hf => ?_)
                  · refine n_iconst hC 0 d_Model_tables_191 (by decide) ?_
                    obtain ⟨u23234, hu23234, hf⟩ := bd_s hf
                    refine n_callVv hC hw fc_Model_169 (c_Model_word l g E hEe t_o t_disk_a t_sort_a t_first_a t_many_a t_name_a t_size_a t_seed_a t_scattered_a t_head_a t_follows_a t_memory_a t_thrown t_sectors t_partitions t_files t_address t_start t_fat t_clusters t_header t_found t_kernelAt t_kernelSize t_any u23228 v23229 x23231 0 x23233 0 u23234 hu23234) [0, 1] (wd_Model_tables g t_o t_disk_a t_sort_a t_first_a t_many_a t_name_a t_size_a t_seed_a t_scattered_a t_head_a t_follows_a t_memory_a t_thrown t_sectors t_partitions t_files t_address t_start t_fat t_clusters t_header t_found t_kernelAt t_kernelSize t_any u23234 t_sort t_first t_many) 0 rfl ⟨rfl, rfl⟩ ⟨Nat.le_of_ble_eq_true rfl, Nat.le_of_ble_eq_true rfl⟩ rfl (At_.cons rfl (At_.cons rfl At_.nil)) (At_.cons rfl (At_.cons rfl At_.nil)) (Sm_.keep (Sm_.upd rfl (Sm_.keep (Sm_.keep (Sm_.keep Sm_.nil))))) rfl hl.1 (Nat.le_of_ble_eq_true rfl) ⟨Nat.zero_le _, Nat.zero_le _⟩ d_Model_tables_192 (fun H locs hw => ?_) rfl
                    refine n_aload_n hC hl 4 d_Model_tables_195 rfl rfl ?_
                    refine n_iload hC hl 0 d_Model_tables_196 rfl ?_
                    refine n_bipush hC 60 d_Model_tables_198 (by decide) ?_
                    refine n_iadd hC hf d_Model_tables_200 (fun v23235 hf => ?_)
                    refine n_aload_n hC hl 4 d_Model_tables_201 rfl rfl ?_
                    refine n_get hC hw fg_Model_14 0 rfl rfl d_Model_tables_202 ?_
                    refine n_iload_n hC hl 1 d_Model_tables_205 rfl rfl ?_
                    refine n_iald hC hw hf 2 0 rfl rfl d_Model_tables_206 (fun v23236 hf => ?_)
                    refine jn1 (fun (x23237 : Int32) => ∀ (H : Heap) (locs : List Loc) (ls : Array Slot), WS g.1 classes A s.heap H locs (wd_Model_tables g t_o t_disk_a t_sort_a t_first_a t_many_a t_name_a t_size_a t_seed_a t_scattered_a t_head_a t_follows_a t_memory_a t_thrown t_sectors t_partitions t_files t_address t_start t_fat t_clusters t_header t_found t_kernelAt t_kernelSize t_any u23234 t_sort t_first t_many) → lv_has ls 6 [(4, .int v22927), (3, .int x22084), (2, .int v21372), (1, .int x17095), (0, .ref t_o)] → W p l e rm_Model_tables s m args below meth c H locs 0 0 Q (F0 m 217 ls [.int x23237, .int v23235, .ref t_o])) hf (fun x23237 hf H locs ls hw hl => ?_) (fun j217 hj217 hf => ?_)
                    · refine n_iconst hC 0 d_Model_tables_217 (by decide) ?_
                      refine n_aload_n hC hl 4 d_Model_tables_218 rfl rfl ?_
                      refine n_get hC hw fg_Model_14 0 rfl rfl d_Model_tables_219 ?_
                      refine n_iload_n hC hl 1 d_Model_tables_222 rfl rfl ?_
                      refine n_iald hC hw hf 2 0 rfl rfl d_Model_tables_223 (fun v23238 hf => ?_)
                      refine jn1 (fun (x23239 : Int32) => ∀ (H : Heap) (locs : List Loc) (ls : Array Slot), WS g.1 classes A s.heap H locs (wd_Model_tables g t_o t_disk_a t_sort_a t_first_a t_many_a t_name_a t_size_a t_seed_a t_scattered_a t_head_a t_follows_a t_memory_a t_thrown t_sectors t_partitions t_files t_address t_start t_fat t_clusters t_header t_found t_kernelAt t_kernelSize t_any u23234 t_sort t_first t_many) → lv_has ls 6 [(4, .int v22927), (3, .int x22084), (2, .int v21372), (1, .int x17095), (0, .ref t_o)] → W p l e rm_Model_tables s m args below meth c H locs 0 0 Q (F0 m 234 ls [.int x23239, .int 0, .int x23237, .int v23235, .ref t_o])) hf (fun x23239 hf H locs ls hw hl => ?_) (fun j234 hj234 hf => ?_)
                      · refine n_iconst hC 0 d_Model_tables_234 (by decide) ?_
                        obtain ⟨u23240, hu23240, hf⟩ := bd_s hf
                        refine n_callVv hC hw fc_Model_169 (c_Model_word l g E hEe t_o t_disk_a t_sort_a t_first_a t_many_a t_name_a t_size_a t_seed_a t_scattered_a t_head_a t_follows_a t_memory_a t_thrown t_sectors t_partitions t_files t_address t_start t_fat t_clusters t_header t_found t_kernelAt t_kernelSize t_any u23234 v23235 x23237 0 x23239 0 u23240 hu23240) [0, 1] (wd_Model_tables g t_o t_disk_a t_sort_a t_first_a t_many_a t_name_a t_size_a t_seed_a t_scattered_a t_head_a t_follows_a t_memory_a t_thrown t_sectors t_partitions t_files t_address t_start t_fat t_clusters t_header t_found t_kernelAt t_kernelSize t_any u23240 t_sort t_first t_many) 0 rfl ⟨rfl, rfl⟩ ⟨Nat.le_of_ble_eq_true rfl, Nat.le_of_ble_eq_true rfl⟩ rfl (At_.cons rfl (At_.cons rfl At_.nil)) (At_.cons rfl (At_.cons rfl At_.nil)) (Sm_.keep (Sm_.upd rfl (Sm_.keep (Sm_.keep (Sm_.keep Sm_.nil))))) rfl hl.1 (Nat.le_of_ble_eq_true rfl) ⟨Nat.zero_le _, Nat.zero_le _⟩ d_Model_tables_235 (fun H locs hw => ?_) rfl
                        refine n_aload_n hC hl 4 d_Model_tables_238 rfl rfl ?_
                        refine n_get hC hw fg_Model_8 0 rfl rfl d_Model_tables_239 ?_
                        refine n_iload hC hl 0 d_Model_tables_242 rfl ?_
                        refine n_bipush hC 64 d_Model_tables_244 (by decide) ?_
                        refine n_iadd hC hf d_Model_tables_246 (fun v23241 hf => ?_)
                        refine n_bipush hC 48 d_Model_tables_247 (by decide) ?_
                        refine n_iload_n hC hl 1 d_Model_tables_249 rfl rfl ?_
                        refine n_iadd hC hf d_Model_tables_250 (fun v23242 hf => ?_)
                        refine n_i2b hC hf d_Model_tables_251 (fun v23243 hf => ?_)
                        refine n_bast hC hw hf 1 3 (fun f23244 => wd_Model_tables g t_o t_disk_a t_sort_a t_first_a t_many_a t_name_a t_size_a t_seed_a t_scattered_a t_head_a t_follows_a t_memory_a t_thrown t_sectors t_partitions t_files t_address t_start t_fat t_clusters t_header t_found t_kernelAt t_kernelSize t_any f23244 t_sort t_first t_many) rfl rfl d_Model_tables_252 (fun _ => rfl) (fun f23244 H locs hf hw => ?_)
                        refine n_iinc hC (k := 1) hf (by decide) (fun v23245 => [(3, .int v23245), (4, .int v22927), (2, .int v21372), (1, .int x17095), (0, .ref t_o)]) hl d_Model_tables_253 rfl (by decide) (fun _ => rfl) (fun v23245 ls hf hl => ?_)
                        refine n_goto hC 29 d_Model_tables_256 (by decide) ?_
                        exact hk29 _ _ hf _ _ _ hw (lv_sub hl [0, 2, 3, 4] rfl)
                      refine n_if_ne hC hf 232 d_Model_tables_224 (by decide) (fun hf => ?_) (fun hf => ?_)
                      · refine n_bipush hC 97 d_Model_tables_232 (by decide) ?_
                        exact hj234 _ hf _ _ _ hw (lv_sub hl [0, 1, 2, 3, 4] rfl)
                      · refine n_bipush hC 116 d_Model_tables_227 (by decide) ?_
                        refine n_goto hC 234 d_Model_tables_229 (by decide) ?_
                        exact hj234 _ hf _ _ _ hw (lv_sub hl [0, 1, 2, 3, 4] rfl)
                    refine n_if_ne hC hf 215 d_Model_tables_207 (by decide) (fun hf => ?_) (fun hf => ?_)
                    · refine n_bipush hC 116 d_Model_tables_215 (by decide) ?_
                      exact hj217 _ hf _ _ _ hw (lv_sub hl [0, 1, 2, 3, 4] rfl)
                    · refine n_bipush hC 111 d_Model_tables_210 (by decide) ?_
                      refine n_goto hC 217 d_Model_tables_212 (by decide) ?_
                      exact hj217 _ hf _ _ _ hw (lv_sub hl [0, 1, 2, 3, 4] rfl)
                  refine n_if_ne hC hf 189 d_Model_tables_181 (by decide) (fun hf => ?_) (fun hf => ?_)
                  · refine n_bipush hC 97 d_Model_tables_189 (by decide) ?_
                    exact hj191 _ hf _ _ _ hw (lv_sub hl [0, 1, 2, 3, 4] rfl)
                  · refine n_bipush hC 111 d_Model_tables_184 (by decide) ?_
                    refine n_goto hC 191 d_Model_tables_186 (by decide) ?_
                    exact hj191 _ hf _ _ _ hw (lv_sub hl [0, 1, 2, 3, 4] rfl)
                refine n_if_ne hC hf 172 d_Model_tables_164 (by decide) (fun hf => ?_) (fun hf => ?_)
                · refine n_bipush hC 100 d_Model_tables_172 (by decide) ?_
                  exact hj174 _ hf _ _ _ hw (lv_sub hl [1, 2, 3, 4, 5] rfl)
                · refine n_bipush hC 98 d_Model_tables_167 (by decide) ?_
                  refine n_goto hC 174 d_Model_tables_169 (by decide) ?_
                  exact hj174 _ hf _ _ _ hw (lv_sub hl [1, 2, 3, 4, 5] rfl)
              · refine n_aload_n hC hl 5 d_Model_tables_56 rfl rfl ?_
                refine n_get hC hw fg_Model_8 0 rfl rfl d_Model_tables_57 ?_
                refine n_iload hC hl 1 d_Model_tables_60 rfl ?_
                refine n_iload hC hl 0 d_Model_tables_62 rfl ?_
                refine n_iadd hC hf d_Model_tables_64 (fun v23246 hf => ?_)
                refine n_aload_n hC hl 5 d_Model_tables_65 rfl rfl ?_
                refine n_get hC hw fg_Model_14 0 rfl rfl d_Model_tables_66 ?_
                refine n_iload_n hC hl 2 d_Model_tables_69 rfl rfl ?_
                refine n_iald hC hw hf 2 0 rfl rfl d_Model_tables_70 (fun v23247 hf => ?_)
                refine n_iload hC hl 0 d_Model_tables_71 rfl ?_
                obtain ⟨u23248, hu23248, hf⟩ := bd_s hf
                refine n_callSi hC hw fc_Model_181 (c_Model_sixteen l g E hEe v23247 x23072 u23248 hu23248) [] (wd_Model_tables g t_o t_disk_a t_sort_a t_first_a t_many_a t_name_a t_size_a t_seed_a t_scattered_a t_head_a t_follows_a t_memory_a t_thrown t_sectors t_partitions t_files t_address t_start t_fat t_clusters t_header t_found t_kernelAt t_kernelSize t_any x23073 t_sort t_first t_many) ⟨rfl, rfl⟩ ⟨Nat.le_of_ble_eq_true rfl, Nat.le_of_ble_eq_true rfl⟩ rfl At_.nil At_.nil Sm_.refl rfl hl.1 (Nat.le_of_ble_eq_true rfl) ⟨Nat.zero_le _, Nat.zero_le _⟩ d_Model_tables_73 (fun H locs hw => ?_) rfl
                refine n_i2b hC hf d_Model_tables_76 (fun v23249 hf => ?_)
                refine n_bast hC hw hf 1 3 (fun f23250 => wd_Model_tables g t_o t_disk_a t_sort_a t_first_a t_many_a t_name_a t_size_a t_seed_a t_scattered_a t_head_a t_follows_a t_memory_a t_thrown t_sectors t_partitions t_files t_address t_start t_fat t_clusters t_header t_found t_kernelAt t_kernelSize t_any f23250 t_sort t_first t_many) rfl rfl d_Model_tables_77 (fun _ => rfl) (fun f23250 H locs hf hw => ?_)
                refine n_aload_n hC hl 5 d_Model_tables_78 rfl rfl ?_
                refine n_get hC hw fg_Model_8 0 rfl rfl d_Model_tables_79 ?_
                refine n_iload hC hl 1 d_Model_tables_82 rfl ?_
                refine n_bipush hC 16 d_Model_tables_84 (by decide) ?_
                refine n_iadd hC hf d_Model_tables_86 (fun v23251 hf => ?_)
                refine n_iload hC hl 0 d_Model_tables_87 rfl ?_
                refine n_iadd hC hf d_Model_tables_89 (fun v23252 hf => ?_)
                refine n_bipush hC 32 d_Model_tables_90 (by decide) ?_
                refine n_iload_n hC hl 2 d_Model_tables_92 rfl rfl ?_
                refine n_iconst hC 1 d_Model_tables_93 (by decide) ?_
                refine n_iadd hC hf d_Model_tables_94 (fun v23253 hf => ?_)
                refine n_imul hC hf d_Model_tables_95 (fun v23254 hf => ?_)
                refine n_iload hC hl 0 d_Model_tables_96 rfl ?_
                refine n_iadd hC hf d_Model_tables_98 (fun v23255 hf => ?_)
                refine n_i2b hC hf d_Model_tables_99 (fun v23256 hf => ?_)
                refine n_bast hC hw hf 1 3 (fun f23257 => wd_Model_tables g t_o t_disk_a t_sort_a t_first_a t_many_a t_name_a t_size_a t_seed_a t_scattered_a t_head_a t_follows_a t_memory_a t_thrown t_sectors t_partitions t_files t_address t_start t_fat t_clusters t_header t_found t_kernelAt t_kernelSize t_any f23257 t_sort t_first t_many) rfl rfl d_Model_tables_100 (fun _ => rfl) (fun f23257 H locs hf hw => ?_)
                refine n_iinc hC (k := 0) hf (by decide) (fun v23258 => [(5, .int v23258), (4, .int v22927), (3, .int x22084), (2, .int v21372), (1, .int x17095), (0, .ref t_o)]) hl d_Model_tables_101 rfl (by decide) (fun _ => rfl) (fun v23258 ls hf hl => ?_)
                refine n_goto hC 49 d_Model_tables_104 (by decide) ?_
                exact hk49 _ _ hf _ _ _ hw (lv_sub hl [0, 1, 2, 3, 4, 5] rfl)
              )
            exact hL49 N _ _ hf _ _ _ hw (lv_sub hl [0, 1, 2, 3, 4, 5] rfl)
          )
        exact hL29 N _ _ hf _ _ _ hw (lv_sub hl [0, 1, 2, 3] rfl)
      refine n_if_ne hC hf 18 d_Model_tables_11 (by decide) (fun hf => ?_) (fun hf => ?_)
      · refine n_aload_n hC hl 1 d_Model_tables_18 rfl rfl ?_
        refine n_get hC hw fg_Model_48 0 rfl rfl d_Model_tables_19 ?_
        refine n_bipush hC 33 d_Model_tables_22 (by decide) ?_
        refine n_isub hC hf d_Model_tables_24 (fun v23259 hf => ?_)
        exact hj25 _ hf _ _ _ hw (lv_sub hl [0, 1] rfl)
      · refine n_iconst hC 2 d_Model_tables_14 (by decide) ?_
        refine n_goto hC 25 d_Model_tables_15 (by decide) ?_
        exact hj25 _ hf _ _ _ hw (lv_sub hl [0, 1] rfl)
    )
  exact hL2 N _ _ hf _ _ _ hw (lv_sub hl [0, 1] rfl)
