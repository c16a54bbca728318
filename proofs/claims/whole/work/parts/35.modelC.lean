def wd_Model_beginning (g : GT) (t_o : Nat) (t_disk_a : Nat) (t_name_a : Nat) (t_size_a : Nat) (t_seed_a : Nat) (t_head_a : Nat) (t_follows_a : Nat) (t_sort_a : Nat) (t_first_a : Nat) (t_many_a : Nat) (t_scattered_a : Nat) (t_memory_a : Nat) (t_thrown : Int32) (t_sectors : Int32) (t_partitions : Int32) (t_files : Int32) (t_address : Int32) (t_start : Int32) (t_fat : Int32) (t_clusters : Int32) (t_header : Int32) (t_found : Int32) (t_kernelAt : Int32) (t_kernelSize : Int32) (t_any : Int32) (t_disk : Nat → Int32) (t_name : Nat → Int64) (t_size : Nat → Int32) (t_seed : Nat → Int32) (t_head : Nat → Int32) (t_follows : Nat → Int32) : va_W := [(t_o, .inr (7, [.int t_thrown, .int t_sectors, .ref t_disk_a, .int t_partitions, .ref t_sort_a, .ref t_first_a, .ref t_many_a, .int t_files, .ref t_name_a, .ref t_size_a, .ref t_seed_a, .ref t_scattered_a, .int t_address, .int t_start, .int t_fat, .int t_clusters, .ref t_head_a, .ref t_follows_a, .int t_header, .int t_found, .int t_kernelAt, .int t_kernelSize, .int t_any, .ref t_memory_a])), (t_disk_a, .inl (g.2.2.2.2, 307200, .inl t_disk)), (t_name_a, .inl (g.2.2.1, 12, .inr (.inl t_name))), (t_size_a, .inl (g.2.1, 12, .inl t_size)), (t_seed_a, .inl (g.2.1, 12, .inl t_seed)), (t_head_a, .inl (g.2.1, 12, .inl t_head)), (t_follows_a, .inl (g.2.1, 700, .inl t_follows))]
def f_Model_beginning_L140 (N : Nat) (t_size : Nat → Int32) (a1 : Int32) (x701 : Int32) (x702 : Nat → Int32) (j198 : (Nat → Int32) → Option ((Nat → Int32))) (t_seed : Nat → Int32) (t_name : Nat → Int64) (t_start : Int32) (t_address : Int32) (k140 : Int32 → Int32 → Option ((Nat → Int32))) (x809 : Int32) (x810 : Int32) : Option ((Nat → Int32)) :=
  ix_ 12 t_size a1 (fun (v823 : Int32) => if v823 ≤ x809 then lt_ (x701 + 6) (fun v824 => ix_ 12 t_size a1 (fun (v825 : Int32) => lt_ (v825.toInt64) (fun v826 => bd_ (f_Model_low N 4 v824 v826 x702) (fun u827 => lt_ (x701 + 10) (fun v828 => lt_ (x810 ^^^ (-1)) (fun v829 => lt_ (v829.toInt64) (fun v830 => bd_ (f_Model_low N 4 v828 v830 u827) (fun u831 => j198 u831)))))))) else bd_ (f_Model_byteOf t_size a1 t_seed x809 t_name t_start t_address) (fun u832 => bd_ (f_Model_goesOn N x810 u832) (fun u833 => lt_ (x809 + 1) (fun v834 => k140 v834 u833))))
def f_Model_beginning_L47 (N : Nat) (t_size : Nat → Int32) (a1 : Int32) (j198 : (Nat → Int32) → Option ((Nat → Int32))) (t_seed : Nat → Int32) (t_name : Nat → Int64) (t_start : Int32) (t_address : Int32) (t_head : Nat → Int32) (t_fat : Int32) (t_follows : Nat → Int32) (k47 : Int32 → Int32 → (Nat → Int32) → Option ((Nat → Int32))) (x700 : Int32) (x701 : Int32) (x702 : Nat → Int32) : Option ((Nat → Int32)) :=
  ix_ 12 t_size a1 (fun (v795 : Int32) => bd_ (f_Model_needs v795) (fun u796 => if u796 ≤ x700 then lp_ (fun _ _ => none) (f_Model_beginning_L140 N t_size a1 x701 x702 j198 t_seed t_name t_start t_address) N 0 (-1) else lt_ (fun (x839 : Int32) => lt_ (fun (x844 : Int32) (x845 : Nat → Int32) => lt_ (x844 + 4) (fun v846 => lt_ (x844 + 4) (fun v847 => bd_ (f_Model_lowAt N 2 v847 x845) (fun u848 => lt_ (u848 + 1) (fun v849 => bd_ (f_Model_low N 2 v846 v849 x845) (fun u850 => lt_ (x700 + 1) (fun v851 => k47 v851 x844 u850))))))) (fun (j111 : Int32 → (Nat → Int32) → Option ((Nat → Int32))) => if x839 = 0 then j111 x701 x702 else lt_ (x701 + 6) (fun v852 => bd_ (f_Model_sectorOf N t_head a1 x700 t_start t_fat t_follows) (fun u853 => lt_ (u853.toInt64) (fun v854 => bd_ (f_Model_low N 4 v852 v854 x702) (fun u855 => j111 v852 u855)))))) (fun (j88 : Int32 → Option ((Nat → Int32))) => lt_ (j88 1) (fun (j83 : Option ((Nat → Int32))) => if x700 = 0 then j83 else bd_ (f_Model_sectorOf N t_head a1 x700 t_start t_fat t_follows) (fun u876 => lt_ (x700 - 1) (fun v877 => bd_ (f_Model_sectorOf N t_head a1 v877 t_start t_fat t_follows) (fun u878 => lt_ (u878 + 1) (fun v879 => if u876 = v879 then j88 0 else j83))))))))
def f_Model_beginning (N : Nat) (t_disk : Nat → Int32) (t_sectors : Int32) (a1 : Int32) (t_size : Nat → Int32) (t_head : Nat → Int32) (t_start : Int32) (t_fat : Int32) (t_follows : Nat → Int32) (t_seed : Nat → Int32) (t_name : Nat → Int64) (t_address : Int32) : Option ((Nat → Int32)) :=
  up_b 307200 t_disk 0 (-21) (fun (f310 : Nat → Int32) => up_b 307200 f310 1 62 (fun (f311 : Nat → Int32) => lt_ (fun (x595 : Nat → Int32) => bd_ (f_Model_word 0 x595 446 0 2 0) (fun u596 => bd_ (f_Model_word 238 u596 450 255 255 255) (fun u597 => bd_ (f_Model_low N 4 454 1 u597) (fun u598 => lt_ (t_sectors - 1) (fun v599 => lt_ (v599.toInt64) (fun v600 => bd_ (f_Model_low N 4 458 v600 u598) (fun u601 => up_b 307200 u601 510 85 (fun (f602 : Nat → Int32) => up_b 307200 f602 511 (-86) (fun (f603 : Nat → Int32) => some (f603)))))))))) (fun (j198 : (Nat → Int32) → Option ((Nat → Int32))) => if a1 < 0 then j198 f311 else ix_ 12 t_size a1 (fun (v604 : Int32) => if v604 ≤ 0 then j198 f311 else bd_ (f_Model_runs N t_size a1 t_head t_start t_fat t_follows) (fun u605 => lt_ (u605.toInt8.toInt32) (fun v606 => up_b 307200 f311 64 v606 (fun (f607 : Nat → Int32) => lp_ (fun _ _ _ => none) (f_Model_beginning_L47 N t_size a1 j198 t_seed t_name t_start t_address t_head t_fat t_follows) N 0 59 f607)))))))
def rm_Model_beginning : Room := { frames := 2, cells := 0, slots := 0, locals := 47 }
set_option maxHeartbeats 4000000 in
set_option maxRecDepth 100000 in
theorem c_Model_beginning (l : Launch) (g : GT) (E : (Nat → Prop) → State → Prop) (hEe : Ee E) (t_o : Nat) (t_disk_a : Nat) (t_name_a : Nat) (t_size_a : Nat) (t_seed_a : Nat) (t_head_a : Nat) (t_follows_a : Nat) (t_sort_a : Nat) (t_first_a : Nat) (t_many_a : Nat) (t_scattered_a : Nat) (t_memory_a : Nat) (t_thrown : Int32) (t_sectors : Int32) (t_partitions : Int32) (t_files : Int32) (t_address : Int32) (t_start : Int32) (t_fat : Int32) (t_clusters : Int32) (t_header : Int32) (t_found : Int32) (t_kernelAt : Int32) (t_kernelSize : Int32) (t_any : Int32) (t_disk : Nat → Int32) (t_name : Nat → Int64) (t_size : Nat → Int32) (t_seed : Nat → Int32) (t_head : Nat → Int32) (t_follows : Nat → Int32) (a1 : Int32) (N : Nat) (z : (Nat → Int32)) (hf : f_Model_beginning N t_disk t_sectors a1 t_size t_head t_start t_fat t_follows t_seed t_name t_address = some z) : Cg l g E y_Model_beginning ws_Model_beginning rm_Model_beginning [.ref t_o, .int a1] (wd_Model_beginning g t_o t_disk_a t_name_a t_size_a t_seed_a t_head_a t_follows_a t_sort_a t_first_a t_many_a t_scattered_a t_memory_a t_thrown t_sectors t_partitions t_files t_address t_start t_fat t_clusters t_header t_found t_kernelAt t_kernelSize t_any t_disk t_name t_size t_seed t_head t_follows) none (wd_Model_beginning g t_o t_disk_a t_name_a t_size_a t_seed_a t_head_a t_follows_a t_sort_a t_first_a t_many_a t_scattered_a t_memory_a t_thrown t_sectors t_partitions t_files t_address t_start t_fat t_clusters t_header t_found t_kernelAt t_kernelSize t_any z t_name t_size t_seed t_head t_follows) := by
  refine Ct.ofV hEe good_W (by decide) rfl (Nat.le_of_ble_eq_true rfl) ?_
  intro p e s m args below meth c A ls Q hC hw hl hret
  have hC : CX p m c b_Model_beginning 5 s args Wall R_Model g.1 classes (tK g) E A := hC
  have hl : lv_has ls 5 [(0, .ref t_o), (1, .int a1)] := hl
  unfold f_Model_beginning at hf
  refine n_aload_n hC hl 0 d_Model_beginning_0 rfl rfl ?_
  refine n_get hC hw fg_Model_8 0 rfl rfl d_Model_beginning_1 ?_
  refine n_iconst hC 0 d_Model_beginning_4 (by decide) ?_
  refine n_bipush hC (-21) d_Model_beginning_5 (by decide) ?_
  refine n_bast hC hw hf 1 3 (fun f310 => wd_Model_beginning g t_o t_disk_a t_name_a t_size_a t_seed_a t_head_a t_follows_a t_sort_a t_first_a t_many_a t_scattered_a t_memory_a t_thrown t_sectors t_partitions t_files t_address t_start t_fat t_clusters t_header t_found t_kernelAt t_kernelSize t_any f310 t_name t_size t_seed t_head t_follows) rfl rfl d_Model_beginning_7 (fun _ => rfl) (fun f310 H locs hf hw => ?_)
  refine n_aload_n hC hl 0 d_Model_beginning_8 rfl rfl ?_
  refine n_get hC hw fg_Model_8 0 rfl rfl d_Model_beginning_9 ?_
  refine n_iconst hC 1 d_Model_beginning_12 (by decide) ?_
  refine n_bipush hC 62 d_Model_beginning_13 (by decide) ?_
  refine n_bast hC hw hf 1 3 (fun f311 => wd_Model_beginning g t_o t_disk_a t_name_a t_size_a t_seed_a t_head_a t_follows_a t_sort_a t_first_a t_many_a t_scattered_a t_memory_a t_thrown t_sectors t_partitions t_files t_address t_start t_fat t_clusters t_header t_found t_kernelAt t_kernelSize t_any f311 t_name t_size t_seed t_head t_follows) rfl rfl d_Model_beginning_15 (fun _ => rfl) (fun f311 H locs hf hw => ?_)
  refine n_iload_n hC hl 1 d_Model_beginning_16 rfl rfl ?_
  refine jn1 (fun (x595 : Nat → Int32) => ∀ (H : Heap) (locs : List Loc) (ls : Array Slot), WS g.1 classes A s.heap H locs (wd_Model_beginning g t_o t_disk_a t_name_a t_size_a t_seed_a t_head_a t_follows_a t_sort_a t_first_a t_many_a t_scattered_a t_memory_a t_thrown t_sectors t_partitions t_files t_address t_start t_fat t_clusters t_header t_found t_kernelAt t_kernelSize t_any x595 t_name t_size t_seed t_head t_follows) → lv_has ls 5 [(0, .ref t_o)] → W p l e rm_Model_beginning s m args below meth c H locs 0 0 Q (F0 m 198 ls [])) hf (fun x595 hf H locs ls hw hl => ?_) (fun j198 hj198 hf => ?_)
  · refine n_aload_n hC hl 0 d_Model_beginning_198 rfl rfl ?_
    refine n_sipush hC 446 d_Model_beginning_199 (by decide) ?_
    refine n_iconst hC 0 d_Model_beginning_202 (by decide) ?_
    refine n_iconst hC 0 d_Model_beginning_203 (by decide) ?_
    refine n_iconst hC 2 d_Model_beginning_204 (by decide) ?_
    refine n_iconst hC 0 d_Model_beginning_205 (by decide) ?_
    obtain ⟨u596, hu596, hf⟩ := bd_s hf
    refine n_callVv hC hw fc_Model_169 (c_Model_word l g E hEe t_o t_disk_a t_sort_a t_first_a t_many_a t_name_a t_size_a t_seed_a t_scattered_a t_head_a t_follows_a t_memory_a t_thrown t_sectors t_partitions t_files t_address t_start t_fat t_clusters t_header t_found t_kernelAt t_kernelSize t_any x595 446 0 0 2 0 u596 hu596) [0, 1] (wd_Model_beginning g t_o t_disk_a t_name_a t_size_a t_seed_a t_head_a t_follows_a t_sort_a t_first_a t_many_a t_scattered_a t_memory_a t_thrown t_sectors t_partitions t_files t_address t_start t_fat t_clusters t_header t_found t_kernelAt t_kernelSize t_any u596 t_name t_size t_seed t_head t_follows) 0 rfl ⟨rfl, rfl⟩ ⟨Nat.le_of_ble_eq_true rfl, Nat.le_of_ble_eq_true rfl⟩ rfl (At_.cons rfl (At_.cons rfl At_.nil)) (At_.cons rfl (At_.cons rfl At_.nil)) (Sm_.keep (Sm_.upd rfl (Sm_.keep (Sm_.keep (Sm_.keep (Sm_.keep (Sm_.keep Sm_.nil))))))) rfl hl.1 (Nat.le_of_ble_eq_true rfl) ⟨Nat.zero_le _, Nat.zero_le _⟩ d_Model_beginning_206 (fun H locs hw => ?_) rfl
    refine n_aload_n hC hl 0 d_Model_beginning_209 rfl rfl ?_
    refine n_sipush hC 450 d_Model_beginning_210 (by decide) ?_
    refine n_sipush hC 238 d_Model_beginning_213 (by decide) ?_
    refine n_sipush hC 255 d_Model_beginning_216 (by decide) ?_
    refine n_sipush hC 255 d_Model_beginning_219 (by decide) ?_
    refine n_sipush hC 255 d_Model_beginning_222 (by decide) ?_
    obtain ⟨u597, hu597, hf⟩ := bd_s hf
    refine n_callVv hC hw fc_Model_169 (c_Model_word l g E hEe t_o t_disk_a t_sort_a t_first_a t_many_a t_name_a t_size_a t_seed_a t_scattered_a t_head_a t_follows_a t_memory_a t_thrown t_sectors t_partitions t_files t_address t_start t_fat t_clusters t_header t_found t_kernelAt t_kernelSize t_any u596 450 238 255 255 255 u597 hu597) [0, 1] (wd_Model_beginning g t_o t_disk_a t_name_a t_size_a t_seed_a t_head_a t_follows_a t_sort_a t_first_a t_many_a t_scattered_a t_memory_a t_thrown t_sectors t_partitions t_files t_address t_start t_fat t_clusters t_header t_found t_kernelAt t_kernelSize t_any u597 t_name t_size t_seed t_head t_follows) 0 rfl ⟨rfl, rfl⟩ ⟨Nat.le_of_ble_eq_true rfl, Nat.le_of_ble_eq_true rfl⟩ rfl (At_.cons rfl (At_.cons rfl At_.nil)) (At_.cons rfl (At_.cons rfl At_.nil)) (Sm_.keep (Sm_.upd rfl (Sm_.keep (Sm_.keep (Sm_.keep (Sm_.keep (Sm_.keep Sm_.nil))))))) rfl hl.1 (Nat.le_of_ble_eq_true rfl) ⟨Nat.zero_le _, Nat.zero_le _⟩ d_Model_beginning_225 (fun H locs hw => ?_) rfl
    refine n_aload_n hC hl 0 d_Model_beginning_228 rfl rfl ?_
    refine n_sipush hC 454 d_Model_beginning_229 (by decide) ?_
    refine n_iconst hC 4 d_Model_beginning_232 (by decide) ?_
    refine n_lconst hC 1 d_Model_beginning_233 (by decide) ?_
    obtain ⟨u598, hu598, hf⟩ := bd_s hf
    refine n_callVv hC hw fc_Model_158 (c_Model_low l g E hEe t_o t_disk_a t_sort_a t_first_a t_many_a t_name_a t_size_a t_seed_a t_scattered_a t_head_a t_follows_a t_memory_a t_thrown t_sectors t_partitions t_files t_address t_start t_fat t_clusters t_header t_found t_kernelAt t_kernelSize t_any u597 454 4 1 N u598 hu598) [0, 1] (wd_Model_beginning g t_o t_disk_a t_name_a t_size_a t_seed_a t_head_a t_follows_a t_sort_a t_first_a t_many_a t_scattered_a t_memory_a t_thrown t_sectors t_partitions t_files t_address t_start t_fat t_clusters t_header t_found t_kernelAt t_kernelSize t_any u598 t_name t_size t_seed t_head t_follows) 0 rfl ⟨rfl, rfl⟩ ⟨Nat.le_of_ble_eq_true rfl, Nat.le_of_ble_eq_true rfl⟩ rfl (At_.cons rfl (At_.cons rfl At_.nil)) (At_.cons rfl (At_.cons rfl At_.nil)) (Sm_.keep (Sm_.upd rfl (Sm_.keep (Sm_.keep (Sm_.keep (Sm_.keep (Sm_.keep Sm_.nil))))))) rfl hl.1 (Nat.le_of_ble_eq_true rfl) ⟨Nat.zero_le _, Nat.zero_le _⟩ d_Model_beginning_234 (fun H locs hw => ?_) rfl
    refine n_aload_n hC hl 0 d_Model_beginning_237 rfl rfl ?_
    refine n_sipush hC 458 d_Model_beginning_238 (by decide) ?_
    refine n_iconst hC 4 d_Model_beginning_241 (by decide) ?_
    refine n_aload_n hC hl 0 d_Model_beginning_242 rfl rfl ?_
    refine n_get hC hw fg_Model_48 0 rfl rfl d_Model_beginning_243 ?_
    refine n_iconst hC 1 d_Model_beginning_246 (by decide) ?_
    refine n_isub hC hf d_Model_beginning_247 (fun v599 hf => ?_)
    refine n_i2l hC hf d_Model_beginning_248 (fun v600 hf => ?_)
    obtain ⟨u601, hu601, hf⟩ := bd_s hf
    refine n_callVv hC hw fc_Model_158 (c_Model_low l g E hEe t_o t_disk_a t_sort_a t_first_a t_many_a t_name_a t_size_a t_seed_a t_scattered_a t_head_a t_follows_a t_memory_a t_thrown t_sectors t_partitions t_files t_address t_start t_fat t_clusters t_header t_found t_kernelAt t_kernelSize t_any u598 458 4 v600 N u601 hu601) [0, 1] (wd_Model_beginning g t_o t_disk_a t_name_a t_size_a t_seed_a t_head_a t_follows_a t_sort_a t_first_a t_many_a t_scattered_a t_memory_a t_thrown t_sectors t_partitions t_files t_address t_start t_fat t_clusters t_header t_found t_kernelAt t_kernelSize t_any u601 t_name t_size t_seed t_head t_follows) 0 rfl ⟨rfl, rfl⟩ ⟨Nat.le_of_ble_eq_true rfl, Nat.le_of_ble_eq_true rfl⟩ rfl (At_.cons rfl (At_.cons rfl At_.nil)) (At_.cons rfl (At_.cons rfl At_.nil)) (Sm_.keep (Sm_.upd rfl (Sm_.keep (Sm_.keep (Sm_.keep (Sm_.keep (Sm_.keep Sm_.nil))))))) rfl hl.1 (Nat.le_of_ble_eq_true rfl) ⟨Nat.zero_le _, Nat.zero_le _⟩ d_Model_beginning_249 (fun H locs hw => ?_) rfl
    refine n_aload_n hC hl 0 d_Model_beginning_252 rfl rfl ?_
    refine n_get hC hw fg_Model_8 0 rfl rfl d_Model_beginning_253 ?_
    refine n_sipush hC 510 d_Model_beginning_256 (by decide) ?_
    refine n_bipush hC 85 d_Model_beginning_259 (by decide) ?_
    refine n_bast hC hw hf 1 3 (fun f602 => wd_Model_beginning g t_o t_disk_a t_name_a t_size_a t_seed_a t_head_a t_follows_a t_sort_a t_first_a t_many_a t_scattered_a t_memory_a t_thrown t_sectors t_partitions t_files t_address t_start t_fat t_clusters t_header t_found t_kernelAt t_kernelSize t_any f602 t_name t_size t_seed t_head t_follows) rfl rfl d_Model_beginning_261 (fun _ => rfl) (fun f602 H locs hf hw => ?_)
    refine n_aload_n hC hl 0 d_Model_beginning_262 rfl rfl ?_
    refine n_get hC hw fg_Model_8 0 rfl rfl d_Model_beginning_263 ?_
    refine n_sipush hC 511 d_Model_beginning_266 (by decide) ?_
    refine n_bipush hC (-86) d_Model_beginning_269 (by decide) ?_
    refine n_bast hC hw hf 1 3 (fun f603 => wd_Model_beginning g t_o t_disk_a t_name_a t_size_a t_seed_a t_head_a t_follows_a t_sort_a t_first_a t_many_a t_scattered_a t_memory_a t_thrown t_sectors t_partitions t_files t_address t_start t_fat t_clusters t_header t_found t_kernelAt t_kernelSize t_any f603 t_name t_size t_seed t_head t_follows) rfl rfl d_Model_beginning_271 (fun _ => rfl) (fun f603 H locs hf hw => ?_)
    cases hf
    exact hret _ _ _ _ hw d_Model_beginning_272
  refine n_if_lt hC hf 198 d_Model_beginning_17 (by decide) (fun hf => ?_) (fun hf => ?_)
  · exact hj198 _ hf _ _ _ hw (lv_sub hl [0] rfl)
  · refine n_aload_n hC hl 0 d_Model_beginning_20 rfl rfl ?_
    refine n_get hC hw fg_Model_28 0 rfl rfl d_Model_beginning_21 ?_
    refine n_iload_n hC hl 1 d_Model_beginning_24 rfl rfl ?_
    refine n_iald hC hw hf 3 0 rfl rfl d_Model_beginning_25 (fun v604 hf => ?_)
    refine n_if_le hC hf 198 d_Model_beginning_26 (by decide) (fun hf => ?_) (fun hf => ?_)
    · exact hj198 _ hf _ _ _ hw (lv_sub hl [0] rfl)
    · refine n_aload_n hC hl 0 d_Model_beginning_29 rfl rfl ?_
      refine n_get hC hw fg_Model_8 0 rfl rfl d_Model_beginning_30 ?_
      refine n_bipush hC 64 d_Model_beginning_33 (by decide) ?_
      refine n_aload_n hC hl 0 d_Model_beginning_35 rfl rfl ?_
      refine n_iload_n hC hl 1 d_Model_beginning_36 rfl rfl ?_
      obtain ⟨u605, hu605, hf⟩ := bd_s hf
      refine n_callVi hC hw fc_Model_145 (c_Model_runs l g E hEe t_o t_size_a t_head_a t_follows_a t_disk_a t_sort_a t_first_a t_many_a t_name_a t_seed_a t_scattered_a t_memory_a t_thrown t_sectors t_partitions t_files t_address t_start t_fat t_clusters t_header t_found t_kernelAt t_kernelSize t_any t_size t_head t_follows a1 N u605 hu605) [0, 3, 5, 6] (wd_Model_beginning g t_o t_disk_a t_name_a t_size_a t_seed_a t_head_a t_follows_a t_sort_a t_first_a t_many_a t_scattered_a t_memory_a t_thrown t_sectors t_partitions t_files t_address t_start t_fat t_clusters t_header t_found t_kernelAt t_kernelSize t_any f311 t_name t_size t_seed t_head t_follows) 0 rfl ⟨rfl, rfl⟩ ⟨Nat.le_of_ble_eq_true rfl, Nat.le_of_ble_eq_true rfl⟩ rfl (At_.cons rfl (At_.cons rfl (At_.cons rfl (At_.cons rfl At_.nil)))) (At_.cons rfl (At_.cons rfl (At_.cons rfl (At_.cons rfl At_.nil)))) Sm_.refl rfl hl.1 (Nat.le_of_ble_eq_true rfl) ⟨Nat.zero_le _, Nat.zero_le _⟩ d_Model_beginning_37 (fun H locs hw => ?_) rfl
      refine n_i2b hC hf d_Model_beginning_40 (fun v606 hf => ?_)
      refine n_bast hC hw hf 1 3 (fun f607 => wd_Model_beginning g t_o t_disk_a t_name_a t_size_a t_seed_a t_head_a t_follows_a t_sort_a t_first_a t_many_a t_scattered_a t_memory_a t_thrown t_sectors t_partitions t_files t_address t_start t_fat t_clusters t_header t_found t_kernelAt t_kernelSize t_any f607 t_name t_size t_seed t_head t_follows) rfl rfl d_Model_beginning_41 (fun _ => rfl) (fun f607 H locs hf hw => ?_)
      refine n_bipush hC 59 d_Model_beginning_42 (by decide) ?_
      refine n_istore_n hC [(2, .int 59), (0, .ref t_o), (1, .int a1)] hl d_Model_beginning_44 rfl (by decide) rfl (fun ls hl => ?_)
      refine n_iconst hC 0 d_Model_beginning_45 (by decide) ?_
      refine n_istore_n hC [(3, .int 0), (2, .int 59), (0, .ref t_o), (1, .int a1)] hl d_Model_beginning_46 rfl (by decide) rfl (fun ls hl => ?_)
      have hL47 := lw3 (B := f_Model_beginning_L47 N t_size a1 j198 t_seed t_name t_start t_address t_head t_fat t_follows) (z := z) (fun (x700 : Int32) (x701 : Int32) (x702 : Nat → Int32) => ∀ (H : Heap) (locs : List Loc) (ls : Array Slot), WS g.1 classes A s.heap H locs (wd_Model_beginning g t_o t_disk_a t_name_a t_size_a t_seed_a t_head_a t_follows_a t_sort_a t_first_a t_many_a t_scattered_a t_memory_a t_thrown t_sectors t_partitions t_files t_address t_start t_fat t_clusters t_header t_found t_kernelAt t_kernelSize t_any x702 t_name t_size t_seed t_head t_follows) → lv_has ls 5 [(3, .int x700), (2, .int x701), (0, .ref t_o), (1, .int a1)] → W p l e rm_Model_beginning s m args below meth c H locs 0 0 Q (F0 m 47 ls [])) (by
        intro k47 hk47 x700 x701 x702 hf H locs ls hw hl
        unfold f_Model_beginning_L47 at hf
        refine n_iload_n hC hl 0 d_Model_beginning_47 rfl rfl ?_
        refine n_aload_n hC hl 2 d_Model_beginning_48 rfl rfl ?_
        refine n_get hC hw fg_Model_28 0 rfl rfl d_Model_beginning_49 ?_
        refine n_iload_n hC hl 3 d_Model_beginning_52 rfl rfl ?_
        refine n_iald hC hw hf 3 0 rfl rfl d_Model_beginning_53 (fun v795 hf => ?_)
        obtain ⟨u796, hu796, hf⟩ := bd_s hf
        refine n_callSi hC hw fc_Model_112 (c_Model_needs l g E hEe v795 u796 hu796) [] (wd_Model_beginning g t_o t_disk_a t_name_a t_size_a t_seed_a t_head_a t_follows_a t_sort_a t_first_a t_many_a t_scattered_a t_memory_a t_thrown t_sectors t_partitions t_files t_address t_start t_fat t_clusters t_header t_found t_kernelAt t_kernelSize t_any x702 t_name t_size t_seed t_head t_follows) ⟨rfl, rfl⟩ ⟨Nat.le_of_ble_eq_true rfl, Nat.le_of_ble_eq_true rfl⟩ rfl At_.nil At_.nil Sm_.refl rfl hl.1 (Nat.le_of_ble_eq_true rfl) ⟨Nat.zero_le _, Nat.zero_le _⟩ d_Model_beginning_54 (fun H locs hw => ?_) rfl
        refine n_icmp_ge hC hf 135 d_Model_beginning_57 (by decide) (fun hf => ?_) (fun hf => ?_)
        · refine n_iconst hC (-1) d_Model_beginning_135 (by decide) ?_
          refine n_istore_n hC [(3, .int (-1)), (2, .int x701), (0, .ref t_o), (1, .int a1)] hl d_Model_beginning_136 rfl (by decide) rfl (fun ls hl => ?_)
          refine n_iconst hC 0 d_Model_beginning_137 (by decide) ?_
          refine n_istore hC [(4, .int 0), (3, .int (-1)), (2, .int x701), (0, .ref t_o), (1, .int a1)] hl d_Model_beginning_138 (by decide) rfl (fun ls hl => ?_)
          have hL140 := lw2 (B := f_Model_beginning_L140 N t_size a1 x701 x702 j198 t_seed t_name t_start t_address) (z := z) (fun (x809 : Int32) (x810 : Int32) => ∀ (H : Heap) (locs : List Loc) (ls : Array Slot), WS g.1 classes A s.heap H locs (wd_Model_beginning g t_o t_disk_a t_name_a t_size_a t_seed_a t_head_a t_follows_a t_sort_a t_first_a t_many_a t_scattered_a t_memory_a t_thrown t_sectors t_partitions t_files t_address t_start t_fat t_clusters t_header t_found t_kernelAt t_kernelSize t_any x702 t_name t_size t_seed t_head t_follows) → lv_has ls 5 [(4, .int x809), (3, .int x810), (2, .int x701), (0, .ref t_o), (1, .int a1)] → W p l e rm_Model_beginning s m args below meth c H locs 0 0 Q (F0 m 140 ls [])) (by
            intro k140 hk140 x809 x810 hf H locs ls hw hl
            unfold f_Model_beginning_L140 at hf
            refine n_iload hC hl 0 d_Model_beginning_140 rfl ?_
            refine n_aload_n hC hl 3 d_Model_beginning_142 rfl rfl ?_
            refine n_get hC hw fg_Model_28 0 rfl rfl d_Model_beginning_143 ?_
            refine n_iload_n hC hl 4 d_Model_beginning_146 rfl rfl ?_
            refine n_iald hC hw hf 3 0 rfl rfl d_Model_beginning_147 (fun v823 hf => ?_)
            refine n_icmp_ge hC hf 169 d_Model_beginning_148 (by decide) (fun hf => ?_) (fun hf => ?_)
            · refine n_aload_n hC hl 3 d_Model_beginning_169 rfl rfl ?_
              refine n_iload_n hC hl 2 d_Model_beginning_170 rfl rfl ?_
              refine n_bipush hC 6 d_Model_beginning_171 (by decide) ?_
              refine n_iadd hC hf d_Model_beginning_173 (fun v824 hf => ?_)
              refine n_iconst hC 4 d_Model_beginning_174 (by decide) ?_
              refine n_aload_n hC hl 3 d_Model_beginning_175 rfl rfl ?_
              refine n_get hC hw fg_Model_28 0 rfl rfl d_Model_beginning_176 ?_
              refine n_iload_n hC hl 4 d_Model_beginning_179 rfl rfl ?_
              refine n_iald hC hw hf 3 0 rfl rfl d_Model_beginning_180 (fun v825 hf => ?_)
              refine n_i2l hC hf d_Model_beginning_181 (fun v826 hf => ?_)
              obtain ⟨u827, hu827, hf⟩ := bd_s hf
              refine n_callVv hC hw fc_Model_158 (c_Model_low l g E hEe t_o t_disk_a t_sort_a t_first_a t_many_a t_name_a t_size_a t_seed_a t_scattered_a t_head_a t_follows_a t_memory_a t_thrown t_sectors t_partitions t_files t_address t_start t_fat t_clusters t_header t_found t_kernelAt t_kernelSize t_any x702 v824 4 v826 N u827 hu827) [0, 1] (wd_Model_beginning g t_o t_disk_a t_name_a t_size_a t_seed_a t_head_a t_follows_a t_sort_a t_first_a t_many_a t_scattered_a t_memory_a t_thrown t_sectors t_partitions t_files t_address t_start t_fat t_clusters t_header t_found t_kernelAt t_kernelSize t_any u827 t_name t_size t_seed t_head t_follows) 0 rfl ⟨rfl, rfl⟩ ⟨Nat.le_of_ble_eq_true rfl, Nat.le_of_ble_eq_true rfl⟩ rfl (At_.cons rfl (At_.cons rfl At_.nil)) (At_.cons rfl (At_.cons rfl At_.nil)) (Sm_.keep (Sm_.upd rfl (Sm_.keep (Sm_.keep (Sm_.keep (Sm_.keep (Sm_.keep Sm_.nil))))))) rfl hl.1 (Nat.le_of_ble_eq_true rfl) ⟨Nat.zero_le _, Nat.zero_le _⟩ d_Model_beginning_182 (fun H locs hw => ?_) rfl
              refine n_aload_n hC hl 3 d_Model_beginning_185 rfl rfl ?_
              refine n_iload_n hC hl 2 d_Model_beginning_186 rfl rfl ?_
              refine n_bipush hC 10 d_Model_beginning_187 (by decide) ?_
              refine n_iadd hC hf d_Model_beginning_189 (fun v828 hf => ?_)
              refine n_iconst hC 4 d_Model_beginning_190 (by decide) ?_
              refine n_iload_n hC hl 1 d_Model_beginning_191 rfl rfl ?_
              refine n_iconst hC (-1) d_Model_beginning_192 (by decide) ?_
              refine n_ixor hC hf d_Model_beginning_193 (fun v829 hf => ?_)
              refine n_i2l hC hf d_Model_beginning_194 (fun v830 hf => ?_)
              obtain ⟨u831, hu831, hf⟩ := bd_s hf
              refine n_callVv hC hw fc_Model_158 (c_Model_low l g E hEe t_o t_disk_a t_sort_a t_first_a t_many_a t_name_a t_size_a t_seed_a t_scattered_a t_head_a t_follows_a t_memory_a t_thrown t_sectors t_partitions t_files t_address t_start t_fat t_clusters t_header t_found t_kernelAt t_kernelSize t_any u827 v828 4 v830 N u831 hu831) [0, 1] (wd_Model_beginning g t_o t_disk_a t_name_a t_size_a t_seed_a t_head_a t_follows_a t_sort_a t_first_a t_many_a t_scattered_a t_memory_a t_thrown t_sectors t_partitions t_files t_address t_start t_fat t_clusters t_header t_found t_kernelAt t_kernelSize t_any u831 t_name t_size t_seed t_head t_follows) 0 rfl ⟨rfl, rfl⟩ ⟨Nat.le_of_ble_eq_true rfl, Nat.le_of_ble_eq_true rfl⟩ rfl (At_.cons rfl (At_.cons rfl At_.nil)) (At_.cons rfl (At_.cons rfl At_.nil)) (Sm_.keep (Sm_.upd rfl (Sm_.keep (Sm_.keep (Sm_.keep (Sm_.keep (Sm_.keep Sm_.nil))))))) rfl hl.1 (Nat.le_of_ble_eq_true rfl) ⟨Nat.zero_le _, Nat.zero_le _⟩ d_Model_beginning_195 (fun H locs hw => ?_) rfl
              exact hj198 _ hf _ _ _ hw (lv_sub hl [3] rfl)
            · refine n_iload_n hC hl 1 d_Model_beginning_151 rfl rfl ?_
              refine n_aload_n hC hl 3 d_Model_beginning_152 rfl rfl ?_
              refine n_iload_n hC hl 4 d_Model_beginning_153 rfl rfl ?_
              refine n_iload hC hl 0 d_Model_beginning_154 rfl ?_
              obtain ⟨u832, hu832, hf⟩ := bd_s hf
              refine n_callVi hC hw fc_Model_166 (c_Model_byteOf l g E hEe t_o t_name_a t_size_a t_seed_a t_disk_a t_sort_a t_first_a t_many_a t_scattered_a t_head_a t_follows_a t_memory_a t_thrown t_sectors t_partitions t_files t_address t_start t_fat t_clusters t_header t_found t_kernelAt t_kernelSize t_any t_name t_size t_seed a1 x809 u832 hu832) [0, 2, 3, 4] (wd_Model_beginning g t_o t_disk_a t_name_a t_size_a t_seed_a t_head_a t_follows_a t_sort_a t_first_a t_many_a t_scattered_a t_memory_a t_thrown t_sectors t_partitions t_files t_address t_start t_fat t_clusters t_header t_found t_kernelAt t_kernelSize t_any x702 t_name t_size t_seed t_head t_follows) 0 rfl ⟨rfl, rfl⟩ ⟨Nat.le_of_ble_eq_true rfl, Nat.le_of_ble_eq_true rfl⟩ rfl (At_.cons rfl (At_.cons rfl (At_.cons rfl (At_.cons rfl At_.nil)))) (At_.cons rfl (At_.cons rfl (At_.cons rfl (At_.cons rfl At_.nil)))) Sm_.refl rfl hl.1 (Nat.le_of_ble_eq_true rfl) ⟨Nat.zero_le _, Nat.zero_le _⟩ d_Model_beginning_156 (fun H locs hw => ?_) rfl
              obtain ⟨u833, hu833, hf⟩ := bd_s hf
              refine n_callSi hC hw fc_Model_69 (c_Model_goesOn l g E hEe x810 u832 N u833 hu833) [] (wd_Model_beginning g t_o t_disk_a t_name_a t_size_a t_seed_a t_head_a t_follows_a t_sort_a t_first_a t_many_a t_scattered_a t_memory_a t_thrown t_sectors t_partitions t_files t_address t_start t_fat t_clusters t_header t_found t_kernelAt t_kernelSize t_any x702 t_name t_size t_seed t_head t_follows) ⟨rfl, rfl⟩ ⟨Nat.le_of_ble_eq_true rfl, Nat.le_of_ble_eq_true rfl⟩ rfl At_.nil At_.nil Sm_.refl rfl hl.1 (Nat.le_of_ble_eq_true rfl) ⟨Nat.zero_le _, Nat.zero_le _⟩ d_Model_beginning_159 (fun H locs hw => ?_) rfl
              refine n_istore_n hC [(3, .int u833), (4, .int x809), (2, .int x701), (0, .ref t_o), (1, .int a1)] hl d_Model_beginning_162 rfl (by decide) rfl (fun ls hl => ?_)
              refine n_iinc hC (k := 1) hf (by decide) (fun v834 => [(4, .int v834), (3, .int u833), (2, .int x701), (0, .ref t_o), (1, .int a1)]) hl d_Model_beginning_163 rfl (by decide) (fun _ => rfl) (fun v834 ls hf hl => ?_)
              refine n_goto hC 140 d_Model_beginning_166 (by decide) ?_
              exact hk140 _ _ hf _ _ _ hw (lv_sub hl [0, 1, 2, 3, 4] rfl)
            )
          exact hL140 N _ _ hf _ _ _ hw (lv_sub hl [0, 1, 2, 3, 4] rfl)
        · refine n_iload_n hC hl 0 d_Model_beginning_60 rfl rfl ?_
          refine jn1 (fun (x839 : Int32) => ∀ (H : Heap) (locs : List Loc) (ls : Array Slot), WS g.1 classes A s.heap H locs (wd_Model_beginning g t_o t_disk_a t_name_a t_size_a t_seed_a t_head_a t_follows_a t_sort_a t_first_a t_many_a t_scattered_a t_memory_a t_thrown t_sectors t_partitions t_files t_address t_start t_fat t_clusters t_header t_found t_kernelAt t_kernelSize t_any x702 t_name t_size t_seed t_head t_follows) → lv_has ls 5 [(3, .int x700), (2, .int x701), (0, .ref t_o), (1, .int a1)] → W p l e rm_Model_beginning s m args below meth c H locs 0 0 Q (F0 m 88 ls [.int x839])) hf (fun x839 hf H locs ls hw hl => ?_) (fun j88 hj88 hf => ?_)
          · refine n_istore hC [(4, .int x839), (3, .int x700), (2, .int x701), (0, .ref t_o), (1, .int a1)] hl d_Model_beginning_88 (by decide) rfl (fun ls hl => ?_)
            refine n_iload hC hl 0 d_Model_beginning_90 rfl ?_
            refine jn2 (fun (x844 : Int32) (x845 : Nat → Int32) => ∀ (H : Heap) (locs : List Loc) (ls : Array Slot), WS g.1 classes A s.heap H locs (wd_Model_beginning g t_o t_disk_a t_name_a t_size_a t_seed_a t_head_a t_follows_a t_sort_a t_first_a t_many_a t_scattered_a t_memory_a t_thrown t_sectors t_partitions t_files t_address t_start t_fat t_clusters t_header t_found t_kernelAt t_kernelSize t_any x845 t_name t_size t_seed t_head t_follows) → lv_has ls 5 [(3, .int x700), (2, .int x844), (0, .ref t_o), (1, .int a1)] → W p l e rm_Model_beginning s m args below meth c H locs 0 0 Q (F0 m 111 ls [])) hf (fun x844 x845 hf H locs ls hw hl => ?_) (fun j111 hj111 hf => ?_)
            · refine n_aload_n hC hl 2 d_Model_beginning_111 rfl rfl ?_
              refine n_iload_n hC hl 1 d_Model_beginning_112 rfl rfl ?_
              refine n_iconst hC 4 d_Model_beginning_113 (by decide) ?_
              refine n_iadd hC hf d_Model_beginning_114 (fun v846 hf => ?_)
              refine n_iconst hC 2 d_Model_beginning_115 (by decide) ?_
              refine n_aload_n hC hl 2 d_Model_beginning_116 rfl rfl ?_
              refine n_iload_n hC hl 1 d_Model_beginning_117 rfl rfl ?_
              refine n_iconst hC 4 d_Model_beginning_118 (by decide) ?_
              refine n_iadd hC hf d_Model_beginning_119 (fun v847 hf => ?_)
              refine n_iconst hC 2 d_Model_beginning_120 (by decide) ?_
              obtain ⟨u848, hu848, hf⟩ := bd_s hf
              refine n_callVl hC hw fc_Model_162 (c_Model_lowAt l g E hEe t_o t_disk_a t_sort_a t_first_a t_many_a t_name_a t_size_a t_seed_a t_scattered_a t_head_a t_follows_a t_memory_a t_thrown t_sectors t_partitions t_files t_address t_start t_fat t_clusters t_header t_found t_kernelAt t_kernelSize t_any x845 v847 2 N u848 hu848) [0, 1] (wd_Model_beginning g t_o t_disk_a t_name_a t_size_a t_seed_a t_head_a t_follows_a t_sort_a t_first_a t_many_a t_scattered_a t_memory_a t_thrown t_sectors t_partitions t_files t_address t_start t_fat t_clusters t_header t_found t_kernelAt t_kernelSize t_any x845 t_name t_size t_seed t_head t_follows) 0 rfl ⟨rfl, rfl⟩ ⟨Nat.le_of_ble_eq_true rfl, Nat.le_of_ble_eq_true rfl⟩ rfl (At_.cons rfl (At_.cons rfl At_.nil)) (At_.cons rfl (At_.cons rfl At_.nil)) Sm_.refl rfl hl.1 (Nat.le_of_ble_eq_true rfl) ⟨Nat.zero_le _, Nat.zero_le _⟩ d_Model_beginning_121 (fun H locs hw => ?_) rfl
              refine n_lconst hC 1 d_Model_beginning_124 (by decide) ?_
              refine n_ladd hC hf d_Model_beginning_125 (fun v849 hf => ?_)
              obtain ⟨u850, hu850, hf⟩ := bd_s hf
              refine n_callVv hC hw fc_Model_158 (c_Model_low l g E hEe t_o t_disk_a t_sort_a t_first_a t_many_a t_name_a t_size_a t_seed_a t_scattered_a t_head_a t_follows_a t_memory_a t_thrown t_sectors t_partitions t_files t_address t_start t_fat t_clusters t_header t_found t_kernelAt t_kernelSize t_any x845 v846 2 v849 N u850 hu850) [0, 1] (wd_Model_beginning g t_o t_disk_a t_name_a t_size_a t_seed_a t_head_a t_follows_a t_sort_a t_first_a t_many_a t_scattered_a t_memory_a t_thrown t_sectors t_partitions t_files t_address t_start t_fat t_clusters t_header t_found t_kernelAt t_kernelSize t_any u850 t_name t_size t_seed t_head t_follows) 0 rfl ⟨rfl, rfl⟩ ⟨Nat.le_of_ble_eq_true rfl, Nat.le_of_ble_eq_true rfl⟩ rfl (At_.cons rfl (At_.cons rfl At_.nil)) (At_.cons rfl (At_.cons rfl At_.nil)) (Sm_.keep (Sm_.upd rfl (Sm_.keep (Sm_.keep (Sm_.keep (Sm_.keep (Sm_.keep Sm_.nil))))))) rfl hl.1 (Nat.le_of_ble_eq_true rfl) ⟨Nat.zero_le _, Nat.zero_le _⟩ d_Model_beginning_126 (fun H locs hw => ?_) rfl
              refine n_iinc hC (k := 0) hf (by decide) (fun v851 => [(3, .int v851), (2, .int x844), (0, .ref t_o), (1, .int a1)]) hl d_Model_beginning_129 rfl (by decide) (fun _ => rfl) (fun v851 ls hf hl => ?_)
              refine n_goto hC 47 d_Model_beginning_132 (by decide) ?_
              exact hk47 _ _ _ hf _ _ _ hw (lv_sub hl [0, 1, 2, 3] rfl)
            refine n_if_eq hC hf 111 d_Model_beginning_92 (by decide) (fun hf => ?_) (fun hf => ?_)
            · exact hj111 _ _ hf _ _ _ hw (lv_sub hl [1, 2, 3, 4] rfl)
            · refine n_iinc hC (k := 2) hf (by decide) (fun v852 => [(2, .int v852), (4, .int x839), (3, .int x700), (0, .ref t_o), (1, .int a1)]) hl d_Model_beginning_95 rfl (by decide) (fun _ => rfl) (fun v852 ls hf hl => ?_)
              refine n_aload_n hC hl 3 d_Model_beginning_98 rfl rfl ?_
              refine n_iload_n hC hl 0 d_Model_beginning_99 rfl rfl ?_
              refine n_iconst hC 4 d_Model_beginning_100 (by decide) ?_
              refine n_aload_n hC hl 3 d_Model_beginning_101 rfl rfl ?_
              refine n_iload_n hC hl 4 d_Model_beginning_102 rfl rfl ?_
              refine n_iload_n hC hl 2 d_Model_beginning_103 rfl rfl ?_
              obtain ⟨u853, hu853, hf⟩ := bd_s hf
              refine n_callVi hC hw fc_Model_124 (c_Model_sectorOf l g E hEe t_o t_head_a t_follows_a t_disk_a t_sort_a t_first_a t_many_a t_name_a t_size_a t_seed_a t_scattered_a t_memory_a t_thrown t_sectors t_partitions t_files t_address t_start t_fat t_clusters t_header t_found t_kernelAt t_kernelSize t_any t_head t_follows a1 x700 N u853 hu853) [0, 5, 6] (wd_Model_beginning g t_o t_disk_a t_name_a t_size_a t_seed_a t_head_a t_follows_a t_sort_a t_first_a t_many_a t_scattered_a t_memory_a t_thrown t_sectors t_partitions t_files t_address t_start t_fat t_clusters t_header t_found t_kernelAt t_kernelSize t_any x702 t_name t_size t_seed t_head t_follows) 0 rfl ⟨rfl, rfl⟩ ⟨Nat.le_of_ble_eq_true rfl, Nat.le_of_ble_eq_true rfl⟩ rfl (At_.cons rfl (At_.cons rfl (At_.cons rfl At_.nil))) (At_.cons rfl (At_.cons rfl (At_.cons rfl At_.nil))) Sm_.refl rfl hl.1 (Nat.le_of_ble_eq_true rfl) ⟨Nat.zero_le _, Nat.zero_le _⟩ d_Model_beginning_104 (fun H locs hw => ?_) rfl
              refine n_i2l hC hf d_Model_beginning_107 (fun v854 hf => ?_)
              obtain ⟨u855, hu855, hf⟩ := bd_s hf
              refine n_callVv hC hw fc_Model_158 (c_Model_low l g E hEe t_o t_disk_a t_sort_a t_first_a t_many_a t_name_a t_size_a t_seed_a t_scattered_a t_head_a t_follows_a t_memory_a t_thrown t_sectors t_partitions t_files t_address t_start t_fat t_clusters t_header t_found t_kernelAt t_kernelSize t_any x702 v852 4 v854 N u855 hu855) [0, 1] (wd_Model_beginning g t_o t_disk_a t_name_a t_size_a t_seed_a t_head_a t_follows_a t_sort_a t_first_a t_many_a t_scattered_a t_memory_a t_thrown t_sectors t_partitions t_files t_address t_start t_fat t_clusters t_header t_found t_kernelAt t_kernelSize t_any u855 t_name t_size t_seed t_head t_follows) 0 rfl ⟨rfl, rfl⟩ ⟨Nat.le_of_ble_eq_true rfl, Nat.le_of_ble_eq_true rfl⟩ rfl (At_.cons rfl (At_.cons rfl At_.nil)) (At_.cons rfl (At_.cons rfl At_.nil)) (Sm_.keep (Sm_.upd rfl (Sm_.keep (Sm_.keep (Sm_.keep (Sm_.keep (Sm_.keep Sm_.nil))))))) rfl hl.1 (Nat.le_of_ble_eq_true rfl) ⟨Nat.zero_le _, Nat.zero_le _⟩ d_Model_beginning_108 (fun H locs hw => ?_) rfl
              exact hj111 _ _ hf _ _ _ hw (lv_sub hl [2, 0, 3, 4] rfl)
          refine jn0 (∀ (H : Heap) (locs : List Loc) (ls : Array Slot), WS g.1 classes A s.heap H locs (wd_Model_beginning g t_o t_disk_a t_name_a t_size_a t_seed_a t_head_a t_follows_a t_sort_a t_first_a t_many_a t_scattered_a t_memory_a t_thrown t_sectors t_partitions t_files t_address t_start t_fat t_clusters t_header t_found t_kernelAt t_kernelSize t_any x702 t_name t_size t_seed t_head t_follows) → lv_has ls 5 [(3, .int x700), (2, .int x701), (0, .ref t_o), (1, .int a1)] → W p l e rm_Model_beginning s m args below meth c H locs 0 0 Q (F0 m 83 ls [])) hf (fun hf H locs ls hw hl => ?_) (fun j83 hj83 hf => ?_)
          · refine n_iconst hC 1 d_Model_beginning_83 (by decide) ?_
            refine n_goto hC 88 d_Model_beginning_84 (by decide) ?_
            exact hj88 _ hf _ _ _ hw (lv_sub hl [0, 1, 2, 3] rfl)
          refine n_if_eq hC hf 83 d_Model_beginning_61 (by decide) (fun hf => ?_) (fun hf => ?_)
          · exact hj83 hf _ _ _ hw (lv_sub hl [0, 1, 2, 3] rfl)
          · refine n_aload_n hC hl 2 d_Model_beginning_64 rfl rfl ?_
            refine n_iload_n hC hl 3 d_Model_beginning_65 rfl rfl ?_
            refine n_iload_n hC hl 0 d_Model_beginning_66 rfl rfl ?_
            obtain ⟨u876, hu876, hf⟩ := bd_s hf
            refine n_callVi hC hw fc_Model_124 (c_Model_sectorOf l g E hEe t_o t_head_a t_follows_a t_disk_a t_sort_a t_first_a t_many_a t_name_a t_size_a t_seed_a t_scattered_a t_memory_a t_thrown t_sectors t_partitions t_files t_address t_start t_fat t_clusters t_header t_found t_kernelAt t_kernelSize t_any t_head t_follows a1 x700 N u876 hu876) [0, 5, 6] (wd_Model_beginning g t_o t_disk_a t_name_a t_size_a t_seed_a t_head_a t_follows_a t_sort_a t_first_a t_many_a t_scattered_a t_memory_a t_thrown t_sectors t_partitions t_files t_address t_start t_fat t_clusters t_header t_found t_kernelAt t_kernelSize t_any x702 t_name t_size t_seed t_head t_follows) 0 rfl ⟨rfl, rfl⟩ ⟨Nat.le_of_ble_eq_true rfl, Nat.le_of_ble_eq_true rfl⟩ rfl (At_.cons rfl (At_.cons rfl (At_.cons rfl At_.nil))) (At_.cons rfl (At_.cons rfl (At_.cons rfl At_.nil))) Sm_.refl rfl hl.1 (Nat.le_of_ble_eq_true rfl) ⟨Nat.zero_le _, Nat.zero_le _⟩ d_Model_beginning_67 (fun H locs hw => ?_) rfl
            refine n_aload_n hC hl 2 d_Model_beginning_70 rfl rfl ?_
            refine n_iload_n hC hl 3 d_Model_beginning_71 rfl rfl ?_
            refine n_iload_n hC hl 0 d_Model_beginning_72 rfl rfl ?_
            refine n_iconst hC 1 d_Model_beginning_73 (by decide) ?_
            refine n_isub hC hf d_Model_beginning_74 (fun v877 hf => ?_)
            obtain ⟨u878, hu878, hf⟩ := bd_s hf
            refine n_callVi hC hw fc_Model_124 (c_Model_sectorOf l g E hEe t_o t_head_a t_follows_a t_disk_a t_sort_a t_first_a t_many_a t_name_a t_size_a t_seed_a t_scattered_a t_memory_a t_thrown t_sectors t_partitions t_files t_address t_start t_fat t_clusters t_header t_found t_kernelAt t_kernelSize t_any t_head t_follows a1 v877 N u878 hu878) [0, 5, 6] (wd_Model_beginning g t_o t_disk_a t_name_a t_size_a t_seed_a t_head_a t_follows_a t_sort_a t_first_a t_many_a t_scattered_a t_memory_a t_thrown t_sectors t_partitions t_files t_address t_start t_fat t_clusters t_header t_found t_kernelAt t_kernelSize t_any x702 t_name t_size t_seed t_head t_follows) 0 rfl ⟨rfl, rfl⟩ ⟨Nat.le_of_ble_eq_true rfl, Nat.le_of_ble_eq_true rfl⟩ rfl (At_.cons rfl (At_.cons rfl (At_.cons rfl At_.nil))) (At_.cons rfl (At_.cons rfl (At_.cons rfl At_.nil))) Sm_.refl rfl hl.1 (Nat.le_of_ble_eq_true rfl) ⟨Nat.zero_le _, Nat.zero_le _⟩ d_Model_beginning_75 (fun H locs hw => ?_) rfl
            refine n_iconst hC 1 d_Model_beginning_78 (by decide) ?_
            refine n_iadd hC hf d_Model_beginning_79 (fun v879 hf => ?_)
            refine n_icmp_eq hC hf 87 d_Model_beginning_80 (by decide) (fun hf => ?_) (fun hf => ?_)
            · refine n_iconst hC 0 d_Model_beginning_87 (by decide) ?_
              exact hj88 _ hf _ _ _ hw (lv_sub hl [0, 1, 2, 3] rfl)
            · exact hj83 hf _ _ _ hw (lv_sub hl [0, 1, 2, 3] rfl)
        )
      exact hL47 N _ _ _ hf _ _ _ hw (lv_sub hl [0, 1, 2, 3] rfl)
