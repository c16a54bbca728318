def wd_Model_lay (g : GT) (t_o : Nat) (t_disk_a : Nat) (t_name_a : Nat) (t_size_a : Nat) (t_seed_a : Nat) (t_head_a : Nat) (t_follows_a : Nat) (t_sort_a : Nat) (t_first_a : Nat) (t_many_a : Nat) (t_scattered_a : Nat) (t_memory_a : Nat) (t_thrown : Int32) (t_sectors : Int32) (t_partitions : Int32) (t_files : Int32) (t_address : Int32) (t_start : Int32) (t_fat : Int32) (t_clusters : Int32) (t_header : Int32) (t_found : Int32) (t_kernelAt : Int32) (t_kernelSize : Int32) (t_any : Int32) (t_disk : Nat → Int32) (t_name : Nat → Int64) (t_size : Nat → Int32) (t_seed : Nat → Int32) (t_head : Nat → Int32) (t_follows : Nat → Int32) : va_W := [(t_o, .inr (7, [.int t_thrown, .int t_sectors, .ref t_disk_a, .int t_partitions, .ref t_sort_a, .ref t_first_a, .ref t_many_a, .int t_files, .ref t_name_a, .ref t_size_a, .ref t_seed_a, .ref t_scattered_a, .int t_address, .int t_start, .int t_fat, .int t_clusters, .ref t_head_a, .ref t_follows_a, .int t_header, .int t_found, .int t_kernelAt, .int t_kernelSize, .int t_any, .ref t_memory_a])), (t_disk_a, .inl (g.2.2.2.2, 307200, .inl t_disk)), (t_name_a, .inl (g.2.2.1, 12, .inr (.inl t_name))), (t_size_a, .inl (g.2.1, 12, .inl t_size)), (t_seed_a, .inl (g.2.1, 12, .inl t_seed)), (t_head_a, .inl (g.2.1, 12, .inl t_head)), (t_follows_a, .inl (g.2.1, 700, .inl t_follows))]
def f_Model_lay_L486 (N : Nat) (t_size : Nat → Int32) (x1176 : Int32) (k377 : Int32 → (Nat → Int32) → Option ((Nat → Int32))) (t_head : Nat → Int32) (t_start : Int32) (t_fat : Int32) (t_follows : Nat → Int32) (t_seed : Nat → Int32) (t_name : Nat → Int64) (t_address : Int32) (k486 : Int32 → (Nat → Int32) → Option ((Nat → Int32))) (x1264 : Int32) (x1265 : Nat → Int32) : Option ((Nat → Int32)) :=
  ix_ 12 t_size x1176 (fun (v1277 : Int32) => if v1277 ≤ x1264 then lt_ (x1176 + 1) (fun v1278 => k377 v1278 x1265) else lt_ (x1264 / 512) (fun v1279 => bd_ (f_Model_sectorOf N t_head x1176 v1279 t_start t_fat t_follows) (fun u1280 => lt_ ((512 : Int32) * u1280) (fun v1281 => lt_ (x1264 - x1264 / 512 * 512) (fun v1282 => lt_ (v1281 + v1282) (fun v1283 => bd_ (f_Model_byteOf t_size x1176 t_seed x1264 t_name t_start t_address) (fun u1284 => lt_ (u1284.toInt8.toInt32) (fun v1285 => up_b 307200 x1265 v1283 v1285 (fun (f1286 : Nat → Int32) => lt_ (x1264 + 1) (fun v1287 => k486 v1287 f1286))))))))))
def f_Model_lay_L377 (N : Nat) (t_files : Int32) (t_start : Int32) (t_fat : Int32) (t_name : Nat → Int64) (t_head : Nat → Int32) (t_size : Nat → Int32) (t_follows : Nat → Int32) (t_seed : Nat → Int32) (t_address : Int32) (k377 : Int32 → (Nat → Int32) → Option ((Nat → Int32))) (x1176 : Int32) (x1177 : Nat → Int32) : Option ((Nat → Int32)) :=
  if t_files ≤ x1176 then some (x1177) else lt_ (t_start + 1) (fun v1233 => lt_ ((2 : Int32) * t_fat) (fun v1234 => lt_ (v1233 + v1234) (fun v1235 => lt_ ((512 : Int32) * v1235) (fun v1236 => lt_ ((32 : Int32) * x1176) (fun v1237 => lt_ (v1236 + v1237) (fun v1238 => ix_ 12 t_name x1176 (fun (v1239 : Int64) => bd_ (f_Model_text N 11 0 v1238 v1239 x1177) (fun u1240 => lt_ (v1238 + 11) (fun v1241 => up_b 307200 u1240 v1241 32 (fun (f1242 : Nat → Int32) => lt_ (v1238 + 24) (fun v1243 => bd_ (f_Model_low N 2 v1243 33 f1242) (fun u1244 => lt_ (v1238 + 26) (fun v1245 => ix_ 12 t_head x1176 (fun (v1246 : Int32) => lt_ (v1246.toInt64) (fun v1247 => bd_ (f_Model_low N 2 v1245 v1247 u1244) (fun u1248 => lt_ (v1238 + 28) (fun v1249 => ix_ 12 t_size x1176 (fun (v1250 : Int32) => lt_ (v1250.toInt64) (fun v1251 => bd_ (f_Model_low N 4 v1249 v1251 u1248) (fun u1252 => lp_ (fun _ _ => none) (f_Model_lay_L486 N t_size x1176 k377 t_head t_start t_fat t_follows t_seed t_name t_address) N 0 u1252))))))))))))))))))))
def f_Model_lay_L311 (t_clusters : Int32) (x915 : Int32) (k268 : Int32 → (Nat → Int32) → Option ((Nat → Int32))) (t_follows : Nat → Int32) (v1290 : Int32) (k311 : Int32 → (Nat → Int32) → Option ((Nat → Int32))) (x1303 : Int32) (x1304 : Nat → Int32) : Option ((Nat → Int32)) :=
  lt_ (t_clusters + 2) (fun v1315 => if v1315 ≤ x1303 then lt_ (x915 + 1) (fun v1316 => k268 v1316 x1304) else ix_ 700 t_follows x1303 (fun (v1317 : Int32) => lt_ (fun (x1322 : Nat → Int32) => lt_ (x1303 + 1) (fun v1323 => k311 v1323 x1322)) (fun (j363 : (Nat → Int32) → Option ((Nat → Int32))) => if v1317 = 0 then j363 x1304 else ix_ 700 t_follows x1303 (fun (v1324 : Int32) => lt_ (fun (x1326 : Int32) => bd_ (f_Model_entry v1290 x1303 x1304 x1326) (fun u1327 => j363 u1327)) (fun (j360 : Int32 → Option ((Nat → Int32))) => if 0 ≤ v1324 then ix_ 700 t_follows x1303 (fun (v1328 : Int32) => j360 v1328) else j360 4095)))))
def f_Model_lay_L268 (N : Nat) (t_files : Int32) (t_start : Int32) (t_fat : Int32) (t_name : Nat → Int64) (t_head : Nat → Int32) (t_size : Nat → Int32) (t_follows : Nat → Int32) (t_seed : Nat → Int32) (t_address : Int32) (t_clusters : Int32) (k268 : Int32 → (Nat → Int32) → Option ((Nat → Int32))) (x915 : Int32) (x916 : Nat → Int32) : Option ((Nat → Int32)) :=
  if (2 : Int32) ≤ x915 then lp_ (fun _ _ => none) (f_Model_lay_L377 N t_files t_start t_fat t_name t_head t_size t_follows t_seed t_address) N 0 x916 else lt_ (t_start + 1) (fun v1288 => lt_ (x915 * t_fat) (fun v1289 => lt_ (v1288 + v1289) (fun v1290 => bd_ (f_Model_entry v1290 0 x916 4088) (fun u1291 => bd_ (f_Model_entry v1290 1 u1291 4095) (fun u1292 => lp_ (fun _ _ => none) (f_Model_lay_L311 t_clusters x915 k268 t_follows v1290) N 2 u1292)))))
def f_Model_lay (N : Nat) (t_start : Int32) (t_disk : Nat → Int32) (a1 : Int32) (t_fat : Int32) (t_files : Int32) (t_name : Nat → Int64) (t_head : Nat → Int32) (t_size : Nat → Int32) (t_follows : Nat → Int32) (t_seed : Nat → Int32) (t_address : Int32) (t_clusters : Int32) : Option ((Nat → Int32)) :=
  lt_ ((512 : Int32) * t_start) (fun v663 => up_b 307200 t_disk v663 (-21) (fun (f664 : Nat → Int32) => lt_ (v663 + 1) (fun v665 => up_b 307200 f664 v665 60 (fun (f666 : Nat → Int32) => lt_ (v663 + 2) (fun v667 => up_b 307200 f666 v667 (-112) (fun (f668 : Nat → Int32) => lt_ (v663 + 3) (fun v669 => bd_ (f_Model_text N 8 0 v669 331807933778 f668) (fun u670 => lt_ (v663 + 11) (fun v671 => bd_ (f_Model_low N 2 v671 512 u670) (fun u672 => lt_ (v663 + 13) (fun v673 => up_b 307200 u672 v673 1 (fun (f674 : Nat → Int32) => lt_ (v663 + 14) (fun v675 => bd_ (f_Model_low N 2 v675 1 f674) (fun u676 => lt_ (v663 + 16) (fun v677 => up_b 307200 u676 v677 2 (fun (f678 : Nat → Int32) => lt_ (v663 + 17) (fun v679 => bd_ (f_Model_low N 2 v679 32 f678) (fun u680 => lt_ (v663 + 19) (fun v681 => lt_ (a1.toInt64) (fun v682 => bd_ (f_Model_low N 2 v681 v682 u680) (fun u683 => lt_ (v663 + 21) (fun v684 => up_b 307200 u683 v684 (-8) (fun (f685 : Nat → Int32) => lt_ (v663 + 22) (fun v686 => lt_ (t_fat.toInt64) (fun v687 => bd_ (f_Model_low N 2 v686 v687 f685) (fun u688 => lt_ (v663 + 24) (fun v689 => bd_ (f_Model_low N 2 v689 32 u688) (fun u690 => lt_ (v663 + 26) (fun v691 => bd_ (f_Model_low N 2 v691 2 u690) (fun u692 => lt_ (v663 + 28) (fun v693 => lt_ (t_start.toInt64) (fun v694 => bd_ (f_Model_low N 4 v693 v694 u692) (fun u695 => lt_ (v663 + 36) (fun v696 => up_b 307200 u695 v696 (-128) (fun (f697 : Nat → Int32) => lt_ (v663 + 38) (fun v698 => up_b 307200 f697 v698 41 (fun (f699 : Nat → Int32) => lt_ (v663 + 39) (fun v700 => lt_ (t_start.toInt64) (fun v701 => bd_ (f_Model_low N 4 v700 v701 f699) (fun u702 => lt_ (v663 + 43) (fun v703 => bd_ (f_Model_text N 11 0 v703 1112493908 u702) (fun u704 => lt_ (v663 + 54) (fun v705 => bd_ (f_Model_text N 8 0 v705 301743747378 u704) (fun u706 => lt_ (v663 + 510) (fun v707 => up_b 307200 u706 v707 85 (fun (f708 : Nat → Int32) => lt_ (v663 + 511) (fun v709 => up_b 307200 f708 v709 (-86) (fun (f710 : Nat → Int32) => lp_ (fun _ _ => none) (f_Model_lay_L268 N t_files t_start t_fat t_name t_head t_size t_follows t_seed t_address t_clusters) N 0 f710))))))))))))))))))))))))))))))))))))))))))))))))
def rm_Model_lay : Room := { frames := 2, cells := 0, slots := 0, locals := 46 }
set_option maxHeartbeats 4000000 in
set_option maxRecDepth 100000 in
theorem c_Model_lay (l : Launch) (g : GT) (E : (Nat → Prop) → State → Prop) (hEe : Ee E) (t_o : Nat) (t_disk_a : Nat) (t_name_a : Nat) (t_size_a : Nat) (t_seed_a : Nat) (t_head_a : Nat) (t_follows_a : Nat) (t_sort_a : Nat) (t_first_a : Nat) (t_many_a : Nat) (t_scattered_a : Nat) (t_memory_a : Nat) (t_thrown : Int32) (t_sectors : Int32) (t_partitions : Int32) (t_files : Int32) (t_address : Int32) (t_start : Int32) (t_fat : Int32) (t_clusters : Int32) (t_header : Int32) (t_found : Int32) (t_kernelAt : Int32) (t_kernelSize : Int32) (t_any : Int32) (t_disk : Nat → Int32) (t_name : Nat → Int64) (t_size : Nat → Int32) (t_seed : Nat → Int32) (t_head : Nat → Int32) (t_follows : Nat → Int32) (a1 : Int32) (N : Nat) (z : (Nat → Int32)) (hf : f_Model_lay N t_start t_disk a1 t_fat t_files t_name t_head t_size t_follows t_seed t_address t_clusters = some z) : Cg l g E y_Model_lay ws_Model_lay rm_Model_lay [.ref t_o, .int a1] (wd_Model_lay g t_o t_disk_a t_name_a t_size_a t_seed_a t_head_a t_follows_a t_sort_a t_first_a t_many_a t_scattered_a t_memory_a t_thrown t_sectors t_partitions t_files t_address t_start t_fat t_clusters t_header t_found t_kernelAt t_kernelSize t_any t_disk t_name t_size t_seed t_head t_follows) none (wd_Model_lay g t_o t_disk_a t_name_a t_size_a t_seed_a t_head_a t_follows_a t_sort_a t_first_a t_many_a t_scattered_a t_memory_a t_thrown t_sectors t_partitions t_files t_address t_start t_fat t_clusters t_header t_found t_kernelAt t_kernelSize t_any z t_name t_size t_seed t_head t_follows) := by
  refine Ct.ofV hEe good_W (by decide) rfl (Nat.le_of_ble_eq_true rfl) ?_
  intro p e s m args below meth c A ls Q hC hw hl hret
  have hC : CX p m c b_Model_lay 6 s args Wall R_Model g.1 classes (tK g) E A := hC
  have hl : lv_has ls 6 [(0, .ref t_o), (1, .int a1)] := hl
  unfold f_Model_lay at hf
  refine n_sipush hC 512 d_Model_lay_0 (by decide) ?_
  refine n_aload_n hC hl 0 d_Model_lay_3 rfl rfl ?_
  refine n_get hC hw fg_Model_118 0 rfl rfl d_Model_lay_4 ?_
  refine n_imul hC hf d_Model_lay_7 (fun v663 hf => ?_)
  refine n_istore_n hC [(2, .int v663), (0, .ref t_o), (1, .int a1)] hl d_Model_lay_8 rfl (by decide) rfl (fun ls hl => ?_)
  refine n_aload_n hC hl 1 d_Model_lay_9 rfl rfl ?_
  refine n_get hC hw fg_Model_8 0 rfl rfl d_Model_lay_10 ?_
  refine n_iload_n hC hl 0 d_Model_lay_13 rfl rfl ?_
  refine n_bipush hC (-21) d_Model_lay_14 (by decide) ?_
  refine n_bast hC hw hf 1 3 (fun f664 => wd_Model_lay g t_o t_disk_a t_name_a t_size_a t_seed_a t_head_a t_follows_a t_sort_a t_first_a t_many_a t_scattered_a t_memory_a t_thrown t_sectors t_partitions t_files t_address t_start t_fat t_clusters t_header t_found t_kernelAt t_kernelSize t_any f664 t_name t_size t_seed t_head t_follows) rfl rfl d_Model_lay_16 (fun _ => rfl) (fun f664 H locs hf hw => ?_)
  refine n_aload_n hC hl 1 d_Model_lay_17 rfl rfl ?_
  refine n_get hC hw fg_Model_8 0 rfl rfl d_Model_lay_18 ?_
  refine n_iload_n hC hl 0 d_Model_lay_21 rfl rfl ?_
  refine n_iconst hC 1 d_Model_lay_22 (by decide) ?_
  refine n_iadd hC hf d_Model_lay_23 (fun v665 hf => ?_)
  refine n_bipush hC 60 d_Model_lay_24 (by decide) ?_
  refine n_bast hC hw hf 1 3 (fun f666 => wd_Model_lay g t_o t_disk_a t_name_a t_size_a t_seed_a t_head_a t_follows_a t_sort_a t_first_a t_many_a t_scattered_a t_memory_a t_thrown t_sectors t_partitions t_files t_address t_start t_fat t_clusters t_header t_found t_kernelAt t_kernelSize t_any f666 t_name t_size t_seed t_head t_follows) rfl rfl d_Model_lay_26 (fun _ => rfl) (fun f666 H locs hf hw => ?_)
  refine n_aload_n hC hl 1 d_Model_lay_27 rfl rfl ?_
  refine n_get hC hw fg_Model_8 0 rfl rfl d_Model_lay_28 ?_
  refine n_iload_n hC hl 0 d_Model_lay_31 rfl rfl ?_
  refine n_iconst hC 2 d_Model_lay_32 (by decide) ?_
  refine n_iadd hC hf d_Model_lay_33 (fun v667 hf => ?_)
  refine n_bipush hC (-112) d_Model_lay_34 (by decide) ?_
  refine n_bast hC hw hf 1 3 (fun f668 => wd_Model_lay g t_o t_disk_a t_name_a t_size_a t_seed_a t_head_a t_follows_a t_sort_a t_first_a t_many_a t_scattered_a t_memory_a t_thrown t_sectors t_partitions t_files t_address t_start t_fat t_clusters t_header t_found t_kernelAt t_kernelSize t_any f668 t_name t_size t_seed t_head t_follows) rfl rfl d_Model_lay_36 (fun _ => rfl) (fun f668 H locs hf hw => ?_)
  refine n_aload_n hC hl 1 d_Model_lay_37 rfl rfl ?_
  refine n_iload_n hC hl 0 d_Model_lay_38 rfl rfl ?_
  refine n_iconst hC 3 d_Model_lay_39 (by decide) ?_
  refine n_iadd hC hf d_Model_lay_40 (fun v669 hf => ?_)
  refine n_bipush hC 8 d_Model_lay_41 (by decide) ?_
  refine n_ldc2 hC 331807933778 kc_Model_195 d_Model_lay_43 ?_
  refine n_iconst hC 0 d_Model_lay_46 (by decide) ?_
  obtain ⟨u670, hu670, hf⟩ := bd_s hf
  refine n_callVv hC hw fc_Model_197 (c_Model_text l g E hEe t_o t_disk_a t_sort_a t_first_a t_many_a t_name_a t_size_a t_seed_a t_scattered_a t_head_a t_follows_a t_memory_a t_thrown t_sectors t_partitions t_files t_address t_start t_fat t_clusters t_header t_found t_kernelAt t_kernelSize t_any f668 v669 8 331807933778 0 N u670 hu670) [0, 1] (wd_Model_lay g t_o t_disk_a t_name_a t_size_a t_seed_a t_head_a t_follows_a t_sort_a t_first_a t_many_a t_scattered_a t_memory_a t_thrown t_sectors t_partitions t_files t_address t_start t_fat t_clusters t_header t_found t_kernelAt t_kernelSize t_any u670 t_name t_size t_seed t_head t_follows) 0 rfl ⟨rfl, rfl⟩ ⟨Nat.le_of_ble_eq_true rfl, Nat.le_of_ble_eq_true rfl⟩ rfl (At_.cons rfl (At_.cons rfl At_.nil)) (At_.cons rfl (At_.cons rfl At_.nil)) (Sm_.keep (Sm_.upd rfl (Sm_.keep (Sm_.keep (Sm_.keep (Sm_.keep (Sm_.keep Sm_.nil))))))) rfl hl.1 (Nat.le_of_ble_eq_true rfl) ⟨Nat.zero_le _, Nat.zero_le _⟩ d_Model_lay_47 (fun H locs hw => ?_) rfl
  refine n_aload_n hC hl 1 d_Model_lay_50 rfl rfl ?_
  refine n_iload_n hC hl 0 d_Model_lay_51 rfl rfl ?_
  refine n_bipush hC 11 d_Model_lay_52 (by decide) ?_
  refine n_iadd hC hf d_Model_lay_54 (fun v671 hf => ?_)
  refine n_iconst hC 2 d_Model_lay_55 (by decide) ?_
  refine n_ldc2 hC 512 kc_Model_77 d_Model_lay_56 ?_
  obtain ⟨u672, hu672, hf⟩ := bd_s hf
  refine n_callVv hC hw fc_Model_158 (c_Model_low l g E hEe t_o t_disk_a t_sort_a t_first_a t_many_a t_name_a t_size_a t_seed_a t_scattered_a t_head_a t_follows_a t_memory_a t_thrown t_sectors t_partitions t_files t_address t_start t_fat t_clusters t_header t_found t_kernelAt t_kernelSize t_any u670 v671 2 512 N u672 hu672) [0, 1] (wd_Model_lay g t_o t_disk_a t_name_a t_size_a t_seed_a t_head_a t_follows_a t_sort_a t_first_a t_many_a t_scattered_a t_memory_a t_thrown t_sectors t_partitions t_files t_address t_start t_fat t_clusters t_header t_found t_kernelAt t_kernelSize t_any u672 t_name t_size t_seed t_head t_follows) 0 rfl ⟨rfl, rfl⟩ ⟨Nat.le_of_ble_eq_true rfl, Nat.le_of_ble_eq_true rfl⟩ rfl (At_.cons rfl (At_.cons rfl At_.nil)) (At_.cons rfl (At_.cons rfl At_.nil)) (Sm_.keep (Sm_.upd rfl (Sm_.keep (Sm_.keep (Sm_.keep (Sm_.keep (Sm_.keep Sm_.nil))))))) rfl hl.1 (Nat.le_of_ble_eq_true rfl) ⟨Nat.zero_le _, Nat.zero_le _⟩ d_Model_lay_59 (fun H locs hw => ?_) rfl
  refine n_aload_n hC hl 1 d_Model_lay_62 rfl rfl ?_
  refine n_get hC hw fg_Model_8 0 rfl rfl d_Model_lay_63 ?_
  refine n_iload_n hC hl 0 d_Model_lay_66 rfl rfl ?_
  refine n_bipush hC 13 d_Model_lay_67 (by decide) ?_
  refine n_iadd hC hf d_Model_lay_69 (fun v673 hf => ?_)
  refine n_iconst hC 1 d_Model_lay_70 (by decide) ?_
  refine n_bast hC hw hf 1 3 (fun f674 => wd_Model_lay g t_o t_disk_a t_name_a t_size_a t_seed_a t_head_a t_follows_a t_sort_a t_first_a t_many_a t_scattered_a t_memory_a t_thrown t_sectors t_partitions t_files t_address t_start t_fat t_clusters t_header t_found t_kernelAt t_kernelSize t_any f674 t_name t_size t_seed t_head t_follows) rfl rfl d_Model_lay_71 (fun _ => rfl) (fun f674 H locs hf hw => ?_)
  refine n_aload_n hC hl 1 d_Model_lay_72 rfl rfl ?_
  refine n_iload_n hC hl 0 d_Model_lay_73 rfl rfl ?_
  refine n_bipush hC 14 d_Model_lay_74 (by decide) ?_
  refine n_iadd hC hf d_Model_lay_76 (fun v675 hf => ?_)
  refine n_iconst hC 2 d_Model_lay_77 (by decide) ?_
  refine n_lconst hC 1 d_Model_lay_78 (by decide) ?_
  obtain ⟨u676, hu676, hf⟩ := bd_s hf
  refine n_callVv hC hw fc_Model_158 (c_Model_low l g E hEe t_o t_disk_a t_sort_a t_first_a t_many_a t_name_a t_size_a t_seed_a t_scattered_a t_head_a t_follows_a t_memory_a t_thrown t_sectors t_partitions t_files t_address t_start t_fat t_clusters t_header t_found t_kernelAt t_kernelSize t_any f674 v675 2 1 N u676 hu676) [0, 1] (wd_Model_lay g t_o t_disk_a t_name_a t_size_a t_seed_a t_head_a t_follows_a t_sort_a t_first_a t_many_a t_scattered_a t_memory_a t_thrown t_sectors t_partitions t_files t_address t_start t_fat t_clusters t_header t_found t_kernelAt t_kernelSize t_any u676 t_name t_size t_seed t_head t_follows) 0 rfl ⟨rfl, rfl⟩ ⟨Nat.le_of_ble_eq_true rfl, Nat.le_of_ble_eq_true rfl⟩ rfl (At_.cons rfl (At_.cons rfl At_.nil)) (At_.cons rfl (At_.cons rfl At_.nil)) (Sm_.keep (Sm_.upd rfl (Sm_.keep (Sm_.keep (Sm_.keep (Sm_.keep (Sm_.keep Sm_.nil))))))) rfl hl.1 (Nat.le_of_ble_eq_true rfl) ⟨Nat.zero_le _, Nat.zero_le _⟩ d_Model_lay_79 (fun H locs hw => ?_) rfl
  refine n_aload_n hC hl 1 d_Model_lay_82 rfl rfl ?_
  refine n_get hC hw fg_Model_8 0 rfl rfl d_Model_lay_83 ?_
  refine n_iload_n hC hl 0 d_Model_lay_86 rfl rfl ?_
  refine n_bipush hC 16 d_Model_lay_87 (by decide) ?_
  refine n_iadd hC hf d_Model_lay_89 (fun v677 hf => ?_)
  refine n_iconst hC 2 d_Model_lay_90 (by decide) ?_
  refine n_bast hC hw hf 1 3 (fun f678 => wd_Model_lay g t_o t_disk_a t_name_a t_size_a t_seed_a t_head_a t_follows_a t_sort_a t_first_a t_many_a t_scattered_a t_memory_a t_thrown t_sectors t_partitions t_files t_address t_start t_fat t_clusters t_header t_found t_kernelAt t_kernelSize t_any f678 t_name t_size t_seed t_head t_follows) rfl rfl d_Model_lay_91 (fun _ => rfl) (fun f678 H locs hf hw => ?_)
  refine n_aload_n hC hl 1 d_Model_lay_92 rfl rfl ?_
  refine n_iload_n hC hl 0 d_Model_lay_93 rfl rfl ?_
  refine n_bipush hC 17 d_Model_lay_94 (by decide) ?_
  refine n_iadd hC hf d_Model_lay_96 (fun v679 hf => ?_)
  refine n_iconst hC 2 d_Model_lay_97 (by decide) ?_
  refine n_ldc2 hC 32 kc_Model_193 d_Model_lay_98 ?_
  obtain ⟨u680, hu680, hf⟩ := bd_s hf
  refine n_callVv hC hw fc_Model_158 (c_Model_low l g E hEe t_o t_disk_a t_sort_a t_first_a t_many_a t_name_a t_size_a t_seed_a t_scattered_a t_head_a t_follows_a t_memory_a t_thrown t_sectors t_partitions t_files t_address t_start t_fat t_clusters t_header t_found t_kernelAt t_kernelSize t_any f678 v679 2 32 N u680 hu680) [0, 1] (wd_Model_lay g t_o t_disk_a t_name_a t_size_a t_seed_a t_head_a t_follows_a t_sort_a t_first_a t_many_a t_scattered_a t_memory_a t_thrown t_sectors t_partitions t_files t_address t_start t_fat t_clusters t_header t_found t_kernelAt t_kernelSize t_any u680 t_name t_size t_seed t_head t_follows) 0 rfl ⟨rfl, rfl⟩ ⟨Nat.le_of_ble_eq_true rfl, Nat.le_of_ble_eq_true rfl⟩ rfl (At_.cons rfl (At_.cons rfl At_.nil)) (At_.cons rfl (At_.cons rfl At_.nil)) (Sm_.keep (Sm_.upd rfl (Sm_.keep (Sm_.keep (Sm_.keep (Sm_.keep (Sm_.keep Sm_.nil))))))) rfl hl.1 (Nat.le_of_ble_eq_true rfl) ⟨Nat.zero_le _, Nat.zero_le _⟩ d_Model_lay_101 (fun H locs hw => ?_) rfl
  refine n_aload_n hC hl 1 d_Model_lay_104 rfl rfl ?_
  refine n_iload_n hC hl 0 d_Model_lay_105 rfl rfl ?_
  refine n_bipush hC 19 d_Model_lay_106 (by decide) ?_
  refine n_iadd hC hf d_Model_lay_108 (fun v681 hf => ?_)
  refine n_iconst hC 2 d_Model_lay_109 (by decide) ?_
  refine n_iload_n hC hl 2 d_Model_lay_110 rfl rfl ?_
  refine n_i2l hC hf d_Model_lay_111 (fun v682 hf => ?_)
  obtain ⟨u683, hu683, hf⟩ := bd_s hf
  refine n_callVv hC hw fc_Model_158 (c_Model_low l g E hEe t_o t_disk_a t_sort_a t_first_a t_many_a t_name_a t_size_a t_seed_a t_scattered_a t_head_a t_follows_a t_memory_a t_thrown t_sectors t_partitions t_files t_address t_start t_fat t_clusters t_header t_found t_kernelAt t_kernelSize t_any u680 v681 2 v682 N u683 hu683) [0, 1] (wd_Model_lay g t_o t_disk_a t_name_a t_size_a t_seed_a t_head_a t_follows_a t_sort_a t_first_a t_many_a t_scattered_a t_memory_a t_thrown t_sectors t_partitions t_files t_address t_start t_fat t_clusters t_header t_found t_kernelAt t_kernelSize t_any u683 t_name t_size t_seed t_head t_follows) 0 rfl ⟨rfl, rfl⟩ ⟨Nat.le_of_ble_eq_true rfl, Nat.le_of_ble_eq_true rfl⟩ rfl (At_.cons rfl (At_.cons rfl At_.nil)) (At_.cons rfl (At_.cons rfl At_.nil)) (Sm_.keep (Sm_.upd rfl (Sm_.keep (Sm_.keep (Sm_.keep (Sm_.keep (Sm_.keep Sm_.nil))))))) rfl hl.1 (Nat.le_of_ble_eq_true rfl) ⟨Nat.zero_le _, Nat.zero_le _⟩ d_Model_lay_112 (fun H locs hw => ?_) rfl
  refine n_aload_n hC hl 1 d_Model_lay_115 rfl rfl ?_
  refine n_get hC hw fg_Model_8 0 rfl rfl d_Model_lay_116 ?_
  refine n_iload_n hC hl 0 d_Model_lay_119 rfl rfl ?_
  refine n_bipush hC 21 d_Model_lay_120 (by decide) ?_
  refine n_iadd hC hf d_Model_lay_122 (fun v684 hf => ?_)
  refine n_bipush hC (-8) d_Model_lay_123 (by decide) ?_
  refine n_bast hC hw hf 1 3 (fun f685 => wd_Model_lay g t_o t_disk_a t_name_a t_size_a t_seed_a t_head_a t_follows_a t_sort_a t_first_a t_many_a t_scattered_a t_memory_a t_thrown t_sectors t_partitions t_files t_address t_start t_fat t_clusters t_header t_found t_kernelAt t_kernelSize t_any f685 t_name t_size t_seed t_head t_follows) rfl rfl d_Model_lay_125 (fun _ => rfl) (fun f685 H locs hf hw => ?_)
  refine n_aload_n hC hl 1 d_Model_lay_126 rfl rfl ?_
  refine n_iload_n hC hl 0 d_Model_lay_127 rfl rfl ?_
  refine n_bipush hC 22 d_Model_lay_128 (by decide) ?_
  refine n_iadd hC hf d_Model_lay_130 (fun v686 hf => ?_)
  refine n_iconst hC 2 d_Model_lay_131 (by decide) ?_
  refine n_aload_n hC hl 1 d_Model_lay_132 rfl rfl ?_
  refine n_get hC hw fg_Model_121 0 rfl rfl d_Model_lay_133 ?_
  refine n_i2l hC hf d_Model_lay_136 (fun v687 hf => ?_)
  obtain ⟨u688, hu688, hf⟩ := bd_s hf
  refine n_callVv hC hw fc_Model_158 (c_Model_low l g E hEe t_o t_disk_a t_sort_a t_first_a t_many_a t_name_a t_size_a t_seed_a t_scattered_a t_head_a t_follows_a t_memory_a t_thrown t_sectors t_partitions t_files t_address t_start t_fat t_clusters t_header t_found t_kernelAt t_kernelSize t_any f685 v686 2 v687 N u688 hu688) [0, 1] (wd_Model_lay g t_o t_disk_a t_name_a t_size_a t_seed_a t_head_a t_follows_a t_sort_a t_first_a t_many_a t_scattered_a t_memory_a t_thrown t_sectors t_partitions t_files t_address t_start t_fat t_clusters t_header t_found t_kernelAt t_kernelSize t_any u688 t_name t_size t_seed t_head t_follows) 0 rfl ⟨rfl, rfl⟩ ⟨Nat.le_of_ble_eq_true rfl, Nat.le_of_ble_eq_true rfl⟩ rfl (At_.cons rfl (At_.cons rfl At_.nil)) (At_.cons rfl (At_.cons rfl At_.nil)) (Sm_.keep (Sm_.upd rfl (Sm_.keep (Sm_.keep (Sm_.keep (Sm_.keep (Sm_.keep Sm_.nil))))))) rfl hl.1 (Nat.le_of_ble_eq_true rfl) ⟨Nat.zero_le _, Nat.zero_le _⟩ d_Model_lay_137 (fun H locs hw => ?_) rfl
  refine n_aload_n hC hl 1 d_Model_lay_140 rfl rfl ?_
  refine n_iload_n hC hl 0 d_Model_lay_141 rfl rfl ?_
  refine n_bipush hC 24 d_Model_lay_142 (by decide) ?_
  refine n_iadd hC hf d_Model_lay_144 (fun v689 hf => ?_)
  refine n_iconst hC 2 d_Model_lay_145 (by decide) ?_
  refine n_ldc2 hC 32 kc_Model_193 d_Model_lay_146 ?_
  obtain ⟨u690, hu690, hf⟩ := bd_s hf
  refine n_callVv hC hw fc_Model_158 (c_Model_low l g E hEe t_o t_disk_a t_sort_a t_first_a t_many_a t_name_a t_size_a t_seed_a t_scattered_a t_head_a t_follows_a t_memory_a t_thrown t_sectors t_partitions t_files t_address t_start t_fat t_clusters t_header t_found t_kernelAt t_kernelSize t_any u688 v689 2 32 N u690 hu690) [0, 1] (wd_Model_lay g t_o t_disk_a t_name_a t_size_a t_seed_a t_head_a t_follows_a t_sort_a t_first_a t_many_a t_scattered_a t_memory_a t_thrown t_sectors t_partitions t_files t_address t_start t_fat t_clusters t_header t_found t_kernelAt t_kernelSize t_any u690 t_name t_size t_seed t_head t_follows) 0 rfl ⟨rfl, rfl⟩ ⟨Nat.le_of_ble_eq_true rfl, Nat.le_of_ble_eq_true rfl⟩ rfl (At_.cons rfl (At_.cons rfl At_.nil)) (At_.cons rfl (At_.cons rfl At_.nil)) (Sm_.keep (Sm_.upd rfl (Sm_.keep (Sm_.keep (Sm_.keep (Sm_.keep (Sm_.keep Sm_.nil))))))) rfl hl.1 (Nat.le_of_ble_eq_true rfl) ⟨Nat.zero_le _, Nat.zero_le _⟩ d_Model_lay_149 (fun H locs hw => ?_) rfl
  refine n_aload_n hC hl 1 d_Model_lay_152 rfl rfl ?_
  refine n_iload_n hC hl 0 d_Model_lay_153 rfl rfl ?_
  refine n_bipush hC 26 d_Model_lay_154 (by decide) ?_
  refine n_iadd hC hf d_Model_lay_156 (fun v691 hf => ?_)
  refine n_iconst hC 2 d_Model_lay_157 (by decide) ?_
  refine n_ldc2 hC 2 kc_Model_188 d_Model_lay_158 ?_
  obtain ⟨u692, hu692, hf⟩ := bd_s hf
  refine n_callVv hC hw fc_Model_158 (c_Model_low l g E hEe t_o t_disk_a t_sort_a t_first_a t_many_a t_name_a t_size_a t_seed_a t_scattered_a t_head_a t_follows_a t_memory_a t_thrown t_sectors t_partitions t_files t_address t_start t_fat t_clusters t_header t_found t_kernelAt t_kernelSize t_any u690 v691 2 2 N u692 hu692) [0, 1] (wd_Model_lay g t_o t_disk_a t_name_a t_size_a t_seed_a t_head_a t_follows_a t_sort_a t_first_a t_many_a t_scattered_a t_memory_a t_thrown t_sectors t_partitions t_files t_address t_start t_fat t_clusters t_header t_found t_kernelAt t_kernelSize t_any u692 t_name t_size t_seed t_head t_follows) 0 rfl ⟨rfl, rfl⟩ ⟨Nat.le_of_ble_eq_true rfl, Nat.le_of_ble_eq_true rfl⟩ rfl (At_.cons rfl (At_.cons rfl At_.nil)) (At_.cons rfl (At_.cons rfl At_.nil)) (Sm_.keep (Sm_.upd rfl (Sm_.keep (Sm_.keep (Sm_.keep (Sm_.keep (Sm_.keep Sm_.nil))))))) rfl hl.1 (Nat.le_of_ble_eq_true rfl) ⟨Nat.zero_le _, Nat.zero_le _⟩ d_Model_lay_161 (fun H locs hw => ?_) rfl
  refine n_aload_n hC hl 1 d_Model_lay_164 rfl rfl ?_
  refine n_iload_n hC hl 0 d_Model_lay_165 rfl rfl ?_
  refine n_bipush hC 28 d_Model_lay_166 (by decide) ?_
  refine n_iadd hC hf d_Model_lay_168 (fun v693 hf => ?_)
  refine n_iconst hC 4 d_Model_lay_169 (by decide) ?_
  refine n_aload_n hC hl 1 d_Model_lay_170 rfl rfl ?_
  refine n_get hC hw fg_Model_118 0 rfl rfl d_Model_lay_171 ?_
  refine n_i2l hC hf d_Model_lay_174 (fun v694 hf => ?_)
  obtain ⟨u695, hu695, hf⟩ := bd_s hf
  refine n_callVv hC hw fc_Model_158 (c_Model_low l g E hEe t_o t_disk_a t_sort_a t_first_a t_many_a t_name_a t_size_a t_seed_a t_scattered_a t_head_a t_follows_a t_memory_a t_thrown t_sectors t_partitions t_files t_address t_start t_fat t_clusters t_header t_found t_kernelAt t_kernelSize t_any u692 v693 4 v694 N u695 hu695) [0, 1] (wd_Model_lay g t_o t_disk_a t_name_a t_size_a t_seed_a t_head_a t_follows_a t_sort_a t_first_a t_many_a t_scattered_a t_memory_a t_thrown t_sectors t_partitions t_files t_address t_start t_fat t_clusters t_header t_found t_kernelAt t_kernelSize t_any u695 t_name t_size t_seed t_head t_follows) 0 rfl ⟨rfl, rfl⟩ ⟨Nat.le_of_ble_eq_true rfl, Nat.le_of_ble_eq_true rfl⟩ rfl (At_.cons rfl (At_.cons rfl At_.nil)) (At_.cons rfl (At_.cons rfl At_.nil)) (Sm_.keep (Sm_.upd rfl (Sm_.keep (Sm_.keep (Sm_.keep (Sm_.keep (Sm_.keep Sm_.nil))))))) rfl hl.1 (Nat.le_of_ble_eq_true rfl) ⟨Nat.zero_le _, Nat.zero_le _⟩ d_Model_lay_175 (fun H locs hw => ?_) rfl
  refine n_aload_n hC hl 1 d_Model_lay_178 rfl rfl ?_
  refine n_get hC hw fg_Model_8 0 rfl rfl d_Model_lay_179 ?_
  refine n_iload_n hC hl 0 d_Model_lay_182 rfl rfl ?_
  refine n_bipush hC 36 d_Model_lay_183 (by decide) ?_
  refine n_iadd hC hf d_Model_lay_185 (fun v696 hf => ?_)
  refine n_bipush hC (-128) d_Model_lay_186 (by decide) ?_
  refine n_bast hC hw hf 1 3 (fun f697 => wd_Model_lay g t_o t_disk_a t_name_a t_size_a t_seed_a t_head_a t_follows_a t_sort_a t_first_a t_many_a t_scattered_a t_memory_a t_thrown t_sectors t_partitions t_files t_address t_start t_fat t_clusters t_header t_found t_kernelAt t_kernelSize t_any f697 t_name t_size t_seed t_head t_follows) rfl rfl d_Model_lay_188 (fun _ => rfl) (fun f697 H locs hf hw => ?_)
  refine n_aload_n hC hl 1 d_Model_lay_189 rfl rfl ?_
  refine n_get hC hw fg_Model_8 0 rfl rfl d_Model_lay_190 ?_
  refine n_iload_n hC hl 0 d_Model_lay_193 rfl rfl ?_
  refine n_bipush hC 38 d_Model_lay_194 (by decide) ?_
  refine n_iadd hC hf d_Model_lay_196 (fun v698 hf => ?_)
  refine n_bipush hC 41 d_Model_lay_197 (by decide) ?_
  refine n_bast hC hw hf 1 3 (fun f699 => wd_Model_lay g t_o t_disk_a t_name_a t_size_a t_seed_a t_head_a t_follows_a t_sort_a t_first_a t_many_a t_scattered_a t_memory_a t_thrown t_sectors t_partitions t_files t_address t_start t_fat t_clusters t_header t_found t_kernelAt t_kernelSize t_any f699 t_name t_size t_seed t_head t_follows) rfl rfl d_Model_lay_199 (fun _ => rfl) (fun f699 H locs hf hw => ?_)
  refine n_aload_n hC hl 1 d_Model_lay_200 rfl rfl ?_
  refine n_iload_n hC hl 0 d_Model_lay_201 rfl rfl ?_
  refine n_bipush hC 39 d_Model_lay_202 (by decide) ?_
  refine n_iadd hC hf d_Model_lay_204 (fun v700 hf => ?_)
  refine n_iconst hC 4 d_Model_lay_205 (by decide) ?_
  refine n_aload_n hC hl 1 d_Model_lay_206 rfl rfl ?_
  refine n_get hC hw fg_Model_118 0 rfl rfl d_Model_lay_207 ?_
  refine n_i2l hC hf d_Model_lay_210 (fun v701 hf => ?_)
  obtain ⟨u702, hu702, hf⟩ := bd_s hf
  refine n_callVv hC hw fc_Model_158 (c_Model_low l g E hEe t_o t_disk_a t_sort_a t_first_a t_many_a t_name_a t_size_a t_seed_a t_scattered_a t_head_a t_follows_a t_memory_a t_thrown t_sectors t_partitions t_files t_address t_start t_fat t_clusters t_header t_found t_kernelAt t_kernelSize t_any f699 v700 4 v701 N u702 hu702) [0, 1] (wd_Model_lay g t_o t_disk_a t_name_a t_size_a t_seed_a t_head_a t_follows_a t_sort_a t_first_a t_many_a t_scattered_a t_memory_a t_thrown t_sectors t_partitions t_files t_address t_start t_fat t_clusters t_header t_found t_kernelAt t_kernelSize t_any u702 t_name t_size t_seed t_head t_follows) 0 rfl ⟨rfl, rfl⟩ ⟨Nat.le_of_ble_eq_true rfl, Nat.le_of_ble_eq_true rfl⟩ rfl (At_.cons rfl (At_.cons rfl At_.nil)) (At_.cons rfl (At_.cons rfl At_.nil)) (Sm_.keep (Sm_.upd rfl (Sm_.keep (Sm_.keep (Sm_.keep (Sm_.keep (Sm_.keep Sm_.nil))))))) rfl hl.1 (Nat.le_of_ble_eq_true rfl) ⟨Nat.zero_le _, Nat.zero_le _⟩ d_Model_lay_211 (fun H locs hw => ?_) rfl
  refine n_aload_n hC hl 1 d_Model_lay_214 rfl rfl ?_
  refine n_iload_n hC hl 0 d_Model_lay_215 rfl rfl ?_
  refine n_bipush hC 43 d_Model_lay_216 (by decide) ?_
  refine n_iadd hC hf d_Model_lay_218 (fun v703 hf => ?_)
  refine n_bipush hC 11 d_Model_lay_219 (by decide) ?_
  refine n_ldc2 hC 1112493908 kc_Model_201 d_Model_lay_221 ?_
  refine n_iconst hC 0 d_Model_lay_224 (by decide) ?_
  obtain ⟨u704, hu704, hf⟩ := bd_s hf
  refine n_callVv hC hw fc_Model_197 (c_Model_text l g E hEe t_o t_disk_a t_sort_a t_first_a t_many_a t_name_a t_size_a t_seed_a t_scattered_a t_head_a t_follows_a t_memory_a t_thrown t_sectors t_partitions t_files t_address t_start t_fat t_clusters t_header t_found t_kernelAt t_kernelSize t_any u702 v703 11 1112493908 0 N u704 hu704) [0, 1] (wd_Model_lay g t_o t_disk_a t_name_a t_size_a t_seed_a t_head_a t_follows_a t_sort_a t_first_a t_many_a t_scattered_a t_memory_a t_thrown t_sectors t_partitions t_files t_address t_start t_fat t_clusters t_header t_found t_kernelAt t_kernelSize t_any u704 t_name t_size t_seed t_head t_follows) 0 rfl ⟨rfl, rfl⟩ ⟨Nat.le_of_ble_eq_true rfl, Nat.le_of_ble_eq_true rfl⟩ rfl (At_.cons rfl (At_.cons rfl At_.nil)) (At_.cons rfl (At_.cons rfl At_.nil)) (Sm_.keep (Sm_.upd rfl (Sm_.keep (Sm_.keep (Sm_.keep (Sm_.keep (Sm_.keep Sm_.nil))))))) rfl hl.1 (Nat.le_of_ble_eq_true rfl) ⟨Nat.zero_le _, Nat.zero_le _⟩ d_Model_lay_225 (fun H locs hw => ?_) rfl
  refine n_aload_n hC hl 1 d_Model_lay_228 rfl rfl ?_
  refine n_iload_n hC hl 0 d_Model_lay_229 rfl rfl ?_
  refine n_bipush hC 54 d_Model_lay_230 (by decide) ?_
  refine n_iadd hC hf d_Model_lay_232 (fun v705 hf => ?_)
  refine n_bipush hC 8 d_Model_lay_233 (by decide) ?_
  refine n_ldc2 hC 301743747378 kc_Model_203 d_Model_lay_235 ?_
  refine n_iconst hC 0 d_Model_lay_238 (by decide) ?_
  obtain ⟨u706, hu706, hf⟩ := bd_s hf
  refine n_callVv hC hw fc_Model_197 (c_Model_text l g E hEe t_o t_disk_a t_sort_a t_first_a t_many_a t_name_a t_size_a t_seed_a t_scattered_a t_head_a t_follows_a t_memory_a t_thrown t_sectors t_partitions t_files t_address t_start t_fat t_clusters t_header t_found t_kernelAt t_kernelSize t_any u704 v705 8 301743747378 0 N u706 hu706) [0, 1] (wd_Model_lay g t_o t_disk_a t_name_a t_size_a t_seed_a t_head_a t_follows_a t_sort_a t_first_a t_many_a t_scattered_a t_memory_a t_thrown t_sectors t_partitions t_files t_address t_start t_fat t_clusters t_header t_found t_kernelAt t_kernelSize t_any u706 t_name t_size t_seed t_head t_follows) 0 rfl ⟨rfl, rfl⟩ ⟨Nat.le_of_ble_eq_true rfl, Nat.le_of_ble_eq_true rfl⟩ rfl (At_.cons rfl (At_.cons rfl At_.nil)) (At_.cons rfl (At_.cons rfl At_.nil)) (Sm_.keep (Sm_.upd rfl (Sm_.keep (Sm_.keep (Sm_.keep (Sm_.keep (Sm_.keep Sm_.nil))))))) rfl hl.1 (Nat.le_of_ble_eq_true rfl) ⟨Nat.zero_le _, Nat.zero_le _⟩ d_Model_lay_239 (fun H locs hw => ?_) rfl
  refine n_aload_n hC hl 1 d_Model_lay_242 rfl rfl ?_
  refine n_get hC hw fg_Model_8 0 rfl rfl d_Model_lay_243 ?_
  refine n_iload_n hC hl 0 d_Model_lay_246 rfl rfl ?_
  refine n_sipush hC 510 d_Model_lay_247 (by decide) ?_
  refine n_iadd hC hf d_Model_lay_250 (fun v707 hf => ?_)
  refine n_bipush hC 85 d_Model_lay_251 (by decide) ?_
  refine n_bast hC hw hf 1 3 (fun f708 => wd_Model_lay g t_o t_disk_a t_name_a t_size_a t_seed_a t_head_a t_follows_a t_sort_a t_first_a t_many_a t_scattered_a t_memory_a t_thrown t_sectors t_partitions t_files t_address t_start t_fat t_clusters t_header t_found t_kernelAt t_kernelSize t_any f708 t_name t_size t_seed t_head t_follows) rfl rfl d_Model_lay_253 (fun _ => rfl) (fun f708 H locs hf hw => ?_)
  refine n_aload_n hC hl 1 d_Model_lay_254 rfl rfl ?_
  refine n_get hC hw fg_Model_8 0 rfl rfl d_Model_lay_255 ?_
  refine n_iload_n hC hl 0 d_Model_lay_258 rfl rfl ?_
  refine n_sipush hC 511 d_Model_lay_259 (by decide) ?_
  refine n_iadd hC hf d_Model_lay_262 (fun v709 hf => ?_)
  refine n_bipush hC (-86) d_Model_lay_263 (by decide) ?_
  refine n_bast hC hw hf 1 3 (fun f710 => wd_Model_lay g t_o t_disk_a t_name_a t_size_a t_seed_a t_head_a t_follows_a t_sort_a t_first_a t_many_a t_scattered_a t_memory_a t_thrown t_sectors t_partitions t_files t_address t_start t_fat t_clusters t_header t_found t_kernelAt t_kernelSize t_any f710 t_name t_size t_seed t_head t_follows) rfl rfl d_Model_lay_265 (fun _ => rfl) (fun f710 H locs hf hw => ?_)
  refine n_iconst hC 0 d_Model_lay_266 (by decide) ?_
  refine n_istore_n hC [(3, .int 0), (2, .int v663), (0, .ref t_o), (1, .int a1)] hl d_Model_lay_267 rfl (by decide) rfl (fun ls hl => ?_)
  have hL268 := lw2 (B := f_Model_lay_L268 N t_files t_start t_fat t_name t_head t_size t_follows t_seed t_address t_clusters) (z := z) (fun (x915 : Int32) (x916 : Nat → Int32) => ∀ (H : Heap) (locs : List Loc) (ls : Array Slot), WS g.1 classes A s.heap H locs (wd_Model_lay g t_o t_disk_a t_name_a t_size_a t_seed_a t_head_a t_follows_a t_sort_a t_first_a t_many_a t_scattered_a t_memory_a t_thrown t_sectors t_partitions t_files t_address t_start t_fat t_clusters t_header t_found t_kernelAt t_kernelSize t_any x916 t_name t_size t_seed t_head t_follows) → lv_has ls 6 [(3, .int x915), (0, .ref t_o)] → W p l e rm_Model_lay s m args below meth c H locs 0 0 Q (F0 m 268 ls [])) (by
    intro k268 hk268 x915 x916 hf H locs ls hw hl
    unfold f_Model_lay_L268 at hf
    refine n_iload_n hC hl 0 d_Model_lay_268 rfl rfl ?_
    refine n_iconst hC 2 d_Model_lay_269 (by decide) ?_
    refine n_icmp_ge hC hf 375 d_Model_lay_270 (by decide) (fun hf => ?_) (fun hf => ?_)
    · refine n_iconst hC 0 d_Model_lay_375 (by decide) ?_
      refine n_istore_n hC [(3, .int 0), (0, .ref t_o)] hl d_Model_lay_376 rfl (by decide) rfl (fun ls hl => ?_)
      have hL377 := lw2 (B := f_Model_lay_L377 N t_files t_start t_fat t_name t_head t_size t_follows t_seed t_address) (z := z) (fun (x1176 : Int32) (x1177 : Nat → Int32) => ∀ (H : Heap) (locs : List Loc) (ls : Array Slot), WS g.1 classes A s.heap H locs (wd_Model_lay g t_o t_disk_a t_name_a t_size_a t_seed_a t_head_a t_follows_a t_sort_a t_first_a t_many_a t_scattered_a t_memory_a t_thrown t_sectors t_partitions t_files t_address t_start t_fat t_clusters t_header t_found t_kernelAt t_kernelSize t_any x1177 t_name t_size t_seed t_head t_follows) → lv_has ls 6 [(3, .int x1176), (0, .ref t_o)] → W p l e rm_Model_lay s m args below meth c H locs 0 0 Q (F0 m 377 ls [])) (by
        intro k377 hk377 x1176 x1177 hf H locs ls hw hl
        unfold f_Model_lay_L377 at hf
        refine n_iload_n hC hl 0 d_Model_lay_377 rfl rfl ?_
        refine n_aload_n hC hl 1 d_Model_lay_378 rfl rfl ?_
        refine n_get hC hw fg_Model_91 0 rfl rfl d_Model_lay_379 ?_
        refine n_icmp_ge hC hf 544 d_Model_lay_382 (by decide) (fun hf => ?_) (fun hf => ?_)
        · cases hf
          exact hret _ _ _ _ hw d_Model_lay_544
        · refine n_sipush hC 512 d_Model_lay_385 (by decide) ?_
          refine n_aload_n hC hl 1 d_Model_lay_388 rfl rfl ?_
          refine n_get hC hw fg_Model_118 0 rfl rfl d_Model_lay_389 ?_
          refine n_iconst hC 1 d_Model_lay_392 (by decide) ?_
          refine n_iadd hC hf d_Model_lay_393 (fun v1233 hf => ?_)
          refine n_iconst hC 2 d_Model_lay_394 (by decide) ?_
          refine n_aload_n hC hl 1 d_Model_lay_395 rfl rfl ?_
          refine n_get hC hw fg_Model_121 0 rfl rfl d_Model_lay_396 ?_
          refine n_imul hC hf d_Model_lay_399 (fun v1234 hf => ?_)
          refine n_iadd hC hf d_Model_lay_400 (fun v1235 hf => ?_)
          refine n_imul hC hf d_Model_lay_401 (fun v1236 hf => ?_)
          refine n_bipush hC 32 d_Model_lay_402 (by decide) ?_
          refine n_iload_n hC hl 0 d_Model_lay_404 rfl rfl ?_
          refine n_imul hC hf d_Model_lay_405 (fun v1237 hf => ?_)
          refine n_iadd hC hf d_Model_lay_406 (fun v1238 hf => ?_)
          refine n_istore hC [(4, .int v1238), (3, .int x1176), (0, .ref t_o)] hl d_Model_lay_407 (by decide) rfl (fun ls hl => ?_)
          refine n_aload_n hC hl 2 d_Model_lay_409 rfl rfl ?_
          refine n_iload hC hl 0 d_Model_lay_410 rfl ?_
          refine n_bipush hC 11 d_Model_lay_412 (by decide) ?_
          refine n_aload_n hC hl 2 d_Model_lay_414 rfl rfl ?_
          refine n_get hC hw fg_Model_24 0 rfl rfl d_Model_lay_415 ?_
          refine n_iload_n hC hl 1 d_Model_lay_418 rfl rfl ?_
          refine n_lald hC hw hf 2 1 rfl rfl d_Model_lay_419 (fun v1239 hf => ?_)
          refine n_iconst hC 0 d_Model_lay_420 (by decide) ?_
          obtain ⟨u1240, hu1240, hf⟩ := bd_s hf
          refine n_callVv hC hw fc_Model_197 (c_Model_text l g E hEe t_o t_disk_a t_sort_a t_first_a t_many_a t_name_a t_size_a t_seed_a t_scattered_a t_head_a t_follows_a t_memory_a t_thrown t_sectors t_partitions t_files t_address t_start t_fat t_clusters t_header t_found t_kernelAt t_kernelSize t_any x1177 v1238 11 v1239 0 N u1240 hu1240) [0, 1] (wd_Model_lay g t_o t_disk_a t_name_a t_size_a t_seed_a t_head_a t_follows_a t_sort_a t_first_a t_many_a t_scattered_a t_memory_a t_thrown t_sectors t_partitions t_files t_address t_start t_fat t_clusters t_header t_found t_kernelAt t_kernelSize t_any u1240 t_name t_size t_seed t_head t_follows) 0 rfl ⟨rfl, rfl⟩ ⟨Nat.le_of_ble_eq_true rfl, Nat.le_of_ble_eq_true rfl⟩ rfl (At_.cons rfl (At_.cons rfl At_.nil)) (At_.cons rfl (At_.cons rfl At_.nil)) (Sm_.keep (Sm_.upd rfl (Sm_.keep (Sm_.keep (Sm_.keep (Sm_.keep (Sm_.keep Sm_.nil))))))) rfl hl.1 (Nat.le_of_ble_eq_true rfl) ⟨Nat.zero_le _, Nat.zero_le _⟩ d_Model_lay_421 (fun H locs hw => ?_) rfl
          refine n_aload_n hC hl 2 d_Model_lay_424 rfl rfl ?_
          refine n_get hC hw fg_Model_8 0 rfl rfl d_Model_lay_425 ?_
          refine n_iload hC hl 0 d_Model_lay_428 rfl ?_
          refine n_bipush hC 11 d_Model_lay_430 (by decide) ?_
          refine n_iadd hC hf d_Model_lay_432 (fun v1241 hf => ?_)
          refine n_bipush hC 32 d_Model_lay_433 (by decide) ?_
          refine n_bast hC hw hf 1 3 (fun f1242 => wd_Model_lay g t_o t_disk_a t_name_a t_size_a t_seed_a t_head_a t_follows_a t_sort_a t_first_a t_many_a t_scattered_a t_memory_a t_thrown t_sectors t_partitions t_files t_address t_start t_fat t_clusters t_header t_found t_kernelAt t_kernelSize t_any f1242 t_name t_size t_seed t_head t_follows) rfl rfl d_Model_lay_435 (fun _ => rfl) (fun f1242 H locs hf hw => ?_)
          refine n_aload_n hC hl 2 d_Model_lay_436 rfl rfl ?_
          refine n_iload hC hl 0 d_Model_lay_437 rfl ?_
          refine n_bipush hC 24 d_Model_lay_439 (by decide) ?_
          refine n_iadd hC hf d_Model_lay_441 (fun v1243 hf => ?_)
          refine n_iconst hC 2 d_Model_lay_442 (by decide) ?_
          refine n_ldc2 hC 33 kc_Model_209 d_Model_lay_443 ?_
          obtain ⟨u1244, hu1244, hf⟩ := bd_s hf
          refine n_callVv hC hw fc_Model_158 (c_Model_low l g E hEe t_o t_disk_a t_sort_a t_first_a t_many_a t_name_a t_size_a t_seed_a t_scattered_a t_head_a t_follows_a t_memory_a t_thrown t_sectors t_partitions t_files t_address t_start t_fat t_clusters t_header t_found t_kernelAt t_kernelSize t_any f1242 v1243 2 33 N u1244 hu1244) [0, 1] (wd_Model_lay g t_o t_disk_a t_name_a t_size_a t_seed_a t_head_a t_follows_a t_sort_a t_first_a t_many_a t_scattered_a t_memory_a t_thrown t_sectors t_partitions t_files t_address t_start t_fat t_clusters t_header t_found t_kernelAt t_kernelSize t_any u1244 t_name t_size t_seed t_head t_follows) 0 rfl ⟨rfl, rfl⟩ ⟨Nat.le_of_ble_eq_true rfl, Nat.le_of_ble_eq_true rfl⟩ rfl (At_.cons rfl (At_.cons rfl At_.nil)) (At_.cons rfl (At_.cons rfl At_.nil)) (Sm_.keep (Sm_.upd rfl (Sm_.keep (Sm_.keep (Sm_.keep (Sm_.keep (Sm_.keep Sm_.nil))))))) rfl hl.1 (Nat.le_of_ble_eq_true rfl) ⟨Nat.zero_le _, Nat.zero_le _⟩ d_Model_lay_446 (fun H locs hw => ?_) rfl
          refine n_aload_n hC hl 2 d_Model_lay_449 rfl rfl ?_
          refine n_iload hC hl 0 d_Model_lay_450 rfl ?_
          refine n_bipush hC 26 d_Model_lay_452 (by decide) ?_
          refine n_iadd hC hf d_Model_lay_454 (fun v1245 hf => ?_)
          refine n_iconst hC 2 d_Model_lay_455 (by decide) ?_
          refine n_aload_n hC hl 2 d_Model_lay_456 rfl rfl ?_
          refine n_get hC hw fg_Model_38 0 rfl rfl d_Model_lay_457 ?_
          refine n_iload_n hC hl 1 d_Model_lay_460 rfl rfl ?_
          refine n_iald hC hw hf 5 0 rfl rfl d_Model_lay_461 (fun v1246 hf => ?_)
          refine n_i2l hC hf d_Model_lay_462 (fun v1247 hf => ?_)
          obtain ⟨u1248, hu1248, hf⟩ := bd_s hf
          refine n_callVv hC hw fc_Model_158 (c_Model_low l g E hEe t_o t_disk_a t_sort_a t_first_a t_many_a t_name_a t_size_a t_seed_a t_scattered_a t_head_a t_follows_a t_memory_a t_thrown t_sectors t_partitions t_files t_address t_start t_fat t_clusters t_header t_found t_kernelAt t_kernelSize t_any u1244 v1245 2 v1247 N u1248 hu1248) [0, 1] (wd_Model_lay g t_o t_disk_a t_name_a t_size_a t_seed_a t_head_a t_follows_a t_sort_a t_first_a t_many_a t_scattered_a t_memory_a t_thrown t_sectors t_partitions t_files t_address t_start t_fat t_clusters t_header t_found t_kernelAt t_kernelSize t_any u1248 t_name t_size t_seed t_head t_follows) 0 rfl ⟨rfl, rfl⟩ ⟨Nat.le_of_ble_eq_true rfl, Nat.le_of_ble_eq_true rfl⟩ rfl (At_.cons rfl (At_.cons rfl At_.nil)) (At_.cons rfl (At_.cons rfl At_.nil)) (Sm_.keep (Sm_.upd rfl (Sm_.keep (Sm_.keep (Sm_.keep (Sm_.keep (Sm_.keep Sm_.nil))))))) rfl hl.1 (Nat.le_of_ble_eq_true rfl) ⟨Nat.zero_le _, Nat.zero_le _⟩ d_Model_lay_463 (fun H locs hw => ?_) rfl
          refine n_aload_n hC hl 2 d_Model_lay_466 rfl rfl ?_
          refine n_iload hC hl 0 d_Model_lay_467 rfl ?_
          refine n_bipush hC 28 d_Model_lay_469 (by decide) ?_
          refine n_iadd hC hf d_Model_lay_471 (fun v1249 hf => ?_)
          refine n_iconst hC 4 d_Model_lay_472 (by decide) ?_
          refine n_aload_n hC hl 2 d_Model_lay_473 rfl rfl ?_
          refine n_get hC hw fg_Model_28 0 rfl rfl d_Model_lay_474 ?_
          refine n_iload_n hC hl 1 d_Model_lay_477 rfl rfl ?_
          refine n_iald hC hw hf 3 0 rfl rfl d_Model_lay_478 (fun v1250 hf => ?_)
          refine n_i2l hC hf d_Model_lay_479 (fun v1251 hf => ?_)
          obtain ⟨u1252, hu1252, hf⟩ := bd_s hf
          refine n_callVv hC hw fc_Model_158 (c_Model_low l g E hEe t_o t_disk_a t_sort_a t_first_a t_many_a t_name_a t_size_a t_seed_a t_scattered_a t_head_a t_follows_a t_memory_a t_thrown t_sectors t_partitions t_files t_address t_start t_fat t_clusters t_header t_found t_kernelAt t_kernelSize t_any u1248 v1249 4 v1251 N u1252 hu1252) [0, 1] (wd_Model_lay g t_o t_disk_a t_name_a t_size_a t_seed_a t_head_a t_follows_a t_sort_a t_first_a t_many_a t_scattered_a t_memory_a t_thrown t_sectors t_partitions t_files t_address t_start t_fat t_clusters t_header t_found t_kernelAt t_kernelSize t_any u1252 t_name t_size t_seed t_head t_follows) 0 rfl ⟨rfl, rfl⟩ ⟨Nat.le_of_ble_eq_true rfl, Nat.le_of_ble_eq_true rfl⟩ rfl (At_.cons rfl (At_.cons rfl At_.nil)) (At_.cons rfl (At_.cons rfl At_.nil)) (Sm_.keep (Sm_.upd rfl (Sm_.keep (Sm_.keep (Sm_.keep (Sm_.keep (Sm_.keep Sm_.nil))))))) rfl hl.1 (Nat.le_of_ble_eq_true rfl) ⟨Nat.zero_le _, Nat.zero_le _⟩ d_Model_lay_480 (fun H locs hw => ?_) rfl
          refine n_iconst hC 0 d_Model_lay_483 (by decide) ?_
          refine n_istore hC [(5, .int 0), (4, .int v1238), (3, .int x1176), (0, .ref t_o)] hl d_Model_lay_484 (by decide) rfl (fun ls hl => ?_)
          have hL486 := lw2 (B := f_Model_lay_L486 N t_size x1176 k377 t_head t_start t_fat t_follows t_seed t_name t_address) (z := z) (fun (x1264 : Int32) (x1265 : Nat → Int32) => ∀ (H : Heap) (locs : List Loc) (ls : Array Slot), WS g.1 classes A s.heap H locs (wd_Model_lay g t_o t_disk_a t_name_a t_size_a t_seed_a t_head_a t_follows_a t_sort_a t_first_a t_many_a t_scattered_a t_memory_a t_thrown t_sectors t_partitions t_files t_address t_start t_fat t_clusters t_header t_found t_kernelAt t_kernelSize t_any x1265 t_name t_size t_seed t_head t_follows) → lv_has ls 6 [(5, .int x1264), (3, .int x1176), (0, .ref t_o)] → W p l e rm_Model_lay s m args below meth c H locs 0 0 Q (F0 m 486 ls [])) (by
            intro k486 hk486 x1264 x1265 hf H locs ls hw hl
            unfold f_Model_lay_L486 at hf
            refine n_iload hC hl 0 d_Model_lay_486 rfl ?_
            refine n_aload_n hC hl 2 d_Model_lay_488 rfl rfl ?_
            refine n_get hC hw fg_Model_28 0 rfl rfl d_Model_lay_489 ?_
            refine n_iload_n hC hl 1 d_Model_lay_492 rfl rfl ?_
            refine n_iald hC hw hf 3 0 rfl rfl d_Model_lay_493 (fun v1277 hf => ?_)
            refine n_icmp_ge hC hf 538 d_Model_lay_494 (by decide) (fun hf => ?_) (fun hf => ?_)
            · refine n_iinc hC (k := 1) hf (by decide) (fun v1278 => [(3, .int v1278), (5, .int x1264), (0, .ref t_o)]) hl d_Model_lay_538 rfl (by decide) (fun _ => rfl) (fun v1278 ls hf hl => ?_)
              refine n_goto hC 377 d_Model_lay_541 (by decide) ?_
              exact hk377 _ _ hf _ _ _ hw (lv_sub hl [0, 2] rfl)
            · refine n_aload_n hC hl 2 d_Model_lay_497 rfl rfl ?_
              refine n_get hC hw fg_Model_8 0 rfl rfl d_Model_lay_498 ?_
              refine n_sipush hC 512 d_Model_lay_501 (by decide) ?_
              refine n_aload_n hC hl 2 d_Model_lay_504 rfl rfl ?_
              refine n_iload_n hC hl 1 d_Model_lay_505 rfl rfl ?_
              refine n_iload hC hl 0 d_Model_lay_506 rfl ?_
              refine n_sipush hC 512 d_Model_lay_508 (by decide) ?_
              refine n_idiv hC hf d_Model_lay_511 (by decide) (fun v1279 hf => ?_)
              obtain ⟨u1280, hu1280, hf⟩ := bd_s hf
              refine n_callVi hC hw fc_Model_124 (c_Model_sectorOf l g E hEe t_o t_head_a t_follows_a t_disk_a t_sort_a t_first_a t_many_a t_name_a t_size_a t_seed_a t_scattered_a t_memory_a t_thrown t_sectors t_partitions t_files t_address t_start t_fat t_clusters t_header t_found t_kernelAt t_kernelSize t_any t_head t_follows x1176 v1279 N u1280 hu1280) [0, 5, 6] (wd_Model_lay g t_o t_disk_a t_name_a t_size_a t_seed_a t_head_a t_follows_a t_sort_a t_first_a t_many_a t_scattered_a t_memory_a t_thrown t_sectors t_partitions t_files t_address t_start t_fat t_clusters t_header t_found t_kernelAt t_kernelSize t_any x1265 t_name t_size t_seed t_head t_follows) 0 rfl ⟨rfl, rfl⟩ ⟨Nat.le_of_ble_eq_true rfl, Nat.le_of_ble_eq_true rfl⟩ rfl (At_.cons rfl (At_.cons rfl (At_.cons rfl At_.nil))) (At_.cons rfl (At_.cons rfl (At_.cons rfl At_.nil))) Sm_.refl rfl hl.1 (Nat.le_of_ble_eq_true rfl) ⟨Nat.zero_le _, Nat.zero_le _⟩ d_Model_lay_512 (fun H locs hw => ?_) rfl
              refine n_imul hC hf d_Model_lay_515 (fun v1281 hf => ?_)
              refine n_iload hC hl 0 d_Model_lay_516 rfl ?_
              refine n_sipush hC 512 d_Model_lay_518 (by decide) ?_
              refine n_irem hC hf d_Model_lay_521 (by decide) (fun v1282 hf => ?_)
              refine n_iadd hC hf d_Model_lay_522 (fun v1283 hf => ?_)
              refine n_aload_n hC hl 2 d_Model_lay_523 rfl rfl ?_
              refine n_iload_n hC hl 1 d_Model_lay_524 rfl rfl ?_
              refine n_iload hC hl 0 d_Model_lay_525 rfl ?_
              obtain ⟨u1284, hu1284, hf⟩ := bd_s hf
              refine n_callVi hC hw fc_Model_166 (c_Model_byteOf l g E hEe t_o t_name_a t_size_a t_seed_a t_disk_a t_sort_a t_first_a t_many_a t_scattered_a t_head_a t_follows_a t_memory_a t_thrown t_sectors t_partitions t_files t_address t_start t_fat t_clusters t_header t_found t_kernelAt t_kernelSize t_any t_name t_size t_seed x1176 x1264 u1284 hu1284) [0, 2, 3, 4] (wd_Model_lay g t_o t_disk_a t_name_a t_size_a t_seed_a t_head_a t_follows_a t_sort_a t_first_a t_many_a t_scattered_a t_memory_a t_thrown t_sectors t_partitions t_files t_address t_start t_fat t_clusters t_header t_found t_kernelAt t_kernelSize t_any x1265 t_name t_size t_seed t_head t_follows) 0 rfl ⟨rfl, rfl⟩ ⟨Nat.le_of_ble_eq_true rfl, Nat.le_of_ble_eq_true rfl⟩ rfl (At_.cons rfl (At_.cons rfl (At_.cons rfl (At_.cons rfl At_.nil)))) (At_.cons rfl (At_.cons rfl (At_.cons rfl (At_.cons rfl At_.nil)))) Sm_.refl rfl hl.1 (Nat.le_of_ble_eq_true rfl) ⟨Nat.zero_le _, Nat.zero_le _⟩ d_Model_lay_527 (fun H locs hw => ?_) rfl
              refine n_i2b hC hf d_Model_lay_530 (fun v1285 hf => ?_)
              refine n_bast hC hw hf 1 3 (fun f1286 => wd_Model_lay g t_o t_disk_a t_name_a t_size_a t_seed_a t_head_a t_follows_a t_sort_a t_first_a t_many_a t_scattered_a t_memory_a t_thrown t_sectors t_partitions t_files t_address t_start t_fat t_clusters t_header t_found t_kernelAt t_kernelSize t_any f1286 t_name t_size t_seed t_head t_follows) rfl rfl d_Model_lay_531 (fun _ => rfl) (fun f1286 H locs hf hw => ?_)
              refine n_iinc hC (k := 0) hf (by decide) (fun v1287 => [(5, .int v1287), (3, .int x1176), (0, .ref t_o)]) hl d_Model_lay_532 rfl (by decide) (fun _ => rfl) (fun v1287 ls hf hl => ?_)
              refine n_goto hC 486 d_Model_lay_535 (by decide) ?_
              exact hk486 _ _ hf _ _ _ hw (lv_sub hl [0, 1, 2] rfl)
            )
          exact hL486 N _ _ hf _ _ _ hw (lv_sub hl [0, 2, 3] rfl)
        )
      exact hL377 N _ _ hf _ _ _ hw (lv_sub hl [0, 1] rfl)
    · refine n_aload_n hC hl 1 d_Model_lay_273 rfl rfl ?_
      refine n_get hC hw fg_Model_118 0 rfl rfl d_Model_lay_274 ?_
      refine n_iconst hC 1 d_Model_lay_277 (by decide) ?_
      refine n_iadd hC hf d_Model_lay_278 (fun v1288 hf => ?_)
      refine n_iload_n hC hl 0 d_Model_lay_279 rfl rfl ?_
      refine n_aload_n hC hl 1 d_Model_lay_280 rfl rfl ?_
      refine n_get hC hw fg_Model_121 0 rfl rfl d_Model_lay_281 ?_
      refine n_imul hC hf d_Model_lay_284 (fun v1289 hf => ?_)
      refine n_iadd hC hf d_Model_lay_285 (fun v1290 hf => ?_)
      refine n_istore hC [(4, .int v1290), (3, .int x915), (0, .ref t_o)] hl d_Model_lay_286 (by decide) rfl (fun ls hl => ?_)
      refine n_aload_n hC hl 2 d_Model_lay_288 rfl rfl ?_
      refine n_iload hC hl 0 d_Model_lay_289 rfl ?_
      refine n_iconst hC 0 d_Model_lay_291 (by decide) ?_
      refine n_sipush hC 4088 d_Model_lay_292 (by decide) ?_
      obtain ⟨u1291, hu1291, hf⟩ := bd_s hf
      refine n_callVv hC hw fc_Model_205 (c_Model_entry l g E hEe t_o t_disk_a t_sort_a t_first_a t_many_a t_name_a t_size_a t_seed_a t_scattered_a t_head_a t_follows_a t_memory_a t_thrown t_sectors t_partitions t_files t_address t_start t_fat t_clusters t_header t_found t_kernelAt t_kernelSize t_any x916 v1290 0 4088 u1291 hu1291) [0, 1] (wd_Model_lay g t_o t_disk_a t_name_a t_size_a t_seed_a t_head_a t_follows_a t_sort_a t_first_a t_many_a t_scattered_a t_memory_a t_thrown t_sectors t_partitions t_files t_address t_start t_fat t_clusters t_header t_found t_kernelAt t_kernelSize t_any u1291 t_name t_size t_seed t_head t_follows) 0 rfl ⟨rfl, rfl⟩ ⟨Nat.le_of_ble_eq_true rfl, Nat.le_of_ble_eq_true rfl⟩ rfl (At_.cons rfl (At_.cons rfl At_.nil)) (At_.cons rfl (At_.cons rfl At_.nil)) (Sm_.keep (Sm_.upd rfl (Sm_.keep (Sm_.keep (Sm_.keep (Sm_.keep (Sm_.keep Sm_.nil))))))) rfl hl.1 (Nat.le_of_ble_eq_true rfl) ⟨Nat.zero_le _, Nat.zero_le _⟩ d_Model_lay_295 (fun H locs hw => ?_) rfl
      refine n_aload_n hC hl 2 d_Model_lay_298 rfl rfl ?_
      refine n_iload hC hl 0 d_Model_lay_299 rfl ?_
      refine n_iconst hC 1 d_Model_lay_301 (by decide) ?_
      refine n_sipush hC 4095 d_Model_lay_302 (by decide) ?_
      obtain ⟨u1292, hu1292, hf⟩ := bd_s hf
      refine n_callVv hC hw fc_Model_205 (c_Model_entry l g E hEe t_o t_disk_a t_sort_a t_first_a t_many_a t_name_a t_size_a t_seed_a t_scattered_a t_head_a t_follows_a t_memory_a t_thrown t_sectors t_partitions t_files t_address t_start t_fat t_clusters t_header t_found t_kernelAt t_kernelSize t_any u1291 v1290 1 4095 u1292 hu1292) [0, 1] (wd_Model_lay g t_o t_disk_a t_name_a t_size_a t_seed_a t_head_a t_follows_a t_sort_a t_first_a t_many_a t_scattered_a t_memory_a t_thrown t_sectors t_partitions t_files t_address t_start t_fat t_clusters t_header t_found t_kernelAt t_kernelSize t_any u1292 t_name t_size t_seed t_head t_follows) 0 rfl ⟨rfl, rfl⟩ ⟨Nat.le_of_ble_eq_true rfl, Nat.le_of_ble_eq_true rfl⟩ rfl (At_.cons rfl (At_.cons rfl At_.nil)) (At_.cons rfl (At_.cons rfl At_.nil)) (Sm_.keep (Sm_.upd rfl (Sm_.keep (Sm_.keep (Sm_.keep (Sm_.keep (Sm_.keep Sm_.nil))))))) rfl hl.1 (Nat.le_of_ble_eq_true rfl) ⟨Nat.zero_le _, Nat.zero_le _⟩ d_Model_lay_305 (fun H locs hw => ?_) rfl
      refine n_iconst hC 2 d_Model_lay_308 (by decide) ?_
      refine n_istore hC [(5, .int 2), (4, .int v1290), (3, .int x915), (0, .ref t_o)] hl d_Model_lay_309 (by decide) rfl (fun ls hl => ?_)
      have hL311 := lw2 (B := f_Model_lay_L311 t_clusters x915 k268 t_follows v1290) (z := z) (fun (x1303 : Int32) (x1304 : Nat → Int32) => ∀ (H : Heap) (locs : List Loc) (ls : Array Slot), WS g.1 classes A s.heap H locs (wd_Model_lay g t_o t_disk_a t_name_a t_size_a t_seed_a t_head_a t_follows_a t_sort_a t_first_a t_many_a t_scattered_a t_memory_a t_thrown t_sectors t_partitions t_files t_address t_start t_fat t_clusters t_header t_found t_kernelAt t_kernelSize t_any x1304 t_name t_size t_seed t_head t_follows) → lv_has ls 6 [(5, .int x1303), (4, .int v1290), (3, .int x915), (0, .ref t_o)] → W p l e rm_Model_lay s m args below meth c H locs 0 0 Q (F0 m 311 ls [])) (by
        intro k311 hk311 x1303 x1304 hf H locs ls hw hl
        unfold f_Model_lay_L311 at hf
        refine n_iload hC hl 0 d_Model_lay_311 rfl ?_
        refine n_aload_n hC hl 3 d_Model_lay_313 rfl rfl ?_
        refine n_get hC hw fg_Model_109 0 rfl rfl d_Model_lay_314 ?_
        refine n_iconst hC 2 d_Model_lay_317 (by decide) ?_
        refine n_iadd hC hf d_Model_lay_318 (fun v1315 hf => ?_)
        refine n_icmp_ge hC hf 369 d_Model_lay_319 (by decide) (fun hf => ?_) (fun hf => ?_)
        · refine n_iinc hC (k := 2) hf (by decide) (fun v1316 => [(3, .int v1316), (5, .int x1303), (4, .int v1290), (0, .ref t_o)]) hl d_Model_lay_369 rfl (by decide) (fun _ => rfl) (fun v1316 ls hf hl => ?_)
          refine n_goto hC 268 d_Model_lay_372 (by decide) ?_
          exact hk268 _ _ hf _ _ _ hw (lv_sub hl [0, 3] rfl)
        · refine n_aload_n hC hl 3 d_Model_lay_322 rfl rfl ?_
          refine n_get hC hw fg_Model_41 0 rfl rfl d_Model_lay_323 ?_
          refine n_iload hC hl 0 d_Model_lay_326 rfl ?_
          refine n_iald hC hw hf 6 0 rfl rfl d_Model_lay_328 (fun v1317 hf => ?_)
          refine jn1 (fun (x1322 : Nat → Int32) => ∀ (H : Heap) (locs : List Loc) (ls : Array Slot), WS g.1 classes A s.heap H locs (wd_Model_lay g t_o t_disk_a t_name_a t_size_a t_seed_a t_head_a t_follows_a t_sort_a t_first_a t_many_a t_scattered_a t_memory_a t_thrown t_sectors t_partitions t_files t_address t_start t_fat t_clusters t_header t_found t_kernelAt t_kernelSize t_any x1322 t_name t_size t_seed t_head t_follows) → lv_has ls 6 [(5, .int x1303), (4, .int v1290), (3, .int x915), (0, .ref t_o)] → W p l e rm_Model_lay s m args below meth c H locs 0 0 Q (F0 m 363 ls [])) hf (fun x1322 hf H locs ls hw hl => ?_) (fun j363 hj363 hf => ?_)
          · refine n_iinc hC (k := 0) hf (by decide) (fun v1323 => [(5, .int v1323), (4, .int v1290), (3, .int x915), (0, .ref t_o)]) hl d_Model_lay_363 rfl (by decide) (fun _ => rfl) (fun v1323 ls hf hl => ?_)
            refine n_goto hC 311 d_Model_lay_366 (by decide) ?_
            exact hk311 _ _ hf _ _ _ hw (lv_sub hl [0, 1, 2, 3] rfl)
          refine n_if_eq hC hf 363 d_Model_lay_329 (by decide) (fun hf => ?_) (fun hf => ?_)
          · exact hj363 _ hf _ _ _ hw (lv_sub hl [0, 1, 2, 3] rfl)
          · refine n_aload_n hC hl 3 d_Model_lay_332 rfl rfl ?_
            refine n_iload hC hl 1 d_Model_lay_333 rfl ?_
            refine n_iload hC hl 0 d_Model_lay_335 rfl ?_
            refine n_aload_n hC hl 3 d_Model_lay_337 rfl rfl ?_
            refine n_get hC hw fg_Model_41 0 rfl rfl d_Model_lay_338 ?_
            refine n_iload hC hl 0 d_Model_lay_341 rfl ?_
            refine n_iald hC hw hf 6 0 rfl rfl d_Model_lay_343 (fun v1324 hf => ?_)
            refine jn1 (fun (x1326 : Int32) => ∀ (H : Heap) (locs : List Loc) (ls : Array Slot), WS g.1 classes A s.heap H locs (wd_Model_lay g t_o t_disk_a t_name_a t_size_a t_seed_a t_head_a t_follows_a t_sort_a t_first_a t_many_a t_scattered_a t_memory_a t_thrown t_sectors t_partitions t_files t_address t_start t_fat t_clusters t_header t_found t_kernelAt t_kernelSize t_any x1304 t_name t_size t_seed t_head t_follows) → lv_has ls 6 [(5, .int x1303), (4, .int v1290), (3, .int x915), (0, .ref t_o)] → W p l e rm_Model_lay s m args below meth c H locs 0 0 Q (F0 m 360 ls [.int x1326, .int x1303, .int v1290, .ref t_o])) hf (fun x1326 hf H locs ls hw hl => ?_) (fun j360 hj360 hf => ?_)
            · obtain ⟨u1327, hu1327, hf⟩ := bd_s hf
              refine n_callVv hC hw fc_Model_205 (c_Model_entry l g E hEe t_o t_disk_a t_sort_a t_first_a t_many_a t_name_a t_size_a t_seed_a t_scattered_a t_head_a t_follows_a t_memory_a t_thrown t_sectors t_partitions t_files t_address t_start t_fat t_clusters t_header t_found t_kernelAt t_kernelSize t_any x1304 v1290 x1303 x1326 u1327 hu1327) [0, 1] (wd_Model_lay g t_o t_disk_a t_name_a t_size_a t_seed_a t_head_a t_follows_a t_sort_a t_first_a t_many_a t_scattered_a t_memory_a t_thrown t_sectors t_partitions t_files t_address t_start t_fat t_clusters t_header t_found t_kernelAt t_kernelSize t_any u1327 t_name t_size t_seed t_head t_follows) 0 rfl ⟨rfl, rfl⟩ ⟨Nat.le_of_ble_eq_true rfl, Nat.le_of_ble_eq_true rfl⟩ rfl (At_.cons rfl (At_.cons rfl At_.nil)) (At_.cons rfl (At_.cons rfl At_.nil)) (Sm_.keep (Sm_.upd rfl (Sm_.keep (Sm_.keep (Sm_.keep (Sm_.keep (Sm_.keep Sm_.nil))))))) rfl hl.1 (Nat.le_of_ble_eq_true rfl) ⟨Nat.zero_le _, Nat.zero_le _⟩ d_Model_lay_360 (fun H locs hw => ?_) rfl
              exact hj363 _ hf _ _ _ hw (lv_sub hl [0, 1, 2, 3] rfl)
            refine n_if_ge hC hf 353 d_Model_lay_344 (by decide) (fun hf => ?_) (fun hf => ?_)
            · refine n_aload_n hC hl 3 d_Model_lay_353 rfl rfl ?_
              refine n_get hC hw fg_Model_41 0 rfl rfl d_Model_lay_354 ?_
              refine n_iload hC hl 0 d_Model_lay_357 rfl ?_
              refine n_iald hC hw hf 6 0 rfl rfl d_Model_lay_359 (fun v1328 hf => ?_)
              exact hj360 _ hf _ _ _ hw (lv_sub hl [0, 1, 2, 3] rfl)
            · refine n_sipush hC 4095 d_Model_lay_347 (by decide) ?_
              refine n_goto hC 360 d_Model_lay_350 (by decide) ?_
              exact hj360 _ hf _ _ _ hw (lv_sub hl [0, 1, 2, 3] rfl)
        )
      exact hL311 N _ _ hf _ _ _ hw (lv_sub hl [0, 1, 2, 3] rfl)
    )
  exact hL268 N _ _ hf _ _ _ hw (lv_sub hl [0, 2] rfl)
