def wd_Model_isGood (g : GT) (t_o : Nat) (t_disk_a : Nat) (t_sort_a : Nat) (t_first_a : Nat) (t_many_a : Nat) (t_name_a : Nat) (t_size_a : Nat) (t_seed_a : Nat) (t_scattered_a : Nat) (t_head_a : Nat) (t_follows_a : Nat) (t_memory_a : Nat) (t_thrown : Int32) (t_sectors : Int32) (t_partitions : Int32) (t_files : Int32) (t_address : Int32) (t_start : Int32) (t_fat : Int32) (t_clusters : Int32) (t_header : Int32) (t_found : Int32) (t_kernelAt : Int32) (t_kernelSize : Int32) (t_any : Int32) (t_disk : Nat → Int32) : va_W := [(t_o, .inr (7, [.int t_thrown, .int t_sectors, .ref t_disk_a, .int t_partitions, .ref t_sort_a, .ref t_first_a, .ref t_many_a, .int t_files, .ref t_name_a, .ref t_size_a, .ref t_seed_a, .ref t_scattered_a, .int t_address, .int t_start, .int t_fat, .int t_clusters, .ref t_head_a, .ref t_follows_a, .int t_header, .int t_found, .int t_kernelAt, .int t_kernelSize, .int t_any, .ref t_memory_a])), (t_disk_a, .inl (g.2.2.2.2, 307200, .inl t_disk))]
def f_Model_isGood_L188 (N : Nat) (v3968 : Int32) (t_disk : Nat → Int32) (x3998 : Int32) (t_sectors : Int32) (k188 : Int32 → Int32 → Option (Int32)) (x4022 : Int32) (x4023 : Int32) : Option (Int32) :=
  if (92 : Int32) ≤ x4022 then lt_ (v3968 + 72) (fun v4047 => bd_ (f_Model_lowAt N 8 v4047 t_disk) (fun u4048 => if x3998 = 0 then some (0) else lt_ (v3968 + 16) (fun v4049 => bd_ (f_Model_lowAt N 4 v4049 t_disk) (fun u4050 => lt_ (u4050.toInt32) (fun v4051 => lt_ (x4023 ^^^ (-1)) (fun v4052 => if ¬ v4051 = v4052 then some (0) else lt_ (lg_cmp u4048 0) (fun v4053 => if v4053 < 0 then some (0) else lt_ (t_sectors - 32) (fun v4054 => lt_ (v4054.toInt64) (fun v4055 => lt_ (lg_cmp u4048 v4055) (fun v4056 => if v4056 ≤ 0 then lt_ (v3968 + 88) (fun v4057 => bd_ (f_Model_lowAt N 4 v4057 t_disk) (fun u4058 => lt_ (u4058.toInt32) (fun v4059 => lt_ (u4048.toInt32) (fun v4060 => lt_ ((512 : Int32) * v4060) (fun v4061 => bd_ (f_Model_sumOf N 16384 v4061 t_disk) (fun u4062 => if ¬ v4059 = u4062 then some (0) else some (1))))))) else some (0))))))))))) else bd_ (f_Model_in x4022 16 19) (fun u4063 => lt_ (fun (x4066 : Int32) => bd_ (f_Model_goesOn N x4023 x4066) (fun u4067 => lt_ (x4022 + 1) (fun v4068 => k188 v4068 u4067))) (fun (j221 : Int32 → Option (Int32)) => if u4063 = 0 then lt_ (v3968 + x4022) (fun v4069 => bd_ (f_Model_get t_disk v4069) (fun u4070 => j221 u4070)) else j221 0))
def f_Model_isGood (N : Nat) (a1 : Int32) (t_disk : Nat → Int32) (t_sectors : Int32) : Option (Int32) :=
  lt_ ((512 : Int32) * a1) (fun v3968 => bd_ (f_Model_get t_disk v3968) (fun u3969 => lt_ (fun (x3984 : Int32) => lt_ (fun (x3998 : Int32) => lp_ (fun _ _ => none) (f_Model_isGood_L188 N v3968 t_disk x3998 t_sectors) N 0 (-1)) (fun (j181 : Int32 → Option (Int32)) => lt_ (j181 0) (fun (j180 : Option (Int32)) => if x3984 = 0 then j180 else lt_ (v3968 + 12) (fun v4155 => bd_ (f_Model_lowAt N 4 v4155 t_disk) (fun u4156 => lt_ (lg_cmp u4156 92) (fun v4157 => if ¬ v4157 = 0 then j180 else lt_ (v3968 + 24) (fun v4158 => bd_ (f_Model_lowAt N 8 v4158 t_disk) (fun u4159 => lt_ (a1.toInt64) (fun v4160 => lt_ (lg_cmp u4159 v4160) (fun v4161 => if ¬ v4161 = 0 then j180 else lt_ (v3968 + 80) (fun v4162 => bd_ (f_Model_lowAt N 4 v4162 t_disk) (fun u4163 => lt_ (lg_cmp u4163 128) (fun v4164 => if ¬ v4164 = 0 then j180 else lt_ (v3968 + 84) (fun v4165 => bd_ (f_Model_lowAt N 4 v4165 t_disk) (fun u4166 => lt_ (lg_cmp u4166 128) (fun v4167 => if ¬ v4167 = 0 then j180 else j181 1)))))))))))))))) (fun (j107 : Int32 → Option (Int32)) => lt_ (j107 0) (fun (j106 : Option (Int32)) => if ¬ u3969 = (69 : Int32) then j106 else lt_ (v3968 + 1) (fun v4621 => bd_ (f_Model_get t_disk v4621) (fun u4622 => if ¬ u4622 = (70 : Int32) then j106 else lt_ (v3968 + 2) (fun v4623 => bd_ (f_Model_get t_disk v4623) (fun u4624 => if ¬ u4624 = (73 : Int32) then j106 else lt_ (v3968 + 3) (fun v4625 => bd_ (f_Model_get t_disk v4625) (fun u4626 => if ¬ u4626 = (32 : Int32) then j106 else lt_ (v3968 + 4) (fun v4627 => bd_ (f_Model_get t_disk v4627) (fun u4628 => if ¬ u4628 = (80 : Int32) then j106 else lt_ (v3968 + 5) (fun v4629 => bd_ (f_Model_get t_disk v4629) (fun u4630 => if ¬ u4630 = (65 : Int32) then j106 else lt_ (v3968 + 6) (fun v4631 => bd_ (f_Model_get t_disk v4631) (fun u4632 => if ¬ u4632 = (82 : Int32) then j106 else lt_ (v3968 + 7) (fun v4633 => bd_ (f_Model_get t_disk v4633) (fun u4634 => if ¬ u4634 = (84 : Int32) then j106 else j107 1))))))))))))))))))
def rm_Model_isGood : Room := { frames := 2, cells := 0, slots := 0, locals := 47 }
set_option maxHeartbeats 4000000 in
set_option maxRecDepth 100000 in
theorem c_Model_isGood (l : Launch) (g : GT) (E : (Nat → Prop) → State → Prop) (hEe : Ee E) (t_o : Nat) (t_disk_a : Nat) (t_sort_a : Nat) (t_first_a : Nat) (t_many_a : Nat) (t_name_a : Nat) (t_size_a : Nat) (t_seed_a : Nat) (t_scattered_a : Nat) (t_head_a : Nat) (t_follows_a : Nat) (t_memory_a : Nat) (t_thrown : Int32) (t_sectors : Int32) (t_partitions : Int32) (t_files : Int32) (t_address : Int32) (t_start : Int32) (t_fat : Int32) (t_clusters : Int32) (t_header : Int32) (t_found : Int32) (t_kernelAt : Int32) (t_kernelSize : Int32) (t_any : Int32) (t_disk : Nat → Int32) (a1 : Int32) (N : Nat) (z : Int32) (hf : f_Model_isGood N a1 t_disk t_sectors = some z) : Cg l g E y_Model_isGood ws_Model_isGood rm_Model_isGood [.ref t_o, .int a1] (wd_Model_isGood g t_o t_disk_a t_sort_a t_first_a t_many_a t_name_a t_size_a t_seed_a t_scattered_a t_head_a t_follows_a t_memory_a t_thrown t_sectors t_partitions t_files t_address t_start t_fat t_clusters t_header t_found t_kernelAt t_kernelSize t_any t_disk) (some (.int z)) (wd_Model_isGood g t_o t_disk_a t_sort_a t_first_a t_many_a t_name_a t_size_a t_seed_a t_scattered_a t_head_a t_follows_a t_memory_a t_thrown t_sectors t_partitions t_files t_address t_start t_fat t_clusters t_header t_found t_kernelAt t_kernelSize t_any t_disk) := by
  refine Ct.ofI hEe good_W (by decide) rfl (Nat.le_of_ble_eq_true rfl) ?_
  intro p e s m args below meth c A ls Q hC hw hl hret
  have hC : CX p m c b_Model_isGood 7 s args Wall R_Model g.1 classes (tK g) E A := hC
  have hl : lv_has ls 7 [(0, .ref t_o), (1, .int a1)] := hl
  unfold f_Model_isGood at hf
  refine n_sipush hC 512 d_Model_isGood_0 (by decide) ?_
  refine n_iload_n hC hl 1 d_Model_isGood_3 rfl rfl ?_
  refine n_imul hC hf d_Model_isGood_4 (fun v3968 hf => ?_)
  refine n_istore_n hC [(2, .int v3968), (0, .ref t_o), (1, .int a1)] hl d_Model_isGood_5 rfl (by decide) rfl (fun ls hl => ?_)
  refine n_aload_n hC hl 1 d_Model_isGood_6 rfl rfl ?_
  refine n_iload_n hC hl 0 d_Model_isGood_7 rfl rfl ?_
  obtain ⟨u3969, hu3969, hf⟩ := bd_s hf
  refine n_callVi hC hw fc_Model_64 (c_Model_get l g E hEe t_o t_disk_a t_sort_a t_first_a t_many_a t_name_a t_size_a t_seed_a t_scattered_a t_head_a t_follows_a t_memory_a t_thrown t_sectors t_partitions t_files t_address t_start t_fat t_clusters t_header t_found t_kernelAt t_kernelSize t_any t_disk v3968 u3969 hu3969) [0, 1] (wd_Model_isGood g t_o t_disk_a t_sort_a t_first_a t_many_a t_name_a t_size_a t_seed_a t_scattered_a t_head_a t_follows_a t_memory_a t_thrown t_sectors t_partitions t_files t_address t_start t_fat t_clusters t_header t_found t_kernelAt t_kernelSize t_any t_disk) 0 rfl ⟨rfl, rfl⟩ ⟨Nat.le_of_ble_eq_true rfl, Nat.le_of_ble_eq_true rfl⟩ rfl (At_.cons rfl (At_.cons rfl At_.nil)) (At_.cons rfl (At_.cons rfl At_.nil)) Sm_.refl rfl hl.1 (Nat.le_of_ble_eq_true rfl) ⟨Nat.zero_le _, Nat.zero_le _⟩ d_Model_isGood_8 (fun H locs hw => ?_) rfl
  refine n_bipush hC 69 d_Model_isGood_11 (by decide) ?_
  refine jn1 (fun (x3984 : Int32) => ∀ (H : Heap) (locs : List Loc) (ls : Array Slot), WS g.1 classes A s.heap H locs (wd_Model_isGood g t_o t_disk_a t_sort_a t_first_a t_many_a t_name_a t_size_a t_seed_a t_scattered_a t_head_a t_follows_a t_memory_a t_thrown t_sectors t_partitions t_files t_address t_start t_fat t_clusters t_header t_found t_kernelAt t_kernelSize t_any t_disk) → lv_has ls 7 [(2, .int v3968), (0, .ref t_o), (1, .int a1)] → W p l e rm_Model_isGood s m args below meth c H locs 0 0 Q (F0 m 107 ls [.int x3984])) hf (fun x3984 hf H locs ls hw hl => ?_) (fun j107 hj107 hf => ?_)
  · refine n_istore_n hC [(3, .int x3984), (2, .int v3968), (0, .ref t_o), (1, .int a1)] hl d_Model_isGood_107 rfl (by decide) rfl (fun ls hl => ?_)
    refine n_iload_n hC hl 0 d_Model_isGood_108 rfl rfl ?_
    refine jn1 (fun (x3998 : Int32) => ∀ (H : Heap) (locs : List Loc) (ls : Array Slot), WS g.1 classes A s.heap H locs (wd_Model_isGood g t_o t_disk_a t_sort_a t_first_a t_many_a t_name_a t_size_a t_seed_a t_scattered_a t_head_a t_follows_a t_memory_a t_thrown t_sectors t_partitions t_files t_address t_start t_fat t_clusters t_header t_found t_kernelAt t_kernelSize t_any t_disk) → lv_has ls 7 [(2, .int v3968), (0, .ref t_o)] → W p l e rm_Model_isGood s m args below meth c H locs 0 0 Q (F0 m 181 ls [.int x3998])) hf (fun x3998 hf H locs ls hw hl => ?_) (fun j181 hj181 hf => ?_)
    · refine n_istore_n hC [(3, .int x3998), (2, .int v3968), (0, .ref t_o)] hl d_Model_isGood_181 rfl (by decide) rfl (fun ls hl => ?_)
      refine n_iconst hC (-1) d_Model_isGood_182 (by decide) ?_
      refine n_istore hC [(4, .int (-1)), (3, .int x3998), (2, .int v3968), (0, .ref t_o)] hl d_Model_isGood_183 (by decide) rfl (fun ls hl => ?_)
      refine n_iconst hC 0 d_Model_isGood_185 (by decide) ?_
      refine n_istore hC [(5, .int 0), (4, .int (-1)), (3, .int x3998), (2, .int v3968), (0, .ref t_o)] hl d_Model_isGood_186 (by decide) rfl (fun ls hl => ?_)
      have hL188 := lw2 (B := f_Model_isGood_L188 N v3968 t_disk x3998 t_sectors) (z := z) (fun (x4022 : Int32) (x4023 : Int32) => ∀ (H : Heap) (locs : List Loc) (ls : Array Slot), WS g.1 classes A s.heap H locs (wd_Model_isGood g t_o t_disk_a t_sort_a t_first_a t_many_a t_name_a t_size_a t_seed_a t_scattered_a t_head_a t_follows_a t_memory_a t_thrown t_sectors t_partitions t_files t_address t_start t_fat t_clusters t_header t_found t_kernelAt t_kernelSize t_any t_disk) → lv_has ls 7 [(5, .int x4022), (4, .int x4023), (3, .int x3998), (2, .int v3968), (0, .ref t_o)] → W p l e rm_Model_isGood s m args below meth c H locs 0 0 Q (F0 m 188 ls [])) (by
        intro k188 hk188 x4022 x4023 hf H locs ls hw hl
        unfold f_Model_isGood_L188 at hf
        refine n_iload hC hl 0 d_Model_isGood_188 rfl ?_
        refine n_bipush hC 92 d_Model_isGood_190 (by decide) ?_
        refine n_icmp_ge hC hf 232 d_Model_isGood_192 (by decide) (fun hf => ?_) (fun hf => ?_)
        · refine n_aload_n hC hl 4 d_Model_isGood_232 rfl rfl ?_
          refine n_iload_n hC hl 3 d_Model_isGood_233 rfl rfl ?_
          refine n_bipush hC 72 d_Model_isGood_234 (by decide) ?_
          refine n_iadd hC hf d_Model_isGood_236 (fun v4047 hf => ?_)
          refine n_bipush hC 8 d_Model_isGood_237 (by decide) ?_
          obtain ⟨u4048, hu4048, hf⟩ := bd_s hf
          refine n_callVl hC hw fc_Model_162 (c_Model_lowAt l g E hEe t_o t_disk_a t_sort_a t_first_a t_many_a t_name_a t_size_a t_seed_a t_scattered_a t_head_a t_follows_a t_memory_a t_thrown t_sectors t_partitions t_files t_address t_start t_fat t_clusters t_header t_found t_kernelAt t_kernelSize t_any t_disk v4047 8 N u4048 hu4048) [0, 1] (wd_Model_isGood g t_o t_disk_a t_sort_a t_first_a t_many_a t_name_a t_size_a t_seed_a t_scattered_a t_head_a t_follows_a t_memory_a t_thrown t_sectors t_partitions t_files t_address t_start t_fat t_clusters t_header t_found t_kernelAt t_kernelSize t_any t_disk) 0 rfl ⟨rfl, rfl⟩ ⟨Nat.le_of_ble_eq_true rfl, Nat.le_of_ble_eq_true rfl⟩ rfl (At_.cons rfl (At_.cons rfl At_.nil)) (At_.cons rfl (At_.cons rfl At_.nil)) Sm_.refl rfl hl.1 (Nat.le_of_ble_eq_true rfl) ⟨Nat.zero_le _, Nat.zero_le _⟩ d_Model_isGood_239 (fun H locs hw => ?_) rfl
          refine n_lstore hC [(5, .long u4048), (4, .int x4023), (3, .int x3998), (2, .int v3968), (0, .ref t_o)] hl d_Model_isGood_242 (by decide) rfl (fun ls hl => ?_)
          refine n_iload_n hC hl 2 d_Model_isGood_244 rfl rfl ?_
          refine n_if_eq hC hf 286 d_Model_isGood_245 (by decide) (fun hf => ?_) (fun hf => ?_)
          · refine n_iconst hC 0 d_Model_isGood_286 (by decide) ?_
            cases hf
            exact hret _ _ _ _ hw rfl d_Model_isGood_287
          · refine n_aload_n hC hl 4 d_Model_isGood_248 rfl rfl ?_
            refine n_iload_n hC hl 3 d_Model_isGood_249 rfl rfl ?_
            refine n_bipush hC 16 d_Model_isGood_250 (by decide) ?_
            refine n_iadd hC hf d_Model_isGood_252 (fun v4049 hf => ?_)
            refine n_iconst hC 4 d_Model_isGood_253 (by decide) ?_
            obtain ⟨u4050, hu4050, hf⟩ := bd_s hf
            refine n_callVl hC hw fc_Model_162 (c_Model_lowAt l g E hEe t_o t_disk_a t_sort_a t_first_a t_many_a t_name_a t_size_a t_seed_a t_scattered_a t_head_a t_follows_a t_memory_a t_thrown t_sectors t_partitions t_files t_address t_start t_fat t_clusters t_header t_found t_kernelAt t_kernelSize t_any t_disk v4049 4 N u4050 hu4050) [0, 1] (wd_Model_isGood g t_o t_disk_a t_sort_a t_first_a t_many_a t_name_a t_size_a t_seed_a t_scattered_a t_head_a t_follows_a t_memory_a t_thrown t_sectors t_partitions t_files t_address t_start t_fat t_clusters t_header t_found t_kernelAt t_kernelSize t_any t_disk) 0 rfl ⟨rfl, rfl⟩ ⟨Nat.le_of_ble_eq_true rfl, Nat.le_of_ble_eq_true rfl⟩ rfl (At_.cons rfl (At_.cons rfl At_.nil)) (At_.cons rfl (At_.cons rfl At_.nil)) Sm_.refl rfl hl.1 (Nat.le_of_ble_eq_true rfl) ⟨Nat.zero_le _, Nat.zero_le _⟩ d_Model_isGood_254 (fun H locs hw => ?_) rfl
            refine n_l2i hC hf d_Model_isGood_257 (fun v4051 hf => ?_)
            refine n_iload hC hl 1 d_Model_isGood_258 rfl ?_
            refine n_iconst hC (-1) d_Model_isGood_260 (by decide) ?_
            refine n_ixor hC hf d_Model_isGood_261 (fun v4052 hf => ?_)
            refine n_icmp_ne hC hf 286 d_Model_isGood_262 (by decide) (fun hf => ?_) (fun hf => ?_)
            · refine n_iconst hC 0 d_Model_isGood_286 (by decide) ?_
              cases hf
              exact hret _ _ _ _ hw rfl d_Model_isGood_287
            · refine n_lload hC hl 0 d_Model_isGood_265 rfl ?_
              refine n_lconst hC 0 d_Model_isGood_267 (by decide) ?_
              refine n_lcmp hC hf d_Model_isGood_268 (fun v4053 hf => ?_)
              refine n_if_lt hC hf 286 d_Model_isGood_269 (by decide) (fun hf => ?_) (fun hf => ?_)
              · refine n_iconst hC 0 d_Model_isGood_286 (by decide) ?_
                cases hf
                exact hret _ _ _ _ hw rfl d_Model_isGood_287
              · refine n_lload hC hl 0 d_Model_isGood_272 rfl ?_
                refine n_aload_n hC hl 4 d_Model_isGood_274 rfl rfl ?_
                refine n_get hC hw fg_Model_48 0 rfl rfl d_Model_isGood_275 ?_
                refine n_bipush hC 32 d_Model_isGood_278 (by decide) ?_
                refine n_isub hC hf d_Model_isGood_280 (fun v4054 hf => ?_)
                refine n_i2l hC hf d_Model_isGood_281 (fun v4055 hf => ?_)
                refine n_lcmp hC hf d_Model_isGood_282 (fun v4056 hf => ?_)
                refine n_if_le hC hf 288 d_Model_isGood_283 (by decide) (fun hf => ?_) (fun hf => ?_)
                · refine n_aload_n hC hl 4 d_Model_isGood_288 rfl rfl ?_
                  refine n_iload_n hC hl 3 d_Model_isGood_289 rfl rfl ?_
                  refine n_bipush hC 88 d_Model_isGood_290 (by decide) ?_
                  refine n_iadd hC hf d_Model_isGood_292 (fun v4057 hf => ?_)
                  refine n_iconst hC 4 d_Model_isGood_293 (by decide) ?_
                  obtain ⟨u4058, hu4058, hf⟩ := bd_s hf
                  refine n_callVl hC hw fc_Model_162 (c_Model_lowAt l g E hEe t_o t_disk_a t_sort_a t_first_a t_many_a t_name_a t_size_a t_seed_a t_scattered_a t_head_a t_follows_a t_memory_a t_thrown t_sectors t_partitions t_files t_address t_start t_fat t_clusters t_header t_found t_kernelAt t_kernelSize t_any t_disk v4057 4 N u4058 hu4058) [0, 1] (wd_Model_isGood g t_o t_disk_a t_sort_a t_first_a t_many_a t_name_a t_size_a t_seed_a t_scattered_a t_head_a t_follows_a t_memory_a t_thrown t_sectors t_partitions t_files t_address t_start t_fat t_clusters t_header t_found t_kernelAt t_kernelSize t_any t_disk) 0 rfl ⟨rfl, rfl⟩ ⟨Nat.le_of_ble_eq_true rfl, Nat.le_of_ble_eq_true rfl⟩ rfl (At_.cons rfl (At_.cons rfl At_.nil)) (At_.cons rfl (At_.cons rfl At_.nil)) Sm_.refl rfl hl.1 (Nat.le_of_ble_eq_true rfl) ⟨Nat.zero_le _, Nat.zero_le _⟩ d_Model_isGood_294 (fun H locs hw => ?_) rfl
                  refine n_l2i hC hf d_Model_isGood_297 (fun v4059 hf => ?_)
                  refine n_aload_n hC hl 4 d_Model_isGood_298 rfl rfl ?_
                  refine n_sipush hC 512 d_Model_isGood_299 (by decide) ?_
                  refine n_lload hC hl 0 d_Model_isGood_302 rfl ?_
                  refine n_l2i hC hf d_Model_isGood_304 (fun v4060 hf => ?_)
                  refine n_imul hC hf d_Model_isGood_305 (fun v4061 hf => ?_)
                  refine n_sipush hC 16384 d_Model_isGood_306 (by decide) ?_
                  obtain ⟨u4062, hu4062, hf⟩ := bd_s hf
                  refine n_callVi hC hw fc_Model_79 (c_Model_sumOf l g E hEe t_o t_disk_a t_sort_a t_first_a t_many_a t_name_a t_size_a t_seed_a t_scattered_a t_head_a t_follows_a t_memory_a t_thrown t_sectors t_partitions t_files t_address t_start t_fat t_clusters t_header t_found t_kernelAt t_kernelSize t_any t_disk v4061 16384 N u4062 hu4062) [0, 1] (wd_Model_isGood g t_o t_disk_a t_sort_a t_first_a t_many_a t_name_a t_size_a t_seed_a t_scattered_a t_head_a t_follows_a t_memory_a t_thrown t_sectors t_partitions t_files t_address t_start t_fat t_clusters t_header t_found t_kernelAt t_kernelSize t_any t_disk) 0 rfl ⟨rfl, rfl⟩ ⟨Nat.le_of_ble_eq_true rfl, Nat.le_of_ble_eq_true rfl⟩ rfl (At_.cons rfl (At_.cons rfl At_.nil)) (At_.cons rfl (At_.cons rfl At_.nil)) Sm_.refl rfl hl.1 (Nat.le_of_ble_eq_true rfl) ⟨Nat.zero_le _, Nat.zero_le _⟩ d_Model_isGood_309 (fun H locs hw => ?_) rfl
                  refine n_icmp_ne hC hf 319 d_Model_isGood_312 (by decide) (fun hf => ?_) (fun hf => ?_)
                  · refine n_iconst hC 0 d_Model_isGood_319 (by decide) ?_
                    cases hf
                    exact hret _ _ _ _ hw rfl d_Model_isGood_320
                  · refine n_iconst hC 1 d_Model_isGood_315 (by decide) ?_
                    refine n_goto hC 320 d_Model_isGood_316 (by decide) ?_
                    cases hf
                    exact hret _ _ _ _ hw rfl d_Model_isGood_320
                · refine n_iconst hC 0 d_Model_isGood_286 (by decide) ?_
                  cases hf
                  exact hret _ _ _ _ hw rfl d_Model_isGood_287
        · refine n_iload hC hl 1 d_Model_isGood_195 rfl ?_
          refine n_iload hC hl 0 d_Model_isGood_197 rfl ?_
          refine n_bipush hC 16 d_Model_isGood_199 (by decide) ?_
          refine n_bipush hC 19 d_Model_isGood_201 (by decide) ?_
          obtain ⟨u4063, hu4063, hf⟩ := bd_s hf
          refine n_callSi hC hw fc_Model_73 (c_Model_in l g E hEe x4022 16 19 u4063 hu4063) [] (wd_Model_isGood g t_o t_disk_a t_sort_a t_first_a t_many_a t_name_a t_size_a t_seed_a t_scattered_a t_head_a t_follows_a t_memory_a t_thrown t_sectors t_partitions t_files t_address t_start t_fat t_clusters t_header t_found t_kernelAt t_kernelSize t_any t_disk) ⟨rfl, rfl⟩ ⟨Nat.le_of_ble_eq_true rfl, Nat.le_of_ble_eq_true rfl⟩ rfl At_.nil At_.nil Sm_.refl rfl hl.1 (Nat.le_of_ble_eq_true rfl) ⟨Nat.zero_le _, Nat.zero_le _⟩ d_Model_isGood_203 (fun H locs hw => ?_) rfl
          refine jn1 (fun (x4066 : Int32) => ∀ (H : Heap) (locs : List Loc) (ls : Array Slot), WS g.1 classes A s.heap H locs (wd_Model_isGood g t_o t_disk_a t_sort_a t_first_a t_many_a t_name_a t_size_a t_seed_a t_scattered_a t_head_a t_follows_a t_memory_a t_thrown t_sectors t_partitions t_files t_address t_start t_fat t_clusters t_header t_found t_kernelAt t_kernelSize t_any t_disk) → lv_has ls 7 [(5, .int x4022), (3, .int x3998), (2, .int v3968), (0, .ref t_o)] → W p l e rm_Model_isGood s m args below meth c H locs 0 0 Q (F0 m 221 ls [.int x4066, .int x4023])) hf (fun x4066 hf H locs ls hw hl => ?_) (fun j221 hj221 hf => ?_)
          · obtain ⟨u4067, hu4067, hf⟩ := bd_s hf
            refine n_callSi hC hw fc_Model_69 (c_Model_goesOn l g E hEe x4023 x4066 N u4067 hu4067) [] (wd_Model_isGood g t_o t_disk_a t_sort_a t_first_a t_many_a t_name_a t_size_a t_seed_a t_scattered_a t_head_a t_follows_a t_memory_a t_thrown t_sectors t_partitions t_files t_address t_start t_fat t_clusters t_header t_found t_kernelAt t_kernelSize t_any t_disk) ⟨rfl, rfl⟩ ⟨Nat.le_of_ble_eq_true rfl, Nat.le_of_ble_eq_true rfl⟩ rfl At_.nil At_.nil Sm_.refl rfl hl.1 (Nat.le_of_ble_eq_true rfl) ⟨Nat.zero_le _, Nat.zero_le _⟩ d_Model_isGood_221 (fun H locs hw => ?_) rfl
            refine n_istore hC [(4, .int u4067), (5, .int x4022), (3, .int x3998), (2, .int v3968), (0, .ref t_o)] hl d_Model_isGood_224 (by decide) rfl (fun ls hl => ?_)
            refine n_iinc hC (k := 1) hf (by decide) (fun v4068 => [(5, .int v4068), (4, .int u4067), (3, .int x3998), (2, .int v3968), (0, .ref t_o)]) hl d_Model_isGood_226 rfl (by decide) (fun _ => rfl) (fun v4068 ls hf hl => ?_)
            refine n_goto hC 188 d_Model_isGood_229 (by decide) ?_
            exact hk188 _ _ hf _ _ _ hw (lv_sub hl [0, 1, 2, 3, 4] rfl)
          refine n_if_eq hC hf 213 d_Model_isGood_206 (by decide) (fun hf => ?_) (fun hf => ?_)
          · refine n_aload_n hC hl 4 d_Model_isGood_213 rfl rfl ?_
            refine n_iload_n hC hl 3 d_Model_isGood_214 rfl rfl ?_
            refine n_iload hC hl 0 d_Model_isGood_215 rfl ?_
            refine n_iadd hC hf d_Model_isGood_217 (fun v4069 hf => ?_)
            obtain ⟨u4070, hu4070, hf⟩ := bd_s hf
            refine n_callVi hC hw fc_Model_64 (c_Model_get l g E hEe t_o t_disk_a t_sort_a t_first_a t_many_a t_name_a t_size_a t_seed_a t_scattered_a t_head_a t_follows_a t_memory_a t_thrown t_sectors t_partitions t_files t_address t_start t_fat t_clusters t_header t_found t_kernelAt t_kernelSize t_any t_disk v4069 u4070 hu4070) [0, 1] (wd_Model_isGood g t_o t_disk_a t_sort_a t_first_a t_many_a t_name_a t_size_a t_seed_a t_scattered_a t_head_a t_follows_a t_memory_a t_thrown t_sectors t_partitions t_files t_address t_start t_fat t_clusters t_header t_found t_kernelAt t_kernelSize t_any t_disk) 0 rfl ⟨rfl, rfl⟩ ⟨Nat.le_of_ble_eq_true rfl, Nat.le_of_ble_eq_true rfl⟩ rfl (At_.cons rfl (At_.cons rfl At_.nil)) (At_.cons rfl (At_.cons rfl At_.nil)) Sm_.refl rfl hl.1 (Nat.le_of_ble_eq_true rfl) ⟨Nat.zero_le _, Nat.zero_le _⟩ d_Model_isGood_218 (fun H locs hw => ?_) rfl
            exact hj221 _ hf _ _ _ hw (lv_sub hl [0, 2, 3, 4] rfl)
          · refine n_iconst hC 0 d_Model_isGood_209 (by decide) ?_
            refine n_goto hC 221 d_Model_isGood_210 (by decide) ?_
            exact hj221 _ hf _ _ _ hw (lv_sub hl [0, 2, 3, 4] rfl)
        )
      exact hL188 N _ _ hf _ _ _ hw (lv_sub hl [0, 1, 2, 3, 4] rfl)
    refine jn0 (∀ (H : Heap) (locs : List Loc) (ls : Array Slot), WS g.1 classes A s.heap H locs (wd_Model_isGood g t_o t_disk_a t_sort_a t_first_a t_many_a t_name_a t_size_a t_seed_a t_scattered_a t_head_a t_follows_a t_memory_a t_thrown t_sectors t_partitions t_files t_address t_start t_fat t_clusters t_header t_found t_kernelAt t_kernelSize t_any t_disk) → lv_has ls 7 [(2, .int v3968), (0, .ref t_o)] → W p l e rm_Model_isGood s m args below meth c H locs 0 0 Q (F0 m 180 ls [])) hf (fun hf H locs ls hw hl => ?_) (fun j180 hj180 hf => ?_)
    · refine n_iconst hC 0 d_Model_isGood_180 (by decide) ?_
      exact hj181 _ hf _ _ _ hw (lv_sub hl [0, 1] rfl)
    refine n_if_eq hC hf 180 d_Model_isGood_109 (by decide) (fun hf => ?_) (fun hf => ?_)
    · exact hj180 hf _ _ _ hw (lv_sub hl [1, 2] rfl)
    · refine n_aload_n hC hl 2 d_Model_isGood_112 rfl rfl ?_
      refine n_iload_n hC hl 1 d_Model_isGood_113 rfl rfl ?_
      refine n_bipush hC 12 d_Model_isGood_114 (by decide) ?_
      refine n_iadd hC hf d_Model_isGood_116 (fun v4155 hf => ?_)
      refine n_iconst hC 4 d_Model_isGood_117 (by decide) ?_
      obtain ⟨u4156, hu4156, hf⟩ := bd_s hf
      refine n_callVl hC hw fc_Model_162 (c_Model_lowAt l g E hEe t_o t_disk_a t_sort_a t_first_a t_many_a t_name_a t_size_a t_seed_a t_scattered_a t_head_a t_follows_a t_memory_a t_thrown t_sectors t_partitions t_files t_address t_start t_fat t_clusters t_header t_found t_kernelAt t_kernelSize t_any t_disk v4155 4 N u4156 hu4156) [0, 1] (wd_Model_isGood g t_o t_disk_a t_sort_a t_first_a t_many_a t_name_a t_size_a t_seed_a t_scattered_a t_head_a t_follows_a t_memory_a t_thrown t_sectors t_partitions t_files t_address t_start t_fat t_clusters t_header t_found t_kernelAt t_kernelSize t_any t_disk) 0 rfl ⟨rfl, rfl⟩ ⟨Nat.le_of_ble_eq_true rfl, Nat.le_of_ble_eq_true rfl⟩ rfl (At_.cons rfl (At_.cons rfl At_.nil)) (At_.cons rfl (At_.cons rfl At_.nil)) Sm_.refl rfl hl.1 (Nat.le_of_ble_eq_true rfl) ⟨Nat.zero_le _, Nat.zero_le _⟩ d_Model_isGood_118 (fun H locs hw => ?_) rfl
      refine n_ldc2 hC 92 kc_Model_184 d_Model_isGood_121 ?_
      refine n_lcmp hC hf d_Model_isGood_124 (fun v4157 hf => ?_)
      refine n_if_ne hC hf 180 d_Model_isGood_125 (by decide) (fun hf => ?_) (fun hf => ?_)
      · exact hj180 hf _ _ _ hw (lv_sub hl [1, 2] rfl)
      · refine n_aload_n hC hl 2 d_Model_isGood_128 rfl rfl ?_
        refine n_iload_n hC hl 1 d_Model_isGood_129 rfl rfl ?_
        refine n_bipush hC 24 d_Model_isGood_130 (by decide) ?_
        refine n_iadd hC hf d_Model_isGood_132 (fun v4158 hf => ?_)
        refine n_bipush hC 8 d_Model_isGood_133 (by decide) ?_
        obtain ⟨u4159, hu4159, hf⟩ := bd_s hf
        refine n_callVl hC hw fc_Model_162 (c_Model_lowAt l g E hEe t_o t_disk_a t_sort_a t_first_a t_many_a t_name_a t_size_a t_seed_a t_scattered_a t_head_a t_follows_a t_memory_a t_thrown t_sectors t_partitions t_files t_address t_start t_fat t_clusters t_header t_found t_kernelAt t_kernelSize t_any t_disk v4158 8 N u4159 hu4159) [0, 1] (wd_Model_isGood g t_o t_disk_a t_sort_a t_first_a t_many_a t_name_a t_size_a t_seed_a t_scattered_a t_head_a t_follows_a t_memory_a t_thrown t_sectors t_partitions t_files t_address t_start t_fat t_clusters t_header t_found t_kernelAt t_kernelSize t_any t_disk) 0 rfl ⟨rfl, rfl⟩ ⟨Nat.le_of_ble_eq_true rfl, Nat.le_of_ble_eq_true rfl⟩ rfl (At_.cons rfl (At_.cons rfl At_.nil)) (At_.cons rfl (At_.cons rfl At_.nil)) Sm_.refl rfl hl.1 (Nat.le_of_ble_eq_true rfl) ⟨Nat.zero_le _, Nat.zero_le _⟩ d_Model_isGood_135 (fun H locs hw => ?_) rfl
        refine n_iload_n hC hl 3 d_Model_isGood_138 rfl rfl ?_
        refine n_i2l hC hf d_Model_isGood_139 (fun v4160 hf => ?_)
        refine n_lcmp hC hf d_Model_isGood_140 (fun v4161 hf => ?_)
        refine n_if_ne hC hf 180 d_Model_isGood_141 (by decide) (fun hf => ?_) (fun hf => ?_)
        · exact hj180 hf _ _ _ hw (lv_sub hl [1, 2] rfl)
        · refine n_aload_n hC hl 2 d_Model_isGood_144 rfl rfl ?_
          refine n_iload_n hC hl 1 d_Model_isGood_145 rfl rfl ?_
          refine n_bipush hC 80 d_Model_isGood_146 (by decide) ?_
          refine n_iadd hC hf d_Model_isGood_148 (fun v4162 hf => ?_)
          refine n_iconst hC 4 d_Model_isGood_149 (by decide) ?_
          obtain ⟨u4163, hu4163, hf⟩ := bd_s hf
          refine n_callVl hC hw fc_Model_162 (c_Model_lowAt l g E hEe t_o t_disk_a t_sort_a t_first_a t_many_a t_name_a t_size_a t_seed_a t_scattered_a t_head_a t_follows_a t_memory_a t_thrown t_sectors t_partitions t_files t_address t_start t_fat t_clusters t_header t_found t_kernelAt t_kernelSize t_any t_disk v4162 4 N u4163 hu4163) [0, 1] (wd_Model_isGood g t_o t_disk_a t_sort_a t_first_a t_many_a t_name_a t_size_a t_seed_a t_scattered_a t_head_a t_follows_a t_memory_a t_thrown t_sectors t_partitions t_files t_address t_start t_fat t_clusters t_header t_found t_kernelAt t_kernelSize t_any t_disk) 0 rfl ⟨rfl, rfl⟩ ⟨Nat.le_of_ble_eq_true rfl, Nat.le_of_ble_eq_true rfl⟩ rfl (At_.cons rfl (At_.cons rfl At_.nil)) (At_.cons rfl (At_.cons rfl At_.nil)) Sm_.refl rfl hl.1 (Nat.le_of_ble_eq_true rfl) ⟨Nat.zero_le _, Nat.zero_le _⟩ d_Model_isGood_150 (fun H locs hw => ?_) rfl
          refine n_ldc2 hC 128 kc_Model_190 d_Model_isGood_153 ?_
          refine n_lcmp hC hf d_Model_isGood_156 (fun v4164 hf => ?_)
          refine n_if_ne hC hf 180 d_Model_isGood_157 (by decide) (fun hf => ?_) (fun hf => ?_)
          · exact hj180 hf _ _ _ hw (lv_sub hl [1, 2] rfl)
          · refine n_aload_n hC hl 2 d_Model_isGood_160 rfl rfl ?_
            refine n_iload_n hC hl 1 d_Model_isGood_161 rfl rfl ?_
            refine n_bipush hC 84 d_Model_isGood_162 (by decide) ?_
            refine n_iadd hC hf d_Model_isGood_164 (fun v4165 hf => ?_)
            refine n_iconst hC 4 d_Model_isGood_165 (by decide) ?_
            obtain ⟨u4166, hu4166, hf⟩ := bd_s hf
            refine n_callVl hC hw fc_Model_162 (c_Model_lowAt l g E hEe t_o t_disk_a t_sort_a t_first_a t_many_a t_name_a t_size_a t_seed_a t_scattered_a t_head_a t_follows_a t_memory_a t_thrown t_sectors t_partitions t_files t_address t_start t_fat t_clusters t_header t_found t_kernelAt t_kernelSize t_any t_disk v4165 4 N u4166 hu4166) [0, 1] (wd_Model_isGood g t_o t_disk_a t_sort_a t_first_a t_many_a t_name_a t_size_a t_seed_a t_scattered_a t_head_a t_follows_a t_memory_a t_thrown t_sectors t_partitions t_files t_address t_start t_fat t_clusters t_header t_found t_kernelAt t_kernelSize t_any t_disk) 0 rfl ⟨rfl, rfl⟩ ⟨Nat.le_of_ble_eq_true rfl, Nat.le_of_ble_eq_true rfl⟩ rfl (At_.cons rfl (At_.cons rfl At_.nil)) (At_.cons rfl (At_.cons rfl At_.nil)) Sm_.refl rfl hl.1 (Nat.le_of_ble_eq_true rfl) ⟨Nat.zero_le _, Nat.zero_le _⟩ d_Model_isGood_166 (fun H locs hw => ?_) rfl
            refine n_ldc2 hC 128 kc_Model_190 d_Model_isGood_169 ?_
            refine n_lcmp hC hf d_Model_isGood_172 (fun v4167 hf => ?_)
            refine n_if_ne hC hf 180 d_Model_isGood_173 (by decide) (fun hf => ?_) (fun hf => ?_)
            · exact hj180 hf _ _ _ hw (lv_sub hl [1, 2] rfl)
            · refine n_iconst hC 1 d_Model_isGood_176 (by decide) ?_
              refine n_goto hC 181 d_Model_isGood_177 (by decide) ?_
              exact hj181 _ hf _ _ _ hw (lv_sub hl [1, 2] rfl)
  refine jn0 (∀ (H : Heap) (locs : List Loc) (ls : Array Slot), WS g.1 classes A s.heap H locs (wd_Model_isGood g t_o t_disk_a t_sort_a t_first_a t_many_a t_name_a t_size_a t_seed_a t_scattered_a t_head_a t_follows_a t_memory_a t_thrown t_sectors t_partitions t_files t_address t_start t_fat t_clusters t_header t_found t_kernelAt t_kernelSize t_any t_disk) → lv_has ls 7 [(2, .int v3968), (0, .ref t_o), (1, .int a1)] → W p l e rm_Model_isGood s m args below meth c H locs 0 0 Q (F0 m 106 ls [])) hf (fun hf H locs ls hw hl => ?_) (fun j106 hj106 hf => ?_)
  · refine n_iconst hC 0 d_Model_isGood_106 (by decide) ?_
    exact hj107 _ hf _ _ _ hw (lv_sub hl [0, 1, 2] rfl)
  refine n_icmp_ne hC hf 106 d_Model_isGood_13 (by decide) (fun hf => ?_) (fun hf => ?_)
  · exact hj106 hf _ _ _ hw (lv_sub hl [0, 1, 2] rfl)
  · refine n_aload_n hC hl 1 d_Model_isGood_16 rfl rfl ?_
    refine n_iload_n hC hl 0 d_Model_isGood_17 rfl rfl ?_
    refine n_iconst hC 1 d_Model_isGood_18 (by decide) ?_
    refine n_iadd hC hf d_Model_isGood_19 (fun v4621 hf => ?_)
    obtain ⟨u4622, hu4622, hf⟩ := bd_s hf
    refine n_callVi hC hw fc_Model_64 (c_Model_get l g E hEe t_o t_disk_a t_sort_a t_first_a t_many_a t_name_a t_size_a t_seed_a t_scattered_a t_head_a t_follows_a t_memory_a t_thrown t_sectors t_partitions t_files t_address t_start t_fat t_clusters t_header t_found t_kernelAt t_kernelSize t_any t_disk v4621 u4622 hu4622) [0, 1] (wd_Model_isGood g t_o t_disk_a t_sort_a t_first_a t_many_a t_name_a t_size_a t_seed_a t_scattered_a t_head_a t_follows_a t_memory_a t_thrown t_sectors t_partitions t_files t_address t_start t_fat t_clusters t_header t_found t_kernelAt t_kernelSize t_any t_disk) 0 rfl ⟨rfl, rfl⟩ ⟨Nat.le_of_ble_eq_true rfl, Nat.le_of_ble_eq_true rfl⟩ rfl (At_.cons rfl (At_.cons rfl At_.nil)) (At_.cons rfl (At_.cons rfl At_.nil)) Sm_.refl rfl hl.1 (Nat.le_of_ble_eq_true rfl) ⟨Nat.zero_le _, Nat.zero_le _⟩ d_Model_isGood_20 (fun H locs hw => ?_) rfl
    refine n_bipush hC 70 d_Model_isGood_23 (by decide) ?_
    refine n_icmp_ne hC hf 106 d_Model_isGood_25 (by decide) (fun hf => ?_) (fun hf => ?_)
    · exact hj106 hf _ _ _ hw (lv_sub hl [0, 1, 2] rfl)
    · refine n_aload_n hC hl 1 d_Model_isGood_28 rfl rfl ?_
      refine n_iload_n hC hl 0 d_Model_isGood_29 rfl rfl ?_
      refine n_iconst hC 2 d_Model_isGood_30 (by decide) ?_
      refine n_iadd hC hf d_Model_isGood_31 (fun v4623 hf => ?_)
      obtain ⟨u4624, hu4624, hf⟩ := bd_s hf
      refine n_callVi hC hw fc_Model_64 (c_Model_get l g E hEe t_o t_disk_a t_sort_a t_first_a t_many_a t_name_a t_size_a t_seed_a t_scattered_a t_head_a t_follows_a t_memory_a t_thrown t_sectors t_partitions t_files t_address t_start t_fat t_clusters t_header t_found t_kernelAt t_kernelSize t_any t_disk v4623 u4624 hu4624) [0, 1] (wd_Model_isGood g t_o t_disk_a t_sort_a t_first_a t_many_a t_name_a t_size_a t_seed_a t_scattered_a t_head_a t_follows_a t_memory_a t_thrown t_sectors t_partitions t_files t_address t_start t_fat t_clusters t_header t_found t_kernelAt t_kernelSize t_any t_disk) 0 rfl ⟨rfl, rfl⟩ ⟨Nat.le_of_ble_eq_true rfl, Nat.le_of_ble_eq_true rfl⟩ rfl (At_.cons rfl (At_.cons rfl At_.nil)) (At_.cons rfl (At_.cons rfl At_.nil)) Sm_.refl rfl hl.1 (Nat.le_of_ble_eq_true rfl) ⟨Nat.zero_le _, Nat.zero_le _⟩ d_Model_isGood_32 (fun H locs hw => ?_) rfl
      refine n_bipush hC 73 d_Model_isGood_35 (by decide) ?_
      refine n_icmp_ne hC hf 106 d_Model_isGood_37 (by decide) (fun hf => ?_) (fun hf => ?_)
      · exact hj106 hf _ _ _ hw (lv_sub hl [0, 1, 2] rfl)
      · refine n_aload_n hC hl 1 d_Model_isGood_40 rfl rfl ?_
        refine n_iload_n hC hl 0 d_Model_isGood_41 rfl rfl ?_
        refine n_iconst hC 3 d_Model_isGood_42 (by decide) ?_
        refine n_iadd hC hf d_Model_isGood_43 (fun v4625 hf => ?_)
        obtain ⟨u4626, hu4626, hf⟩ := bd_s hf
        refine n_callVi hC hw fc_Model_64 (c_Model_get l g E hEe t_o t_disk_a t_sort_a t_first_a t_many_a t_name_a t_size_a t_seed_a t_scattered_a t_head_a t_follows_a t_memory_a t_thrown t_sectors t_partitions t_files t_address t_start t_fat t_clusters t_header t_found t_kernelAt t_kernelSize t_any t_disk v4625 u4626 hu4626) [0, 1] (wd_Model_isGood g t_o t_disk_a t_sort_a t_first_a t_many_a t_name_a t_size_a t_seed_a t_scattered_a t_head_a t_follows_a t_memory_a t_thrown t_sectors t_partitions t_files t_address t_start t_fat t_clusters t_header t_found t_kernelAt t_kernelSize t_any t_disk) 0 rfl ⟨rfl, rfl⟩ ⟨Nat.le_of_ble_eq_true rfl, Nat.le_of_ble_eq_true rfl⟩ rfl (At_.cons rfl (At_.cons rfl At_.nil)) (At_.cons rfl (At_.cons rfl At_.nil)) Sm_.refl rfl hl.1 (Nat.le_of_ble_eq_true rfl) ⟨Nat.zero_le _, Nat.zero_le _⟩ d_Model_isGood_44 (fun H locs hw => ?_) rfl
        refine n_bipush hC 32 d_Model_isGood_47 (by decide) ?_
        refine n_icmp_ne hC hf 106 d_Model_isGood_49 (by decide) (fun hf => ?_) (fun hf => ?_)
        · exact hj106 hf _ _ _ hw (lv_sub hl [0, 1, 2] rfl)
        · refine n_aload_n hC hl 1 d_Model_isGood_52 rfl rfl ?_
          refine n_iload_n hC hl 0 d_Model_isGood_53 rfl rfl ?_
          refine n_iconst hC 4 d_Model_isGood_54 (by decide) ?_
          refine n_iadd hC hf d_Model_isGood_55 (fun v4627 hf => ?_)
          obtain ⟨u4628, hu4628, hf⟩ := bd_s hf
          refine n_callVi hC hw fc_Model_64 (c_Model_get l g E hEe t_o t_disk_a t_sort_a t_first_a t_many_a t_name_a t_size_a t_seed_a t_scattered_a t_head_a t_follows_a t_memory_a t_thrown t_sectors t_partitions t_files t_address t_start t_fat t_clusters t_header t_found t_kernelAt t_kernelSize t_any t_disk v4627 u4628 hu4628) [0, 1] (wd_Model_isGood g t_o t_disk_a t_sort_a t_first_a t_many_a t_name_a t_size_a t_seed_a t_scattered_a t_head_a t_follows_a t_memory_a t_thrown t_sectors t_partitions t_files t_address t_start t_fat t_clusters t_header t_found t_kernelAt t_kernelSize t_any t_disk) 0 rfl ⟨rfl, rfl⟩ ⟨Nat.le_of_ble_eq_true rfl, Nat.le_of_ble_eq_true rfl⟩ rfl (At_.cons rfl (At_.cons rfl At_.nil)) (At_.cons rfl (At_.cons rfl At_.nil)) Sm_.refl rfl hl.1 (Nat.le_of_ble_eq_true rfl) ⟨Nat.zero_le _, Nat.zero_le _⟩ d_Model_isGood_56 (fun H locs hw => ?_) rfl
          refine n_bipush hC 80 d_Model_isGood_59 (by decide) ?_
          refine n_icmp_ne hC hf 106 d_Model_isGood_61 (by decide) (fun hf => ?_) (fun hf => ?_)
          · exact hj106 hf _ _ _ hw (lv_sub hl [0, 1, 2] rfl)
          · refine n_aload_n hC hl 1 d_Model_isGood_64 rfl rfl ?_
            refine n_iload_n hC hl 0 d_Model_isGood_65 rfl rfl ?_
            refine n_iconst hC 5 d_Model_isGood_66 (by decide) ?_
            refine n_iadd hC hf d_Model_isGood_67 (fun v4629 hf => ?_)
            obtain ⟨u4630, hu4630, hf⟩ := bd_s hf
            refine n_callVi hC hw fc_Model_64 (c_Model_get l g E hEe t_o t_disk_a t_sort_a t_first_a t_many_a t_name_a t_size_a t_seed_a t_scattered_a t_head_a t_follows_a t_memory_a t_thrown t_sectors t_partitions t_files t_address t_start t_fat t_clusters t_header t_found t_kernelAt t_kernelSize t_any t_disk v4629 u4630 hu4630) [0, 1] (wd_Model_isGood g t_o t_disk_a t_sort_a t_first_a t_many_a t_name_a t_size_a t_seed_a t_scattered_a t_head_a t_follows_a t_memory_a t_thrown t_sectors t_partitions t_files t_address t_start t_fat t_clusters t_header t_found t_kernelAt t_kernelSize t_any t_disk) 0 rfl ⟨rfl, rfl⟩ ⟨Nat.le_of_ble_eq_true rfl, Nat.le_of_ble_eq_true rfl⟩ rfl (At_.cons rfl (At_.cons rfl At_.nil)) (At_.cons rfl (At_.cons rfl At_.nil)) Sm_.refl rfl hl.1 (Nat.le_of_ble_eq_true rfl) ⟨Nat.zero_le _, Nat.zero_le _⟩ d_Model_isGood_68 (fun H locs hw => ?_) rfl
            refine n_bipush hC 65 d_Model_isGood_71 (by decide) ?_
            refine n_icmp_ne hC hf 106 d_Model_isGood_73 (by decide) (fun hf => ?_) (fun hf => ?_)
            · exact hj106 hf _ _ _ hw (lv_sub hl [0, 1, 2] rfl)
            · refine n_aload_n hC hl 1 d_Model_isGood_76 rfl rfl ?_
              refine n_iload_n hC hl 0 d_Model_isGood_77 rfl rfl ?_
              refine n_bipush hC 6 d_Model_isGood_78 (by decide) ?_
              refine n_iadd hC hf d_Model_isGood_80 (fun v4631 hf => ?_)
              obtain ⟨u4632, hu4632, hf⟩ := bd_s hf
              refine n_callVi hC hw fc_Model_64 (c_Model_get l g E hEe t_o t_disk_a t_sort_a t_first_a t_many_a t_name_a t_size_a t_seed_a t_scattered_a t_head_a t_follows_a t_memory_a t_thrown t_sectors t_partitions t_files t_address t_start t_fat t_clusters t_header t_found t_kernelAt t_kernelSize t_any t_disk v4631 u4632 hu4632) [0, 1] (wd_Model_isGood g t_o t_disk_a t_sort_a t_first_a t_many_a t_name_a t_size_a t_seed_a t_scattered_a t_head_a t_follows_a t_memory_a t_thrown t_sectors t_partitions t_files t_address t_start t_fat t_clusters t_header t_found t_kernelAt t_kernelSize t_any t_disk) 0 rfl ⟨rfl, rfl⟩ ⟨Nat.le_of_ble_eq_true rfl, Nat.le_of_ble_eq_true rfl⟩ rfl (At_.cons rfl (At_.cons rfl At_.nil)) (At_.cons rfl (At_.cons rfl At_.nil)) Sm_.refl rfl hl.1 (Nat.le_of_ble_eq_true rfl) ⟨Nat.zero_le _, Nat.zero_le _⟩ d_Model_isGood_81 (fun H locs hw => ?_) rfl
              refine n_bipush hC 82 d_Model_isGood_84 (by decide) ?_
              refine n_icmp_ne hC hf 106 d_Model_isGood_86 (by decide) (fun hf => ?_) (fun hf => ?_)
              · exact hj106 hf _ _ _ hw (lv_sub hl [0, 1, 2] rfl)
              · refine n_aload_n hC hl 1 d_Model_isGood_89 rfl rfl ?_
                refine n_iload_n hC hl 0 d_Model_isGood_90 rfl rfl ?_
                refine n_bipush hC 7 d_Model_isGood_91 (by decide) ?_
                refine n_iadd hC hf d_Model_isGood_93 (fun v4633 hf => ?_)
                obtain ⟨u4634, hu4634, hf⟩ := bd_s hf
                refine n_callVi hC hw fc_Model_64 (c_Model_get l g E hEe t_o t_disk_a t_sort_a t_first_a t_many_a t_name_a t_size_a t_seed_a t_scattered_a t_head_a t_follows_a t_memory_a t_thrown t_sectors t_partitions t_files t_address t_start t_fat t_clusters t_header t_found t_kernelAt t_kernelSize t_any t_disk v4633 u4634 hu4634) [0, 1] (wd_Model_isGood g t_o t_disk_a t_sort_a t_first_a t_many_a t_name_a t_size_a t_seed_a t_scattered_a t_head_a t_follows_a t_memory_a t_thrown t_sectors t_partitions t_files t_address t_start t_fat t_clusters t_header t_found t_kernelAt t_kernelSize t_any t_disk) 0 rfl ⟨rfl, rfl⟩ ⟨Nat.le_of_ble_eq_true rfl, Nat.le_of_ble_eq_true rfl⟩ rfl (At_.cons rfl (At_.cons rfl At_.nil)) (At_.cons rfl (At_.cons rfl At_.nil)) Sm_.refl rfl hl.1 (Nat.le_of_ble_eq_true rfl) ⟨Nat.zero_le _, Nat.zero_le _⟩ d_Model_isGood_94 (fun H locs hw => ?_) rfl
                refine n_bipush hC 84 d_Model_isGood_97 (by decide) ?_
                refine n_icmp_ne hC hf 106 d_Model_isGood_99 (by decide) (fun hf => ?_) (fun hf => ?_)
                · exact hj106 hf _ _ _ hw (lv_sub hl [0, 1, 2] rfl)
                · refine n_iconst hC 1 d_Model_isGood_102 (by decide) ?_
                  refine n_goto hC 107 d_Model_isGood_103 (by decide) ?_
                  exact hj107 _ hf _ _ _ hw (lv_sub hl [0, 1, 2] rfl)
def wd_Model_byTable (g : GT) (t_o : Nat) (t_disk_a : Nat) (t_sort_a : Nat) (t_first_a : Nat) (t_many_a : Nat) (t_name_a : Nat) (t_size_a : Nat) (t_seed_a : Nat) (t_scattered_a : Nat) (t_head_a : Nat) (t_follows_a : Nat) (t_memory_a : Nat) (t_thrown : Int32) (t_sectors : Int32) (t_partitions : Int32) (t_files : Int32) (t_address : Int32) (t_start : Int32) (t_fat : Int32) (t_clusters : Int32) (t_header : Int32) (t_found : Int32) (t_kernelAt : Int32) (t_kernelSize : Int32) (t_any : Int32) (t_disk : Nat → Int32) : va_W := [(t_o, .inr (7, [.int t_thrown, .int t_sectors, .ref t_disk_a, .int t_partitions, .ref t_sort_a, .ref t_first_a, .ref t_many_a, .int t_files, .ref t_name_a, .ref t_size_a, .ref t_seed_a, .ref t_scattered_a, .int t_address, .int t_start, .int t_fat, .int t_clusters, .ref t_head_a, .ref t_follows_a, .int t_header, .int t_found, .int t_kernelAt, .int t_kernelSize, .int t_any, .ref t_memory_a])), (t_disk_a, .inl (g.2.2.2.2, 307200, .inl t_disk))]
def f_Model_byTable_L118 (N : Nat) (v1398 : Int32) (t_disk : Nat → Int32) (x1329 : Int32) (k97 : Int32 → Option (Int32 × Int32 × Int32)) (t_sectors : Int32) (x1254 : Int32) (k118 : Int32 → Int32 → Option (Int32 × Int32 × Int32)) (x1420 : Int32) (x1421 : Int32) : Option (Int32 × Int32 × Int32) :=
  if (16 : Int32) ≤ x1420 then lt_ (v1398 + 32) (fun v1443 => bd_ (f_Model_lowAt N 8 v1443 t_disk) (fun u1444 => lt_ (v1398 + 40) (fun v1445 => bd_ (f_Model_lowAt N 8 v1445 t_disk) (fun u1446 => lt_ (lt_ (x1329 + 1) (fun v1453 => k97 v1453)) (fun (j234 : Option (Int32 × Int32 × Int32)) => if x1421 = 0 then j234 else lt_ (lg_cmp u1444 0) (fun v1454 => if v1454 < 0 then j234 else lt_ (lg_cmp u1446 0) (fun v1455 => if v1455 < 0 then j234 else lt_ (lg_cmp u1444 u1446) (fun v1456 => if 0 < v1456 then j234 else lt_ (t_sectors.toInt64) (fun v1457 => lt_ (lg_cmp u1446 v1457) (fun v1458 => if v1458 < 0 then lt_ (u1444.toInt32) (fun v1459 => some (0, x1254, v1459)) else j234)))))))))) else lt_ (fun (x1463 : Int32) => lt_ (x1420 + 1) (fun v1464 => k118 v1464 x1463)) (fun (j152 : Int32 → Option (Int32 × Int32 × Int32)) => lt_ (j152 0) (fun (j151 : Option (Int32 × Int32 × Int32)) => if x1421 = 0 then j151 else lt_ (v1398 + x1420) (fun v1469 => bd_ (f_Model_get t_disk v1469) (fun u1470 => bd_ (f_Model_sixteen x1420 0) (fun u1471 => if ¬ u1470 = u1471 then j151 else j152 1)))))
def f_Model_byTable_L97 (N : Nat) (x1254 : Int32) (t_found : Int32) (v1261 : Int32) (t_disk : Nat → Int32) (t_sectors : Int32) (k97 : Int32 → Option (Int32 × Int32 × Int32)) (x1329 : Int32) : Option (Int32 × Int32 × Int32) :=
  if (128 : Int32) ≤ x1329 then some (4, x1254, t_found) else lt_ ((128 : Int32) * x1329) (fun v1397 => lt_ (v1261 + v1397) (fun v1398 => lp_ (fun _ _ => none) (f_Model_byTable_L118 N v1398 t_disk x1329 k97 t_sectors x1254) N 0 1))
def f_Model_byTable (N : Nat) (t_disk : Nat → Int32) (t_sectors : Int32) (t_found : Int32) (t_header : Int32) : Option (Int32 × Int32 × Int32) :=
  bd_ (f_Model_get t_disk 450) (fun u1250 => if u1250 = (238 : Int32) then bd_ (f_Model_isGood N 1 t_disk t_sectors) (fun u1251 => lt_ (fun (x1254 : Int32) => if ¬ x1254 = 0 then lt_ (fun (x1256 : Int32) => lt_ ((512 : Int32) * x1256) (fun v1257 => lt_ (v1257 + 72) (fun v1258 => bd_ (f_Model_lowAt N 8 v1258 t_disk) (fun u1259 => lt_ (u1259.toInt32) (fun v1260 => lt_ ((512 : Int32) * v1260) (fun v1261 => lp_ (fun _ => none) (f_Model_byTable_L97 N x1254 t_found v1261 t_disk t_sectors) N 0)))))) (fun (j83 : Int32 → Option (Int32 × Int32 × Int32)) => if ¬ x1254 = (1 : Int32) then lt_ (t_sectors - 1) (fun v1472 => j83 v1472) else j83 1) else some (3, x1254, t_found)) (fun (j46 : Int32 → Option (Int32 × Int32 × Int32)) => if u1251 = 0 then lt_ (t_sectors - 1) (fun v1473 => bd_ (f_Model_isGood N v1473 t_disk t_sectors) (fun u1474 => if u1474 = 0 then j46 0 else j46 2)) else j46 1)) else some (2, t_header, t_found))
def rm_Model_byTable : Room := { frames := 3, cells := 0, slots := 0, locals := 73 }
set_option maxHeartbeats 4000000 in
set_option maxRecDepth 100000 in
theorem c_Model_byTable (l : Launch) (g : GT) (E : (Nat → Prop) → State → Prop) (hEe : Ee E) (t_o : Nat) (t_disk_a : Nat) (t_sort_a : Nat) (t_first_a : Nat) (t_many_a : Nat) (t_name_a : Nat) (t_size_a : Nat) (t_seed_a : Nat) (t_scattered_a : Nat) (t_head_a : Nat) (t_follows_a : Nat) (t_memory_a : Nat) (t_thrown : Int32) (t_sectors : Int32) (t_partitions : Int32) (t_files : Int32) (t_address : Int32) (t_start : Int32) (t_fat : Int32) (t_clusters : Int32) (t_header : Int32) (t_found : Int32) (t_kernelAt : Int32) (t_kernelSize : Int32) (t_any : Int32) (t_disk : Nat → Int32) (N : Nat) (z : Int32 × Int32 × Int32) (hf : f_Model_byTable N t_disk t_sectors t_found t_header = some z) : Cg l g E y_Model_byTable ws_Model_byTable rm_Model_byTable [.ref t_o] (wd_Model_byTable g t_o t_disk_a t_sort_a t_first_a t_many_a t_name_a t_size_a t_seed_a t_scattered_a t_head_a t_follows_a t_memory_a t_thrown t_sectors t_partitions t_files t_address t_start t_fat t_clusters t_header t_found t_kernelAt t_kernelSize t_any t_disk) (some (.int z.1)) (wd_Model_byTable g t_o t_disk_a t_sort_a t_first_a t_many_a t_name_a t_size_a t_seed_a t_scattered_a t_head_a t_follows_a t_memory_a t_thrown t_sectors t_partitions t_files t_address t_start t_fat t_clusters z.2.1 z.2.2 t_kernelAt t_kernelSize t_any t_disk) := by
  refine Ct.ofI hEe good_W (by decide) rfl (Nat.le_of_ble_eq_true rfl) ?_
  intro p e s m args below meth c A ls Q hC hw hl hret
  have hC : CX p m c b_Model_byTable 9 s args Wall R_Model g.1 classes (tK g) E A := hC
  have hl : lv_has ls 9 [(0, .ref t_o)] := hl
  unfold f_Model_byTable at hf
  refine n_aload_n hC hl 0 d_Model_byTable_0 rfl rfl ?_
  refine n_sipush hC 450 d_Model_byTable_1 (by decide) ?_
  obtain ⟨u1250, hu1250, hf⟩ := bd_s hf
  refine n_callVi hC hw fc_Model_64 (c_Model_get l g E hEe t_o t_disk_a t_sort_a t_first_a t_many_a t_name_a t_size_a t_seed_a t_scattered_a t_head_a t_follows_a t_memory_a t_thrown t_sectors t_partitions t_files t_address t_start t_fat t_clusters t_header t_found t_kernelAt t_kernelSize t_any t_disk 450 u1250 hu1250) [0, 1] (wd_Model_byTable g t_o t_disk_a t_sort_a t_first_a t_many_a t_name_a t_size_a t_seed_a t_scattered_a t_head_a t_follows_a t_memory_a t_thrown t_sectors t_partitions t_files t_address t_start t_fat t_clusters t_header t_found t_kernelAt t_kernelSize t_any t_disk) 0 rfl ⟨rfl, rfl⟩ ⟨Nat.le_of_ble_eq_true rfl, Nat.le_of_ble_eq_true rfl⟩ rfl (At_.cons rfl (At_.cons rfl At_.nil)) (At_.cons rfl (At_.cons rfl At_.nil)) Sm_.refl rfl hl.1 (Nat.le_of_ble_eq_true rfl) ⟨Nat.zero_le _, Nat.zero_le _⟩ d_Model_byTable_4 (fun H locs hw => ?_) rfl
  refine n_sipush hC 238 d_Model_byTable_7 (by decide) ?_
  refine n_icmp_eq hC hf 15 d_Model_byTable_10 (by decide) (fun hf => ?_) (fun hf => ?_)
  · refine n_aload_n hC hl 0 d_Model_byTable_15 rfl rfl ?_
    refine n_aload_n hC hl 0 d_Model_byTable_16 rfl rfl ?_
    refine n_iconst hC 1 d_Model_byTable_17 (by decide) ?_
    obtain ⟨u1251, hu1251, hf⟩ := bd_s hf
    refine n_callVi hC hw fc_Model_227 (c_Model_isGood l g E hEe t_o t_disk_a t_sort_a t_first_a t_many_a t_name_a t_size_a t_seed_a t_scattered_a t_head_a t_follows_a t_memory_a t_thrown t_sectors t_partitions t_files t_address t_start t_fat t_clusters t_header t_found t_kernelAt t_kernelSize t_any t_disk 1 N u1251 hu1251) [0, 1] (wd_Model_byTable g t_o t_disk_a t_sort_a t_first_a t_many_a t_name_a t_size_a t_seed_a t_scattered_a t_head_a t_follows_a t_memory_a t_thrown t_sectors t_partitions t_files t_address t_start t_fat t_clusters t_header t_found t_kernelAt t_kernelSize t_any t_disk) 0 rfl ⟨rfl, rfl⟩ ⟨Nat.le_of_ble_eq_true rfl, Nat.le_of_ble_eq_true rfl⟩ rfl (At_.cons rfl (At_.cons rfl At_.nil)) (At_.cons rfl (At_.cons rfl At_.nil)) Sm_.refl rfl hl.1 (Nat.le_of_ble_eq_true rfl) ⟨Nat.zero_le _, Nat.zero_le _⟩ d_Model_byTable_18 (fun H locs hw => ?_) rfl
    refine jn1 (fun (x1254 : Int32) => ∀ (H : Heap) (locs : List Loc) (ls : Array Slot), WS g.1 classes A s.heap H locs (wd_Model_byTable g t_o t_disk_a t_sort_a t_first_a t_many_a t_name_a t_size_a t_seed_a t_scattered_a t_head_a t_follows_a t_memory_a t_thrown t_sectors t_partitions t_files t_address t_start t_fat t_clusters t_header t_found t_kernelAt t_kernelSize t_any t_disk) → lv_has ls 9 [(0, .ref t_o)] → W p l e rm_Model_byTable s m args below meth c H locs 0 0 Q (F0 m 46 ls [.int x1254, .ref t_o])) hf (fun x1254 hf H locs ls hw hl => ?_) (fun j46 hj46 hf => ?_)
    · refine n_put hC hw fp_Model_215 0 (wd_Model_byTable g t_o t_disk_a t_sort_a t_first_a t_many_a t_name_a t_size_a t_seed_a t_scattered_a t_head_a t_follows_a t_memory_a t_thrown t_sectors t_partitions t_files t_address t_start t_fat t_clusters x1254 t_found t_kernelAt t_kernelSize t_any t_disk) rfl rfl rfl (Nat.le_of_ble_eq_true rfl) d_Model_byTable_46 rfl (fun H locs hw => ?_)
      refine n_aload_n hC hl 0 d_Model_byTable_49 rfl rfl ?_
      refine n_get hC hw fg_Model_215 0 rfl rfl d_Model_byTable_50 ?_
      refine n_if_ne hC hf 58 d_Model_byTable_53 (by decide) (fun hf => ?_) (fun hf => ?_)
      · refine n_sipush hC 512 d_Model_byTable_58 (by decide) ?_
        refine n_aload_n hC hl 0 d_Model_byTable_61 rfl rfl ?_
        refine n_sipush hC 512 d_Model_byTable_62 (by decide) ?_
        refine n_aload_n hC hl 0 d_Model_byTable_65 rfl rfl ?_
        refine n_get hC hw fg_Model_215 0 rfl rfl d_Model_byTable_66 ?_
        refine n_iconst hC 1 d_Model_byTable_69 (by decide) ?_
        refine jn1 (fun (x1256 : Int32) => ∀ (H : Heap) (locs : List Loc) (ls : Array Slot), WS g.1 classes A s.heap H locs (wd_Model_byTable g t_o t_disk_a t_sort_a t_first_a t_many_a t_name_a t_size_a t_seed_a t_scattered_a t_head_a t_follows_a t_memory_a t_thrown t_sectors t_partitions t_files t_address t_start t_fat t_clusters x1254 t_found t_kernelAt t_kernelSize t_any t_disk) → lv_has ls 9 [(0, .ref t_o)] → W p l e rm_Model_byTable s m args below meth c H locs 0 0 Q (F0 m 83 ls [.int x1256, .int 512, .ref t_o, .int 512])) hf (fun x1256 hf H locs ls hw hl => ?_) (fun j83 hj83 hf => ?_)
        · refine n_imul hC hf d_Model_byTable_83 (fun v1257 hf => ?_)
          refine n_bipush hC 72 d_Model_byTable_84 (by decide) ?_
          refine n_iadd hC hf d_Model_byTable_86 (fun v1258 hf => ?_)
          refine n_bipush hC 8 d_Model_byTable_87 (by decide) ?_
          obtain ⟨u1259, hu1259, hf⟩ := bd_s hf
          refine n_callVl hC hw fc_Model_162 (c_Model_lowAt l g E hEe t_o t_disk_a t_sort_a t_first_a t_many_a t_name_a t_size_a t_seed_a t_scattered_a t_head_a t_follows_a t_memory_a t_thrown t_sectors t_partitions t_files t_address t_start t_fat t_clusters x1254 t_found t_kernelAt t_kernelSize t_any t_disk v1258 8 N u1259 hu1259) [0, 1] (wd_Model_byTable g t_o t_disk_a t_sort_a t_first_a t_many_a t_name_a t_size_a t_seed_a t_scattered_a t_head_a t_follows_a t_memory_a t_thrown t_sectors t_partitions t_files t_address t_start t_fat t_clusters x1254 t_found t_kernelAt t_kernelSize t_any t_disk) 0 rfl ⟨rfl, rfl⟩ ⟨Nat.le_of_ble_eq_true rfl, Nat.le_of_ble_eq_true rfl⟩ rfl (At_.cons rfl (At_.cons rfl At_.nil)) (At_.cons rfl (At_.cons rfl At_.nil)) Sm_.refl rfl hl.1 (Nat.le_of_ble_eq_true rfl) ⟨Nat.zero_le _, Nat.zero_le _⟩ d_Model_byTable_89 (fun H locs hw => ?_) rfl
          refine n_l2i hC hf d_Model_byTable_92 (fun v1260 hf => ?_)
          refine n_imul hC hf d_Model_byTable_93 (fun v1261 hf => ?_)
          refine n_istore_n hC [(1, .int v1261), (0, .ref t_o)] hl d_Model_byTable_94 rfl (by decide) rfl (fun ls hl => ?_)
          refine n_iconst hC 0 d_Model_byTable_95 (by decide) ?_
          refine n_istore_n hC [(2, .int 0), (1, .int v1261), (0, .ref t_o)] hl d_Model_byTable_96 rfl (by decide) rfl (fun ls hl => ?_)
          have hL97 := lw1 (B := f_Model_byTable_L97 N x1254 t_found v1261 t_disk t_sectors) (z := z) (fun (x1329 : Int32) => ∀ (H : Heap) (locs : List Loc) (ls : Array Slot), WS g.1 classes A s.heap H locs (wd_Model_byTable g t_o t_disk_a t_sort_a t_first_a t_many_a t_name_a t_size_a t_seed_a t_scattered_a t_head_a t_follows_a t_memory_a t_thrown t_sectors t_partitions t_files t_address t_start t_fat t_clusters x1254 t_found t_kernelAt t_kernelSize t_any t_disk) → lv_has ls 9 [(2, .int x1329), (1, .int v1261), (0, .ref t_o)] → W p l e rm_Model_byTable s m args below meth c H locs 0 0 Q (F0 m 97 ls [])) (by
            intro k97 hk97 x1329 hf H locs ls hw hl
            unfold f_Model_byTable_L97 at hf
            refine n_iload_n hC hl 0 d_Model_byTable_97 rfl rfl ?_
            refine n_sipush hC 128 d_Model_byTable_98 (by decide) ?_
            refine n_icmp_ge hC hf 240 d_Model_byTable_101 (by decide) (fun hf => ?_) (fun hf => ?_)
            · refine n_iconst hC 4 d_Model_byTable_240 (by decide) ?_
              cases hf
              exact hret _ _ _ _ hw (show narrow .int (Value.int 4) = Value.int 4 from rfl) d_Model_byTable_241
            · refine n_iload_n hC hl 1 d_Model_byTable_104 rfl rfl ?_
              refine n_sipush hC 128 d_Model_byTable_105 (by decide) ?_
              refine n_iload_n hC hl 0 d_Model_byTable_108 rfl rfl ?_
              refine n_imul hC hf d_Model_byTable_109 (fun v1397 hf => ?_)
              refine n_iadd hC hf d_Model_byTable_110 (fun v1398 hf => ?_)
              refine n_istore_n hC [(3, .int v1398), (2, .int x1329), (1, .int v1261), (0, .ref t_o)] hl d_Model_byTable_111 rfl (by decide) rfl (fun ls hl => ?_)
              refine n_iconst hC 1 d_Model_byTable_112 (by decide) ?_
              refine n_istore hC [(4, .int 1), (3, .int v1398), (2, .int x1329), (1, .int v1261), (0, .ref t_o)] hl d_Model_byTable_113 (by decide) rfl (fun ls hl => ?_)
              refine n_iconst hC 0 d_Model_byTable_115 (by decide) ?_
              refine n_istore hC [(5, .int 0), (4, .int 1), (3, .int v1398), (2, .int x1329), (1, .int v1261), (0, .ref t_o)] hl d_Model_byTable_116 (by decide) rfl (fun ls hl => ?_)
              have hL118 := lw2 (B := f_Model_byTable_L118 N v1398 t_disk x1329 k97 t_sectors x1254) (z := z) (fun (x1420 : Int32) (x1421 : Int32) => ∀ (H : Heap) (locs : List Loc) (ls : Array Slot), WS g.1 classes A s.heap H locs (wd_Model_byTable g t_o t_disk_a t_sort_a t_first_a t_many_a t_name_a t_size_a t_seed_a t_scattered_a t_head_a t_follows_a t_memory_a t_thrown t_sectors t_partitions t_files t_address t_start t_fat t_clusters x1254 t_found t_kernelAt t_kernelSize t_any t_disk) → lv_has ls 9 [(5, .int x1420), (4, .int x1421), (3, .int v1398), (2, .int x1329), (1, .int v1261), (0, .ref t_o)] → W p l e rm_Model_byTable s m args below meth c H locs 0 0 Q (F0 m 118 ls [])) (by
                intro k118 hk118 x1420 x1421 hf H locs ls hw hl
                unfold f_Model_byTable_L118 at hf
                refine n_iload hC hl 0 d_Model_byTable_118 rfl ?_
                refine n_bipush hC 16 d_Model_byTable_120 (by decide) ?_
                refine n_icmp_ge hC hf 160 d_Model_byTable_122 (by decide) (fun hf => ?_) (fun hf => ?_)
                · refine n_aload_n hC hl 5 d_Model_byTable_160 rfl rfl ?_
                  refine n_iload_n hC hl 2 d_Model_byTable_161 rfl rfl ?_
                  refine n_bipush hC 32 d_Model_byTable_162 (by decide) ?_
                  refine n_iadd hC hf d_Model_byTable_164 (fun v1443 hf => ?_)
                  refine n_bipush hC 8 d_Model_byTable_165 (by decide) ?_
                  obtain ⟨u1444, hu1444, hf⟩ := bd_s hf
                  refine n_callVl hC hw fc_Model_162 (c_Model_lowAt l g E hEe t_o t_disk_a t_sort_a t_first_a t_many_a t_name_a t_size_a t_seed_a t_scattered_a t_head_a t_follows_a t_memory_a t_thrown t_sectors t_partitions t_files t_address t_start t_fat t_clusters x1254 t_found t_kernelAt t_kernelSize t_any t_disk v1443 8 N u1444 hu1444) [0, 1] (wd_Model_byTable g t_o t_disk_a t_sort_a t_first_a t_many_a t_name_a t_size_a t_seed_a t_scattered_a t_head_a t_follows_a t_memory_a t_thrown t_sectors t_partitions t_files t_address t_start t_fat t_clusters x1254 t_found t_kernelAt t_kernelSize t_any t_disk) 0 rfl ⟨rfl, rfl⟩ ⟨Nat.le_of_ble_eq_true rfl, Nat.le_of_ble_eq_true rfl⟩ rfl (At_.cons rfl (At_.cons rfl At_.nil)) (At_.cons rfl (At_.cons rfl At_.nil)) Sm_.refl rfl hl.1 (Nat.le_of_ble_eq_true rfl) ⟨Nat.zero_le _, Nat.zero_le _⟩ d_Model_byTable_167 (fun H locs hw => ?_) rfl
                  refine n_lstore hC [(5, .long u1444), (4, .int x1421), (3, .int v1398), (2, .int x1329), (1, .int v1261), (0, .ref t_o)] hl d_Model_byTable_170 (by decide) rfl (fun ls hl => ?_)
                  refine n_aload_n hC hl 5 d_Model_byTable_172 rfl rfl ?_
                  refine n_iload_n hC hl 2 d_Model_byTable_173 rfl rfl ?_
                  refine n_bipush hC 40 d_Model_byTable_174 (by decide) ?_
                  refine n_iadd hC hf d_Model_byTable_176 (fun v1445 hf => ?_)
                  refine n_bipush hC 8 d_Model_byTable_177 (by decide) ?_
                  obtain ⟨u1446, hu1446, hf⟩ := bd_s hf
                  refine n_callVl hC hw fc_Model_162 (c_Model_lowAt l g E hEe t_o t_disk_a t_sort_a t_first_a t_many_a t_name_a t_size_a t_seed_a t_scattered_a t_head_a t_follows_a t_memory_a t_thrown t_sectors t_partitions t_files t_address t_start t_fat t_clusters x1254 t_found t_kernelAt t_kernelSize t_any t_disk v1445 8 N u1446 hu1446) [0, 1] (wd_Model_byTable g t_o t_disk_a t_sort_a t_first_a t_many_a t_name_a t_size_a t_seed_a t_scattered_a t_head_a t_follows_a t_memory_a t_thrown t_sectors t_partitions t_files t_address t_start t_fat t_clusters x1254 t_found t_kernelAt t_kernelSize t_any t_disk) 0 rfl ⟨rfl, rfl⟩ ⟨Nat.le_of_ble_eq_true rfl, Nat.le_of_ble_eq_true rfl⟩ rfl (At_.cons rfl (At_.cons rfl At_.nil)) (At_.cons rfl (At_.cons rfl At_.nil)) Sm_.refl rfl hl.1 (Nat.le_of_ble_eq_true rfl) ⟨Nat.zero_le _, Nat.zero_le _⟩ d_Model_byTable_179 (fun H locs hw => ?_) rfl
                  refine n_lstore hC [(7, .long u1446), (5, .long u1444), (4, .int x1421), (3, .int v1398), (2, .int x1329), (1, .int v1261), (0, .ref t_o)] hl d_Model_byTable_182 (by decide) rfl (fun ls hl => ?_)
                  refine n_iload hC hl 2 d_Model_byTable_184 rfl ?_
                  refine jn0 (∀ (H : Heap) (locs : List Loc) (ls : Array Slot), WS g.1 classes A s.heap H locs (wd_Model_byTable g t_o t_disk_a t_sort_a t_first_a t_many_a t_name_a t_size_a t_seed_a t_scattered_a t_head_a t_follows_a t_memory_a t_thrown t_sectors t_partitions t_files t_address t_start t_fat t_clusters x1254 t_found t_kernelAt t_kernelSize t_any t_disk) → lv_has ls 9 [(2, .int x1329), (1, .int v1261), (0, .ref t_o)] → W p l e rm_Model_byTable s m args below meth c H locs 0 0 Q (F0 m 234 ls [])) hf (fun hf H locs ls hw hl => ?_) (fun j234 hj234 hf => ?_)
                  · refine n_iinc hC (k := 0) hf (by decide) (fun v1453 => [(2, .int v1453), (1, .int v1261), (0, .ref t_o)]) hl d_Model_byTable_234 rfl (by decide) (fun _ => rfl) (fun v1453 ls hf hl => ?_)
                    refine n_goto hC 97 d_Model_byTable_237 (by decide) ?_
                    exact hk97 _ hf _ _ _ hw (lv_sub hl [0, 1, 2] rfl)
                  refine n_if_eq hC hf 234 d_Model_byTable_186 (by decide) (fun hf => ?_) (fun hf => ?_)
                  · exact hj234 hf _ _ _ hw (lv_sub hl [4, 5, 6] rfl)
                  · refine n_lload hC hl 1 d_Model_byTable_189 rfl ?_
                    refine n_lconst hC 0 d_Model_byTable_191 (by decide) ?_
                    refine n_lcmp hC hf d_Model_byTable_192 (fun v1454 hf => ?_)
                    refine n_if_lt hC hf 234 d_Model_byTable_193 (by decide) (fun hf => ?_) (fun hf => ?_)
                    · exact hj234 hf _ _ _ hw (lv_sub hl [4, 5, 6] rfl)
                    · refine n_lload hC hl 0 d_Model_byTable_196 rfl ?_
                      refine n_lconst hC 0 d_Model_byTable_198 (by decide) ?_
                      refine n_lcmp hC hf d_Model_byTable_199 (fun v1455 hf => ?_)
                      refine n_if_lt hC hf 234 d_Model_byTable_200 (by decide) (fun hf => ?_) (fun hf => ?_)
                      · exact hj234 hf _ _ _ hw (lv_sub hl [4, 5, 6] rfl)
                      · refine n_lload hC hl 1 d_Model_byTable_203 rfl ?_
                        refine n_lload hC hl 0 d_Model_byTable_205 rfl ?_
                        refine n_lcmp hC hf d_Model_byTable_207 (fun v1456 hf => ?_)
                        refine n_if_gt hC hf 234 d_Model_byTable_208 (by decide) (fun hf => ?_) (fun hf => ?_)
                        · exact hj234 hf _ _ _ hw (lv_sub hl [4, 5, 6] rfl)
                        · refine n_lload hC hl 0 d_Model_byTable_211 rfl ?_
                          refine n_aload_n hC hl 6 d_Model_byTable_213 rfl rfl ?_
                          refine n_get hC hw fg_Model_48 0 rfl rfl d_Model_byTable_214 ?_
                          refine n_i2l hC hf d_Model_byTable_217 (fun v1457 hf => ?_)
                          refine n_lcmp hC hf d_Model_byTable_218 (fun v1458 hf => ?_)
                          refine n_if_lt hC hf 225 d_Model_byTable_219 (by decide) (fun hf => ?_) (fun hf => ?_)
                          · refine n_aload_n hC hl 6 d_Model_byTable_225 rfl rfl ?_
                            refine n_lload hC hl 1 d_Model_byTable_226 rfl ?_
                            refine n_l2i hC hf d_Model_byTable_228 (fun v1459 hf => ?_)
                            refine n_put hC hw fp_Model_52 0 (wd_Model_byTable g t_o t_disk_a t_sort_a t_first_a t_many_a t_name_a t_size_a t_seed_a t_scattered_a t_head_a t_follows_a t_memory_a t_thrown t_sectors t_partitions t_files t_address t_start t_fat t_clusters x1254 v1459 t_kernelAt t_kernelSize t_any t_disk) rfl rfl rfl (Nat.le_of_ble_eq_true rfl) d_Model_byTable_229 rfl (fun H locs hw => ?_)
                            refine n_iconst hC 0 d_Model_byTable_232 (by decide) ?_
                            cases hf
                            exact hret _ _ _ _ hw (show narrow .int (Value.int 0) = Value.int 0 from rfl) d_Model_byTable_233
                          · refine n_goto hC 234 d_Model_byTable_222 (by decide) ?_
                            exact hj234 hf _ _ _ hw (lv_sub hl [4, 5, 6] rfl)
                · refine n_iload hC hl 1 d_Model_byTable_125 rfl ?_
                  refine jn1 (fun (x1463 : Int32) => ∀ (H : Heap) (locs : List Loc) (ls : Array Slot), WS g.1 classes A s.heap H locs (wd_Model_byTable g t_o t_disk_a t_sort_a t_first_a t_many_a t_name_a t_size_a t_seed_a t_scattered_a t_head_a t_follows_a t_memory_a t_thrown t_sectors t_partitions t_files t_address t_start t_fat t_clusters x1254 t_found t_kernelAt t_kernelSize t_any t_disk) → lv_has ls 9 [(5, .int x1420), (3, .int v1398), (2, .int x1329), (1, .int v1261), (0, .ref t_o)] → W p l e rm_Model_byTable s m args below meth c H locs 0 0 Q (F0 m 152 ls [.int x1463])) hf (fun x1463 hf H locs ls hw hl => ?_) (fun j152 hj152 hf => ?_)
                  · refine n_istore hC [(4, .int x1463), (5, .int x1420), (3, .int v1398), (2, .int x1329), (1, .int v1261), (0, .ref t_o)] hl d_Model_byTable_152 (by decide) rfl (fun ls hl => ?_)
                    refine n_iinc hC (k := 1) hf (by decide) (fun v1464 => [(5, .int v1464), (4, .int x1463), (3, .int v1398), (2, .int x1329), (1, .int v1261), (0, .ref t_o)]) hl d_Model_byTable_154 rfl (by decide) (fun _ => rfl) (fun v1464 ls hf hl => ?_)
                    refine n_goto hC 118 d_Model_byTable_157 (by decide) ?_
                    exact hk118 _ _ hf _ _ _ hw (lv_sub hl [0, 1, 2, 3, 4, 5] rfl)
                  refine jn0 (∀ (H : Heap) (locs : List Loc) (ls : Array Slot), WS g.1 classes A s.heap H locs (wd_Model_byTable g t_o t_disk_a t_sort_a t_first_a t_many_a t_name_a t_size_a t_seed_a t_scattered_a t_head_a t_follows_a t_memory_a t_thrown t_sectors t_partitions t_files t_address t_start t_fat t_clusters x1254 t_found t_kernelAt t_kernelSize t_any t_disk) → lv_has ls 9 [(5, .int x1420), (3, .int v1398), (2, .int x1329), (1, .int v1261), (0, .ref t_o)] → W p l e rm_Model_byTable s m args below meth c H locs 0 0 Q (F0 m 151 ls [])) hf (fun hf H locs ls hw hl => ?_) (fun j151 hj151 hf => ?_)
                  · refine n_iconst hC 0 d_Model_byTable_151 (by decide) ?_
                    exact hj152 _ hf _ _ _ hw (lv_sub hl [0, 1, 2, 3, 4] rfl)
                  refine n_if_eq hC hf 151 d_Model_byTable_127 (by decide) (fun hf => ?_) (fun hf => ?_)
                  · exact hj151 hf _ _ _ hw (lv_sub hl [0, 2, 3, 4, 5] rfl)
                  · refine n_aload_n hC hl 5 d_Model_byTable_130 rfl rfl ?_
                    refine n_iload_n hC hl 2 d_Model_byTable_131 rfl rfl ?_
                    refine n_iload hC hl 0 d_Model_byTable_132 rfl ?_
                    refine n_iadd hC hf d_Model_byTable_134 (fun v1469 hf => ?_)
                    obtain ⟨u1470, hu1470, hf⟩ := bd_s hf
                    refine n_callVi hC hw fc_Model_64 (c_Model_get l g E hEe t_o t_disk_a t_sort_a t_first_a t_many_a t_name_a t_size_a t_seed_a t_scattered_a t_head_a t_follows_a t_memory_a t_thrown t_sectors t_partitions t_files t_address t_start t_fat t_clusters x1254 t_found t_kernelAt t_kernelSize t_any t_disk v1469 u1470 hu1470) [0, 1] (wd_Model_byTable g t_o t_disk_a t_sort_a t_first_a t_many_a t_name_a t_size_a t_seed_a t_scattered_a t_head_a t_follows_a t_memory_a t_thrown t_sectors t_partitions t_files t_address t_start t_fat t_clusters x1254 t_found t_kernelAt t_kernelSize t_any t_disk) 0 rfl ⟨rfl, rfl⟩ ⟨Nat.le_of_ble_eq_true rfl, Nat.le_of_ble_eq_true rfl⟩ rfl (At_.cons rfl (At_.cons rfl At_.nil)) (At_.cons rfl (At_.cons rfl At_.nil)) Sm_.refl rfl hl.1 (Nat.le_of_ble_eq_true rfl) ⟨Nat.zero_le _, Nat.zero_le _⟩ d_Model_byTable_135 (fun H locs hw => ?_) rfl
                    refine n_iconst hC 0 d_Model_byTable_138 (by decide) ?_
                    refine n_iload hC hl 0 d_Model_byTable_139 rfl ?_
                    obtain ⟨u1471, hu1471, hf⟩ := bd_s hf
                    refine n_callSi hC hw fc_Model_181 (c_Model_sixteen l g E hEe 0 x1420 u1471 hu1471) [] (wd_Model_byTable g t_o t_disk_a t_sort_a t_first_a t_many_a t_name_a t_size_a t_seed_a t_scattered_a t_head_a t_follows_a t_memory_a t_thrown t_sectors t_partitions t_files t_address t_start t_fat t_clusters x1254 t_found t_kernelAt t_kernelSize t_any t_disk) ⟨rfl, rfl⟩ ⟨Nat.le_of_ble_eq_true rfl, Nat.le_of_ble_eq_true rfl⟩ rfl At_.nil At_.nil Sm_.refl rfl hl.1 (Nat.le_of_ble_eq_true rfl) ⟨Nat.zero_le _, Nat.zero_le _⟩ d_Model_byTable_141 (fun H locs hw => ?_) rfl
                    refine n_icmp_ne hC hf 151 d_Model_byTable_144 (by decide) (fun hf => ?_) (fun hf => ?_)
                    · exact hj151 hf _ _ _ hw (lv_sub hl [0, 2, 3, 4, 5] rfl)
                    · refine n_iconst hC 1 d_Model_byTable_147 (by decide) ?_
                      refine n_goto hC 152 d_Model_byTable_148 (by decide) ?_
                      exact hj152 _ hf _ _ _ hw (lv_sub hl [0, 2, 3, 4, 5] rfl)
                )
              exact hL118 N _ _ hf _ _ _ hw (lv_sub hl [0, 1, 2, 3, 4, 5] rfl)
            )
          exact hL97 N _ hf _ _ _ hw (lv_sub hl [0, 1, 2] rfl)
        refine n_icmp_ne hC hf 77 d_Model_byTable_70 (by decide) (fun hf => ?_) (fun hf => ?_)
        · refine n_aload_n hC hl 0 d_Model_byTable_77 rfl rfl ?_
          refine n_get hC hw fg_Model_48 0 rfl rfl d_Model_byTable_78 ?_
          refine n_iconst hC 1 d_Model_byTable_81 (by decide) ?_
          refine n_isub hC hf d_Model_byTable_82 (fun v1472 hf => ?_)
          exact hj83 _ hf _ _ _ hw (lv_sub hl [0] rfl)
        · refine n_iconst hC 1 d_Model_byTable_73 (by decide) ?_
          refine n_goto hC 83 d_Model_byTable_74 (by decide) ?_
          exact hj83 _ hf _ _ _ hw (lv_sub hl [0] rfl)
      · refine n_iconst hC 3 d_Model_byTable_56 (by decide) ?_
        cases hf
        exact hret _ _ _ _ hw (show narrow .int (Value.int 3) = Value.int 3 from rfl) d_Model_byTable_57
    refine n_if_eq hC hf 28 d_Model_byTable_21 (by decide) (fun hf => ?_) (fun hf => ?_)
    · refine n_aload_n hC hl 0 d_Model_byTable_28 rfl rfl ?_
      refine n_aload_n hC hl 0 d_Model_byTable_29 rfl rfl ?_
      refine n_get hC hw fg_Model_48 0 rfl rfl d_Model_byTable_30 ?_
      refine n_iconst hC 1 d_Model_byTable_33 (by decide) ?_
      refine n_isub hC hf d_Model_byTable_34 (fun v1473 hf => ?_)
      obtain ⟨u1474, hu1474, hf⟩ := bd_s hf
      refine n_callVi hC hw fc_Model_227 (c_Model_isGood l g E hEe t_o t_disk_a t_sort_a t_first_a t_many_a t_name_a t_size_a t_seed_a t_scattered_a t_head_a t_follows_a t_memory_a t_thrown t_sectors t_partitions t_files t_address t_start t_fat t_clusters t_header t_found t_kernelAt t_kernelSize t_any t_disk v1473 N u1474 hu1474) [0, 1] (wd_Model_byTable g t_o t_disk_a t_sort_a t_first_a t_many_a t_name_a t_size_a t_seed_a t_scattered_a t_head_a t_follows_a t_memory_a t_thrown t_sectors t_partitions t_files t_address t_start t_fat t_clusters t_header t_found t_kernelAt t_kernelSize t_any t_disk) 0 rfl ⟨rfl, rfl⟩ ⟨Nat.le_of_ble_eq_true rfl, Nat.le_of_ble_eq_true rfl⟩ rfl (At_.cons rfl (At_.cons rfl At_.nil)) (At_.cons rfl (At_.cons rfl At_.nil)) Sm_.refl rfl hl.1 (Nat.le_of_ble_eq_true rfl) ⟨Nat.zero_le _, Nat.zero_le _⟩ d_Model_byTable_35 (fun H locs hw => ?_) rfl
      refine n_if_eq hC hf 45 d_Model_byTable_38 (by decide) (fun hf => ?_) (fun hf => ?_)
      · refine n_iconst hC 0 d_Model_byTable_45 (by decide) ?_
        exact hj46 _ hf _ _ _ hw (lv_sub hl [0] rfl)
      · refine n_iconst hC 2 d_Model_byTable_41 (by decide) ?_
        refine n_goto hC 46 d_Model_byTable_42 (by decide) ?_
        exact hj46 _ hf _ _ _ hw (lv_sub hl [0] rfl)
    · refine n_iconst hC 1 d_Model_byTable_24 (by decide) ?_
      refine n_goto hC 46 d_Model_byTable_25 (by decide) ?_
      exact hj46 _ hf _ _ _ hw (lv_sub hl [0] rfl)
  · refine n_iconst hC 2 d_Model_byTable_13 (by decide) ?_
    cases hf
    exact hret _ _ _ _ hw (show narrow .int (Value.int 2) = Value.int 2 from rfl) d_Model_byTable_14
