def wd_BootMaker_partition (g : GT) (t_o : Nat) (p_o : Nat) (p_sorts_a : Nat) (p_starts_a : Nat) (p_lengths_a : Nat) (d_o : Nat) (u_o : Nat) (w_o : Nat) (f_o : Nat) (p_names_a : Nat) (p_sizes_a : Nat) (p_seeds_a : Nat) (p_scattered_a : Nat) (p_lastUsable : Int32) (p_partitions : Int32) (p_files : Int32) (p_kernelAddress : Int32) (p_sorts : Nat → Int32) (p_starts : Nat → Int32) (p_lengths : Nat → Int32) : va_W := [(t_o, .inr (6, [.ref d_o, .ref u_o, .ref p_o, .ref w_o, .ref f_o])), (p_o, .inr (2, [.int p_lastUsable, .ref p_sorts_a, .ref p_starts_a, .ref p_lengths_a, .int p_partitions, .ref p_names_a, .ref p_sizes_a, .ref p_seeds_a, .ref p_scattered_a, .int p_files, .int p_kernelAddress])), (p_sorts_a, .inl (g.2.1, 4, .inl p_sorts)), (p_starts_a, .inl (g.2.1, 4, .inl p_starts)), (p_lengths_a, .inl (g.2.1, 4, .inl p_lengths))]
def f_BootMaker_partition (a2 : Int32) (p_partitions : Int32) (p_sorts : Nat → Int32) (p_starts : Nat → Int32) (p_lengths : Nat → Int32) (p_lastUsable : Int32) (a1 : Int32) : Option (Int32 × Int32 × (Nat → Int32) × (Nat → Int32) × (Nat → Int32)) :=
  bd_ (f_Plan_addPartition a2 p_partitions p_sorts p_starts p_lengths p_lastUsable a1) (fun u2 => some (u2.1, u2.2.1, u2.2.2.1, u2.2.2.2.1, u2.2.2.2.2))
def rm_BootMaker_partition : Room := { frames := 2, cells := 0, slots := 0, locals := 44 }
set_option maxHeartbeats 4000000 in
set_option maxRecDepth 100000 in
theorem c_BootMaker_partition (l : Launch) (g : GT) (E : (Nat → Prop) → State → Prop) (hEe : Ee E) (t_o : Nat) (p_o : Nat) (p_sorts_a : Nat) (p_starts_a : Nat) (p_lengths_a : Nat) (d_o : Nat) (u_o : Nat) (w_o : Nat) (f_o : Nat) (p_names_a : Nat) (p_sizes_a : Nat) (p_seeds_a : Nat) (p_scattered_a : Nat) (p_lastUsable : Int32) (p_partitions : Int32) (p_files : Int32) (p_kernelAddress : Int32) (p_sorts : Nat → Int32) (p_starts : Nat → Int32) (p_lengths : Nat → Int32) (a1 : Int32) (a2 : Int32) (z : Int32 × Int32 × (Nat → Int32) × (Nat → Int32) × (Nat → Int32)) (hf : f_BootMaker_partition a2 p_partitions p_sorts p_starts p_lengths p_lastUsable a1 = some z) : Cg l g E y_BootMaker_partition ws_BootMaker_partition rm_BootMaker_partition [.ref t_o, .int a1, .int a2] (wd_BootMaker_partition g t_o p_o p_sorts_a p_starts_a p_lengths_a d_o u_o w_o f_o p_names_a p_sizes_a p_seeds_a p_scattered_a p_lastUsable p_partitions p_files p_kernelAddress p_sorts p_starts p_lengths) (some (.int z.1)) (wd_BootMaker_partition g t_o p_o p_sorts_a p_starts_a p_lengths_a d_o u_o w_o f_o p_names_a p_sizes_a p_seeds_a p_scattered_a p_lastUsable z.2.1 p_files p_kernelAddress z.2.2.1 z.2.2.2.1 z.2.2.2.2) := by
  refine Ct.ofI hEe good_W (by decide) rfl (Nat.le_of_ble_eq_true rfl) ?_
  intro p e s m args below meth c A ls Q hC hw hl hret
  have hC : CX p m c b_BootMaker_partition 3 s args Wall R_BootMaker g.1 classes (tK g) E A := hC
  have hl : lv_has ls 3 [(0, .ref t_o), (1, .int a1), (2, .int a2)] := hl
  unfold f_BootMaker_partition at hf
  refine n_aload_n hC hl 0 d_BootMaker_partition_0 rfl rfl ?_
  refine n_get hC hw fg_BootMaker_28 0 rfl rfl d_BootMaker_partition_1 ?_
  refine n_iload_n hC hl 1 d_BootMaker_partition_4 rfl rfl ?_
  refine n_iload_n hC hl 2 d_BootMaker_partition_5 rfl rfl ?_
  obtain ⟨u2, hu2, hf⟩ := bd_s hf
  refine n_callVi hC hw fc_BootMaker_50 (c_Plan_addPartition l g E hEe p_o p_sorts_a p_starts_a p_lengths_a p_names_a p_sizes_a p_seeds_a p_scattered_a p_lastUsable p_partitions p_files p_kernelAddress p_sorts p_starts p_lengths a1 a2 u2 hu2) [1, 2, 3, 4] (wd_BootMaker_partition g t_o p_o p_sorts_a p_starts_a p_lengths_a d_o u_o w_o f_o p_names_a p_sizes_a p_seeds_a p_scattered_a p_lastUsable u2.2.1 p_files p_kernelAddress u2.2.2.1 u2.2.2.2.1 u2.2.2.2.2) 1 rfl ⟨rfl, rfl⟩ ⟨Nat.le_of_ble_eq_true rfl, Nat.le_of_ble_eq_true rfl⟩ rfl (At_.cons rfl (At_.cons rfl (At_.cons rfl (At_.cons rfl At_.nil)))) (At_.cons rfl (At_.cons rfl (At_.cons rfl (At_.cons rfl At_.nil)))) (Sm_.keep (Sm_.upd rfl (Sm_.upd rfl (Sm_.upd rfl (Sm_.upd rfl Sm_.nil))))) rfl hl.1 (Nat.le_of_ble_eq_true rfl) ⟨Nat.zero_le _, Nat.zero_le _⟩ d_BootMaker_partition_6 (fun H locs hw => ?_) rfl
  cases hf
  exact hret _ _ _ _ hw (show narrow .int (Value.int u2.1) = Value.int u2.1 from rfl) d_BootMaker_partition_9
def wd_BootMaker_where (g : GT) (t_o : Nat) (p_o : Nat) (p_sorts_a : Nat) (p_starts_a : Nat) (p_lengths_a : Nat) (d_o : Nat) (u_o : Nat) (w_o : Nat) (f_o : Nat) (p_names_a : Nat) (p_sizes_a : Nat) (p_seeds_a : Nat) (p_scattered_a : Nat) (p_lastUsable : Int32) (p_partitions : Int32) (p_files : Int32) (p_kernelAddress : Int32) (p_sorts : Nat → Int32) (p_starts : Nat → Int32) (p_lengths : Nat → Int32) : va_W := [(t_o, .inr (6, [.ref d_o, .ref u_o, .ref p_o, .ref w_o, .ref f_o])), (p_o, .inr (2, [.int p_lastUsable, .ref p_sorts_a, .ref p_starts_a, .ref p_lengths_a, .int p_partitions, .ref p_names_a, .ref p_sizes_a, .ref p_seeds_a, .ref p_scattered_a, .int p_files, .int p_kernelAddress])), (p_sorts_a, .inl (g.2.1, 4, .inl p_sorts)), (p_starts_a, .inl (g.2.1, 4, .inl p_starts)), (p_lengths_a, .inl (g.2.1, 4, .inl p_lengths))]
def f_BootMaker_where (a1 : Int32) (p_partitions : Int32) (a2 : Int32) (p_starts : Nat → Int32) (p_lengths : Nat → Int32) (p_sorts : Nat → Int32) : Option (Int32) :=
  bd_ (f_Plan_tellPartition a1 p_partitions a2 p_starts p_lengths p_sorts) (fun u2 => some (u2))
def rm_BootMaker_where : Room := { frames := 1, cells := 0, slots := 0, locals := 22 }
set_option maxHeartbeats 4000000 in
set_option maxRecDepth 100000 in
theorem c_BootMaker_where (l : Launch) (g : GT) (E : (Nat → Prop) → State → Prop) (hEe : Ee E) (t_o : Nat) (p_o : Nat) (p_sorts_a : Nat) (p_starts_a : Nat) (p_lengths_a : Nat) (d_o : Nat) (u_o : Nat) (w_o : Nat) (f_o : Nat) (p_names_a : Nat) (p_sizes_a : Nat) (p_seeds_a : Nat) (p_scattered_a : Nat) (p_lastUsable : Int32) (p_partitions : Int32) (p_files : Int32) (p_kernelAddress : Int32) (p_sorts : Nat → Int32) (p_starts : Nat → Int32) (p_lengths : Nat → Int32) (a1 : Int32) (a2 : Int32) (z : Int32) (hf : f_BootMaker_where a1 p_partitions a2 p_starts p_lengths p_sorts = some z) : Cg l g E y_BootMaker_where ws_BootMaker_where rm_BootMaker_where [.ref t_o, .int a1, .int a2] (wd_BootMaker_where g t_o p_o p_sorts_a p_starts_a p_lengths_a d_o u_o w_o f_o p_names_a p_sizes_a p_seeds_a p_scattered_a p_lastUsable p_partitions p_files p_kernelAddress p_sorts p_starts p_lengths) (some (.int z)) (wd_BootMaker_where g t_o p_o p_sorts_a p_starts_a p_lengths_a d_o u_o w_o f_o p_names_a p_sizes_a p_seeds_a p_scattered_a p_lastUsable p_partitions p_files p_kernelAddress p_sorts p_starts p_lengths) := by
  refine Ct.ofI hEe good_W (by decide) rfl (Nat.le_of_ble_eq_true rfl) ?_
  intro p e s m args below meth c A ls Q hC hw hl hret
  have hC : CX p m c b_BootMaker_where 3 s args Wall R_BootMaker g.1 classes (tK g) E A := hC
  have hl : lv_has ls 3 [(0, .ref t_o), (1, .int a1), (2, .int a2)] := hl
  unfold f_BootMaker_where at hf
  refine n_aload_n hC hl 0 d_BootMaker_where_0 rfl rfl ?_
  refine n_get hC hw fg_BootMaker_28 0 rfl rfl d_BootMaker_where_1 ?_
  refine n_iload_n hC hl 1 d_BootMaker_where_4 rfl rfl ?_
  refine n_iload_n hC hl 2 d_BootMaker_where_5 rfl rfl ?_
  obtain ⟨u2, hu2, hf⟩ := bd_s hf
  refine n_callVi hC hw fc_BootMaker_54 (c_Plan_tellPartition l g E hEe p_o p_sorts_a p_starts_a p_lengths_a p_names_a p_sizes_a p_seeds_a p_scattered_a p_lastUsable p_partitions p_files p_kernelAddress p_sorts p_starts p_lengths a1 a2 u2 hu2) [1, 2, 3, 4] (wd_BootMaker_where g t_o p_o p_sorts_a p_starts_a p_lengths_a d_o u_o w_o f_o p_names_a p_sizes_a p_seeds_a p_scattered_a p_lastUsable p_partitions p_files p_kernelAddress p_sorts p_starts p_lengths) 1 rfl ⟨rfl, rfl⟩ ⟨Nat.le_of_ble_eq_true rfl, Nat.le_of_ble_eq_true rfl⟩ rfl (At_.cons rfl (At_.cons rfl (At_.cons rfl (At_.cons rfl At_.nil)))) (At_.cons rfl (At_.cons rfl (At_.cons rfl (At_.cons rfl At_.nil)))) Sm_.refl rfl hl.1 (Nat.le_of_ble_eq_true rfl) ⟨Nat.zero_le _, Nat.zero_le _⟩ d_BootMaker_where_6 (fun H locs hw => ?_) rfl
  cases hf
  exact hret _ _ _ _ hw rfl d_BootMaker_where_9
def wd_BootMaker_file (g : GT) (t_o : Nat) (p_o : Nat) (p_names_a : Nat) (p_sizes_a : Nat) (p_seeds_a : Nat) (p_scattered_a : Nat) (d_o : Nat) (u_o : Nat) (w_o : Nat) (f_o : Nat) (p_sorts_a : Nat) (p_starts_a : Nat) (p_lengths_a : Nat) (p_lastUsable : Int32) (p_partitions : Int32) (p_files : Int32) (p_kernelAddress : Int32) (p_names : Nat → Int64) (p_sizes : Nat → Int32) (p_seeds : Nat → Int32) (p_scattered : Nat → Int32) : va_W := [(t_o, .inr (6, [.ref d_o, .ref u_o, .ref p_o, .ref w_o, .ref f_o])), (p_o, .inr (2, [.int p_lastUsable, .ref p_sorts_a, .ref p_starts_a, .ref p_lengths_a, .int p_partitions, .ref p_names_a, .ref p_sizes_a, .ref p_seeds_a, .ref p_scattered_a, .int p_files, .int p_kernelAddress])), (p_names_a, .inl (g.2.2.1, 12, .inr (.inl p_names))), (p_sizes_a, .inl (g.2.1, 12, .inl p_sizes)), (p_seeds_a, .inl (g.2.1, 12, .inl p_seeds)), (p_scattered_a, .inl (g.2.2.2.1, 12, .inl p_scattered))]
def f_BootMaker_file (N : Nat) (a1 : Int64) (p_files : Int32) (p_names : Nat → Int64) (p_sizes : Nat → Int32) (p_seeds : Nat → Int32) (p_scattered : Nat → Int32) (a2 : Int32) (a3 : Int32) (a4 : Int32) : Option (Int32 × Int32 × (Nat → Int64) × (Nat → Int32) × (Nat → Int32) × (Nat → Int32)) :=
  bd_ (f_Plan_addFile N a1 p_files p_names p_sizes p_seeds p_scattered a2 a3 a4) (fun u2 => some (u2.1, u2.2.1, u2.2.2.1, u2.2.2.2.1, u2.2.2.2.2.1, u2.2.2.2.2.2))
def rm_BootMaker_file : Room := { frames := 3, cells := 0, slots := 0, locals := 72 }
set_option maxHeartbeats 4000000 in
set_option maxRecDepth 100000 in
theorem c_BootMaker_file (l : Launch) (g : GT) (E : (Nat → Prop) → State → Prop) (hEe : Ee E) (t_o : Nat) (p_o : Nat) (p_names_a : Nat) (p_sizes_a : Nat) (p_seeds_a : Nat) (p_scattered_a : Nat) (d_o : Nat) (u_o : Nat) (w_o : Nat) (f_o : Nat) (p_sorts_a : Nat) (p_starts_a : Nat) (p_lengths_a : Nat) (p_lastUsable : Int32) (p_partitions : Int32) (p_files : Int32) (p_kernelAddress : Int32) (p_names : Nat → Int64) (p_sizes : Nat → Int32) (p_seeds : Nat → Int32) (p_scattered : Nat → Int32) (a1 : Int64) (a2 : Int32) (a3 : Int32) (a4 : Int32) (N : Nat) (z : Int32 × Int32 × (Nat → Int64) × (Nat → Int32) × (Nat → Int32) × (Nat → Int32)) (hf : f_BootMaker_file N a1 p_files p_names p_sizes p_seeds p_scattered a2 a3 a4 = some z) : Cg l g E y_BootMaker_file ws_BootMaker_file rm_BootMaker_file [.ref t_o, .long a1, .int a2, .int a3, .int a4] (wd_BootMaker_file g t_o p_o p_names_a p_sizes_a p_seeds_a p_scattered_a d_o u_o w_o f_o p_sorts_a p_starts_a p_lengths_a p_lastUsable p_partitions p_files p_kernelAddress p_names p_sizes p_seeds p_scattered) (some (.int z.1)) (wd_BootMaker_file g t_o p_o p_names_a p_sizes_a p_seeds_a p_scattered_a d_o u_o w_o f_o p_sorts_a p_starts_a p_lengths_a p_lastUsable p_partitions z.2.1 p_kernelAddress z.2.2.1 z.2.2.2.1 z.2.2.2.2.1 z.2.2.2.2.2) := by
  refine Ct.ofI hEe good_W (by decide) rfl (Nat.le_of_ble_eq_true rfl) ?_
  intro p e s m args below meth c A ls Q hC hw hl hret
  have hC : CX p m c b_BootMaker_file 6 s args Wall R_BootMaker g.1 classes (tK g) E A := hC
  have hl : lv_has ls 6 [(0, .ref t_o), (1, .long a1), (3, .int a2), (4, .int a3), (5, .int a4)] := hl
  unfold f_BootMaker_file at hf
  refine n_aload_n hC hl 0 d_BootMaker_file_0 rfl rfl ?_
  refine n_get hC hw fg_BootMaker_28 0 rfl rfl d_BootMaker_file_1 ?_
  refine n_lload_n hC hl 1 d_BootMaker_file_4 rfl rfl ?_
  refine n_iload_n hC hl 2 d_BootMaker_file_5 rfl rfl ?_
  refine n_iload hC hl 3 d_BootMaker_file_6 rfl ?_
  refine n_iload hC hl 4 d_BootMaker_file_8 rfl ?_
  obtain ⟨u2, hu2, hf⟩ := bd_s hf
  refine n_callVi hC hw fc_BootMaker_57 (c_Plan_addFile l g E hEe p_o p_names_a p_sizes_a p_seeds_a p_scattered_a p_sorts_a p_starts_a p_lengths_a p_lastUsable p_partitions p_files p_kernelAddress p_names p_sizes p_seeds p_scattered a1 a2 a3 a4 N u2 hu2) [1, 2, 3, 4, 5] (wd_BootMaker_file g t_o p_o p_names_a p_sizes_a p_seeds_a p_scattered_a d_o u_o w_o f_o p_sorts_a p_starts_a p_lengths_a p_lastUsable p_partitions u2.2.1 p_kernelAddress u2.2.2.1 u2.2.2.2.1 u2.2.2.2.2.1 u2.2.2.2.2.2) 1 rfl ⟨rfl, rfl⟩ ⟨Nat.le_of_ble_eq_true rfl, Nat.le_of_ble_eq_true rfl⟩ rfl (At_.cons rfl (At_.cons rfl (At_.cons rfl (At_.cons rfl (At_.cons rfl At_.nil))))) (At_.cons rfl (At_.cons rfl (At_.cons rfl (At_.cons rfl (At_.cons rfl At_.nil))))) (Sm_.keep (Sm_.upd rfl (Sm_.upd rfl (Sm_.upd rfl (Sm_.upd rfl (Sm_.upd rfl Sm_.nil)))))) rfl hl.1 (Nat.le_of_ble_eq_true rfl) ⟨Nat.zero_le _, Nat.zero_le _⟩ d_BootMaker_file_10 (fun H locs hw => ?_) rfl
  cases hf
  exact hret _ _ _ _ hw (show narrow .int (Value.int u2.1) = Value.int u2.1 from rfl) d_BootMaker_file_13
def wd_BootMaker_address (g : GT) (t_o : Nat) (p_o : Nat) (d_o : Nat) (u_o : Nat) (w_o : Nat) (f_o : Nat) (p_sorts_a : Nat) (p_starts_a : Nat) (p_lengths_a : Nat) (p_names_a : Nat) (p_sizes_a : Nat) (p_seeds_a : Nat) (p_scattered_a : Nat) (p_lastUsable : Int32) (p_partitions : Int32) (p_files : Int32) (p_kernelAddress : Int32) : va_W := [(t_o, .inr (6, [.ref d_o, .ref u_o, .ref p_o, .ref w_o, .ref f_o])), (p_o, .inr (2, [.int p_lastUsable, .ref p_sorts_a, .ref p_starts_a, .ref p_lengths_a, .int p_partitions, .ref p_names_a, .ref p_sizes_a, .ref p_seeds_a, .ref p_scattered_a, .int p_files, .int p_kernelAddress]))]
def f_BootMaker_address (a1 : Int32) (p_kernelAddress : Int32) : Option (Int32 × Int32) :=
  if 0 ≤ a1 then some (1, a1) else some (0, p_kernelAddress)
def rm_BootMaker_address : Room := { frames := 0, cells := 0, slots := 0, locals := 0 }
set_option maxHeartbeats 4000000 in
set_option maxRecDepth 100000 in
theorem c_BootMaker_address (l : Launch) (g : GT) (E : (Nat → Prop) → State → Prop) (hEe : Ee E) (t_o : Nat) (p_o : Nat) (d_o : Nat) (u_o : Nat) (w_o : Nat) (f_o : Nat) (p_sorts_a : Nat) (p_starts_a : Nat) (p_lengths_a : Nat) (p_names_a : Nat) (p_sizes_a : Nat) (p_seeds_a : Nat) (p_scattered_a : Nat) (p_lastUsable : Int32) (p_partitions : Int32) (p_files : Int32) (p_kernelAddress : Int32) (a1 : Int32) (z : Int32 × Int32) (hf : f_BootMaker_address a1 p_kernelAddress = some z) : Cg l g E y_BootMaker_address ws_BootMaker_address rm_BootMaker_address [.ref t_o, .int a1] (wd_BootMaker_address g t_o p_o d_o u_o w_o f_o p_sorts_a p_starts_a p_lengths_a p_names_a p_sizes_a p_seeds_a p_scattered_a p_lastUsable p_partitions p_files p_kernelAddress) (some (.int z.1)) (wd_BootMaker_address g t_o p_o d_o u_o w_o f_o p_sorts_a p_starts_a p_lengths_a p_names_a p_sizes_a p_seeds_a p_scattered_a p_lastUsable p_partitions p_files z.2) := by
  refine Ct.ofI hEe good_W (by decide) rfl (Nat.le_of_ble_eq_true rfl) ?_
  intro p e s m args below meth c A ls Q hC hw hl hret
  have hC : CX p m c b_BootMaker_address 2 s args Wall R_BootMaker g.1 classes (tK g) E A := hC
  have hl : lv_has ls 2 [(0, .ref t_o), (1, .int a1)] := hl
  unfold f_BootMaker_address at hf
  refine n_iload_n hC hl 1 d_BootMaker_address_0 rfl rfl ?_
  refine n_if_ge hC hf 6 d_BootMaker_address_1 (by decide) (fun hf => ?_) (fun hf => ?_)
  · refine n_aload_n hC hl 0 d_BootMaker_address_6 rfl rfl ?_
    refine n_get hC hw fg_BootMaker_28 0 rfl rfl d_BootMaker_address_7 ?_
    refine n_iload_n hC hl 1 d_BootMaker_address_10 rfl rfl ?_
    refine n_put hC hw fp_BootMaker_61 1 (wd_BootMaker_address g t_o p_o d_o u_o w_o f_o p_sorts_a p_starts_a p_lengths_a p_names_a p_sizes_a p_seeds_a p_scattered_a p_lastUsable p_partitions p_files a1) rfl rfl rfl (Nat.le_of_ble_eq_true rfl) d_BootMaker_address_11 rfl (fun H locs hw => ?_)
    refine n_iconst hC 1 d_BootMaker_address_14 (by decide) ?_
    cases hf
    exact hret _ _ _ _ hw (show narrow .boolean (Value.int 1) = Value.int 1 from rfl) d_BootMaker_address_15
  · refine n_iconst hC 0 d_BootMaker_address_4 (by decide) ?_
    cases hf
    exact hret _ _ _ _ hw (show narrow .boolean (Value.int 0) = Value.int 0 from rfl) d_BootMaker_address_5
def wd_BootMaker_write (g : GT) (t_o : Nat) (d_o : Nat) (d_words_a : Nat) (u_o : Nat) (u_shifted_a : Nat) (p_o : Nat) (p_sorts_a : Nat) (p_starts_a : Nat) (p_lengths_a : Nat) (p_names_a : Nat) (p_sizes_a : Nat) (p_seeds_a : Nat) (p_scattered_a : Nat) (w_o : Nat) (v_o : Nat) (v_next_a : Nat) (v_firstClusters_a : Nat) (v_runStarts_a : Nat) (v_runLengths_a : Nat) (f_o : Nat) (d_words_n : Nat) (v_next_n : Nat) (d_length : Int32) (d_words : Nat → Int64) (u_bits : Int32) (u_shifted : Nat → Int32) (p_lastUsable : Int32) (p_partitions : Int32) (p_files : Int32) (p_kernelAddress : Int32) (p_sorts : Nat → Int32) (p_starts : Nat → Int32) (p_lengths : Nat → Int32) (p_names : Nat → Int64) (p_sizes : Nat → Int32) (p_seeds : Nat → Int32) (p_scattered : Nat → Int32) (w_sectors : Int32) (v_start : Int32) (v_length : Int32) (v_tableSectors : Int32) (v_clusters : Int32) (v_runs : Int32) (v_next : Nat → Int32) (v_firstClusters : Nat → Int32) (v_runStarts : Nat → Int32) (v_runLengths : Nat → Int32) : va_W := [(t_o, .inr (6, [.ref d_o, .ref u_o, .ref p_o, .ref w_o, .ref f_o])), (d_o, .inr (0, [.int d_length, .ref d_words_a])), (d_words_a, .inl (g.2.2.1, d_words_n, .inr (.inl d_words))), (u_o, .inr (1, [.ref u_shifted_a, .int u_bits])), (u_shifted_a, .inl (g.2.1, 256, .inl u_shifted)), (p_o, .inr (2, [.int p_lastUsable, .ref p_sorts_a, .ref p_starts_a, .ref p_lengths_a, .int p_partitions, .ref p_names_a, .ref p_sizes_a, .ref p_seeds_a, .ref p_scattered_a, .int p_files, .int p_kernelAddress])), (p_sorts_a, .inl (g.2.1, 4, .inl p_sorts)), (p_starts_a, .inl (g.2.1, 4, .inl p_starts)), (p_lengths_a, .inl (g.2.1, 4, .inl p_lengths)), (p_names_a, .inl (g.2.2.1, 12, .inr (.inl p_names))), (p_sizes_a, .inl (g.2.1, 12, .inl p_sizes)), (p_seeds_a, .inl (g.2.1, 12, .inl p_seeds)), (p_scattered_a, .inl (g.2.2.2.1, 12, .inl p_scattered)), (w_o, .inr (4, [.ref d_o, .int w_sectors, .ref p_o, .ref u_o, .ref v_o])), (v_o, .inr (3, [.int v_start, .int v_length, .int v_tableSectors, .int v_clusters, .ref v_next_a, .ref v_firstClusters_a, .ref v_runStarts_a, .ref v_runLengths_a, .int v_runs])), (v_next_a, .inl (g.2.1, v_next_n, .inl v_next)), (v_firstClusters_a, .inl (g.2.1, 12, .inl v_firstClusters)), (v_runStarts_a, .inl (g.2.1, 20, .inl v_runStarts)), (v_runLengths_a, .inl (g.2.1, 20, .inl v_runLengths))]
def f_BootMaker_write (N : Nat) (p_partitions : Int32) (p_sorts : Nat → Int32) (p_starts : Nat → Int32) (p_lengths : Nat → Int32) (v_next_n : Nat) (p_files : Int32) (v_next : Nat → Int32) (p_sizes : Nat → Int32) (p_scattered : Nat → Int32) (v_firstClusters : Nat → Int32) (p_names : Nat → Int64) (v_runStarts : Nat → Int32) (v_runLengths : Nat → Int32) (v_start : Int32) (v_length : Int32) (v_tableSectors : Int32) (d_words_n : Nat) (d_words : Nat → Int64) (d_length : Int32) (w_sectors : Int32) (u_bits : Int32) (p_seeds : Nat → Int32) (p_kernelAddress : Int32) (u_shifted : Nat → Int32) (p_lastUsable : Int32) : Option (Int32 × (Nat → Int64) × Int32 × Int32 × Int32 × Int32 × Int32 × Int32 × (Nat → Int32) × (Nat → Int32) × (Nat → Int32) × (Nat → Int32)) :=
  bd_ (f_Writer_writeDisk N p_partitions p_sorts p_starts p_lengths v_next_n p_files v_next p_sizes p_scattered v_firstClusters p_names v_runStarts v_runLengths v_start v_length v_tableSectors d_words_n d_words d_length w_sectors u_bits p_seeds p_kernelAddress u_shifted p_lastUsable) (fun u2 => some (u2.1, u2.2.1, u2.2.2.1, u2.2.2.2.1, u2.2.2.2.2.1, u2.2.2.2.2.2.1, u2.2.2.2.2.2.2.1, u2.2.2.2.2.2.2.2.1, u2.2.2.2.2.2.2.2.2.1, u2.2.2.2.2.2.2.2.2.2.1, u2.2.2.2.2.2.2.2.2.2.2.1, u2.2.2.2.2.2.2.2.2.2.2.2))
def rm_BootMaker_write : Room := { frames := 10, cells := 0, slots := 0, locals := 218 }
set_option maxHeartbeats 4000000 in
set_option maxRecDepth 100000 in
theorem c_BootMaker_write (l : Launch) (g : GT) (E : (Nat → Prop) → State → Prop) (hEe : Ee E) (X : XT) (hS : ∀ (A : Nat → Prop) (u : State), E A u → SS X A u) (t_o : Nat) (d_o : Nat) (d_words_a : Nat) (u_o : Nat) (u_shifted_a : Nat) (p_o : Nat) (p_sorts_a : Nat) (p_starts_a : Nat) (p_lengths_a : Nat) (p_names_a : Nat) (p_sizes_a : Nat) (p_seeds_a : Nat) (p_scattered_a : Nat) (w_o : Nat) (v_o : Nat) (v_next_a : Nat) (v_firstClusters_a : Nat) (v_runStarts_a : Nat) (v_runLengths_a : Nat) (f_o : Nat) (d_words_n : Nat) (v_next_n : Nat) (d_length : Int32) (d_words : Nat → Int64) (u_bits : Int32) (u_shifted : Nat → Int32) (p_lastUsable : Int32) (p_partitions : Int32) (p_files : Int32) (p_kernelAddress : Int32) (p_sorts : Nat → Int32) (p_starts : Nat → Int32) (p_lengths : Nat → Int32) (p_names : Nat → Int64) (p_sizes : Nat → Int32) (p_seeds : Nat → Int32) (p_scattered : Nat → Int32) (w_sectors : Int32) (v_start : Int32) (v_length : Int32) (v_tableSectors : Int32) (v_clusters : Int32) (v_runs : Int32) (v_next : Nat → Int32) (v_firstClusters : Nat → Int32) (v_runStarts : Nat → Int32) (v_runLengths : Nat → Int32) (N : Nat) (z : Int32 × (Nat → Int64) × Int32 × Int32 × Int32 × Int32 × Int32 × Int32 × (Nat → Int32) × (Nat → Int32) × (Nat → Int32) × (Nat → Int32)) (hf : f_BootMaker_write N p_partitions p_sorts p_starts p_lengths v_next_n p_files v_next p_sizes p_scattered v_firstClusters p_names v_runStarts v_runLengths v_start v_length v_tableSectors d_words_n d_words d_length w_sectors u_bits p_seeds p_kernelAddress u_shifted p_lastUsable = some z) : Cg l g E y_BootMaker_write ws_BootMaker_write rm_BootMaker_write [.ref t_o] (wd_BootMaker_write g t_o d_o d_words_a u_o u_shifted_a p_o p_sorts_a p_starts_a p_lengths_a p_names_a p_sizes_a p_seeds_a p_scattered_a w_o v_o v_next_a v_firstClusters_a v_runStarts_a v_runLengths_a f_o d_words_n v_next_n d_length d_words u_bits u_shifted p_lastUsable p_partitions p_files p_kernelAddress p_sorts p_starts p_lengths p_names p_sizes p_seeds p_scattered w_sectors v_start v_length v_tableSectors v_clusters v_runs v_next v_firstClusters v_runStarts v_runLengths) (some (.int z.1)) (wd_BootMaker_write g t_o d_o d_words_a u_o u_shifted_a p_o p_sorts_a p_starts_a p_lengths_a p_names_a p_sizes_a p_seeds_a p_scattered_a w_o v_o v_next_a v_firstClusters_a v_runStarts_a v_runLengths_a f_o d_words_n v_next_n d_length z.2.1 z.2.2.1 u_shifted p_lastUsable p_partitions p_files p_kernelAddress p_sorts p_starts p_lengths p_names p_sizes p_seeds p_scattered w_sectors z.2.2.2.1 z.2.2.2.2.1 z.2.2.2.2.2.1 z.2.2.2.2.2.2.1 z.2.2.2.2.2.2.2.1 z.2.2.2.2.2.2.2.2.1 z.2.2.2.2.2.2.2.2.2.1 z.2.2.2.2.2.2.2.2.2.2.1 z.2.2.2.2.2.2.2.2.2.2.2) := by
  refine Ct.ofI hEe good_W (by decide) rfl (Nat.le_of_ble_eq_true rfl) ?_
  intro p e s m args below meth c A ls Q hC hw hl hret
  have hC : CX p m c b_BootMaker_write 1 s args Wall R_BootMaker g.1 classes (tK g) E A := hC
  have hl : lv_has ls 1 [(0, .ref t_o)] := hl
  unfold f_BootMaker_write at hf
  refine n_aload_n hC hl 0 d_BootMaker_write_0 rfl rfl ?_
  refine n_get hC hw fg_BootMaker_37 0 rfl rfl d_BootMaker_write_1 ?_
  obtain ⟨u2, hu2, hf⟩ := bd_s hf
  refine n_callVi hC hw fc_BootMaker_65 (c_Writer_writeDisk l g E hEe X hS w_o d_o d_words_a p_o p_sorts_a p_starts_a p_lengths_a p_names_a p_sizes_a p_seeds_a p_scattered_a u_o u_shifted_a v_o v_next_a v_firstClusters_a v_runStarts_a v_runLengths_a d_words_n v_next_n w_sectors d_length d_words p_lastUsable p_partitions p_files p_kernelAddress p_sorts p_starts p_lengths p_names p_sizes p_seeds p_scattered u_bits u_shifted v_start v_length v_tableSectors v_clusters v_runs v_next v_firstClusters v_runStarts v_runLengths N u2 hu2) [13, 1, 2, 5, 6, 7, 8, 9, 10, 11, 12, 3, 4, 14, 15, 16, 17, 18] (wd_BootMaker_write g t_o d_o d_words_a u_o u_shifted_a p_o p_sorts_a p_starts_a p_lengths_a p_names_a p_sizes_a p_seeds_a p_scattered_a w_o v_o v_next_a v_firstClusters_a v_runStarts_a v_runLengths_a f_o d_words_n v_next_n d_length u2.2.1 u2.2.2.1 u_shifted p_lastUsable p_partitions p_files p_kernelAddress p_sorts p_starts p_lengths p_names p_sizes p_seeds p_scattered w_sectors u2.2.2.2.1 u2.2.2.2.2.1 u2.2.2.2.2.2.1 u2.2.2.2.2.2.2.1 u2.2.2.2.2.2.2.2.1 u2.2.2.2.2.2.2.2.2.1 u2.2.2.2.2.2.2.2.2.2.1 u2.2.2.2.2.2.2.2.2.2.2.1 u2.2.2.2.2.2.2.2.2.2.2.2) 13 rfl ⟨rfl, rfl⟩ ⟨Nat.le_of_ble_eq_true rfl, Nat.le_of_ble_eq_true rfl⟩ rfl (At_.cons rfl (At_.cons rfl (At_.cons rfl (At_.cons rfl (At_.cons rfl (At_.cons rfl (At_.cons rfl (At_.cons rfl (At_.cons rfl (At_.cons rfl (At_.cons rfl (At_.cons rfl (At_.cons rfl (At_.cons rfl (At_.cons rfl (At_.cons rfl (At_.cons rfl (At_.cons rfl At_.nil)))))))))))))))))) (At_.cons rfl (At_.cons rfl (At_.cons rfl (At_.cons rfl (At_.cons rfl (At_.cons rfl (At_.cons rfl (At_.cons rfl (At_.cons rfl (At_.cons rfl (At_.cons rfl (At_.cons rfl (At_.cons rfl (At_.cons rfl (At_.cons rfl (At_.cons rfl (At_.cons rfl (At_.cons rfl At_.nil)))))))))))))))))) (Sm_.keep (Sm_.keep (Sm_.upd rfl (Sm_.upd rfl (Sm_.keep (Sm_.keep (Sm_.keep (Sm_.keep (Sm_.keep (Sm_.keep (Sm_.keep (Sm_.keep (Sm_.keep (Sm_.keep (Sm_.upd rfl (Sm_.upd rfl (Sm_.upd rfl (Sm_.upd rfl (Sm_.upd rfl Sm_.nil))))))))))))))))))) rfl hl.1 (Nat.le_of_ble_eq_true rfl) ⟨Nat.zero_le _, Nat.zero_le _⟩ d_BootMaker_write_4 (fun H locs hw => ?_) rfl
  cases hf
  exact hret _ _ _ _ hw (show narrow .int (Value.int u2.1) = Value.int u2.1 from rfl) d_BootMaker_write_7
def wd_BootMaker_byteAt (g : GT) (t_o : Nat) (d_o : Nat) (d_words_a : Nat) (u_o : Nat) (p_o : Nat) (w_o : Nat) (f_o : Nat) (d_words_n : Nat) (d_length : Int32) (d_words : Nat → Int64) : va_W := [(t_o, .inr (6, [.ref d_o, .ref u_o, .ref p_o, .ref w_o, .ref f_o])), (d_o, .inr (0, [.int d_length, .ref d_words_a])), (d_words_a, .inl (g.2.2.1, d_words_n, .inr (.inl d_words)))]
def f_BootMaker_byteAt (a1 : Int32) (d_length : Int32) (d_words_n : Nat) (d_words : Nat → Int64) : Option (Int32) :=
  bd_ (f_Store_has a1 d_length) (fun u3 => if u3 = 0 then some ((-1)) else bd_ (f_Store_get a1 d_length d_words_n d_words) (fun u4 => some (u4)))
def rm_BootMaker_byteAt : Room := { frames := 1, cells := 0, slots := 0, locals := 21 }
set_option maxHeartbeats 4000000 in
set_option maxRecDepth 100000 in
theorem c_BootMaker_byteAt (l : Launch) (g : GT) (E : (Nat → Prop) → State → Prop) (hEe : Ee E) (t_o : Nat) (d_o : Nat) (d_words_a : Nat) (u_o : Nat) (p_o : Nat) (w_o : Nat) (f_o : Nat) (d_words_n : Nat) (d_length : Int32) (d_words : Nat → Int64) (a1 : Int32) (z : Int32) (hf : f_BootMaker_byteAt a1 d_length d_words_n d_words = some z) : Cg l g E y_BootMaker_byteAt ws_BootMaker_byteAt rm_BootMaker_byteAt [.ref t_o, .int a1] (wd_BootMaker_byteAt g t_o d_o d_words_a u_o p_o w_o f_o d_words_n d_length d_words) (some (.int z)) (wd_BootMaker_byteAt g t_o d_o d_words_a u_o p_o w_o f_o d_words_n d_length d_words) := by
  refine Ct.ofI hEe good_W (by decide) rfl (Nat.le_of_ble_eq_true rfl) ?_
  intro p e s m args below meth c A ls Q hC hw hl hret
  have hC : CX p m c b_BootMaker_byteAt 2 s args Wall R_BootMaker g.1 classes (tK g) E A := hC
  have hl : lv_has ls 2 [(0, .ref t_o), (1, .int a1)] := hl
  unfold f_BootMaker_byteAt at hf
  refine n_aload_n hC hl 0 d_BootMaker_byteAt_0 rfl rfl ?_
  refine n_get hC hw fg_BootMaker_14 0 rfl rfl d_BootMaker_byteAt_1 ?_
  refine n_iload_n hC hl 1 d_BootMaker_byteAt_4 rfl rfl ?_
  obtain ⟨u3, hu3, hf⟩ := bd_s hf
  refine n_callVi hC hw fc_BootMaker_69 (c_Store_has l g E hEe d_o d_words_a d_length a1 u3 hu3) [1] (wd_BootMaker_byteAt g t_o d_o d_words_a u_o p_o w_o f_o d_words_n d_length d_words) 1 rfl ⟨rfl, rfl⟩ ⟨Nat.le_of_ble_eq_true rfl, Nat.le_of_ble_eq_true rfl⟩ rfl (At_.cons rfl At_.nil) (At_.cons rfl At_.nil) Sm_.refl rfl hl.1 (Nat.le_of_ble_eq_true rfl) ⟨Nat.zero_le _, Nat.zero_le _⟩ d_BootMaker_byteAt_5 (fun H locs hw => ?_) rfl
  refine n_if_eq hC hf 22 d_BootMaker_byteAt_8 (by decide) (fun hf => ?_) (fun hf => ?_)
  · refine n_iconst hC (-1) d_BootMaker_byteAt_22 (by decide) ?_
    cases hf
    exact hret _ _ _ _ hw rfl d_BootMaker_byteAt_23
  · refine n_aload_n hC hl 0 d_BootMaker_byteAt_11 rfl rfl ?_
    refine n_get hC hw fg_BootMaker_14 0 rfl rfl d_BootMaker_byteAt_12 ?_
    refine n_iload_n hC hl 1 d_BootMaker_byteAt_15 rfl rfl ?_
    obtain ⟨u4, hu4, hf⟩ := bd_s hf
    refine n_callVi hC hw fc_BootMaker_73 (c_Store_get l g E hEe d_o d_words_a d_words_n d_length d_words a1 u4 hu4) [1, 2] (wd_BootMaker_byteAt g t_o d_o d_words_a u_o p_o w_o f_o d_words_n d_length d_words) 1 rfl ⟨rfl, rfl⟩ ⟨Nat.le_of_ble_eq_true rfl, Nat.le_of_ble_eq_true rfl⟩ rfl (At_.cons rfl (At_.cons rfl At_.nil)) (At_.cons rfl (At_.cons rfl At_.nil)) Sm_.refl rfl hl.1 (Nat.le_of_ble_eq_true rfl) ⟨Nat.zero_le _, Nat.zero_le _⟩ d_BootMaker_byteAt_16 (fun H locs hw => ?_) rfl
    refine n_goto hC 23 d_BootMaker_byteAt_19 (by decide) ?_
    cases hf
    exact hret _ _ _ _ hw rfl d_BootMaker_byteAt_23
def wd_BootMaker_poke (g : GT) (t_o : Nat) (d_o : Nat) (d_words_a : Nat) (u_o : Nat) (p_o : Nat) (w_o : Nat) (f_o : Nat) (d_words_n : Nat) (d_length : Int32) (d_words : Nat → Int64) : va_W := [(t_o, .inr (6, [.ref d_o, .ref u_o, .ref p_o, .ref w_o, .ref f_o])), (d_o, .inr (0, [.int d_length, .ref d_words_a])), (d_words_a, .inl (g.2.2.1, d_words_n, .inr (.inl d_words)))]
def f_BootMaker_poke (a1 : Int32) (d_length : Int32) (d_words_n : Nat) (d_words : Nat → Int64) (a2 : Int32) : Option (Int32 × (Nat → Int64)) :=
  bd_ (f_Store_has a1 d_length) (fun u4 => if ¬ u4 = 0 then bd_ (f_Store_get a1 d_length d_words_n d_words) (fun u5 => bd_ (f_Store_put a1 d_words d_length d_words_n a2) (fun u6 => some (u5, u6))) else some ((-1), d_words))
def rm_BootMaker_poke : Room := { frames := 1, cells := 0, slots := 0, locals := 23 }
set_option maxHeartbeats 4000000 in
set_option maxRecDepth 100000 in
theorem c_BootMaker_poke (l : Launch) (g : GT) (E : (Nat → Prop) → State → Prop) (hEe : Ee E) (t_o : Nat) (d_o : Nat) (d_words_a : Nat) (u_o : Nat) (p_o : Nat) (w_o : Nat) (f_o : Nat) (d_words_n : Nat) (d_length : Int32) (d_words : Nat → Int64) (a1 : Int32) (a2 : Int32) (z : Int32 × (Nat → Int64)) (hf : f_BootMaker_poke a1 d_length d_words_n d_words a2 = some z) : Cg l g E y_BootMaker_poke ws_BootMaker_poke rm_BootMaker_poke [.ref t_o, .int a1, .int a2] (wd_BootMaker_poke g t_o d_o d_words_a u_o p_o w_o f_o d_words_n d_length d_words) (some (.int z.1)) (wd_BootMaker_poke g t_o d_o d_words_a u_o p_o w_o f_o d_words_n d_length z.2) := by
  refine Ct.ofI hEe good_W (by decide) rfl (Nat.le_of_ble_eq_true rfl) ?_
  intro p e s m args below meth c A ls Q hC hw hl hret
  have hC : CX p m c b_BootMaker_poke 4 s args Wall R_BootMaker g.1 classes (tK g) E A := hC
  have hl : lv_has ls 4 [(0, .ref t_o), (1, .int a1), (2, .int a2)] := hl
  unfold f_BootMaker_poke at hf
  refine n_aload_n hC hl 0 d_BootMaker_poke_0 rfl rfl ?_
  refine n_get hC hw fg_BootMaker_14 0 rfl rfl d_BootMaker_poke_1 ?_
  refine n_iload_n hC hl 1 d_BootMaker_poke_4 rfl rfl ?_
  obtain ⟨u4, hu4, hf⟩ := bd_s hf
  refine n_callVi hC hw fc_BootMaker_69 (c_Store_has l g E hEe d_o d_words_a d_length a1 u4 hu4) [1] (wd_BootMaker_poke g t_o d_o d_words_a u_o p_o w_o f_o d_words_n d_length d_words) 1 rfl ⟨rfl, rfl⟩ ⟨Nat.le_of_ble_eq_true rfl, Nat.le_of_ble_eq_true rfl⟩ rfl (At_.cons rfl At_.nil) (At_.cons rfl At_.nil) Sm_.refl rfl hl.1 (Nat.le_of_ble_eq_true rfl) ⟨Nat.zero_le _, Nat.zero_le _⟩ d_BootMaker_poke_5 (fun H locs hw => ?_) rfl
  refine n_if_ne hC hf 13 d_BootMaker_poke_8 (by decide) (fun hf => ?_) (fun hf => ?_)
  · refine n_aload_n hC hl 0 d_BootMaker_poke_13 rfl rfl ?_
    refine n_get hC hw fg_BootMaker_14 0 rfl rfl d_BootMaker_poke_14 ?_
    refine n_iload_n hC hl 1 d_BootMaker_poke_17 rfl rfl ?_
    obtain ⟨u5, hu5, hf⟩ := bd_s hf
    refine n_callVi hC hw fc_BootMaker_73 (c_Store_get l g E hEe d_o d_words_a d_words_n d_length d_words a1 u5 hu5) [1, 2] (wd_BootMaker_poke g t_o d_o d_words_a u_o p_o w_o f_o d_words_n d_length d_words) 1 rfl ⟨rfl, rfl⟩ ⟨Nat.le_of_ble_eq_true rfl, Nat.le_of_ble_eq_true rfl⟩ rfl (At_.cons rfl (At_.cons rfl At_.nil)) (At_.cons rfl (At_.cons rfl At_.nil)) Sm_.refl rfl hl.1 (Nat.le_of_ble_eq_true rfl) ⟨Nat.zero_le _, Nat.zero_le _⟩ d_BootMaker_poke_18 (fun H locs hw => ?_) rfl
    refine n_istore_n hC [(3, .int u5), (0, .ref t_o), (1, .int a1), (2, .int a2)] hl d_BootMaker_poke_21 rfl (by decide) rfl (fun ls hl => ?_)
    refine n_aload_n hC hl 1 d_BootMaker_poke_22 rfl rfl ?_
    refine n_get hC hw fg_BootMaker_14 0 rfl rfl d_BootMaker_poke_23 ?_
    refine n_iload_n hC hl 2 d_BootMaker_poke_26 rfl rfl ?_
    refine n_iload_n hC hl 3 d_BootMaker_poke_27 rfl rfl ?_
    obtain ⟨u6, hu6, hf⟩ := bd_s hf
    refine n_callVv hC hw fc_BootMaker_77 (c_Store_put l g E hEe d_o d_words_a d_words_n d_length d_words a1 a2 u6 hu6) [1, 2] (wd_BootMaker_poke g t_o d_o d_words_a u_o p_o w_o f_o d_words_n d_length u6) 1 rfl ⟨rfl, rfl⟩ ⟨Nat.le_of_ble_eq_true rfl, Nat.le_of_ble_eq_true rfl⟩ rfl (At_.cons rfl (At_.cons rfl At_.nil)) (At_.cons rfl (At_.cons rfl At_.nil)) (Sm_.keep (Sm_.keep (Sm_.upd rfl Sm_.nil))) rfl hl.1 (Nat.le_of_ble_eq_true rfl) ⟨Nat.zero_le _, Nat.zero_le _⟩ d_BootMaker_poke_28 (fun H locs hw => ?_) rfl
    refine n_iload_n hC hl 0 d_BootMaker_poke_31 rfl rfl ?_
    cases hf
    exact hret _ _ _ _ hw (show narrow .int (Value.int u5) = Value.int u5 from rfl) d_BootMaker_poke_32
  · refine n_iconst hC (-1) d_BootMaker_poke_11 (by decide) ?_
    cases hf
    exact hret _ _ _ _ hw (show narrow .int (Value.int (-1)) = Value.int (-1) from rfl) d_BootMaker_poke_12
def wd_BootMaker_sum (g : GT) (t_o : Nat) (d_o : Nat) (d_words_a : Nat) (u_o : Nat) (u_shifted_a : Nat) (p_o : Nat) (w_o : Nat) (f_o : Nat) (d_words_n : Nat) (d_length : Int32) (d_words : Nat → Int64) (u_bits : Int32) (u_shifted : Nat → Int32) : va_W := [(t_o, .inr (6, [.ref d_o, .ref u_o, .ref p_o, .ref w_o, .ref f_o])), (d_o, .inr (0, [.int d_length, .ref d_words_a])), (d_words_a, .inl (g.2.2.1, d_words_n, .inr (.inl d_words))), (u_o, .inr (1, [.ref u_shifted_a, .int u_bits])), (u_shifted_a, .inl (g.2.1, 256, .inl u_shifted))]
def f_BootMaker_sum (N : Nat) (u_bits : Int32) (a2 : Int32) (a1 : Int32) (d_length : Int32) (d_words_n : Nat) (d_words : Nat → Int64) (u_shifted : Nat → Int32) : Option (Int32 × Int32) :=
  lt_ (fun (x15 : Int32) => if x15 = 0 then some (0, u_bits) else bd_ (f_Sums_over N a2 a1 d_length d_words_n d_words u_shifted) (fun u16 => some (u16.1, u16.2))) (fun (j30 : Int32 → Option (Int32 × Int32)) => lt_ (j30 0) (fun (j29 : Option (Int32 × Int32)) => if a1 < 0 then j29 else if a2 < 0 then j29 else lt_ (a1.toInt64) (fun v23 => lt_ (a2.toInt64) (fun v24 => lt_ (v23 + v24) (fun v25 => lt_ (d_length.toInt64) (fun v26 => lt_ (lg_cmp v25 v26) (fun v27 => if 0 < v27 then j29 else j30 1)))))))
def rm_BootMaker_sum : Room := { frames := 2, cells := 0, slots := 0, locals := 45 }
set_option maxHeartbeats 4000000 in
set_option maxRecDepth 100000 in
theorem c_BootMaker_sum (l : Launch) (g : GT) (E : (Nat → Prop) → State → Prop) (hEe : Ee E) (t_o : Nat) (d_o : Nat) (d_words_a : Nat) (u_o : Nat) (u_shifted_a : Nat) (p_o : Nat) (w_o : Nat) (f_o : Nat) (d_words_n : Nat) (d_length : Int32) (d_words : Nat → Int64) (u_bits : Int32) (u_shifted : Nat → Int32) (a1 : Int32) (a2 : Int32) (N : Nat) (z : Int32 × Int32) (hf : f_BootMaker_sum N u_bits a2 a1 d_length d_words_n d_words u_shifted = some z) : Cg l g E y_BootMaker_sum ws_BootMaker_sum rm_BootMaker_sum [.ref t_o, .int a1, .int a2] (wd_BootMaker_sum g t_o d_o d_words_a u_o u_shifted_a p_o w_o f_o d_words_n d_length d_words u_bits u_shifted) (some (.int z.1)) (wd_BootMaker_sum g t_o d_o d_words_a u_o u_shifted_a p_o w_o f_o d_words_n d_length d_words z.2 u_shifted) := by
  refine Ct.ofI hEe good_W (by decide) rfl (Nat.le_of_ble_eq_true rfl) ?_
  intro p e s m args below meth c A ls Q hC hw hl hret
  have hC : CX p m c b_BootMaker_sum 4 s args Wall R_BootMaker g.1 classes (tK g) E A := hC
  have hl : lv_has ls 4 [(0, .ref t_o), (1, .int a1), (2, .int a2)] := hl
  unfold f_BootMaker_sum at hf
  refine n_iload_n hC hl 1 d_BootMaker_sum_0 rfl rfl ?_
  refine jn1 (fun (x15 : Int32) => ∀ (H : Heap) (locs : List Loc) (ls : Array Slot), WS g.1 classes A s.heap H locs (wd_BootMaker_sum g t_o d_o d_words_a u_o u_shifted_a p_o w_o f_o d_words_n d_length d_words u_bits u_shifted) → lv_has ls 4 [(0, .ref t_o), (1, .int a1), (2, .int a2)] → W p l e rm_BootMaker_sum s m args below meth c H locs 0 0 Q (F0 m 30 ls [.int x15])) hf (fun x15 hf H locs ls hw hl => ?_) (fun j30 hj30 hf => ?_)
  · refine n_istore_n hC [(3, .int x15), (0, .ref t_o), (1, .int a1), (2, .int a2)] hl d_BootMaker_sum_30 rfl (by decide) rfl (fun ls hl => ?_)
    refine n_iload_n hC hl 0 d_BootMaker_sum_31 rfl rfl ?_
    refine n_if_eq hC hf 51 d_BootMaker_sum_32 (by decide) (fun hf => ?_) (fun hf => ?_)
    · refine n_iconst hC 0 d_BootMaker_sum_51 (by decide) ?_
      cases hf
      exact hret _ _ _ _ hw (show narrow .int (Value.int 0) = Value.int 0 from rfl) d_BootMaker_sum_52
    · refine n_aload_n hC hl 1 d_BootMaker_sum_35 rfl rfl ?_
      refine n_get hC hw fg_BootMaker_21 0 rfl rfl d_BootMaker_sum_36 ?_
      refine n_aload_n hC hl 1 d_BootMaker_sum_39 rfl rfl ?_
      refine n_get hC hw fg_BootMaker_14 0 rfl rfl d_BootMaker_sum_40 ?_
      refine n_iload_n hC hl 2 d_BootMaker_sum_43 rfl rfl ?_
      refine n_iload_n hC hl 3 d_BootMaker_sum_44 rfl rfl ?_
      obtain ⟨u16, hu16, hf⟩ := bd_s hf
      refine n_callVi hC hw fc_BootMaker_84 (c_Sums_over l g E hEe u_o u_shifted_a d_o d_words_a d_words_n u_bits u_shifted d_length d_words a1 a2 N u16 hu16) [3, 4, 1, 2] (wd_BootMaker_sum g t_o d_o d_words_a u_o u_shifted_a p_o w_o f_o d_words_n d_length d_words u16.2 u_shifted) 3 rfl ⟨rfl, rfl⟩ ⟨Nat.le_of_ble_eq_true rfl, Nat.le_of_ble_eq_true rfl⟩ rfl (At_.cons rfl (At_.cons rfl (At_.cons rfl (At_.cons rfl At_.nil)))) (At_.cons rfl (At_.cons rfl (At_.cons rfl (At_.cons rfl At_.nil)))) (Sm_.keep (Sm_.keep (Sm_.keep (Sm_.upd rfl (Sm_.keep Sm_.nil))))) rfl hl.1 (Nat.le_of_ble_eq_true rfl) ⟨Nat.zero_le _, Nat.zero_le _⟩ d_BootMaker_sum_45 (fun H locs hw => ?_) rfl
      refine n_goto hC 52 d_BootMaker_sum_48 (by decide) ?_
      cases hf
      exact hret _ _ _ _ hw (show narrow .int (Value.int u16.1) = Value.int u16.1 from rfl) d_BootMaker_sum_52
  refine jn0 (∀ (H : Heap) (locs : List Loc) (ls : Array Slot), WS g.1 classes A s.heap H locs (wd_BootMaker_sum g t_o d_o d_words_a u_o u_shifted_a p_o w_o f_o d_words_n d_length d_words u_bits u_shifted) → lv_has ls 4 [(0, .ref t_o), (1, .int a1), (2, .int a2)] → W p l e rm_BootMaker_sum s m args below meth c H locs 0 0 Q (F0 m 29 ls [])) hf (fun hf H locs ls hw hl => ?_) (fun j29 hj29 hf => ?_)
  · refine n_iconst hC 0 d_BootMaker_sum_29 (by decide) ?_
    exact hj30 _ hf _ _ _ hw (lv_sub hl [0, 1, 2] rfl)
  refine n_if_lt hC hf 29 d_BootMaker_sum_1 (by decide) (fun hf => ?_) (fun hf => ?_)
  · exact hj29 hf _ _ _ hw (lv_sub hl [0, 1, 2] rfl)
  · refine n_iload_n hC hl 2 d_BootMaker_sum_4 rfl rfl ?_
    refine n_if_lt hC hf 29 d_BootMaker_sum_5 (by decide) (fun hf => ?_) (fun hf => ?_)
    · exact hj29 hf _ _ _ hw (lv_sub hl [0, 1, 2] rfl)
    · refine n_iload_n hC hl 1 d_BootMaker_sum_8 rfl rfl ?_
      refine n_i2l hC hf d_BootMaker_sum_9 (fun v23 hf => ?_)
      refine n_iload_n hC hl 2 d_BootMaker_sum_10 rfl rfl ?_
      refine n_i2l hC hf d_BootMaker_sum_11 (fun v24 hf => ?_)
      refine n_ladd hC hf d_BootMaker_sum_12 (fun v25 hf => ?_)
      refine n_aload_n hC hl 0 d_BootMaker_sum_13 rfl rfl ?_
      refine n_get hC hw fg_BootMaker_14 0 rfl rfl d_BootMaker_sum_14 ?_
      refine n_get hC hw fg_BootMaker_81 1 rfl rfl d_BootMaker_sum_17 ?_
      refine n_i2l hC hf d_BootMaker_sum_20 (fun v26 hf => ?_)
      refine n_lcmp hC hf d_BootMaker_sum_21 (fun v27 hf => ?_)
      refine n_if_gt hC hf 29 d_BootMaker_sum_22 (by decide) (fun hf => ?_) (fun hf => ?_)
      · exact hj29 hf _ _ _ hw (lv_sub hl [0, 1, 2] rfl)
      · refine n_iconst hC 1 d_BootMaker_sum_25 (by decide) ?_
        refine n_goto hC 30 d_BootMaker_sum_26 (by decide) ?_
        exact hj30 _ hf _ _ _ hw (lv_sub hl [0, 1, 2] rfl)
def wd_BootMaker_booted (g : GT) (t_o : Nat) (f_o : Nat) (d_o : Nat) (u_o : Nat) (p_o : Nat) (w_o : Nat) (r_o : Nat) (f_loaderSectors_a : Nat) (f_chain_a : Nat) (f_sectors : Int32) (f_tableSectors : Int32) (f_clusters : Int32) (f_tried : Int32) (f_header : Int32) (f_bootStart : Int32) (f_kernelAddress : Int32) (f_kernelSize : Int32) : va_W := [(t_o, .inr (6, [.ref d_o, .ref u_o, .ref p_o, .ref w_o, .ref f_o])), (f_o, .inr (5, [.ref r_o, .ref d_o, .int f_sectors, .ref u_o, .ref f_loaderSectors_a, .ref f_chain_a, .int f_tableSectors, .int f_clusters, .int f_tried, .int f_header, .int f_bootStart, .int f_kernelAddress, .int f_kernelSize]))]
def f_BootMaker_booted (f_tried : Int32) (a1 : Int32) (f_header : Int32) (f_bootStart : Int32) (f_kernelAddress : Int32) (f_kernelSize : Int32) : Option (Int32) :=
  bd_ (f_Firmware_tell f_tried a1 f_header f_bootStart f_kernelAddress f_kernelSize) (fun u2 => some (u2))
def rm_BootMaker_booted : Room := { frames := 1, cells := 0, slots := 0, locals := 21 }
set_option maxHeartbeats 4000000 in
set_option maxRecDepth 100000 in
theorem c_BootMaker_booted (l : Launch) (g : GT) (E : (Nat → Prop) → State → Prop) (hEe : Ee E) (t_o : Nat) (f_o : Nat) (d_o : Nat) (u_o : Nat) (p_o : Nat) (w_o : Nat) (r_o : Nat) (f_loaderSectors_a : Nat) (f_chain_a : Nat) (f_sectors : Int32) (f_tableSectors : Int32) (f_clusters : Int32) (f_tried : Int32) (f_header : Int32) (f_bootStart : Int32) (f_kernelAddress : Int32) (f_kernelSize : Int32) (a1 : Int32) (z : Int32) (hf : f_BootMaker_booted f_tried a1 f_header f_bootStart f_kernelAddress f_kernelSize = some z) : Cg l g E y_BootMaker_booted ws_BootMaker_booted rm_BootMaker_booted [.ref t_o, .int a1] (wd_BootMaker_booted g t_o f_o d_o u_o p_o w_o r_o f_loaderSectors_a f_chain_a f_sectors f_tableSectors f_clusters f_tried f_header f_bootStart f_kernelAddress f_kernelSize) (some (.int z)) (wd_BootMaker_booted g t_o f_o d_o u_o p_o w_o r_o f_loaderSectors_a f_chain_a f_sectors f_tableSectors f_clusters f_tried f_header f_bootStart f_kernelAddress f_kernelSize) := by
  refine Ct.ofI hEe good_W (by decide) rfl (Nat.le_of_ble_eq_true rfl) ?_
  intro p e s m args below meth c A ls Q hC hw hl hret
  have hC : CX p m c b_BootMaker_booted 2 s args Wall R_BootMaker g.1 classes (tK g) E A := hC
  have hl : lv_has ls 2 [(0, .ref t_o), (1, .int a1)] := hl
  unfold f_BootMaker_booted at hf
  refine n_aload_n hC hl 0 d_BootMaker_booted_0 rfl rfl ?_
  refine n_get hC hw fg_BootMaker_46 0 rfl rfl d_BootMaker_booted_1 ?_
  refine n_iload_n hC hl 1 d_BootMaker_booted_4 rfl rfl ?_
  obtain ⟨u2, hu2, hf⟩ := bd_s hf
  refine n_callVi hC hw fc_BootMaker_98 (c_Firmware_tell l g E hEe f_o r_o d_o u_o f_loaderSectors_a f_chain_a f_sectors f_tableSectors f_clusters f_tried f_header f_bootStart f_kernelAddress f_kernelSize a1 u2 hu2) [1] (wd_BootMaker_booted g t_o f_o d_o u_o p_o w_o r_o f_loaderSectors_a f_chain_a f_sectors f_tableSectors f_clusters f_tried f_header f_bootStart f_kernelAddress f_kernelSize) 1 rfl ⟨rfl, rfl⟩ ⟨Nat.le_of_ble_eq_true rfl, Nat.le_of_ble_eq_true rfl⟩ rfl (At_.cons rfl At_.nil) (At_.cons rfl At_.nil) Sm_.refl rfl hl.1 (Nat.le_of_ble_eq_true rfl) ⟨Nat.zero_le _, Nat.zero_le _⟩ d_BootMaker_booted_5 (fun H locs hw => ?_) rfl
  cases hf
  exact hret _ _ _ _ hw rfl d_BootMaker_booted_8
