def wd_Writer_fileSum (g : GT) (t_o : Nat) (p_o : Nat) (p_names_a : Nat) (p_sizes_a : Nat) (p_seeds_a : Nat) (u_o : Nat) (u_shifted_a : Nat) (v_o : Nat) (d_o : Nat) (p_sorts_a : Nat) (p_starts_a : Nat) (p_lengths_a : Nat) (p_scattered_a : Nat) (v_next_a : Nat) (v_firstClusters_a : Nat) (v_runStarts_a : Nat) (v_runLengths_a : Nat) (t_sectors : Int32) (p_lastUsable : Int32) (p_partitions : Int32) (p_files : Int32) (p_kernelAddress : Int32) (p_names : Nat → Int64) (p_sizes : Nat → Int32) (p_seeds : Nat → Int32) (u_bits : Int32) (u_shifted : Nat → Int32) (v_start : Int32) (v_length : Int32) (v_tableSectors : Int32) (v_clusters : Int32) (v_runs : Int32) : va_W := [(t_o, .inr (4, [.ref d_o, .int t_sectors, .ref p_o, .ref u_o, .ref v_o])), (p_o, .inr (2, [.int p_lastUsable, .ref p_sorts_a, .ref p_starts_a, .ref p_lengths_a, .int p_partitions, .ref p_names_a, .ref p_sizes_a, .ref p_seeds_a, .ref p_scattered_a, .int p_files, .int p_kernelAddress])), (p_names_a, .inl (g.2.2.1, 12, .inr (.inl p_names))), (p_sizes_a, .inl (g.2.1, 12, .inl p_sizes)), (p_seeds_a, .inl (g.2.1, 12, .inl p_seeds)), (u_o, .inr (1, [.ref u_shifted_a, .int u_bits])), (u_shifted_a, .inl (g.2.1, 256, .inl u_shifted)), (v_o, .inr (3, [.int v_start, .int v_length, .int v_tableSectors, .int v_clusters, .ref v_next_a, .ref v_firstClusters_a, .ref v_runStarts_a, .ref v_runLengths_a, .int v_runs]))]
def f_Writer_fileSum_L9 (p_sizes : Nat → Int32) (a1 : Int32) (p_seeds : Nat → Int32) (p_names : Nat → Int64) (v_start : Int32) (p_kernelAddress : Int32) (u_shifted : Nat → Int32) (k9 : Int32 → Int32 → Option (Int32 × Int32)) (x25 : Int32) (x26 : Int32) : Option (Int32 × Int32) :=
  ix_ 12 p_sizes a1 (fun (v32 : Int32) => if v32 ≤ x25 then bd_ (f_Sums_result x26) (fun u33 => some (u33, x26)) else bd_ (f_Plan_fileByte p_seeds a1 x25 p_sizes p_names v_start p_kernelAddress) (fun u34 => bd_ (f_Sums_add x26 u34 u_shifted) (fun u35 => lt_ (x25 + 1) (fun v36 => k9 v36 u35))))
def f_Writer_fileSum (N : Nat) (p_sizes : Nat → Int32) (a1 : Int32) (p_seeds : Nat → Int32) (p_names : Nat → Int64) (v_start : Int32) (p_kernelAddress : Int32) (u_shifted : Nat → Int32) : Option (Int32 × Int32) :=
  bd_ (f_Sums_begin ) (fun u19 => lp_ (fun _ _ => none) (f_Writer_fileSum_L9 p_sizes a1 p_seeds p_names v_start p_kernelAddress u_shifted) N 0 u19)
def rm_Writer_fileSum : Room := { frames := 6, cells := 0, slots := 0, locals := 130 }
set_option maxHeartbeats 4000000 in
set_option maxRecDepth 100000 in
theorem c_Writer_fileSum (l : Launch) (g : GT) (E : (Nat → Prop) → State → Prop) (hEe : Ee E) (X : XT) (hS : ∀ (A : Nat → Prop) (u : State), E A u → SS X A u) (t_o : Nat) (p_o : Nat) (p_names_a : Nat) (p_sizes_a : Nat) (p_seeds_a : Nat) (u_o : Nat) (u_shifted_a : Nat) (v_o : Nat) (d_o : Nat) (p_sorts_a : Nat) (p_starts_a : Nat) (p_lengths_a : Nat) (p_scattered_a : Nat) (v_next_a : Nat) (v_firstClusters_a : Nat) (v_runStarts_a : Nat) (v_runLengths_a : Nat) (t_sectors : Int32) (p_lastUsable : Int32) (p_partitions : Int32) (p_files : Int32) (p_kernelAddress : Int32) (p_names : Nat → Int64) (p_sizes : Nat → Int32) (p_seeds : Nat → Int32) (u_bits : Int32) (u_shifted : Nat → Int32) (v_start : Int32) (v_length : Int32) (v_tableSectors : Int32) (v_clusters : Int32) (v_runs : Int32) (a1 : Int32) (N : Nat) (z : Int32 × Int32) (hf : f_Writer_fileSum N p_sizes a1 p_seeds p_names v_start p_kernelAddress u_shifted = some z) : Cg l g E y_Writer_fileSum ws_Writer_fileSum rm_Writer_fileSum [.ref t_o, .int a1] (wd_Writer_fileSum g t_o p_o p_names_a p_sizes_a p_seeds_a u_o u_shifted_a v_o d_o p_sorts_a p_starts_a p_lengths_a p_scattered_a v_next_a v_firstClusters_a v_runStarts_a v_runLengths_a t_sectors p_lastUsable p_partitions p_files p_kernelAddress p_names p_sizes p_seeds u_bits u_shifted v_start v_length v_tableSectors v_clusters v_runs) (some (.int z.1)) (wd_Writer_fileSum g t_o p_o p_names_a p_sizes_a p_seeds_a u_o u_shifted_a v_o d_o p_sorts_a p_starts_a p_lengths_a p_scattered_a v_next_a v_firstClusters_a v_runStarts_a v_runLengths_a t_sectors p_lastUsable p_partitions p_files p_kernelAddress p_names p_sizes p_seeds z.2 u_shifted v_start v_length v_tableSectors v_clusters v_runs) := by
  refine Ct.ofI hEe good_W (by decide) rfl (Nat.le_of_ble_eq_true rfl) ?_
  intro p e s m args below meth c A ls Q hC hw hl hret
  have hC : CX p m c b_Writer_fileSum 3 s args Wall R_Writer g.1 classes (tK g) E A := hC
  have hl : lv_has ls 3 [(0, .ref t_o), (1, .int a1)] := hl
  unfold f_Writer_fileSum at hf
  refine n_aload_n hC hl 0 d_Writer_fileSum_0 rfl rfl ?_
  refine n_get hC hw fg_Writer_23 0 rfl rfl d_Writer_fileSum_1 ?_
  obtain ⟨u19, hu19, hf⟩ := bd_s hf
  refine n_callVv hC hw fc_Writer_137 (c_Sums_begin l g E hEe u_o u_shifted_a u_bits u19 hu19) [5] (wd_Writer_fileSum g t_o p_o p_names_a p_sizes_a p_seeds_a u_o u_shifted_a v_o d_o p_sorts_a p_starts_a p_lengths_a p_scattered_a v_next_a v_firstClusters_a v_runStarts_a v_runLengths_a t_sectors p_lastUsable p_partitions p_files p_kernelAddress p_names p_sizes p_seeds u19 u_shifted v_start v_length v_tableSectors v_clusters v_runs) 5 rfl ⟨rfl, rfl⟩ ⟨Nat.le_of_ble_eq_true rfl, Nat.le_of_ble_eq_true rfl⟩ rfl (At_.cons rfl At_.nil) (At_.cons rfl At_.nil) (Sm_.keep (Sm_.keep (Sm_.keep (Sm_.keep (Sm_.keep (Sm_.upd rfl (Sm_.keep (Sm_.keep Sm_.nil)))))))) rfl hl.1 (Nat.le_of_ble_eq_true rfl) ⟨Nat.zero_le _, Nat.zero_le _⟩ d_Writer_fileSum_4 (fun H locs hw => ?_) rfl
  refine n_iconst hC 0 d_Writer_fileSum_7 (by decide) ?_
  refine n_istore_n hC [(2, .int 0), (0, .ref t_o), (1, .int a1)] hl d_Writer_fileSum_8 rfl (by decide) rfl (fun ls hl => ?_)
  have hL9 := lw2 (B := f_Writer_fileSum_L9 p_sizes a1 p_seeds p_names v_start p_kernelAddress u_shifted) (z := z) (fun (x25 : Int32) (x26 : Int32) => ∀ (H : Heap) (locs : List Loc) (ls : Array Slot), WS g.1 classes A s.heap H locs (wd_Writer_fileSum g t_o p_o p_names_a p_sizes_a p_seeds_a u_o u_shifted_a v_o d_o p_sorts_a p_starts_a p_lengths_a p_scattered_a v_next_a v_firstClusters_a v_runStarts_a v_runLengths_a t_sectors p_lastUsable p_partitions p_files p_kernelAddress p_names p_sizes p_seeds x26 u_shifted v_start v_length v_tableSectors v_clusters v_runs) → lv_has ls 3 [(2, .int x25), (0, .ref t_o), (1, .int a1)] → W p l e rm_Writer_fileSum s m args below meth c H locs 0 0 Q (F0 m 9 ls [])) (by
    intro k9 hk9 x25 x26 hf H locs ls hw hl
    unfold f_Writer_fileSum_L9 at hf
    refine n_iload_n hC hl 0 d_Writer_fileSum_9 rfl rfl ?_
    refine n_aload_n hC hl 1 d_Writer_fileSum_10 rfl rfl ?_
    refine n_get hC hw fg_Writer_19 0 rfl rfl d_Writer_fileSum_11 ?_
    refine n_get hC hw fg_Writer_97 1 rfl rfl d_Writer_fileSum_14 ?_
    refine n_iload_n hC hl 2 d_Writer_fileSum_17 rfl rfl ?_
    refine n_iald hC hw hf 3 0 rfl rfl d_Writer_fileSum_18 (fun v32 hf => ?_)
    refine n_icmp_ge hC hf 51 d_Writer_fileSum_19 (by decide) (fun hf => ?_) (fun hf => ?_)
    · refine n_aload_n hC hl 1 d_Writer_fileSum_51 rfl rfl ?_
      refine n_get hC hw fg_Writer_23 0 rfl rfl d_Writer_fileSum_52 ?_
      obtain ⟨u33, hu33, hf⟩ := bd_s hf
      refine n_callVi hC hw fc_Writer_152 (c_Sums_result l g E hEe u_o u_shifted_a x26 u33 hu33) [5] (wd_Writer_fileSum g t_o p_o p_names_a p_sizes_a p_seeds_a u_o u_shifted_a v_o d_o p_sorts_a p_starts_a p_lengths_a p_scattered_a v_next_a v_firstClusters_a v_runStarts_a v_runLengths_a t_sectors p_lastUsable p_partitions p_files p_kernelAddress p_names p_sizes p_seeds x26 u_shifted v_start v_length v_tableSectors v_clusters v_runs) 5 rfl ⟨rfl, rfl⟩ ⟨Nat.le_of_ble_eq_true rfl, Nat.le_of_ble_eq_true rfl⟩ rfl (At_.cons rfl At_.nil) (At_.cons rfl At_.nil) Sm_.refl rfl hl.1 (Nat.le_of_ble_eq_true rfl) ⟨Nat.zero_le _, Nat.zero_le _⟩ d_Writer_fileSum_55 (fun H locs hw => ?_) rfl
      cases hf
      exact hret _ _ _ _ hw (show narrow .int (Value.int u33) = Value.int u33 from rfl) d_Writer_fileSum_58
    · refine n_aload_n hC hl 1 d_Writer_fileSum_22 rfl rfl ?_
      refine n_get hC hw fg_Writer_23 0 rfl rfl d_Writer_fileSum_23 ?_
      refine n_aload_n hC hl 1 d_Writer_fileSum_26 rfl rfl ?_
      refine n_get hC hw fg_Writer_19 0 rfl rfl d_Writer_fileSum_27 ?_
      refine n_iload_n hC hl 2 d_Writer_fileSum_30 rfl rfl ?_
      refine n_iload_n hC hl 0 d_Writer_fileSum_31 rfl rfl ?_
      refine n_aload_n hC hl 1 d_Writer_fileSum_32 rfl rfl ?_
      refine n_get hC hw fg_Writer_32 0 rfl rfl d_Writer_fileSum_33 ?_
      refine n_get hC hw fg_Writer_142 7 rfl rfl d_Writer_fileSum_36 ?_
      obtain ⟨u34, hu34, hf⟩ := bd_s hf
      refine n_callVi hC hw fc_Writer_145 (c_Plan_fileByte l g E hEe X hS p_o p_names_a p_sizes_a p_seeds_a p_sorts_a p_starts_a p_lengths_a p_scattered_a p_lastUsable p_partitions p_files p_kernelAddress p_names p_sizes p_seeds a1 x25 v_start u34 hu34) [1, 2, 3, 4] (wd_Writer_fileSum g t_o p_o p_names_a p_sizes_a p_seeds_a u_o u_shifted_a v_o d_o p_sorts_a p_starts_a p_lengths_a p_scattered_a v_next_a v_firstClusters_a v_runStarts_a v_runLengths_a t_sectors p_lastUsable p_partitions p_files p_kernelAddress p_names p_sizes p_seeds x26 u_shifted v_start v_length v_tableSectors v_clusters v_runs) 1 rfl ⟨rfl, rfl⟩ ⟨Nat.le_of_ble_eq_true rfl, Nat.le_of_ble_eq_true rfl⟩ rfl (At_.cons rfl (At_.cons rfl (At_.cons rfl (At_.cons rfl At_.nil)))) (At_.cons rfl (At_.cons rfl (At_.cons rfl (At_.cons rfl At_.nil)))) Sm_.refl rfl hl.1 (Nat.le_of_ble_eq_true rfl) ⟨Nat.zero_le _, Nat.zero_le _⟩ d_Writer_fileSum_39 (fun H locs hw => ?_) rfl
      obtain ⟨u35, hu35, hf⟩ := bd_s hf
      refine n_callVv hC hw fc_Writer_149 (c_Sums_add l g E hEe u_o u_shifted_a x26 u_shifted u34 u35 hu35) [5, 6] (wd_Writer_fileSum g t_o p_o p_names_a p_sizes_a p_seeds_a u_o u_shifted_a v_o d_o p_sorts_a p_starts_a p_lengths_a p_scattered_a v_next_a v_firstClusters_a v_runStarts_a v_runLengths_a t_sectors p_lastUsable p_partitions p_files p_kernelAddress p_names p_sizes p_seeds u35 u_shifted v_start v_length v_tableSectors v_clusters v_runs) 5 rfl ⟨rfl, rfl⟩ ⟨Nat.le_of_ble_eq_true rfl, Nat.le_of_ble_eq_true rfl⟩ rfl (At_.cons rfl (At_.cons rfl At_.nil)) (At_.cons rfl (At_.cons rfl At_.nil)) (Sm_.keep (Sm_.keep (Sm_.keep (Sm_.keep (Sm_.keep (Sm_.upd rfl (Sm_.keep (Sm_.keep Sm_.nil)))))))) rfl hl.1 (Nat.le_of_ble_eq_true rfl) ⟨Nat.zero_le _, Nat.zero_le _⟩ d_Writer_fileSum_42 (fun H locs hw => ?_) rfl
      refine n_iinc hC (k := 0) hf (by decide) (fun v36 => [(2, .int v36), (0, .ref t_o), (1, .int a1)]) hl d_Writer_fileSum_45 rfl (by decide) (fun _ => rfl) (fun v36 ls hf hl => ?_)
      refine n_goto hC 9 d_Writer_fileSum_48 (by decide) ?_
      exact hk9 _ _ hf _ _ _ hw (lv_sub hl [0, 1, 2] rfl)
    )
  exact hL9 N _ _ hf _ _ _ hw (lv_sub hl [0, 1, 2] rfl)
def wd_Writer_writeRuns (g : GT) (t_o : Nat) (d_o : Nat) (d_words_a : Nat) (p_o : Nat) (p_names_a : Nat) (p_sizes_a : Nat) (p_seeds_a : Nat) (u_o : Nat) (u_shifted_a : Nat) (v_o : Nat) (v_runStarts_a : Nat) (v_runLengths_a : Nat) (p_sorts_a : Nat) (p_starts_a : Nat) (p_lengths_a : Nat) (p_scattered_a : Nat) (v_next_a : Nat) (v_firstClusters_a : Nat) (d_words_n : Nat) (t_sectors : Int32) (d_length : Int32) (d_words : Nat → Int64) (p_lastUsable : Int32) (p_partitions : Int32) (p_files : Int32) (p_kernelAddress : Int32) (p_names : Nat → Int64) (p_sizes : Nat → Int32) (p_seeds : Nat → Int32) (u_bits : Int32) (u_shifted : Nat → Int32) (v_start : Int32) (v_length : Int32) (v_tableSectors : Int32) (v_clusters : Int32) (v_runs : Int32) (v_runStarts : Nat → Int32) (v_runLengths : Nat → Int32) : va_W := [(t_o, .inr (4, [.ref d_o, .int t_sectors, .ref p_o, .ref u_o, .ref v_o])), (d_o, .inr (0, [.int d_length, .ref d_words_a])), (d_words_a, .inl (g.2.2.1, d_words_n, .inr (.inl d_words))), (p_o, .inr (2, [.int p_lastUsable, .ref p_sorts_a, .ref p_starts_a, .ref p_lengths_a, .int p_partitions, .ref p_names_a, .ref p_sizes_a, .ref p_seeds_a, .ref p_scattered_a, .int p_files, .int p_kernelAddress])), (p_names_a, .inl (g.2.2.1, 12, .inr (.inl p_names))), (p_sizes_a, .inl (g.2.1, 12, .inl p_sizes)), (p_seeds_a, .inl (g.2.1, 12, .inl p_seeds)), (u_o, .inr (1, [.ref u_shifted_a, .int u_bits])), (u_shifted_a, .inl (g.2.1, 256, .inl u_shifted)), (v_o, .inr (3, [.int v_start, .int v_length, .int v_tableSectors, .int v_clusters, .ref v_next_a, .ref v_firstClusters_a, .ref v_runStarts_a, .ref v_runLengths_a, .int v_runs])), (v_runStarts_a, .inl (g.2.1, 20, .inl v_runStarts)), (v_runLengths_a, .inl (g.2.1, 20, .inl v_runLengths))]
def f_Writer_writeRuns_L21 (N : Nat) (v_runs : Int32) (p_sizes : Nat → Int32) (a1 : Int32) (d_length : Int32) (d_words_n : Nat) (p_seeds : Nat → Int32) (p_names : Nat → Int64) (v_start : Int32) (p_kernelAddress : Int32) (u_shifted : Nat → Int32) (v_runStarts : Nat → Int32) (v_runLengths : Nat → Int32) (k21 : Int32 → Int32 → (Nat → Int64) → Option ((Nat → Int64) × Int32)) (x70 : Int32) (x71 : Int32) (x72 : Nat → Int64) : Option ((Nat → Int64) × Int32) :=
  if v_runs ≤ x70 then ix_ 12 p_sizes a1 (fun (v89 : Int32) => lt_ (v89.toInt64) (fun v90 => bd_ (f_Store_putLow N 4 x71 v90 d_length d_words_n x72) (fun u91 => lt_ (x71 + 4) (fun v92 => bd_ (f_Writer_fileSum N p_sizes a1 p_seeds p_names v_start p_kernelAddress u_shifted) (fun u93 => lt_ (u93.1.toInt64) (fun v94 => bd_ (f_Store_putLow N 4 v92 v94 d_length d_words_n u91) (fun u95 => some (u95, u93.2)))))))) else ix_ 20 v_runStarts x70 (fun (v96 : Int32) => lt_ (v96.toInt64) (fun v97 => bd_ (f_Store_putLow N 4 x71 v97 d_length d_words_n x72) (fun u98 => lt_ (x71 + 4) (fun v99 => ix_ 20 v_runLengths x70 (fun (v100 : Int32) => lt_ (v100.toInt64) (fun v101 => bd_ (f_Store_putLow N 2 v99 v101 d_length d_words_n u98) (fun u102 => lt_ (x71 + 6) (fun v103 => lt_ (x70 + 1) (fun v104 => k21 v104 v103 u102)))))))))
def f_Writer_writeRuns (N : Nat) (d_words : Nat → Int64) (d_length : Int32) (d_words_n : Nat) (v_runs : Int32) (p_sizes : Nat → Int32) (a1 : Int32) (p_seeds : Nat → Int32) (p_names : Nat → Int64) (v_start : Int32) (p_kernelAddress : Int32) (u_shifted : Nat → Int32) (v_runStarts : Nat → Int32) (v_runLengths : Nat → Int32) : Option ((Nat → Int64) × Int32) :=
  bd_ (f_Store_put 64 d_words d_length d_words_n v_runs) (fun u53 => lp_ (fun _ _ _ => none) (f_Writer_writeRuns_L21 N v_runs p_sizes a1 d_length d_words_n p_seeds p_names v_start p_kernelAddress u_shifted v_runStarts v_runLengths) N 0 65 u53)
def rm_Writer_writeRuns : Room := { frames := 7, cells := 0, slots := 0, locals := 152 }
set_option maxHeartbeats 4000000 in
set_option maxRecDepth 100000 in
theorem c_Writer_writeRuns (l : Launch) (g : GT) (E : (Nat → Prop) → State → Prop) (hEe : Ee E) (X : XT) (hS : ∀ (A : Nat → Prop) (u : State), E A u → SS X A u) (t_o : Nat) (d_o : Nat) (d_words_a : Nat) (p_o : Nat) (p_names_a : Nat) (p_sizes_a : Nat) (p_seeds_a : Nat) (u_o : Nat) (u_shifted_a : Nat) (v_o : Nat) (v_runStarts_a : Nat) (v_runLengths_a : Nat) (p_sorts_a : Nat) (p_starts_a : Nat) (p_lengths_a : Nat) (p_scattered_a : Nat) (v_next_a : Nat) (v_firstClusters_a : Nat) (d_words_n : Nat) (t_sectors : Int32) (d_length : Int32) (d_words : Nat → Int64) (p_lastUsable : Int32) (p_partitions : Int32) (p_files : Int32) (p_kernelAddress : Int32) (p_names : Nat → Int64) (p_sizes : Nat → Int32) (p_seeds : Nat → Int32) (u_bits : Int32) (u_shifted : Nat → Int32) (v_start : Int32) (v_length : Int32) (v_tableSectors : Int32) (v_clusters : Int32) (v_runs : Int32) (v_runStarts : Nat → Int32) (v_runLengths : Nat → Int32) (a1 : Int32) (N : Nat) (z : (Nat → Int64) × Int32) (hf : f_Writer_writeRuns N d_words d_length d_words_n v_runs p_sizes a1 p_seeds p_names v_start p_kernelAddress u_shifted v_runStarts v_runLengths = some z) : Cg l g E y_Writer_writeRuns ws_Writer_writeRuns rm_Writer_writeRuns [.ref t_o, .int a1] (wd_Writer_writeRuns g t_o d_o d_words_a p_o p_names_a p_sizes_a p_seeds_a u_o u_shifted_a v_o v_runStarts_a v_runLengths_a p_sorts_a p_starts_a p_lengths_a p_scattered_a v_next_a v_firstClusters_a d_words_n t_sectors d_length d_words p_lastUsable p_partitions p_files p_kernelAddress p_names p_sizes p_seeds u_bits u_shifted v_start v_length v_tableSectors v_clusters v_runs v_runStarts v_runLengths) none (wd_Writer_writeRuns g t_o d_o d_words_a p_o p_names_a p_sizes_a p_seeds_a u_o u_shifted_a v_o v_runStarts_a v_runLengths_a p_sorts_a p_starts_a p_lengths_a p_scattered_a v_next_a v_firstClusters_a d_words_n t_sectors d_length z.1 p_lastUsable p_partitions p_files p_kernelAddress p_names p_sizes p_seeds z.2 u_shifted v_start v_length v_tableSectors v_clusters v_runs v_runStarts v_runLengths) := by
  refine Ct.ofV hEe good_W (by decide) rfl (Nat.le_of_ble_eq_true rfl) ?_
  intro p e s m args below meth c A ls Q hC hw hl hret
  have hC : CX p m c b_Writer_writeRuns 4 s args Wall R_Writer g.1 classes (tK g) E A := hC
  have hl : lv_has ls 4 [(0, .ref t_o), (1, .int a1)] := hl
  unfold f_Writer_writeRuns at hf
  refine n_aload_n hC hl 0 d_Writer_writeRuns_0 rfl rfl ?_
  refine n_get hC hw fg_Writer_9 0 rfl rfl d_Writer_writeRuns_1 ?_
  refine n_bipush hC 64 d_Writer_writeRuns_4 (by decide) ?_
  refine n_aload_n hC hl 0 d_Writer_writeRuns_6 rfl rfl ?_
  refine n_get hC hw fg_Writer_32 0 rfl rfl d_Writer_writeRuns_7 ?_
  refine n_get hC hw fg_Writer_107 9 rfl rfl d_Writer_writeRuns_10 ?_
  obtain ⟨u53, hu53, hf⟩ := bd_s hf
  refine n_callVv hC hw fc_Writer_104 (c_Store_put l g E hEe d_o d_words_a d_words_n d_length d_words 64 v_runs u53 hu53) [1, 2] (wd_Writer_writeRuns g t_o d_o d_words_a p_o p_names_a p_sizes_a p_seeds_a u_o u_shifted_a v_o v_runStarts_a v_runLengths_a p_sorts_a p_starts_a p_lengths_a p_scattered_a v_next_a v_firstClusters_a d_words_n t_sectors d_length u53 p_lastUsable p_partitions p_files p_kernelAddress p_names p_sizes p_seeds u_bits u_shifted v_start v_length v_tableSectors v_clusters v_runs v_runStarts v_runLengths) 1 rfl ⟨rfl, rfl⟩ ⟨Nat.le_of_ble_eq_true rfl, Nat.le_of_ble_eq_true rfl⟩ rfl (At_.cons rfl (At_.cons rfl At_.nil)) (At_.cons rfl (At_.cons rfl At_.nil)) (Sm_.keep (Sm_.keep (Sm_.upd rfl (Sm_.keep (Sm_.keep (Sm_.keep (Sm_.keep (Sm_.keep (Sm_.keep (Sm_.keep (Sm_.keep (Sm_.keep Sm_.nil)))))))))))) rfl hl.1 (Nat.le_of_ble_eq_true rfl) ⟨Nat.zero_le _, Nat.zero_le _⟩ d_Writer_writeRuns_13 (fun H locs hw => ?_) rfl
  refine n_bipush hC 65 d_Writer_writeRuns_16 (by decide) ?_
  refine n_istore_n hC [(2, .int 65), (0, .ref t_o), (1, .int a1)] hl d_Writer_writeRuns_18 rfl (by decide) rfl (fun ls hl => ?_)
  refine n_iconst hC 0 d_Writer_writeRuns_19 (by decide) ?_
  refine n_istore_n hC [(3, .int 0), (2, .int 65), (0, .ref t_o), (1, .int a1)] hl d_Writer_writeRuns_20 rfl (by decide) rfl (fun ls hl => ?_)
  have hL21 := lw3 (B := f_Writer_writeRuns_L21 N v_runs p_sizes a1 d_length d_words_n p_seeds p_names v_start p_kernelAddress u_shifted v_runStarts v_runLengths) (z := z) (fun (x70 : Int32) (x71 : Int32) (x72 : Nat → Int64) => ∀ (H : Heap) (locs : List Loc) (ls : Array Slot), WS g.1 classes A s.heap H locs (wd_Writer_writeRuns g t_o d_o d_words_a p_o p_names_a p_sizes_a p_seeds_a u_o u_shifted_a v_o v_runStarts_a v_runLengths_a p_sorts_a p_starts_a p_lengths_a p_scattered_a v_next_a v_firstClusters_a d_words_n t_sectors d_length x72 p_lastUsable p_partitions p_files p_kernelAddress p_names p_sizes p_seeds u_bits u_shifted v_start v_length v_tableSectors v_clusters v_runs v_runStarts v_runLengths) → lv_has ls 4 [(3, .int x70), (2, .int x71), (0, .ref t_o), (1, .int a1)] → W p l e rm_Writer_writeRuns s m args below meth c H locs 0 0 Q (F0 m 21 ls [])) (by
    intro k21 hk21 x70 x71 x72 hf H locs ls hw hl
    unfold f_Writer_writeRuns_L21 at hf
    refine n_iload_n hC hl 0 d_Writer_writeRuns_21 rfl rfl ?_
    refine n_aload_n hC hl 2 d_Writer_writeRuns_22 rfl rfl ?_
    refine n_get hC hw fg_Writer_32 0 rfl rfl d_Writer_writeRuns_23 ?_
    refine n_get hC hw fg_Writer_107 9 rfl rfl d_Writer_writeRuns_26 ?_
    refine n_icmp_ge hC hf 81 d_Writer_writeRuns_29 (by decide) (fun hf => ?_) (fun hf => ?_)
    · refine n_aload_n hC hl 2 d_Writer_writeRuns_81 rfl rfl ?_
      refine n_get hC hw fg_Writer_9 0 rfl rfl d_Writer_writeRuns_82 ?_
      refine n_iload_n hC hl 1 d_Writer_writeRuns_85 rfl rfl ?_
      refine n_iconst hC 4 d_Writer_writeRuns_86 (by decide) ?_
      refine n_aload_n hC hl 2 d_Writer_writeRuns_87 rfl rfl ?_
      refine n_get hC hw fg_Writer_19 0 rfl rfl d_Writer_writeRuns_88 ?_
      refine n_get hC hw fg_Writer_97 3 rfl rfl d_Writer_writeRuns_91 ?_
      refine n_iload_n hC hl 3 d_Writer_writeRuns_94 rfl rfl ?_
      refine n_iald hC hw hf 5 0 rfl rfl d_Writer_writeRuns_95 (fun v89 hf => ?_)
      refine n_i2l hC hf d_Writer_writeRuns_96 (fun v90 hf => ?_)
      obtain ⟨u91, hu91, hf⟩ := bd_s hf
      refine n_callVv hC hw fc_Writer_120 (c_Store_putLow l g E hEe d_o d_words_a d_words_n d_length x72 x71 4 v90 N u91 hu91) [1, 2] (wd_Writer_writeRuns g t_o d_o d_words_a p_o p_names_a p_sizes_a p_seeds_a u_o u_shifted_a v_o v_runStarts_a v_runLengths_a p_sorts_a p_starts_a p_lengths_a p_scattered_a v_next_a v_firstClusters_a d_words_n t_sectors d_length u91 p_lastUsable p_partitions p_files p_kernelAddress p_names p_sizes p_seeds u_bits u_shifted v_start v_length v_tableSectors v_clusters v_runs v_runStarts v_runLengths) 1 rfl ⟨rfl, rfl⟩ ⟨Nat.le_of_ble_eq_true rfl, Nat.le_of_ble_eq_true rfl⟩ rfl (At_.cons rfl (At_.cons rfl At_.nil)) (At_.cons rfl (At_.cons rfl At_.nil)) (Sm_.keep (Sm_.keep (Sm_.upd rfl (Sm_.keep (Sm_.keep (Sm_.keep (Sm_.keep (Sm_.keep (Sm_.keep (Sm_.keep (Sm_.keep (Sm_.keep Sm_.nil)))))))))))) rfl hl.1 (Nat.le_of_ble_eq_true rfl) ⟨Nat.zero_le _, Nat.zero_le _⟩ d_Writer_writeRuns_97 (fun H locs hw => ?_) rfl
      refine n_aload_n hC hl 2 d_Writer_writeRuns_100 rfl rfl ?_
      refine n_get hC hw fg_Writer_9 0 rfl rfl d_Writer_writeRuns_101 ?_
      refine n_iload_n hC hl 1 d_Writer_writeRuns_104 rfl rfl ?_
      refine n_iconst hC 4 d_Writer_writeRuns_105 (by decide) ?_
      refine n_iadd hC hf d_Writer_writeRuns_106 (fun v92 hf => ?_)
      refine n_iconst hC 4 d_Writer_writeRuns_107 (by decide) ?_
      refine n_aload_n hC hl 2 d_Writer_writeRuns_108 rfl rfl ?_
      refine n_iload_n hC hl 3 d_Writer_writeRuns_109 rfl rfl ?_
      obtain ⟨u93, hu93, hf⟩ := bd_s hf
      refine n_callVi hC hw fc_Writer_133 (c_Writer_fileSum l g E hEe X hS t_o p_o p_names_a p_sizes_a p_seeds_a u_o u_shifted_a v_o d_o p_sorts_a p_starts_a p_lengths_a p_scattered_a v_next_a v_firstClusters_a v_runStarts_a v_runLengths_a t_sectors p_lastUsable p_partitions p_files p_kernelAddress p_names p_sizes p_seeds u_bits u_shifted v_start v_length v_tableSectors v_clusters v_runs a1 N u93 hu93) [0, 3, 4, 5, 6, 7, 8, 9] (wd_Writer_writeRuns g t_o d_o d_words_a p_o p_names_a p_sizes_a p_seeds_a u_o u_shifted_a v_o v_runStarts_a v_runLengths_a p_sorts_a p_starts_a p_lengths_a p_scattered_a v_next_a v_firstClusters_a d_words_n t_sectors d_length u91 p_lastUsable p_partitions p_files p_kernelAddress p_names p_sizes p_seeds u93.2 u_shifted v_start v_length v_tableSectors v_clusters v_runs v_runStarts v_runLengths) 0 rfl ⟨rfl, rfl⟩ ⟨Nat.le_of_ble_eq_true rfl, Nat.le_of_ble_eq_true rfl⟩ rfl (At_.cons rfl (At_.cons rfl (At_.cons rfl (At_.cons rfl (At_.cons rfl (At_.cons rfl (At_.cons rfl (At_.cons rfl At_.nil)))))))) (At_.cons rfl (At_.cons rfl (At_.cons rfl (At_.cons rfl (At_.cons rfl (At_.cons rfl (At_.cons rfl (At_.cons rfl At_.nil)))))))) (Sm_.keep (Sm_.keep (Sm_.keep (Sm_.keep (Sm_.keep (Sm_.keep (Sm_.keep (Sm_.upd rfl (Sm_.keep (Sm_.keep (Sm_.keep (Sm_.keep Sm_.nil)))))))))))) rfl hl.1 (Nat.le_of_ble_eq_true rfl) ⟨Nat.zero_le _, Nat.zero_le _⟩ d_Writer_writeRuns_110 (fun H locs hw => ?_) rfl
      refine n_i2l hC hf d_Writer_writeRuns_113 (fun v94 hf => ?_)
      obtain ⟨u95, hu95, hf⟩ := bd_s hf
      refine n_callVv hC hw fc_Writer_120 (c_Store_putLow l g E hEe d_o d_words_a d_words_n d_length u91 v92 4 v94 N u95 hu95) [1, 2] (wd_Writer_writeRuns g t_o d_o d_words_a p_o p_names_a p_sizes_a p_seeds_a u_o u_shifted_a v_o v_runStarts_a v_runLengths_a p_sorts_a p_starts_a p_lengths_a p_scattered_a v_next_a v_firstClusters_a d_words_n t_sectors d_length u95 p_lastUsable p_partitions p_files p_kernelAddress p_names p_sizes p_seeds u93.2 u_shifted v_start v_length v_tableSectors v_clusters v_runs v_runStarts v_runLengths) 1 rfl ⟨rfl, rfl⟩ ⟨Nat.le_of_ble_eq_true rfl, Nat.le_of_ble_eq_true rfl⟩ rfl (At_.cons rfl (At_.cons rfl At_.nil)) (At_.cons rfl (At_.cons rfl At_.nil)) (Sm_.keep (Sm_.keep (Sm_.upd rfl (Sm_.keep (Sm_.keep (Sm_.keep (Sm_.keep (Sm_.keep (Sm_.keep (Sm_.keep (Sm_.keep (Sm_.keep Sm_.nil)))))))))))) rfl hl.1 (Nat.le_of_ble_eq_true rfl) ⟨Nat.zero_le _, Nat.zero_le _⟩ d_Writer_writeRuns_114 (fun H locs hw => ?_) rfl
      cases hf
      exact hret _ _ _ _ hw d_Writer_writeRuns_117
    · refine n_aload_n hC hl 2 d_Writer_writeRuns_32 rfl rfl ?_
      refine n_get hC hw fg_Writer_9 0 rfl rfl d_Writer_writeRuns_33 ?_
      refine n_iload_n hC hl 1 d_Writer_writeRuns_36 rfl rfl ?_
      refine n_iconst hC 4 d_Writer_writeRuns_37 (by decide) ?_
      refine n_aload_n hC hl 2 d_Writer_writeRuns_38 rfl rfl ?_
      refine n_get hC hw fg_Writer_32 0 rfl rfl d_Writer_writeRuns_39 ?_
      refine n_get hC hw fg_Writer_127 9 rfl rfl d_Writer_writeRuns_42 ?_
      refine n_iload_n hC hl 0 d_Writer_writeRuns_45 rfl rfl ?_
      refine n_iald hC hw hf 10 0 rfl rfl d_Writer_writeRuns_46 (fun v96 hf => ?_)
      refine n_i2l hC hf d_Writer_writeRuns_47 (fun v97 hf => ?_)
      obtain ⟨u98, hu98, hf⟩ := bd_s hf
      refine n_callVv hC hw fc_Writer_120 (c_Store_putLow l g E hEe d_o d_words_a d_words_n d_length x72 x71 4 v97 N u98 hu98) [1, 2] (wd_Writer_writeRuns g t_o d_o d_words_a p_o p_names_a p_sizes_a p_seeds_a u_o u_shifted_a v_o v_runStarts_a v_runLengths_a p_sorts_a p_starts_a p_lengths_a p_scattered_a v_next_a v_firstClusters_a d_words_n t_sectors d_length u98 p_lastUsable p_partitions p_files p_kernelAddress p_names p_sizes p_seeds u_bits u_shifted v_start v_length v_tableSectors v_clusters v_runs v_runStarts v_runLengths) 1 rfl ⟨rfl, rfl⟩ ⟨Nat.le_of_ble_eq_true rfl, Nat.le_of_ble_eq_true rfl⟩ rfl (At_.cons rfl (At_.cons rfl At_.nil)) (At_.cons rfl (At_.cons rfl At_.nil)) (Sm_.keep (Sm_.keep (Sm_.upd rfl (Sm_.keep (Sm_.keep (Sm_.keep (Sm_.keep (Sm_.keep (Sm_.keep (Sm_.keep (Sm_.keep (Sm_.keep Sm_.nil)))))))))))) rfl hl.1 (Nat.le_of_ble_eq_true rfl) ⟨Nat.zero_le _, Nat.zero_le _⟩ d_Writer_writeRuns_48 (fun H locs hw => ?_) rfl
      refine n_aload_n hC hl 2 d_Writer_writeRuns_51 rfl rfl ?_
      refine n_get hC hw fg_Writer_9 0 rfl rfl d_Writer_writeRuns_52 ?_
      refine n_iload_n hC hl 1 d_Writer_writeRuns_55 rfl rfl ?_
      refine n_iconst hC 4 d_Writer_writeRuns_56 (by decide) ?_
      refine n_iadd hC hf d_Writer_writeRuns_57 (fun v99 hf => ?_)
      refine n_iconst hC 2 d_Writer_writeRuns_58 (by decide) ?_
      refine n_aload_n hC hl 2 d_Writer_writeRuns_59 rfl rfl ?_
      refine n_get hC hw fg_Writer_32 0 rfl rfl d_Writer_writeRuns_60 ?_
      refine n_get hC hw fg_Writer_130 9 rfl rfl d_Writer_writeRuns_63 ?_
      refine n_iload_n hC hl 0 d_Writer_writeRuns_66 rfl rfl ?_
      refine n_iald hC hw hf 11 0 rfl rfl d_Writer_writeRuns_67 (fun v100 hf => ?_)
      refine n_i2l hC hf d_Writer_writeRuns_68 (fun v101 hf => ?_)
      obtain ⟨u102, hu102, hf⟩ := bd_s hf
      refine n_callVv hC hw fc_Writer_120 (c_Store_putLow l g E hEe d_o d_words_a d_words_n d_length u98 v99 2 v101 N u102 hu102) [1, 2] (wd_Writer_writeRuns g t_o d_o d_words_a p_o p_names_a p_sizes_a p_seeds_a u_o u_shifted_a v_o v_runStarts_a v_runLengths_a p_sorts_a p_starts_a p_lengths_a p_scattered_a v_next_a v_firstClusters_a d_words_n t_sectors d_length u102 p_lastUsable p_partitions p_files p_kernelAddress p_names p_sizes p_seeds u_bits u_shifted v_start v_length v_tableSectors v_clusters v_runs v_runStarts v_runLengths) 1 rfl ⟨rfl, rfl⟩ ⟨Nat.le_of_ble_eq_true rfl, Nat.le_of_ble_eq_true rfl⟩ rfl (At_.cons rfl (At_.cons rfl At_.nil)) (At_.cons rfl (At_.cons rfl At_.nil)) (Sm_.keep (Sm_.keep (Sm_.upd rfl (Sm_.keep (Sm_.keep (Sm_.keep (Sm_.keep (Sm_.keep (Sm_.keep (Sm_.keep (Sm_.keep (Sm_.keep Sm_.nil)))))))))))) rfl hl.1 (Nat.le_of_ble_eq_true rfl) ⟨Nat.zero_le _, Nat.zero_le _⟩ d_Writer_writeRuns_69 (fun H locs hw => ?_) rfl
      refine n_iinc hC (k := 1) hf (by decide) (fun v103 => [(2, .int v103), (3, .int x70), (0, .ref t_o), (1, .int a1)]) hl d_Writer_writeRuns_72 rfl (by decide) (fun _ => rfl) (fun v103 ls hf hl => ?_)
      refine n_iinc hC (k := 1) hf (by decide) (fun v104 => [(3, .int v104), (2, .int v103), (0, .ref t_o), (1, .int a1)]) hl d_Writer_writeRuns_75 rfl (by decide) (fun _ => rfl) (fun v104 ls hf hl => ?_)
      refine n_goto hC 21 d_Writer_writeRuns_78 (by decide) ?_
      exact hk21 _ _ _ hf _ _ _ hw (lv_sub hl [0, 1, 2, 3] rfl)
    )
  exact hL21 N _ _ _ hf _ _ _ hw (lv_sub hl [0, 1, 2, 3] rfl)
def wd_Writer_writeSectorZero (g : GT) (t_o : Nat) (d_o : Nat) (d_words_a : Nat) (p_o : Nat) (p_names_a : Nat) (p_sizes_a : Nat) (p_seeds_a : Nat) (u_o : Nat) (u_shifted_a : Nat) (v_o : Nat) (v_runStarts_a : Nat) (v_runLengths_a : Nat) (p_sorts_a : Nat) (p_starts_a : Nat) (p_lengths_a : Nat) (p_scattered_a : Nat) (v_next_a : Nat) (v_firstClusters_a : Nat) (d_words_n : Nat) (t_sectors : Int32) (d_length : Int32) (d_words : Nat → Int64) (p_lastUsable : Int32) (p_partitions : Int32) (p_files : Int32) (p_kernelAddress : Int32) (p_names : Nat → Int64) (p_sizes : Nat → Int32) (p_seeds : Nat → Int32) (u_bits : Int32) (u_shifted : Nat → Int32) (v_start : Int32) (v_length : Int32) (v_tableSectors : Int32) (v_clusters : Int32) (v_runs : Int32) (v_runStarts : Nat → Int32) (v_runLengths : Nat → Int32) : va_W := [(t_o, .inr (4, [.ref d_o, .int t_sectors, .ref p_o, .ref u_o, .ref v_o])), (d_o, .inr (0, [.int d_length, .ref d_words_a])), (d_words_a, .inl (g.2.2.1, d_words_n, .inr (.inl d_words))), (p_o, .inr (2, [.int p_lastUsable, .ref p_sorts_a, .ref p_starts_a, .ref p_lengths_a, .int p_partitions, .ref p_names_a, .ref p_sizes_a, .ref p_seeds_a, .ref p_scattered_a, .int p_files, .int p_kernelAddress])), (p_names_a, .inl (g.2.2.1, 12, .inr (.inl p_names))), (p_sizes_a, .inl (g.2.1, 12, .inl p_sizes)), (p_seeds_a, .inl (g.2.1, 12, .inl p_seeds)), (u_o, .inr (1, [.ref u_shifted_a, .int u_bits])), (u_shifted_a, .inl (g.2.1, 256, .inl u_shifted)), (v_o, .inr (3, [.int v_start, .int v_length, .int v_tableSectors, .int v_clusters, .ref v_next_a, .ref v_firstClusters_a, .ref v_runStarts_a, .ref v_runLengths_a, .int v_runs])), (v_runStarts_a, .inl (g.2.1, 20, .inl v_runStarts)), (v_runLengths_a, .inl (g.2.1, 20, .inl v_runLengths))]
def f_Writer_writeSectorZero (N : Nat) (d_words : Nat → Int64) (d_length : Int32) (d_words_n : Nat) (p_files : Int32) (p_names : Nat → Int64) (t_sectors : Int32) (u_bits : Int32) (v_runs : Int32) (p_sizes : Nat → Int32) (p_seeds : Nat → Int32) (v_start : Int32) (p_kernelAddress : Int32) (u_shifted : Nat → Int32) (v_runStarts : Nat → Int32) (v_runLengths : Nat → Int32) : Option ((Nat → Int64) × Int32) :=
  bd_ (f_Store_put 0 d_words d_length d_words_n 235) (fun u23 => bd_ (f_Store_put 1 u23 d_length d_words_n 62) (fun u24 => bd_ (f_Plan_fileNamed N p_files p_names 83903281120594) (fun u25 => lt_ (fun (x27 : Nat → Int64) (x28 : Int32) => bd_ (f_Store_putRow N 8 446 (tVal 3) d_length d_words_n x27) (fun u29 => bd_ (f_Store_putLow N 4 454 1 d_length d_words_n u29) (fun u30 => lt_ (t_sectors - 1) (fun v31 => lt_ (v31.toInt64) (fun v32 => bd_ (f_Store_putLow N 4 458 v32 d_length d_words_n u30) (fun u33 => bd_ (f_Store_markBootSector N 0 d_length d_words_n u33) (fun u34 => some (u34, x28)))))))) (fun (j52 : (Nat → Int64) → Int32 → Option ((Nat → Int64) × Int32)) => if u25 = ((-1) : Int32) then j52 u24 u_bits else if v_runs ≤ 0 then j52 u24 u_bits else bd_ (f_Writer_writeRuns N u24 d_length d_words_n v_runs p_sizes u25 p_seeds p_names v_start p_kernelAddress u_shifted v_runStarts v_runLengths) (fun u35 => j52 u35.1 u35.2)))))
def rm_Writer_writeSectorZero : Room := { frames := 8, cells := 0, slots := 0, locals := 175 }
set_option maxHeartbeats 4000000 in
set_option maxRecDepth 100000 in
theorem c_Writer_writeSectorZero (l : Launch) (g : GT) (E : (Nat → Prop) → State → Prop) (hEe : Ee E) (X : XT) (hS : ∀ (A : Nat → Prop) (u : State), E A u → SS X A u) (t_o : Nat) (d_o : Nat) (d_words_a : Nat) (p_o : Nat) (p_names_a : Nat) (p_sizes_a : Nat) (p_seeds_a : Nat) (u_o : Nat) (u_shifted_a : Nat) (v_o : Nat) (v_runStarts_a : Nat) (v_runLengths_a : Nat) (p_sorts_a : Nat) (p_starts_a : Nat) (p_lengths_a : Nat) (p_scattered_a : Nat) (v_next_a : Nat) (v_firstClusters_a : Nat) (d_words_n : Nat) (t_sectors : Int32) (d_length : Int32) (d_words : Nat → Int64) (p_lastUsable : Int32) (p_partitions : Int32) (p_files : Int32) (p_kernelAddress : Int32) (p_names : Nat → Int64) (p_sizes : Nat → Int32) (p_seeds : Nat → Int32) (u_bits : Int32) (u_shifted : Nat → Int32) (v_start : Int32) (v_length : Int32) (v_tableSectors : Int32) (v_clusters : Int32) (v_runs : Int32) (v_runStarts : Nat → Int32) (v_runLengths : Nat → Int32) (N : Nat) (z : (Nat → Int64) × Int32) (hf : f_Writer_writeSectorZero N d_words d_length d_words_n p_files p_names t_sectors u_bits v_runs p_sizes p_seeds v_start p_kernelAddress u_shifted v_runStarts v_runLengths = some z) : Cg l g E y_Writer_writeSectorZero ws_Writer_writeSectorZero rm_Writer_writeSectorZero [.ref t_o] (wd_Writer_writeSectorZero g t_o d_o d_words_a p_o p_names_a p_sizes_a p_seeds_a u_o u_shifted_a v_o v_runStarts_a v_runLengths_a p_sorts_a p_starts_a p_lengths_a p_scattered_a v_next_a v_firstClusters_a d_words_n t_sectors d_length d_words p_lastUsable p_partitions p_files p_kernelAddress p_names p_sizes p_seeds u_bits u_shifted v_start v_length v_tableSectors v_clusters v_runs v_runStarts v_runLengths) none (wd_Writer_writeSectorZero g t_o d_o d_words_a p_o p_names_a p_sizes_a p_seeds_a u_o u_shifted_a v_o v_runStarts_a v_runLengths_a p_sorts_a p_starts_a p_lengths_a p_scattered_a v_next_a v_firstClusters_a d_words_n t_sectors d_length z.1 p_lastUsable p_partitions p_files p_kernelAddress p_names p_sizes p_seeds z.2 u_shifted v_start v_length v_tableSectors v_clusters v_runs v_runStarts v_runLengths) := by
  refine Ct.ofV hEe good_W (by decide) rfl (Nat.le_of_ble_eq_true rfl) ?_
  intro p e s m args below meth c A ls Q hC hw hl hret
  have hC : CX p m c b_Writer_writeSectorZero 2 s args Wall R_Writer g.1 classes (tK g) E A := hC
  have hl : lv_has ls 2 [(0, .ref t_o)] := hl
  unfold f_Writer_writeSectorZero at hf
  refine n_aload_n hC hl 0 d_Writer_writeSectorZero_0 rfl rfl ?_
  refine n_get hC hw fg_Writer_9 0 rfl rfl d_Writer_writeSectorZero_1 ?_
  refine n_iconst hC 0 d_Writer_writeSectorZero_4 (by decide) ?_
  refine n_sipush hC 235 d_Writer_writeSectorZero_5 (by decide) ?_
  obtain ⟨u23, hu23, hf⟩ := bd_s hf
  refine n_callVv hC hw fc_Writer_104 (c_Store_put l g E hEe d_o d_words_a d_words_n d_length d_words 0 235 u23 hu23) [1, 2] (wd_Writer_writeSectorZero g t_o d_o d_words_a p_o p_names_a p_sizes_a p_seeds_a u_o u_shifted_a v_o v_runStarts_a v_runLengths_a p_sorts_a p_starts_a p_lengths_a p_scattered_a v_next_a v_firstClusters_a d_words_n t_sectors d_length u23 p_lastUsable p_partitions p_files p_kernelAddress p_names p_sizes p_seeds u_bits u_shifted v_start v_length v_tableSectors v_clusters v_runs v_runStarts v_runLengths) 1 rfl ⟨rfl, rfl⟩ ⟨Nat.le_of_ble_eq_true rfl, Nat.le_of_ble_eq_true rfl⟩ rfl (At_.cons rfl (At_.cons rfl At_.nil)) (At_.cons rfl (At_.cons rfl At_.nil)) (Sm_.keep (Sm_.keep (Sm_.upd rfl (Sm_.keep (Sm_.keep (Sm_.keep (Sm_.keep (Sm_.keep (Sm_.keep (Sm_.keep (Sm_.keep (Sm_.keep Sm_.nil)))))))))))) rfl hl.1 (Nat.le_of_ble_eq_true rfl) ⟨Nat.zero_le _, Nat.zero_le _⟩ d_Writer_writeSectorZero_8 (fun H locs hw => ?_) rfl
  refine n_aload_n hC hl 0 d_Writer_writeSectorZero_11 rfl rfl ?_
  refine n_get hC hw fg_Writer_9 0 rfl rfl d_Writer_writeSectorZero_12 ?_
  refine n_iconst hC 1 d_Writer_writeSectorZero_15 (by decide) ?_
  refine n_bipush hC 62 d_Writer_writeSectorZero_16 (by decide) ?_
  obtain ⟨u24, hu24, hf⟩ := bd_s hf
  refine n_callVv hC hw fc_Writer_104 (c_Store_put l g E hEe d_o d_words_a d_words_n d_length u23 1 62 u24 hu24) [1, 2] (wd_Writer_writeSectorZero g t_o d_o d_words_a p_o p_names_a p_sizes_a p_seeds_a u_o u_shifted_a v_o v_runStarts_a v_runLengths_a p_sorts_a p_starts_a p_lengths_a p_scattered_a v_next_a v_firstClusters_a d_words_n t_sectors d_length u24 p_lastUsable p_partitions p_files p_kernelAddress p_names p_sizes p_seeds u_bits u_shifted v_start v_length v_tableSectors v_clusters v_runs v_runStarts v_runLengths) 1 rfl ⟨rfl, rfl⟩ ⟨Nat.le_of_ble_eq_true rfl, Nat.le_of_ble_eq_true rfl⟩ rfl (At_.cons rfl (At_.cons rfl At_.nil)) (At_.cons rfl (At_.cons rfl At_.nil)) (Sm_.keep (Sm_.keep (Sm_.upd rfl (Sm_.keep (Sm_.keep (Sm_.keep (Sm_.keep (Sm_.keep (Sm_.keep (Sm_.keep (Sm_.keep (Sm_.keep Sm_.nil)))))))))))) rfl hl.1 (Nat.le_of_ble_eq_true rfl) ⟨Nat.zero_le _, Nat.zero_le _⟩ d_Writer_writeSectorZero_18 (fun H locs hw => ?_) rfl
  refine n_aload_n hC hl 0 d_Writer_writeSectorZero_21 rfl rfl ?_
  refine n_get hC hw fg_Writer_19 0 rfl rfl d_Writer_writeSectorZero_22 ?_
  refine n_ldc2 hC 83903281120594 kc_Writer_91 d_Writer_writeSectorZero_25 ?_
  obtain ⟨u25, hu25, hf⟩ := bd_s hf
  refine n_callVi hC hw fc_Writer_93 (c_Plan_fileNamed l g E hEe p_o p_names_a p_sorts_a p_starts_a p_lengths_a p_sizes_a p_seeds_a p_scattered_a p_lastUsable p_partitions p_files p_kernelAddress p_names 83903281120594 N u25 hu25) [3, 4] (wd_Writer_writeSectorZero g t_o d_o d_words_a p_o p_names_a p_sizes_a p_seeds_a u_o u_shifted_a v_o v_runStarts_a v_runLengths_a p_sorts_a p_starts_a p_lengths_a p_scattered_a v_next_a v_firstClusters_a d_words_n t_sectors d_length u24 p_lastUsable p_partitions p_files p_kernelAddress p_names p_sizes p_seeds u_bits u_shifted v_start v_length v_tableSectors v_clusters v_runs v_runStarts v_runLengths) 3 rfl ⟨rfl, rfl⟩ ⟨Nat.le_of_ble_eq_true rfl, Nat.le_of_ble_eq_true rfl⟩ rfl (At_.cons rfl (At_.cons rfl At_.nil)) (At_.cons rfl (At_.cons rfl At_.nil)) Sm_.refl rfl hl.1 (Nat.le_of_ble_eq_true rfl) ⟨Nat.zero_le _, Nat.zero_le _⟩ d_Writer_writeSectorZero_28 (fun H locs hw => ?_) rfl
  refine n_istore_n hC [(1, .int u25), (0, .ref t_o)] hl d_Writer_writeSectorZero_31 rfl (by decide) rfl (fun ls hl => ?_)
  refine n_iload_n hC hl 0 d_Writer_writeSectorZero_32 rfl rfl ?_
  refine n_iconst hC (-1) d_Writer_writeSectorZero_33 (by decide) ?_
  refine jn2 (fun (x27 : Nat → Int64) (x28 : Int32) => ∀ (H : Heap) (locs : List Loc) (ls : Array Slot), WS g.1 classes A s.heap H locs (wd_Writer_writeSectorZero g t_o d_o d_words_a p_o p_names_a p_sizes_a p_seeds_a u_o u_shifted_a v_o v_runStarts_a v_runLengths_a p_sorts_a p_starts_a p_lengths_a p_scattered_a v_next_a v_firstClusters_a d_words_n t_sectors d_length x27 p_lastUsable p_partitions p_files p_kernelAddress p_names p_sizes p_seeds x28 u_shifted v_start v_length v_tableSectors v_clusters v_runs v_runStarts v_runLengths) → lv_has ls 2 [(0, .ref t_o)] → W p l e rm_Writer_writeSectorZero s m args below meth c H locs 0 0 Q (F0 m 52 ls [])) hf (fun x27 x28 hf H locs ls hw hl => ?_) (fun j52 hj52 hf => ?_)
  · refine n_aload_n hC hl 0 d_Writer_writeSectorZero_52 rfl rfl ?_
    refine n_get hC hw fg_Writer_9 0 rfl rfl d_Writer_writeSectorZero_53 ?_
    refine n_sipush hC 446 d_Writer_writeSectorZero_56 (by decide) ?_
    refine n_getsN hC hw (fun A u h => ((hS A u h).2.2.1 3 (by decide)).1) (fun A u h => (hS A u h).2.2.2 0 (by decide)) d_Writer_writeSectorZero_59 ?_
    obtain ⟨u29, hu29, hf⟩ := bd_s hf
    refine n_callVv hC hw fc_Writer_116 (c_Store_putRow l g E hEe (X.1 3) 8 (tVal 3) (fun A u h => ((hS A u h).2.2.1 3 (by decide)).2) d_o d_words_a d_words_n d_length x27 446 N u29 hu29) [1, 2] (wd_Writer_writeSectorZero g t_o d_o d_words_a p_o p_names_a p_sizes_a p_seeds_a u_o u_shifted_a v_o v_runStarts_a v_runLengths_a p_sorts_a p_starts_a p_lengths_a p_scattered_a v_next_a v_firstClusters_a d_words_n t_sectors d_length u29 p_lastUsable p_partitions p_files p_kernelAddress p_names p_sizes p_seeds x28 u_shifted v_start v_length v_tableSectors v_clusters v_runs v_runStarts v_runLengths) 1 rfl ⟨rfl, rfl⟩ ⟨Nat.le_of_ble_eq_true rfl, Nat.le_of_ble_eq_true rfl⟩ rfl (At_.cons rfl (At_.cons rfl At_.nil)) (At_.cons rfl (At_.cons rfl At_.nil)) (Sm_.keep (Sm_.keep (Sm_.upd rfl (Sm_.keep (Sm_.keep (Sm_.keep (Sm_.keep (Sm_.keep (Sm_.keep (Sm_.keep (Sm_.keep (Sm_.keep Sm_.nil)))))))))))) rfl hl.1 (Nat.le_of_ble_eq_true rfl) ⟨Nat.zero_le _, Nat.zero_le _⟩ d_Writer_writeSectorZero_62 (fun H locs hw => ?_) rfl
    refine n_aload_n hC hl 0 d_Writer_writeSectorZero_65 rfl rfl ?_
    refine n_get hC hw fg_Writer_9 0 rfl rfl d_Writer_writeSectorZero_66 ?_
    refine n_sipush hC 454 d_Writer_writeSectorZero_69 (by decide) ?_
    refine n_iconst hC 4 d_Writer_writeSectorZero_72 (by decide) ?_
    refine n_lconst hC 1 d_Writer_writeSectorZero_73 (by decide) ?_
    obtain ⟨u30, hu30, hf⟩ := bd_s hf
    refine n_callVv hC hw fc_Writer_120 (c_Store_putLow l g E hEe d_o d_words_a d_words_n d_length u29 454 4 1 N u30 hu30) [1, 2] (wd_Writer_writeSectorZero g t_o d_o d_words_a p_o p_names_a p_sizes_a p_seeds_a u_o u_shifted_a v_o v_runStarts_a v_runLengths_a p_sorts_a p_starts_a p_lengths_a p_scattered_a v_next_a v_firstClusters_a d_words_n t_sectors d_length u30 p_lastUsable p_partitions p_files p_kernelAddress p_names p_sizes p_seeds x28 u_shifted v_start v_length v_tableSectors v_clusters v_runs v_runStarts v_runLengths) 1 rfl ⟨rfl, rfl⟩ ⟨Nat.le_of_ble_eq_true rfl, Nat.le_of_ble_eq_true rfl⟩ rfl (At_.cons rfl (At_.cons rfl At_.nil)) (At_.cons rfl (At_.cons rfl At_.nil)) (Sm_.keep (Sm_.keep (Sm_.upd rfl (Sm_.keep (Sm_.keep (Sm_.keep (Sm_.keep (Sm_.keep (Sm_.keep (Sm_.keep (Sm_.keep (Sm_.keep Sm_.nil)))))))))))) rfl hl.1 (Nat.le_of_ble_eq_true rfl) ⟨Nat.zero_le _, Nat.zero_le _⟩ d_Writer_writeSectorZero_74 (fun H locs hw => ?_) rfl
    refine n_aload_n hC hl 0 d_Writer_writeSectorZero_77 rfl rfl ?_
    refine n_get hC hw fg_Writer_9 0 rfl rfl d_Writer_writeSectorZero_78 ?_
    refine n_sipush hC 458 d_Writer_writeSectorZero_81 (by decide) ?_
    refine n_iconst hC 4 d_Writer_writeSectorZero_84 (by decide) ?_
    refine n_aload_n hC hl 0 d_Writer_writeSectorZero_85 rfl rfl ?_
    refine n_get hC hw fg_Writer_15 0 rfl rfl d_Writer_writeSectorZero_86 ?_
    refine n_iconst hC 1 d_Writer_writeSectorZero_89 (by decide) ?_
    refine n_isub hC hf d_Writer_writeSectorZero_90 (fun v31 hf => ?_)
    refine n_i2l hC hf d_Writer_writeSectorZero_91 (fun v32 hf => ?_)
    obtain ⟨u33, hu33, hf⟩ := bd_s hf
    refine n_callVv hC hw fc_Writer_120 (c_Store_putLow l g E hEe d_o d_words_a d_words_n d_length u30 458 4 v32 N u33 hu33) [1, 2] (wd_Writer_writeSectorZero g t_o d_o d_words_a p_o p_names_a p_sizes_a p_seeds_a u_o u_shifted_a v_o v_runStarts_a v_runLengths_a p_sorts_a p_starts_a p_lengths_a p_scattered_a v_next_a v_firstClusters_a d_words_n t_sectors d_length u33 p_lastUsable p_partitions p_files p_kernelAddress p_names p_sizes p_seeds x28 u_shifted v_start v_length v_tableSectors v_clusters v_runs v_runStarts v_runLengths) 1 rfl ⟨rfl, rfl⟩ ⟨Nat.le_of_ble_eq_true rfl, Nat.le_of_ble_eq_true rfl⟩ rfl (At_.cons rfl (At_.cons rfl At_.nil)) (At_.cons rfl (At_.cons rfl At_.nil)) (Sm_.keep (Sm_.keep (Sm_.upd rfl (Sm_.keep (Sm_.keep (Sm_.keep (Sm_.keep (Sm_.keep (Sm_.keep (Sm_.keep (Sm_.keep (Sm_.keep Sm_.nil)))))))))))) rfl hl.1 (Nat.le_of_ble_eq_true rfl) ⟨Nat.zero_le _, Nat.zero_le _⟩ d_Writer_writeSectorZero_92 (fun H locs hw => ?_) rfl
    refine n_aload_n hC hl 0 d_Writer_writeSectorZero_95 rfl rfl ?_
    refine n_get hC hw fg_Writer_9 0 rfl rfl d_Writer_writeSectorZero_96 ?_
    refine n_iconst hC 0 d_Writer_writeSectorZero_99 (by decide) ?_
    obtain ⟨u34, hu34, hf⟩ := bd_s hf
    refine n_callVv hC hw fc_Writer_124 (c_Store_markBootSector l g E hEe d_o d_words_a d_words_n d_length u33 0 N u34 hu34) [1, 2] (wd_Writer_writeSectorZero g t_o d_o d_words_a p_o p_names_a p_sizes_a p_seeds_a u_o u_shifted_a v_o v_runStarts_a v_runLengths_a p_sorts_a p_starts_a p_lengths_a p_scattered_a v_next_a v_firstClusters_a d_words_n t_sectors d_length u34 p_lastUsable p_partitions p_files p_kernelAddress p_names p_sizes p_seeds x28 u_shifted v_start v_length v_tableSectors v_clusters v_runs v_runStarts v_runLengths) 1 rfl ⟨rfl, rfl⟩ ⟨Nat.le_of_ble_eq_true rfl, Nat.le_of_ble_eq_true rfl⟩ rfl (At_.cons rfl (At_.cons rfl At_.nil)) (At_.cons rfl (At_.cons rfl At_.nil)) (Sm_.keep (Sm_.keep (Sm_.upd rfl (Sm_.keep (Sm_.keep (Sm_.keep (Sm_.keep (Sm_.keep (Sm_.keep (Sm_.keep (Sm_.keep (Sm_.keep Sm_.nil)))))))))))) rfl hl.1 (Nat.le_of_ble_eq_true rfl) ⟨Nat.zero_le _, Nat.zero_le _⟩ d_Writer_writeSectorZero_100 (fun H locs hw => ?_) rfl
    cases hf
    exact hret _ _ _ _ hw d_Writer_writeSectorZero_103
  refine n_icmp_eq hC hf 52 d_Writer_writeSectorZero_34 (by decide) (fun hf => ?_) (fun hf => ?_)
  · exact hj52 _ _ hf _ _ _ hw (lv_sub hl [1] rfl)
  · refine n_aload_n hC hl 1 d_Writer_writeSectorZero_37 rfl rfl ?_
    refine n_get hC hw fg_Writer_32 0 rfl rfl d_Writer_writeSectorZero_38 ?_
    refine n_get hC hw fg_Writer_107 9 rfl rfl d_Writer_writeSectorZero_41 ?_
    refine n_if_le hC hf 52 d_Writer_writeSectorZero_44 (by decide) (fun hf => ?_) (fun hf => ?_)
    · exact hj52 _ _ hf _ _ _ hw (lv_sub hl [1] rfl)
    · refine n_aload_n hC hl 1 d_Writer_writeSectorZero_47 rfl rfl ?_
      refine n_iload_n hC hl 0 d_Writer_writeSectorZero_48 rfl rfl ?_
      obtain ⟨u35, hu35, hf⟩ := bd_s hf
      refine n_callVv hC hw fc_Writer_110 (c_Writer_writeRuns l g E hEe X hS t_o d_o d_words_a p_o p_names_a p_sizes_a p_seeds_a u_o u_shifted_a v_o v_runStarts_a v_runLengths_a p_sorts_a p_starts_a p_lengths_a p_scattered_a v_next_a v_firstClusters_a d_words_n t_sectors d_length u24 p_lastUsable p_partitions p_files p_kernelAddress p_names p_sizes p_seeds u_bits u_shifted v_start v_length v_tableSectors v_clusters v_runs v_runStarts v_runLengths u25 N u35 hu35) [0, 1, 2, 3, 4, 5, 6, 7, 8, 9, 10, 11] (wd_Writer_writeSectorZero g t_o d_o d_words_a p_o p_names_a p_sizes_a p_seeds_a u_o u_shifted_a v_o v_runStarts_a v_runLengths_a p_sorts_a p_starts_a p_lengths_a p_scattered_a v_next_a v_firstClusters_a d_words_n t_sectors d_length u35.1 p_lastUsable p_partitions p_files p_kernelAddress p_names p_sizes p_seeds u35.2 u_shifted v_start v_length v_tableSectors v_clusters v_runs v_runStarts v_runLengths) 0 rfl ⟨rfl, rfl⟩ ⟨Nat.le_of_ble_eq_true rfl, Nat.le_of_ble_eq_true rfl⟩ rfl (At_.cons rfl (At_.cons rfl (At_.cons rfl (At_.cons rfl (At_.cons rfl (At_.cons rfl (At_.cons rfl (At_.cons rfl (At_.cons rfl (At_.cons rfl (At_.cons rfl (At_.cons rfl At_.nil)))))))))))) (At_.cons rfl (At_.cons rfl (At_.cons rfl (At_.cons rfl (At_.cons rfl (At_.cons rfl (At_.cons rfl (At_.cons rfl (At_.cons rfl (At_.cons rfl (At_.cons rfl (At_.cons rfl At_.nil)))))))))))) (Sm_.keep (Sm_.keep (Sm_.upd rfl (Sm_.keep (Sm_.keep (Sm_.keep (Sm_.keep (Sm_.upd rfl (Sm_.keep (Sm_.keep (Sm_.keep (Sm_.keep Sm_.nil)))))))))))) rfl hl.1 (Nat.le_of_ble_eq_true rfl) ⟨Nat.zero_le _, Nat.zero_le _⟩ d_Writer_writeSectorZero_49 (fun H locs hw => ?_) rfl
      exact hj52 _ _ hf _ _ _ hw (lv_sub hl [1] rfl)
def wd_Writer_writeEntry (g : GT) (t_o : Nat) (d_o : Nat) (d_words_a : Nat) (p_o : Nat) (p_sorts_a : Nat) (p_starts_a : Nat) (p_lengths_a : Nat) (u_o : Nat) (v_o : Nat) (p_names_a : Nat) (p_sizes_a : Nat) (p_seeds_a : Nat) (p_scattered_a : Nat) (d_words_n : Nat) (t_sectors : Int32) (d_length : Int32) (d_words : Nat → Int64) (p_lastUsable : Int32) (p_partitions : Int32) (p_files : Int32) (p_kernelAddress : Int32) (p_sorts : Nat → Int32) (p_starts : Nat → Int32) (p_lengths : Nat → Int32) : va_W := [(t_o, .inr (4, [.ref d_o, .int t_sectors, .ref p_o, .ref u_o, .ref v_o])), (d_o, .inr (0, [.int d_length, .ref d_words_a])), (d_words_a, .inl (g.2.2.1, d_words_n, .inr (.inl d_words))), (p_o, .inr (2, [.int p_lastUsable, .ref p_sorts_a, .ref p_starts_a, .ref p_lengths_a, .int p_partitions, .ref p_names_a, .ref p_sizes_a, .ref p_seeds_a, .ref p_scattered_a, .int p_files, .int p_kernelAddress])), (p_sorts_a, .inl (g.2.1, 4, .inl p_sorts)), (p_starts_a, .inl (g.2.1, 4, .inl p_starts)), (p_lengths_a, .inl (g.2.1, 4, .inl p_lengths))]
def f_Writer_writeEntry_L152 (a1 : Int32) (a2 : Int32) (d_length : Int32) (d_words_n : Nat) (k152 : Int32 → (Nat → Int64) → Option ((Nat → Int64))) (x1443 : Int32) (x1444 : Nat → Int64) : Option ((Nat → Int64)) :=
  bd_ (f_String_length 4) (fun u1458 => if u1458 ≤ x1443 then lt_ (a1 + 56) (fun v1459 => bd_ (f_String_length 4) (fun u1460 => lt_ ((2 : Int32) * u1460) (fun v1461 => lt_ (v1459 + v1461) (fun v1462 => lt_ ((48 : Int32) + a2) (fun v1463 => bd_ (f_Store_put v1462 x1444 d_length d_words_n v1463) (fun u1464 => some (u1464))))))) else lt_ (a1 + 56) (fun v1465 => lt_ ((2 : Int32) * x1443) (fun v1466 => lt_ (v1465 + v1466) (fun v1467 => bd_ (f_String_charAt x1443 4 (sByt 3)) (fun u1468 => bd_ (f_Store_put v1467 x1444 d_length d_words_n u1468) (fun u1469 => lt_ (x1443 + 1) (fun v1470 => k152 v1470 u1469)))))))
def f_Writer_writeEntry_L152' (a1 : Int32) (a2 : Int32) (d_length : Int32) (d_words_n : Nat) (k152 : Int32 → (Nat → Int64) → Option ((Nat → Int64))) (x1484 : Int32) (x1485 : Nat → Int64) : Option ((Nat → Int64)) :=
  bd_ (f_String_length 4) (fun u1499 => if u1499 ≤ x1484 then lt_ (a1 + 56) (fun v1500 => bd_ (f_String_length 4) (fun u1501 => lt_ ((2 : Int32) * u1501) (fun v1502 => lt_ (v1500 + v1502) (fun v1503 => lt_ ((48 : Int32) + a2) (fun v1504 => bd_ (f_Store_put v1503 x1485 d_length d_words_n v1504) (fun u1505 => some (u1505))))))) else lt_ (a1 + 56) (fun v1506 => lt_ ((2 : Int32) * x1484) (fun v1507 => lt_ (v1506 + v1507) (fun v1508 => bd_ (f_String_charAt x1484 4 (sByt 2)) (fun u1509 => bd_ (f_Store_put v1508 x1485 d_length d_words_n u1509) (fun u1510 => lt_ (x1484 + 1) (fun v1511 => k152 v1511 u1510)))))))
def f_Writer_writeEntry_L42 (N : Nat) (a1 : Int32) (p_starts : Nat → Int32) (a2 : Int32) (d_length : Int32) (d_words_n : Nat) (p_lengths : Nat → Int32) (x1215 : Int32) (k42 : Int32 → (Nat → Int64) → Option ((Nat → Int64))) (x1317 : Int32) (x1318 : Nat → Int64) : Option ((Nat → Int64)) :=
  if (16 : Int32) ≤ x1317 then lt_ (a1 + 32) (fun v1419 => ix_ 4 p_starts a2 (fun (v1420 : Int32) => lt_ (v1420.toInt64) (fun v1421 => bd_ (f_Store_putLow N 8 v1419 v1421 d_length d_words_n x1318) (fun u1422 => lt_ (a1 + 40) (fun v1423 => ix_ 4 p_starts a2 (fun (v1424 : Int32) => ix_ 4 p_lengths a2 (fun (v1425 : Int32) => lt_ (v1424 + v1425) (fun v1426 => lt_ (v1426 - 1) (fun v1427 => lt_ (v1427.toInt64) (fun v1428 => bd_ (f_Store_putLow N 8 v1423 v1428 d_length d_words_n u1422) (fun u1429 => if x1215 = 0 then lp_ (fun _ _ => none) (f_Writer_writeEntry_L152 a1 a2 d_length d_words_n) N 0 u1429 else lp_ (fun _ _ => none) (f_Writer_writeEntry_L152' a1 a2 d_length d_words_n) N 0 u1429))))))))))) else lt_ (a1 + 16) (fun v1512 => lt_ (v1512 + x1317) (fun v1513 => lt_ (a2 + 1) (fun v1514 => lt_ ((32 : Int32) * v1514) (fun v1515 => lt_ (v1515 + x1317) (fun v1516 => bd_ (f_Store_put v1513 x1318 d_length d_words_n v1516) (fun u1517 => lt_ (x1317 + 1) (fun v1518 => k42 v1518 u1517)))))))
def f_Writer_writeEntry_L152'' (a1 : Int32) (a2 : Int32) (d_length : Int32) (d_words_n : Nat) (k152 : Int32 → (Nat → Int64) → Option ((Nat → Int64))) (x1746 : Int32) (x1747 : Nat → Int64) : Option ((Nat → Int64)) :=
  bd_ (f_String_length 4) (fun u1761 => if u1761 ≤ x1746 then lt_ (a1 + 56) (fun v1762 => bd_ (f_String_length 4) (fun u1763 => lt_ ((2 : Int32) * u1763) (fun v1764 => lt_ (v1762 + v1764) (fun v1765 => lt_ ((48 : Int32) + a2) (fun v1766 => bd_ (f_Store_put v1765 x1747 d_length d_words_n v1766) (fun u1767 => some (u1767))))))) else lt_ (a1 + 56) (fun v1768 => lt_ ((2 : Int32) * x1746) (fun v1769 => lt_ (v1768 + v1769) (fun v1770 => bd_ (f_String_charAt x1746 4 (sByt 3)) (fun u1771 => bd_ (f_Store_put v1770 x1747 d_length d_words_n u1771) (fun u1772 => lt_ (x1746 + 1) (fun v1773 => k152 v1773 u1772)))))))
def f_Writer_writeEntry_L152''' (a1 : Int32) (a2 : Int32) (d_length : Int32) (d_words_n : Nat) (k152 : Int32 → (Nat → Int64) → Option ((Nat → Int64))) (x1787 : Int32) (x1788 : Nat → Int64) : Option ((Nat → Int64)) :=
  bd_ (f_String_length 4) (fun u1802 => if u1802 ≤ x1787 then lt_ (a1 + 56) (fun v1803 => bd_ (f_String_length 4) (fun u1804 => lt_ ((2 : Int32) * u1804) (fun v1805 => lt_ (v1803 + v1805) (fun v1806 => lt_ ((48 : Int32) + a2) (fun v1807 => bd_ (f_Store_put v1806 x1788 d_length d_words_n v1807) (fun u1808 => some (u1808))))))) else lt_ (a1 + 56) (fun v1809 => lt_ ((2 : Int32) * x1787) (fun v1810 => lt_ (v1809 + v1810) (fun v1811 => bd_ (f_String_charAt x1787 4 (sByt 2)) (fun u1812 => bd_ (f_Store_put v1811 x1788 d_length d_words_n u1812) (fun u1813 => lt_ (x1787 + 1) (fun v1814 => k152 v1814 u1813)))))))
def f_Writer_writeEntry_L42' (N : Nat) (a1 : Int32) (p_starts : Nat → Int32) (a2 : Int32) (d_length : Int32) (d_words_n : Nat) (p_lengths : Nat → Int32) (x1215 : Int32) (k42 : Int32 → (Nat → Int64) → Option ((Nat → Int64))) (x1620 : Int32) (x1621 : Nat → Int64) : Option ((Nat → Int64)) :=
  if (16 : Int32) ≤ x1620 then lt_ (a1 + 32) (fun v1722 => ix_ 4 p_starts a2 (fun (v1723 : Int32) => lt_ (v1723.toInt64) (fun v1724 => bd_ (f_Store_putLow N 8 v1722 v1724 d_length d_words_n x1621) (fun u1725 => lt_ (a1 + 40) (fun v1726 => ix_ 4 p_starts a2 (fun (v1727 : Int32) => ix_ 4 p_lengths a2 (fun (v1728 : Int32) => lt_ (v1727 + v1728) (fun v1729 => lt_ (v1729 - 1) (fun v1730 => lt_ (v1730.toInt64) (fun v1731 => bd_ (f_Store_putLow N 8 v1726 v1731 d_length d_words_n u1725) (fun u1732 => if x1215 = 0 then lp_ (fun _ _ => none) (f_Writer_writeEntry_L152'' a1 a2 d_length d_words_n) N 0 u1732 else lp_ (fun _ _ => none) (f_Writer_writeEntry_L152''' a1 a2 d_length d_words_n) N 0 u1732))))))))))) else lt_ (a1 + 16) (fun v1815 => lt_ (v1815 + x1620) (fun v1816 => lt_ (a2 + 1) (fun v1817 => lt_ ((32 : Int32) * v1817) (fun v1818 => lt_ (v1818 + x1620) (fun v1819 => bd_ (f_Store_put v1816 x1621 d_length d_words_n v1819) (fun u1820 => lt_ (x1620 + 1) (fun v1821 => k42 v1821 u1820)))))))
def f_Writer_writeEntry (N : Nat) (p_sorts : Nat → Int32) (a2 : Int32) (a1 : Int32) (d_length : Int32) (d_words_n : Nat) (d_words : Nat → Int64) (p_starts : Nat → Int32) (p_lengths : Nat → Int32) : Option ((Nat → Int64)) :=
  ix_ 4 p_sorts a2 (fun (v1214 : Int32) => lt_ (fun (x1215 : Int32) => if x1215 = 0 then bd_ (f_Store_putRow N 16 a1 (tVal 1) d_length d_words_n d_words) (fun u1216 => lp_ (fun _ _ => none) (f_Writer_writeEntry_L42 N a1 p_starts a2 d_length d_words_n p_lengths x1215) N 0 u1216) else bd_ (f_Store_putRow N 16 a1 (tVal 0) d_length d_words_n d_words) (fun u1519 => lp_ (fun _ _ => none) (f_Writer_writeEntry_L42' N a1 p_starts a2 d_length d_words_n p_lengths x1215) N 0 u1519)) (fun (j17 : Int32 → Option ((Nat → Int64))) => if ¬ v1214 = 0 then j17 0 else j17 1))
def rm_Writer_writeEntry : Room := { frames := 4, cells := 0, slots := 0, locals := 85 }
set_option maxHeartbeats 4000000 in
set_option maxRecDepth 100000 in
theorem c_Writer_writeEntry (l : Launch) (g : GT) (E : (Nat → Prop) → State → Prop) (hEe : Ee E) (X : XT) (hS : ∀ (A : Nat → Prop) (u : State), E A u → SS X A u) (t_o : Nat) (d_o : Nat) (d_words_a : Nat) (p_o : Nat) (p_sorts_a : Nat) (p_starts_a : Nat) (p_lengths_a : Nat) (u_o : Nat) (v_o : Nat) (p_names_a : Nat) (p_sizes_a : Nat) (p_seeds_a : Nat) (p_scattered_a : Nat) (d_words_n : Nat) (t_sectors : Int32) (d_length : Int32) (d_words : Nat → Int64) (p_lastUsable : Int32) (p_partitions : Int32) (p_files : Int32) (p_kernelAddress : Int32) (p_sorts : Nat → Int32) (p_starts : Nat → Int32) (p_lengths : Nat → Int32) (a1 : Int32) (a2 : Int32) (N : Nat) (z : (Nat → Int64)) (hf : f_Writer_writeEntry N p_sorts a2 a1 d_length d_words_n d_words p_starts p_lengths = some z) : Cg l g E y_Writer_writeEntry ws_Writer_writeEntry rm_Writer_writeEntry [.ref t_o, .int a1, .int a2] (wd_Writer_writeEntry g t_o d_o d_words_a p_o p_sorts_a p_starts_a p_lengths_a u_o v_o p_names_a p_sizes_a p_seeds_a p_scattered_a d_words_n t_sectors d_length d_words p_lastUsable p_partitions p_files p_kernelAddress p_sorts p_starts p_lengths) none (wd_Writer_writeEntry g t_o d_o d_words_a p_o p_sorts_a p_starts_a p_lengths_a u_o v_o p_names_a p_sizes_a p_seeds_a p_scattered_a d_words_n t_sectors d_length z p_lastUsable p_partitions p_files p_kernelAddress p_sorts p_starts p_lengths) := by
  refine Ct.ofV hEe good_W (by decide) rfl (Nat.le_of_ble_eq_true rfl) ?_
  intro p e s m args below meth c A ls Q hC hw hl hret
  have hC : CX p m c b_Writer_writeEntry 6 s args Wall R_Writer g.1 classes (tK g) E A := hC
  have hl : lv_has ls 6 [(0, .ref t_o), (1, .int a1), (2, .int a2)] := hl
  unfold f_Writer_writeEntry at hf
  refine n_aload_n hC hl 0 d_Writer_writeEntry_0 rfl rfl ?_
  refine n_get hC hw fg_Writer_19 0 rfl rfl d_Writer_writeEntry_1 ?_
  refine n_get hC hw fg_Writer_181 3 rfl rfl d_Writer_writeEntry_4 ?_
  refine n_iload_n hC hl 2 d_Writer_writeEntry_7 rfl rfl ?_
  refine n_iald hC hw hf 4 0 rfl rfl d_Writer_writeEntry_8 (fun v1214 hf => ?_)
  refine jn1 (fun (x1215 : Int32) => ∀ (H : Heap) (locs : List Loc) (ls : Array Slot), WS g.1 classes A s.heap H locs (wd_Writer_writeEntry g t_o d_o d_words_a p_o p_sorts_a p_starts_a p_lengths_a u_o v_o p_names_a p_sizes_a p_seeds_a p_scattered_a d_words_n t_sectors d_length d_words p_lastUsable p_partitions p_files p_kernelAddress p_sorts p_starts p_lengths) → lv_has ls 6 [(0, .ref t_o), (1, .int a1), (2, .int a2)] → W p l e rm_Writer_writeEntry s m args below meth c H locs 0 0 Q (F0 m 17 ls [.int x1215])) hf (fun x1215 hf H locs ls hw hl => ?_) (fun j17 hj17 hf => ?_)
  · refine n_istore_n hC [(3, .int x1215), (0, .ref t_o), (1, .int a1), (2, .int a2)] hl d_Writer_writeEntry_17 rfl (by decide) rfl (fun ls hl => ?_)
    refine n_aload_n hC hl 1 d_Writer_writeEntry_18 rfl rfl ?_
    refine n_get hC hw fg_Writer_9 0 rfl rfl d_Writer_writeEntry_19 ?_
    refine n_iload_n hC hl 2 d_Writer_writeEntry_22 rfl rfl ?_
    refine n_iload_n hC hl 0 d_Writer_writeEntry_23 rfl rfl ?_
    refine n_if_eq hC hf 33 d_Writer_writeEntry_24 (by decide) (fun hf => ?_) (fun hf => ?_)
    · refine n_getsN hC hw (fun A u h => ((hS A u h).2.2.1 1 (by decide)).1) (fun A u h => (hS A u h).2.2.2 2 (by decide)) d_Writer_writeEntry_33 ?_
      obtain ⟨u1216, hu1216, hf⟩ := bd_s hf
      refine n_callVv hC hw fc_Writer_116 (c_Store_putRow l g E hEe (X.1 1) 16 (tVal 1) (fun A u h => ((hS A u h).2.2.1 1 (by decide)).2) d_o d_words_a d_words_n d_length d_words a1 N u1216 hu1216) [1, 2] (wd_Writer_writeEntry g t_o d_o d_words_a p_o p_sorts_a p_starts_a p_lengths_a u_o v_o p_names_a p_sizes_a p_seeds_a p_scattered_a d_words_n t_sectors d_length u1216 p_lastUsable p_partitions p_files p_kernelAddress p_sorts p_starts p_lengths) 1 rfl ⟨rfl, rfl⟩ ⟨Nat.le_of_ble_eq_true rfl, Nat.le_of_ble_eq_true rfl⟩ rfl (At_.cons rfl (At_.cons rfl At_.nil)) (At_.cons rfl (At_.cons rfl At_.nil)) (Sm_.keep (Sm_.keep (Sm_.upd rfl (Sm_.keep (Sm_.keep (Sm_.keep (Sm_.keep Sm_.nil))))))) rfl hl.1 (Nat.le_of_ble_eq_true rfl) ⟨Nat.zero_le _, Nat.zero_le _⟩ d_Writer_writeEntry_36 (fun H locs hw => ?_) rfl
      refine n_iconst hC 0 d_Writer_writeEntry_39 (by decide) ?_
      refine n_istore hC [(4, .int 0), (3, .int x1215), (0, .ref t_o), (1, .int a1), (2, .int a2)] hl d_Writer_writeEntry_40 (by decide) rfl (fun ls hl => ?_)
      have hL42 := lw2 (B := f_Writer_writeEntry_L42 N a1 p_starts a2 d_length d_words_n p_lengths x1215) (z := z) (fun (x1317 : Int32) (x1318 : Nat → Int64) => ∀ (H : Heap) (locs : List Loc) (ls : Array Slot), WS g.1 classes A s.heap H locs (wd_Writer_writeEntry g t_o d_o d_words_a p_o p_sorts_a p_starts_a p_lengths_a u_o v_o p_names_a p_sizes_a p_seeds_a p_scattered_a d_words_n t_sectors d_length x1318 p_lastUsable p_partitions p_files p_kernelAddress p_sorts p_starts p_lengths) → lv_has ls 6 [(4, .int x1317), (3, .int x1215), (0, .ref t_o), (1, .int a1), (2, .int a2)] → W p l e rm_Writer_writeEntry s m args below meth c H locs 0 0 Q (F0 m 42 ls [])) (by
        intro k42 hk42 x1317 x1318 hf H locs ls hw hl
        unfold f_Writer_writeEntry_L42 at hf
        refine n_iload hC hl 0 d_Writer_writeEntry_42 rfl ?_
        refine n_bipush hC 16 d_Writer_writeEntry_44 (by decide) ?_
        refine n_icmp_ge hC hf 78 d_Writer_writeEntry_46 (by decide) (fun hf => ?_) (fun hf => ?_)
        · refine n_aload_n hC hl 2 d_Writer_writeEntry_78 rfl rfl ?_
          refine n_get hC hw fg_Writer_9 0 rfl rfl d_Writer_writeEntry_79 ?_
          refine n_iload_n hC hl 3 d_Writer_writeEntry_82 rfl rfl ?_
          refine n_bipush hC 32 d_Writer_writeEntry_83 (by decide) ?_
          refine n_iadd hC hf d_Writer_writeEntry_85 (fun v1419 hf => ?_)
          refine n_bipush hC 8 d_Writer_writeEntry_86 (by decide) ?_
          refine n_aload_n hC hl 2 d_Writer_writeEntry_88 rfl rfl ?_
          refine n_get hC hw fg_Writer_19 0 rfl rfl d_Writer_writeEntry_89 ?_
          refine n_get hC hw fg_Writer_76 3 rfl rfl d_Writer_writeEntry_92 ?_
          refine n_iload_n hC hl 4 d_Writer_writeEntry_95 rfl rfl ?_
          refine n_iald hC hw hf 5 0 rfl rfl d_Writer_writeEntry_96 (fun v1420 hf => ?_)
          refine n_i2l hC hf d_Writer_writeEntry_97 (fun v1421 hf => ?_)
          obtain ⟨u1422, hu1422, hf⟩ := bd_s hf
          refine n_callVv hC hw fc_Writer_120 (c_Store_putLow l g E hEe d_o d_words_a d_words_n d_length x1318 v1419 8 v1421 N u1422 hu1422) [1, 2] (wd_Writer_writeEntry g t_o d_o d_words_a p_o p_sorts_a p_starts_a p_lengths_a u_o v_o p_names_a p_sizes_a p_seeds_a p_scattered_a d_words_n t_sectors d_length u1422 p_lastUsable p_partitions p_files p_kernelAddress p_sorts p_starts p_lengths) 1 rfl ⟨rfl, rfl⟩ ⟨Nat.le_of_ble_eq_true rfl, Nat.le_of_ble_eq_true rfl⟩ rfl (At_.cons rfl (At_.cons rfl At_.nil)) (At_.cons rfl (At_.cons rfl At_.nil)) (Sm_.keep (Sm_.keep (Sm_.upd rfl (Sm_.keep (Sm_.keep (Sm_.keep (Sm_.keep Sm_.nil))))))) rfl hl.1 (Nat.le_of_ble_eq_true rfl) ⟨Nat.zero_le _, Nat.zero_le _⟩ d_Writer_writeEntry_98 (fun H locs hw => ?_) rfl
          refine n_aload_n hC hl 2 d_Writer_writeEntry_101 rfl rfl ?_
          refine n_get hC hw fg_Writer_9 0 rfl rfl d_Writer_writeEntry_102 ?_
          refine n_iload_n hC hl 3 d_Writer_writeEntry_105 rfl rfl ?_
          refine n_bipush hC 40 d_Writer_writeEntry_106 (by decide) ?_
          refine n_iadd hC hf d_Writer_writeEntry_108 (fun v1423 hf => ?_)
          refine n_bipush hC 8 d_Writer_writeEntry_109 (by decide) ?_
          refine n_aload_n hC hl 2 d_Writer_writeEntry_111 rfl rfl ?_
          refine n_get hC hw fg_Writer_19 0 rfl rfl d_Writer_writeEntry_112 ?_
          refine n_get hC hw fg_Writer_76 3 rfl rfl d_Writer_writeEntry_115 ?_
          refine n_iload_n hC hl 4 d_Writer_writeEntry_118 rfl rfl ?_
          refine n_iald hC hw hf 5 0 rfl rfl d_Writer_writeEntry_119 (fun v1424 hf => ?_)
          refine n_aload_n hC hl 2 d_Writer_writeEntry_120 rfl rfl ?_
          refine n_get hC hw fg_Writer_19 0 rfl rfl d_Writer_writeEntry_121 ?_
          refine n_get hC hw fg_Writer_80 3 rfl rfl d_Writer_writeEntry_124 ?_
          refine n_iload_n hC hl 4 d_Writer_writeEntry_127 rfl rfl ?_
          refine n_iald hC hw hf 6 0 rfl rfl d_Writer_writeEntry_128 (fun v1425 hf => ?_)
          refine n_iadd hC hf d_Writer_writeEntry_129 (fun v1426 hf => ?_)
          refine n_iconst hC 1 d_Writer_writeEntry_130 (by decide) ?_
          refine n_isub hC hf d_Writer_writeEntry_131 (fun v1427 hf => ?_)
          refine n_i2l hC hf d_Writer_writeEntry_132 (fun v1428 hf => ?_)
          obtain ⟨u1429, hu1429, hf⟩ := bd_s hf
          refine n_callVv hC hw fc_Writer_120 (c_Store_putLow l g E hEe d_o d_words_a d_words_n d_length u1422 v1423 8 v1428 N u1429 hu1429) [1, 2] (wd_Writer_writeEntry g t_o d_o d_words_a p_o p_sorts_a p_starts_a p_lengths_a u_o v_o p_names_a p_sizes_a p_seeds_a p_scattered_a d_words_n t_sectors d_length u1429 p_lastUsable p_partitions p_files p_kernelAddress p_sorts p_starts p_lengths) 1 rfl ⟨rfl, rfl⟩ ⟨Nat.le_of_ble_eq_true rfl, Nat.le_of_ble_eq_true rfl⟩ rfl (At_.cons rfl (At_.cons rfl At_.nil)) (At_.cons rfl (At_.cons rfl At_.nil)) (Sm_.keep (Sm_.keep (Sm_.upd rfl (Sm_.keep (Sm_.keep (Sm_.keep (Sm_.keep Sm_.nil))))))) rfl hl.1 (Nat.le_of_ble_eq_true rfl) ⟨Nat.zero_le _, Nat.zero_le _⟩ d_Writer_writeEntry_133 (fun H locs hw => ?_) rfl
          refine n_iload_n hC hl 1 d_Writer_writeEntry_136 rfl rfl ?_
          refine n_if_eq hC hf 145 d_Writer_writeEntry_137 (by decide) (fun hf => ?_) (fun hf => ?_)
          · refine n_ldcS hC (fun A u h => (hS A u h).2.1 3 (by decide)) d_Writer_writeEntry_145 ?_
            refine n_astore hC [(4, .ref (X.2.1 3)), (3, .int x1215), (0, .ref t_o), (1, .int a1), (2, .int a2)] hl d_Writer_writeEntry_147 (by decide) rfl (fun ls hl => ?_)
            refine n_iconst hC 0 d_Writer_writeEntry_149 (by decide) ?_
            refine n_istore hC [(5, .int 0), (4, .ref (X.2.1 3)), (3, .int x1215), (0, .ref t_o), (1, .int a1), (2, .int a2)] hl d_Writer_writeEntry_150 (by decide) rfl (fun ls hl => ?_)
            have hL152 := lw2 (B := f_Writer_writeEntry_L152 a1 a2 d_length d_words_n) (z := z) (fun (x1443 : Int32) (x1444 : Nat → Int64) => ∀ (H : Heap) (locs : List Loc) (ls : Array Slot), WS g.1 classes A s.heap H locs (wd_Writer_writeEntry g t_o d_o d_words_a p_o p_sorts_a p_starts_a p_lengths_a u_o v_o p_names_a p_sizes_a p_seeds_a p_scattered_a d_words_n t_sectors d_length x1444 p_lastUsable p_partitions p_files p_kernelAddress p_sorts p_starts p_lengths) → lv_has ls 6 [(5, .int x1443), (4, .ref (X.2.1 3)), (0, .ref t_o), (1, .int a1), (2, .int a2)] → W p l e rm_Writer_writeEntry s m args below meth c H locs 0 0 Q (F0 m 152 ls [])) (by
              intro k152 hk152 x1443 x1444 hf H locs ls hw hl
              unfold f_Writer_writeEntry_L152 at hf
              refine n_iload hC hl 0 d_Writer_writeEntry_152 rfl ?_
              refine n_aload hC hl 1 d_Writer_writeEntry_154 rfl ?_
              obtain ⟨u1458, hu1458, hf⟩ := bd_s hf
              refine n_callOi hC hw fc_Writer_194 (c_String_length l g E hEe (X.2.1 3) (X.2.2 3) 4 (sByt 3) (fun A u h => (hS A u h).1 3 (by decide))  u1458 hu1458) [] (wd_Writer_writeEntry g t_o d_o d_words_a p_o p_sorts_a p_starts_a p_lengths_a u_o v_o p_names_a p_sizes_a p_seeds_a p_scattered_a d_words_n t_sectors d_length x1444 p_lastUsable p_partitions p_files p_kernelAddress p_sorts p_starts p_lengths) (fun A u h => ((fun A u h => (hS A u h).1 3 (by decide)) A u h).1) ⟨rfl, rfl⟩ ⟨Nat.le_of_ble_eq_true rfl, Nat.le_of_ble_eq_true rfl⟩ rfl At_.nil At_.nil Sm_.refl rfl hl.1 (Nat.le_of_ble_eq_true rfl) ⟨Nat.zero_le _, Nat.zero_le _⟩ d_Writer_writeEntry_156 (fun H locs hw => ?_) rfl
              refine n_icmp_ge hC hf 191 d_Writer_writeEntry_159 (by decide) (fun hf => ?_) (fun hf => ?_)
              · refine n_aload_n hC hl 2 d_Writer_writeEntry_191 rfl rfl ?_
                refine n_get hC hw fg_Writer_9 0 rfl rfl d_Writer_writeEntry_192 ?_
                refine n_iload_n hC hl 3 d_Writer_writeEntry_195 rfl rfl ?_
                refine n_bipush hC 56 d_Writer_writeEntry_196 (by decide) ?_
                refine n_iadd hC hf d_Writer_writeEntry_198 (fun v1459 hf => ?_)
                refine n_iconst hC 2 d_Writer_writeEntry_199 (by decide) ?_
                refine n_aload hC hl 1 d_Writer_writeEntry_200 rfl ?_
                obtain ⟨u1460, hu1460, hf⟩ := bd_s hf
                refine n_callOi hC hw fc_Writer_194 (c_String_length l g E hEe (X.2.1 3) (X.2.2 3) 4 (sByt 3) (fun A u h => (hS A u h).1 3 (by decide))  u1460 hu1460) [] (wd_Writer_writeEntry g t_o d_o d_words_a p_o p_sorts_a p_starts_a p_lengths_a u_o v_o p_names_a p_sizes_a p_seeds_a p_scattered_a d_words_n t_sectors d_length x1444 p_lastUsable p_partitions p_files p_kernelAddress p_sorts p_starts p_lengths) (fun A u h => ((fun A u h => (hS A u h).1 3 (by decide)) A u h).1) ⟨rfl, rfl⟩ ⟨Nat.le_of_ble_eq_true rfl, Nat.le_of_ble_eq_true rfl⟩ rfl At_.nil At_.nil Sm_.refl rfl hl.1 (Nat.le_of_ble_eq_true rfl) ⟨Nat.zero_le _, Nat.zero_le _⟩ d_Writer_writeEntry_202 (fun H locs hw => ?_) rfl
                refine n_imul hC hf d_Writer_writeEntry_205 (fun v1461 hf => ?_)
                refine n_iadd hC hf d_Writer_writeEntry_206 (fun v1462 hf => ?_)
                refine n_bipush hC 48 d_Writer_writeEntry_207 (by decide) ?_
                refine n_iload_n hC hl 4 d_Writer_writeEntry_209 rfl rfl ?_
                refine n_iadd hC hf d_Writer_writeEntry_210 (fun v1463 hf => ?_)
                obtain ⟨u1464, hu1464, hf⟩ := bd_s hf
                refine n_callVv hC hw fc_Writer_104 (c_Store_put l g E hEe d_o d_words_a d_words_n d_length x1444 v1462 v1463 u1464 hu1464) [1, 2] (wd_Writer_writeEntry g t_o d_o d_words_a p_o p_sorts_a p_starts_a p_lengths_a u_o v_o p_names_a p_sizes_a p_seeds_a p_scattered_a d_words_n t_sectors d_length u1464 p_lastUsable p_partitions p_files p_kernelAddress p_sorts p_starts p_lengths) 1 rfl ⟨rfl, rfl⟩ ⟨Nat.le_of_ble_eq_true rfl, Nat.le_of_ble_eq_true rfl⟩ rfl (At_.cons rfl (At_.cons rfl At_.nil)) (At_.cons rfl (At_.cons rfl At_.nil)) (Sm_.keep (Sm_.keep (Sm_.upd rfl (Sm_.keep (Sm_.keep (Sm_.keep (Sm_.keep Sm_.nil))))))) rfl hl.1 (Nat.le_of_ble_eq_true rfl) ⟨Nat.zero_le _, Nat.zero_le _⟩ d_Writer_writeEntry_211 (fun H locs hw => ?_) rfl
                cases hf
                exact hret _ _ _ _ hw d_Writer_writeEntry_214
              · refine n_aload_n hC hl 2 d_Writer_writeEntry_162 rfl rfl ?_
                refine n_get hC hw fg_Writer_9 0 rfl rfl d_Writer_writeEntry_163 ?_
                refine n_iload_n hC hl 3 d_Writer_writeEntry_166 rfl rfl ?_
                refine n_bipush hC 56 d_Writer_writeEntry_167 (by decide) ?_
                refine n_iadd hC hf d_Writer_writeEntry_169 (fun v1465 hf => ?_)
                refine n_iconst hC 2 d_Writer_writeEntry_170 (by decide) ?_
                refine n_iload hC hl 0 d_Writer_writeEntry_171 rfl ?_
                refine n_imul hC hf d_Writer_writeEntry_173 (fun v1466 hf => ?_)
                refine n_iadd hC hf d_Writer_writeEntry_174 (fun v1467 hf => ?_)
                refine n_aload hC hl 1 d_Writer_writeEntry_175 rfl ?_
                refine n_iload hC hl 0 d_Writer_writeEntry_177 rfl ?_
                obtain ⟨u1468, hu1468, hf⟩ := bd_s hf
                refine n_callOi hC hw fc_Writer_199 (c_String_charAt l g E hEe (X.2.1 3) (X.2.2 3) 4 (sByt 3) (fun A u h => (hS A u h).1 3 (by decide)) x1443 u1468 hu1468) [] (wd_Writer_writeEntry g t_o d_o d_words_a p_o p_sorts_a p_starts_a p_lengths_a u_o v_o p_names_a p_sizes_a p_seeds_a p_scattered_a d_words_n t_sectors d_length x1444 p_lastUsable p_partitions p_files p_kernelAddress p_sorts p_starts p_lengths) (fun A u h => ((fun A u h => (hS A u h).1 3 (by decide)) A u h).1) ⟨rfl, rfl⟩ ⟨Nat.le_of_ble_eq_true rfl, Nat.le_of_ble_eq_true rfl⟩ rfl At_.nil At_.nil Sm_.refl rfl hl.1 (Nat.le_of_ble_eq_true rfl) ⟨Nat.zero_le _, Nat.zero_le _⟩ d_Writer_writeEntry_179 (fun H locs hw => ?_) rfl
                obtain ⟨u1469, hu1469, hf⟩ := bd_s hf
                refine n_callVv hC hw fc_Writer_104 (c_Store_put l g E hEe d_o d_words_a d_words_n d_length x1444 v1467 u1468 u1469 hu1469) [1, 2] (wd_Writer_writeEntry g t_o d_o d_words_a p_o p_sorts_a p_starts_a p_lengths_a u_o v_o p_names_a p_sizes_a p_seeds_a p_scattered_a d_words_n t_sectors d_length u1469 p_lastUsable p_partitions p_files p_kernelAddress p_sorts p_starts p_lengths) 1 rfl ⟨rfl, rfl⟩ ⟨Nat.le_of_ble_eq_true rfl, Nat.le_of_ble_eq_true rfl⟩ rfl (At_.cons rfl (At_.cons rfl At_.nil)) (At_.cons rfl (At_.cons rfl At_.nil)) (Sm_.keep (Sm_.keep (Sm_.upd rfl (Sm_.keep (Sm_.keep (Sm_.keep (Sm_.keep Sm_.nil))))))) rfl hl.1 (Nat.le_of_ble_eq_true rfl) ⟨Nat.zero_le _, Nat.zero_le _⟩ d_Writer_writeEntry_182 (fun H locs hw => ?_) rfl
                refine n_iinc hC (k := 0) hf (by decide) (fun v1470 => [(5, .int v1470), (4, .ref (X.2.1 3)), (0, .ref t_o), (1, .int a1), (2, .int a2)]) hl d_Writer_writeEntry_185 rfl (by decide) (fun _ => rfl) (fun v1470 ls hf hl => ?_)
                refine n_goto hC 152 d_Writer_writeEntry_188 (by decide) ?_
                exact hk152 _ _ hf _ _ _ hw (lv_sub hl [0, 1, 2, 3, 4] rfl)
              )
            exact hL152 N _ _ hf _ _ _ hw (lv_sub hl [0, 1, 3, 4, 5] rfl)
          · refine n_ldcS hC (fun A u h => (hS A u h).2.1 2 (by decide)) d_Writer_writeEntry_140 ?_
            refine n_goto hC 147 d_Writer_writeEntry_142 (by decide) ?_
            refine n_astore hC [(4, .ref (X.2.1 2)), (3, .int x1215), (0, .ref t_o), (1, .int a1), (2, .int a2)] hl d_Writer_writeEntry_147 (by decide) rfl (fun ls hl => ?_)
            refine n_iconst hC 0 d_Writer_writeEntry_149 (by decide) ?_
            refine n_istore hC [(5, .int 0), (4, .ref (X.2.1 2)), (3, .int x1215), (0, .ref t_o), (1, .int a1), (2, .int a2)] hl d_Writer_writeEntry_150 (by decide) rfl (fun ls hl => ?_)
            have hL152 := lw2 (B := f_Writer_writeEntry_L152' a1 a2 d_length d_words_n) (z := z) (fun (x1484 : Int32) (x1485 : Nat → Int64) => ∀ (H : Heap) (locs : List Loc) (ls : Array Slot), WS g.1 classes A s.heap H locs (wd_Writer_writeEntry g t_o d_o d_words_a p_o p_sorts_a p_starts_a p_lengths_a u_o v_o p_names_a p_sizes_a p_seeds_a p_scattered_a d_words_n t_sectors d_length x1485 p_lastUsable p_partitions p_files p_kernelAddress p_sorts p_starts p_lengths) → lv_has ls 6 [(5, .int x1484), (4, .ref (X.2.1 2)), (0, .ref t_o), (1, .int a1), (2, .int a2)] → W p l e rm_Writer_writeEntry s m args below meth c H locs 0 0 Q (F0 m 152 ls [])) (by
              intro k152 hk152 x1484 x1485 hf H locs ls hw hl
              unfold f_Writer_writeEntry_L152' at hf
              refine n_iload hC hl 0 d_Writer_writeEntry_152 rfl ?_
              refine n_aload hC hl 1 d_Writer_writeEntry_154 rfl ?_
              obtain ⟨u1499, hu1499, hf⟩ := bd_s hf
              refine n_callOi hC hw fc_Writer_194 (c_String_length l g E hEe (X.2.1 2) (X.2.2 2) 4 (sByt 2) (fun A u h => (hS A u h).1 2 (by decide))  u1499 hu1499) [] (wd_Writer_writeEntry g t_o d_o d_words_a p_o p_sorts_a p_starts_a p_lengths_a u_o v_o p_names_a p_sizes_a p_seeds_a p_scattered_a d_words_n t_sectors d_length x1485 p_lastUsable p_partitions p_files p_kernelAddress p_sorts p_starts p_lengths) (fun A u h => ((fun A u h => (hS A u h).1 2 (by decide)) A u h).1) ⟨rfl, rfl⟩ ⟨Nat.le_of_ble_eq_true rfl, Nat.le_of_ble_eq_true rfl⟩ rfl At_.nil At_.nil Sm_.refl rfl hl.1 (Nat.le_of_ble_eq_true rfl) ⟨Nat.zero_le _, Nat.zero_le _⟩ d_Writer_writeEntry_156 (fun H locs hw => ?_) rfl
              refine n_icmp_ge hC hf 191 d_Writer_writeEntry_159 (by decide) (fun hf => ?_) (fun hf => ?_)
              · refine n_aload_n hC hl 2 d_Writer_writeEntry_191 rfl rfl ?_
                refine n_get hC hw fg_Writer_9 0 rfl rfl d_Writer_writeEntry_192 ?_
                refine n_iload_n hC hl 3 d_Writer_writeEntry_195 rfl rfl ?_
                refine n_bipush hC 56 d_Writer_writeEntry_196 (by decide) ?_
                refine n_iadd hC hf d_Writer_writeEntry_198 (fun v1500 hf => ?_)
                refine n_iconst hC 2 d_Writer_writeEntry_199 (by decide) ?_
                refine n_aload hC hl 1 d_Writer_writeEntry_200 rfl ?_
                obtain ⟨u1501, hu1501, hf⟩ := bd_s hf
                refine n_callOi hC hw fc_Writer_194 (c_String_length l g E hEe (X.2.1 2) (X.2.2 2) 4 (sByt 2) (fun A u h => (hS A u h).1 2 (by decide))  u1501 hu1501) [] (wd_Writer_writeEntry g t_o d_o d_words_a p_o p_sorts_a p_starts_a p_lengths_a u_o v_o p_names_a p_sizes_a p_seeds_a p_scattered_a d_words_n t_sectors d_length x1485 p_lastUsable p_partitions p_files p_kernelAddress p_sorts p_starts p_lengths) (fun A u h => ((fun A u h => (hS A u h).1 2 (by decide)) A u h).1) ⟨rfl, rfl⟩ ⟨Nat.le_of_ble_eq_true rfl, Nat.le_of_ble_eq_true rfl⟩ rfl At_.nil At_.nil Sm_.refl rfl hl.1 (Nat.le_of_ble_eq_true rfl) ⟨Nat.zero_le _, Nat.zero_le _⟩ d_Writer_writeEntry_202 (fun H locs hw => ?_) rfl
                refine n_imul hC hf d_Writer_writeEntry_205 (fun v1502 hf => ?_)
                refine n_iadd hC hf d_Writer_writeEntry_206 (fun v1503 hf => ?_)
                refine n_bipush hC 48 d_Writer_writeEntry_207 (by decide) ?_
                refine n_iload_n hC hl 4 d_Writer_writeEntry_209 rfl rfl ?_
                refine n_iadd hC hf d_Writer_writeEntry_210 (fun v1504 hf => ?_)
                obtain ⟨u1505, hu1505, hf⟩ := bd_s hf
                refine n_callVv hC hw fc_Writer_104 (c_Store_put l g E hEe d_o d_words_a d_words_n d_length x1485 v1503 v1504 u1505 hu1505) [1, 2] (wd_Writer_writeEntry g t_o d_o d_words_a p_o p_sorts_a p_starts_a p_lengths_a u_o v_o p_names_a p_sizes_a p_seeds_a p_scattered_a d_words_n t_sectors d_length u1505 p_lastUsable p_partitions p_files p_kernelAddress p_sorts p_starts p_lengths) 1 rfl ⟨rfl, rfl⟩ ⟨Nat.le_of_ble_eq_true rfl, Nat.le_of_ble_eq_true rfl⟩ rfl (At_.cons rfl (At_.cons rfl At_.nil)) (At_.cons rfl (At_.cons rfl At_.nil)) (Sm_.keep (Sm_.keep (Sm_.upd rfl (Sm_.keep (Sm_.keep (Sm_.keep (Sm_.keep Sm_.nil))))))) rfl hl.1 (Nat.le_of_ble_eq_true rfl) ⟨Nat.zero_le _, Nat.zero_le _⟩ d_Writer_writeEntry_211 (fun H locs hw => ?_) rfl
                cases hf
                exact hret _ _ _ _ hw d_Writer_writeEntry_214
              · refine n_aload_n hC hl 2 d_Writer_writeEntry_162 rfl rfl ?_
                refine n_get hC hw fg_Writer_9 0 rfl rfl d_Writer_writeEntry_163 ?_
                refine n_iload_n hC hl 3 d_Writer_writeEntry_166 rfl rfl ?_
                refine n_bipush hC 56 d_Writer_writeEntry_167 (by decide) ?_
                refine n_iadd hC hf d_Writer_writeEntry_169 (fun v1506 hf => ?_)
                refine n_iconst hC 2 d_Writer_writeEntry_170 (by decide) ?_
                refine n_iload hC hl 0 d_Writer_writeEntry_171 rfl ?_
                refine n_imul hC hf d_Writer_writeEntry_173 (fun v1507 hf => ?_)
                refine n_iadd hC hf d_Writer_writeEntry_174 (fun v1508 hf => ?_)
                refine n_aload hC hl 1 d_Writer_writeEntry_175 rfl ?_
                refine n_iload hC hl 0 d_Writer_writeEntry_177 rfl ?_
                obtain ⟨u1509, hu1509, hf⟩ := bd_s hf
                refine n_callOi hC hw fc_Writer_199 (c_String_charAt l g E hEe (X.2.1 2) (X.2.2 2) 4 (sByt 2) (fun A u h => (hS A u h).1 2 (by decide)) x1484 u1509 hu1509) [] (wd_Writer_writeEntry g t_o d_o d_words_a p_o p_sorts_a p_starts_a p_lengths_a u_o v_o p_names_a p_sizes_a p_seeds_a p_scattered_a d_words_n t_sectors d_length x1485 p_lastUsable p_partitions p_files p_kernelAddress p_sorts p_starts p_lengths) (fun A u h => ((fun A u h => (hS A u h).1 2 (by decide)) A u h).1) ⟨rfl, rfl⟩ ⟨Nat.le_of_ble_eq_true rfl, Nat.le_of_ble_eq_true rfl⟩ rfl At_.nil At_.nil Sm_.refl rfl hl.1 (Nat.le_of_ble_eq_true rfl) ⟨Nat.zero_le _, Nat.zero_le _⟩ d_Writer_writeEntry_179 (fun H locs hw => ?_) rfl
                obtain ⟨u1510, hu1510, hf⟩ := bd_s hf
                refine n_callVv hC hw fc_Writer_104 (c_Store_put l g E hEe d_o d_words_a d_words_n d_length x1485 v1508 u1509 u1510 hu1510) [1, 2] (wd_Writer_writeEntry g t_o d_o d_words_a p_o p_sorts_a p_starts_a p_lengths_a u_o v_o p_names_a p_sizes_a p_seeds_a p_scattered_a d_words_n t_sectors d_length u1510 p_lastUsable p_partitions p_files p_kernelAddress p_sorts p_starts p_lengths) 1 rfl ⟨rfl, rfl⟩ ⟨Nat.le_of_ble_eq_true rfl, Nat.le_of_ble_eq_true rfl⟩ rfl (At_.cons rfl (At_.cons rfl At_.nil)) (At_.cons rfl (At_.cons rfl At_.nil)) (Sm_.keep (Sm_.keep (Sm_.upd rfl (Sm_.keep (Sm_.keep (Sm_.keep (Sm_.keep Sm_.nil))))))) rfl hl.1 (Nat.le_of_ble_eq_true rfl) ⟨Nat.zero_le _, Nat.zero_le _⟩ d_Writer_writeEntry_182 (fun H locs hw => ?_) rfl
                refine n_iinc hC (k := 0) hf (by decide) (fun v1511 => [(5, .int v1511), (4, .ref (X.2.1 2)), (0, .ref t_o), (1, .int a1), (2, .int a2)]) hl d_Writer_writeEntry_185 rfl (by decide) (fun _ => rfl) (fun v1511 ls hf hl => ?_)
                refine n_goto hC 152 d_Writer_writeEntry_188 (by decide) ?_
                exact hk152 _ _ hf _ _ _ hw (lv_sub hl [0, 1, 2, 3, 4] rfl)
              )
            exact hL152 N _ _ hf _ _ _ hw (lv_sub hl [0, 1, 3, 4, 5] rfl)
        · refine n_aload_n hC hl 2 d_Writer_writeEntry_49 rfl rfl ?_
          refine n_get hC hw fg_Writer_9 0 rfl rfl d_Writer_writeEntry_50 ?_
          refine n_iload_n hC hl 3 d_Writer_writeEntry_53 rfl rfl ?_
          refine n_bipush hC 16 d_Writer_writeEntry_54 (by decide) ?_
          refine n_iadd hC hf d_Writer_writeEntry_56 (fun v1512 hf => ?_)
          refine n_iload hC hl 0 d_Writer_writeEntry_57 rfl ?_
          refine n_iadd hC hf d_Writer_writeEntry_59 (fun v1513 hf => ?_)
          refine n_bipush hC 32 d_Writer_writeEntry_60 (by decide) ?_
          refine n_iload_n hC hl 4 d_Writer_writeEntry_62 rfl rfl ?_
          refine n_iconst hC 1 d_Writer_writeEntry_63 (by decide) ?_
          refine n_iadd hC hf d_Writer_writeEntry_64 (fun v1514 hf => ?_)
          refine n_imul hC hf d_Writer_writeEntry_65 (fun v1515 hf => ?_)
          refine n_iload hC hl 0 d_Writer_writeEntry_66 rfl ?_
          refine n_iadd hC hf d_Writer_writeEntry_68 (fun v1516 hf => ?_)
          obtain ⟨u1517, hu1517, hf⟩ := bd_s hf
          refine n_callVv hC hw fc_Writer_104 (c_Store_put l g E hEe d_o d_words_a d_words_n d_length x1318 v1513 v1516 u1517 hu1517) [1, 2] (wd_Writer_writeEntry g t_o d_o d_words_a p_o p_sorts_a p_starts_a p_lengths_a u_o v_o p_names_a p_sizes_a p_seeds_a p_scattered_a d_words_n t_sectors d_length u1517 p_lastUsable p_partitions p_files p_kernelAddress p_sorts p_starts p_lengths) 1 rfl ⟨rfl, rfl⟩ ⟨Nat.le_of_ble_eq_true rfl, Nat.le_of_ble_eq_true rfl⟩ rfl (At_.cons rfl (At_.cons rfl At_.nil)) (At_.cons rfl (At_.cons rfl At_.nil)) (Sm_.keep (Sm_.keep (Sm_.upd rfl (Sm_.keep (Sm_.keep (Sm_.keep (Sm_.keep Sm_.nil))))))) rfl hl.1 (Nat.le_of_ble_eq_true rfl) ⟨Nat.zero_le _, Nat.zero_le _⟩ d_Writer_writeEntry_69 (fun H locs hw => ?_) rfl
          refine n_iinc hC (k := 0) hf (by decide) (fun v1518 => [(4, .int v1518), (3, .int x1215), (0, .ref t_o), (1, .int a1), (2, .int a2)]) hl d_Writer_writeEntry_72 rfl (by decide) (fun _ => rfl) (fun v1518 ls hf hl => ?_)
          refine n_goto hC 42 d_Writer_writeEntry_75 (by decide) ?_
          exact hk42 _ _ hf _ _ _ hw (lv_sub hl [0, 1, 2, 3, 4] rfl)
        )
      exact hL42 N _ _ hf _ _ _ hw (lv_sub hl [0, 1, 2, 3, 4] rfl)
    · refine n_getsN hC hw (fun A u h => ((hS A u h).2.2.1 0 (by decide)).1) (fun A u h => (hS A u h).2.2.2 1 (by decide)) d_Writer_writeEntry_27 ?_
      refine n_goto hC 36 d_Writer_writeEntry_30 (by decide) ?_
      obtain ⟨u1519, hu1519, hf⟩ := bd_s hf
      refine n_callVv hC hw fc_Writer_116 (c_Store_putRow l g E hEe (X.1 0) 16 (tVal 0) (fun A u h => ((hS A u h).2.2.1 0 (by decide)).2) d_o d_words_a d_words_n d_length d_words a1 N u1519 hu1519) [1, 2] (wd_Writer_writeEntry g t_o d_o d_words_a p_o p_sorts_a p_starts_a p_lengths_a u_o v_o p_names_a p_sizes_a p_seeds_a p_scattered_a d_words_n t_sectors d_length u1519 p_lastUsable p_partitions p_files p_kernelAddress p_sorts p_starts p_lengths) 1 rfl ⟨rfl, rfl⟩ ⟨Nat.le_of_ble_eq_true rfl, Nat.le_of_ble_eq_true rfl⟩ rfl (At_.cons rfl (At_.cons rfl At_.nil)) (At_.cons rfl (At_.cons rfl At_.nil)) (Sm_.keep (Sm_.keep (Sm_.upd rfl (Sm_.keep (Sm_.keep (Sm_.keep (Sm_.keep Sm_.nil))))))) rfl hl.1 (Nat.le_of_ble_eq_true rfl) ⟨Nat.zero_le _, Nat.zero_le _⟩ d_Writer_writeEntry_36 (fun H locs hw => ?_) rfl
      refine n_iconst hC 0 d_Writer_writeEntry_39 (by decide) ?_
      refine n_istore hC [(4, .int 0), (3, .int x1215), (0, .ref t_o), (1, .int a1), (2, .int a2)] hl d_Writer_writeEntry_40 (by decide) rfl (fun ls hl => ?_)
      have hL42 := lw2 (B := f_Writer_writeEntry_L42' N a1 p_starts a2 d_length d_words_n p_lengths x1215) (z := z) (fun (x1620 : Int32) (x1621 : Nat → Int64) => ∀ (H : Heap) (locs : List Loc) (ls : Array Slot), WS g.1 classes A s.heap H locs (wd_Writer_writeEntry g t_o d_o d_words_a p_o p_sorts_a p_starts_a p_lengths_a u_o v_o p_names_a p_sizes_a p_seeds_a p_scattered_a d_words_n t_sectors d_length x1621 p_lastUsable p_partitions p_files p_kernelAddress p_sorts p_starts p_lengths) → lv_has ls 6 [(4, .int x1620), (3, .int x1215), (0, .ref t_o), (1, .int a1), (2, .int a2)] → W p l e rm_Writer_writeEntry s m args below meth c H locs 0 0 Q (F0 m 42 ls [])) (by
        intro k42 hk42 x1620 x1621 hf H locs ls hw hl
        unfold f_Writer_writeEntry_L42' at hf
        refine n_iload hC hl 0 d_Writer_writeEntry_42 rfl ?_
        refine n_bipush hC 16 d_Writer_writeEntry_44 (by decide) ?_
        refine n_icmp_ge hC hf 78 d_Writer_writeEntry_46 (by decide) (fun hf => ?_) (fun hf => ?_)
        · refine n_aload_n hC hl 2 d_Writer_writeEntry_78 rfl rfl ?_
          refine n_get hC hw fg_Writer_9 0 rfl rfl d_Writer_writeEntry_79 ?_
          refine n_iload_n hC hl 3 d_Writer_writeEntry_82 rfl rfl ?_
          refine n_bipush hC 32 d_Writer_writeEntry_83 (by decide) ?_
          refine n_iadd hC hf d_Writer_writeEntry_85 (fun v1722 hf => ?_)
          refine n_bipush hC 8 d_Writer_writeEntry_86 (by decide) ?_
          refine n_aload_n hC hl 2 d_Writer_writeEntry_88 rfl rfl ?_
          refine n_get hC hw fg_Writer_19 0 rfl rfl d_Writer_writeEntry_89 ?_
          refine n_get hC hw fg_Writer_76 3 rfl rfl d_Writer_writeEntry_92 ?_
          refine n_iload_n hC hl 4 d_Writer_writeEntry_95 rfl rfl ?_
          refine n_iald hC hw hf 5 0 rfl rfl d_Writer_writeEntry_96 (fun v1723 hf => ?_)
          refine n_i2l hC hf d_Writer_writeEntry_97 (fun v1724 hf => ?_)
          obtain ⟨u1725, hu1725, hf⟩ := bd_s hf
          refine n_callVv hC hw fc_Writer_120 (c_Store_putLow l g E hEe d_o d_words_a d_words_n d_length x1621 v1722 8 v1724 N u1725 hu1725) [1, 2] (wd_Writer_writeEntry g t_o d_o d_words_a p_o p_sorts_a p_starts_a p_lengths_a u_o v_o p_names_a p_sizes_a p_seeds_a p_scattered_a d_words_n t_sectors d_length u1725 p_lastUsable p_partitions p_files p_kernelAddress p_sorts p_starts p_lengths) 1 rfl ⟨rfl, rfl⟩ ⟨Nat.le_of_ble_eq_true rfl, Nat.le_of_ble_eq_true rfl⟩ rfl (At_.cons rfl (At_.cons rfl At_.nil)) (At_.cons rfl (At_.cons rfl At_.nil)) (Sm_.keep (Sm_.keep (Sm_.upd rfl (Sm_.keep (Sm_.keep (Sm_.keep (Sm_.keep Sm_.nil))))))) rfl hl.1 (Nat.le_of_ble_eq_true rfl) ⟨Nat.zero_le _, Nat.zero_le _⟩ d_Writer_writeEntry_98 (fun H locs hw => ?_) rfl
          refine n_aload_n hC hl 2 d_Writer_writeEntry_101 rfl rfl ?_
          refine n_get hC hw fg_Writer_9 0 rfl rfl d_Writer_writeEntry_102 ?_
          refine n_iload_n hC hl 3 d_Writer_writeEntry_105 rfl rfl ?_
          refine n_bipush hC 40 d_Writer_writeEntry_106 (by decide) ?_
          refine n_iadd hC hf d_Writer_writeEntry_108 (fun v1726 hf => ?_)
          refine n_bipush hC 8 d_Writer_writeEntry_109 (by decide) ?_
          refine n_aload_n hC hl 2 d_Writer_writeEntry_111 rfl rfl ?_
          refine n_get hC hw fg_Writer_19 0 rfl rfl d_Writer_writeEntry_112 ?_
          refine n_get hC hw fg_Writer_76 3 rfl rfl d_Writer_writeEntry_115 ?_
          refine n_iload_n hC hl 4 d_Writer_writeEntry_118 rfl rfl ?_
          refine n_iald hC hw hf 5 0 rfl rfl d_Writer_writeEntry_119 (fun v1727 hf => ?_)
          refine n_aload_n hC hl 2 d_Writer_writeEntry_120 rfl rfl ?_
          refine n_get hC hw fg_Writer_19 0 rfl rfl d_Writer_writeEntry_121 ?_
          refine n_get hC hw fg_Writer_80 3 rfl rfl d_Writer_writeEntry_124 ?_
          refine n_iload_n hC hl 4 d_Writer_writeEntry_127 rfl rfl ?_
          refine n_iald hC hw hf 6 0 rfl rfl d_Writer_writeEntry_128 (fun v1728 hf => ?_)
          refine n_iadd hC hf d_Writer_writeEntry_129 (fun v1729 hf => ?_)
          refine n_iconst hC 1 d_Writer_writeEntry_130 (by decide) ?_
          refine n_isub hC hf d_Writer_writeEntry_131 (fun v1730 hf => ?_)
          refine n_i2l hC hf d_Writer_writeEntry_132 (fun v1731 hf => ?_)
          obtain ⟨u1732, hu1732, hf⟩ := bd_s hf
          refine n_callVv hC hw fc_Writer_120 (c_Store_putLow l g E hEe d_o d_words_a d_words_n d_length u1725 v1726 8 v1731 N u1732 hu1732) [1, 2] (wd_Writer_writeEntry g t_o d_o d_words_a p_o p_sorts_a p_starts_a p_lengths_a u_o v_o p_names_a p_sizes_a p_seeds_a p_scattered_a d_words_n t_sectors d_length u1732 p_lastUsable p_partitions p_files p_kernelAddress p_sorts p_starts p_lengths) 1 rfl ⟨rfl, rfl⟩ ⟨Nat.le_of_ble_eq_true rfl, Nat.le_of_ble_eq_true rfl⟩ rfl (At_.cons rfl (At_.cons rfl At_.nil)) (At_.cons rfl (At_.cons rfl At_.nil)) (Sm_.keep (Sm_.keep (Sm_.upd rfl (Sm_.keep (Sm_.keep (Sm_.keep (Sm_.keep Sm_.nil))))))) rfl hl.1 (Nat.le_of_ble_eq_true rfl) ⟨Nat.zero_le _, Nat.zero_le _⟩ d_Writer_writeEntry_133 (fun H locs hw => ?_) rfl
          refine n_iload_n hC hl 1 d_Writer_writeEntry_136 rfl rfl ?_
          refine n_if_eq hC hf 145 d_Writer_writeEntry_137 (by decide) (fun hf => ?_) (fun hf => ?_)
          · refine n_ldcS hC (fun A u h => (hS A u h).2.1 3 (by decide)) d_Writer_writeEntry_145 ?_
            refine n_astore hC [(4, .ref (X.2.1 3)), (3, .int x1215), (0, .ref t_o), (1, .int a1), (2, .int a2)] hl d_Writer_writeEntry_147 (by decide) rfl (fun ls hl => ?_)
            refine n_iconst hC 0 d_Writer_writeEntry_149 (by decide) ?_
            refine n_istore hC [(5, .int 0), (4, .ref (X.2.1 3)), (3, .int x1215), (0, .ref t_o), (1, .int a1), (2, .int a2)] hl d_Writer_writeEntry_150 (by decide) rfl (fun ls hl => ?_)
            have hL152 := lw2 (B := f_Writer_writeEntry_L152'' a1 a2 d_length d_words_n) (z := z) (fun (x1746 : Int32) (x1747 : Nat → Int64) => ∀ (H : Heap) (locs : List Loc) (ls : Array Slot), WS g.1 classes A s.heap H locs (wd_Writer_writeEntry g t_o d_o d_words_a p_o p_sorts_a p_starts_a p_lengths_a u_o v_o p_names_a p_sizes_a p_seeds_a p_scattered_a d_words_n t_sectors d_length x1747 p_lastUsable p_partitions p_files p_kernelAddress p_sorts p_starts p_lengths) → lv_has ls 6 [(5, .int x1746), (4, .ref (X.2.1 3)), (0, .ref t_o), (1, .int a1), (2, .int a2)] → W p l e rm_Writer_writeEntry s m args below meth c H locs 0 0 Q (F0 m 152 ls [])) (by
              intro k152 hk152 x1746 x1747 hf H locs ls hw hl
              unfold f_Writer_writeEntry_L152'' at hf
              refine n_iload hC hl 0 d_Writer_writeEntry_152 rfl ?_
              refine n_aload hC hl 1 d_Writer_writeEntry_154 rfl ?_
              obtain ⟨u1761, hu1761, hf⟩ := bd_s hf
              refine n_callOi hC hw fc_Writer_194 (c_String_length l g E hEe (X.2.1 3) (X.2.2 3) 4 (sByt 3) (fun A u h => (hS A u h).1 3 (by decide))  u1761 hu1761) [] (wd_Writer_writeEntry g t_o d_o d_words_a p_o p_sorts_a p_starts_a p_lengths_a u_o v_o p_names_a p_sizes_a p_seeds_a p_scattered_a d_words_n t_sectors d_length x1747 p_lastUsable p_partitions p_files p_kernelAddress p_sorts p_starts p_lengths) (fun A u h => ((fun A u h => (hS A u h).1 3 (by decide)) A u h).1) ⟨rfl, rfl⟩ ⟨Nat.le_of_ble_eq_true rfl, Nat.le_of_ble_eq_true rfl⟩ rfl At_.nil At_.nil Sm_.refl rfl hl.1 (Nat.le_of_ble_eq_true rfl) ⟨Nat.zero_le _, Nat.zero_le _⟩ d_Writer_writeEntry_156 (fun H locs hw => ?_) rfl
              refine n_icmp_ge hC hf 191 d_Writer_writeEntry_159 (by decide) (fun hf => ?_) (fun hf => ?_)
              · refine n_aload_n hC hl 2 d_Writer_writeEntry_191 rfl rfl ?_
                refine n_get hC hw fg_Writer_9 0 rfl rfl d_Writer_writeEntry_192 ?_
                refine n_iload_n hC hl 3 d_Writer_writeEntry_195 rfl rfl ?_
                refine n_bipush hC 56 d_Writer_writeEntry_196 (by decide) ?_
                refine n_iadd hC hf d_Writer_writeEntry_198 (fun v1762 hf => ?_)
                refine n_iconst hC 2 d_Writer_writeEntry_199 (by decide) ?_
                refine n_aload hC hl 1 d_Writer_writeEntry_200 rfl ?_
                obtain ⟨u1763, hu1763, hf⟩ := bd_s hf
                refine n_callOi hC hw fc_Writer_194 (c_String_length l g E hEe (X.2.1 3) (X.2.2 3) 4 (sByt 3) (fun A u h => (hS A u h).1 3 (by decide))  u1763 hu1763) [] (wd_Writer_writeEntry g t_o d_o d_words_a p_o p_sorts_a p_starts_a p_lengths_a u_o v_o p_names_a p_sizes_a p_seeds_a p_scattered_a d_words_n t_sectors d_length x1747 p_lastUsable p_partitions p_files p_kernelAddress p_sorts p_starts p_lengths) (fun A u h => ((fun A u h => (hS A u h).1 3 (by decide)) A u h).1) ⟨rfl, rfl⟩ ⟨Nat.le_of_ble_eq_true rfl, Nat.le_of_ble_eq_true rfl⟩ rfl At_.nil At_.nil Sm_.refl rfl hl.1 (Nat.le_of_ble_eq_true rfl) ⟨Nat.zero_le _, Nat.zero_le _⟩ d_Writer_writeEntry_202 (fun H locs hw => ?_) rfl
                refine n_imul hC hf d_Writer_writeEntry_205 (fun v1764 hf => ?_)
                refine n_iadd hC hf d_Writer_writeEntry_206 (fun v1765 hf => ?_)
                refine n_bipush hC 48 d_Writer_writeEntry_207 (by decide) ?_
                refine n_iload_n hC hl 4 d_Writer_writeEntry_209 rfl rfl ?_
                refine n_iadd hC hf d_Writer_writeEntry_210 (fun v1766 hf => ?_)
                obtain ⟨u1767, hu1767, hf⟩ := bd_s hf
                refine n_callVv hC hw fc_Writer_104 (c_Store_put l g E hEe d_o d_words_a d_words_n d_length x1747 v1765 v1766 u1767 hu1767) [1, 2] (wd_Writer_writeEntry g t_o d_o d_words_a p_o p_sorts_a p_starts_a p_lengths_a u_o v_o p_names_a p_sizes_a p_seeds_a p_scattered_a d_words_n t_sectors d_length u1767 p_lastUsable p_partitions p_files p_kernelAddress p_sorts p_starts p_lengths) 1 rfl ⟨rfl, rfl⟩ ⟨Nat.le_of_ble_eq_true rfl, Nat.le_of_ble_eq_true rfl⟩ rfl (At_.cons rfl (At_.cons rfl At_.nil)) (At_.cons rfl (At_.cons rfl At_.nil)) (Sm_.keep (Sm_.keep (Sm_.upd rfl (Sm_.keep (Sm_.keep (Sm_.keep (Sm_.keep Sm_.nil))))))) rfl hl.1 (Nat.le_of_ble_eq_true rfl) ⟨Nat.zero_le _, Nat.zero_le _⟩ d_Writer_writeEntry_211 (fun H locs hw => ?_) rfl
                cases hf
                exact hret _ _ _ _ hw d_Writer_writeEntry_214
              · refine n_aload_n hC hl 2 d_Writer_writeEntry_162 rfl rfl ?_
                refine n_get hC hw fg_Writer_9 0 rfl rfl d_Writer_writeEntry_163 ?_
                refine n_iload_n hC hl 3 d_Writer_writeEntry_166 rfl rfl ?_
                refine n_bipush hC 56 d_Writer_writeEntry_167 (by decide) ?_
                refine n_iadd hC hf d_Writer_writeEntry_169 (fun v1768 hf => ?_)
                refine n_iconst hC 2 d_Writer_writeEntry_170 (by decide) ?_
                refine n_iload hC hl 0 d_Writer_writeEntry_171 rfl ?_
                refine n_imul hC hf d_Writer_writeEntry_173 (fun v1769 hf => ?_)
                refine n_iadd hC hf d_Writer_writeEntry_174 (fun v1770 hf => ?_)
                refine n_aload hC hl 1 d_Writer_writeEntry_175 rfl ?_
                refine n_iload hC hl 0 d_Writer_writeEntry_177 rfl ?_
                obtain ⟨u1771, hu1771, hf⟩ := bd_s hf
                refine n_callOi hC hw fc_Writer_199 (c_String_charAt l g E hEe (X.2.1 3) (X.2.2 3) 4 (sByt 3) (fun A u h => (hS A u h).1 3 (by decide)) x1746 u1771 hu1771) [] (wd_Writer_writeEntry g t_o d_o d_words_a p_o p_sorts_a p_starts_a p_lengths_a u_o v_o p_names_a p_sizes_a p_seeds_a p_scattered_a d_words_n t_sectors d_length x1747 p_lastUsable p_partitions p_files p_kernelAddress p_sorts p_starts p_lengths) (fun A u h => ((fun A u h => (hS A u h).1 3 (by decide)) A u h).1) ⟨rfl, rfl⟩ ⟨Nat.le_of_ble_eq_true rfl, Nat.le_of_ble_eq_true rfl⟩ rfl At_.nil At_.nil Sm_.refl rfl hl.1 (Nat.le_of_ble_eq_true rfl) ⟨Nat.zero_le _, Nat.zero_le _⟩ d_Writer_writeEntry_179 (fun H locs hw => ?_) rfl
                obtain ⟨u1772, hu1772, hf⟩ := bd_s hf
                refine n_callVv hC hw fc_Writer_104 (c_Store_put l g E hEe d_o d_words_a d_words_n d_length x1747 v1770 u1771 u1772 hu1772) [1, 2] (wd_Writer_writeEntry g t_o d_o d_words_a p_o p_sorts_a p_starts_a p_lengths_a u_o v_o p_names_a p_sizes_a p_seeds_a p_scattered_a d_words_n t_sectors d_length u1772 p_lastUsable p_partitions p_files p_kernelAddress p_sorts p_starts p_lengths) 1 rfl ⟨rfl, rfl⟩ ⟨Nat.le_of_ble_eq_true rfl, Nat.le_of_ble_eq_true rfl⟩ rfl (At_.cons rfl (At_.cons rfl At_.nil)) (At_.cons rfl (At_.cons rfl At_.nil)) (Sm_.keep (Sm_.keep (Sm_.upd rfl (Sm_.keep (Sm_.keep (Sm_.keep (Sm_.keep Sm_.nil))))))) rfl hl.1 (Nat.le_of_ble_eq_true rfl) ⟨Nat.zero_le _, Nat.zero_le _⟩ d_Writer_writeEntry_182 (fun H locs hw => ?_) rfl
                refine n_iinc hC (k := 0) hf (by decide) (fun v1773 => [(5, .int v1773), (4, .ref (X.2.1 3)), (0, .ref t_o), (1, .int a1), (2, .int a2)]) hl d_Writer_writeEntry_185 rfl (by decide) (fun _ => rfl) (fun v1773 ls hf hl => ?_)
                refine n_goto hC 152 d_Writer_writeEntry_188 (by decide) ?_
                exact hk152 _ _ hf _ _ _ hw (lv_sub hl [0, 1, 2, 3, 4] rfl)
              )
            exact hL152 N _ _ hf _ _ _ hw (lv_sub hl [0, 1, 3, 4, 5] rfl)
          · refine n_ldcS hC (fun A u h => (hS A u h).2.1 2 (by decide)) d_Writer_writeEntry_140 ?_
            refine n_goto hC 147 d_Writer_writeEntry_142 (by decide) ?_
            refine n_astore hC [(4, .ref (X.2.1 2)), (3, .int x1215), (0, .ref t_o), (1, .int a1), (2, .int a2)] hl d_Writer_writeEntry_147 (by decide) rfl (fun ls hl => ?_)
            refine n_iconst hC 0 d_Writer_writeEntry_149 (by decide) ?_
            refine n_istore hC [(5, .int 0), (4, .ref (X.2.1 2)), (3, .int x1215), (0, .ref t_o), (1, .int a1), (2, .int a2)] hl d_Writer_writeEntry_150 (by decide) rfl (fun ls hl => ?_)
            have hL152 := lw2 (B := f_Writer_writeEntry_L152''' a1 a2 d_length d_words_n) (z := z) (fun (x1787 : Int32) (x1788 : Nat → Int64) => ∀ (H : Heap) (locs : List Loc) (ls : Array Slot), WS g.1 classes A s.heap H locs (wd_Writer_writeEntry g t_o d_o d_words_a p_o p_sorts_a p_starts_a p_lengths_a u_o v_o p_names_a p_sizes_a p_seeds_a p_scattered_a d_words_n t_sectors d_length x1788 p_lastUsable p_partitions p_files p_kernelAddress p_sorts p_starts p_lengths) → lv_has ls 6 [(5, .int x1787), (4, .ref (X.2.1 2)), (0, .ref t_o), (1, .int a1), (2, .int a2)] → W p l e rm_Writer_writeEntry s m args below meth c H locs 0 0 Q (F0 m 152 ls [])) (by
              intro k152 hk152 x1787 x1788 hf H locs ls hw hl
              unfold f_Writer_writeEntry_L152''' at hf
              refine n_iload hC hl 0 d_Writer_writeEntry_152 rfl ?_
              refine n_aload hC hl 1 d_Writer_writeEntry_154 rfl ?_
              obtain ⟨u1802, hu1802, hf⟩ := bd_s hf
              refine n_callOi hC hw fc_Writer_194 (c_String_length l g E hEe (X.2.1 2) (X.2.2 2) 4 (sByt 2) (fun A u h => (hS A u h).1 2 (by decide))  u1802 hu1802) [] (wd_Writer_writeEntry g t_o d_o d_words_a p_o p_sorts_a p_starts_a p_lengths_a u_o v_o p_names_a p_sizes_a p_seeds_a p_scattered_a d_words_n t_sectors d_length x1788 p_lastUsable p_partitions p_files p_kernelAddress p_sorts p_starts p_lengths) (fun A u h => ((fun A u h => (hS A u h).1 2 (by decide)) A u h).1) ⟨rfl, rfl⟩ ⟨Nat.le_of_ble_eq_true rfl, Nat.le_of_ble_eq_true rfl⟩ rfl At_.nil At_.nil Sm_.refl rfl hl.1 (Nat.le_of_ble_eq_true rfl) ⟨Nat.zero_le _, Nat.zero_le _⟩ d_Writer_writeEntry_156 (fun H locs hw => ?_) rfl
              refine n_icmp_ge hC hf 191 d_Writer_writeEntry_159 (by decide) (fun hf => ?_) (fun hf => ?_)
              · refine n_aload_n hC hl 2 d_Writer_writeEntry_191 rfl rfl ?_
                refine n_get hC hw fg_Writer_9 0 rfl rfl d_Writer_writeEntry_192 ?_
                refine n_iload_n hC hl 3 d_Writer_writeEntry_195 rfl rfl ?_
                refine n_bipush hC 56 d_Writer_writeEntry_196 (by decide) ?_
                refine n_iadd hC hf d_Writer_writeEntry_198 (fun v1803 hf => ?_)
                refine n_iconst hC 2 d_Writer_writeEntry_199 (by decide) ?_
                refine n_aload hC hl 1 d_Writer_writeEntry_200 rfl ?_
                obtain ⟨u1804, hu1804, hf⟩ := bd_s hf
                refine n_callOi hC hw fc_Writer_194 (c_String_length l g E hEe (X.2.1 2) (X.2.2 2) 4 (sByt 2) (fun A u h => (hS A u h).1 2 (by decide))  u1804 hu1804) [] (wd_Writer_writeEntry g t_o d_o d_words_a p_o p_sorts_a p_starts_a p_lengths_a u_o v_o p_names_a p_sizes_a p_seeds_a p_scattered_a d_words_n t_sectors d_length x1788 p_lastUsable p_partitions p_files p_kernelAddress p_sorts p_starts p_lengths) (fun A u h => ((fun A u h => (hS A u h).1 2 (by decide)) A u h).1) ⟨rfl, rfl⟩ ⟨Nat.le_of_ble_eq_true rfl, Nat.le_of_ble_eq_true rfl⟩ rfl At_.nil At_.nil Sm_.refl rfl hl.1 (Nat.le_of_ble_eq_true rfl) ⟨Nat.zero_le _, Nat.zero_le _⟩ d_Writer_writeEntry_202 (fun H locs hw => ?_) rfl
                refine n_imul hC hf d_Writer_writeEntry_205 (fun v1805 hf => ?_)
                refine n_iadd hC hf d_Writer_writeEntry_206 (fun v1806 hf => ?_)
                refine n_bipush hC 48 d_Writer_writeEntry_207 (by decide) ?_
                refine n_iload_n hC hl 4 d_Writer_writeEntry_209 rfl rfl ?_
                refine n_iadd hC hf d_Writer_writeEntry_210 (fun v1807 hf => ?_)
                obtain ⟨u1808, hu1808, hf⟩ := bd_s hf
                refine n_callVv hC hw fc_Writer_104 (c_Store_put l g E hEe d_o d_words_a d_words_n d_length x1788 v1806 v1807 u1808 hu1808) [1, 2] (wd_Writer_writeEntry g t_o d_o d_words_a p_o p_sorts_a p_starts_a p_lengths_a u_o v_o p_names_a p_sizes_a p_seeds_a p_scattered_a d_words_n t_sectors d_length u1808 p_lastUsable p_partitions p_files p_kernelAddress p_sorts p_starts p_lengths) 1 rfl ⟨rfl, rfl⟩ ⟨Nat.le_of_ble_eq_true rfl, Nat.le_of_ble_eq_true rfl⟩ rfl (At_.cons rfl (At_.cons rfl At_.nil)) (At_.cons rfl (At_.cons rfl At_.nil)) (Sm_.keep (Sm_.keep (Sm_.upd rfl (Sm_.keep (Sm_.keep (Sm_.keep (Sm_.keep Sm_.nil))))))) rfl hl.1 (Nat.le_of_ble_eq_true rfl) ⟨Nat.zero_le _, Nat.zero_le _⟩ d_Writer_writeEntry_211 (fun H locs hw => ?_) rfl
                cases hf
                exact hret _ _ _ _ hw d_Writer_writeEntry_214
              · refine n_aload_n hC hl 2 d_Writer_writeEntry_162 rfl rfl ?_
                refine n_get hC hw fg_Writer_9 0 rfl rfl d_Writer_writeEntry_163 ?_
                refine n_iload_n hC hl 3 d_Writer_writeEntry_166 rfl rfl ?_
                refine n_bipush hC 56 d_Writer_writeEntry_167 (by decide) ?_
                refine n_iadd hC hf d_Writer_writeEntry_169 (fun v1809 hf => ?_)
                refine n_iconst hC 2 d_Writer_writeEntry_170 (by decide) ?_
                refine n_iload hC hl 0 d_Writer_writeEntry_171 rfl ?_
                refine n_imul hC hf d_Writer_writeEntry_173 (fun v1810 hf => ?_)
                refine n_iadd hC hf d_Writer_writeEntry_174 (fun v1811 hf => ?_)
                refine n_aload hC hl 1 d_Writer_writeEntry_175 rfl ?_
                refine n_iload hC hl 0 d_Writer_writeEntry_177 rfl ?_
                obtain ⟨u1812, hu1812, hf⟩ := bd_s hf
                refine n_callOi hC hw fc_Writer_199 (c_String_charAt l g E hEe (X.2.1 2) (X.2.2 2) 4 (sByt 2) (fun A u h => (hS A u h).1 2 (by decide)) x1787 u1812 hu1812) [] (wd_Writer_writeEntry g t_o d_o d_words_a p_o p_sorts_a p_starts_a p_lengths_a u_o v_o p_names_a p_sizes_a p_seeds_a p_scattered_a d_words_n t_sectors d_length x1788 p_lastUsable p_partitions p_files p_kernelAddress p_sorts p_starts p_lengths) (fun A u h => ((fun A u h => (hS A u h).1 2 (by decide)) A u h).1) ⟨rfl, rfl⟩ ⟨Nat.le_of_ble_eq_true rfl, Nat.le_of_ble_eq_true rfl⟩ rfl At_.nil At_.nil Sm_.refl rfl hl.1 (Nat.le_of_ble_eq_true rfl) ⟨Nat.zero_le _, Nat.zero_le _⟩ d_Writer_writeEntry_179 (fun H locs hw => ?_) rfl
                obtain ⟨u1813, hu1813, hf⟩ := bd_s hf
                refine n_callVv hC hw fc_Writer_104 (c_Store_put l g E hEe d_o d_words_a d_words_n d_length x1788 v1811 u1812 u1813 hu1813) [1, 2] (wd_Writer_writeEntry g t_o d_o d_words_a p_o p_sorts_a p_starts_a p_lengths_a u_o v_o p_names_a p_sizes_a p_seeds_a p_scattered_a d_words_n t_sectors d_length u1813 p_lastUsable p_partitions p_files p_kernelAddress p_sorts p_starts p_lengths) 1 rfl ⟨rfl, rfl⟩ ⟨Nat.le_of_ble_eq_true rfl, Nat.le_of_ble_eq_true rfl⟩ rfl (At_.cons rfl (At_.cons rfl At_.nil)) (At_.cons rfl (At_.cons rfl At_.nil)) (Sm_.keep (Sm_.keep (Sm_.upd rfl (Sm_.keep (Sm_.keep (Sm_.keep (Sm_.keep Sm_.nil))))))) rfl hl.1 (Nat.le_of_ble_eq_true rfl) ⟨Nat.zero_le _, Nat.zero_le _⟩ d_Writer_writeEntry_182 (fun H locs hw => ?_) rfl
                refine n_iinc hC (k := 0) hf (by decide) (fun v1814 => [(5, .int v1814), (4, .ref (X.2.1 2)), (0, .ref t_o), (1, .int a1), (2, .int a2)]) hl d_Writer_writeEntry_185 rfl (by decide) (fun _ => rfl) (fun v1814 ls hf hl => ?_)
                refine n_goto hC 152 d_Writer_writeEntry_188 (by decide) ?_
                exact hk152 _ _ hf _ _ _ hw (lv_sub hl [0, 1, 2, 3, 4] rfl)
              )
            exact hL152 N _ _ hf _ _ _ hw (lv_sub hl [0, 1, 3, 4, 5] rfl)
        · refine n_aload_n hC hl 2 d_Writer_writeEntry_49 rfl rfl ?_
          refine n_get hC hw fg_Writer_9 0 rfl rfl d_Writer_writeEntry_50 ?_
          refine n_iload_n hC hl 3 d_Writer_writeEntry_53 rfl rfl ?_
          refine n_bipush hC 16 d_Writer_writeEntry_54 (by decide) ?_
          refine n_iadd hC hf d_Writer_writeEntry_56 (fun v1815 hf => ?_)
          refine n_iload hC hl 0 d_Writer_writeEntry_57 rfl ?_
          refine n_iadd hC hf d_Writer_writeEntry_59 (fun v1816 hf => ?_)
          refine n_bipush hC 32 d_Writer_writeEntry_60 (by decide) ?_
          refine n_iload_n hC hl 4 d_Writer_writeEntry_62 rfl rfl ?_
          refine n_iconst hC 1 d_Writer_writeEntry_63 (by decide) ?_
          refine n_iadd hC hf d_Writer_writeEntry_64 (fun v1817 hf => ?_)
          refine n_imul hC hf d_Writer_writeEntry_65 (fun v1818 hf => ?_)
          refine n_iload hC hl 0 d_Writer_writeEntry_66 rfl ?_
          refine n_iadd hC hf d_Writer_writeEntry_68 (fun v1819 hf => ?_)
          obtain ⟨u1820, hu1820, hf⟩ := bd_s hf
          refine n_callVv hC hw fc_Writer_104 (c_Store_put l g E hEe d_o d_words_a d_words_n d_length x1621 v1816 v1819 u1820 hu1820) [1, 2] (wd_Writer_writeEntry g t_o d_o d_words_a p_o p_sorts_a p_starts_a p_lengths_a u_o v_o p_names_a p_sizes_a p_seeds_a p_scattered_a d_words_n t_sectors d_length u1820 p_lastUsable p_partitions p_files p_kernelAddress p_sorts p_starts p_lengths) 1 rfl ⟨rfl, rfl⟩ ⟨Nat.le_of_ble_eq_true rfl, Nat.le_of_ble_eq_true rfl⟩ rfl (At_.cons rfl (At_.cons rfl At_.nil)) (At_.cons rfl (At_.cons rfl At_.nil)) (Sm_.keep (Sm_.keep (Sm_.upd rfl (Sm_.keep (Sm_.keep (Sm_.keep (Sm_.keep Sm_.nil))))))) rfl hl.1 (Nat.le_of_ble_eq_true rfl) ⟨Nat.zero_le _, Nat.zero_le _⟩ d_Writer_writeEntry_69 (fun H locs hw => ?_) rfl
          refine n_iinc hC (k := 0) hf (by decide) (fun v1821 => [(4, .int v1821), (3, .int x1215), (0, .ref t_o), (1, .int a1), (2, .int a2)]) hl d_Writer_writeEntry_72 rfl (by decide) (fun _ => rfl) (fun v1821 ls hf hl => ?_)
          refine n_goto hC 42 d_Writer_writeEntry_75 (by decide) ?_
          exact hk42 _ _ hf _ _ _ hw (lv_sub hl [0, 1, 2, 3, 4] rfl)
        )
      exact hL42 N _ _ hf _ _ _ hw (lv_sub hl [0, 1, 2, 3, 4] rfl)
  refine n_if_ne hC hf 16 d_Writer_writeEntry_9 (by decide) (fun hf => ?_) (fun hf => ?_)
  · refine n_iconst hC 0 d_Writer_writeEntry_16 (by decide) ?_
    exact hj17 _ hf _ _ _ hw (lv_sub hl [0, 1, 2] rfl)
  · refine n_iconst hC 1 d_Writer_writeEntry_12 (by decide) ?_
    refine n_goto hC 17 d_Writer_writeEntry_13 (by decide) ?_
    exact hj17 _ hf _ _ _ hw (lv_sub hl [0, 1, 2] rfl)
def wd_Writer_writeTable (g : GT) (t_o : Nat) (d_o : Nat) (d_words_a : Nat) (p_o : Nat) (p_sorts_a : Nat) (p_starts_a : Nat) (p_lengths_a : Nat) (u_o : Nat) (u_shifted_a : Nat) (v_o : Nat) (p_names_a : Nat) (p_sizes_a : Nat) (p_seeds_a : Nat) (p_scattered_a : Nat) (d_words_n : Nat) (t_sectors : Int32) (d_length : Int32) (d_words : Nat → Int64) (p_lastUsable : Int32) (p_partitions : Int32) (p_files : Int32) (p_kernelAddress : Int32) (p_sorts : Nat → Int32) (p_starts : Nat → Int32) (p_lengths : Nat → Int32) (u_bits : Int32) (u_shifted : Nat → Int32) : va_W := [(t_o, .inr (4, [.ref d_o, .int t_sectors, .ref p_o, .ref u_o, .ref v_o])), (d_o, .inr (0, [.int d_length, .ref d_words_a])), (d_words_a, .inl (g.2.2.1, d_words_n, .inr (.inl d_words))), (p_o, .inr (2, [.int p_lastUsable, .ref p_sorts_a, .ref p_starts_a, .ref p_lengths_a, .int p_partitions, .ref p_names_a, .ref p_sizes_a, .ref p_seeds_a, .ref p_scattered_a, .int p_files, .int p_kernelAddress])), (p_sorts_a, .inl (g.2.1, 4, .inl p_sorts)), (p_starts_a, .inl (g.2.1, 4, .inl p_starts)), (p_lengths_a, .inl (g.2.1, 4, .inl p_lengths)), (u_o, .inr (1, [.ref u_shifted_a, .int u_bits])), (u_shifted_a, .inl (g.2.1, 256, .inl u_shifted))]
def f_Writer_writeTable_L161 (N : Nat) (v455 : Int32) (a1 : Int32) (d_length : Int32) (d_words_n : Nat) (u_shifted : Nat → Int32) (k161 : Int32 → (Nat → Int64) → Option ((Nat → Int64) × Int32)) (x494 : Int32) (x495 : Nat → Int64) : Option ((Nat → Int64) × Int32) :=
  if (16 : Int32) ≤ x494 then lt_ (v455 + 72) (fun v518 => lt_ (a1.toInt64) (fun v519 => bd_ (f_Store_putLow N 8 v518 v519 d_length d_words_n x495) (fun u520 => lt_ (v455 + 80) (fun v521 => bd_ (f_Store_putLow N 4 v521 128 d_length d_words_n u520) (fun u522 => lt_ (v455 + 84) (fun v523 => bd_ (f_Store_putLow N 4 v523 128 d_length d_words_n u522) (fun u524 => lt_ (v455 + 88) (fun v525 => lt_ (a1 * 512) (fun v526 => bd_ (f_Sums_over N 16384 v526 d_length d_words_n u524 u_shifted) (fun u527 => lt_ (u527.1.toInt64) (fun v528 => bd_ (f_Store_putLow N 4 v525 v528 d_length d_words_n u524) (fun u529 => lt_ (v455 + 16) (fun v530 => bd_ (f_Sums_overHeader N u_shifted v455 d_length d_words_n u529) (fun u531 => lt_ (u531.1.toInt64) (fun v532 => bd_ (f_Store_putLow N 4 v530 v532 d_length d_words_n u529) (fun u533 => some (u533, u531.2))))))))))))))))) else lt_ (v455 + 56) (fun v534 => lt_ (v534 + x494) (fun v535 => lt_ ((17 : Int32) * x494) (fun v536 => lt_ (v536 + 1) (fun v537 => bd_ (f_Store_put v535 x495 d_length d_words_n v537) (fun u538 => lt_ (x494 + 1) (fun v539 => k161 v539 u538))))))
def f_Writer_writeTable_L3 (N : Nat) (p_partitions : Int32) (a2 : Int32) (d_length : Int32) (d_words_n : Nat) (a3 : Int32) (p_lastUsable : Int32) (a1 : Int32) (u_shifted : Nat → Int32) (p_sorts : Nat → Int32) (p_starts : Nat → Int32) (p_lengths : Nat → Int32) (k3 : Int32 → (Nat → Int64) → Option ((Nat → Int64) × Int32)) (x363 : Int32) (x364 : Nat → Int64) : Option ((Nat → Int64) × Int32) :=
  if p_partitions ≤ x363 then lt_ (a2 * 512) (fun v455 => bd_ (f_Store_putRow N 8 v455 (tVal 2) d_length d_words_n x364) (fun u456 => lt_ (v455 + 10) (fun v457 => bd_ (f_Store_put v457 u456 d_length d_words_n 1) (fun u458 => lt_ (v455 + 12) (fun v459 => bd_ (f_Store_putLow N 4 v459 92 d_length d_words_n u458) (fun u460 => lt_ (v455 + 24) (fun v461 => lt_ (a2.toInt64) (fun v462 => bd_ (f_Store_putLow N 8 v461 v462 d_length d_words_n u460) (fun u463 => lt_ (v455 + 32) (fun v464 => lt_ (a3.toInt64) (fun v465 => bd_ (f_Store_putLow N 8 v464 v465 d_length d_words_n u463) (fun u466 => lt_ (v455 + 40) (fun v467 => bd_ (f_Store_putLow N 8 v467 34 d_length d_words_n u466) (fun u468 => lt_ (v455 + 48) (fun v469 => lt_ (p_lastUsable.toInt64) (fun v470 => bd_ (f_Store_putLow N 8 v469 v470 d_length d_words_n u468) (fun u471 => lp_ (fun _ _ => none) (f_Writer_writeTable_L161 N v455 a1 d_length d_words_n u_shifted) N 0 u471))))))))))))))))) else lt_ (a1 * 512) (fun v540 => lt_ (x363 * 128) (fun v541 => lt_ (v540 + v541) (fun v542 => bd_ (f_Writer_writeEntry N p_sorts x363 v542 d_length d_words_n x364 p_starts p_lengths) (fun u543 => lt_ (x363 + 1) (fun v544 => k3 v544 u543)))))
def f_Writer_writeTable (N : Nat) (p_partitions : Int32) (a2 : Int32) (d_length : Int32) (d_words_n : Nat) (a3 : Int32) (p_lastUsable : Int32) (a1 : Int32) (u_shifted : Nat → Int32) (p_sorts : Nat → Int32) (p_starts : Nat → Int32) (p_lengths : Nat → Int32) (d_words : Nat → Int64) : Option ((Nat → Int64) × Int32) :=
  lp_ (fun _ _ => none) (f_Writer_writeTable_L3 N p_partitions a2 d_length d_words_n a3 p_lastUsable a1 u_shifted p_sorts p_starts p_lengths) N 0 d_words
def rm_Writer_writeTable : Room := { frames := 5, cells := 0, slots := 0, locals := 110 }
set_option maxHeartbeats 4000000 in
set_option maxRecDepth 100000 in
theorem c_Writer_writeTable (l : Launch) (g : GT) (E : (Nat → Prop) → State → Prop) (hEe : Ee E) (X : XT) (hS : ∀ (A : Nat → Prop) (u : State), E A u → SS X A u) (t_o : Nat) (d_o : Nat) (d_words_a : Nat) (p_o : Nat) (p_sorts_a : Nat) (p_starts_a : Nat) (p_lengths_a : Nat) (u_o : Nat) (u_shifted_a : Nat) (v_o : Nat) (p_names_a : Nat) (p_sizes_a : Nat) (p_seeds_a : Nat) (p_scattered_a : Nat) (d_words_n : Nat) (t_sectors : Int32) (d_length : Int32) (d_words : Nat → Int64) (p_lastUsable : Int32) (p_partitions : Int32) (p_files : Int32) (p_kernelAddress : Int32) (p_sorts : Nat → Int32) (p_starts : Nat → Int32) (p_lengths : Nat → Int32) (u_bits : Int32) (u_shifted : Nat → Int32) (a1 : Int32) (a2 : Int32) (a3 : Int32) (N : Nat) (z : (Nat → Int64) × Int32) (hf : f_Writer_writeTable N p_partitions a2 d_length d_words_n a3 p_lastUsable a1 u_shifted p_sorts p_starts p_lengths d_words = some z) : Cg l g E y_Writer_writeTable ws_Writer_writeTable rm_Writer_writeTable [.ref t_o, .int a1, .int a2, .int a3] (wd_Writer_writeTable g t_o d_o d_words_a p_o p_sorts_a p_starts_a p_lengths_a u_o u_shifted_a v_o p_names_a p_sizes_a p_seeds_a p_scattered_a d_words_n t_sectors d_length d_words p_lastUsable p_partitions p_files p_kernelAddress p_sorts p_starts p_lengths u_bits u_shifted) none (wd_Writer_writeTable g t_o d_o d_words_a p_o p_sorts_a p_starts_a p_lengths_a u_o u_shifted_a v_o p_names_a p_sizes_a p_seeds_a p_scattered_a d_words_n t_sectors d_length z.1 p_lastUsable p_partitions p_files p_kernelAddress p_sorts p_starts p_lengths z.2 u_shifted) := by
  refine Ct.ofV hEe good_W (by decide) rfl (Nat.le_of_ble_eq_true rfl) ?_
  intro p e s m args below meth c A ls Q hC hw hl hret
  have hC : CX p m c b_Writer_writeTable 6 s args Wall R_Writer g.1 classes (tK g) E A := hC
  have hl : lv_has ls 6 [(0, .ref t_o), (1, .int a1), (2, .int a2), (3, .int a3)] := hl
  unfold f_Writer_writeTable at hf
  refine n_iconst hC 0 d_Writer_writeTable_0 (by decide) ?_
  refine n_istore hC [(4, .int 0), (0, .ref t_o), (1, .int a1), (2, .int a2), (3, .int a3)] hl d_Writer_writeTable_1 (by decide) rfl (fun ls hl => ?_)
  have hL3 := lw2 (B := f_Writer_writeTable_L3 N p_partitions a2 d_length d_words_n a3 p_lastUsable a1 u_shifted p_sorts p_starts p_lengths) (z := z) (fun (x363 : Int32) (x364 : Nat → Int64) => ∀ (H : Heap) (locs : List Loc) (ls : Array Slot), WS g.1 classes A s.heap H locs (wd_Writer_writeTable g t_o d_o d_words_a p_o p_sorts_a p_starts_a p_lengths_a u_o u_shifted_a v_o p_names_a p_sizes_a p_seeds_a p_scattered_a d_words_n t_sectors d_length x364 p_lastUsable p_partitions p_files p_kernelAddress p_sorts p_starts p_lengths u_bits u_shifted) → lv_has ls 6 [(4, .int x363), (0, .ref t_o), (1, .int a1), (2, .int a2), (3, .int a3)] → W p l e rm_Writer_writeTable s m args below meth c H locs 0 0 Q (F0 m 3 ls [])) (by
    intro k3 hk3 x363 x364 hf H locs ls hw hl
    unfold f_Writer_writeTable_L3 at hf
    refine n_iload hC hl 0 d_Writer_writeTable_3 rfl ?_
    refine n_aload_n hC hl 1 d_Writer_writeTable_5 rfl rfl ?_
    refine n_get hC hw fg_Writer_19 0 rfl rfl d_Writer_writeTable_6 ?_
    refine n_get hC hw fg_Writer_155 3 rfl rfl d_Writer_writeTable_9 ?_
    refine n_icmp_ge hC hf 39 d_Writer_writeTable_12 (by decide) (fun hf => ?_) (fun hf => ?_)
    · refine n_iload_n hC hl 3 d_Writer_writeTable_39 rfl rfl ?_
      refine n_sipush hC 512 d_Writer_writeTable_40 (by decide) ?_
      refine n_imul hC hf d_Writer_writeTable_43 (fun v455 hf => ?_)
      refine n_istore hC [(4, .int v455), (0, .ref t_o), (1, .int a1), (2, .int a2), (3, .int a3)] hl d_Writer_writeTable_44 (by decide) rfl (fun ls hl => ?_)
      refine n_aload_n hC hl 1 d_Writer_writeTable_46 rfl rfl ?_
      refine n_get hC hw fg_Writer_9 0 rfl rfl d_Writer_writeTable_47 ?_
      refine n_iload hC hl 0 d_Writer_writeTable_50 rfl ?_
      refine n_getsN hC hw (fun A u h => ((hS A u h).2.2.1 2 (by decide)).1) (fun A u h => (hS A u h).2.2.2 3 (by decide)) d_Writer_writeTable_52 ?_
      obtain ⟨u456, hu456, hf⟩ := bd_s hf
      refine n_callVv hC hw fc_Writer_116 (c_Store_putRow l g E hEe (X.1 2) 8 (tVal 2) (fun A u h => ((hS A u h).2.2.1 2 (by decide)).2) d_o d_words_a d_words_n d_length x364 v455 N u456 hu456) [1, 2] (wd_Writer_writeTable g t_o d_o d_words_a p_o p_sorts_a p_starts_a p_lengths_a u_o u_shifted_a v_o p_names_a p_sizes_a p_seeds_a p_scattered_a d_words_n t_sectors d_length u456 p_lastUsable p_partitions p_files p_kernelAddress p_sorts p_starts p_lengths u_bits u_shifted) 1 rfl ⟨rfl, rfl⟩ ⟨Nat.le_of_ble_eq_true rfl, Nat.le_of_ble_eq_true rfl⟩ rfl (At_.cons rfl (At_.cons rfl At_.nil)) (At_.cons rfl (At_.cons rfl At_.nil)) (Sm_.keep (Sm_.keep (Sm_.upd rfl (Sm_.keep (Sm_.keep (Sm_.keep (Sm_.keep (Sm_.keep (Sm_.keep Sm_.nil))))))))) rfl hl.1 (Nat.le_of_ble_eq_true rfl) ⟨Nat.zero_le _, Nat.zero_le _⟩ d_Writer_writeTable_55 (fun H locs hw => ?_) rfl
      refine n_aload_n hC hl 1 d_Writer_writeTable_58 rfl rfl ?_
      refine n_get hC hw fg_Writer_9 0 rfl rfl d_Writer_writeTable_59 ?_
      refine n_iload hC hl 0 d_Writer_writeTable_62 rfl ?_
      refine n_bipush hC 10 d_Writer_writeTable_64 (by decide) ?_
      refine n_iadd hC hf d_Writer_writeTable_66 (fun v457 hf => ?_)
      refine n_iconst hC 1 d_Writer_writeTable_67 (by decide) ?_
      obtain ⟨u458, hu458, hf⟩ := bd_s hf
      refine n_callVv hC hw fc_Writer_104 (c_Store_put l g E hEe d_o d_words_a d_words_n d_length u456 v457 1 u458 hu458) [1, 2] (wd_Writer_writeTable g t_o d_o d_words_a p_o p_sorts_a p_starts_a p_lengths_a u_o u_shifted_a v_o p_names_a p_sizes_a p_seeds_a p_scattered_a d_words_n t_sectors d_length u458 p_lastUsable p_partitions p_files p_kernelAddress p_sorts p_starts p_lengths u_bits u_shifted) 1 rfl ⟨rfl, rfl⟩ ⟨Nat.le_of_ble_eq_true rfl, Nat.le_of_ble_eq_true rfl⟩ rfl (At_.cons rfl (At_.cons rfl At_.nil)) (At_.cons rfl (At_.cons rfl At_.nil)) (Sm_.keep (Sm_.keep (Sm_.upd rfl (Sm_.keep (Sm_.keep (Sm_.keep (Sm_.keep (Sm_.keep (Sm_.keep Sm_.nil))))))))) rfl hl.1 (Nat.le_of_ble_eq_true rfl) ⟨Nat.zero_le _, Nat.zero_le _⟩ d_Writer_writeTable_68 (fun H locs hw => ?_) rfl
      refine n_aload_n hC hl 1 d_Writer_writeTable_71 rfl rfl ?_
      refine n_get hC hw fg_Writer_9 0 rfl rfl d_Writer_writeTable_72 ?_
      refine n_iload hC hl 0 d_Writer_writeTable_75 rfl ?_
      refine n_bipush hC 12 d_Writer_writeTable_77 (by decide) ?_
      refine n_iadd hC hf d_Writer_writeTable_79 (fun v459 hf => ?_)
      refine n_iconst hC 4 d_Writer_writeTable_80 (by decide) ?_
      refine n_ldc2 hC 92 kc_Writer_164 d_Writer_writeTable_81 ?_
      obtain ⟨u460, hu460, hf⟩ := bd_s hf
      refine n_callVv hC hw fc_Writer_120 (c_Store_putLow l g E hEe d_o d_words_a d_words_n d_length u458 v459 4 92 N u460 hu460) [1, 2] (wd_Writer_writeTable g t_o d_o d_words_a p_o p_sorts_a p_starts_a p_lengths_a u_o u_shifted_a v_o p_names_a p_sizes_a p_seeds_a p_scattered_a d_words_n t_sectors d_length u460 p_lastUsable p_partitions p_files p_kernelAddress p_sorts p_starts p_lengths u_bits u_shifted) 1 rfl ⟨rfl, rfl⟩ ⟨Nat.le_of_ble_eq_true rfl, Nat.le_of_ble_eq_true rfl⟩ rfl (At_.cons rfl (At_.cons rfl At_.nil)) (At_.cons rfl (At_.cons rfl At_.nil)) (Sm_.keep (Sm_.keep (Sm_.upd rfl (Sm_.keep (Sm_.keep (Sm_.keep (Sm_.keep (Sm_.keep (Sm_.keep Sm_.nil))))))))) rfl hl.1 (Nat.le_of_ble_eq_true rfl) ⟨Nat.zero_le _, Nat.zero_le _⟩ d_Writer_writeTable_84 (fun H locs hw => ?_) rfl
      refine n_aload_n hC hl 1 d_Writer_writeTable_87 rfl rfl ?_
      refine n_get hC hw fg_Writer_9 0 rfl rfl d_Writer_writeTable_88 ?_
      refine n_iload hC hl 0 d_Writer_writeTable_91 rfl ?_
      refine n_bipush hC 24 d_Writer_writeTable_93 (by decide) ?_
      refine n_iadd hC hf d_Writer_writeTable_95 (fun v461 hf => ?_)
      refine n_bipush hC 8 d_Writer_writeTable_96 (by decide) ?_
      refine n_iload_n hC hl 3 d_Writer_writeTable_98 rfl rfl ?_
      refine n_i2l hC hf d_Writer_writeTable_99 (fun v462 hf => ?_)
      obtain ⟨u463, hu463, hf⟩ := bd_s hf
      refine n_callVv hC hw fc_Writer_120 (c_Store_putLow l g E hEe d_o d_words_a d_words_n d_length u460 v461 8 v462 N u463 hu463) [1, 2] (wd_Writer_writeTable g t_o d_o d_words_a p_o p_sorts_a p_starts_a p_lengths_a u_o u_shifted_a v_o p_names_a p_sizes_a p_seeds_a p_scattered_a d_words_n t_sectors d_length u463 p_lastUsable p_partitions p_files p_kernelAddress p_sorts p_starts p_lengths u_bits u_shifted) 1 rfl ⟨rfl, rfl⟩ ⟨Nat.le_of_ble_eq_true rfl, Nat.le_of_ble_eq_true rfl⟩ rfl (At_.cons rfl (At_.cons rfl At_.nil)) (At_.cons rfl (At_.cons rfl At_.nil)) (Sm_.keep (Sm_.keep (Sm_.upd rfl (Sm_.keep (Sm_.keep (Sm_.keep (Sm_.keep (Sm_.keep (Sm_.keep Sm_.nil))))))))) rfl hl.1 (Nat.le_of_ble_eq_true rfl) ⟨Nat.zero_le _, Nat.zero_le _⟩ d_Writer_writeTable_100 (fun H locs hw => ?_) rfl
      refine n_aload_n hC hl 1 d_Writer_writeTable_103 rfl rfl ?_
      refine n_get hC hw fg_Writer_9 0 rfl rfl d_Writer_writeTable_104 ?_
      refine n_iload hC hl 0 d_Writer_writeTable_107 rfl ?_
      refine n_bipush hC 32 d_Writer_writeTable_109 (by decide) ?_
      refine n_iadd hC hf d_Writer_writeTable_111 (fun v464 hf => ?_)
      refine n_bipush hC 8 d_Writer_writeTable_112 (by decide) ?_
      refine n_iload_n hC hl 4 d_Writer_writeTable_114 rfl rfl ?_
      refine n_i2l hC hf d_Writer_writeTable_115 (fun v465 hf => ?_)
      obtain ⟨u466, hu466, hf⟩ := bd_s hf
      refine n_callVv hC hw fc_Writer_120 (c_Store_putLow l g E hEe d_o d_words_a d_words_n d_length u463 v464 8 v465 N u466 hu466) [1, 2] (wd_Writer_writeTable g t_o d_o d_words_a p_o p_sorts_a p_starts_a p_lengths_a u_o u_shifted_a v_o p_names_a p_sizes_a p_seeds_a p_scattered_a d_words_n t_sectors d_length u466 p_lastUsable p_partitions p_files p_kernelAddress p_sorts p_starts p_lengths u_bits u_shifted) 1 rfl ⟨rfl, rfl⟩ ⟨Nat.le_of_ble_eq_true rfl, Nat.le_of_ble_eq_true rfl⟩ rfl (At_.cons rfl (At_.cons rfl At_.nil)) (At_.cons rfl (At_.cons rfl At_.nil)) (Sm_.keep (Sm_.keep (Sm_.upd rfl (Sm_.keep (Sm_.keep (Sm_.keep (Sm_.keep (Sm_.keep (Sm_.keep Sm_.nil))))))))) rfl hl.1 (Nat.le_of_ble_eq_true rfl) ⟨Nat.zero_le _, Nat.zero_le _⟩ d_Writer_writeTable_116 (fun H locs hw => ?_) rfl
      refine n_aload_n hC hl 1 d_Writer_writeTable_119 rfl rfl ?_
      refine n_get hC hw fg_Writer_9 0 rfl rfl d_Writer_writeTable_120 ?_
      refine n_iload hC hl 0 d_Writer_writeTable_123 rfl ?_
      refine n_bipush hC 40 d_Writer_writeTable_125 (by decide) ?_
      refine n_iadd hC hf d_Writer_writeTable_127 (fun v467 hf => ?_)
      refine n_bipush hC 8 d_Writer_writeTable_128 (by decide) ?_
      refine n_ldc2 hC 34 kc_Writer_166 d_Writer_writeTable_130 ?_
      obtain ⟨u468, hu468, hf⟩ := bd_s hf
      refine n_callVv hC hw fc_Writer_120 (c_Store_putLow l g E hEe d_o d_words_a d_words_n d_length u466 v467 8 34 N u468 hu468) [1, 2] (wd_Writer_writeTable g t_o d_o d_words_a p_o p_sorts_a p_starts_a p_lengths_a u_o u_shifted_a v_o p_names_a p_sizes_a p_seeds_a p_scattered_a d_words_n t_sectors d_length u468 p_lastUsable p_partitions p_files p_kernelAddress p_sorts p_starts p_lengths u_bits u_shifted) 1 rfl ⟨rfl, rfl⟩ ⟨Nat.le_of_ble_eq_true rfl, Nat.le_of_ble_eq_true rfl⟩ rfl (At_.cons rfl (At_.cons rfl At_.nil)) (At_.cons rfl (At_.cons rfl At_.nil)) (Sm_.keep (Sm_.keep (Sm_.upd rfl (Sm_.keep (Sm_.keep (Sm_.keep (Sm_.keep (Sm_.keep (Sm_.keep Sm_.nil))))))))) rfl hl.1 (Nat.le_of_ble_eq_true rfl) ⟨Nat.zero_le _, Nat.zero_le _⟩ d_Writer_writeTable_133 (fun H locs hw => ?_) rfl
      refine n_aload_n hC hl 1 d_Writer_writeTable_136 rfl rfl ?_
      refine n_get hC hw fg_Writer_9 0 rfl rfl d_Writer_writeTable_137 ?_
      refine n_iload hC hl 0 d_Writer_writeTable_140 rfl ?_
      refine n_bipush hC 48 d_Writer_writeTable_142 (by decide) ?_
      refine n_iadd hC hf d_Writer_writeTable_144 (fun v469 hf => ?_)
      refine n_bipush hC 8 d_Writer_writeTable_145 (by decide) ?_
      refine n_aload_n hC hl 1 d_Writer_writeTable_147 rfl rfl ?_
      refine n_get hC hw fg_Writer_19 0 rfl rfl d_Writer_writeTable_148 ?_
      refine n_get hC hw fg_Writer_168 3 rfl rfl d_Writer_writeTable_151 ?_
      refine n_i2l hC hf d_Writer_writeTable_154 (fun v470 hf => ?_)
      obtain ⟨u471, hu471, hf⟩ := bd_s hf
      refine n_callVv hC hw fc_Writer_120 (c_Store_putLow l g E hEe d_o d_words_a d_words_n d_length u468 v469 8 v470 N u471 hu471) [1, 2] (wd_Writer_writeTable g t_o d_o d_words_a p_o p_sorts_a p_starts_a p_lengths_a u_o u_shifted_a v_o p_names_a p_sizes_a p_seeds_a p_scattered_a d_words_n t_sectors d_length u471 p_lastUsable p_partitions p_files p_kernelAddress p_sorts p_starts p_lengths u_bits u_shifted) 1 rfl ⟨rfl, rfl⟩ ⟨Nat.le_of_ble_eq_true rfl, Nat.le_of_ble_eq_true rfl⟩ rfl (At_.cons rfl (At_.cons rfl At_.nil)) (At_.cons rfl (At_.cons rfl At_.nil)) (Sm_.keep (Sm_.keep (Sm_.upd rfl (Sm_.keep (Sm_.keep (Sm_.keep (Sm_.keep (Sm_.keep (Sm_.keep Sm_.nil))))))))) rfl hl.1 (Nat.le_of_ble_eq_true rfl) ⟨Nat.zero_le _, Nat.zero_le _⟩ d_Writer_writeTable_155 (fun H locs hw => ?_) rfl
      refine n_iconst hC 0 d_Writer_writeTable_158 (by decide) ?_
      refine n_istore hC [(5, .int 0), (4, .int v455), (0, .ref t_o), (1, .int a1), (2, .int a2), (3, .int a3)] hl d_Writer_writeTable_159 (by decide) rfl (fun ls hl => ?_)
      have hL161 := lw2 (B := f_Writer_writeTable_L161 N v455 a1 d_length d_words_n u_shifted) (z := z) (fun (x494 : Int32) (x495 : Nat → Int64) => ∀ (H : Heap) (locs : List Loc) (ls : Array Slot), WS g.1 classes A s.heap H locs (wd_Writer_writeTable g t_o d_o d_words_a p_o p_sorts_a p_starts_a p_lengths_a u_o u_shifted_a v_o p_names_a p_sizes_a p_seeds_a p_scattered_a d_words_n t_sectors d_length x495 p_lastUsable p_partitions p_files p_kernelAddress p_sorts p_starts p_lengths u_bits u_shifted) → lv_has ls 6 [(5, .int x494), (4, .int v455), (0, .ref t_o), (1, .int a1)] → W p l e rm_Writer_writeTable s m args below meth c H locs 0 0 Q (F0 m 161 ls [])) (by
        intro k161 hk161 x494 x495 hf H locs ls hw hl
        unfold f_Writer_writeTable_L161 at hf
        refine n_iload hC hl 0 d_Writer_writeTable_161 rfl ?_
        refine n_bipush hC 16 d_Writer_writeTable_163 (by decide) ?_
        refine n_icmp_ge hC hf 196 d_Writer_writeTable_165 (by decide) (fun hf => ?_) (fun hf => ?_)
        · refine n_aload_n hC hl 2 d_Writer_writeTable_196 rfl rfl ?_
          refine n_get hC hw fg_Writer_9 0 rfl rfl d_Writer_writeTable_197 ?_
          refine n_iload hC hl 1 d_Writer_writeTable_200 rfl ?_
          refine n_bipush hC 72 d_Writer_writeTable_202 (by decide) ?_
          refine n_iadd hC hf d_Writer_writeTable_204 (fun v518 hf => ?_)
          refine n_bipush hC 8 d_Writer_writeTable_205 (by decide) ?_
          refine n_iload_n hC hl 3 d_Writer_writeTable_207 rfl rfl ?_
          refine n_i2l hC hf d_Writer_writeTable_208 (fun v519 hf => ?_)
          obtain ⟨u520, hu520, hf⟩ := bd_s hf
          refine n_callVv hC hw fc_Writer_120 (c_Store_putLow l g E hEe d_o d_words_a d_words_n d_length x495 v518 8 v519 N u520 hu520) [1, 2] (wd_Writer_writeTable g t_o d_o d_words_a p_o p_sorts_a p_starts_a p_lengths_a u_o u_shifted_a v_o p_names_a p_sizes_a p_seeds_a p_scattered_a d_words_n t_sectors d_length u520 p_lastUsable p_partitions p_files p_kernelAddress p_sorts p_starts p_lengths u_bits u_shifted) 1 rfl ⟨rfl, rfl⟩ ⟨Nat.le_of_ble_eq_true rfl, Nat.le_of_ble_eq_true rfl⟩ rfl (At_.cons rfl (At_.cons rfl At_.nil)) (At_.cons rfl (At_.cons rfl At_.nil)) (Sm_.keep (Sm_.keep (Sm_.upd rfl (Sm_.keep (Sm_.keep (Sm_.keep (Sm_.keep (Sm_.keep (Sm_.keep Sm_.nil))))))))) rfl hl.1 (Nat.le_of_ble_eq_true rfl) ⟨Nat.zero_le _, Nat.zero_le _⟩ d_Writer_writeTable_209 (fun H locs hw => ?_) rfl
          refine n_aload_n hC hl 2 d_Writer_writeTable_212 rfl rfl ?_
          refine n_get hC hw fg_Writer_9 0 rfl rfl d_Writer_writeTable_213 ?_
          refine n_iload hC hl 1 d_Writer_writeTable_216 rfl ?_
          refine n_bipush hC 80 d_Writer_writeTable_218 (by decide) ?_
          refine n_iadd hC hf d_Writer_writeTable_220 (fun v521 hf => ?_)
          refine n_iconst hC 4 d_Writer_writeTable_221 (by decide) ?_
          refine n_ldc2 hC 128 kc_Writer_171 d_Writer_writeTable_222 ?_
          obtain ⟨u522, hu522, hf⟩ := bd_s hf
          refine n_callVv hC hw fc_Writer_120 (c_Store_putLow l g E hEe d_o d_words_a d_words_n d_length u520 v521 4 128 N u522 hu522) [1, 2] (wd_Writer_writeTable g t_o d_o d_words_a p_o p_sorts_a p_starts_a p_lengths_a u_o u_shifted_a v_o p_names_a p_sizes_a p_seeds_a p_scattered_a d_words_n t_sectors d_length u522 p_lastUsable p_partitions p_files p_kernelAddress p_sorts p_starts p_lengths u_bits u_shifted) 1 rfl ⟨rfl, rfl⟩ ⟨Nat.le_of_ble_eq_true rfl, Nat.le_of_ble_eq_true rfl⟩ rfl (At_.cons rfl (At_.cons rfl At_.nil)) (At_.cons rfl (At_.cons rfl At_.nil)) (Sm_.keep (Sm_.keep (Sm_.upd rfl (Sm_.keep (Sm_.keep (Sm_.keep (Sm_.keep (Sm_.keep (Sm_.keep Sm_.nil))))))))) rfl hl.1 (Nat.le_of_ble_eq_true rfl) ⟨Nat.zero_le _, Nat.zero_le _⟩ d_Writer_writeTable_225 (fun H locs hw => ?_) rfl
          refine n_aload_n hC hl 2 d_Writer_writeTable_228 rfl rfl ?_
          refine n_get hC hw fg_Writer_9 0 rfl rfl d_Writer_writeTable_229 ?_
          refine n_iload hC hl 1 d_Writer_writeTable_232 rfl ?_
          refine n_bipush hC 84 d_Writer_writeTable_234 (by decide) ?_
          refine n_iadd hC hf d_Writer_writeTable_236 (fun v523 hf => ?_)
          refine n_iconst hC 4 d_Writer_writeTable_237 (by decide) ?_
          refine n_ldc2 hC 128 kc_Writer_171 d_Writer_writeTable_238 ?_
          obtain ⟨u524, hu524, hf⟩ := bd_s hf
          refine n_callVv hC hw fc_Writer_120 (c_Store_putLow l g E hEe d_o d_words_a d_words_n d_length u522 v523 4 128 N u524 hu524) [1, 2] (wd_Writer_writeTable g t_o d_o d_words_a p_o p_sorts_a p_starts_a p_lengths_a u_o u_shifted_a v_o p_names_a p_sizes_a p_seeds_a p_scattered_a d_words_n t_sectors d_length u524 p_lastUsable p_partitions p_files p_kernelAddress p_sorts p_starts p_lengths u_bits u_shifted) 1 rfl ⟨rfl, rfl⟩ ⟨Nat.le_of_ble_eq_true rfl, Nat.le_of_ble_eq_true rfl⟩ rfl (At_.cons rfl (At_.cons rfl At_.nil)) (At_.cons rfl (At_.cons rfl At_.nil)) (Sm_.keep (Sm_.keep (Sm_.upd rfl (Sm_.keep (Sm_.keep (Sm_.keep (Sm_.keep (Sm_.keep (Sm_.keep Sm_.nil))))))))) rfl hl.1 (Nat.le_of_ble_eq_true rfl) ⟨Nat.zero_le _, Nat.zero_le _⟩ d_Writer_writeTable_241 (fun H locs hw => ?_) rfl
          refine n_aload_n hC hl 2 d_Writer_writeTable_244 rfl rfl ?_
          refine n_get hC hw fg_Writer_9 0 rfl rfl d_Writer_writeTable_245 ?_
          refine n_iload hC hl 1 d_Writer_writeTable_248 rfl ?_
          refine n_bipush hC 88 d_Writer_writeTable_250 (by decide) ?_
          refine n_iadd hC hf d_Writer_writeTable_252 (fun v525 hf => ?_)
          refine n_iconst hC 4 d_Writer_writeTable_253 (by decide) ?_
          refine n_aload_n hC hl 2 d_Writer_writeTable_254 rfl rfl ?_
          refine n_get hC hw fg_Writer_23 0 rfl rfl d_Writer_writeTable_255 ?_
          refine n_aload_n hC hl 2 d_Writer_writeTable_258 rfl rfl ?_
          refine n_get hC hw fg_Writer_9 0 rfl rfl d_Writer_writeTable_259 ?_
          refine n_iload_n hC hl 3 d_Writer_writeTable_262 rfl rfl ?_
          refine n_sipush hC 512 d_Writer_writeTable_263 (by decide) ?_
          refine n_imul hC hf d_Writer_writeTable_266 (fun v526 hf => ?_)
          refine n_sipush hC 16384 d_Writer_writeTable_267 (by decide) ?_
          obtain ⟨u527, hu527, hf⟩ := bd_s hf
          refine n_callVi hC hw fc_Writer_173 (c_Sums_over l g E hEe u_o u_shifted_a d_o d_words_a d_words_n u_bits u_shifted d_length u524 v526 16384 N u527 hu527) [7, 8, 1, 2] (wd_Writer_writeTable g t_o d_o d_words_a p_o p_sorts_a p_starts_a p_lengths_a u_o u_shifted_a v_o p_names_a p_sizes_a p_seeds_a p_scattered_a d_words_n t_sectors d_length u524 p_lastUsable p_partitions p_files p_kernelAddress p_sorts p_starts p_lengths u527.2 u_shifted) 7 rfl ⟨rfl, rfl⟩ ⟨Nat.le_of_ble_eq_true rfl, Nat.le_of_ble_eq_true rfl⟩ rfl (At_.cons rfl (At_.cons rfl (At_.cons rfl (At_.cons rfl At_.nil)))) (At_.cons rfl (At_.cons rfl (At_.cons rfl (At_.cons rfl At_.nil)))) (Sm_.keep (Sm_.keep (Sm_.keep (Sm_.keep (Sm_.keep (Sm_.keep (Sm_.keep (Sm_.upd rfl (Sm_.keep Sm_.nil))))))))) rfl hl.1 (Nat.le_of_ble_eq_true rfl) ⟨Nat.zero_le _, Nat.zero_le _⟩ d_Writer_writeTable_270 (fun H locs hw => ?_) rfl
          refine n_i2l hC hf d_Writer_writeTable_273 (fun v528 hf => ?_)
          obtain ⟨u529, hu529, hf⟩ := bd_s hf
          refine n_callVv hC hw fc_Writer_120 (c_Store_putLow l g E hEe d_o d_words_a d_words_n d_length u524 v525 4 v528 N u529 hu529) [1, 2] (wd_Writer_writeTable g t_o d_o d_words_a p_o p_sorts_a p_starts_a p_lengths_a u_o u_shifted_a v_o p_names_a p_sizes_a p_seeds_a p_scattered_a d_words_n t_sectors d_length u529 p_lastUsable p_partitions p_files p_kernelAddress p_sorts p_starts p_lengths u527.2 u_shifted) 1 rfl ⟨rfl, rfl⟩ ⟨Nat.le_of_ble_eq_true rfl, Nat.le_of_ble_eq_true rfl⟩ rfl (At_.cons rfl (At_.cons rfl At_.nil)) (At_.cons rfl (At_.cons rfl At_.nil)) (Sm_.keep (Sm_.keep (Sm_.upd rfl (Sm_.keep (Sm_.keep (Sm_.keep (Sm_.keep (Sm_.keep (Sm_.keep Sm_.nil))))))))) rfl hl.1 (Nat.le_of_ble_eq_true rfl) ⟨Nat.zero_le _, Nat.zero_le _⟩ d_Writer_writeTable_274 (fun H locs hw => ?_) rfl
          refine n_aload_n hC hl 2 d_Writer_writeTable_277 rfl rfl ?_
          refine n_get hC hw fg_Writer_9 0 rfl rfl d_Writer_writeTable_278 ?_
          refine n_iload hC hl 1 d_Writer_writeTable_281 rfl ?_
          refine n_bipush hC 16 d_Writer_writeTable_283 (by decide) ?_
          refine n_iadd hC hf d_Writer_writeTable_285 (fun v530 hf => ?_)
          refine n_iconst hC 4 d_Writer_writeTable_286 (by decide) ?_
          refine n_aload_n hC hl 2 d_Writer_writeTable_287 rfl rfl ?_
          refine n_get hC hw fg_Writer_23 0 rfl rfl d_Writer_writeTable_288 ?_
          refine n_aload_n hC hl 2 d_Writer_writeTable_291 rfl rfl ?_
          refine n_get hC hw fg_Writer_9 0 rfl rfl d_Writer_writeTable_292 ?_
          refine n_iload hC hl 1 d_Writer_writeTable_295 rfl ?_
          obtain ⟨u531, hu531, hf⟩ := bd_s hf
          refine n_callVi hC hw fc_Writer_177 (c_Sums_overHeader l g E hEe u_o u_shifted_a d_o d_words_a d_words_n u527.2 u_shifted d_length u529 v455 N u531 hu531) [7, 8, 1, 2] (wd_Writer_writeTable g t_o d_o d_words_a p_o p_sorts_a p_starts_a p_lengths_a u_o u_shifted_a v_o p_names_a p_sizes_a p_seeds_a p_scattered_a d_words_n t_sectors d_length u529 p_lastUsable p_partitions p_files p_kernelAddress p_sorts p_starts p_lengths u531.2 u_shifted) 7 rfl ⟨rfl, rfl⟩ ⟨Nat.le_of_ble_eq_true rfl, Nat.le_of_ble_eq_true rfl⟩ rfl (At_.cons rfl (At_.cons rfl (At_.cons rfl (At_.cons rfl At_.nil)))) (At_.cons rfl (At_.cons rfl (At_.cons rfl (At_.cons rfl At_.nil)))) (Sm_.keep (Sm_.keep (Sm_.keep (Sm_.keep (Sm_.keep (Sm_.keep (Sm_.keep (Sm_.upd rfl (Sm_.keep Sm_.nil))))))))) rfl hl.1 (Nat.le_of_ble_eq_true rfl) ⟨Nat.zero_le _, Nat.zero_le _⟩ d_Writer_writeTable_297 (fun H locs hw => ?_) rfl
          refine n_i2l hC hf d_Writer_writeTable_300 (fun v532 hf => ?_)
          obtain ⟨u533, hu533, hf⟩ := bd_s hf
          refine n_callVv hC hw fc_Writer_120 (c_Store_putLow l g E hEe d_o d_words_a d_words_n d_length u529 v530 4 v532 N u533 hu533) [1, 2] (wd_Writer_writeTable g t_o d_o d_words_a p_o p_sorts_a p_starts_a p_lengths_a u_o u_shifted_a v_o p_names_a p_sizes_a p_seeds_a p_scattered_a d_words_n t_sectors d_length u533 p_lastUsable p_partitions p_files p_kernelAddress p_sorts p_starts p_lengths u531.2 u_shifted) 1 rfl ⟨rfl, rfl⟩ ⟨Nat.le_of_ble_eq_true rfl, Nat.le_of_ble_eq_true rfl⟩ rfl (At_.cons rfl (At_.cons rfl At_.nil)) (At_.cons rfl (At_.cons rfl At_.nil)) (Sm_.keep (Sm_.keep (Sm_.upd rfl (Sm_.keep (Sm_.keep (Sm_.keep (Sm_.keep (Sm_.keep (Sm_.keep Sm_.nil))))))))) rfl hl.1 (Nat.le_of_ble_eq_true rfl) ⟨Nat.zero_le _, Nat.zero_le _⟩ d_Writer_writeTable_301 (fun H locs hw => ?_) rfl
          cases hf
          exact hret _ _ _ _ hw d_Writer_writeTable_304
        · refine n_aload_n hC hl 2 d_Writer_writeTable_168 rfl rfl ?_
          refine n_get hC hw fg_Writer_9 0 rfl rfl d_Writer_writeTable_169 ?_
          refine n_iload hC hl 1 d_Writer_writeTable_172 rfl ?_
          refine n_bipush hC 56 d_Writer_writeTable_174 (by decide) ?_
          refine n_iadd hC hf d_Writer_writeTable_176 (fun v534 hf => ?_)
          refine n_iload hC hl 0 d_Writer_writeTable_177 rfl ?_
          refine n_iadd hC hf d_Writer_writeTable_179 (fun v535 hf => ?_)
          refine n_bipush hC 17 d_Writer_writeTable_180 (by decide) ?_
          refine n_iload hC hl 0 d_Writer_writeTable_182 rfl ?_
          refine n_imul hC hf d_Writer_writeTable_184 (fun v536 hf => ?_)
          refine n_iconst hC 1 d_Writer_writeTable_185 (by decide) ?_
          refine n_iadd hC hf d_Writer_writeTable_186 (fun v537 hf => ?_)
          obtain ⟨u538, hu538, hf⟩ := bd_s hf
          refine n_callVv hC hw fc_Writer_104 (c_Store_put l g E hEe d_o d_words_a d_words_n d_length x495 v535 v537 u538 hu538) [1, 2] (wd_Writer_writeTable g t_o d_o d_words_a p_o p_sorts_a p_starts_a p_lengths_a u_o u_shifted_a v_o p_names_a p_sizes_a p_seeds_a p_scattered_a d_words_n t_sectors d_length u538 p_lastUsable p_partitions p_files p_kernelAddress p_sorts p_starts p_lengths u_bits u_shifted) 1 rfl ⟨rfl, rfl⟩ ⟨Nat.le_of_ble_eq_true rfl, Nat.le_of_ble_eq_true rfl⟩ rfl (At_.cons rfl (At_.cons rfl At_.nil)) (At_.cons rfl (At_.cons rfl At_.nil)) (Sm_.keep (Sm_.keep (Sm_.upd rfl (Sm_.keep (Sm_.keep (Sm_.keep (Sm_.keep (Sm_.keep (Sm_.keep Sm_.nil))))))))) rfl hl.1 (Nat.le_of_ble_eq_true rfl) ⟨Nat.zero_le _, Nat.zero_le _⟩ d_Writer_writeTable_187 (fun H locs hw => ?_) rfl
          refine n_iinc hC (k := 0) hf (by decide) (fun v539 => [(5, .int v539), (4, .int v455), (0, .ref t_o), (1, .int a1)]) hl d_Writer_writeTable_190 rfl (by decide) (fun _ => rfl) (fun v539 ls hf hl => ?_)
          refine n_goto hC 161 d_Writer_writeTable_193 (by decide) ?_
          exact hk161 _ _ hf _ _ _ hw (lv_sub hl [0, 1, 2, 3] rfl)
        )
      exact hL161 N _ _ hf _ _ _ hw (lv_sub hl [0, 1, 2, 3] rfl)
    · refine n_aload_n hC hl 1 d_Writer_writeTable_15 rfl rfl ?_
      refine n_iload_n hC hl 2 d_Writer_writeTable_16 rfl rfl ?_
      refine n_sipush hC 512 d_Writer_writeTable_17 (by decide) ?_
      refine n_imul hC hf d_Writer_writeTable_20 (fun v540 hf => ?_)
      refine n_iload hC hl 0 d_Writer_writeTable_21 rfl ?_
      refine n_sipush hC 128 d_Writer_writeTable_23 (by decide) ?_
      refine n_imul hC hf d_Writer_writeTable_26 (fun v541 hf => ?_)
      refine n_iadd hC hf d_Writer_writeTable_27 (fun v542 hf => ?_)
      refine n_iload hC hl 0 d_Writer_writeTable_28 rfl ?_
      obtain ⟨u543, hu543, hf⟩ := bd_s hf
      refine n_callVv hC hw fc_Writer_158 (c_Writer_writeEntry l g E hEe X hS t_o d_o d_words_a p_o p_sorts_a p_starts_a p_lengths_a u_o v_o p_names_a p_sizes_a p_seeds_a p_scattered_a d_words_n t_sectors d_length x364 p_lastUsable p_partitions p_files p_kernelAddress p_sorts p_starts p_lengths v542 x363 N u543 hu543) [0, 1, 2, 3, 4, 5, 6] (wd_Writer_writeTable g t_o d_o d_words_a p_o p_sorts_a p_starts_a p_lengths_a u_o u_shifted_a v_o p_names_a p_sizes_a p_seeds_a p_scattered_a d_words_n t_sectors d_length u543 p_lastUsable p_partitions p_files p_kernelAddress p_sorts p_starts p_lengths u_bits u_shifted) 0 rfl ⟨rfl, rfl⟩ ⟨Nat.le_of_ble_eq_true rfl, Nat.le_of_ble_eq_true rfl⟩ rfl (At_.cons rfl (At_.cons rfl (At_.cons rfl (At_.cons rfl (At_.cons rfl (At_.cons rfl (At_.cons rfl At_.nil))))))) (At_.cons rfl (At_.cons rfl (At_.cons rfl (At_.cons rfl (At_.cons rfl (At_.cons rfl (At_.cons rfl At_.nil))))))) (Sm_.keep (Sm_.keep (Sm_.upd rfl (Sm_.keep (Sm_.keep (Sm_.keep (Sm_.keep (Sm_.keep (Sm_.keep Sm_.nil))))))))) rfl hl.1 (Nat.le_of_ble_eq_true rfl) ⟨Nat.zero_le _, Nat.zero_le _⟩ d_Writer_writeTable_30 (fun H locs hw => ?_) rfl
      refine n_iinc hC (k := 0) hf (by decide) (fun v544 => [(4, .int v544), (0, .ref t_o), (1, .int a1), (2, .int a2), (3, .int a3)]) hl d_Writer_writeTable_33 rfl (by decide) (fun _ => rfl) (fun v544 ls hf hl => ?_)
      refine n_goto hC 3 d_Writer_writeTable_36 (by decide) ?_
      exact hk3 _ _ hf _ _ _ hw (lv_sub hl [0, 1, 2, 3, 4] rfl)
    )
  exact hL3 N _ _ hf _ _ _ hw (lv_sub hl [0, 1, 2, 3, 4] rfl)
