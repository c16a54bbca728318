def wd_Writer_writeVolumeSector (g : GT) (t_o : Nat) (d_o : Nat) (d_words_a : Nat) (v_o : Nat) (p_o : Nat) (u_o : Nat) (v_next_a : Nat) (v_firstClusters_a : Nat) (v_runStarts_a : Nat) (v_runLengths_a : Nat) (d_words_n : Nat) (t_sectors : Int32) (d_length : Int32) (d_words : Nat → Int64) (v_start : Int32) (v_length : Int32) (v_tableSectors : Int32) (v_clusters : Int32) (v_runs : Int32) : va_W := [(t_o, .inr (4, [.ref d_o, .int t_sectors, .ref p_o, .ref u_o, .ref v_o])), (d_o, .inr (0, [.int d_length, .ref d_words_a])), (d_words_a, .inl (g.2.2.1, d_words_n, .inr (.inl d_words))), (v_o, .inr (3, [.int v_start, .int v_length, .int v_tableSectors, .int v_clusters, .ref v_next_a, .ref v_firstClusters_a, .ref v_runStarts_a, .ref v_runLengths_a, .int v_runs]))]
def f_Writer_writeVolumeSector (N : Nat) (v_start : Int32) (d_words : Nat → Int64) (d_length : Int32) (d_words_n : Nat) (v_length : Int32) (v_tableSectors : Int32) : Option ((Nat → Int64)) :=
  lt_ (v_start * 512) (fun v46 => bd_ (f_Store_put v46 d_words d_length d_words_n 235) (fun u47 => lt_ (v46 + 1) (fun v48 => bd_ (f_Store_put v48 u47 d_length d_words_n 60) (fun u49 => lt_ (v46 + 2) (fun v50 => bd_ (f_Store_put v50 u49 d_length d_words_n 144) (fun u51 => lt_ (v46 + 3) (fun v52 => bd_ (f_Store_putText N 8 v52 (sByt 4) d_length d_words_n u51) (fun u53 => lt_ (v46 + 11) (fun v54 => bd_ (f_Store_putLow N 2 v54 512 d_length d_words_n u53) (fun u55 => lt_ (v46 + 13) (fun v56 => bd_ (f_Store_put v56 u55 d_length d_words_n 1) (fun u57 => lt_ (v46 + 14) (fun v58 => bd_ (f_Store_putLow N 2 v58 1 d_length d_words_n u57) (fun u59 => lt_ (v46 + 16) (fun v60 => bd_ (f_Store_put v60 u59 d_length d_words_n 2) (fun u61 => lt_ (v46 + 17) (fun v62 => bd_ (f_Store_putLow N 2 v62 32 d_length d_words_n u61) (fun u63 => lt_ (v46 + 19) (fun v64 => lt_ (v_length.toInt64) (fun v65 => bd_ (f_Store_putLow N 2 v64 v65 d_length d_words_n u63) (fun u66 => lt_ (v46 + 21) (fun v67 => bd_ (f_Store_put v67 u66 d_length d_words_n 248) (fun u68 => lt_ (v46 + 22) (fun v69 => lt_ (v_tableSectors.toInt64) (fun v70 => bd_ (f_Store_putLow N 2 v69 v70 d_length d_words_n u68) (fun u71 => lt_ (v46 + 24) (fun v72 => bd_ (f_Store_putLow N 2 v72 32 d_length d_words_n u71) (fun u73 => lt_ (v46 + 26) (fun v74 => bd_ (f_Store_putLow N 2 v74 2 d_length d_words_n u73) (fun u75 => lt_ (v46 + 28) (fun v76 => lt_ (v_start.toInt64) (fun v77 => bd_ (f_Store_putLow N 4 v76 v77 d_length d_words_n u75) (fun u78 => lt_ (v46 + 36) (fun v79 => bd_ (f_Store_put v79 u78 d_length d_words_n 128) (fun u80 => lt_ (v46 + 38) (fun v81 => bd_ (f_Store_put v81 u80 d_length d_words_n 41) (fun u82 => lt_ (v46 + 39) (fun v83 => lt_ (v_start.toInt64) (fun v84 => bd_ (f_Store_putLow N 4 v83 v84 d_length d_words_n u82) (fun u85 => lt_ (v46 + 43) (fun v86 => bd_ (f_Store_putText N 11 v86 (sByt 5) d_length d_words_n u85) (fun u87 => lt_ (v46 + 54) (fun v88 => bd_ (f_Store_putText N 8 v88 (sByt 6) d_length d_words_n u87) (fun u89 => bd_ (f_Store_markBootSector N v_start d_length d_words_n u89) (fun u90 => some (u90))))))))))))))))))))))))))))))))))))))))))))))
def rm_Writer_writeVolumeSector : Room := { frames := 5, cells := 0, slots := 0, locals := 108 }
set_option maxHeartbeats 4000000 in
set_option maxRecDepth 100000 in
theorem c_Writer_writeVolumeSector (l : Launch) (g : GT) (E : (Nat → Prop) → State → Prop) (hEe : Ee E) (X : XT) (hS : ∀ (A : Nat → Prop) (u : State), E A u → SS X A u) (t_o : Nat) (d_o : Nat) (d_words_a : Nat) (v_o : Nat) (p_o : Nat) (u_o : Nat) (v_next_a : Nat) (v_firstClusters_a : Nat) (v_runStarts_a : Nat) (v_runLengths_a : Nat) (d_words_n : Nat) (t_sectors : Int32) (d_length : Int32) (d_words : Nat → Int64) (v_start : Int32) (v_length : Int32) (v_tableSectors : Int32) (v_clusters : Int32) (v_runs : Int32) (N : Nat) (z : (Nat → Int64)) (hf : f_Writer_writeVolumeSector N v_start d_words d_length d_words_n v_length v_tableSectors = some z) : Cg l g E y_Writer_writeVolumeSector ws_Writer_writeVolumeSector rm_Writer_writeVolumeSector [.ref t_o] (wd_Writer_writeVolumeSector g t_o d_o d_words_a v_o p_o u_o v_next_a v_firstClusters_a v_runStarts_a v_runLengths_a d_words_n t_sectors d_length d_words v_start v_length v_tableSectors v_clusters v_runs) none (wd_Writer_writeVolumeSector g t_o d_o d_words_a v_o p_o u_o v_next_a v_firstClusters_a v_runStarts_a v_runLengths_a d_words_n t_sectors d_length z v_start v_length v_tableSectors v_clusters v_runs) := by
  refine Ct.ofV hEe good_W (by decide) rfl (Nat.le_of_ble_eq_true rfl) ?_
  intro p e s m args below meth c A ls Q hC hw hl hret
  have hC : CX p m c b_Writer_writeVolumeSector 2 s args Wall R_Writer g.1 classes (tK g) E A := hC
  have hl : lv_has ls 2 [(0, .ref t_o)] := hl
  unfold f_Writer_writeVolumeSector at hf
  refine n_aload_n hC hl 0 d_Writer_writeVolumeSector_0 rfl rfl ?_
  refine n_get hC hw fg_Writer_32 0 rfl rfl d_Writer_writeVolumeSector_1 ?_
  refine n_get hC hw fg_Writer_142 3 rfl rfl d_Writer_writeVolumeSector_4 ?_
  refine n_sipush hC 512 d_Writer_writeVolumeSector_7 (by decide) ?_
  refine n_imul hC hf d_Writer_writeVolumeSector_10 (fun v46 hf => ?_)
  refine n_istore_n hC [(1, .int v46), (0, .ref t_o)] hl d_Writer_writeVolumeSector_11 rfl (by decide) rfl (fun ls hl => ?_)
  refine n_aload_n hC hl 1 d_Writer_writeVolumeSector_12 rfl rfl ?_
  refine n_get hC hw fg_Writer_9 0 rfl rfl d_Writer_writeVolumeSector_13 ?_
  refine n_iload_n hC hl 0 d_Writer_writeVolumeSector_16 rfl rfl ?_
  refine n_sipush hC 235 d_Writer_writeVolumeSector_17 (by decide) ?_
  obtain ⟨u47, hu47, hf⟩ := bd_s hf
  refine n_callVv hC hw fc_Writer_104 (c_Store_put l g E hEe d_o d_words_a d_words_n d_length d_words v46 235 u47 hu47) [1, 2] (wd_Writer_writeVolumeSector g t_o d_o d_words_a v_o p_o u_o v_next_a v_firstClusters_a v_runStarts_a v_runLengths_a d_words_n t_sectors d_length u47 v_start v_length v_tableSectors v_clusters v_runs) 1 rfl ⟨rfl, rfl⟩ ⟨Nat.le_of_ble_eq_true rfl, Nat.le_of_ble_eq_true rfl⟩ rfl (At_.cons rfl (At_.cons rfl At_.nil)) (At_.cons rfl (At_.cons rfl At_.nil)) (Sm_.keep (Sm_.keep (Sm_.upd rfl (Sm_.keep Sm_.nil)))) rfl hl.1 (Nat.le_of_ble_eq_true rfl) ⟨Nat.zero_le _, Nat.zero_le _⟩ d_Writer_writeVolumeSector_20 (fun H locs hw => ?_) rfl
  refine n_aload_n hC hl 1 d_Writer_writeVolumeSector_23 rfl rfl ?_
  refine n_get hC hw fg_Writer_9 0 rfl rfl d_Writer_writeVolumeSector_24 ?_
  refine n_iload_n hC hl 0 d_Writer_writeVolumeSector_27 rfl rfl ?_
  refine n_iconst hC 1 d_Writer_writeVolumeSector_28 (by decide) ?_
  refine n_iadd hC hf d_Writer_writeVolumeSector_29 (fun v48 hf => ?_)
  refine n_bipush hC 60 d_Writer_writeVolumeSector_30 (by decide) ?_
  obtain ⟨u49, hu49, hf⟩ := bd_s hf
  refine n_callVv hC hw fc_Writer_104 (c_Store_put l g E hEe d_o d_words_a d_words_n d_length u47 v48 60 u49 hu49) [1, 2] (wd_Writer_writeVolumeSector g t_o d_o d_words_a v_o p_o u_o v_next_a v_firstClusters_a v_runStarts_a v_runLengths_a d_words_n t_sectors d_length u49 v_start v_length v_tableSectors v_clusters v_runs) 1 rfl ⟨rfl, rfl⟩ ⟨Nat.le_of_ble_eq_true rfl, Nat.le_of_ble_eq_true rfl⟩ rfl (At_.cons rfl (At_.cons rfl At_.nil)) (At_.cons rfl (At_.cons rfl At_.nil)) (Sm_.keep (Sm_.keep (Sm_.upd rfl (Sm_.keep Sm_.nil)))) rfl hl.1 (Nat.le_of_ble_eq_true rfl) ⟨Nat.zero_le _, Nat.zero_le _⟩ d_Writer_writeVolumeSector_32 (fun H locs hw => ?_) rfl
  refine n_aload_n hC hl 1 d_Writer_writeVolumeSector_35 rfl rfl ?_
  refine n_get hC hw fg_Writer_9 0 rfl rfl d_Writer_writeVolumeSector_36 ?_
  refine n_iload_n hC hl 0 d_Writer_writeVolumeSector_39 rfl rfl ?_
  refine n_iconst hC 2 d_Writer_writeVolumeSector_40 (by decide) ?_
  refine n_iadd hC hf d_Writer_writeVolumeSector_41 (fun v50 hf => ?_)
  refine n_sipush hC 144 d_Writer_writeVolumeSector_42 (by decide) ?_
  obtain ⟨u51, hu51, hf⟩ := bd_s hf
  refine n_callVv hC hw fc_Writer_104 (c_Store_put l g E hEe d_o d_words_a d_words_n d_length u49 v50 144 u51 hu51) [1, 2] (wd_Writer_writeVolumeSector g t_o d_o d_words_a v_o p_o u_o v_next_a v_firstClusters_a v_runStarts_a v_runLengths_a d_words_n t_sectors d_length u51 v_start v_length v_tableSectors v_clusters v_runs) 1 rfl ⟨rfl, rfl⟩ ⟨Nat.le_of_ble_eq_true rfl, Nat.le_of_ble_eq_true rfl⟩ rfl (At_.cons rfl (At_.cons rfl At_.nil)) (At_.cons rfl (At_.cons rfl At_.nil)) (Sm_.keep (Sm_.keep (Sm_.upd rfl (Sm_.keep Sm_.nil)))) rfl hl.1 (Nat.le_of_ble_eq_true rfl) ⟨Nat.zero_le _, Nat.zero_le _⟩ d_Writer_writeVolumeSector_45 (fun H locs hw => ?_) rfl
  refine n_aload_n hC hl 1 d_Writer_writeVolumeSector_48 rfl rfl ?_
  refine n_get hC hw fg_Writer_9 0 rfl rfl d_Writer_writeVolumeSector_49 ?_
  refine n_iload_n hC hl 0 d_Writer_writeVolumeSector_52 rfl rfl ?_
  refine n_iconst hC 3 d_Writer_writeVolumeSector_53 (by decide) ?_
  refine n_iadd hC hf d_Writer_writeVolumeSector_54 (fun v52 hf => ?_)
  refine n_ldcS hC (fun A u h => (hS A u h).2.1 4 (by decide)) d_Writer_writeVolumeSector_55 ?_
  obtain ⟨u53, hu53, hf⟩ := bd_s hf
  refine n_callVv hC hw fc_Writer_205 (c_Store_putText l g E hEe (X.2.1 4) (X.2.2 4) 8 (sByt 4) (fun A u h => (hS A u h).1 4 (by decide)) d_o d_words_a d_words_n d_length u51 v52 N u53 hu53) [1, 2] (wd_Writer_writeVolumeSector g t_o d_o d_words_a v_o p_o u_o v_next_a v_firstClusters_a v_runStarts_a v_runLengths_a d_words_n t_sectors d_length u53 v_start v_length v_tableSectors v_clusters v_runs) 1 rfl ⟨rfl, rfl⟩ ⟨Nat.le_of_ble_eq_true rfl, Nat.le_of_ble_eq_true rfl⟩ rfl (At_.cons rfl (At_.cons rfl At_.nil)) (At_.cons rfl (At_.cons rfl At_.nil)) (Sm_.keep (Sm_.keep (Sm_.upd rfl (Sm_.keep Sm_.nil)))) rfl hl.1 (Nat.le_of_ble_eq_true rfl) ⟨Nat.zero_le _, Nat.zero_le _⟩ d_Writer_writeVolumeSector_57 (fun H locs hw => ?_) rfl
  refine n_aload_n hC hl 1 d_Writer_writeVolumeSector_60 rfl rfl ?_
  refine n_get hC hw fg_Writer_9 0 rfl rfl d_Writer_writeVolumeSector_61 ?_
  refine n_iload_n hC hl 0 d_Writer_writeVolumeSector_64 rfl rfl ?_
  refine n_bipush hC 11 d_Writer_writeVolumeSector_65 (by decide) ?_
  refine n_iadd hC hf d_Writer_writeVolumeSector_67 (fun v54 hf => ?_)
  refine n_iconst hC 2 d_Writer_writeVolumeSector_68 (by decide) ?_
  refine n_ldc2 hC 512 kc_Writer_209 d_Writer_writeVolumeSector_69 ?_
  obtain ⟨u55, hu55, hf⟩ := bd_s hf
  refine n_callVv hC hw fc_Writer_120 (c_Store_putLow l g E hEe d_o d_words_a d_words_n d_length u53 v54 2 512 N u55 hu55) [1, 2] (wd_Writer_writeVolumeSector g t_o d_o d_words_a v_o p_o u_o v_next_a v_firstClusters_a v_runStarts_a v_runLengths_a d_words_n t_sectors d_length u55 v_start v_length v_tableSectors v_clusters v_runs) 1 rfl ⟨rfl, rfl⟩ ⟨Nat.le_of_ble_eq_true rfl, Nat.le_of_ble_eq_true rfl⟩ rfl (At_.cons rfl (At_.cons rfl At_.nil)) (At_.cons rfl (At_.cons rfl At_.nil)) (Sm_.keep (Sm_.keep (Sm_.upd rfl (Sm_.keep Sm_.nil)))) rfl hl.1 (Nat.le_of_ble_eq_true rfl) ⟨Nat.zero_le _, Nat.zero_le _⟩ d_Writer_writeVolumeSector_72 (fun H locs hw => ?_) rfl
  refine n_aload_n hC hl 1 d_Writer_writeVolumeSector_75 rfl rfl ?_
  refine n_get hC hw fg_Writer_9 0 rfl rfl d_Writer_writeVolumeSector_76 ?_
  refine n_iload_n hC hl 0 d_Writer_writeVolumeSector_79 rfl rfl ?_
  refine n_bipush hC 13 d_Writer_writeVolumeSector_80 (by decide) ?_
  refine n_iadd hC hf d_Writer_writeVolumeSector_82 (fun v56 hf => ?_)
  refine n_iconst hC 1 d_Writer_writeVolumeSector_83 (by decide) ?_
  obtain ⟨u57, hu57, hf⟩ := bd_s hf
  refine n_callVv hC hw fc_Writer_104 (c_Store_put l g E hEe d_o d_words_a d_words_n d_length u55 v56 1 u57 hu57) [1, 2] (wd_Writer_writeVolumeSector g t_o d_o d_words_a v_o p_o u_o v_next_a v_firstClusters_a v_runStarts_a v_runLengths_a d_words_n t_sectors d_length u57 v_start v_length v_tableSectors v_clusters v_runs) 1 rfl ⟨rfl, rfl⟩ ⟨Nat.le_of_ble_eq_true rfl, Nat.le_of_ble_eq_true rfl⟩ rfl (At_.cons rfl (At_.cons rfl At_.nil)) (At_.cons rfl (At_.cons rfl At_.nil)) (Sm_.keep (Sm_.keep (Sm_.upd rfl (Sm_.keep Sm_.nil)))) rfl hl.1 (Nat.le_of_ble_eq_true rfl) ⟨Nat.zero_le _, Nat.zero_le _⟩ d_Writer_writeVolumeSector_84 (fun H locs hw => ?_) rfl
  refine n_aload_n hC hl 1 d_Writer_writeVolumeSector_87 rfl rfl ?_
  refine n_get hC hw fg_Writer_9 0 rfl rfl d_Writer_writeVolumeSector_88 ?_
  refine n_iload_n hC hl 0 d_Writer_writeVolumeSector_91 rfl rfl ?_
  refine n_bipush hC 14 d_Writer_writeVolumeSector_92 (by decide) ?_
  refine n_iadd hC hf d_Writer_writeVolumeSector_94 (fun v58 hf => ?_)
  refine n_iconst hC 2 d_Writer_writeVolumeSector_95 (by decide) ?_
  refine n_lconst hC 1 d_Writer_writeVolumeSector_96 (by decide) ?_
  obtain ⟨u59, hu59, hf⟩ := bd_s hf
  refine n_callVv hC hw fc_Writer_120 (c_Store_putLow l g E hEe d_o d_words_a d_words_n d_length u57 v58 2 1 N u59 hu59) [1, 2] (wd_Writer_writeVolumeSector g t_o d_o d_words_a v_o p_o u_o v_next_a v_firstClusters_a v_runStarts_a v_runLengths_a d_words_n t_sectors d_length u59 v_start v_length v_tableSectors v_clusters v_runs) 1 rfl ⟨rfl, rfl⟩ ⟨Nat.le_of_ble_eq_true rfl, Nat.le_of_ble_eq_true rfl⟩ rfl (At_.cons rfl (At_.cons rfl At_.nil)) (At_.cons rfl (At_.cons rfl At_.nil)) (Sm_.keep (Sm_.keep (Sm_.upd rfl (Sm_.keep Sm_.nil)))) rfl hl.1 (Nat.le_of_ble_eq_true rfl) ⟨Nat.zero_le _, Nat.zero_le _⟩ d_Writer_writeVolumeSector_97 (fun H locs hw => ?_) rfl
  refine n_aload_n hC hl 1 d_Writer_writeVolumeSector_100 rfl rfl ?_
  refine n_get hC hw fg_Writer_9 0 rfl rfl d_Writer_writeVolumeSector_101 ?_
  refine n_iload_n hC hl 0 d_Writer_writeVolumeSector_104 rfl rfl ?_
  refine n_bipush hC 16 d_Writer_writeVolumeSector_105 (by decide) ?_
  refine n_iadd hC hf d_Writer_writeVolumeSector_107 (fun v60 hf => ?_)
  refine n_iconst hC 2 d_Writer_writeVolumeSector_108 (by decide) ?_
  obtain ⟨u61, hu61, hf⟩ := bd_s hf
  refine n_callVv hC hw fc_Writer_104 (c_Store_put l g E hEe d_o d_words_a d_words_n d_length u59 v60 2 u61 hu61) [1, 2] (wd_Writer_writeVolumeSector g t_o d_o d_words_a v_o p_o u_o v_next_a v_firstClusters_a v_runStarts_a v_runLengths_a d_words_n t_sectors d_length u61 v_start v_length v_tableSectors v_clusters v_runs) 1 rfl ⟨rfl, rfl⟩ ⟨Nat.le_of_ble_eq_true rfl, Nat.le_of_ble_eq_true rfl⟩ rfl (At_.cons rfl (At_.cons rfl At_.nil)) (At_.cons rfl (At_.cons rfl At_.nil)) (Sm_.keep (Sm_.keep (Sm_.upd rfl (Sm_.keep Sm_.nil)))) rfl hl.1 (Nat.le_of_ble_eq_true rfl) ⟨Nat.zero_le _, Nat.zero_le _⟩ d_Writer_writeVolumeSector_109 (fun H locs hw => ?_) rfl
  refine n_aload_n hC hl 1 d_Writer_writeVolumeSector_112 rfl rfl ?_
  refine n_get hC hw fg_Writer_9 0 rfl rfl d_Writer_writeVolumeSector_113 ?_
  refine n_iload_n hC hl 0 d_Writer_writeVolumeSector_116 rfl rfl ?_
  refine n_bipush hC 17 d_Writer_writeVolumeSector_117 (by decide) ?_
  refine n_iadd hC hf d_Writer_writeVolumeSector_119 (fun v62 hf => ?_)
  refine n_iconst hC 2 d_Writer_writeVolumeSector_120 (by decide) ?_
  refine n_ldc2 hC 32 kc_Writer_211 d_Writer_writeVolumeSector_121 ?_
  obtain ⟨u63, hu63, hf⟩ := bd_s hf
  refine n_callVv hC hw fc_Writer_120 (c_Store_putLow l g E hEe d_o d_words_a d_words_n d_length u61 v62 2 32 N u63 hu63) [1, 2] (wd_Writer_writeVolumeSector g t_o d_o d_words_a v_o p_o u_o v_next_a v_firstClusters_a v_runStarts_a v_runLengths_a d_words_n t_sectors d_length u63 v_start v_length v_tableSectors v_clusters v_runs) 1 rfl ⟨rfl, rfl⟩ ⟨Nat.le_of_ble_eq_true rfl, Nat.le_of_ble_eq_true rfl⟩ rfl (At_.cons rfl (At_.cons rfl At_.nil)) (At_.cons rfl (At_.cons rfl At_.nil)) (Sm_.keep (Sm_.keep (Sm_.upd rfl (Sm_.keep Sm_.nil)))) rfl hl.1 (Nat.le_of_ble_eq_true rfl) ⟨Nat.zero_le _, Nat.zero_le _⟩ d_Writer_writeVolumeSector_124 (fun H locs hw => ?_) rfl
  refine n_aload_n hC hl 1 d_Writer_writeVolumeSector_127 rfl rfl ?_
  refine n_get hC hw fg_Writer_9 0 rfl rfl d_Writer_writeVolumeSector_128 ?_
  refine n_iload_n hC hl 0 d_Writer_writeVolumeSector_131 rfl rfl ?_
  refine n_bipush hC 19 d_Writer_writeVolumeSector_132 (by decide) ?_
  refine n_iadd hC hf d_Writer_writeVolumeSector_134 (fun v64 hf => ?_)
  refine n_iconst hC 2 d_Writer_writeVolumeSector_135 (by decide) ?_
  refine n_aload_n hC hl 1 d_Writer_writeVolumeSector_136 rfl rfl ?_
  refine n_get hC hw fg_Writer_32 0 rfl rfl d_Writer_writeVolumeSector_137 ?_
  refine n_get hC hw fg_Writer_213 3 rfl rfl d_Writer_writeVolumeSector_140 ?_
  refine n_i2l hC hf d_Writer_writeVolumeSector_143 (fun v65 hf => ?_)
  obtain ⟨u66, hu66, hf⟩ := bd_s hf
  refine n_callVv hC hw fc_Writer_120 (c_Store_putLow l g E hEe d_o d_words_a d_words_n d_length u63 v64 2 v65 N u66 hu66) [1, 2] (wd_Writer_writeVolumeSector g t_o d_o d_words_a v_o p_o u_o v_next_a v_firstClusters_a v_runStarts_a v_runLengths_a d_words_n t_sectors d_length u66 v_start v_length v_tableSectors v_clusters v_runs) 1 rfl ⟨rfl, rfl⟩ ⟨Nat.le_of_ble_eq_true rfl, Nat.le_of_ble_eq_true rfl⟩ rfl (At_.cons rfl (At_.cons rfl At_.nil)) (At_.cons rfl (At_.cons rfl At_.nil)) (Sm_.keep (Sm_.keep (Sm_.upd rfl (Sm_.keep Sm_.nil)))) rfl hl.1 (Nat.le_of_ble_eq_true rfl) ⟨Nat.zero_le _, Nat.zero_le _⟩ d_Writer_writeVolumeSector_144 (fun H locs hw => ?_) rfl
  refine n_aload_n hC hl 1 d_Writer_writeVolumeSector_147 rfl rfl ?_
  refine n_get hC hw fg_Writer_9 0 rfl rfl d_Writer_writeVolumeSector_148 ?_
  refine n_iload_n hC hl 0 d_Writer_writeVolumeSector_151 rfl rfl ?_
  refine n_bipush hC 21 d_Writer_writeVolumeSector_152 (by decide) ?_
  refine n_iadd hC hf d_Writer_writeVolumeSector_154 (fun v67 hf => ?_)
  refine n_sipush hC 248 d_Writer_writeVolumeSector_155 (by decide) ?_
  obtain ⟨u68, hu68, hf⟩ := bd_s hf
  refine n_callVv hC hw fc_Writer_104 (c_Store_put l g E hEe d_o d_words_a d_words_n d_length u66 v67 248 u68 hu68) [1, 2] (wd_Writer_writeVolumeSector g t_o d_o d_words_a v_o p_o u_o v_next_a v_firstClusters_a v_runStarts_a v_runLengths_a d_words_n t_sectors d_length u68 v_start v_length v_tableSectors v_clusters v_runs) 1 rfl ⟨rfl, rfl⟩ ⟨Nat.le_of_ble_eq_true rfl, Nat.le_of_ble_eq_true rfl⟩ rfl (At_.cons rfl (At_.cons rfl At_.nil)) (At_.cons rfl (At_.cons rfl At_.nil)) (Sm_.keep (Sm_.keep (Sm_.upd rfl (Sm_.keep Sm_.nil)))) rfl hl.1 (Nat.le_of_ble_eq_true rfl) ⟨Nat.zero_le _, Nat.zero_le _⟩ d_Writer_writeVolumeSector_158 (fun H locs hw => ?_) rfl
  refine n_aload_n hC hl 1 d_Writer_writeVolumeSector_161 rfl rfl ?_
  refine n_get hC hw fg_Writer_9 0 rfl rfl d_Writer_writeVolumeSector_162 ?_
  refine n_iload_n hC hl 0 d_Writer_writeVolumeSector_165 rfl rfl ?_
  refine n_bipush hC 22 d_Writer_writeVolumeSector_166 (by decide) ?_
  refine n_iadd hC hf d_Writer_writeVolumeSector_168 (fun v69 hf => ?_)
  refine n_iconst hC 2 d_Writer_writeVolumeSector_169 (by decide) ?_
  refine n_aload_n hC hl 1 d_Writer_writeVolumeSector_170 rfl rfl ?_
  refine n_get hC hw fg_Writer_32 0 rfl rfl d_Writer_writeVolumeSector_171 ?_
  refine n_get hC hw fg_Writer_215 3 rfl rfl d_Writer_writeVolumeSector_174 ?_
  refine n_i2l hC hf d_Writer_writeVolumeSector_177 (fun v70 hf => ?_)
  obtain ⟨u71, hu71, hf⟩ := bd_s hf
  refine n_callVv hC hw fc_Writer_120 (c_Store_putLow l g E hEe d_o d_words_a d_words_n d_length u68 v69 2 v70 N u71 hu71) [1, 2] (wd_Writer_writeVolumeSector g t_o d_o d_words_a v_o p_o u_o v_next_a v_firstClusters_a v_runStarts_a v_runLengths_a d_words_n t_sectors d_length u71 v_start v_length v_tableSectors v_clusters v_runs) 1 rfl ⟨rfl, rfl⟩ ⟨Nat.le_of_ble_eq_true rfl, Nat.le_of_ble_eq_true rfl⟩ rfl (At_.cons rfl (At_.cons rfl At_.nil)) (At_.cons rfl (At_.cons rfl At_.nil)) (Sm_.keep (Sm_.keep (Sm_.upd rfl (Sm_.keep Sm_.nil)))) rfl hl.1 (Nat.le_of_ble_eq_true rfl) ⟨Nat.zero_le _, Nat.zero_le _⟩ d_Writer_writeVolumeSector_178 (fun H locs hw => ?_) rfl
  refine n_aload_n hC hl 1 d_Writer_writeVolumeSector_181 rfl rfl ?_
  refine n_get hC hw fg_Writer_9 0 rfl rfl d_Writer_writeVolumeSector_182 ?_
  refine n_iload_n hC hl 0 d_Writer_writeVolumeSector_185 rfl rfl ?_
  refine n_bipush hC 24 d_Writer_writeVolumeSector_186 (by decide) ?_
  refine n_iadd hC hf d_Writer_writeVolumeSector_188 (fun v72 hf => ?_)
  refine n_iconst hC 2 d_Writer_writeVolumeSector_189 (by decide) ?_
  refine n_ldc2 hC 32 kc_Writer_211 d_Writer_writeVolumeSector_190 ?_
  obtain ⟨u73, hu73, hf⟩ := bd_s hf
  refine n_callVv hC hw fc_Writer_120 (c_Store_putLow l g E hEe d_o d_words_a d_words_n d_length u71 v72 2 32 N u73 hu73) [1, 2] (wd_Writer_writeVolumeSector g t_o d_o d_words_a v_o p_o u_o v_next_a v_firstClusters_a v_runStarts_a v_runLengths_a d_words_n t_sectors d_length u73 v_start v_length v_tableSectors v_clusters v_runs) 1 rfl ⟨rfl, rfl⟩ ⟨Nat.le_of_ble_eq_true rfl, Nat.le_of_ble_eq_true rfl⟩ rfl (At_.cons rfl (At_.cons rfl At_.nil)) (At_.cons rfl (At_.cons rfl At_.nil)) (Sm_.keep (Sm_.keep (Sm_.upd rfl (Sm_.keep Sm_.nil)))) rfl hl.1 (Nat.le_of_ble_eq_true rfl) ⟨Nat.zero_le _, Nat.zero_le _⟩ d_Writer_writeVolumeSector_193 (fun H locs hw => ?_) rfl
  refine n_aload_n hC hl 1 d_Writer_writeVolumeSector_196 rfl rfl ?_
  refine n_get hC hw fg_Writer_9 0 rfl rfl d_Writer_writeVolumeSector_197 ?_
  refine n_iload_n hC hl 0 d_Writer_writeVolumeSector_200 rfl rfl ?_
  refine n_bipush hC 26 d_Writer_writeVolumeSector_201 (by decide) ?_
  refine n_iadd hC hf d_Writer_writeVolumeSector_203 (fun v74 hf => ?_)
  refine n_iconst hC 2 d_Writer_writeVolumeSector_204 (by decide) ?_
  refine n_ldc2 hC 2 kc_Writer_218 d_Writer_writeVolumeSector_205 ?_
  obtain ⟨u75, hu75, hf⟩ := bd_s hf
  refine n_callVv hC hw fc_Writer_120 (c_Store_putLow l g E hEe d_o d_words_a d_words_n d_length u73 v74 2 2 N u75 hu75) [1, 2] (wd_Writer_writeVolumeSector g t_o d_o d_words_a v_o p_o u_o v_next_a v_firstClusters_a v_runStarts_a v_runLengths_a d_words_n t_sectors d_length u75 v_start v_length v_tableSectors v_clusters v_runs) 1 rfl ⟨rfl, rfl⟩ ⟨Nat.le_of_ble_eq_true rfl, Nat.le_of_ble_eq_true rfl⟩ rfl (At_.cons rfl (At_.cons rfl At_.nil)) (At_.cons rfl (At_.cons rfl At_.nil)) (Sm_.keep (Sm_.keep (Sm_.upd rfl (Sm_.keep Sm_.nil)))) rfl hl.1 (Nat.le_of_ble_eq_true rfl) ⟨Nat.zero_le _, Nat.zero_le _⟩ d_Writer_writeVolumeSector_208 (fun H locs hw => ?_) rfl
  refine n_aload_n hC hl 1 d_Writer_writeVolumeSector_211 rfl rfl ?_
  refine n_get hC hw fg_Writer_9 0 rfl rfl d_Writer_writeVolumeSector_212 ?_
  refine n_iload_n hC hl 0 d_Writer_writeVolumeSector_215 rfl rfl ?_
  refine n_bipush hC 28 d_Writer_writeVolumeSector_216 (by decide) ?_
  refine n_iadd hC hf d_Writer_writeVolumeSector_218 (fun v76 hf => ?_)
  refine n_iconst hC 4 d_Writer_writeVolumeSector_219 (by decide) ?_
  refine n_aload_n hC hl 1 d_Writer_writeVolumeSector_220 rfl rfl ?_
  refine n_get hC hw fg_Writer_32 0 rfl rfl d_Writer_writeVolumeSector_221 ?_
  refine n_get hC hw fg_Writer_142 3 rfl rfl d_Writer_writeVolumeSector_224 ?_
  refine n_i2l hC hf d_Writer_writeVolumeSector_227 (fun v77 hf => ?_)
  obtain ⟨u78, hu78, hf⟩ := bd_s hf
  refine n_callVv hC hw fc_Writer_120 (c_Store_putLow l g E hEe d_o d_words_a d_words_n d_length u75 v76 4 v77 N u78 hu78) [1, 2] (wd_Writer_writeVolumeSector g t_o d_o d_words_a v_o p_o u_o v_next_a v_firstClusters_a v_runStarts_a v_runLengths_a d_words_n t_sectors d_length u78 v_start v_length v_tableSectors v_clusters v_runs) 1 rfl ⟨rfl, rfl⟩ ⟨Nat.le_of_ble_eq_true rfl, Nat.le_of_ble_eq_true rfl⟩ rfl (At_.cons rfl (At_.cons rfl At_.nil)) (At_.cons rfl (At_.cons rfl At_.nil)) (Sm_.keep (Sm_.keep (Sm_.upd rfl (Sm_.keep Sm_.nil)))) rfl hl.1 (Nat.le_of_ble_eq_true rfl) ⟨Nat.zero_le _, Nat.zero_le _⟩ d_Writer_writeVolumeSector_228 (fun H locs hw => ?_) rfl
  refine n_aload_n hC hl 1 d_Writer_writeVolumeSector_231 rfl rfl ?_
  refine n_get hC hw fg_Writer_9 0 rfl rfl d_Writer_writeVolumeSector_232 ?_
  refine n_iload_n hC hl 0 d_Writer_writeVolumeSector_235 rfl rfl ?_
  refine n_bipush hC 36 d_Writer_writeVolumeSector_236 (by decide) ?_
  refine n_iadd hC hf d_Writer_writeVolumeSector_238 (fun v79 hf => ?_)
  refine n_sipush hC 128 d_Writer_writeVolumeSector_239 (by decide) ?_
  obtain ⟨u80, hu80, hf⟩ := bd_s hf
  refine n_callVv hC hw fc_Writer_104 (c_Store_put l g E hEe d_o d_words_a d_words_n d_length u78 v79 128 u80 hu80) [1, 2] (wd_Writer_writeVolumeSector g t_o d_o d_words_a v_o p_o u_o v_next_a v_firstClusters_a v_runStarts_a v_runLengths_a d_words_n t_sectors d_length u80 v_start v_length v_tableSectors v_clusters v_runs) 1 rfl ⟨rfl, rfl⟩ ⟨Nat.le_of_ble_eq_true rfl, Nat.le_of_ble_eq_true rfl⟩ rfl (At_.cons rfl (At_.cons rfl At_.nil)) (At_.cons rfl (At_.cons rfl At_.nil)) (Sm_.keep (Sm_.keep (Sm_.upd rfl (Sm_.keep Sm_.nil)))) rfl hl.1 (Nat.le_of_ble_eq_true rfl) ⟨Nat.zero_le _, Nat.zero_le _⟩ d_Writer_writeVolumeSector_242 (fun H locs hw => ?_) rfl
  refine n_aload_n hC hl 1 d_Writer_writeVolumeSector_245 rfl rfl ?_
  refine n_get hC hw fg_Writer_9 0 rfl rfl d_Writer_writeVolumeSector_246 ?_
  refine n_iload_n hC hl 0 d_Writer_writeVolumeSector_249 rfl rfl ?_
  refine n_bipush hC 38 d_Writer_writeVolumeSector_250 (by decide) ?_
  refine n_iadd hC hf d_Writer_writeVolumeSector_252 (fun v81 hf => ?_)
  refine n_bipush hC 41 d_Writer_writeVolumeSector_253 (by decide) ?_
  obtain ⟨u82, hu82, hf⟩ := bd_s hf
  refine n_callVv hC hw fc_Writer_104 (c_Store_put l g E hEe d_o d_words_a d_words_n d_length u80 v81 41 u82 hu82) [1, 2] (wd_Writer_writeVolumeSector g t_o d_o d_words_a v_o p_o u_o v_next_a v_firstClusters_a v_runStarts_a v_runLengths_a d_words_n t_sectors d_length u82 v_start v_length v_tableSectors v_clusters v_runs) 1 rfl ⟨rfl, rfl⟩ ⟨Nat.le_of_ble_eq_true rfl, Nat.le_of_ble_eq_true rfl⟩ rfl (At_.cons rfl (At_.cons rfl At_.nil)) (At_.cons rfl (At_.cons rfl At_.nil)) (Sm_.keep (Sm_.keep (Sm_.upd rfl (Sm_.keep Sm_.nil)))) rfl hl.1 (Nat.le_of_ble_eq_true rfl) ⟨Nat.zero_le _, Nat.zero_le _⟩ d_Writer_writeVolumeSector_255 (fun H locs hw => ?_) rfl
  refine n_aload_n hC hl 1 d_Writer_writeVolumeSector_258 rfl rfl ?_
  refine n_get hC hw fg_Writer_9 0 rfl rfl d_Writer_writeVolumeSector_259 ?_
  refine n_iload_n hC hl 0 d_Writer_writeVolumeSector_262 rfl rfl ?_
  refine n_bipush hC 39 d_Writer_writeVolumeSector_263 (by decide) ?_
  refine n_iadd hC hf d_Writer_writeVolumeSector_265 (fun v83 hf => ?_)
  refine n_iconst hC 4 d_Writer_writeVolumeSector_266 (by decide) ?_
  refine n_aload_n hC hl 1 d_Writer_writeVolumeSector_267 rfl rfl ?_
  refine n_get hC hw fg_Writer_32 0 rfl rfl d_Writer_writeVolumeSector_268 ?_
  refine n_get hC hw fg_Writer_142 3 rfl rfl d_Writer_writeVolumeSector_271 ?_
  refine n_i2l hC hf d_Writer_writeVolumeSector_274 (fun v84 hf => ?_)
  obtain ⟨u85, hu85, hf⟩ := bd_s hf
  refine n_callVv hC hw fc_Writer_120 (c_Store_putLow l g E hEe d_o d_words_a d_words_n d_length u82 v83 4 v84 N u85 hu85) [1, 2] (wd_Writer_writeVolumeSector g t_o d_o d_words_a v_o p_o u_o v_next_a v_firstClusters_a v_runStarts_a v_runLengths_a d_words_n t_sectors d_length u85 v_start v_length v_tableSectors v_clusters v_runs) 1 rfl ⟨rfl, rfl⟩ ⟨Nat.le_of_ble_eq_true rfl, Nat.le_of_ble_eq_true rfl⟩ rfl (At_.cons rfl (At_.cons rfl At_.nil)) (At_.cons rfl (At_.cons rfl At_.nil)) (Sm_.keep (Sm_.keep (Sm_.upd rfl (Sm_.keep Sm_.nil)))) rfl hl.1 (Nat.le_of_ble_eq_true rfl) ⟨Nat.zero_le _, Nat.zero_le _⟩ d_Writer_writeVolumeSector_275 (fun H locs hw => ?_) rfl
  refine n_aload_n hC hl 1 d_Writer_writeVolumeSector_278 rfl rfl ?_
  refine n_get hC hw fg_Writer_9 0 rfl rfl d_Writer_writeVolumeSector_279 ?_
  refine n_iload_n hC hl 0 d_Writer_writeVolumeSector_282 rfl rfl ?_
  refine n_bipush hC 43 d_Writer_writeVolumeSector_283 (by decide) ?_
  refine n_iadd hC hf d_Writer_writeVolumeSector_285 (fun v86 hf => ?_)
  refine n_ldcS hC (fun A u h => (hS A u h).2.1 5 (by decide)) d_Writer_writeVolumeSector_286 ?_
  obtain ⟨u87, hu87, hf⟩ := bd_s hf
  refine n_callVv hC hw fc_Writer_205 (c_Store_putText l g E hEe (X.2.1 5) (X.2.2 5) 11 (sByt 5) (fun A u h => (hS A u h).1 5 (by decide)) d_o d_words_a d_words_n d_length u85 v86 N u87 hu87) [1, 2] (wd_Writer_writeVolumeSector g t_o d_o d_words_a v_o p_o u_o v_next_a v_firstClusters_a v_runStarts_a v_runLengths_a d_words_n t_sectors d_length u87 v_start v_length v_tableSectors v_clusters v_runs) 1 rfl ⟨rfl, rfl⟩ ⟨Nat.le_of_ble_eq_true rfl, Nat.le_of_ble_eq_true rfl⟩ rfl (At_.cons rfl (At_.cons rfl At_.nil)) (At_.cons rfl (At_.cons rfl At_.nil)) (Sm_.keep (Sm_.keep (Sm_.upd rfl (Sm_.keep Sm_.nil)))) rfl hl.1 (Nat.le_of_ble_eq_true rfl) ⟨Nat.zero_le _, Nat.zero_le _⟩ d_Writer_writeVolumeSector_288 (fun H locs hw => ?_) rfl
  refine n_aload_n hC hl 1 d_Writer_writeVolumeSector_291 rfl rfl ?_
  refine n_get hC hw fg_Writer_9 0 rfl rfl d_Writer_writeVolumeSector_292 ?_
  refine n_iload_n hC hl 0 d_Writer_writeVolumeSector_295 rfl rfl ?_
  refine n_bipush hC 54 d_Writer_writeVolumeSector_296 (by decide) ?_
  refine n_iadd hC hf d_Writer_writeVolumeSector_298 (fun v88 hf => ?_)
  refine n_ldcS hC (fun A u h => (hS A u h).2.1 6 (by decide)) d_Writer_writeVolumeSector_299 ?_
  obtain ⟨u89, hu89, hf⟩ := bd_s hf
  refine n_callVv hC hw fc_Writer_205 (c_Store_putText l g E hEe (X.2.1 6) (X.2.2 6) 8 (sByt 6) (fun A u h => (hS A u h).1 6 (by decide)) d_o d_words_a d_words_n d_length u87 v88 N u89 hu89) [1, 2] (wd_Writer_writeVolumeSector g t_o d_o d_words_a v_o p_o u_o v_next_a v_firstClusters_a v_runStarts_a v_runLengths_a d_words_n t_sectors d_length u89 v_start v_length v_tableSectors v_clusters v_runs) 1 rfl ⟨rfl, rfl⟩ ⟨Nat.le_of_ble_eq_true rfl, Nat.le_of_ble_eq_true rfl⟩ rfl (At_.cons rfl (At_.cons rfl At_.nil)) (At_.cons rfl (At_.cons rfl At_.nil)) (Sm_.keep (Sm_.keep (Sm_.upd rfl (Sm_.keep Sm_.nil)))) rfl hl.1 (Nat.le_of_ble_eq_true rfl) ⟨Nat.zero_le _, Nat.zero_le _⟩ d_Writer_writeVolumeSector_301 (fun H locs hw => ?_) rfl
  refine n_aload_n hC hl 1 d_Writer_writeVolumeSector_304 rfl rfl ?_
  refine n_get hC hw fg_Writer_9 0 rfl rfl d_Writer_writeVolumeSector_305 ?_
  refine n_aload_n hC hl 1 d_Writer_writeVolumeSector_308 rfl rfl ?_
  refine n_get hC hw fg_Writer_32 0 rfl rfl d_Writer_writeVolumeSector_309 ?_
  refine n_get hC hw fg_Writer_142 3 rfl rfl d_Writer_writeVolumeSector_312 ?_
  obtain ⟨u90, hu90, hf⟩ := bd_s hf
  refine n_callVv hC hw fc_Writer_124 (c_Store_markBootSector l g E hEe d_o d_words_a d_words_n d_length u89 v_start N u90 hu90) [1, 2] (wd_Writer_writeVolumeSector g t_o d_o d_words_a v_o p_o u_o v_next_a v_firstClusters_a v_runStarts_a v_runLengths_a d_words_n t_sectors d_length u90 v_start v_length v_tableSectors v_clusters v_runs) 1 rfl ⟨rfl, rfl⟩ ⟨Nat.le_of_ble_eq_true rfl, Nat.le_of_ble_eq_true rfl⟩ rfl (At_.cons rfl (At_.cons rfl At_.nil)) (At_.cons rfl (At_.cons rfl At_.nil)) (Sm_.keep (Sm_.keep (Sm_.upd rfl (Sm_.keep Sm_.nil)))) rfl hl.1 (Nat.le_of_ble_eq_true rfl) ⟨Nat.zero_le _, Nat.zero_le _⟩ d_Writer_writeVolumeSector_315 (fun H locs hw => ?_) rfl
  cases hf
  exact hret _ _ _ _ hw d_Writer_writeVolumeSector_318
def wd_Writer_writeClusterEntry (g : GT) (t_o : Nat) (d_o : Nat) (d_words_a : Nat) (v_o : Nat) (v_next_a : Nat) (p_o : Nat) (u_o : Nat) (v_firstClusters_a : Nat) (v_runStarts_a : Nat) (v_runLengths_a : Nat) (d_words_n : Nat) (v_next_n : Nat) (t_sectors : Int32) (d_length : Int32) (d_words : Nat → Int64) (v_start : Int32) (v_length : Int32) (v_tableSectors : Int32) (v_clusters : Int32) (v_runs : Int32) (v_next : Nat → Int32) : va_W := [(t_o, .inr (4, [.ref d_o, .int t_sectors, .ref p_o, .ref u_o, .ref v_o])), (d_o, .inr (0, [.int d_length, .ref d_words_a])), (d_words_a, .inl (g.2.2.1, d_words_n, .inr (.inl d_words))), (v_o, .inr (3, [.int v_start, .int v_length, .int v_tableSectors, .int v_clusters, .ref v_next_a, .ref v_firstClusters_a, .ref v_runStarts_a, .ref v_runLengths_a, .int v_runs])), (v_next_a, .inl (g.2.1, v_next_n, .inl v_next))]
def f_Writer_writeClusterEntry (N : Nat) (a2 : Int32) (a1 : Int32) (v_next_n : Nat) (v_next : Nat → Int32) (d_length : Int32) (d_words_n : Nat) (d_words : Nat → Int64) : Option ((Nat → Int64)) :=
  lt_ (a2 * 3) (fun v13 => lt_ (v13 / 2) (fun v14 => lt_ (a1 + v14) (fun v15 => bd_ (f_Volume_follower a2 v_next_n v_next) (fun u16 => lt_ (a2 - a2 / 2 * 2) (fun v17 => if ¬ v17 = 0 then bd_ (f_Store_get v15 d_length d_words_n d_words) (fun u18 => lt_ (u16 <<< ((4 : Int32) &&& 31)) (fun v19 => lt_ (u18 ||| v19) (fun v20 => lt_ (v20.toInt64) (fun v21 => bd_ (f_Store_putLow N 2 v15 v21 d_length d_words_n d_words) (fun u22 => some (u22)))))) else lt_ (u16.toInt64) (fun v23 => bd_ (f_Store_putLow N 2 v15 v23 d_length d_words_n d_words) (fun u24 => some (u24))))))))
def rm_Writer_writeClusterEntry : Room := { frames := 2, cells := 0, slots := 0, locals := 48 }
set_option maxHeartbeats 4000000 in
set_option maxRecDepth 100000 in
theorem c_Writer_writeClusterEntry (l : Launch) (g : GT) (E : (Nat → Prop) → State → Prop) (hEe : Ee E) (t_o : Nat) (d_o : Nat) (d_words_a : Nat) (v_o : Nat) (v_next_a : Nat) (p_o : Nat) (u_o : Nat) (v_firstClusters_a : Nat) (v_runStarts_a : Nat) (v_runLengths_a : Nat) (d_words_n : Nat) (v_next_n : Nat) (t_sectors : Int32) (d_length : Int32) (d_words : Nat → Int64) (v_start : Int32) (v_length : Int32) (v_tableSectors : Int32) (v_clusters : Int32) (v_runs : Int32) (v_next : Nat → Int32) (a1 : Int32) (a2 : Int32) (N : Nat) (z : (Nat → Int64)) (hf : f_Writer_writeClusterEntry N a2 a1 v_next_n v_next d_length d_words_n d_words = some z) : Cg l g E y_Writer_writeClusterEntry ws_Writer_writeClusterEntry rm_Writer_writeClusterEntry [.ref t_o, .int a1, .int a2] (wd_Writer_writeClusterEntry g t_o d_o d_words_a v_o v_next_a p_o u_o v_firstClusters_a v_runStarts_a v_runLengths_a d_words_n v_next_n t_sectors d_length d_words v_start v_length v_tableSectors v_clusters v_runs v_next) none (wd_Writer_writeClusterEntry g t_o d_o d_words_a v_o v_next_a p_o u_o v_firstClusters_a v_runStarts_a v_runLengths_a d_words_n v_next_n t_sectors d_length z v_start v_length v_tableSectors v_clusters v_runs v_next) := by
  refine Ct.ofV hEe good_W (by decide) rfl (Nat.le_of_ble_eq_true rfl) ?_
  intro p e s m args below meth c A ls Q hC hw hl hret
  have hC : CX p m c b_Writer_writeClusterEntry 5 s args Wall R_Writer g.1 classes (tK g) E A := hC
  have hl : lv_has ls 5 [(0, .ref t_o), (1, .int a1), (2, .int a2)] := hl
  unfold f_Writer_writeClusterEntry at hf
  refine n_iload_n hC hl 1 d_Writer_writeClusterEntry_0 rfl rfl ?_
  refine n_iload_n hC hl 2 d_Writer_writeClusterEntry_1 rfl rfl ?_
  refine n_iconst hC 3 d_Writer_writeClusterEntry_2 (by decide) ?_
  refine n_imul hC hf d_Writer_writeClusterEntry_3 (fun v13 hf => ?_)
  refine n_iconst hC 2 d_Writer_writeClusterEntry_4 (by decide) ?_
  refine n_idiv hC hf d_Writer_writeClusterEntry_5 (by decide) (fun v14 hf => ?_)
  refine n_iadd hC hf d_Writer_writeClusterEntry_6 (fun v15 hf => ?_)
  refine n_istore_n hC [(3, .int v15), (0, .ref t_o), (1, .int a1), (2, .int a2)] hl d_Writer_writeClusterEntry_7 rfl (by decide) rfl (fun ls hl => ?_)
  refine n_aload_n hC hl 1 d_Writer_writeClusterEntry_8 rfl rfl ?_
  refine n_get hC hw fg_Writer_32 0 rfl rfl d_Writer_writeClusterEntry_9 ?_
  refine n_iload_n hC hl 3 d_Writer_writeClusterEntry_12 rfl rfl ?_
  obtain ⟨u16, hu16, hf⟩ := bd_s hf
  refine n_callVi hC hw fc_Writer_230 (c_Volume_follower l g E hEe v_o v_next_a v_firstClusters_a v_runStarts_a v_runLengths_a v_next_n v_start v_length v_tableSectors v_clusters v_runs v_next a2 u16 hu16) [3, 4] (wd_Writer_writeClusterEntry g t_o d_o d_words_a v_o v_next_a p_o u_o v_firstClusters_a v_runStarts_a v_runLengths_a d_words_n v_next_n t_sectors d_length d_words v_start v_length v_tableSectors v_clusters v_runs v_next) 3 rfl ⟨rfl, rfl⟩ ⟨Nat.le_of_ble_eq_true rfl, Nat.le_of_ble_eq_true rfl⟩ rfl (At_.cons rfl (At_.cons rfl At_.nil)) (At_.cons rfl (At_.cons rfl At_.nil)) Sm_.refl rfl hl.1 (Nat.le_of_ble_eq_true rfl) ⟨Nat.zero_le _, Nat.zero_le _⟩ d_Writer_writeClusterEntry_13 (fun H locs hw => ?_) rfl
  refine n_istore hC [(4, .int u16), (3, .int v15), (0, .ref t_o), (1, .int a1), (2, .int a2)] hl d_Writer_writeClusterEntry_16 (by decide) rfl (fun ls hl => ?_)
  refine n_iload_n hC hl 4 d_Writer_writeClusterEntry_18 rfl rfl ?_
  refine n_iconst hC 2 d_Writer_writeClusterEntry_19 (by decide) ?_
  refine n_irem hC hf d_Writer_writeClusterEntry_20 (by decide) (fun v17 hf => ?_)
  refine n_if_ne hC hf 39 d_Writer_writeClusterEntry_21 (by decide) (fun hf => ?_) (fun hf => ?_)
  · refine n_aload_n hC hl 2 d_Writer_writeClusterEntry_39 rfl rfl ?_
    refine n_get hC hw fg_Writer_9 0 rfl rfl d_Writer_writeClusterEntry_40 ?_
    refine n_iload_n hC hl 1 d_Writer_writeClusterEntry_43 rfl rfl ?_
    refine n_iconst hC 2 d_Writer_writeClusterEntry_44 (by decide) ?_
    refine n_aload_n hC hl 2 d_Writer_writeClusterEntry_45 rfl rfl ?_
    refine n_get hC hw fg_Writer_9 0 rfl rfl d_Writer_writeClusterEntry_46 ?_
    refine n_iload_n hC hl 1 d_Writer_writeClusterEntry_49 rfl rfl ?_
    obtain ⟨u18, hu18, hf⟩ := bd_s hf
    refine n_callVi hC hw fc_Writer_233 (c_Store_get l g E hEe d_o d_words_a d_words_n d_length d_words v15 u18 hu18) [1, 2] (wd_Writer_writeClusterEntry g t_o d_o d_words_a v_o v_next_a p_o u_o v_firstClusters_a v_runStarts_a v_runLengths_a d_words_n v_next_n t_sectors d_length d_words v_start v_length v_tableSectors v_clusters v_runs v_next) 1 rfl ⟨rfl, rfl⟩ ⟨Nat.le_of_ble_eq_true rfl, Nat.le_of_ble_eq_true rfl⟩ rfl (At_.cons rfl (At_.cons rfl At_.nil)) (At_.cons rfl (At_.cons rfl At_.nil)) Sm_.refl rfl hl.1 (Nat.le_of_ble_eq_true rfl) ⟨Nat.zero_le _, Nat.zero_le _⟩ d_Writer_writeClusterEntry_50 (fun H locs hw => ?_) rfl
    refine n_iload hC hl 0 d_Writer_writeClusterEntry_53 rfl ?_
    refine n_iconst hC 4 d_Writer_writeClusterEntry_55 (by decide) ?_
    refine n_ishl hC hf d_Writer_writeClusterEntry_56 (fun v19 hf => ?_)
    refine n_ior hC hf d_Writer_writeClusterEntry_57 (fun v20 hf => ?_)
    refine n_i2l hC hf d_Writer_writeClusterEntry_58 (fun v21 hf => ?_)
    obtain ⟨u22, hu22, hf⟩ := bd_s hf
    refine n_callVv hC hw fc_Writer_120 (c_Store_putLow l g E hEe d_o d_words_a d_words_n d_length d_words v15 2 v21 N u22 hu22) [1, 2] (wd_Writer_writeClusterEntry g t_o d_o d_words_a v_o v_next_a p_o u_o v_firstClusters_a v_runStarts_a v_runLengths_a d_words_n v_next_n t_sectors d_length u22 v_start v_length v_tableSectors v_clusters v_runs v_next) 1 rfl ⟨rfl, rfl⟩ ⟨Nat.le_of_ble_eq_true rfl, Nat.le_of_ble_eq_true rfl⟩ rfl (At_.cons rfl (At_.cons rfl At_.nil)) (At_.cons rfl (At_.cons rfl At_.nil)) (Sm_.keep (Sm_.keep (Sm_.upd rfl (Sm_.keep (Sm_.keep Sm_.nil))))) rfl hl.1 (Nat.le_of_ble_eq_true rfl) ⟨Nat.zero_le _, Nat.zero_le _⟩ d_Writer_writeClusterEntry_59 (fun H locs hw => ?_) rfl
    cases hf
    exact hret _ _ _ _ hw d_Writer_writeClusterEntry_62
  · refine n_aload_n hC hl 2 d_Writer_writeClusterEntry_24 rfl rfl ?_
    refine n_get hC hw fg_Writer_9 0 rfl rfl d_Writer_writeClusterEntry_25 ?_
    refine n_iload_n hC hl 1 d_Writer_writeClusterEntry_28 rfl rfl ?_
    refine n_iconst hC 2 d_Writer_writeClusterEntry_29 (by decide) ?_
    refine n_iload hC hl 0 d_Writer_writeClusterEntry_30 rfl ?_
    refine n_i2l hC hf d_Writer_writeClusterEntry_32 (fun v23 hf => ?_)
    obtain ⟨u24, hu24, hf⟩ := bd_s hf
    refine n_callVv hC hw fc_Writer_120 (c_Store_putLow l g E hEe d_o d_words_a d_words_n d_length d_words v15 2 v23 N u24 hu24) [1, 2] (wd_Writer_writeClusterEntry g t_o d_o d_words_a v_o v_next_a p_o u_o v_firstClusters_a v_runStarts_a v_runLengths_a d_words_n v_next_n t_sectors d_length u24 v_start v_length v_tableSectors v_clusters v_runs v_next) 1 rfl ⟨rfl, rfl⟩ ⟨Nat.le_of_ble_eq_true rfl, Nat.le_of_ble_eq_true rfl⟩ rfl (At_.cons rfl (At_.cons rfl At_.nil)) (At_.cons rfl (At_.cons rfl At_.nil)) (Sm_.keep (Sm_.keep (Sm_.upd rfl (Sm_.keep (Sm_.keep Sm_.nil))))) rfl hl.1 (Nat.le_of_ble_eq_true rfl) ⟨Nat.zero_le _, Nat.zero_le _⟩ d_Writer_writeClusterEntry_33 (fun H locs hw => ?_) rfl
    refine n_goto hC 62 d_Writer_writeClusterEntry_36 (by decide) ?_
    cases hf
    exact hret _ _ _ _ hw d_Writer_writeClusterEntry_62
def wd_Writer_writeClusterTables (g : GT) (t_o : Nat) (d_o : Nat) (d_words_a : Nat) (v_o : Nat) (v_next_a : Nat) (p_o : Nat) (u_o : Nat) (v_firstClusters_a : Nat) (v_runStarts_a : Nat) (v_runLengths_a : Nat) (d_words_n : Nat) (v_next_n : Nat) (t_sectors : Int32) (d_length : Int32) (d_words : Nat → Int64) (v_start : Int32) (v_length : Int32) (v_tableSectors : Int32) (v_clusters : Int32) (v_runs : Int32) (v_next : Nat → Int32) : va_W := [(t_o, .inr (4, [.ref d_o, .int t_sectors, .ref p_o, .ref u_o, .ref v_o])), (d_o, .inr (0, [.int d_length, .ref d_words_a])), (d_words_a, .inl (g.2.2.1, d_words_n, .inr (.inl d_words))), (v_o, .inr (3, [.int v_start, .int v_length, .int v_tableSectors, .int v_clusters, .ref v_next_a, .ref v_firstClusters_a, .ref v_runStarts_a, .ref v_runLengths_a, .int v_runs])), (v_next_a, .inl (g.2.1, v_next_n, .inl v_next))]
def f_Writer_writeClusterTables_L30 (N : Nat) (v_clusters : Int32) (v20 : Int32) (v_next_n : Nat) (v_next : Nat → Int32) (d_length : Int32) (d_words_n : Nat) (v22 : Int32) (k30 : Int32 → (Nat → Int64) → Option ((Nat → Int64))) (x27 : Int32) (x28 : Nat → Int64) : Option ((Nat → Int64)) :=
  lt_ (v_clusters + 2) (fun v33 => if v33 ≤ x27 then some (x28) else bd_ (f_Writer_writeClusterEntry N x27 v20 v_next_n v_next d_length d_words_n x28) (fun u34 => bd_ (f_Writer_writeClusterEntry N x27 v22 v_next_n v_next d_length d_words_n u34) (fun u35 => lt_ (x27 + 1) (fun v36 => k30 v36 u35))))
def f_Writer_writeClusterTables (N : Nat) (v_start : Int32) (v_tableSectors : Int32) (v_clusters : Int32) (v_next_n : Nat) (v_next : Nat → Int32) (d_length : Int32) (d_words_n : Nat) (d_words : Nat → Int64) : Option ((Nat → Int64)) :=
  lt_ (v_start + 1) (fun v19 => lt_ (v19 * 512) (fun v20 => lt_ (v_tableSectors * 512) (fun v21 => lt_ (v20 + v21) (fun v22 => lp_ (fun _ _ => none) (f_Writer_writeClusterTables_L30 N v_clusters v20 v_next_n v_next d_length d_words_n v22) N 0 d_words))))
def rm_Writer_writeClusterTables : Room := { frames := 3, cells := 0, slots := 0, locals := 72 }
set_option maxHeartbeats 4000000 in
set_option maxRecDepth 100000 in
theorem c_Writer_writeClusterTables (l : Launch) (g : GT) (E : (Nat → Prop) → State → Prop) (hEe : Ee E) (t_o : Nat) (d_o : Nat) (d_words_a : Nat) (v_o : Nat) (v_next_a : Nat) (p_o : Nat) (u_o : Nat) (v_firstClusters_a : Nat) (v_runStarts_a : Nat) (v_runLengths_a : Nat) (d_words_n : Nat) (v_next_n : Nat) (t_sectors : Int32) (d_length : Int32) (d_words : Nat → Int64) (v_start : Int32) (v_length : Int32) (v_tableSectors : Int32) (v_clusters : Int32) (v_runs : Int32) (v_next : Nat → Int32) (N : Nat) (z : (Nat → Int64)) (hf : f_Writer_writeClusterTables N v_start v_tableSectors v_clusters v_next_n v_next d_length d_words_n d_words = some z) : Cg l g E y_Writer_writeClusterTables ws_Writer_writeClusterTables rm_Writer_writeClusterTables [.ref t_o] (wd_Writer_writeClusterTables g t_o d_o d_words_a v_o v_next_a p_o u_o v_firstClusters_a v_runStarts_a v_runLengths_a d_words_n v_next_n t_sectors d_length d_words v_start v_length v_tableSectors v_clusters v_runs v_next) none (wd_Writer_writeClusterTables g t_o d_o d_words_a v_o v_next_a p_o u_o v_firstClusters_a v_runStarts_a v_runLengths_a d_words_n v_next_n t_sectors d_length z v_start v_length v_tableSectors v_clusters v_runs v_next) := by
  refine Ct.ofV hEe good_W (by decide) rfl (Nat.le_of_ble_eq_true rfl) ?_
  intro p e s m args below meth c A ls Q hC hw hl hret
  have hC : CX p m c b_Writer_writeClusterTables 4 s args Wall R_Writer g.1 classes (tK g) E A := hC
  have hl : lv_has ls 4 [(0, .ref t_o)] := hl
  unfold f_Writer_writeClusterTables at hf
  refine n_aload_n hC hl 0 d_Writer_writeClusterTables_0 rfl rfl ?_
  refine n_get hC hw fg_Writer_32 0 rfl rfl d_Writer_writeClusterTables_1 ?_
  refine n_get hC hw fg_Writer_142 3 rfl rfl d_Writer_writeClusterTables_4 ?_
  refine n_iconst hC 1 d_Writer_writeClusterTables_7 (by decide) ?_
  refine n_iadd hC hf d_Writer_writeClusterTables_8 (fun v19 hf => ?_)
  refine n_sipush hC 512 d_Writer_writeClusterTables_9 (by decide) ?_
  refine n_imul hC hf d_Writer_writeClusterTables_12 (fun v20 hf => ?_)
  refine n_istore_n hC [(1, .int v20), (0, .ref t_o)] hl d_Writer_writeClusterTables_13 rfl (by decide) rfl (fun ls hl => ?_)
  refine n_iload_n hC hl 0 d_Writer_writeClusterTables_14 rfl rfl ?_
  refine n_aload_n hC hl 1 d_Writer_writeClusterTables_15 rfl rfl ?_
  refine n_get hC hw fg_Writer_32 0 rfl rfl d_Writer_writeClusterTables_16 ?_
  refine n_get hC hw fg_Writer_215 3 rfl rfl d_Writer_writeClusterTables_19 ?_
  refine n_sipush hC 512 d_Writer_writeClusterTables_22 (by decide) ?_
  refine n_imul hC hf d_Writer_writeClusterTables_25 (fun v21 hf => ?_)
  refine n_iadd hC hf d_Writer_writeClusterTables_26 (fun v22 hf => ?_)
  refine n_istore_n hC [(2, .int v22), (1, .int v20), (0, .ref t_o)] hl d_Writer_writeClusterTables_27 rfl (by decide) rfl (fun ls hl => ?_)
  refine n_iconst hC 0 d_Writer_writeClusterTables_28 (by decide) ?_
  refine n_istore_n hC [(3, .int 0), (2, .int v22), (1, .int v20), (0, .ref t_o)] hl d_Writer_writeClusterTables_29 rfl (by decide) rfl (fun ls hl => ?_)
  have hL30 := lw2 (B := f_Writer_writeClusterTables_L30 N v_clusters v20 v_next_n v_next d_length d_words_n v22) (z := z) (fun (x27 : Int32) (x28 : Nat → Int64) => ∀ (H : Heap) (locs : List Loc) (ls : Array Slot), WS g.1 classes A s.heap H locs (wd_Writer_writeClusterTables g t_o d_o d_words_a v_o v_next_a p_o u_o v_firstClusters_a v_runStarts_a v_runLengths_a d_words_n v_next_n t_sectors d_length x28 v_start v_length v_tableSectors v_clusters v_runs v_next) → lv_has ls 4 [(3, .int x27), (2, .int v22), (1, .int v20), (0, .ref t_o)] → W p l e rm_Writer_writeClusterTables s m args below meth c H locs 0 0 Q (F0 m 30 ls [])) (by
    intro k30 hk30 x27 x28 hf H locs ls hw hl
    unfold f_Writer_writeClusterTables_L30 at hf
    refine n_iload_n hC hl 0 d_Writer_writeClusterTables_30 rfl rfl ?_
    refine n_aload_n hC hl 3 d_Writer_writeClusterTables_31 rfl rfl ?_
    refine n_get hC hw fg_Writer_32 0 rfl rfl d_Writer_writeClusterTables_32 ?_
    refine n_get hC hw fg_Writer_224 3 rfl rfl d_Writer_writeClusterTables_35 ?_
    refine n_iconst hC 2 d_Writer_writeClusterTables_38 (by decide) ?_
    refine n_iadd hC hf d_Writer_writeClusterTables_39 (fun v33 hf => ?_)
    refine n_icmp_ge hC hf 61 d_Writer_writeClusterTables_40 (by decide) (fun hf => ?_) (fun hf => ?_)
    · cases hf
      exact hret _ _ _ _ hw d_Writer_writeClusterTables_61
    · refine n_aload_n hC hl 3 d_Writer_writeClusterTables_43 rfl rfl ?_
      refine n_iload_n hC hl 2 d_Writer_writeClusterTables_44 rfl rfl ?_
      refine n_iload_n hC hl 0 d_Writer_writeClusterTables_45 rfl rfl ?_
      obtain ⟨u34, hu34, hf⟩ := bd_s hf
      refine n_callVv hC hw fc_Writer_227 (c_Writer_writeClusterEntry l g E hEe t_o d_o d_words_a v_o v_next_a p_o u_o v_firstClusters_a v_runStarts_a v_runLengths_a d_words_n v_next_n t_sectors d_length x28 v_start v_length v_tableSectors v_clusters v_runs v_next v20 x27 N u34 hu34) [0, 1, 2, 3, 4] (wd_Writer_writeClusterTables g t_o d_o d_words_a v_o v_next_a p_o u_o v_firstClusters_a v_runStarts_a v_runLengths_a d_words_n v_next_n t_sectors d_length u34 v_start v_length v_tableSectors v_clusters v_runs v_next) 0 rfl ⟨rfl, rfl⟩ ⟨Nat.le_of_ble_eq_true rfl, Nat.le_of_ble_eq_true rfl⟩ rfl (At_.cons rfl (At_.cons rfl (At_.cons rfl (At_.cons rfl (At_.cons rfl At_.nil))))) (At_.cons rfl (At_.cons rfl (At_.cons rfl (At_.cons rfl (At_.cons rfl At_.nil))))) (Sm_.keep (Sm_.keep (Sm_.upd rfl (Sm_.keep (Sm_.keep Sm_.nil))))) rfl hl.1 (Nat.le_of_ble_eq_true rfl) ⟨Nat.zero_le _, Nat.zero_le _⟩ d_Writer_writeClusterTables_46 (fun H locs hw => ?_) rfl
      refine n_aload_n hC hl 3 d_Writer_writeClusterTables_49 rfl rfl ?_
      refine n_iload_n hC hl 1 d_Writer_writeClusterTables_50 rfl rfl ?_
      refine n_iload_n hC hl 0 d_Writer_writeClusterTables_51 rfl rfl ?_
      obtain ⟨u35, hu35, hf⟩ := bd_s hf
      refine n_callVv hC hw fc_Writer_227 (c_Writer_writeClusterEntry l g E hEe t_o d_o d_words_a v_o v_next_a p_o u_o v_firstClusters_a v_runStarts_a v_runLengths_a d_words_n v_next_n t_sectors d_length u34 v_start v_length v_tableSectors v_clusters v_runs v_next v22 x27 N u35 hu35) [0, 1, 2, 3, 4] (wd_Writer_writeClusterTables g t_o d_o d_words_a v_o v_next_a p_o u_o v_firstClusters_a v_runStarts_a v_runLengths_a d_words_n v_next_n t_sectors d_length u35 v_start v_length v_tableSectors v_clusters v_runs v_next) 0 rfl ⟨rfl, rfl⟩ ⟨Nat.le_of_ble_eq_true rfl, Nat.le_of_ble_eq_true rfl⟩ rfl (At_.cons rfl (At_.cons rfl (At_.cons rfl (At_.cons rfl (At_.cons rfl At_.nil))))) (At_.cons rfl (At_.cons rfl (At_.cons rfl (At_.cons rfl (At_.cons rfl At_.nil))))) (Sm_.keep (Sm_.keep (Sm_.upd rfl (Sm_.keep (Sm_.keep Sm_.nil))))) rfl hl.1 (Nat.le_of_ble_eq_true rfl) ⟨Nat.zero_le _, Nat.zero_le _⟩ d_Writer_writeClusterTables_52 (fun H locs hw => ?_) rfl
      refine n_iinc hC (k := 0) hf (by decide) (fun v36 => [(3, .int v36), (2, .int v22), (1, .int v20), (0, .ref t_o)]) hl d_Writer_writeClusterTables_55 rfl (by decide) (fun _ => rfl) (fun v36 ls hf hl => ?_)
      refine n_goto hC 30 d_Writer_writeClusterTables_58 (by decide) ?_
      exact hk30 _ _ hf _ _ _ hw (lv_sub hl [0, 1, 2, 3] rfl)
    )
  exact hL30 N _ _ hf _ _ _ hw (lv_sub hl [0, 1, 2, 3] rfl)
def wd_Writer_writeDirectoryEntry (g : GT) (t_o : Nat) (d_o : Nat) (d_words_a : Nat) (p_o : Nat) (p_names_a : Nat) (p_sizes_a : Nat) (v_o : Nat) (v_firstClusters_a : Nat) (u_o : Nat) (p_sorts_a : Nat) (p_starts_a : Nat) (p_lengths_a : Nat) (p_seeds_a : Nat) (p_scattered_a : Nat) (v_next_a : Nat) (v_runStarts_a : Nat) (v_runLengths_a : Nat) (d_words_n : Nat) (t_sectors : Int32) (d_length : Int32) (d_words : Nat → Int64) (p_lastUsable : Int32) (p_partitions : Int32) (p_files : Int32) (p_kernelAddress : Int32) (p_names : Nat → Int64) (p_sizes : Nat → Int32) (v_start : Int32) (v_length : Int32) (v_tableSectors : Int32) (v_clusters : Int32) (v_runs : Int32) (v_firstClusters : Nat → Int32) : va_W := [(t_o, .inr (4, [.ref d_o, .int t_sectors, .ref p_o, .ref u_o, .ref v_o])), (d_o, .inr (0, [.int d_length, .ref d_words_a])), (d_words_a, .inl (g.2.2.1, d_words_n, .inr (.inl d_words))), (p_o, .inr (2, [.int p_lastUsable, .ref p_sorts_a, .ref p_starts_a, .ref p_lengths_a, .int p_partitions, .ref p_names_a, .ref p_sizes_a, .ref p_seeds_a, .ref p_scattered_a, .int p_files, .int p_kernelAddress])), (p_names_a, .inl (g.2.2.1, 12, .inr (.inl p_names))), (p_sizes_a, .inl (g.2.1, 12, .inl p_sizes)), (v_o, .inr (3, [.int v_start, .int v_length, .int v_tableSectors, .int v_clusters, .ref v_next_a, .ref v_firstClusters_a, .ref v_runStarts_a, .ref v_runLengths_a, .int v_runs])), (v_firstClusters_a, .inl (g.2.1, 12, .inl v_firstClusters))]
def f_Writer_writeDirectoryEntry_L16 (N : Nat) (a1 : Int32) (d_length : Int32) (d_words_n : Nat) (v_firstClusters : Nat → Int32) (a2 : Int32) (p_sizes : Nat → Int32) (p_names : Nat → Int64) (k16 : Int32 → Int32 → (Nat → Int64) → Option ((Nat → Int64))) (x90 : Int32) (x91 : Int32) (x92 : Nat → Int64) : Option ((Nat → Int64)) :=
  if x90 < 0 then lt_ (a1 + 11) (fun v114 => bd_ (f_Store_put v114 x92 d_length d_words_n 32) (fun u115 => lt_ (a1 + 24) (fun v116 => bd_ (f_Store_putLow N 2 v116 33 d_length d_words_n u115) (fun u117 => lt_ (a1 + 26) (fun v118 => ix_ 12 v_firstClusters a2 (fun (v119 : Int32) => lt_ (v119.toInt64) (fun v120 => bd_ (f_Store_putLow N 2 v118 v120 d_length d_words_n u117) (fun u121 => lt_ (a1 + 28) (fun v122 => ix_ 12 p_sizes a2 (fun (v123 : Int32) => lt_ (v123.toInt64) (fun v124 => bd_ (f_Store_putLow N 4 v122 v124 d_length d_words_n u121) (fun u125 => some (u125))))))))))))) else ix_ 12 p_names a2 (fun (v126 : Int64) => lt_ ((v126.toUInt64 >>> (x90.toInt64.toUInt64 &&& Int64.toUInt64 63)).toInt64) (fun v127 => lt_ (v127.toInt32) (fun v128 => lt_ (v128 &&& 255) (fun v129 => lt_ (fun (x133 : Int32) (x134 : Nat → Int64) => lt_ (x90 + (-8)) (fun v135 => k16 v135 x133 x134)) (fun (j60 : Int32 → (Nat → Int64) → Option ((Nat → Int64))) => if v129 = 0 then j60 x91 x92 else lt_ (a1 + x91) (fun v136 => bd_ (f_Store_put v136 x92 d_length d_words_n v129) (fun u137 => lt_ (x91 + 1) (fun v138 => j60 v138 u137))))))))
def f_Writer_writeDirectoryEntry (N : Nat) (a1 : Int32) (d_length : Int32) (d_words_n : Nat) (d_words : Nat → Int64) (v_firstClusters : Nat → Int32) (a2 : Int32) (p_sizes : Nat → Int32) (p_names : Nat → Int64) : Option ((Nat → Int64)) :=
  bd_ (f_Store_putText N 11 a1 (sByt 7) d_length d_words_n d_words) (fun u68 => lp_ (fun _ _ _ => none) (f_Writer_writeDirectoryEntry_L16 N a1 d_length d_words_n v_firstClusters a2 p_sizes p_names) N 56 0 u68)
def rm_Writer_writeDirectoryEntry : Room := { frames := 5, cells := 0, slots := 0, locals := 108 }
set_option maxHeartbeats 4000000 in
set_option maxRecDepth 100000 in
theorem c_Writer_writeDirectoryEntry (l : Launch) (g : GT) (E : (Nat → Prop) → State → Prop) (hEe : Ee E) (X : XT) (hS : ∀ (A : Nat → Prop) (u : State), E A u → SS X A u) (t_o : Nat) (d_o : Nat) (d_words_a : Nat) (p_o : Nat) (p_names_a : Nat) (p_sizes_a : Nat) (v_o : Nat) (v_firstClusters_a : Nat) (u_o : Nat) (p_sorts_a : Nat) (p_starts_a : Nat) (p_lengths_a : Nat) (p_seeds_a : Nat) (p_scattered_a : Nat) (v_next_a : Nat) (v_runStarts_a : Nat) (v_runLengths_a : Nat) (d_words_n : Nat) (t_sectors : Int32) (d_length : Int32) (d_words : Nat → Int64) (p_lastUsable : Int32) (p_partitions : Int32) (p_files : Int32) (p_kernelAddress : Int32) (p_names : Nat → Int64) (p_sizes : Nat → Int32) (v_start : Int32) (v_length : Int32) (v_tableSectors : Int32) (v_clusters : Int32) (v_runs : Int32) (v_firstClusters : Nat → Int32) (a1 : Int32) (a2 : Int32) (N : Nat) (z : (Nat → Int64)) (hf : f_Writer_writeDirectoryEntry N a1 d_length d_words_n d_words v_firstClusters a2 p_sizes p_names = some z) : Cg l g E y_Writer_writeDirectoryEntry ws_Writer_writeDirectoryEntry rm_Writer_writeDirectoryEntry [.ref t_o, .int a1, .int a2] (wd_Writer_writeDirectoryEntry g t_o d_o d_words_a p_o p_names_a p_sizes_a v_o v_firstClusters_a u_o p_sorts_a p_starts_a p_lengths_a p_seeds_a p_scattered_a v_next_a v_runStarts_a v_runLengths_a d_words_n t_sectors d_length d_words p_lastUsable p_partitions p_files p_kernelAddress p_names p_sizes v_start v_length v_tableSectors v_clusters v_runs v_firstClusters) none (wd_Writer_writeDirectoryEntry g t_o d_o d_words_a p_o p_names_a p_sizes_a v_o v_firstClusters_a u_o p_sorts_a p_starts_a p_lengths_a p_seeds_a p_scattered_a v_next_a v_runStarts_a v_runLengths_a d_words_n t_sectors d_length z p_lastUsable p_partitions p_files p_kernelAddress p_names p_sizes v_start v_length v_tableSectors v_clusters v_runs v_firstClusters) := by
  refine Ct.ofV hEe good_W (by decide) rfl (Nat.le_of_ble_eq_true rfl) ?_
  intro p e s m args below meth c A ls Q hC hw hl hret
  have hC : CX p m c b_Writer_writeDirectoryEntry 6 s args Wall R_Writer g.1 classes (tK g) E A := hC
  have hl : lv_has ls 6 [(0, .ref t_o), (1, .int a1), (2, .int a2)] := hl
  unfold f_Writer_writeDirectoryEntry at hf
  refine n_aload_n hC hl 0 d_Writer_writeDirectoryEntry_0 rfl rfl ?_
  refine n_get hC hw fg_Writer_9 0 rfl rfl d_Writer_writeDirectoryEntry_1 ?_
  refine n_iload_n hC hl 1 d_Writer_writeDirectoryEntry_4 rfl rfl ?_
  refine n_ldcS hC (fun A u h => (hS A u h).2.1 7 (by decide)) d_Writer_writeDirectoryEntry_5 ?_
  obtain ⟨u68, hu68, hf⟩ := bd_s hf
  refine n_callVv hC hw fc_Writer_205 (c_Store_putText l g E hEe (X.2.1 7) (X.2.2 7) 11 (sByt 7) (fun A u h => (hS A u h).1 7 (by decide)) d_o d_words_a d_words_n d_length d_words a1 N u68 hu68) [1, 2] (wd_Writer_writeDirectoryEntry g t_o d_o d_words_a p_o p_names_a p_sizes_a v_o v_firstClusters_a u_o p_sorts_a p_starts_a p_lengths_a p_seeds_a p_scattered_a v_next_a v_runStarts_a v_runLengths_a d_words_n t_sectors d_length u68 p_lastUsable p_partitions p_files p_kernelAddress p_names p_sizes v_start v_length v_tableSectors v_clusters v_runs v_firstClusters) 1 rfl ⟨rfl, rfl⟩ ⟨Nat.le_of_ble_eq_true rfl, Nat.le_of_ble_eq_true rfl⟩ rfl (At_.cons rfl (At_.cons rfl At_.nil)) (At_.cons rfl (At_.cons rfl At_.nil)) (Sm_.keep (Sm_.keep (Sm_.upd rfl (Sm_.keep (Sm_.keep (Sm_.keep (Sm_.keep (Sm_.keep Sm_.nil)))))))) rfl hl.1 (Nat.le_of_ble_eq_true rfl) ⟨Nat.zero_le _, Nat.zero_le _⟩ d_Writer_writeDirectoryEntry_7 (fun H locs hw => ?_) rfl
  refine n_iconst hC 0 d_Writer_writeDirectoryEntry_10 (by decide) ?_
  refine n_istore_n hC [(3, .int 0), (0, .ref t_o), (1, .int a1), (2, .int a2)] hl d_Writer_writeDirectoryEntry_11 rfl (by decide) rfl (fun ls hl => ?_)
  refine n_bipush hC 56 d_Writer_writeDirectoryEntry_12 (by decide) ?_
  refine n_istore hC [(4, .int 56), (3, .int 0), (0, .ref t_o), (1, .int a1), (2, .int a2)] hl d_Writer_writeDirectoryEntry_14 (by decide) rfl (fun ls hl => ?_)
  have hL16 := lw3 (B := f_Writer_writeDirectoryEntry_L16 N a1 d_length d_words_n v_firstClusters a2 p_sizes p_names) (z := z) (fun (x90 : Int32) (x91 : Int32) (x92 : Nat → Int64) => ∀ (H : Heap) (locs : List Loc) (ls : Array Slot), WS g.1 classes A s.heap H locs (wd_Writer_writeDirectoryEntry g t_o d_o d_words_a p_o p_names_a p_sizes_a v_o v_firstClusters_a u_o p_sorts_a p_starts_a p_lengths_a p_seeds_a p_scattered_a v_next_a v_runStarts_a v_runLengths_a d_words_n t_sectors d_length x92 p_lastUsable p_partitions p_files p_kernelAddress p_names p_sizes v_start v_length v_tableSectors v_clusters v_runs v_firstClusters) → lv_has ls 6 [(4, .int x90), (3, .int x91), (0, .ref t_o), (1, .int a1), (2, .int a2)] → W p l e rm_Writer_writeDirectoryEntry s m args below meth c H locs 0 0 Q (F0 m 16 ls [])) (by
    intro k16 hk16 x90 x91 x92 hf H locs ls hw hl
    unfold f_Writer_writeDirectoryEntry_L16 at hf
    refine n_iload hC hl 0 d_Writer_writeDirectoryEntry_16 rfl ?_
    refine n_if_lt hC hf 66 d_Writer_writeDirectoryEntry_18 (by decide) (fun hf => ?_) (fun hf => ?_)
    · refine n_aload_n hC hl 2 d_Writer_writeDirectoryEntry_66 rfl rfl ?_
      refine n_get hC hw fg_Writer_9 0 rfl rfl d_Writer_writeDirectoryEntry_67 ?_
      refine n_iload_n hC hl 3 d_Writer_writeDirectoryEntry_70 rfl rfl ?_
      refine n_bipush hC 11 d_Writer_writeDirectoryEntry_71 (by decide) ?_
      refine n_iadd hC hf d_Writer_writeDirectoryEntry_73 (fun v114 hf => ?_)
      refine n_bipush hC 32 d_Writer_writeDirectoryEntry_74 (by decide) ?_
      obtain ⟨u115, hu115, hf⟩ := bd_s hf
      refine n_callVv hC hw fc_Writer_104 (c_Store_put l g E hEe d_o d_words_a d_words_n d_length x92 v114 32 u115 hu115) [1, 2] (wd_Writer_writeDirectoryEntry g t_o d_o d_words_a p_o p_names_a p_sizes_a v_o v_firstClusters_a u_o p_sorts_a p_starts_a p_lengths_a p_seeds_a p_scattered_a v_next_a v_runStarts_a v_runLengths_a d_words_n t_sectors d_length u115 p_lastUsable p_partitions p_files p_kernelAddress p_names p_sizes v_start v_length v_tableSectors v_clusters v_runs v_firstClusters) 1 rfl ⟨rfl, rfl⟩ ⟨Nat.le_of_ble_eq_true rfl, Nat.le_of_ble_eq_true rfl⟩ rfl (At_.cons rfl (At_.cons rfl At_.nil)) (At_.cons rfl (At_.cons rfl At_.nil)) (Sm_.keep (Sm_.keep (Sm_.upd rfl (Sm_.keep (Sm_.keep (Sm_.keep (Sm_.keep (Sm_.keep Sm_.nil)))))))) rfl hl.1 (Nat.le_of_ble_eq_true rfl) ⟨Nat.zero_le _, Nat.zero_le _⟩ d_Writer_writeDirectoryEntry_76 (fun H locs hw => ?_) rfl
      refine n_aload_n hC hl 2 d_Writer_writeDirectoryEntry_79 rfl rfl ?_
      refine n_get hC hw fg_Writer_9 0 rfl rfl d_Writer_writeDirectoryEntry_80 ?_
      refine n_iload_n hC hl 3 d_Writer_writeDirectoryEntry_83 rfl rfl ?_
      refine n_bipush hC 24 d_Writer_writeDirectoryEntry_84 (by decide) ?_
      refine n_iadd hC hf d_Writer_writeDirectoryEntry_86 (fun v116 hf => ?_)
      refine n_iconst hC 2 d_Writer_writeDirectoryEntry_87 (by decide) ?_
      refine n_ldc2 hC 33 kc_Writer_254 d_Writer_writeDirectoryEntry_88 ?_
      obtain ⟨u117, hu117, hf⟩ := bd_s hf
      refine n_callVv hC hw fc_Writer_120 (c_Store_putLow l g E hEe d_o d_words_a d_words_n d_length u115 v116 2 33 N u117 hu117) [1, 2] (wd_Writer_writeDirectoryEntry g t_o d_o d_words_a p_o p_names_a p_sizes_a v_o v_firstClusters_a u_o p_sorts_a p_starts_a p_lengths_a p_seeds_a p_scattered_a v_next_a v_runStarts_a v_runLengths_a d_words_n t_sectors d_length u117 p_lastUsable p_partitions p_files p_kernelAddress p_names p_sizes v_start v_length v_tableSectors v_clusters v_runs v_firstClusters) 1 rfl ⟨rfl, rfl⟩ ⟨Nat.le_of_ble_eq_true rfl, Nat.le_of_ble_eq_true rfl⟩ rfl (At_.cons rfl (At_.cons rfl At_.nil)) (At_.cons rfl (At_.cons rfl At_.nil)) (Sm_.keep (Sm_.keep (Sm_.upd rfl (Sm_.keep (Sm_.keep (Sm_.keep (Sm_.keep (Sm_.keep Sm_.nil)))))))) rfl hl.1 (Nat.le_of_ble_eq_true rfl) ⟨Nat.zero_le _, Nat.zero_le _⟩ d_Writer_writeDirectoryEntry_91 (fun H locs hw => ?_) rfl
      refine n_aload_n hC hl 2 d_Writer_writeDirectoryEntry_94 rfl rfl ?_
      refine n_get hC hw fg_Writer_9 0 rfl rfl d_Writer_writeDirectoryEntry_95 ?_
      refine n_iload_n hC hl 3 d_Writer_writeDirectoryEntry_98 rfl rfl ?_
      refine n_bipush hC 26 d_Writer_writeDirectoryEntry_99 (by decide) ?_
      refine n_iadd hC hf d_Writer_writeDirectoryEntry_101 (fun v118 hf => ?_)
      refine n_iconst hC 2 d_Writer_writeDirectoryEntry_102 (by decide) ?_
      refine n_aload_n hC hl 2 d_Writer_writeDirectoryEntry_103 rfl rfl ?_
      refine n_get hC hw fg_Writer_32 0 rfl rfl d_Writer_writeDirectoryEntry_104 ?_
      refine n_get hC hw fg_Writer_242 6 rfl rfl d_Writer_writeDirectoryEntry_107 ?_
      refine n_iload_n hC hl 4 d_Writer_writeDirectoryEntry_110 rfl rfl ?_
      refine n_iald hC hw hf 7 0 rfl rfl d_Writer_writeDirectoryEntry_111 (fun v119 hf => ?_)
      refine n_i2l hC hf d_Writer_writeDirectoryEntry_112 (fun v120 hf => ?_)
      obtain ⟨u121, hu121, hf⟩ := bd_s hf
      refine n_callVv hC hw fc_Writer_120 (c_Store_putLow l g E hEe d_o d_words_a d_words_n d_length u117 v118 2 v120 N u121 hu121) [1, 2] (wd_Writer_writeDirectoryEntry g t_o d_o d_words_a p_o p_names_a p_sizes_a v_o v_firstClusters_a u_o p_sorts_a p_starts_a p_lengths_a p_seeds_a p_scattered_a v_next_a v_runStarts_a v_runLengths_a d_words_n t_sectors d_length u121 p_lastUsable p_partitions p_files p_kernelAddress p_names p_sizes v_start v_length v_tableSectors v_clusters v_runs v_firstClusters) 1 rfl ⟨rfl, rfl⟩ ⟨Nat.le_of_ble_eq_true rfl, Nat.le_of_ble_eq_true rfl⟩ rfl (At_.cons rfl (At_.cons rfl At_.nil)) (At_.cons rfl (At_.cons rfl At_.nil)) (Sm_.keep (Sm_.keep (Sm_.upd rfl (Sm_.keep (Sm_.keep (Sm_.keep (Sm_.keep (Sm_.keep Sm_.nil)))))))) rfl hl.1 (Nat.le_of_ble_eq_true rfl) ⟨Nat.zero_le _, Nat.zero_le _⟩ d_Writer_writeDirectoryEntry_113 (fun H locs hw => ?_) rfl
      refine n_aload_n hC hl 2 d_Writer_writeDirectoryEntry_116 rfl rfl ?_
      refine n_get hC hw fg_Writer_9 0 rfl rfl d_Writer_writeDirectoryEntry_117 ?_
      refine n_iload_n hC hl 3 d_Writer_writeDirectoryEntry_120 rfl rfl ?_
      refine n_bipush hC 28 d_Writer_writeDirectoryEntry_121 (by decide) ?_
      refine n_iadd hC hf d_Writer_writeDirectoryEntry_123 (fun v122 hf => ?_)
      refine n_iconst hC 4 d_Writer_writeDirectoryEntry_124 (by decide) ?_
      refine n_aload_n hC hl 2 d_Writer_writeDirectoryEntry_125 rfl rfl ?_
      refine n_get hC hw fg_Writer_19 0 rfl rfl d_Writer_writeDirectoryEntry_126 ?_
      refine n_get hC hw fg_Writer_97 3 rfl rfl d_Writer_writeDirectoryEntry_129 ?_
      refine n_iload_n hC hl 4 d_Writer_writeDirectoryEntry_132 rfl rfl ?_
      refine n_iald hC hw hf 5 0 rfl rfl d_Writer_writeDirectoryEntry_133 (fun v123 hf => ?_)
      refine n_i2l hC hf d_Writer_writeDirectoryEntry_134 (fun v124 hf => ?_)
      obtain ⟨u125, hu125, hf⟩ := bd_s hf
      refine n_callVv hC hw fc_Writer_120 (c_Store_putLow l g E hEe d_o d_words_a d_words_n d_length u121 v122 4 v124 N u125 hu125) [1, 2] (wd_Writer_writeDirectoryEntry g t_o d_o d_words_a p_o p_names_a p_sizes_a v_o v_firstClusters_a u_o p_sorts_a p_starts_a p_lengths_a p_seeds_a p_scattered_a v_next_a v_runStarts_a v_runLengths_a d_words_n t_sectors d_length u125 p_lastUsable p_partitions p_files p_kernelAddress p_names p_sizes v_start v_length v_tableSectors v_clusters v_runs v_firstClusters) 1 rfl ⟨rfl, rfl⟩ ⟨Nat.le_of_ble_eq_true rfl, Nat.le_of_ble_eq_true rfl⟩ rfl (At_.cons rfl (At_.cons rfl At_.nil)) (At_.cons rfl (At_.cons rfl At_.nil)) (Sm_.keep (Sm_.keep (Sm_.upd rfl (Sm_.keep (Sm_.keep (Sm_.keep (Sm_.keep (Sm_.keep Sm_.nil)))))))) rfl hl.1 (Nat.le_of_ble_eq_true rfl) ⟨Nat.zero_le _, Nat.zero_le _⟩ d_Writer_writeDirectoryEntry_135 (fun H locs hw => ?_) rfl
      cases hf
      exact hret _ _ _ _ hw d_Writer_writeDirectoryEntry_138
    · refine n_aload_n hC hl 2 d_Writer_writeDirectoryEntry_21 rfl rfl ?_
      refine n_get hC hw fg_Writer_19 0 rfl rfl d_Writer_writeDirectoryEntry_22 ?_
      refine n_get hC hw fg_Writer_250 3 rfl rfl d_Writer_writeDirectoryEntry_25 ?_
      refine n_iload_n hC hl 4 d_Writer_writeDirectoryEntry_28 rfl rfl ?_
      refine n_lald hC hw hf 4 1 rfl rfl d_Writer_writeDirectoryEntry_29 (fun v126 hf => ?_)
      refine n_iload hC hl 0 d_Writer_writeDirectoryEntry_30 rfl ?_
      refine n_lushr hC hf d_Writer_writeDirectoryEntry_32 (fun v127 hf => ?_)
      refine n_l2i hC hf d_Writer_writeDirectoryEntry_33 (fun v128 hf => ?_)
      refine n_sipush hC 255 d_Writer_writeDirectoryEntry_34 (by decide) ?_
      refine n_iand hC hf d_Writer_writeDirectoryEntry_37 (fun v129 hf => ?_)
      refine n_istore hC [(5, .int v129), (4, .int x90), (3, .int x91), (0, .ref t_o), (1, .int a1), (2, .int a2)] hl d_Writer_writeDirectoryEntry_38 (by decide) rfl (fun ls hl => ?_)
      refine n_iload hC hl 0 d_Writer_writeDirectoryEntry_40 rfl ?_
      refine jn2 (fun (x133 : Int32) (x134 : Nat → Int64) => ∀ (H : Heap) (locs : List Loc) (ls : Array Slot), WS g.1 classes A s.heap H locs (wd_Writer_writeDirectoryEntry g t_o d_o d_words_a p_o p_names_a p_sizes_a v_o v_firstClusters_a u_o p_sorts_a p_starts_a p_lengths_a p_seeds_a p_scattered_a v_next_a v_runStarts_a v_runLengths_a d_words_n t_sectors d_length x134 p_lastUsable p_partitions p_files p_kernelAddress p_names p_sizes v_start v_length v_tableSectors v_clusters v_runs v_firstClusters) → lv_has ls 6 [(4, .int x90), (3, .int x133), (0, .ref t_o), (1, .int a1), (2, .int a2)] → W p l e rm_Writer_writeDirectoryEntry s m args below meth c H locs 0 0 Q (F0 m 60 ls [])) hf (fun x133 x134 hf H locs ls hw hl => ?_) (fun j60 hj60 hf => ?_)
      · refine n_iinc hC (k := 0) hf (by decide) (fun v135 => [(4, .int v135), (3, .int x133), (0, .ref t_o), (1, .int a1), (2, .int a2)]) hl d_Writer_writeDirectoryEntry_60 rfl (by decide) (fun _ => rfl) (fun v135 ls hf hl => ?_)
        refine n_goto hC 16 d_Writer_writeDirectoryEntry_63 (by decide) ?_
        exact hk16 _ _ _ hf _ _ _ hw (lv_sub hl [0, 1, 2, 3, 4] rfl)
      refine n_if_eq hC hf 60 d_Writer_writeDirectoryEntry_42 (by decide) (fun hf => ?_) (fun hf => ?_)
      · exact hj60 _ _ hf _ _ _ hw (lv_sub hl [1, 2, 3, 4, 5] rfl)
      · refine n_aload_n hC hl 3 d_Writer_writeDirectoryEntry_45 rfl rfl ?_
        refine n_get hC hw fg_Writer_9 0 rfl rfl d_Writer_writeDirectoryEntry_46 ?_
        refine n_iload_n hC hl 4 d_Writer_writeDirectoryEntry_49 rfl rfl ?_
        refine n_iload_n hC hl 2 d_Writer_writeDirectoryEntry_50 rfl rfl ?_
        refine n_iadd hC hf d_Writer_writeDirectoryEntry_51 (fun v136 hf => ?_)
        refine n_iload hC hl 0 d_Writer_writeDirectoryEntry_52 rfl ?_
        obtain ⟨u137, hu137, hf⟩ := bd_s hf
        refine n_callVv hC hw fc_Writer_104 (c_Store_put l g E hEe d_o d_words_a d_words_n d_length x92 v136 v129 u137 hu137) [1, 2] (wd_Writer_writeDirectoryEntry g t_o d_o d_words_a p_o p_names_a p_sizes_a v_o v_firstClusters_a u_o p_sorts_a p_starts_a p_lengths_a p_seeds_a p_scattered_a v_next_a v_runStarts_a v_runLengths_a d_words_n t_sectors d_length u137 p_lastUsable p_partitions p_files p_kernelAddress p_names p_sizes v_start v_length v_tableSectors v_clusters v_runs v_firstClusters) 1 rfl ⟨rfl, rfl⟩ ⟨Nat.le_of_ble_eq_true rfl, Nat.le_of_ble_eq_true rfl⟩ rfl (At_.cons rfl (At_.cons rfl At_.nil)) (At_.cons rfl (At_.cons rfl At_.nil)) (Sm_.keep (Sm_.keep (Sm_.upd rfl (Sm_.keep (Sm_.keep (Sm_.keep (Sm_.keep (Sm_.keep Sm_.nil)))))))) rfl hl.1 (Nat.le_of_ble_eq_true rfl) ⟨Nat.zero_le _, Nat.zero_le _⟩ d_Writer_writeDirectoryEntry_54 (fun H locs hw => ?_) rfl
        refine n_iinc hC (k := 2) hf (by decide) (fun v138 => [(3, .int v138), (5, .int v129), (4, .int x90), (0, .ref t_o), (1, .int a1), (2, .int a2)]) hl d_Writer_writeDirectoryEntry_57 rfl (by decide) (fun _ => rfl) (fun v138 ls hf hl => ?_)
        exact hj60 _ _ hf _ _ _ hw (lv_sub hl [2, 0, 3, 4, 5] rfl)
    )
  exact hL16 N _ _ _ hf _ _ _ hw (lv_sub hl [0, 1, 2, 3, 4] rfl)
def wd_Writer_writeFile (g : GT) (t_o : Nat) (d_o : Nat) (d_words_a : Nat) (p_o : Nat) (p_names_a : Nat) (p_sizes_a : Nat) (p_seeds_a : Nat) (v_o : Nat) (v_next_a : Nat) (v_firstClusters_a : Nat) (u_o : Nat) (p_sorts_a : Nat) (p_starts_a : Nat) (p_lengths_a : Nat) (p_scattered_a : Nat) (v_runStarts_a : Nat) (v_runLengths_a : Nat) (d_words_n : Nat) (v_next_n : Nat) (t_sectors : Int32) (d_length : Int32) (d_words : Nat → Int64) (p_lastUsable : Int32) (p_partitions : Int32) (p_files : Int32) (p_kernelAddress : Int32) (p_names : Nat → Int64) (p_sizes : Nat → Int32) (p_seeds : Nat → Int32) (v_start : Int32) (v_length : Int32) (v_tableSectors : Int32) (v_clusters : Int32) (v_runs : Int32) (v_next : Nat → Int32) (v_firstClusters : Nat → Int32) : va_W := [(t_o, .inr (4, [.ref d_o, .int t_sectors, .ref p_o, .ref u_o, .ref v_o])), (d_o, .inr (0, [.int d_length, .ref d_words_a])), (d_words_a, .inl (g.2.2.1, d_words_n, .inr (.inl d_words))), (p_o, .inr (2, [.int p_lastUsable, .ref p_sorts_a, .ref p_starts_a, .ref p_lengths_a, .int p_partitions, .ref p_names_a, .ref p_sizes_a, .ref p_seeds_a, .ref p_scattered_a, .int p_files, .int p_kernelAddress])), (p_names_a, .inl (g.2.2.1, 12, .inr (.inl p_names))), (p_sizes_a, .inl (g.2.1, 12, .inl p_sizes)), (p_seeds_a, .inl (g.2.1, 12, .inl p_seeds)), (v_o, .inr (3, [.int v_start, .int v_length, .int v_tableSectors, .int v_clusters, .ref v_next_a, .ref v_firstClusters_a, .ref v_runStarts_a, .ref v_runLengths_a, .int v_runs])), (v_next_a, .inl (g.2.1, v_next_n, .inl v_next)), (v_firstClusters_a, .inl (g.2.1, 12, .inl v_firstClusters))]
def f_Writer_writeFile_L47 (v54 : Int32) (p_seeds : Nat → Int32) (a1 : Int32) (p_sizes : Nat → Int32) (p_names : Nat → Int64) (v_start : Int32) (p_kernelAddress : Int32) (d_length : Int32) (d_words_n : Nat) (v_tableSectors : Int32) (v_next_n : Nat) (v_next : Nat → Int32) (k47 : Int32 → Int32 → Int32 → (Nat → Int64) → Option ((Nat → Int64))) (x75 : Int32) (x76 : Int32) (x77 : Int32) (x78 : Nat → Int64) : Option ((Nat → Int64)) :=
  if v54 ≤ x75 then some (x78) else lt_ (x75 - x75 / 512 * 512) (fun v93 => lt_ (fun (x97 : Int32) (x98 : Int32) => lt_ (x75 - x75 / 512 * 512) (fun v99 => lt_ (x97 + v99) (fun v100 => bd_ (f_Plan_fileByte p_seeds a1 x75 p_sizes p_names v_start p_kernelAddress) (fun u101 => bd_ (f_Store_put v100 x78 d_length d_words_n u101) (fun u102 => lt_ (x75 + 1) (fun v103 => k47 v103 x97 x98 u102)))))) (fun (j85 : Int32 → Int32 → Option ((Nat → Int64))) => if ¬ v93 = 0 then j85 x76 x77 else bd_ (f_Volume_sectorOf v_start v_tableSectors x77) (fun u104 => lt_ (u104 * 512) (fun v105 => bd_ (f_Volume_follower x77 v_next_n v_next) (fun u106 => j85 v105 u106)))))
def f_Writer_writeFile (N : Nat) (p_sizes : Nat → Int32) (a1 : Int32) (v_start : Int32) (v_tableSectors : Int32) (d_length : Int32) (d_words_n : Nat) (d_words : Nat → Int64) (v_firstClusters : Nat → Int32) (p_names : Nat → Int64) (p_seeds : Nat → Int32) (p_kernelAddress : Int32) (v_next_n : Nat) (v_next : Nat → Int32) : Option ((Nat → Int64)) :=
  ix_ 12 p_sizes a1 (fun (v54 : Int32) => bd_ (f_Volume_directorySector v_start v_tableSectors) (fun u55 => lt_ (u55 * 512) (fun v56 => lt_ (a1 * 32) (fun v57 => lt_ (v56 + v57) (fun v58 => bd_ (f_Writer_writeDirectoryEntry N v58 d_length d_words_n d_words v_firstClusters a1 p_sizes p_names) (fun u59 => ix_ 12 v_firstClusters a1 (fun (v60 : Int32) => lp_ (fun _ _ _ _ => none) (f_Writer_writeFile_L47 v54 p_seeds a1 p_sizes p_names v_start p_kernelAddress d_length d_words_n v_tableSectors v_next_n v_next) N 0 0 v60 u59)))))))
def rm_Writer_writeFile : Room := { frames := 6, cells := 0, slots := 0, locals := 133 }
set_option maxHeartbeats 4000000 in
set_option maxRecDepth 100000 in
theorem c_Writer_writeFile (l : Launch) (g : GT) (E : (Nat → Prop) → State → Prop) (hEe : Ee E) (X : XT) (hS : ∀ (A : Nat → Prop) (u : State), E A u → SS X A u) (t_o : Nat) (d_o : Nat) (d_words_a : Nat) (p_o : Nat) (p_names_a : Nat) (p_sizes_a : Nat) (p_seeds_a : Nat) (v_o : Nat) (v_next_a : Nat) (v_firstClusters_a : Nat) (u_o : Nat) (p_sorts_a : Nat) (p_starts_a : Nat) (p_lengths_a : Nat) (p_scattered_a : Nat) (v_runStarts_a : Nat) (v_runLengths_a : Nat) (d_words_n : Nat) (v_next_n : Nat) (t_sectors : Int32) (d_length : Int32) (d_words : Nat → Int64) (p_lastUsable : Int32) (p_partitions : Int32) (p_files : Int32) (p_kernelAddress : Int32) (p_names : Nat → Int64) (p_sizes : Nat → Int32) (p_seeds : Nat → Int32) (v_start : Int32) (v_length : Int32) (v_tableSectors : Int32) (v_clusters : Int32) (v_runs : Int32) (v_next : Nat → Int32) (v_firstClusters : Nat → Int32) (a1 : Int32) (N : Nat) (z : (Nat → Int64)) (hf : f_Writer_writeFile N p_sizes a1 v_start v_tableSectors d_length d_words_n d_words v_firstClusters p_names p_seeds p_kernelAddress v_next_n v_next = some z) : Cg l g E y_Writer_writeFile ws_Writer_writeFile rm_Writer_writeFile [.ref t_o, .int a1] (wd_Writer_writeFile g t_o d_o d_words_a p_o p_names_a p_sizes_a p_seeds_a v_o v_next_a v_firstClusters_a u_o p_sorts_a p_starts_a p_lengths_a p_scattered_a v_runStarts_a v_runLengths_a d_words_n v_next_n t_sectors d_length d_words p_lastUsable p_partitions p_files p_kernelAddress p_names p_sizes p_seeds v_start v_length v_tableSectors v_clusters v_runs v_next v_firstClusters) none (wd_Writer_writeFile g t_o d_o d_words_a p_o p_names_a p_sizes_a p_seeds_a v_o v_next_a v_firstClusters_a u_o p_sorts_a p_starts_a p_lengths_a p_scattered_a v_runStarts_a v_runLengths_a d_words_n v_next_n t_sectors d_length z p_lastUsable p_partitions p_files p_kernelAddress p_names p_sizes p_seeds v_start v_length v_tableSectors v_clusters v_runs v_next v_firstClusters) := by
  refine Ct.ofV hEe good_W (by decide) rfl (Nat.le_of_ble_eq_true rfl) ?_
  intro p e s m args below meth c A ls Q hC hw hl hret
  have hC : CX p m c b_Writer_writeFile 6 s args Wall R_Writer g.1 classes (tK g) E A := hC
  have hl : lv_has ls 6 [(0, .ref t_o), (1, .int a1)] := hl
  unfold f_Writer_writeFile at hf
  refine n_aload_n hC hl 0 d_Writer_writeFile_0 rfl rfl ?_
  refine n_get hC hw fg_Writer_19 0 rfl rfl d_Writer_writeFile_1 ?_
  refine n_get hC hw fg_Writer_97 3 rfl rfl d_Writer_writeFile_4 ?_
  refine n_iload_n hC hl 1 d_Writer_writeFile_7 rfl rfl ?_
  refine n_iald hC hw hf 5 0 rfl rfl d_Writer_writeFile_8 (fun v54 hf => ?_)
  refine n_istore_n hC [(2, .int v54), (0, .ref t_o), (1, .int a1)] hl d_Writer_writeFile_9 rfl (by decide) rfl (fun ls hl => ?_)
  refine n_aload_n hC hl 1 d_Writer_writeFile_10 rfl rfl ?_
  refine n_aload_n hC hl 1 d_Writer_writeFile_11 rfl rfl ?_
  refine n_get hC hw fg_Writer_32 0 rfl rfl d_Writer_writeFile_12 ?_
  obtain ⟨u55, hu55, hf⟩ := bd_s hf
  refine n_callVi hC hw fc_Writer_236 (c_Volume_directorySector l g E hEe v_o v_next_a v_firstClusters_a v_runStarts_a v_runLengths_a v_start v_length v_tableSectors v_clusters v_runs u55 hu55) [7] (wd_Writer_writeFile g t_o d_o d_words_a p_o p_names_a p_sizes_a p_seeds_a v_o v_next_a v_firstClusters_a u_o p_sorts_a p_starts_a p_lengths_a p_scattered_a v_runStarts_a v_runLengths_a d_words_n v_next_n t_sectors d_length d_words p_lastUsable p_partitions p_files p_kernelAddress p_names p_sizes p_seeds v_start v_length v_tableSectors v_clusters v_runs v_next v_firstClusters) 7 rfl ⟨rfl, rfl⟩ ⟨Nat.le_of_ble_eq_true rfl, Nat.le_of_ble_eq_true rfl⟩ rfl (At_.cons rfl At_.nil) (At_.cons rfl At_.nil) Sm_.refl rfl hl.1 (Nat.le_of_ble_eq_true rfl) ⟨Nat.zero_le _, Nat.zero_le _⟩ d_Writer_writeFile_15 (fun H locs hw => ?_) rfl
  refine n_sipush hC 512 d_Writer_writeFile_18 (by decide) ?_
  refine n_imul hC hf d_Writer_writeFile_21 (fun v56 hf => ?_)
  refine n_iload_n hC hl 2 d_Writer_writeFile_22 rfl rfl ?_
  refine n_bipush hC 32 d_Writer_writeFile_23 (by decide) ?_
  refine n_imul hC hf d_Writer_writeFile_25 (fun v57 hf => ?_)
  refine n_iadd hC hf d_Writer_writeFile_26 (fun v58 hf => ?_)
  refine n_iload_n hC hl 2 d_Writer_writeFile_27 rfl rfl ?_
  obtain ⟨u59, hu59, hf⟩ := bd_s hf
  refine n_callVv hC hw fc_Writer_239 (c_Writer_writeDirectoryEntry l g E hEe X hS t_o d_o d_words_a p_o p_names_a p_sizes_a v_o v_firstClusters_a u_o p_sorts_a p_starts_a p_lengths_a p_seeds_a p_scattered_a v_next_a v_runStarts_a v_runLengths_a d_words_n t_sectors d_length d_words p_lastUsable p_partitions p_files p_kernelAddress p_names p_sizes v_start v_length v_tableSectors v_clusters v_runs v_firstClusters v58 a1 N u59 hu59) [0, 1, 2, 3, 4, 5, 7, 9] (wd_Writer_writeFile g t_o d_o d_words_a p_o p_names_a p_sizes_a p_seeds_a v_o v_next_a v_firstClusters_a u_o p_sorts_a p_starts_a p_lengths_a p_scattered_a v_runStarts_a v_runLengths_a d_words_n v_next_n t_sectors d_length u59 p_lastUsable p_partitions p_files p_kernelAddress p_names p_sizes p_seeds v_start v_length v_tableSectors v_clusters v_runs v_next v_firstClusters) 0 rfl ⟨rfl, rfl⟩ ⟨Nat.le_of_ble_eq_true rfl, Nat.le_of_ble_eq_true rfl⟩ rfl (At_.cons rfl (At_.cons rfl (At_.cons rfl (At_.cons rfl (At_.cons rfl (At_.cons rfl (At_.cons rfl (At_.cons rfl At_.nil)))))))) (At_.cons rfl (At_.cons rfl (At_.cons rfl (At_.cons rfl (At_.cons rfl (At_.cons rfl (At_.cons rfl (At_.cons rfl At_.nil)))))))) (Sm_.keep (Sm_.keep (Sm_.upd rfl (Sm_.keep (Sm_.keep (Sm_.keep (Sm_.keep (Sm_.keep (Sm_.keep (Sm_.keep Sm_.nil)))))))))) rfl hl.1 (Nat.le_of_ble_eq_true rfl) ⟨Nat.zero_le _, Nat.zero_le _⟩ d_Writer_writeFile_28 (fun H locs hw => ?_) rfl
  refine n_aload_n hC hl 1 d_Writer_writeFile_31 rfl rfl ?_
  refine n_get hC hw fg_Writer_32 0 rfl rfl d_Writer_writeFile_32 ?_
  refine n_get hC hw fg_Writer_242 7 rfl rfl d_Writer_writeFile_35 ?_
  refine n_iload_n hC hl 2 d_Writer_writeFile_38 rfl rfl ?_
  refine n_iald hC hw hf 9 0 rfl rfl d_Writer_writeFile_39 (fun v60 hf => ?_)
  refine n_istore_n hC [(3, .int v60), (2, .int v54), (0, .ref t_o), (1, .int a1)] hl d_Writer_writeFile_40 rfl (by decide) rfl (fun ls hl => ?_)
  refine n_iconst hC 0 d_Writer_writeFile_41 (by decide) ?_
  refine n_istore hC [(4, .int 0), (3, .int v60), (2, .int v54), (0, .ref t_o), (1, .int a1)] hl d_Writer_writeFile_42 (by decide) rfl (fun ls hl => ?_)
  refine n_iconst hC 0 d_Writer_writeFile_44 (by decide) ?_
  refine n_istore hC [(5, .int 0), (4, .int 0), (3, .int v60), (2, .int v54), (0, .ref t_o), (1, .int a1)] hl d_Writer_writeFile_45 (by decide) rfl (fun ls hl => ?_)
  have hL47 := lw4 (B := f_Writer_writeFile_L47 v54 p_seeds a1 p_sizes p_names v_start p_kernelAddress d_length d_words_n v_tableSectors v_next_n v_next) (z := z) (fun (x75 : Int32) (x76 : Int32) (x77 : Int32) (x78 : Nat → Int64) => ∀ (H : Heap) (locs : List Loc) (ls : Array Slot), WS g.1 classes A s.heap H locs (wd_Writer_writeFile g t_o d_o d_words_a p_o p_names_a p_sizes_a p_seeds_a v_o v_next_a v_firstClusters_a u_o p_sorts_a p_starts_a p_lengths_a p_scattered_a v_runStarts_a v_runLengths_a d_words_n v_next_n t_sectors d_length x78 p_lastUsable p_partitions p_files p_kernelAddress p_names p_sizes p_seeds v_start v_length v_tableSectors v_clusters v_runs v_next v_firstClusters) → lv_has ls 6 [(5, .int x75), (4, .int x76), (3, .int x77), (2, .int v54), (0, .ref t_o), (1, .int a1)] → W p l e rm_Writer_writeFile s m args below meth c H locs 0 0 Q (F0 m 47 ls [])) (by
    intro k47 hk47 x75 x76 x77 x78 hf H locs ls hw hl
    unfold f_Writer_writeFile_L47 at hf
    refine n_iload hC hl 0 d_Writer_writeFile_47 rfl ?_
    refine n_iload_n hC hl 3 d_Writer_writeFile_49 rfl rfl ?_
    refine n_icmp_ge hC hf 124 d_Writer_writeFile_50 (by decide) (fun hf => ?_) (fun hf => ?_)
    · cases hf
      exact hret _ _ _ _ hw d_Writer_writeFile_124
    · refine n_iload hC hl 0 d_Writer_writeFile_53 rfl ?_
      refine n_sipush hC 512 d_Writer_writeFile_55 (by decide) ?_
      refine n_irem hC hf d_Writer_writeFile_58 (by decide) (fun v93 hf => ?_)
      refine jn2 (fun (x97 : Int32) (x98 : Int32) => ∀ (H : Heap) (locs : List Loc) (ls : Array Slot), WS g.1 classes A s.heap H locs (wd_Writer_writeFile g t_o d_o d_words_a p_o p_names_a p_sizes_a p_seeds_a v_o v_next_a v_firstClusters_a u_o p_sorts_a p_starts_a p_lengths_a p_scattered_a v_runStarts_a v_runLengths_a d_words_n v_next_n t_sectors d_length x78 p_lastUsable p_partitions p_files p_kernelAddress p_names p_sizes p_seeds v_start v_length v_tableSectors v_clusters v_runs v_next v_firstClusters) → lv_has ls 6 [(5, .int x75), (4, .int x97), (3, .int x98), (2, .int v54), (0, .ref t_o), (1, .int a1)] → W p l e rm_Writer_writeFile s m args below meth c H locs 0 0 Q (F0 m 85 ls [])) hf (fun x97 x98 hf H locs ls hw hl => ?_) (fun j85 hj85 hf => ?_)
      · refine n_aload_n hC hl 4 d_Writer_writeFile_85 rfl rfl ?_
        refine n_get hC hw fg_Writer_9 0 rfl rfl d_Writer_writeFile_86 ?_
        refine n_iload hC hl 1 d_Writer_writeFile_89 rfl ?_
        refine n_iload hC hl 0 d_Writer_writeFile_91 rfl ?_
        refine n_sipush hC 512 d_Writer_writeFile_93 (by decide) ?_
        refine n_irem hC hf d_Writer_writeFile_96 (by decide) (fun v99 hf => ?_)
        refine n_iadd hC hf d_Writer_writeFile_97 (fun v100 hf => ?_)
        refine n_aload_n hC hl 4 d_Writer_writeFile_98 rfl rfl ?_
        refine n_get hC hw fg_Writer_19 0 rfl rfl d_Writer_writeFile_99 ?_
        refine n_iload_n hC hl 5 d_Writer_writeFile_102 rfl rfl ?_
        refine n_iload hC hl 0 d_Writer_writeFile_103 rfl ?_
        refine n_aload_n hC hl 4 d_Writer_writeFile_105 rfl rfl ?_
        refine n_get hC hw fg_Writer_32 0 rfl rfl d_Writer_writeFile_106 ?_
        refine n_get hC hw fg_Writer_142 7 rfl rfl d_Writer_writeFile_109 ?_
        obtain ⟨u101, hu101, hf⟩ := bd_s hf
        refine n_callVi hC hw fc_Writer_145 (c_Plan_fileByte l g E hEe X hS p_o p_names_a p_sizes_a p_seeds_a p_sorts_a p_starts_a p_lengths_a p_scattered_a p_lastUsable p_partitions p_files p_kernelAddress p_names p_sizes p_seeds a1 x75 v_start u101 hu101) [3, 4, 5, 6] (wd_Writer_writeFile g t_o d_o d_words_a p_o p_names_a p_sizes_a p_seeds_a v_o v_next_a v_firstClusters_a u_o p_sorts_a p_starts_a p_lengths_a p_scattered_a v_runStarts_a v_runLengths_a d_words_n v_next_n t_sectors d_length x78 p_lastUsable p_partitions p_files p_kernelAddress p_names p_sizes p_seeds v_start v_length v_tableSectors v_clusters v_runs v_next v_firstClusters) 3 rfl ⟨rfl, rfl⟩ ⟨Nat.le_of_ble_eq_true rfl, Nat.le_of_ble_eq_true rfl⟩ rfl (At_.cons rfl (At_.cons rfl (At_.cons rfl (At_.cons rfl At_.nil)))) (At_.cons rfl (At_.cons rfl (At_.cons rfl (At_.cons rfl At_.nil)))) Sm_.refl rfl hl.1 (Nat.le_of_ble_eq_true rfl) ⟨Nat.zero_le _, Nat.zero_le _⟩ d_Writer_writeFile_112 (fun H locs hw => ?_) rfl
        obtain ⟨u102, hu102, hf⟩ := bd_s hf
        refine n_callVv hC hw fc_Writer_104 (c_Store_put l g E hEe d_o d_words_a d_words_n d_length x78 v100 u101 u102 hu102) [1, 2] (wd_Writer_writeFile g t_o d_o d_words_a p_o p_names_a p_sizes_a p_seeds_a v_o v_next_a v_firstClusters_a u_o p_sorts_a p_starts_a p_lengths_a p_scattered_a v_runStarts_a v_runLengths_a d_words_n v_next_n t_sectors d_length u102 p_lastUsable p_partitions p_files p_kernelAddress p_names p_sizes p_seeds v_start v_length v_tableSectors v_clusters v_runs v_next v_firstClusters) 1 rfl ⟨rfl, rfl⟩ ⟨Nat.le_of_ble_eq_true rfl, Nat.le_of_ble_eq_true rfl⟩ rfl (At_.cons rfl (At_.cons rfl At_.nil)) (At_.cons rfl (At_.cons rfl At_.nil)) (Sm_.keep (Sm_.keep (Sm_.upd rfl (Sm_.keep (Sm_.keep (Sm_.keep (Sm_.keep (Sm_.keep (Sm_.keep (Sm_.keep Sm_.nil)))))))))) rfl hl.1 (Nat.le_of_ble_eq_true rfl) ⟨Nat.zero_le _, Nat.zero_le _⟩ d_Writer_writeFile_115 (fun H locs hw => ?_) rfl
        refine n_iinc hC (k := 0) hf (by decide) (fun v103 => [(5, .int v103), (4, .int x97), (3, .int x98), (2, .int v54), (0, .ref t_o), (1, .int a1)]) hl d_Writer_writeFile_118 rfl (by decide) (fun _ => rfl) (fun v103 ls hf hl => ?_)
        refine n_goto hC 47 d_Writer_writeFile_121 (by decide) ?_
        exact hk47 _ _ _ _ hf _ _ _ hw (lv_sub hl [0, 1, 2, 3, 4, 5] rfl)
      refine n_if_ne hC hf 85 d_Writer_writeFile_59 (by decide) (fun hf => ?_) (fun hf => ?_)
      · exact hj85 _ _ hf _ _ _ hw (lv_sub hl [0, 1, 2, 3, 4, 5] rfl)
      · refine n_aload_n hC hl 4 d_Writer_writeFile_62 rfl rfl ?_
        refine n_get hC hw fg_Writer_32 0 rfl rfl d_Writer_writeFile_63 ?_
        refine n_iload_n hC hl 2 d_Writer_writeFile_66 rfl rfl ?_
        obtain ⟨u104, hu104, hf⟩ := bd_s hf
        refine n_callVi hC hw fc_Writer_245 (c_Volume_sectorOf l g E hEe v_o v_next_a v_firstClusters_a v_runStarts_a v_runLengths_a v_start v_length v_tableSectors v_clusters v_runs x77 u104 hu104) [7] (wd_Writer_writeFile g t_o d_o d_words_a p_o p_names_a p_sizes_a p_seeds_a v_o v_next_a v_firstClusters_a u_o p_sorts_a p_starts_a p_lengths_a p_scattered_a v_runStarts_a v_runLengths_a d_words_n v_next_n t_sectors d_length x78 p_lastUsable p_partitions p_files p_kernelAddress p_names p_sizes p_seeds v_start v_length v_tableSectors v_clusters v_runs v_next v_firstClusters) 7 rfl ⟨rfl, rfl⟩ ⟨Nat.le_of_ble_eq_true rfl, Nat.le_of_ble_eq_true rfl⟩ rfl (At_.cons rfl At_.nil) (At_.cons rfl At_.nil) Sm_.refl rfl hl.1 (Nat.le_of_ble_eq_true rfl) ⟨Nat.zero_le _, Nat.zero_le _⟩ d_Writer_writeFile_67 (fun H locs hw => ?_) rfl
        refine n_sipush hC 512 d_Writer_writeFile_70 (by decide) ?_
        refine n_imul hC hf d_Writer_writeFile_73 (fun v105 hf => ?_)
        refine n_istore hC [(4, .int v105), (5, .int x75), (3, .int x77), (2, .int v54), (0, .ref t_o), (1, .int a1)] hl d_Writer_writeFile_74 (by decide) rfl (fun ls hl => ?_)
        refine n_aload_n hC hl 4 d_Writer_writeFile_76 rfl rfl ?_
        refine n_get hC hw fg_Writer_32 0 rfl rfl d_Writer_writeFile_77 ?_
        refine n_iload_n hC hl 2 d_Writer_writeFile_80 rfl rfl ?_
        obtain ⟨u106, hu106, hf⟩ := bd_s hf
        refine n_callVi hC hw fc_Writer_230 (c_Volume_follower l g E hEe v_o v_next_a v_firstClusters_a v_runStarts_a v_runLengths_a v_next_n v_start v_length v_tableSectors v_clusters v_runs v_next x77 u106 hu106) [7, 8] (wd_Writer_writeFile g t_o d_o d_words_a p_o p_names_a p_sizes_a p_seeds_a v_o v_next_a v_firstClusters_a u_o p_sorts_a p_starts_a p_lengths_a p_scattered_a v_runStarts_a v_runLengths_a d_words_n v_next_n t_sectors d_length x78 p_lastUsable p_partitions p_files p_kernelAddress p_names p_sizes p_seeds v_start v_length v_tableSectors v_clusters v_runs v_next v_firstClusters) 7 rfl ⟨rfl, rfl⟩ ⟨Nat.le_of_ble_eq_true rfl, Nat.le_of_ble_eq_true rfl⟩ rfl (At_.cons rfl (At_.cons rfl At_.nil)) (At_.cons rfl (At_.cons rfl At_.nil)) Sm_.refl rfl hl.1 (Nat.le_of_ble_eq_true rfl) ⟨Nat.zero_le _, Nat.zero_le _⟩ d_Writer_writeFile_81 (fun H locs hw => ?_) rfl
        refine n_istore_n hC [(3, .int u106), (4, .int v105), (5, .int x75), (2, .int v54), (0, .ref t_o), (1, .int a1)] hl d_Writer_writeFile_84 rfl (by decide) rfl (fun ls hl => ?_)
        exact hj85 _ _ hf _ _ _ hw (lv_sub hl [2, 1, 0, 3, 4, 5] rfl)
    )
  exact hL47 N _ _ _ _ hf _ _ _ hw (lv_sub hl [0, 1, 2, 3, 4, 5] rfl)
def wd_Writer_layOut (g : GT) (t_o : Nat) (p_o : Nat) (p_sorts_a : Nat) (p_starts_a : Nat) (p_lengths_a : Nat) (p_names_a : Nat) (p_sizes_a : Nat) (p_scattered_a : Nat) (v_o : Nat) (v_next_a : Nat) (v_firstClusters_a : Nat) (v_runStarts_a : Nat) (v_runLengths_a : Nat) (d_o : Nat) (u_o : Nat) (p_seeds_a : Nat) (v_next_n : Nat) (t_sectors : Int32) (p_lastUsable : Int32) (p_partitions : Int32) (p_files : Int32) (p_kernelAddress : Int32) (p_sorts : Nat → Int32) (p_starts : Nat → Int32) (p_lengths : Nat → Int32) (p_names : Nat → Int64) (p_sizes : Nat → Int32) (p_scattered : Nat → Int32) (v_start : Int32) (v_length : Int32) (v_tableSectors : Int32) (v_clusters : Int32) (v_runs : Int32) (v_next : Nat → Int32) (v_firstClusters : Nat → Int32) (v_runStarts : Nat → Int32) (v_runLengths : Nat → Int32) : va_W := [(t_o, .inr (4, [.ref d_o, .int t_sectors, .ref p_o, .ref u_o, .ref v_o])), (p_o, .inr (2, [.int p_lastUsable, .ref p_sorts_a, .ref p_starts_a, .ref p_lengths_a, .int p_partitions, .ref p_names_a, .ref p_sizes_a, .ref p_seeds_a, .ref p_scattered_a, .int p_files, .int p_kernelAddress])), (p_sorts_a, .inl (g.2.1, 4, .inl p_sorts)), (p_starts_a, .inl (g.2.1, 4, .inl p_starts)), (p_lengths_a, .inl (g.2.1, 4, .inl p_lengths)), (p_names_a, .inl (g.2.2.1, 12, .inr (.inl p_names))), (p_sizes_a, .inl (g.2.1, 12, .inl p_sizes)), (p_scattered_a, .inl (g.2.2.2.1, 12, .inl p_scattered)), (v_o, .inr (3, [.int v_start, .int v_length, .int v_tableSectors, .int v_clusters, .ref v_next_a, .ref v_firstClusters_a, .ref v_runStarts_a, .ref v_runLengths_a, .int v_runs])), (v_next_a, .inl (g.2.1, v_next_n, .inl v_next)), (v_firstClusters_a, .inl (g.2.1, 12, .inl v_firstClusters)), (v_runStarts_a, .inl (g.2.1, 20, .inl v_runStarts)), (v_runLengths_a, .inl (g.2.1, 20, .inl v_runLengths))]
def f_Writer_layOut (N : Nat) (p_partitions : Int32) (p_sorts : Nat → Int32) (p_starts : Nat → Int32) (p_lengths : Nat → Int32) (v_next_n : Nat) (p_files : Int32) (v_next : Nat → Int32) (p_sizes : Nat → Int32) (p_scattered : Nat → Int32) (v_firstClusters : Nat → Int32) (p_names : Nat → Int64) (v_runStarts : Nat → Int32) (v_runLengths : Nat → Int32) (v_start : Int32) (v_length : Int32) (v_tableSectors : Int32) : Option (Int32 × Int32 × Int32 × Int32 × Int32 × Int32 × (Nat → Int32) × (Nat → Int32) × (Nat → Int32) × (Nat → Int32)) :=
  bd_ (f_Volume_forget ) (fun u11 => bd_ (f_Plan_bootPartition N p_partitions p_sorts) (fun u12 => if ¬ u12 = ((-1) : Int32) then ix_ 4 p_starts u12 (fun (v13 : Int32) => ix_ 4 p_lengths u12 (fun (v14 : Int32) => bd_ (f_Volume_lieIn N v14 v13) (fun u15 => bd_ (f_Volume_isPossible u15.2.2.2 v_next_n) (fun u16 => if ¬ u16 = 0 then bd_ (f_Volume_placeFiles N p_files u15.2.2.2 v_next_n v_next p_sizes p_scattered v_firstClusters) (fun u17 => if ¬ u17.1 = 0 then bd_ (f_Plan_fileNamed N p_files p_names 83903281120594) (fun u18 => if u18 = ((-1) : Int32) then some (0, u15.1, u15.2.1, u15.2.2.1, u15.2.2.2, u11.2, u17.2.1, u17.2.2, v_runStarts, v_runLengths) else ix_ 12 p_sizes u18 (fun (v19 : Int32) => bd_ (f_Volume_findRuns N u17.2.2 u18 v19 u15.1 u15.2.2.1 v_next_n u17.2.1 u11.2 v_runStarts v_runLengths) (fun u20 => if ¬ u20.1 = 0 then some (0, u15.1, u15.2.1, u15.2.2.1, u15.2.2.2, u20.2.1, u17.2.1, u17.2.2, u20.2.2.1, u20.2.2.2) else some (3, u15.1, u15.2.1, u15.2.2.1, u15.2.2.2, u20.2.1, u17.2.1, u17.2.2, u20.2.2.1, u20.2.2.2)))) else some (2, u15.1, u15.2.1, u15.2.2.1, u15.2.2.2, u11.2, u17.2.1, u17.2.2, v_runStarts, v_runLengths)) else if p_files ≤ 0 then some (0, u15.1, u15.2.1, u15.2.2.1, u15.2.2.2, u11.2, v_next, v_firstClusters, v_runStarts, v_runLengths) else some (2, u15.1, u15.2.1, u15.2.2.1, u15.2.2.2, u11.2, v_next, v_firstClusters, v_runStarts, v_runLengths))))) else if p_files ≤ 0 then some (0, v_start, v_length, v_tableSectors, u11.1, u11.2, v_next, v_firstClusters, v_runStarts, v_runLengths) else some (1, v_start, v_length, v_tableSectors, u11.1, u11.2, v_next, v_firstClusters, v_runStarts, v_runLengths)))
def rm_Writer_layOut : Room := { frames := 3, cells := 0, slots := 0, locals := 72 }
set_option maxHeartbeats 4000000 in
set_option maxRecDepth 100000 in
theorem c_Writer_layOut (l : Launch) (g : GT) (E : (Nat → Prop) → State → Prop) (hEe : Ee E) (t_o : Nat) (p_o : Nat) (p_sorts_a : Nat) (p_starts_a : Nat) (p_lengths_a : Nat) (p_names_a : Nat) (p_sizes_a : Nat) (p_scattered_a : Nat) (v_o : Nat) (v_next_a : Nat) (v_firstClusters_a : Nat) (v_runStarts_a : Nat) (v_runLengths_a : Nat) (d_o : Nat) (u_o : Nat) (p_seeds_a : Nat) (v_next_n : Nat) (t_sectors : Int32) (p_lastUsable : Int32) (p_partitions : Int32) (p_files : Int32) (p_kernelAddress : Int32) (p_sorts : Nat → Int32) (p_starts : Nat → Int32) (p_lengths : Nat → Int32) (p_names : Nat → Int64) (p_sizes : Nat → Int32) (p_scattered : Nat → Int32) (v_start : Int32) (v_length : Int32) (v_tableSectors : Int32) (v_clusters : Int32) (v_runs : Int32) (v_next : Nat → Int32) (v_firstClusters : Nat → Int32) (v_runStarts : Nat → Int32) (v_runLengths : Nat → Int32) (N : Nat) (z : Int32 × Int32 × Int32 × Int32 × Int32 × Int32 × (Nat → Int32) × (Nat → Int32) × (Nat → Int32) × (Nat → Int32)) (hf : f_Writer_layOut N p_partitions p_sorts p_starts p_lengths v_next_n p_files v_next p_sizes p_scattered v_firstClusters p_names v_runStarts v_runLengths v_start v_length v_tableSectors = some z) : Cg l g E y_Writer_layOut ws_Writer_layOut rm_Writer_layOut [.ref t_o] (wd_Writer_layOut g t_o p_o p_sorts_a p_starts_a p_lengths_a p_names_a p_sizes_a p_scattered_a v_o v_next_a v_firstClusters_a v_runStarts_a v_runLengths_a d_o u_o p_seeds_a v_next_n t_sectors p_lastUsable p_partitions p_files p_kernelAddress p_sorts p_starts p_lengths p_names p_sizes p_scattered v_start v_length v_tableSectors v_clusters v_runs v_next v_firstClusters v_runStarts v_runLengths) (some (.int z.1)) (wd_Writer_layOut g t_o p_o p_sorts_a p_starts_a p_lengths_a p_names_a p_sizes_a p_scattered_a v_o v_next_a v_firstClusters_a v_runStarts_a v_runLengths_a d_o u_o p_seeds_a v_next_n t_sectors p_lastUsable p_partitions p_files p_kernelAddress p_sorts p_starts p_lengths p_names p_sizes p_scattered z.2.1 z.2.2.1 z.2.2.2.1 z.2.2.2.2.1 z.2.2.2.2.2.1 z.2.2.2.2.2.2.1 z.2.2.2.2.2.2.2.1 z.2.2.2.2.2.2.2.2.1 z.2.2.2.2.2.2.2.2.2) := by
  refine Ct.ofI hEe good_W (by decide) rfl (Nat.le_of_ble_eq_true rfl) ?_
  intro p e s m args below meth c A ls Q hC hw hl hret
  have hC : CX p m c b_Writer_layOut 3 s args Wall R_Writer g.1 classes (tK g) E A := hC
  have hl : lv_has ls 3 [(0, .ref t_o)] := hl
  unfold f_Writer_layOut at hf
  refine n_aload_n hC hl 0 d_Writer_layOut_0 rfl rfl ?_
  refine n_get hC hw fg_Writer_32 0 rfl rfl d_Writer_layOut_1 ?_
  obtain ⟨u11, hu11, hf⟩ := bd_s hf
  refine n_callVv hC hw fc_Writer_70 (c_Volume_forget l g E hEe v_o v_next_a v_firstClusters_a v_runStarts_a v_runLengths_a v_start v_length v_tableSectors v_clusters v_runs u11 hu11) [8] (wd_Writer_layOut g t_o p_o p_sorts_a p_starts_a p_lengths_a p_names_a p_sizes_a p_scattered_a v_o v_next_a v_firstClusters_a v_runStarts_a v_runLengths_a d_o u_o p_seeds_a v_next_n t_sectors p_lastUsable p_partitions p_files p_kernelAddress p_sorts p_starts p_lengths p_names p_sizes p_scattered v_start v_length v_tableSectors u11.1 u11.2 v_next v_firstClusters v_runStarts v_runLengths) 8 rfl ⟨rfl, rfl⟩ ⟨Nat.le_of_ble_eq_true rfl, Nat.le_of_ble_eq_true rfl⟩ rfl (At_.cons rfl At_.nil) (At_.cons rfl At_.nil) (Sm_.keep (Sm_.keep (Sm_.keep (Sm_.keep (Sm_.keep (Sm_.keep (Sm_.keep (Sm_.keep (Sm_.upd rfl (Sm_.keep (Sm_.keep (Sm_.keep (Sm_.keep Sm_.nil))))))))))))) rfl hl.1 (Nat.le_of_ble_eq_true rfl) ⟨Nat.zero_le _, Nat.zero_le _⟩ d_Writer_layOut_4 (fun H locs hw => ?_) rfl
  refine n_aload_n hC hl 0 d_Writer_layOut_7 rfl rfl ?_
  refine n_get hC hw fg_Writer_19 0 rfl rfl d_Writer_layOut_8 ?_
  obtain ⟨u12, hu12, hf⟩ := bd_s hf
  refine n_callVi hC hw fc_Writer_73 (c_Plan_bootPartition l g E hEe p_o p_sorts_a p_starts_a p_lengths_a p_names_a p_sizes_a p_seeds_a p_scattered_a p_lastUsable p_partitions p_files p_kernelAddress p_sorts N u12 hu12) [1, 2] (wd_Writer_layOut g t_o p_o p_sorts_a p_starts_a p_lengths_a p_names_a p_sizes_a p_scattered_a v_o v_next_a v_firstClusters_a v_runStarts_a v_runLengths_a d_o u_o p_seeds_a v_next_n t_sectors p_lastUsable p_partitions p_files p_kernelAddress p_sorts p_starts p_lengths p_names p_sizes p_scattered v_start v_length v_tableSectors u11.1 u11.2 v_next v_firstClusters v_runStarts v_runLengths) 1 rfl ⟨rfl, rfl⟩ ⟨Nat.le_of_ble_eq_true rfl, Nat.le_of_ble_eq_true rfl⟩ rfl (At_.cons rfl (At_.cons rfl At_.nil)) (At_.cons rfl (At_.cons rfl At_.nil)) Sm_.refl rfl hl.1 (Nat.le_of_ble_eq_true rfl) ⟨Nat.zero_le _, Nat.zero_le _⟩ d_Writer_layOut_11 (fun H locs hw => ?_) rfl
  refine n_istore_n hC [(1, .int u12), (0, .ref t_o)] hl d_Writer_layOut_14 rfl (by decide) rfl (fun ls hl => ?_)
  refine n_iload_n hC hl 0 d_Writer_layOut_15 rfl rfl ?_
  refine n_iconst hC (-1) d_Writer_layOut_16 (by decide) ?_
  refine n_icmp_ne hC hf 36 d_Writer_layOut_17 (by decide) (fun hf => ?_) (fun hf => ?_)
  · refine n_aload_n hC hl 1 d_Writer_layOut_36 rfl rfl ?_
    refine n_get hC hw fg_Writer_32 0 rfl rfl d_Writer_layOut_37 ?_
    refine n_aload_n hC hl 1 d_Writer_layOut_40 rfl rfl ?_
    refine n_get hC hw fg_Writer_19 0 rfl rfl d_Writer_layOut_41 ?_
    refine n_get hC hw fg_Writer_76 1 rfl rfl d_Writer_layOut_44 ?_
    refine n_iload_n hC hl 0 d_Writer_layOut_47 rfl rfl ?_
    refine n_iald hC hw hf 3 0 rfl rfl d_Writer_layOut_48 (fun v13 hf => ?_)
    refine n_aload_n hC hl 1 d_Writer_layOut_49 rfl rfl ?_
    refine n_get hC hw fg_Writer_19 0 rfl rfl d_Writer_layOut_50 ?_
    refine n_get hC hw fg_Writer_80 1 rfl rfl d_Writer_layOut_53 ?_
    refine n_iload_n hC hl 0 d_Writer_layOut_56 rfl rfl ?_
    refine n_iald hC hw hf 4 0 rfl rfl d_Writer_layOut_57 (fun v14 hf => ?_)
    obtain ⟨u15, hu15, hf⟩ := bd_s hf
    refine n_callVv hC hw fc_Writer_83 (c_Volume_lieIn l g E hEe v_o v_next_a v_firstClusters_a v_runStarts_a v_runLengths_a v_start v_length v_tableSectors u11.1 u11.2 v13 v14 N u15 hu15) [8] (wd_Writer_layOut g t_o p_o p_sorts_a p_starts_a p_lengths_a p_names_a p_sizes_a p_scattered_a v_o v_next_a v_firstClusters_a v_runStarts_a v_runLengths_a d_o u_o p_seeds_a v_next_n t_sectors p_lastUsable p_partitions p_files p_kernelAddress p_sorts p_starts p_lengths p_names p_sizes p_scattered u15.1 u15.2.1 u15.2.2.1 u15.2.2.2 u11.2 v_next v_firstClusters v_runStarts v_runLengths) 8 rfl ⟨rfl, rfl⟩ ⟨Nat.le_of_ble_eq_true rfl, Nat.le_of_ble_eq_true rfl⟩ rfl (At_.cons rfl At_.nil) (At_.cons rfl At_.nil) (Sm_.keep (Sm_.keep (Sm_.keep (Sm_.keep (Sm_.keep (Sm_.keep (Sm_.keep (Sm_.keep (Sm_.upd rfl (Sm_.keep (Sm_.keep (Sm_.keep (Sm_.keep Sm_.nil))))))))))))) rfl hl.1 (Nat.le_of_ble_eq_true rfl) ⟨Nat.zero_le _, Nat.zero_le _⟩ d_Writer_layOut_58 (fun H locs hw => ?_) rfl
    refine n_aload_n hC hl 1 d_Writer_layOut_61 rfl rfl ?_
    refine n_get hC hw fg_Writer_32 0 rfl rfl d_Writer_layOut_62 ?_
    obtain ⟨u16, hu16, hf⟩ := bd_s hf
    refine n_callVi hC hw fc_Writer_52 (c_Volume_isPossible l g E hEe v_o v_next_a v_firstClusters_a v_runStarts_a v_runLengths_a v_next_n u15.1 u15.2.1 u15.2.2.1 u15.2.2.2 u11.2 v_next u16 hu16) [8, 9] (wd_Writer_layOut g t_o p_o p_sorts_a p_starts_a p_lengths_a p_names_a p_sizes_a p_scattered_a v_o v_next_a v_firstClusters_a v_runStarts_a v_runLengths_a d_o u_o p_seeds_a v_next_n t_sectors p_lastUsable p_partitions p_files p_kernelAddress p_sorts p_starts p_lengths p_names p_sizes p_scattered u15.1 u15.2.1 u15.2.2.1 u15.2.2.2 u11.2 v_next v_firstClusters v_runStarts v_runLengths) 8 rfl ⟨rfl, rfl⟩ ⟨Nat.le_of_ble_eq_true rfl, Nat.le_of_ble_eq_true rfl⟩ rfl (At_.cons rfl (At_.cons rfl At_.nil)) (At_.cons rfl (At_.cons rfl At_.nil)) Sm_.refl rfl hl.1 (Nat.le_of_ble_eq_true rfl) ⟨Nat.zero_le _, Nat.zero_le _⟩ d_Writer_layOut_65 (fun H locs hw => ?_) rfl
    refine n_if_ne hC hf 87 d_Writer_layOut_68 (by decide) (fun hf => ?_) (fun hf => ?_)
    · refine n_aload_n hC hl 1 d_Writer_layOut_87 rfl rfl ?_
      refine n_get hC hw fg_Writer_32 0 rfl rfl d_Writer_layOut_88 ?_
      refine n_aload_n hC hl 1 d_Writer_layOut_91 rfl rfl ?_
      refine n_get hC hw fg_Writer_19 0 rfl rfl d_Writer_layOut_92 ?_
      obtain ⟨u17, hu17, hf⟩ := bd_s hf
      refine n_callVi hC hw fc_Writer_87 (c_Volume_placeFiles l g E hEe v_o v_next_a v_firstClusters_a p_o p_sizes_a p_scattered_a v_runStarts_a v_runLengths_a p_sorts_a p_starts_a p_lengths_a p_names_a p_seeds_a v_next_n u15.1 u15.2.1 u15.2.2.1 u15.2.2.2 u11.2 v_next v_firstClusters p_lastUsable p_partitions p_files p_kernelAddress p_sizes p_scattered N u17 hu17) [8, 9, 10, 1, 6, 7] (wd_Writer_layOut g t_o p_o p_sorts_a p_starts_a p_lengths_a p_names_a p_sizes_a p_scattered_a v_o v_next_a v_firstClusters_a v_runStarts_a v_runLengths_a d_o u_o p_seeds_a v_next_n t_sectors p_lastUsable p_partitions p_files p_kernelAddress p_sorts p_starts p_lengths p_names p_sizes p_scattered u15.1 u15.2.1 u15.2.2.1 u15.2.2.2 u11.2 u17.2.1 u17.2.2 v_runStarts v_runLengths) 8 rfl ⟨rfl, rfl⟩ ⟨Nat.le_of_ble_eq_true rfl, Nat.le_of_ble_eq_true rfl⟩ rfl (At_.cons rfl (At_.cons rfl (At_.cons rfl (At_.cons rfl (At_.cons rfl (At_.cons rfl At_.nil)))))) (At_.cons rfl (At_.cons rfl (At_.cons rfl (At_.cons rfl (At_.cons rfl (At_.cons rfl At_.nil)))))) (Sm_.keep (Sm_.keep (Sm_.keep (Sm_.keep (Sm_.keep (Sm_.keep (Sm_.keep (Sm_.keep (Sm_.keep (Sm_.upd rfl (Sm_.upd rfl (Sm_.keep (Sm_.keep Sm_.nil))))))))))))) rfl hl.1 (Nat.le_of_ble_eq_true rfl) ⟨Nat.zero_le _, Nat.zero_le _⟩ d_Writer_layOut_95 (fun H locs hw => ?_) rfl
      refine n_if_ne hC hf 103 d_Writer_layOut_98 (by decide) (fun hf => ?_) (fun hf => ?_)
      · refine n_aload_n hC hl 1 d_Writer_layOut_103 rfl rfl ?_
        refine n_get hC hw fg_Writer_19 0 rfl rfl d_Writer_layOut_104 ?_
        refine n_ldc2 hC 83903281120594 kc_Writer_91 d_Writer_layOut_107 ?_
        obtain ⟨u18, hu18, hf⟩ := bd_s hf
        refine n_callVi hC hw fc_Writer_93 (c_Plan_fileNamed l g E hEe p_o p_names_a p_sorts_a p_starts_a p_lengths_a p_sizes_a p_seeds_a p_scattered_a p_lastUsable p_partitions p_files p_kernelAddress p_names 83903281120594 N u18 hu18) [1, 5] (wd_Writer_layOut g t_o p_o p_sorts_a p_starts_a p_lengths_a p_names_a p_sizes_a p_scattered_a v_o v_next_a v_firstClusters_a v_runStarts_a v_runLengths_a d_o u_o p_seeds_a v_next_n t_sectors p_lastUsable p_partitions p_files p_kernelAddress p_sorts p_starts p_lengths p_names p_sizes p_scattered u15.1 u15.2.1 u15.2.2.1 u15.2.2.2 u11.2 u17.2.1 u17.2.2 v_runStarts v_runLengths) 1 rfl ⟨rfl, rfl⟩ ⟨Nat.le_of_ble_eq_true rfl, Nat.le_of_ble_eq_true rfl⟩ rfl (At_.cons rfl (At_.cons rfl At_.nil)) (At_.cons rfl (At_.cons rfl At_.nil)) Sm_.refl rfl hl.1 (Nat.le_of_ble_eq_true rfl) ⟨Nat.zero_le _, Nat.zero_le _⟩ d_Writer_layOut_110 (fun H locs hw => ?_) rfl
        refine n_istore_n hC [(2, .int u18), (1, .int u12), (0, .ref t_o)] hl d_Writer_layOut_113 rfl (by decide) rfl (fun ls hl => ?_)
        refine n_iload_n hC hl 0 d_Writer_layOut_114 rfl rfl ?_
        refine n_iconst hC (-1) d_Writer_layOut_115 (by decide) ?_
        refine n_icmp_eq hC hf 141 d_Writer_layOut_116 (by decide) (fun hf => ?_) (fun hf => ?_)
        · refine n_iconst hC 0 d_Writer_layOut_141 (by decide) ?_
          cases hf
          exact hret _ _ _ _ hw (show narrow .int (Value.int 0) = Value.int 0 from rfl) d_Writer_layOut_142
        · refine n_aload_n hC hl 2 d_Writer_layOut_119 rfl rfl ?_
          refine n_get hC hw fg_Writer_32 0 rfl rfl d_Writer_layOut_120 ?_
          refine n_iload_n hC hl 0 d_Writer_layOut_123 rfl rfl ?_
          refine n_aload_n hC hl 2 d_Writer_layOut_124 rfl rfl ?_
          refine n_get hC hw fg_Writer_19 0 rfl rfl d_Writer_layOut_125 ?_
          refine n_get hC hw fg_Writer_97 1 rfl rfl d_Writer_layOut_128 ?_
          refine n_iload_n hC hl 0 d_Writer_layOut_131 rfl rfl ?_
          refine n_iald hC hw hf 6 0 rfl rfl d_Writer_layOut_132 (fun v19 hf => ?_)
          obtain ⟨u20, hu20, hf⟩ := bd_s hf
          refine n_callVi hC hw fc_Writer_100 (c_Volume_findRuns l g E hEe v_o v_next_a v_firstClusters_a v_runStarts_a v_runLengths_a v_next_n u15.1 u15.2.1 u15.2.2.1 u15.2.2.2 u11.2 u17.2.1 u17.2.2 v_runStarts v_runLengths u18 v19 N u20 hu20) [8, 9, 10, 11, 12] (wd_Writer_layOut g t_o p_o p_sorts_a p_starts_a p_lengths_a p_names_a p_sizes_a p_scattered_a v_o v_next_a v_firstClusters_a v_runStarts_a v_runLengths_a d_o u_o p_seeds_a v_next_n t_sectors p_lastUsable p_partitions p_files p_kernelAddress p_sorts p_starts p_lengths p_names p_sizes p_scattered u15.1 u15.2.1 u15.2.2.1 u15.2.2.2 u20.2.1 u17.2.1 u17.2.2 u20.2.2.1 u20.2.2.2) 8 rfl ⟨rfl, rfl⟩ ⟨Nat.le_of_ble_eq_true rfl, Nat.le_of_ble_eq_true rfl⟩ rfl (At_.cons rfl (At_.cons rfl (At_.cons rfl (At_.cons rfl (At_.cons rfl At_.nil))))) (At_.cons rfl (At_.cons rfl (At_.cons rfl (At_.cons rfl (At_.cons rfl At_.nil))))) (Sm_.keep (Sm_.keep (Sm_.keep (Sm_.keep (Sm_.keep (Sm_.keep (Sm_.keep (Sm_.keep (Sm_.upd rfl (Sm_.keep (Sm_.keep (Sm_.upd rfl (Sm_.upd rfl Sm_.nil))))))))))))) rfl hl.1 (Nat.le_of_ble_eq_true rfl) ⟨Nat.zero_le _, Nat.zero_le _⟩ d_Writer_layOut_133 (fun H locs hw => ?_) rfl
          refine n_if_ne hC hf 141 d_Writer_layOut_136 (by decide) (fun hf => ?_) (fun hf => ?_)
          · refine n_iconst hC 0 d_Writer_layOut_141 (by decide) ?_
            cases hf
            exact hret _ _ _ _ hw (show narrow .int (Value.int 0) = Value.int 0 from rfl) d_Writer_layOut_142
          · refine n_iconst hC 3 d_Writer_layOut_139 (by decide) ?_
            cases hf
            exact hret _ _ _ _ hw (show narrow .int (Value.int 3) = Value.int 3 from rfl) d_Writer_layOut_140
      · refine n_iconst hC 2 d_Writer_layOut_101 (by decide) ?_
        cases hf
        exact hret _ _ _ _ hw (show narrow .int (Value.int 2) = Value.int 2 from rfl) d_Writer_layOut_102
    · refine n_aload_n hC hl 1 d_Writer_layOut_71 rfl rfl ?_
      refine n_get hC hw fg_Writer_19 0 rfl rfl d_Writer_layOut_72 ?_
      refine n_get hC hw fg_Writer_62 1 rfl rfl d_Writer_layOut_75 ?_
      refine n_if_le hC hf 85 d_Writer_layOut_78 (by decide) (fun hf => ?_) (fun hf => ?_)
      · refine n_iconst hC 0 d_Writer_layOut_85 (by decide) ?_
        cases hf
        exact hret _ _ _ _ hw (show narrow .int (Value.int 0) = Value.int 0 from rfl) d_Writer_layOut_86
      · refine n_iconst hC 2 d_Writer_layOut_81 (by decide) ?_
        refine n_goto hC 86 d_Writer_layOut_82 (by decide) ?_
        cases hf
        exact hret _ _ _ _ hw (show narrow .int (Value.int 2) = Value.int 2 from rfl) d_Writer_layOut_86
  · refine n_aload_n hC hl 1 d_Writer_layOut_20 rfl rfl ?_
    refine n_get hC hw fg_Writer_19 0 rfl rfl d_Writer_layOut_21 ?_
    refine n_get hC hw fg_Writer_62 1 rfl rfl d_Writer_layOut_24 ?_
    refine n_if_le hC hf 34 d_Writer_layOut_27 (by decide) (fun hf => ?_) (fun hf => ?_)
    · refine n_iconst hC 0 d_Writer_layOut_34 (by decide) ?_
      cases hf
      exact hret _ _ _ _ hw (show narrow .int (Value.int 0) = Value.int 0 from rfl) d_Writer_layOut_35
    · refine n_iconst hC 1 d_Writer_layOut_30 (by decide) ?_
      refine n_goto hC 35 d_Writer_layOut_31 (by decide) ?_
      cases hf
      exact hret _ _ _ _ hw (show narrow .int (Value.int 1) = Value.int 1 from rfl) d_Writer_layOut_35
def wd_Writer_writeDisk (g : GT) (t_o : Nat) (d_o : Nat) (d_words_a : Nat) (p_o : Nat) (p_sorts_a : Nat) (p_starts_a : Nat) (p_lengths_a : Nat) (p_names_a : Nat) (p_sizes_a : Nat) (p_seeds_a : Nat) (p_scattered_a : Nat) (u_o : Nat) (u_shifted_a : Nat) (v_o : Nat) (v_next_a : Nat) (v_firstClusters_a : Nat) (v_runStarts_a : Nat) (v_runLengths_a : Nat) (d_words_n : Nat) (v_next_n : Nat) (t_sectors : Int32) (d_length : Int32) (d_words : Nat → Int64) (p_lastUsable : Int32) (p_partitions : Int32) (p_files : Int32) (p_kernelAddress : Int32) (p_sorts : Nat → Int32) (p_starts : Nat → Int32) (p_lengths : Nat → Int32) (p_names : Nat → Int64) (p_sizes : Nat → Int32) (p_seeds : Nat → Int32) (p_scattered : Nat → Int32) (u_bits : Int32) (u_shifted : Nat → Int32) (v_start : Int32) (v_length : Int32) (v_tableSectors : Int32) (v_clusters : Int32) (v_runs : Int32) (v_next : Nat → Int32) (v_firstClusters : Nat → Int32) (v_runStarts : Nat → Int32) (v_runLengths : Nat → Int32) : va_W := [(t_o, .inr (4, [.ref d_o, .int t_sectors, .ref p_o, .ref u_o, .ref v_o])), (d_o, .inr (0, [.int d_length, .ref d_words_a])), (d_words_a, .inl (g.2.2.1, d_words_n, .inr (.inl d_words))), (p_o, .inr (2, [.int p_lastUsable, .ref p_sorts_a, .ref p_starts_a, .ref p_lengths_a, .int p_partitions, .ref p_names_a, .ref p_sizes_a, .ref p_seeds_a, .ref p_scattered_a, .int p_files, .int p_kernelAddress])), (p_sorts_a, .inl (g.2.1, 4, .inl p_sorts)), (p_starts_a, .inl (g.2.1, 4, .inl p_starts)), (p_lengths_a, .inl (g.2.1, 4, .inl p_lengths)), (p_names_a, .inl (g.2.2.1, 12, .inr (.inl p_names))), (p_sizes_a, .inl (g.2.1, 12, .inl p_sizes)), (p_seeds_a, .inl (g.2.1, 12, .inl p_seeds)), (p_scattered_a, .inl (g.2.2.2.1, 12, .inl p_scattered)), (u_o, .inr (1, [.ref u_shifted_a, .int u_bits])), (u_shifted_a, .inl (g.2.1, 256, .inl u_shifted)), (v_o, .inr (3, [.int v_start, .int v_length, .int v_tableSectors, .int v_clusters, .ref v_next_a, .ref v_firstClusters_a, .ref v_runStarts_a, .ref v_runLengths_a, .int v_runs])), (v_next_a, .inl (g.2.1, v_next_n, .inl v_next)), (v_firstClusters_a, .inl (g.2.1, 12, .inl v_firstClusters)), (v_runStarts_a, .inl (g.2.1, 20, .inl v_runStarts)), (v_runLengths_a, .inl (g.2.1, 20, .inl v_runLengths))]
def f_Writer_writeDisk_L72 (N : Nat) (p_files : Int32) (u27 : (Nat → Int64) × Int32) (u20 : Int32 × Int32 × Int32 × Int32 × Int32 × Int32 × (Nat → Int32) × (Nat → Int32) × (Nat → Int32) × (Nat → Int32)) (p_sizes : Nat → Int32) (d_length : Int32) (d_words_n : Nat) (p_names : Nat → Int64) (p_seeds : Nat → Int32) (p_kernelAddress : Int32) (v_next_n : Nat) (k72 : Int32 → (Nat → Int64) → Option (Int32 × (Nat → Int64) × Int32 × Int32 × Int32 × Int32 × Int32 × Int32 × (Nat → Int32) × (Nat → Int32) × (Nat → Int32) × (Nat → Int32))) (x33 : Int32) (x34 : Nat → Int64) : Option (Int32 × (Nat → Int64) × Int32 × Int32 × Int32 × Int32 × Int32 × Int32 × (Nat → Int32) × (Nat → Int32) × (Nat → Int32) × (Nat → Int32)) :=
  if p_files ≤ x33 then some (0, x34, u27.2, u20.2.1, u20.2.2.1, u20.2.2.2.1, u20.2.2.2.2.1, u20.2.2.2.2.2.1, u20.2.2.2.2.2.2.1, u20.2.2.2.2.2.2.2.1, u20.2.2.2.2.2.2.2.2.1, u20.2.2.2.2.2.2.2.2.2) else bd_ (f_Writer_writeFile N p_sizes x33 u20.2.1 u20.2.2.2.1 d_length d_words_n x34 u20.2.2.2.2.2.2.2.1 p_names p_seeds p_kernelAddress v_next_n u20.2.2.2.2.2.2.1) (fun u37 => lt_ (x33 + 1) (fun v38 => k72 v38 u37))
def f_Writer_writeDisk (N : Nat) (p_partitions : Int32) (p_sorts : Nat → Int32) (p_starts : Nat → Int32) (p_lengths : Nat → Int32) (v_next_n : Nat) (p_files : Int32) (v_next : Nat → Int32) (p_sizes : Nat → Int32) (p_scattered : Nat → Int32) (v_firstClusters : Nat → Int32) (p_names : Nat → Int64) (v_runStarts : Nat → Int32) (v_runLengths : Nat → Int32) (v_start : Int32) (v_length : Int32) (v_tableSectors : Int32) (d_words_n : Nat) (d_words : Nat → Int64) (d_length : Int32) (t_sectors : Int32) (u_bits : Int32) (p_seeds : Nat → Int32) (p_kernelAddress : Int32) (u_shifted : Nat → Int32) (p_lastUsable : Int32) : Option (Int32 × (Nat → Int64) × Int32 × Int32 × Int32 × Int32 × Int32 × Int32 × (Nat → Int32) × (Nat → Int32) × (Nat → Int32) × (Nat → Int32)) :=
  bd_ (f_Writer_layOut N p_partitions p_sorts p_starts p_lengths v_next_n p_files v_next p_sizes p_scattered v_firstClusters p_names v_runStarts v_runLengths v_start v_length v_tableSectors) (fun u20 => if u20.1 = 0 then bd_ (f_Store_clear N d_words_n d_words) (fun u21 => bd_ (f_Writer_writeSectorZero N u21 d_length d_words_n p_files p_names t_sectors u_bits u20.2.2.2.2.2.1 p_sizes p_seeds u20.2.1 p_kernelAddress u_shifted u20.2.2.2.2.2.2.2.2.1 u20.2.2.2.2.2.2.2.2.2) (fun u22 => lt_ (t_sectors - 1) (fun v23 => bd_ (f_Writer_writeTable N p_partitions 1 d_length d_words_n v23 p_lastUsable 2 u_shifted p_sorts p_starts p_lengths u22.1) (fun u24 => lt_ (t_sectors - 33) (fun v25 => lt_ (t_sectors - 1) (fun v26 => bd_ (f_Writer_writeTable N p_partitions v26 d_length d_words_n 1 p_lastUsable v25 u_shifted p_sorts p_starts p_lengths u24.1) (fun u27 => bd_ (f_Volume_isPossible u20.2.2.2.2.1 v_next_n) (fun u28 => if u28 = 0 then some (0, u27.1, u27.2, u20.2.1, u20.2.2.1, u20.2.2.2.1, u20.2.2.2.2.1, u20.2.2.2.2.2.1, u20.2.2.2.2.2.2.1, u20.2.2.2.2.2.2.2.1, u20.2.2.2.2.2.2.2.2.1, u20.2.2.2.2.2.2.2.2.2) else bd_ (f_Writer_writeVolumeSector N u20.2.1 u27.1 d_length d_words_n u20.2.2.1 u20.2.2.2.1) (fun u29 => bd_ (f_Writer_writeClusterTables N u20.2.1 u20.2.2.2.1 u20.2.2.2.2.1 v_next_n u20.2.2.2.2.2.2.1 d_length d_words_n u29) (fun u30 => lp_ (fun _ _ => none) (f_Writer_writeDisk_L72 N p_files u27 u20 p_sizes d_length d_words_n p_names p_seeds p_kernelAddress v_next_n) N 0 u30)))))))))) else some (u20.1, d_words, u_bits, u20.2.1, u20.2.2.1, u20.2.2.2.1, u20.2.2.2.2.1, u20.2.2.2.2.2.1, u20.2.2.2.2.2.2.1, u20.2.2.2.2.2.2.2.1, u20.2.2.2.2.2.2.2.2.1, u20.2.2.2.2.2.2.2.2.2))
def rm_Writer_writeDisk : Room := { frames := 9, cells := 0, slots := 0, locals := 196 }
set_option maxHeartbeats 4000000 in
set_option maxRecDepth 100000 in
theorem c_Writer_writeDisk (l : Launch) (g : GT) (E : (Nat → Prop) → State → Prop) (hEe : Ee E) (X : XT) (hS : ∀ (A : Nat → Prop) (u : State), E A u → SS X A u) (t_o : Nat) (d_o : Nat) (d_words_a : Nat) (p_o : Nat) (p_sorts_a : Nat) (p_starts_a : Nat) (p_lengths_a : Nat) (p_names_a : Nat) (p_sizes_a : Nat) (p_seeds_a : Nat) (p_scattered_a : Nat) (u_o : Nat) (u_shifted_a : Nat) (v_o : Nat) (v_next_a : Nat) (v_firstClusters_a : Nat) (v_runStarts_a : Nat) (v_runLengths_a : Nat) (d_words_n : Nat) (v_next_n : Nat) (t_sectors : Int32) (d_length : Int32) (d_words : Nat → Int64) (p_lastUsable : Int32) (p_partitions : Int32) (p_files : Int32) (p_kernelAddress : Int32) (p_sorts : Nat → Int32) (p_starts : Nat → Int32) (p_lengths : Nat → Int32) (p_names : Nat → Int64) (p_sizes : Nat → Int32) (p_seeds : Nat → Int32) (p_scattered : Nat → Int32) (u_bits : Int32) (u_shifted : Nat → Int32) (v_start : Int32) (v_length : Int32) (v_tableSectors : Int32) (v_clusters : Int32) (v_runs : Int32) (v_next : Nat → Int32) (v_firstClusters : Nat → Int32) (v_runStarts : Nat → Int32) (v_runLengths : Nat → Int32) (N : Nat) (z : Int32 × (Nat → Int64) × Int32 × Int32 × Int32 × Int32 × Int32 × Int32 × (Nat → Int32) × (Nat → Int32) × (Nat → Int32) × (Nat → Int32)) (hf : f_Writer_writeDisk N p_partitions p_sorts p_starts p_lengths v_next_n p_files v_next p_sizes p_scattered v_firstClusters p_names v_runStarts v_runLengths v_start v_length v_tableSectors d_words_n d_words d_length t_sectors u_bits p_seeds p_kernelAddress u_shifted p_lastUsable = some z) : Cg l g E y_Writer_writeDisk ws_Writer_writeDisk rm_Writer_writeDisk [.ref t_o] (wd_Writer_writeDisk g t_o d_o d_words_a p_o p_sorts_a p_starts_a p_lengths_a p_names_a p_sizes_a p_seeds_a p_scattered_a u_o u_shifted_a v_o v_next_a v_firstClusters_a v_runStarts_a v_runLengths_a d_words_n v_next_n t_sectors d_length d_words p_lastUsable p_partitions p_files p_kernelAddress p_sorts p_starts p_lengths p_names p_sizes p_seeds p_scattered u_bits u_shifted v_start v_length v_tableSectors v_clusters v_runs v_next v_firstClusters v_runStarts v_runLengths) (some (.int z.1)) (wd_Writer_writeDisk g t_o d_o d_words_a p_o p_sorts_a p_starts_a p_lengths_a p_names_a p_sizes_a p_seeds_a p_scattered_a u_o u_shifted_a v_o v_next_a v_firstClusters_a v_runStarts_a v_runLengths_a d_words_n v_next_n t_sectors d_length z.2.1 p_lastUsable p_partitions p_files p_kernelAddress p_sorts p_starts p_lengths p_names p_sizes p_seeds p_scattered z.2.2.1 u_shifted z.2.2.2.1 z.2.2.2.2.1 z.2.2.2.2.2.1 z.2.2.2.2.2.2.1 z.2.2.2.2.2.2.2.1 z.2.2.2.2.2.2.2.2.1 z.2.2.2.2.2.2.2.2.2.1 z.2.2.2.2.2.2.2.2.2.2.1 z.2.2.2.2.2.2.2.2.2.2.2) := by
  refine Ct.ofI hEe good_W (by decide) rfl (Nat.le_of_ble_eq_true rfl) ?_
  intro p e s m args below meth c A ls Q hC hw hl hret
  have hC : CX p m c b_Writer_writeDisk 3 s args Wall R_Writer g.1 classes (tK g) E A := hC
  have hl : lv_has ls 3 [(0, .ref t_o)] := hl
  unfold f_Writer_writeDisk at hf
  refine n_aload_n hC hl 0 d_Writer_writeDisk_0 rfl rfl ?_
  obtain ⟨u20, hu20, hf⟩ := bd_s hf
  refine n_callVi hC hw fc_Writer_36 (c_Writer_layOut l g E hEe t_o p_o p_sorts_a p_starts_a p_lengths_a p_names_a p_sizes_a p_scattered_a v_o v_next_a v_firstClusters_a v_runStarts_a v_runLengths_a d_o u_o p_seeds_a v_next_n t_sectors p_lastUsable p_partitions p_files p_kernelAddress p_sorts p_starts p_lengths p_names p_sizes p_scattered v_start v_length v_tableSectors v_clusters v_runs v_next v_firstClusters v_runStarts v_runLengths N u20 hu20) [0, 3, 4, 5, 6, 7, 8, 10, 13, 14, 15, 16, 17] (wd_Writer_writeDisk g t_o d_o d_words_a p_o p_sorts_a p_starts_a p_lengths_a p_names_a p_sizes_a p_seeds_a p_scattered_a u_o u_shifted_a v_o v_next_a v_firstClusters_a v_runStarts_a v_runLengths_a d_words_n v_next_n t_sectors d_length d_words p_lastUsable p_partitions p_files p_kernelAddress p_sorts p_starts p_lengths p_names p_sizes p_seeds p_scattered u_bits u_shifted u20.2.1 u20.2.2.1 u20.2.2.2.1 u20.2.2.2.2.1 u20.2.2.2.2.2.1 u20.2.2.2.2.2.2.1 u20.2.2.2.2.2.2.2.1 u20.2.2.2.2.2.2.2.2.1 u20.2.2.2.2.2.2.2.2.2) 0 rfl ⟨rfl, rfl⟩ ⟨Nat.le_of_ble_eq_true rfl, Nat.le_of_ble_eq_true rfl⟩ rfl (At_.cons rfl (At_.cons rfl (At_.cons rfl (At_.cons rfl (At_.cons rfl (At_.cons rfl (At_.cons rfl (At_.cons rfl (At_.cons rfl (At_.cons rfl (At_.cons rfl (At_.cons rfl (At_.cons rfl At_.nil))))))))))))) (At_.cons rfl (At_.cons rfl (At_.cons rfl (At_.cons rfl (At_.cons rfl (At_.cons rfl (At_.cons rfl (At_.cons rfl (At_.cons rfl (At_.cons rfl (At_.cons rfl (At_.cons rfl (At_.cons rfl At_.nil))))))))))))) (Sm_.keep (Sm_.keep (Sm_.keep (Sm_.keep (Sm_.keep (Sm_.keep (Sm_.keep (Sm_.keep (Sm_.keep (Sm_.keep (Sm_.keep (Sm_.keep (Sm_.keep (Sm_.upd rfl (Sm_.upd rfl (Sm_.upd rfl (Sm_.upd rfl (Sm_.upd rfl Sm_.nil)))))))))))))))))) rfl hl.1 (Nat.le_of_ble_eq_true rfl) ⟨Nat.zero_le _, Nat.zero_le _⟩ d_Writer_writeDisk_1 (fun H locs hw => ?_) rfl
  refine n_istore_n hC [(1, .int u20.1), (0, .ref t_o)] hl d_Writer_writeDisk_4 rfl (by decide) rfl (fun ls hl => ?_)
  refine n_iload_n hC hl 0 d_Writer_writeDisk_5 rfl rfl ?_
  refine n_if_eq hC hf 11 d_Writer_writeDisk_6 (by decide) (fun hf => ?_) (fun hf => ?_)
  · refine n_aload_n hC hl 1 d_Writer_writeDisk_11 rfl rfl ?_
    refine n_get hC hw fg_Writer_9 0 rfl rfl d_Writer_writeDisk_12 ?_
    obtain ⟨u21, hu21, hf⟩ := bd_s hf
    refine n_callVv hC hw fc_Writer_40 (c_Store_clear l g E hEe d_o d_words_a d_words_n d_length d_words N u21 hu21) [1, 2] (wd_Writer_writeDisk g t_o d_o d_words_a p_o p_sorts_a p_starts_a p_lengths_a p_names_a p_sizes_a p_seeds_a p_scattered_a u_o u_shifted_a v_o v_next_a v_firstClusters_a v_runStarts_a v_runLengths_a d_words_n v_next_n t_sectors d_length u21 p_lastUsable p_partitions p_files p_kernelAddress p_sorts p_starts p_lengths p_names p_sizes p_seeds p_scattered u_bits u_shifted u20.2.1 u20.2.2.1 u20.2.2.2.1 u20.2.2.2.2.1 u20.2.2.2.2.2.1 u20.2.2.2.2.2.2.1 u20.2.2.2.2.2.2.2.1 u20.2.2.2.2.2.2.2.2.1 u20.2.2.2.2.2.2.2.2.2) 1 rfl ⟨rfl, rfl⟩ ⟨Nat.le_of_ble_eq_true rfl, Nat.le_of_ble_eq_true rfl⟩ rfl (At_.cons rfl (At_.cons rfl At_.nil)) (At_.cons rfl (At_.cons rfl At_.nil)) (Sm_.keep (Sm_.keep (Sm_.upd rfl (Sm_.keep (Sm_.keep (Sm_.keep (Sm_.keep (Sm_.keep (Sm_.keep (Sm_.keep (Sm_.keep (Sm_.keep (Sm_.keep (Sm_.keep (Sm_.keep (Sm_.keep (Sm_.keep (Sm_.keep Sm_.nil)))))))))))))))))) rfl hl.1 (Nat.le_of_ble_eq_true rfl) ⟨Nat.zero_le _, Nat.zero_le _⟩ d_Writer_writeDisk_15 (fun H locs hw => ?_) rfl
    refine n_aload_n hC hl 1 d_Writer_writeDisk_18 rfl rfl ?_
    obtain ⟨u22, hu22, hf⟩ := bd_s hf
    refine n_callVv hC hw fc_Writer_45 (c_Writer_writeSectorZero l g E hEe X hS t_o d_o d_words_a p_o p_names_a p_sizes_a p_seeds_a u_o u_shifted_a v_o v_runStarts_a v_runLengths_a p_sorts_a p_starts_a p_lengths_a p_scattered_a v_next_a v_firstClusters_a d_words_n t_sectors d_length u21 p_lastUsable p_partitions p_files p_kernelAddress p_names p_sizes p_seeds u_bits u_shifted u20.2.1 u20.2.2.1 u20.2.2.2.1 u20.2.2.2.2.1 u20.2.2.2.2.2.1 u20.2.2.2.2.2.2.2.2.1 u20.2.2.2.2.2.2.2.2.2 N u22 hu22) [0, 1, 2, 3, 7, 8, 9, 11, 12, 13, 16, 17] (wd_Writer_writeDisk g t_o d_o d_words_a p_o p_sorts_a p_starts_a p_lengths_a p_names_a p_sizes_a p_seeds_a p_scattered_a u_o u_shifted_a v_o v_next_a v_firstClusters_a v_runStarts_a v_runLengths_a d_words_n v_next_n t_sectors d_length u22.1 p_lastUsable p_partitions p_files p_kernelAddress p_sorts p_starts p_lengths p_names p_sizes p_seeds p_scattered u22.2 u_shifted u20.2.1 u20.2.2.1 u20.2.2.2.1 u20.2.2.2.2.1 u20.2.2.2.2.2.1 u20.2.2.2.2.2.2.1 u20.2.2.2.2.2.2.2.1 u20.2.2.2.2.2.2.2.2.1 u20.2.2.2.2.2.2.2.2.2) 0 rfl ⟨rfl, rfl⟩ ⟨Nat.le_of_ble_eq_true rfl, Nat.le_of_ble_eq_true rfl⟩ rfl (At_.cons rfl (At_.cons rfl (At_.cons rfl (At_.cons rfl (At_.cons rfl (At_.cons rfl (At_.cons rfl (At_.cons rfl (At_.cons rfl (At_.cons rfl (At_.cons rfl (At_.cons rfl At_.nil)))))))))))) (At_.cons rfl (At_.cons rfl (At_.cons rfl (At_.cons rfl (At_.cons rfl (At_.cons rfl (At_.cons rfl (At_.cons rfl (At_.cons rfl (At_.cons rfl (At_.cons rfl (At_.cons rfl At_.nil)))))))))))) (Sm_.keep (Sm_.keep (Sm_.upd rfl (Sm_.keep (Sm_.keep (Sm_.keep (Sm_.keep (Sm_.keep (Sm_.keep (Sm_.keep (Sm_.keep (Sm_.upd rfl (Sm_.keep (Sm_.keep (Sm_.keep (Sm_.keep (Sm_.keep (Sm_.keep Sm_.nil)))))))))))))))))) rfl hl.1 (Nat.le_of_ble_eq_true rfl) ⟨Nat.zero_le _, Nat.zero_le _⟩ d_Writer_writeDisk_19 (fun H locs hw => ?_) rfl
    refine n_aload_n hC hl 1 d_Writer_writeDisk_22 rfl rfl ?_
    refine n_iconst hC 2 d_Writer_writeDisk_23 (by decide) ?_
    refine n_iconst hC 1 d_Writer_writeDisk_24 (by decide) ?_
    refine n_aload_n hC hl 1 d_Writer_writeDisk_25 rfl rfl ?_
    refine n_get hC hw fg_Writer_15 0 rfl rfl d_Writer_writeDisk_26 ?_
    refine n_iconst hC 1 d_Writer_writeDisk_29 (by decide) ?_
    refine n_isub hC hf d_Writer_writeDisk_30 (fun v23 hf => ?_)
    obtain ⟨u24, hu24, hf⟩ := bd_s hf
    refine n_callVv hC hw fc_Writer_48 (c_Writer_writeTable l g E hEe X hS t_o d_o d_words_a p_o p_sorts_a p_starts_a p_lengths_a u_o u_shifted_a v_o p_names_a p_sizes_a p_seeds_a p_scattered_a d_words_n t_sectors d_length u22.1 p_lastUsable p_partitions p_files p_kernelAddress p_sorts p_starts p_lengths u22.2 u_shifted 2 1 v23 N u24 hu24) [0, 1, 2, 3, 4, 5, 6, 11, 12] (wd_Writer_writeDisk g t_o d_o d_words_a p_o p_sorts_a p_starts_a p_lengths_a p_names_a p_sizes_a p_seeds_a p_scattered_a u_o u_shifted_a v_o v_next_a v_firstClusters_a v_runStarts_a v_runLengths_a d_words_n v_next_n t_sectors d_length u24.1 p_lastUsable p_partitions p_files p_kernelAddress p_sorts p_starts p_lengths p_names p_sizes p_seeds p_scattered u24.2 u_shifted u20.2.1 u20.2.2.1 u20.2.2.2.1 u20.2.2.2.2.1 u20.2.2.2.2.2.1 u20.2.2.2.2.2.2.1 u20.2.2.2.2.2.2.2.1 u20.2.2.2.2.2.2.2.2.1 u20.2.2.2.2.2.2.2.2.2) 0 rfl ⟨rfl, rfl⟩ ⟨Nat.le_of_ble_eq_true rfl, Nat.le_of_ble_eq_true rfl⟩ rfl (At_.cons rfl (At_.cons rfl (At_.cons rfl (At_.cons rfl (At_.cons rfl (At_.cons rfl (At_.cons rfl (At_.cons rfl (At_.cons rfl At_.nil))))))))) (At_.cons rfl (At_.cons rfl (At_.cons rfl (At_.cons rfl (At_.cons rfl (At_.cons rfl (At_.cons rfl (At_.cons rfl (At_.cons rfl At_.nil))))))))) (Sm_.keep (Sm_.keep (Sm_.upd rfl (Sm_.keep (Sm_.keep (Sm_.keep (Sm_.keep (Sm_.keep (Sm_.keep (Sm_.keep (Sm_.keep (Sm_.upd rfl (Sm_.keep (Sm_.keep (Sm_.keep (Sm_.keep (Sm_.keep (Sm_.keep Sm_.nil)))))))))))))))))) rfl hl.1 (Nat.le_of_ble_eq_true rfl) ⟨Nat.zero_le _, Nat.zero_le _⟩ d_Writer_writeDisk_31 (fun H locs hw => ?_) rfl
    refine n_aload_n hC hl 1 d_Writer_writeDisk_34 rfl rfl ?_
    refine n_aload_n hC hl 1 d_Writer_writeDisk_35 rfl rfl ?_
    refine n_get hC hw fg_Writer_15 0 rfl rfl d_Writer_writeDisk_36 ?_
    refine n_bipush hC 33 d_Writer_writeDisk_39 (by decide) ?_
    refine n_isub hC hf d_Writer_writeDisk_41 (fun v25 hf => ?_)
    refine n_aload_n hC hl 1 d_Writer_writeDisk_42 rfl rfl ?_
    refine n_get hC hw fg_Writer_15 0 rfl rfl d_Writer_writeDisk_43 ?_
    refine n_iconst hC 1 d_Writer_writeDisk_46 (by decide) ?_
    refine n_isub hC hf d_Writer_writeDisk_47 (fun v26 hf => ?_)
    refine n_iconst hC 1 d_Writer_writeDisk_48 (by decide) ?_
    obtain ⟨u27, hu27, hf⟩ := bd_s hf
    refine n_callVv hC hw fc_Writer_48 (c_Writer_writeTable l g E hEe X hS t_o d_o d_words_a p_o p_sorts_a p_starts_a p_lengths_a u_o u_shifted_a v_o p_names_a p_sizes_a p_seeds_a p_scattered_a d_words_n t_sectors d_length u24.1 p_lastUsable p_partitions p_files p_kernelAddress p_sorts p_starts p_lengths u24.2 u_shifted v25 v26 1 N u27 hu27) [0, 1, 2, 3, 4, 5, 6, 11, 12] (wd_Writer_writeDisk g t_o d_o d_words_a p_o p_sorts_a p_starts_a p_lengths_a p_names_a p_sizes_a p_seeds_a p_scattered_a u_o u_shifted_a v_o v_next_a v_firstClusters_a v_runStarts_a v_runLengths_a d_words_n v_next_n t_sectors d_length u27.1 p_lastUsable p_partitions p_files p_kernelAddress p_sorts p_starts p_lengths p_names p_sizes p_seeds p_scattered u27.2 u_shifted u20.2.1 u20.2.2.1 u20.2.2.2.1 u20.2.2.2.2.1 u20.2.2.2.2.2.1 u20.2.2.2.2.2.2.1 u20.2.2.2.2.2.2.2.1 u20.2.2.2.2.2.2.2.2.1 u20.2.2.2.2.2.2.2.2.2) 0 rfl ⟨rfl, rfl⟩ ⟨Nat.le_of_ble_eq_true rfl, Nat.le_of_ble_eq_true rfl⟩ rfl (At_.cons rfl (At_.cons rfl (At_.cons rfl (At_.cons rfl (At_.cons rfl (At_.cons rfl (At_.cons rfl (At_.cons rfl (At_.cons rfl At_.nil))))))))) (At_.cons rfl (At_.cons rfl (At_.cons rfl (At_.cons rfl (At_.cons rfl (At_.cons rfl (At_.cons rfl (At_.cons rfl (At_.cons rfl At_.nil))))))))) (Sm_.keep (Sm_.keep (Sm_.upd rfl (Sm_.keep (Sm_.keep (Sm_.keep (Sm_.keep (Sm_.keep (Sm_.keep (Sm_.keep (Sm_.keep (Sm_.upd rfl (Sm_.keep (Sm_.keep (Sm_.keep (Sm_.keep (Sm_.keep (Sm_.keep Sm_.nil)))))))))))))))))) rfl hl.1 (Nat.le_of_ble_eq_true rfl) ⟨Nat.zero_le _, Nat.zero_le _⟩ d_Writer_writeDisk_49 (fun H locs hw => ?_) rfl
    refine n_aload_n hC hl 1 d_Writer_writeDisk_52 rfl rfl ?_
    refine n_get hC hw fg_Writer_32 0 rfl rfl d_Writer_writeDisk_53 ?_
    obtain ⟨u28, hu28, hf⟩ := bd_s hf
    refine n_callVi hC hw fc_Writer_52 (c_Volume_isPossible l g E hEe v_o v_next_a v_firstClusters_a v_runStarts_a v_runLengths_a v_next_n u20.2.1 u20.2.2.1 u20.2.2.2.1 u20.2.2.2.2.1 u20.2.2.2.2.2.1 u20.2.2.2.2.2.2.1 u28 hu28) [13, 14] (wd_Writer_writeDisk g t_o d_o d_words_a p_o p_sorts_a p_starts_a p_lengths_a p_names_a p_sizes_a p_seeds_a p_scattered_a u_o u_shifted_a v_o v_next_a v_firstClusters_a v_runStarts_a v_runLengths_a d_words_n v_next_n t_sectors d_length u27.1 p_lastUsable p_partitions p_files p_kernelAddress p_sorts p_starts p_lengths p_names p_sizes p_seeds p_scattered u27.2 u_shifted u20.2.1 u20.2.2.1 u20.2.2.2.1 u20.2.2.2.2.1 u20.2.2.2.2.2.1 u20.2.2.2.2.2.2.1 u20.2.2.2.2.2.2.2.1 u20.2.2.2.2.2.2.2.2.1 u20.2.2.2.2.2.2.2.2.2) 13 rfl ⟨rfl, rfl⟩ ⟨Nat.le_of_ble_eq_true rfl, Nat.le_of_ble_eq_true rfl⟩ rfl (At_.cons rfl (At_.cons rfl At_.nil)) (At_.cons rfl (At_.cons rfl At_.nil)) Sm_.refl rfl hl.1 (Nat.le_of_ble_eq_true rfl) ⟨Nat.zero_le _, Nat.zero_le _⟩ d_Writer_writeDisk_56 (fun H locs hw => ?_) rfl
    refine n_if_eq hC hf 94 d_Writer_writeDisk_59 (by decide) (fun hf => ?_) (fun hf => ?_)
    · refine n_iconst hC 0 d_Writer_writeDisk_94 (by decide) ?_
      cases hf
      exact hret _ _ _ _ hw (show narrow .int (Value.int 0) = Value.int 0 from rfl) d_Writer_writeDisk_95
    · refine n_aload_n hC hl 1 d_Writer_writeDisk_62 rfl rfl ?_
      obtain ⟨u29, hu29, hf⟩ := bd_s hf
      refine n_callVv hC hw fc_Writer_56 (c_Writer_writeVolumeSector l g E hEe X hS t_o d_o d_words_a v_o p_o u_o v_next_a v_firstClusters_a v_runStarts_a v_runLengths_a d_words_n t_sectors d_length u27.1 u20.2.1 u20.2.2.1 u20.2.2.2.1 u20.2.2.2.2.1 u20.2.2.2.2.2.1 N u29 hu29) [0, 1, 2, 13] (wd_Writer_writeDisk g t_o d_o d_words_a p_o p_sorts_a p_starts_a p_lengths_a p_names_a p_sizes_a p_seeds_a p_scattered_a u_o u_shifted_a v_o v_next_a v_firstClusters_a v_runStarts_a v_runLengths_a d_words_n v_next_n t_sectors d_length u29 p_lastUsable p_partitions p_files p_kernelAddress p_sorts p_starts p_lengths p_names p_sizes p_seeds p_scattered u27.2 u_shifted u20.2.1 u20.2.2.1 u20.2.2.2.1 u20.2.2.2.2.1 u20.2.2.2.2.2.1 u20.2.2.2.2.2.2.1 u20.2.2.2.2.2.2.2.1 u20.2.2.2.2.2.2.2.2.1 u20.2.2.2.2.2.2.2.2.2) 0 rfl ⟨rfl, rfl⟩ ⟨Nat.le_of_ble_eq_true rfl, Nat.le_of_ble_eq_true rfl⟩ rfl (At_.cons rfl (At_.cons rfl (At_.cons rfl (At_.cons rfl At_.nil)))) (At_.cons rfl (At_.cons rfl (At_.cons rfl (At_.cons rfl At_.nil)))) (Sm_.keep (Sm_.keep (Sm_.upd rfl (Sm_.keep (Sm_.keep (Sm_.keep (Sm_.keep (Sm_.keep (Sm_.keep (Sm_.keep (Sm_.keep (Sm_.keep (Sm_.keep (Sm_.keep (Sm_.keep (Sm_.keep (Sm_.keep (Sm_.keep Sm_.nil)))))))))))))))))) rfl hl.1 (Nat.le_of_ble_eq_true rfl) ⟨Nat.zero_le _, Nat.zero_le _⟩ d_Writer_writeDisk_63 (fun H locs hw => ?_) rfl
      refine n_aload_n hC hl 1 d_Writer_writeDisk_66 rfl rfl ?_
      obtain ⟨u30, hu30, hf⟩ := bd_s hf
      refine n_callVv hC hw fc_Writer_59 (c_Writer_writeClusterTables l g E hEe t_o d_o d_words_a v_o v_next_a p_o u_o v_firstClusters_a v_runStarts_a v_runLengths_a d_words_n v_next_n t_sectors d_length u29 u20.2.1 u20.2.2.1 u20.2.2.2.1 u20.2.2.2.2.1 u20.2.2.2.2.2.1 u20.2.2.2.2.2.2.1 N u30 hu30) [0, 1, 2, 13, 14] (wd_Writer_writeDisk g t_o d_o d_words_a p_o p_sorts_a p_starts_a p_lengths_a p_names_a p_sizes_a p_seeds_a p_scattered_a u_o u_shifted_a v_o v_next_a v_firstClusters_a v_runStarts_a v_runLengths_a d_words_n v_next_n t_sectors d_length u30 p_lastUsable p_partitions p_files p_kernelAddress p_sorts p_starts p_lengths p_names p_sizes p_seeds p_scattered u27.2 u_shifted u20.2.1 u20.2.2.1 u20.2.2.2.1 u20.2.2.2.2.1 u20.2.2.2.2.2.1 u20.2.2.2.2.2.2.1 u20.2.2.2.2.2.2.2.1 u20.2.2.2.2.2.2.2.2.1 u20.2.2.2.2.2.2.2.2.2) 0 rfl ⟨rfl, rfl⟩ ⟨Nat.le_of_ble_eq_true rfl, Nat.le_of_ble_eq_true rfl⟩ rfl (At_.cons rfl (At_.cons rfl (At_.cons rfl (At_.cons rfl (At_.cons rfl At_.nil))))) (At_.cons rfl (At_.cons rfl (At_.cons rfl (At_.cons rfl (At_.cons rfl At_.nil))))) (Sm_.keep (Sm_.keep (Sm_.upd rfl (Sm_.keep (Sm_.keep (Sm_.keep (Sm_.keep (Sm_.keep (Sm_.keep (Sm_.keep (Sm_.keep (Sm_.keep (Sm_.keep (Sm_.keep (Sm_.keep (Sm_.keep (Sm_.keep (Sm_.keep Sm_.nil)))))))))))))))))) rfl hl.1 (Nat.le_of_ble_eq_true rfl) ⟨Nat.zero_le _, Nat.zero_le _⟩ d_Writer_writeDisk_67 (fun H locs hw => ?_) rfl
      refine n_iconst hC 0 d_Writer_writeDisk_70 (by decide) ?_
      refine n_istore_n hC [(2, .int 0), (1, .int u20.1), (0, .ref t_o)] hl d_Writer_writeDisk_71 rfl (by decide) rfl (fun ls hl => ?_)
      have hL72 := lw2 (B := f_Writer_writeDisk_L72 N p_files u27 u20 p_sizes d_length d_words_n p_names p_seeds p_kernelAddress v_next_n) (z := z) (fun (x33 : Int32) (x34 : Nat → Int64) => ∀ (H : Heap) (locs : List Loc) (ls : Array Slot), WS g.1 classes A s.heap H locs (wd_Writer_writeDisk g t_o d_o d_words_a p_o p_sorts_a p_starts_a p_lengths_a p_names_a p_sizes_a p_seeds_a p_scattered_a u_o u_shifted_a v_o v_next_a v_firstClusters_a v_runStarts_a v_runLengths_a d_words_n v_next_n t_sectors d_length x34 p_lastUsable p_partitions p_files p_kernelAddress p_sorts p_starts p_lengths p_names p_sizes p_seeds p_scattered u27.2 u_shifted u20.2.1 u20.2.2.1 u20.2.2.2.1 u20.2.2.2.2.1 u20.2.2.2.2.2.1 u20.2.2.2.2.2.2.1 u20.2.2.2.2.2.2.2.1 u20.2.2.2.2.2.2.2.2.1 u20.2.2.2.2.2.2.2.2.2) → lv_has ls 3 [(2, .int x33), (0, .ref t_o)] → W p l e rm_Writer_writeDisk s m args below meth c H locs 0 0 Q (F0 m 72 ls [])) (by
        intro k72 hk72 x33 x34 hf H locs ls hw hl
        unfold f_Writer_writeDisk_L72 at hf
        refine n_iload_n hC hl 0 d_Writer_writeDisk_72 rfl rfl ?_
        refine n_aload_n hC hl 1 d_Writer_writeDisk_73 rfl rfl ?_
        refine n_get hC hw fg_Writer_19 0 rfl rfl d_Writer_writeDisk_74 ?_
        refine n_get hC hw fg_Writer_62 3 rfl rfl d_Writer_writeDisk_77 ?_
        refine n_icmp_ge hC hf 94 d_Writer_writeDisk_80 (by decide) (fun hf => ?_) (fun hf => ?_)
        · refine n_iconst hC 0 d_Writer_writeDisk_94 (by decide) ?_
          cases hf
          exact hret _ _ _ _ hw (show narrow .int (Value.int 0) = Value.int 0 from rfl) d_Writer_writeDisk_95
        · refine n_aload_n hC hl 1 d_Writer_writeDisk_83 rfl rfl ?_
          refine n_iload_n hC hl 0 d_Writer_writeDisk_84 rfl rfl ?_
          obtain ⟨u37, hu37, hf⟩ := bd_s hf
          refine n_callVv hC hw fc_Writer_67 (c_Writer_writeFile l g E hEe X hS t_o d_o d_words_a p_o p_names_a p_sizes_a p_seeds_a v_o v_next_a v_firstClusters_a u_o p_sorts_a p_starts_a p_lengths_a p_scattered_a v_runStarts_a v_runLengths_a d_words_n v_next_n t_sectors d_length x34 p_lastUsable p_partitions p_files p_kernelAddress p_names p_sizes p_seeds u20.2.1 u20.2.2.1 u20.2.2.2.1 u20.2.2.2.2.1 u20.2.2.2.2.2.1 u20.2.2.2.2.2.2.1 u20.2.2.2.2.2.2.2.1 x33 N u37 hu37) [0, 1, 2, 3, 7, 8, 9, 13, 14, 15] (wd_Writer_writeDisk g t_o d_o d_words_a p_o p_sorts_a p_starts_a p_lengths_a p_names_a p_sizes_a p_seeds_a p_scattered_a u_o u_shifted_a v_o v_next_a v_firstClusters_a v_runStarts_a v_runLengths_a d_words_n v_next_n t_sectors d_length u37 p_lastUsable p_partitions p_files p_kernelAddress p_sorts p_starts p_lengths p_names p_sizes p_seeds p_scattered u27.2 u_shifted u20.2.1 u20.2.2.1 u20.2.2.2.1 u20.2.2.2.2.1 u20.2.2.2.2.2.1 u20.2.2.2.2.2.2.1 u20.2.2.2.2.2.2.2.1 u20.2.2.2.2.2.2.2.2.1 u20.2.2.2.2.2.2.2.2.2) 0 rfl ⟨rfl, rfl⟩ ⟨Nat.le_of_ble_eq_true rfl, Nat.le_of_ble_eq_true rfl⟩ rfl (At_.cons rfl (At_.cons rfl (At_.cons rfl (At_.cons rfl (At_.cons rfl (At_.cons rfl (At_.cons rfl (At_.cons rfl (At_.cons rfl (At_.cons rfl At_.nil)))))))))) (At_.cons rfl (At_.cons rfl (At_.cons rfl (At_.cons rfl (At_.cons rfl (At_.cons rfl (At_.cons rfl (At_.cons rfl (At_.cons rfl (At_.cons rfl At_.nil)))))))))) (Sm_.keep (Sm_.keep (Sm_.upd rfl (Sm_.keep (Sm_.keep (Sm_.keep (Sm_.keep (Sm_.keep (Sm_.keep (Sm_.keep (Sm_.keep (Sm_.keep (Sm_.keep (Sm_.keep (Sm_.keep (Sm_.keep (Sm_.keep (Sm_.keep Sm_.nil)))))))))))))))))) rfl hl.1 (Nat.le_of_ble_eq_true rfl) ⟨Nat.zero_le _, Nat.zero_le _⟩ d_Writer_writeDisk_85 (fun H locs hw => ?_) rfl
          refine n_iinc hC (k := 0) hf (by decide) (fun v38 => [(2, .int v38), (0, .ref t_o)]) hl d_Writer_writeDisk_88 rfl (by decide) (fun _ => rfl) (fun v38 ls hf hl => ?_)
          refine n_goto hC 72 d_Writer_writeDisk_91 (by decide) ?_
          exact hk72 _ _ hf _ _ _ hw (lv_sub hl [0, 1] rfl)
        )
      exact hL72 N _ _ hf _ _ _ hw (lv_sub hl [0, 2] rfl)
  · refine n_iload_n hC hl 0 d_Writer_writeDisk_9 rfl rfl ?_
    cases hf
    exact hret _ _ _ _ hw (show narrow .int (Value.int u20.1) = Value.int u20.1 from rfl) d_Writer_writeDisk_10
