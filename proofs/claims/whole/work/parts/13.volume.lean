def wd_Volume_tableBytes (g : GT)  : va_W := []
def f_Volume_tableBytes (a1 : Int32) : Option (Int32) :=
  lt_ (a1 + 2) (fun v5 => lt_ (v5 * 3) (fun v6 => lt_ (v6 + 1) (fun v7 => lt_ (v7 / 2) (fun v8 => some (v8)))))
def rm_Volume_tableBytes : Room := { frames := 0, cells := 0, slots := 0, locals := 0 }
set_option maxHeartbeats 4000000 in
set_option maxRecDepth 100000 in
theorem c_Volume_tableBytes (l : Launch) (g : GT) (E : (Nat → Prop) → State → Prop) (hEe : Ee E) (a1 : Int32) (z : Int32) (hf : f_Volume_tableBytes a1 = some z) : Cg l g E y_Volume_tableBytes ws_Volume_tableBytes rm_Volume_tableBytes [.int a1] (wd_Volume_tableBytes g) (some (.int z)) (wd_Volume_tableBytes g) := by
  refine Ct.ofI hEe good_W (by decide) rfl (Nat.le_of_ble_eq_true rfl) ?_
  intro p e s m args below meth c A ls Q hC hw hl hret
  have hC : CX p m c b_Volume_tableBytes 1 s args Wall R_Volume g.1 classes (tK g) E A := hC
  have hl : lv_has ls 1 [(0, .int a1)] := hl
  unfold f_Volume_tableBytes at hf
  refine n_iload_n hC hl 0 d_Volume_tableBytes_0 rfl rfl ?_
  refine n_iconst hC 2 d_Volume_tableBytes_1 (by decide) ?_
  refine n_iadd hC hf d_Volume_tableBytes_2 (fun v5 hf => ?_)
  refine n_iconst hC 3 d_Volume_tableBytes_3 (by decide) ?_
  refine n_imul hC hf d_Volume_tableBytes_4 (fun v6 hf => ?_)
  refine n_iconst hC 1 d_Volume_tableBytes_5 (by decide) ?_
  refine n_iadd hC hf d_Volume_tableBytes_6 (fun v7 hf => ?_)
  refine n_iconst hC 2 d_Volume_tableBytes_7 (by decide) ?_
  refine n_idiv hC hf d_Volume_tableBytes_8 (by decide) (fun v8 hf => ?_)
  cases hf
  exact hret _ _ _ _ hw rfl d_Volume_tableBytes_9
def wd_Volume_clustersIn (g : GT)  : va_W := []
def f_Volume_clustersIn (a1 : Int32) (a2 : Int32) : Option (Int32) :=
  lt_ (a1 - 1) (fun v5 => lt_ (v5 - 2) (fun v6 => lt_ ((2 : Int32) * a2) (fun v7 => lt_ (v6 - v7) (fun v8 => some (v8)))))
def rm_Volume_clustersIn : Room := { frames := 0, cells := 0, slots := 0, locals := 0 }
set_option maxHeartbeats 4000000 in
set_option maxRecDepth 100000 in
theorem c_Volume_clustersIn (l : Launch) (g : GT) (E : (Nat → Prop) → State → Prop) (hEe : Ee E) (a1 : Int32) (a2 : Int32) (z : Int32) (hf : f_Volume_clustersIn a1 a2 = some z) : Cg l g E y_Volume_clustersIn ws_Volume_clustersIn rm_Volume_clustersIn [.int a1, .int a2] (wd_Volume_clustersIn g) (some (.int z)) (wd_Volume_clustersIn g) := by
  refine Ct.ofI hEe good_W (by decide) rfl (Nat.le_of_ble_eq_true rfl) ?_
  intro p e s m args below meth c A ls Q hC hw hl hret
  have hC : CX p m c b_Volume_clustersIn 2 s args Wall R_Volume g.1 classes (tK g) E A := hC
  have hl : lv_has ls 2 [(0, .int a1), (1, .int a2)] := hl
  unfold f_Volume_clustersIn at hf
  refine n_iload_n hC hl 0 d_Volume_clustersIn_0 rfl rfl ?_
  refine n_iconst hC 1 d_Volume_clustersIn_1 (by decide) ?_
  refine n_isub hC hf d_Volume_clustersIn_2 (fun v5 hf => ?_)
  refine n_iconst hC 2 d_Volume_clustersIn_3 (by decide) ?_
  refine n_isub hC hf d_Volume_clustersIn_4 (fun v6 hf => ?_)
  refine n_iconst hC 2 d_Volume_clustersIn_5 (by decide) ?_
  refine n_iload_n hC hl 1 d_Volume_clustersIn_6 rfl rfl ?_
  refine n_imul hC hf d_Volume_clustersIn_7 (fun v7 hf => ?_)
  refine n_isub hC hf d_Volume_clustersIn_8 (fun v8 hf => ?_)
  cases hf
  exact hret _ _ _ _ hw rfl d_Volume_clustersIn_9
def wd_Volume_forget (g : GT) (t_o : Nat) (t_next_a : Nat) (t_firstClusters_a : Nat) (t_runStarts_a : Nat) (t_runLengths_a : Nat) (t_start : Int32) (t_length : Int32) (t_tableSectors : Int32) (t_clusters : Int32) (t_runs : Int32) : va_W := [(t_o, .inr (3, [.int t_start, .int t_length, .int t_tableSectors, .int t_clusters, .ref t_next_a, .ref t_firstClusters_a, .ref t_runStarts_a, .ref t_runLengths_a, .int t_runs]))]
def f_Volume_forget  : Option (Int32 × Int32) :=
  some (0, 0)
def rm_Volume_forget : Room := { frames := 0, cells := 0, slots := 0, locals := 0 }
set_option maxHeartbeats 4000000 in
set_option maxRecDepth 100000 in
theorem c_Volume_forget (l : Launch) (g : GT) (E : (Nat → Prop) → State → Prop) (hEe : Ee E) (t_o : Nat) (t_next_a : Nat) (t_firstClusters_a : Nat) (t_runStarts_a : Nat) (t_runLengths_a : Nat) (t_start : Int32) (t_length : Int32) (t_tableSectors : Int32) (t_clusters : Int32) (t_runs : Int32) (z : Int32 × Int32) (hf : f_Volume_forget  = some z) : Cg l g E y_Volume_forget ws_Volume_forget rm_Volume_forget [.ref t_o] (wd_Volume_forget g t_o t_next_a t_firstClusters_a t_runStarts_a t_runLengths_a t_start t_length t_tableSectors t_clusters t_runs) none (wd_Volume_forget g t_o t_next_a t_firstClusters_a t_runStarts_a t_runLengths_a t_start t_length t_tableSectors z.1 z.2) := by
  refine Ct.ofV hEe good_W (by decide) rfl (Nat.le_of_ble_eq_true rfl) ?_
  intro p e s m args below meth c A ls Q hC hw hl hret
  have hC : CX p m c b_Volume_forget 1 s args Wall R_Volume g.1 classes (tK g) E A := hC
  have hl : lv_has ls 1 [(0, .ref t_o)] := hl
  unfold f_Volume_forget at hf
  refine n_aload_n hC hl 0 d_Volume_forget_0 rfl rfl ?_
  refine n_iconst hC 0 d_Volume_forget_1 (by decide) ?_
  refine n_put hC hw fp_Volume_24 0 (wd_Volume_forget g t_o t_next_a t_firstClusters_a t_runStarts_a t_runLengths_a t_start t_length t_tableSectors 0 t_runs) rfl rfl rfl (Nat.le_of_ble_eq_true rfl) d_Volume_forget_2 rfl (fun H locs hw => ?_)
  refine n_aload_n hC hl 0 d_Volume_forget_5 rfl rfl ?_
  refine n_iconst hC 0 d_Volume_forget_6 (by decide) ?_
  refine n_put hC hw fp_Volume_28 0 (wd_Volume_forget g t_o t_next_a t_firstClusters_a t_runStarts_a t_runLengths_a t_start t_length t_tableSectors 0 0) rfl rfl rfl (Nat.le_of_ble_eq_true rfl) d_Volume_forget_7 rfl (fun H locs hw => ?_)
  cases hf
  exact hret _ _ _ _ hw d_Volume_forget_10
def wd_Volume_lieIn (g : GT) (t_o : Nat) (t_next_a : Nat) (t_firstClusters_a : Nat) (t_runStarts_a : Nat) (t_runLengths_a : Nat) (t_start : Int32) (t_length : Int32) (t_tableSectors : Int32) (t_clusters : Int32) (t_runs : Int32) : va_W := [(t_o, .inr (3, [.int t_start, .int t_length, .int t_tableSectors, .int t_clusters, .ref t_next_a, .ref t_firstClusters_a, .ref t_runStarts_a, .ref t_runLengths_a, .int t_runs]))]
def f_Volume_lieIn_L15 (a2 : Int32) (a1 : Int32) (k15 : Int32 → Option (Int32 × Int32 × Int32 × Int32)) (x26 : Int32) : Option (Int32 × Int32 × Int32 × Int32) :=
  lt_ (bd_ (f_Volume_clustersIn a2 x26) (fun u37 => some (a1, a2, x26, u37))) (fun (j64 : Option (Int32 × Int32 × Int32 × Int32)) => if a2 ≤ x26 then j64 else bd_ (f_Volume_clustersIn a2 x26) (fun u38 => bd_ (f_Volume_tableBytes u38) (fun u39 => lt_ ((512 : Int32) * x26) (fun v40 => if u39 ≤ v40 then j64 else lt_ (x26 + 1) (fun v41 => k15 v41)))))
def f_Volume_lieIn (N : Nat) (a2 : Int32) (a1 : Int32) : Option (Int32 × Int32 × Int32 × Int32) :=
  lp_ (fun _ => none) (f_Volume_lieIn_L15 a2 a1) N 1
def rm_Volume_lieIn : Room := { frames := 1, cells := 0, slots := 0, locals := 21 }
set_option maxHeartbeats 4000000 in
set_option maxRecDepth 100000 in
theorem c_Volume_lieIn (l : Launch) (g : GT) (E : (Nat → Prop) → State → Prop) (hEe : Ee E) (t_o : Nat) (t_next_a : Nat) (t_firstClusters_a : Nat) (t_runStarts_a : Nat) (t_runLengths_a : Nat) (t_start : Int32) (t_length : Int32) (t_tableSectors : Int32) (t_clusters : Int32) (t_runs : Int32) (a1 : Int32) (a2 : Int32) (N : Nat) (z : Int32 × Int32 × Int32 × Int32) (hf : f_Volume_lieIn N a2 a1 = some z) : Cg l g E y_Volume_lieIn ws_Volume_lieIn rm_Volume_lieIn [.ref t_o, .int a1, .int a2] (wd_Volume_lieIn g t_o t_next_a t_firstClusters_a t_runStarts_a t_runLengths_a t_start t_length t_tableSectors t_clusters t_runs) none (wd_Volume_lieIn g t_o t_next_a t_firstClusters_a t_runStarts_a t_runLengths_a z.1 z.2.1 z.2.2.1 z.2.2.2 t_runs) := by
  refine Ct.ofV hEe good_W (by decide) rfl (Nat.le_of_ble_eq_true rfl) ?_
  intro p e s m args below meth c A ls Q hC hw hl hret
  have hC : CX p m c b_Volume_lieIn 3 s args Wall R_Volume g.1 classes (tK g) E A := hC
  have hl : lv_has ls 3 [(0, .ref t_o), (1, .int a1), (2, .int a2)] := hl
  unfold f_Volume_lieIn at hf
  refine n_aload_n hC hl 0 d_Volume_lieIn_0 rfl rfl ?_
  refine n_iload_n hC hl 1 d_Volume_lieIn_1 rfl rfl ?_
  refine n_put hC hw fp_Volume_31 0 (wd_Volume_lieIn g t_o t_next_a t_firstClusters_a t_runStarts_a t_runLengths_a a1 t_length t_tableSectors t_clusters t_runs) rfl rfl rfl (Nat.le_of_ble_eq_true rfl) d_Volume_lieIn_2 rfl (fun H locs hw => ?_)
  refine n_aload_n hC hl 0 d_Volume_lieIn_5 rfl rfl ?_
  refine n_iload_n hC hl 2 d_Volume_lieIn_6 rfl rfl ?_
  refine n_put hC hw fp_Volume_34 0 (wd_Volume_lieIn g t_o t_next_a t_firstClusters_a t_runStarts_a t_runLengths_a a1 a2 t_tableSectors t_clusters t_runs) rfl rfl rfl (Nat.le_of_ble_eq_true rfl) d_Volume_lieIn_7 rfl (fun H locs hw => ?_)
  refine n_aload_n hC hl 0 d_Volume_lieIn_10 rfl rfl ?_
  refine n_iconst hC 1 d_Volume_lieIn_11 (by decide) ?_
  refine n_put hC hw fp_Volume_37 0 (wd_Volume_lieIn g t_o t_next_a t_firstClusters_a t_runStarts_a t_runLengths_a a1 a2 1 t_clusters t_runs) rfl rfl rfl (Nat.le_of_ble_eq_true rfl) d_Volume_lieIn_12 rfl (fun H locs hw => ?_)
  have hL15 := lw1 (B := f_Volume_lieIn_L15 a2 a1) (z := z) (fun (x26 : Int32) => ∀ (H : Heap) (locs : List Loc) (ls : Array Slot), WS g.1 classes A s.heap H locs (wd_Volume_lieIn g t_o t_next_a t_firstClusters_a t_runStarts_a t_runLengths_a a1 a2 x26 t_clusters t_runs) → lv_has ls 3 [(0, .ref t_o)] → W p l e rm_Volume_lieIn s m args below meth c H locs 0 0 Q (F0 m 15 ls [])) (by
    intro k15 hk15 x26 hf H locs ls hw hl
    unfold f_Volume_lieIn_L15 at hf
    refine n_aload_n hC hl 0 d_Volume_lieIn_15 rfl rfl ?_
    refine n_get hC hw fg_Volume_37 0 rfl rfl d_Volume_lieIn_16 ?_
    refine n_aload_n hC hl 0 d_Volume_lieIn_19 rfl rfl ?_
    refine n_get hC hw fg_Volume_34 0 rfl rfl d_Volume_lieIn_20 ?_
    refine jn0 (∀ (H : Heap) (locs : List Loc) (ls : Array Slot), WS g.1 classes A s.heap H locs (wd_Volume_lieIn g t_o t_next_a t_firstClusters_a t_runStarts_a t_runLengths_a a1 a2 x26 t_clusters t_runs) → lv_has ls 3 [(0, .ref t_o)] → W p l e rm_Volume_lieIn s m args below meth c H locs 0 0 Q (F0 m 64 ls [])) hf (fun hf H locs ls hw hl => ?_) (fun j64 hj64 hf => ?_)
    · refine n_aload_n hC hl 0 d_Volume_lieIn_64 rfl rfl ?_
      refine n_aload_n hC hl 0 d_Volume_lieIn_65 rfl rfl ?_
      refine n_get hC hw fg_Volume_34 0 rfl rfl d_Volume_lieIn_66 ?_
      refine n_aload_n hC hl 0 d_Volume_lieIn_69 rfl rfl ?_
      refine n_get hC hw fg_Volume_37 0 rfl rfl d_Volume_lieIn_70 ?_
      obtain ⟨u37, hu37, hf⟩ := bd_s hf
      refine n_callSi hC hw fc_Volume_40 (c_Volume_clustersIn l g E hEe a2 x26 u37 hu37) [] (wd_Volume_lieIn g t_o t_next_a t_firstClusters_a t_runStarts_a t_runLengths_a a1 a2 x26 t_clusters t_runs) ⟨rfl, rfl⟩ ⟨Nat.le_of_ble_eq_true rfl, Nat.le_of_ble_eq_true rfl⟩ rfl At_.nil At_.nil Sm_.refl rfl hl.1 (Nat.le_of_ble_eq_true rfl) ⟨Nat.zero_le _, Nat.zero_le _⟩ d_Volume_lieIn_73 (fun H locs hw => ?_) rfl
      refine n_put hC hw fp_Volume_24 0 (wd_Volume_lieIn g t_o t_next_a t_firstClusters_a t_runStarts_a t_runLengths_a a1 a2 x26 u37 t_runs) rfl rfl rfl (Nat.le_of_ble_eq_true rfl) d_Volume_lieIn_76 rfl (fun H locs hw => ?_)
      cases hf
      exact hret _ _ _ _ hw d_Volume_lieIn_79
    refine n_icmp_ge hC hf 64 d_Volume_lieIn_23 (by decide) (fun hf => ?_) (fun hf => ?_)
    · exact hj64 hf _ _ _ hw (lv_sub hl [0] rfl)
    · refine n_aload_n hC hl 0 d_Volume_lieIn_26 rfl rfl ?_
      refine n_get hC hw fg_Volume_34 0 rfl rfl d_Volume_lieIn_27 ?_
      refine n_aload_n hC hl 0 d_Volume_lieIn_30 rfl rfl ?_
      refine n_get hC hw fg_Volume_37 0 rfl rfl d_Volume_lieIn_31 ?_
      obtain ⟨u38, hu38, hf⟩ := bd_s hf
      refine n_callSi hC hw fc_Volume_40 (c_Volume_clustersIn l g E hEe a2 x26 u38 hu38) [] (wd_Volume_lieIn g t_o t_next_a t_firstClusters_a t_runStarts_a t_runLengths_a a1 a2 x26 t_clusters t_runs) ⟨rfl, rfl⟩ ⟨Nat.le_of_ble_eq_true rfl, Nat.le_of_ble_eq_true rfl⟩ rfl At_.nil At_.nil Sm_.refl rfl hl.1 (Nat.le_of_ble_eq_true rfl) ⟨Nat.zero_le _, Nat.zero_le _⟩ d_Volume_lieIn_34 (fun H locs hw => ?_) rfl
      obtain ⟨u39, hu39, hf⟩ := bd_s hf
      refine n_callSi hC hw fc_Volume_44 (c_Volume_tableBytes l g E hEe u38 u39 hu39) [] (wd_Volume_lieIn g t_o t_next_a t_firstClusters_a t_runStarts_a t_runLengths_a a1 a2 x26 t_clusters t_runs) ⟨rfl, rfl⟩ ⟨Nat.le_of_ble_eq_true rfl, Nat.le_of_ble_eq_true rfl⟩ rfl At_.nil At_.nil Sm_.refl rfl hl.1 (Nat.le_of_ble_eq_true rfl) ⟨Nat.zero_le _, Nat.zero_le _⟩ d_Volume_lieIn_37 (fun H locs hw => ?_) rfl
      refine n_sipush hC 512 d_Volume_lieIn_40 (by decide) ?_
      refine n_aload_n hC hl 0 d_Volume_lieIn_43 rfl rfl ?_
      refine n_get hC hw fg_Volume_37 0 rfl rfl d_Volume_lieIn_44 ?_
      refine n_imul hC hf d_Volume_lieIn_47 (fun v40 hf => ?_)
      refine n_icmp_le hC hf 64 d_Volume_lieIn_48 (by decide) (fun hf => ?_) (fun hf => ?_)
      · exact hj64 hf _ _ _ hw (lv_sub hl [0] rfl)
      · refine n_aload_n hC hl 0 d_Volume_lieIn_51 rfl rfl ?_
        refine n_dup hC d_Volume_lieIn_52 rfl ?_
        refine n_get hC hw fg_Volume_37 0 rfl rfl d_Volume_lieIn_53 ?_
        refine n_iconst hC 1 d_Volume_lieIn_56 (by decide) ?_
        refine n_iadd hC hf d_Volume_lieIn_57 (fun v41 hf => ?_)
        refine n_put hC hw fp_Volume_37 0 (wd_Volume_lieIn g t_o t_next_a t_firstClusters_a t_runStarts_a t_runLengths_a a1 a2 v41 t_clusters t_runs) rfl rfl rfl (Nat.le_of_ble_eq_true rfl) d_Volume_lieIn_58 rfl (fun H locs hw => ?_)
        refine n_goto hC 15 d_Volume_lieIn_61 (by decide) ?_
        exact hk15 _ hf _ _ _ hw (lv_sub hl [0] rfl)
    )
  exact hL15 N _ hf _ _ _ hw (lv_sub hl [0] rfl)
def wd_Volume_isPossible (g : GT) (t_o : Nat) (t_next_a : Nat) (t_firstClusters_a : Nat) (t_runStarts_a : Nat) (t_runLengths_a : Nat) (t_next_n : Nat) (t_start : Int32) (t_length : Int32) (t_tableSectors : Int32) (t_clusters : Int32) (t_runs : Int32) (t_next : Nat → Int32) : va_W := [(t_o, .inr (3, [.int t_start, .int t_length, .int t_tableSectors, .int t_clusters, .ref t_next_a, .ref t_firstClusters_a, .ref t_runStarts_a, .ref t_runLengths_a, .int t_runs])), (t_next_a, .inl (g.2.1, t_next_n, .inl t_next))]
def f_Volume_isPossible (t_clusters : Int32) (t_next_n : Nat) : Option (Int32) :=
  if t_clusters < (1 : Int32) then some (0) else lt_ (t_clusters + 2) (fun v2 => if ((Int32.ofNat t_next_n) : Int32) < v2 then some (0) else some (1))
def rm_Volume_isPossible : Room := { frames := 0, cells := 0, slots := 0, locals := 0 }
set_option maxHeartbeats 4000000 in
set_option maxRecDepth 100000 in
theorem c_Volume_isPossible (l : Launch) (g : GT) (E : (Nat → Prop) → State → Prop) (hEe : Ee E) (t_o : Nat) (t_next_a : Nat) (t_firstClusters_a : Nat) (t_runStarts_a : Nat) (t_runLengths_a : Nat) (t_next_n : Nat) (t_start : Int32) (t_length : Int32) (t_tableSectors : Int32) (t_clusters : Int32) (t_runs : Int32) (t_next : Nat → Int32) (z : Int32) (hf : f_Volume_isPossible t_clusters t_next_n = some z) : Cg l g E y_Volume_isPossible ws_Volume_isPossible rm_Volume_isPossible [.ref t_o] (wd_Volume_isPossible g t_o t_next_a t_firstClusters_a t_runStarts_a t_runLengths_a t_next_n t_start t_length t_tableSectors t_clusters t_runs t_next) (some (.int z)) (wd_Volume_isPossible g t_o t_next_a t_firstClusters_a t_runStarts_a t_runLengths_a t_next_n t_start t_length t_tableSectors t_clusters t_runs t_next) := by
  refine Ct.ofI hEe good_W (by decide) rfl (Nat.le_of_ble_eq_true rfl) ?_
  intro p e s m args below meth c A ls Q hC hw hl hret
  have hC : CX p m c b_Volume_isPossible 1 s args Wall R_Volume g.1 classes (tK g) E A := hC
  have hl : lv_has ls 1 [(0, .ref t_o)] := hl
  unfold f_Volume_isPossible at hf
  refine n_aload_n hC hl 0 d_Volume_isPossible_0 rfl rfl ?_
  refine n_get hC hw fg_Volume_24 0 rfl rfl d_Volume_isPossible_1 ?_
  refine n_iconst hC 1 d_Volume_isPossible_4 (by decide) ?_
  refine n_icmp_lt hC hf 26 d_Volume_isPossible_5 (by decide) (fun hf => ?_) (fun hf => ?_)
  · refine n_iconst hC 0 d_Volume_isPossible_26 (by decide) ?_
    cases hf
    exact hret _ _ _ _ hw rfl d_Volume_isPossible_27
  · refine n_aload_n hC hl 0 d_Volume_isPossible_8 rfl rfl ?_
    refine n_get hC hw fg_Volume_24 0 rfl rfl d_Volume_isPossible_9 ?_
    refine n_iconst hC 2 d_Volume_isPossible_12 (by decide) ?_
    refine n_iadd hC hf d_Volume_isPossible_13 (fun v2 hf => ?_)
    refine n_aload_n hC hl 0 d_Volume_isPossible_14 rfl rfl ?_
    refine n_get hC hw fg_Volume_21 0 rfl rfl d_Volume_isPossible_15 ?_
    refine n_alen hC hw 1 0 (Int32.ofNat t_next_n) rfl rfl rfl d_Volume_isPossible_18 ?_
    refine n_icmp_gt hC hf 26 d_Volume_isPossible_19 (by decide) (fun hf => ?_) (fun hf => ?_)
    · refine n_iconst hC 0 d_Volume_isPossible_26 (by decide) ?_
      cases hf
      exact hret _ _ _ _ hw rfl d_Volume_isPossible_27
    · refine n_iconst hC 1 d_Volume_isPossible_22 (by decide) ?_
      refine n_goto hC 27 d_Volume_isPossible_23 (by decide) ?_
      cases hf
      exact hret _ _ _ _ hw rfl d_Volume_isPossible_27
def wd_Volume_clustersFor (g : GT)  : va_W := []
def f_Volume_clustersFor (a1 : Int32) : Option (Int32) :=
  lt_ (a1 + 512) (fun v4 => lt_ (v4 - 1) (fun v5 => lt_ (v5 / 512) (fun v6 => some (v6))))
def rm_Volume_clustersFor : Room := { frames := 0, cells := 0, slots := 0, locals := 0 }
set_option maxHeartbeats 4000000 in
set_option maxRecDepth 100000 in
theorem c_Volume_clustersFor (l : Launch) (g : GT) (E : (Nat → Prop) → State → Prop) (hEe : Ee E) (a1 : Int32) (z : Int32) (hf : f_Volume_clustersFor a1 = some z) : Cg l g E y_Volume_clustersFor ws_Volume_clustersFor rm_Volume_clustersFor [.int a1] (wd_Volume_clustersFor g) (some (.int z)) (wd_Volume_clustersFor g) := by
  refine Ct.ofI hEe good_W (by decide) rfl (Nat.le_of_ble_eq_true rfl) ?_
  intro p e s m args below meth c A ls Q hC hw hl hret
  have hC : CX p m c b_Volume_clustersFor 1 s args Wall R_Volume g.1 classes (tK g) E A := hC
  have hl : lv_has ls 1 [(0, .int a1)] := hl
  unfold f_Volume_clustersFor at hf
  refine n_iload_n hC hl 0 d_Volume_clustersFor_0 rfl rfl ?_
  refine n_sipush hC 512 d_Volume_clustersFor_1 (by decide) ?_
  refine n_iadd hC hf d_Volume_clustersFor_4 (fun v4 hf => ?_)
  refine n_iconst hC 1 d_Volume_clustersFor_5 (by decide) ?_
  refine n_isub hC hf d_Volume_clustersFor_6 (fun v5 hf => ?_)
  refine n_sipush hC 512 d_Volume_clustersFor_7 (by decide) ?_
  refine n_idiv hC hf d_Volume_clustersFor_10 (by decide) (fun v6 hf => ?_)
  cases hf
  exact hret _ _ _ _ hw rfl d_Volume_clustersFor_11
def wd_Volume_lowestFree (g : GT) (t_o : Nat) (t_next_a : Nat) (t_firstClusters_a : Nat) (t_runStarts_a : Nat) (t_runLengths_a : Nat) (t_next_n : Nat) (t_start : Int32) (t_length : Int32) (t_tableSectors : Int32) (t_clusters : Int32) (t_runs : Int32) (t_next : Nat → Int32) : va_W := [(t_o, .inr (3, [.int t_start, .int t_length, .int t_tableSectors, .int t_clusters, .ref t_next_a, .ref t_firstClusters_a, .ref t_runStarts_a, .ref t_runLengths_a, .int t_runs])), (t_next_a, .inl (g.2.1, t_next_n, .inl t_next))]
def f_Volume_lowestFree_L2 (t_clusters : Int32) (t_next_n : Nat) (t_next : Nat → Int32) (k2 : Int32 → Option (Int32)) (x14 : Int32) : Option (Int32) :=
  lt_ (t_clusters + 2) (fun v18 => if v18 ≤ x14 then some ((-1)) else ix_ t_next_n t_next x14 (fun (v19 : Int32) => if ¬ v19 = 0 then lt_ (x14 + 1) (fun v20 => k2 v20) else some (x14)))
def f_Volume_lowestFree (N : Nat) (t_clusters : Int32) (t_next_n : Nat) (t_next : Nat → Int32) (a1 : Int32) : Option (Int32) :=
  lp_ (fun _ => none) (f_Volume_lowestFree_L2 t_clusters t_next_n t_next) N a1
def rm_Volume_lowestFree : Room := { frames := 0, cells := 0, slots := 0, locals := 0 }
set_option maxHeartbeats 4000000 in
set_option maxRecDepth 100000 in
theorem c_Volume_lowestFree (l : Launch) (g : GT) (E : (Nat → Prop) → State → Prop) (hEe : Ee E) (t_o : Nat) (t_next_a : Nat) (t_firstClusters_a : Nat) (t_runStarts_a : Nat) (t_runLengths_a : Nat) (t_next_n : Nat) (t_start : Int32) (t_length : Int32) (t_tableSectors : Int32) (t_clusters : Int32) (t_runs : Int32) (t_next : Nat → Int32) (a1 : Int32) (N : Nat) (z : Int32) (hf : f_Volume_lowestFree N t_clusters t_next_n t_next a1 = some z) : Cg l g E y_Volume_lowestFree ws_Volume_lowestFree rm_Volume_lowestFree [.ref t_o, .int a1] (wd_Volume_lowestFree g t_o t_next_a t_firstClusters_a t_runStarts_a t_runLengths_a t_next_n t_start t_length t_tableSectors t_clusters t_runs t_next) (some (.int z)) (wd_Volume_lowestFree g t_o t_next_a t_firstClusters_a t_runStarts_a t_runLengths_a t_next_n t_start t_length t_tableSectors t_clusters t_runs t_next) := by
  refine Ct.ofI hEe good_W (by decide) rfl (Nat.le_of_ble_eq_true rfl) ?_
  intro p e s m args below meth c A ls Q hC hw hl hret
  have hC : CX p m c b_Volume_lowestFree 3 s args Wall R_Volume g.1 classes (tK g) E A := hC
  have hl : lv_has ls 3 [(0, .ref t_o), (1, .int a1)] := hl
  unfold f_Volume_lowestFree at hf
  refine n_iload_n hC hl 1 d_Volume_lowestFree_0 rfl rfl ?_
  refine n_istore_n hC [(2, .int a1), (0, .ref t_o), (1, .int a1)] hl d_Volume_lowestFree_1 rfl (by decide) rfl (fun ls hl => ?_)
  have hL2 := lw1 (B := f_Volume_lowestFree_L2 t_clusters t_next_n t_next) (z := z) (fun (x14 : Int32) => ∀ (H : Heap) (locs : List Loc) (ls : Array Slot), WS g.1 classes A s.heap H locs (wd_Volume_lowestFree g t_o t_next_a t_firstClusters_a t_runStarts_a t_runLengths_a t_next_n t_start t_length t_tableSectors t_clusters t_runs t_next) → lv_has ls 3 [(2, .int x14), (0, .ref t_o)] → W p l e rm_Volume_lowestFree s m args below meth c H locs 0 0 Q (F0 m 2 ls [])) (by
    intro k2 hk2 x14 hf H locs ls hw hl
    unfold f_Volume_lowestFree_L2 at hf
    refine n_iload_n hC hl 0 d_Volume_lowestFree_2 rfl rfl ?_
    refine n_aload_n hC hl 1 d_Volume_lowestFree_3 rfl rfl ?_
    refine n_get hC hw fg_Volume_24 0 rfl rfl d_Volume_lowestFree_4 ?_
    refine n_iconst hC 2 d_Volume_lowestFree_7 (by decide) ?_
    refine n_iadd hC hf d_Volume_lowestFree_8 (fun v18 hf => ?_)
    refine n_icmp_ge hC hf 29 d_Volume_lowestFree_9 (by decide) (fun hf => ?_) (fun hf => ?_)
    · refine n_iconst hC (-1) d_Volume_lowestFree_29 (by decide) ?_
      cases hf
      exact hret _ _ _ _ hw rfl d_Volume_lowestFree_30
    · refine n_aload_n hC hl 1 d_Volume_lowestFree_12 rfl rfl ?_
      refine n_get hC hw fg_Volume_21 0 rfl rfl d_Volume_lowestFree_13 ?_
      refine n_iload_n hC hl 0 d_Volume_lowestFree_16 rfl rfl ?_
      refine n_iald hC hw hf 1 0 rfl rfl d_Volume_lowestFree_17 (fun v19 hf => ?_)
      refine n_if_ne hC hf 23 d_Volume_lowestFree_18 (by decide) (fun hf => ?_) (fun hf => ?_)
      · refine n_iinc hC (k := 0) hf (by decide) (fun v20 => [(2, .int v20), (0, .ref t_o)]) hl d_Volume_lowestFree_23 rfl (by decide) (fun _ => rfl) (fun v20 ls hf hl => ?_)
        refine n_goto hC 2 d_Volume_lowestFree_26 (by decide) ?_
        exact hk2 _ hf _ _ _ hw (lv_sub hl [0, 1] rfl)
      · refine n_iload_n hC hl 0 d_Volume_lowestFree_21 rfl rfl ?_
        cases hf
        exact hret _ _ _ _ hw rfl d_Volume_lowestFree_22
    )
  exact hL2 N _ hf _ _ _ hw (lv_sub hl [0, 1] rfl)
def wd_Volume_placeFile (g : GT) (t_o : Nat) (t_next_a : Nat) (t_firstClusters_a : Nat) (t_runStarts_a : Nat) (t_runLengths_a : Nat) (t_next_n : Nat) (t_start : Int32) (t_length : Int32) (t_tableSectors : Int32) (t_clusters : Int32) (t_runs : Int32) (t_next : Nat → Int32) (t_firstClusters : Nat → Int32) : va_W := [(t_o, .inr (3, [.int t_start, .int t_length, .int t_tableSectors, .int t_clusters, .ref t_next_a, .ref t_firstClusters_a, .ref t_runStarts_a, .ref t_runLengths_a, .int t_runs])), (t_next_a, .inl (g.2.1, t_next_n, .inl t_next)), (t_firstClusters_a, .inl (g.2.1, 12, .inl t_firstClusters))]
def f_Volume_placeFile_L16 (N : Nat) (a2 : Int32) (t_clusters : Int32) (t_next_n : Nat) (a1 : Int32) (k16 : Int32 → Int32 → Int32 → (Nat → Int32) → (Nat → Int32) → Option ((Nat → Int32) × (Nat → Int32))) (x180 : Int32) (x181 : Int32) (x182 : Int32) (x183 : Nat → Int32) (x184 : Nat → Int32) : Option ((Nat → Int32) × (Nat → Int32)) :=
  if a2 ≤ x180 then some (x183, x184) else lt_ (fun (x229 : Int32) => bd_ (f_Volume_lowestFree N t_clusters t_next_n x183 x229) (fun u230 => lt_ (fun (x232 : Int32) (x233 : Int32) => if ¬ x232 = ((-1) : Int32) then lt_ (fun (x236 : Nat → Int32) (x237 : Nat → Int32) => up_i t_next_n x236 x232 4095 (fun (f238 : Nat → Int32) => lt_ (x180 + 1) (fun v239 => k16 v239 x232 x233 f238 x237))) (fun (j94 : (Nat → Int32) → (Nat → Int32) → Option ((Nat → Int32) × (Nat → Int32))) => if ¬ x180 = 0 then up_i t_next_n x183 x181 x232 (fun (f240 : Nat → Int32) => j94 f240 x184) else up_i 12 x184 a1 x232 (fun (f241 : Nat → Int32) => j94 x183 f241)) else some (x183, x184)) (fun (j62 : Int32 → Int32 → Option ((Nat → Int32) × (Nat → Int32))) => if ¬ u230 = ((-1) : Int32) then j62 u230 x182 else bd_ (f_Volume_lowestFree N t_clusters t_next_n x183 2) (fun u242 => j62 u242 0)))) (fun (j41 : Int32 → Option ((Nat → Int32) × (Nat → Int32))) => lt_ (j41 2) (fun (j40 : Option ((Nat → Int32) × (Nat → Int32))) => if x182 = 0 then j40 else if x180 ≤ 0 then j40 else lt_ (x181 + 2) (fun v258 => j41 v258)))
def f_Volume_placeFile (N : Nat) (t_firstClusters : Nat → Int32) (a1 : Int32) (a2 : Int32) (t_clusters : Int32) (t_next_n : Nat) (a3 : Int32) (t_next : Nat → Int32) : Option ((Nat → Int32) × (Nat → Int32)) :=
  up_i 12 t_firstClusters a1 0 (fun (f136 : Nat → Int32) => lp_ (fun _ _ _ _ _ => none) (f_Volume_placeFile_L16 N a2 t_clusters t_next_n a1) N 0 0 a3 t_next f136)
def rm_Volume_placeFile : Room := { frames := 1, cells := 0, slots := 0, locals := 22 }
set_option maxHeartbeats 4000000 in
set_option maxRecDepth 100000 in
theorem c_Volume_placeFile (l : Launch) (g : GT) (E : (Nat → Prop) → State → Prop) (hEe : Ee E) (t_o : Nat) (t_next_a : Nat) (t_firstClusters_a : Nat) (t_runStarts_a : Nat) (t_runLengths_a : Nat) (t_next_n : Nat) (t_start : Int32) (t_length : Int32) (t_tableSectors : Int32) (t_clusters : Int32) (t_runs : Int32) (t_next : Nat → Int32) (t_firstClusters : Nat → Int32) (a1 : Int32) (a2 : Int32) (a3 : Int32) (N : Nat) (z : (Nat → Int32) × (Nat → Int32)) (hf : f_Volume_placeFile N t_firstClusters a1 a2 t_clusters t_next_n a3 t_next = some z) : Cg l g E y_Volume_placeFile ws_Volume_placeFile rm_Volume_placeFile [.ref t_o, .int a1, .int a2, .int a3] (wd_Volume_placeFile g t_o t_next_a t_firstClusters_a t_runStarts_a t_runLengths_a t_next_n t_start t_length t_tableSectors t_clusters t_runs t_next t_firstClusters) none (wd_Volume_placeFile g t_o t_next_a t_firstClusters_a t_runStarts_a t_runLengths_a t_next_n t_start t_length t_tableSectors t_clusters t_runs z.1 z.2) := by
  refine Ct.ofV hEe good_W (by decide) rfl (Nat.le_of_ble_eq_true rfl) ?_
  intro p e s m args below meth c A ls Q hC hw hl hret
  have hC : CX p m c b_Volume_placeFile 8 s args Wall R_Volume g.1 classes (tK g) E A := hC
  have hl : lv_has ls 8 [(0, .ref t_o), (1, .int a1), (2, .int a2), (3, .int a3)] := hl
  unfold f_Volume_placeFile at hf
  refine n_iload_n hC hl 3 d_Volume_placeFile_0 rfl rfl ?_
  refine n_istore hC [(4, .int a3), (0, .ref t_o), (1, .int a1), (2, .int a2), (3, .int a3)] hl d_Volume_placeFile_1 (by decide) rfl (fun ls hl => ?_)
  refine n_iconst hC 0 d_Volume_placeFile_3 (by decide) ?_
  refine n_istore hC [(5, .int 0), (4, .int a3), (0, .ref t_o), (1, .int a1), (2, .int a2), (3, .int a3)] hl d_Volume_placeFile_4 (by decide) rfl (fun ls hl => ?_)
  refine n_aload_n hC hl 2 d_Volume_placeFile_6 rfl rfl ?_
  refine n_get hC hw fg_Volume_9 0 rfl rfl d_Volume_placeFile_7 ?_
  refine n_iload_n hC hl 3 d_Volume_placeFile_10 rfl rfl ?_
  refine n_iconst hC 0 d_Volume_placeFile_11 (by decide) ?_
  refine n_iast hC hw hf 2 0 (fun f136 => wd_Volume_placeFile g t_o t_next_a t_firstClusters_a t_runStarts_a t_runLengths_a t_next_n t_start t_length t_tableSectors t_clusters t_runs t_next f136) rfl rfl d_Volume_placeFile_12 (fun _ => rfl) (fun f136 H locs hf hw => ?_)
  refine n_iconst hC 0 d_Volume_placeFile_13 (by decide) ?_
  refine n_istore hC [(6, .int 0), (5, .int 0), (4, .int a3), (0, .ref t_o), (1, .int a1), (2, .int a2), (3, .int a3)] hl d_Volume_placeFile_14 (by decide) rfl (fun ls hl => ?_)
  have hL16 := lw5 (B := f_Volume_placeFile_L16 N a2 t_clusters t_next_n a1) (z := z) (fun (x180 : Int32) (x181 : Int32) (x182 : Int32) (x183 : Nat → Int32) (x184 : Nat → Int32) => ∀ (H : Heap) (locs : List Loc) (ls : Array Slot), WS g.1 classes A s.heap H locs (wd_Volume_placeFile g t_o t_next_a t_firstClusters_a t_runStarts_a t_runLengths_a t_next_n t_start t_length t_tableSectors t_clusters t_runs x183 x184) → lv_has ls 8 [(6, .int x180), (5, .int x181), (4, .int x182), (0, .ref t_o), (1, .int a1), (2, .int a2)] → W p l e rm_Volume_placeFile s m args below meth c H locs 0 0 Q (F0 m 16 ls [])) (by
    intro k16 hk16 x180 x181 x182 x183 x184 hf H locs ls hw hl
    unfold f_Volume_placeFile_L16 at hf
    refine n_iload hC hl 0 d_Volume_placeFile_16 rfl ?_
    refine n_iload_n hC hl 5 d_Volume_placeFile_18 rfl rfl ?_
    refine n_icmp_ge hC hf 114 d_Volume_placeFile_19 (by decide) (fun hf => ?_) (fun hf => ?_)
    · cases hf
      exact hret _ _ _ _ hw d_Volume_placeFile_114
    · refine n_aload_n hC hl 3 d_Volume_placeFile_22 rfl rfl ?_
      refine n_iload hC hl 2 d_Volume_placeFile_23 rfl ?_
      refine jn1 (fun (x229 : Int32) => ∀ (H : Heap) (locs : List Loc) (ls : Array Slot), WS g.1 classes A s.heap H locs (wd_Volume_placeFile g t_o t_next_a t_firstClusters_a t_runStarts_a t_runLengths_a t_next_n t_start t_length t_tableSectors t_clusters t_runs x183 x184) → lv_has ls 8 [(6, .int x180), (5, .int x181), (4, .int x182), (0, .ref t_o), (1, .int a1), (2, .int a2)] → W p l e rm_Volume_placeFile s m args below meth c H locs 0 0 Q (F0 m 41 ls [.int x229, .ref t_o])) hf (fun x229 hf H locs ls hw hl => ?_) (fun j41 hj41 hf => ?_)
      · obtain ⟨u230, hu230, hf⟩ := bd_s hf
        refine n_callVi hC hw fc_Volume_73 (c_Volume_lowestFree l g E hEe t_o t_next_a t_firstClusters_a t_runStarts_a t_runLengths_a t_next_n t_start t_length t_tableSectors t_clusters t_runs x183 x229 N u230 hu230) [0, 1] (wd_Volume_placeFile g t_o t_next_a t_firstClusters_a t_runStarts_a t_runLengths_a t_next_n t_start t_length t_tableSectors t_clusters t_runs x183 x184) 0 rfl ⟨rfl, rfl⟩ ⟨Nat.le_of_ble_eq_true rfl, Nat.le_of_ble_eq_true rfl⟩ rfl (At_.cons rfl (At_.cons rfl At_.nil)) (At_.cons rfl (At_.cons rfl At_.nil)) Sm_.refl rfl hl.1 (Nat.le_of_ble_eq_true rfl) ⟨Nat.zero_le _, Nat.zero_le _⟩ d_Volume_placeFile_41 (fun H locs hw => ?_) rfl
        refine n_istore hC [(7, .int u230), (6, .int x180), (5, .int x181), (4, .int x182), (0, .ref t_o), (1, .int a1), (2, .int a2)] hl d_Volume_placeFile_44 (by decide) rfl (fun ls hl => ?_)
        refine n_iload hC hl 0 d_Volume_placeFile_46 rfl ?_
        refine n_iconst hC (-1) d_Volume_placeFile_48 (by decide) ?_
        refine jn2 (fun (x232 : Int32) (x233 : Int32) => ∀ (H : Heap) (locs : List Loc) (ls : Array Slot), WS g.1 classes A s.heap H locs (wd_Volume_placeFile g t_o t_next_a t_firstClusters_a t_runStarts_a t_runLengths_a t_next_n t_start t_length t_tableSectors t_clusters t_runs x183 x184) → lv_has ls 8 [(7, .int x232), (6, .int x180), (5, .int x181), (4, .int x233), (0, .ref t_o), (1, .int a1), (2, .int a2)] → W p l e rm_Volume_placeFile s m args below meth c H locs 0 0 Q (F0 m 62 ls [])) hf (fun x232 x233 hf H locs ls hw hl => ?_) (fun j62 hj62 hf => ?_)
        · refine n_iload hC hl 0 d_Volume_placeFile_62 rfl ?_
          refine n_iconst hC (-1) d_Volume_placeFile_64 (by decide) ?_
          refine n_icmp_ne hC hf 69 d_Volume_placeFile_65 (by decide) (fun hf => ?_) (fun hf => ?_)
          · refine n_iload hC hl 1 d_Volume_placeFile_69 rfl ?_
            refine jn2 (fun (x236 : Nat → Int32) (x237 : Nat → Int32) => ∀ (H : Heap) (locs : List Loc) (ls : Array Slot), WS g.1 classes A s.heap H locs (wd_Volume_placeFile g t_o t_next_a t_firstClusters_a t_runStarts_a t_runLengths_a t_next_n t_start t_length t_tableSectors t_clusters t_runs x236 x237) → lv_has ls 8 [(7, .int x232), (6, .int x180), (4, .int x233), (0, .ref t_o), (1, .int a1), (2, .int a2)] → W p l e rm_Volume_placeFile s m args below meth c H locs 0 0 Q (F0 m 94 ls [])) hf (fun x236 x237 hf H locs ls hw hl => ?_) (fun j94 hj94 hf => ?_)
            · refine n_aload_n hC hl 3 d_Volume_placeFile_94 rfl rfl ?_
              refine n_get hC hw fg_Volume_21 0 rfl rfl d_Volume_placeFile_95 ?_
              refine n_iload hC hl 0 d_Volume_placeFile_98 rfl ?_
              refine n_sipush hC 4095 d_Volume_placeFile_100 (by decide) ?_
              refine n_iast hC hw hf 1 0 (fun f238 => wd_Volume_placeFile g t_o t_next_a t_firstClusters_a t_runStarts_a t_runLengths_a t_next_n t_start t_length t_tableSectors t_clusters t_runs f238 x237) rfl rfl d_Volume_placeFile_103 (fun _ => rfl) (fun f238 H locs hf hw => ?_)
              refine n_iload hC hl 0 d_Volume_placeFile_104 rfl ?_
              refine n_istore hC [(5, .int x232), (7, .int x232), (6, .int x180), (4, .int x233), (0, .ref t_o), (1, .int a1), (2, .int a2)] hl d_Volume_placeFile_106 (by decide) rfl (fun ls hl => ?_)
              refine n_iinc hC (k := 2) hf (by decide) (fun v239 => [(6, .int v239), (5, .int x232), (7, .int x232), (4, .int x233), (0, .ref t_o), (1, .int a1), (2, .int a2)]) hl d_Volume_placeFile_108 rfl (by decide) (fun _ => rfl) (fun v239 ls hf hl => ?_)
              refine n_goto hC 16 d_Volume_placeFile_111 (by decide) ?_
              exact hk16 _ _ _ _ _ hf _ _ _ hw (lv_sub hl [0, 1, 3, 4, 5, 6] rfl)
            refine n_if_ne hC hf 85 d_Volume_placeFile_71 (by decide) (fun hf => ?_) (fun hf => ?_)
            · refine n_aload_n hC hl 4 d_Volume_placeFile_85 rfl rfl ?_
              refine n_get hC hw fg_Volume_21 0 rfl rfl d_Volume_placeFile_86 ?_
              refine n_iload hC hl 2 d_Volume_placeFile_89 rfl ?_
              refine n_iload hC hl 0 d_Volume_placeFile_91 rfl ?_
              refine n_iast hC hw hf 1 0 (fun f240 => wd_Volume_placeFile g t_o t_next_a t_firstClusters_a t_runStarts_a t_runLengths_a t_next_n t_start t_length t_tableSectors t_clusters t_runs f240 x184) rfl rfl d_Volume_placeFile_93 (fun _ => rfl) (fun f240 H locs hf hw => ?_)
              exact hj94 _ _ hf _ _ _ hw (lv_sub hl [0, 1, 3, 4, 5, 6] rfl)
            · refine n_aload_n hC hl 4 d_Volume_placeFile_74 rfl rfl ?_
              refine n_get hC hw fg_Volume_9 0 rfl rfl d_Volume_placeFile_75 ?_
              refine n_iload_n hC hl 5 d_Volume_placeFile_78 rfl rfl ?_
              refine n_iload hC hl 0 d_Volume_placeFile_79 rfl ?_
              refine n_iast hC hw hf 2 0 (fun f241 => wd_Volume_placeFile g t_o t_next_a t_firstClusters_a t_runStarts_a t_runLengths_a t_next_n t_start t_length t_tableSectors t_clusters t_runs x183 f241) rfl rfl d_Volume_placeFile_81 (fun _ => rfl) (fun f241 H locs hf hw => ?_)
              refine n_goto hC 94 d_Volume_placeFile_82 (by decide) ?_
              exact hj94 _ _ hf _ _ _ hw (lv_sub hl [0, 1, 3, 4, 5, 6] rfl)
          · cases hf
            exact hret _ _ _ _ hw d_Volume_placeFile_68
        refine n_icmp_ne hC hf 62 d_Volume_placeFile_49 (by decide) (fun hf => ?_) (fun hf => ?_)
        · exact hj62 _ _ hf _ _ _ hw (lv_sub hl [0, 1, 2, 3, 4, 5, 6] rfl)
        · refine n_iconst hC 0 d_Volume_placeFile_52 (by decide) ?_
          refine n_istore hC [(4, .int 0), (7, .int u230), (6, .int x180), (5, .int x181), (0, .ref t_o), (1, .int a1), (2, .int a2)] hl d_Volume_placeFile_53 (by decide) rfl (fun ls hl => ?_)
          refine n_aload_n hC hl 4 d_Volume_placeFile_55 rfl rfl ?_
          refine n_iconst hC 2 d_Volume_placeFile_56 (by decide) ?_
          obtain ⟨u242, hu242, hf⟩ := bd_s hf
          refine n_callVi hC hw fc_Volume_73 (c_Volume_lowestFree l g E hEe t_o t_next_a t_firstClusters_a t_runStarts_a t_runLengths_a t_next_n t_start t_length t_tableSectors t_clusters t_runs x183 2 N u242 hu242) [0, 1] (wd_Volume_placeFile g t_o t_next_a t_firstClusters_a t_runStarts_a t_runLengths_a t_next_n t_start t_length t_tableSectors t_clusters t_runs x183 x184) 0 rfl ⟨rfl, rfl⟩ ⟨Nat.le_of_ble_eq_true rfl, Nat.le_of_ble_eq_true rfl⟩ rfl (At_.cons rfl (At_.cons rfl At_.nil)) (At_.cons rfl (At_.cons rfl At_.nil)) Sm_.refl rfl hl.1 (Nat.le_of_ble_eq_true rfl) ⟨Nat.zero_le _, Nat.zero_le _⟩ d_Volume_placeFile_57 (fun H locs hw => ?_) rfl
          refine n_istore hC [(7, .int u242), (4, .int 0), (6, .int x180), (5, .int x181), (0, .ref t_o), (1, .int a1), (2, .int a2)] hl d_Volume_placeFile_60 (by decide) rfl (fun ls hl => ?_)
          exact hj62 _ _ hf _ _ _ hw (lv_sub hl [0, 2, 3, 1, 4, 5, 6] rfl)
      refine jn0 (∀ (H : Heap) (locs : List Loc) (ls : Array Slot), WS g.1 classes A s.heap H locs (wd_Volume_placeFile g t_o t_next_a t_firstClusters_a t_runStarts_a t_runLengths_a t_next_n t_start t_length t_tableSectors t_clusters t_runs x183 x184) → lv_has ls 8 [(6, .int x180), (5, .int x181), (4, .int x182), (0, .ref t_o), (1, .int a1), (2, .int a2)] → W p l e rm_Volume_placeFile s m args below meth c H locs 0 0 Q (F0 m 40 ls [.ref t_o])) hf (fun hf H locs ls hw hl => ?_) (fun j40 hj40 hf => ?_)
      · refine n_iconst hC 2 d_Volume_placeFile_40 (by decide) ?_
        exact hj41 _ hf _ _ _ hw (lv_sub hl [0, 1, 2, 3, 4, 5] rfl)
      refine n_if_eq hC hf 40 d_Volume_placeFile_25 (by decide) (fun hf => ?_) (fun hf => ?_)
      · exact hj40 hf _ _ _ hw (lv_sub hl [0, 1, 2, 3, 4, 5] rfl)
      · refine n_iload hC hl 0 d_Volume_placeFile_28 rfl ?_
        refine n_if_le hC hf 40 d_Volume_placeFile_30 (by decide) (fun hf => ?_) (fun hf => ?_)
        · exact hj40 hf _ _ _ hw (lv_sub hl [0, 1, 2, 3, 4, 5] rfl)
        · refine n_iload hC hl 1 d_Volume_placeFile_33 rfl ?_
          refine n_iconst hC 2 d_Volume_placeFile_35 (by decide) ?_
          refine n_iadd hC hf d_Volume_placeFile_36 (fun v258 hf => ?_)
          refine n_goto hC 41 d_Volume_placeFile_37 (by decide) ?_
          exact hj41 _ hf _ _ _ hw (lv_sub hl [0, 1, 2, 3, 4, 5] rfl)
    )
  exact hL16 N _ _ _ _ _ hf _ _ _ hw (lv_sub hl [0, 1, 2, 3, 4, 5] rfl)
def wd_Volume_placeFiles (g : GT) (t_o : Nat) (t_next_a : Nat) (t_firstClusters_a : Nat) (q1_o : Nat) (q1_sizes_a : Nat) (q1_scattered_a : Nat) (t_runStarts_a : Nat) (t_runLengths_a : Nat) (q1_sorts_a : Nat) (q1_starts_a : Nat) (q1_lengths_a : Nat) (q1_names_a : Nat) (q1_seeds_a : Nat) (t_next_n : Nat) (t_start : Int32) (t_length : Int32) (t_tableSectors : Int32) (t_clusters : Int32) (t_runs : Int32) (t_next : Nat → Int32) (t_firstClusters : Nat → Int32) (q1_lastUsable : Int32) (q1_partitions : Int32) (q1_files : Int32) (q1_kernelAddress : Int32) (q1_sizes : Nat → Int32) (q1_scattered : Nat → Int32) : va_W := [(t_o, .inr (3, [.int t_start, .int t_length, .int t_tableSectors, .int t_clusters, .ref t_next_a, .ref t_firstClusters_a, .ref t_runStarts_a, .ref t_runLengths_a, .int t_runs])), (t_next_a, .inl (g.2.1, t_next_n, .inl t_next)), (t_firstClusters_a, .inl (g.2.1, 12, .inl t_firstClusters)), (q1_o, .inr (2, [.int q1_lastUsable, .ref q1_sorts_a, .ref q1_starts_a, .ref q1_lengths_a, .int q1_partitions, .ref q1_names_a, .ref q1_sizes_a, .ref q1_seeds_a, .ref q1_scattered_a, .int q1_files, .int q1_kernelAddress])), (q1_sizes_a, .inl (g.2.1, 12, .inl q1_sizes)), (q1_scattered_a, .inl (g.2.2.2.1, 12, .inl q1_scattered))]
def f_Volume_placeFiles_L68 (N : Nat) (q1_files : Int32) (q1_sizes : Nat → Int32) (q1_scattered : Nat → Int32) (t_clusters : Int32) (t_next_n : Nat) (k68 : Int32 → (Nat → Int32) → (Nat → Int32) → Option (Int32 × (Nat → Int32) × (Nat → Int32))) (x138 : Int32) (x139 : Nat → Int32) (x140 : Nat → Int32) : Option (Int32 × (Nat → Int32) × (Nat → Int32)) :=
  if q1_files ≤ x138 then some (1, x139, x140) else ix_ 12 q1_sizes x138 (fun (v146 : Int32) => bd_ (f_Volume_clustersFor v146) (fun u147 => ix_ 12 q1_scattered x138 (fun (v148 : Int32) => bd_ (f_Volume_placeFile N x140 x138 u147 t_clusters t_next_n v148 x139) (fun u149 => lt_ (x138 + 1) (fun v150 => k68 v150 u149.1 u149.2)))))
def f_Volume_placeFiles_L4 (N : Nat) (q1_files : Int32) (t_clusters : Int32) (t_next_n : Nat) (t_next : Nat → Int32) (q1_sizes : Nat → Int32) (q1_scattered : Nat → Int32) (t_firstClusters : Nat → Int32) (k4 : Int32 → Int32 → Option (Int32 × (Nat → Int32) × (Nat → Int32))) (x103 : Int32) (x104 : Int32) : Option (Int32 × (Nat → Int32) × (Nat → Int32)) :=
  if q1_files ≤ x103 then if x104 ≤ t_clusters then bd_ (f_Arrays_fillI N t_next_n 0 t_next) (fun u130 => up_i t_next_n u130 0 4088 (fun (f131 : Nat → Int32) => up_i t_next_n f131 1 4095 (fun (f132 : Nat → Int32) => lp_ (fun _ _ _ => none) (f_Volume_placeFiles_L68 N q1_files q1_sizes q1_scattered t_clusters t_next_n) N 0 f132 t_firstClusters))) else some (0, t_next, t_firstClusters) else ix_ 12 q1_sizes x103 (fun (v151 : Int32) => bd_ (f_Volume_clustersFor v151) (fun u152 => lt_ (x104 + u152) (fun v153 => lt_ (x103 + 1) (fun v154 => k4 v154 v153))))
def f_Volume_placeFiles (N : Nat) (q1_files : Int32) (t_clusters : Int32) (t_next_n : Nat) (t_next : Nat → Int32) (q1_sizes : Nat → Int32) (q1_scattered : Nat → Int32) (t_firstClusters : Nat → Int32) : Option (Int32 × (Nat → Int32) × (Nat → Int32)) :=
  lp_ (fun _ _ => none) (f_Volume_placeFiles_L4 N q1_files t_clusters t_next_n t_next q1_sizes q1_scattered t_firstClusters) N 0 0
def rm_Volume_placeFiles : Room := { frames := 2, cells := 0, slots := 0, locals := 49 }
set_option maxHeartbeats 4000000 in
set_option maxRecDepth 100000 in
theorem c_Volume_placeFiles (l : Launch) (g : GT) (E : (Nat → Prop) → State → Prop) (hEe : Ee E) (t_o : Nat) (t_next_a : Nat) (t_firstClusters_a : Nat) (q1_o : Nat) (q1_sizes_a : Nat) (q1_scattered_a : Nat) (t_runStarts_a : Nat) (t_runLengths_a : Nat) (q1_sorts_a : Nat) (q1_starts_a : Nat) (q1_lengths_a : Nat) (q1_names_a : Nat) (q1_seeds_a : Nat) (t_next_n : Nat) (t_start : Int32) (t_length : Int32) (t_tableSectors : Int32) (t_clusters : Int32) (t_runs : Int32) (t_next : Nat → Int32) (t_firstClusters : Nat → Int32) (q1_lastUsable : Int32) (q1_partitions : Int32) (q1_files : Int32) (q1_kernelAddress : Int32) (q1_sizes : Nat → Int32) (q1_scattered : Nat → Int32) (N : Nat) (z : Int32 × (Nat → Int32) × (Nat → Int32)) (hf : f_Volume_placeFiles N q1_files t_clusters t_next_n t_next q1_sizes q1_scattered t_firstClusters = some z) : Cg l g E y_Volume_placeFiles ws_Volume_placeFiles rm_Volume_placeFiles [.ref t_o, .ref q1_o] (wd_Volume_placeFiles g t_o t_next_a t_firstClusters_a q1_o q1_sizes_a q1_scattered_a t_runStarts_a t_runLengths_a q1_sorts_a q1_starts_a q1_lengths_a q1_names_a q1_seeds_a t_next_n t_start t_length t_tableSectors t_clusters t_runs t_next t_firstClusters q1_lastUsable q1_partitions q1_files q1_kernelAddress q1_sizes q1_scattered) (some (.int z.1)) (wd_Volume_placeFiles g t_o t_next_a t_firstClusters_a q1_o q1_sizes_a q1_scattered_a t_runStarts_a t_runLengths_a q1_sorts_a q1_starts_a q1_lengths_a q1_names_a q1_seeds_a t_next_n t_start t_length t_tableSectors t_clusters t_runs z.2.1 z.2.2 q1_lastUsable q1_partitions q1_files q1_kernelAddress q1_sizes q1_scattered) := by
  refine Ct.ofI hEe good_W (by decide) rfl (Nat.le_of_ble_eq_true rfl) ?_
  intro p e s m args below meth c A ls Q hC hw hl hret
  have hC : CX p m c b_Volume_placeFiles 4 s args Wall R_Volume g.1 classes (tK g) E A := hC
  have hl : lv_has ls 4 [(0, .ref t_o), (1, .ref q1_o)] := hl
  unfold f_Volume_placeFiles at hf
  refine n_iconst hC 0 d_Volume_placeFiles_0 (by decide) ?_
  refine n_istore_n hC [(2, .int 0), (0, .ref t_o), (1, .ref q1_o)] hl d_Volume_placeFiles_1 rfl (by decide) rfl (fun ls hl => ?_)
  refine n_iconst hC 0 d_Volume_placeFiles_2 (by decide) ?_
  refine n_istore_n hC [(3, .int 0), (2, .int 0), (0, .ref t_o), (1, .ref q1_o)] hl d_Volume_placeFiles_3 rfl (by decide) rfl (fun ls hl => ?_)
  have hL4 := lw2 (B := f_Volume_placeFiles_L4 N q1_files t_clusters t_next_n t_next q1_sizes q1_scattered t_firstClusters) (z := z) (fun (x103 : Int32) (x104 : Int32) => ∀ (H : Heap) (locs : List Loc) (ls : Array Slot), WS g.1 classes A s.heap H locs (wd_Volume_placeFiles g t_o t_next_a t_firstClusters_a q1_o q1_sizes_a q1_scattered_a t_runStarts_a t_runLengths_a q1_sorts_a q1_starts_a q1_lengths_a q1_names_a q1_seeds_a t_next_n t_start t_length t_tableSectors t_clusters t_runs t_next t_firstClusters q1_lastUsable q1_partitions q1_files q1_kernelAddress q1_sizes q1_scattered) → lv_has ls 4 [(3, .int x103), (2, .int x104), (0, .ref t_o), (1, .ref q1_o)] → W p l e rm_Volume_placeFiles s m args below meth c H locs 0 0 Q (F0 m 4 ls [])) (by
    intro k4 hk4 x103 x104 hf H locs ls hw hl
    unfold f_Volume_placeFiles_L4 at hf
    refine n_iload_n hC hl 0 d_Volume_placeFiles_4 rfl rfl ?_
    refine n_aload_n hC hl 3 d_Volume_placeFiles_5 rfl rfl ?_
    refine n_get hC hw fg_Volume_48 3 rfl rfl d_Volume_placeFiles_6 ?_
    refine n_icmp_ge hC hf 30 d_Volume_placeFiles_9 (by decide) (fun hf => ?_) (fun hf => ?_)
    · refine n_iload_n hC hl 1 d_Volume_placeFiles_30 rfl rfl ?_
      refine n_aload_n hC hl 2 d_Volume_placeFiles_31 rfl rfl ?_
      refine n_get hC hw fg_Volume_24 0 rfl rfl d_Volume_placeFiles_32 ?_
      refine n_icmp_le hC hf 40 d_Volume_placeFiles_35 (by decide) (fun hf => ?_) (fun hf => ?_)
      · refine n_aload_n hC hl 2 d_Volume_placeFiles_40 rfl rfl ?_
        refine n_get hC hw fg_Volume_21 0 rfl rfl d_Volume_placeFiles_41 ?_
        refine n_iconst hC 0 d_Volume_placeFiles_44 (by decide) ?_
        obtain ⟨u130, hu130, hf⟩ := bd_s hf
        refine n_callSv hC hw fc_Volume_59 (c_Arrays_fillI l g E hEe t_next_a t_next_n t_next 0 N u130 hu130) [1] (wd_Volume_placeFiles g t_o t_next_a t_firstClusters_a q1_o q1_sizes_a q1_scattered_a t_runStarts_a t_runLengths_a q1_sorts_a q1_starts_a q1_lengths_a q1_names_a q1_seeds_a t_next_n t_start t_length t_tableSectors t_clusters t_runs u130 t_firstClusters q1_lastUsable q1_partitions q1_files q1_kernelAddress q1_sizes q1_scattered) ⟨rfl, rfl⟩ ⟨Nat.le_of_ble_eq_true rfl, Nat.le_of_ble_eq_true rfl⟩ rfl (At_.cons rfl At_.nil) (At_.cons rfl At_.nil) (Sm_.keep (Sm_.upd rfl (Sm_.keep (Sm_.keep (Sm_.keep (Sm_.keep Sm_.nil)))))) rfl hl.1 (Nat.le_of_ble_eq_true rfl) ⟨Nat.zero_le _, Nat.zero_le _⟩ d_Volume_placeFiles_45 (fun H locs hw => ?_) rfl
        refine n_aload_n hC hl 2 d_Volume_placeFiles_48 rfl rfl ?_
        refine n_get hC hw fg_Volume_21 0 rfl rfl d_Volume_placeFiles_49 ?_
        refine n_iconst hC 0 d_Volume_placeFiles_52 (by decide) ?_
        refine n_sipush hC 4088 d_Volume_placeFiles_53 (by decide) ?_
        refine n_iast hC hw hf 1 0 (fun f131 => wd_Volume_placeFiles g t_o t_next_a t_firstClusters_a q1_o q1_sizes_a q1_scattered_a t_runStarts_a t_runLengths_a q1_sorts_a q1_starts_a q1_lengths_a q1_names_a q1_seeds_a t_next_n t_start t_length t_tableSectors t_clusters t_runs f131 t_firstClusters q1_lastUsable q1_partitions q1_files q1_kernelAddress q1_sizes q1_scattered) rfl rfl d_Volume_placeFiles_56 (fun _ => rfl) (fun f131 H locs hf hw => ?_)
        refine n_aload_n hC hl 2 d_Volume_placeFiles_57 rfl rfl ?_
        refine n_get hC hw fg_Volume_21 0 rfl rfl d_Volume_placeFiles_58 ?_
        refine n_iconst hC 1 d_Volume_placeFiles_61 (by decide) ?_
        refine n_sipush hC 4095 d_Volume_placeFiles_62 (by decide) ?_
        refine n_iast hC hw hf 1 0 (fun f132 => wd_Volume_placeFiles g t_o t_next_a t_firstClusters_a q1_o q1_sizes_a q1_scattered_a t_runStarts_a t_runLengths_a q1_sorts_a q1_starts_a q1_lengths_a q1_names_a q1_seeds_a t_next_n t_start t_length t_tableSectors t_clusters t_runs f132 t_firstClusters q1_lastUsable q1_partitions q1_files q1_kernelAddress q1_sizes q1_scattered) rfl rfl d_Volume_placeFiles_65 (fun _ => rfl) (fun f132 H locs hf hw => ?_)
        refine n_iconst hC 0 d_Volume_placeFiles_66 (by decide) ?_
        refine n_istore_n hC [(3, .int 0), (2, .int x104), (0, .ref t_o), (1, .ref q1_o)] hl d_Volume_placeFiles_67 rfl (by decide) rfl (fun ls hl => ?_)
        have hL68 := lw3 (B := f_Volume_placeFiles_L68 N q1_files q1_sizes q1_scattered t_clusters t_next_n) (z := z) (fun (x138 : Int32) (x139 : Nat → Int32) (x140 : Nat → Int32) => ∀ (H : Heap) (locs : List Loc) (ls : Array Slot), WS g.1 classes A s.heap H locs (wd_Volume_placeFiles g t_o t_next_a t_firstClusters_a q1_o q1_sizes_a q1_scattered_a t_runStarts_a t_runLengths_a q1_sorts_a q1_starts_a q1_lengths_a q1_names_a q1_seeds_a t_next_n t_start t_length t_tableSectors t_clusters t_runs x139 x140 q1_lastUsable q1_partitions q1_files q1_kernelAddress q1_sizes q1_scattered) → lv_has ls 4 [(3, .int x138), (0, .ref t_o), (1, .ref q1_o)] → W p l e rm_Volume_placeFiles s m args below meth c H locs 0 0 Q (F0 m 68 ls [])) (by
          intro k68 hk68 x138 x139 x140 hf H locs ls hw hl
          unfold f_Volume_placeFiles_L68 at hf
          refine n_iload_n hC hl 0 d_Volume_placeFiles_68 rfl rfl ?_
          refine n_aload_n hC hl 2 d_Volume_placeFiles_69 rfl rfl ?_
          refine n_get hC hw fg_Volume_48 3 rfl rfl d_Volume_placeFiles_70 ?_
          refine n_icmp_ge hC hf 102 d_Volume_placeFiles_73 (by decide) (fun hf => ?_) (fun hf => ?_)
          · refine n_iconst hC 1 d_Volume_placeFiles_102 (by decide) ?_
            cases hf
            exact hret _ _ _ _ hw (show narrow .boolean (Value.int 1) = Value.int 1 from rfl) d_Volume_placeFiles_103
          · refine n_aload_n hC hl 1 d_Volume_placeFiles_76 rfl rfl ?_
            refine n_iload_n hC hl 0 d_Volume_placeFiles_77 rfl rfl ?_
            refine n_aload_n hC hl 2 d_Volume_placeFiles_78 rfl rfl ?_
            refine n_get hC hw fg_Volume_53 3 rfl rfl d_Volume_placeFiles_79 ?_
            refine n_iload_n hC hl 0 d_Volume_placeFiles_82 rfl rfl ?_
            refine n_iald hC hw hf 4 0 rfl rfl d_Volume_placeFiles_83 (fun v146 hf => ?_)
            obtain ⟨u147, hu147, hf⟩ := bd_s hf
            refine n_callSi hC hw fc_Volume_56 (c_Volume_clustersFor l g E hEe v146 u147 hu147) [] (wd_Volume_placeFiles g t_o t_next_a t_firstClusters_a q1_o q1_sizes_a q1_scattered_a t_runStarts_a t_runLengths_a q1_sorts_a q1_starts_a q1_lengths_a q1_names_a q1_seeds_a t_next_n t_start t_length t_tableSectors t_clusters t_runs x139 x140 q1_lastUsable q1_partitions q1_files q1_kernelAddress q1_sizes q1_scattered) ⟨rfl, rfl⟩ ⟨Nat.le_of_ble_eq_true rfl, Nat.le_of_ble_eq_true rfl⟩ rfl At_.nil At_.nil Sm_.refl rfl hl.1 (Nat.le_of_ble_eq_true rfl) ⟨Nat.zero_le _, Nat.zero_le _⟩ d_Volume_placeFiles_84 (fun H locs hw => ?_) rfl
            refine n_aload_n hC hl 2 d_Volume_placeFiles_87 rfl rfl ?_
            refine n_get hC hw fg_Volume_65 3 rfl rfl d_Volume_placeFiles_88 ?_
            refine n_iload_n hC hl 0 d_Volume_placeFiles_91 rfl rfl ?_
            refine n_zald hC hw hf 5 2 rfl rfl d_Volume_placeFiles_92 (fun v148 hf => ?_)
            obtain ⟨u149, hu149, hf⟩ := bd_s hf
            refine n_callVv hC hw fc_Volume_69 (c_Volume_placeFile l g E hEe t_o t_next_a t_firstClusters_a t_runStarts_a t_runLengths_a t_next_n t_start t_length t_tableSectors t_clusters t_runs x139 x140 x138 u147 v148 N u149 hu149) [0, 1, 2] (wd_Volume_placeFiles g t_o t_next_a t_firstClusters_a q1_o q1_sizes_a q1_scattered_a t_runStarts_a t_runLengths_a q1_sorts_a q1_starts_a q1_lengths_a q1_names_a q1_seeds_a t_next_n t_start t_length t_tableSectors t_clusters t_runs u149.1 u149.2 q1_lastUsable q1_partitions q1_files q1_kernelAddress q1_sizes q1_scattered) 0 rfl ⟨rfl, rfl⟩ ⟨Nat.le_of_ble_eq_true rfl, Nat.le_of_ble_eq_true rfl⟩ rfl (At_.cons rfl (At_.cons rfl (At_.cons rfl At_.nil))) (At_.cons rfl (At_.cons rfl (At_.cons rfl At_.nil))) (Sm_.keep (Sm_.upd rfl (Sm_.upd rfl (Sm_.keep (Sm_.keep (Sm_.keep Sm_.nil)))))) rfl hl.1 (Nat.le_of_ble_eq_true rfl) ⟨Nat.zero_le _, Nat.zero_le _⟩ d_Volume_placeFiles_93 (fun H locs hw => ?_) rfl
            refine n_iinc hC (k := 0) hf (by decide) (fun v150 => [(3, .int v150), (0, .ref t_o), (1, .ref q1_o)]) hl d_Volume_placeFiles_96 rfl (by decide) (fun _ => rfl) (fun v150 ls hf hl => ?_)
            refine n_goto hC 68 d_Volume_placeFiles_99 (by decide) ?_
            exact hk68 _ _ _ hf _ _ _ hw (lv_sub hl [0, 1, 2] rfl)
          )
        exact hL68 N _ _ _ hf _ _ _ hw (lv_sub hl [0, 2, 3] rfl)
      · refine n_iconst hC 0 d_Volume_placeFiles_38 (by decide) ?_
        cases hf
        exact hret _ _ _ _ hw (show narrow .boolean (Value.int 0) = Value.int 0 from rfl) d_Volume_placeFiles_39
    · refine n_iload_n hC hl 1 d_Volume_placeFiles_12 rfl rfl ?_
      refine n_aload_n hC hl 3 d_Volume_placeFiles_13 rfl rfl ?_
      refine n_get hC hw fg_Volume_53 3 rfl rfl d_Volume_placeFiles_14 ?_
      refine n_iload_n hC hl 0 d_Volume_placeFiles_17 rfl rfl ?_
      refine n_iald hC hw hf 4 0 rfl rfl d_Volume_placeFiles_18 (fun v151 hf => ?_)
      obtain ⟨u152, hu152, hf⟩ := bd_s hf
      refine n_callSi hC hw fc_Volume_56 (c_Volume_clustersFor l g E hEe v151 u152 hu152) [] (wd_Volume_placeFiles g t_o t_next_a t_firstClusters_a q1_o q1_sizes_a q1_scattered_a t_runStarts_a t_runLengths_a q1_sorts_a q1_starts_a q1_lengths_a q1_names_a q1_seeds_a t_next_n t_start t_length t_tableSectors t_clusters t_runs t_next t_firstClusters q1_lastUsable q1_partitions q1_files q1_kernelAddress q1_sizes q1_scattered) ⟨rfl, rfl⟩ ⟨Nat.le_of_ble_eq_true rfl, Nat.le_of_ble_eq_true rfl⟩ rfl At_.nil At_.nil Sm_.refl rfl hl.1 (Nat.le_of_ble_eq_true rfl) ⟨Nat.zero_le _, Nat.zero_le _⟩ d_Volume_placeFiles_19 (fun H locs hw => ?_) rfl
      refine n_iadd hC hf d_Volume_placeFiles_22 (fun v153 hf => ?_)
      refine n_istore_n hC [(2, .int v153), (3, .int x103), (0, .ref t_o), (1, .ref q1_o)] hl d_Volume_placeFiles_23 rfl (by decide) rfl (fun ls hl => ?_)
      refine n_iinc hC (k := 1) hf (by decide) (fun v154 => [(3, .int v154), (2, .int v153), (0, .ref t_o), (1, .ref q1_o)]) hl d_Volume_placeFiles_24 rfl (by decide) (fun _ => rfl) (fun v154 ls hf hl => ?_)
      refine n_goto hC 4 d_Volume_placeFiles_27 (by decide) ?_
      exact hk4 _ _ hf _ _ _ hw (lv_sub hl [0, 1, 2, 3] rfl)
    )
  exact hL4 N _ _ hf _ _ _ hw (lv_sub hl [0, 1, 2, 3] rfl)
def wd_Volume_directorySector (g : GT) (t_o : Nat) (t_next_a : Nat) (t_firstClusters_a : Nat) (t_runStarts_a : Nat) (t_runLengths_a : Nat) (t_start : Int32) (t_length : Int32) (t_tableSectors : Int32) (t_clusters : Int32) (t_runs : Int32) : va_W := [(t_o, .inr (3, [.int t_start, .int t_length, .int t_tableSectors, .int t_clusters, .ref t_next_a, .ref t_firstClusters_a, .ref t_runStarts_a, .ref t_runLengths_a, .int t_runs]))]
def f_Volume_directorySector (t_start : Int32) (t_tableSectors : Int32) : Option (Int32) :=
  lt_ (t_start + 1) (fun v4 => lt_ ((2 : Int32) * t_tableSectors) (fun v5 => lt_ (v4 + v5) (fun v6 => some (v6))))
def rm_Volume_directorySector : Room := { frames := 0, cells := 0, slots := 0, locals := 0 }
set_option maxHeartbeats 4000000 in
set_option maxRecDepth 100000 in
theorem c_Volume_directorySector (l : Launch) (g : GT) (E : (Nat → Prop) → State → Prop) (hEe : Ee E) (t_o : Nat) (t_next_a : Nat) (t_firstClusters_a : Nat) (t_runStarts_a : Nat) (t_runLengths_a : Nat) (t_start : Int32) (t_length : Int32) (t_tableSectors : Int32) (t_clusters : Int32) (t_runs : Int32) (z : Int32) (hf : f_Volume_directorySector t_start t_tableSectors = some z) : Cg l g E y_Volume_directorySector ws_Volume_directorySector rm_Volume_directorySector [.ref t_o] (wd_Volume_directorySector g t_o t_next_a t_firstClusters_a t_runStarts_a t_runLengths_a t_start t_length t_tableSectors t_clusters t_runs) (some (.int z)) (wd_Volume_directorySector g t_o t_next_a t_firstClusters_a t_runStarts_a t_runLengths_a t_start t_length t_tableSectors t_clusters t_runs) := by
  refine Ct.ofI hEe good_W (by decide) rfl (Nat.le_of_ble_eq_true rfl) ?_
  intro p e s m args below meth c A ls Q hC hw hl hret
  have hC : CX p m c b_Volume_directorySector 1 s args Wall R_Volume g.1 classes (tK g) E A := hC
  have hl : lv_has ls 1 [(0, .ref t_o)] := hl
  unfold f_Volume_directorySector at hf
  refine n_aload_n hC hl 0 d_Volume_directorySector_0 rfl rfl ?_
  refine n_get hC hw fg_Volume_31 0 rfl rfl d_Volume_directorySector_1 ?_
  refine n_iconst hC 1 d_Volume_directorySector_4 (by decide) ?_
  refine n_iadd hC hf d_Volume_directorySector_5 (fun v4 hf => ?_)
  refine n_iconst hC 2 d_Volume_directorySector_6 (by decide) ?_
  refine n_aload_n hC hl 0 d_Volume_directorySector_7 rfl rfl ?_
  refine n_get hC hw fg_Volume_37 0 rfl rfl d_Volume_directorySector_8 ?_
  refine n_imul hC hf d_Volume_directorySector_11 (fun v5 hf => ?_)
  refine n_iadd hC hf d_Volume_directorySector_12 (fun v6 hf => ?_)
  cases hf
  exact hret _ _ _ _ hw rfl d_Volume_directorySector_13
def wd_Volume_sectorOf (g : GT) (t_o : Nat) (t_next_a : Nat) (t_firstClusters_a : Nat) (t_runStarts_a : Nat) (t_runLengths_a : Nat) (t_start : Int32) (t_length : Int32) (t_tableSectors : Int32) (t_clusters : Int32) (t_runs : Int32) : va_W := [(t_o, .inr (3, [.int t_start, .int t_length, .int t_tableSectors, .int t_clusters, .ref t_next_a, .ref t_firstClusters_a, .ref t_runStarts_a, .ref t_runLengths_a, .int t_runs]))]
def f_Volume_sectorOf (t_start : Int32) (t_tableSectors : Int32) (a1 : Int32) : Option (Int32) :=
  bd_ (f_Volume_directorySector t_start t_tableSectors) (fun u5 => lt_ (u5 + 2) (fun v6 => lt_ (v6 + a1) (fun v7 => lt_ (v7 - 2) (fun v8 => some (v8)))))
def rm_Volume_sectorOf : Room := { frames := 1, cells := 0, slots := 0, locals := 20 }
set_option maxHeartbeats 4000000 in
set_option maxRecDepth 100000 in
theorem c_Volume_sectorOf (l : Launch) (g : GT) (E : (Nat → Prop) → State → Prop) (hEe : Ee E) (t_o : Nat) (t_next_a : Nat) (t_firstClusters_a : Nat) (t_runStarts_a : Nat) (t_runLengths_a : Nat) (t_start : Int32) (t_length : Int32) (t_tableSectors : Int32) (t_clusters : Int32) (t_runs : Int32) (a1 : Int32) (z : Int32) (hf : f_Volume_sectorOf t_start t_tableSectors a1 = some z) : Cg l g E y_Volume_sectorOf ws_Volume_sectorOf rm_Volume_sectorOf [.ref t_o, .int a1] (wd_Volume_sectorOf g t_o t_next_a t_firstClusters_a t_runStarts_a t_runLengths_a t_start t_length t_tableSectors t_clusters t_runs) (some (.int z)) (wd_Volume_sectorOf g t_o t_next_a t_firstClusters_a t_runStarts_a t_runLengths_a t_start t_length t_tableSectors t_clusters t_runs) := by
  refine Ct.ofI hEe good_W (by decide) rfl (Nat.le_of_ble_eq_true rfl) ?_
  intro p e s m args below meth c A ls Q hC hw hl hret
  have hC : CX p m c b_Volume_sectorOf 2 s args Wall R_Volume g.1 classes (tK g) E A := hC
  have hl : lv_has ls 2 [(0, .ref t_o), (1, .int a1)] := hl
  unfold f_Volume_sectorOf at hf
  refine n_aload_n hC hl 0 d_Volume_sectorOf_0 rfl rfl ?_
  obtain ⟨u5, hu5, hf⟩ := bd_s hf
  refine n_callVi hC hw fc_Volume_76 (c_Volume_directorySector l g E hEe t_o t_next_a t_firstClusters_a t_runStarts_a t_runLengths_a t_start t_length t_tableSectors t_clusters t_runs u5 hu5) [0] (wd_Volume_sectorOf g t_o t_next_a t_firstClusters_a t_runStarts_a t_runLengths_a t_start t_length t_tableSectors t_clusters t_runs) 0 rfl ⟨rfl, rfl⟩ ⟨Nat.le_of_ble_eq_true rfl, Nat.le_of_ble_eq_true rfl⟩ rfl (At_.cons rfl At_.nil) (At_.cons rfl At_.nil) Sm_.refl rfl hl.1 (Nat.le_of_ble_eq_true rfl) ⟨Nat.zero_le _, Nat.zero_le _⟩ d_Volume_sectorOf_1 (fun H locs hw => ?_) rfl
  refine n_iconst hC 2 d_Volume_sectorOf_4 (by decide) ?_
  refine n_iadd hC hf d_Volume_sectorOf_5 (fun v6 hf => ?_)
  refine n_iload_n hC hl 1 d_Volume_sectorOf_6 rfl rfl ?_
  refine n_iadd hC hf d_Volume_sectorOf_7 (fun v7 hf => ?_)
  refine n_iconst hC 2 d_Volume_sectorOf_8 (by decide) ?_
  refine n_isub hC hf d_Volume_sectorOf_9 (fun v8 hf => ?_)
  cases hf
  exact hret _ _ _ _ hw rfl d_Volume_sectorOf_10
def wd_Volume_follower (g : GT) (t_o : Nat) (t_next_a : Nat) (t_firstClusters_a : Nat) (t_runStarts_a : Nat) (t_runLengths_a : Nat) (t_next_n : Nat) (t_start : Int32) (t_length : Int32) (t_tableSectors : Int32) (t_clusters : Int32) (t_runs : Int32) (t_next : Nat → Int32) : va_W := [(t_o, .inr (3, [.int t_start, .int t_length, .int t_tableSectors, .int t_clusters, .ref t_next_a, .ref t_firstClusters_a, .ref t_runStarts_a, .ref t_runLengths_a, .int t_runs])), (t_next_a, .inl (g.2.1, t_next_n, .inl t_next))]
def f_Volume_follower (a1 : Int32) (t_next_n : Nat) (t_next : Nat → Int32) : Option (Int32) :=
  if a1 < 0 then some (0) else if ((Int32.ofNat t_next_n) : Int32) ≤ a1 then some (0) else ix_ t_next_n t_next a1 (fun (v2 : Int32) => some (v2))
def rm_Volume_follower : Room := { frames := 0, cells := 0, slots := 0, locals := 0 }
set_option maxHeartbeats 4000000 in
set_option maxRecDepth 100000 in
theorem c_Volume_follower (l : Launch) (g : GT) (E : (Nat → Prop) → State → Prop) (hEe : Ee E) (t_o : Nat) (t_next_a : Nat) (t_firstClusters_a : Nat) (t_runStarts_a : Nat) (t_runLengths_a : Nat) (t_next_n : Nat) (t_start : Int32) (t_length : Int32) (t_tableSectors : Int32) (t_clusters : Int32) (t_runs : Int32) (t_next : Nat → Int32) (a1 : Int32) (z : Int32) (hf : f_Volume_follower a1 t_next_n t_next = some z) : Cg l g E y_Volume_follower ws_Volume_follower rm_Volume_follower [.ref t_o, .int a1] (wd_Volume_follower g t_o t_next_a t_firstClusters_a t_runStarts_a t_runLengths_a t_next_n t_start t_length t_tableSectors t_clusters t_runs t_next) (some (.int z)) (wd_Volume_follower g t_o t_next_a t_firstClusters_a t_runStarts_a t_runLengths_a t_next_n t_start t_length t_tableSectors t_clusters t_runs t_next) := by
  refine Ct.ofI hEe good_W (by decide) rfl (Nat.le_of_ble_eq_true rfl) ?_
  intro p e s m args below meth c A ls Q hC hw hl hret
  have hC : CX p m c b_Volume_follower 2 s args Wall R_Volume g.1 classes (tK g) E A := hC
  have hl : lv_has ls 2 [(0, .ref t_o), (1, .int a1)] := hl
  unfold f_Volume_follower at hf
  refine n_iload_n hC hl 1 d_Volume_follower_0 rfl rfl ?_
  refine n_if_lt hC hf 22 d_Volume_follower_1 (by decide) (fun hf => ?_) (fun hf => ?_)
  · refine n_iconst hC 0 d_Volume_follower_22 (by decide) ?_
    cases hf
    exact hret _ _ _ _ hw rfl d_Volume_follower_23
  · refine n_iload_n hC hl 1 d_Volume_follower_4 rfl rfl ?_
    refine n_aload_n hC hl 0 d_Volume_follower_5 rfl rfl ?_
    refine n_get hC hw fg_Volume_21 0 rfl rfl d_Volume_follower_6 ?_
    refine n_alen hC hw 1 0 (Int32.ofNat t_next_n) rfl rfl rfl d_Volume_follower_9 ?_
    refine n_icmp_ge hC hf 22 d_Volume_follower_10 (by decide) (fun hf => ?_) (fun hf => ?_)
    · refine n_iconst hC 0 d_Volume_follower_22 (by decide) ?_
      cases hf
      exact hret _ _ _ _ hw rfl d_Volume_follower_23
    · refine n_aload_n hC hl 0 d_Volume_follower_13 rfl rfl ?_
      refine n_get hC hw fg_Volume_21 0 rfl rfl d_Volume_follower_14 ?_
      refine n_iload_n hC hl 1 d_Volume_follower_17 rfl rfl ?_
      refine n_iald hC hw hf 1 0 rfl rfl d_Volume_follower_18 (fun v2 hf => ?_)
      refine n_goto hC 23 d_Volume_follower_19 (by decide) ?_
      cases hf
      exact hret _ _ _ _ hw rfl d_Volume_follower_23
def wd_Volume_findRuns (g : GT) (t_o : Nat) (t_next_a : Nat) (t_firstClusters_a : Nat) (t_runStarts_a : Nat) (t_runLengths_a : Nat) (t_next_n : Nat) (t_start : Int32) (t_length : Int32) (t_tableSectors : Int32) (t_clusters : Int32) (t_runs : Int32) (t_next : Nat → Int32) (t_firstClusters : Nat → Int32) (t_runStarts : Nat → Int32) (t_runLengths : Nat → Int32) : va_W := [(t_o, .inr (3, [.int t_start, .int t_length, .int t_tableSectors, .int t_clusters, .ref t_next_a, .ref t_firstClusters_a, .ref t_runStarts_a, .ref t_runLengths_a, .int t_runs])), (t_next_a, .inl (g.2.1, t_next_n, .inl t_next)), (t_firstClusters_a, .inl (g.2.1, 12, .inl t_firstClusters)), (t_runStarts_a, .inl (g.2.1, 20, .inl t_runStarts)), (t_runLengths_a, .inl (g.2.1, 20, .inl t_runLengths))]
def f_Volume_findRuns_L16 (u75 : Int32) (t_start : Int32) (t_tableSectors : Int32) (t_next_n : Nat) (t_next : Nat → Int32) (k16 : Int32 → Int32 → Int32 → (Nat → Int32) → (Nat → Int32) → Option (Int32 × Int32 × (Nat → Int32) × (Nat → Int32))) (x98 : Int32) (x99 : Int32) (x100 : Int32) (x101 : Nat → Int32) (x102 : Nat → Int32) : Option (Int32 × Int32 × (Nat → Int32) × (Nat → Int32)) :=
  if u75 ≤ x98 then some (1, x100, x101, x102) else bd_ (f_Volume_sectorOf t_start t_tableSectors x99) (fun u125 => lt_ (fun (x141 : Int32) (x142 : Nat → Int32) (x143 : Nat → Int32) => bd_ (f_Volume_follower x99 t_next_n t_next) (fun u144 => lt_ (x98 + 1) (fun v145 => k16 v145 u144 x141 x142 x143))) (fun (j125 : Int32 → (Nat → Int32) → (Nat → Int32) → Option (Int32 × Int32 × (Nat → Int32) × (Nat → Int32))) => lt_ (if x100 < (20 : Int32) then up_i 20 x101 x100 u125 (fun (f157 : Nat → Int32) => up_i 20 x102 x100 1 (fun (f158 : Nat → Int32) => lt_ (x100 + 1) (fun v159 => j125 v159 f157 f158))) else some (0, x100, x101, x102)) (fun (j83 : Option (Int32 × Int32 × (Nat → Int32) × (Nat → Int32))) => if x100 ≤ 0 then j83 else lt_ (x100 - 1) (fun v160 => ix_ 20 x101 v160 (fun (v161 : Int32) => lt_ (x100 - 1) (fun v162 => ix_ 20 x102 v162 (fun (v163 : Int32) => lt_ (v161 + v163) (fun v164 => if ¬ v164 = u125 then j83 else lt_ (x100 - 1) (fun v165 => ix_ 20 x102 v165 (fun (v166 : Int32) => lt_ (v166 + 1) (fun v167 => up_i 20 x102 v165 v167 (fun (f168 : Nat → Int32) => j125 x100 x101 f168))))))))))))
def f_Volume_findRuns (N : Nat) (t_firstClusters : Nat → Int32) (a1 : Int32) (a2 : Int32) (t_start : Int32) (t_tableSectors : Int32) (t_next_n : Nat) (t_next : Nat → Int32) (t_runs : Int32) (t_runStarts : Nat → Int32) (t_runLengths : Nat → Int32) : Option (Int32 × Int32 × (Nat → Int32) × (Nat → Int32)) :=
  ix_ 12 t_firstClusters a1 (fun (v74 : Int32) => bd_ (f_Volume_clustersFor a2) (fun u75 => lp_ (fun _ _ _ _ _ => none) (f_Volume_findRuns_L16 u75 t_start t_tableSectors t_next_n t_next) N 0 v74 t_runs t_runStarts t_runLengths))
def rm_Volume_findRuns : Room := { frames := 2, cells := 0, slots := 0, locals := 41 }
set_option maxHeartbeats 4000000 in
set_option maxRecDepth 100000 in
theorem c_Volume_findRuns (l : Launch) (g : GT) (E : (Nat → Prop) → State → Prop) (hEe : Ee E) (t_o : Nat) (t_next_a : Nat) (t_firstClusters_a : Nat) (t_runStarts_a : Nat) (t_runLengths_a : Nat) (t_next_n : Nat) (t_start : Int32) (t_length : Int32) (t_tableSectors : Int32) (t_clusters : Int32) (t_runs : Int32) (t_next : Nat → Int32) (t_firstClusters : Nat → Int32) (t_runStarts : Nat → Int32) (t_runLengths : Nat → Int32) (a1 : Int32) (a2 : Int32) (N : Nat) (z : Int32 × Int32 × (Nat → Int32) × (Nat → Int32)) (hf : f_Volume_findRuns N t_firstClusters a1 a2 t_start t_tableSectors t_next_n t_next t_runs t_runStarts t_runLengths = some z) : Cg l g E y_Volume_findRuns ws_Volume_findRuns rm_Volume_findRuns [.ref t_o, .int a1, .int a2] (wd_Volume_findRuns g t_o t_next_a t_firstClusters_a t_runStarts_a t_runLengths_a t_next_n t_start t_length t_tableSectors t_clusters t_runs t_next t_firstClusters t_runStarts t_runLengths) (some (.int z.1)) (wd_Volume_findRuns g t_o t_next_a t_firstClusters_a t_runStarts_a t_runLengths_a t_next_n t_start t_length t_tableSectors t_clusters z.2.1 t_next t_firstClusters z.2.2.1 z.2.2.2) := by
  refine Ct.ofI hEe good_W (by decide) rfl (Nat.le_of_ble_eq_true rfl) ?_
  intro p e s m args below meth c A ls Q hC hw hl hret
  have hC : CX p m c b_Volume_findRuns 7 s args Wall R_Volume g.1 classes (tK g) E A := hC
  have hl : lv_has ls 7 [(0, .ref t_o), (1, .int a1), (2, .int a2)] := hl
  unfold f_Volume_findRuns at hf
  refine n_aload_n hC hl 0 d_Volume_findRuns_0 rfl rfl ?_
  refine n_get hC hw fg_Volume_9 0 rfl rfl d_Volume_findRuns_1 ?_
  refine n_iload_n hC hl 1 d_Volume_findRuns_4 rfl rfl ?_
  refine n_iald hC hw hf 2 0 rfl rfl d_Volume_findRuns_5 (fun v74 hf => ?_)
  refine n_istore_n hC [(3, .int v74), (0, .ref t_o), (1, .int a1), (2, .int a2)] hl d_Volume_findRuns_6 rfl (by decide) rfl (fun ls hl => ?_)
  refine n_iload_n hC hl 3 d_Volume_findRuns_7 rfl rfl ?_
  obtain ⟨u75, hu75, hf⟩ := bd_s hf
  refine n_callSi hC hw fc_Volume_56 (c_Volume_clustersFor l g E hEe a2 u75 hu75) [] (wd_Volume_findRuns g t_o t_next_a t_firstClusters_a t_runStarts_a t_runLengths_a t_next_n t_start t_length t_tableSectors t_clusters t_runs t_next t_firstClusters t_runStarts t_runLengths) ⟨rfl, rfl⟩ ⟨Nat.le_of_ble_eq_true rfl, Nat.le_of_ble_eq_true rfl⟩ rfl At_.nil At_.nil Sm_.refl rfl hl.1 (Nat.le_of_ble_eq_true rfl) ⟨Nat.zero_le _, Nat.zero_le _⟩ d_Volume_findRuns_8 (fun H locs hw => ?_) rfl
  refine n_istore hC [(4, .int u75), (3, .int v74), (0, .ref t_o), (1, .int a1), (2, .int a2)] hl d_Volume_findRuns_11 (by decide) rfl (fun ls hl => ?_)
  refine n_iconst hC 0 d_Volume_findRuns_13 (by decide) ?_
  refine n_istore hC [(5, .int 0), (4, .int u75), (3, .int v74), (0, .ref t_o), (1, .int a1), (2, .int a2)] hl d_Volume_findRuns_14 (by decide) rfl (fun ls hl => ?_)
  have hL16 := lw5 (B := f_Volume_findRuns_L16 u75 t_start t_tableSectors t_next_n t_next) (z := z) (fun (x98 : Int32) (x99 : Int32) (x100 : Int32) (x101 : Nat → Int32) (x102 : Nat → Int32) => ∀ (H : Heap) (locs : List Loc) (ls : Array Slot), WS g.1 classes A s.heap H locs (wd_Volume_findRuns g t_o t_next_a t_firstClusters_a t_runStarts_a t_runLengths_a t_next_n t_start t_length t_tableSectors t_clusters x100 t_next t_firstClusters x101 x102) → lv_has ls 7 [(5, .int x98), (4, .int u75), (3, .int x99), (0, .ref t_o)] → W p l e rm_Volume_findRuns s m args below meth c H locs 0 0 Q (F0 m 16 ls [])) (by
    intro k16 hk16 x98 x99 x100 x101 x102 hf H locs ls hw hl
    unfold f_Volume_findRuns_L16 at hf
    refine n_iload hC hl 0 d_Volume_findRuns_16 rfl ?_
    refine n_iload hC hl 1 d_Volume_findRuns_18 rfl ?_
    refine n_icmp_ge hC hf 137 d_Volume_findRuns_20 (by decide) (fun hf => ?_) (fun hf => ?_)
    · refine n_iconst hC 1 d_Volume_findRuns_137 (by decide) ?_
      cases hf
      exact hret _ _ _ _ hw (show narrow .boolean (Value.int 1) = Value.int 1 from rfl) d_Volume_findRuns_138
    · refine n_aload_n hC hl 3 d_Volume_findRuns_23 rfl rfl ?_
      refine n_iload_n hC hl 2 d_Volume_findRuns_24 rfl rfl ?_
      obtain ⟨u125, hu125, hf⟩ := bd_s hf
      refine n_callVi hC hw fc_Volume_80 (c_Volume_sectorOf l g E hEe t_o t_next_a t_firstClusters_a t_runStarts_a t_runLengths_a t_start t_length t_tableSectors t_clusters x100 x99 u125 hu125) [0] (wd_Volume_findRuns g t_o t_next_a t_firstClusters_a t_runStarts_a t_runLengths_a t_next_n t_start t_length t_tableSectors t_clusters x100 t_next t_firstClusters x101 x102) 0 rfl ⟨rfl, rfl⟩ ⟨Nat.le_of_ble_eq_true rfl, Nat.le_of_ble_eq_true rfl⟩ rfl (At_.cons rfl At_.nil) (At_.cons rfl At_.nil) Sm_.refl rfl hl.1 (Nat.le_of_ble_eq_true rfl) ⟨Nat.zero_le _, Nat.zero_le _⟩ d_Volume_findRuns_25 (fun H locs hw => ?_) rfl
      refine n_istore hC [(6, .int u125), (5, .int x98), (4, .int u75), (3, .int x99), (0, .ref t_o)] hl d_Volume_findRuns_28 (by decide) rfl (fun ls hl => ?_)
      refine n_aload_n hC hl 4 d_Volume_findRuns_30 rfl rfl ?_
      refine n_get hC hw fg_Volume_28 0 rfl rfl d_Volume_findRuns_31 ?_
      refine jn3 (fun (x141 : Int32) (x142 : Nat → Int32) (x143 : Nat → Int32) => ∀ (H : Heap) (locs : List Loc) (ls : Array Slot), WS g.1 classes A s.heap H locs (wd_Volume_findRuns g t_o t_next_a t_firstClusters_a t_runStarts_a t_runLengths_a t_next_n t_start t_length t_tableSectors t_clusters x141 t_next t_firstClusters x142 x143) → lv_has ls 7 [(5, .int x98), (4, .int u75), (3, .int x99), (0, .ref t_o)] → W p l e rm_Volume_findRuns s m args below meth c H locs 0 0 Q (F0 m 125 ls [])) hf (fun x141 x142 x143 hf H locs ls hw hl => ?_) (fun j125 hj125 hf => ?_)
      · refine n_aload_n hC hl 3 d_Volume_findRuns_125 rfl rfl ?_
        refine n_iload_n hC hl 2 d_Volume_findRuns_126 rfl rfl ?_
        obtain ⟨u144, hu144, hf⟩ := bd_s hf
        refine n_callVi hC hw fc_Volume_83 (c_Volume_follower l g E hEe t_o t_next_a t_firstClusters_a t_runStarts_a t_runLengths_a t_next_n t_start t_length t_tableSectors t_clusters x141 t_next x99 u144 hu144) [0, 1] (wd_Volume_findRuns g t_o t_next_a t_firstClusters_a t_runStarts_a t_runLengths_a t_next_n t_start t_length t_tableSectors t_clusters x141 t_next t_firstClusters x142 x143) 0 rfl ⟨rfl, rfl⟩ ⟨Nat.le_of_ble_eq_true rfl, Nat.le_of_ble_eq_true rfl⟩ rfl (At_.cons rfl (At_.cons rfl At_.nil)) (At_.cons rfl (At_.cons rfl At_.nil)) Sm_.refl rfl hl.1 (Nat.le_of_ble_eq_true rfl) ⟨Nat.zero_le _, Nat.zero_le _⟩ d_Volume_findRuns_127 (fun H locs hw => ?_) rfl
        refine n_istore_n hC [(3, .int u144), (5, .int x98), (4, .int u75), (0, .ref t_o)] hl d_Volume_findRuns_130 rfl (by decide) rfl (fun ls hl => ?_)
        refine n_iinc hC (k := 1) hf (by decide) (fun v145 => [(5, .int v145), (3, .int u144), (4, .int u75), (0, .ref t_o)]) hl d_Volume_findRuns_131 rfl (by decide) (fun _ => rfl) (fun v145 ls hf hl => ?_)
        refine n_goto hC 16 d_Volume_findRuns_134 (by decide) ?_
        exact hk16 _ _ _ _ _ hf _ _ _ hw (lv_sub hl [0, 2, 1, 3] rfl)
      refine jn0 (∀ (H : Heap) (locs : List Loc) (ls : Array Slot), WS g.1 classes A s.heap H locs (wd_Volume_findRuns g t_o t_next_a t_firstClusters_a t_runStarts_a t_runLengths_a t_next_n t_start t_length t_tableSectors t_clusters x100 t_next t_firstClusters x101 x102) → lv_has ls 7 [(6, .int u125), (5, .int x98), (4, .int u75), (3, .int x99), (0, .ref t_o)] → W p l e rm_Volume_findRuns s m args below meth c H locs 0 0 Q (F0 m 83 ls [])) hf (fun hf H locs ls hw hl => ?_) (fun j83 hj83 hf => ?_)
      · refine n_aload_n hC hl 4 d_Volume_findRuns_83 rfl rfl ?_
        refine n_get hC hw fg_Volume_28 0 rfl rfl d_Volume_findRuns_84 ?_
        refine n_bipush hC 20 d_Volume_findRuns_87 (by decide) ?_
        refine n_icmp_lt hC hf 94 d_Volume_findRuns_89 (by decide) (fun hf => ?_) (fun hf => ?_)
        · refine n_aload_n hC hl 4 d_Volume_findRuns_94 rfl rfl ?_
          refine n_get hC hw fg_Volume_15 0 rfl rfl d_Volume_findRuns_95 ?_
          refine n_aload_n hC hl 4 d_Volume_findRuns_98 rfl rfl ?_
          refine n_get hC hw fg_Volume_28 0 rfl rfl d_Volume_findRuns_99 ?_
          refine n_iload hC hl 0 d_Volume_findRuns_102 rfl ?_
          refine n_iast hC hw hf 3 0 (fun f157 => wd_Volume_findRuns g t_o t_next_a t_firstClusters_a t_runStarts_a t_runLengths_a t_next_n t_start t_length t_tableSectors t_clusters x100 t_next t_firstClusters f157 x102) rfl rfl d_Volume_findRuns_104 (fun _ => rfl) (fun f157 H locs hf hw => ?_)
          refine n_aload_n hC hl 4 d_Volume_findRuns_105 rfl rfl ?_
          refine n_get hC hw fg_Volume_18 0 rfl rfl d_Volume_findRuns_106 ?_
          refine n_aload_n hC hl 4 d_Volume_findRuns_109 rfl rfl ?_
          refine n_get hC hw fg_Volume_28 0 rfl rfl d_Volume_findRuns_110 ?_
          refine n_iconst hC 1 d_Volume_findRuns_113 (by decide) ?_
          refine n_iast hC hw hf 4 0 (fun f158 => wd_Volume_findRuns g t_o t_next_a t_firstClusters_a t_runStarts_a t_runLengths_a t_next_n t_start t_length t_tableSectors t_clusters x100 t_next t_firstClusters f157 f158) rfl rfl d_Volume_findRuns_114 (fun _ => rfl) (fun f158 H locs hf hw => ?_)
          refine n_aload_n hC hl 4 d_Volume_findRuns_115 rfl rfl ?_
          refine n_dup hC d_Volume_findRuns_116 rfl ?_
          refine n_get hC hw fg_Volume_28 0 rfl rfl d_Volume_findRuns_117 ?_
          refine n_iconst hC 1 d_Volume_findRuns_120 (by decide) ?_
          refine n_iadd hC hf d_Volume_findRuns_121 (fun v159 hf => ?_)
          refine n_put hC hw fp_Volume_28 0 (wd_Volume_findRuns g t_o t_next_a t_firstClusters_a t_runStarts_a t_runLengths_a t_next_n t_start t_length t_tableSectors t_clusters v159 t_next t_firstClusters f157 f158) rfl rfl rfl (Nat.le_of_ble_eq_true rfl) d_Volume_findRuns_122 rfl (fun H locs hw => ?_)
          exact hj125 _ _ _ hf _ _ _ hw (lv_sub hl [1, 2, 3, 4] rfl)
        · refine n_iconst hC 0 d_Volume_findRuns_92 (by decide) ?_
          cases hf
          exact hret _ _ _ _ hw (show narrow .boolean (Value.int 0) = Value.int 0 from rfl) d_Volume_findRuns_93
      refine n_if_le hC hf 83 d_Volume_findRuns_34 (by decide) (fun hf => ?_) (fun hf => ?_)
      · exact hj83 hf _ _ _ hw (lv_sub hl [0, 1, 2, 3, 4] rfl)
      · refine n_aload_n hC hl 4 d_Volume_findRuns_37 rfl rfl ?_
        refine n_get hC hw fg_Volume_15 0 rfl rfl d_Volume_findRuns_38 ?_
        refine n_aload_n hC hl 4 d_Volume_findRuns_41 rfl rfl ?_
        refine n_get hC hw fg_Volume_28 0 rfl rfl d_Volume_findRuns_42 ?_
        refine n_iconst hC 1 d_Volume_findRuns_45 (by decide) ?_
        refine n_isub hC hf d_Volume_findRuns_46 (fun v160 hf => ?_)
        refine n_iald hC hw hf 3 0 rfl rfl d_Volume_findRuns_47 (fun v161 hf => ?_)
        refine n_aload_n hC hl 4 d_Volume_findRuns_48 rfl rfl ?_
        refine n_get hC hw fg_Volume_18 0 rfl rfl d_Volume_findRuns_49 ?_
        refine n_aload_n hC hl 4 d_Volume_findRuns_52 rfl rfl ?_
        refine n_get hC hw fg_Volume_28 0 rfl rfl d_Volume_findRuns_53 ?_
        refine n_iconst hC 1 d_Volume_findRuns_56 (by decide) ?_
        refine n_isub hC hf d_Volume_findRuns_57 (fun v162 hf => ?_)
        refine n_iald hC hw hf 4 0 rfl rfl d_Volume_findRuns_58 (fun v163 hf => ?_)
        refine n_iadd hC hf d_Volume_findRuns_59 (fun v164 hf => ?_)
        refine n_iload hC hl 0 d_Volume_findRuns_60 rfl ?_
        refine n_icmp_ne hC hf 83 d_Volume_findRuns_62 (by decide) (fun hf => ?_) (fun hf => ?_)
        · exact hj83 hf _ _ _ hw (lv_sub hl [0, 1, 2, 3, 4] rfl)
        · refine n_aload_n hC hl 4 d_Volume_findRuns_65 rfl rfl ?_
          refine n_get hC hw fg_Volume_18 0 rfl rfl d_Volume_findRuns_66 ?_
          refine n_aload_n hC hl 4 d_Volume_findRuns_69 rfl rfl ?_
          refine n_get hC hw fg_Volume_28 0 rfl rfl d_Volume_findRuns_70 ?_
          refine n_iconst hC 1 d_Volume_findRuns_73 (by decide) ?_
          refine n_isub hC hf d_Volume_findRuns_74 (fun v165 hf => ?_)
          refine n_dup2_11 hC d_Volume_findRuns_75 rfl rfl ?_
          refine n_iald hC hw hf 4 0 rfl rfl d_Volume_findRuns_76 (fun v166 hf => ?_)
          refine n_iconst hC 1 d_Volume_findRuns_77 (by decide) ?_
          refine n_iadd hC hf d_Volume_findRuns_78 (fun v167 hf => ?_)
          refine n_iast hC hw hf 4 0 (fun f168 => wd_Volume_findRuns g t_o t_next_a t_firstClusters_a t_runStarts_a t_runLengths_a t_next_n t_start t_length t_tableSectors t_clusters x100 t_next t_firstClusters x101 f168) rfl rfl d_Volume_findRuns_79 (fun _ => rfl) (fun f168 H locs hf hw => ?_)
          refine n_goto hC 125 d_Volume_findRuns_80 (by decide) ?_
          exact hj125 _ _ _ hf _ _ _ hw (lv_sub hl [1, 2, 3, 4] rfl)
    )
  exact hL16 N _ _ _ _ _ hf _ _ _ hw (lv_sub hl [0, 1, 2, 3] rfl)
