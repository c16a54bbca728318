def wd_Plan_nextStart (g : GT) (t_o : Nat) (t_starts_a : Nat) (t_lengths_a : Nat) (t_sorts_a : Nat) (t_names_a : Nat) (t_sizes_a : Nat) (t_seeds_a : Nat) (t_scattered_a : Nat) (t_lastUsable : Int32) (t_partitions : Int32) (t_files : Int32) (t_kernelAddress : Int32) (t_starts : Nat → Int32) (t_lengths : Nat → Int32) : va_W := [(t_o, .inr (2, [.int t_lastUsable, .ref t_sorts_a, .ref t_starts_a, .ref t_lengths_a, .int t_partitions, .ref t_names_a, .ref t_sizes_a, .ref t_seeds_a, .ref t_scattered_a, .int t_files, .int t_kernelAddress])), (t_starts_a, .inl (g.2.1, 4, .inl t_starts)), (t_lengths_a, .inl (g.2.1, 4, .inl t_lengths))]
def f_Plan_nextStart (t_partitions : Int32) (t_starts : Nat → Int32) (t_lengths : Nat → Int32) : Option (Int32) :=
  if ¬ t_partitions = 0 then lt_ (t_partitions - 1) (fun v9 => ix_ 4 t_starts v9 (fun (v10 : Int32) => lt_ (t_partitions - 1) (fun v11 => ix_ 4 t_lengths v11 (fun (v12 : Int32) => lt_ (v10 + v12) (fun v13 => lt_ (v13 + 7) (fun v14 => lt_ (v14 / 8) (fun v15 => lt_ (v15 * 8) (fun v16 => some (v16))))))))) else some (40)
def rm_Plan_nextStart : Room := { frames := 0, cells := 0, slots := 0, locals := 0 }
set_option maxHeartbeats 4000000 in
set_option maxRecDepth 100000 in
theorem c_Plan_nextStart (l : Launch) (g : GT) (E : (Nat → Prop) → State → Prop) (hEe : Ee E) (t_o : Nat) (t_starts_a : Nat) (t_lengths_a : Nat) (t_sorts_a : Nat) (t_names_a : Nat) (t_sizes_a : Nat) (t_seeds_a : Nat) (t_scattered_a : Nat) (t_lastUsable : Int32) (t_partitions : Int32) (t_files : Int32) (t_kernelAddress : Int32) (t_starts : Nat → Int32) (t_lengths : Nat → Int32) (z : Int32) (hf : f_Plan_nextStart t_partitions t_starts t_lengths = some z) : Cg l g E y_Plan_nextStart ws_Plan_nextStart rm_Plan_nextStart [.ref t_o] (wd_Plan_nextStart g t_o t_starts_a t_lengths_a t_sorts_a t_names_a t_sizes_a t_seeds_a t_scattered_a t_lastUsable t_partitions t_files t_kernelAddress t_starts t_lengths) (some (.int z)) (wd_Plan_nextStart g t_o t_starts_a t_lengths_a t_sorts_a t_names_a t_sizes_a t_seeds_a t_scattered_a t_lastUsable t_partitions t_files t_kernelAddress t_starts t_lengths) := by
  refine Ct.ofI hEe good_W (by decide) rfl (Nat.le_of_ble_eq_true rfl) ?_
  intro p e s m args below meth c A ls Q hC hw hl hret
  have hC : CX p m c b_Plan_nextStart 2 s args Wall R_Plan g.1 classes (tK g) E A := hC
  have hl : lv_has ls 2 [(0, .ref t_o)] := hl
  unfold f_Plan_nextStart at hf
  refine n_aload_n hC hl 0 d_Plan_nextStart_0 rfl rfl ?_
  refine n_get hC hw fg_Plan_39 0 rfl rfl d_Plan_nextStart_1 ?_
  refine n_if_ne hC hf 10 d_Plan_nextStart_4 (by decide) (fun hf => ?_) (fun hf => ?_)
  · refine n_aload_n hC hl 0 d_Plan_nextStart_10 rfl rfl ?_
    refine n_get hC hw fg_Plan_15 0 rfl rfl d_Plan_nextStart_11 ?_
    refine n_aload_n hC hl 0 d_Plan_nextStart_14 rfl rfl ?_
    refine n_get hC hw fg_Plan_39 0 rfl rfl d_Plan_nextStart_15 ?_
    refine n_iconst hC 1 d_Plan_nextStart_18 (by decide) ?_
    refine n_isub hC hf d_Plan_nextStart_19 (fun v9 hf => ?_)
    refine n_iald hC hw hf 1 0 rfl rfl d_Plan_nextStart_20 (fun v10 hf => ?_)
    refine n_aload_n hC hl 0 d_Plan_nextStart_21 rfl rfl ?_
    refine n_get hC hw fg_Plan_18 0 rfl rfl d_Plan_nextStart_22 ?_
    refine n_aload_n hC hl 0 d_Plan_nextStart_25 rfl rfl ?_
    refine n_get hC hw fg_Plan_39 0 rfl rfl d_Plan_nextStart_26 ?_
    refine n_iconst hC 1 d_Plan_nextStart_29 (by decide) ?_
    refine n_isub hC hf d_Plan_nextStart_30 (fun v11 hf => ?_)
    refine n_iald hC hw hf 2 0 rfl rfl d_Plan_nextStart_31 (fun v12 hf => ?_)
    refine n_iadd hC hf d_Plan_nextStart_32 (fun v13 hf => ?_)
    refine n_istore_n hC [(1, .int v13), (0, .ref t_o)] hl d_Plan_nextStart_33 rfl (by decide) rfl (fun ls hl => ?_)
    refine n_iload_n hC hl 0 d_Plan_nextStart_34 rfl rfl ?_
    refine n_bipush hC 7 d_Plan_nextStart_35 (by decide) ?_
    refine n_iadd hC hf d_Plan_nextStart_37 (fun v14 hf => ?_)
    refine n_bipush hC 8 d_Plan_nextStart_38 (by decide) ?_
    refine n_idiv hC hf d_Plan_nextStart_40 (by decide) (fun v15 hf => ?_)
    refine n_bipush hC 8 d_Plan_nextStart_41 (by decide) ?_
    refine n_imul hC hf d_Plan_nextStart_43 (fun v16 hf => ?_)
    cases hf
    exact hret _ _ _ _ hw rfl d_Plan_nextStart_44
  · refine n_bipush hC 40 d_Plan_nextStart_7 (by decide) ?_
    cases hf
    exact hret _ _ _ _ hw rfl d_Plan_nextStart_9
def wd_Plan_addPartition (g : GT) (t_o : Nat) (t_sorts_a : Nat) (t_starts_a : Nat) (t_lengths_a : Nat) (t_names_a : Nat) (t_sizes_a : Nat) (t_seeds_a : Nat) (t_scattered_a : Nat) (t_lastUsable : Int32) (t_partitions : Int32) (t_files : Int32) (t_kernelAddress : Int32) (t_sorts : Nat → Int32) (t_starts : Nat → Int32) (t_lengths : Nat → Int32) : va_W := [(t_o, .inr (2, [.int t_lastUsable, .ref t_sorts_a, .ref t_starts_a, .ref t_lengths_a, .int t_partitions, .ref t_names_a, .ref t_sizes_a, .ref t_seeds_a, .ref t_scattered_a, .int t_files, .int t_kernelAddress])), (t_sorts_a, .inl (g.2.1, 4, .inl t_sorts)), (t_starts_a, .inl (g.2.1, 4, .inl t_starts)), (t_lengths_a, .inl (g.2.1, 4, .inl t_lengths))]
def f_Plan_addPartition (a2 : Int32) (t_partitions : Int32) (t_sorts : Nat → Int32) (t_starts : Nat → Int32) (t_lengths : Nat → Int32) (t_lastUsable : Int32) (a1 : Int32) : Option (Int32 × Int32 × (Nat → Int32) × (Nat → Int32) × (Nat → Int32)) :=
  lt_ (if a2 < (8 : Int32) then some ((-2), t_partitions, t_sorts, t_starts, t_lengths) else if a2 ≤ (600 : Int32) then if t_partitions < (4 : Int32) then bd_ (f_Plan_nextStart t_partitions t_starts t_lengths) (fun u15 => lt_ (u15 + a2) (fun v16 => lt_ (v16 - 1) (fun v17 => if v17 ≤ t_lastUsable then up_i 4 t_sorts t_partitions a1 (fun (f18 : Nat → Int32) => up_i 4 t_starts t_partitions u15 (fun (f19 : Nat → Int32) => up_i 4 t_lengths t_partitions a2 (fun (f20 : Nat → Int32) => lt_ (t_partitions + 1) (fun v21 => some (t_partitions, v21, f18, f19, f20))))) else some ((-3), t_partitions, t_sorts, t_starts, t_lengths)))) else some ((-3), t_partitions, t_sorts, t_starts, t_lengths) else some ((-2), t_partitions, t_sorts, t_starts, t_lengths)) (fun (j9 : Option (Int32 × Int32 × (Nat → Int32) × (Nat → Int32) × (Nat → Int32))) => if a1 = 0 then j9 else if ¬ a1 = (1 : Int32) then some ((-2), t_partitions, t_sorts, t_starts, t_lengths) else j9)
def rm_Plan_addPartition : Room := { frames := 1, cells := 0, slots := 0, locals := 21 }
set_option maxHeartbeats 4000000 in
set_option maxRecDepth 100000 in
theorem c_Plan_addPartition (l : Launch) (g : GT) (E : (Nat → Prop) → State → Prop) (hEe : Ee E) (t_o : Nat) (t_sorts_a : Nat) (t_starts_a : Nat) (t_lengths_a : Nat) (t_names_a : Nat) (t_sizes_a : Nat) (t_seeds_a : Nat) (t_scattered_a : Nat) (t_lastUsable : Int32) (t_partitions : Int32) (t_files : Int32) (t_kernelAddress : Int32) (t_sorts : Nat → Int32) (t_starts : Nat → Int32) (t_lengths : Nat → Int32) (a1 : Int32) (a2 : Int32) (z : Int32 × Int32 × (Nat → Int32) × (Nat → Int32) × (Nat → Int32)) (hf : f_Plan_addPartition a2 t_partitions t_sorts t_starts t_lengths t_lastUsable a1 = some z) : Cg l g E y_Plan_addPartition ws_Plan_addPartition rm_Plan_addPartition [.ref t_o, .int a1, .int a2] (wd_Plan_addPartition g t_o t_sorts_a t_starts_a t_lengths_a t_names_a t_sizes_a t_seeds_a t_scattered_a t_lastUsable t_partitions t_files t_kernelAddress t_sorts t_starts t_lengths) (some (.int z.1)) (wd_Plan_addPartition g t_o t_sorts_a t_starts_a t_lengths_a t_names_a t_sizes_a t_seeds_a t_scattered_a t_lastUsable z.2.1 t_files t_kernelAddress z.2.2.1 z.2.2.2.1 z.2.2.2.2) := by
  refine Ct.ofI hEe good_W (by decide) rfl (Nat.le_of_ble_eq_true rfl) ?_
  intro p e s m args below meth c A ls Q hC hw hl hret
  have hC : CX p m c b_Plan_addPartition 4 s args Wall R_Plan g.1 classes (tK g) E A := hC
  have hl : lv_has ls 4 [(0, .ref t_o), (1, .int a1), (2, .int a2)] := hl
  unfold f_Plan_addPartition at hf
  refine n_iload_n hC hl 1 d_Plan_addPartition_0 rfl rfl ?_
  refine jn0 (∀ (H : Heap) (locs : List Loc) (ls : Array Slot), WS g.1 classes A s.heap H locs (wd_Plan_addPartition g t_o t_sorts_a t_starts_a t_lengths_a t_names_a t_sizes_a t_seeds_a t_scattered_a t_lastUsable t_partitions t_files t_kernelAddress t_sorts t_starts t_lengths) → lv_has ls 4 [(0, .ref t_o), (1, .int a1), (2, .int a2)] → W p l e rm_Plan_addPartition s m args below meth c H locs 0 0 Q (F0 m 9 ls [])) hf (fun hf H locs ls hw hl => ?_) (fun j9 hj9 hf => ?_)
  · refine n_iload_n hC hl 2 d_Plan_addPartition_9 rfl rfl ?_
    refine n_bipush hC 8 d_Plan_addPartition_10 (by decide) ?_
    refine n_icmp_lt hC hf 22 d_Plan_addPartition_12 (by decide) (fun hf => ?_) (fun hf => ?_)
    · refine n_bipush hC (-2) d_Plan_addPartition_22 (by decide) ?_
      cases hf
      exact hret _ _ _ _ hw (show narrow .int (Value.int (-2)) = Value.int (-2) from rfl) d_Plan_addPartition_24
    · refine n_iload_n hC hl 2 d_Plan_addPartition_15 rfl rfl ?_
      refine n_sipush hC 600 d_Plan_addPartition_16 (by decide) ?_
      refine n_icmp_le hC hf 25 d_Plan_addPartition_19 (by decide) (fun hf => ?_) (fun hf => ?_)
      · refine n_aload_n hC hl 0 d_Plan_addPartition_25 rfl rfl ?_
        refine n_get hC hw fg_Plan_39 0 rfl rfl d_Plan_addPartition_26 ?_
        refine n_iconst hC 4 d_Plan_addPartition_29 (by decide) ?_
        refine n_icmp_lt hC hf 36 d_Plan_addPartition_30 (by decide) (fun hf => ?_) (fun hf => ?_)
        · refine n_aload_n hC hl 0 d_Plan_addPartition_36 rfl rfl ?_
          obtain ⟨u15, hu15, hf⟩ := bd_s hf
          refine n_callVi hC hw fc_Plan_42 (c_Plan_nextStart l g E hEe t_o t_starts_a t_lengths_a t_sorts_a t_names_a t_sizes_a t_seeds_a t_scattered_a t_lastUsable t_partitions t_files t_kernelAddress t_starts t_lengths u15 hu15) [0, 2, 3] (wd_Plan_addPartition g t_o t_sorts_a t_starts_a t_lengths_a t_names_a t_sizes_a t_seeds_a t_scattered_a t_lastUsable t_partitions t_files t_kernelAddress t_sorts t_starts t_lengths) 0 rfl ⟨rfl, rfl⟩ ⟨Nat.le_of_ble_eq_true rfl, Nat.le_of_ble_eq_true rfl⟩ rfl (At_.cons rfl (At_.cons rfl (At_.cons rfl At_.nil))) (At_.cons rfl (At_.cons rfl (At_.cons rfl At_.nil))) Sm_.refl rfl hl.1 (Nat.le_of_ble_eq_true rfl) ⟨Nat.zero_le _, Nat.zero_le _⟩ d_Plan_addPartition_37 (fun H locs hw => ?_) rfl
          refine n_istore_n hC [(3, .int u15), (0, .ref t_o), (1, .int a1), (2, .int a2)] hl d_Plan_addPartition_40 rfl (by decide) rfl (fun ls hl => ?_)
          refine n_iload_n hC hl 0 d_Plan_addPartition_41 rfl rfl ?_
          refine n_iload_n hC hl 3 d_Plan_addPartition_42 rfl rfl ?_
          refine n_iadd hC hf d_Plan_addPartition_43 (fun v16 hf => ?_)
          refine n_iconst hC 1 d_Plan_addPartition_44 (by decide) ?_
          refine n_isub hC hf d_Plan_addPartition_45 (fun v17 hf => ?_)
          refine n_aload_n hC hl 1 d_Plan_addPartition_46 rfl rfl ?_
          refine n_get hC hw fg_Plan_35 0 rfl rfl d_Plan_addPartition_47 ?_
          refine n_icmp_le hC hf 56 d_Plan_addPartition_50 (by decide) (fun hf => ?_) (fun hf => ?_)
          · refine n_aload_n hC hl 1 d_Plan_addPartition_56 rfl rfl ?_
            refine n_get hC hw fg_Plan_11 0 rfl rfl d_Plan_addPartition_57 ?_
            refine n_aload_n hC hl 1 d_Plan_addPartition_60 rfl rfl ?_
            refine n_get hC hw fg_Plan_39 0 rfl rfl d_Plan_addPartition_61 ?_
            refine n_iload_n hC hl 2 d_Plan_addPartition_64 rfl rfl ?_
            refine n_iast hC hw hf 1 0 (fun f18 => wd_Plan_addPartition g t_o t_sorts_a t_starts_a t_lengths_a t_names_a t_sizes_a t_seeds_a t_scattered_a t_lastUsable t_partitions t_files t_kernelAddress f18 t_starts t_lengths) rfl rfl d_Plan_addPartition_65 (fun _ => rfl) (fun f18 H locs hf hw => ?_)
            refine n_aload_n hC hl 1 d_Plan_addPartition_66 rfl rfl ?_
            refine n_get hC hw fg_Plan_15 0 rfl rfl d_Plan_addPartition_67 ?_
            refine n_aload_n hC hl 1 d_Plan_addPartition_70 rfl rfl ?_
            refine n_get hC hw fg_Plan_39 0 rfl rfl d_Plan_addPartition_71 ?_
            refine n_iload_n hC hl 0 d_Plan_addPartition_74 rfl rfl ?_
            refine n_iast hC hw hf 2 0 (fun f19 => wd_Plan_addPartition g t_o t_sorts_a t_starts_a t_lengths_a t_names_a t_sizes_a t_seeds_a t_scattered_a t_lastUsable t_partitions t_files t_kernelAddress f18 f19 t_lengths) rfl rfl d_Plan_addPartition_75 (fun _ => rfl) (fun f19 H locs hf hw => ?_)
            refine n_aload_n hC hl 1 d_Plan_addPartition_76 rfl rfl ?_
            refine n_get hC hw fg_Plan_18 0 rfl rfl d_Plan_addPartition_77 ?_
            refine n_aload_n hC hl 1 d_Plan_addPartition_80 rfl rfl ?_
            refine n_get hC hw fg_Plan_39 0 rfl rfl d_Plan_addPartition_81 ?_
            refine n_iload_n hC hl 3 d_Plan_addPartition_84 rfl rfl ?_
            refine n_iast hC hw hf 3 0 (fun f20 => wd_Plan_addPartition g t_o t_sorts_a t_starts_a t_lengths_a t_names_a t_sizes_a t_seeds_a t_scattered_a t_lastUsable t_partitions t_files t_kernelAddress f18 f19 f20) rfl rfl d_Plan_addPartition_85 (fun _ => rfl) (fun f20 H locs hf hw => ?_)
            refine n_aload_n hC hl 1 d_Plan_addPartition_86 rfl rfl ?_
            refine n_dup hC d_Plan_addPartition_87 rfl ?_
            refine n_get hC hw fg_Plan_39 0 rfl rfl d_Plan_addPartition_88 ?_
            refine n_dup_x1 hC d_Plan_addPartition_91 rfl rfl ?_
            refine n_iconst hC 1 d_Plan_addPartition_92 (by decide) ?_
            refine n_iadd hC hf d_Plan_addPartition_93 (fun v21 hf => ?_)
            refine n_put hC hw fp_Plan_39 0 (wd_Plan_addPartition g t_o t_sorts_a t_starts_a t_lengths_a t_names_a t_sizes_a t_seeds_a t_scattered_a t_lastUsable v21 t_files t_kernelAddress f18 f19 f20) rfl rfl rfl (Nat.le_of_ble_eq_true rfl) d_Plan_addPartition_94 rfl (fun H locs hw => ?_)
            cases hf
            exact hret _ _ _ _ hw (show narrow .int (Value.int t_partitions) = Value.int t_partitions from rfl) d_Plan_addPartition_97
          · refine n_bipush hC (-3) d_Plan_addPartition_53 (by decide) ?_
            cases hf
            exact hret _ _ _ _ hw (show narrow .int (Value.int (-3)) = Value.int (-3) from rfl) d_Plan_addPartition_55
        · refine n_bipush hC (-3) d_Plan_addPartition_33 (by decide) ?_
          cases hf
          exact hret _ _ _ _ hw (show narrow .int (Value.int (-3)) = Value.int (-3) from rfl) d_Plan_addPartition_35
      · refine n_bipush hC (-2) d_Plan_addPartition_22 (by decide) ?_
        cases hf
        exact hret _ _ _ _ hw (show narrow .int (Value.int (-2)) = Value.int (-2) from rfl) d_Plan_addPartition_24
  refine n_if_eq hC hf 9 d_Plan_addPartition_1 (by decide) (fun hf => ?_) (fun hf => ?_)
  · exact hj9 hf _ _ _ hw (lv_sub hl [0, 1, 2] rfl)
  · refine n_iload_n hC hl 1 d_Plan_addPartition_4 rfl rfl ?_
    refine n_iconst hC 1 d_Plan_addPartition_5 (by decide) ?_
    refine n_icmp_ne hC hf 22 d_Plan_addPartition_6 (by decide) (fun hf => ?_) (fun hf => ?_)
    · refine n_bipush hC (-2) d_Plan_addPartition_22 (by decide) ?_
      cases hf
      exact hret _ _ _ _ hw (show narrow .int (Value.int (-2)) = Value.int (-2) from rfl) d_Plan_addPartition_24
    · exact hj9 hf _ _ _ hw (lv_sub hl [0, 1, 2] rfl)
def wd_Plan_tellPartition (g : GT) (t_o : Nat) (t_sorts_a : Nat) (t_starts_a : Nat) (t_lengths_a : Nat) (t_names_a : Nat) (t_sizes_a : Nat) (t_seeds_a : Nat) (t_scattered_a : Nat) (t_lastUsable : Int32) (t_partitions : Int32) (t_files : Int32) (t_kernelAddress : Int32) (t_sorts : Nat → Int32) (t_starts : Nat → Int32) (t_lengths : Nat → Int32) : va_W := [(t_o, .inr (2, [.int t_lastUsable, .ref t_sorts_a, .ref t_starts_a, .ref t_lengths_a, .int t_partitions, .ref t_names_a, .ref t_sizes_a, .ref t_seeds_a, .ref t_scattered_a, .int t_files, .int t_kernelAddress])), (t_sorts_a, .inl (g.2.1, 4, .inl t_sorts)), (t_starts_a, .inl (g.2.1, 4, .inl t_starts)), (t_lengths_a, .inl (g.2.1, 4, .inl t_lengths))]
def f_Plan_tellPartition (a1 : Int32) (t_partitions : Int32) (a2 : Int32) (t_starts : Nat → Int32) (t_lengths : Nat → Int32) (t_sorts : Nat → Int32) : Option (Int32) :=
  if a1 < 0 then some ((-1)) else if a1 < t_partitions then if (a2 : Int32) = 0 then ix_ 4 t_starts a1 (fun (v5 : Int32) => some (v5)) else if (a2 : Int32) = 1 then ix_ 4 t_lengths a1 (fun (v7 : Int32) => some (v7)) else if (a2 : Int32) = 2 then ix_ 4 t_sorts a1 (fun (v9 : Int32) => some (v9)) else some ((-1)) else some ((-1))
def rm_Plan_tellPartition : Room := { frames := 0, cells := 0, slots := 0, locals := 0 }
set_option maxHeartbeats 4000000 in
set_option maxRecDepth 100000 in
theorem c_Plan_tellPartition (l : Launch) (g : GT) (E : (Nat → Prop) → State → Prop) (hEe : Ee E) (t_o : Nat) (t_sorts_a : Nat) (t_starts_a : Nat) (t_lengths_a : Nat) (t_names_a : Nat) (t_sizes_a : Nat) (t_seeds_a : Nat) (t_scattered_a : Nat) (t_lastUsable : Int32) (t_partitions : Int32) (t_files : Int32) (t_kernelAddress : Int32) (t_sorts : Nat → Int32) (t_starts : Nat → Int32) (t_lengths : Nat → Int32) (a1 : Int32) (a2 : Int32) (z : Int32) (hf : f_Plan_tellPartition a1 t_partitions a2 t_starts t_lengths t_sorts = some z) : Cg l g E y_Plan_tellPartition ws_Plan_tellPartition rm_Plan_tellPartition [.ref t_o, .int a1, .int a2] (wd_Plan_tellPartition g t_o t_sorts_a t_starts_a t_lengths_a t_names_a t_sizes_a t_seeds_a t_scattered_a t_lastUsable t_partitions t_files t_kernelAddress t_sorts t_starts t_lengths) (some (.int z)) (wd_Plan_tellPartition g t_o t_sorts_a t_starts_a t_lengths_a t_names_a t_sizes_a t_seeds_a t_scattered_a t_lastUsable t_partitions t_files t_kernelAddress t_sorts t_starts t_lengths) := by
  refine Ct.ofI hEe good_W (by decide) rfl (Nat.le_of_ble_eq_true rfl) ?_
  intro p e s m args below meth c A ls Q hC hw hl hret
  have hC : CX p m c b_Plan_tellPartition 3 s args Wall R_Plan g.1 classes (tK g) E A := hC
  have hl : lv_has ls 3 [(0, .ref t_o), (1, .int a1), (2, .int a2)] := hl
  unfold f_Plan_tellPartition at hf
  refine n_iload_n hC hl 1 d_Plan_tellPartition_0 rfl rfl ?_
  refine n_if_lt hC hf 12 d_Plan_tellPartition_1 (by decide) (fun hf => ?_) (fun hf => ?_)
  · refine n_iconst hC (-1) d_Plan_tellPartition_12 (by decide) ?_
    cases hf
    exact hret _ _ _ _ hw rfl d_Plan_tellPartition_13
  · refine n_iload_n hC hl 1 d_Plan_tellPartition_4 rfl rfl ?_
    refine n_aload_n hC hl 0 d_Plan_tellPartition_5 rfl rfl ?_
    refine n_get hC hw fg_Plan_39 0 rfl rfl d_Plan_tellPartition_6 ?_
    refine n_icmp_lt hC hf 14 d_Plan_tellPartition_9 (by decide) (fun hf => ?_) (fun hf => ?_)
    · refine n_iload_n hC hl 2 d_Plan_tellPartition_14 rfl rfl ?_
      by_cases h4 : (a2 : Int32) = 0
      · rw [if_pos h4] at hf
        refine lv_tableIn hC.1.1 hC.1.2.1 d_Plan_tellPartition_15 (by rw [h4]; decide) (by rw [h4]; decide) (by rw [h4]; rfl) (tgt := 40) (by decide) ?_
        refine n_aload_n hC hl 0 d_Plan_tellPartition_40 rfl rfl ?_
        refine n_get hC hw fg_Plan_15 0 rfl rfl d_Plan_tellPartition_41 ?_
        refine n_iload_n hC hl 1 d_Plan_tellPartition_44 rfl rfl ?_
        refine n_iald hC hw hf 2 0 rfl rfl d_Plan_tellPartition_45 (fun v5 hf => ?_)
        cases hf
        exact hret _ _ _ _ hw rfl d_Plan_tellPartition_46
      · rw [if_neg h4] at hf
        by_cases h6 : (a2 : Int32) = 1
        · rw [if_pos h6] at hf
          refine lv_tableIn hC.1.1 hC.1.2.1 d_Plan_tellPartition_15 (by rw [h6]; decide) (by rw [h6]; decide) (by rw [h6]; rfl) (tgt := 47) (by decide) ?_
          refine n_aload_n hC hl 0 d_Plan_tellPartition_47 rfl rfl ?_
          refine n_get hC hw fg_Plan_18 0 rfl rfl d_Plan_tellPartition_48 ?_
          refine n_iload_n hC hl 1 d_Plan_tellPartition_51 rfl rfl ?_
          refine n_iald hC hw hf 3 0 rfl rfl d_Plan_tellPartition_52 (fun v7 hf => ?_)
          cases hf
          exact hret _ _ _ _ hw rfl d_Plan_tellPartition_53
        · rw [if_neg h6] at hf
          by_cases h8 : (a2 : Int32) = 2
          · rw [if_pos h8] at hf
            refine lv_tableIn hC.1.1 hC.1.2.1 d_Plan_tellPartition_15 (by rw [h8]; decide) (by rw [h8]; decide) (by rw [h8]; rfl) (tgt := 54) (by decide) ?_
            refine n_aload_n hC hl 0 d_Plan_tellPartition_54 rfl rfl ?_
            refine n_get hC hw fg_Plan_11 0 rfl rfl d_Plan_tellPartition_55 ?_
            refine n_iload_n hC hl 1 d_Plan_tellPartition_58 rfl rfl ?_
            refine n_iald hC hw hf 1 0 rfl rfl d_Plan_tellPartition_59 (fun v9 hf => ?_)
            cases hf
            exact hret _ _ _ _ hw rfl d_Plan_tellPartition_60
          · rw [if_neg h8] at hf
            refine lv_tableOut hC.1.1 hC.1.2.1 d_Plan_tellPartition_15 (by have := lv_neT h4 (a := 0) (by decide); have := lv_neT h6 (a := 1) (by decide); have := lv_neT h8 (a := 2) (by decide); omega) (tgt := 61) (by decide) ?_
            refine n_iconst hC (-1) d_Plan_tellPartition_61 (by decide) ?_
            cases hf
            exact hret _ _ _ _ hw rfl d_Plan_tellPartition_62
    · refine n_iconst hC (-1) d_Plan_tellPartition_12 (by decide) ?_
      cases hf
      exact hret _ _ _ _ hw rfl d_Plan_tellPartition_13
def wd_Plan_bootPartition (g : GT) (t_o : Nat) (t_sorts_a : Nat) (t_starts_a : Nat) (t_lengths_a : Nat) (t_names_a : Nat) (t_sizes_a : Nat) (t_seeds_a : Nat) (t_scattered_a : Nat) (t_lastUsable : Int32) (t_partitions : Int32) (t_files : Int32) (t_kernelAddress : Int32) (t_sorts : Nat → Int32) : va_W := [(t_o, .inr (2, [.int t_lastUsable, .ref t_sorts_a, .ref t_starts_a, .ref t_lengths_a, .int t_partitions, .ref t_names_a, .ref t_sizes_a, .ref t_seeds_a, .ref t_scattered_a, .int t_files, .int t_kernelAddress])), (t_sorts_a, .inl (g.2.1, 4, .inl t_sorts))]
def f_Plan_bootPartition_L2 (t_partitions : Int32) (t_sorts : Nat → Int32) (k2 : Int32 → Option (Int32)) (x10 : Int32) : Option (Int32) :=
  if t_partitions ≤ x10 then some ((-1)) else ix_ 4 t_sorts x10 (fun (v13 : Int32) => if ¬ v13 = 0 then lt_ (x10 + 1) (fun v14 => k2 v14) else some (x10))
def f_Plan_bootPartition (N : Nat) (t_partitions : Int32) (t_sorts : Nat → Int32) : Option (Int32) :=
  lp_ (fun _ => none) (f_Plan_bootPartition_L2 t_partitions t_sorts) N 0
def rm_Plan_bootPartition : Room := { frames := 0, cells := 0, slots := 0, locals := 0 }
set_option maxHeartbeats 4000000 in
set_option maxRecDepth 100000 in
theorem c_Plan_bootPartition (l : Launch) (g : GT) (E : (Nat → Prop) → State → Prop) (hEe : Ee E) (t_o : Nat) (t_sorts_a : Nat) (t_starts_a : Nat) (t_lengths_a : Nat) (t_names_a : Nat) (t_sizes_a : Nat) (t_seeds_a : Nat) (t_scattered_a : Nat) (t_lastUsable : Int32) (t_partitions : Int32) (t_files : Int32) (t_kernelAddress : Int32) (t_sorts : Nat → Int32) (N : Nat) (z : Int32) (hf : f_Plan_bootPartition N t_partitions t_sorts = some z) : Cg l g E y_Plan_bootPartition ws_Plan_bootPartition rm_Plan_bootPartition [.ref t_o] (wd_Plan_bootPartition g t_o t_sorts_a t_starts_a t_lengths_a t_names_a t_sizes_a t_seeds_a t_scattered_a t_lastUsable t_partitions t_files t_kernelAddress t_sorts) (some (.int z)) (wd_Plan_bootPartition g t_o t_sorts_a t_starts_a t_lengths_a t_names_a t_sizes_a t_seeds_a t_scattered_a t_lastUsable t_partitions t_files t_kernelAddress t_sorts) := by
  refine Ct.ofI hEe good_W (by decide) rfl (Nat.le_of_ble_eq_true rfl) ?_
  intro p e s m args below meth c A ls Q hC hw hl hret
  have hC : CX p m c b_Plan_bootPartition 2 s args Wall R_Plan g.1 classes (tK g) E A := hC
  have hl : lv_has ls 2 [(0, .ref t_o)] := hl
  unfold f_Plan_bootPartition at hf
  refine n_iconst hC 0 d_Plan_bootPartition_0 (by decide) ?_
  refine n_istore_n hC [(1, .int 0), (0, .ref t_o)] hl d_Plan_bootPartition_1 rfl (by decide) rfl (fun ls hl => ?_)
  have hL2 := lw1 (B := f_Plan_bootPartition_L2 t_partitions t_sorts) (z := z) (fun (x10 : Int32) => ∀ (H : Heap) (locs : List Loc) (ls : Array Slot), WS g.1 classes A s.heap H locs (wd_Plan_bootPartition g t_o t_sorts_a t_starts_a t_lengths_a t_names_a t_sizes_a t_seeds_a t_scattered_a t_lastUsable t_partitions t_files t_kernelAddress t_sorts) → lv_has ls 2 [(1, .int x10), (0, .ref t_o)] → W p l e rm_Plan_bootPartition s m args below meth c H locs 0 0 Q (F0 m 2 ls [])) (by
    intro k2 hk2 x10 hf H locs ls hw hl
    unfold f_Plan_bootPartition_L2 at hf
    refine n_iload_n hC hl 0 d_Plan_bootPartition_2 rfl rfl ?_
    refine n_aload_n hC hl 1 d_Plan_bootPartition_3 rfl rfl ?_
    refine n_get hC hw fg_Plan_39 0 rfl rfl d_Plan_bootPartition_4 ?_
    refine n_icmp_ge hC hf 27 d_Plan_bootPartition_7 (by decide) (fun hf => ?_) (fun hf => ?_)
    · refine n_iconst hC (-1) d_Plan_bootPartition_27 (by decide) ?_
      cases hf
      exact hret _ _ _ _ hw rfl d_Plan_bootPartition_28
    · refine n_aload_n hC hl 1 d_Plan_bootPartition_10 rfl rfl ?_
      refine n_get hC hw fg_Plan_11 0 rfl rfl d_Plan_bootPartition_11 ?_
      refine n_iload_n hC hl 0 d_Plan_bootPartition_14 rfl rfl ?_
      refine n_iald hC hw hf 1 0 rfl rfl d_Plan_bootPartition_15 (fun v13 hf => ?_)
      refine n_if_ne hC hf 21 d_Plan_bootPartition_16 (by decide) (fun hf => ?_) (fun hf => ?_)
      · refine n_iinc hC (k := 0) hf (by decide) (fun v14 => [(1, .int v14), (0, .ref t_o)]) hl d_Plan_bootPartition_21 rfl (by decide) (fun _ => rfl) (fun v14 ls hf hl => ?_)
        refine n_goto hC 2 d_Plan_bootPartition_24 (by decide) ?_
        exact hk2 _ hf _ _ _ hw (lv_sub hl [0, 1] rfl)
      · refine n_iload_n hC hl 0 d_Plan_bootPartition_19 rfl rfl ?_
        cases hf
        exact hret _ _ _ _ hw rfl d_Plan_bootPartition_20
    )
  exact hL2 N _ hf _ _ _ hw (lv_sub hl [0, 1] rfl)
def wd_Plan_isNameCharacter (g : GT)  : va_W := []
def f_Plan_isNameCharacter (a1 : Int32) : Option (Int32) :=
  lt_ (lt_ (if ¬ a1 = (95 : Int32) then some (0) else some (1)) (fun (j24 : Option (Int32)) => if a1 < (48 : Int32) then j24 else if a1 ≤ (57 : Int32) then some (1) else j24)) (fun (j12 : Option (Int32)) => if a1 < (65 : Int32) then j12 else if a1 ≤ (90 : Int32) then some (1) else j12)
def rm_Plan_isNameCharacter : Room := { frames := 0, cells := 0, slots := 0, locals := 0 }
set_option maxHeartbeats 4000000 in
set_option maxRecDepth 100000 in
theorem c_Plan_isNameCharacter (l : Launch) (g : GT) (E : (Nat → Prop) → State → Prop) (hEe : Ee E) (a1 : Int32) (z : Int32) (hf : f_Plan_isNameCharacter a1 = some z) : Cg l g E y_Plan_isNameCharacter ws_Plan_isNameCharacter rm_Plan_isNameCharacter [.int a1] (wd_Plan_isNameCharacter g) (some (.int z)) (wd_Plan_isNameCharacter g) := by
  refine Ct.ofI hEe good_W (by decide) rfl (Nat.le_of_ble_eq_true rfl) ?_
  intro p e s m args below meth c A ls Q hC hw hl hret
  have hC : CX p m c b_Plan_isNameCharacter 1 s args Wall R_Plan g.1 classes (tK g) E A := hC
  have hl : lv_has ls 1 [(0, .int a1)] := hl
  unfold f_Plan_isNameCharacter at hf
  refine n_iload_n hC hl 0 d_Plan_isNameCharacter_0 rfl rfl ?_
  refine n_bipush hC 65 d_Plan_isNameCharacter_1 (by decide) ?_
  refine jn0 (∀ (H : Heap) (locs : List Loc) (ls : Array Slot), WS g.1 classes A s.heap H locs (wd_Plan_isNameCharacter g) → lv_has ls 1 [(0, .int a1)] → W p l e rm_Plan_isNameCharacter s m args below meth c H locs 0 0 Q (F0 m 12 ls [])) hf (fun hf H locs ls hw hl => ?_) (fun j12 hj12 hf => ?_)
  · refine n_iload_n hC hl 0 d_Plan_isNameCharacter_12 rfl rfl ?_
    refine n_bipush hC 48 d_Plan_isNameCharacter_13 (by decide) ?_
    refine jn0 (∀ (H : Heap) (locs : List Loc) (ls : Array Slot), WS g.1 classes A s.heap H locs (wd_Plan_isNameCharacter g) → lv_has ls 1 [(0, .int a1)] → W p l e rm_Plan_isNameCharacter s m args below meth c H locs 0 0 Q (F0 m 24 ls [])) hf (fun hf H locs ls hw hl => ?_) (fun j24 hj24 hf => ?_)
    · refine n_iload_n hC hl 0 d_Plan_isNameCharacter_24 rfl rfl ?_
      refine n_bipush hC 95 d_Plan_isNameCharacter_25 (by decide) ?_
      refine n_icmp_ne hC hf 34 d_Plan_isNameCharacter_27 (by decide) (fun hf => ?_) (fun hf => ?_)
      · refine n_iconst hC 0 d_Plan_isNameCharacter_34 (by decide) ?_
        cases hf
        exact hret _ _ _ _ hw rfl d_Plan_isNameCharacter_35
      · refine n_iconst hC 1 d_Plan_isNameCharacter_30 (by decide) ?_
        refine n_goto hC 35 d_Plan_isNameCharacter_31 (by decide) ?_
        cases hf
        exact hret _ _ _ _ hw rfl d_Plan_isNameCharacter_35
    refine n_icmp_lt hC hf 24 d_Plan_isNameCharacter_15 (by decide) (fun hf => ?_) (fun hf => ?_)
    · exact hj24 hf _ _ _ hw (lv_sub hl [0] rfl)
    · refine n_iload_n hC hl 0 d_Plan_isNameCharacter_18 rfl rfl ?_
      refine n_bipush hC 57 d_Plan_isNameCharacter_19 (by decide) ?_
      refine n_icmp_le hC hf 30 d_Plan_isNameCharacter_21 (by decide) (fun hf => ?_) (fun hf => ?_)
      · refine n_iconst hC 1 d_Plan_isNameCharacter_30 (by decide) ?_
        refine n_goto hC 35 d_Plan_isNameCharacter_31 (by decide) ?_
        cases hf
        exact hret _ _ _ _ hw rfl d_Plan_isNameCharacter_35
      · exact hj24 hf _ _ _ hw (lv_sub hl [0] rfl)
  refine n_icmp_lt hC hf 12 d_Plan_isNameCharacter_3 (by decide) (fun hf => ?_) (fun hf => ?_)
  · exact hj12 hf _ _ _ hw (lv_sub hl [0] rfl)
  · refine n_iload_n hC hl 0 d_Plan_isNameCharacter_6 rfl rfl ?_
    refine n_bipush hC 90 d_Plan_isNameCharacter_7 (by decide) ?_
    refine n_icmp_le hC hf 30 d_Plan_isNameCharacter_9 (by decide) (fun hf => ?_) (fun hf => ?_)
    · refine n_iconst hC 1 d_Plan_isNameCharacter_30 (by decide) ?_
      refine n_goto hC 35 d_Plan_isNameCharacter_31 (by decide) ?_
      cases hf
      exact hret _ _ _ _ hw rfl d_Plan_isNameCharacter_35
    · exact hj12 hf _ _ _ hw (lv_sub hl [0] rfl)
def wd_Plan_nameIn (g : GT)  : va_W := []
def f_Plan_nameIn_L6 (a1 : Int64) (k6 : Int32 → Int64 → Option (Int64)) (x39 : Int32) (x40 : Int64) : Option (Int64) :=
  if x39 < 0 then some (x40) else lt_ ((a1.toUInt64 >>> (x39.toInt64.toUInt64 &&& Int64.toUInt64 63)).toInt64) (fun v50 => lt_ (v50.toInt32) (fun v51 => lt_ (v51 &&& 255) (fun v52 => lt_ (fun (x57 : Int64) => lt_ (x39 + (-8)) (fun v58 => k6 v58 x57)) (fun (j46 : Int64 → Option (Int64)) => if v52 = 0 then j46 x40 else bd_ (f_Plan_isNameCharacter v52) (fun u59 => if ¬ u59 = 0 then lt_ (x40 <<< ((8 : Int32).toInt64 &&& 63)) (fun v60 => lt_ (v52.toInt64) (fun v61 => lt_ (v60 ||| v61) (fun v62 => j46 v62))) else some (0))))))
def f_Plan_nameIn (N : Nat) (a1 : Int64) : Option (Int64) :=
  lp_ (fun _ _ => none) (f_Plan_nameIn_L6 a1) N 56 0
def rm_Plan_nameIn : Room := { frames := 1, cells := 0, slots := 0, locals := 20 }
set_option maxHeartbeats 4000000 in
set_option maxRecDepth 100000 in
theorem c_Plan_nameIn (l : Launch) (g : GT) (E : (Nat → Prop) → State → Prop) (hEe : Ee E) (a1 : Int64) (N : Nat) (z : Int64) (hf : f_Plan_nameIn N a1 = some z) : Cg l g E y_Plan_nameIn ws_Plan_nameIn rm_Plan_nameIn [.long a1] (wd_Plan_nameIn g) (some (.long z)) (wd_Plan_nameIn g) := by
  refine Ct.ofL hEe good_W (by decide) rfl (Nat.le_of_ble_eq_true rfl) ?_
  intro p e s m args below meth c A ls Q hC hw hl hret
  have hC : CX p m c b_Plan_nameIn 6 s args Wall R_Plan g.1 classes (tK g) E A := hC
  have hl : lv_has ls 6 [(0, .long a1)] := hl
  unfold f_Plan_nameIn at hf
  refine n_lconst hC 0 d_Plan_nameIn_0 (by decide) ?_
  refine n_lstore_n hC [(2, .long 0), (0, .long a1)] hl d_Plan_nameIn_1 rfl (by decide) rfl (fun ls hl => ?_)
  refine n_bipush hC 56 d_Plan_nameIn_2 (by decide) ?_
  refine n_istore hC [(4, .int 56), (2, .long 0), (0, .long a1)] hl d_Plan_nameIn_4 (by decide) rfl (fun ls hl => ?_)
  have hL6 := lw2 (B := f_Plan_nameIn_L6 a1) (z := z) (fun (x39 : Int32) (x40 : Int64) => ∀ (H : Heap) (locs : List Loc) (ls : Array Slot), WS g.1 classes A s.heap H locs (wd_Plan_nameIn g) → lv_has ls 6 [(4, .int x39), (2, .long x40), (0, .long a1)] → W p l e rm_Plan_nameIn s m args below meth c H locs 0 0 Q (F0 m 6 ls [])) (by
    intro k6 hk6 x39 x40 hf H locs ls hw hl
    unfold f_Plan_nameIn_L6 at hf
    refine n_iload hC hl 0 d_Plan_nameIn_6 rfl ?_
    refine n_if_lt hC hf 52 d_Plan_nameIn_8 (by decide) (fun hf => ?_) (fun hf => ?_)
    · refine n_lload_n hC hl 1 d_Plan_nameIn_52 rfl rfl ?_
      cases hf
      exact hret _ _ _ _ hw d_Plan_nameIn_53
    · refine n_lload_n hC hl 2 d_Plan_nameIn_11 rfl rfl ?_
      refine n_iload hC hl 0 d_Plan_nameIn_12 rfl ?_
      refine n_lushr hC hf d_Plan_nameIn_14 (fun v50 hf => ?_)
      refine n_l2i hC hf d_Plan_nameIn_15 (fun v51 hf => ?_)
      refine n_sipush hC 255 d_Plan_nameIn_16 (by decide) ?_
      refine n_iand hC hf d_Plan_nameIn_19 (fun v52 hf => ?_)
      refine n_istore hC [(5, .int v52), (4, .int x39), (2, .long x40), (0, .long a1)] hl d_Plan_nameIn_20 (by decide) rfl (fun ls hl => ?_)
      refine n_iload hC hl 0 d_Plan_nameIn_22 rfl ?_
      refine jn1 (fun (x57 : Int64) => ∀ (H : Heap) (locs : List Loc) (ls : Array Slot), WS g.1 classes A s.heap H locs (wd_Plan_nameIn g) → lv_has ls 6 [(4, .int x39), (2, .long x57), (0, .long a1)] → W p l e rm_Plan_nameIn s m args below meth c H locs 0 0 Q (F0 m 46 ls [])) hf (fun x57 hf H locs ls hw hl => ?_) (fun j46 hj46 hf => ?_)
      · refine n_iinc hC (k := 0) hf (by decide) (fun v58 => [(4, .int v58), (2, .long x57), (0, .long a1)]) hl d_Plan_nameIn_46 rfl (by decide) (fun _ => rfl) (fun v58 ls hf hl => ?_)
        refine n_goto hC 6 d_Plan_nameIn_49 (by decide) ?_
        exact hk6 _ _ hf _ _ _ hw (lv_sub hl [0, 1, 2] rfl)
      refine n_if_eq hC hf 46 d_Plan_nameIn_24 (by decide) (fun hf => ?_) (fun hf => ?_)
      · exact hj46 _ hf _ _ _ hw (lv_sub hl [1, 2, 3] rfl)
      · refine n_iload hC hl 0 d_Plan_nameIn_27 rfl ?_
        obtain ⟨u59, hu59, hf⟩ := bd_s hf
        refine n_callSi hC hw fc_Plan_57 (c_Plan_isNameCharacter l g E hEe v52 u59 hu59) [] (wd_Plan_nameIn g) ⟨rfl, rfl⟩ ⟨Nat.le_of_ble_eq_true rfl, Nat.le_of_ble_eq_true rfl⟩ rfl At_.nil At_.nil Sm_.refl rfl hl.1 (Nat.le_of_ble_eq_true rfl) ⟨Nat.zero_le _, Nat.zero_le _⟩ d_Plan_nameIn_29 (fun H locs hw => ?_) rfl
        refine n_if_ne hC hf 37 d_Plan_nameIn_32 (by decide) (fun hf => ?_) (fun hf => ?_)
        · refine n_lload_n hC hl 2 d_Plan_nameIn_37 rfl rfl ?_
          refine n_bipush hC 8 d_Plan_nameIn_38 (by decide) ?_
          refine n_lshl hC hf d_Plan_nameIn_40 (fun v60 hf => ?_)
          refine n_iload hC hl 0 d_Plan_nameIn_41 rfl ?_
          refine n_i2l hC hf d_Plan_nameIn_43 (fun v61 hf => ?_)
          refine n_lor hC hf d_Plan_nameIn_44 (fun v62 hf => ?_)
          refine n_lstore_n hC [(2, .long v62), (5, .int v52), (4, .int x39), (0, .long a1)] hl d_Plan_nameIn_45 rfl (by decide) rfl (fun ls hl => ?_)
          exact hj46 _ hf _ _ _ hw (lv_sub hl [2, 0, 3] rfl)
        · refine n_lconst hC 0 d_Plan_nameIn_35 (by decide) ?_
          cases hf
          exact hret _ _ _ _ hw d_Plan_nameIn_36
    )
  exact hL6 N _ _ hf _ _ _ hw (lv_sub hl [0, 1, 2] rfl)
def wd_Plan_fileNamed (g : GT) (t_o : Nat) (t_names_a : Nat) (t_sorts_a : Nat) (t_starts_a : Nat) (t_lengths_a : Nat) (t_sizes_a : Nat) (t_seeds_a : Nat) (t_scattered_a : Nat) (t_lastUsable : Int32) (t_partitions : Int32) (t_files : Int32) (t_kernelAddress : Int32) (t_names : Nat → Int64) : va_W := [(t_o, .inr (2, [.int t_lastUsable, .ref t_sorts_a, .ref t_starts_a, .ref t_lengths_a, .int t_partitions, .ref t_names_a, .ref t_sizes_a, .ref t_seeds_a, .ref t_scattered_a, .int t_files, .int t_kernelAddress])), (t_names_a, .inl (g.2.2.1, 12, .inr (.inl t_names)))]
def f_Plan_fileNamed_L2 (t_files : Int32) (t_names : Nat → Int64) (a1 : Int64) (k2 : Int32 → Option (Int32)) (x14 : Int32) : Option (Int32) :=
  if t_files ≤ x14 then some ((-1)) else ix_ 12 t_names x14 (fun (v18 : Int64) => lt_ (lg_cmp v18 a1) (fun v19 => if ¬ v19 = 0 then lt_ (x14 + 1) (fun v20 => k2 v20) else some (x14)))
def f_Plan_fileNamed (N : Nat) (t_files : Int32) (t_names : Nat → Int64) (a1 : Int64) : Option (Int32) :=
  lp_ (fun _ => none) (f_Plan_fileNamed_L2 t_files t_names a1) N 0
def rm_Plan_fileNamed : Room := { frames := 0, cells := 0, slots := 0, locals := 0 }
set_option maxHeartbeats 4000000 in
set_option maxRecDepth 100000 in
theorem c_Plan_fileNamed (l : Launch) (g : GT) (E : (Nat → Prop) → State → Prop) (hEe : Ee E) (t_o : Nat) (t_names_a : Nat) (t_sorts_a : Nat) (t_starts_a : Nat) (t_lengths_a : Nat) (t_sizes_a : Nat) (t_seeds_a : Nat) (t_scattered_a : Nat) (t_lastUsable : Int32) (t_partitions : Int32) (t_files : Int32) (t_kernelAddress : Int32) (t_names : Nat → Int64) (a1 : Int64) (N : Nat) (z : Int32) (hf : f_Plan_fileNamed N t_files t_names a1 = some z) : Cg l g E y_Plan_fileNamed ws_Plan_fileNamed rm_Plan_fileNamed [.ref t_o, .long a1] (wd_Plan_fileNamed g t_o t_names_a t_sorts_a t_starts_a t_lengths_a t_sizes_a t_seeds_a t_scattered_a t_lastUsable t_partitions t_files t_kernelAddress t_names) (some (.int z)) (wd_Plan_fileNamed g t_o t_names_a t_sorts_a t_starts_a t_lengths_a t_sizes_a t_seeds_a t_scattered_a t_lastUsable t_partitions t_files t_kernelAddress t_names) := by
  refine Ct.ofI hEe good_W (by decide) rfl (Nat.le_of_ble_eq_true rfl) ?_
  intro p e s m args below meth c A ls Q hC hw hl hret
  have hC : CX p m c b_Plan_fileNamed 4 s args Wall R_Plan g.1 classes (tK g) E A := hC
  have hl : lv_has ls 4 [(0, .ref t_o), (1, .long a1)] := hl
  unfold f_Plan_fileNamed at hf
  refine n_iconst hC 0 d_Plan_fileNamed_0 (by decide) ?_
  refine n_istore_n hC [(3, .int 0), (0, .ref t_o), (1, .long a1)] hl d_Plan_fileNamed_1 rfl (by decide) rfl (fun ls hl => ?_)
  have hL2 := lw1 (B := f_Plan_fileNamed_L2 t_files t_names a1) (z := z) (fun (x14 : Int32) => ∀ (H : Heap) (locs : List Loc) (ls : Array Slot), WS g.1 classes A s.heap H locs (wd_Plan_fileNamed g t_o t_names_a t_sorts_a t_starts_a t_lengths_a t_sizes_a t_seeds_a t_scattered_a t_lastUsable t_partitions t_files t_kernelAddress t_names) → lv_has ls 4 [(3, .int x14), (0, .ref t_o), (1, .long a1)] → W p l e rm_Plan_fileNamed s m args below meth c H locs 0 0 Q (F0 m 2 ls [])) (by
    intro k2 hk2 x14 hf H locs ls hw hl
    unfold f_Plan_fileNamed_L2 at hf
    refine n_iload_n hC hl 0 d_Plan_fileNamed_2 rfl rfl ?_
    refine n_aload_n hC hl 1 d_Plan_fileNamed_3 rfl rfl ?_
    refine n_get hC hw fg_Plan_54 0 rfl rfl d_Plan_fileNamed_4 ?_
    refine n_icmp_ge hC hf 29 d_Plan_fileNamed_7 (by decide) (fun hf => ?_) (fun hf => ?_)
    · refine n_iconst hC (-1) d_Plan_fileNamed_29 (by decide) ?_
      cases hf
      exact hret _ _ _ _ hw rfl d_Plan_fileNamed_30
    · refine n_aload_n hC hl 1 d_Plan_fileNamed_10 rfl rfl ?_
      refine n_get hC hw fg_Plan_21 0 rfl rfl d_Plan_fileNamed_11 ?_
      refine n_iload_n hC hl 0 d_Plan_fileNamed_14 rfl rfl ?_
      refine n_lald hC hw hf 1 1 rfl rfl d_Plan_fileNamed_15 (fun v18 hf => ?_)
      refine n_lload_n hC hl 2 d_Plan_fileNamed_16 rfl rfl ?_
      refine n_lcmp hC hf d_Plan_fileNamed_17 (fun v19 hf => ?_)
      refine n_if_ne hC hf 23 d_Plan_fileNamed_18 (by decide) (fun hf => ?_) (fun hf => ?_)
      · refine n_iinc hC (k := 0) hf (by decide) (fun v20 => [(3, .int v20), (0, .ref t_o), (1, .long a1)]) hl d_Plan_fileNamed_23 rfl (by decide) (fun _ => rfl) (fun v20 ls hf hl => ?_)
        refine n_goto hC 2 d_Plan_fileNamed_26 (by decide) ?_
        exact hk2 _ hf _ _ _ hw (lv_sub hl [0, 1, 2] rfl)
      · refine n_iload_n hC hl 0 d_Plan_fileNamed_21 rfl rfl ?_
        cases hf
        exact hret _ _ _ _ hw rfl d_Plan_fileNamed_22
    )
  exact hL2 N _ hf _ _ _ hw (lv_sub hl [0, 1, 2] rfl)
def wd_Plan_addFile (g : GT) (t_o : Nat) (t_names_a : Nat) (t_sizes_a : Nat) (t_seeds_a : Nat) (t_scattered_a : Nat) (t_sorts_a : Nat) (t_starts_a : Nat) (t_lengths_a : Nat) (t_lastUsable : Int32) (t_partitions : Int32) (t_files : Int32) (t_kernelAddress : Int32) (t_names : Nat → Int64) (t_sizes : Nat → Int32) (t_seeds : Nat → Int32) (t_scattered : Nat → Int32) : va_W := [(t_o, .inr (2, [.int t_lastUsable, .ref t_sorts_a, .ref t_starts_a, .ref t_lengths_a, .int t_partitions, .ref t_names_a, .ref t_sizes_a, .ref t_seeds_a, .ref t_scattered_a, .int t_files, .int t_kernelAddress])), (t_names_a, .inl (g.2.2.1, 12, .inr (.inl t_names))), (t_sizes_a, .inl (g.2.1, 12, .inl t_sizes)), (t_seeds_a, .inl (g.2.1, 12, .inl t_seeds)), (t_scattered_a, .inl (g.2.2.2.1, 12, .inl t_scattered))]
def f_Plan_addFile (N : Nat) (a1 : Int64) (t_files : Int32) (t_names : Nat → Int64) (t_sizes : Nat → Int32) (t_seeds : Nat → Int32) (t_scattered : Nat → Int32) (a2 : Int32) (a3 : Int32) (a4 : Int32) : Option (Int32 × Int32 × (Nat → Int64) × (Nat → Int32) × (Nat → Int32) × (Nat → Int32)) :=
  bd_ (f_Plan_nameIn N a1) (fun u9 => lt_ (lg_cmp u9 0) (fun v10 => if v10 = 0 then some ((-2), t_files, t_names, t_sizes, t_seeds, t_scattered) else if a2 < 0 then some ((-2), t_files, t_names, t_sizes, t_seeds, t_scattered) else if (9000 : Int32) < a2 then some ((-2), t_files, t_names, t_sizes, t_seeds, t_scattered) else if a3 < 0 then some ((-2), t_files, t_names, t_sizes, t_seeds, t_scattered) else if a3 ≤ (255 : Int32) then bd_ (f_Plan_fileNamed N t_files t_names u9) (fun u11 => if u11 = ((-1) : Int32) then if t_files < (12 : Int32) then up_l 12 t_names t_files u9 (fun (f12 : Nat → Int64) => up_i 12 t_sizes t_files a2 (fun (f13 : Nat → Int32) => up_i 12 t_seeds t_files a3 (fun (f14 : Nat → Int32) => up_z 12 t_scattered t_files a4 (fun (f15 : Nat → Int32) => lt_ (t_files + 1) (fun v16 => some (t_files, v16, f12, f13, f14, f15)))))) else some ((-3), t_files, t_names, t_sizes, t_seeds, t_scattered) else some ((-4), t_files, t_names, t_sizes, t_seeds, t_scattered)) else some ((-2), t_files, t_names, t_sizes, t_seeds, t_scattered)))
def rm_Plan_addFile : Room := { frames := 2, cells := 0, slots := 0, locals := 45 }
set_option maxHeartbeats 4000000 in
set_option maxRecDepth 100000 in
theorem c_Plan_addFile (l : Launch) (g : GT) (E : (Nat → Prop) → State → Prop) (hEe : Ee E) (t_o : Nat) (t_names_a : Nat) (t_sizes_a : Nat) (t_seeds_a : Nat) (t_scattered_a : Nat) (t_sorts_a : Nat) (t_starts_a : Nat) (t_lengths_a : Nat) (t_lastUsable : Int32) (t_partitions : Int32) (t_files : Int32) (t_kernelAddress : Int32) (t_names : Nat → Int64) (t_sizes : Nat → Int32) (t_seeds : Nat → Int32) (t_scattered : Nat → Int32) (a1 : Int64) (a2 : Int32) (a3 : Int32) (a4 : Int32) (N : Nat) (z : Int32 × Int32 × (Nat → Int64) × (Nat → Int32) × (Nat → Int32) × (Nat → Int32)) (hf : f_Plan_addFile N a1 t_files t_names t_sizes t_seeds t_scattered a2 a3 a4 = some z) : Cg l g E y_Plan_addFile ws_Plan_addFile rm_Plan_addFile [.ref t_o, .long a1, .int a2, .int a3, .int a4] (wd_Plan_addFile g t_o t_names_a t_sizes_a t_seeds_a t_scattered_a t_sorts_a t_starts_a t_lengths_a t_lastUsable t_partitions t_files t_kernelAddress t_names t_sizes t_seeds t_scattered) (some (.int z.1)) (wd_Plan_addFile g t_o t_names_a t_sizes_a t_seeds_a t_scattered_a t_sorts_a t_starts_a t_lengths_a t_lastUsable t_partitions z.2.1 t_kernelAddress z.2.2.1 z.2.2.2.1 z.2.2.2.2.1 z.2.2.2.2.2) := by
  refine Ct.ofI hEe good_W (by decide) rfl (Nat.le_of_ble_eq_true rfl) ?_
  intro p e s m args below meth c A ls Q hC hw hl hret
  have hC : CX p m c b_Plan_addFile 8 s args Wall R_Plan g.1 classes (tK g) E A := hC
  have hl : lv_has ls 8 [(0, .ref t_o), (1, .long a1), (3, .int a2), (4, .int a3), (5, .int a4)] := hl
  unfold f_Plan_addFile at hf
  refine n_lload_n hC hl 1 d_Plan_addFile_0 rfl rfl ?_
  obtain ⟨u9, hu9, hf⟩ := bd_s hf
  refine n_callSl hC hw fc_Plan_46 (c_Plan_nameIn l g E hEe a1 N u9 hu9) [] (wd_Plan_addFile g t_o t_names_a t_sizes_a t_seeds_a t_scattered_a t_sorts_a t_starts_a t_lengths_a t_lastUsable t_partitions t_files t_kernelAddress t_names t_sizes t_seeds t_scattered) ⟨rfl, rfl⟩ ⟨Nat.le_of_ble_eq_true rfl, Nat.le_of_ble_eq_true rfl⟩ rfl At_.nil At_.nil Sm_.refl rfl hl.1 (Nat.le_of_ble_eq_true rfl) ⟨Nat.zero_le _, Nat.zero_le _⟩ d_Plan_addFile_1 (fun H locs hw => ?_) rfl
  refine n_lstore hC [(6, .long u9), (0, .ref t_o), (1, .long a1), (3, .int a2), (4, .int a3), (5, .int a4)] hl d_Plan_addFile_4 (by decide) rfl (fun ls hl => ?_)
  refine n_lload hC hl 0 d_Plan_addFile_6 rfl ?_
  refine n_lconst hC 0 d_Plan_addFile_8 (by decide) ?_
  refine n_lcmp hC hf d_Plan_addFile_9 (fun v10 hf => ?_)
  refine n_if_eq hC hf 37 d_Plan_addFile_10 (by decide) (fun hf => ?_) (fun hf => ?_)
  · refine n_bipush hC (-2) d_Plan_addFile_37 (by decide) ?_
    cases hf
    exact hret _ _ _ _ hw (show narrow .int (Value.int (-2)) = Value.int (-2) from rfl) d_Plan_addFile_39
  · refine n_iload_n hC hl 3 d_Plan_addFile_13 rfl rfl ?_
    refine n_if_lt hC hf 37 d_Plan_addFile_14 (by decide) (fun hf => ?_) (fun hf => ?_)
    · refine n_bipush hC (-2) d_Plan_addFile_37 (by decide) ?_
      cases hf
      exact hret _ _ _ _ hw (show narrow .int (Value.int (-2)) = Value.int (-2) from rfl) d_Plan_addFile_39
    · refine n_iload_n hC hl 3 d_Plan_addFile_17 rfl rfl ?_
      refine n_sipush hC 9000 d_Plan_addFile_18 (by decide) ?_
      refine n_icmp_gt hC hf 37 d_Plan_addFile_21 (by decide) (fun hf => ?_) (fun hf => ?_)
      · refine n_bipush hC (-2) d_Plan_addFile_37 (by decide) ?_
        cases hf
        exact hret _ _ _ _ hw (show narrow .int (Value.int (-2)) = Value.int (-2) from rfl) d_Plan_addFile_39
      · refine n_iload hC hl 4 d_Plan_addFile_24 rfl ?_
        refine n_if_lt hC hf 37 d_Plan_addFile_26 (by decide) (fun hf => ?_) (fun hf => ?_)
        · refine n_bipush hC (-2) d_Plan_addFile_37 (by decide) ?_
          cases hf
          exact hret _ _ _ _ hw (show narrow .int (Value.int (-2)) = Value.int (-2) from rfl) d_Plan_addFile_39
        · refine n_iload hC hl 4 d_Plan_addFile_29 rfl ?_
          refine n_sipush hC 255 d_Plan_addFile_31 (by decide) ?_
          refine n_icmp_le hC hf 40 d_Plan_addFile_34 (by decide) (fun hf => ?_) (fun hf => ?_)
          · refine n_aload_n hC hl 1 d_Plan_addFile_40 rfl rfl ?_
            refine n_lload hC hl 0 d_Plan_addFile_41 rfl ?_
            obtain ⟨u11, hu11, hf⟩ := bd_s hf
            refine n_callVi hC hw fc_Plan_50 (c_Plan_fileNamed l g E hEe t_o t_names_a t_sorts_a t_starts_a t_lengths_a t_sizes_a t_seeds_a t_scattered_a t_lastUsable t_partitions t_files t_kernelAddress t_names u9 N u11 hu11) [0, 1] (wd_Plan_addFile g t_o t_names_a t_sizes_a t_seeds_a t_scattered_a t_sorts_a t_starts_a t_lengths_a t_lastUsable t_partitions t_files t_kernelAddress t_names t_sizes t_seeds t_scattered) 0 rfl ⟨rfl, rfl⟩ ⟨Nat.le_of_ble_eq_true rfl, Nat.le_of_ble_eq_true rfl⟩ rfl (At_.cons rfl (At_.cons rfl At_.nil)) (At_.cons rfl (At_.cons rfl At_.nil)) Sm_.refl rfl hl.1 (Nat.le_of_ble_eq_true rfl) ⟨Nat.zero_le _, Nat.zero_le _⟩ d_Plan_addFile_43 (fun H locs hw => ?_) rfl
            refine n_iconst hC (-1) d_Plan_addFile_46 (by decide) ?_
            refine n_icmp_eq hC hf 53 d_Plan_addFile_47 (by decide) (fun hf => ?_) (fun hf => ?_)
            · refine n_aload_n hC hl 1 d_Plan_addFile_53 rfl rfl ?_
              refine n_get hC hw fg_Plan_54 0 rfl rfl d_Plan_addFile_54 ?_
              refine n_bipush hC 12 d_Plan_addFile_57 (by decide) ?_
              refine n_icmp_lt hC hf 65 d_Plan_addFile_59 (by decide) (fun hf => ?_) (fun hf => ?_)
              · refine n_aload_n hC hl 1 d_Plan_addFile_65 rfl rfl ?_
                refine n_get hC hw fg_Plan_21 0 rfl rfl d_Plan_addFile_66 ?_
                refine n_aload_n hC hl 1 d_Plan_addFile_69 rfl rfl ?_
                refine n_get hC hw fg_Plan_54 0 rfl rfl d_Plan_addFile_70 ?_
                refine n_lload hC hl 0 d_Plan_addFile_73 rfl ?_
                refine n_last hC hw hf 1 1 (fun f12 => wd_Plan_addFile g t_o t_names_a t_sizes_a t_seeds_a t_scattered_a t_sorts_a t_starts_a t_lengths_a t_lastUsable t_partitions t_files t_kernelAddress f12 t_sizes t_seeds t_scattered) rfl rfl d_Plan_addFile_75 (fun _ => rfl) (fun f12 H locs hf hw => ?_)
                refine n_aload_n hC hl 1 d_Plan_addFile_76 rfl rfl ?_
                refine n_get hC hw fg_Plan_25 0 rfl rfl d_Plan_addFile_77 ?_
                refine n_aload_n hC hl 1 d_Plan_addFile_80 rfl rfl ?_
                refine n_get hC hw fg_Plan_54 0 rfl rfl d_Plan_addFile_81 ?_
                refine n_iload_n hC hl 3 d_Plan_addFile_84 rfl rfl ?_
                refine n_iast hC hw hf 2 0 (fun f13 => wd_Plan_addFile g t_o t_names_a t_sizes_a t_seeds_a t_scattered_a t_sorts_a t_starts_a t_lengths_a t_lastUsable t_partitions t_files t_kernelAddress f12 f13 t_seeds t_scattered) rfl rfl d_Plan_addFile_85 (fun _ => rfl) (fun f13 H locs hf hw => ?_)
                refine n_aload_n hC hl 1 d_Plan_addFile_86 rfl rfl ?_
                refine n_get hC hw fg_Plan_28 0 rfl rfl d_Plan_addFile_87 ?_
                refine n_aload_n hC hl 1 d_Plan_addFile_90 rfl rfl ?_
                refine n_get hC hw fg_Plan_54 0 rfl rfl d_Plan_addFile_91 ?_
                refine n_iload hC hl 4 d_Plan_addFile_94 rfl ?_
                refine n_iast hC hw hf 3 0 (fun f14 => wd_Plan_addFile g t_o t_names_a t_sizes_a t_seeds_a t_scattered_a t_sorts_a t_starts_a t_lengths_a t_lastUsable t_partitions t_files t_kernelAddress f12 f13 f14 t_scattered) rfl rfl d_Plan_addFile_96 (fun _ => rfl) (fun f14 H locs hf hw => ?_)
                refine n_aload_n hC hl 1 d_Plan_addFile_97 rfl rfl ?_
                refine n_get hC hw fg_Plan_31 0 rfl rfl d_Plan_addFile_98 ?_
                refine n_aload_n hC hl 1 d_Plan_addFile_101 rfl rfl ?_
                refine n_get hC hw fg_Plan_54 0 rfl rfl d_Plan_addFile_102 ?_
                refine n_iload hC hl 5 d_Plan_addFile_105 rfl ?_
                refine n_zast hC hw hf 4 2 (fun f15 => wd_Plan_addFile g t_o t_names_a t_sizes_a t_seeds_a t_scattered_a t_sorts_a t_starts_a t_lengths_a t_lastUsable t_partitions t_files t_kernelAddress f12 f13 f14 f15) rfl rfl d_Plan_addFile_107 (fun _ => rfl) (fun f15 H locs hf hw => ?_)
                refine n_aload_n hC hl 1 d_Plan_addFile_108 rfl rfl ?_
                refine n_dup hC d_Plan_addFile_109 rfl ?_
                refine n_get hC hw fg_Plan_54 0 rfl rfl d_Plan_addFile_110 ?_
                refine n_dup_x1 hC d_Plan_addFile_113 rfl rfl ?_
                refine n_iconst hC 1 d_Plan_addFile_114 (by decide) ?_
                refine n_iadd hC hf d_Plan_addFile_115 (fun v16 hf => ?_)
                refine n_put hC hw fp_Plan_54 0 (wd_Plan_addFile g t_o t_names_a t_sizes_a t_seeds_a t_scattered_a t_sorts_a t_starts_a t_lengths_a t_lastUsable t_partitions v16 t_kernelAddress f12 f13 f14 f15) rfl rfl rfl (Nat.le_of_ble_eq_true rfl) d_Plan_addFile_116 rfl (fun H locs hw => ?_)
                cases hf
                exact hret _ _ _ _ hw (show narrow .int (Value.int t_files) = Value.int t_files from rfl) d_Plan_addFile_119
              · refine n_bipush hC (-3) d_Plan_addFile_62 (by decide) ?_
                cases hf
                exact hret _ _ _ _ hw (show narrow .int (Value.int (-3)) = Value.int (-3) from rfl) d_Plan_addFile_64
            · refine n_bipush hC (-4) d_Plan_addFile_50 (by decide) ?_
              cases hf
              exact hret _ _ _ _ hw (show narrow .int (Value.int (-4)) = Value.int (-4) from rfl) d_Plan_addFile_52
          · refine n_bipush hC (-2) d_Plan_addFile_37 (by decide) ?_
            cases hf
            exact hret _ _ _ _ hw (show narrow .int (Value.int (-2)) = Value.int (-2) from rfl) d_Plan_addFile_39
def wd_Plan_headByte (g : GT)  : va_W := []
def f_Plan_headByte (a3 : Int32) (a2 : Int32) (q1_n : Nat) (q1_f : Nat → Int32) : Option (Int32) :=
  lt_ (lt_ (a3 - 4) (fun v13 => lt_ ((8 : Int32) * v13) (fun v14 => lt_ ((a2.toUInt32 >>> (v14.toUInt32 &&& Int32.toUInt32 31)).toInt32) (fun v15 => lt_ (v15 &&& 255) (fun v16 => some (v16)))))) (fun (j20 : Option (Int32)) => if a3 < 0 then j20 else bd_ (f_String_length q1_n) (fun u17 => if u17 ≤ a3 then j20 else bd_ (f_String_charAt a3 q1_n q1_f) (fun u18 => some (u18))))
def rm_Plan_headByte : Room := { frames := 4, cells := 0, slots := 0, locals := 85 }
set_option maxHeartbeats 4000000 in
set_option maxRecDepth 100000 in
theorem c_Plan_headByte (l : Launch) (g : GT) (E : (Nat → Prop) → State → Prop) (hEe : Ee E) (q1_a q1_v q1_n : Nat) (q1_f : Nat → Int32) (hq1 : ∀ (A : Nat → Prop) (u : State), E A u → StrAt q1_a q1_v q1_n q1_f A u) (a2 : Int32) (a3 : Int32) (z : Int32) (hf : f_Plan_headByte a3 a2 q1_n q1_f = some z) : Cg l g E y_Plan_headByte ws_Plan_headByte rm_Plan_headByte [.ref q1_a, .int a2, .int a3] (wd_Plan_headByte g) (some (.int z)) (wd_Plan_headByte g) := by
  refine Ct.ofI hEe good_W (by decide) rfl (Nat.le_of_ble_eq_true rfl) ?_
  intro p e s m args below meth c A ls Q hC hw hl hret
  have hC : CX p m c b_Plan_headByte 3 s args Wall R_Plan g.1 classes (tK g) E A := hC
  have hl : lv_has ls 3 [(0, .ref q1_a), (1, .int a2), (2, .int a3)] := hl
  unfold f_Plan_headByte at hf
  refine n_iload_n hC hl 2 d_Plan_headByte_0 rfl rfl ?_
  refine jn0 (∀ (H : Heap) (locs : List Loc) (ls : Array Slot), WS g.1 classes A s.heap H locs (wd_Plan_headByte g) → lv_has ls 3 [(1, .int a2), (2, .int a3)] → W p l e rm_Plan_headByte s m args below meth c H locs 0 0 Q (F0 m 20 ls [])) hf (fun hf H locs ls hw hl => ?_) (fun j20 hj20 hf => ?_)
  · refine n_iload_n hC hl 0 d_Plan_headByte_20 rfl rfl ?_
    refine n_bipush hC 8 d_Plan_headByte_21 (by decide) ?_
    refine n_iload_n hC hl 1 d_Plan_headByte_23 rfl rfl ?_
    refine n_iconst hC 4 d_Plan_headByte_24 (by decide) ?_
    refine n_isub hC hf d_Plan_headByte_25 (fun v13 hf => ?_)
    refine n_imul hC hf d_Plan_headByte_26 (fun v14 hf => ?_)
    refine n_iushr hC hf d_Plan_headByte_27 (fun v15 hf => ?_)
    refine n_sipush hC 255 d_Plan_headByte_28 (by decide) ?_
    refine n_iand hC hf d_Plan_headByte_31 (fun v16 hf => ?_)
    cases hf
    exact hret _ _ _ _ hw rfl d_Plan_headByte_32
  refine n_if_lt hC hf 20 d_Plan_headByte_1 (by decide) (fun hf => ?_) (fun hf => ?_)
  · exact hj20 hf _ _ _ hw (lv_sub hl [1, 2] rfl)
  · refine n_iload_n hC hl 2 d_Plan_headByte_4 rfl rfl ?_
    refine n_aload_n hC hl 0 d_Plan_headByte_5 rfl rfl ?_
    obtain ⟨u17, hu17, hf⟩ := bd_s hf
    refine n_callOi hC hw fc_Plan_76 (c_String_length l g E hEe q1_a q1_v q1_n q1_f hq1  u17 hu17) [] (wd_Plan_headByte g) (fun A u h => (hq1 A u h).1) ⟨rfl, rfl⟩ ⟨Nat.le_of_ble_eq_true rfl, Nat.le_of_ble_eq_true rfl⟩ rfl At_.nil At_.nil Sm_.refl rfl hl.1 (Nat.le_of_ble_eq_true rfl) ⟨Nat.zero_le _, Nat.zero_le _⟩ d_Plan_headByte_6 (fun H locs hw => ?_) rfl
    refine n_icmp_ge hC hf 20 d_Plan_headByte_9 (by decide) (fun hf => ?_) (fun hf => ?_)
    · exact hj20 hf _ _ _ hw (lv_sub hl [1, 2] rfl)
    · refine n_aload_n hC hl 0 d_Plan_headByte_12 rfl rfl ?_
      refine n_iload_n hC hl 2 d_Plan_headByte_13 rfl rfl ?_
      obtain ⟨u18, hu18, hf⟩ := bd_s hf
      refine n_callOi hC hw fc_Plan_81 (c_String_charAt l g E hEe q1_a q1_v q1_n q1_f hq1 a3 u18 hu18) [] (wd_Plan_headByte g) (fun A u h => (hq1 A u h).1) ⟨rfl, rfl⟩ ⟨Nat.le_of_ble_eq_true rfl, Nat.le_of_ble_eq_true rfl⟩ rfl At_.nil At_.nil Sm_.refl rfl hl.1 (Nat.le_of_ble_eq_true rfl) ⟨Nat.zero_le _, Nat.zero_le _⟩ d_Plan_headByte_14 (fun H locs hw => ?_) rfl
      refine n_goto hC 32 d_Plan_headByte_17 (by decide) ?_
      cases hf
      exact hret _ _ _ _ hw rfl d_Plan_headByte_32
def wd_Plan_fileByte (g : GT) (t_o : Nat) (t_names_a : Nat) (t_sizes_a : Nat) (t_seeds_a : Nat) (t_sorts_a : Nat) (t_starts_a : Nat) (t_lengths_a : Nat) (t_scattered_a : Nat) (t_lastUsable : Int32) (t_partitions : Int32) (t_files : Int32) (t_kernelAddress : Int32) (t_names : Nat → Int64) (t_sizes : Nat → Int32) (t_seeds : Nat → Int32) : va_W := [(t_o, .inr (2, [.int t_lastUsable, .ref t_sorts_a, .ref t_starts_a, .ref t_lengths_a, .int t_partitions, .ref t_names_a, .ref t_sizes_a, .ref t_seeds_a, .ref t_scattered_a, .int t_files, .int t_kernelAddress])), (t_names_a, .inl (g.2.2.1, 12, .inr (.inl t_names))), (t_sizes_a, .inl (g.2.1, 12, .inl t_sizes)), (t_seeds_a, .inl (g.2.1, 12, .inl t_seeds))]
def f_Plan_fileByte (t_seeds : Nat → Int32) (a1 : Int32) (a2 : Int32) (t_sizes : Nat → Int32) (t_names : Nat → Int64) (a3 : Int32) (t_kernelAddress : Int32) : Option (Int32) :=
  lt_ (ix_ 12 t_seeds a1 (fun (v33 : Int32) => lt_ ((7 : Int32) * a2) (fun v34 => lt_ (v33 + v34) (fun v35 => lt_ (a2 / 200) (fun v36 => lt_ (v35 + v36) (fun v37 => lt_ (v37 &&& 255) (fun v38 => some (v38)))))))) (fun (j62 : Option (Int32)) => if (8 : Int32) ≤ a2 then j62 else ix_ 12 t_sizes a1 (fun (v39 : Int32) => if v39 < (8 : Int32) then j62 else ix_ 12 t_names a1 (fun (v40 : Int64) => lt_ (lg_cmp v40 82761105687884) (fun v41 => if ¬ v41 = 0 then ix_ 12 t_names a1 (fun (v42 : Int64) => lt_ (lg_cmp v42 83903281120594) (fun v43 => if ¬ v43 = 0 then j62 else bd_ (f_Plan_headByte a2 a3 4 (sByt 1)) (fun u44 => some (u44)))) else bd_ (f_Plan_headByte a2 t_kernelAddress 4 (sByt 0)) (fun u45 => some (u45))))))
def rm_Plan_fileByte : Room := { frames := 5, cells := 0, slots := 0, locals := 107 }
set_option maxHeartbeats 4000000 in
set_option maxRecDepth 100000 in
theorem c_Plan_fileByte (l : Launch) (g : GT) (E : (Nat → Prop) → State → Prop) (hEe : Ee E) (X : XT) (hS : ∀ (A : Nat → Prop) (u : State), E A u → SS X A u) (t_o : Nat) (t_names_a : Nat) (t_sizes_a : Nat) (t_seeds_a : Nat) (t_sorts_a : Nat) (t_starts_a : Nat) (t_lengths_a : Nat) (t_scattered_a : Nat) (t_lastUsable : Int32) (t_partitions : Int32) (t_files : Int32) (t_kernelAddress : Int32) (t_names : Nat → Int64) (t_sizes : Nat → Int32) (t_seeds : Nat → Int32) (a1 : Int32) (a2 : Int32) (a3 : Int32) (z : Int32) (hf : f_Plan_fileByte t_seeds a1 a2 t_sizes t_names a3 t_kernelAddress = some z) : Cg l g E y_Plan_fileByte ws_Plan_fileByte rm_Plan_fileByte [.ref t_o, .int a1, .int a2, .int a3] (wd_Plan_fileByte g t_o t_names_a t_sizes_a t_seeds_a t_sorts_a t_starts_a t_lengths_a t_scattered_a t_lastUsable t_partitions t_files t_kernelAddress t_names t_sizes t_seeds) (some (.int z)) (wd_Plan_fileByte g t_o t_names_a t_sizes_a t_seeds_a t_sorts_a t_starts_a t_lengths_a t_scattered_a t_lastUsable t_partitions t_files t_kernelAddress t_names t_sizes t_seeds) := by
  refine Ct.ofI hEe good_W (by decide) rfl (Nat.le_of_ble_eq_true rfl) ?_
  intro p e s m args below meth c A ls Q hC hw hl hret
  have hC : CX p m c b_Plan_fileByte 4 s args Wall R_Plan g.1 classes (tK g) E A := hC
  have hl : lv_has ls 4 [(0, .ref t_o), (1, .int a1), (2, .int a2), (3, .int a3)] := hl
  unfold f_Plan_fileByte at hf
  refine n_iload_n hC hl 2 d_Plan_fileByte_0 rfl rfl ?_
  refine n_bipush hC 8 d_Plan_fileByte_1 (by decide) ?_
  refine jn0 (∀ (H : Heap) (locs : List Loc) (ls : Array Slot), WS g.1 classes A s.heap H locs (wd_Plan_fileByte g t_o t_names_a t_sizes_a t_seeds_a t_sorts_a t_starts_a t_lengths_a t_scattered_a t_lastUsable t_partitions t_files t_kernelAddress t_names t_sizes t_seeds) → lv_has ls 4 [(0, .ref t_o), (1, .int a1), (2, .int a2)] → W p l e rm_Plan_fileByte s m args below meth c H locs 0 0 Q (F0 m 62 ls [])) hf (fun hf H locs ls hw hl => ?_) (fun j62 hj62 hf => ?_)
  · refine n_aload_n hC hl 0 d_Plan_fileByte_62 rfl rfl ?_
    refine n_get hC hw fg_Plan_28 0 rfl rfl d_Plan_fileByte_63 ?_
    refine n_iload_n hC hl 1 d_Plan_fileByte_66 rfl rfl ?_
    refine n_iald hC hw hf 3 0 rfl rfl d_Plan_fileByte_67 (fun v33 hf => ?_)
    refine n_bipush hC 7 d_Plan_fileByte_68 (by decide) ?_
    refine n_iload_n hC hl 2 d_Plan_fileByte_70 rfl rfl ?_
    refine n_imul hC hf d_Plan_fileByte_71 (fun v34 hf => ?_)
    refine n_iadd hC hf d_Plan_fileByte_72 (fun v35 hf => ?_)
    refine n_iload_n hC hl 2 d_Plan_fileByte_73 rfl rfl ?_
    refine n_sipush hC 200 d_Plan_fileByte_74 (by decide) ?_
    refine n_idiv hC hf d_Plan_fileByte_77 (by decide) (fun v36 hf => ?_)
    refine n_iadd hC hf d_Plan_fileByte_78 (fun v37 hf => ?_)
    refine n_sipush hC 255 d_Plan_fileByte_79 (by decide) ?_
    refine n_iand hC hf d_Plan_fileByte_82 (fun v38 hf => ?_)
    cases hf
    exact hret _ _ _ _ hw rfl d_Plan_fileByte_83
  refine n_icmp_ge hC hf 62 d_Plan_fileByte_3 (by decide) (fun hf => ?_) (fun hf => ?_)
  · exact hj62 hf _ _ _ hw (lv_sub hl [0, 1, 2] rfl)
  · refine n_aload_n hC hl 0 d_Plan_fileByte_6 rfl rfl ?_
    refine n_get hC hw fg_Plan_25 0 rfl rfl d_Plan_fileByte_7 ?_
    refine n_iload_n hC hl 1 d_Plan_fileByte_10 rfl rfl ?_
    refine n_iald hC hw hf 2 0 rfl rfl d_Plan_fileByte_11 (fun v39 hf => ?_)
    refine n_bipush hC 8 d_Plan_fileByte_12 (by decide) ?_
    refine n_icmp_lt hC hf 62 d_Plan_fileByte_14 (by decide) (fun hf => ?_) (fun hf => ?_)
    · exact hj62 hf _ _ _ hw (lv_sub hl [0, 1, 2] rfl)
    · refine n_aload_n hC hl 0 d_Plan_fileByte_17 rfl rfl ?_
      refine n_get hC hw fg_Plan_21 0 rfl rfl d_Plan_fileByte_18 ?_
      refine n_iload_n hC hl 1 d_Plan_fileByte_21 rfl rfl ?_
      refine n_lald hC hw hf 1 1 rfl rfl d_Plan_fileByte_22 (fun v40 hf => ?_)
      refine n_ldc2 hC 82761105687884 kc_Plan_61 d_Plan_fileByte_23 ?_
      refine n_lcmp hC hf d_Plan_fileByte_26 (fun v41 hf => ?_)
      refine n_if_ne hC hf 41 d_Plan_fileByte_27 (by decide) (fun hf => ?_) (fun hf => ?_)
      · refine n_aload_n hC hl 0 d_Plan_fileByte_41 rfl rfl ?_
        refine n_get hC hw fg_Plan_21 0 rfl rfl d_Plan_fileByte_42 ?_
        refine n_iload_n hC hl 1 d_Plan_fileByte_45 rfl rfl ?_
        refine n_lald hC hw hf 1 1 rfl rfl d_Plan_fileByte_46 (fun v42 hf => ?_)
        refine n_ldc2 hC 83903281120594 kc_Plan_72 d_Plan_fileByte_47 ?_
        refine n_lcmp hC hf d_Plan_fileByte_50 (fun v43 hf => ?_)
        refine n_if_ne hC hf 62 d_Plan_fileByte_51 (by decide) (fun hf => ?_) (fun hf => ?_)
        · exact hj62 hf _ _ _ hw (lv_sub hl [0, 1, 2] rfl)
        · refine n_ldcS hC (fun A u h => (hS A u h).2.1 1 (by decide)) d_Plan_fileByte_54 ?_
          refine n_iload_n hC hl 3 d_Plan_fileByte_56 rfl rfl ?_
          refine n_iload_n hC hl 2 d_Plan_fileByte_57 rfl rfl ?_
          obtain ⟨u44, hu44, hf⟩ := bd_s hf
          refine n_callSi hC hw fc_Plan_68 (c_Plan_headByte l g E hEe (X.2.1 1) (X.2.2 1) 4 (sByt 1) (fun A u h => (hS A u h).1 1 (by decide)) a3 a2 u44 hu44) [] (wd_Plan_fileByte g t_o t_names_a t_sizes_a t_seeds_a t_sorts_a t_starts_a t_lengths_a t_scattered_a t_lastUsable t_partitions t_files t_kernelAddress t_names t_sizes t_seeds) ⟨rfl, rfl⟩ ⟨Nat.le_of_ble_eq_true rfl, Nat.le_of_ble_eq_true rfl⟩ rfl At_.nil At_.nil Sm_.refl rfl hl.1 (Nat.le_of_ble_eq_true rfl) ⟨Nat.zero_le _, Nat.zero_le _⟩ d_Plan_fileByte_58 (fun H locs hw => ?_) rfl
          cases hf
          exact hret _ _ _ _ hw rfl d_Plan_fileByte_61
      · refine n_ldcS hC (fun A u h => (hS A u h).2.1 0 (by decide)) d_Plan_fileByte_30 ?_
        refine n_aload_n hC hl 0 d_Plan_fileByte_32 rfl rfl ?_
        refine n_get hC hw fg_Plan_65 0 rfl rfl d_Plan_fileByte_33 ?_
        refine n_iload_n hC hl 2 d_Plan_fileByte_36 rfl rfl ?_
        obtain ⟨u45, hu45, hf⟩ := bd_s hf
        refine n_callSi hC hw fc_Plan_68 (c_Plan_headByte l g E hEe (X.2.1 0) (X.2.2 0) 4 (sByt 0) (fun A u h => (hS A u h).1 0 (by decide)) t_kernelAddress a2 u45 hu45) [] (wd_Plan_fileByte g t_o t_names_a t_sizes_a t_seeds_a t_sorts_a t_starts_a t_lengths_a t_scattered_a t_lastUsable t_partitions t_files t_kernelAddress t_names t_sizes t_seeds) ⟨rfl, rfl⟩ ⟨Nat.le_of_ble_eq_true rfl, Nat.le_of_ble_eq_true rfl⟩ rfl At_.nil At_.nil Sm_.refl rfl hl.1 (Nat.le_of_ble_eq_true rfl) ⟨Nat.zero_le _, Nat.zero_le _⟩ d_Plan_fileByte_37 (fun H locs hw => ?_) rfl
        cases hf
        exact hret _ _ _ _ hw rfl d_Plan_fileByte_40
