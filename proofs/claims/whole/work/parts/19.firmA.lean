def wd_Firmware_tell (g : GT) (t_o : Nat) (r_o : Nat) (d_o : Nat) (u_o : Nat) (t_loaderSectors_a : Nat) (t_chain_a : Nat) (t_sectors : Int32) (t_tableSectors : Int32) (t_clusters : Int32) (t_tried : Int32) (t_header : Int32) (t_bootStart : Int32) (t_kernelAddress : Int32) (t_kernelSize : Int32) : va_W := [(t_o, .inr (5, [.ref r_o, .ref d_o, .int t_sectors, .ref u_o, .ref t_loaderSectors_a, .ref t_chain_a, .int t_tableSectors, .int t_clusters, .int t_tried, .int t_header, .int t_bootStart, .int t_kernelAddress, .int t_kernelSize]))]
def f_Firmware_tell (t_tried : Int32) (a1 : Int32) (t_header : Int32) (t_bootStart : Int32) (t_kernelAddress : Int32) (t_kernelSize : Int32) : Option (Int32) :=
  if ¬ t_tried = 0 then if (a1 : Int32) = 0 then some (t_header) else if (a1 : Int32) = 1 then some (t_bootStart) else if (a1 : Int32) = 2 then some (t_kernelAddress) else if (a1 : Int32) = 3 then some (t_kernelSize) else some ((-1)) else some ((-1))
def rm_Firmware_tell : Room := { frames := 0, cells := 0, slots := 0, locals := 0 }
set_option maxHeartbeats 4000000 in
set_option maxRecDepth 100000 in
theorem c_Firmware_tell (l : Launch) (g : GT) (E : (Nat → Prop) → State → Prop) (hEe : Ee E) (t_o : Nat) (r_o : Nat) (d_o : Nat) (u_o : Nat) (t_loaderSectors_a : Nat) (t_chain_a : Nat) (t_sectors : Int32) (t_tableSectors : Int32) (t_clusters : Int32) (t_tried : Int32) (t_header : Int32) (t_bootStart : Int32) (t_kernelAddress : Int32) (t_kernelSize : Int32) (a1 : Int32) (z : Int32) (hf : f_Firmware_tell t_tried a1 t_header t_bootStart t_kernelAddress t_kernelSize = some z) : Cg l g E y_Firmware_tell ws_Firmware_tell rm_Firmware_tell [.ref t_o, .int a1] (wd_Firmware_tell g t_o r_o d_o u_o t_loaderSectors_a t_chain_a t_sectors t_tableSectors t_clusters t_tried t_header t_bootStart t_kernelAddress t_kernelSize) (some (.int z)) (wd_Firmware_tell g t_o r_o d_o u_o t_loaderSectors_a t_chain_a t_sectors t_tableSectors t_clusters t_tried t_header t_bootStart t_kernelAddress t_kernelSize) := by
  refine Ct.ofI hEe good_W (by decide) rfl (Nat.le_of_ble_eq_true rfl) ?_
  intro p e s m args below meth c A ls Q hC hw hl hret
  have hC : CX p m c b_Firmware_tell 2 s args Wall R_Firmware g.1 classes (tK g) E A := hC
  have hl : lv_has ls 2 [(0, .ref t_o), (1, .int a1)] := hl
  unfold f_Firmware_tell at hf
  refine n_aload_n hC hl 0 d_Firmware_tell_0 rfl rfl ?_
  refine n_get hC hw fg_Firmware_48 0 rfl rfl d_Firmware_tell_1 ?_
  refine n_if_ne hC hf 9 d_Firmware_tell_4 (by decide) (fun hf => ?_) (fun hf => ?_)
  · refine n_iload_n hC hl 1 d_Firmware_tell_9 rfl rfl ?_
    by_cases h1 : (a1 : Int32) = 0
    · rw [if_pos h1] at hf
      refine lv_tableIn hC.1.1 hC.1.2.1 d_Firmware_tell_10 (by rw [h1]; decide) (by rw [h1]; decide) (by rw [h1]; rfl) (tgt := 40) (by decide) ?_
      refine n_aload_n hC hl 0 d_Firmware_tell_40 rfl rfl ?_
      refine n_get hC hw fg_Firmware_52 0 rfl rfl d_Firmware_tell_41 ?_
      cases hf
      exact hret _ _ _ _ hw rfl d_Firmware_tell_44
    · rw [if_neg h1] at hf
      by_cases h2 : (a1 : Int32) = 1
      · rw [if_pos h2] at hf
        refine lv_tableIn hC.1.1 hC.1.2.1 d_Firmware_tell_10 (by rw [h2]; decide) (by rw [h2]; decide) (by rw [h2]; rfl) (tgt := 45) (by decide) ?_
        refine n_aload_n hC hl 0 d_Firmware_tell_45 rfl rfl ?_
        refine n_get hC hw fg_Firmware_25 0 rfl rfl d_Firmware_tell_46 ?_
        cases hf
        exact hret _ _ _ _ hw rfl d_Firmware_tell_49
      · rw [if_neg h2] at hf
        by_cases h3 : (a1 : Int32) = 2
        · rw [if_pos h3] at hf
          refine lv_tableIn hC.1.1 hC.1.2.1 d_Firmware_tell_10 (by rw [h3]; decide) (by rw [h3]; decide) (by rw [h3]; rfl) (tgt := 50) (by decide) ?_
          refine n_aload_n hC hl 0 d_Firmware_tell_50 rfl rfl ?_
          refine n_get hC hw fg_Firmware_29 0 rfl rfl d_Firmware_tell_51 ?_
          cases hf
          exact hret _ _ _ _ hw rfl d_Firmware_tell_54
        · rw [if_neg h3] at hf
          by_cases h4 : (a1 : Int32) = 3
          · rw [if_pos h4] at hf
            refine lv_tableIn hC.1.1 hC.1.2.1 d_Firmware_tell_10 (by rw [h4]; decide) (by rw [h4]; decide) (by rw [h4]; rfl) (tgt := 55) (by decide) ?_
            refine n_aload_n hC hl 0 d_Firmware_tell_55 rfl rfl ?_
            refine n_get hC hw fg_Firmware_32 0 rfl rfl d_Firmware_tell_56 ?_
            cases hf
            exact hret _ _ _ _ hw rfl d_Firmware_tell_59
          · rw [if_neg h4] at hf
            refine lv_tableOut hC.1.1 hC.1.2.1 d_Firmware_tell_10 (by have := lv_neT h1 (a := 0) (by decide); have := lv_neT h2 (a := 1) (by decide); have := lv_neT h3 (a := 2) (by decide); have := lv_neT h4 (a := 3) (by decide); omega) (tgt := 60) (by decide) ?_
            refine n_iconst hC (-1) d_Firmware_tell_60 (by decide) ?_
            cases hf
            exact hret _ _ _ _ hw rfl d_Firmware_tell_61
  · refine n_iconst hC (-1) d_Firmware_tell_7 (by decide) ?_
    cases hf
    exact hret _ _ _ _ hw rfl d_Firmware_tell_8
def wd_Firmware_forget (g : GT) (t_o : Nat) (r_o : Nat) (r_words_a : Nat) (d_o : Nat) (u_o : Nat) (t_loaderSectors_a : Nat) (t_chain_a : Nat) (r_words_n : Nat) (t_sectors : Int32) (t_tableSectors : Int32) (t_clusters : Int32) (t_tried : Int32) (t_header : Int32) (t_bootStart : Int32) (t_kernelAddress : Int32) (t_kernelSize : Int32) (r_length : Int32) (r_words : Nat → Int64) : va_W := [(t_o, .inr (5, [.ref r_o, .ref d_o, .int t_sectors, .ref u_o, .ref t_loaderSectors_a, .ref t_chain_a, .int t_tableSectors, .int t_clusters, .int t_tried, .int t_header, .int t_bootStart, .int t_kernelAddress, .int t_kernelSize])), (r_o, .inr (0, [.int r_length, .ref r_words_a])), (r_words_a, .inl (g.2.2.1, r_words_n, .inr (.inl r_words)))]
def f_Firmware_forget (N : Nat) (r_words_n : Nat) (r_words : Nat → Int64) : Option (Int32 × Int32 × Int32 × Int32 × Int32 × (Nat → Int64)) :=
  bd_ (f_Store_clear N r_words_n r_words) (fun u2 => some (1, 0, (-1), (-1), (-1), u2))
def rm_Firmware_forget : Room := { frames := 2, cells := 0, slots := 0, locals := 44 }
set_option maxHeartbeats 4000000 in
set_option maxRecDepth 100000 in
theorem c_Firmware_forget (l : Launch) (g : GT) (E : (Nat → Prop) → State → Prop) (hEe : Ee E) (t_o : Nat) (r_o : Nat) (r_words_a : Nat) (d_o : Nat) (u_o : Nat) (t_loaderSectors_a : Nat) (t_chain_a : Nat) (r_words_n : Nat) (t_sectors : Int32) (t_tableSectors : Int32) (t_clusters : Int32) (t_tried : Int32) (t_header : Int32) (t_bootStart : Int32) (t_kernelAddress : Int32) (t_kernelSize : Int32) (r_length : Int32) (r_words : Nat → Int64) (N : Nat) (z : Int32 × Int32 × Int32 × Int32 × Int32 × (Nat → Int64)) (hf : f_Firmware_forget N r_words_n r_words = some z) : Cg l g E y_Firmware_forget ws_Firmware_forget rm_Firmware_forget [.ref t_o] (wd_Firmware_forget g t_o r_o r_words_a d_o u_o t_loaderSectors_a t_chain_a r_words_n t_sectors t_tableSectors t_clusters t_tried t_header t_bootStart t_kernelAddress t_kernelSize r_length r_words) none (wd_Firmware_forget g t_o r_o r_words_a d_o u_o t_loaderSectors_a t_chain_a r_words_n t_sectors t_tableSectors t_clusters z.1 z.2.1 z.2.2.1 z.2.2.2.1 z.2.2.2.2.1 r_length z.2.2.2.2.2) := by
  refine Ct.ofV hEe good_W (by decide) rfl (Nat.le_of_ble_eq_true rfl) ?_
  intro p e s m args below meth c A ls Q hC hw hl hret
  have hC : CX p m c b_Firmware_forget 1 s args Wall R_Firmware g.1 classes (tK g) E A := hC
  have hl : lv_has ls 1 [(0, .ref t_o)] := hl
  unfold f_Firmware_forget at hf
  refine n_aload_n hC hl 0 d_Firmware_forget_0 rfl rfl ?_
  refine n_iconst hC 1 d_Firmware_forget_1 (by decide) ?_
  refine n_put hC hw fp_Firmware_48 0 (wd_Firmware_forget g t_o r_o r_words_a d_o u_o t_loaderSectors_a t_chain_a r_words_n t_sectors t_tableSectors t_clusters 1 t_header t_bootStart t_kernelAddress t_kernelSize r_length r_words) rfl rfl rfl (Nat.le_of_ble_eq_true rfl) d_Firmware_forget_2 rfl (fun H locs hw => ?_)
  refine n_aload_n hC hl 0 d_Firmware_forget_5 rfl rfl ?_
  refine n_iconst hC 0 d_Firmware_forget_6 (by decide) ?_
  refine n_put hC hw fp_Firmware_52 0 (wd_Firmware_forget g t_o r_o r_words_a d_o u_o t_loaderSectors_a t_chain_a r_words_n t_sectors t_tableSectors t_clusters 1 0 t_bootStart t_kernelAddress t_kernelSize r_length r_words) rfl rfl rfl (Nat.le_of_ble_eq_true rfl) d_Firmware_forget_7 rfl (fun H locs hw => ?_)
  refine n_aload_n hC hl 0 d_Firmware_forget_10 rfl rfl ?_
  refine n_iconst hC (-1) d_Firmware_forget_11 (by decide) ?_
  refine n_put hC hw fp_Firmware_25 0 (wd_Firmware_forget g t_o r_o r_words_a d_o u_o t_loaderSectors_a t_chain_a r_words_n t_sectors t_tableSectors t_clusters 1 0 (-1) t_kernelAddress t_kernelSize r_length r_words) rfl rfl rfl (Nat.le_of_ble_eq_true rfl) d_Firmware_forget_12 rfl (fun H locs hw => ?_)
  refine n_aload_n hC hl 0 d_Firmware_forget_15 rfl rfl ?_
  refine n_iconst hC (-1) d_Firmware_forget_16 (by decide) ?_
  refine n_put hC hw fp_Firmware_29 0 (wd_Firmware_forget g t_o r_o r_words_a d_o u_o t_loaderSectors_a t_chain_a r_words_n t_sectors t_tableSectors t_clusters 1 0 (-1) (-1) t_kernelSize r_length r_words) rfl rfl rfl (Nat.le_of_ble_eq_true rfl) d_Firmware_forget_17 rfl (fun H locs hw => ?_)
  refine n_aload_n hC hl 0 d_Firmware_forget_20 rfl rfl ?_
  refine n_iconst hC (-1) d_Firmware_forget_21 (by decide) ?_
  refine n_put hC hw fp_Firmware_32 0 (wd_Firmware_forget g t_o r_o r_words_a d_o u_o t_loaderSectors_a t_chain_a r_words_n t_sectors t_tableSectors t_clusters 1 0 (-1) (-1) (-1) r_length r_words) rfl rfl rfl (Nat.le_of_ble_eq_true rfl) d_Firmware_forget_22 rfl (fun H locs hw => ?_)
  refine n_aload_n hC hl 0 d_Firmware_forget_25 rfl rfl ?_
  refine n_get hC hw fg_Firmware_15 0 rfl rfl d_Firmware_forget_26 ?_
  obtain ⟨u2, hu2, hf⟩ := bd_s hf
  refine n_callVv hC hw fc_Firmware_72 (c_Store_clear l g E hEe r_o r_words_a r_words_n r_length r_words N u2 hu2) [1, 2] (wd_Firmware_forget g t_o r_o r_words_a d_o u_o t_loaderSectors_a t_chain_a r_words_n t_sectors t_tableSectors t_clusters 1 0 (-1) (-1) (-1) r_length u2) 1 rfl ⟨rfl, rfl⟩ ⟨Nat.le_of_ble_eq_true rfl, Nat.le_of_ble_eq_true rfl⟩ rfl (At_.cons rfl (At_.cons rfl At_.nil)) (At_.cons rfl (At_.cons rfl At_.nil)) (Sm_.keep (Sm_.keep (Sm_.upd rfl Sm_.nil))) rfl hl.1 (Nat.le_of_ble_eq_true rfl) ⟨Nat.zero_le _, Nat.zero_le _⟩ d_Firmware_forget_29 (fun H locs hw => ?_) rfl
  cases hf
  exact hret _ _ _ _ hw d_Firmware_forget_32
def wd_Firmware_clusterAt (g : GT) (t_o : Nat) (r_o : Nat) (d_o : Nat) (u_o : Nat) (t_loaderSectors_a : Nat) (t_chain_a : Nat) (t_sectors : Int32) (t_tableSectors : Int32) (t_clusters : Int32) (t_tried : Int32) (t_header : Int32) (t_bootStart : Int32) (t_kernelAddress : Int32) (t_kernelSize : Int32) : va_W := [(t_o, .inr (5, [.ref r_o, .ref d_o, .int t_sectors, .ref u_o, .ref t_loaderSectors_a, .ref t_chain_a, .int t_tableSectors, .int t_clusters, .int t_tried, .int t_header, .int t_bootStart, .int t_kernelAddress, .int t_kernelSize]))]
def f_Firmware_clusterAt (t_bootStart : Int32) (t_tableSectors : Int32) (a1 : Int32) : Option (Int32) :=
  lt_ (t_bootStart + 1) (fun v8 => lt_ ((2 : Int32) * t_tableSectors) (fun v9 => lt_ (v8 + v9) (fun v10 => lt_ (v10 + 2) (fun v11 => lt_ (v11 + a1) (fun v12 => lt_ (v12 - 2) (fun v13 => lt_ (v13 * 512) (fun v14 => some (v14))))))))
def rm_Firmware_clusterAt : Room := { frames := 0, cells := 0, slots := 0, locals := 0 }
set_option maxHeartbeats 4000000 in
set_option maxRecDepth 100000 in
theorem c_Firmware_clusterAt (l : Launch) (g : GT) (E : (Nat → Prop) → State → Prop) (hEe : Ee E) (t_o : Nat) (r_o : Nat) (d_o : Nat) (u_o : Nat) (t_loaderSectors_a : Nat) (t_chain_a : Nat) (t_sectors : Int32) (t_tableSectors : Int32) (t_clusters : Int32) (t_tried : Int32) (t_header : Int32) (t_bootStart : Int32) (t_kernelAddress : Int32) (t_kernelSize : Int32) (a1 : Int32) (z : Int32) (hf : f_Firmware_clusterAt t_bootStart t_tableSectors a1 = some z) : Cg l g E y_Firmware_clusterAt ws_Firmware_clusterAt rm_Firmware_clusterAt [.ref t_o, .int a1] (wd_Firmware_clusterAt g t_o r_o d_o u_o t_loaderSectors_a t_chain_a t_sectors t_tableSectors t_clusters t_tried t_header t_bootStart t_kernelAddress t_kernelSize) (some (.int z)) (wd_Firmware_clusterAt g t_o r_o d_o u_o t_loaderSectors_a t_chain_a t_sectors t_tableSectors t_clusters t_tried t_header t_bootStart t_kernelAddress t_kernelSize) := by
  refine Ct.ofI hEe good_W (by decide) rfl (Nat.le_of_ble_eq_true rfl) ?_
  intro p e s m args below meth c A ls Q hC hw hl hret
  have hC : CX p m c b_Firmware_clusterAt 3 s args Wall R_Firmware g.1 classes (tK g) E A := hC
  have hl : lv_has ls 3 [(0, .ref t_o), (1, .int a1)] := hl
  unfold f_Firmware_clusterAt at hf
  refine n_aload_n hC hl 0 d_Firmware_clusterAt_0 rfl rfl ?_
  refine n_get hC hw fg_Firmware_25 0 rfl rfl d_Firmware_clusterAt_1 ?_
  refine n_iconst hC 1 d_Firmware_clusterAt_4 (by decide) ?_
  refine n_iadd hC hf d_Firmware_clusterAt_5 (fun v8 hf => ?_)
  refine n_iconst hC 2 d_Firmware_clusterAt_6 (by decide) ?_
  refine n_aload_n hC hl 0 d_Firmware_clusterAt_7 rfl rfl ?_
  refine n_get hC hw fg_Firmware_161 0 rfl rfl d_Firmware_clusterAt_8 ?_
  refine n_imul hC hf d_Firmware_clusterAt_11 (fun v9 hf => ?_)
  refine n_iadd hC hf d_Firmware_clusterAt_12 (fun v10 hf => ?_)
  refine n_iconst hC 2 d_Firmware_clusterAt_13 (by decide) ?_
  refine n_iadd hC hf d_Firmware_clusterAt_14 (fun v11 hf => ?_)
  refine n_istore_n hC [(2, .int v11), (0, .ref t_o), (1, .int a1)] hl d_Firmware_clusterAt_15 rfl (by decide) rfl (fun ls hl => ?_)
  refine n_iload_n hC hl 0 d_Firmware_clusterAt_16 rfl rfl ?_
  refine n_iload_n hC hl 2 d_Firmware_clusterAt_17 rfl rfl ?_
  refine n_iadd hC hf d_Firmware_clusterAt_18 (fun v12 hf => ?_)
  refine n_iconst hC 2 d_Firmware_clusterAt_19 (by decide) ?_
  refine n_isub hC hf d_Firmware_clusterAt_20 (fun v13 hf => ?_)
  refine n_sipush hC 512 d_Firmware_clusterAt_21 (by decide) ?_
  refine n_imul hC hf d_Firmware_clusterAt_24 (fun v14 hf => ?_)
  cases hf
  exact hret _ _ _ _ hw rfl d_Firmware_clusterAt_25
def wd_Firmware_clusterEntry (g : GT) (t_o : Nat) (d_o : Nat) (d_words_a : Nat) (r_o : Nat) (u_o : Nat) (t_loaderSectors_a : Nat) (t_chain_a : Nat) (d_words_n : Nat) (t_sectors : Int32) (t_tableSectors : Int32) (t_clusters : Int32) (t_tried : Int32) (t_header : Int32) (t_bootStart : Int32) (t_kernelAddress : Int32) (t_kernelSize : Int32) (d_length : Int32) (d_words : Nat → Int64) : va_W := [(t_o, .inr (5, [.ref r_o, .ref d_o, .int t_sectors, .ref u_o, .ref t_loaderSectors_a, .ref t_chain_a, .int t_tableSectors, .int t_clusters, .int t_tried, .int t_header, .int t_bootStart, .int t_kernelAddress, .int t_kernelSize])), (d_o, .inr (0, [.int d_length, .ref d_words_a])), (d_words_a, .inl (g.2.2.1, d_words_n, .inr (.inl d_words)))]
def f_Firmware_clusterEntry (N : Nat) (t_bootStart : Int32) (a1 : Int32) (d_length : Int32) (d_words_n : Nat) (d_words : Nat → Int64) : Option (Int32) :=
  lt_ (t_bootStart + 1) (fun v11 => lt_ (v11 * 512) (fun v12 => lt_ (a1 * 3) (fun v13 => lt_ (v13 / 2) (fun v14 => lt_ (v12 + v14) (fun v15 => bd_ (f_Store_getLow N 2 v15 d_length d_words_n d_words) (fun u16 => lt_ (u16.toInt32) (fun v17 => lt_ (a1 - a1 / 2 * 2) (fun v18 => if ¬ v18 = 0 then lt_ (v17 >>> ((4 : Int32) &&& 31)) (fun v19 => some (v19)) else lt_ (v17 &&& 4095) (fun v20 => some (v20))))))))))
def rm_Firmware_clusterEntry : Room := { frames := 2, cells := 0, slots := 0, locals := 46 }
set_option maxHeartbeats 4000000 in
set_option maxRecDepth 100000 in
theorem c_Firmware_clusterEntry (l : Launch) (g : GT) (E : (Nat → Prop) → State → Prop) (hEe : Ee E) (t_o : Nat) (d_o : Nat) (d_words_a : Nat) (r_o : Nat) (u_o : Nat) (t_loaderSectors_a : Nat) (t_chain_a : Nat) (d_words_n : Nat) (t_sectors : Int32) (t_tableSectors : Int32) (t_clusters : Int32) (t_tried : Int32) (t_header : Int32) (t_bootStart : Int32) (t_kernelAddress : Int32) (t_kernelSize : Int32) (d_length : Int32) (d_words : Nat → Int64) (a1 : Int32) (N : Nat) (z : Int32) (hf : f_Firmware_clusterEntry N t_bootStart a1 d_length d_words_n d_words = some z) : Cg l g E y_Firmware_clusterEntry ws_Firmware_clusterEntry rm_Firmware_clusterEntry [.ref t_o, .int a1] (wd_Firmware_clusterEntry g t_o d_o d_words_a r_o u_o t_loaderSectors_a t_chain_a d_words_n t_sectors t_tableSectors t_clusters t_tried t_header t_bootStart t_kernelAddress t_kernelSize d_length d_words) (some (.int z)) (wd_Firmware_clusterEntry g t_o d_o d_words_a r_o u_o t_loaderSectors_a t_chain_a d_words_n t_sectors t_tableSectors t_clusters t_tried t_header t_bootStart t_kernelAddress t_kernelSize d_length d_words) := by
  refine Ct.ofI hEe good_W (by decide) rfl (Nat.le_of_ble_eq_true rfl) ?_
  intro p e s m args below meth c A ls Q hC hw hl hret
  have hC : CX p m c b_Firmware_clusterEntry 4 s args Wall R_Firmware g.1 classes (tK g) E A := hC
  have hl : lv_has ls 4 [(0, .ref t_o), (1, .int a1)] := hl
  unfold f_Firmware_clusterEntry at hf
  refine n_aload_n hC hl 0 d_Firmware_clusterEntry_0 rfl rfl ?_
  refine n_get hC hw fg_Firmware_25 0 rfl rfl d_Firmware_clusterEntry_1 ?_
  refine n_iconst hC 1 d_Firmware_clusterEntry_4 (by decide) ?_
  refine n_iadd hC hf d_Firmware_clusterEntry_5 (fun v11 hf => ?_)
  refine n_sipush hC 512 d_Firmware_clusterEntry_6 (by decide) ?_
  refine n_imul hC hf d_Firmware_clusterEntry_9 (fun v12 hf => ?_)
  refine n_iload_n hC hl 1 d_Firmware_clusterEntry_10 rfl rfl ?_
  refine n_iconst hC 3 d_Firmware_clusterEntry_11 (by decide) ?_
  refine n_imul hC hf d_Firmware_clusterEntry_12 (fun v13 hf => ?_)
  refine n_iconst hC 2 d_Firmware_clusterEntry_13 (by decide) ?_
  refine n_idiv hC hf d_Firmware_clusterEntry_14 (by decide) (fun v14 hf => ?_)
  refine n_iadd hC hf d_Firmware_clusterEntry_15 (fun v15 hf => ?_)
  refine n_istore_n hC [(2, .int v15), (0, .ref t_o), (1, .int a1)] hl d_Firmware_clusterEntry_16 rfl (by decide) rfl (fun ls hl => ?_)
  refine n_aload_n hC hl 1 d_Firmware_clusterEntry_17 rfl rfl ?_
  refine n_get hC hw fg_Firmware_35 0 rfl rfl d_Firmware_clusterEntry_18 ?_
  refine n_iload_n hC hl 0 d_Firmware_clusterEntry_21 rfl rfl ?_
  refine n_iconst hC 2 d_Firmware_clusterEntry_22 (by decide) ?_
  obtain ⟨u16, hu16, hf⟩ := bd_s hf
  refine n_callVl hC hw fc_Firmware_82 (c_Store_getLow l g E hEe d_o d_words_a d_words_n d_length d_words v15 2 N u16 hu16) [1, 2] (wd_Firmware_clusterEntry g t_o d_o d_words_a r_o u_o t_loaderSectors_a t_chain_a d_words_n t_sectors t_tableSectors t_clusters t_tried t_header t_bootStart t_kernelAddress t_kernelSize d_length d_words) 1 rfl ⟨rfl, rfl⟩ ⟨Nat.le_of_ble_eq_true rfl, Nat.le_of_ble_eq_true rfl⟩ rfl (At_.cons rfl (At_.cons rfl At_.nil)) (At_.cons rfl (At_.cons rfl At_.nil)) Sm_.refl rfl hl.1 (Nat.le_of_ble_eq_true rfl) ⟨Nat.zero_le _, Nat.zero_le _⟩ d_Firmware_clusterEntry_23 (fun H locs hw => ?_) rfl
  refine n_l2i hC hf d_Firmware_clusterEntry_26 (fun v17 hf => ?_)
  refine n_istore_n hC [(3, .int v17), (2, .int v15), (0, .ref t_o), (1, .int a1)] hl d_Firmware_clusterEntry_27 rfl (by decide) rfl (fun ls hl => ?_)
  refine n_iload_n hC hl 3 d_Firmware_clusterEntry_28 rfl rfl ?_
  refine n_iconst hC 2 d_Firmware_clusterEntry_29 (by decide) ?_
  refine n_irem hC hf d_Firmware_clusterEntry_30 (by decide) (fun v18 hf => ?_)
  refine n_if_ne hC hf 42 d_Firmware_clusterEntry_31 (by decide) (fun hf => ?_) (fun hf => ?_)
  · refine n_iload_n hC hl 0 d_Firmware_clusterEntry_42 rfl rfl ?_
    refine n_iconst hC 4 d_Firmware_clusterEntry_43 (by decide) ?_
    refine n_ishr hC hf d_Firmware_clusterEntry_44 (fun v19 hf => ?_)
    cases hf
    exact hret _ _ _ _ hw rfl d_Firmware_clusterEntry_45
  · refine n_iload_n hC hl 0 d_Firmware_clusterEntry_34 rfl rfl ?_
    refine n_sipush hC 4095 d_Firmware_clusterEntry_35 (by decide) ?_
    refine n_iand hC hf d_Firmware_clusterEntry_38 (fun v20 hf => ?_)
    refine n_goto hC 45 d_Firmware_clusterEntry_39 (by decide) ?_
    cases hf
    exact hret _ _ _ _ hw rfl d_Firmware_clusterEntry_45
def wd_Firmware_hasGoodEntries (g : GT) (t_o : Nat) (d_o : Nat) (d_words_a : Nat) (u_o : Nat) (u_shifted_a : Nat) (r_o : Nat) (t_loaderSectors_a : Nat) (t_chain_a : Nat) (d_words_n : Nat) (t_sectors : Int32) (t_tableSectors : Int32) (t_clusters : Int32) (t_tried : Int32) (t_header : Int32) (t_bootStart : Int32) (t_kernelAddress : Int32) (t_kernelSize : Int32) (d_length : Int32) (d_words : Nat → Int64) (u_bits : Int32) (u_shifted : Nat → Int32) : va_W := [(t_o, .inr (5, [.ref r_o, .ref d_o, .int t_sectors, .ref u_o, .ref t_loaderSectors_a, .ref t_chain_a, .int t_tableSectors, .int t_clusters, .int t_tried, .int t_header, .int t_bootStart, .int t_kernelAddress, .int t_kernelSize])), (d_o, .inr (0, [.int d_length, .ref d_words_a])), (d_words_a, .inl (g.2.2.1, d_words_n, .inr (.inl d_words))), (u_o, .inr (1, [.ref u_shifted_a, .int u_bits])), (u_shifted_a, .inl (g.2.1, 256, .inl u_shifted))]
def f_Firmware_hasGoodEntries (N : Nat) (a1 : Int32) (d_length : Int32) (d_words_n : Nat) (d_words : Nat → Int64) (u_bits : Int32) (t_sectors : Int32) (u_shifted : Nat → Int32) : Option (Int32 × Int32) :=
  lt_ (a1 + 72) (fun v13 => bd_ (f_Store_getLow N 8 v13 d_length d_words_n d_words) (fun u14 => lt_ (lg_cmp u14 0) (fun v15 => if v15 < 0 then some (0, u_bits) else lt_ (t_sectors - 32) (fun v16 => lt_ (v16.toInt64) (fun v17 => lt_ (lg_cmp u14 v17) (fun v18 => if v18 ≤ 0 then lt_ (a1 + 88) (fun v19 => bd_ (f_Store_getLow N 4 v19 d_length d_words_n d_words) (fun u20 => lt_ (u20.toInt32) (fun v21 => lt_ (u14.toInt32) (fun v22 => lt_ (v22 * 512) (fun v23 => bd_ (f_Sums_over N 16384 v23 d_length d_words_n d_words u_shifted) (fun u24 => if ¬ v21 = u24.1 then some (0, u24.2) else some (1, u24.2))))))) else some (0, u_bits)))))))
def rm_Firmware_hasGoodEntries : Room := { frames := 2, cells := 0, slots := 0, locals := 46 }
set_option maxHeartbeats 4000000 in
set_option maxRecDepth 100000 in
theorem c_Firmware_hasGoodEntries (l : Launch) (g : GT) (E : (Nat → Prop) → State → Prop) (hEe : Ee E) (t_o : Nat) (d_o : Nat) (d_words_a : Nat) (u_o : Nat) (u_shifted_a : Nat) (r_o : Nat) (t_loaderSectors_a : Nat) (t_chain_a : Nat) (d_words_n : Nat) (t_sectors : Int32) (t_tableSectors : Int32) (t_clusters : Int32) (t_tried : Int32) (t_header : Int32) (t_bootStart : Int32) (t_kernelAddress : Int32) (t_kernelSize : Int32) (d_length : Int32) (d_words : Nat → Int64) (u_bits : Int32) (u_shifted : Nat → Int32) (a1 : Int32) (N : Nat) (z : Int32 × Int32) (hf : f_Firmware_hasGoodEntries N a1 d_length d_words_n d_words u_bits t_sectors u_shifted = some z) : Cg l g E y_Firmware_hasGoodEntries ws_Firmware_hasGoodEntries rm_Firmware_hasGoodEntries [.ref t_o, .int a1] (wd_Firmware_hasGoodEntries g t_o d_o d_words_a u_o u_shifted_a r_o t_loaderSectors_a t_chain_a d_words_n t_sectors t_tableSectors t_clusters t_tried t_header t_bootStart t_kernelAddress t_kernelSize d_length d_words u_bits u_shifted) (some (.int z.1)) (wd_Firmware_hasGoodEntries g t_o d_o d_words_a u_o u_shifted_a r_o t_loaderSectors_a t_chain_a d_words_n t_sectors t_tableSectors t_clusters t_tried t_header t_bootStart t_kernelAddress t_kernelSize d_length d_words z.2 u_shifted) := by
  refine Ct.ofI hEe good_W (by decide) rfl (Nat.le_of_ble_eq_true rfl) ?_
  intro p e s m args below meth c A ls Q hC hw hl hret
  have hC : CX p m c b_Firmware_hasGoodEntries 5 s args Wall R_Firmware g.1 classes (tK g) E A := hC
  have hl : lv_has ls 5 [(0, .ref t_o), (1, .int a1)] := hl
  unfold f_Firmware_hasGoodEntries at hf
  refine n_aload_n hC hl 0 d_Firmware_hasGoodEntries_0 rfl rfl ?_
  refine n_get hC hw fg_Firmware_35 0 rfl rfl d_Firmware_hasGoodEntries_1 ?_
  refine n_iload_n hC hl 1 d_Firmware_hasGoodEntries_4 rfl rfl ?_
  refine n_bipush hC 72 d_Firmware_hasGoodEntries_5 (by decide) ?_
  refine n_iadd hC hf d_Firmware_hasGoodEntries_7 (fun v13 hf => ?_)
  refine n_bipush hC 8 d_Firmware_hasGoodEntries_8 (by decide) ?_
  obtain ⟨u14, hu14, hf⟩ := bd_s hf
  refine n_callVl hC hw fc_Firmware_82 (c_Store_getLow l g E hEe d_o d_words_a d_words_n d_length d_words v13 8 N u14 hu14) [1, 2] (wd_Firmware_hasGoodEntries g t_o d_o d_words_a u_o u_shifted_a r_o t_loaderSectors_a t_chain_a d_words_n t_sectors t_tableSectors t_clusters t_tried t_header t_bootStart t_kernelAddress t_kernelSize d_length d_words u_bits u_shifted) 1 rfl ⟨rfl, rfl⟩ ⟨Nat.le_of_ble_eq_true rfl, Nat.le_of_ble_eq_true rfl⟩ rfl (At_.cons rfl (At_.cons rfl At_.nil)) (At_.cons rfl (At_.cons rfl At_.nil)) Sm_.refl rfl hl.1 (Nat.le_of_ble_eq_true rfl) ⟨Nat.zero_le _, Nat.zero_le _⟩ d_Firmware_hasGoodEntries_10 (fun H locs hw => ?_) rfl
  refine n_lstore_n hC [(2, .long u14), (0, .ref t_o), (1, .int a1)] hl d_Firmware_hasGoodEntries_13 rfl (by decide) rfl (fun ls hl => ?_)
  refine n_lload_n hC hl 0 d_Firmware_hasGoodEntries_14 rfl rfl ?_
  refine n_lconst hC 0 d_Firmware_hasGoodEntries_15 (by decide) ?_
  refine n_lcmp hC hf d_Firmware_hasGoodEntries_16 (fun v15 hf => ?_)
  refine n_if_lt hC hf 33 d_Firmware_hasGoodEntries_17 (by decide) (fun hf => ?_) (fun hf => ?_)
  · refine n_iconst hC 0 d_Firmware_hasGoodEntries_33 (by decide) ?_
    cases hf
    exact hret _ _ _ _ hw (show narrow .boolean (Value.int 0) = Value.int 0 from rfl) d_Firmware_hasGoodEntries_34
  · refine n_lload_n hC hl 0 d_Firmware_hasGoodEntries_20 rfl rfl ?_
    refine n_aload_n hC hl 1 d_Firmware_hasGoodEntries_21 rfl rfl ?_
    refine n_get hC hw fg_Firmware_38 0 rfl rfl d_Firmware_hasGoodEntries_22 ?_
    refine n_bipush hC 32 d_Firmware_hasGoodEntries_25 (by decide) ?_
    refine n_isub hC hf d_Firmware_hasGoodEntries_27 (fun v16 hf => ?_)
    refine n_i2l hC hf d_Firmware_hasGoodEntries_28 (fun v17 hf => ?_)
    refine n_lcmp hC hf d_Firmware_hasGoodEntries_29 (fun v18 hf => ?_)
    refine n_if_le hC hf 35 d_Firmware_hasGoodEntries_30 (by decide) (fun hf => ?_) (fun hf => ?_)
    · refine n_aload_n hC hl 1 d_Firmware_hasGoodEntries_35 rfl rfl ?_
      refine n_get hC hw fg_Firmware_35 0 rfl rfl d_Firmware_hasGoodEntries_36 ?_
      refine n_iload_n hC hl 2 d_Firmware_hasGoodEntries_39 rfl rfl ?_
      refine n_bipush hC 88 d_Firmware_hasGoodEntries_40 (by decide) ?_
      refine n_iadd hC hf d_Firmware_hasGoodEntries_42 (fun v19 hf => ?_)
      refine n_iconst hC 4 d_Firmware_hasGoodEntries_43 (by decide) ?_
      obtain ⟨u20, hu20, hf⟩ := bd_s hf
      refine n_callVl hC hw fc_Firmware_82 (c_Store_getLow l g E hEe d_o d_words_a d_words_n d_length d_words v19 4 N u20 hu20) [1, 2] (wd_Firmware_hasGoodEntries g t_o d_o d_words_a u_o u_shifted_a r_o t_loaderSectors_a t_chain_a d_words_n t_sectors t_tableSectors t_clusters t_tried t_header t_bootStart t_kernelAddress t_kernelSize d_length d_words u_bits u_shifted) 1 rfl ⟨rfl, rfl⟩ ⟨Nat.le_of_ble_eq_true rfl, Nat.le_of_ble_eq_true rfl⟩ rfl (At_.cons rfl (At_.cons rfl At_.nil)) (At_.cons rfl (At_.cons rfl At_.nil)) Sm_.refl rfl hl.1 (Nat.le_of_ble_eq_true rfl) ⟨Nat.zero_le _, Nat.zero_le _⟩ d_Firmware_hasGoodEntries_44 (fun H locs hw => ?_) rfl
      refine n_l2i hC hf d_Firmware_hasGoodEntries_47 (fun v21 hf => ?_)
      refine n_istore hC [(4, .int v21), (2, .long u14), (0, .ref t_o), (1, .int a1)] hl d_Firmware_hasGoodEntries_48 (by decide) rfl (fun ls hl => ?_)
      refine n_iload hC hl 0 d_Firmware_hasGoodEntries_50 rfl ?_
      refine n_aload_n hC hl 2 d_Firmware_hasGoodEntries_52 rfl rfl ?_
      refine n_get hC hw fg_Firmware_41 0 rfl rfl d_Firmware_hasGoodEntries_53 ?_
      refine n_aload_n hC hl 2 d_Firmware_hasGoodEntries_56 rfl rfl ?_
      refine n_get hC hw fg_Firmware_35 0 rfl rfl d_Firmware_hasGoodEntries_57 ?_
      refine n_lload_n hC hl 1 d_Firmware_hasGoodEntries_60 rfl rfl ?_
      refine n_l2i hC hf d_Firmware_hasGoodEntries_61 (fun v22 hf => ?_)
      refine n_sipush hC 512 d_Firmware_hasGoodEntries_62 (by decide) ?_
      refine n_imul hC hf d_Firmware_hasGoodEntries_65 (fun v23 hf => ?_)
      refine n_sipush hC 16384 d_Firmware_hasGoodEntries_66 (by decide) ?_
      obtain ⟨u24, hu24, hf⟩ := bd_s hf
      refine n_callVi hC hw fc_Firmware_109 (c_Sums_over l g E hEe u_o u_shifted_a d_o d_words_a d_words_n u_bits u_shifted d_length d_words v23 16384 N u24 hu24) [3, 4, 1, 2] (wd_Firmware_hasGoodEntries g t_o d_o d_words_a u_o u_shifted_a r_o t_loaderSectors_a t_chain_a d_words_n t_sectors t_tableSectors t_clusters t_tried t_header t_bootStart t_kernelAddress t_kernelSize d_length d_words u24.2 u_shifted) 3 rfl ⟨rfl, rfl⟩ ⟨Nat.le_of_ble_eq_true rfl, Nat.le_of_ble_eq_true rfl⟩ rfl (At_.cons rfl (At_.cons rfl (At_.cons rfl (At_.cons rfl At_.nil)))) (At_.cons rfl (At_.cons rfl (At_.cons rfl (At_.cons rfl At_.nil)))) (Sm_.keep (Sm_.keep (Sm_.keep (Sm_.upd rfl (Sm_.keep Sm_.nil))))) rfl hl.1 (Nat.le_of_ble_eq_true rfl) ⟨Nat.zero_le _, Nat.zero_le _⟩ d_Firmware_hasGoodEntries_69 (fun H locs hw => ?_) rfl
      refine n_icmp_ne hC hf 79 d_Firmware_hasGoodEntries_72 (by decide) (fun hf => ?_) (fun hf => ?_)
      · refine n_iconst hC 0 d_Firmware_hasGoodEntries_79 (by decide) ?_
        cases hf
        exact hret _ _ _ _ hw (show narrow .boolean (Value.int 0) = Value.int 0 from rfl) d_Firmware_hasGoodEntries_80
      · refine n_iconst hC 1 d_Firmware_hasGoodEntries_75 (by decide) ?_
        refine n_goto hC 80 d_Firmware_hasGoodEntries_76 (by decide) ?_
        cases hf
        exact hret _ _ _ _ hw (show narrow .boolean (Value.int 1) = Value.int 1 from rfl) d_Firmware_hasGoodEntries_80
    · refine n_iconst hC 0 d_Firmware_hasGoodEntries_33 (by decide) ?_
      cases hf
      exact hret _ _ _ _ hw (show narrow .boolean (Value.int 0) = Value.int 0 from rfl) d_Firmware_hasGoodEntries_34
def wd_Firmware_isGoodHeader (g : GT) (t_o : Nat) (d_o : Nat) (d_words_a : Nat) (u_o : Nat) (u_shifted_a : Nat) (r_o : Nat) (t_loaderSectors_a : Nat) (t_chain_a : Nat) (d_words_n : Nat) (t_sectors : Int32) (t_tableSectors : Int32) (t_clusters : Int32) (t_tried : Int32) (t_header : Int32) (t_bootStart : Int32) (t_kernelAddress : Int32) (t_kernelSize : Int32) (d_length : Int32) (d_words : Nat → Int64) (u_bits : Int32) (u_shifted : Nat → Int32) : va_W := [(t_o, .inr (5, [.ref r_o, .ref d_o, .int t_sectors, .ref u_o, .ref t_loaderSectors_a, .ref t_chain_a, .int t_tableSectors, .int t_clusters, .int t_tried, .int t_header, .int t_bootStart, .int t_kernelAddress, .int t_kernelSize])), (d_o, .inr (0, [.int d_length, .ref d_words_a])), (d_words_a, .inl (g.2.2.1, d_words_n, .inr (.inl d_words))), (u_o, .inr (1, [.ref u_shifted_a, .int u_bits])), (u_shifted_a, .inl (g.2.1, 256, .inl u_shifted))]
def f_Firmware_isGoodHeader (N : Nat) (a1 : Int32) (d_length : Int32) (d_words_n : Nat) (d_words : Nat → Int64) (u_bits : Int32) (u_shifted : Nat → Int32) (t_sectors : Int32) : Option (Int32 × Int32) :=
  lt_ (a1 * 512) (fun v21 => bd_ (f_Store_holdsRow N 8 v21 d_length d_words_n d_words (tVal 2)) (fun u22 => if u22 = 0 then some (0, u_bits) else lt_ (v21 + 12) (fun v23 => bd_ (f_Store_getLow N 4 v23 d_length d_words_n d_words) (fun u24 => lt_ (lg_cmp u24 92) (fun v25 => if ¬ v25 = 0 then some (0, u_bits) else lt_ (v21 + 24) (fun v26 => bd_ (f_Store_getLow N 8 v26 d_length d_words_n d_words) (fun u27 => lt_ (a1.toInt64) (fun v28 => lt_ (lg_cmp u27 v28) (fun v29 => if ¬ v29 = 0 then some (0, u_bits) else lt_ (v21 + 80) (fun v30 => bd_ (f_Store_getLow N 4 v30 d_length d_words_n d_words) (fun u31 => lt_ (lg_cmp u31 128) (fun v32 => if ¬ v32 = 0 then some (0, u_bits) else lt_ (v21 + 84) (fun v33 => bd_ (f_Store_getLow N 4 v33 d_length d_words_n d_words) (fun u34 => lt_ (lg_cmp u34 128) (fun v35 => if ¬ v35 = 0 then some (0, u_bits) else lt_ (v21 + 16) (fun v36 => bd_ (f_Store_getLow N 4 v36 d_length d_words_n d_words) (fun u37 => lt_ (u37.toInt32) (fun v38 => bd_ (f_Sums_overHeader N u_shifted v21 d_length d_words_n d_words) (fun u39 => if ¬ v38 = u39.1 then some (0, u39.2) else bd_ (f_Firmware_hasGoodEntries N v21 d_length d_words_n d_words u39.2 t_sectors u_shifted) (fun u40 => if u40.1 = 0 then some (0, u40.2) else some (1, u40.2)))))))))))))))))))))
def rm_Firmware_isGoodHeader : Room := { frames := 3, cells := 0, slots := 0, locals := 70 }
set_option maxHeartbeats 4000000 in
set_option maxRecDepth 100000 in
theorem c_Firmware_isGoodHeader (l : Launch) (g : GT) (E : (Nat → Prop) → State → Prop) (hEe : Ee E) (X : XT) (hS : ∀ (A : Nat → Prop) (u : State), E A u → SS X A u) (t_o : Nat) (d_o : Nat) (d_words_a : Nat) (u_o : Nat) (u_shifted_a : Nat) (r_o : Nat) (t_loaderSectors_a : Nat) (t_chain_a : Nat) (d_words_n : Nat) (t_sectors : Int32) (t_tableSectors : Int32) (t_clusters : Int32) (t_tried : Int32) (t_header : Int32) (t_bootStart : Int32) (t_kernelAddress : Int32) (t_kernelSize : Int32) (d_length : Int32) (d_words : Nat → Int64) (u_bits : Int32) (u_shifted : Nat → Int32) (a1 : Int32) (N : Nat) (z : Int32 × Int32) (hf : f_Firmware_isGoodHeader N a1 d_length d_words_n d_words u_bits u_shifted t_sectors = some z) : Cg l g E y_Firmware_isGoodHeader ws_Firmware_isGoodHeader rm_Firmware_isGoodHeader [.ref t_o, .int a1] (wd_Firmware_isGoodHeader g t_o d_o d_words_a u_o u_shifted_a r_o t_loaderSectors_a t_chain_a d_words_n t_sectors t_tableSectors t_clusters t_tried t_header t_bootStart t_kernelAddress t_kernelSize d_length d_words u_bits u_shifted) (some (.int z.1)) (wd_Firmware_isGoodHeader g t_o d_o d_words_a u_o u_shifted_a r_o t_loaderSectors_a t_chain_a d_words_n t_sectors t_tableSectors t_clusters t_tried t_header t_bootStart t_kernelAddress t_kernelSize d_length d_words z.2 u_shifted) := by
  refine Ct.ofI hEe good_W (by decide) rfl (Nat.le_of_ble_eq_true rfl) ?_
  intro p e s m args below meth c A ls Q hC hw hl hret
  have hC : CX p m c b_Firmware_isGoodHeader 3 s args Wall R_Firmware g.1 classes (tK g) E A := hC
  have hl : lv_has ls 3 [(0, .ref t_o), (1, .int a1)] := hl
  unfold f_Firmware_isGoodHeader at hf
  refine n_iload_n hC hl 1 d_Firmware_isGoodHeader_0 rfl rfl ?_
  refine n_sipush hC 512 d_Firmware_isGoodHeader_1 (by decide) ?_
  refine n_imul hC hf d_Firmware_isGoodHeader_4 (fun v21 hf => ?_)
  refine n_istore_n hC [(2, .int v21), (0, .ref t_o), (1, .int a1)] hl d_Firmware_isGoodHeader_5 rfl (by decide) rfl (fun ls hl => ?_)
  refine n_aload_n hC hl 1 d_Firmware_isGoodHeader_6 rfl rfl ?_
  refine n_get hC hw fg_Firmware_35 0 rfl rfl d_Firmware_isGoodHeader_7 ?_
  refine n_iload_n hC hl 0 d_Firmware_isGoodHeader_10 rfl rfl ?_
  refine n_getsN hC hw (fun A u h => ((hS A u h).2.2.1 2 (by decide)).1) (fun A u h => (hS A u h).2.2.2 4 (by decide)) d_Firmware_isGoodHeader_11 ?_
  obtain ⟨u22, hu22, hf⟩ := bd_s hf
  refine n_callVi hC hw fc_Firmware_92 (c_Store_holdsRow l g E hEe (X.1 2) 8 (tVal 2) (fun A u h => ((hS A u h).2.2.1 2 (by decide)).2) d_o d_words_a d_words_n d_length d_words v21 N u22 hu22) [1, 2] (wd_Firmware_isGoodHeader g t_o d_o d_words_a u_o u_shifted_a r_o t_loaderSectors_a t_chain_a d_words_n t_sectors t_tableSectors t_clusters t_tried t_header t_bootStart t_kernelAddress t_kernelSize d_length d_words u_bits u_shifted) 1 rfl ⟨rfl, rfl⟩ ⟨Nat.le_of_ble_eq_true rfl, Nat.le_of_ble_eq_true rfl⟩ rfl (At_.cons rfl (At_.cons rfl At_.nil)) (At_.cons rfl (At_.cons rfl At_.nil)) Sm_.refl rfl hl.1 (Nat.le_of_ble_eq_true rfl) ⟨Nat.zero_le _, Nat.zero_le _⟩ d_Firmware_isGoodHeader_14 (fun H locs hw => ?_) rfl
  refine n_if_eq hC hf 136 d_Firmware_isGoodHeader_17 (by decide) (fun hf => ?_) (fun hf => ?_)
  · refine n_iconst hC 0 d_Firmware_isGoodHeader_136 (by decide) ?_
    cases hf
    exact hret _ _ _ _ hw (show narrow .boolean (Value.int 0) = Value.int 0 from rfl) d_Firmware_isGoodHeader_137
  · refine n_aload_n hC hl 1 d_Firmware_isGoodHeader_20 rfl rfl ?_
    refine n_get hC hw fg_Firmware_35 0 rfl rfl d_Firmware_isGoodHeader_21 ?_
    refine n_iload_n hC hl 0 d_Firmware_isGoodHeader_24 rfl rfl ?_
    refine n_bipush hC 12 d_Firmware_isGoodHeader_25 (by decide) ?_
    refine n_iadd hC hf d_Firmware_isGoodHeader_27 (fun v23 hf => ?_)
    refine n_iconst hC 4 d_Firmware_isGoodHeader_28 (by decide) ?_
    obtain ⟨u24, hu24, hf⟩ := bd_s hf
    refine n_callVl hC hw fc_Firmware_82 (c_Store_getLow l g E hEe d_o d_words_a d_words_n d_length d_words v23 4 N u24 hu24) [1, 2] (wd_Firmware_isGoodHeader g t_o d_o d_words_a u_o u_shifted_a r_o t_loaderSectors_a t_chain_a d_words_n t_sectors t_tableSectors t_clusters t_tried t_header t_bootStart t_kernelAddress t_kernelSize d_length d_words u_bits u_shifted) 1 rfl ⟨rfl, rfl⟩ ⟨Nat.le_of_ble_eq_true rfl, Nat.le_of_ble_eq_true rfl⟩ rfl (At_.cons rfl (At_.cons rfl At_.nil)) (At_.cons rfl (At_.cons rfl At_.nil)) Sm_.refl rfl hl.1 (Nat.le_of_ble_eq_true rfl) ⟨Nat.zero_le _, Nat.zero_le _⟩ d_Firmware_isGoodHeader_29 (fun H locs hw => ?_) rfl
    refine n_ldc2 hC 92 kc_Firmware_96 d_Firmware_isGoodHeader_32 ?_
    refine n_lcmp hC hf d_Firmware_isGoodHeader_35 (fun v25 hf => ?_)
    refine n_if_ne hC hf 136 d_Firmware_isGoodHeader_36 (by decide) (fun hf => ?_) (fun hf => ?_)
    · refine n_iconst hC 0 d_Firmware_isGoodHeader_136 (by decide) ?_
      cases hf
      exact hret _ _ _ _ hw (show narrow .boolean (Value.int 0) = Value.int 0 from rfl) d_Firmware_isGoodHeader_137
    · refine n_aload_n hC hl 1 d_Firmware_isGoodHeader_39 rfl rfl ?_
      refine n_get hC hw fg_Firmware_35 0 rfl rfl d_Firmware_isGoodHeader_40 ?_
      refine n_iload_n hC hl 0 d_Firmware_isGoodHeader_43 rfl rfl ?_
      refine n_bipush hC 24 d_Firmware_isGoodHeader_44 (by decide) ?_
      refine n_iadd hC hf d_Firmware_isGoodHeader_46 (fun v26 hf => ?_)
      refine n_bipush hC 8 d_Firmware_isGoodHeader_47 (by decide) ?_
      obtain ⟨u27, hu27, hf⟩ := bd_s hf
      refine n_callVl hC hw fc_Firmware_82 (c_Store_getLow l g E hEe d_o d_words_a d_words_n d_length d_words v26 8 N u27 hu27) [1, 2] (wd_Firmware_isGoodHeader g t_o d_o d_words_a u_o u_shifted_a r_o t_loaderSectors_a t_chain_a d_words_n t_sectors t_tableSectors t_clusters t_tried t_header t_bootStart t_kernelAddress t_kernelSize d_length d_words u_bits u_shifted) 1 rfl ⟨rfl, rfl⟩ ⟨Nat.le_of_ble_eq_true rfl, Nat.le_of_ble_eq_true rfl⟩ rfl (At_.cons rfl (At_.cons rfl At_.nil)) (At_.cons rfl (At_.cons rfl At_.nil)) Sm_.refl rfl hl.1 (Nat.le_of_ble_eq_true rfl) ⟨Nat.zero_le _, Nat.zero_le _⟩ d_Firmware_isGoodHeader_49 (fun H locs hw => ?_) rfl
      refine n_iload_n hC hl 2 d_Firmware_isGoodHeader_52 rfl rfl ?_
      refine n_i2l hC hf d_Firmware_isGoodHeader_53 (fun v28 hf => ?_)
      refine n_lcmp hC hf d_Firmware_isGoodHeader_54 (fun v29 hf => ?_)
      refine n_if_ne hC hf 136 d_Firmware_isGoodHeader_55 (by decide) (fun hf => ?_) (fun hf => ?_)
      · refine n_iconst hC 0 d_Firmware_isGoodHeader_136 (by decide) ?_
        cases hf
        exact hret _ _ _ _ hw (show narrow .boolean (Value.int 0) = Value.int 0 from rfl) d_Firmware_isGoodHeader_137
      · refine n_aload_n hC hl 1 d_Firmware_isGoodHeader_58 rfl rfl ?_
        refine n_get hC hw fg_Firmware_35 0 rfl rfl d_Firmware_isGoodHeader_59 ?_
        refine n_iload_n hC hl 0 d_Firmware_isGoodHeader_62 rfl rfl ?_
        refine n_bipush hC 80 d_Firmware_isGoodHeader_63 (by decide) ?_
        refine n_iadd hC hf d_Firmware_isGoodHeader_65 (fun v30 hf => ?_)
        refine n_iconst hC 4 d_Firmware_isGoodHeader_66 (by decide) ?_
        obtain ⟨u31, hu31, hf⟩ := bd_s hf
        refine n_callVl hC hw fc_Firmware_82 (c_Store_getLow l g E hEe d_o d_words_a d_words_n d_length d_words v30 4 N u31 hu31) [1, 2] (wd_Firmware_isGoodHeader g t_o d_o d_words_a u_o u_shifted_a r_o t_loaderSectors_a t_chain_a d_words_n t_sectors t_tableSectors t_clusters t_tried t_header t_bootStart t_kernelAddress t_kernelSize d_length d_words u_bits u_shifted) 1 rfl ⟨rfl, rfl⟩ ⟨Nat.le_of_ble_eq_true rfl, Nat.le_of_ble_eq_true rfl⟩ rfl (At_.cons rfl (At_.cons rfl At_.nil)) (At_.cons rfl (At_.cons rfl At_.nil)) Sm_.refl rfl hl.1 (Nat.le_of_ble_eq_true rfl) ⟨Nat.zero_le _, Nat.zero_le _⟩ d_Firmware_isGoodHeader_67 (fun H locs hw => ?_) rfl
        refine n_ldc2 hC 128 kc_Firmware_98 d_Firmware_isGoodHeader_70 ?_
        refine n_lcmp hC hf d_Firmware_isGoodHeader_73 (fun v32 hf => ?_)
        refine n_if_ne hC hf 136 d_Firmware_isGoodHeader_74 (by decide) (fun hf => ?_) (fun hf => ?_)
        · refine n_iconst hC 0 d_Firmware_isGoodHeader_136 (by decide) ?_
          cases hf
          exact hret _ _ _ _ hw (show narrow .boolean (Value.int 0) = Value.int 0 from rfl) d_Firmware_isGoodHeader_137
        · refine n_aload_n hC hl 1 d_Firmware_isGoodHeader_77 rfl rfl ?_
          refine n_get hC hw fg_Firmware_35 0 rfl rfl d_Firmware_isGoodHeader_78 ?_
          refine n_iload_n hC hl 0 d_Firmware_isGoodHeader_81 rfl rfl ?_
          refine n_bipush hC 84 d_Firmware_isGoodHeader_82 (by decide) ?_
          refine n_iadd hC hf d_Firmware_isGoodHeader_84 (fun v33 hf => ?_)
          refine n_iconst hC 4 d_Firmware_isGoodHeader_85 (by decide) ?_
          obtain ⟨u34, hu34, hf⟩ := bd_s hf
          refine n_callVl hC hw fc_Firmware_82 (c_Store_getLow l g E hEe d_o d_words_a d_words_n d_length d_words v33 4 N u34 hu34) [1, 2] (wd_Firmware_isGoodHeader g t_o d_o d_words_a u_o u_shifted_a r_o t_loaderSectors_a t_chain_a d_words_n t_sectors t_tableSectors t_clusters t_tried t_header t_bootStart t_kernelAddress t_kernelSize d_length d_words u_bits u_shifted) 1 rfl ⟨rfl, rfl⟩ ⟨Nat.le_of_ble_eq_true rfl, Nat.le_of_ble_eq_true rfl⟩ rfl (At_.cons rfl (At_.cons rfl At_.nil)) (At_.cons rfl (At_.cons rfl At_.nil)) Sm_.refl rfl hl.1 (Nat.le_of_ble_eq_true rfl) ⟨Nat.zero_le _, Nat.zero_le _⟩ d_Firmware_isGoodHeader_86 (fun H locs hw => ?_) rfl
          refine n_ldc2 hC 128 kc_Firmware_98 d_Firmware_isGoodHeader_89 ?_
          refine n_lcmp hC hf d_Firmware_isGoodHeader_92 (fun v35 hf => ?_)
          refine n_if_ne hC hf 136 d_Firmware_isGoodHeader_93 (by decide) (fun hf => ?_) (fun hf => ?_)
          · refine n_iconst hC 0 d_Firmware_isGoodHeader_136 (by decide) ?_
            cases hf
            exact hret _ _ _ _ hw (show narrow .boolean (Value.int 0) = Value.int 0 from rfl) d_Firmware_isGoodHeader_137
          · refine n_aload_n hC hl 1 d_Firmware_isGoodHeader_96 rfl rfl ?_
            refine n_get hC hw fg_Firmware_35 0 rfl rfl d_Firmware_isGoodHeader_97 ?_
            refine n_iload_n hC hl 0 d_Firmware_isGoodHeader_100 rfl rfl ?_
            refine n_bipush hC 16 d_Firmware_isGoodHeader_101 (by decide) ?_
            refine n_iadd hC hf d_Firmware_isGoodHeader_103 (fun v36 hf => ?_)
            refine n_iconst hC 4 d_Firmware_isGoodHeader_104 (by decide) ?_
            obtain ⟨u37, hu37, hf⟩ := bd_s hf
            refine n_callVl hC hw fc_Firmware_82 (c_Store_getLow l g E hEe d_o d_words_a d_words_n d_length d_words v36 4 N u37 hu37) [1, 2] (wd_Firmware_isGoodHeader g t_o d_o d_words_a u_o u_shifted_a r_o t_loaderSectors_a t_chain_a d_words_n t_sectors t_tableSectors t_clusters t_tried t_header t_bootStart t_kernelAddress t_kernelSize d_length d_words u_bits u_shifted) 1 rfl ⟨rfl, rfl⟩ ⟨Nat.le_of_ble_eq_true rfl, Nat.le_of_ble_eq_true rfl⟩ rfl (At_.cons rfl (At_.cons rfl At_.nil)) (At_.cons rfl (At_.cons rfl At_.nil)) Sm_.refl rfl hl.1 (Nat.le_of_ble_eq_true rfl) ⟨Nat.zero_le _, Nat.zero_le _⟩ d_Firmware_isGoodHeader_105 (fun H locs hw => ?_) rfl
            refine n_l2i hC hf d_Firmware_isGoodHeader_108 (fun v38 hf => ?_)
            refine n_aload_n hC hl 1 d_Firmware_isGoodHeader_109 rfl rfl ?_
            refine n_get hC hw fg_Firmware_41 0 rfl rfl d_Firmware_isGoodHeader_110 ?_
            refine n_aload_n hC hl 1 d_Firmware_isGoodHeader_113 rfl rfl ?_
            refine n_get hC hw fg_Firmware_35 0 rfl rfl d_Firmware_isGoodHeader_114 ?_
            refine n_iload_n hC hl 0 d_Firmware_isGoodHeader_117 rfl rfl ?_
            obtain ⟨u39, hu39, hf⟩ := bd_s hf
            refine n_callVi hC hw fc_Firmware_100 (c_Sums_overHeader l g E hEe u_o u_shifted_a d_o d_words_a d_words_n u_bits u_shifted d_length d_words v21 N u39 hu39) [3, 4, 1, 2] (wd_Firmware_isGoodHeader g t_o d_o d_words_a u_o u_shifted_a r_o t_loaderSectors_a t_chain_a d_words_n t_sectors t_tableSectors t_clusters t_tried t_header t_bootStart t_kernelAddress t_kernelSize d_length d_words u39.2 u_shifted) 3 rfl ⟨rfl, rfl⟩ ⟨Nat.le_of_ble_eq_true rfl, Nat.le_of_ble_eq_true rfl⟩ rfl (At_.cons rfl (At_.cons rfl (At_.cons rfl (At_.cons rfl At_.nil)))) (At_.cons rfl (At_.cons rfl (At_.cons rfl (At_.cons rfl At_.nil)))) (Sm_.keep (Sm_.keep (Sm_.keep (Sm_.upd rfl (Sm_.keep Sm_.nil))))) rfl hl.1 (Nat.le_of_ble_eq_true rfl) ⟨Nat.zero_le _, Nat.zero_le _⟩ d_Firmware_isGoodHeader_118 (fun H locs hw => ?_) rfl
            refine n_icmp_ne hC hf 136 d_Firmware_isGoodHeader_121 (by decide) (fun hf => ?_) (fun hf => ?_)
            · refine n_iconst hC 0 d_Firmware_isGoodHeader_136 (by decide) ?_
              cases hf
              exact hret _ _ _ _ hw (show narrow .boolean (Value.int 0) = Value.int 0 from rfl) d_Firmware_isGoodHeader_137
            · refine n_aload_n hC hl 1 d_Firmware_isGoodHeader_124 rfl rfl ?_
              refine n_iload_n hC hl 0 d_Firmware_isGoodHeader_125 rfl rfl ?_
              obtain ⟨u40, hu40, hf⟩ := bd_s hf
              refine n_callVi hC hw fc_Firmware_106 (c_Firmware_hasGoodEntries l g E hEe t_o d_o d_words_a u_o u_shifted_a r_o t_loaderSectors_a t_chain_a d_words_n t_sectors t_tableSectors t_clusters t_tried t_header t_bootStart t_kernelAddress t_kernelSize d_length d_words u39.2 u_shifted v21 N u40 hu40) [0, 1, 2, 3, 4] (wd_Firmware_isGoodHeader g t_o d_o d_words_a u_o u_shifted_a r_o t_loaderSectors_a t_chain_a d_words_n t_sectors t_tableSectors t_clusters t_tried t_header t_bootStart t_kernelAddress t_kernelSize d_length d_words u40.2 u_shifted) 0 rfl ⟨rfl, rfl⟩ ⟨Nat.le_of_ble_eq_true rfl, Nat.le_of_ble_eq_true rfl⟩ rfl (At_.cons rfl (At_.cons rfl (At_.cons rfl (At_.cons rfl (At_.cons rfl At_.nil))))) (At_.cons rfl (At_.cons rfl (At_.cons rfl (At_.cons rfl (At_.cons rfl At_.nil))))) (Sm_.keep (Sm_.keep (Sm_.keep (Sm_.upd rfl (Sm_.keep Sm_.nil))))) rfl hl.1 (Nat.le_of_ble_eq_true rfl) ⟨Nat.zero_le _, Nat.zero_le _⟩ d_Firmware_isGoodHeader_126 (fun H locs hw => ?_) rfl
              refine n_if_eq hC hf 136 d_Firmware_isGoodHeader_129 (by decide) (fun hf => ?_) (fun hf => ?_)
              · refine n_iconst hC 0 d_Firmware_isGoodHeader_136 (by decide) ?_
                cases hf
                exact hret _ _ _ _ hw (show narrow .boolean (Value.int 0) = Value.int 0 from rfl) d_Firmware_isGoodHeader_137
              · refine n_iconst hC 1 d_Firmware_isGoodHeader_132 (by decide) ?_
                refine n_goto hC 137 d_Firmware_isGoodHeader_133 (by decide) ?_
                cases hf
                exact hret _ _ _ _ hw (show narrow .boolean (Value.int 1) = Value.int 1 from rfl) d_Firmware_isGoodHeader_137
def wd_Firmware_bootStartIn (g : GT) (t_o : Nat) (d_o : Nat) (d_words_a : Nat) (r_o : Nat) (u_o : Nat) (t_loaderSectors_a : Nat) (t_chain_a : Nat) (d_words_n : Nat) (t_sectors : Int32) (t_tableSectors : Int32) (t_clusters : Int32) (t_tried : Int32) (t_header : Int32) (t_bootStart : Int32) (t_kernelAddress : Int32) (t_kernelSize : Int32) (d_length : Int32) (d_words : Nat → Int64) : va_W := [(t_o, .inr (5, [.ref r_o, .ref d_o, .int t_sectors, .ref u_o, .ref t_loaderSectors_a, .ref t_chain_a, .int t_tableSectors, .int t_clusters, .int t_tried, .int t_header, .int t_bootStart, .int t_kernelAddress, .int t_kernelSize])), (d_o, .inr (0, [.int d_length, .ref d_words_a])), (d_words_a, .inl (g.2.2.1, d_words_n, .inr (.inl d_words)))]
def f_Firmware_bootStartIn_L2 (N : Nat) (a1 : Int32) (d_length : Int32) (d_words_n : Nat) (d_words : Nat → Int64) (t_sectors : Int32) (k2 : Int32 → Option (Int32)) (x66 : Int32) : Option (Int32) :=
  if (128 : Int32) ≤ x66 then some ((-1)) else lt_ (x66 * 128) (fun v83 => lt_ (a1 + v83) (fun v84 => bd_ (f_Store_holdsRow N 16 v84 d_length d_words_n d_words (tVal 0)) (fun u85 => lt_ (lt_ (x66 + 1) (fun v95 => k2 v95)) (fun (j91 : Option (Int32)) => if u85 = 0 then j91 else lt_ (v84 + 32) (fun v96 => bd_ (f_Store_getLow N 8 v96 d_length d_words_n d_words) (fun u97 => lt_ (v84 + 40) (fun v98 => bd_ (f_Store_getLow N 8 v98 d_length d_words_n d_words) (fun u99 => lt_ (lg_cmp u97 0) (fun v100 => if v100 < 0 then j91 else lt_ (lg_cmp u97 u99) (fun v101 => if 0 < v101 then j91 else lt_ (t_sectors.toInt64) (fun v102 => lt_ (lg_cmp u99 v102) (fun v103 => if 0 ≤ v103 then j91 else lt_ (u97.toInt32) (fun v104 => some (v104))))))))))))))
def f_Firmware_bootStartIn (N : Nat) (a1 : Int32) (d_length : Int32) (d_words_n : Nat) (d_words : Nat → Int64) (t_sectors : Int32) : Option (Int32) :=
  lp_ (fun _ => none) (f_Firmware_bootStartIn_L2 N a1 d_length d_words_n d_words t_sectors) N 0
def rm_Firmware_bootStartIn : Room := { frames := 2, cells := 0, slots := 0, locals := 46 }
set_option maxHeartbeats 4000000 in
set_option maxRecDepth 100000 in
theorem c_Firmware_bootStartIn (l : Launch) (g : GT) (E : (Nat → Prop) → State → Prop) (hEe : Ee E) (X : XT) (hS : ∀ (A : Nat → Prop) (u : State), E A u → SS X A u) (t_o : Nat) (d_o : Nat) (d_words_a : Nat) (r_o : Nat) (u_o : Nat) (t_loaderSectors_a : Nat) (t_chain_a : Nat) (d_words_n : Nat) (t_sectors : Int32) (t_tableSectors : Int32) (t_clusters : Int32) (t_tried : Int32) (t_header : Int32) (t_bootStart : Int32) (t_kernelAddress : Int32) (t_kernelSize : Int32) (d_length : Int32) (d_words : Nat → Int64) (a1 : Int32) (N : Nat) (z : Int32) (hf : f_Firmware_bootStartIn N a1 d_length d_words_n d_words t_sectors = some z) : Cg l g E y_Firmware_bootStartIn ws_Firmware_bootStartIn rm_Firmware_bootStartIn [.ref t_o, .int a1] (wd_Firmware_bootStartIn g t_o d_o d_words_a r_o u_o t_loaderSectors_a t_chain_a d_words_n t_sectors t_tableSectors t_clusters t_tried t_header t_bootStart t_kernelAddress t_kernelSize d_length d_words) (some (.int z)) (wd_Firmware_bootStartIn g t_o d_o d_words_a r_o u_o t_loaderSectors_a t_chain_a d_words_n t_sectors t_tableSectors t_clusters t_tried t_header t_bootStart t_kernelAddress t_kernelSize d_length d_words) := by
  refine Ct.ofI hEe good_W (by decide) rfl (Nat.le_of_ble_eq_true rfl) ?_
  intro p e s m args below meth c A ls Q hC hw hl hret
  have hC : CX p m c b_Firmware_bootStartIn 8 s args Wall R_Firmware g.1 classes (tK g) E A := hC
  have hl : lv_has ls 8 [(0, .ref t_o), (1, .int a1)] := hl
  unfold f_Firmware_bootStartIn at hf
  refine n_iconst hC 0 d_Firmware_bootStartIn_0 (by decide) ?_
  refine n_istore_n hC [(2, .int 0), (0, .ref t_o), (1, .int a1)] hl d_Firmware_bootStartIn_1 rfl (by decide) rfl (fun ls hl => ?_)
  have hL2 := lw1 (B := f_Firmware_bootStartIn_L2 N a1 d_length d_words_n d_words t_sectors) (z := z) (fun (x66 : Int32) => ∀ (H : Heap) (locs : List Loc) (ls : Array Slot), WS g.1 classes A s.heap H locs (wd_Firmware_bootStartIn g t_o d_o d_words_a r_o u_o t_loaderSectors_a t_chain_a d_words_n t_sectors t_tableSectors t_clusters t_tried t_header t_bootStart t_kernelAddress t_kernelSize d_length d_words) → lv_has ls 8 [(2, .int x66), (0, .ref t_o), (1, .int a1)] → W p l e rm_Firmware_bootStartIn s m args below meth c H locs 0 0 Q (F0 m 2 ls [])) (by
    intro k2 hk2 x66 hf H locs ls hw hl
    unfold f_Firmware_bootStartIn_L2 at hf
    refine n_iload_n hC hl 0 d_Firmware_bootStartIn_2 rfl rfl ?_
    refine n_sipush hC 128 d_Firmware_bootStartIn_3 (by decide) ?_
    refine n_icmp_ge hC hf 97 d_Firmware_bootStartIn_6 (by decide) (fun hf => ?_) (fun hf => ?_)
    · refine n_iconst hC (-1) d_Firmware_bootStartIn_97 (by decide) ?_
      cases hf
      exact hret _ _ _ _ hw rfl d_Firmware_bootStartIn_98
    · refine n_iload_n hC hl 2 d_Firmware_bootStartIn_9 rfl rfl ?_
      refine n_iload_n hC hl 0 d_Firmware_bootStartIn_10 rfl rfl ?_
      refine n_sipush hC 128 d_Firmware_bootStartIn_11 (by decide) ?_
      refine n_imul hC hf d_Firmware_bootStartIn_14 (fun v83 hf => ?_)
      refine n_iadd hC hf d_Firmware_bootStartIn_15 (fun v84 hf => ?_)
      refine n_istore_n hC [(3, .int v84), (2, .int x66), (0, .ref t_o), (1, .int a1)] hl d_Firmware_bootStartIn_16 rfl (by decide) rfl (fun ls hl => ?_)
      refine n_aload_n hC hl 2 d_Firmware_bootStartIn_17 rfl rfl ?_
      refine n_get hC hw fg_Firmware_35 0 rfl rfl d_Firmware_bootStartIn_18 ?_
      refine n_iload_n hC hl 0 d_Firmware_bootStartIn_21 rfl rfl ?_
      refine n_getsN hC hw (fun A u h => ((hS A u h).2.2.1 0 (by decide)).1) (fun A u h => (hS A u h).2.2.2 5 (by decide)) d_Firmware_bootStartIn_22 ?_
      obtain ⟨u85, hu85, hf⟩ := bd_s hf
      refine n_callVi hC hw fc_Firmware_92 (c_Store_holdsRow l g E hEe (X.1 0) 16 (tVal 0) (fun A u h => ((hS A u h).2.2.1 0 (by decide)).2) d_o d_words_a d_words_n d_length d_words v84 N u85 hu85) [1, 2] (wd_Firmware_bootStartIn g t_o d_o d_words_a r_o u_o t_loaderSectors_a t_chain_a d_words_n t_sectors t_tableSectors t_clusters t_tried t_header t_bootStart t_kernelAddress t_kernelSize d_length d_words) 1 rfl ⟨rfl, rfl⟩ ⟨Nat.le_of_ble_eq_true rfl, Nat.le_of_ble_eq_true rfl⟩ rfl (At_.cons rfl (At_.cons rfl At_.nil)) (At_.cons rfl (At_.cons rfl At_.nil)) Sm_.refl rfl hl.1 (Nat.le_of_ble_eq_true rfl) ⟨Nat.zero_le _, Nat.zero_le _⟩ d_Firmware_bootStartIn_25 (fun H locs hw => ?_) rfl
      refine jn0 (∀ (H : Heap) (locs : List Loc) (ls : Array Slot), WS g.1 classes A s.heap H locs (wd_Firmware_bootStartIn g t_o d_o d_words_a r_o u_o t_loaderSectors_a t_chain_a d_words_n t_sectors t_tableSectors t_clusters t_tried t_header t_bootStart t_kernelAddress t_kernelSize d_length d_words) → lv_has ls 8 [(2, .int x66), (0, .ref t_o), (1, .int a1)] → W p l e rm_Firmware_bootStartIn s m args below meth c H locs 0 0 Q (F0 m 91 ls [])) hf (fun hf H locs ls hw hl => ?_) (fun j91 hj91 hf => ?_)
      · refine n_iinc hC (k := 0) hf (by decide) (fun v95 => [(2, .int v95), (0, .ref t_o), (1, .int a1)]) hl d_Firmware_bootStartIn_91 rfl (by decide) (fun _ => rfl) (fun v95 ls hf hl => ?_)
        refine n_goto hC 2 d_Firmware_bootStartIn_94 (by decide) ?_
        exact hk2 _ hf _ _ _ hw (lv_sub hl [0, 1, 2] rfl)
      refine n_if_eq hC hf 91 d_Firmware_bootStartIn_28 (by decide) (fun hf => ?_) (fun hf => ?_)
      · exact hj91 hf _ _ _ hw (lv_sub hl [1, 2, 3] rfl)
      · refine n_aload_n hC hl 2 d_Firmware_bootStartIn_31 rfl rfl ?_
        refine n_get hC hw fg_Firmware_35 0 rfl rfl d_Firmware_bootStartIn_32 ?_
        refine n_iload_n hC hl 0 d_Firmware_bootStartIn_35 rfl rfl ?_
        refine n_bipush hC 32 d_Firmware_bootStartIn_36 (by decide) ?_
        refine n_iadd hC hf d_Firmware_bootStartIn_38 (fun v96 hf => ?_)
        refine n_bipush hC 8 d_Firmware_bootStartIn_39 (by decide) ?_
        obtain ⟨u97, hu97, hf⟩ := bd_s hf
        refine n_callVl hC hw fc_Firmware_82 (c_Store_getLow l g E hEe d_o d_words_a d_words_n d_length d_words v96 8 N u97 hu97) [1, 2] (wd_Firmware_bootStartIn g t_o d_o d_words_a r_o u_o t_loaderSectors_a t_chain_a d_words_n t_sectors t_tableSectors t_clusters t_tried t_header t_bootStart t_kernelAddress t_kernelSize d_length d_words) 1 rfl ⟨rfl, rfl⟩ ⟨Nat.le_of_ble_eq_true rfl, Nat.le_of_ble_eq_true rfl⟩ rfl (At_.cons rfl (At_.cons rfl At_.nil)) (At_.cons rfl (At_.cons rfl At_.nil)) Sm_.refl rfl hl.1 (Nat.le_of_ble_eq_true rfl) ⟨Nat.zero_le _, Nat.zero_le _⟩ d_Firmware_bootStartIn_41 (fun H locs hw => ?_) rfl
        refine n_lstore hC [(4, .long u97), (3, .int v84), (2, .int x66), (0, .ref t_o), (1, .int a1)] hl d_Firmware_bootStartIn_44 (by decide) rfl (fun ls hl => ?_)
        refine n_aload_n hC hl 3 d_Firmware_bootStartIn_46 rfl rfl ?_
        refine n_get hC hw fg_Firmware_35 0 rfl rfl d_Firmware_bootStartIn_47 ?_
        refine n_iload_n hC hl 1 d_Firmware_bootStartIn_50 rfl rfl ?_
        refine n_bipush hC 40 d_Firmware_bootStartIn_51 (by decide) ?_
        refine n_iadd hC hf d_Firmware_bootStartIn_53 (fun v98 hf => ?_)
        refine n_bipush hC 8 d_Firmware_bootStartIn_54 (by decide) ?_
        obtain ⟨u99, hu99, hf⟩ := bd_s hf
        refine n_callVl hC hw fc_Firmware_82 (c_Store_getLow l g E hEe d_o d_words_a d_words_n d_length d_words v98 8 N u99 hu99) [1, 2] (wd_Firmware_bootStartIn g t_o d_o d_words_a r_o u_o t_loaderSectors_a t_chain_a d_words_n t_sectors t_tableSectors t_clusters t_tried t_header t_bootStart t_kernelAddress t_kernelSize d_length d_words) 1 rfl ⟨rfl, rfl⟩ ⟨Nat.le_of_ble_eq_true rfl, Nat.le_of_ble_eq_true rfl⟩ rfl (At_.cons rfl (At_.cons rfl At_.nil)) (At_.cons rfl (At_.cons rfl At_.nil)) Sm_.refl rfl hl.1 (Nat.le_of_ble_eq_true rfl) ⟨Nat.zero_le _, Nat.zero_le _⟩ d_Firmware_bootStartIn_56 (fun H locs hw => ?_) rfl
        refine n_lstore hC [(6, .long u99), (4, .long u97), (3, .int v84), (2, .int x66), (0, .ref t_o), (1, .int a1)] hl d_Firmware_bootStartIn_59 (by decide) rfl (fun ls hl => ?_)
        refine n_lload hC hl 1 d_Firmware_bootStartIn_61 rfl ?_
        refine n_lconst hC 0 d_Firmware_bootStartIn_63 (by decide) ?_
        refine n_lcmp hC hf d_Firmware_bootStartIn_64 (fun v100 hf => ?_)
        refine n_if_lt hC hf 91 d_Firmware_bootStartIn_65 (by decide) (fun hf => ?_) (fun hf => ?_)
        · exact hj91 hf _ _ _ hw (lv_sub hl [3, 4, 5] rfl)
        · refine n_lload hC hl 1 d_Firmware_bootStartIn_68 rfl ?_
          refine n_lload hC hl 0 d_Firmware_bootStartIn_70 rfl ?_
          refine n_lcmp hC hf d_Firmware_bootStartIn_72 (fun v101 hf => ?_)
          refine n_if_gt hC hf 91 d_Firmware_bootStartIn_73 (by decide) (fun hf => ?_) (fun hf => ?_)
          · exact hj91 hf _ _ _ hw (lv_sub hl [3, 4, 5] rfl)
          · refine n_lload hC hl 0 d_Firmware_bootStartIn_76 rfl ?_
            refine n_aload_n hC hl 4 d_Firmware_bootStartIn_78 rfl rfl ?_
            refine n_get hC hw fg_Firmware_38 0 rfl rfl d_Firmware_bootStartIn_79 ?_
            refine n_i2l hC hf d_Firmware_bootStartIn_82 (fun v102 hf => ?_)
            refine n_lcmp hC hf d_Firmware_bootStartIn_83 (fun v103 hf => ?_)
            refine n_if_ge hC hf 91 d_Firmware_bootStartIn_84 (by decide) (fun hf => ?_) (fun hf => ?_)
            · exact hj91 hf _ _ _ hw (lv_sub hl [3, 4, 5] rfl)
            · refine n_lload hC hl 1 d_Firmware_bootStartIn_87 rfl ?_
              refine n_l2i hC hf d_Firmware_bootStartIn_89 (fun v104 hf => ?_)
              cases hf
              exact hret _ _ _ _ hw rfl d_Firmware_bootStartIn_90
    )
  exact hL2 N _ hf _ _ _ hw (lv_sub hl [0, 1, 2] rfl)
def wd_Firmware_searchTable (g : GT) (t_o : Nat) (d_o : Nat) (d_words_a : Nat) (u_o : Nat) (u_shifted_a : Nat) (r_o : Nat) (t_loaderSectors_a : Nat) (t_chain_a : Nat) (d_words_n : Nat) (t_sectors : Int32) (t_tableSectors : Int32) (t_clusters : Int32) (t_tried : Int32) (t_header : Int32) (t_bootStart : Int32) (t_kernelAddress : Int32) (t_kernelSize : Int32) (d_length : Int32) (d_words : Nat → Int64) (u_bits : Int32) (u_shifted : Nat → Int32) : va_W := [(t_o, .inr (5, [.ref r_o, .ref d_o, .int t_sectors, .ref u_o, .ref t_loaderSectors_a, .ref t_chain_a, .int t_tableSectors, .int t_clusters, .int t_tried, .int t_header, .int t_bootStart, .int t_kernelAddress, .int t_kernelSize])), (d_o, .inr (0, [.int d_length, .ref d_words_a])), (d_words_a, .inl (g.2.2.1, d_words_n, .inr (.inl d_words))), (u_o, .inr (1, [.ref u_shifted_a, .int u_bits])), (u_shifted_a, .inl (g.2.1, 256, .inl u_shifted))]
def f_Firmware_searchTable (N : Nat) (d_length : Int32) (d_words_n : Nat) (d_words : Nat → Int64) (u_bits : Int32) (u_shifted : Nat → Int32) (t_sectors : Int32) (t_header : Int32) (t_bootStart : Int32) : Option (Int32 × Int32 × Int32 × Int32) :=
  bd_ (f_Store_get 450 d_length d_words_n d_words) (fun u17 => if u17 = (238 : Int32) then bd_ (f_Firmware_isGoodHeader N 1 d_length d_words_n d_words u_bits u_shifted t_sectors) (fun u18 => lt_ (fun (x21 : Int32) (x22 : Int32) (x23 : Int32) => lt_ (x21 * 512) (fun v24 => lt_ (v24 + 72) (fun v25 => bd_ (f_Store_getLow N 8 v25 d_length d_words_n d_words) (fun u26 => lt_ (u26.toInt32) (fun v27 => lt_ (v27 * 512) (fun v28 => bd_ (f_Firmware_bootStartIn N v28 d_length d_words_n d_words t_sectors) (fun u29 => if ¬ u29 = ((-1) : Int32) then some (0, x22, u29, x23) else some (4, x22, u29, x23)))))))) (fun (j58 : Int32 → Int32 → Int32 → Option (Int32 × Int32 × Int32 × Int32)) => if u18.1 = 0 then lt_ (t_sectors - 1) (fun v30 => bd_ (f_Firmware_isGoodHeader N v30 d_length d_words_n d_words u18.2 u_shifted t_sectors) (fun u31 => if ¬ u31.1 = 0 then j58 v30 2 u31.2 else some (3, t_header, t_bootStart, u31.2))) else j58 1 1 u18.2)) else some (2, t_header, t_bootStart, u_bits))
def rm_Firmware_searchTable : Room := { frames := 4, cells := 0, slots := 0, locals := 92 }
set_option maxHeartbeats 4000000 in
set_option maxRecDepth 100000 in
theorem c_Firmware_searchTable (l : Launch) (g : GT) (E : (Nat → Prop) → State → Prop) (hEe : Ee E) (X : XT) (hS : ∀ (A : Nat → Prop) (u : State), E A u → SS X A u) (t_o : Nat) (d_o : Nat) (d_words_a : Nat) (u_o : Nat) (u_shifted_a : Nat) (r_o : Nat) (t_loaderSectors_a : Nat) (t_chain_a : Nat) (d_words_n : Nat) (t_sectors : Int32) (t_tableSectors : Int32) (t_clusters : Int32) (t_tried : Int32) (t_header : Int32) (t_bootStart : Int32) (t_kernelAddress : Int32) (t_kernelSize : Int32) (d_length : Int32) (d_words : Nat → Int64) (u_bits : Int32) (u_shifted : Nat → Int32) (N : Nat) (z : Int32 × Int32 × Int32 × Int32) (hf : f_Firmware_searchTable N d_length d_words_n d_words u_bits u_shifted t_sectors t_header t_bootStart = some z) : Cg l g E y_Firmware_searchTable ws_Firmware_searchTable rm_Firmware_searchTable [.ref t_o] (wd_Firmware_searchTable g t_o d_o d_words_a u_o u_shifted_a r_o t_loaderSectors_a t_chain_a d_words_n t_sectors t_tableSectors t_clusters t_tried t_header t_bootStart t_kernelAddress t_kernelSize d_length d_words u_bits u_shifted) (some (.int z.1)) (wd_Firmware_searchTable g t_o d_o d_words_a u_o u_shifted_a r_o t_loaderSectors_a t_chain_a d_words_n t_sectors t_tableSectors t_clusters t_tried z.2.1 z.2.2.1 t_kernelAddress t_kernelSize d_length d_words z.2.2.2 u_shifted) := by
  refine Ct.ofI hEe good_W (by decide) rfl (Nat.le_of_ble_eq_true rfl) ?_
  intro p e s m args below meth c A ls Q hC hw hl hret
  have hC : CX p m c b_Firmware_searchTable 2 s args Wall R_Firmware g.1 classes (tK g) E A := hC
  have hl : lv_has ls 2 [(0, .ref t_o)] := hl
  unfold f_Firmware_searchTable at hf
  refine n_aload_n hC hl 0 d_Firmware_searchTable_0 rfl rfl ?_
  refine n_get hC hw fg_Firmware_35 0 rfl rfl d_Firmware_searchTable_1 ?_
  refine n_sipush hC 450 d_Firmware_searchTable_4 (by decide) ?_
  obtain ⟨u17, hu17, hf⟩ := bd_s hf
  refine n_callVi hC hw fc_Firmware_75 (c_Store_get l g E hEe d_o d_words_a d_words_n d_length d_words 450 u17 hu17) [1, 2] (wd_Firmware_searchTable g t_o d_o d_words_a u_o u_shifted_a r_o t_loaderSectors_a t_chain_a d_words_n t_sectors t_tableSectors t_clusters t_tried t_header t_bootStart t_kernelAddress t_kernelSize d_length d_words u_bits u_shifted) 1 rfl ⟨rfl, rfl⟩ ⟨Nat.le_of_ble_eq_true rfl, Nat.le_of_ble_eq_true rfl⟩ rfl (At_.cons rfl (At_.cons rfl At_.nil)) (At_.cons rfl (At_.cons rfl At_.nil)) Sm_.refl rfl hl.1 (Nat.le_of_ble_eq_true rfl) ⟨Nat.zero_le _, Nat.zero_le _⟩ d_Firmware_searchTable_7 (fun H locs hw => ?_) rfl
  refine n_sipush hC 238 d_Firmware_searchTable_10 (by decide) ?_
  refine n_icmp_eq hC hf 18 d_Firmware_searchTable_13 (by decide) (fun hf => ?_) (fun hf => ?_)
  · refine n_iconst hC 1 d_Firmware_searchTable_18 (by decide) ?_
    refine n_istore_n hC [(1, .int 1), (0, .ref t_o)] hl d_Firmware_searchTable_19 rfl (by decide) rfl (fun ls hl => ?_)
    refine n_aload_n hC hl 1 d_Firmware_searchTable_20 rfl rfl ?_
    refine n_iload_n hC hl 0 d_Firmware_searchTable_21 rfl rfl ?_
    obtain ⟨u18, hu18, hf⟩ := bd_s hf
    refine n_callVi hC hw fc_Firmware_79 (c_Firmware_isGoodHeader l g E hEe X hS t_o d_o d_words_a u_o u_shifted_a r_o t_loaderSectors_a t_chain_a d_words_n t_sectors t_tableSectors t_clusters t_tried t_header t_bootStart t_kernelAddress t_kernelSize d_length d_words u_bits u_shifted 1 N u18 hu18) [0, 1, 2, 3, 4] (wd_Firmware_searchTable g t_o d_o d_words_a u_o u_shifted_a r_o t_loaderSectors_a t_chain_a d_words_n t_sectors t_tableSectors t_clusters t_tried t_header t_bootStart t_kernelAddress t_kernelSize d_length d_words u18.2 u_shifted) 0 rfl ⟨rfl, rfl⟩ ⟨Nat.le_of_ble_eq_true rfl, Nat.le_of_ble_eq_true rfl⟩ rfl (At_.cons rfl (At_.cons rfl (At_.cons rfl (At_.cons rfl (At_.cons rfl At_.nil))))) (At_.cons rfl (At_.cons rfl (At_.cons rfl (At_.cons rfl (At_.cons rfl At_.nil))))) (Sm_.keep (Sm_.keep (Sm_.keep (Sm_.upd rfl (Sm_.keep Sm_.nil))))) rfl hl.1 (Nat.le_of_ble_eq_true rfl) ⟨Nat.zero_le _, Nat.zero_le _⟩ d_Firmware_searchTable_22 (fun H locs hw => ?_) rfl
    refine jn3 (fun (x21 : Int32) (x22 : Int32) (x23 : Int32) => ∀ (H : Heap) (locs : List Loc) (ls : Array Slot), WS g.1 classes A s.heap H locs (wd_Firmware_searchTable g t_o d_o d_words_a u_o u_shifted_a r_o t_loaderSectors_a t_chain_a d_words_n t_sectors t_tableSectors t_clusters t_tried x22 t_bootStart t_kernelAddress t_kernelSize d_length d_words x23 u_shifted) → lv_has ls 2 [(1, .int x21), (0, .ref t_o)] → W p l e rm_Firmware_searchTable s m args below meth c H locs 0 0 Q (F0 m 58 ls [])) hf (fun x21 x22 x23 hf H locs ls hw hl => ?_) (fun j58 hj58 hf => ?_)
    · refine n_aload_n hC hl 1 d_Firmware_searchTable_58 rfl rfl ?_
      refine n_aload_n hC hl 1 d_Firmware_searchTable_59 rfl rfl ?_
      refine n_aload_n hC hl 1 d_Firmware_searchTable_60 rfl rfl ?_
      refine n_get hC hw fg_Firmware_35 0 rfl rfl d_Firmware_searchTable_61 ?_
      refine n_iload_n hC hl 0 d_Firmware_searchTable_64 rfl rfl ?_
      refine n_sipush hC 512 d_Firmware_searchTable_65 (by decide) ?_
      refine n_imul hC hf d_Firmware_searchTable_68 (fun v24 hf => ?_)
      refine n_bipush hC 72 d_Firmware_searchTable_69 (by decide) ?_
      refine n_iadd hC hf d_Firmware_searchTable_71 (fun v25 hf => ?_)
      refine n_bipush hC 8 d_Firmware_searchTable_72 (by decide) ?_
      obtain ⟨u26, hu26, hf⟩ := bd_s hf
      refine n_callVl hC hw fc_Firmware_82 (c_Store_getLow l g E hEe d_o d_words_a d_words_n d_length d_words v25 8 N u26 hu26) [1, 2] (wd_Firmware_searchTable g t_o d_o d_words_a u_o u_shifted_a r_o t_loaderSectors_a t_chain_a d_words_n t_sectors t_tableSectors t_clusters t_tried x22 t_bootStart t_kernelAddress t_kernelSize d_length d_words x23 u_shifted) 1 rfl ⟨rfl, rfl⟩ ⟨Nat.le_of_ble_eq_true rfl, Nat.le_of_ble_eq_true rfl⟩ rfl (At_.cons rfl (At_.cons rfl At_.nil)) (At_.cons rfl (At_.cons rfl At_.nil)) Sm_.refl rfl hl.1 (Nat.le_of_ble_eq_true rfl) ⟨Nat.zero_le _, Nat.zero_le _⟩ d_Firmware_searchTable_74 (fun H locs hw => ?_) rfl
      refine n_l2i hC hf d_Firmware_searchTable_77 (fun v27 hf => ?_)
      refine n_sipush hC 512 d_Firmware_searchTable_78 (by decide) ?_
      refine n_imul hC hf d_Firmware_searchTable_81 (fun v28 hf => ?_)
      obtain ⟨u29, hu29, hf⟩ := bd_s hf
      refine n_callVi hC hw fc_Firmware_86 (c_Firmware_bootStartIn l g E hEe X hS t_o d_o d_words_a r_o u_o t_loaderSectors_a t_chain_a d_words_n t_sectors t_tableSectors t_clusters t_tried x22 t_bootStart t_kernelAddress t_kernelSize d_length d_words v28 N u29 hu29) [0, 1, 2] (wd_Firmware_searchTable g t_o d_o d_words_a u_o u_shifted_a r_o t_loaderSectors_a t_chain_a d_words_n t_sectors t_tableSectors t_clusters t_tried x22 t_bootStart t_kernelAddress t_kernelSize d_length d_words x23 u_shifted) 0 rfl ⟨rfl, rfl⟩ ⟨Nat.le_of_ble_eq_true rfl, Nat.le_of_ble_eq_true rfl⟩ rfl (At_.cons rfl (At_.cons rfl (At_.cons rfl At_.nil))) (At_.cons rfl (At_.cons rfl (At_.cons rfl At_.nil))) Sm_.refl rfl hl.1 (Nat.le_of_ble_eq_true rfl) ⟨Nat.zero_le _, Nat.zero_le _⟩ d_Firmware_searchTable_82 (fun H locs hw => ?_) rfl
      refine n_put hC hw fp_Firmware_25 0 (wd_Firmware_searchTable g t_o d_o d_words_a u_o u_shifted_a r_o t_loaderSectors_a t_chain_a d_words_n t_sectors t_tableSectors t_clusters t_tried x22 u29 t_kernelAddress t_kernelSize d_length d_words x23 u_shifted) rfl rfl rfl (Nat.le_of_ble_eq_true rfl) d_Firmware_searchTable_85 rfl (fun H locs hw => ?_)
      refine n_aload_n hC hl 1 d_Firmware_searchTable_88 rfl rfl ?_
      refine n_get hC hw fg_Firmware_25 0 rfl rfl d_Firmware_searchTable_89 ?_
      refine n_iconst hC (-1) d_Firmware_searchTable_92 (by decide) ?_
      refine n_icmp_ne hC hf 100 d_Firmware_searchTable_93 (by decide) (fun hf => ?_) (fun hf => ?_)
      · refine n_iconst hC 0 d_Firmware_searchTable_100 (by decide) ?_
        cases hf
        exact hret _ _ _ _ hw (show narrow .int (Value.int 0) = Value.int 0 from rfl) d_Firmware_searchTable_101
      · refine n_iconst hC 4 d_Firmware_searchTable_96 (by decide) ?_
        refine n_goto hC 101 d_Firmware_searchTable_97 (by decide) ?_
        cases hf
        exact hret _ _ _ _ hw (show narrow .int (Value.int 4) = Value.int 4 from rfl) d_Firmware_searchTable_101
    refine n_if_eq hC hf 36 d_Firmware_searchTable_25 (by decide) (fun hf => ?_) (fun hf => ?_)
    · refine n_aload_n hC hl 1 d_Firmware_searchTable_36 rfl rfl ?_
      refine n_get hC hw fg_Firmware_38 0 rfl rfl d_Firmware_searchTable_37 ?_
      refine n_iconst hC 1 d_Firmware_searchTable_40 (by decide) ?_
      refine n_isub hC hf d_Firmware_searchTable_41 (fun v30 hf => ?_)
      refine n_istore_n hC [(1, .int v30), (0, .ref t_o)] hl d_Firmware_searchTable_42 rfl (by decide) rfl (fun ls hl => ?_)
      refine n_aload_n hC hl 1 d_Firmware_searchTable_43 rfl rfl ?_
      refine n_iload_n hC hl 0 d_Firmware_searchTable_44 rfl rfl ?_
      obtain ⟨u31, hu31, hf⟩ := bd_s hf
      refine n_callVi hC hw fc_Firmware_79 (c_Firmware_isGoodHeader l g E hEe X hS t_o d_o d_words_a u_o u_shifted_a r_o t_loaderSectors_a t_chain_a d_words_n t_sectors t_tableSectors t_clusters t_tried t_header t_bootStart t_kernelAddress t_kernelSize d_length d_words u18.2 u_shifted v30 N u31 hu31) [0, 1, 2, 3, 4] (wd_Firmware_searchTable g t_o d_o d_words_a u_o u_shifted_a r_o t_loaderSectors_a t_chain_a d_words_n t_sectors t_tableSectors t_clusters t_tried t_header t_bootStart t_kernelAddress t_kernelSize d_length d_words u31.2 u_shifted) 0 rfl ⟨rfl, rfl⟩ ⟨Nat.le_of_ble_eq_true rfl, Nat.le_of_ble_eq_true rfl⟩ rfl (At_.cons rfl (At_.cons rfl (At_.cons rfl (At_.cons rfl (At_.cons rfl At_.nil))))) (At_.cons rfl (At_.cons rfl (At_.cons rfl (At_.cons rfl (At_.cons rfl At_.nil))))) (Sm_.keep (Sm_.keep (Sm_.keep (Sm_.upd rfl (Sm_.keep Sm_.nil))))) rfl hl.1 (Nat.le_of_ble_eq_true rfl) ⟨Nat.zero_le _, Nat.zero_le _⟩ d_Firmware_searchTable_45 (fun H locs hw => ?_) rfl
      refine n_if_ne hC hf 53 d_Firmware_searchTable_48 (by decide) (fun hf => ?_) (fun hf => ?_)
      · refine n_aload_n hC hl 1 d_Firmware_searchTable_53 rfl rfl ?_
        refine n_iconst hC 2 d_Firmware_searchTable_54 (by decide) ?_
        refine n_put hC hw fp_Firmware_52 0 (wd_Firmware_searchTable g t_o d_o d_words_a u_o u_shifted_a r_o t_loaderSectors_a t_chain_a d_words_n t_sectors t_tableSectors t_clusters t_tried 2 t_bootStart t_kernelAddress t_kernelSize d_length d_words u31.2 u_shifted) rfl rfl rfl (Nat.le_of_ble_eq_true rfl) d_Firmware_searchTable_55 rfl (fun H locs hw => ?_)
        exact hj58 _ _ _ hf _ _ _ hw (lv_sub hl [0, 1] rfl)
      · refine n_iconst hC 3 d_Firmware_searchTable_51 (by decide) ?_
        cases hf
        exact hret _ _ _ _ hw (show narrow .int (Value.int 3) = Value.int 3 from rfl) d_Firmware_searchTable_52
    · refine n_aload_n hC hl 1 d_Firmware_searchTable_28 rfl rfl ?_
      refine n_iconst hC 1 d_Firmware_searchTable_29 (by decide) ?_
      refine n_put hC hw fp_Firmware_52 0 (wd_Firmware_searchTable g t_o d_o d_words_a u_o u_shifted_a r_o t_loaderSectors_a t_chain_a d_words_n t_sectors t_tableSectors t_clusters t_tried 1 t_bootStart t_kernelAddress t_kernelSize d_length d_words u18.2 u_shifted) rfl rfl rfl (Nat.le_of_ble_eq_true rfl) d_Firmware_searchTable_30 rfl (fun H locs hw => ?_)
      refine n_goto hC 58 d_Firmware_searchTable_33 (by decide) ?_
      exact hj58 _ _ _ hf _ _ _ hw (lv_sub hl [0, 1] rfl)
  · refine n_iconst hC 2 d_Firmware_searchTable_16 (by decide) ?_
    cases hf
    exact hret _ _ _ _ hw (show narrow .int (Value.int 2) = Value.int 2 from rfl) d_Firmware_searchTable_17
