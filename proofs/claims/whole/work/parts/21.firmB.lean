def wd_Firmware_collectRuns (g : GT) (t_o : Nat) (t_loaderSectors_a : Nat) (d_o : Nat) (d_words_a : Nat) (r_o : Nat) (u_o : Nat) (t_chain_a : Nat) (d_words_n : Nat) (t_sectors : Int32) (t_tableSectors : Int32) (t_clusters : Int32) (t_tried : Int32) (t_header : Int32) (t_bootStart : Int32) (t_kernelAddress : Int32) (t_kernelSize : Int32) (t_loaderSectors : Nat → Int32) (d_length : Int32) (d_words : Nat → Int64) : va_W := [(t_o, .inr (5, [.ref r_o, .ref d_o, .int t_sectors, .ref u_o, .ref t_loaderSectors_a, .ref t_chain_a, .int t_tableSectors, .int t_clusters, .int t_tried, .int t_header, .int t_bootStart, .int t_kernelAddress, .int t_kernelSize])), (t_loaderSectors_a, .inl (g.2.1, 18, .inl t_loaderSectors)), (d_o, .inr (0, [.int d_length, .ref d_words_a])), (d_words_a, .inl (g.2.2.1, d_words_n, .inr (.inl d_words)))]
def f_Firmware_collectRuns_L79 (u223 : Int64) (x174 : Int32) (k11 : Int32 → Int32 → (Nat → Int32) → Option (Int32 × (Nat → Int32))) (u131 : Int32) (u221 : Int64) (k79 : Int32 → Int32 → (Nat → Int32) → Option (Int32 × (Nat → Int32))) (x238 : Int32) (x239 : Int32) (x240 : Nat → Int32) : Option (Int32 × (Nat → Int32)) :=
  lt_ (x238.toInt64) (fun v251 => lt_ (lg_cmp v251 u223) (fun v252 => lt_ (lt_ (x174 + 1) (fun v258 => k11 v258 x239 x240)) (fun (j126 : Option (Int32 × (Nat → Int32))) => if 0 ≤ v252 then j126 else if u131 ≤ x239 then j126 else if (18 : Int32) ≤ x239 then j126 else lt_ (u221.toInt32) (fun v259 => lt_ (v259 + x238) (fun v260 => up_i 18 x240 x239 v260 (fun (f261 : Nat → Int32) => lt_ (x239 + 1) (fun v262 => lt_ (x238 + 1) (fun v263 => k79 v263 v262 f261))))))))
def f_Firmware_collectRuns_L11 (N : Nat) (a1 : Int32) (u131 : Int32) (d_length : Int32) (d_words_n : Nat) (d_words : Nat → Int64) (t_sectors : Int32) (k11 : Int32 → Int32 → (Nat → Int32) → Option (Int32 × (Nat → Int32))) (x174 : Int32) (x175 : Int32) (x176 : Nat → Int32) : Option (Int32 × (Nat → Int32)) :=
  if a1 ≤ x174 then if ¬ x175 = u131 then some (0, x176) else some (1, x176) else lt_ (x174 * 6) (fun v219 => lt_ ((65 : Int32) + v219) (fun v220 => bd_ (f_Store_getLow N 4 v220 d_length d_words_n d_words) (fun u221 => lt_ (v220 + 4) (fun v222 => bd_ (f_Store_getLow N 2 v222 d_length d_words_n d_words) (fun u223 => lt_ (lg_cmp u223 0) (fun v224 => if v224 = 0 then some (0, x176) else lt_ (u221 + u223) (fun v225 => lt_ (t_sectors.toInt64) (fun v226 => lt_ (lg_cmp v225 v226) (fun v227 => if v227 ≤ 0 then lp_ (fun _ _ _ => none) (f_Firmware_collectRuns_L79 u223 x174 k11 u131 u221) N 0 x175 x176 else some (0, x176))))))))))
def f_Firmware_collectRuns (N : Nat) (a2 : Int32) (a1 : Int32) (d_length : Int32) (d_words_n : Nat) (d_words : Nat → Int64) (t_sectors : Int32) (t_loaderSectors : Nat → Int32) : Option (Int32 × (Nat → Int32)) :=
  bd_ (f_Volume_clustersFor a2) (fun u131 => lp_ (fun _ _ _ => none) (f_Firmware_collectRuns_L11 N a1 u131 d_length d_words_n d_words t_sectors) N 0 0 t_loaderSectors)
def rm_Firmware_collectRuns : Room := { frames := 2, cells := 0, slots := 0, locals := 46 }
set_option maxHeartbeats 4000000 in
set_option maxRecDepth 100000 in
theorem c_Firmware_collectRuns (l : Launch) (g : GT) (E : (Nat → Prop) → State → Prop) (hEe : Ee E) (t_o : Nat) (t_loaderSectors_a : Nat) (d_o : Nat) (d_words_a : Nat) (r_o : Nat) (u_o : Nat) (t_chain_a : Nat) (d_words_n : Nat) (t_sectors : Int32) (t_tableSectors : Int32) (t_clusters : Int32) (t_tried : Int32) (t_header : Int32) (t_bootStart : Int32) (t_kernelAddress : Int32) (t_kernelSize : Int32) (t_loaderSectors : Nat → Int32) (d_length : Int32) (d_words : Nat → Int64) (a1 : Int32) (a2 : Int32) (N : Nat) (z : Int32 × (Nat → Int32)) (hf : f_Firmware_collectRuns N a2 a1 d_length d_words_n d_words t_sectors t_loaderSectors = some z) : Cg l g E y_Firmware_collectRuns ws_Firmware_collectRuns rm_Firmware_collectRuns [.ref t_o, .int a1, .int a2] (wd_Firmware_collectRuns g t_o t_loaderSectors_a d_o d_words_a r_o u_o t_chain_a d_words_n t_sectors t_tableSectors t_clusters t_tried t_header t_bootStart t_kernelAddress t_kernelSize t_loaderSectors d_length d_words) (some (.int z.1)) (wd_Firmware_collectRuns g t_o t_loaderSectors_a d_o d_words_a r_o u_o t_chain_a d_words_n t_sectors t_tableSectors t_clusters t_tried t_header t_bootStart t_kernelAddress t_kernelSize z.2 d_length d_words) := by
  refine Ct.ofI hEe good_W (by decide) rfl (Nat.le_of_ble_eq_true rfl) ?_
  intro p e s m args below meth c A ls Q hC hw hl hret
  have hC : CX p m c b_Firmware_collectRuns 12 s args Wall R_Firmware g.1 classes (tK g) E A := hC
  have hl : lv_has ls 12 [(0, .ref t_o), (1, .int a1), (2, .int a2)] := hl
  unfold f_Firmware_collectRuns at hf
  refine n_iload_n hC hl 2 d_Firmware_collectRuns_0 rfl rfl ?_
  obtain ⟨u131, hu131, hf⟩ := bd_s hf
  refine n_callSi hC hw fc_Firmware_133 (c_Volume_clustersFor l g E hEe a2 u131 hu131) [] (wd_Firmware_collectRuns g t_o t_loaderSectors_a d_o d_words_a r_o u_o t_chain_a d_words_n t_sectors t_tableSectors t_clusters t_tried t_header t_bootStart t_kernelAddress t_kernelSize t_loaderSectors d_length d_words) ⟨rfl, rfl⟩ ⟨Nat.le_of_ble_eq_true rfl, Nat.le_of_ble_eq_true rfl⟩ rfl At_.nil At_.nil Sm_.refl rfl hl.1 (Nat.le_of_ble_eq_true rfl) ⟨Nat.zero_le _, Nat.zero_le _⟩ d_Firmware_collectRuns_1 (fun H locs hw => ?_) rfl
  refine n_istore_n hC [(3, .int u131), (0, .ref t_o), (1, .int a1), (2, .int a2)] hl d_Firmware_collectRuns_4 rfl (by decide) rfl (fun ls hl => ?_)
  refine n_iconst hC 0 d_Firmware_collectRuns_5 (by decide) ?_
  refine n_istore hC [(4, .int 0), (3, .int u131), (0, .ref t_o), (1, .int a1), (2, .int a2)] hl d_Firmware_collectRuns_6 (by decide) rfl (fun ls hl => ?_)
  refine n_iconst hC 0 d_Firmware_collectRuns_8 (by decide) ?_
  refine n_istore hC [(5, .int 0), (4, .int 0), (3, .int u131), (0, .ref t_o), (1, .int a1), (2, .int a2)] hl d_Firmware_collectRuns_9 (by decide) rfl (fun ls hl => ?_)
  have hL11 := lw3 (B := f_Firmware_collectRuns_L11 N a1 u131 d_length d_words_n d_words t_sectors) (z := z) (fun (x174 : Int32) (x175 : Int32) (x176 : Nat → Int32) => ∀ (H : Heap) (locs : List Loc) (ls : Array Slot), WS g.1 classes A s.heap H locs (wd_Firmware_collectRuns g t_o t_loaderSectors_a d_o d_words_a r_o u_o t_chain_a d_words_n t_sectors t_tableSectors t_clusters t_tried t_header t_bootStart t_kernelAddress t_kernelSize x176 d_length d_words) → lv_has ls 12 [(5, .int x174), (4, .int x175), (3, .int u131), (0, .ref t_o), (1, .int a1)] → W p l e rm_Firmware_collectRuns s m args below meth c H locs 0 0 Q (F0 m 11 ls [])) (by
    intro k11 hk11 x174 x175 x176 hf H locs ls hw hl
    unfold f_Firmware_collectRuns_L11 at hf
    refine n_iload hC hl 0 d_Firmware_collectRuns_11 rfl ?_
    refine n_iload_n hC hl 4 d_Firmware_collectRuns_13 rfl rfl ?_
    refine n_icmp_ge hC hf 132 d_Firmware_collectRuns_14 (by decide) (fun hf => ?_) (fun hf => ?_)
    · refine n_iload hC hl 1 d_Firmware_collectRuns_132 rfl ?_
      refine n_iload_n hC hl 2 d_Firmware_collectRuns_134 rfl rfl ?_
      refine n_icmp_ne hC hf 142 d_Firmware_collectRuns_135 (by decide) (fun hf => ?_) (fun hf => ?_)
      · refine n_iconst hC 0 d_Firmware_collectRuns_142 (by decide) ?_
        cases hf
        exact hret _ _ _ _ hw (show narrow .boolean (Value.int 0) = Value.int 0 from rfl) d_Firmware_collectRuns_143
      · refine n_iconst hC 1 d_Firmware_collectRuns_138 (by decide) ?_
        refine n_goto hC 143 d_Firmware_collectRuns_139 (by decide) ?_
        cases hf
        exact hret _ _ _ _ hw (show narrow .boolean (Value.int 1) = Value.int 1 from rfl) d_Firmware_collectRuns_143
    · refine n_bipush hC 65 d_Firmware_collectRuns_17 (by decide) ?_
      refine n_iload hC hl 0 d_Firmware_collectRuns_19 rfl ?_
      refine n_bipush hC 6 d_Firmware_collectRuns_21 (by decide) ?_
      refine n_imul hC hf d_Firmware_collectRuns_23 (fun v219 hf => ?_)
      refine n_iadd hC hf d_Firmware_collectRuns_24 (fun v220 hf => ?_)
      refine n_istore hC [(6, .int v220), (5, .int x174), (4, .int x175), (3, .int u131), (0, .ref t_o), (1, .int a1)] hl d_Firmware_collectRuns_25 (by decide) rfl (fun ls hl => ?_)
      refine n_aload_n hC hl 4 d_Firmware_collectRuns_27 rfl rfl ?_
      refine n_get hC hw fg_Firmware_35 0 rfl rfl d_Firmware_collectRuns_28 ?_
      refine n_iload hC hl 0 d_Firmware_collectRuns_31 rfl ?_
      refine n_iconst hC 4 d_Firmware_collectRuns_33 (by decide) ?_
      obtain ⟨u221, hu221, hf⟩ := bd_s hf
      refine n_callVl hC hw fc_Firmware_82 (c_Store_getLow l g E hEe d_o d_words_a d_words_n d_length d_words v220 4 N u221 hu221) [2, 3] (wd_Firmware_collectRuns g t_o t_loaderSectors_a d_o d_words_a r_o u_o t_chain_a d_words_n t_sectors t_tableSectors t_clusters t_tried t_header t_bootStart t_kernelAddress t_kernelSize x176 d_length d_words) 2 rfl ⟨rfl, rfl⟩ ⟨Nat.le_of_ble_eq_true rfl, Nat.le_of_ble_eq_true rfl⟩ rfl (At_.cons rfl (At_.cons rfl At_.nil)) (At_.cons rfl (At_.cons rfl At_.nil)) Sm_.refl rfl hl.1 (Nat.le_of_ble_eq_true rfl) ⟨Nat.zero_le _, Nat.zero_le _⟩ d_Firmware_collectRuns_34 (fun H locs hw => ?_) rfl
      refine n_lstore hC [(7, .long u221), (6, .int v220), (5, .int x174), (4, .int x175), (3, .int u131), (0, .ref t_o), (1, .int a1)] hl d_Firmware_collectRuns_37 (by decide) rfl (fun ls hl => ?_)
      refine n_aload_n hC hl 5 d_Firmware_collectRuns_39 rfl rfl ?_
      refine n_get hC hw fg_Firmware_35 0 rfl rfl d_Firmware_collectRuns_40 ?_
      refine n_iload hC hl 1 d_Firmware_collectRuns_43 rfl ?_
      refine n_iconst hC 4 d_Firmware_collectRuns_45 (by decide) ?_
      refine n_iadd hC hf d_Firmware_collectRuns_46 (fun v222 hf => ?_)
      refine n_iconst hC 2 d_Firmware_collectRuns_47 (by decide) ?_
      obtain ⟨u223, hu223, hf⟩ := bd_s hf
      refine n_callVl hC hw fc_Firmware_82 (c_Store_getLow l g E hEe d_o d_words_a d_words_n d_length d_words v222 2 N u223 hu223) [2, 3] (wd_Firmware_collectRuns g t_o t_loaderSectors_a d_o d_words_a r_o u_o t_chain_a d_words_n t_sectors t_tableSectors t_clusters t_tried t_header t_bootStart t_kernelAddress t_kernelSize x176 d_length d_words) 2 rfl ⟨rfl, rfl⟩ ⟨Nat.le_of_ble_eq_true rfl, Nat.le_of_ble_eq_true rfl⟩ rfl (At_.cons rfl (At_.cons rfl At_.nil)) (At_.cons rfl (At_.cons rfl At_.nil)) Sm_.refl rfl hl.1 (Nat.le_of_ble_eq_true rfl) ⟨Nat.zero_le _, Nat.zero_le _⟩ d_Firmware_collectRuns_48 (fun H locs hw => ?_) rfl
      refine n_lstore hC [(9, .long u223), (7, .long u221), (6, .int v220), (5, .int x174), (4, .int x175), (3, .int u131), (0, .ref t_o), (1, .int a1)] hl d_Firmware_collectRuns_51 (by decide) rfl (fun ls hl => ?_)
      refine n_lload hC hl 0 d_Firmware_collectRuns_53 rfl ?_
      refine n_lconst hC 0 d_Firmware_collectRuns_55 (by decide) ?_
      refine n_lcmp hC hf d_Firmware_collectRuns_56 (fun v224 hf => ?_)
      refine n_if_eq hC hf 74 d_Firmware_collectRuns_57 (by decide) (fun hf => ?_) (fun hf => ?_)
      · refine n_iconst hC 0 d_Firmware_collectRuns_74 (by decide) ?_
        cases hf
        exact hret _ _ _ _ hw (show narrow .boolean (Value.int 0) = Value.int 0 from rfl) d_Firmware_collectRuns_75
      · refine n_lload hC hl 1 d_Firmware_collectRuns_60 rfl ?_
        refine n_lload hC hl 0 d_Firmware_collectRuns_62 rfl ?_
        refine n_ladd hC hf d_Firmware_collectRuns_64 (fun v225 hf => ?_)
        refine n_aload_n hC hl 6 d_Firmware_collectRuns_65 rfl rfl ?_
        refine n_get hC hw fg_Firmware_38 0 rfl rfl d_Firmware_collectRuns_66 ?_
        refine n_i2l hC hf d_Firmware_collectRuns_69 (fun v226 hf => ?_)
        refine n_lcmp hC hf d_Firmware_collectRuns_70 (fun v227 hf => ?_)
        refine n_if_le hC hf 76 d_Firmware_collectRuns_71 (by decide) (fun hf => ?_) (fun hf => ?_)
        · refine n_iconst hC 0 d_Firmware_collectRuns_76 (by decide) ?_
          refine n_istore hC [(11, .int 0), (9, .long u223), (7, .long u221), (6, .int v220), (5, .int x174), (4, .int x175), (3, .int u131), (0, .ref t_o), (1, .int a1)] hl d_Firmware_collectRuns_77 (by decide) rfl (fun ls hl => ?_)
          have hL79 := lw3 (B := f_Firmware_collectRuns_L79 u223 x174 k11 u131 u221) (z := z) (fun (x238 : Int32) (x239 : Int32) (x240 : Nat → Int32) => ∀ (H : Heap) (locs : List Loc) (ls : Array Slot), WS g.1 classes A s.heap H locs (wd_Firmware_collectRuns g t_o t_loaderSectors_a d_o d_words_a r_o u_o t_chain_a d_words_n t_sectors t_tableSectors t_clusters t_tried t_header t_bootStart t_kernelAddress t_kernelSize x240 d_length d_words) → lv_has ls 12 [(11, .int x238), (9, .long u223), (7, .long u221), (5, .int x174), (4, .int x239), (3, .int u131), (0, .ref t_o), (1, .int a1)] → W p l e rm_Firmware_collectRuns s m args below meth c H locs 0 0 Q (F0 m 79 ls [])) (by
            intro k79 hk79 x238 x239 x240 hf H locs ls hw hl
            unfold f_Firmware_collectRuns_L79 at hf
            refine n_iload hC hl 0 d_Firmware_collectRuns_79 rfl ?_
            refine n_i2l hC hf d_Firmware_collectRuns_81 (fun v251 hf => ?_)
            refine n_lload hC hl 1 d_Firmware_collectRuns_82 rfl ?_
            refine n_lcmp hC hf d_Firmware_collectRuns_84 (fun v252 hf => ?_)
            refine jn0 (∀ (H : Heap) (locs : List Loc) (ls : Array Slot), WS g.1 classes A s.heap H locs (wd_Firmware_collectRuns g t_o t_loaderSectors_a d_o d_words_a r_o u_o t_chain_a d_words_n t_sectors t_tableSectors t_clusters t_tried t_header t_bootStart t_kernelAddress t_kernelSize x240 d_length d_words) → lv_has ls 12 [(5, .int x174), (4, .int x239), (3, .int u131), (0, .ref t_o), (1, .int a1)] → W p l e rm_Firmware_collectRuns s m args below meth c H locs 0 0 Q (F0 m 126 ls [])) hf (fun hf H locs ls hw hl => ?_) (fun j126 hj126 hf => ?_)
            · refine n_iinc hC (k := 0) hf (by decide) (fun v258 => [(5, .int v258), (4, .int x239), (3, .int u131), (0, .ref t_o), (1, .int a1)]) hl d_Firmware_collectRuns_126 rfl (by decide) (fun _ => rfl) (fun v258 ls hf hl => ?_)
              refine n_goto hC 11 d_Firmware_collectRuns_129 (by decide) ?_
              exact hk11 _ _ _ hf _ _ _ hw (lv_sub hl [0, 1, 2, 3, 4] rfl)
            refine n_if_ge hC hf 126 d_Firmware_collectRuns_85 (by decide) (fun hf => ?_) (fun hf => ?_)
            · exact hj126 hf _ _ _ hw (lv_sub hl [3, 4, 5, 6, 7] rfl)
            · refine n_iload hC hl 4 d_Firmware_collectRuns_88 rfl ?_
              refine n_iload_n hC hl 5 d_Firmware_collectRuns_90 rfl rfl ?_
              refine n_icmp_ge hC hf 126 d_Firmware_collectRuns_91 (by decide) (fun hf => ?_) (fun hf => ?_)
              · exact hj126 hf _ _ _ hw (lv_sub hl [3, 4, 5, 6, 7] rfl)
              · refine n_iload hC hl 4 d_Firmware_collectRuns_94 rfl ?_
                refine n_aload_n hC hl 6 d_Firmware_collectRuns_96 rfl rfl ?_
                refine n_get hC hw fg_Firmware_21 0 rfl rfl d_Firmware_collectRuns_97 ?_
                refine n_alen hC hw 1 0 18 rfl rfl (show Int32.ofNat 18 = 18 by decide) d_Firmware_collectRuns_100 ?_
                refine n_icmp_ge hC hf 126 d_Firmware_collectRuns_101 (by decide) (fun hf => ?_) (fun hf => ?_)
                · exact hj126 hf _ _ _ hw (lv_sub hl [3, 4, 5, 6, 7] rfl)
                · refine n_aload_n hC hl 6 d_Firmware_collectRuns_104 rfl rfl ?_
                  refine n_get hC hw fg_Firmware_21 0 rfl rfl d_Firmware_collectRuns_105 ?_
                  refine n_iload hC hl 4 d_Firmware_collectRuns_108 rfl ?_
                  refine n_lload hC hl 2 d_Firmware_collectRuns_110 rfl ?_
                  refine n_l2i hC hf d_Firmware_collectRuns_112 (fun v259 hf => ?_)
                  refine n_iload hC hl 0 d_Firmware_collectRuns_113 rfl ?_
                  refine n_iadd hC hf d_Firmware_collectRuns_115 (fun v260 hf => ?_)
                  refine n_iast hC hw hf 1 0 (fun f261 => wd_Firmware_collectRuns g t_o t_loaderSectors_a d_o d_words_a r_o u_o t_chain_a d_words_n t_sectors t_tableSectors t_clusters t_tried t_header t_bootStart t_kernelAddress t_kernelSize f261 d_length d_words) rfl rfl d_Firmware_collectRuns_116 (fun _ => rfl) (fun f261 H locs hf hw => ?_)
                  refine n_iinc hC (k := 4) hf (by decide) (fun v262 => [(4, .int v262), (11, .int x238), (9, .long u223), (7, .long u221), (5, .int x174), (3, .int u131), (0, .ref t_o), (1, .int a1)]) hl d_Firmware_collectRuns_117 rfl (by decide) (fun _ => rfl) (fun v262 ls hf hl => ?_)
                  refine n_iinc hC (k := 1) hf (by decide) (fun v263 => [(11, .int v263), (4, .int v262), (9, .long u223), (7, .long u221), (5, .int x174), (3, .int u131), (0, .ref t_o), (1, .int a1)]) hl d_Firmware_collectRuns_120 rfl (by decide) (fun _ => rfl) (fun v263 ls hf hl => ?_)
                  refine n_goto hC 79 d_Firmware_collectRuns_123 (by decide) ?_
                  exact hk79 _ _ _ hf _ _ _ hw (lv_sub hl [0, 2, 3, 4, 1, 5, 6, 7] rfl)
            )
          exact hL79 N _ _ _ hf _ _ _ hw (lv_sub hl [0, 1, 2, 4, 5, 6, 7, 8] rfl)
        · refine n_iconst hC 0 d_Firmware_collectRuns_74 (by decide) ?_
          cases hf
          exact hret _ _ _ _ hw (show narrow .boolean (Value.int 0) = Value.int 0 from rfl) d_Firmware_collectRuns_75
    )
  exact hL11 N _ _ _ hf _ _ _ hw (lv_sub hl [0, 1, 2, 3, 4] rfl)
def wd_Firmware_loaderSum (g : GT) (t_o : Nat) (t_loaderSectors_a : Nat) (d_o : Nat) (d_words_a : Nat) (u_o : Nat) (u_shifted_a : Nat) (r_o : Nat) (t_chain_a : Nat) (d_words_n : Nat) (t_sectors : Int32) (t_tableSectors : Int32) (t_clusters : Int32) (t_tried : Int32) (t_header : Int32) (t_bootStart : Int32) (t_kernelAddress : Int32) (t_kernelSize : Int32) (t_loaderSectors : Nat → Int32) (d_length : Int32) (d_words : Nat → Int64) (u_bits : Int32) (u_shifted : Nat → Int32) : va_W := [(t_o, .inr (5, [.ref r_o, .ref d_o, .int t_sectors, .ref u_o, .ref t_loaderSectors_a, .ref t_chain_a, .int t_tableSectors, .int t_clusters, .int t_tried, .int t_header, .int t_bootStart, .int t_kernelAddress, .int t_kernelSize])), (t_loaderSectors_a, .inl (g.2.1, 18, .inl t_loaderSectors)), (d_o, .inr (0, [.int d_length, .ref d_words_a])), (d_words_a, .inl (g.2.2.1, d_words_n, .inr (.inl d_words))), (u_o, .inr (1, [.ref u_shifted_a, .int u_bits])), (u_shifted_a, .inl (g.2.1, 256, .inl u_shifted))]
def f_Firmware_loaderSum_L9 (a1 : Int32) (t_loaderSectors : Nat → Int32) (d_length : Int32) (d_words_n : Nat) (d_words : Nat → Int64) (u_shifted : Nat → Int32) (k9 : Int32 → Int32 → Option (Int32 × Int32)) (x49 : Int32) (x50 : Int32) : Option (Int32 × Int32) :=
  lt_ (bd_ (f_Sums_result x50) (fun u71 => some (u71, x50))) (fun (j67 : Option (Int32 × Int32)) => if a1 ≤ x49 then j67 else lt_ (x49 / 512) (fun v72 => if (18 : Int32) ≤ v72 then j67 else lt_ (x49 / 512) (fun v73 => ix_ 18 t_loaderSectors v73 (fun (v74 : Int32) => lt_ (v74 * 512) (fun v75 => lt_ (x49 - x49 / 512 * 512) (fun v76 => lt_ (v75 + v76) (fun v77 => bd_ (f_Store_get v77 d_length d_words_n d_words) (fun u78 => bd_ (f_Sums_add x50 u78 u_shifted) (fun u79 => lt_ (x49 + 1) (fun v80 => k9 v80 u79))))))))))
def f_Firmware_loaderSum (N : Nat) (a1 : Int32) (t_loaderSectors : Nat → Int32) (d_length : Int32) (d_words_n : Nat) (d_words : Nat → Int64) (u_shifted : Nat → Int32) : Option (Int32 × Int32) :=
  bd_ (f_Sums_begin ) (fun u37 => lp_ (fun _ _ => none) (f_Firmware_loaderSum_L9 a1 t_loaderSectors d_length d_words_n d_words u_shifted) N 0 u37)
def rm_Firmware_loaderSum : Room := { frames := 1, cells := 0, slots := 0, locals := 21 }
set_option maxHeartbeats 4000000 in
set_option maxRecDepth 100000 in
theorem c_Firmware_loaderSum (l : Launch) (g : GT) (E : (Nat → Prop) → State → Prop) (hEe : Ee E) (t_o : Nat) (t_loaderSectors_a : Nat) (d_o : Nat) (d_words_a : Nat) (u_o : Nat) (u_shifted_a : Nat) (r_o : Nat) (t_chain_a : Nat) (d_words_n : Nat) (t_sectors : Int32) (t_tableSectors : Int32) (t_clusters : Int32) (t_tried : Int32) (t_header : Int32) (t_bootStart : Int32) (t_kernelAddress : Int32) (t_kernelSize : Int32) (t_loaderSectors : Nat → Int32) (d_length : Int32) (d_words : Nat → Int64) (u_bits : Int32) (u_shifted : Nat → Int32) (a1 : Int32) (N : Nat) (z : Int32 × Int32) (hf : f_Firmware_loaderSum N a1 t_loaderSectors d_length d_words_n d_words u_shifted = some z) : Cg l g E y_Firmware_loaderSum ws_Firmware_loaderSum rm_Firmware_loaderSum [.ref t_o, .int a1] (wd_Firmware_loaderSum g t_o t_loaderSectors_a d_o d_words_a u_o u_shifted_a r_o t_chain_a d_words_n t_sectors t_tableSectors t_clusters t_tried t_header t_bootStart t_kernelAddress t_kernelSize t_loaderSectors d_length d_words u_bits u_shifted) (some (.int z.1)) (wd_Firmware_loaderSum g t_o t_loaderSectors_a d_o d_words_a u_o u_shifted_a r_o t_chain_a d_words_n t_sectors t_tableSectors t_clusters t_tried t_header t_bootStart t_kernelAddress t_kernelSize t_loaderSectors d_length d_words z.2 u_shifted) := by
  refine Ct.ofI hEe good_W (by decide) rfl (Nat.le_of_ble_eq_true rfl) ?_
  intro p e s m args below meth c A ls Q hC hw hl hret
  have hC : CX p m c b_Firmware_loaderSum 3 s args Wall R_Firmware g.1 classes (tK g) E A := hC
  have hl : lv_has ls 3 [(0, .ref t_o), (1, .int a1)] := hl
  unfold f_Firmware_loaderSum at hf
  refine n_aload_n hC hl 0 d_Firmware_loaderSum_0 rfl rfl ?_
  refine n_get hC hw fg_Firmware_41 0 rfl rfl d_Firmware_loaderSum_1 ?_
  obtain ⟨u37, hu37, hf⟩ := bd_s hf
  refine n_callVv hC hw fc_Firmware_138 (c_Sums_begin l g E hEe u_o u_shifted_a u_bits u37 hu37) [4] (wd_Firmware_loaderSum g t_o t_loaderSectors_a d_o d_words_a u_o u_shifted_a r_o t_chain_a d_words_n t_sectors t_tableSectors t_clusters t_tried t_header t_bootStart t_kernelAddress t_kernelSize t_loaderSectors d_length d_words u37 u_shifted) 4 rfl ⟨rfl, rfl⟩ ⟨Nat.le_of_ble_eq_true rfl, Nat.le_of_ble_eq_true rfl⟩ rfl (At_.cons rfl At_.nil) (At_.cons rfl At_.nil) (Sm_.keep (Sm_.keep (Sm_.keep (Sm_.keep (Sm_.upd rfl (Sm_.keep Sm_.nil)))))) rfl hl.1 (Nat.le_of_ble_eq_true rfl) ⟨Nat.zero_le _, Nat.zero_le _⟩ d_Firmware_loaderSum_4 (fun H locs hw => ?_) rfl
  refine n_iconst hC 0 d_Firmware_loaderSum_7 (by decide) ?_
  refine n_istore_n hC [(2, .int 0), (0, .ref t_o), (1, .int a1)] hl d_Firmware_loaderSum_8 rfl (by decide) rfl (fun ls hl => ?_)
  have hL9 := lw2 (B := f_Firmware_loaderSum_L9 a1 t_loaderSectors d_length d_words_n d_words u_shifted) (z := z) (fun (x49 : Int32) (x50 : Int32) => ∀ (H : Heap) (locs : List Loc) (ls : Array Slot), WS g.1 classes A s.heap H locs (wd_Firmware_loaderSum g t_o t_loaderSectors_a d_o d_words_a u_o u_shifted_a r_o t_chain_a d_words_n t_sectors t_tableSectors t_clusters t_tried t_header t_bootStart t_kernelAddress t_kernelSize t_loaderSectors d_length d_words x50 u_shifted) → lv_has ls 3 [(2, .int x49), (0, .ref t_o), (1, .int a1)] → W p l e rm_Firmware_loaderSum s m args below meth c H locs 0 0 Q (F0 m 9 ls [])) (by
    intro k9 hk9 x49 x50 hf H locs ls hw hl
    unfold f_Firmware_loaderSum_L9 at hf
    refine n_iload_n hC hl 0 d_Firmware_loaderSum_9 rfl rfl ?_
    refine n_iload_n hC hl 2 d_Firmware_loaderSum_10 rfl rfl ?_
    refine jn0 (∀ (H : Heap) (locs : List Loc) (ls : Array Slot), WS g.1 classes A s.heap H locs (wd_Firmware_loaderSum g t_o t_loaderSectors_a d_o d_words_a u_o u_shifted_a r_o t_chain_a d_words_n t_sectors t_tableSectors t_clusters t_tried t_header t_bootStart t_kernelAddress t_kernelSize t_loaderSectors d_length d_words x50 u_shifted) → lv_has ls 3 [(0, .ref t_o)] → W p l e rm_Firmware_loaderSum s m args below meth c H locs 0 0 Q (F0 m 67 ls [])) hf (fun hf H locs ls hw hl => ?_) (fun j67 hj67 hf => ?_)
    · refine n_aload_n hC hl 0 d_Firmware_loaderSum_67 rfl rfl ?_
      refine n_get hC hw fg_Firmware_41 0 rfl rfl d_Firmware_loaderSum_68 ?_
      obtain ⟨u71, hu71, hf⟩ := bd_s hf
      refine n_callVi hC hw fc_Firmware_144 (c_Sums_result l g E hEe u_o u_shifted_a x50 u71 hu71) [4] (wd_Firmware_loaderSum g t_o t_loaderSectors_a d_o d_words_a u_o u_shifted_a r_o t_chain_a d_words_n t_sectors t_tableSectors t_clusters t_tried t_header t_bootStart t_kernelAddress t_kernelSize t_loaderSectors d_length d_words x50 u_shifted) 4 rfl ⟨rfl, rfl⟩ ⟨Nat.le_of_ble_eq_true rfl, Nat.le_of_ble_eq_true rfl⟩ rfl (At_.cons rfl At_.nil) (At_.cons rfl At_.nil) Sm_.refl rfl hl.1 (Nat.le_of_ble_eq_true rfl) ⟨Nat.zero_le _, Nat.zero_le _⟩ d_Firmware_loaderSum_71 (fun H locs hw => ?_) rfl
      cases hf
      exact hret _ _ _ _ hw (show narrow .int (Value.int u71) = Value.int u71 from rfl) d_Firmware_loaderSum_74
    refine n_icmp_ge hC hf 67 d_Firmware_loaderSum_11 (by decide) (fun hf => ?_) (fun hf => ?_)
    · exact hj67 hf _ _ _ hw (lv_sub hl [1] rfl)
    · refine n_iload_n hC hl 0 d_Firmware_loaderSum_14 rfl rfl ?_
      refine n_sipush hC 512 d_Firmware_loaderSum_15 (by decide) ?_
      refine n_idiv hC hf d_Firmware_loaderSum_18 (by decide) (fun v72 hf => ?_)
      refine n_aload_n hC hl 1 d_Firmware_loaderSum_19 rfl rfl ?_
      refine n_get hC hw fg_Firmware_21 0 rfl rfl d_Firmware_loaderSum_20 ?_
      refine n_alen hC hw 1 0 18 rfl rfl (show Int32.ofNat 18 = 18 by decide) d_Firmware_loaderSum_23 ?_
      refine n_icmp_ge hC hf 67 d_Firmware_loaderSum_24 (by decide) (fun hf => ?_) (fun hf => ?_)
      · exact hj67 hf _ _ _ hw (lv_sub hl [1] rfl)
      · refine n_aload_n hC hl 1 d_Firmware_loaderSum_27 rfl rfl ?_
        refine n_get hC hw fg_Firmware_41 0 rfl rfl d_Firmware_loaderSum_28 ?_
        refine n_aload_n hC hl 1 d_Firmware_loaderSum_31 rfl rfl ?_
        refine n_get hC hw fg_Firmware_35 0 rfl rfl d_Firmware_loaderSum_32 ?_
        refine n_aload_n hC hl 1 d_Firmware_loaderSum_35 rfl rfl ?_
        refine n_get hC hw fg_Firmware_21 0 rfl rfl d_Firmware_loaderSum_36 ?_
        refine n_iload_n hC hl 0 d_Firmware_loaderSum_39 rfl rfl ?_
        refine n_sipush hC 512 d_Firmware_loaderSum_40 (by decide) ?_
        refine n_idiv hC hf d_Firmware_loaderSum_43 (by decide) (fun v73 hf => ?_)
        refine n_iald hC hw hf 1 0 rfl rfl d_Firmware_loaderSum_44 (fun v74 hf => ?_)
        refine n_sipush hC 512 d_Firmware_loaderSum_45 (by decide) ?_
        refine n_imul hC hf d_Firmware_loaderSum_48 (fun v75 hf => ?_)
        refine n_iload_n hC hl 0 d_Firmware_loaderSum_49 rfl rfl ?_
        refine n_sipush hC 512 d_Firmware_loaderSum_50 (by decide) ?_
        refine n_irem hC hf d_Firmware_loaderSum_53 (by decide) (fun v76 hf => ?_)
        refine n_iadd hC hf d_Firmware_loaderSum_54 (fun v77 hf => ?_)
        obtain ⟨u78, hu78, hf⟩ := bd_s hf
        refine n_callVi hC hw fc_Firmware_75 (c_Store_get l g E hEe d_o d_words_a d_words_n d_length d_words v77 u78 hu78) [2, 3] (wd_Firmware_loaderSum g t_o t_loaderSectors_a d_o d_words_a u_o u_shifted_a r_o t_chain_a d_words_n t_sectors t_tableSectors t_clusters t_tried t_header t_bootStart t_kernelAddress t_kernelSize t_loaderSectors d_length d_words x50 u_shifted) 2 rfl ⟨rfl, rfl⟩ ⟨Nat.le_of_ble_eq_true rfl, Nat.le_of_ble_eq_true rfl⟩ rfl (At_.cons rfl (At_.cons rfl At_.nil)) (At_.cons rfl (At_.cons rfl At_.nil)) Sm_.refl rfl hl.1 (Nat.le_of_ble_eq_true rfl) ⟨Nat.zero_le _, Nat.zero_le _⟩ d_Firmware_loaderSum_55 (fun H locs hw => ?_) rfl
        obtain ⟨u79, hu79, hf⟩ := bd_s hf
        refine n_callVv hC hw fc_Firmware_141 (c_Sums_add l g E hEe u_o u_shifted_a x50 u_shifted u78 u79 hu79) [4, 5] (wd_Firmware_loaderSum g t_o t_loaderSectors_a d_o d_words_a u_o u_shifted_a r_o t_chain_a d_words_n t_sectors t_tableSectors t_clusters t_tried t_header t_bootStart t_kernelAddress t_kernelSize t_loaderSectors d_length d_words u79 u_shifted) 4 rfl ⟨rfl, rfl⟩ ⟨Nat.le_of_ble_eq_true rfl, Nat.le_of_ble_eq_true rfl⟩ rfl (At_.cons rfl (At_.cons rfl At_.nil)) (At_.cons rfl (At_.cons rfl At_.nil)) (Sm_.keep (Sm_.keep (Sm_.keep (Sm_.keep (Sm_.upd rfl (Sm_.keep Sm_.nil)))))) rfl hl.1 (Nat.le_of_ble_eq_true rfl) ⟨Nat.zero_le _, Nat.zero_le _⟩ d_Firmware_loaderSum_58 (fun H locs hw => ?_) rfl
        refine n_iinc hC (k := 0) hf (by decide) (fun v80 => [(2, .int v80), (0, .ref t_o), (1, .int a1)]) hl d_Firmware_loaderSum_61 rfl (by decide) (fun _ => rfl) (fun v80 ls hf hl => ?_)
        refine n_goto hC 9 d_Firmware_loaderSum_64 (by decide) ?_
        exact hk9 _ _ hf _ _ _ hw (lv_sub hl [0, 1, 2] rfl)
    )
  exact hL9 N _ _ hf _ _ _ hw (lv_sub hl [0, 1, 2] rfl)
def wd_Firmware_searchLoader (g : GT) (t_o : Nat) (t_loaderSectors_a : Nat) (d_o : Nat) (d_words_a : Nat) (u_o : Nat) (u_shifted_a : Nat) (r_o : Nat) (t_chain_a : Nat) (d_words_n : Nat) (t_sectors : Int32) (t_tableSectors : Int32) (t_clusters : Int32) (t_tried : Int32) (t_header : Int32) (t_bootStart : Int32) (t_kernelAddress : Int32) (t_kernelSize : Int32) (t_loaderSectors : Nat → Int32) (d_length : Int32) (d_words : Nat → Int64) (u_bits : Int32) (u_shifted : Nat → Int32) : va_W := [(t_o, .inr (5, [.ref r_o, .ref d_o, .int t_sectors, .ref u_o, .ref t_loaderSectors_a, .ref t_chain_a, .int t_tableSectors, .int t_clusters, .int t_tried, .int t_header, .int t_bootStart, .int t_kernelAddress, .int t_kernelSize])), (t_loaderSectors_a, .inl (g.2.1, 18, .inl t_loaderSectors)), (d_o, .inr (0, [.int d_length, .ref d_words_a])), (d_words_a, .inl (g.2.2.1, d_words_n, .inr (.inl d_words))), (u_o, .inr (1, [.ref u_shifted_a, .int u_bits])), (u_shifted_a, .inl (g.2.1, 256, .inl u_shifted))]
def f_Firmware_searchLoader (N : Nat) (d_length : Int32) (d_words_n : Nat) (d_words : Nat → Int64) (t_bootStart : Int32) (t_loaderSectors : Nat → Int32) (u_bits : Int32) (t_sectors : Int32) (u_shifted : Nat → Int32) : Option (Int32 × Int32 × (Nat → Int32) × Int32) :=
  bd_ (f_Store_get 64 d_length d_words_n d_words) (fun u22 => if u22 = 0 then some (9, t_bootStart, t_loaderSectors, u_bits) else if u22 ≤ (20 : Int32) then lt_ (u22 * 6) (fun v23 => lt_ ((65 : Int32) + v23) (fun v24 => bd_ (f_Store_getLow N 4 v24 d_length d_words_n d_words) (fun u25 => lt_ (lg_cmp u25 8) (fun v26 => if v26 < 0 then some (9, t_bootStart, t_loaderSectors, u_bits) else lt_ (lg_cmp u25 9000) (fun v27 => if 0 < v27 then some (9, t_bootStart, t_loaderSectors, u_bits) else lt_ (u25.toInt32) (fun v28 => bd_ (f_Firmware_collectRuns N v28 u22 d_length d_words_n d_words t_sectors t_loaderSectors) (fun u29 => if ¬ u29.1 = 0 then lt_ (u25.toInt32) (fun v30 => bd_ (f_Firmware_loaderSum N v30 u29.2 d_length d_words_n d_words u_shifted) (fun u31 => lt_ (v24 + 4) (fun v32 => bd_ (f_Store_getLow N 4 v32 d_length d_words_n d_words) (fun u33 => lt_ (u33.toInt32) (fun v34 => if u31.1 = v34 then ix_ 18 u29.2 0 (fun (v35 : Int32) => lt_ (v35 * 512) (fun v36 => lt_ (v36 + 4) (fun v37 => bd_ (f_Store_getLow N 4 v37 d_length d_words_n d_words) (fun u38 => bd_ (f_Store_holdsText N 4 v36 d_length d_words_n d_words (sByt 9)) (fun u39 => if u39 = 0 then some (9, t_bootStart, u29.2, u31.2) else lt_ (t_sectors.toInt64) (fun v40 => lt_ (lg_cmp u38 v40) (fun v41 => if v41 < 0 then lt_ (u38.toInt32) (fun v42 => some (0, v42, u29.2, u31.2)) else some (9, t_bootStart, u29.2, u31.2)))))))) else some (9, t_bootStart, u29.2, u31.2)))))) else some (9, t_bootStart, u29.2, u_bits)))))))) else some (9, t_bootStart, t_loaderSectors, u_bits))
def rm_Firmware_searchLoader : Room := { frames := 5, cells := 0, slots := 0, locals := 108 }
set_option maxHeartbeats 4000000 in
set_option maxRecDepth 100000 in
theorem c_Firmware_searchLoader (l : Launch) (g : GT) (E : (Nat → Prop) → State → Prop) (hEe : Ee E) (X : XT) (hS : ∀ (A : Nat → Prop) (u : State), E A u → SS X A u) (t_o : Nat) (t_loaderSectors_a : Nat) (d_o : Nat) (d_words_a : Nat) (u_o : Nat) (u_shifted_a : Nat) (r_o : Nat) (t_chain_a : Nat) (d_words_n : Nat) (t_sectors : Int32) (t_tableSectors : Int32) (t_clusters : Int32) (t_tried : Int32) (t_header : Int32) (t_bootStart : Int32) (t_kernelAddress : Int32) (t_kernelSize : Int32) (t_loaderSectors : Nat → Int32) (d_length : Int32) (d_words : Nat → Int64) (u_bits : Int32) (u_shifted : Nat → Int32) (N : Nat) (z : Int32 × Int32 × (Nat → Int32) × Int32) (hf : f_Firmware_searchLoader N d_length d_words_n d_words t_bootStart t_loaderSectors u_bits t_sectors u_shifted = some z) : Cg l g E y_Firmware_searchLoader ws_Firmware_searchLoader rm_Firmware_searchLoader [.ref t_o] (wd_Firmware_searchLoader g t_o t_loaderSectors_a d_o d_words_a u_o u_shifted_a r_o t_chain_a d_words_n t_sectors t_tableSectors t_clusters t_tried t_header t_bootStart t_kernelAddress t_kernelSize t_loaderSectors d_length d_words u_bits u_shifted) (some (.int z.1)) (wd_Firmware_searchLoader g t_o t_loaderSectors_a d_o d_words_a u_o u_shifted_a r_o t_chain_a d_words_n t_sectors t_tableSectors t_clusters t_tried t_header z.2.1 t_kernelAddress t_kernelSize z.2.2.1 d_length d_words z.2.2.2 u_shifted) := by
  refine Ct.ofI hEe good_W (by decide) rfl (Nat.le_of_ble_eq_true rfl) ?_
  intro p e s m args below meth c A ls Q hC hw hl hret
  have hC : CX p m c b_Firmware_searchLoader 8 s args Wall R_Firmware g.1 classes (tK g) E A := hC
  have hl : lv_has ls 8 [(0, .ref t_o)] := hl
  unfold f_Firmware_searchLoader at hf
  refine n_aload_n hC hl 0 d_Firmware_searchLoader_0 rfl rfl ?_
  refine n_get hC hw fg_Firmware_35 0 rfl rfl d_Firmware_searchLoader_1 ?_
  refine n_bipush hC 64 d_Firmware_searchLoader_4 (by decide) ?_
  obtain ⟨u22, hu22, hf⟩ := bd_s hf
  refine n_callVi hC hw fc_Firmware_75 (c_Store_get l g E hEe d_o d_words_a d_words_n d_length d_words 64 u22 hu22) [2, 3] (wd_Firmware_searchLoader g t_o t_loaderSectors_a d_o d_words_a u_o u_shifted_a r_o t_chain_a d_words_n t_sectors t_tableSectors t_clusters t_tried t_header t_bootStart t_kernelAddress t_kernelSize t_loaderSectors d_length d_words u_bits u_shifted) 2 rfl ⟨rfl, rfl⟩ ⟨Nat.le_of_ble_eq_true rfl, Nat.le_of_ble_eq_true rfl⟩ rfl (At_.cons rfl (At_.cons rfl At_.nil)) (At_.cons rfl (At_.cons rfl At_.nil)) Sm_.refl rfl hl.1 (Nat.le_of_ble_eq_true rfl) ⟨Nat.zero_le _, Nat.zero_le _⟩ d_Firmware_searchLoader_6 (fun H locs hw => ?_) rfl
  refine n_istore_n hC [(1, .int u22), (0, .ref t_o)] hl d_Firmware_searchLoader_9 rfl (by decide) rfl (fun ls hl => ?_)
  refine n_iload_n hC hl 0 d_Firmware_searchLoader_10 rfl rfl ?_
  refine n_if_eq hC hf 20 d_Firmware_searchLoader_11 (by decide) (fun hf => ?_) (fun hf => ?_)
  · refine n_bipush hC 9 d_Firmware_searchLoader_20 (by decide) ?_
    cases hf
    exact hret _ _ _ _ hw (show narrow .int (Value.int 9) = Value.int 9 from rfl) d_Firmware_searchLoader_22
  · refine n_iload_n hC hl 0 d_Firmware_searchLoader_14 rfl rfl ?_
    refine n_bipush hC 20 d_Firmware_searchLoader_15 (by decide) ?_
    refine n_icmp_le hC hf 23 d_Firmware_searchLoader_17 (by decide) (fun hf => ?_) (fun hf => ?_)
    · refine n_bipush hC 65 d_Firmware_searchLoader_23 (by decide) ?_
      refine n_iload_n hC hl 0 d_Firmware_searchLoader_25 rfl rfl ?_
      refine n_bipush hC 6 d_Firmware_searchLoader_26 (by decide) ?_
      refine n_imul hC hf d_Firmware_searchLoader_28 (fun v23 hf => ?_)
      refine n_iadd hC hf d_Firmware_searchLoader_29 (fun v24 hf => ?_)
      refine n_istore_n hC [(2, .int v24), (1, .int u22), (0, .ref t_o)] hl d_Firmware_searchLoader_30 rfl (by decide) rfl (fun ls hl => ?_)
      refine n_aload_n hC hl 2 d_Firmware_searchLoader_31 rfl rfl ?_
      refine n_get hC hw fg_Firmware_35 0 rfl rfl d_Firmware_searchLoader_32 ?_
      refine n_iload_n hC hl 0 d_Firmware_searchLoader_35 rfl rfl ?_
      refine n_iconst hC 4 d_Firmware_searchLoader_36 (by decide) ?_
      obtain ⟨u25, hu25, hf⟩ := bd_s hf
      refine n_callVl hC hw fc_Firmware_82 (c_Store_getLow l g E hEe d_o d_words_a d_words_n d_length d_words v24 4 N u25 hu25) [2, 3] (wd_Firmware_searchLoader g t_o t_loaderSectors_a d_o d_words_a u_o u_shifted_a r_o t_chain_a d_words_n t_sectors t_tableSectors t_clusters t_tried t_header t_bootStart t_kernelAddress t_kernelSize t_loaderSectors d_length d_words u_bits u_shifted) 2 rfl ⟨rfl, rfl⟩ ⟨Nat.le_of_ble_eq_true rfl, Nat.le_of_ble_eq_true rfl⟩ rfl (At_.cons rfl (At_.cons rfl At_.nil)) (At_.cons rfl (At_.cons rfl At_.nil)) Sm_.refl rfl hl.1 (Nat.le_of_ble_eq_true rfl) ⟨Nat.zero_le _, Nat.zero_le _⟩ d_Firmware_searchLoader_37 (fun H locs hw => ?_) rfl
      refine n_lstore_n hC [(3, .long u25), (2, .int v24), (1, .int u22), (0, .ref t_o)] hl d_Firmware_searchLoader_40 rfl (by decide) rfl (fun ls hl => ?_)
      refine n_lload_n hC hl 0 d_Firmware_searchLoader_41 rfl rfl ?_
      refine n_ldc2 hC 8 kc_Firmware_116 d_Firmware_searchLoader_42 ?_
      refine n_lcmp hC hf d_Firmware_searchLoader_45 (fun v26 hf => ?_)
      refine n_if_lt hC hf 67 d_Firmware_searchLoader_46 (by decide) (fun hf => ?_) (fun hf => ?_)
      · refine n_bipush hC 9 d_Firmware_searchLoader_67 (by decide) ?_
        cases hf
        exact hret _ _ _ _ hw (show narrow .int (Value.int 9) = Value.int 9 from rfl) d_Firmware_searchLoader_69
      · refine n_lload_n hC hl 0 d_Firmware_searchLoader_49 rfl rfl ?_
        refine n_ldc2 hC 9000 kc_Firmware_118 d_Firmware_searchLoader_50 ?_
        refine n_lcmp hC hf d_Firmware_searchLoader_53 (fun v27 hf => ?_)
        refine n_if_gt hC hf 67 d_Firmware_searchLoader_54 (by decide) (fun hf => ?_) (fun hf => ?_)
        · refine n_bipush hC 9 d_Firmware_searchLoader_67 (by decide) ?_
          cases hf
          exact hret _ _ _ _ hw (show narrow .int (Value.int 9) = Value.int 9 from rfl) d_Firmware_searchLoader_69
        · refine n_aload_n hC hl 3 d_Firmware_searchLoader_57 rfl rfl ?_
          refine n_iload_n hC hl 2 d_Firmware_searchLoader_58 rfl rfl ?_
          refine n_lload_n hC hl 0 d_Firmware_searchLoader_59 rfl rfl ?_
          refine n_l2i hC hf d_Firmware_searchLoader_60 (fun v28 hf => ?_)
          obtain ⟨u29, hu29, hf⟩ := bd_s hf
          refine n_callVi hC hw fc_Firmware_120 (c_Firmware_collectRuns l g E hEe t_o t_loaderSectors_a d_o d_words_a r_o u_o t_chain_a d_words_n t_sectors t_tableSectors t_clusters t_tried t_header t_bootStart t_kernelAddress t_kernelSize t_loaderSectors d_length d_words u22 v28 N u29 hu29) [0, 1, 2, 3] (wd_Firmware_searchLoader g t_o t_loaderSectors_a d_o d_words_a u_o u_shifted_a r_o t_chain_a d_words_n t_sectors t_tableSectors t_clusters t_tried t_header t_bootStart t_kernelAddress t_kernelSize u29.2 d_length d_words u_bits u_shifted) 0 rfl ⟨rfl, rfl⟩ ⟨Nat.le_of_ble_eq_true rfl, Nat.le_of_ble_eq_true rfl⟩ rfl (At_.cons rfl (At_.cons rfl (At_.cons rfl (At_.cons rfl At_.nil)))) (At_.cons rfl (At_.cons rfl (At_.cons rfl (At_.cons rfl At_.nil)))) (Sm_.keep (Sm_.upd rfl (Sm_.keep (Sm_.keep (Sm_.keep (Sm_.keep Sm_.nil)))))) rfl hl.1 (Nat.le_of_ble_eq_true rfl) ⟨Nat.zero_le _, Nat.zero_le _⟩ d_Firmware_searchLoader_61 (fun H locs hw => ?_) rfl
          refine n_if_ne hC hf 70 d_Firmware_searchLoader_64 (by decide) (fun hf => ?_) (fun hf => ?_)
          · refine n_aload_n hC hl 3 d_Firmware_searchLoader_70 rfl rfl ?_
            refine n_lload_n hC hl 0 d_Firmware_searchLoader_71 rfl rfl ?_
            refine n_l2i hC hf d_Firmware_searchLoader_72 (fun v30 hf => ?_)
            obtain ⟨u31, hu31, hf⟩ := bd_s hf
            refine n_callVi hC hw fc_Firmware_124 (c_Firmware_loaderSum l g E hEe t_o t_loaderSectors_a d_o d_words_a u_o u_shifted_a r_o t_chain_a d_words_n t_sectors t_tableSectors t_clusters t_tried t_header t_bootStart t_kernelAddress t_kernelSize u29.2 d_length d_words u_bits u_shifted v30 N u31 hu31) [0, 1, 2, 3, 4, 5] (wd_Firmware_searchLoader g t_o t_loaderSectors_a d_o d_words_a u_o u_shifted_a r_o t_chain_a d_words_n t_sectors t_tableSectors t_clusters t_tried t_header t_bootStart t_kernelAddress t_kernelSize u29.2 d_length d_words u31.2 u_shifted) 0 rfl ⟨rfl, rfl⟩ ⟨Nat.le_of_ble_eq_true rfl, Nat.le_of_ble_eq_true rfl⟩ rfl (At_.cons rfl (At_.cons rfl (At_.cons rfl (At_.cons rfl (At_.cons rfl (At_.cons rfl At_.nil)))))) (At_.cons rfl (At_.cons rfl (At_.cons rfl (At_.cons rfl (At_.cons rfl (At_.cons rfl At_.nil)))))) (Sm_.keep (Sm_.keep (Sm_.keep (Sm_.keep (Sm_.upd rfl (Sm_.keep Sm_.nil)))))) rfl hl.1 (Nat.le_of_ble_eq_true rfl) ⟨Nat.zero_le _, Nat.zero_le _⟩ d_Firmware_searchLoader_73 (fun H locs hw => ?_) rfl
            refine n_aload_n hC hl 3 d_Firmware_searchLoader_76 rfl rfl ?_
            refine n_get hC hw fg_Firmware_35 0 rfl rfl d_Firmware_searchLoader_77 ?_
            refine n_iload_n hC hl 1 d_Firmware_searchLoader_80 rfl rfl ?_
            refine n_iconst hC 4 d_Firmware_searchLoader_81 (by decide) ?_
            refine n_iadd hC hf d_Firmware_searchLoader_82 (fun v32 hf => ?_)
            refine n_iconst hC 4 d_Firmware_searchLoader_83 (by decide) ?_
            obtain ⟨u33, hu33, hf⟩ := bd_s hf
            refine n_callVl hC hw fc_Firmware_82 (c_Store_getLow l g E hEe d_o d_words_a d_words_n d_length d_words v32 4 N u33 hu33) [2, 3] (wd_Firmware_searchLoader g t_o t_loaderSectors_a d_o d_words_a u_o u_shifted_a r_o t_chain_a d_words_n t_sectors t_tableSectors t_clusters t_tried t_header t_bootStart t_kernelAddress t_kernelSize u29.2 d_length d_words u31.2 u_shifted) 2 rfl ⟨rfl, rfl⟩ ⟨Nat.le_of_ble_eq_true rfl, Nat.le_of_ble_eq_true rfl⟩ rfl (At_.cons rfl (At_.cons rfl At_.nil)) (At_.cons rfl (At_.cons rfl At_.nil)) Sm_.refl rfl hl.1 (Nat.le_of_ble_eq_true rfl) ⟨Nat.zero_le _, Nat.zero_le _⟩ d_Firmware_searchLoader_84 (fun H locs hw => ?_) rfl
            refine n_l2i hC hf d_Firmware_searchLoader_87 (fun v34 hf => ?_)
            refine n_icmp_eq hC hf 94 d_Firmware_searchLoader_88 (by decide) (fun hf => ?_) (fun hf => ?_)
            · refine n_aload_n hC hl 3 d_Firmware_searchLoader_94 rfl rfl ?_
              refine n_get hC hw fg_Firmware_21 0 rfl rfl d_Firmware_searchLoader_95 ?_
              refine n_iconst hC 0 d_Firmware_searchLoader_98 (by decide) ?_
              refine n_iald hC hw hf 1 0 rfl rfl d_Firmware_searchLoader_99 (fun v35 hf => ?_)
              refine n_sipush hC 512 d_Firmware_searchLoader_100 (by decide) ?_
              refine n_imul hC hf d_Firmware_searchLoader_103 (fun v36 hf => ?_)
              refine n_istore hC [(5, .int v36), (3, .long u25), (2, .int v24), (1, .int u22), (0, .ref t_o)] hl d_Firmware_searchLoader_104 (by decide) rfl (fun ls hl => ?_)
              refine n_aload_n hC hl 4 d_Firmware_searchLoader_106 rfl rfl ?_
              refine n_get hC hw fg_Firmware_35 0 rfl rfl d_Firmware_searchLoader_107 ?_
              refine n_iload hC hl 0 d_Firmware_searchLoader_110 rfl ?_
              refine n_iconst hC 4 d_Firmware_searchLoader_112 (by decide) ?_
              refine n_iadd hC hf d_Firmware_searchLoader_113 (fun v37 hf => ?_)
              refine n_iconst hC 4 d_Firmware_searchLoader_114 (by decide) ?_
              obtain ⟨u38, hu38, hf⟩ := bd_s hf
              refine n_callVl hC hw fc_Firmware_82 (c_Store_getLow l g E hEe d_o d_words_a d_words_n d_length d_words v37 4 N u38 hu38) [2, 3] (wd_Firmware_searchLoader g t_o t_loaderSectors_a d_o d_words_a u_o u_shifted_a r_o t_chain_a d_words_n t_sectors t_tableSectors t_clusters t_tried t_header t_bootStart t_kernelAddress t_kernelSize u29.2 d_length d_words u31.2 u_shifted) 2 rfl ⟨rfl, rfl⟩ ⟨Nat.le_of_ble_eq_true rfl, Nat.le_of_ble_eq_true rfl⟩ rfl (At_.cons rfl (At_.cons rfl At_.nil)) (At_.cons rfl (At_.cons rfl At_.nil)) Sm_.refl rfl hl.1 (Nat.le_of_ble_eq_true rfl) ⟨Nat.zero_le _, Nat.zero_le _⟩ d_Firmware_searchLoader_115 (fun H locs hw => ?_) rfl
              refine n_lstore hC [(6, .long u38), (5, .int v36), (3, .long u25), (2, .int v24), (1, .int u22), (0, .ref t_o)] hl d_Firmware_searchLoader_118 (by decide) rfl (fun ls hl => ?_)
              refine n_aload_n hC hl 5 d_Firmware_searchLoader_120 rfl rfl ?_
              refine n_get hC hw fg_Firmware_35 0 rfl rfl d_Firmware_searchLoader_121 ?_
              refine n_iload hC hl 1 d_Firmware_searchLoader_124 rfl ?_
              refine n_ldcS hC (fun A u h => (hS A u h).2.1 9 (by decide)) d_Firmware_searchLoader_126 ?_
              obtain ⟨u39, hu39, hf⟩ := bd_s hf
              refine n_callVi hC hw fc_Firmware_129 (c_Store_holdsText l g E hEe (X.2.1 9) (X.2.2 9) 4 (sByt 9) (fun A u h => (hS A u h).1 9 (by decide)) d_o d_words_a d_words_n d_length d_words v36 N u39 hu39) [2, 3] (wd_Firmware_searchLoader g t_o t_loaderSectors_a d_o d_words_a u_o u_shifted_a r_o t_chain_a d_words_n t_sectors t_tableSectors t_clusters t_tried t_header t_bootStart t_kernelAddress t_kernelSize u29.2 d_length d_words u31.2 u_shifted) 2 rfl ⟨rfl, rfl⟩ ⟨Nat.le_of_ble_eq_true rfl, Nat.le_of_ble_eq_true rfl⟩ rfl (At_.cons rfl (At_.cons rfl At_.nil)) (At_.cons rfl (At_.cons rfl At_.nil)) Sm_.refl rfl hl.1 (Nat.le_of_ble_eq_true rfl) ⟨Nat.zero_le _, Nat.zero_le _⟩ d_Firmware_searchLoader_128 (fun H locs hw => ?_) rfl
              refine n_if_eq hC hf 145 d_Firmware_searchLoader_131 (by decide) (fun hf => ?_) (fun hf => ?_)
              · refine n_bipush hC 9 d_Firmware_searchLoader_145 (by decide) ?_
                cases hf
                exact hret _ _ _ _ hw (show narrow .int (Value.int 9) = Value.int 9 from rfl) d_Firmware_searchLoader_147
              · refine n_lload hC hl 0 d_Firmware_searchLoader_134 rfl ?_
                refine n_aload_n hC hl 5 d_Firmware_searchLoader_136 rfl rfl ?_
                refine n_get hC hw fg_Firmware_38 0 rfl rfl d_Firmware_searchLoader_137 ?_
                refine n_i2l hC hf d_Firmware_searchLoader_140 (fun v40 hf => ?_)
                refine n_lcmp hC hf d_Firmware_searchLoader_141 (fun v41 hf => ?_)
                refine n_if_lt hC hf 148 d_Firmware_searchLoader_142 (by decide) (fun hf => ?_) (fun hf => ?_)
                · refine n_aload_n hC hl 5 d_Firmware_searchLoader_148 rfl rfl ?_
                  refine n_lload hC hl 0 d_Firmware_searchLoader_149 rfl ?_
                  refine n_l2i hC hf d_Firmware_searchLoader_151 (fun v42 hf => ?_)
                  refine n_put hC hw fp_Firmware_25 0 (wd_Firmware_searchLoader g t_o t_loaderSectors_a d_o d_words_a u_o u_shifted_a r_o t_chain_a d_words_n t_sectors t_tableSectors t_clusters t_tried t_header v42 t_kernelAddress t_kernelSize u29.2 d_length d_words u31.2 u_shifted) rfl rfl rfl (Nat.le_of_ble_eq_true rfl) d_Firmware_searchLoader_152 rfl (fun H locs hw => ?_)
                  refine n_iconst hC 0 d_Firmware_searchLoader_155 (by decide) ?_
                  cases hf
                  exact hret _ _ _ _ hw (show narrow .int (Value.int 0) = Value.int 0 from rfl) d_Firmware_searchLoader_156
                · refine n_bipush hC 9 d_Firmware_searchLoader_145 (by decide) ?_
                  cases hf
                  exact hret _ _ _ _ hw (show narrow .int (Value.int 9) = Value.int 9 from rfl) d_Firmware_searchLoader_147
            · refine n_bipush hC 9 d_Firmware_searchLoader_91 (by decide) ?_
              cases hf
              exact hret _ _ _ _ hw (show narrow .int (Value.int 9) = Value.int 9 from rfl) d_Firmware_searchLoader_93
          · refine n_bipush hC 9 d_Firmware_searchLoader_67 (by decide) ?_
            cases hf
            exact hret _ _ _ _ hw (show narrow .int (Value.int 9) = Value.int 9 from rfl) d_Firmware_searchLoader_69
    · refine n_bipush hC 9 d_Firmware_searchLoader_20 (by decide) ?_
      cases hf
      exact hret _ _ _ _ hw (show narrow .int (Value.int 9) = Value.int 9 from rfl) d_Firmware_searchLoader_22
def wd_Firmware_readVolumeSector (g : GT) (t_o : Nat) (d_o : Nat) (d_words_a : Nat) (r_o : Nat) (u_o : Nat) (t_loaderSectors_a : Nat) (t_chain_a : Nat) (d_words_n : Nat) (t_sectors : Int32) (t_tableSectors : Int32) (t_clusters : Int32) (t_tried : Int32) (t_header : Int32) (t_bootStart : Int32) (t_kernelAddress : Int32) (t_kernelSize : Int32) (d_length : Int32) (d_words : Nat → Int64) : va_W := [(t_o, .inr (5, [.ref r_o, .ref d_o, .int t_sectors, .ref u_o, .ref t_loaderSectors_a, .ref t_chain_a, .int t_tableSectors, .int t_clusters, .int t_tried, .int t_header, .int t_bootStart, .int t_kernelAddress, .int t_kernelSize])), (d_o, .inr (0, [.int d_length, .ref d_words_a])), (d_words_a, .inl (g.2.2.1, d_words_n, .inr (.inl d_words)))]
def f_Firmware_readVolumeSector (N : Nat) (t_bootStart : Int32) (d_length : Int32) (d_words_n : Nat) (d_words : Nat → Int64) (t_sectors : Int32) : Option (Int32 × Int32 × Int32) :=
  lt_ (t_bootStart * 512) (fun v26 => lt_ (v26 + 19) (fun v27 => bd_ (f_Store_getLow N 2 v27 d_length d_words_n d_words) (fun u28 => lt_ (u28.toInt32) (fun v29 => lt_ (v26 + 22) (fun v30 => bd_ (f_Store_getLow N 2 v30 d_length d_words_n d_words) (fun u31 => lt_ (u31.toInt32) (fun v32 => bd_ (f_Volume_clustersIn v29 v32) (fun u33 => bd_ (f_Store_isBootSector N t_bootStart d_length d_words_n d_words) (fun u34 => if u34 = 0 then some (0, v32, u33) else lt_ (v26 + 11) (fun v35 => bd_ (f_Store_getLow N 2 v35 d_length d_words_n d_words) (fun u36 => lt_ (lg_cmp u36 512) (fun v37 => if ¬ v37 = 0 then some (0, v32, u33) else lt_ (v26 + 13) (fun v38 => bd_ (f_Store_get v38 d_length d_words_n d_words) (fun u39 => if ¬ u39 = (1 : Int32) then some (0, v32, u33) else lt_ (v26 + 14) (fun v40 => bd_ (f_Store_getLow N 2 v40 d_length d_words_n d_words) (fun u41 => lt_ (lg_cmp u41 1) (fun v42 => if ¬ v42 = 0 then some (0, v32, u33) else lt_ (v26 + 16) (fun v43 => bd_ (f_Store_get v43 d_length d_words_n d_words) (fun u44 => if ¬ u44 = (2 : Int32) then some (0, v32, u33) else lt_ (v26 + 17) (fun v45 => bd_ (f_Store_getLow N 2 v45 d_length d_words_n d_words) (fun u46 => lt_ (lg_cmp u46 32) (fun v47 => if ¬ v47 = 0 then some (0, v32, u33) else if v32 ≤ 0 then some (0, v32, u33) else if u33 < (1 : Int32) then some (0, v32, u33) else bd_ (f_Volume_tableBytes u33) (fun u48 => lt_ ((512 : Int32) * v32) (fun v49 => if v49 < u48 then some (0, v32, u33) else lt_ (t_bootStart + v29) (fun v50 => if t_sectors < v50 then some (0, v32, u33) else some (1, v32, u33))))))))))))))))))))))))))
def rm_Firmware_readVolumeSector : Room := { frames := 3, cells := 0, slots := 0, locals := 67 }
set_option maxHeartbeats 4000000 in
set_option maxRecDepth 100000 in
theorem c_Firmware_readVolumeSector (l : Launch) (g : GT) (E : (Nat → Prop) → State → Prop) (hEe : Ee E) (t_o : Nat) (d_o : Nat) (d_words_a : Nat) (r_o : Nat) (u_o : Nat) (t_loaderSectors_a : Nat) (t_chain_a : Nat) (d_words_n : Nat) (t_sectors : Int32) (t_tableSectors : Int32) (t_clusters : Int32) (t_tried : Int32) (t_header : Int32) (t_bootStart : Int32) (t_kernelAddress : Int32) (t_kernelSize : Int32) (d_length : Int32) (d_words : Nat → Int64) (N : Nat) (z : Int32 × Int32 × Int32) (hf : f_Firmware_readVolumeSector N t_bootStart d_length d_words_n d_words t_sectors = some z) : Cg l g E y_Firmware_readVolumeSector ws_Firmware_readVolumeSector rm_Firmware_readVolumeSector [.ref t_o] (wd_Firmware_readVolumeSector g t_o d_o d_words_a r_o u_o t_loaderSectors_a t_chain_a d_words_n t_sectors t_tableSectors t_clusters t_tried t_header t_bootStart t_kernelAddress t_kernelSize d_length d_words) (some (.int z.1)) (wd_Firmware_readVolumeSector g t_o d_o d_words_a r_o u_o t_loaderSectors_a t_chain_a d_words_n t_sectors z.2.1 z.2.2 t_tried t_header t_bootStart t_kernelAddress t_kernelSize d_length d_words) := by
  refine Ct.ofI hEe good_W (by decide) rfl (Nat.le_of_ble_eq_true rfl) ?_
  intro p e s m args below meth c A ls Q hC hw hl hret
  have hC : CX p m c b_Firmware_readVolumeSector 3 s args Wall R_Firmware g.1 classes (tK g) E A := hC
  have hl : lv_has ls 3 [(0, .ref t_o)] := hl
  unfold f_Firmware_readVolumeSector at hf
  refine n_aload_n hC hl 0 d_Firmware_readVolumeSector_0 rfl rfl ?_
  refine n_get hC hw fg_Firmware_25 0 rfl rfl d_Firmware_readVolumeSector_1 ?_
  refine n_sipush hC 512 d_Firmware_readVolumeSector_4 (by decide) ?_
  refine n_imul hC hf d_Firmware_readVolumeSector_7 (fun v26 hf => ?_)
  refine n_istore_n hC [(1, .int v26), (0, .ref t_o)] hl d_Firmware_readVolumeSector_8 rfl (by decide) rfl (fun ls hl => ?_)
  refine n_aload_n hC hl 1 d_Firmware_readVolumeSector_9 rfl rfl ?_
  refine n_get hC hw fg_Firmware_35 0 rfl rfl d_Firmware_readVolumeSector_10 ?_
  refine n_iload_n hC hl 0 d_Firmware_readVolumeSector_13 rfl rfl ?_
  refine n_bipush hC 19 d_Firmware_readVolumeSector_14 (by decide) ?_
  refine n_iadd hC hf d_Firmware_readVolumeSector_16 (fun v27 hf => ?_)
  refine n_iconst hC 2 d_Firmware_readVolumeSector_17 (by decide) ?_
  obtain ⟨u28, hu28, hf⟩ := bd_s hf
  refine n_callVl hC hw fc_Firmware_82 (c_Store_getLow l g E hEe d_o d_words_a d_words_n d_length d_words v27 2 N u28 hu28) [1, 2] (wd_Firmware_readVolumeSector g t_o d_o d_words_a r_o u_o t_loaderSectors_a t_chain_a d_words_n t_sectors t_tableSectors t_clusters t_tried t_header t_bootStart t_kernelAddress t_kernelSize d_length d_words) 1 rfl ⟨rfl, rfl⟩ ⟨Nat.le_of_ble_eq_true rfl, Nat.le_of_ble_eq_true rfl⟩ rfl (At_.cons rfl (At_.cons rfl At_.nil)) (At_.cons rfl (At_.cons rfl At_.nil)) Sm_.refl rfl hl.1 (Nat.le_of_ble_eq_true rfl) ⟨Nat.zero_le _, Nat.zero_le _⟩ d_Firmware_readVolumeSector_18 (fun H locs hw => ?_) rfl
  refine n_l2i hC hf d_Firmware_readVolumeSector_21 (fun v29 hf => ?_)
  refine n_istore_n hC [(2, .int v29), (1, .int v26), (0, .ref t_o)] hl d_Firmware_readVolumeSector_22 rfl (by decide) rfl (fun ls hl => ?_)
  refine n_aload_n hC hl 2 d_Firmware_readVolumeSector_23 rfl rfl ?_
  refine n_aload_n hC hl 2 d_Firmware_readVolumeSector_24 rfl rfl ?_
  refine n_get hC hw fg_Firmware_35 0 rfl rfl d_Firmware_readVolumeSector_25 ?_
  refine n_iload_n hC hl 1 d_Firmware_readVolumeSector_28 rfl rfl ?_
  refine n_bipush hC 22 d_Firmware_readVolumeSector_29 (by decide) ?_
  refine n_iadd hC hf d_Firmware_readVolumeSector_31 (fun v30 hf => ?_)
  refine n_iconst hC 2 d_Firmware_readVolumeSector_32 (by decide) ?_
  obtain ⟨u31, hu31, hf⟩ := bd_s hf
  refine n_callVl hC hw fc_Firmware_82 (c_Store_getLow l g E hEe d_o d_words_a d_words_n d_length d_words v30 2 N u31 hu31) [1, 2] (wd_Firmware_readVolumeSector g t_o d_o d_words_a r_o u_o t_loaderSectors_a t_chain_a d_words_n t_sectors t_tableSectors t_clusters t_tried t_header t_bootStart t_kernelAddress t_kernelSize d_length d_words) 1 rfl ⟨rfl, rfl⟩ ⟨Nat.le_of_ble_eq_true rfl, Nat.le_of_ble_eq_true rfl⟩ rfl (At_.cons rfl (At_.cons rfl At_.nil)) (At_.cons rfl (At_.cons rfl At_.nil)) Sm_.refl rfl hl.1 (Nat.le_of_ble_eq_true rfl) ⟨Nat.zero_le _, Nat.zero_le _⟩ d_Firmware_readVolumeSector_33 (fun H locs hw => ?_) rfl
  refine n_l2i hC hf d_Firmware_readVolumeSector_36 (fun v32 hf => ?_)
  refine n_put hC hw fp_Firmware_161 0 (wd_Firmware_readVolumeSector g t_o d_o d_words_a r_o u_o t_loaderSectors_a t_chain_a d_words_n t_sectors v32 t_clusters t_tried t_header t_bootStart t_kernelAddress t_kernelSize d_length d_words) rfl rfl rfl (Nat.le_of_ble_eq_true rfl) d_Firmware_readVolumeSector_37 rfl (fun H locs hw => ?_)
  refine n_aload_n hC hl 2 d_Firmware_readVolumeSector_40 rfl rfl ?_
  refine n_iload_n hC hl 0 d_Firmware_readVolumeSector_41 rfl rfl ?_
  refine n_aload_n hC hl 2 d_Firmware_readVolumeSector_42 rfl rfl ?_
  refine n_get hC hw fg_Firmware_161 0 rfl rfl d_Firmware_readVolumeSector_43 ?_
  obtain ⟨u33, hu33, hf⟩ := bd_s hf
  refine n_callSi hC hw fc_Firmware_164 (c_Volume_clustersIn l g E hEe v29 v32 u33 hu33) [] (wd_Firmware_readVolumeSector g t_o d_o d_words_a r_o u_o t_loaderSectors_a t_chain_a d_words_n t_sectors v32 t_clusters t_tried t_header t_bootStart t_kernelAddress t_kernelSize d_length d_words) ⟨rfl, rfl⟩ ⟨Nat.le_of_ble_eq_true rfl, Nat.le_of_ble_eq_true rfl⟩ rfl At_.nil At_.nil Sm_.refl rfl hl.1 (Nat.le_of_ble_eq_true rfl) ⟨Nat.zero_le _, Nat.zero_le _⟩ d_Firmware_readVolumeSector_46 (fun H locs hw => ?_) rfl
  refine n_put hC hw fp_Firmware_168 0 (wd_Firmware_readVolumeSector g t_o d_o d_words_a r_o u_o t_loaderSectors_a t_chain_a d_words_n t_sectors v32 u33 t_tried t_header t_bootStart t_kernelAddress t_kernelSize d_length d_words) rfl rfl rfl (Nat.le_of_ble_eq_true rfl) d_Firmware_readVolumeSector_49 rfl (fun H locs hw => ?_)
  refine n_aload_n hC hl 2 d_Firmware_readVolumeSector_52 rfl rfl ?_
  refine n_get hC hw fg_Firmware_35 0 rfl rfl d_Firmware_readVolumeSector_53 ?_
  refine n_aload_n hC hl 2 d_Firmware_readVolumeSector_56 rfl rfl ?_
  refine n_get hC hw fg_Firmware_25 0 rfl rfl d_Firmware_readVolumeSector_57 ?_
  obtain ⟨u34, hu34, hf⟩ := bd_s hf
  refine n_callVi hC hw fc_Firmware_58 (c_Store_isBootSector l g E hEe d_o d_words_a d_words_n d_length d_words t_bootStart N u34 hu34) [1, 2] (wd_Firmware_readVolumeSector g t_o d_o d_words_a r_o u_o t_loaderSectors_a t_chain_a d_words_n t_sectors v32 u33 t_tried t_header t_bootStart t_kernelAddress t_kernelSize d_length d_words) 1 rfl ⟨rfl, rfl⟩ ⟨Nat.le_of_ble_eq_true rfl, Nat.le_of_ble_eq_true rfl⟩ rfl (At_.cons rfl (At_.cons rfl At_.nil)) (At_.cons rfl (At_.cons rfl At_.nil)) Sm_.refl rfl hl.1 (Nat.le_of_ble_eq_true rfl) ⟨Nat.zero_le _, Nat.zero_le _⟩ d_Firmware_readVolumeSector_60 (fun H locs hw => ?_) rfl
  refine n_if_eq hC hf 201 d_Firmware_readVolumeSector_63 (by decide) (fun hf => ?_) (fun hf => ?_)
  · refine n_iconst hC 0 d_Firmware_readVolumeSector_201 (by decide) ?_
    cases hf
    exact hret _ _ _ _ hw (show narrow .boolean (Value.int 0) = Value.int 0 from rfl) d_Firmware_readVolumeSector_202
  · refine n_aload_n hC hl 2 d_Firmware_readVolumeSector_66 rfl rfl ?_
    refine n_get hC hw fg_Firmware_35 0 rfl rfl d_Firmware_readVolumeSector_67 ?_
    refine n_iload_n hC hl 1 d_Firmware_readVolumeSector_70 rfl rfl ?_
    refine n_bipush hC 11 d_Firmware_readVolumeSector_71 (by decide) ?_
    refine n_iadd hC hf d_Firmware_readVolumeSector_73 (fun v35 hf => ?_)
    refine n_iconst hC 2 d_Firmware_readVolumeSector_74 (by decide) ?_
    obtain ⟨u36, hu36, hf⟩ := bd_s hf
    refine n_callVl hC hw fc_Firmware_82 (c_Store_getLow l g E hEe d_o d_words_a d_words_n d_length d_words v35 2 N u36 hu36) [1, 2] (wd_Firmware_readVolumeSector g t_o d_o d_words_a r_o u_o t_loaderSectors_a t_chain_a d_words_n t_sectors v32 u33 t_tried t_header t_bootStart t_kernelAddress t_kernelSize d_length d_words) 1 rfl ⟨rfl, rfl⟩ ⟨Nat.le_of_ble_eq_true rfl, Nat.le_of_ble_eq_true rfl⟩ rfl (At_.cons rfl (At_.cons rfl At_.nil)) (At_.cons rfl (At_.cons rfl At_.nil)) Sm_.refl rfl hl.1 (Nat.le_of_ble_eq_true rfl) ⟨Nat.zero_le _, Nat.zero_le _⟩ d_Firmware_readVolumeSector_75 (fun H locs hw => ?_) rfl
    refine n_ldc2 hC 512 kc_Firmware_171 d_Firmware_readVolumeSector_78 ?_
    refine n_lcmp hC hf d_Firmware_readVolumeSector_81 (fun v37 hf => ?_)
    refine n_if_ne hC hf 201 d_Firmware_readVolumeSector_82 (by decide) (fun hf => ?_) (fun hf => ?_)
    · refine n_iconst hC 0 d_Firmware_readVolumeSector_201 (by decide) ?_
      cases hf
      exact hret _ _ _ _ hw (show narrow .boolean (Value.int 0) = Value.int 0 from rfl) d_Firmware_readVolumeSector_202
    · refine n_aload_n hC hl 2 d_Firmware_readVolumeSector_85 rfl rfl ?_
      refine n_get hC hw fg_Firmware_35 0 rfl rfl d_Firmware_readVolumeSector_86 ?_
      refine n_iload_n hC hl 1 d_Firmware_readVolumeSector_89 rfl rfl ?_
      refine n_bipush hC 13 d_Firmware_readVolumeSector_90 (by decide) ?_
      refine n_iadd hC hf d_Firmware_readVolumeSector_92 (fun v38 hf => ?_)
      obtain ⟨u39, hu39, hf⟩ := bd_s hf
      refine n_callVi hC hw fc_Firmware_75 (c_Store_get l g E hEe d_o d_words_a d_words_n d_length d_words v38 u39 hu39) [1, 2] (wd_Firmware_readVolumeSector g t_o d_o d_words_a r_o u_o t_loaderSectors_a t_chain_a d_words_n t_sectors v32 u33 t_tried t_header t_bootStart t_kernelAddress t_kernelSize d_length d_words) 1 rfl ⟨rfl, rfl⟩ ⟨Nat.le_of_ble_eq_true rfl, Nat.le_of_ble_eq_true rfl⟩ rfl (At_.cons rfl (At_.cons rfl At_.nil)) (At_.cons rfl (At_.cons rfl At_.nil)) Sm_.refl rfl hl.1 (Nat.le_of_ble_eq_true rfl) ⟨Nat.zero_le _, Nat.zero_le _⟩ d_Firmware_readVolumeSector_93 (fun H locs hw => ?_) rfl
      refine n_iconst hC 1 d_Firmware_readVolumeSector_96 (by decide) ?_
      refine n_icmp_ne hC hf 201 d_Firmware_readVolumeSector_97 (by decide) (fun hf => ?_) (fun hf => ?_)
      · refine n_iconst hC 0 d_Firmware_readVolumeSector_201 (by decide) ?_
        cases hf
        exact hret _ _ _ _ hw (show narrow .boolean (Value.int 0) = Value.int 0 from rfl) d_Firmware_readVolumeSector_202
      · refine n_aload_n hC hl 2 d_Firmware_readVolumeSector_100 rfl rfl ?_
        refine n_get hC hw fg_Firmware_35 0 rfl rfl d_Firmware_readVolumeSector_101 ?_
        refine n_iload_n hC hl 1 d_Firmware_readVolumeSector_104 rfl rfl ?_
        refine n_bipush hC 14 d_Firmware_readVolumeSector_105 (by decide) ?_
        refine n_iadd hC hf d_Firmware_readVolumeSector_107 (fun v40 hf => ?_)
        refine n_iconst hC 2 d_Firmware_readVolumeSector_108 (by decide) ?_
        obtain ⟨u41, hu41, hf⟩ := bd_s hf
        refine n_callVl hC hw fc_Firmware_82 (c_Store_getLow l g E hEe d_o d_words_a d_words_n d_length d_words v40 2 N u41 hu41) [1, 2] (wd_Firmware_readVolumeSector g t_o d_o d_words_a r_o u_o t_loaderSectors_a t_chain_a d_words_n t_sectors v32 u33 t_tried t_header t_bootStart t_kernelAddress t_kernelSize d_length d_words) 1 rfl ⟨rfl, rfl⟩ ⟨Nat.le_of_ble_eq_true rfl, Nat.le_of_ble_eq_true rfl⟩ rfl (At_.cons rfl (At_.cons rfl At_.nil)) (At_.cons rfl (At_.cons rfl At_.nil)) Sm_.refl rfl hl.1 (Nat.le_of_ble_eq_true rfl) ⟨Nat.zero_le _, Nat.zero_le _⟩ d_Firmware_readVolumeSector_109 (fun H locs hw => ?_) rfl
        refine n_lconst hC 1 d_Firmware_readVolumeSector_112 (by decide) ?_
        refine n_lcmp hC hf d_Firmware_readVolumeSector_113 (fun v42 hf => ?_)
        refine n_if_ne hC hf 201 d_Firmware_readVolumeSector_114 (by decide) (fun hf => ?_) (fun hf => ?_)
        · refine n_iconst hC 0 d_Firmware_readVolumeSector_201 (by decide) ?_
          cases hf
          exact hret _ _ _ _ hw (show narrow .boolean (Value.int 0) = Value.int 0 from rfl) d_Firmware_readVolumeSector_202
        · refine n_aload_n hC hl 2 d_Firmware_readVolumeSector_117 rfl rfl ?_
          refine n_get hC hw fg_Firmware_35 0 rfl rfl d_Firmware_readVolumeSector_118 ?_
          refine n_iload_n hC hl 1 d_Firmware_readVolumeSector_121 rfl rfl ?_
          refine n_bipush hC 16 d_Firmware_readVolumeSector_122 (by decide) ?_
          refine n_iadd hC hf d_Firmware_readVolumeSector_124 (fun v43 hf => ?_)
          obtain ⟨u44, hu44, hf⟩ := bd_s hf
          refine n_callVi hC hw fc_Firmware_75 (c_Store_get l g E hEe d_o d_words_a d_words_n d_length d_words v43 u44 hu44) [1, 2] (wd_Firmware_readVolumeSector g t_o d_o d_words_a r_o u_o t_loaderSectors_a t_chain_a d_words_n t_sectors v32 u33 t_tried t_header t_bootStart t_kernelAddress t_kernelSize d_length d_words) 1 rfl ⟨rfl, rfl⟩ ⟨Nat.le_of_ble_eq_true rfl, Nat.le_of_ble_eq_true rfl⟩ rfl (At_.cons rfl (At_.cons rfl At_.nil)) (At_.cons rfl (At_.cons rfl At_.nil)) Sm_.refl rfl hl.1 (Nat.le_of_ble_eq_true rfl) ⟨Nat.zero_le _, Nat.zero_le _⟩ d_Firmware_readVolumeSector_125 (fun H locs hw => ?_) rfl
          refine n_iconst hC 2 d_Firmware_readVolumeSector_128 (by decide) ?_
          refine n_icmp_ne hC hf 201 d_Firmware_readVolumeSector_129 (by decide) (fun hf => ?_) (fun hf => ?_)
          · refine n_iconst hC 0 d_Firmware_readVolumeSector_201 (by decide) ?_
            cases hf
            exact hret _ _ _ _ hw (show narrow .boolean (Value.int 0) = Value.int 0 from rfl) d_Firmware_readVolumeSector_202
          · refine n_aload_n hC hl 2 d_Firmware_readVolumeSector_132 rfl rfl ?_
            refine n_get hC hw fg_Firmware_35 0 rfl rfl d_Firmware_readVolumeSector_133 ?_
            refine n_iload_n hC hl 1 d_Firmware_readVolumeSector_136 rfl rfl ?_
            refine n_bipush hC 17 d_Firmware_readVolumeSector_137 (by decide) ?_
            refine n_iadd hC hf d_Firmware_readVolumeSector_139 (fun v45 hf => ?_)
            refine n_iconst hC 2 d_Firmware_readVolumeSector_140 (by decide) ?_
            obtain ⟨u46, hu46, hf⟩ := bd_s hf
            refine n_callVl hC hw fc_Firmware_82 (c_Store_getLow l g E hEe d_o d_words_a d_words_n d_length d_words v45 2 N u46 hu46) [1, 2] (wd_Firmware_readVolumeSector g t_o d_o d_words_a r_o u_o t_loaderSectors_a t_chain_a d_words_n t_sectors v32 u33 t_tried t_header t_bootStart t_kernelAddress t_kernelSize d_length d_words) 1 rfl ⟨rfl, rfl⟩ ⟨Nat.le_of_ble_eq_true rfl, Nat.le_of_ble_eq_true rfl⟩ rfl (At_.cons rfl (At_.cons rfl At_.nil)) (At_.cons rfl (At_.cons rfl At_.nil)) Sm_.refl rfl hl.1 (Nat.le_of_ble_eq_true rfl) ⟨Nat.zero_le _, Nat.zero_le _⟩ d_Firmware_readVolumeSector_141 (fun H locs hw => ?_) rfl
            refine n_ldc2 hC 32 kc_Firmware_173 d_Firmware_readVolumeSector_144 ?_
            refine n_lcmp hC hf d_Firmware_readVolumeSector_147 (fun v47 hf => ?_)
            refine n_if_ne hC hf 201 d_Firmware_readVolumeSector_148 (by decide) (fun hf => ?_) (fun hf => ?_)
            · refine n_iconst hC 0 d_Firmware_readVolumeSector_201 (by decide) ?_
              cases hf
              exact hret _ _ _ _ hw (show narrow .boolean (Value.int 0) = Value.int 0 from rfl) d_Firmware_readVolumeSector_202
            · refine n_aload_n hC hl 2 d_Firmware_readVolumeSector_151 rfl rfl ?_
              refine n_get hC hw fg_Firmware_161 0 rfl rfl d_Firmware_readVolumeSector_152 ?_
              refine n_if_le hC hf 201 d_Firmware_readVolumeSector_155 (by decide) (fun hf => ?_) (fun hf => ?_)
              · refine n_iconst hC 0 d_Firmware_readVolumeSector_201 (by decide) ?_
                cases hf
                exact hret _ _ _ _ hw (show narrow .boolean (Value.int 0) = Value.int 0 from rfl) d_Firmware_readVolumeSector_202
              · refine n_aload_n hC hl 2 d_Firmware_readVolumeSector_158 rfl rfl ?_
                refine n_get hC hw fg_Firmware_168 0 rfl rfl d_Firmware_readVolumeSector_159 ?_
                refine n_iconst hC 1 d_Firmware_readVolumeSector_162 (by decide) ?_
                refine n_icmp_lt hC hf 201 d_Firmware_readVolumeSector_163 (by decide) (fun hf => ?_) (fun hf => ?_)
                · refine n_iconst hC 0 d_Firmware_readVolumeSector_201 (by decide) ?_
                  cases hf
                  exact hret _ _ _ _ hw (show narrow .boolean (Value.int 0) = Value.int 0 from rfl) d_Firmware_readVolumeSector_202
                · refine n_aload_n hC hl 2 d_Firmware_readVolumeSector_166 rfl rfl ?_
                  refine n_get hC hw fg_Firmware_168 0 rfl rfl d_Firmware_readVolumeSector_167 ?_
                  obtain ⟨u48, hu48, hf⟩ := bd_s hf
                  refine n_callSi hC hw fc_Firmware_175 (c_Volume_tableBytes l g E hEe u33 u48 hu48) [] (wd_Firmware_readVolumeSector g t_o d_o d_words_a r_o u_o t_loaderSectors_a t_chain_a d_words_n t_sectors v32 u33 t_tried t_header t_bootStart t_kernelAddress t_kernelSize d_length d_words) ⟨rfl, rfl⟩ ⟨Nat.le_of_ble_eq_true rfl, Nat.le_of_ble_eq_true rfl⟩ rfl At_.nil At_.nil Sm_.refl rfl hl.1 (Nat.le_of_ble_eq_true rfl) ⟨Nat.zero_le _, Nat.zero_le _⟩ d_Firmware_readVolumeSector_170 (fun H locs hw => ?_) rfl
                  refine n_sipush hC 512 d_Firmware_readVolumeSector_173 (by decide) ?_
                  refine n_aload_n hC hl 2 d_Firmware_readVolumeSector_176 rfl rfl ?_
                  refine n_get hC hw fg_Firmware_161 0 rfl rfl d_Firmware_readVolumeSector_177 ?_
                  refine n_imul hC hf d_Firmware_readVolumeSector_180 (fun v49 hf => ?_)
                  refine n_icmp_gt hC hf 201 d_Firmware_readVolumeSector_181 (by decide) (fun hf => ?_) (fun hf => ?_)
                  · refine n_iconst hC 0 d_Firmware_readVolumeSector_201 (by decide) ?_
                    cases hf
                    exact hret _ _ _ _ hw (show narrow .boolean (Value.int 0) = Value.int 0 from rfl) d_Firmware_readVolumeSector_202
                  · refine n_aload_n hC hl 2 d_Firmware_readVolumeSector_184 rfl rfl ?_
                    refine n_get hC hw fg_Firmware_25 0 rfl rfl d_Firmware_readVolumeSector_185 ?_
                    refine n_iload_n hC hl 0 d_Firmware_readVolumeSector_188 rfl rfl ?_
                    refine n_iadd hC hf d_Firmware_readVolumeSector_189 (fun v50 hf => ?_)
                    refine n_aload_n hC hl 2 d_Firmware_readVolumeSector_190 rfl rfl ?_
                    refine n_get hC hw fg_Firmware_38 0 rfl rfl d_Firmware_readVolumeSector_191 ?_
                    refine n_icmp_gt hC hf 201 d_Firmware_readVolumeSector_194 (by decide) (fun hf => ?_) (fun hf => ?_)
                    · refine n_iconst hC 0 d_Firmware_readVolumeSector_201 (by decide) ?_
                      cases hf
                      exact hret _ _ _ _ hw (show narrow .boolean (Value.int 0) = Value.int 0 from rfl) d_Firmware_readVolumeSector_202
                    · refine n_iconst hC 1 d_Firmware_readVolumeSector_197 (by decide) ?_
                      refine n_goto hC 202 d_Firmware_readVolumeSector_198 (by decide) ?_
                      cases hf
                      exact hret _ _ _ _ hw (show narrow .boolean (Value.int 1) = Value.int 1 from rfl) d_Firmware_readVolumeSector_202
def wd_Firmware_kernelEntry (g : GT) (t_o : Nat) (d_o : Nat) (d_words_a : Nat) (r_o : Nat) (u_o : Nat) (t_loaderSectors_a : Nat) (t_chain_a : Nat) (d_words_n : Nat) (t_sectors : Int32) (t_tableSectors : Int32) (t_clusters : Int32) (t_tried : Int32) (t_header : Int32) (t_bootStart : Int32) (t_kernelAddress : Int32) (t_kernelSize : Int32) (d_length : Int32) (d_words : Nat → Int64) : va_W := [(t_o, .inr (5, [.ref r_o, .ref d_o, .int t_sectors, .ref u_o, .ref t_loaderSectors_a, .ref t_chain_a, .int t_tableSectors, .int t_clusters, .int t_tried, .int t_header, .int t_bootStart, .int t_kernelAddress, .int t_kernelSize])), (d_o, .inr (0, [.int d_length, .ref d_words_a])), (d_words_a, .inl (g.2.2.1, d_words_n, .inr (.inl d_words)))]
def f_Firmware_kernelEntry_L20 (N : Nat) (v33 : Int32) (d_length : Int32) (d_words_n : Nat) (d_words : Nat → Int64) (k20 : Int32 → Option (Int32)) (x42 : Int32) : Option (Int32) :=
  if (32 : Int32) ≤ x42 then some ((-1)) else lt_ (x42 * 32) (fun v51 => lt_ (v33 + v51) (fun v52 => bd_ (f_Store_get v52 d_length d_words_n d_words) (fun u53 => if ¬ u53 = 0 then bd_ (f_Store_holdsText N 11 v52 d_length d_words_n d_words (sByt 10)) (fun u54 => lt_ (lt_ (x42 + 1) (fun v57 => k20 v57)) (fun (j77 : Option (Int32)) => if u54 = 0 then j77 else lt_ (v52 + 11) (fun v58 => bd_ (f_Store_get v58 d_length d_words_n d_words) (fun u59 => if ¬ u59 = (32 : Int32) then j77 else some (v52))))) else some ((-1)))))
def f_Firmware_kernelEntry (N : Nat) (t_bootStart : Int32) (t_tableSectors : Int32) (d_length : Int32) (d_words_n : Nat) (d_words : Nat → Int64) : Option (Int32) :=
  lt_ (t_bootStart + 1) (fun v30 => lt_ ((2 : Int32) * t_tableSectors) (fun v31 => lt_ (v30 + v31) (fun v32 => lt_ (v32 * 512) (fun v33 => lp_ (fun _ => none) (f_Firmware_kernelEntry_L20 N v33 d_length d_words_n d_words) N 0))))
def rm_Firmware_kernelEntry : Room := { frames := 5, cells := 0, slots := 0, locals := 108 }
set_option maxHeartbeats 4000000 in
set_option maxRecDepth 100000 in
theorem c_Firmware_kernelEntry (l : Launch) (g : GT) (E : (Nat → Prop) → State → Prop) (hEe : Ee E) (X : XT) (hS : ∀ (A : Nat → Prop) (u : State), E A u → SS X A u) (t_o : Nat) (d_o : Nat) (d_words_a : Nat) (r_o : Nat) (u_o : Nat) (t_loaderSectors_a : Nat) (t_chain_a : Nat) (d_words_n : Nat) (t_sectors : Int32) (t_tableSectors : Int32) (t_clusters : Int32) (t_tried : Int32) (t_header : Int32) (t_bootStart : Int32) (t_kernelAddress : Int32) (t_kernelSize : Int32) (d_length : Int32) (d_words : Nat → Int64) (N : Nat) (z : Int32) (hf : f_Firmware_kernelEntry N t_bootStart t_tableSectors d_length d_words_n d_words = some z) : Cg l g E y_Firmware_kernelEntry ws_Firmware_kernelEntry rm_Firmware_kernelEntry [.ref t_o] (wd_Firmware_kernelEntry g t_o d_o d_words_a r_o u_o t_loaderSectors_a t_chain_a d_words_n t_sectors t_tableSectors t_clusters t_tried t_header t_bootStart t_kernelAddress t_kernelSize d_length d_words) (some (.int z)) (wd_Firmware_kernelEntry g t_o d_o d_words_a r_o u_o t_loaderSectors_a t_chain_a d_words_n t_sectors t_tableSectors t_clusters t_tried t_header t_bootStart t_kernelAddress t_kernelSize d_length d_words) := by
  refine Ct.ofI hEe good_W (by decide) rfl (Nat.le_of_ble_eq_true rfl) ?_
  intro p e s m args below meth c A ls Q hC hw hl hret
  have hC : CX p m c b_Firmware_kernelEntry 4 s args Wall R_Firmware g.1 classes (tK g) E A := hC
  have hl : lv_has ls 4 [(0, .ref t_o)] := hl
  unfold f_Firmware_kernelEntry at hf
  refine n_aload_n hC hl 0 d_Firmware_kernelEntry_0 rfl rfl ?_
  refine n_get hC hw fg_Firmware_25 0 rfl rfl d_Firmware_kernelEntry_1 ?_
  refine n_iconst hC 1 d_Firmware_kernelEntry_4 (by decide) ?_
  refine n_iadd hC hf d_Firmware_kernelEntry_5 (fun v30 hf => ?_)
  refine n_iconst hC 2 d_Firmware_kernelEntry_6 (by decide) ?_
  refine n_aload_n hC hl 0 d_Firmware_kernelEntry_7 rfl rfl ?_
  refine n_get hC hw fg_Firmware_161 0 rfl rfl d_Firmware_kernelEntry_8 ?_
  refine n_imul hC hf d_Firmware_kernelEntry_11 (fun v31 hf => ?_)
  refine n_iadd hC hf d_Firmware_kernelEntry_12 (fun v32 hf => ?_)
  refine n_sipush hC 512 d_Firmware_kernelEntry_13 (by decide) ?_
  refine n_imul hC hf d_Firmware_kernelEntry_16 (fun v33 hf => ?_)
  refine n_istore_n hC [(1, .int v33), (0, .ref t_o)] hl d_Firmware_kernelEntry_17 rfl (by decide) rfl (fun ls hl => ?_)
  refine n_iconst hC 0 d_Firmware_kernelEntry_18 (by decide) ?_
  refine n_istore_n hC [(2, .int 0), (1, .int v33), (0, .ref t_o)] hl d_Firmware_kernelEntry_19 rfl (by decide) rfl (fun ls hl => ?_)
  have hL20 := lw1 (B := f_Firmware_kernelEntry_L20 N v33 d_length d_words_n d_words) (z := z) (fun (x42 : Int32) => ∀ (H : Heap) (locs : List Loc) (ls : Array Slot), WS g.1 classes A s.heap H locs (wd_Firmware_kernelEntry g t_o d_o d_words_a r_o u_o t_loaderSectors_a t_chain_a d_words_n t_sectors t_tableSectors t_clusters t_tried t_header t_bootStart t_kernelAddress t_kernelSize d_length d_words) → lv_has ls 4 [(2, .int x42), (1, .int v33), (0, .ref t_o)] → W p l e rm_Firmware_kernelEntry s m args below meth c H locs 0 0 Q (F0 m 20 ls [])) (by
    intro k20 hk20 x42 hf H locs ls hw hl
    unfold f_Firmware_kernelEntry_L20 at hf
    refine n_iload_n hC hl 0 d_Firmware_kernelEntry_20 rfl rfl ?_
    refine n_bipush hC 32 d_Firmware_kernelEntry_21 (by decide) ?_
    refine n_icmp_ge hC hf 83 d_Firmware_kernelEntry_23 (by decide) (fun hf => ?_) (fun hf => ?_)
    · refine n_iconst hC (-1) d_Firmware_kernelEntry_83 (by decide) ?_
      cases hf
      exact hret _ _ _ _ hw rfl d_Firmware_kernelEntry_84
    · refine n_iload_n hC hl 1 d_Firmware_kernelEntry_26 rfl rfl ?_
      refine n_iload_n hC hl 0 d_Firmware_kernelEntry_27 rfl rfl ?_
      refine n_bipush hC 32 d_Firmware_kernelEntry_28 (by decide) ?_
      refine n_imul hC hf d_Firmware_kernelEntry_30 (fun v51 hf => ?_)
      refine n_iadd hC hf d_Firmware_kernelEntry_31 (fun v52 hf => ?_)
      refine n_istore_n hC [(3, .int v52), (2, .int x42), (1, .int v33), (0, .ref t_o)] hl d_Firmware_kernelEntry_32 rfl (by decide) rfl (fun ls hl => ?_)
      refine n_aload_n hC hl 3 d_Firmware_kernelEntry_33 rfl rfl ?_
      refine n_get hC hw fg_Firmware_35 0 rfl rfl d_Firmware_kernelEntry_34 ?_
      refine n_iload_n hC hl 0 d_Firmware_kernelEntry_37 rfl rfl ?_
      obtain ⟨u53, hu53, hf⟩ := bd_s hf
      refine n_callVi hC hw fc_Firmware_75 (c_Store_get l g E hEe d_o d_words_a d_words_n d_length d_words v52 u53 hu53) [1, 2] (wd_Firmware_kernelEntry g t_o d_o d_words_a r_o u_o t_loaderSectors_a t_chain_a d_words_n t_sectors t_tableSectors t_clusters t_tried t_header t_bootStart t_kernelAddress t_kernelSize d_length d_words) 1 rfl ⟨rfl, rfl⟩ ⟨Nat.le_of_ble_eq_true rfl, Nat.le_of_ble_eq_true rfl⟩ rfl (At_.cons rfl (At_.cons rfl At_.nil)) (At_.cons rfl (At_.cons rfl At_.nil)) Sm_.refl rfl hl.1 (Nat.le_of_ble_eq_true rfl) ⟨Nat.zero_le _, Nat.zero_le _⟩ d_Firmware_kernelEntry_38 (fun H locs hw => ?_) rfl
      refine n_if_ne hC hf 46 d_Firmware_kernelEntry_41 (by decide) (fun hf => ?_) (fun hf => ?_)
      · refine n_aload_n hC hl 3 d_Firmware_kernelEntry_46 rfl rfl ?_
        refine n_get hC hw fg_Firmware_35 0 rfl rfl d_Firmware_kernelEntry_47 ?_
        refine n_iload_n hC hl 0 d_Firmware_kernelEntry_50 rfl rfl ?_
        refine n_ldcS hC (fun A u h => (hS A u h).2.1 10 (by decide)) d_Firmware_kernelEntry_51 ?_
        obtain ⟨u54, hu54, hf⟩ := bd_s hf
        refine n_callVi hC hw fc_Firmware_129 (c_Store_holdsText l g E hEe (X.2.1 10) (X.2.2 10) 11 (sByt 10) (fun A u h => (hS A u h).1 10 (by decide)) d_o d_words_a d_words_n d_length d_words v52 N u54 hu54) [1, 2] (wd_Firmware_kernelEntry g t_o d_o d_words_a r_o u_o t_loaderSectors_a t_chain_a d_words_n t_sectors t_tableSectors t_clusters t_tried t_header t_bootStart t_kernelAddress t_kernelSize d_length d_words) 1 rfl ⟨rfl, rfl⟩ ⟨Nat.le_of_ble_eq_true rfl, Nat.le_of_ble_eq_true rfl⟩ rfl (At_.cons rfl (At_.cons rfl At_.nil)) (At_.cons rfl (At_.cons rfl At_.nil)) Sm_.refl rfl hl.1 (Nat.le_of_ble_eq_true rfl) ⟨Nat.zero_le _, Nat.zero_le _⟩ d_Firmware_kernelEntry_53 (fun H locs hw => ?_) rfl
        refine jn0 (∀ (H : Heap) (locs : List Loc) (ls : Array Slot), WS g.1 classes A s.heap H locs (wd_Firmware_kernelEntry g t_o d_o d_words_a r_o u_o t_loaderSectors_a t_chain_a d_words_n t_sectors t_tableSectors t_clusters t_tried t_header t_bootStart t_kernelAddress t_kernelSize d_length d_words) → lv_has ls 4 [(2, .int x42), (1, .int v33), (0, .ref t_o)] → W p l e rm_Firmware_kernelEntry s m args below meth c H locs 0 0 Q (F0 m 77 ls [])) hf (fun hf H locs ls hw hl => ?_) (fun j77 hj77 hf => ?_)
        · refine n_iinc hC (k := 0) hf (by decide) (fun v57 => [(2, .int v57), (1, .int v33), (0, .ref t_o)]) hl d_Firmware_kernelEntry_77 rfl (by decide) (fun _ => rfl) (fun v57 ls hf hl => ?_)
          refine n_goto hC 20 d_Firmware_kernelEntry_80 (by decide) ?_
          exact hk20 _ hf _ _ _ hw (lv_sub hl [0, 1, 2] rfl)
        refine n_if_eq hC hf 77 d_Firmware_kernelEntry_56 (by decide) (fun hf => ?_) (fun hf => ?_)
        · exact hj77 hf _ _ _ hw (lv_sub hl [1, 2, 3] rfl)
        · refine n_aload_n hC hl 3 d_Firmware_kernelEntry_59 rfl rfl ?_
          refine n_get hC hw fg_Firmware_35 0 rfl rfl d_Firmware_kernelEntry_60 ?_
          refine n_iload_n hC hl 0 d_Firmware_kernelEntry_63 rfl rfl ?_
          refine n_bipush hC 11 d_Firmware_kernelEntry_64 (by decide) ?_
          refine n_iadd hC hf d_Firmware_kernelEntry_66 (fun v58 hf => ?_)
          obtain ⟨u59, hu59, hf⟩ := bd_s hf
          refine n_callVi hC hw fc_Firmware_75 (c_Store_get l g E hEe d_o d_words_a d_words_n d_length d_words v58 u59 hu59) [1, 2] (wd_Firmware_kernelEntry g t_o d_o d_words_a r_o u_o t_loaderSectors_a t_chain_a d_words_n t_sectors t_tableSectors t_clusters t_tried t_header t_bootStart t_kernelAddress t_kernelSize d_length d_words) 1 rfl ⟨rfl, rfl⟩ ⟨Nat.le_of_ble_eq_true rfl, Nat.le_of_ble_eq_true rfl⟩ rfl (At_.cons rfl (At_.cons rfl At_.nil)) (At_.cons rfl (At_.cons rfl At_.nil)) Sm_.refl rfl hl.1 (Nat.le_of_ble_eq_true rfl) ⟨Nat.zero_le _, Nat.zero_le _⟩ d_Firmware_kernelEntry_67 (fun H locs hw => ?_) rfl
          refine n_bipush hC 32 d_Firmware_kernelEntry_70 (by decide) ?_
          refine n_icmp_ne hC hf 77 d_Firmware_kernelEntry_72 (by decide) (fun hf => ?_) (fun hf => ?_)
          · exact hj77 hf _ _ _ hw (lv_sub hl [1, 2, 3] rfl)
          · refine n_iload_n hC hl 0 d_Firmware_kernelEntry_75 rfl rfl ?_
            cases hf
            exact hret _ _ _ _ hw rfl d_Firmware_kernelEntry_76
      · refine n_iconst hC (-1) d_Firmware_kernelEntry_44 (by decide) ?_
        cases hf
        exact hret _ _ _ _ hw rfl d_Firmware_kernelEntry_45
    )
  exact hL20 N _ hf _ _ _ hw (lv_sub hl [0, 1, 2] rfl)
def wd_Firmware_followChain (g : GT) (t_o : Nat) (t_chain_a : Nat) (d_o : Nat) (d_words_a : Nat) (r_o : Nat) (u_o : Nat) (t_loaderSectors_a : Nat) (t_chain_n : Nat) (d_words_n : Nat) (t_sectors : Int32) (t_tableSectors : Int32) (t_clusters : Int32) (t_tried : Int32) (t_header : Int32) (t_bootStart : Int32) (t_kernelAddress : Int32) (t_kernelSize : Int32) (t_chain : Nat → Int32) (d_length : Int32) (d_words : Nat → Int64) : va_W := [(t_o, .inr (5, [.ref r_o, .ref d_o, .int t_sectors, .ref u_o, .ref t_loaderSectors_a, .ref t_chain_a, .int t_tableSectors, .int t_clusters, .int t_tried, .int t_header, .int t_bootStart, .int t_kernelAddress, .int t_kernelSize])), (t_chain_a, .inl (g.2.1, t_chain_n, .inl t_chain)), (d_o, .inr (0, [.int d_length, .ref d_words_a])), (d_words_a, .inl (g.2.2.1, d_words_n, .inr (.inl d_words)))]
def f_Firmware_followChain_L44 (N : Nat) (v34 : Int64) (t_clusters : Int32) (t_chain_n : Nat) (t_bootStart : Int32) (d_length : Int32) (d_words_n : Nat) (d_words : Nat → Int64) (k44 : Int32 → Int32 → (Nat → Int32) → Option (Int32 × (Nat → Int32))) (x46 : Int32) (x47 : Int32) (x48 : Nat → Int32) : Option (Int32 × (Nat → Int32)) :=
  lt_ (x46.toInt64) (fun v56 => lt_ (lg_cmp v56 v34) (fun v57 => if 0 ≤ v57 then lt_ (lg_cmp v34 0) (fun v58 => if v58 = 0 then some (1, x48) else if x47 < (4088 : Int32) then some (0, x48) else some (1, x48)) else if x47 < (2 : Int32) then some (0, x48) else lt_ (t_clusters + 1) (fun v59 => if x47 ≤ v59 then up_i t_chain_n x48 x46 x47 (fun (f60 : Nat → Int32) => bd_ (f_Firmware_clusterEntry N t_bootStart x47 d_length d_words_n d_words) (fun u61 => lt_ (x46 + 1) (fun v62 => k44 v62 u61 f60))) else some (0, x48))))
def f_Firmware_followChain (N : Nat) (a2 : Int64) (t_clusters : Int32) (t_chain : Nat → Int32) (t_chain_n : Nat) (t_bootStart : Int32) (d_length : Int32) (d_words_n : Nat) (d_words : Nat → Int64) (a1 : Int32) : Option (Int32 × (Nat → Int32)) :=
  lt_ (a2 + 512) (fun v32 => lt_ (v32 - 1) (fun v33 => lt_ (v33 / 512) (fun v34 => lt_ (t_clusters.toInt64) (fun v35 => lt_ (lg_cmp v34 v35) (fun v36 => if 0 < v36 then some (0, t_chain) else lt_ (((Int32.ofNat t_chain_n) : Int32).toInt64) (fun v37 => lt_ (lg_cmp v34 v37) (fun v38 => if v38 ≤ 0 then lp_ (fun _ _ _ => none) (f_Firmware_followChain_L44 N v34 t_clusters t_chain_n t_bootStart d_length d_words_n d_words) N 0 a1 t_chain else some (0, t_chain))))))))
def rm_Firmware_followChain : Room := { frames := 3, cells := 0, slots := 0, locals := 69 }
set_option maxHeartbeats 4000000 in
set_option maxRecDepth 100000 in
theorem c_Firmware_followChain (l : Launch) (g : GT) (E : (Nat → Prop) → State → Prop) (hEe : Ee E) (t_o : Nat) (t_chain_a : Nat) (d_o : Nat) (d_words_a : Nat) (r_o : Nat) (u_o : Nat) (t_loaderSectors_a : Nat) (t_chain_n : Nat) (d_words_n : Nat) (t_sectors : Int32) (t_tableSectors : Int32) (t_clusters : Int32) (t_tried : Int32) (t_header : Int32) (t_bootStart : Int32) (t_kernelAddress : Int32) (t_kernelSize : Int32) (t_chain : Nat → Int32) (d_length : Int32) (d_words : Nat → Int64) (a1 : Int32) (a2 : Int64) (N : Nat) (z : Int32 × (Nat → Int32)) (hf : f_Firmware_followChain N a2 t_clusters t_chain t_chain_n t_bootStart d_length d_words_n d_words a1 = some z) : Cg l g E y_Firmware_followChain ws_Firmware_followChain rm_Firmware_followChain [.ref t_o, .int a1, .long a2] (wd_Firmware_followChain g t_o t_chain_a d_o d_words_a r_o u_o t_loaderSectors_a t_chain_n d_words_n t_sectors t_tableSectors t_clusters t_tried t_header t_bootStart t_kernelAddress t_kernelSize t_chain d_length d_words) (some (.int z.1)) (wd_Firmware_followChain g t_o t_chain_a d_o d_words_a r_o u_o t_loaderSectors_a t_chain_n d_words_n t_sectors t_tableSectors t_clusters t_tried t_header t_bootStart t_kernelAddress t_kernelSize z.2 d_length d_words) := by
  refine Ct.ofI hEe good_W (by decide) rfl (Nat.le_of_ble_eq_true rfl) ?_
  intro p e s m args below meth c A ls Q hC hw hl hret
  have hC : CX p m c b_Firmware_followChain 8 s args Wall R_Firmware g.1 classes (tK g) E A := hC
  have hl : lv_has ls 8 [(0, .ref t_o), (1, .int a1), (2, .long a2)] := hl
  unfold f_Firmware_followChain at hf
  refine n_lload_n hC hl 2 d_Firmware_followChain_0 rfl rfl ?_
  refine n_ldc2 hC 512 kc_Firmware_171 d_Firmware_followChain_1 ?_
  refine n_ladd hC hf d_Firmware_followChain_4 (fun v32 hf => ?_)
  refine n_lconst hC 1 d_Firmware_followChain_5 (by decide) ?_
  refine n_lsub hC hf d_Firmware_followChain_6 (fun v33 hf => ?_)
  refine n_ldc2 hC 512 kc_Firmware_171 d_Firmware_followChain_7 ?_
  refine n_ldiv hC hf d_Firmware_followChain_10 (by decide) (fun v34 hf => ?_)
  refine n_lstore hC [(4, .long v34), (0, .ref t_o), (1, .int a1), (2, .long a2)] hl d_Firmware_followChain_11 (by decide) rfl (fun ls hl => ?_)
  refine n_lload hC hl 0 d_Firmware_followChain_13 rfl ?_
  refine n_aload_n hC hl 1 d_Firmware_followChain_15 rfl rfl ?_
  refine n_get hC hw fg_Firmware_168 0 rfl rfl d_Firmware_followChain_16 ?_
  refine n_i2l hC hf d_Firmware_followChain_19 (fun v35 hf => ?_)
  refine n_lcmp hC hf d_Firmware_followChain_20 (fun v36 hf => ?_)
  refine n_if_gt hC hf 36 d_Firmware_followChain_21 (by decide) (fun hf => ?_) (fun hf => ?_)
  · refine n_iconst hC 0 d_Firmware_followChain_36 (by decide) ?_
    cases hf
    exact hret _ _ _ _ hw (show narrow .boolean (Value.int 0) = Value.int 0 from rfl) d_Firmware_followChain_37
  · refine n_lload hC hl 0 d_Firmware_followChain_24 rfl ?_
    refine n_aload_n hC hl 1 d_Firmware_followChain_26 rfl rfl ?_
    refine n_get hC hw fg_Firmware_45 0 rfl rfl d_Firmware_followChain_27 ?_
    refine n_alen hC hw 1 0 (Int32.ofNat t_chain_n) rfl rfl rfl d_Firmware_followChain_30 ?_
    refine n_i2l hC hf d_Firmware_followChain_31 (fun v37 hf => ?_)
    refine n_lcmp hC hf d_Firmware_followChain_32 (fun v38 hf => ?_)
    refine n_if_le hC hf 38 d_Firmware_followChain_33 (by decide) (fun hf => ?_) (fun hf => ?_)
    · refine n_iload_n hC hl 2 d_Firmware_followChain_38 rfl rfl ?_
      refine n_istore hC [(6, .int a1), (4, .long v34), (0, .ref t_o), (1, .int a1), (2, .long a2)] hl d_Firmware_followChain_39 (by decide) rfl (fun ls hl => ?_)
      refine n_iconst hC 0 d_Firmware_followChain_41 (by decide) ?_
      refine n_istore hC [(7, .int 0), (6, .int a1), (4, .long v34), (0, .ref t_o), (1, .int a1), (2, .long a2)] hl d_Firmware_followChain_42 (by decide) rfl (fun ls hl => ?_)
      have hL44 := lw3 (B := f_Firmware_followChain_L44 N v34 t_clusters t_chain_n t_bootStart d_length d_words_n d_words) (z := z) (fun (x46 : Int32) (x47 : Int32) (x48 : Nat → Int32) => ∀ (H : Heap) (locs : List Loc) (ls : Array Slot), WS g.1 classes A s.heap H locs (wd_Firmware_followChain g t_o t_chain_a d_o d_words_a r_o u_o t_loaderSectors_a t_chain_n d_words_n t_sectors t_tableSectors t_clusters t_tried t_header t_bootStart t_kernelAddress t_kernelSize x48 d_length d_words) → lv_has ls 8 [(7, .int x46), (6, .int x47), (4, .long v34), (0, .ref t_o)] → W p l e rm_Firmware_followChain s m args below meth c H locs 0 0 Q (F0 m 44 ls [])) (by
        intro k44 hk44 x46 x47 x48 hf H locs ls hw hl
        unfold f_Firmware_followChain_L44 at hf
        refine n_iload hC hl 0 d_Firmware_followChain_44 rfl ?_
        refine n_i2l hC hf d_Firmware_followChain_46 (fun v56 hf => ?_)
        refine n_lload hC hl 2 d_Firmware_followChain_47 rfl ?_
        refine n_lcmp hC hf d_Firmware_followChain_49 (fun v57 hf => ?_)
        refine n_if_ge hC hf 95 d_Firmware_followChain_50 (by decide) (fun hf => ?_) (fun hf => ?_)
        · refine n_lload hC hl 2 d_Firmware_followChain_95 rfl ?_
          refine n_lconst hC 0 d_Firmware_followChain_97 (by decide) ?_
          refine n_lcmp hC hf d_Firmware_followChain_98 (fun v58 hf => ?_)
          refine n_if_eq hC hf 110 d_Firmware_followChain_99 (by decide) (fun hf => ?_) (fun hf => ?_)
          · refine n_iconst hC 1 d_Firmware_followChain_110 (by decide) ?_
            refine n_goto hC 115 d_Firmware_followChain_111 (by decide) ?_
            cases hf
            exact hret _ _ _ _ hw (show narrow .boolean (Value.int 1) = Value.int 1 from rfl) d_Firmware_followChain_115
          · refine n_iload hC hl 1 d_Firmware_followChain_102 rfl ?_
            refine n_sipush hC 4088 d_Firmware_followChain_104 (by decide) ?_
            refine n_icmp_lt hC hf 114 d_Firmware_followChain_107 (by decide) (fun hf => ?_) (fun hf => ?_)
            · refine n_iconst hC 0 d_Firmware_followChain_114 (by decide) ?_
              cases hf
              exact hret _ _ _ _ hw (show narrow .boolean (Value.int 0) = Value.int 0 from rfl) d_Firmware_followChain_115
            · refine n_iconst hC 1 d_Firmware_followChain_110 (by decide) ?_
              refine n_goto hC 115 d_Firmware_followChain_111 (by decide) ?_
              cases hf
              exact hret _ _ _ _ hw (show narrow .boolean (Value.int 1) = Value.int 1 from rfl) d_Firmware_followChain_115
        · refine n_iload hC hl 1 d_Firmware_followChain_53 rfl ?_
          refine n_iconst hC 2 d_Firmware_followChain_55 (by decide) ?_
          refine n_icmp_lt hC hf 70 d_Firmware_followChain_56 (by decide) (fun hf => ?_) (fun hf => ?_)
          · refine n_iconst hC 0 d_Firmware_followChain_70 (by decide) ?_
            cases hf
            exact hret _ _ _ _ hw (show narrow .boolean (Value.int 0) = Value.int 0 from rfl) d_Firmware_followChain_71
          · refine n_iload hC hl 1 d_Firmware_followChain_59 rfl ?_
            refine n_aload_n hC hl 3 d_Firmware_followChain_61 rfl rfl ?_
            refine n_get hC hw fg_Firmware_168 0 rfl rfl d_Firmware_followChain_62 ?_
            refine n_iconst hC 1 d_Firmware_followChain_65 (by decide) ?_
            refine n_iadd hC hf d_Firmware_followChain_66 (fun v59 hf => ?_)
            refine n_icmp_le hC hf 72 d_Firmware_followChain_67 (by decide) (fun hf => ?_) (fun hf => ?_)
            · refine n_aload_n hC hl 3 d_Firmware_followChain_72 rfl rfl ?_
              refine n_get hC hw fg_Firmware_45 0 rfl rfl d_Firmware_followChain_73 ?_
              refine n_iload hC hl 0 d_Firmware_followChain_76 rfl ?_
              refine n_iload hC hl 1 d_Firmware_followChain_78 rfl ?_
              refine n_iast hC hw hf 1 0 (fun f60 => wd_Firmware_followChain g t_o t_chain_a d_o d_words_a r_o u_o t_loaderSectors_a t_chain_n d_words_n t_sectors t_tableSectors t_clusters t_tried t_header t_bootStart t_kernelAddress t_kernelSize f60 d_length d_words) rfl rfl d_Firmware_followChain_80 (fun _ => rfl) (fun f60 H locs hf hw => ?_)
              refine n_aload_n hC hl 3 d_Firmware_followChain_81 rfl rfl ?_
              refine n_iload hC hl 1 d_Firmware_followChain_82 rfl ?_
              obtain ⟨u61, hu61, hf⟩ := bd_s hf
              refine n_callVi hC hw fc_Firmware_180 (c_Firmware_clusterEntry l g E hEe t_o d_o d_words_a r_o u_o t_loaderSectors_a t_chain_a d_words_n t_sectors t_tableSectors t_clusters t_tried t_header t_bootStart t_kernelAddress t_kernelSize d_length d_words x47 N u61 hu61) [0, 2, 3] (wd_Firmware_followChain g t_o t_chain_a d_o d_words_a r_o u_o t_loaderSectors_a t_chain_n d_words_n t_sectors t_tableSectors t_clusters t_tried t_header t_bootStart t_kernelAddress t_kernelSize f60 d_length d_words) 0 rfl ⟨rfl, rfl⟩ ⟨Nat.le_of_ble_eq_true rfl, Nat.le_of_ble_eq_true rfl⟩ rfl (At_.cons rfl (At_.cons rfl (At_.cons rfl At_.nil))) (At_.cons rfl (At_.cons rfl (At_.cons rfl At_.nil))) Sm_.refl rfl hl.1 (Nat.le_of_ble_eq_true rfl) ⟨Nat.zero_le _, Nat.zero_le _⟩ d_Firmware_followChain_84 (fun H locs hw => ?_) rfl
              refine n_istore hC [(6, .int u61), (7, .int x46), (4, .long v34), (0, .ref t_o)] hl d_Firmware_followChain_87 (by decide) rfl (fun ls hl => ?_)
              refine n_iinc hC (k := 1) hf (by decide) (fun v62 => [(7, .int v62), (6, .int u61), (4, .long v34), (0, .ref t_o)]) hl d_Firmware_followChain_89 rfl (by decide) (fun _ => rfl) (fun v62 ls hf hl => ?_)
              refine n_goto hC 44 d_Firmware_followChain_92 (by decide) ?_
              exact hk44 _ _ _ hf _ _ _ hw (lv_sub hl [0, 1, 2, 3] rfl)
            · refine n_iconst hC 0 d_Firmware_followChain_70 (by decide) ?_
              cases hf
              exact hret _ _ _ _ hw (show narrow .boolean (Value.int 0) = Value.int 0 from rfl) d_Firmware_followChain_71
        )
      exact hL44 N _ _ _ hf _ _ _ hw (lv_sub hl [0, 1, 2, 3] rfl)
    · refine n_iconst hC 0 d_Firmware_followChain_36 (by decide) ?_
      cases hf
      exact hret _ _ _ _ hw (show narrow .boolean (Value.int 0) = Value.int 0 from rfl) d_Firmware_followChain_37
def wd_Firmware_copyKernel (g : GT) (t_o : Nat) (t_chain_a : Nat) (r_o : Nat) (r_words_a : Nat) (d_o : Nat) (d_words_a : Nat) (u_o : Nat) (t_loaderSectors_a : Nat) (t_chain_n : Nat) (r_words_n : Nat) (d_words_n : Nat) (t_sectors : Int32) (t_tableSectors : Int32) (t_clusters : Int32) (t_tried : Int32) (t_header : Int32) (t_bootStart : Int32) (t_kernelAddress : Int32) (t_kernelSize : Int32) (t_chain : Nat → Int32) (r_length : Int32) (r_words : Nat → Int64) (d_length : Int32) (d_words : Nat → Int64) : va_W := [(t_o, .inr (5, [.ref r_o, .ref d_o, .int t_sectors, .ref u_o, .ref t_loaderSectors_a, .ref t_chain_a, .int t_tableSectors, .int t_clusters, .int t_tried, .int t_header, .int t_bootStart, .int t_kernelAddress, .int t_kernelSize])), (t_chain_a, .inl (g.2.1, t_chain_n, .inl t_chain)), (r_o, .inr (0, [.int r_length, .ref r_words_a])), (r_words_a, .inl (g.2.2.1, r_words_n, .inr (.inl r_words))), (d_o, .inr (0, [.int d_length, .ref d_words_a])), (d_words_a, .inl (g.2.2.1, d_words_n, .inr (.inl d_words)))]
def f_Firmware_copyKernel_L60 (u53 : Int64) (a1 : Int32) (t_chain_n : Nat) (t_chain : Nat → Int32) (t_bootStart : Int32) (t_tableSectors : Int32) (d_length : Int32) (d_words_n : Nat) (d_words : Nat → Int64) (r_length : Int32) (r_words_n : Nat) (k60 : Int32 → (Nat → Int64) → Option (Int32 × Int32 × Int32 × (Nat → Int64))) (x71 : Int32) (x72 : Nat → Int64) : Option (Int32 × Int32 × Int32 × (Nat → Int64)) :=
  lt_ (lt_ (u53.toInt32) (fun v97 => some (1, v97, a1, x72))) (fun (j127 : Option (Int32 × Int32 × Int32 × (Nat → Int64))) => if a1 ≤ x71 then j127 else lt_ (x71 / 512) (fun v98 => if ((Int32.ofNat t_chain_n) : Int32) ≤ v98 then j127 else lt_ (u53.toInt32) (fun v99 => lt_ (v99 + x71) (fun v100 => lt_ (x71 / 512) (fun v101 => ix_ t_chain_n t_chain v101 (fun (v102 : Int32) => bd_ (f_Firmware_clusterAt t_bootStart t_tableSectors v102) (fun u103 => lt_ (x71 - x71 / 512 * 512) (fun v104 => lt_ (u103 + v104) (fun v105 => bd_ (f_Store_get v105 d_length d_words_n d_words) (fun u106 => bd_ (f_Store_put v100 x72 r_length r_words_n u106) (fun u107 => lt_ (x71 + 1) (fun v108 => k60 v108 u107))))))))))))
def f_Firmware_copyKernel (N : Nat) (a1 : Int32) (t_chain_n : Nat) (t_chain : Nat → Int32) (t_bootStart : Int32) (t_tableSectors : Int32) (d_length : Int32) (d_words_n : Nat) (d_words : Nat → Int64) (t_kernelAddress : Int32) (t_kernelSize : Int32) (r_words : Nat → Int64) (r_length : Int32) (r_words_n : Nat) : Option (Int32 × Int32 × Int32 × (Nat → Int64)) :=
  if (8 : Int32) ≤ a1 then ix_ t_chain_n t_chain 0 (fun (v50 : Int32) => bd_ (f_Firmware_clusterAt t_bootStart t_tableSectors v50) (fun u51 => lt_ (u51 + 4) (fun v52 => bd_ (f_Store_getLow N 4 v52 d_length d_words_n d_words) (fun u53 => bd_ (f_Store_holdsText N 4 u51 d_length d_words_n d_words (sByt 11)) (fun u54 => if u54 = 0 then some (0, t_kernelAddress, t_kernelSize, r_words) else lt_ (a1.toInt64) (fun v55 => lt_ (u53 + v55) (fun v56 => lt_ (lg_cmp v56 65536) (fun v57 => if v57 ≤ 0 then lp_ (fun _ _ => none) (f_Firmware_copyKernel_L60 u53 a1 t_chain_n t_chain t_bootStart t_tableSectors d_length d_words_n d_words r_length r_words_n) N 0 r_words else some (0, t_kernelAddress, t_kernelSize, r_words))))))))) else some (0, t_kernelAddress, t_kernelSize, r_words)
def rm_Firmware_copyKernel : Room := { frames := 5, cells := 0, slots := 0, locals := 108 }
set_option maxHeartbeats 4000000 in
set_option maxRecDepth 100000 in
theorem c_Firmware_copyKernel (l : Launch) (g : GT) (E : (Nat → Prop) → State → Prop) (hEe : Ee E) (X : XT) (hS : ∀ (A : Nat → Prop) (u : State), E A u → SS X A u) (t_o : Nat) (t_chain_a : Nat) (r_o : Nat) (r_words_a : Nat) (d_o : Nat) (d_words_a : Nat) (u_o : Nat) (t_loaderSectors_a : Nat) (t_chain_n : Nat) (r_words_n : Nat) (d_words_n : Nat) (t_sectors : Int32) (t_tableSectors : Int32) (t_clusters : Int32) (t_tried : Int32) (t_header : Int32) (t_bootStart : Int32) (t_kernelAddress : Int32) (t_kernelSize : Int32) (t_chain : Nat → Int32) (r_length : Int32) (r_words : Nat → Int64) (d_length : Int32) (d_words : Nat → Int64) (a1 : Int32) (N : Nat) (z : Int32 × Int32 × Int32 × (Nat → Int64)) (hf : f_Firmware_copyKernel N a1 t_chain_n t_chain t_bootStart t_tableSectors d_length d_words_n d_words t_kernelAddress t_kernelSize r_words r_length r_words_n = some z) : Cg l g E y_Firmware_copyKernel ws_Firmware_copyKernel rm_Firmware_copyKernel [.ref t_o, .int a1] (wd_Firmware_copyKernel g t_o t_chain_a r_o r_words_a d_o d_words_a u_o t_loaderSectors_a t_chain_n r_words_n d_words_n t_sectors t_tableSectors t_clusters t_tried t_header t_bootStart t_kernelAddress t_kernelSize t_chain r_length r_words d_length d_words) (some (.int z.1)) (wd_Firmware_copyKernel g t_o t_chain_a r_o r_words_a d_o d_words_a u_o t_loaderSectors_a t_chain_n r_words_n d_words_n t_sectors t_tableSectors t_clusters t_tried t_header t_bootStart z.2.1 z.2.2.1 t_chain r_length z.2.2.2 d_length d_words) := by
  refine Ct.ofI hEe good_W (by decide) rfl (Nat.le_of_ble_eq_true rfl) ?_
  intro p e s m args below meth c A ls Q hC hw hl hret
  have hC : CX p m c b_Firmware_copyKernel 6 s args Wall R_Firmware g.1 classes (tK g) E A := hC
  have hl : lv_has ls 6 [(0, .ref t_o), (1, .int a1)] := hl
  unfold f_Firmware_copyKernel at hf
  refine n_iload_n hC hl 1 d_Firmware_copyKernel_0 rfl rfl ?_
  refine n_bipush hC 8 d_Firmware_copyKernel_1 (by decide) ?_
  refine n_icmp_ge hC hf 8 d_Firmware_copyKernel_3 (by decide) (fun hf => ?_) (fun hf => ?_)
  · refine n_aload_n hC hl 0 d_Firmware_copyKernel_8 rfl rfl ?_
    refine n_aload_n hC hl 0 d_Firmware_copyKernel_9 rfl rfl ?_
    refine n_get hC hw fg_Firmware_45 0 rfl rfl d_Firmware_copyKernel_10 ?_
    refine n_iconst hC 0 d_Firmware_copyKernel_13 (by decide) ?_
    refine n_iald hC hw hf 1 0 rfl rfl d_Firmware_copyKernel_14 (fun v50 hf => ?_)
    obtain ⟨u51, hu51, hf⟩ := bd_s hf
    refine n_callVi hC hw fc_Firmware_183 (c_Firmware_clusterAt l g E hEe t_o r_o d_o u_o t_loaderSectors_a t_chain_a t_sectors t_tableSectors t_clusters t_tried t_header t_bootStart t_kernelAddress t_kernelSize v50 u51 hu51) [0] (wd_Firmware_copyKernel g t_o t_chain_a r_o r_words_a d_o d_words_a u_o t_loaderSectors_a t_chain_n r_words_n d_words_n t_sectors t_tableSectors t_clusters t_tried t_header t_bootStart t_kernelAddress t_kernelSize t_chain r_length r_words d_length d_words) 0 rfl ⟨rfl, rfl⟩ ⟨Nat.le_of_ble_eq_true rfl, Nat.le_of_ble_eq_true rfl⟩ rfl (At_.cons rfl At_.nil) (At_.cons rfl At_.nil) Sm_.refl rfl hl.1 (Nat.le_of_ble_eq_true rfl) ⟨Nat.zero_le _, Nat.zero_le _⟩ d_Firmware_copyKernel_15 (fun H locs hw => ?_) rfl
    refine n_istore_n hC [(2, .int u51), (0, .ref t_o), (1, .int a1)] hl d_Firmware_copyKernel_18 rfl (by decide) rfl (fun ls hl => ?_)
    refine n_aload_n hC hl 1 d_Firmware_copyKernel_19 rfl rfl ?_
    refine n_get hC hw fg_Firmware_35 0 rfl rfl d_Firmware_copyKernel_20 ?_
    refine n_iload_n hC hl 0 d_Firmware_copyKernel_23 rfl rfl ?_
    refine n_iconst hC 4 d_Firmware_copyKernel_24 (by decide) ?_
    refine n_iadd hC hf d_Firmware_copyKernel_25 (fun v52 hf => ?_)
    refine n_iconst hC 4 d_Firmware_copyKernel_26 (by decide) ?_
    obtain ⟨u53, hu53, hf⟩ := bd_s hf
    refine n_callVl hC hw fc_Firmware_82 (c_Store_getLow l g E hEe d_o d_words_a d_words_n d_length d_words v52 4 N u53 hu53) [4, 5] (wd_Firmware_copyKernel g t_o t_chain_a r_o r_words_a d_o d_words_a u_o t_loaderSectors_a t_chain_n r_words_n d_words_n t_sectors t_tableSectors t_clusters t_tried t_header t_bootStart t_kernelAddress t_kernelSize t_chain r_length r_words d_length d_words) 4 rfl ⟨rfl, rfl⟩ ⟨Nat.le_of_ble_eq_true rfl, Nat.le_of_ble_eq_true rfl⟩ rfl (At_.cons rfl (At_.cons rfl At_.nil)) (At_.cons rfl (At_.cons rfl At_.nil)) Sm_.refl rfl hl.1 (Nat.le_of_ble_eq_true rfl) ⟨Nat.zero_le _, Nat.zero_le _⟩ d_Firmware_copyKernel_27 (fun H locs hw => ?_) rfl
    refine n_lstore_n hC [(3, .long u53), (2, .int u51), (0, .ref t_o), (1, .int a1)] hl d_Firmware_copyKernel_30 rfl (by decide) rfl (fun ls hl => ?_)
    refine n_aload_n hC hl 2 d_Firmware_copyKernel_31 rfl rfl ?_
    refine n_get hC hw fg_Firmware_35 0 rfl rfl d_Firmware_copyKernel_32 ?_
    refine n_iload_n hC hl 1 d_Firmware_copyKernel_35 rfl rfl ?_
    refine n_ldcS hC (fun A u h => (hS A u h).2.1 11 (by decide)) d_Firmware_copyKernel_36 ?_
    obtain ⟨u54, hu54, hf⟩ := bd_s hf
    refine n_callVi hC hw fc_Firmware_129 (c_Store_holdsText l g E hEe (X.2.1 11) (X.2.2 11) 4 (sByt 11) (fun A u h => (hS A u h).1 11 (by decide)) d_o d_words_a d_words_n d_length d_words u51 N u54 hu54) [4, 5] (wd_Firmware_copyKernel g t_o t_chain_a r_o r_words_a d_o d_words_a u_o t_loaderSectors_a t_chain_n r_words_n d_words_n t_sectors t_tableSectors t_clusters t_tried t_header t_bootStart t_kernelAddress t_kernelSize t_chain r_length r_words d_length d_words) 4 rfl ⟨rfl, rfl⟩ ⟨Nat.le_of_ble_eq_true rfl, Nat.le_of_ble_eq_true rfl⟩ rfl (At_.cons rfl (At_.cons rfl At_.nil)) (At_.cons rfl (At_.cons rfl At_.nil)) Sm_.refl rfl hl.1 (Nat.le_of_ble_eq_true rfl) ⟨Nat.zero_le _, Nat.zero_le _⟩ d_Firmware_copyKernel_38 (fun H locs hw => ?_) rfl
    refine n_if_eq hC hf 55 d_Firmware_copyKernel_41 (by decide) (fun hf => ?_) (fun hf => ?_)
    · refine n_iconst hC 0 d_Firmware_copyKernel_55 (by decide) ?_
      cases hf
      exact hret _ _ _ _ hw (show narrow .boolean (Value.int 0) = Value.int 0 from rfl) d_Firmware_copyKernel_56
    · refine n_lload_n hC hl 0 d_Firmware_copyKernel_44 rfl rfl ?_
      refine n_iload_n hC hl 3 d_Firmware_copyKernel_45 rfl rfl ?_
      refine n_i2l hC hf d_Firmware_copyKernel_46 (fun v55 hf => ?_)
      refine n_ladd hC hf d_Firmware_copyKernel_47 (fun v56 hf => ?_)
      refine n_ldc2 hC 65536 kc_Firmware_188 d_Firmware_copyKernel_48 ?_
      refine n_lcmp hC hf d_Firmware_copyKernel_51 (fun v57 hf => ?_)
      refine n_if_le hC hf 57 d_Firmware_copyKernel_52 (by decide) (fun hf => ?_) (fun hf => ?_)
      · refine n_iconst hC 0 d_Firmware_copyKernel_57 (by decide) ?_
        refine n_istore hC [(5, .int 0), (3, .long u53), (2, .int u51), (0, .ref t_o), (1, .int a1)] hl d_Firmware_copyKernel_58 (by decide) rfl (fun ls hl => ?_)
        have hL60 := lw2 (B := f_Firmware_copyKernel_L60 u53 a1 t_chain_n t_chain t_bootStart t_tableSectors d_length d_words_n d_words r_length r_words_n) (z := z) (fun (x71 : Int32) (x72 : Nat → Int64) => ∀ (H : Heap) (locs : List Loc) (ls : Array Slot), WS g.1 classes A s.heap H locs (wd_Firmware_copyKernel g t_o t_chain_a r_o r_words_a d_o d_words_a u_o t_loaderSectors_a t_chain_n r_words_n d_words_n t_sectors t_tableSectors t_clusters t_tried t_header t_bootStart t_kernelAddress t_kernelSize t_chain r_length x72 d_length d_words) → lv_has ls 6 [(5, .int x71), (3, .long u53), (0, .ref t_o), (1, .int a1)] → W p l e rm_Firmware_copyKernel s m args below meth c H locs 0 0 Q (F0 m 60 ls [])) (by
          intro k60 hk60 x71 x72 hf H locs ls hw hl
          unfold f_Firmware_copyKernel_L60 at hf
          refine n_iload hC hl 0 d_Firmware_copyKernel_60 rfl ?_
          refine n_iload_n hC hl 3 d_Firmware_copyKernel_62 rfl rfl ?_
          refine jn0 (∀ (H : Heap) (locs : List Loc) (ls : Array Slot), WS g.1 classes A s.heap H locs (wd_Firmware_copyKernel g t_o t_chain_a r_o r_words_a d_o d_words_a u_o t_loaderSectors_a t_chain_n r_words_n d_words_n t_sectors t_tableSectors t_clusters t_tried t_header t_bootStart t_kernelAddress t_kernelSize t_chain r_length x72 d_length d_words) → lv_has ls 6 [(3, .long u53), (0, .ref t_o), (1, .int a1)] → W p l e rm_Firmware_copyKernel s m args below meth c H locs 0 0 Q (F0 m 127 ls [])) hf (fun hf H locs ls hw hl => ?_) (fun j127 hj127 hf => ?_)
          · refine n_aload_n hC hl 1 d_Firmware_copyKernel_127 rfl rfl ?_
            refine n_lload_n hC hl 0 d_Firmware_copyKernel_128 rfl rfl ?_
            refine n_l2i hC hf d_Firmware_copyKernel_129 (fun v97 hf => ?_)
            refine n_put hC hw fp_Firmware_29 0 (wd_Firmware_copyKernel g t_o t_chain_a r_o r_words_a d_o d_words_a u_o t_loaderSectors_a t_chain_n r_words_n d_words_n t_sectors t_tableSectors t_clusters t_tried t_header t_bootStart v97 t_kernelSize t_chain r_length x72 d_length d_words) rfl rfl rfl (Nat.le_of_ble_eq_true rfl) d_Firmware_copyKernel_130 rfl (fun H locs hw => ?_)
            refine n_aload_n hC hl 1 d_Firmware_copyKernel_133 rfl rfl ?_
            refine n_iload_n hC hl 2 d_Firmware_copyKernel_134 rfl rfl ?_
            refine n_put hC hw fp_Firmware_32 0 (wd_Firmware_copyKernel g t_o t_chain_a r_o r_words_a d_o d_words_a u_o t_loaderSectors_a t_chain_n r_words_n d_words_n t_sectors t_tableSectors t_clusters t_tried t_header t_bootStart v97 a1 t_chain r_length x72 d_length d_words) rfl rfl rfl (Nat.le_of_ble_eq_true rfl) d_Firmware_copyKernel_135 rfl (fun H locs hw => ?_)
            refine n_iconst hC 1 d_Firmware_copyKernel_138 (by decide) ?_
            cases hf
            exact hret _ _ _ _ hw (show narrow .boolean (Value.int 1) = Value.int 1 from rfl) d_Firmware_copyKernel_139
          refine n_icmp_ge hC hf 127 d_Firmware_copyKernel_63 (by decide) (fun hf => ?_) (fun hf => ?_)
          · exact hj127 hf _ _ _ hw (lv_sub hl [1, 2, 3] rfl)
          · refine n_iload hC hl 0 d_Firmware_copyKernel_66 rfl ?_
            refine n_sipush hC 512 d_Firmware_copyKernel_68 (by decide) ?_
            refine n_idiv hC hf d_Firmware_copyKernel_71 (by decide) (fun v98 hf => ?_)
            refine n_aload_n hC hl 2 d_Firmware_copyKernel_72 rfl rfl ?_
            refine n_get hC hw fg_Firmware_45 0 rfl rfl d_Firmware_copyKernel_73 ?_
            refine n_alen hC hw 1 0 (Int32.ofNat t_chain_n) rfl rfl rfl d_Firmware_copyKernel_76 ?_
            refine n_icmp_ge hC hf 127 d_Firmware_copyKernel_77 (by decide) (fun hf => ?_) (fun hf => ?_)
            · exact hj127 hf _ _ _ hw (lv_sub hl [1, 2, 3] rfl)
            · refine n_aload_n hC hl 2 d_Firmware_copyKernel_80 rfl rfl ?_
              refine n_get hC hw fg_Firmware_15 0 rfl rfl d_Firmware_copyKernel_81 ?_
              refine n_lload_n hC hl 1 d_Firmware_copyKernel_84 rfl rfl ?_
              refine n_l2i hC hf d_Firmware_copyKernel_85 (fun v99 hf => ?_)
              refine n_iload hC hl 0 d_Firmware_copyKernel_86 rfl ?_
              refine n_iadd hC hf d_Firmware_copyKernel_88 (fun v100 hf => ?_)
              refine n_aload_n hC hl 2 d_Firmware_copyKernel_89 rfl rfl ?_
              refine n_get hC hw fg_Firmware_35 0 rfl rfl d_Firmware_copyKernel_90 ?_
              refine n_aload_n hC hl 2 d_Firmware_copyKernel_93 rfl rfl ?_
              refine n_aload_n hC hl 2 d_Firmware_copyKernel_94 rfl rfl ?_
              refine n_get hC hw fg_Firmware_45 0 rfl rfl d_Firmware_copyKernel_95 ?_
              refine n_iload hC hl 0 d_Firmware_copyKernel_98 rfl ?_
              refine n_sipush hC 512 d_Firmware_copyKernel_100 (by decide) ?_
              refine n_idiv hC hf d_Firmware_copyKernel_103 (by decide) (fun v101 hf => ?_)
              refine n_iald hC hw hf 1 0 rfl rfl d_Firmware_copyKernel_104 (fun v102 hf => ?_)
              obtain ⟨u103, hu103, hf⟩ := bd_s hf
              refine n_callVi hC hw fc_Firmware_183 (c_Firmware_clusterAt l g E hEe t_o r_o d_o u_o t_loaderSectors_a t_chain_a t_sectors t_tableSectors t_clusters t_tried t_header t_bootStart t_kernelAddress t_kernelSize v102 u103 hu103) [0] (wd_Firmware_copyKernel g t_o t_chain_a r_o r_words_a d_o d_words_a u_o t_loaderSectors_a t_chain_n r_words_n d_words_n t_sectors t_tableSectors t_clusters t_tried t_header t_bootStart t_kernelAddress t_kernelSize t_chain r_length x72 d_length d_words) 0 rfl ⟨rfl, rfl⟩ ⟨Nat.le_of_ble_eq_true rfl, Nat.le_of_ble_eq_true rfl⟩ rfl (At_.cons rfl At_.nil) (At_.cons rfl At_.nil) Sm_.refl rfl hl.1 (Nat.le_of_ble_eq_true rfl) ⟨Nat.zero_le _, Nat.zero_le _⟩ d_Firmware_copyKernel_105 (fun H locs hw => ?_) rfl
              refine n_iload hC hl 0 d_Firmware_copyKernel_108 rfl ?_
              refine n_sipush hC 512 d_Firmware_copyKernel_110 (by decide) ?_
              refine n_irem hC hf d_Firmware_copyKernel_113 (by decide) (fun v104 hf => ?_)
              refine n_iadd hC hf d_Firmware_copyKernel_114 (fun v105 hf => ?_)
              obtain ⟨u106, hu106, hf⟩ := bd_s hf
              refine n_callVi hC hw fc_Firmware_75 (c_Store_get l g E hEe d_o d_words_a d_words_n d_length d_words v105 u106 hu106) [4, 5] (wd_Firmware_copyKernel g t_o t_chain_a r_o r_words_a d_o d_words_a u_o t_loaderSectors_a t_chain_n r_words_n d_words_n t_sectors t_tableSectors t_clusters t_tried t_header t_bootStart t_kernelAddress t_kernelSize t_chain r_length x72 d_length d_words) 4 rfl ⟨rfl, rfl⟩ ⟨Nat.le_of_ble_eq_true rfl, Nat.le_of_ble_eq_true rfl⟩ rfl (At_.cons rfl (At_.cons rfl At_.nil)) (At_.cons rfl (At_.cons rfl At_.nil)) Sm_.refl rfl hl.1 (Nat.le_of_ble_eq_true rfl) ⟨Nat.zero_le _, Nat.zero_le _⟩ d_Firmware_copyKernel_115 (fun H locs hw => ?_) rfl
              obtain ⟨u107, hu107, hf⟩ := bd_s hf
              refine n_callVv hC hw fc_Firmware_190 (c_Store_put l g E hEe r_o r_words_a r_words_n r_length x72 v100 u106 u107 hu107) [2, 3] (wd_Firmware_copyKernel g t_o t_chain_a r_o r_words_a d_o d_words_a u_o t_loaderSectors_a t_chain_n r_words_n d_words_n t_sectors t_tableSectors t_clusters t_tried t_header t_bootStart t_kernelAddress t_kernelSize t_chain r_length u107 d_length d_words) 2 rfl ⟨rfl, rfl⟩ ⟨Nat.le_of_ble_eq_true rfl, Nat.le_of_ble_eq_true rfl⟩ rfl (At_.cons rfl (At_.cons rfl At_.nil)) (At_.cons rfl (At_.cons rfl At_.nil)) (Sm_.keep (Sm_.keep (Sm_.keep (Sm_.upd rfl (Sm_.keep (Sm_.keep Sm_.nil)))))) rfl hl.1 (Nat.le_of_ble_eq_true rfl) ⟨Nat.zero_le _, Nat.zero_le _⟩ d_Firmware_copyKernel_118 (fun H locs hw => ?_) rfl
              refine n_iinc hC (k := 0) hf (by decide) (fun v108 => [(5, .int v108), (3, .long u53), (0, .ref t_o), (1, .int a1)]) hl d_Firmware_copyKernel_121 rfl (by decide) (fun _ => rfl) (fun v108 ls hf hl => ?_)
              refine n_goto hC 60 d_Firmware_copyKernel_124 (by decide) ?_
              exact hk60 _ _ hf _ _ _ hw (lv_sub hl [0, 1, 2, 3] rfl)
          )
        exact hL60 N _ _ hf _ _ _ hw (lv_sub hl [0, 1, 3, 4] rfl)
      · refine n_iconst hC 0 d_Firmware_copyKernel_55 (by decide) ?_
        cases hf
        exact hret _ _ _ _ hw (show narrow .boolean (Value.int 0) = Value.int 0 from rfl) d_Firmware_copyKernel_56
  · refine n_iconst hC 0 d_Firmware_copyKernel_6 (by decide) ?_
    cases hf
    exact hret _ _ _ _ hw (show narrow .boolean (Value.int 0) = Value.int 0 from rfl) d_Firmware_copyKernel_7
def wd_Firmware_loadKernel (g : GT) (t_o : Nat) (t_chain_a : Nat) (r_o : Nat) (r_words_a : Nat) (d_o : Nat) (d_words_a : Nat) (u_o : Nat) (t_loaderSectors_a : Nat) (t_chain_n : Nat) (r_words_n : Nat) (d_words_n : Nat) (t_sectors : Int32) (t_tableSectors : Int32) (t_clusters : Int32) (t_tried : Int32) (t_header : Int32) (t_bootStart : Int32) (t_kernelAddress : Int32) (t_kernelSize : Int32) (t_chain : Nat → Int32) (r_length : Int32) (r_words : Nat → Int64) (d_length : Int32) (d_words : Nat → Int64) : va_W := [(t_o, .inr (5, [.ref r_o, .ref d_o, .int t_sectors, .ref u_o, .ref t_loaderSectors_a, .ref t_chain_a, .int t_tableSectors, .int t_clusters, .int t_tried, .int t_header, .int t_bootStart, .int t_kernelAddress, .int t_kernelSize])), (t_chain_a, .inl (g.2.1, t_chain_n, .inl t_chain)), (r_o, .inr (0, [.int r_length, .ref r_words_a])), (r_words_a, .inl (g.2.2.1, r_words_n, .inr (.inl r_words))), (d_o, .inr (0, [.int d_length, .ref d_words_a])), (d_words_a, .inl (g.2.2.1, d_words_n, .inr (.inl d_words)))]
def f_Firmware_loadKernel (N : Nat) (t_bootStart : Int32) (d_length : Int32) (d_words_n : Nat) (d_words : Nat → Int64) (t_sectors : Int32) (t_chain : Nat → Int32) (t_chain_n : Nat) (t_kernelAddress : Int32) (t_kernelSize : Int32) (r_words : Nat → Int64) (r_length : Int32) (r_words_n : Nat) : Option (Int32 × Int32 × Int32 × Int32 × Int32 × (Nat → Int32) × (Nat → Int64)) :=
  bd_ (f_Firmware_readVolumeSector N t_bootStart d_length d_words_n d_words t_sectors) (fun u11 => if ¬ u11.1 = 0 then bd_ (f_Firmware_kernelEntry N t_bootStart u11.2.1 d_length d_words_n d_words) (fun u12 => if ¬ u12 = ((-1) : Int32) then lt_ (u12 + 28) (fun v13 => bd_ (f_Store_getLow N 4 v13 d_length d_words_n d_words) (fun u14 => lt_ (u12 + 26) (fun v15 => bd_ (f_Store_getLow N 2 v15 d_length d_words_n d_words) (fun u16 => lt_ (u16.toInt32) (fun v17 => bd_ (f_Firmware_followChain N u14 u11.2.2 t_chain t_chain_n t_bootStart d_length d_words_n d_words v17) (fun u18 => if ¬ u18.1 = 0 then lt_ (u14.toInt32) (fun v19 => bd_ (f_Firmware_copyKernel N v19 t_chain_n u18.2 t_bootStart u11.2.1 d_length d_words_n d_words t_kernelAddress t_kernelSize r_words r_length r_words_n) (fun u20 => if u20.1 = 0 then some (8, u11.2.1, u11.2.2, u20.2.1, u20.2.2.1, u18.2, u20.2.2.2) else some (0, u11.2.1, u11.2.2, u20.2.1, u20.2.2.1, u18.2, u20.2.2.2))) else some (7, u11.2.1, u11.2.2, t_kernelAddress, t_kernelSize, u18.2, r_words))))))) else some (6, u11.2.1, u11.2.2, t_kernelAddress, t_kernelSize, t_chain, r_words)) else some (5, u11.2.1, u11.2.2, t_kernelAddress, t_kernelSize, t_chain, r_words))
def rm_Firmware_loadKernel : Room := { frames := 6, cells := 0, slots := 0, locals := 133 }
set_option maxHeartbeats 4000000 in
set_option maxRecDepth 100000 in
theorem c_Firmware_loadKernel (l : Launch) (g : GT) (E : (Nat → Prop) → State → Prop) (hEe : Ee E) (X : XT) (hS : ∀ (A : Nat → Prop) (u : State), E A u → SS X A u) (t_o : Nat) (t_chain_a : Nat) (r_o : Nat) (r_words_a : Nat) (d_o : Nat) (d_words_a : Nat) (u_o : Nat) (t_loaderSectors_a : Nat) (t_chain_n : Nat) (r_words_n : Nat) (d_words_n : Nat) (t_sectors : Int32) (t_tableSectors : Int32) (t_clusters : Int32) (t_tried : Int32) (t_header : Int32) (t_bootStart : Int32) (t_kernelAddress : Int32) (t_kernelSize : Int32) (t_chain : Nat → Int32) (r_length : Int32) (r_words : Nat → Int64) (d_length : Int32) (d_words : Nat → Int64) (N : Nat) (z : Int32 × Int32 × Int32 × Int32 × Int32 × (Nat → Int32) × (Nat → Int64)) (hf : f_Firmware_loadKernel N t_bootStart d_length d_words_n d_words t_sectors t_chain t_chain_n t_kernelAddress t_kernelSize r_words r_length r_words_n = some z) : Cg l g E y_Firmware_loadKernel ws_Firmware_loadKernel rm_Firmware_loadKernel [.ref t_o] (wd_Firmware_loadKernel g t_o t_chain_a r_o r_words_a d_o d_words_a u_o t_loaderSectors_a t_chain_n r_words_n d_words_n t_sectors t_tableSectors t_clusters t_tried t_header t_bootStart t_kernelAddress t_kernelSize t_chain r_length r_words d_length d_words) (some (.int z.1)) (wd_Firmware_loadKernel g t_o t_chain_a r_o r_words_a d_o d_words_a u_o t_loaderSectors_a t_chain_n r_words_n d_words_n t_sectors z.2.1 z.2.2.1 t_tried t_header t_bootStart z.2.2.2.1 z.2.2.2.2.1 z.2.2.2.2.2.1 r_length z.2.2.2.2.2.2 d_length d_words) := by
  refine Ct.ofI hEe good_W (by decide) rfl (Nat.le_of_ble_eq_true rfl) ?_
  intro p e s m args below meth c A ls Q hC hw hl hret
  have hC : CX p m c b_Firmware_loadKernel 4 s args Wall R_Firmware g.1 classes (tK g) E A := hC
  have hl : lv_has ls 4 [(0, .ref t_o)] := hl
  unfold f_Firmware_loadKernel at hf
  refine n_aload_n hC hl 0 d_Firmware_loadKernel_0 rfl rfl ?_
  obtain ⟨u11, hu11, hf⟩ := bd_s hf
  refine n_callVi hC hw fc_Firmware_147 (c_Firmware_readVolumeSector l g E hEe t_o d_o d_words_a r_o u_o t_loaderSectors_a t_chain_a d_words_n t_sectors t_tableSectors t_clusters t_tried t_header t_bootStart t_kernelAddress t_kernelSize d_length d_words N u11 hu11) [0, 4, 5] (wd_Firmware_loadKernel g t_o t_chain_a r_o r_words_a d_o d_words_a u_o t_loaderSectors_a t_chain_n r_words_n d_words_n t_sectors u11.2.1 u11.2.2 t_tried t_header t_bootStart t_kernelAddress t_kernelSize t_chain r_length r_words d_length d_words) 0 rfl ⟨rfl, rfl⟩ ⟨Nat.le_of_ble_eq_true rfl, Nat.le_of_ble_eq_true rfl⟩ rfl (At_.cons rfl (At_.cons rfl (At_.cons rfl At_.nil))) (At_.cons rfl (At_.cons rfl (At_.cons rfl At_.nil))) (Sm_.upd rfl (Sm_.keep (Sm_.keep (Sm_.keep (Sm_.keep (Sm_.keep Sm_.nil)))))) rfl hl.1 (Nat.le_of_ble_eq_true rfl) ⟨Nat.zero_le _, Nat.zero_le _⟩ d_Firmware_loadKernel_1 (fun H locs hw => ?_) rfl
  refine n_if_ne hC hf 9 d_Firmware_loadKernel_4 (by decide) (fun hf => ?_) (fun hf => ?_)
  · refine n_aload_n hC hl 0 d_Firmware_loadKernel_9 rfl rfl ?_
    obtain ⟨u12, hu12, hf⟩ := bd_s hf
    refine n_callVi hC hw fc_Firmware_151 (c_Firmware_kernelEntry l g E hEe X hS t_o d_o d_words_a r_o u_o t_loaderSectors_a t_chain_a d_words_n t_sectors u11.2.1 u11.2.2 t_tried t_header t_bootStart t_kernelAddress t_kernelSize d_length d_words N u12 hu12) [0, 4, 5] (wd_Firmware_loadKernel g t_o t_chain_a r_o r_words_a d_o d_words_a u_o t_loaderSectors_a t_chain_n r_words_n d_words_n t_sectors u11.2.1 u11.2.2 t_tried t_header t_bootStart t_kernelAddress t_kernelSize t_chain r_length r_words d_length d_words) 0 rfl ⟨rfl, rfl⟩ ⟨Nat.le_of_ble_eq_true rfl, Nat.le_of_ble_eq_true rfl⟩ rfl (At_.cons rfl (At_.cons rfl (At_.cons rfl At_.nil))) (At_.cons rfl (At_.cons rfl (At_.cons rfl At_.nil))) Sm_.refl rfl hl.1 (Nat.le_of_ble_eq_true rfl) ⟨Nat.zero_le _, Nat.zero_le _⟩ d_Firmware_loadKernel_10 (fun H locs hw => ?_) rfl
    refine n_istore_n hC [(1, .int u12), (0, .ref t_o)] hl d_Firmware_loadKernel_13 rfl (by decide) rfl (fun ls hl => ?_)
    refine n_iload_n hC hl 0 d_Firmware_loadKernel_14 rfl rfl ?_
    refine n_iconst hC (-1) d_Firmware_loadKernel_15 (by decide) ?_
    refine n_icmp_ne hC hf 22 d_Firmware_loadKernel_16 (by decide) (fun hf => ?_) (fun hf => ?_)
    · refine n_aload_n hC hl 1 d_Firmware_loadKernel_22 rfl rfl ?_
      refine n_get hC hw fg_Firmware_35 0 rfl rfl d_Firmware_loadKernel_23 ?_
      refine n_iload_n hC hl 0 d_Firmware_loadKernel_26 rfl rfl ?_
      refine n_bipush hC 28 d_Firmware_loadKernel_27 (by decide) ?_
      refine n_iadd hC hf d_Firmware_loadKernel_29 (fun v13 hf => ?_)
      refine n_iconst hC 4 d_Firmware_loadKernel_30 (by decide) ?_
      obtain ⟨u14, hu14, hf⟩ := bd_s hf
      refine n_callVl hC hw fc_Firmware_82 (c_Store_getLow l g E hEe d_o d_words_a d_words_n d_length d_words v13 4 N u14 hu14) [4, 5] (wd_Firmware_loadKernel g t_o t_chain_a r_o r_words_a d_o d_words_a u_o t_loaderSectors_a t_chain_n r_words_n d_words_n t_sectors u11.2.1 u11.2.2 t_tried t_header t_bootStart t_kernelAddress t_kernelSize t_chain r_length r_words d_length d_words) 4 rfl ⟨rfl, rfl⟩ ⟨Nat.le_of_ble_eq_true rfl, Nat.le_of_ble_eq_true rfl⟩ rfl (At_.cons rfl (At_.cons rfl At_.nil)) (At_.cons rfl (At_.cons rfl At_.nil)) Sm_.refl rfl hl.1 (Nat.le_of_ble_eq_true rfl) ⟨Nat.zero_le _, Nat.zero_le _⟩ d_Firmware_loadKernel_31 (fun H locs hw => ?_) rfl
      refine n_lstore_n hC [(2, .long u14), (1, .int u12), (0, .ref t_o)] hl d_Firmware_loadKernel_34 rfl (by decide) rfl (fun ls hl => ?_)
      refine n_aload_n hC hl 2 d_Firmware_loadKernel_35 rfl rfl ?_
      refine n_aload_n hC hl 2 d_Firmware_loadKernel_36 rfl rfl ?_
      refine n_get hC hw fg_Firmware_35 0 rfl rfl d_Firmware_loadKernel_37 ?_
      refine n_iload_n hC hl 1 d_Firmware_loadKernel_40 rfl rfl ?_
      refine n_bipush hC 26 d_Firmware_loadKernel_41 (by decide) ?_
      refine n_iadd hC hf d_Firmware_loadKernel_43 (fun v15 hf => ?_)
      refine n_iconst hC 2 d_Firmware_loadKernel_44 (by decide) ?_
      obtain ⟨u16, hu16, hf⟩ := bd_s hf
      refine n_callVl hC hw fc_Firmware_82 (c_Store_getLow l g E hEe d_o d_words_a d_words_n d_length d_words v15 2 N u16 hu16) [4, 5] (wd_Firmware_loadKernel g t_o t_chain_a r_o r_words_a d_o d_words_a u_o t_loaderSectors_a t_chain_n r_words_n d_words_n t_sectors u11.2.1 u11.2.2 t_tried t_header t_bootStart t_kernelAddress t_kernelSize t_chain r_length r_words d_length d_words) 4 rfl ⟨rfl, rfl⟩ ⟨Nat.le_of_ble_eq_true rfl, Nat.le_of_ble_eq_true rfl⟩ rfl (At_.cons rfl (At_.cons rfl At_.nil)) (At_.cons rfl (At_.cons rfl At_.nil)) Sm_.refl rfl hl.1 (Nat.le_of_ble_eq_true rfl) ⟨Nat.zero_le _, Nat.zero_le _⟩ d_Firmware_loadKernel_45 (fun H locs hw => ?_) rfl
      refine n_l2i hC hf d_Firmware_loadKernel_48 (fun v17 hf => ?_)
      refine n_lload_n hC hl 0 d_Firmware_loadKernel_49 rfl rfl ?_
      obtain ⟨u18, hu18, hf⟩ := bd_s hf
      refine n_callVi hC hw fc_Firmware_154 (c_Firmware_followChain l g E hEe t_o t_chain_a d_o d_words_a r_o u_o t_loaderSectors_a t_chain_n d_words_n t_sectors u11.2.1 u11.2.2 t_tried t_header t_bootStart t_kernelAddress t_kernelSize t_chain d_length d_words v17 u14 N u18 hu18) [0, 1, 4, 5] (wd_Firmware_loadKernel g t_o t_chain_a r_o r_words_a d_o d_words_a u_o t_loaderSectors_a t_chain_n r_words_n d_words_n t_sectors u11.2.1 u11.2.2 t_tried t_header t_bootStart t_kernelAddress t_kernelSize u18.2 r_length r_words d_length d_words) 0 rfl ⟨rfl, rfl⟩ ⟨Nat.le_of_ble_eq_true rfl, Nat.le_of_ble_eq_true rfl⟩ rfl (At_.cons rfl (At_.cons rfl (At_.cons rfl (At_.cons rfl At_.nil)))) (At_.cons rfl (At_.cons rfl (At_.cons rfl (At_.cons rfl At_.nil)))) (Sm_.keep (Sm_.upd rfl (Sm_.keep (Sm_.keep (Sm_.keep (Sm_.keep Sm_.nil)))))) rfl hl.1 (Nat.le_of_ble_eq_true rfl) ⟨Nat.zero_le _, Nat.zero_le _⟩ d_Firmware_loadKernel_50 (fun H locs hw => ?_) rfl
      refine n_if_ne hC hf 59 d_Firmware_loadKernel_53 (by decide) (fun hf => ?_) (fun hf => ?_)
      · refine n_aload_n hC hl 2 d_Firmware_loadKernel_59 rfl rfl ?_
        refine n_lload_n hC hl 0 d_Firmware_loadKernel_60 rfl rfl ?_
        refine n_l2i hC hf d_Firmware_loadKernel_61 (fun v19 hf => ?_)
        obtain ⟨u20, hu20, hf⟩ := bd_s hf
        refine n_callVi hC hw fc_Firmware_158 (c_Firmware_copyKernel l g E hEe X hS t_o t_chain_a r_o r_words_a d_o d_words_a u_o t_loaderSectors_a t_chain_n r_words_n d_words_n t_sectors u11.2.1 u11.2.2 t_tried t_header t_bootStart t_kernelAddress t_kernelSize u18.2 r_length r_words d_length d_words v19 N u20 hu20) [0, 1, 2, 3, 4, 5] (wd_Firmware_loadKernel g t_o t_chain_a r_o r_words_a d_o d_words_a u_o t_loaderSectors_a t_chain_n r_words_n d_words_n t_sectors u11.2.1 u11.2.2 t_tried t_header t_bootStart u20.2.1 u20.2.2.1 u18.2 r_length u20.2.2.2 d_length d_words) 0 rfl ⟨rfl, rfl⟩ ⟨Nat.le_of_ble_eq_true rfl, Nat.le_of_ble_eq_true rfl⟩ rfl (At_.cons rfl (At_.cons rfl (At_.cons rfl (At_.cons rfl (At_.cons rfl (At_.cons rfl At_.nil)))))) (At_.cons rfl (At_.cons rfl (At_.cons rfl (At_.cons rfl (At_.cons rfl (At_.cons rfl At_.nil)))))) (Sm_.upd rfl (Sm_.keep (Sm_.keep (Sm_.upd rfl (Sm_.keep (Sm_.keep Sm_.nil)))))) rfl hl.1 (Nat.le_of_ble_eq_true rfl) ⟨Nat.zero_le _, Nat.zero_le _⟩ d_Firmware_loadKernel_62 (fun H locs hw => ?_) rfl
        refine n_if_eq hC hf 72 d_Firmware_loadKernel_65 (by decide) (fun hf => ?_) (fun hf => ?_)
        · refine n_bipush hC 8 d_Firmware_loadKernel_72 (by decide) ?_
          cases hf
          exact hret _ _ _ _ hw (show narrow .int (Value.int 8) = Value.int 8 from rfl) d_Firmware_loadKernel_74
        · refine n_iconst hC 0 d_Firmware_loadKernel_68 (by decide) ?_
          refine n_goto hC 74 d_Firmware_loadKernel_69 (by decide) ?_
          cases hf
          exact hret _ _ _ _ hw (show narrow .int (Value.int 0) = Value.int 0 from rfl) d_Firmware_loadKernel_74
      · refine n_bipush hC 7 d_Firmware_loadKernel_56 (by decide) ?_
        cases hf
        exact hret _ _ _ _ hw (show narrow .int (Value.int 7) = Value.int 7 from rfl) d_Firmware_loadKernel_58
    · refine n_bipush hC 6 d_Firmware_loadKernel_19 (by decide) ?_
      cases hf
      exact hret _ _ _ _ hw (show narrow .int (Value.int 6) = Value.int 6 from rfl) d_Firmware_loadKernel_21
  · refine n_iconst hC 5 d_Firmware_loadKernel_7 (by decide) ?_
    cases hf
    exact hret _ _ _ _ hw (show narrow .int (Value.int 5) = Value.int 5 from rfl) d_Firmware_loadKernel_8
def wd_Firmware_start (g : GT) (t_o : Nat) (t_loaderSectors_a : Nat) (t_chain_a : Nat) (r_o : Nat) (r_words_a : Nat) (d_o : Nat) (d_words_a : Nat) (u_o : Nat) (u_shifted_a : Nat) (t_chain_n : Nat) (r_words_n : Nat) (d_words_n : Nat) (t_sectors : Int32) (t_tableSectors : Int32) (t_clusters : Int32) (t_tried : Int32) (t_header : Int32) (t_bootStart : Int32) (t_kernelAddress : Int32) (t_kernelSize : Int32) (t_loaderSectors : Nat → Int32) (t_chain : Nat → Int32) (r_length : Int32) (r_words : Nat → Int64) (d_length : Int32) (d_words : Nat → Int64) (u_bits : Int32) (u_shifted : Nat → Int32) : va_W := [(t_o, .inr (5, [.ref r_o, .ref d_o, .int t_sectors, .ref u_o, .ref t_loaderSectors_a, .ref t_chain_a, .int t_tableSectors, .int t_clusters, .int t_tried, .int t_header, .int t_bootStart, .int t_kernelAddress, .int t_kernelSize])), (t_loaderSectors_a, .inl (g.2.1, 18, .inl t_loaderSectors)), (t_chain_a, .inl (g.2.1, t_chain_n, .inl t_chain)), (r_o, .inr (0, [.int r_length, .ref r_words_a])), (r_words_a, .inl (g.2.2.1, r_words_n, .inr (.inl r_words))), (d_o, .inr (0, [.int d_length, .ref d_words_a])), (d_words_a, .inl (g.2.2.1, d_words_n, .inr (.inl d_words))), (u_o, .inr (1, [.ref u_shifted_a, .int u_bits])), (u_shifted_a, .inl (g.2.1, 256, .inl u_shifted))]
def f_Firmware_start (N : Nat) (r_words_n : Nat) (r_words : Nat → Int64) (d_length : Int32) (d_words_n : Nat) (d_words : Nat → Int64) (t_sectors : Int32) (t_chain : Nat → Int32) (t_chain_n : Nat) (r_length : Int32) (t_tableSectors : Int32) (t_clusters : Int32) (a1 : Int32) (t_loaderSectors : Nat → Int32) (u_bits : Int32) (u_shifted : Nat → Int32) : Option (Int32 × Int32 × Int32 × Int32 × Int32 × Int32 × Int32 × Int32 × (Nat → Int32) × (Nat → Int32) × (Nat → Int64) × Int32) :=
  bd_ (f_Firmware_forget N r_words_n r_words) (fun u7 => bd_ (f_Store_isBootSector N 0 d_length d_words_n d_words) (fun u8 => if ¬ u8 = 0 then lt_ (fun (x11 : Int32) (x12 : Int32) (x13 : Int32) (x14 : Nat → Int32) (x15 : Int32) => if x11 = 0 then bd_ (f_Firmware_loadKernel N x13 d_length d_words_n d_words t_sectors t_chain t_chain_n u7.2.2.2.1 u7.2.2.2.2.1 u7.2.2.2.2.2 r_length r_words_n) (fun u16 => some (u16.1, u16.2.1, u16.2.2.1, u7.1, x12, x13, u16.2.2.2.1, u16.2.2.2.2.1, x14, u16.2.2.2.2.2.1, u16.2.2.2.2.2.2, x15)) else some (x11, t_tableSectors, t_clusters, u7.1, x12, x13, u7.2.2.2.1, u7.2.2.2.2.1, x14, t_chain, u7.2.2.2.2.2, x15)) (fun (j32 : Int32 → Int32 → Int32 → (Nat → Int32) → Int32 → Option (Int32 × Int32 × Int32 × Int32 × Int32 × Int32 × Int32 × Int32 × (Nat → Int32) × (Nat → Int32) × (Nat → Int64) × Int32)) => if ¬ a1 = 0 then bd_ (f_Firmware_searchLoader N d_length d_words_n d_words u7.2.2.1 t_loaderSectors u_bits t_sectors u_shifted) (fun u17 => j32 u17.1 u7.2.1 u17.2.1 u17.2.2.1 u17.2.2.2) else bd_ (f_Firmware_searchTable N d_length d_words_n d_words u_bits u_shifted t_sectors u7.2.1 u7.2.2.1) (fun u18 => j32 u18.1 u18.2.1 u18.2.2.1 t_loaderSectors u18.2.2.2)) else some (1, t_tableSectors, t_clusters, u7.1, u7.2.1, u7.2.2.1, u7.2.2.2.1, u7.2.2.2.2.1, t_loaderSectors, t_chain, u7.2.2.2.2.2, u_bits)))
def rm_Firmware_start : Room := { frames := 7, cells := 0, slots := 0, locals := 156 }
set_option maxHeartbeats 4000000 in
set_option maxRecDepth 100000 in
theorem c_Firmware_start (l : Launch) (g : GT) (E : (Nat → Prop) → State → Prop) (hEe : Ee E) (X : XT) (hS : ∀ (A : Nat → Prop) (u : State), E A u → SS X A u) (t_o : Nat) (t_loaderSectors_a : Nat) (t_chain_a : Nat) (r_o : Nat) (r_words_a : Nat) (d_o : Nat) (d_words_a : Nat) (u_o : Nat) (u_shifted_a : Nat) (t_chain_n : Nat) (r_words_n : Nat) (d_words_n : Nat) (t_sectors : Int32) (t_tableSectors : Int32) (t_clusters : Int32) (t_tried : Int32) (t_header : Int32) (t_bootStart : Int32) (t_kernelAddress : Int32) (t_kernelSize : Int32) (t_loaderSectors : Nat → Int32) (t_chain : Nat → Int32) (r_length : Int32) (r_words : Nat → Int64) (d_length : Int32) (d_words : Nat → Int64) (u_bits : Int32) (u_shifted : Nat → Int32) (a1 : Int32) (N : Nat) (z : Int32 × Int32 × Int32 × Int32 × Int32 × Int32 × Int32 × Int32 × (Nat → Int32) × (Nat → Int32) × (Nat → Int64) × Int32) (hf : f_Firmware_start N r_words_n r_words d_length d_words_n d_words t_sectors t_chain t_chain_n r_length t_tableSectors t_clusters a1 t_loaderSectors u_bits u_shifted = some z) : Cg l g E y_Firmware_start ws_Firmware_start rm_Firmware_start [.ref t_o, .int a1] (wd_Firmware_start g t_o t_loaderSectors_a t_chain_a r_o r_words_a d_o d_words_a u_o u_shifted_a t_chain_n r_words_n d_words_n t_sectors t_tableSectors t_clusters t_tried t_header t_bootStart t_kernelAddress t_kernelSize t_loaderSectors t_chain r_length r_words d_length d_words u_bits u_shifted) (some (.int z.1)) (wd_Firmware_start g t_o t_loaderSectors_a t_chain_a r_o r_words_a d_o d_words_a u_o u_shifted_a t_chain_n r_words_n d_words_n t_sectors z.2.1 z.2.2.1 z.2.2.2.1 z.2.2.2.2.1 z.2.2.2.2.2.1 z.2.2.2.2.2.2.1 z.2.2.2.2.2.2.2.1 z.2.2.2.2.2.2.2.2.1 z.2.2.2.2.2.2.2.2.2.1 r_length z.2.2.2.2.2.2.2.2.2.2.1 d_length d_words z.2.2.2.2.2.2.2.2.2.2.2 u_shifted) := by
  refine Ct.ofI hEe good_W (by decide) rfl (Nat.le_of_ble_eq_true rfl) ?_
  intro p e s m args below meth c A ls Q hC hw hl hret
  have hC : CX p m c b_Firmware_start 3 s args Wall R_Firmware g.1 classes (tK g) E A := hC
  have hl : lv_has ls 3 [(0, .ref t_o), (1, .int a1)] := hl
  unfold f_Firmware_start at hf
  refine n_aload_n hC hl 0 d_Firmware_start_0 rfl rfl ?_
  obtain ⟨u7, hu7, hf⟩ := bd_s hf
  refine n_callVv hC hw fc_Firmware_55 (c_Firmware_forget l g E hEe t_o r_o r_words_a d_o u_o t_loaderSectors_a t_chain_a r_words_n t_sectors t_tableSectors t_clusters t_tried t_header t_bootStart t_kernelAddress t_kernelSize r_length r_words N u7 hu7) [0, 3, 4] (wd_Firmware_start g t_o t_loaderSectors_a t_chain_a r_o r_words_a d_o d_words_a u_o u_shifted_a t_chain_n r_words_n d_words_n t_sectors t_tableSectors t_clusters u7.1 u7.2.1 u7.2.2.1 u7.2.2.2.1 u7.2.2.2.2.1 t_loaderSectors t_chain r_length u7.2.2.2.2.2 d_length d_words u_bits u_shifted) 0 rfl ⟨rfl, rfl⟩ ⟨Nat.le_of_ble_eq_true rfl, Nat.le_of_ble_eq_true rfl⟩ rfl (At_.cons rfl (At_.cons rfl (At_.cons rfl At_.nil))) (At_.cons rfl (At_.cons rfl (At_.cons rfl At_.nil))) (Sm_.upd rfl (Sm_.keep (Sm_.keep (Sm_.keep (Sm_.upd rfl (Sm_.keep (Sm_.keep (Sm_.keep (Sm_.keep Sm_.nil))))))))) rfl hl.1 (Nat.le_of_ble_eq_true rfl) ⟨Nat.zero_le _, Nat.zero_le _⟩ d_Firmware_start_1 (fun H locs hw => ?_) rfl
  refine n_aload_n hC hl 0 d_Firmware_start_4 rfl rfl ?_
  refine n_get hC hw fg_Firmware_35 0 rfl rfl d_Firmware_start_5 ?_
  refine n_iconst hC 0 d_Firmware_start_8 (by decide) ?_
  obtain ⟨u8, hu8, hf⟩ := bd_s hf
  refine n_callVi hC hw fc_Firmware_58 (c_Store_isBootSector l g E hEe d_o d_words_a d_words_n d_length d_words 0 N u8 hu8) [5, 6] (wd_Firmware_start g t_o t_loaderSectors_a t_chain_a r_o r_words_a d_o d_words_a u_o u_shifted_a t_chain_n r_words_n d_words_n t_sectors t_tableSectors t_clusters u7.1 u7.2.1 u7.2.2.1 u7.2.2.2.1 u7.2.2.2.2.1 t_loaderSectors t_chain r_length u7.2.2.2.2.2 d_length d_words u_bits u_shifted) 5 rfl ⟨rfl, rfl⟩ ⟨Nat.le_of_ble_eq_true rfl, Nat.le_of_ble_eq_true rfl⟩ rfl (At_.cons rfl (At_.cons rfl At_.nil)) (At_.cons rfl (At_.cons rfl At_.nil)) Sm_.refl rfl hl.1 (Nat.le_of_ble_eq_true rfl) ⟨Nat.zero_le _, Nat.zero_le _⟩ d_Firmware_start_9 (fun H locs hw => ?_) rfl
  refine n_if_ne hC hf 17 d_Firmware_start_12 (by decide) (fun hf => ?_) (fun hf => ?_)
  · refine n_iload_n hC hl 1 d_Firmware_start_17 rfl rfl ?_
    refine jn5 (fun (x11 : Int32) (x12 : Int32) (x13 : Int32) (x14 : Nat → Int32) (x15 : Int32) => ∀ (H : Heap) (locs : List Loc) (ls : Array Slot), WS g.1 classes A s.heap H locs (wd_Firmware_start g t_o t_loaderSectors_a t_chain_a r_o r_words_a d_o d_words_a u_o u_shifted_a t_chain_n r_words_n d_words_n t_sectors t_tableSectors t_clusters u7.1 x12 x13 u7.2.2.2.1 u7.2.2.2.2.1 x14 t_chain r_length u7.2.2.2.2.2 d_length d_words x15 u_shifted) → lv_has ls 3 [(0, .ref t_o)] → W p l e rm_Firmware_start s m args below meth c H locs 0 0 Q (F0 m 32 ls [.int x11])) hf (fun x11 x12 x13 x14 x15 hf H locs ls hw hl => ?_) (fun j32 hj32 hf => ?_)
    · refine n_istore_n hC [(2, .int x11), (0, .ref t_o)] hl d_Firmware_start_32 rfl (by decide) rfl (fun ls hl => ?_)
      refine n_iload_n hC hl 0 d_Firmware_start_33 rfl rfl ?_
      refine n_if_eq hC hf 41 d_Firmware_start_34 (by decide) (fun hf => ?_) (fun hf => ?_)
      · refine n_aload_n hC hl 1 d_Firmware_start_41 rfl rfl ?_
        obtain ⟨u16, hu16, hf⟩ := bd_s hf
        refine n_callVi hC hw fc_Firmware_69 (c_Firmware_loadKernel l g E hEe X hS t_o t_chain_a r_o r_words_a d_o d_words_a u_o t_loaderSectors_a t_chain_n r_words_n d_words_n t_sectors t_tableSectors t_clusters u7.1 x12 x13 u7.2.2.2.1 u7.2.2.2.2.1 t_chain r_length u7.2.2.2.2.2 d_length d_words N u16 hu16) [0, 2, 3, 4, 5, 6] (wd_Firmware_start g t_o t_loaderSectors_a t_chain_a r_o r_words_a d_o d_words_a u_o u_shifted_a t_chain_n r_words_n d_words_n t_sectors u16.2.1 u16.2.2.1 u7.1 x12 x13 u16.2.2.2.1 u16.2.2.2.2.1 x14 u16.2.2.2.2.2.1 r_length u16.2.2.2.2.2.2 d_length d_words x15 u_shifted) 0 rfl ⟨rfl, rfl⟩ ⟨Nat.le_of_ble_eq_true rfl, Nat.le_of_ble_eq_true rfl⟩ rfl (At_.cons rfl (At_.cons rfl (At_.cons rfl (At_.cons rfl (At_.cons rfl (At_.cons rfl At_.nil)))))) (At_.cons rfl (At_.cons rfl (At_.cons rfl (At_.cons rfl (At_.cons rfl (At_.cons rfl At_.nil)))))) (Sm_.upd rfl (Sm_.keep (Sm_.upd rfl (Sm_.keep (Sm_.upd rfl (Sm_.keep (Sm_.keep (Sm_.keep (Sm_.keep Sm_.nil))))))))) rfl hl.1 (Nat.le_of_ble_eq_true rfl) ⟨Nat.zero_le _, Nat.zero_le _⟩ d_Firmware_start_42 (fun H locs hw => ?_) rfl
        cases hf
        exact hret _ _ _ _ hw (show narrow .int (Value.int u16.1) = Value.int u16.1 from rfl) d_Firmware_start_45
      · refine n_iload_n hC hl 0 d_Firmware_start_37 rfl rfl ?_
        refine n_goto hC 45 d_Firmware_start_38 (by decide) ?_
        cases hf
        exact hret _ _ _ _ hw (show narrow .int (Value.int x11) = Value.int x11 from rfl) d_Firmware_start_45
    refine n_if_ne hC hf 28 d_Firmware_start_18 (by decide) (fun hf => ?_) (fun hf => ?_)
    · refine n_aload_n hC hl 0 d_Firmware_start_28 rfl rfl ?_
      obtain ⟨u17, hu17, hf⟩ := bd_s hf
      refine n_callVi hC hw fc_Firmware_66 (c_Firmware_searchLoader l g E hEe X hS t_o t_loaderSectors_a d_o d_words_a u_o u_shifted_a r_o t_chain_a d_words_n t_sectors t_tableSectors t_clusters u7.1 u7.2.1 u7.2.2.1 u7.2.2.2.1 u7.2.2.2.2.1 t_loaderSectors d_length d_words u_bits u_shifted N u17 hu17) [0, 1, 5, 6, 7, 8] (wd_Firmware_start g t_o t_loaderSectors_a t_chain_a r_o r_words_a d_o d_words_a u_o u_shifted_a t_chain_n r_words_n d_words_n t_sectors t_tableSectors t_clusters u7.1 u7.2.1 u17.2.1 u7.2.2.2.1 u7.2.2.2.2.1 u17.2.2.1 t_chain r_length u7.2.2.2.2.2 d_length d_words u17.2.2.2 u_shifted) 0 rfl ⟨rfl, rfl⟩ ⟨Nat.le_of_ble_eq_true rfl, Nat.le_of_ble_eq_true rfl⟩ rfl (At_.cons rfl (At_.cons rfl (At_.cons rfl (At_.cons rfl (At_.cons rfl (At_.cons rfl At_.nil)))))) (At_.cons rfl (At_.cons rfl (At_.cons rfl (At_.cons rfl (At_.cons rfl (At_.cons rfl At_.nil)))))) (Sm_.upd rfl (Sm_.upd rfl (Sm_.keep (Sm_.keep (Sm_.keep (Sm_.keep (Sm_.keep (Sm_.upd rfl (Sm_.keep Sm_.nil))))))))) rfl hl.1 (Nat.le_of_ble_eq_true rfl) ⟨Nat.zero_le _, Nat.zero_le _⟩ d_Firmware_start_29 (fun H locs hw => ?_) rfl
      exact hj32 _ _ _ _ _ hf _ _ _ hw (lv_sub hl [0] rfl)
    · refine n_aload_n hC hl 0 d_Firmware_start_21 rfl rfl ?_
      obtain ⟨u18, hu18, hf⟩ := bd_s hf
      refine n_callVi hC hw fc_Firmware_62 (c_Firmware_searchTable l g E hEe X hS t_o d_o d_words_a u_o u_shifted_a r_o t_loaderSectors_a t_chain_a d_words_n t_sectors t_tableSectors t_clusters u7.1 u7.2.1 u7.2.2.1 u7.2.2.2.1 u7.2.2.2.2.1 d_length d_words u_bits u_shifted N u18 hu18) [0, 5, 6, 7, 8] (wd_Firmware_start g t_o t_loaderSectors_a t_chain_a r_o r_words_a d_o d_words_a u_o u_shifted_a t_chain_n r_words_n d_words_n t_sectors t_tableSectors t_clusters u7.1 u18.2.1 u18.2.2.1 u7.2.2.2.1 u7.2.2.2.2.1 t_loaderSectors t_chain r_length u7.2.2.2.2.2 d_length d_words u18.2.2.2 u_shifted) 0 rfl ⟨rfl, rfl⟩ ⟨Nat.le_of_ble_eq_true rfl, Nat.le_of_ble_eq_true rfl⟩ rfl (At_.cons rfl (At_.cons rfl (At_.cons rfl (At_.cons rfl (At_.cons rfl At_.nil))))) (At_.cons rfl (At_.cons rfl (At_.cons rfl (At_.cons rfl (At_.cons rfl At_.nil))))) (Sm_.upd rfl (Sm_.keep (Sm_.keep (Sm_.keep (Sm_.keep (Sm_.keep (Sm_.keep (Sm_.upd rfl (Sm_.keep Sm_.nil))))))))) rfl hl.1 (Nat.le_of_ble_eq_true rfl) ⟨Nat.zero_le _, Nat.zero_le _⟩ d_Firmware_start_22 (fun H locs hw => ?_) rfl
      refine n_goto hC 32 d_Firmware_start_25 (by decide) ?_
      exact hj32 _ _ _ _ _ hf _ _ _ hw (lv_sub hl [0] rfl)
  · refine n_iconst hC 1 d_Firmware_start_15 (by decide) ?_
    cases hf
    exact hret _ _ _ _ hw (show narrow .int (Value.int 1) = Value.int 1 from rfl) d_Firmware_start_16
