def wd_BootMaker_boot (g : GT) (t_o : Nat) (d_o : Nat) (d_words_a : Nat) (u_o : Nat) (u_shifted_a : Nat) (f_o : Nat) (f_loaderSectors_a : Nat) (f_chain_a : Nat) (r_o : Nat) (r_words_a : Nat) (p_o : Nat) (w_o : Nat) (d_words_n : Nat) (f_chain_n : Nat) (r_words_n : Nat) (d_length : Int32) (d_words : Nat → Int64) (u_bits : Int32) (u_shifted : Nat → Int32) (f_sectors : Int32) (f_tableSectors : Int32) (f_clusters : Int32) (f_tried : Int32) (f_header : Int32) (f_bootStart : Int32) (f_kernelAddress : Int32) (f_kernelSize : Int32) (f_loaderSectors : Nat → Int32) (f_chain : Nat → Int32) (r_length : Int32) (r_words : Nat → Int64) : va_W := [(t_o, .inr (6, [.ref d_o, .ref u_o, .ref p_o, .ref w_o, .ref f_o])), (d_o, .inr (0, [.int d_length, .ref d_words_a])), (d_words_a, .inl (g.2.2.1, d_words_n, .inr (.inl d_words))), (u_o, .inr (1, [.ref u_shifted_a, .int u_bits])), (u_shifted_a, .inl (g.2.1, 256, .inl u_shifted)), (f_o, .inr (5, [.ref r_o, .ref d_o, .int f_sectors, .ref u_o, .ref f_loaderSectors_a, .ref f_chain_a, .int f_tableSectors, .int f_clusters, .int f_tried, .int f_header, .int f_bootStart, .int f_kernelAddress, .int f_kernelSize])), (f_loaderSectors_a, .inl (g.2.1, 18, .inl f_loaderSectors)), (f_chain_a, .inl (g.2.1, f_chain_n, .inl f_chain)), (r_o, .inr (0, [.int r_length, .ref r_words_a])), (r_words_a, .inl (g.2.2.1, r_words_n, .inr (.inl r_words)))]
def f_BootMaker_boot (N : Nat) (r_words_n : Nat) (r_words : Nat → Int64) (d_length : Int32) (d_words_n : Nat) (d_words : Nat → Int64) (f_sectors : Int32) (f_chain : Nat → Int32) (f_chain_n : Nat) (r_length : Int32) (f_tableSectors : Int32) (f_clusters : Int32) (a1 : Int32) (f_loaderSectors : Nat → Int32) (u_bits : Int32) (u_shifted : Nat → Int32) : Option (Int32 × Int32 × Int32 × Int32 × Int32 × Int32 × Int32 × Int32 × Int32 × (Nat → Int32) × (Nat → Int32) × (Nat → Int64)) :=
  lt_ (bd_ (f_Firmware_start N r_words_n r_words d_length d_words_n d_words f_sectors f_chain f_chain_n r_length f_tableSectors f_clusters a1 f_loaderSectors u_bits u_shifted) (fun u3 => some (u3.1, u3.2.2.2.2.2.2.2.2.2.2.2, u3.2.1, u3.2.2.1, u3.2.2.2.1, u3.2.2.2.2.1, u3.2.2.2.2.2.1, u3.2.2.2.2.2.2.1, u3.2.2.2.2.2.2.2.1, u3.2.2.2.2.2.2.2.2.1, u3.2.2.2.2.2.2.2.2.2.1, u3.2.2.2.2.2.2.2.2.2.2.1))) (fun (j19 : Option (Int32 × Int32 × Int32 × Int32 × Int32 × Int32 × Int32 × Int32 × Int32 × (Nat → Int32) × (Nat → Int32) × (Nat → Int64))) => if a1 = 0 then j19 else if a1 = (1 : Int32) then j19 else none)
def rm_BootMaker_boot : Room := { frames := 8, cells := 0, slots := 0, locals := 178 }
set_option maxHeartbeats 4000000 in
set_option maxRecDepth 100000 in
theorem c_BootMaker_boot (l : Launch) (g : GT) (E : (Nat → Prop) → State → Prop) (hEe : Ee E) (X : XT) (hS : ∀ (A : Nat → Prop) (u : State), E A u → SS X A u) (t_o : Nat) (d_o : Nat) (d_words_a : Nat) (u_o : Nat) (u_shifted_a : Nat) (f_o : Nat) (f_loaderSectors_a : Nat) (f_chain_a : Nat) (r_o : Nat) (r_words_a : Nat) (p_o : Nat) (w_o : Nat) (d_words_n : Nat) (f_chain_n : Nat) (r_words_n : Nat) (d_length : Int32) (d_words : Nat → Int64) (u_bits : Int32) (u_shifted : Nat → Int32) (f_sectors : Int32) (f_tableSectors : Int32) (f_clusters : Int32) (f_tried : Int32) (f_header : Int32) (f_bootStart : Int32) (f_kernelAddress : Int32) (f_kernelSize : Int32) (f_loaderSectors : Nat → Int32) (f_chain : Nat → Int32) (r_length : Int32) (r_words : Nat → Int64) (a1 : Int32) (N : Nat) (z : Int32 × Int32 × Int32 × Int32 × Int32 × Int32 × Int32 × Int32 × Int32 × (Nat → Int32) × (Nat → Int32) × (Nat → Int64)) (hf : f_BootMaker_boot N r_words_n r_words d_length d_words_n d_words f_sectors f_chain f_chain_n r_length f_tableSectors f_clusters a1 f_loaderSectors u_bits u_shifted = some z) : Cg l g E y_BootMaker_boot ws_BootMaker_boot rm_BootMaker_boot [.ref t_o, .int a1] (wd_BootMaker_boot g t_o d_o d_words_a u_o u_shifted_a f_o f_loaderSectors_a f_chain_a r_o r_words_a p_o w_o d_words_n f_chain_n r_words_n d_length d_words u_bits u_shifted f_sectors f_tableSectors f_clusters f_tried f_header f_bootStart f_kernelAddress f_kernelSize f_loaderSectors f_chain r_length r_words) (some (.int z.1)) (wd_BootMaker_boot g t_o d_o d_words_a u_o u_shifted_a f_o f_loaderSectors_a f_chain_a r_o r_words_a p_o w_o d_words_n f_chain_n r_words_n d_length d_words z.2.1 u_shifted f_sectors z.2.2.1 z.2.2.2.1 z.2.2.2.2.1 z.2.2.2.2.2.1 z.2.2.2.2.2.2.1 z.2.2.2.2.2.2.2.1 z.2.2.2.2.2.2.2.2.1 z.2.2.2.2.2.2.2.2.2.1 z.2.2.2.2.2.2.2.2.2.2.1 r_length z.2.2.2.2.2.2.2.2.2.2.2) := by
  refine Ct.ofI hEe good_W (by decide) rfl (Nat.le_of_ble_eq_true rfl) ?_
  intro p e s m args below meth c A ls Q hC hw hl hret
  have hC : CX p m c b_BootMaker_boot 2 s args Wall R_BootMaker g.1 classes (tK g) E A := hC
  have hl : lv_has ls 2 [(0, .ref t_o), (1, .int a1)] := hl
  unfold f_BootMaker_boot at hf
  refine n_iload_n hC hl 1 d_BootMaker_boot_0 rfl rfl ?_
  refine jn0 (∀ (H : Heap) (locs : List Loc) (ls : Array Slot), WS g.1 classes A s.heap H locs (wd_BootMaker_boot g t_o d_o d_words_a u_o u_shifted_a f_o f_loaderSectors_a f_chain_a r_o r_words_a p_o w_o d_words_n f_chain_n r_words_n d_length d_words u_bits u_shifted f_sectors f_tableSectors f_clusters f_tried f_header f_bootStart f_kernelAddress f_kernelSize f_loaderSectors f_chain r_length r_words) → lv_has ls 2 [(0, .ref t_o), (1, .int a1)] → W p l e rm_BootMaker_boot s m args below meth c H locs 0 0 Q (F0 m 19 ls [])) hf (fun hf H locs ls hw hl => ?_) (fun j19 hj19 hf => ?_)
  · refine n_aload_n hC hl 0 d_BootMaker_boot_19 rfl rfl ?_
    refine n_get hC hw fg_BootMaker_46 0 rfl rfl d_BootMaker_boot_20 ?_
    refine n_iload_n hC hl 1 d_BootMaker_boot_23 rfl rfl ?_
    obtain ⟨u3, hu3, hf⟩ := bd_s hf
    refine n_callVi hC hw fc_BootMaker_95 (c_Firmware_start l g E hEe X hS f_o f_loaderSectors_a f_chain_a r_o r_words_a d_o d_words_a u_o u_shifted_a f_chain_n r_words_n d_words_n f_sectors f_tableSectors f_clusters f_tried f_header f_bootStart f_kernelAddress f_kernelSize f_loaderSectors f_chain r_length r_words d_length d_words u_bits u_shifted a1 N u3 hu3) [5, 6, 7, 8, 9, 1, 2, 3, 4] (wd_BootMaker_boot g t_o d_o d_words_a u_o u_shifted_a f_o f_loaderSectors_a f_chain_a r_o r_words_a p_o w_o d_words_n f_chain_n r_words_n d_length d_words u3.2.2.2.2.2.2.2.2.2.2.2 u_shifted f_sectors u3.2.1 u3.2.2.1 u3.2.2.2.1 u3.2.2.2.2.1 u3.2.2.2.2.2.1 u3.2.2.2.2.2.2.1 u3.2.2.2.2.2.2.2.1 u3.2.2.2.2.2.2.2.2.1 u3.2.2.2.2.2.2.2.2.2.1 r_length u3.2.2.2.2.2.2.2.2.2.2.1) 5 rfl ⟨rfl, rfl⟩ ⟨Nat.le_of_ble_eq_true rfl, Nat.le_of_ble_eq_true rfl⟩ rfl (At_.cons rfl (At_.cons rfl (At_.cons rfl (At_.cons rfl (At_.cons rfl (At_.cons rfl (At_.cons rfl (At_.cons rfl (At_.cons rfl At_.nil))))))))) (At_.cons rfl (At_.cons rfl (At_.cons rfl (At_.cons rfl (At_.cons rfl (At_.cons rfl (At_.cons rfl (At_.cons rfl (At_.cons rfl At_.nil))))))))) (Sm_.keep (Sm_.keep (Sm_.keep (Sm_.upd rfl (Sm_.keep (Sm_.upd rfl (Sm_.upd rfl (Sm_.upd rfl (Sm_.keep (Sm_.upd rfl Sm_.nil)))))))))) rfl hl.1 (Nat.le_of_ble_eq_true rfl) ⟨Nat.zero_le _, Nat.zero_le _⟩ d_BootMaker_boot_24 (fun H locs hw => ?_) rfl
    cases hf
    exact hret _ _ _ _ hw (show narrow .int (Value.int u3.1) = Value.int u3.1 from rfl) d_BootMaker_boot_27
  refine n_if_eq hC hf 19 d_BootMaker_boot_1 (by decide) (fun hf => ?_) (fun hf => ?_)
  · exact hj19 hf _ _ _ hw (lv_sub hl [0, 1] rfl)
  · refine n_iload_n hC hl 1 d_BootMaker_boot_4 rfl rfl ?_
    refine n_iconst hC 1 d_BootMaker_boot_5 (by decide) ?_
    refine n_icmp_eq hC hf 19 d_BootMaker_boot_6 (by decide) (fun hf => ?_) (fun hf => ?_)
    · exact hj19 hf _ _ _ hw (lv_sub hl [0, 1] rfl)
    · cases hf
def wd_BootMaker_memory (g : GT) (t_o : Nat) (f_o : Nat) (r_o : Nat) (r_words_a : Nat) (d_o : Nat) (u_o : Nat) (p_o : Nat) (w_o : Nat) (f_loaderSectors_a : Nat) (f_chain_a : Nat) (r_words_n : Nat) (f_sectors : Int32) (f_tableSectors : Int32) (f_clusters : Int32) (f_tried : Int32) (f_header : Int32) (f_bootStart : Int32) (f_kernelAddress : Int32) (f_kernelSize : Int32) (r_length : Int32) (r_words : Nat → Int64) : va_W := [(t_o, .inr (6, [.ref d_o, .ref u_o, .ref p_o, .ref w_o, .ref f_o])), (f_o, .inr (5, [.ref r_o, .ref d_o, .int f_sectors, .ref u_o, .ref f_loaderSectors_a, .ref f_chain_a, .int f_tableSectors, .int f_clusters, .int f_tried, .int f_header, .int f_bootStart, .int f_kernelAddress, .int f_kernelSize])), (r_o, .inr (0, [.int r_length, .ref r_words_a])), (r_words_a, .inl (g.2.2.1, r_words_n, .inr (.inl r_words)))]
def f_BootMaker_memory (a1 : Int32) (r_length : Int32) (r_words_n : Nat) (r_words : Nat → Int64) : Option (Int32) :=
  if a1 < 0 then none else if a1 < (65536 : Int32) then bd_ (f_Store_get a1 r_length r_words_n r_words) (fun u2 => some (u2)) else none
def rm_BootMaker_memory : Room := { frames := 1, cells := 0, slots := 0, locals := 21 }
set_option maxHeartbeats 4000000 in
set_option maxRecDepth 100000 in
theorem c_BootMaker_memory (l : Launch) (g : GT) (E : (Nat → Prop) → State → Prop) (hEe : Ee E) (t_o : Nat) (f_o : Nat) (r_o : Nat) (r_words_a : Nat) (d_o : Nat) (u_o : Nat) (p_o : Nat) (w_o : Nat) (f_loaderSectors_a : Nat) (f_chain_a : Nat) (r_words_n : Nat) (f_sectors : Int32) (f_tableSectors : Int32) (f_clusters : Int32) (f_tried : Int32) (f_header : Int32) (f_bootStart : Int32) (f_kernelAddress : Int32) (f_kernelSize : Int32) (r_length : Int32) (r_words : Nat → Int64) (a1 : Int32) (z : Int32) (hf : f_BootMaker_memory a1 r_length r_words_n r_words = some z) : Cg l g E y_BootMaker_memory ws_BootMaker_memory rm_BootMaker_memory [.ref t_o, .int a1] (wd_BootMaker_memory g t_o f_o r_o r_words_a d_o u_o p_o w_o f_loaderSectors_a f_chain_a r_words_n f_sectors f_tableSectors f_clusters f_tried f_header f_bootStart f_kernelAddress f_kernelSize r_length r_words) (some (.int z)) (wd_BootMaker_memory g t_o f_o r_o r_words_a d_o u_o p_o w_o f_loaderSectors_a f_chain_a r_words_n f_sectors f_tableSectors f_clusters f_tried f_header f_bootStart f_kernelAddress f_kernelSize r_length r_words) := by
  refine Ct.ofI hEe good_W (by decide) rfl (Nat.le_of_ble_eq_true rfl) ?_
  intro p e s m args below meth c A ls Q hC hw hl hret
  have hC : CX p m c b_BootMaker_memory 2 s args Wall R_BootMaker g.1 classes (tK g) E A := hC
  have hl : lv_has ls 2 [(0, .ref t_o), (1, .int a1)] := hl
  unfold f_BootMaker_memory at hf
  refine n_iload_n hC hl 1 d_BootMaker_memory_0 rfl rfl ?_
  refine n_if_lt hC hf 10 d_BootMaker_memory_1 (by decide) (fun hf => ?_) (fun hf => ?_)
  · cases hf
  · refine n_iload_n hC hl 1 d_BootMaker_memory_4 rfl rfl ?_
    refine n_ldc hC 65536 kc_BootMaker_101 d_BootMaker_memory_5 ?_
    refine n_icmp_lt hC hf 20 d_BootMaker_memory_7 (by decide) (fun hf => ?_) (fun hf => ?_)
    · refine n_aload_n hC hl 0 d_BootMaker_memory_20 rfl rfl ?_
      refine n_get hC hw fg_BootMaker_46 0 rfl rfl d_BootMaker_memory_21 ?_
      refine n_get hC hw fg_BootMaker_107 1 rfl rfl d_BootMaker_memory_24 ?_
      refine n_iload_n hC hl 1 d_BootMaker_memory_27 rfl rfl ?_
      obtain ⟨u2, hu2, hf⟩ := bd_s hf
      refine n_callVi hC hw fc_BootMaker_73 (c_Store_get l g E hEe r_o r_words_a r_words_n r_length r_words a1 u2 hu2) [2, 3] (wd_BootMaker_memory g t_o f_o r_o r_words_a d_o u_o p_o w_o f_loaderSectors_a f_chain_a r_words_n f_sectors f_tableSectors f_clusters f_tried f_header f_bootStart f_kernelAddress f_kernelSize r_length r_words) 2 rfl ⟨rfl, rfl⟩ ⟨Nat.le_of_ble_eq_true rfl, Nat.le_of_ble_eq_true rfl⟩ rfl (At_.cons rfl (At_.cons rfl At_.nil)) (At_.cons rfl (At_.cons rfl At_.nil)) Sm_.refl rfl hl.1 (Nat.le_of_ble_eq_true rfl) ⟨Nat.zero_le _, Nat.zero_le _⟩ d_BootMaker_memory_28 (fun H locs hw => ?_) rfl
      cases hf
      exact hret _ _ _ _ hw rfl d_BootMaker_memory_31
    · cases hf
/-! machine: boot and memory, where they throw -/
def rmT : Room := { frames := 6, cells := 1, slots := 6, locals := 100 }
theorem fit_2 : ∀ n ∈ ["java/lang/RuntimeException", "java/lang/Exception"], Bundle.fit n = true := by decide +kernel
set_option maxRecDepth 100000 in
theorem w_tIA : Cond.classLink "BootMaker" 88 tIA ∈ Wall ∧ Cond.instantiable tIA 6 ∈ Wall ∧ Cond.initialized tIA ∈ Wall := ⟨inW 578 rfl rfl, inW 579 rfl rfl, inW 17 rfl rfl⟩
set_option maxRecDepth 100000 in
theorem w_tNS : Cond.classLink "BootMaker" 102 tNS ∈ Wall ∧ Cond.instantiable tNS 6 ∈ Wall ∧ Cond.initialized tNS ∈ Wall := ⟨inW 758 rfl rfl, inW 759 rfl rfl, inW 18 rfl rfl⟩
theorem ct_boot (l : Launch) (hfl : l.flags = pinnedFlags ++ [noTraceFlag]) (g : GT) (E : (Nat → Prop) → State → Prop) (hEe : Ee E) (X : XT) (hS : ∀ (A : Nat → Prop) (u : State), E A u → SS X A u) (hZ : ∀ (A : Nat → Prop) (u : State), E A u → ETh A u) (t_o : Nat) (a1 : Int32) (h0 : ¬ a1 = 0) (h1 : ¬ a1 = 1) : CtT l y_BootMaker_boot ws_BootMaker_boot rmT g.1 classes (tK g) E [.ref t_o, .int a1] tIA := by
  refine CtT.of (pn := 9) (cls := tIA) (names := ["java/lang/RuntimeException", "java/lang/Exception"]) (ic := 92) (ix := 7) (index := 88) (si := 90) (tx := sTx 8) (q := X.2.1 8) (rx := prog_11_method_2_code) (cc := b_BootMaker_boot) (maxL := 2) (ty := .int) hfl hEe good_W (by decide) rfl (Nat.le_of_ble_eq_true rfl) (by decide +kernel) (by decide +kernel) (by decide +kernel) (by decide +kernel) (by decide +kernel) fit_2 tx_boot hZ w_tIA.1 w_tIA.2.1 w_tIA.2.2 (by decide)
    d_BootMaker_boot_9 d_BootMaker_boot_12 d_BootMaker_boot_13 d_BootMaker_boot_15 d_BootMaker_boot_18 (fun A u h => (hS A u h).2.1 8 (by decide)) ?_
  intro p e s m args below meth c A ls Q hC hl K
  have hl : lv_has ls 2 [(0, .ref t_o), (1, .int a1)] := hl
  refine n_iload_n hC hl 1 d_BootMaker_boot_0 rfl rfl ?_
  refine n_if_eq hC (z := ()) (show (if a1 = 0 then none else some ()) = some () from if_neg h0) 19 d_BootMaker_boot_1 (by decide) (fun hf => ?_) (fun _ => ?_)
  · cases hf
  · refine n_iload_n hC hl 1 d_BootMaker_boot_4 rfl rfl ?_
    refine n_iconst hC 1 d_BootMaker_boot_5 (by decide) ?_
    refine n_icmp_eq hC (z := ()) (show (if a1 = 1 then none else some ()) = some () from if_neg h1) 19 d_BootMaker_boot_6 (by decide) (fun hf => ?_) (fun _ => K)
    cases hf
theorem ct_memory (l : Launch) (hfl : l.flags = pinnedFlags ++ [noTraceFlag]) (g : GT) (E : (Nat → Prop) → State → Prop) (hEe : Ee E) (X : XT) (hS : ∀ (A : Nat → Prop) (u : State), E A u → SS X A u) (hZ : ∀ (A : Nat → Prop) (u : State), E A u → ETh A u) (t_o : Nat) (a1 : Int32) (h : a1 < 0 ∨ ¬ a1 < 65536) : CtT l y_BootMaker_memory ws_BootMaker_memory rmT g.1 classes (tK g) E [.ref t_o, .int a1] tNS := by
  refine CtT.of (pn := 10) (cls := tNS) (names := ["java/lang/RuntimeException", "java/lang/Exception"]) (ic := 106) (ix := 13) (index := 102) (si := 104) (tx := sTx 12) (q := X.2.1 12) (rx := prog_18_method_4_code) (cc := b_BootMaker_memory) (maxL := 2) (ty := .int) hfl hEe good_W (by decide) rfl (Nat.le_of_ble_eq_true rfl) (by decide +kernel) (by decide +kernel) (by decide +kernel) (by decide +kernel) (by decide +kernel) fit_2 tx_memory hZ w_tNS.1 w_tNS.2.1 w_tNS.2.2 (by decide)
    d_BootMaker_memory_10 d_BootMaker_memory_13 d_BootMaker_memory_14 d_BootMaker_memory_16 d_BootMaker_memory_19 (fun A u h => (hS A u h).2.1 12 (by decide)) ?_
  intro p e s m args below meth c A ls Q hC hl K
  have hl : lv_has ls 2 [(0, .ref t_o), (1, .int a1)] := hl
  refine n_iload_n hC hl 1 d_BootMaker_memory_0 rfl rfl ?_
  by_cases h0 : a1 < 0
  · refine n_if_lt hC (z := ()) (show (if a1 < 0 then some () else none) = some () from if_pos h0) 10 d_BootMaker_memory_1 (by decide) (fun _ => K) (fun hf => ?_)
    cases hf
  · refine n_if_lt hC (z := ()) (show (if a1 < 0 then none else some ()) = some () from if_neg h0) 10 d_BootMaker_memory_1 (by decide) (fun hf => ?_) (fun _ => ?_)
    · cases hf
    · refine n_iload_n hC hl 1 d_BootMaker_memory_4 rfl rfl ?_
      refine n_ldc hC 65536 kc_BootMaker_101 d_BootMaker_memory_5 ?_
      refine n_icmp_lt hC (z := ()) (show (if a1 < 65536 then none else some ()) = some () from if_neg (h.resolve_left h0)) 20 d_BootMaker_memory_7 (by decide) (fun hf => ?_) (fun _ => K)
      cases hf

