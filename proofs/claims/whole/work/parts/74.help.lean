def rm_Law_boot : Room := { frames := 9, cells := 1, slots := 6, locals := 199 }
set_option maxHeartbeats 4000000 in
set_option maxRecDepth 100000 in
theorem ch_boot (l : Launch) (hfl : l.flags = pinnedFlags ++ [noTraceFlag]) (g : GT) (E : (Nat → Prop) → State → Prop) (hEe : Ee E) (X : XT) (hS : ∀ (A : Nat → Prop) (u : State), E A u → SS X A u) (hZ : ∀ (A : Nat → Prop) (u : State), E A u → ETh A u) (t_o : Nat) (d_o : Nat) (d_words_a : Nat) (u_o : Nat) (u_shifted_a : Nat) (f_o : Nat) (f_loaderSectors_a : Nat) (f_chain_a : Nat) (r_o : Nat) (r_words_a : Nat) (p_o : Nat) (w_o : Nat) (d_words_n : Nat) (f_chain_n : Nat) (r_words_n : Nat) (d_length : Int32) (d_words : Nat → Int64) (u_bits : Int32) (u_shifted : Nat → Int32) (f_sectors : Int32) (f_tableSectors : Int32) (f_clusters : Int32) (f_tried : Int32) (f_header : Int32) (f_bootStart : Int32) (f_kernelAddress : Int32) (f_kernelSize : Int32) (f_loaderSectors : Nat → Int32) (f_chain : Nat → Int32) (r_length : Int32) (r_words : Nat → Int64) (a1 : Int32) (o_a : Nat) (o : Nat → Int64) (N : Nat) (z : Int32 × Int32 × Int32 × Int32 × Int32 × Int32 × Int32 × Int32 × Int32 × (Nat → Int32) × (Nat → Int32) × (Nat → Int64)) (hf : f_BootMaker_boot N r_words_n r_words d_length d_words_n d_words f_sectors f_chain f_chain_n r_length f_tableSectors f_clusters a1 f_loaderSectors u_bits u_shifted = some z) : CtH l y_Law_boot ws_Law_boot rm_Law_boot g.1 classes (tK g) E [.ref t_o, .int a1, .ref o_a] (wd_BootMaker_boot g t_o d_o d_words_a u_o u_shifted_a f_o f_loaderSectors_a f_chain_a r_o r_words_a p_o w_o d_words_n f_chain_n r_words_n d_length d_words u_bits u_shifted f_sectors f_tableSectors f_clusters f_tried f_header f_bootStart f_kernelAddress f_kernelSize f_loaderSectors f_chain r_length r_words ++ [(o_a, .inl (g.2.2.1, 1, .inr (.inl o)))]) 0 (wd_BootMaker_boot g t_o d_o d_words_a u_o u_shifted_a f_o f_loaderSectors_a f_chain_a r_o r_words_a p_o w_o d_words_n f_chain_n r_words_n d_length d_words z.2.1 u_shifted f_sectors z.2.2.1 z.2.2.2.1 z.2.2.2.2.1 z.2.2.2.2.2.1 z.2.2.2.2.2.2.1 z.2.2.2.2.2.2.2.1 z.2.2.2.2.2.2.2.2.1 z.2.2.2.2.2.2.2.2.2.1 z.2.2.2.2.2.2.2.2.2.2.1 r_length z.2.2.2.2.2.2.2.2.2.2.2 ++ [(o_a, .inl (g.2.2.1, 1, .inr (.inl (vp_updL o 0 z.1.toInt64))))]) := by
  refine CtH.of (cc := b_Law_boot) (maxL := 4) (ty := .int) (hh := [(0, 9, 12, 13)]) hEe good_W (by decide) rfl (Nat.le_of_ble_eq_true rfl) ?_
  intro p e s m args below meth c A ls Q hadm hC hex hA hw hl hret
  have hC : CX p m c b_Law_boot 4 s args Wall R_Law g.1 classes (tK g) E A := hC
  have hl : lv_has ls 4 [(0, .ref t_o), (1, .int a1), (2, .ref o_a)] := hl
  refine n_aload_n hC hl 2 d_Law_boot_0 rfl rfl ?_
  refine n_iconst hC 0 d_Law_boot_1 (by decide) ?_
  refine n_aload_n hC hl 0 d_Law_boot_2 rfl rfl ?_
  refine n_iload_n hC hl 1 d_Law_boot_3 rfl rfl ?_
  refine n_callVi hC hw fc_Law_7 (c_BootMaker_boot l g E hEe X hS t_o d_o d_words_a u_o u_shifted_a f_o f_loaderSectors_a f_chain_a r_o r_words_a p_o w_o d_words_n f_chain_n r_words_n d_length d_words u_bits u_shifted f_sectors f_tableSectors f_clusters f_tried f_header f_bootStart f_kernelAddress f_kernelSize f_loaderSectors f_chain r_length r_words a1 N z hf) [0, 1, 2, 3, 4, 5, 6, 7, 8, 9] (wd_BootMaker_boot g t_o d_o d_words_a u_o u_shifted_a f_o f_loaderSectors_a f_chain_a r_o r_words_a p_o w_o d_words_n f_chain_n r_words_n d_length d_words z.2.1 u_shifted f_sectors z.2.2.1 z.2.2.2.1 z.2.2.2.2.1 z.2.2.2.2.2.1 z.2.2.2.2.2.2.1 z.2.2.2.2.2.2.2.1 z.2.2.2.2.2.2.2.2.1 z.2.2.2.2.2.2.2.2.2.1 z.2.2.2.2.2.2.2.2.2.2.1 r_length z.2.2.2.2.2.2.2.2.2.2.2 ++ [(o_a, .inl (g.2.2.1, 1, .inr (.inl o)))]) 0 rfl ⟨rfl, rfl⟩ ⟨Nat.le_of_ble_eq_true rfl, Nat.le_of_ble_eq_true rfl⟩ rfl (At_.cons rfl (At_.cons rfl (At_.cons rfl (At_.cons rfl (At_.cons rfl (At_.cons rfl (At_.cons rfl (At_.cons rfl (At_.cons rfl (At_.cons rfl At_.nil)))))))))) (At_.cons rfl (At_.cons rfl (At_.cons rfl (At_.cons rfl (At_.cons rfl (At_.cons rfl (At_.cons rfl (At_.cons rfl (At_.cons rfl (At_.cons rfl At_.nil)))))))))) (Sm_.keep (Sm_.keep (Sm_.keep (Sm_.upd rfl (Sm_.keep (Sm_.upd rfl (Sm_.upd rfl (Sm_.upd rfl (Sm_.keep (Sm_.upd rfl (Sm_.keep Sm_.nil))))))))))) rfl hl.1 (Nat.le_of_ble_eq_true rfl) ⟨Nat.zero_le _, Nat.zero_le _⟩ d_Law_boot_4 (fun H locs hw => ?_) rfl
  refine n_i2l hC (z := z.1.toInt64) (show lt_ (z.1.toInt64) (fun v => some v) = some (z.1.toInt64) from rfl) d_Law_boot_7 (fun v hv => ?_)
  cases hv
  refine n_last hC hw (z := vp_updL o 0 z.1.toInt64) (show up_l 1 o 0 z.1.toInt64 (fun f => some f) = some (vp_updL o 0 z.1.toInt64) from rfl) 10 1 (fun f => wd_BootMaker_boot g t_o d_o d_words_a u_o u_shifted_a f_o f_loaderSectors_a f_chain_a r_o r_words_a p_o w_o d_words_n f_chain_n r_words_n d_length d_words z.2.1 u_shifted f_sectors z.2.2.1 z.2.2.2.1 z.2.2.2.2.1 z.2.2.2.2.2.1 z.2.2.2.2.2.2.1 z.2.2.2.2.2.2.2.1 z.2.2.2.2.2.2.2.2.1 z.2.2.2.2.2.2.2.2.2.1 z.2.2.2.2.2.2.2.2.2.2.1 r_length z.2.2.2.2.2.2.2.2.2.2.2 ++ [(o_a, .inl (g.2.2.1, 1, .inr (.inl f)))]) rfl rfl d_Law_boot_8 (fun _ => rfl) (fun f H locs hfo hw => ?_)
  cases hfo
  refine n_goto hC 15 d_Law_boot_9 (by decide) ?_
  refine n_iconst hC 0 d_Law_boot_15 (by decide) ?_
  refine W.widen (k := 1) (n := 6) (by decide) (by decide) ?_
  exact hret _ _ _ _ hw rfl d_Law_boot_16
set_option maxHeartbeats 4000000 in
set_option maxRecDepth 100000 in
theorem cx_boot (l : Launch) (hfl : l.flags = pinnedFlags ++ [noTraceFlag]) (g : GT) (E : (Nat → Prop) → State → Prop) (hEe : Ee E) (X : XT) (hS : ∀ (A : Nat → Prop) (u : State), E A u → SS X A u) (hZ : ∀ (A : Nat → Prop) (u : State), E A u → ETh A u) (t_o : Nat) (d_o : Nat) (d_words_a : Nat) (u_o : Nat) (u_shifted_a : Nat) (f_o : Nat) (f_loaderSectors_a : Nat) (f_chain_a : Nat) (r_o : Nat) (r_words_a : Nat) (p_o : Nat) (w_o : Nat) (d_words_n : Nat) (f_chain_n : Nat) (r_words_n : Nat) (d_length : Int32) (d_words : Nat → Int64) (u_bits : Int32) (u_shifted : Nat → Int32) (f_sectors : Int32) (f_tableSectors : Int32) (f_clusters : Int32) (f_tried : Int32) (f_header : Int32) (f_bootStart : Int32) (f_kernelAddress : Int32) (f_kernelSize : Int32) (f_loaderSectors : Nat → Int32) (f_chain : Nat → Int32) (r_length : Int32) (r_words : Nat → Int64) (a1 : Int32) (o_a : Nat) (o : Nat → Int64) (h0 : ¬ a1 = 0) (h1 : ¬ a1 = 1) : CtH l y_Law_boot ws_Law_boot rm_Law_boot g.1 classes (tK g) E [.ref t_o, .int a1, .ref o_a] (wd_BootMaker_boot g t_o d_o d_words_a u_o u_shifted_a f_o f_loaderSectors_a f_chain_a r_o r_words_a p_o w_o d_words_n f_chain_n r_words_n d_length d_words u_bits u_shifted f_sectors f_tableSectors f_clusters f_tried f_header f_bootStart f_kernelAddress f_kernelSize f_loaderSectors f_chain r_length r_words ++ [(o_a, .inl (g.2.2.1, 1, .inr (.inl o)))]) 1 (wd_BootMaker_boot g t_o d_o d_words_a u_o u_shifted_a f_o f_loaderSectors_a f_chain_a r_o r_words_a p_o w_o d_words_n f_chain_n r_words_n d_length d_words u_bits u_shifted f_sectors f_tableSectors f_clusters f_tried f_header f_bootStart f_kernelAddress f_kernelSize f_loaderSectors f_chain r_length r_words ++ [(o_a, .inl (g.2.2.1, 1, .inr (.inl o)))]) := by
  refine CtH.of (cc := b_Law_boot) (maxL := 4) (ty := .int) (hh := [(0, 9, 12, 13)]) hEe good_W (by decide) rfl (Nat.le_of_ble_eq_true rfl) ?_
  intro p e s m args below meth c A ls Q hadm hC hex hA hw hl hret
  have hC : CX p m c b_Law_boot 4 s args Wall R_Law g.1 classes (tK g) E A := hC
  have hl : lv_has ls 4 [(0, .ref t_o), (1, .int a1), (2, .ref o_a)] := hl
  refine n_aload_n hC hl 2 d_Law_boot_0 rfl rfl ?_
  refine n_iconst hC 0 d_Law_boot_1 (by decide) ?_
  refine n_aload_n hC hl 0 d_Law_boot_2 rfl rfl ?_
  refine n_iload_n hC hl 1 d_Law_boot_3 rfl rfl ?_
  obtain ⟨x, hx, x1, x2, x3, x4⟩ := one_row hex
  refine n_catch hC hw fc_Law_7 (ct_boot l hfl g E hEe X hS hZ t_o a1 h0 h1) 0 rfl ⟨rfl, rfl⟩ ⟨Nat.le_of_ble_eq_true rfl, Nat.le_of_ble_eq_true rfl⟩ ⟨Nat.le_of_ble_eq_true rfl, Nat.le_of_ble_eq_true rfl⟩ hx (by simp [covers, x1, x2]) (by rw [x4]; decide) (by rw [x4]; exact wl_boot) (fun A u h => (hZ A u h).2.2.2.1) rfl hl.1 (Nat.le_of_ble_eq_true rfl) d_Law_boot_4 (fun v H locs hw => ?_) rfl
  rw [x3]
  refine n_astore_n hC [(3, .ref v), (0, .ref t_o), (1, .int a1), (2, .ref o_a)] hl d_Law_boot_12 rfl (by decide) rfl (fun ls hl => ?_)
  refine n_iconst hC 1 d_Law_boot_13 (by decide) ?_
  exact hret _ _ _ _ hw rfl d_Law_boot_14
def rm_Law_memory : Room := { frames := 7, cells := 1, slots := 6, locals := 121 }
set_option maxHeartbeats 4000000 in
set_option maxRecDepth 100000 in
theorem ch_memory (l : Launch) (hfl : l.flags = pinnedFlags ++ [noTraceFlag]) (g : GT) (E : (Nat → Prop) → State → Prop) (hEe : Ee E) (X : XT) (hS : ∀ (A : Nat → Prop) (u : State), E A u → SS X A u) (hZ : ∀ (A : Nat → Prop) (u : State), E A u → ETh A u) (t_o : Nat) (f_o : Nat) (r_o : Nat) (r_words_a : Nat) (d_o : Nat) (u_o : Nat) (p_o : Nat) (w_o : Nat) (f_loaderSectors_a : Nat) (f_chain_a : Nat) (r_words_n : Nat) (f_sectors : Int32) (f_tableSectors : Int32) (f_clusters : Int32) (f_tried : Int32) (f_header : Int32) (f_bootStart : Int32) (f_kernelAddress : Int32) (f_kernelSize : Int32) (r_length : Int32) (r_words : Nat → Int64) (a1 : Int32) (o_a : Nat) (o : Nat → Int64) (z : Int32) (hf : f_BootMaker_memory a1 r_length r_words_n r_words = some z) : CtH l y_Law_memory ws_Law_memory rm_Law_memory g.1 classes (tK g) E [.ref t_o, .int a1, .ref o_a] (wd_BootMaker_memory g t_o f_o r_o r_words_a d_o u_o p_o w_o f_loaderSectors_a f_chain_a r_words_n f_sectors f_tableSectors f_clusters f_tried f_header f_bootStart f_kernelAddress f_kernelSize r_length r_words ++ [(o_a, .inl (g.2.2.1, 1, .inr (.inl o)))]) 0 (wd_BootMaker_memory g t_o f_o r_o r_words_a d_o u_o p_o w_o f_loaderSectors_a f_chain_a r_words_n f_sectors f_tableSectors f_clusters f_tried f_header f_bootStart f_kernelAddress f_kernelSize r_length r_words ++ [(o_a, .inl (g.2.2.1, 1, .inr (.inl (vp_updL o 0 z.toInt64))))]) := by
  refine CtH.of (cc := b_Law_memory) (maxL := 4) (ty := .int) (hh := [(0, 9, 12, 18)]) hEe good_W (by decide) rfl (Nat.le_of_ble_eq_true rfl) ?_
  intro p e s m args below meth c A ls Q hadm hC hex hA hw hl hret
  have hC : CX p m c b_Law_memory 4 s args Wall R_Law g.1 classes (tK g) E A := hC
  have hl : lv_has ls 4 [(0, .ref t_o), (1, .int a1), (2, .ref o_a)] := hl
  refine n_aload_n hC hl 2 d_Law_memory_0 rfl rfl ?_
  refine n_iconst hC 0 d_Law_memory_1 (by decide) ?_
  refine n_aload_n hC hl 0 d_Law_memory_2 rfl rfl ?_
  refine n_iload_n hC hl 1 d_Law_memory_3 rfl rfl ?_
  refine n_callVi hC hw fc_Law_15 (c_BootMaker_memory l g E hEe t_o f_o r_o r_words_a d_o u_o p_o w_o f_loaderSectors_a f_chain_a r_words_n f_sectors f_tableSectors f_clusters f_tried f_header f_bootStart f_kernelAddress f_kernelSize r_length r_words a1 z hf) [0, 1, 2, 3] (wd_BootMaker_memory g t_o f_o r_o r_words_a d_o u_o p_o w_o f_loaderSectors_a f_chain_a r_words_n f_sectors f_tableSectors f_clusters f_tried f_header f_bootStart f_kernelAddress f_kernelSize r_length r_words ++ [(o_a, .inl (g.2.2.1, 1, .inr (.inl o)))]) 0 rfl ⟨rfl, rfl⟩ ⟨Nat.le_of_ble_eq_true rfl, Nat.le_of_ble_eq_true rfl⟩ rfl (At_.cons rfl (At_.cons rfl (At_.cons rfl (At_.cons rfl At_.nil)))) (At_.cons rfl (At_.cons rfl (At_.cons rfl (At_.cons rfl At_.nil)))) (Sm_.keep (Sm_.keep (Sm_.keep (Sm_.keep (Sm_.keep Sm_.nil))))) rfl hl.1 (Nat.le_of_ble_eq_true rfl) ⟨Nat.zero_le _, Nat.zero_le _⟩ d_Law_memory_4 (fun H locs hw => ?_) rfl
  refine n_i2l hC (z := z.toInt64) (show lt_ (z.toInt64) (fun v => some v) = some (z.toInt64) from rfl) d_Law_memory_7 (fun v hv => ?_)
  cases hv
  refine n_last hC hw (z := vp_updL o 0 z.toInt64) (show up_l 1 o 0 z.toInt64 (fun f => some f) = some (vp_updL o 0 z.toInt64) from rfl) 4 1 (fun f => wd_BootMaker_memory g t_o f_o r_o r_words_a d_o u_o p_o w_o f_loaderSectors_a f_chain_a r_words_n f_sectors f_tableSectors f_clusters f_tried f_header f_bootStart f_kernelAddress f_kernelSize r_length r_words ++ [(o_a, .inl (g.2.2.1, 1, .inr (.inl f)))]) rfl rfl d_Law_memory_8 (fun _ => rfl) (fun f H locs hfo hw => ?_)
  cases hfo
  refine n_goto hC 15 d_Law_memory_9 (by decide) ?_
  refine n_iconst hC 0 d_Law_memory_15 (by decide) ?_
  refine W.widen (k := 1) (n := 6) (by decide) (by decide) ?_
  exact hret _ _ _ _ hw rfl d_Law_memory_16
set_option maxHeartbeats 4000000 in
set_option maxRecDepth 100000 in
theorem cx_memory (l : Launch) (hfl : l.flags = pinnedFlags ++ [noTraceFlag]) (g : GT) (E : (Nat → Prop) → State → Prop) (hEe : Ee E) (X : XT) (hS : ∀ (A : Nat → Prop) (u : State), E A u → SS X A u) (hZ : ∀ (A : Nat → Prop) (u : State), E A u → ETh A u) (t_o : Nat) (f_o : Nat) (r_o : Nat) (r_words_a : Nat) (d_o : Nat) (u_o : Nat) (p_o : Nat) (w_o : Nat) (f_loaderSectors_a : Nat) (f_chain_a : Nat) (r_words_n : Nat) (f_sectors : Int32) (f_tableSectors : Int32) (f_clusters : Int32) (f_tried : Int32) (f_header : Int32) (f_bootStart : Int32) (f_kernelAddress : Int32) (f_kernelSize : Int32) (r_length : Int32) (r_words : Nat → Int64) (a1 : Int32) (o_a : Nat) (o : Nat → Int64) (h : a1 < 0 ∨ ¬ a1 < 65536) : CtH l y_Law_memory ws_Law_memory rm_Law_memory g.1 classes (tK g) E [.ref t_o, .int a1, .ref o_a] (wd_BootMaker_memory g t_o f_o r_o r_words_a d_o u_o p_o w_o f_loaderSectors_a f_chain_a r_words_n f_sectors f_tableSectors f_clusters f_tried f_header f_bootStart f_kernelAddress f_kernelSize r_length r_words ++ [(o_a, .inl (g.2.2.1, 1, .inr (.inl o)))]) 1 (wd_BootMaker_memory g t_o f_o r_o r_words_a d_o u_o p_o w_o f_loaderSectors_a f_chain_a r_words_n f_sectors f_tableSectors f_clusters f_tried f_header f_bootStart f_kernelAddress f_kernelSize r_length r_words ++ [(o_a, .inl (g.2.2.1, 1, .inr (.inl o)))]) := by
  refine CtH.of (cc := b_Law_memory) (maxL := 4) (ty := .int) (hh := [(0, 9, 12, 18)]) hEe good_W (by decide) rfl (Nat.le_of_ble_eq_true rfl) ?_
  intro p e s m args below meth c A ls Q hadm hC hex hA hw hl hret
  have hC : CX p m c b_Law_memory 4 s args Wall R_Law g.1 classes (tK g) E A := hC
  have hl : lv_has ls 4 [(0, .ref t_o), (1, .int a1), (2, .ref o_a)] := hl
  refine n_aload_n hC hl 2 d_Law_memory_0 rfl rfl ?_
  refine n_iconst hC 0 d_Law_memory_1 (by decide) ?_
  refine n_aload_n hC hl 0 d_Law_memory_2 rfl rfl ?_
  refine n_iload_n hC hl 1 d_Law_memory_3 rfl rfl ?_
  obtain ⟨x, hx, x1, x2, x3, x4⟩ := one_row hex
  refine n_catch hC hw fc_Law_15 (ct_memory l hfl g E hEe X hS hZ t_o a1 h) 0 rfl ⟨rfl, rfl⟩ ⟨Nat.le_of_ble_eq_true rfl, Nat.le_of_ble_eq_true rfl⟩ ⟨Nat.le_of_ble_eq_true rfl, Nat.le_of_ble_eq_true rfl⟩ hx (by simp [covers, x1, x2]) (by rw [x4]; decide) (by rw [x4]; exact wl_memory) (fun A u h => (hZ A u h).2.2.2.2) rfl hl.1 (Nat.le_of_ble_eq_true rfl) d_Law_memory_4 (fun v H locs hw => ?_) rfl
  rw [x3]
  refine n_astore_n hC [(3, .ref v), (0, .ref t_o), (1, .int a1), (2, .ref o_a)] hl d_Law_memory_12 rfl (by decide) rfl (fun ls hl => ?_)
  refine n_iconst hC 1 d_Law_memory_13 (by decide) ?_
  exact hret _ _ _ _ hw rfl d_Law_memory_14
def wd_Law_cell (g : GT)  : va_W := []
def f_Law_cell (q1_n : Nat) (a2 : Int32) (q1_f : Nat → Int32) : Option (Int32) :=
  if ((Int32.ofNat q1_n) : Int32) ≤ a2 then some (0) else ix_ q1_n q1_f a2 (fun (v2 : Int32) => some (v2))
def rm_Law_cell : Room := { frames := 0, cells := 0, slots := 0, locals := 0 }
set_option maxHeartbeats 4000000 in
set_option maxRecDepth 100000 in
theorem c_Law_cell (l : Launch) (g : GT) (E : (Nat → Prop) → State → Prop) (hEe : Ee E) (q1_a q1_n : Nat) (q1_f : Nat → Int32) (hq1 : ∀ (A : Nat → Prop) (u : State), E A u → va_T .int q1_a q1_n (fun j => .int (q1_f j)) A u u.heap) (a2 : Int32) (z : Int32) (hf : f_Law_cell q1_n a2 q1_f = some z) : Cg l g E y_Law_cell ws_Law_cell rm_Law_cell [.ref q1_a, .int a2] (wd_Law_cell g) (some (.int z)) (wd_Law_cell g) := by
  refine Ct.ofI hEe good_W (by decide) rfl (Nat.le_of_ble_eq_true rfl) ?_
  intro p e s m args below meth c A ls Q hC hw hl hret
  have hC : CX p m c b_Law_cell 2 s args Wall R_Law g.1 classes (tK g) E A := hC
  have hl : lv_has ls 2 [(0, .ref q1_a), (1, .int a2)] := hl
  unfold f_Law_cell at hf
  refine n_iload_n hC hl 1 d_Law_cell_0 rfl rfl ?_
  refine n_aload_n hC hl 0 d_Law_cell_1 rfl rfl ?_
  refine n_tlen hC hw hq1 (Int32.ofNat q1_n) rfl d_Law_cell_2 ?_
  refine n_icmp_ge hC hf 12 d_Law_cell_3 (by decide) (fun hf => ?_) (fun hf => ?_)
  · refine n_iconst hC 0 d_Law_cell_12 (by decide) ?_
    cases hf
    exact hret _ _ _ _ hw rfl d_Law_cell_13
  · refine n_aload_n hC hl 0 d_Law_cell_6 rfl rfl ?_
    refine n_iload_n hC hl 1 d_Law_cell_7 rfl rfl ?_
    refine n_ti hC hw hf hq1 d_Law_cell_8 (fun v2 hf => ?_)
    refine n_goto hC 13 d_Law_cell_9 (by decide) ?_
    cases hf
    exact hret _ _ _ _ hw rfl d_Law_cell_13
