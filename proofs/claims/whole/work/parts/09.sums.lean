def wd_Sums_begin (g : GT) (t_o : Nat) (t_shifted_a : Nat) (t_bits : Int32) : va_W := [(t_o, .inr (1, [.ref t_shifted_a, .int t_bits]))]
def f_Sums_begin  : Option (Int32) :=
  some ((-1))
def rm_Sums_begin : Room := { frames := 0, cells := 0, slots := 0, locals := 0 }
set_option maxHeartbeats 4000000 in
set_option maxRecDepth 100000 in
theorem c_Sums_begin (l : Launch) (g : GT) (E : (Nat → Prop) → State → Prop) (hEe : Ee E) (t_o : Nat) (t_shifted_a : Nat) (t_bits : Int32) (z : Int32) (hf : f_Sums_begin  = some z) : Cg l g E y_Sums_begin ws_Sums_begin rm_Sums_begin [.ref t_o] (wd_Sums_begin g t_o t_shifted_a t_bits) none (wd_Sums_begin g t_o t_shifted_a z) := by
  refine Ct.ofV hEe good_W (by decide) rfl (Nat.le_of_ble_eq_true rfl) ?_
  intro p e s m args below meth c A ls Q hC hw hl hret
  have hC : CX p m c b_Sums_begin 1 s args Wall R_Sums g.1 classes (tK g) E A := hC
  have hl : lv_has ls 1 [(0, .ref t_o)] := hl
  unfold f_Sums_begin at hf
  refine n_aload_n hC hl 0 d_Sums_begin_0 rfl rfl ?_
  refine n_iconst hC (-1) d_Sums_begin_1 (by decide) ?_
  refine n_put hC hw fp_Sums_16 0 (wd_Sums_begin g t_o t_shifted_a (-1)) rfl rfl rfl (Nat.le_of_ble_eq_true rfl) d_Sums_begin_2 rfl (fun H locs hw => ?_)
  cases hf
  exact hret _ _ _ _ hw d_Sums_begin_5
def wd_Sums_add (g : GT) (t_o : Nat) (t_shifted_a : Nat) (t_bits : Int32) (t_shifted : Nat → Int32) : va_W := [(t_o, .inr (1, [.ref t_shifted_a, .int t_bits])), (t_shifted_a, .inl (g.2.1, 256, .inl t_shifted))]
def f_Sums_add (t_bits : Int32) (a1 : Int32) (t_shifted : Nat → Int32) : Option (Int32) :=
  lt_ (t_bits ^^^ a1) (fun v6 => lt_ (v6 &&& 255) (fun v7 => ix_ 256 t_shifted v7 (fun (v8 : Int32) => lt_ ((t_bits.toUInt32 >>> ((8 : Int32).toUInt32 &&& Int32.toUInt32 31)).toInt32) (fun v9 => lt_ (v8 ^^^ v9) (fun v10 => some (v10))))))
def rm_Sums_add : Room := { frames := 0, cells := 0, slots := 0, locals := 0 }
set_option maxHeartbeats 4000000 in
set_option maxRecDepth 100000 in
theorem c_Sums_add (l : Launch) (g : GT) (E : (Nat → Prop) → State → Prop) (hEe : Ee E) (t_o : Nat) (t_shifted_a : Nat) (t_bits : Int32) (t_shifted : Nat → Int32) (a1 : Int32) (z : Int32) (hf : f_Sums_add t_bits a1 t_shifted = some z) : Cg l g E y_Sums_add ws_Sums_add rm_Sums_add [.ref t_o, .int a1] (wd_Sums_add g t_o t_shifted_a t_bits t_shifted) none (wd_Sums_add g t_o t_shifted_a z t_shifted) := by
  refine Ct.ofV hEe good_W (by decide) rfl (Nat.le_of_ble_eq_true rfl) ?_
  intro p e s m args below meth c A ls Q hC hw hl hret
  have hC : CX p m c b_Sums_add 2 s args Wall R_Sums g.1 classes (tK g) E A := hC
  have hl : lv_has ls 2 [(0, .ref t_o), (1, .int a1)] := hl
  unfold f_Sums_add at hf
  refine n_aload_n hC hl 0 d_Sums_add_0 rfl rfl ?_
  refine n_aload_n hC hl 0 d_Sums_add_1 rfl rfl ?_
  refine n_get hC hw fg_Sums_9 0 rfl rfl d_Sums_add_2 ?_
  refine n_aload_n hC hl 0 d_Sums_add_5 rfl rfl ?_
  refine n_get hC hw fg_Sums_16 0 rfl rfl d_Sums_add_6 ?_
  refine n_iload_n hC hl 1 d_Sums_add_9 rfl rfl ?_
  refine n_ixor hC hf d_Sums_add_10 (fun v6 hf => ?_)
  refine n_sipush hC 255 d_Sums_add_11 (by decide) ?_
  refine n_iand hC hf d_Sums_add_14 (fun v7 hf => ?_)
  refine n_iald hC hw hf 1 0 rfl rfl d_Sums_add_15 (fun v8 hf => ?_)
  refine n_aload_n hC hl 0 d_Sums_add_16 rfl rfl ?_
  refine n_get hC hw fg_Sums_16 0 rfl rfl d_Sums_add_17 ?_
  refine n_bipush hC 8 d_Sums_add_20 (by decide) ?_
  refine n_iushr hC hf d_Sums_add_22 (fun v9 hf => ?_)
  refine n_ixor hC hf d_Sums_add_23 (fun v10 hf => ?_)
  refine n_put hC hw fp_Sums_16 0 (wd_Sums_add g t_o t_shifted_a v10 t_shifted) rfl rfl rfl (Nat.le_of_ble_eq_true rfl) d_Sums_add_24 rfl (fun H locs hw => ?_)
  cases hf
  exact hret _ _ _ _ hw d_Sums_add_27
def wd_Sums_result (g : GT) (t_o : Nat) (t_shifted_a : Nat) (t_bits : Int32) : va_W := [(t_o, .inr (1, [.ref t_shifted_a, .int t_bits]))]
def f_Sums_result (t_bits : Int32) : Option (Int32) :=
  lt_ (t_bits ^^^ (-1)) (fun v2 => some (v2))
def rm_Sums_result : Room := { frames := 0, cells := 0, slots := 0, locals := 0 }
set_option maxHeartbeats 4000000 in
set_option maxRecDepth 100000 in
theorem c_Sums_result (l : Launch) (g : GT) (E : (Nat → Prop) → State → Prop) (hEe : Ee E) (t_o : Nat) (t_shifted_a : Nat) (t_bits : Int32) (z : Int32) (hf : f_Sums_result t_bits = some z) : Cg l g E y_Sums_result ws_Sums_result rm_Sums_result [.ref t_o] (wd_Sums_result g t_o t_shifted_a t_bits) (some (.int z)) (wd_Sums_result g t_o t_shifted_a t_bits) := by
  refine Ct.ofI hEe good_W (by decide) rfl (Nat.le_of_ble_eq_true rfl) ?_
  intro p e s m args below meth c A ls Q hC hw hl hret
  have hC : CX p m c b_Sums_result 1 s args Wall R_Sums g.1 classes (tK g) E A := hC
  have hl : lv_has ls 1 [(0, .ref t_o)] := hl
  unfold f_Sums_result at hf
  refine n_aload_n hC hl 0 d_Sums_result_0 rfl rfl ?_
  refine n_get hC hw fg_Sums_16 0 rfl rfl d_Sums_result_1 ?_
  refine n_iconst hC (-1) d_Sums_result_4 (by decide) ?_
  refine n_ixor hC hf d_Sums_result_5 (fun v2 hf => ?_)
  cases hf
  exact hret _ _ _ _ hw rfl d_Sums_result_6
def wd_Sums_over (g : GT) (t_o : Nat) (t_shifted_a : Nat) (q1_o : Nat) (q1_words_a : Nat) (q1_words_n : Nat) (t_bits : Int32) (t_shifted : Nat → Int32) (q1_length : Int32) (q1_words : Nat → Int64) : va_W := [(t_o, .inr (1, [.ref t_shifted_a, .int t_bits])), (t_shifted_a, .inl (g.2.1, 256, .inl t_shifted)), (q1_o, .inr (0, [.int q1_length, .ref q1_words_a])), (q1_words_a, .inl (g.2.2.1, q1_words_n, .inr (.inl q1_words)))]
def f_Sums_over_L7 (a3 : Int32) (a2 : Int32) (q1_length : Int32) (q1_words_n : Nat) (q1_words : Nat → Int64) (t_shifted : Nat → Int32) (k7 : Int32 → Int32 → Option (Int32 × Int32)) (x25 : Int32) (x26 : Int32) : Option (Int32 × Int32) :=
  if a3 ≤ x25 then bd_ (f_Sums_result x26) (fun u32 => some (u32, x26)) else lt_ (a2 + x25) (fun v33 => bd_ (f_Store_get v33 q1_length q1_words_n q1_words) (fun u34 => bd_ (f_Sums_add x26 u34 t_shifted) (fun u35 => lt_ (x25 + 1) (fun v36 => k7 v36 u35))))
def f_Sums_over (N : Nat) (a3 : Int32) (a2 : Int32) (q1_length : Int32) (q1_words_n : Nat) (q1_words : Nat → Int64) (t_shifted : Nat → Int32) : Option (Int32 × Int32) :=
  bd_ (f_Sums_begin ) (fun u19 => lp_ (fun _ _ => none) (f_Sums_over_L7 a3 a2 q1_length q1_words_n q1_words t_shifted) N 0 u19)
def rm_Sums_over : Room := { frames := 1, cells := 0, slots := 0, locals := 21 }
set_option maxHeartbeats 4000000 in
set_option maxRecDepth 100000 in
theorem c_Sums_over (l : Launch) (g : GT) (E : (Nat → Prop) → State → Prop) (hEe : Ee E) (t_o : Nat) (t_shifted_a : Nat) (q1_o : Nat) (q1_words_a : Nat) (q1_words_n : Nat) (t_bits : Int32) (t_shifted : Nat → Int32) (q1_length : Int32) (q1_words : Nat → Int64) (a2 : Int32) (a3 : Int32) (N : Nat) (z : Int32 × Int32) (hf : f_Sums_over N a3 a2 q1_length q1_words_n q1_words t_shifted = some z) : Cg l g E y_Sums_over ws_Sums_over rm_Sums_over [.ref t_o, .ref q1_o, .int a2, .int a3] (wd_Sums_over g t_o t_shifted_a q1_o q1_words_a q1_words_n t_bits t_shifted q1_length q1_words) (some (.int z.1)) (wd_Sums_over g t_o t_shifted_a q1_o q1_words_a q1_words_n z.2 t_shifted q1_length q1_words) := by
  refine Ct.ofI hEe good_W (by decide) rfl (Nat.le_of_ble_eq_true rfl) ?_
  intro p e s m args below meth c A ls Q hC hw hl hret
  have hC : CX p m c b_Sums_over 5 s args Wall R_Sums g.1 classes (tK g) E A := hC
  have hl : lv_has ls 5 [(0, .ref t_o), (1, .ref q1_o), (2, .int a2), (3, .int a3)] := hl
  unfold f_Sums_over at hf
  refine n_aload_n hC hl 0 d_Sums_over_0 rfl rfl ?_
  obtain ⟨u19, hu19, hf⟩ := bd_s hf
  refine n_callVv hC hw fc_Sums_20 (c_Sums_begin l g E hEe t_o t_shifted_a t_bits u19 hu19) [0] (wd_Sums_over g t_o t_shifted_a q1_o q1_words_a q1_words_n u19 t_shifted q1_length q1_words) 0 rfl ⟨rfl, rfl⟩ ⟨Nat.le_of_ble_eq_true rfl, Nat.le_of_ble_eq_true rfl⟩ rfl (At_.cons rfl At_.nil) (At_.cons rfl At_.nil) (Sm_.upd rfl (Sm_.keep (Sm_.keep (Sm_.keep Sm_.nil)))) rfl hl.1 (Nat.le_of_ble_eq_true rfl) ⟨Nat.zero_le _, Nat.zero_le _⟩ d_Sums_over_1 (fun H locs hw => ?_) rfl
  refine n_iconst hC 0 d_Sums_over_4 (by decide) ?_
  refine n_istore hC [(4, .int 0), (0, .ref t_o), (1, .ref q1_o), (2, .int a2), (3, .int a3)] hl d_Sums_over_5 (by decide) rfl (fun ls hl => ?_)
  have hL7 := lw2 (B := f_Sums_over_L7 a3 a2 q1_length q1_words_n q1_words t_shifted) (z := z) (fun (x25 : Int32) (x26 : Int32) => ∀ (H : Heap) (locs : List Loc) (ls : Array Slot), WS g.1 classes A s.heap H locs (wd_Sums_over g t_o t_shifted_a q1_o q1_words_a q1_words_n x26 t_shifted q1_length q1_words) → lv_has ls 5 [(4, .int x25), (0, .ref t_o), (1, .ref q1_o), (2, .int a2), (3, .int a3)] → W p l e rm_Sums_over s m args below meth c H locs 0 0 Q (F0 m 7 ls [])) (by
    intro k7 hk7 x25 x26 hf H locs ls hw hl
    unfold f_Sums_over_L7 at hf
    refine n_iload hC hl 0 d_Sums_over_7 rfl ?_
    refine n_iload_n hC hl 4 d_Sums_over_9 rfl rfl ?_
    refine n_icmp_ge hC hf 31 d_Sums_over_10 (by decide) (fun hf => ?_) (fun hf => ?_)
    · refine n_aload_n hC hl 1 d_Sums_over_31 rfl rfl ?_
      obtain ⟨u32, hu32, hf⟩ := bd_s hf
      refine n_callVi hC hw fc_Sums_33 (c_Sums_result l g E hEe t_o t_shifted_a x26 u32 hu32) [0] (wd_Sums_over g t_o t_shifted_a q1_o q1_words_a q1_words_n x26 t_shifted q1_length q1_words) 0 rfl ⟨rfl, rfl⟩ ⟨Nat.le_of_ble_eq_true rfl, Nat.le_of_ble_eq_true rfl⟩ rfl (At_.cons rfl At_.nil) (At_.cons rfl At_.nil) Sm_.refl rfl hl.1 (Nat.le_of_ble_eq_true rfl) ⟨Nat.zero_le _, Nat.zero_le _⟩ d_Sums_over_32 (fun H locs hw => ?_) rfl
      cases hf
      exact hret _ _ _ _ hw (show narrow .int (Value.int u32) = Value.int u32 from rfl) d_Sums_over_35
    · refine n_aload_n hC hl 1 d_Sums_over_13 rfl rfl ?_
      refine n_aload_n hC hl 2 d_Sums_over_14 rfl rfl ?_
      refine n_iload_n hC hl 3 d_Sums_over_15 rfl rfl ?_
      refine n_iload hC hl 0 d_Sums_over_16 rfl ?_
      refine n_iadd hC hf d_Sums_over_18 (fun v33 hf => ?_)
      obtain ⟨u34, hu34, hf⟩ := bd_s hf
      refine n_callVi hC hw fc_Sums_23 (c_Store_get l g E hEe q1_o q1_words_a q1_words_n q1_length q1_words v33 u34 hu34) [2, 3] (wd_Sums_over g t_o t_shifted_a q1_o q1_words_a q1_words_n x26 t_shifted q1_length q1_words) 2 rfl ⟨rfl, rfl⟩ ⟨Nat.le_of_ble_eq_true rfl, Nat.le_of_ble_eq_true rfl⟩ rfl (At_.cons rfl (At_.cons rfl At_.nil)) (At_.cons rfl (At_.cons rfl At_.nil)) Sm_.refl rfl hl.1 (Nat.le_of_ble_eq_true rfl) ⟨Nat.zero_le _, Nat.zero_le _⟩ d_Sums_over_19 (fun H locs hw => ?_) rfl
      obtain ⟨u35, hu35, hf⟩ := bd_s hf
      refine n_callVv hC hw fc_Sums_29 (c_Sums_add l g E hEe t_o t_shifted_a x26 t_shifted u34 u35 hu35) [0, 1] (wd_Sums_over g t_o t_shifted_a q1_o q1_words_a q1_words_n u35 t_shifted q1_length q1_words) 0 rfl ⟨rfl, rfl⟩ ⟨Nat.le_of_ble_eq_true rfl, Nat.le_of_ble_eq_true rfl⟩ rfl (At_.cons rfl (At_.cons rfl At_.nil)) (At_.cons rfl (At_.cons rfl At_.nil)) (Sm_.upd rfl (Sm_.keep (Sm_.keep (Sm_.keep Sm_.nil)))) rfl hl.1 (Nat.le_of_ble_eq_true rfl) ⟨Nat.zero_le _, Nat.zero_le _⟩ d_Sums_over_22 (fun H locs hw => ?_) rfl
      refine n_iinc hC (k := 0) hf (by decide) (fun v36 => [(4, .int v36), (0, .ref t_o), (1, .ref q1_o), (2, .int a2), (3, .int a3)]) hl d_Sums_over_25 rfl (by decide) (fun _ => rfl) (fun v36 ls hf hl => ?_)
      refine n_goto hC 7 d_Sums_over_28 (by decide) ?_
      exact hk7 _ _ hf _ _ _ hw (lv_sub hl [0, 1, 2, 3, 4] rfl)
    )
  exact hL7 N _ _ hf _ _ _ hw (lv_sub hl [0, 1, 2, 3, 4] rfl)
def wd_Sums_overHeader (g : GT) (t_o : Nat) (t_shifted_a : Nat) (q1_o : Nat) (q1_words_a : Nat) (q1_words_n : Nat) (t_bits : Int32) (t_shifted : Nat → Int32) (q1_length : Int32) (q1_words : Nat → Int64) : va_W := [(t_o, .inr (1, [.ref t_shifted_a, .int t_bits])), (t_shifted_a, .inl (g.2.1, 256, .inl t_shifted)), (q1_o, .inr (0, [.int q1_length, .ref q1_words_a])), (q1_words_a, .inl (g.2.2.1, q1_words_n, .inr (.inl q1_words)))]
def f_Sums_overHeader_L6 (t_shifted : Nat → Int32) (a2 : Int32) (q1_length : Int32) (q1_words_n : Nat) (q1_words : Nat → Int64) (k6 : Int32 → Int32 → Option (Int32 × Int32)) (x81 : Int32) (x82 : Int32) : Option (Int32 × Int32) :=
  if (92 : Int32) ≤ x81 then bd_ (f_Sums_result x82) (fun u102 => some (u102, x82)) else lt_ (fun (x103 : Int32) => lt_ (fun (x106 : Int32) => bd_ (f_Sums_add x82 x106 t_shifted) (fun u107 => lt_ (x81 + 1) (fun v108 => k6 v108 u107))) (fun (j48 : Int32 → Option (Int32 × Int32)) => if x103 = 0 then lt_ (a2 + x81) (fun v109 => bd_ (f_Store_get v109 q1_length q1_words_n q1_words) (fun u110 => j48 u110)) else j48 0)) (fun (j29 : Int32 → Option (Int32 × Int32)) => lt_ (j29 0) (fun (j28 : Option (Int32 × Int32)) => if x81 < (16 : Int32) then j28 else if (20 : Int32) ≤ x81 then j28 else j29 1))
def f_Sums_overHeader (N : Nat) (t_shifted : Nat → Int32) (a2 : Int32) (q1_length : Int32) (q1_words_n : Nat) (q1_words : Nat → Int64) : Option (Int32 × Int32) :=
  bd_ (f_Sums_begin ) (fun u61 => lp_ (fun _ _ => none) (f_Sums_overHeader_L6 t_shifted a2 q1_length q1_words_n q1_words) N 0 u61)
def rm_Sums_overHeader : Room := { frames := 1, cells := 0, slots := 0, locals := 21 }
set_option maxHeartbeats 4000000 in
set_option maxRecDepth 100000 in
theorem c_Sums_overHeader (l : Launch) (g : GT) (E : (Nat → Prop) → State → Prop) (hEe : Ee E) (t_o : Nat) (t_shifted_a : Nat) (q1_o : Nat) (q1_words_a : Nat) (q1_words_n : Nat) (t_bits : Int32) (t_shifted : Nat → Int32) (q1_length : Int32) (q1_words : Nat → Int64) (a2 : Int32) (N : Nat) (z : Int32 × Int32) (hf : f_Sums_overHeader N t_shifted a2 q1_length q1_words_n q1_words = some z) : Cg l g E y_Sums_overHeader ws_Sums_overHeader rm_Sums_overHeader [.ref t_o, .ref q1_o, .int a2] (wd_Sums_overHeader g t_o t_shifted_a q1_o q1_words_a q1_words_n t_bits t_shifted q1_length q1_words) (some (.int z.1)) (wd_Sums_overHeader g t_o t_shifted_a q1_o q1_words_a q1_words_n z.2 t_shifted q1_length q1_words) := by
  refine Ct.ofI hEe good_W (by decide) rfl (Nat.le_of_ble_eq_true rfl) ?_
  intro p e s m args below meth c A ls Q hC hw hl hret
  have hC : CX p m c b_Sums_overHeader 5 s args Wall R_Sums g.1 classes (tK g) E A := hC
  have hl : lv_has ls 5 [(0, .ref t_o), (1, .ref q1_o), (2, .int a2)] := hl
  unfold f_Sums_overHeader at hf
  refine n_aload_n hC hl 0 d_Sums_overHeader_0 rfl rfl ?_
  obtain ⟨u61, hu61, hf⟩ := bd_s hf
  refine n_callVv hC hw fc_Sums_20 (c_Sums_begin l g E hEe t_o t_shifted_a t_bits u61 hu61) [0] (wd_Sums_overHeader g t_o t_shifted_a q1_o q1_words_a q1_words_n u61 t_shifted q1_length q1_words) 0 rfl ⟨rfl, rfl⟩ ⟨Nat.le_of_ble_eq_true rfl, Nat.le_of_ble_eq_true rfl⟩ rfl (At_.cons rfl At_.nil) (At_.cons rfl At_.nil) (Sm_.upd rfl (Sm_.keep (Sm_.keep (Sm_.keep Sm_.nil)))) rfl hl.1 (Nat.le_of_ble_eq_true rfl) ⟨Nat.zero_le _, Nat.zero_le _⟩ d_Sums_overHeader_1 (fun H locs hw => ?_) rfl
  refine n_iconst hC 0 d_Sums_overHeader_4 (by decide) ?_
  refine n_istore_n hC [(3, .int 0), (0, .ref t_o), (1, .ref q1_o), (2, .int a2)] hl d_Sums_overHeader_5 rfl (by decide) rfl (fun ls hl => ?_)
  have hL6 := lw2 (B := f_Sums_overHeader_L6 t_shifted a2 q1_length q1_words_n q1_words) (z := z) (fun (x81 : Int32) (x82 : Int32) => ∀ (H : Heap) (locs : List Loc) (ls : Array Slot), WS g.1 classes A s.heap H locs (wd_Sums_overHeader g t_o t_shifted_a q1_o q1_words_a q1_words_n x82 t_shifted q1_length q1_words) → lv_has ls 5 [(3, .int x81), (0, .ref t_o), (1, .ref q1_o), (2, .int a2)] → W p l e rm_Sums_overHeader s m args below meth c H locs 0 0 Q (F0 m 6 ls [])) (by
    intro k6 hk6 x81 x82 hf H locs ls hw hl
    unfold f_Sums_overHeader_L6 at hf
    refine n_iload_n hC hl 0 d_Sums_overHeader_6 rfl rfl ?_
    refine n_bipush hC 92 d_Sums_overHeader_7 (by decide) ?_
    refine n_icmp_ge hC hf 57 d_Sums_overHeader_9 (by decide) (fun hf => ?_) (fun hf => ?_)
    · refine n_aload_n hC hl 1 d_Sums_overHeader_57 rfl rfl ?_
      obtain ⟨u102, hu102, hf⟩ := bd_s hf
      refine n_callVi hC hw fc_Sums_33 (c_Sums_result l g E hEe t_o t_shifted_a x82 u102 hu102) [0] (wd_Sums_overHeader g t_o t_shifted_a q1_o q1_words_a q1_words_n x82 t_shifted q1_length q1_words) 0 rfl ⟨rfl, rfl⟩ ⟨Nat.le_of_ble_eq_true rfl, Nat.le_of_ble_eq_true rfl⟩ rfl (At_.cons rfl At_.nil) (At_.cons rfl At_.nil) Sm_.refl rfl hl.1 (Nat.le_of_ble_eq_true rfl) ⟨Nat.zero_le _, Nat.zero_le _⟩ d_Sums_overHeader_58 (fun H locs hw => ?_) rfl
      cases hf
      exact hret _ _ _ _ hw (show narrow .int (Value.int u102) = Value.int u102 from rfl) d_Sums_overHeader_61
    · refine n_iload_n hC hl 0 d_Sums_overHeader_12 rfl rfl ?_
      refine n_bipush hC 16 d_Sums_overHeader_13 (by decide) ?_
      refine jn1 (fun (x103 : Int32) => ∀ (H : Heap) (locs : List Loc) (ls : Array Slot), WS g.1 classes A s.heap H locs (wd_Sums_overHeader g t_o t_shifted_a q1_o q1_words_a q1_words_n x82 t_shifted q1_length q1_words) → lv_has ls 5 [(3, .int x81), (0, .ref t_o), (1, .ref q1_o), (2, .int a2)] → W p l e rm_Sums_overHeader s m args below meth c H locs 0 0 Q (F0 m 29 ls [.int x103])) hf (fun x103 hf H locs ls hw hl => ?_) (fun j29 hj29 hf => ?_)
      · refine n_istore hC [(4, .int x103), (3, .int x81), (0, .ref t_o), (1, .ref q1_o), (2, .int a2)] hl d_Sums_overHeader_29 (by decide) rfl (fun ls hl => ?_)
        refine n_aload_n hC hl 2 d_Sums_overHeader_31 rfl rfl ?_
        refine n_iload hC hl 0 d_Sums_overHeader_32 rfl ?_
        refine jn1 (fun (x106 : Int32) => ∀ (H : Heap) (locs : List Loc) (ls : Array Slot), WS g.1 classes A s.heap H locs (wd_Sums_overHeader g t_o t_shifted_a q1_o q1_words_a q1_words_n x82 t_shifted q1_length q1_words) → lv_has ls 5 [(3, .int x81), (0, .ref t_o), (1, .ref q1_o), (2, .int a2)] → W p l e rm_Sums_overHeader s m args below meth c H locs 0 0 Q (F0 m 48 ls [.int x106, .ref t_o])) hf (fun x106 hf H locs ls hw hl => ?_) (fun j48 hj48 hf => ?_)
        · obtain ⟨u107, hu107, hf⟩ := bd_s hf
          refine n_callVv hC hw fc_Sums_29 (c_Sums_add l g E hEe t_o t_shifted_a x82 t_shifted x106 u107 hu107) [0, 1] (wd_Sums_overHeader g t_o t_shifted_a q1_o q1_words_a q1_words_n u107 t_shifted q1_length q1_words) 0 rfl ⟨rfl, rfl⟩ ⟨Nat.le_of_ble_eq_true rfl, Nat.le_of_ble_eq_true rfl⟩ rfl (At_.cons rfl (At_.cons rfl At_.nil)) (At_.cons rfl (At_.cons rfl At_.nil)) (Sm_.upd rfl (Sm_.keep (Sm_.keep (Sm_.keep Sm_.nil)))) rfl hl.1 (Nat.le_of_ble_eq_true rfl) ⟨Nat.zero_le _, Nat.zero_le _⟩ d_Sums_overHeader_48 (fun H locs hw => ?_) rfl
          refine n_iinc hC (k := 0) hf (by decide) (fun v108 => [(3, .int v108), (0, .ref t_o), (1, .ref q1_o), (2, .int a2)]) hl d_Sums_overHeader_51 rfl (by decide) (fun _ => rfl) (fun v108 ls hf hl => ?_)
          refine n_goto hC 6 d_Sums_overHeader_54 (by decide) ?_
          exact hk6 _ _ hf _ _ _ hw (lv_sub hl [0, 1, 2, 3] rfl)
        refine n_if_eq hC hf 41 d_Sums_overHeader_34 (by decide) (fun hf => ?_) (fun hf => ?_)
        · refine n_aload_n hC hl 3 d_Sums_overHeader_41 rfl rfl ?_
          refine n_iload_n hC hl 4 d_Sums_overHeader_42 rfl rfl ?_
          refine n_iload_n hC hl 1 d_Sums_overHeader_43 rfl rfl ?_
          refine n_iadd hC hf d_Sums_overHeader_44 (fun v109 hf => ?_)
          obtain ⟨u110, hu110, hf⟩ := bd_s hf
          refine n_callVi hC hw fc_Sums_23 (c_Store_get l g E hEe q1_o q1_words_a q1_words_n q1_length q1_words v109 u110 hu110) [2, 3] (wd_Sums_overHeader g t_o t_shifted_a q1_o q1_words_a q1_words_n x82 t_shifted q1_length q1_words) 2 rfl ⟨rfl, rfl⟩ ⟨Nat.le_of_ble_eq_true rfl, Nat.le_of_ble_eq_true rfl⟩ rfl (At_.cons rfl (At_.cons rfl At_.nil)) (At_.cons rfl (At_.cons rfl At_.nil)) Sm_.refl rfl hl.1 (Nat.le_of_ble_eq_true rfl) ⟨Nat.zero_le _, Nat.zero_le _⟩ d_Sums_overHeader_45 (fun H locs hw => ?_) rfl
          exact hj48 _ hf _ _ _ hw (lv_sub hl [1, 2, 3, 4] rfl)
        · refine n_iconst hC 0 d_Sums_overHeader_37 (by decide) ?_
          refine n_goto hC 48 d_Sums_overHeader_38 (by decide) ?_
          exact hj48 _ hf _ _ _ hw (lv_sub hl [1, 2, 3, 4] rfl)
      refine jn0 (∀ (H : Heap) (locs : List Loc) (ls : Array Slot), WS g.1 classes A s.heap H locs (wd_Sums_overHeader g t_o t_shifted_a q1_o q1_words_a q1_words_n x82 t_shifted q1_length q1_words) → lv_has ls 5 [(3, .int x81), (0, .ref t_o), (1, .ref q1_o), (2, .int a2)] → W p l e rm_Sums_overHeader s m args below meth c H locs 0 0 Q (F0 m 28 ls [])) hf (fun hf H locs ls hw hl => ?_) (fun j28 hj28 hf => ?_)
      · refine n_iconst hC 0 d_Sums_overHeader_28 (by decide) ?_
        exact hj29 _ hf _ _ _ hw (lv_sub hl [0, 1, 2, 3] rfl)
      refine n_icmp_lt hC hf 28 d_Sums_overHeader_15 (by decide) (fun hf => ?_) (fun hf => ?_)
      · exact hj28 hf _ _ _ hw (lv_sub hl [0, 1, 2, 3] rfl)
      · refine n_iload_n hC hl 0 d_Sums_overHeader_18 rfl rfl ?_
        refine n_bipush hC 20 d_Sums_overHeader_19 (by decide) ?_
        refine n_icmp_ge hC hf 28 d_Sums_overHeader_21 (by decide) (fun hf => ?_) (fun hf => ?_)
        · exact hj28 hf _ _ _ hw (lv_sub hl [0, 1, 2, 3] rfl)
        · refine n_iconst hC 1 d_Sums_overHeader_24 (by decide) ?_
          refine n_goto hC 29 d_Sums_overHeader_25 (by decide) ?_
          exact hj29 _ hf _ _ _ hw (lv_sub hl [0, 1, 2, 3] rfl)
    )
  exact hL6 N _ _ hf _ _ _ hw (lv_sub hl [0, 1, 2, 3] rfl)
