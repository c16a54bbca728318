def wd_Store_has (g : GT) (t_o : Nat) (t_words_a : Nat) (t_length : Int32) : va_W := [(t_o, .inr (0, [.int t_length, .ref t_words_a]))]
def f_Store_has (a1 : Int32) (t_length : Int32) : Option (Int32) :=
  if a1 < 0 then some (0) else if t_length ≤ a1 then some (0) else some (1)
def rm_Store_has : Room := { frames := 0, cells := 0, slots := 0, locals := 0 }
set_option maxHeartbeats 4000000 in
set_option maxRecDepth 100000 in
theorem c_Store_has (l : Launch) (g : GT) (E : (Nat → Prop) → State → Prop) (hEe : Ee E) (t_o : Nat) (t_words_a : Nat) (t_length : Int32) (a1 : Int32) (z : Int32) (hf : f_Store_has a1 t_length = some z) : Cg l g E y_Store_has ws_Store_has rm_Store_has [.ref t_o, .int a1] (wd_Store_has g t_o t_words_a t_length) (some (.int z)) (wd_Store_has g t_o t_words_a t_length) := by
  refine Ct.ofI hEe good_W (by decide) rfl (Nat.le_of_ble_eq_true rfl) ?_
  intro p e s m args below meth c A ls Q hC hw hl hret
  have hC : CX p m c b_Store_has 2 s args Wall R_Store g.1 classes (tK g) E A := hC
  have hl : lv_has ls 2 [(0, .ref t_o), (1, .int a1)] := hl
  unfold f_Store_has at hf
  refine n_iload_n hC hl 1 d_Store_has_0 rfl rfl ?_
  refine n_if_lt hC hf 16 d_Store_has_1 (by decide) (fun hf => ?_) (fun hf => ?_)
  · refine n_iconst hC 0 d_Store_has_16 (by decide) ?_
    cases hf
    exact hret _ _ _ _ hw rfl d_Store_has_17
  · refine n_iload_n hC hl 1 d_Store_has_4 rfl rfl ?_
    refine n_aload_n hC hl 0 d_Store_has_5 rfl rfl ?_
    refine n_get hC hw fg_Store_9 0 rfl rfl d_Store_has_6 ?_
    refine n_icmp_ge hC hf 16 d_Store_has_9 (by decide) (fun hf => ?_) (fun hf => ?_)
    · refine n_iconst hC 0 d_Store_has_16 (by decide) ?_
      cases hf
      exact hret _ _ _ _ hw rfl d_Store_has_17
    · refine n_iconst hC 1 d_Store_has_12 (by decide) ?_
      refine n_goto hC 17 d_Store_has_13 (by decide) ?_
      cases hf
      exact hret _ _ _ _ hw rfl d_Store_has_17
def wd_Store_get (g : GT) (t_o : Nat) (t_words_a : Nat) (t_words_n : Nat) (t_length : Int32) (t_words : Nat → Int64) : va_W := [(t_o, .inr (0, [.int t_length, .ref t_words_a])), (t_words_a, .inl (g.2.2.1, t_words_n, .inr (.inl t_words)))]
def f_Store_get (a1 : Int32) (t_length : Int32) (t_words_n : Nat) (t_words : Nat → Int64) : Option (Int32) :=
  if a1 < 0 then some (0) else if t_length ≤ a1 then some (0) else lt_ (a1 >>> ((3 : Int32) &&& 31)) (fun v8 => ix_ t_words_n t_words v8 (fun (v9 : Int64) => lt_ (a1 &&& 7) (fun v10 => lt_ (v10 <<< ((3 : Int32) &&& 31)) (fun v11 => lt_ ((v9.toUInt64 >>> (v11.toInt64.toUInt64 &&& Int64.toUInt64 63)).toInt64) (fun v12 => lt_ (v12.toInt32) (fun v13 => lt_ (v13 &&& 255) (fun v14 => some (v14))))))))
def rm_Store_get : Room := { frames := 0, cells := 0, slots := 0, locals := 0 }
set_option maxHeartbeats 4000000 in
set_option maxRecDepth 100000 in
theorem c_Store_get (l : Launch) (g : GT) (E : (Nat → Prop) → State → Prop) (hEe : Ee E) (t_o : Nat) (t_words_a : Nat) (t_words_n : Nat) (t_length : Int32) (t_words : Nat → Int64) (a1 : Int32) (z : Int32) (hf : f_Store_get a1 t_length t_words_n t_words = some z) : Cg l g E y_Store_get ws_Store_get rm_Store_get [.ref t_o, .int a1] (wd_Store_get g t_o t_words_a t_words_n t_length t_words) (some (.int z)) (wd_Store_get g t_o t_words_a t_words_n t_length t_words) := by
  refine Ct.ofI hEe good_W (by decide) rfl (Nat.le_of_ble_eq_true rfl) ?_
  intro p e s m args below meth c A ls Q hC hw hl hret
  have hC : CX p m c b_Store_get 2 s args Wall R_Store g.1 classes (tK g) E A := hC
  have hl : lv_has ls 2 [(0, .ref t_o), (1, .int a1)] := hl
  unfold f_Store_get at hf
  refine n_iload_n hC hl 1 d_Store_get_0 rfl rfl ?_
  refine n_if_lt hC hf 35 d_Store_get_1 (by decide) (fun hf => ?_) (fun hf => ?_)
  · refine n_iconst hC 0 d_Store_get_35 (by decide) ?_
    cases hf
    exact hret _ _ _ _ hw rfl d_Store_get_36
  · refine n_iload_n hC hl 1 d_Store_get_4 rfl rfl ?_
    refine n_aload_n hC hl 0 d_Store_get_5 rfl rfl ?_
    refine n_get hC hw fg_Store_9 0 rfl rfl d_Store_get_6 ?_
    refine n_icmp_ge hC hf 35 d_Store_get_9 (by decide) (fun hf => ?_) (fun hf => ?_)
    · refine n_iconst hC 0 d_Store_get_35 (by decide) ?_
      cases hf
      exact hret _ _ _ _ hw rfl d_Store_get_36
    · refine n_aload_n hC hl 0 d_Store_get_12 rfl rfl ?_
      refine n_get hC hw fg_Store_15 0 rfl rfl d_Store_get_13 ?_
      refine n_iload_n hC hl 1 d_Store_get_16 rfl rfl ?_
      refine n_iconst hC 3 d_Store_get_17 (by decide) ?_
      refine n_ishr hC hf d_Store_get_18 (fun v8 hf => ?_)
      refine n_lald hC hw hf 1 1 rfl rfl d_Store_get_19 (fun v9 hf => ?_)
      refine n_iload_n hC hl 1 d_Store_get_20 rfl rfl ?_
      refine n_bipush hC 7 d_Store_get_21 (by decide) ?_
      refine n_iand hC hf d_Store_get_23 (fun v10 hf => ?_)
      refine n_iconst hC 3 d_Store_get_24 (by decide) ?_
      refine n_ishl hC hf d_Store_get_25 (fun v11 hf => ?_)
      refine n_lushr hC hf d_Store_get_26 (fun v12 hf => ?_)
      refine n_l2i hC hf d_Store_get_27 (fun v13 hf => ?_)
      refine n_sipush hC 255 d_Store_get_28 (by decide) ?_
      refine n_iand hC hf d_Store_get_31 (fun v14 hf => ?_)
      refine n_goto hC 36 d_Store_get_32 (by decide) ?_
      cases hf
      exact hret _ _ _ _ hw rfl d_Store_get_36
def wd_Store_put (g : GT) (t_o : Nat) (t_words_a : Nat) (t_words_n : Nat) (t_length : Int32) (t_words : Nat → Int64) : va_W := [(t_o, .inr (0, [.int t_length, .ref t_words_a])), (t_words_a, .inl (g.2.2.1, t_words_n, .inr (.inl t_words)))]
def f_Store_put (a1 : Int32) (t_words : Nat → Int64) (t_length : Int32) (t_words_n : Nat) (a2 : Int32) : Option ((Nat → Int64)) :=
  if a1 < 0 then some (t_words) else if t_length ≤ a1 then some (t_words) else lt_ (a1 &&& 7) (fun v14 => lt_ (v14 <<< ((3 : Int32) &&& 31)) (fun v15 => lt_ (a1 >>> ((3 : Int32) &&& 31)) (fun v16 => lt_ (a1 >>> ((3 : Int32) &&& 31)) (fun v17 => ix_ t_words_n t_words v17 (fun (v18 : Int64) => lt_ ((255 : Int64) <<< (v15.toInt64 &&& 63)) (fun v19 => lt_ (v19 ^^^ (-1)) (fun v20 => lt_ (v18 &&& v20) (fun v21 => lt_ (a2.toInt64) (fun v22 => lt_ (v22 &&& 255) (fun v23 => lt_ (v23 <<< (v15.toInt64 &&& 63)) (fun v24 => lt_ (v21 ||| v24) (fun v25 => up_l t_words_n t_words v16 v25 (fun (f26 : Nat → Int64) => some (f26))))))))))))))
def rm_Store_put : Room := { frames := 0, cells := 0, slots := 0, locals := 0 }
set_option maxHeartbeats 4000000 in
set_option maxRecDepth 100000 in
theorem c_Store_put (l : Launch) (g : GT) (E : (Nat → Prop) → State → Prop) (hEe : Ee E) (t_o : Nat) (t_words_a : Nat) (t_words_n : Nat) (t_length : Int32) (t_words : Nat → Int64) (a1 : Int32) (a2 : Int32) (z : (Nat → Int64)) (hf : f_Store_put a1 t_words t_length t_words_n a2 = some z) : Cg l g E y_Store_put ws_Store_put rm_Store_put [.ref t_o, .int a1, .int a2] (wd_Store_put g t_o t_words_a t_words_n t_length t_words) none (wd_Store_put g t_o t_words_a t_words_n t_length z) := by
  refine Ct.ofV hEe good_W (by decide) rfl (Nat.le_of_ble_eq_true rfl) ?_
  intro p e s m args below meth c A ls Q hC hw hl hret
  have hC : CX p m c b_Store_put 4 s args Wall R_Store g.1 classes (tK g) E A := hC
  have hl : lv_has ls 4 [(0, .ref t_o), (1, .int a1), (2, .int a2)] := hl
  unfold f_Store_put at hf
  refine n_iload_n hC hl 1 d_Store_put_0 rfl rfl ?_
  refine n_if_lt hC hf 54 d_Store_put_1 (by decide) (fun hf => ?_) (fun hf => ?_)
  · cases hf
    exact hret _ _ _ _ hw d_Store_put_54
  · refine n_iload_n hC hl 1 d_Store_put_4 rfl rfl ?_
    refine n_aload_n hC hl 0 d_Store_put_5 rfl rfl ?_
    refine n_get hC hw fg_Store_9 0 rfl rfl d_Store_put_6 ?_
    refine n_icmp_ge hC hf 54 d_Store_put_9 (by decide) (fun hf => ?_) (fun hf => ?_)
    · cases hf
      exact hret _ _ _ _ hw d_Store_put_54
    · refine n_iload_n hC hl 1 d_Store_put_12 rfl rfl ?_
      refine n_bipush hC 7 d_Store_put_13 (by decide) ?_
      refine n_iand hC hf d_Store_put_15 (fun v14 hf => ?_)
      refine n_iconst hC 3 d_Store_put_16 (by decide) ?_
      refine n_ishl hC hf d_Store_put_17 (fun v15 hf => ?_)
      refine n_istore_n hC [(3, .int v15), (0, .ref t_o), (1, .int a1), (2, .int a2)] hl d_Store_put_18 rfl (by decide) rfl (fun ls hl => ?_)
      refine n_aload_n hC hl 1 d_Store_put_19 rfl rfl ?_
      refine n_get hC hw fg_Store_15 0 rfl rfl d_Store_put_20 ?_
      refine n_iload_n hC hl 2 d_Store_put_23 rfl rfl ?_
      refine n_iconst hC 3 d_Store_put_24 (by decide) ?_
      refine n_ishr hC hf d_Store_put_25 (fun v16 hf => ?_)
      refine n_aload_n hC hl 1 d_Store_put_26 rfl rfl ?_
      refine n_get hC hw fg_Store_15 0 rfl rfl d_Store_put_27 ?_
      refine n_iload_n hC hl 2 d_Store_put_30 rfl rfl ?_
      refine n_iconst hC 3 d_Store_put_31 (by decide) ?_
      refine n_ishr hC hf d_Store_put_32 (fun v17 hf => ?_)
      refine n_lald hC hw hf 1 1 rfl rfl d_Store_put_33 (fun v18 hf => ?_)
      refine n_ldc2 hC 255 kc_Store_19 d_Store_put_34 ?_
      refine n_iload_n hC hl 0 d_Store_put_37 rfl rfl ?_
      refine n_lshl hC hf d_Store_put_38 (fun v19 hf => ?_)
      refine n_ldc2 hC (-1) kc_Store_21 d_Store_put_39 ?_
      refine n_lxor hC hf d_Store_put_42 (fun v20 hf => ?_)
      refine n_land hC hf d_Store_put_43 (fun v21 hf => ?_)
      refine n_iload_n hC hl 3 d_Store_put_44 rfl rfl ?_
      refine n_i2l hC hf d_Store_put_45 (fun v22 hf => ?_)
      refine n_ldc2 hC 255 kc_Store_19 d_Store_put_46 ?_
      refine n_land hC hf d_Store_put_49 (fun v23 hf => ?_)
      refine n_iload_n hC hl 0 d_Store_put_50 rfl rfl ?_
      refine n_lshl hC hf d_Store_put_51 (fun v24 hf => ?_)
      refine n_lor hC hf d_Store_put_52 (fun v25 hf => ?_)
      refine n_last hC hw hf 1 1 (fun f26 => wd_Store_put g t_o t_words_a t_words_n t_length f26) rfl rfl d_Store_put_53 (fun _ => rfl) (fun f26 H locs hf hw => ?_)
      cases hf
      exact hret _ _ _ _ hw d_Store_put_54
def wd_Store_getLow (g : GT) (t_o : Nat) (t_words_a : Nat) (t_words_n : Nat) (t_length : Int32) (t_words : Nat → Int64) : va_W := [(t_o, .inr (0, [.int t_length, .ref t_words_a])), (t_words_a, .inl (g.2.2.1, t_words_n, .inr (.inl t_words)))]
def f_Store_getLow_L7 (a1 : Int32) (t_length : Int32) (t_words_n : Nat) (t_words : Nat → Int64) (k7 : Int32 → Int64 → Option (Int64)) (x29 : Int32) (x30 : Int64) : Option (Int64) :=
  if x29 < 0 then some (x30) else lt_ (x30 <<< ((8 : Int32).toInt64 &&& 63)) (fun v37 => lt_ (a1 + x29) (fun v38 => bd_ (f_Store_get v38 t_length t_words_n t_words) (fun u39 => lt_ (u39.toInt64) (fun v40 => lt_ (v37 ||| v40) (fun v41 => lt_ (x29 + (-1)) (fun v42 => k7 v42 v41))))))
def f_Store_getLow (N : Nat) (a2 : Int32) (a1 : Int32) (t_length : Int32) (t_words_n : Nat) (t_words : Nat → Int64) : Option (Int64) :=
  lt_ (a2 - 1) (fun v22 => lp_ (fun _ _ => none) (f_Store_getLow_L7 a1 t_length t_words_n t_words) N v22 0)
def rm_Store_getLow : Room := { frames := 1, cells := 0, slots := 0, locals := 21 }
set_option maxHeartbeats 4000000 in
set_option maxRecDepth 100000 in
theorem c_Store_getLow (l : Launch) (g : GT) (E : (Nat → Prop) → State → Prop) (hEe : Ee E) (t_o : Nat) (t_words_a : Nat) (t_words_n : Nat) (t_length : Int32) (t_words : Nat → Int64) (a1 : Int32) (a2 : Int32) (N : Nat) (z : Int64) (hf : f_Store_getLow N a2 a1 t_length t_words_n t_words = some z) : Cg l g E y_Store_getLow ws_Store_getLow rm_Store_getLow [.ref t_o, .int a1, .int a2] (wd_Store_getLow g t_o t_words_a t_words_n t_length t_words) (some (.long z)) (wd_Store_getLow g t_o t_words_a t_words_n t_length t_words) := by
  refine Ct.ofL hEe good_W (by decide) rfl (Nat.le_of_ble_eq_true rfl) ?_
  intro p e s m args below meth c A ls Q hC hw hl hret
  have hC : CX p m c b_Store_getLow 6 s args Wall R_Store g.1 classes (tK g) E A := hC
  have hl : lv_has ls 6 [(0, .ref t_o), (1, .int a1), (2, .int a2)] := hl
  unfold f_Store_getLow at hf
  refine n_lconst hC 0 d_Store_getLow_0 (by decide) ?_
  refine n_lstore_n hC [(3, .long 0), (0, .ref t_o), (1, .int a1), (2, .int a2)] hl d_Store_getLow_1 rfl (by decide) rfl (fun ls hl => ?_)
  refine n_iload_n hC hl 3 d_Store_getLow_2 rfl rfl ?_
  refine n_iconst hC 1 d_Store_getLow_3 (by decide) ?_
  refine n_isub hC hf d_Store_getLow_4 (fun v22 hf => ?_)
  refine n_istore hC [(5, .int v22), (3, .long 0), (0, .ref t_o), (1, .int a1), (2, .int a2)] hl d_Store_getLow_5 (by decide) rfl (fun ls hl => ?_)
  have hL7 := lw2 (B := f_Store_getLow_L7 a1 t_length t_words_n t_words) (z := z) (fun (x29 : Int32) (x30 : Int64) => ∀ (H : Heap) (locs : List Loc) (ls : Array Slot), WS g.1 classes A s.heap H locs (wd_Store_getLow g t_o t_words_a t_words_n t_length t_words) → lv_has ls 6 [(5, .int x29), (3, .long x30), (0, .ref t_o), (1, .int a1)] → W p l e rm_Store_getLow s m args below meth c H locs 0 0 Q (F0 m 7 ls [])) (by
    intro k7 hk7 x29 x30 hf H locs ls hw hl
    unfold f_Store_getLow_L7 at hf
    refine n_iload hC hl 0 d_Store_getLow_7 rfl ?_
    refine n_if_lt hC hf 33 d_Store_getLow_9 (by decide) (fun hf => ?_) (fun hf => ?_)
    · refine n_lload_n hC hl 1 d_Store_getLow_33 rfl rfl ?_
      cases hf
      exact hret _ _ _ _ hw d_Store_getLow_34
    · refine n_lload_n hC hl 1 d_Store_getLow_12 rfl rfl ?_
      refine n_bipush hC 8 d_Store_getLow_13 (by decide) ?_
      refine n_lshl hC hf d_Store_getLow_15 (fun v37 hf => ?_)
      refine n_aload_n hC hl 2 d_Store_getLow_16 rfl rfl ?_
      refine n_iload_n hC hl 3 d_Store_getLow_17 rfl rfl ?_
      refine n_iload hC hl 0 d_Store_getLow_18 rfl ?_
      refine n_iadd hC hf d_Store_getLow_20 (fun v38 hf => ?_)
      obtain ⟨u39, hu39, hf⟩ := bd_s hf
      refine n_callVi hC hw fc_Store_29 (c_Store_get l g E hEe t_o t_words_a t_words_n t_length t_words v38 u39 hu39) [0, 1] (wd_Store_getLow g t_o t_words_a t_words_n t_length t_words) 0 rfl ⟨rfl, rfl⟩ ⟨Nat.le_of_ble_eq_true rfl, Nat.le_of_ble_eq_true rfl⟩ rfl (At_.cons rfl (At_.cons rfl At_.nil)) (At_.cons rfl (At_.cons rfl At_.nil)) Sm_.refl rfl hl.1 (Nat.le_of_ble_eq_true rfl) ⟨Nat.zero_le _, Nat.zero_le _⟩ d_Store_getLow_21 (fun H locs hw => ?_) rfl
      refine n_i2l hC hf d_Store_getLow_24 (fun v40 hf => ?_)
      refine n_lor hC hf d_Store_getLow_25 (fun v41 hf => ?_)
      refine n_lstore_n hC [(3, .long v41), (5, .int x29), (0, .ref t_o), (1, .int a1)] hl d_Store_getLow_26 rfl (by decide) rfl (fun ls hl => ?_)
      refine n_iinc hC (k := 1) hf (by decide) (fun v42 => [(5, .int v42), (3, .long v41), (0, .ref t_o), (1, .int a1)]) hl d_Store_getLow_27 rfl (by decide) (fun _ => rfl) (fun v42 ls hf hl => ?_)
      refine n_goto hC 7 d_Store_getLow_30 (by decide) ?_
      exact hk7 _ _ hf _ _ _ hw (lv_sub hl [0, 1, 2, 3] rfl)
    )
  exact hL7 N _ _ hf _ _ _ hw (lv_sub hl [0, 1, 2, 3] rfl)
def wd_Store_putLow (g : GT) (t_o : Nat) (t_words_a : Nat) (t_words_n : Nat) (t_length : Int32) (t_words : Nat → Int64) : va_W := [(t_o, .inr (0, [.int t_length, .ref t_words_a])), (t_words_a, .inl (g.2.2.1, t_words_n, .inr (.inl t_words)))]
def f_Store_putLow_L3 (a2 : Int32) (a1 : Int32) (a3 : Int64) (t_length : Int32) (t_words_n : Nat) (k3 : Int32 → (Nat → Int64) → Option ((Nat → Int64))) (x27 : Int32) (x28 : Nat → Int64) : Option ((Nat → Int64)) :=
  if a2 ≤ x27 then some (x28) else lt_ (a1 + x27) (fun v35 => lt_ ((8 : Int32) * x27) (fun v36 => lt_ ((a3.toUInt64 >>> (v36.toInt64.toUInt64 &&& Int64.toUInt64 63)).toInt64) (fun v37 => lt_ (v37.toInt32) (fun v38 => bd_ (f_Store_put v35 x28 t_length t_words_n v38) (fun u39 => lt_ (x27 + 1) (fun v40 => k3 v40 u39))))))
def f_Store_putLow (N : Nat) (a2 : Int32) (a1 : Int32) (a3 : Int64) (t_length : Int32) (t_words_n : Nat) (t_words : Nat → Int64) : Option ((Nat → Int64)) :=
  lp_ (fun _ _ => none) (f_Store_putLow_L3 a2 a1 a3 t_length t_words_n) N 0 t_words
def rm_Store_putLow : Room := { frames := 1, cells := 0, slots := 0, locals := 23 }
set_option maxHeartbeats 4000000 in
set_option maxRecDepth 100000 in
theorem c_Store_putLow (l : Launch) (g : GT) (E : (Nat → Prop) → State → Prop) (hEe : Ee E) (t_o : Nat) (t_words_a : Nat) (t_words_n : Nat) (t_length : Int32) (t_words : Nat → Int64) (a1 : Int32) (a2 : Int32) (a3 : Int64) (N : Nat) (z : (Nat → Int64)) (hf : f_Store_putLow N a2 a1 a3 t_length t_words_n t_words = some z) : Cg l g E y_Store_putLow ws_Store_putLow rm_Store_putLow [.ref t_o, .int a1, .int a2, .long a3] (wd_Store_putLow g t_o t_words_a t_words_n t_length t_words) none (wd_Store_putLow g t_o t_words_a t_words_n t_length z) := by
  refine Ct.ofV hEe good_W (by decide) rfl (Nat.le_of_ble_eq_true rfl) ?_
  intro p e s m args below meth c A ls Q hC hw hl hret
  have hC : CX p m c b_Store_putLow 6 s args Wall R_Store g.1 classes (tK g) E A := hC
  have hl : lv_has ls 6 [(0, .ref t_o), (1, .int a1), (2, .int a2), (3, .long a3)] := hl
  unfold f_Store_putLow at hf
  refine n_iconst hC 0 d_Store_putLow_0 (by decide) ?_
  refine n_istore hC [(5, .int 0), (0, .ref t_o), (1, .int a1), (2, .int a2), (3, .long a3)] hl d_Store_putLow_1 (by decide) rfl (fun ls hl => ?_)
  have hL3 := lw2 (B := f_Store_putLow_L3 a2 a1 a3 t_length t_words_n) (z := z) (fun (x27 : Int32) (x28 : Nat → Int64) => ∀ (H : Heap) (locs : List Loc) (ls : Array Slot), WS g.1 classes A s.heap H locs (wd_Store_putLow g t_o t_words_a t_words_n t_length x28) → lv_has ls 6 [(5, .int x27), (0, .ref t_o), (1, .int a1), (2, .int a2), (3, .long a3)] → W p l e rm_Store_putLow s m args below meth c H locs 0 0 Q (F0 m 3 ls [])) (by
    intro k3 hk3 x27 x28 hf H locs ls hw hl
    unfold f_Store_putLow_L3 at hf
    refine n_iload hC hl 0 d_Store_putLow_3 rfl ?_
    refine n_iload_n hC hl 3 d_Store_putLow_5 rfl rfl ?_
    refine n_icmp_ge hC hf 31 d_Store_putLow_6 (by decide) (fun hf => ?_) (fun hf => ?_)
    · cases hf
      exact hret _ _ _ _ hw d_Store_putLow_31
    · refine n_aload_n hC hl 1 d_Store_putLow_9 rfl rfl ?_
      refine n_iload_n hC hl 2 d_Store_putLow_10 rfl rfl ?_
      refine n_iload hC hl 0 d_Store_putLow_11 rfl ?_
      refine n_iadd hC hf d_Store_putLow_13 (fun v35 hf => ?_)
      refine n_lload_n hC hl 4 d_Store_putLow_14 rfl rfl ?_
      refine n_bipush hC 8 d_Store_putLow_15 (by decide) ?_
      refine n_iload hC hl 0 d_Store_putLow_17 rfl ?_
      refine n_imul hC hf d_Store_putLow_19 (fun v36 hf => ?_)
      refine n_lushr hC hf d_Store_putLow_20 (fun v37 hf => ?_)
      refine n_l2i hC hf d_Store_putLow_21 (fun v38 hf => ?_)
      obtain ⟨u39, hu39, hf⟩ := bd_s hf
      refine n_callVv hC hw fc_Store_33 (c_Store_put l g E hEe t_o t_words_a t_words_n t_length x28 v35 v38 u39 hu39) [0, 1] (wd_Store_putLow g t_o t_words_a t_words_n t_length u39) 0 rfl ⟨rfl, rfl⟩ ⟨Nat.le_of_ble_eq_true rfl, Nat.le_of_ble_eq_true rfl⟩ rfl (At_.cons rfl (At_.cons rfl At_.nil)) (At_.cons rfl (At_.cons rfl At_.nil)) (Sm_.keep (Sm_.upd rfl Sm_.nil)) rfl hl.1 (Nat.le_of_ble_eq_true rfl) ⟨Nat.zero_le _, Nat.zero_le _⟩ d_Store_putLow_22 (fun H locs hw => ?_) rfl
      refine n_iinc hC (k := 0) hf (by decide) (fun v40 => [(5, .int v40), (0, .ref t_o), (1, .int a1), (2, .int a2), (3, .long a3)]) hl d_Store_putLow_25 rfl (by decide) (fun _ => rfl) (fun v40 ls hf hl => ?_)
      refine n_goto hC 3 d_Store_putLow_28 (by decide) ?_
      exact hk3 _ _ hf _ _ _ hw (lv_sub hl [0, 1, 2, 3, 4] rfl)
    )
  exact hL3 N _ _ hf _ _ _ hw (lv_sub hl [0, 1, 2, 3, 4] rfl)
def wd_Store_markBootSector (g : GT) (t_o : Nat) (t_words_a : Nat) (t_words_n : Nat) (t_length : Int32) (t_words : Nat → Int64) : va_W := [(t_o, .inr (0, [.int t_length, .ref t_words_a])), (t_words_a, .inl (g.2.2.1, t_words_n, .inr (.inl t_words)))]
def f_Store_markBootSector (N : Nat) (a1 : Int32) (t_length : Int32) (t_words_n : Nat) (t_words : Nat → Int64) : Option ((Nat → Int64)) :=
  lt_ (a1 * 512) (fun v4 => lt_ (v4 + 510) (fun v5 => bd_ (f_Store_putLow N 2 v5 43605 t_length t_words_n t_words) (fun u6 => some (u6))))
def rm_Store_markBootSector : Room := { frames := 2, cells := 0, slots := 0, locals := 48 }
set_option maxHeartbeats 4000000 in
set_option maxRecDepth 100000 in
theorem c_Store_markBootSector (l : Launch) (g : GT) (E : (Nat → Prop) → State → Prop) (hEe : Ee E) (t_o : Nat) (t_words_a : Nat) (t_words_n : Nat) (t_length : Int32) (t_words : Nat → Int64) (a1 : Int32) (N : Nat) (z : (Nat → Int64)) (hf : f_Store_markBootSector N a1 t_length t_words_n t_words = some z) : Cg l g E y_Store_markBootSector ws_Store_markBootSector rm_Store_markBootSector [.ref t_o, .int a1] (wd_Store_markBootSector g t_o t_words_a t_words_n t_length t_words) none (wd_Store_markBootSector g t_o t_words_a t_words_n t_length z) := by
  refine Ct.ofV hEe good_W (by decide) rfl (Nat.le_of_ble_eq_true rfl) ?_
  intro p e s m args below meth c A ls Q hC hw hl hret
  have hC : CX p m c b_Store_markBootSector 2 s args Wall R_Store g.1 classes (tK g) E A := hC
  have hl : lv_has ls 2 [(0, .ref t_o), (1, .int a1)] := hl
  unfold f_Store_markBootSector at hf
  refine n_aload_n hC hl 0 d_Store_markBootSector_0 rfl rfl ?_
  refine n_iload_n hC hl 1 d_Store_markBootSector_1 rfl rfl ?_
  refine n_sipush hC 512 d_Store_markBootSector_2 (by decide) ?_
  refine n_imul hC hf d_Store_markBootSector_5 (fun v4 hf => ?_)
  refine n_sipush hC 510 d_Store_markBootSector_6 (by decide) ?_
  refine n_iadd hC hf d_Store_markBootSector_9 (fun v5 hf => ?_)
  refine n_iconst hC 2 d_Store_markBootSector_10 (by decide) ?_
  refine n_ldc2 hC 43605 kc_Store_46 d_Store_markBootSector_11 ?_
  obtain ⟨u6, hu6, hf⟩ := bd_s hf
  refine n_callVv hC hw fc_Store_48 (c_Store_putLow l g E hEe t_o t_words_a t_words_n t_length t_words v5 2 43605 N u6 hu6) [0, 1] (wd_Store_markBootSector g t_o t_words_a t_words_n t_length u6) 0 rfl ⟨rfl, rfl⟩ ⟨Nat.le_of_ble_eq_true rfl, Nat.le_of_ble_eq_true rfl⟩ rfl (At_.cons rfl (At_.cons rfl At_.nil)) (At_.cons rfl (At_.cons rfl At_.nil)) (Sm_.keep (Sm_.upd rfl Sm_.nil)) rfl hl.1 (Nat.le_of_ble_eq_true rfl) ⟨Nat.zero_le _, Nat.zero_le _⟩ d_Store_markBootSector_14 (fun H locs hw => ?_) rfl
  cases hf
  exact hret _ _ _ _ hw d_Store_markBootSector_17
def wd_Store_isBootSector (g : GT) (t_o : Nat) (t_words_a : Nat) (t_words_n : Nat) (t_length : Int32) (t_words : Nat → Int64) : va_W := [(t_o, .inr (0, [.int t_length, .ref t_words_a])), (t_words_a, .inl (g.2.2.1, t_words_n, .inr (.inl t_words)))]
def f_Store_isBootSector (N : Nat) (a1 : Int32) (t_length : Int32) (t_words_n : Nat) (t_words : Nat → Int64) : Option (Int32) :=
  lt_ (a1 * 512) (fun v5 => lt_ (v5 + 510) (fun v6 => bd_ (f_Store_getLow N 2 v6 t_length t_words_n t_words) (fun u7 => lt_ (lg_cmp u7 43605) (fun v8 => if ¬ v8 = 0 then some (0) else some (1)))))
def rm_Store_isBootSector : Room := { frames := 2, cells := 0, slots := 0, locals := 46 }
set_option maxHeartbeats 4000000 in
set_option maxRecDepth 100000 in
theorem c_Store_isBootSector (l : Launch) (g : GT) (E : (Nat → Prop) → State → Prop) (hEe : Ee E) (t_o : Nat) (t_words_a : Nat) (t_words_n : Nat) (t_length : Int32) (t_words : Nat → Int64) (a1 : Int32) (N : Nat) (z : Int32) (hf : f_Store_isBootSector N a1 t_length t_words_n t_words = some z) : Cg l g E y_Store_isBootSector ws_Store_isBootSector rm_Store_isBootSector [.ref t_o, .int a1] (wd_Store_isBootSector g t_o t_words_a t_words_n t_length t_words) (some (.int z)) (wd_Store_isBootSector g t_o t_words_a t_words_n t_length t_words) := by
  refine Ct.ofI hEe good_W (by decide) rfl (Nat.le_of_ble_eq_true rfl) ?_
  intro p e s m args below meth c A ls Q hC hw hl hret
  have hC : CX p m c b_Store_isBootSector 2 s args Wall R_Store g.1 classes (tK g) E A := hC
  have hl : lv_has ls 2 [(0, .ref t_o), (1, .int a1)] := hl
  unfold f_Store_isBootSector at hf
  refine n_aload_n hC hl 0 d_Store_isBootSector_0 rfl rfl ?_
  refine n_iload_n hC hl 1 d_Store_isBootSector_1 rfl rfl ?_
  refine n_sipush hC 512 d_Store_isBootSector_2 (by decide) ?_
  refine n_imul hC hf d_Store_isBootSector_5 (fun v5 hf => ?_)
  refine n_sipush hC 510 d_Store_isBootSector_6 (by decide) ?_
  refine n_iadd hC hf d_Store_isBootSector_9 (fun v6 hf => ?_)
  refine n_iconst hC 2 d_Store_isBootSector_10 (by decide) ?_
  obtain ⟨u7, hu7, hf⟩ := bd_s hf
  refine n_callVl hC hw fc_Store_52 (c_Store_getLow l g E hEe t_o t_words_a t_words_n t_length t_words v6 2 N u7 hu7) [0, 1] (wd_Store_isBootSector g t_o t_words_a t_words_n t_length t_words) 0 rfl ⟨rfl, rfl⟩ ⟨Nat.le_of_ble_eq_true rfl, Nat.le_of_ble_eq_true rfl⟩ rfl (At_.cons rfl (At_.cons rfl At_.nil)) (At_.cons rfl (At_.cons rfl At_.nil)) Sm_.refl rfl hl.1 (Nat.le_of_ble_eq_true rfl) ⟨Nat.zero_le _, Nat.zero_le _⟩ d_Store_isBootSector_11 (fun H locs hw => ?_) rfl
  refine n_ldc2 hC 43605 kc_Store_46 d_Store_isBootSector_14 ?_
  refine n_lcmp hC hf d_Store_isBootSector_17 (fun v8 hf => ?_)
  refine n_if_ne hC hf 25 d_Store_isBootSector_18 (by decide) (fun hf => ?_) (fun hf => ?_)
  · refine n_iconst hC 0 d_Store_isBootSector_25 (by decide) ?_
    cases hf
    exact hret _ _ _ _ hw rfl d_Store_isBootSector_26
  · refine n_iconst hC 1 d_Store_isBootSector_21 (by decide) ?_
    refine n_goto hC 26 d_Store_isBootSector_22 (by decide) ?_
    cases hf
    exact hret _ _ _ _ hw rfl d_Store_isBootSector_26
def wd_Store_clear (g : GT) (t_o : Nat) (t_words_a : Nat) (t_words_n : Nat) (t_length : Int32) (t_words : Nat → Int64) : va_W := [(t_o, .inr (0, [.int t_length, .ref t_words_a])), (t_words_a, .inl (g.2.2.1, t_words_n, .inr (.inl t_words)))]
def f_Store_clear (N : Nat) (t_words_n : Nat) (t_words : Nat → Int64) : Option ((Nat → Int64)) :=
  bd_ (f_Arrays_fillJ N t_words_n 0 t_words) (fun u2 => some (u2))
def rm_Store_clear : Room := { frames := 1, cells := 0, slots := 0, locals := 24 }
set_option maxHeartbeats 4000000 in
set_option maxRecDepth 100000 in
theorem c_Store_clear (l : Launch) (g : GT) (E : (Nat → Prop) → State → Prop) (hEe : Ee E) (t_o : Nat) (t_words_a : Nat) (t_words_n : Nat) (t_length : Int32) (t_words : Nat → Int64) (N : Nat) (z : (Nat → Int64)) (hf : f_Store_clear N t_words_n t_words = some z) : Cg l g E y_Store_clear ws_Store_clear rm_Store_clear [.ref t_o] (wd_Store_clear g t_o t_words_a t_words_n t_length t_words) none (wd_Store_clear g t_o t_words_a t_words_n t_length z) := by
  refine Ct.ofV hEe good_W (by decide) rfl (Nat.le_of_ble_eq_true rfl) ?_
  intro p e s m args below meth c A ls Q hC hw hl hret
  have hC : CX p m c b_Store_clear 1 s args Wall R_Store g.1 classes (tK g) E A := hC
  have hl : lv_has ls 1 [(0, .ref t_o)] := hl
  unfold f_Store_clear at hf
  refine n_aload_n hC hl 0 d_Store_clear_0 rfl rfl ?_
  refine n_get hC hw fg_Store_15 0 rfl rfl d_Store_clear_1 ?_
  refine n_lconst hC 0 d_Store_clear_4 (by decide) ?_
  obtain ⟨u2, hu2, hf⟩ := bd_s hf
  refine n_callSv hC hw fc_Store_23 (c_Arrays_fillJ l g E hEe t_words_a t_words_n t_words 0 N u2 hu2) [1] (wd_Store_clear g t_o t_words_a t_words_n t_length u2) ⟨rfl, rfl⟩ ⟨Nat.le_of_ble_eq_true rfl, Nat.le_of_ble_eq_true rfl⟩ rfl (At_.cons rfl At_.nil) (At_.cons rfl At_.nil) (Sm_.keep (Sm_.upd rfl Sm_.nil)) rfl hl.1 (Nat.le_of_ble_eq_true rfl) ⟨Nat.zero_le _, Nat.zero_le _⟩ d_Store_clear_5 (fun H locs hw => ?_) rfl
  cases hf
  exact hret _ _ _ _ hw d_Store_clear_8
def wd_Store_putRow (g : GT) (t_o : Nat) (t_words_a : Nat) (t_words_n : Nat) (t_length : Int32) (t_words : Nat → Int64) : va_W := [(t_o, .inr (0, [.int t_length, .ref t_words_a])), (t_words_a, .inl (g.2.2.1, t_words_n, .inr (.inl t_words)))]
def f_Store_putRow_L2 (q2_n : Nat) (a1 : Int32) (q2_f : Nat → Int32) (t_length : Int32) (t_words_n : Nat) (k2 : Int32 → (Nat → Int64) → Option ((Nat → Int64))) (x19 : Int32) (x20 : Nat → Int64) : Option ((Nat → Int64)) :=
  if ((Int32.ofNat q2_n) : Int32) ≤ x19 then some (x20) else lt_ (a1 + x19) (fun v25 => ix_ q2_n q2_f x19 (fun (v26 : Int32) => bd_ (f_Store_put v25 x20 t_length t_words_n v26) (fun u27 => lt_ (x19 + 1) (fun v28 => k2 v28 u27))))
def f_Store_putRow (N : Nat) (q2_n : Nat) (a1 : Int32) (q2_f : Nat → Int32) (t_length : Int32) (t_words_n : Nat) (t_words : Nat → Int64) : Option ((Nat → Int64)) :=
  lp_ (fun _ _ => none) (f_Store_putRow_L2 q2_n a1 q2_f t_length t_words_n) N 0 t_words
def rm_Store_putRow : Room := { frames := 1, cells := 0, slots := 0, locals := 23 }
set_option maxHeartbeats 4000000 in
set_option maxRecDepth 100000 in
theorem c_Store_putRow (l : Launch) (g : GT) (E : (Nat → Prop) → State → Prop) (hEe : Ee E) (q2_a q2_n : Nat) (q2_f : Nat → Int32) (hq2 : ∀ (A : Nat → Prop) (u : State), E A u → va_T .int q2_a q2_n (fun j => .int (q2_f j)) A u u.heap) (t_o : Nat) (t_words_a : Nat) (t_words_n : Nat) (t_length : Int32) (t_words : Nat → Int64) (a1 : Int32) (N : Nat) (z : (Nat → Int64)) (hf : f_Store_putRow N q2_n a1 q2_f t_length t_words_n t_words = some z) : Cg l g E y_Store_putRow ws_Store_putRow rm_Store_putRow [.ref t_o, .int a1, .ref q2_a] (wd_Store_putRow g t_o t_words_a t_words_n t_length t_words) none (wd_Store_putRow g t_o t_words_a t_words_n t_length z) := by
  refine Ct.ofV hEe good_W (by decide) rfl (Nat.le_of_ble_eq_true rfl) ?_
  intro p e s m args below meth c A ls Q hC hw hl hret
  have hC : CX p m c b_Store_putRow 4 s args Wall R_Store g.1 classes (tK g) E A := hC
  have hl : lv_has ls 4 [(0, .ref t_o), (1, .int a1), (2, .ref q2_a)] := hl
  unfold f_Store_putRow at hf
  refine n_iconst hC 0 d_Store_putRow_0 (by decide) ?_
  refine n_istore_n hC [(3, .int 0), (0, .ref t_o), (1, .int a1), (2, .ref q2_a)] hl d_Store_putRow_1 rfl (by decide) rfl (fun ls hl => ?_)
  have hL2 := lw2 (B := f_Store_putRow_L2 q2_n a1 q2_f t_length t_words_n) (z := z) (fun (x19 : Int32) (x20 : Nat → Int64) => ∀ (H : Heap) (locs : List Loc) (ls : Array Slot), WS g.1 classes A s.heap H locs (wd_Store_putRow g t_o t_words_a t_words_n t_length x20) → lv_has ls 4 [(3, .int x19), (0, .ref t_o), (1, .int a1), (2, .ref q2_a)] → W p l e rm_Store_putRow s m args below meth c H locs 0 0 Q (F0 m 2 ls [])) (by
    intro k2 hk2 x19 x20 hf H locs ls hw hl
    unfold f_Store_putRow_L2 at hf
    refine n_iload_n hC hl 0 d_Store_putRow_2 rfl rfl ?_
    refine n_aload_n hC hl 3 d_Store_putRow_3 rfl rfl ?_
    refine n_tlen hC hw hq2 (Int32.ofNat q2_n) rfl d_Store_putRow_4 ?_
    refine n_icmp_ge hC hf 24 d_Store_putRow_5 (by decide) (fun hf => ?_) (fun hf => ?_)
    · cases hf
      exact hret _ _ _ _ hw d_Store_putRow_24
    · refine n_aload_n hC hl 1 d_Store_putRow_8 rfl rfl ?_
      refine n_iload_n hC hl 2 d_Store_putRow_9 rfl rfl ?_
      refine n_iload_n hC hl 0 d_Store_putRow_10 rfl rfl ?_
      refine n_iadd hC hf d_Store_putRow_11 (fun v25 hf => ?_)
      refine n_aload_n hC hl 3 d_Store_putRow_12 rfl rfl ?_
      refine n_iload_n hC hl 0 d_Store_putRow_13 rfl rfl ?_
      refine n_ti hC hw hf hq2 d_Store_putRow_14 (fun v26 hf => ?_)
      obtain ⟨u27, hu27, hf⟩ := bd_s hf
      refine n_callVv hC hw fc_Store_33 (c_Store_put l g E hEe t_o t_words_a t_words_n t_length x20 v25 v26 u27 hu27) [0, 1] (wd_Store_putRow g t_o t_words_a t_words_n t_length u27) 0 rfl ⟨rfl, rfl⟩ ⟨Nat.le_of_ble_eq_true rfl, Nat.le_of_ble_eq_true rfl⟩ rfl (At_.cons rfl (At_.cons rfl At_.nil)) (At_.cons rfl (At_.cons rfl At_.nil)) (Sm_.keep (Sm_.upd rfl Sm_.nil)) rfl hl.1 (Nat.le_of_ble_eq_true rfl) ⟨Nat.zero_le _, Nat.zero_le _⟩ d_Store_putRow_15 (fun H locs hw => ?_) rfl
      refine n_iinc hC (k := 0) hf (by decide) (fun v28 => [(3, .int v28), (0, .ref t_o), (1, .int a1), (2, .ref q2_a)]) hl d_Store_putRow_18 rfl (by decide) (fun _ => rfl) (fun v28 ls hf hl => ?_)
      refine n_goto hC 2 d_Store_putRow_21 (by decide) ?_
      exact hk2 _ _ hf _ _ _ hw (lv_sub hl [0, 1, 2, 3] rfl)
    )
  exact hL2 N _ _ hf _ _ _ hw (lv_sub hl [0, 1, 2, 3] rfl)
def wd_Store_holdsRow (g : GT) (t_o : Nat) (t_words_a : Nat) (t_words_n : Nat) (t_length : Int32) (t_words : Nat → Int64) : va_W := [(t_o, .inr (0, [.int t_length, .ref t_words_a])), (t_words_a, .inl (g.2.2.1, t_words_n, .inr (.inl t_words)))]
def f_Store_holdsRow_L2 (q2_n : Nat) (a1 : Int32) (t_length : Int32) (t_words_n : Nat) (t_words : Nat → Int64) (q2_f : Nat → Int32) (k2 : Int32 → Option (Int32)) (x18 : Int32) : Option (Int32) :=
  if ((Int32.ofNat q2_n) : Int32) ≤ x18 then some (1) else lt_ (a1 + x18) (fun v23 => bd_ (f_Store_get v23 t_length t_words_n t_words) (fun u24 => ix_ q2_n q2_f x18 (fun (v25 : Int32) => if u24 = v25 then lt_ (x18 + 1) (fun v26 => k2 v26) else some (0))))
def f_Store_holdsRow (N : Nat) (q2_n : Nat) (a1 : Int32) (t_length : Int32) (t_words_n : Nat) (t_words : Nat → Int64) (q2_f : Nat → Int32) : Option (Int32) :=
  lp_ (fun _ => none) (f_Store_holdsRow_L2 q2_n a1 t_length t_words_n t_words q2_f) N 0
def rm_Store_holdsRow : Room := { frames := 1, cells := 0, slots := 0, locals := 21 }
set_option maxHeartbeats 4000000 in
set_option maxRecDepth 100000 in
theorem c_Store_holdsRow (l : Launch) (g : GT) (E : (Nat → Prop) → State → Prop) (hEe : Ee E) (q2_a q2_n : Nat) (q2_f : Nat → Int32) (hq2 : ∀ (A : Nat → Prop) (u : State), E A u → va_T .int q2_a q2_n (fun j => .int (q2_f j)) A u u.heap) (t_o : Nat) (t_words_a : Nat) (t_words_n : Nat) (t_length : Int32) (t_words : Nat → Int64) (a1 : Int32) (N : Nat) (z : Int32) (hf : f_Store_holdsRow N q2_n a1 t_length t_words_n t_words q2_f = some z) : Cg l g E y_Store_holdsRow ws_Store_holdsRow rm_Store_holdsRow [.ref t_o, .int a1, .ref q2_a] (wd_Store_holdsRow g t_o t_words_a t_words_n t_length t_words) (some (.int z)) (wd_Store_holdsRow g t_o t_words_a t_words_n t_length t_words) := by
  refine Ct.ofI hEe good_W (by decide) rfl (Nat.le_of_ble_eq_true rfl) ?_
  intro p e s m args below meth c A ls Q hC hw hl hret
  have hC : CX p m c b_Store_holdsRow 4 s args Wall R_Store g.1 classes (tK g) E A := hC
  have hl : lv_has ls 4 [(0, .ref t_o), (1, .int a1), (2, .ref q2_a)] := hl
  unfold f_Store_holdsRow at hf
  refine n_iconst hC 0 d_Store_holdsRow_0 (by decide) ?_
  refine n_istore_n hC [(3, .int 0), (0, .ref t_o), (1, .int a1), (2, .ref q2_a)] hl d_Store_holdsRow_1 rfl (by decide) rfl (fun ls hl => ?_)
  have hL2 := lw1 (B := f_Store_holdsRow_L2 q2_n a1 t_length t_words_n t_words q2_f) (z := z) (fun (x18 : Int32) => ∀ (H : Heap) (locs : List Loc) (ls : Array Slot), WS g.1 classes A s.heap H locs (wd_Store_holdsRow g t_o t_words_a t_words_n t_length t_words) → lv_has ls 4 [(3, .int x18), (0, .ref t_o), (1, .int a1), (2, .ref q2_a)] → W p l e rm_Store_holdsRow s m args below meth c H locs 0 0 Q (F0 m 2 ls [])) (by
    intro k2 hk2 x18 hf H locs ls hw hl
    unfold f_Store_holdsRow_L2 at hf
    refine n_iload_n hC hl 0 d_Store_holdsRow_2 rfl rfl ?_
    refine n_aload_n hC hl 3 d_Store_holdsRow_3 rfl rfl ?_
    refine n_tlen hC hw hq2 (Int32.ofNat q2_n) rfl d_Store_holdsRow_4 ?_
    refine n_icmp_ge hC hf 29 d_Store_holdsRow_5 (by decide) (fun hf => ?_) (fun hf => ?_)
    · refine n_iconst hC 1 d_Store_holdsRow_29 (by decide) ?_
      cases hf
      exact hret _ _ _ _ hw rfl d_Store_holdsRow_30
    · refine n_aload_n hC hl 1 d_Store_holdsRow_8 rfl rfl ?_
      refine n_iload_n hC hl 2 d_Store_holdsRow_9 rfl rfl ?_
      refine n_iload_n hC hl 0 d_Store_holdsRow_10 rfl rfl ?_
      refine n_iadd hC hf d_Store_holdsRow_11 (fun v23 hf => ?_)
      obtain ⟨u24, hu24, hf⟩ := bd_s hf
      refine n_callVi hC hw fc_Store_29 (c_Store_get l g E hEe t_o t_words_a t_words_n t_length t_words v23 u24 hu24) [0, 1] (wd_Store_holdsRow g t_o t_words_a t_words_n t_length t_words) 0 rfl ⟨rfl, rfl⟩ ⟨Nat.le_of_ble_eq_true rfl, Nat.le_of_ble_eq_true rfl⟩ rfl (At_.cons rfl (At_.cons rfl At_.nil)) (At_.cons rfl (At_.cons rfl At_.nil)) Sm_.refl rfl hl.1 (Nat.le_of_ble_eq_true rfl) ⟨Nat.zero_le _, Nat.zero_le _⟩ d_Store_holdsRow_12 (fun H locs hw => ?_) rfl
      refine n_aload_n hC hl 3 d_Store_holdsRow_15 rfl rfl ?_
      refine n_iload_n hC hl 0 d_Store_holdsRow_16 rfl rfl ?_
      refine n_ti hC hw hf hq2 d_Store_holdsRow_17 (fun v25 hf => ?_)
      refine n_icmp_eq hC hf 23 d_Store_holdsRow_18 (by decide) (fun hf => ?_) (fun hf => ?_)
      · refine n_iinc hC (k := 0) hf (by decide) (fun v26 => [(3, .int v26), (0, .ref t_o), (1, .int a1), (2, .ref q2_a)]) hl d_Store_holdsRow_23 rfl (by decide) (fun _ => rfl) (fun v26 ls hf hl => ?_)
        refine n_goto hC 2 d_Store_holdsRow_26 (by decide) ?_
        exact hk2 _ hf _ _ _ hw (lv_sub hl [0, 1, 2, 3] rfl)
      · refine n_iconst hC 0 d_Store_holdsRow_21 (by decide) ?_
        cases hf
        exact hret _ _ _ _ hw rfl d_Store_holdsRow_22
    )
  exact hL2 N _ hf _ _ _ hw (lv_sub hl [0, 1, 2, 3] rfl)
def wd_Store_putText (g : GT) (t_o : Nat) (t_words_a : Nat) (t_words_n : Nat) (t_length : Int32) (t_words : Nat → Int64) : va_W := [(t_o, .inr (0, [.int t_length, .ref t_words_a])), (t_words_a, .inl (g.2.2.1, t_words_n, .inr (.inl t_words)))]
def f_Store_putText_L2 (q2_n : Nat) (a1 : Int32) (q2_f : Nat → Int32) (t_length : Int32) (t_words_n : Nat) (k2 : Int32 → (Nat → Int64) → Option ((Nat → Int64))) (x23 : Int32) (x24 : Nat → Int64) : Option ((Nat → Int64)) :=
  bd_ (f_String_length q2_n) (fun u30 => if u30 ≤ x23 then some (x24) else lt_ (a1 + x23) (fun v31 => bd_ (f_String_charAt x23 q2_n q2_f) (fun u32 => bd_ (f_Store_put v31 x24 t_length t_words_n u32) (fun u33 => lt_ (x23 + 1) (fun v34 => k2 v34 u33)))))
def f_Store_putText (N : Nat) (q2_n : Nat) (a1 : Int32) (q2_f : Nat → Int32) (t_length : Int32) (t_words_n : Nat) (t_words : Nat → Int64) : Option ((Nat → Int64)) :=
  lp_ (fun _ _ => none) (f_Store_putText_L2 q2_n a1 q2_f t_length t_words_n) N 0 t_words
def rm_Store_putText : Room := { frames := 4, cells := 0, slots := 0, locals := 85 }
set_option maxHeartbeats 4000000 in
set_option maxRecDepth 100000 in
theorem c_Store_putText (l : Launch) (g : GT) (E : (Nat → Prop) → State → Prop) (hEe : Ee E) (q2_a q2_v q2_n : Nat) (q2_f : Nat → Int32) (hq2 : ∀ (A : Nat → Prop) (u : State), E A u → StrAt q2_a q2_v q2_n q2_f A u) (t_o : Nat) (t_words_a : Nat) (t_words_n : Nat) (t_length : Int32) (t_words : Nat → Int64) (a1 : Int32) (N : Nat) (z : (Nat → Int64)) (hf : f_Store_putText N q2_n a1 q2_f t_length t_words_n t_words = some z) : Cg l g E y_Store_putText ws_Store_putText rm_Store_putText [.ref t_o, .int a1, .ref q2_a] (wd_Store_putText g t_o t_words_a t_words_n t_length t_words) none (wd_Store_putText g t_o t_words_a t_words_n t_length z) := by
  refine Ct.ofV hEe good_W (by decide) rfl (Nat.le_of_ble_eq_true rfl) ?_
  intro p e s m args below meth c A ls Q hC hw hl hret
  have hC : CX p m c b_Store_putText 4 s args Wall R_Store g.1 classes (tK g) E A := hC
  have hl : lv_has ls 4 [(0, .ref t_o), (1, .int a1), (2, .ref q2_a)] := hl
  unfold f_Store_putText at hf
  refine n_iconst hC 0 d_Store_putText_0 (by decide) ?_
  refine n_istore_n hC [(3, .int 0), (0, .ref t_o), (1, .int a1), (2, .ref q2_a)] hl d_Store_putText_1 rfl (by decide) rfl (fun ls hl => ?_)
  have hL2 := lw2 (B := f_Store_putText_L2 q2_n a1 q2_f t_length t_words_n) (z := z) (fun (x23 : Int32) (x24 : Nat → Int64) => ∀ (H : Heap) (locs : List Loc) (ls : Array Slot), WS g.1 classes A s.heap H locs (wd_Store_putText g t_o t_words_a t_words_n t_length x24) → lv_has ls 4 [(3, .int x23), (0, .ref t_o), (1, .int a1), (2, .ref q2_a)] → W p l e rm_Store_putText s m args below meth c H locs 0 0 Q (F0 m 2 ls [])) (by
    intro k2 hk2 x23 x24 hf H locs ls hw hl
    unfold f_Store_putText_L2 at hf
    refine n_iload_n hC hl 0 d_Store_putText_2 rfl rfl ?_
    refine n_aload_n hC hl 3 d_Store_putText_3 rfl rfl ?_
    obtain ⟨u30, hu30, hf⟩ := bd_s hf
    refine n_callOi hC hw fc_Store_37 (c_String_length l g E hEe q2_a q2_v q2_n q2_f hq2  u30 hu30) [] (wd_Store_putText g t_o t_words_a t_words_n t_length x24) (fun A u h => (hq2 A u h).1) ⟨rfl, rfl⟩ ⟨Nat.le_of_ble_eq_true rfl, Nat.le_of_ble_eq_true rfl⟩ rfl At_.nil At_.nil Sm_.refl rfl hl.1 (Nat.le_of_ble_eq_true rfl) ⟨Nat.zero_le _, Nat.zero_le _⟩ d_Store_putText_4 (fun H locs hw => ?_) rfl
    refine n_icmp_ge hC hf 28 d_Store_putText_7 (by decide) (fun hf => ?_) (fun hf => ?_)
    · cases hf
      exact hret _ _ _ _ hw d_Store_putText_28
    · refine n_aload_n hC hl 1 d_Store_putText_10 rfl rfl ?_
      refine n_iload_n hC hl 2 d_Store_putText_11 rfl rfl ?_
      refine n_iload_n hC hl 0 d_Store_putText_12 rfl rfl ?_
      refine n_iadd hC hf d_Store_putText_13 (fun v31 hf => ?_)
      refine n_aload_n hC hl 3 d_Store_putText_14 rfl rfl ?_
      refine n_iload_n hC hl 0 d_Store_putText_15 rfl rfl ?_
      obtain ⟨u32, hu32, hf⟩ := bd_s hf
      refine n_callOi hC hw fc_Store_42 (c_String_charAt l g E hEe q2_a q2_v q2_n q2_f hq2 x23 u32 hu32) [] (wd_Store_putText g t_o t_words_a t_words_n t_length x24) (fun A u h => (hq2 A u h).1) ⟨rfl, rfl⟩ ⟨Nat.le_of_ble_eq_true rfl, Nat.le_of_ble_eq_true rfl⟩ rfl At_.nil At_.nil Sm_.refl rfl hl.1 (Nat.le_of_ble_eq_true rfl) ⟨Nat.zero_le _, Nat.zero_le _⟩ d_Store_putText_16 (fun H locs hw => ?_) rfl
      obtain ⟨u33, hu33, hf⟩ := bd_s hf
      refine n_callVv hC hw fc_Store_33 (c_Store_put l g E hEe t_o t_words_a t_words_n t_length x24 v31 u32 u33 hu33) [0, 1] (wd_Store_putText g t_o t_words_a t_words_n t_length u33) 0 rfl ⟨rfl, rfl⟩ ⟨Nat.le_of_ble_eq_true rfl, Nat.le_of_ble_eq_true rfl⟩ rfl (At_.cons rfl (At_.cons rfl At_.nil)) (At_.cons rfl (At_.cons rfl At_.nil)) (Sm_.keep (Sm_.upd rfl Sm_.nil)) rfl hl.1 (Nat.le_of_ble_eq_true rfl) ⟨Nat.zero_le _, Nat.zero_le _⟩ d_Store_putText_19 (fun H locs hw => ?_) rfl
      refine n_iinc hC (k := 0) hf (by decide) (fun v34 => [(3, .int v34), (0, .ref t_o), (1, .int a1), (2, .ref q2_a)]) hl d_Store_putText_22 rfl (by decide) (fun _ => rfl) (fun v34 ls hf hl => ?_)
      refine n_goto hC 2 d_Store_putText_25 (by decide) ?_
      exact hk2 _ _ hf _ _ _ hw (lv_sub hl [0, 1, 2, 3] rfl)
    )
  exact hL2 N _ _ hf _ _ _ hw (lv_sub hl [0, 1, 2, 3] rfl)
def wd_Store_holdsText (g : GT) (t_o : Nat) (t_words_a : Nat) (t_words_n : Nat) (t_length : Int32) (t_words : Nat → Int64) : va_W := [(t_o, .inr (0, [.int t_length, .ref t_words_a])), (t_words_a, .inl (g.2.2.1, t_words_n, .inr (.inl t_words)))]
def f_Store_holdsText_L2 (q2_n : Nat) (a1 : Int32) (t_length : Int32) (t_words_n : Nat) (t_words : Nat → Int64) (q2_f : Nat → Int32) (k2 : Int32 → Option (Int32)) (x22 : Int32) : Option (Int32) :=
  bd_ (f_String_length q2_n) (fun u28 => if u28 ≤ x22 then some (1) else lt_ (a1 + x22) (fun v29 => bd_ (f_Store_get v29 t_length t_words_n t_words) (fun u30 => bd_ (f_String_charAt x22 q2_n q2_f) (fun u31 => if u30 = u31 then lt_ (x22 + 1) (fun v32 => k2 v32) else some (0)))))
def f_Store_holdsText (N : Nat) (q2_n : Nat) (a1 : Int32) (t_length : Int32) (t_words_n : Nat) (t_words : Nat → Int64) (q2_f : Nat → Int32) : Option (Int32) :=
  lp_ (fun _ => none) (f_Store_holdsText_L2 q2_n a1 t_length t_words_n t_words q2_f) N 0
def rm_Store_holdsText : Room := { frames := 4, cells := 0, slots := 0, locals := 85 }
set_option maxHeartbeats 4000000 in
set_option maxRecDepth 100000 in
theorem c_Store_holdsText (l : Launch) (g : GT) (E : (Nat → Prop) → State → Prop) (hEe : Ee E) (q2_a q2_v q2_n : Nat) (q2_f : Nat → Int32) (hq2 : ∀ (A : Nat → Prop) (u : State), E A u → StrAt q2_a q2_v q2_n q2_f A u) (t_o : Nat) (t_words_a : Nat) (t_words_n : Nat) (t_length : Int32) (t_words : Nat → Int64) (a1 : Int32) (N : Nat) (z : Int32) (hf : f_Store_holdsText N q2_n a1 t_length t_words_n t_words q2_f = some z) : Cg l g E y_Store_holdsText ws_Store_holdsText rm_Store_holdsText [.ref t_o, .int a1, .ref q2_a] (wd_Store_holdsText g t_o t_words_a t_words_n t_length t_words) (some (.int z)) (wd_Store_holdsText g t_o t_words_a t_words_n t_length t_words) := by
  refine Ct.ofI hEe good_W (by decide) rfl (Nat.le_of_ble_eq_true rfl) ?_
  intro p e s m args below meth c A ls Q hC hw hl hret
  have hC : CX p m c b_Store_holdsText 4 s args Wall R_Store g.1 classes (tK g) E A := hC
  have hl : lv_has ls 4 [(0, .ref t_o), (1, .int a1), (2, .ref q2_a)] := hl
  unfold f_Store_holdsText at hf
  refine n_iconst hC 0 d_Store_holdsText_0 (by decide) ?_
  refine n_istore_n hC [(3, .int 0), (0, .ref t_o), (1, .int a1), (2, .ref q2_a)] hl d_Store_holdsText_1 rfl (by decide) rfl (fun ls hl => ?_)
  have hL2 := lw1 (B := f_Store_holdsText_L2 q2_n a1 t_length t_words_n t_words q2_f) (z := z) (fun (x22 : Int32) => ∀ (H : Heap) (locs : List Loc) (ls : Array Slot), WS g.1 classes A s.heap H locs (wd_Store_holdsText g t_o t_words_a t_words_n t_length t_words) → lv_has ls 4 [(3, .int x22), (0, .ref t_o), (1, .int a1), (2, .ref q2_a)] → W p l e rm_Store_holdsText s m args below meth c H locs 0 0 Q (F0 m 2 ls [])) (by
    intro k2 hk2 x22 hf H locs ls hw hl
    unfold f_Store_holdsText_L2 at hf
    refine n_iload_n hC hl 0 d_Store_holdsText_2 rfl rfl ?_
    refine n_aload_n hC hl 3 d_Store_holdsText_3 rfl rfl ?_
    obtain ⟨u28, hu28, hf⟩ := bd_s hf
    refine n_callOi hC hw fc_Store_37 (c_String_length l g E hEe q2_a q2_v q2_n q2_f hq2  u28 hu28) [] (wd_Store_holdsText g t_o t_words_a t_words_n t_length t_words) (fun A u h => (hq2 A u h).1) ⟨rfl, rfl⟩ ⟨Nat.le_of_ble_eq_true rfl, Nat.le_of_ble_eq_true rfl⟩ rfl At_.nil At_.nil Sm_.refl rfl hl.1 (Nat.le_of_ble_eq_true rfl) ⟨Nat.zero_le _, Nat.zero_le _⟩ d_Store_holdsText_4 (fun H locs hw => ?_) rfl
    refine n_icmp_ge hC hf 33 d_Store_holdsText_7 (by decide) (fun hf => ?_) (fun hf => ?_)
    · refine n_iconst hC 1 d_Store_holdsText_33 (by decide) ?_
      cases hf
      exact hret _ _ _ _ hw rfl d_Store_holdsText_34
    · refine n_aload_n hC hl 1 d_Store_holdsText_10 rfl rfl ?_
      refine n_iload_n hC hl 2 d_Store_holdsText_11 rfl rfl ?_
      refine n_iload_n hC hl 0 d_Store_holdsText_12 rfl rfl ?_
      refine n_iadd hC hf d_Store_holdsText_13 (fun v29 hf => ?_)
      obtain ⟨u30, hu30, hf⟩ := bd_s hf
      refine n_callVi hC hw fc_Store_29 (c_Store_get l g E hEe t_o t_words_a t_words_n t_length t_words v29 u30 hu30) [0, 1] (wd_Store_holdsText g t_o t_words_a t_words_n t_length t_words) 0 rfl ⟨rfl, rfl⟩ ⟨Nat.le_of_ble_eq_true rfl, Nat.le_of_ble_eq_true rfl⟩ rfl (At_.cons rfl (At_.cons rfl At_.nil)) (At_.cons rfl (At_.cons rfl At_.nil)) Sm_.refl rfl hl.1 (Nat.le_of_ble_eq_true rfl) ⟨Nat.zero_le _, Nat.zero_le _⟩ d_Store_holdsText_14 (fun H locs hw => ?_) rfl
      refine n_aload_n hC hl 3 d_Store_holdsText_17 rfl rfl ?_
      refine n_iload_n hC hl 0 d_Store_holdsText_18 rfl rfl ?_
      obtain ⟨u31, hu31, hf⟩ := bd_s hf
      refine n_callOi hC hw fc_Store_42 (c_String_charAt l g E hEe q2_a q2_v q2_n q2_f hq2 x22 u31 hu31) [] (wd_Store_holdsText g t_o t_words_a t_words_n t_length t_words) (fun A u h => (hq2 A u h).1) ⟨rfl, rfl⟩ ⟨Nat.le_of_ble_eq_true rfl, Nat.le_of_ble_eq_true rfl⟩ rfl At_.nil At_.nil Sm_.refl rfl hl.1 (Nat.le_of_ble_eq_true rfl) ⟨Nat.zero_le _, Nat.zero_le _⟩ d_Store_holdsText_19 (fun H locs hw => ?_) rfl
      refine n_icmp_eq hC hf 27 d_Store_holdsText_22 (by decide) (fun hf => ?_) (fun hf => ?_)
      · refine n_iinc hC (k := 0) hf (by decide) (fun v32 => [(3, .int v32), (0, .ref t_o), (1, .int a1), (2, .ref q2_a)]) hl d_Store_holdsText_27 rfl (by decide) (fun _ => rfl) (fun v32 ls hf hl => ?_)
        refine n_goto hC 2 d_Store_holdsText_30 (by decide) ?_
        exact hk2 _ hf _ _ _ hw (lv_sub hl [0, 1, 2, 3] rfl)
      · refine n_iconst hC 0 d_Store_holdsText_25 (by decide) ?_
        cases hf
        exact hret _ _ _ _ hw rfl d_Store_holdsText_26
    )
  exact hL2 N _ hf _ _ _ hw (lv_sub hl [0, 1, 2, 3] rfl)
