def wd_Arrays_fillJ (g : GT) (q1_a : Nat) (q1_n : Nat) (q1_f : Nat → Int64) : va_W := [(q1_a, .inl (g.2.2.1, q1_n, .inr (.inl q1_f)))]
def f_Arrays_fillJ_L6 (q1_n : Nat) (a2 : Int64) (k6 : Int32 → (Nat → Int64) → Option ((Nat → Int64))) (x11 : Int32) (x12 : Nat → Int64) : Option ((Nat → Int64)) :=
  if ((Int32.ofNat q1_n) : Int32) ≤ x11 then some (x12) else up_l q1_n x12 x11 a2 (fun (f15 : Nat → Int64) => lt_ (x11 + 1) (fun v16 => k6 v16 f15))
def f_Arrays_fillJ (N : Nat) (q1_n : Nat) (a2 : Int64) (q1_f : Nat → Int64) : Option ((Nat → Int64)) :=
  lp_ (fun _ _ => none) (f_Arrays_fillJ_L6 q1_n a2) N 0 q1_f
def rm_Arrays_fillJ : Room := { frames := 0, cells := 0, slots := 0, locals := 0 }
set_option maxHeartbeats 4000000 in
set_option maxRecDepth 100000 in
theorem c_Arrays_fillJ (l : Launch) (g : GT) (E : (Nat → Prop) → State → Prop) (hEe : Ee E) (q1_a : Nat) (q1_n : Nat) (q1_f : Nat → Int64) (a2 : Int64) (N : Nat) (z : (Nat → Int64)) (hf : f_Arrays_fillJ N q1_n a2 q1_f = some z) : Cg l g E y_Arrays_fillJ ws_Arrays_fillJ rm_Arrays_fillJ [.ref q1_a, .long a2] (wd_Arrays_fillJ g q1_a q1_n q1_f) none (wd_Arrays_fillJ g q1_a q1_n z) := by
  refine Ct.ofV hEe good_W (by decide) rfl (Nat.le_of_ble_eq_true rfl) ?_
  intro p e s m args below meth c A ls Q hC hw hl hret
  have hC : CX p m c b_Arrays_fillJ 5 s args Wall R_Arrays g.1 classes (tK g) E A := hC
  have hl : lv_has ls 5 [(0, .ref q1_a), (1, .long a2)] := hl
  unfold f_Arrays_fillJ at hf
  refine n_iconst hC 0 d_Arrays_fillJ_0 (by decide) ?_
  refine n_istore_n hC [(3, .int 0), (0, .ref q1_a), (1, .long a2)] hl d_Arrays_fillJ_1 rfl (by decide) rfl (fun ls hl => ?_)
  refine n_aload_n hC hl 1 d_Arrays_fillJ_2 rfl rfl ?_
  refine n_alen hC hw 0 1 (Int32.ofNat q1_n) rfl rfl rfl d_Arrays_fillJ_3 ?_
  refine n_istore hC [(4, .int (Int32.ofNat q1_n)), (3, .int 0), (0, .ref q1_a), (1, .long a2)] hl d_Arrays_fillJ_4 (by decide) rfl (fun ls hl => ?_)
  have hL6 := lw2 (B := f_Arrays_fillJ_L6 q1_n a2) (z := z) (fun (x11 : Int32) (x12 : Nat → Int64) => ∀ (H : Heap) (locs : List Loc) (ls : Array Slot), WS g.1 classes A s.heap H locs (wd_Arrays_fillJ g q1_a q1_n x12) → lv_has ls 5 [(4, .int (Int32.ofNat q1_n)), (3, .int x11), (0, .ref q1_a), (1, .long a2)] → W p l e rm_Arrays_fillJ s m args below meth c H locs 0 0 Q (F0 m 6 ls [])) (by
    intro k6 hk6 x11 x12 hf H locs ls hw hl
    unfold f_Arrays_fillJ_L6 at hf
    refine n_iload_n hC hl 1 d_Arrays_fillJ_6 rfl rfl ?_
    refine n_iload hC hl 0 d_Arrays_fillJ_7 rfl ?_
    refine n_icmp_ge hC hf 22 d_Arrays_fillJ_9 (by decide) (fun hf => ?_) (fun hf => ?_)
    · cases hf
      exact hret _ _ _ _ hw d_Arrays_fillJ_22
    · refine n_aload_n hC hl 2 d_Arrays_fillJ_12 rfl rfl ?_
      refine n_iload_n hC hl 1 d_Arrays_fillJ_13 rfl rfl ?_
      refine n_lload_n hC hl 3 d_Arrays_fillJ_14 rfl rfl ?_
      refine n_last hC hw hf 0 1 (fun f15 => wd_Arrays_fillJ g q1_a q1_n f15) rfl rfl d_Arrays_fillJ_15 (fun _ => rfl) (fun f15 H locs hf hw => ?_)
      refine n_iinc hC (k := 1) hf (by decide) (fun v16 => [(3, .int v16), (4, .int (Int32.ofNat q1_n)), (0, .ref q1_a), (1, .long a2)]) hl d_Arrays_fillJ_16 rfl (by decide) (fun _ => rfl) (fun v16 ls hf hl => ?_)
      refine n_goto hC 6 d_Arrays_fillJ_19 (by decide) ?_
      exact hk6 _ _ hf _ _ _ hw (lv_sub hl [1, 0, 2, 3] rfl)
    )
  exact hL6 N _ _ hf _ _ _ hw (lv_sub hl [0, 1, 2, 3] rfl)
def wd_Arrays_fillI (g : GT) (q1_a : Nat) (q1_n : Nat) (q1_f : Nat → Int32) : va_W := [(q1_a, .inl (g.2.1, q1_n, .inl q1_f))]
def f_Arrays_fillI_L5 (q1_n : Nat) (a2 : Int32) (k5 : Int32 → (Nat → Int32) → Option ((Nat → Int32))) (x11 : Int32) (x12 : Nat → Int32) : Option ((Nat → Int32)) :=
  if ((Int32.ofNat q1_n) : Int32) ≤ x11 then some (x12) else up_i q1_n x12 x11 a2 (fun (f15 : Nat → Int32) => lt_ (x11 + 1) (fun v16 => k5 v16 f15))
def f_Arrays_fillI (N : Nat) (q1_n : Nat) (a2 : Int32) (q1_f : Nat → Int32) : Option ((Nat → Int32)) :=
  lp_ (fun _ _ => none) (f_Arrays_fillI_L5 q1_n a2) N 0 q1_f
def rm_Arrays_fillI : Room := { frames := 0, cells := 0, slots := 0, locals := 0 }
set_option maxHeartbeats 4000000 in
set_option maxRecDepth 100000 in
theorem c_Arrays_fillI (l : Launch) (g : GT) (E : (Nat → Prop) → State → Prop) (hEe : Ee E) (q1_a : Nat) (q1_n : Nat) (q1_f : Nat → Int32) (a2 : Int32) (N : Nat) (z : (Nat → Int32)) (hf : f_Arrays_fillI N q1_n a2 q1_f = some z) : Cg l g E y_Arrays_fillI ws_Arrays_fillI rm_Arrays_fillI [.ref q1_a, .int a2] (wd_Arrays_fillI g q1_a q1_n q1_f) none (wd_Arrays_fillI g q1_a q1_n z) := by
  refine Ct.ofV hEe good_W (by decide) rfl (Nat.le_of_ble_eq_true rfl) ?_
  intro p e s m args below meth c A ls Q hC hw hl hret
  have hC : CX p m c b_Arrays_fillI 4 s args Wall R_Arrays g.1 classes (tK g) E A := hC
  have hl : lv_has ls 4 [(0, .ref q1_a), (1, .int a2)] := hl
  unfold f_Arrays_fillI at hf
  refine n_iconst hC 0 d_Arrays_fillI_0 (by decide) ?_
  refine n_istore_n hC [(2, .int 0), (0, .ref q1_a), (1, .int a2)] hl d_Arrays_fillI_1 rfl (by decide) rfl (fun ls hl => ?_)
  refine n_aload_n hC hl 1 d_Arrays_fillI_2 rfl rfl ?_
  refine n_alen hC hw 0 0 (Int32.ofNat q1_n) rfl rfl rfl d_Arrays_fillI_3 ?_
  refine n_istore_n hC [(3, .int (Int32.ofNat q1_n)), (2, .int 0), (0, .ref q1_a), (1, .int a2)] hl d_Arrays_fillI_4 rfl (by decide) rfl (fun ls hl => ?_)
  have hL5 := lw2 (B := f_Arrays_fillI_L5 q1_n a2) (z := z) (fun (x11 : Int32) (x12 : Nat → Int32) => ∀ (H : Heap) (locs : List Loc) (ls : Array Slot), WS g.1 classes A s.heap H locs (wd_Arrays_fillI g q1_a q1_n x12) → lv_has ls 4 [(3, .int (Int32.ofNat q1_n)), (2, .int x11), (0, .ref q1_a), (1, .int a2)] → W p l e rm_Arrays_fillI s m args below meth c H locs 0 0 Q (F0 m 5 ls [])) (by
    intro k5 hk5 x11 x12 hf H locs ls hw hl
    unfold f_Arrays_fillI_L5 at hf
    refine n_iload_n hC hl 1 d_Arrays_fillI_5 rfl rfl ?_
    refine n_iload_n hC hl 0 d_Arrays_fillI_6 rfl rfl ?_
    refine n_icmp_ge hC hf 20 d_Arrays_fillI_7 (by decide) (fun hf => ?_) (fun hf => ?_)
    · cases hf
      exact hret _ _ _ _ hw d_Arrays_fillI_20
    · refine n_aload_n hC hl 2 d_Arrays_fillI_10 rfl rfl ?_
      refine n_iload_n hC hl 1 d_Arrays_fillI_11 rfl rfl ?_
      refine n_iload_n hC hl 3 d_Arrays_fillI_12 rfl rfl ?_
      refine n_iast hC hw hf 0 0 (fun f15 => wd_Arrays_fillI g q1_a q1_n f15) rfl rfl d_Arrays_fillI_13 (fun _ => rfl) (fun f15 H locs hf hw => ?_)
      refine n_iinc hC (k := 1) hf (by decide) (fun v16 => [(2, .int v16), (3, .int (Int32.ofNat q1_n)), (0, .ref q1_a), (1, .int a2)]) hl d_Arrays_fillI_14 rfl (by decide) (fun _ => rfl) (fun v16 ls hf hl => ?_)
      refine n_goto hC 5 d_Arrays_fillI_17 (by decide) ?_
      exact hk5 _ _ hf _ _ _ hw (lv_sub hl [1, 0, 2, 3] rfl)
    )
  exact hL5 N _ _ hf _ _ _ hw (lv_sub hl [0, 1, 2, 3] rfl)
def wd_Precond_checkIndex (g : GT)  : va_W := []
def f_Precond_checkIndex (a1 : Int32) (a2 : Int32) : Option (Int32) :=
  if a1 < 0 then none else if a1 < a2 then some (a1) else none
def rm_Precond_checkIndex : Room := { frames := 0, cells := 0, slots := 0, locals := 0 }
set_option maxHeartbeats 4000000 in
set_option maxRecDepth 100000 in
theorem c_Precond_checkIndexR (l : Launch) (g : GT) (E : (Nat → Prop) → State → Prop) (hEe : Ee E) (a1 : Int32) (a2 : Int32) (q3_a : Nat) (z : Int32) (hf : f_Precond_checkIndex a1 a2 = some z) : Cg l g E y_Precond_checkIndex ws_Precond_checkIndex rm_Precond_checkIndex [.int a1, .int a2, .ref q3_a] (wd_Precond_checkIndex g) (some (.int z)) (wd_Precond_checkIndex g) := by
  refine Ct.ofI hEe good_W (by decide) rfl (Nat.le_of_ble_eq_true rfl) ?_
  intro p e s m args below meth c A ls Q hC hw hl hret
  have hC : CX p m c b_Precond_checkIndex 3 s args Wall R_Precond g.1 classes (tK g) E A := hC
  have hl : lv_has ls 3 [(0, .int a1), (1, .int a2), (2, .ref q3_a)] := hl
  unfold f_Precond_checkIndex at hf
  refine n_iload_n hC hl 0 d_Precond_checkIndex_0 rfl rfl ?_
  refine n_if_lt hC hf 9 d_Precond_checkIndex_1 (by decide) (fun hf => ?_) (fun hf => ?_)
  · cases hf
  · refine n_iload_n hC hl 0 d_Precond_checkIndex_4 rfl rfl ?_
    refine n_iload_n hC hl 1 d_Precond_checkIndex_5 rfl rfl ?_
    refine n_icmp_lt hC hf 16 d_Precond_checkIndex_6 (by decide) (fun hf => ?_) (fun hf => ?_)
    · refine n_iload_n hC hl 0 d_Precond_checkIndex_16 rfl rfl ?_
      cases hf
      exact hret _ _ _ _ hw rfl d_Precond_checkIndex_17
    · cases hf
set_option maxHeartbeats 4000000 in
set_option maxRecDepth 100000 in
theorem c_Precond_checkIndexN (l : Launch) (g : GT) (E : (Nat → Prop) → State → Prop) (hEe : Ee E) (a1 : Int32) (a2 : Int32) (z : Int32) (hf : f_Precond_checkIndex a1 a2 = some z) : Cg l g E y_Precond_checkIndex ws_Precond_checkIndex rm_Precond_checkIndex [.int a1, .int a2, .null] (wd_Precond_checkIndex g) (some (.int z)) (wd_Precond_checkIndex g) := by
  refine Ct.ofI hEe good_W (by decide) rfl (Nat.le_of_ble_eq_true rfl) ?_
  intro p e s m args below meth c A ls Q hC hw hl hret
  have hC : CX p m c b_Precond_checkIndex 3 s args Wall R_Precond g.1 classes (tK g) E A := hC
  have hl : lv_has ls 3 [(0, .int a1), (1, .int a2), (2, .null)] := hl
  unfold f_Precond_checkIndex at hf
  refine n_iload_n hC hl 0 d_Precond_checkIndex_0 rfl rfl ?_
  refine n_if_lt hC hf 9 d_Precond_checkIndex_1 (by decide) (fun hf => ?_) (fun hf => ?_)
  · cases hf
  · refine n_iload_n hC hl 0 d_Precond_checkIndex_4 rfl rfl ?_
    refine n_iload_n hC hl 1 d_Precond_checkIndex_5 rfl rfl ?_
    refine n_icmp_lt hC hf 16 d_Precond_checkIndex_6 (by decide) (fun hf => ?_) (fun hf => ?_)
    · refine n_iload_n hC hl 0 d_Precond_checkIndex_16 rfl rfl ?_
      cases hf
      exact hret _ _ _ _ hw rfl d_Precond_checkIndex_17
    · cases hf
def wd_String_checkIndex (g : GT)  : va_W := []
def f_String_checkIndex (a1 : Int32) (a2 : Int32) : Option (Unit) :=
  bd_ (f_Precond_checkIndex a1 a2) (fun u3 => some ())
def rm_String_checkIndex : Room := { frames := 1, cells := 0, slots := 0, locals := 22 }
set_option maxHeartbeats 4000000 in
set_option maxRecDepth 100000 in
theorem c_String_checkIndex (l : Launch) (g : GT) (E : (Nat → Prop) → State → Prop) (hEe : Ee E) (hzq : ∀ (A : Nat → Prop) (u : State), E A u → va_Zq "jdk/internal/util/Preconditions" "SIOOBE_FORMATTER" "Ljava/util/function/BiFunction;" A u u.heap) (a1 : Int32) (a2 : Int32) (z : Unit) (hf : f_String_checkIndex a1 a2 = some z) : Cg l g E y_String_checkIndex ws_String_checkIndex rm_String_checkIndex [.int a1, .int a2] (wd_String_checkIndex g) none (wd_String_checkIndex g) := by
  refine Ct.ofV hEe good_W (by decide) rfl (Nat.le_of_ble_eq_true rfl) ?_
  intro p e s m args below meth c A ls Q hC hw hl hret
  have hC : CX p m c b_String_checkIndex 2 s args Wall R_String g.1 classes (tK g) E A := hC
  have hl : lv_has ls 2 [(0, .int a1), (1, .int a2)] := hl
  unfold f_String_checkIndex at hf
  refine n_iload_n hC hl 0 d_String_checkIndex_0 rfl rfl ?_
  refine n_iload_n hC hl 1 d_String_checkIndex_1 rfl rfl ?_
  refine n_getsQ hC hw hzq sl_String_1053 d_String_checkIndex_2 ?_ (fun t1 => ?_)
  · obtain ⟨u3, hu3, hf⟩ := bd_s hf
    refine n_callSi hC hw fc_String_1059 (c_Precond_checkIndexN l g E hEe a1 a2 u3 hu3) [] (wd_String_checkIndex g) ⟨rfl, rfl⟩ ⟨Nat.le_of_ble_eq_true rfl, Nat.le_of_ble_eq_true rfl⟩ rfl At_.nil At_.nil Sm_.refl rfl hl.1 (Nat.le_of_ble_eq_true rfl) ⟨Nat.zero_le _, Nat.zero_le _⟩ d_String_checkIndex_5 (fun H locs hw => ?_) rfl
    refine n_pop hC d_String_checkIndex_8 rfl ?_
    cases hf
    exact hret _ _ _ _ hw d_String_checkIndex_9
  · obtain ⟨u3, hu3, hf⟩ := bd_s hf
    refine n_callSi hC hw fc_String_1059 (c_Precond_checkIndexR l g E hEe a1 a2 t1 u3 hu3) [] (wd_String_checkIndex g) ⟨rfl, rfl⟩ ⟨Nat.le_of_ble_eq_true rfl, Nat.le_of_ble_eq_true rfl⟩ rfl At_.nil At_.nil Sm_.refl rfl hl.1 (Nat.le_of_ble_eq_true rfl) ⟨Nat.zero_le _, Nat.zero_le _⟩ d_String_checkIndex_5 (fun H locs hw => ?_) rfl
    refine n_pop hC d_String_checkIndex_8 rfl ?_
    cases hf
    exact hret _ _ _ _ hw d_String_checkIndex_9
def wd_String_coder (g : GT)  : va_W := []
def f_String_coder  : Option (Int32) :=
  if (1 : Int32) = 0 then some (1) else some (0)
def rm_String_coder : Room := { frames := 0, cells := 0, slots := 0, locals := 0 }
set_option maxHeartbeats 4000000 in
set_option maxRecDepth 100000 in
theorem c_String_coder (l : Launch) (g : GT) (E : (Nat → Prop) → State → Prop) (hEe : Ee E) (t_a t_v t_n : Nat) (t_f : Nat → Int32) (ht : ∀ (A : Nat → Prop) (u : State), E A u → StrAt t_a t_v t_n t_f A u)  (z : Int32) (hf : f_String_coder  = some z) : Cg l g E y_String_coder ws_String_coder rm_String_coder [.ref t_a] (wd_String_coder g) (some (.int z)) (wd_String_coder g) := by
  refine Ct.ofI hEe good_W (by decide) rfl (Nat.le_of_ble_eq_true rfl) ?_
  intro p e s m args below meth c A ls Q hC hw hl hret
  have hC : CX p m c b_String_coder 1 s args Wall R_String g.1 classes (tK g) E A := hC
  have hl : lv_has ls 1 [(0, .ref t_a)] := hl
  unfold f_String_coder at hf
  refine n_gets hC hw (fun A u h => (ht A u h).2.2.2.2.1) sl_String_38 d_String_coder_0 ?_
  refine n_if_eq hC hf 13 d_String_coder_3 (by decide) (fun hf => ?_) (fun hf => ?_)
  · refine n_iconst hC 1 d_String_coder_13 (by decide) ?_
    cases hf
    exact hret _ _ _ _ hw rfl d_String_coder_14
  · refine n_aload_n hC hl 0 d_String_coder_6 rfl rfl ?_
    refine n_sget hC hw (fun A u h => (ht A u h).2.1) sl_String_15 d_String_coder_7 ?_
    refine n_goto hC 14 d_String_coder_10 (by decide) ?_
    cases hf
    exact hret _ _ _ _ hw rfl d_String_coder_14
def wd_String_isLatin1 (g : GT)  : va_W := []
def f_String_isLatin1  : Option (Int32) :=
  if (1 : Int32) = 0 then some (0) else if ¬ (0 : Int32) = 0 then some (0) else some (1)
def rm_String_isLatin1 : Room := { frames := 0, cells := 0, slots := 0, locals := 0 }
set_option maxHeartbeats 4000000 in
set_option maxRecDepth 100000 in
theorem c_String_isLatin1 (l : Launch) (g : GT) (E : (Nat → Prop) → State → Prop) (hEe : Ee E) (t_a t_v t_n : Nat) (t_f : Nat → Int32) (ht : ∀ (A : Nat → Prop) (u : State), E A u → StrAt t_a t_v t_n t_f A u)  (z : Int32) (hf : f_String_isLatin1  = some z) : Cg l g E y_String_isLatin1 ws_String_isLatin1 rm_String_isLatin1 [.ref t_a] (wd_String_isLatin1 g) (some (.int z)) (wd_String_isLatin1 g) := by
  refine Ct.ofI hEe good_W (by decide) rfl (Nat.le_of_ble_eq_true rfl) ?_
  intro p e s m args below meth c A ls Q hC hw hl hret
  have hC : CX p m c b_String_isLatin1 1 s args Wall R_String g.1 classes (tK g) E A := hC
  have hl : lv_has ls 1 [(0, .ref t_a)] := hl
  unfold f_String_isLatin1 at hf
  refine n_gets hC hw (fun A u h => (ht A u h).2.2.2.2.1) sl_String_38 d_String_isLatin1_0 ?_
  refine n_if_eq hC hf 17 d_String_isLatin1_3 (by decide) (fun hf => ?_) (fun hf => ?_)
  · refine n_iconst hC 0 d_String_isLatin1_17 (by decide) ?_
    cases hf
    exact hret _ _ _ _ hw rfl d_String_isLatin1_18
  · refine n_aload_n hC hl 0 d_String_isLatin1_6 rfl rfl ?_
    refine n_sget hC hw (fun A u h => (ht A u h).2.1) sl_String_15 d_String_isLatin1_7 ?_
    refine n_if_ne hC hf 17 d_String_isLatin1_10 (by decide) (fun hf => ?_) (fun hf => ?_)
    · refine n_iconst hC 0 d_String_isLatin1_17 (by decide) ?_
      cases hf
      exact hret _ _ _ _ hw rfl d_String_isLatin1_18
    · refine n_iconst hC 1 d_String_isLatin1_13 (by decide) ?_
      refine n_goto hC 18 d_String_isLatin1_14 (by decide) ?_
      cases hf
      exact hret _ _ _ _ hw rfl d_String_isLatin1_18
def wd_String_length (g : GT)  : va_W := []
def f_String_length (t_n : Nat) : Option (Int32) :=
  bd_ (f_String_coder ) (fun u3 => lt_ (((Int32.ofNat t_n) : Int32) >>> (u3 &&& 31)) (fun v4 => some (v4)))
def rm_String_length : Room := { frames := 1, cells := 0, slots := 0, locals := 20 }
set_option maxHeartbeats 4000000 in
set_option maxRecDepth 100000 in
theorem c_String_length (l : Launch) (g : GT) (E : (Nat → Prop) → State → Prop) (hEe : Ee E) (t_a t_v t_n : Nat) (t_f : Nat → Int32) (ht : ∀ (A : Nat → Prop) (u : State), E A u → StrAt t_a t_v t_n t_f A u)  (z : Int32) (hf : f_String_length t_n = some z) : Cg l g E y_String_length ws_String_length rm_String_length [.ref t_a] (wd_String_length g) (some (.int z)) (wd_String_length g) := by
  refine Ct.ofI hEe good_W (by decide) rfl (Nat.le_of_ble_eq_true rfl) ?_
  intro p e s m args below meth c A ls Q hC hw hl hret
  have hC : CX p m c b_String_length 1 s args Wall R_String g.1 classes (tK g) E A := hC
  have hl : lv_has ls 1 [(0, .ref t_a)] := hl
  unfold f_String_length at hf
  refine n_aload_n hC hl 0 d_String_length_0 rfl rfl ?_
  refine n_sget hC hw (fun A u h => (ht A u h).2.2.1) sl_String_9 d_String_length_1 ?_
  refine n_tlen hC hw (fun A u h => (ht A u h).2.2.2.1) (Int32.ofNat t_n) rfl d_String_length_4 ?_
  refine n_aload_n hC hl 0 d_String_length_5 rfl rfl ?_
  obtain ⟨u3, hu3, hf⟩ := bd_s hf
  refine n_callOi hC hw fc_String_335 (c_String_coder l g E hEe t_a t_v t_n t_f ht  u3 hu3) [] (wd_String_length g) (fun A u h => (ht A u h).1) ⟨rfl, rfl⟩ ⟨Nat.le_of_ble_eq_true rfl, Nat.le_of_ble_eq_true rfl⟩ rfl At_.nil At_.nil Sm_.refl rfl hl.1 (Nat.le_of_ble_eq_true rfl) ⟨Nat.zero_le _, Nat.zero_le _⟩ d_String_length_6 (fun H locs hw => ?_) rfl
  refine n_ishr hC hf d_String_length_9 (fun v4 hf => ?_)
  cases hf
  exact hret _ _ _ _ hw rfl d_String_length_10
def wd_Latin1_charAt (g : GT)  : va_W := []
def f_Latin1_charAt (a2 : Int32) (q1_n : Nat) (q1_f : Nat → Int32) : Option (Int32) :=
  bd_ (f_String_checkIndex a2 (Int32.ofNat q1_n)) (fun u5 => ix_ q1_n q1_f a2 (fun (v6 : Int32) => lt_ (v6 &&& 255) (fun v7 => lt_ ((v7.toUInt32 % 65536).toInt32) (fun v8 => if vp_nar .char v8 = v8 then some (v8) else none))))
def rm_Latin1_charAt : Room := { frames := 2, cells := 0, slots := 0, locals := 43 }
set_option maxHeartbeats 4000000 in
set_option maxRecDepth 100000 in
theorem c_Latin1_charAt (l : Launch) (g : GT) (E : (Nat → Prop) → State → Prop) (hEe : Ee E) (q1_v q1_n : Nat) (q1_f : Nat → Int32) (hq1 : ∀ (A : Nat → Prop) (u : State), E A u → BytAt q1_v q1_n q1_f A u) (a2 : Int32) (z : Int32) (hf : f_Latin1_charAt a2 q1_n q1_f = some z) : Cg l g E y_Latin1_charAt ws_Latin1_charAt rm_Latin1_charAt [.ref q1_v, .int a2] (wd_Latin1_charAt g) (some (.int z)) (wd_Latin1_charAt g) := by
  refine Ct.ofI hEe good_W (by decide) rfl (Nat.le_of_ble_eq_true rfl) ?_
  intro p e s m args below meth c A ls Q hC hw hl hret
  have hC : CX p m c b_Latin1_charAt 2 s args Wall R_Latin1 g.1 classes (tK g) E A := hC
  have hl : lv_has ls 2 [(0, .ref q1_v), (1, .int a2)] := hl
  unfold f_Latin1_charAt at hf
  refine n_iload_n hC hl 1 d_Latin1_charAt_0 rfl rfl ?_
  refine n_aload_n hC hl 0 d_Latin1_charAt_1 rfl rfl ?_
  refine n_tlen hC hw (fun A u h => (hq1 A u h).1) (Int32.ofNat q1_n) rfl d_Latin1_charAt_2 ?_
  obtain ⟨u5, hu5, hf⟩ := bd_s hf
  refine n_callSv hC hw fc_Latin1_9 (c_String_checkIndex l g E hEe (fun A u h => (hq1 A u h).2) a2 (Int32.ofNat q1_n) u5 hu5) [] (wd_Latin1_charAt g) ⟨rfl, rfl⟩ ⟨Nat.le_of_ble_eq_true rfl, Nat.le_of_ble_eq_true rfl⟩ rfl At_.nil At_.nil Sm_.refl rfl hl.1 (Nat.le_of_ble_eq_true rfl) ⟨Nat.zero_le _, Nat.zero_le _⟩ d_Latin1_charAt_3 (fun H locs hw => ?_) rfl
  refine n_aload_n hC hl 0 d_Latin1_charAt_6 rfl rfl ?_
  refine n_iload_n hC hl 1 d_Latin1_charAt_7 rfl rfl ?_
  refine n_tb hC hw hf (fun A u h => (hq1 A u h).1) d_Latin1_charAt_8 (fun v6 hf => ?_)
  refine n_sipush hC 255 d_Latin1_charAt_9 (by decide) ?_
  refine n_iand hC hf d_Latin1_charAt_12 (fun v7 hf => ?_)
  refine n_i2c hC hf d_Latin1_charAt_13 (fun v8 hf => ?_)
  obtain ⟨hnr, hf⟩ := nr_c hf
  cases hf
  exact hret _ _ _ _ hw hnr d_Latin1_charAt_14
def wd_String_charAt (g : GT)  : va_W := []
def f_String_charAt (a1 : Int32) (t_n : Nat) (t_f : Nat → Int32) : Option (Int32) :=
  bd_ (f_String_isLatin1 ) (fun u3 => if u3 = 0 then none else bd_ (f_Latin1_charAt a1 t_n t_f) (fun u4 => if vp_nar .char u4 = u4 then some (u4) else none))
def rm_String_charAt : Room := { frames := 3, cells := 0, slots := 0, locals := 64 }
set_option maxHeartbeats 4000000 in
set_option maxRecDepth 100000 in
theorem c_String_charAt (l : Launch) (g : GT) (E : (Nat → Prop) → State → Prop) (hEe : Ee E) (t_a t_v t_n : Nat) (t_f : Nat → Int32) (ht : ∀ (A : Nat → Prop) (u : State), E A u → StrAt t_a t_v t_n t_f A u) (a1 : Int32) (z : Int32) (hf : f_String_charAt a1 t_n t_f = some z) : Cg l g E y_String_charAt ws_String_charAt rm_String_charAt [.ref t_a, .int a1] (wd_String_charAt g) (some (.int z)) (wd_String_charAt g) := by
  refine Ct.ofI hEe good_W (by decide) rfl (Nat.le_of_ble_eq_true rfl) ?_
  intro p e s m args below meth c A ls Q hC hw hl hret
  have hC : CX p m c b_String_charAt 2 s args Wall R_String g.1 classes (tK g) E A := hC
  have hl : lv_has ls 2 [(0, .ref t_a), (1, .int a1)] := hl
  unfold f_String_charAt at hf
  refine n_aload_n hC hl 0 d_String_charAt_0 rfl rfl ?_
  obtain ⟨u3, hu3, hf⟩ := bd_s hf
  refine n_callOi hC hw fc_String_492 (c_String_isLatin1 l g E hEe t_a t_v t_n t_f ht  u3 hu3) [] (wd_String_charAt g) (fun A u h => (ht A u h).1) ⟨rfl, rfl⟩ ⟨Nat.le_of_ble_eq_true rfl, Nat.le_of_ble_eq_true rfl⟩ rfl At_.nil At_.nil Sm_.refl rfl hl.1 (Nat.le_of_ble_eq_true rfl) ⟨Nat.zero_le _, Nat.zero_le _⟩ d_String_charAt_1 (fun H locs hw => ?_) rfl
  refine n_if_eq hC hf 16 d_String_charAt_4 (by decide) (fun hf => ?_) (fun hf => ?_)
  · cases hf
  · refine n_aload_n hC hl 0 d_String_charAt_7 rfl rfl ?_
    refine n_sget hC hw (fun A u h => (ht A u h).2.2.1) sl_String_9 d_String_charAt_8 ?_
    refine n_iload_n hC hl 1 d_String_charAt_11 rfl rfl ?_
    obtain ⟨u4, hu4, hf⟩ := bd_s hf
    refine n_callSi hC hw fc_String_495 (c_Latin1_charAt l g E hEe t_v t_n t_f (fun A u h => ⟨(ht A u h).2.2.2.1, (ht A u h).2.2.2.2.2⟩) a1 u4 hu4) [] (wd_String_charAt g) ⟨rfl, rfl⟩ ⟨Nat.le_of_ble_eq_true rfl, Nat.le_of_ble_eq_true rfl⟩ rfl At_.nil At_.nil Sm_.refl rfl hl.1 (Nat.le_of_ble_eq_true rfl) ⟨Nat.zero_le _, Nat.zero_le _⟩ d_String_charAt_12 (fun H locs hw => ?_) rfl
    obtain ⟨hnr, hf⟩ := nr_c hf
    cases hf
    exact hret _ _ _ _ hw hnr d_String_charAt_15
