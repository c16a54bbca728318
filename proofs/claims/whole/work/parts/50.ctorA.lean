def f_Store_init (a1 : Int32) : Option (Int32 × Nat × (Nat → Int64)) :=
  lt_ (a1 + 7) (fun v5 => lt_ (v5 / 8) (fun v6 => nw_ 38400 v6 (fun (n8 : Nat) => some (a1, n8, (fun _ => 0)))))
def rm_Store_init : Room := { frames := 1, cells := 1, slots := 38400, locals := 22 }
set_option maxHeartbeats 4000000 in
set_option maxRecDepth 100000 in
theorem c_Store_init (l : Launch) (g : GT) (E : (Nat → Prop) → State → Prop) (hEe : Ee E) (t_o : Nat) (a1 : Int32) (z : Int32 × Nat × (Nat → Int64)) (hf : f_Store_init a1 = some z) : CtA l y_Store_init ws_Store_init rm_Store_init g.1 classes (tK g) E [.ref t_o, .int a1] [(t_o, .inr (0, [.int 0, .null]))] (fun a : Nat => [(t_o, .inr (0, [.int z.1, .ref a])), (a, .inl (g.2.2.1, z.2.1, .inr (.inl z.2.2)))]) 1 38400 := by
  refine CtA.of hEe good_W (by decide) rfl (Nat.le_of_ble_eq_true rfl) ?_
  intro p e s m args below meth c A ls Q hC hin hw hl hret
  have hC : CX p m c b_Store_init 2 s args Wall R_Store g.1 classes (tK g) E A := hC
  have hl : lv_has ls 2 [(0, .ref t_o), (1, .int a1)] := hl
  unfold f_Store_init at hf
  refine n_aload_n hC hl 0 d_Store_init_0 rfl rfl ?_
  refine n_objInit hC oi_Store_3 oi_inst oi_code hl.1 ⟨Nat.le_of_ble_eq_true rfl, Nat.le_of_ble_eq_true rfl⟩ d_Store_init_1 ?_
  refine n_aload_n hC hl 0 d_Store_init_4 rfl rfl ?_
  refine n_iload_n hC hl 1 d_Store_init_5 rfl rfl ?_
  refine n_putF hC hw hin ff_Store_9 0 [(t_o, .inr (0, [.int a1, .null]))] rfl rfl rfl (Nat.le_of_ble_eq_true rfl) d_Store_init_6 rfl (fun H locs hw => ?_)
  refine n_aload_n hC hl 0 d_Store_init_9 rfl rfl ?_
  refine n_iload_n hC hl 1 d_Store_init_10 rfl rfl ?_
  refine n_bipush hC 7 d_Store_init_11 (by decide) ?_
  refine n_iadd hC hf d_Store_init_13 (fun v5 hf => ?_)
  refine n_bipush hC 8 d_Store_init_14 (by decide) ?_
  refine n_idiv hC hf d_Store_init_16 (by decide) (fun v6 hf => ?_)
  obtain ⟨hnn8, hkn8, hf⟩ := nw_s hf
  generalize hNn8 : Int32.toNatClampNeg v6 = n8 at hkn8 hf
  refine n_newa (atype := .long) (ty := .long) hC hw rfl ac_long 1 rfl (fun _ h => h) n8 (n8, .inr (.inl (fun _ => 0))) (fun q7 => [(t_o, .inr (0, [.int a1, .null])), (q7, .inl (g.2.2.1, n8, .inr (.inl (fun _ => 0))))]) (fun _ => rfl) hnn8 hNn8 (show n8 * 8 ≤ 536870912 by omega) (show 0 + 1 ≤ 1 by omega) (show 0 + n8 ≤ 38400 by omega) d_Store_init_17 (fun _ => rfl) (fun q7 H hw => ?_)
  refine n_putF hC hw hin ff_Store_15 0 [(t_o, .inr (0, [.int a1, .ref q7])), (q7, .inl (g.2.2.1, n8, .inr (.inl (fun _ => 0))))] rfl rfl rfl (Nat.le_of_ble_eq_true rfl) d_Store_init_19 rfl (fun H locs hw => ?_)
  cases hf
  refine W.widen (k := 1) (n := 38400) (show 1 ≤ 1 by omega) (show 0 + n8 ≤ 38400 by omega) ?_
  exact hret (q7) _ _ _ _ hw d_Store_init_22
def f_Sums_init_L26 (x110 : Nat → Int32) (x109 : Int32) (k15 : Int32 → (Nat → Int32) → Option (Int32 × (Nat → Int32))) (k26 : Int32 → Int32 → Option (Int32 × (Nat → Int32))) (x145 : Int32) (x146 : Int32) : Option (Int32 × (Nat → Int32)) :=
  if (8 : Int32) ≤ x145 then up_i 256 x110 x109 x146 (fun (f155 : Nat → Int32) => lt_ (x109 + 1) (fun v156 => k15 v156 f155)) else lt_ (x146 &&& 1) (fun v157 => lt_ (fun (x161 : Int32) => lt_ (x145 + 1) (fun v162 => k26 v162 x161)) (fun (j51 : Int32 → Option (Int32 × (Nat → Int32))) => if ¬ v157 = (1 : Int32) then lt_ ((x146.toUInt32 >>> ((1 : Int32).toUInt32 &&& Int32.toUInt32 31)).toInt32) (fun v163 => j51 v163) else lt_ ((x146.toUInt32 >>> ((1 : Int32).toUInt32 &&& Int32.toUInt32 31)).toInt32) (fun v164 => lt_ (v164 ^^^ (-306674912)) (fun v165 => j51 v165))))
def f_Sums_init_L15 (N : Nat)  (k15 : Int32 → (Nat → Int32) → Option (Int32 × (Nat → Int32))) (x109 : Int32) (x110 : Nat → Int32) : Option (Int32 × (Nat → Int32)) :=
  if (256 : Int32) ≤ x109 then some (0, x110) else lp_ (fun _ _ => none) (f_Sums_init_L26 x110 x109 k15) N 0 x109
def f_Sums_init (N : Nat)  : Option (Int32 × (Nat → Int32)) :=
  lp_ (fun _ _ => none) (f_Sums_init_L15 N) N 0 (fun _ => 0)
def rm_Sums_init : Room := { frames := 1, cells := 1, slots := 256, locals := 22 }
set_option maxHeartbeats 4000000 in
set_option maxRecDepth 100000 in
theorem c_Sums_init (l : Launch) (g : GT) (E : (Nat → Prop) → State → Prop) (hEe : Ee E) (t_o : Nat) (N : Nat) (z : Int32 × (Nat → Int32)) (hf : f_Sums_init N = some z) : CtA l y_Sums_init ws_Sums_init rm_Sums_init g.1 classes (tK g) E [.ref t_o] [(t_o, .inr (1, [.null, .int 0]))] (fun a : Nat => [(t_o, .inr (1, [.ref a, .int z.1])), (a, .inl (g.2.1, 256, .inl z.2))]) 1 256 := by
  refine CtA.of hEe good_W (by decide) rfl (Nat.le_of_ble_eq_true rfl) ?_
  intro p e s m args below meth c A ls Q hC hin hw hl hret
  have hC : CX p m c b_Sums_init 4 s args Wall R_Sums g.1 classes (tK g) E A := hC
  have hl : lv_has ls 4 [(0, .ref t_o)] := hl
  unfold f_Sums_init at hf
  refine n_aload_n hC hl 0 d_Sums_init_0 rfl rfl ?_
  refine n_objInit hC oi_Sums_3 oi_inst oi_code hl.1 ⟨Nat.le_of_ble_eq_true rfl, Nat.le_of_ble_eq_true rfl⟩ d_Sums_init_1 ?_
  refine n_aload_n hC hl 0 d_Sums_init_4 rfl rfl ?_
  refine n_sipush hC 256 d_Sums_init_5 (by decide) ?_
  refine n_newa (atype := .int) (ty := .int) hC hw rfl ac_int 0 rfl (fun _ h => h) 256 (256, .inl (fun _ => 0)) (fun q82 => [(t_o, .inr (1, [.null, .int 0])), (q82, .inl (g.2.1, 256, .inl (fun _ => 0)))]) (fun _ => rfl) (by decide) (show Int32.toNatClampNeg 256 = 256 by decide) (show 256 * 4 ≤ 536870912 by omega) (show 0 + 1 ≤ 1 by omega) (show 0 + 256 ≤ 256 by omega) d_Sums_init_8 (fun _ => rfl) (fun q82 H hw => ?_)
  refine n_putF hC hw hin ff_Sums_9 0 [(t_o, .inr (1, [.ref q82, .int 0])), (q82, .inl (g.2.1, 256, .inl (fun _ => 0)))] rfl rfl rfl (Nat.le_of_ble_eq_true rfl) d_Sums_init_10 rfl (fun H locs hw => ?_)
  refine n_iconst hC 0 d_Sums_init_13 (by decide) ?_
  refine n_istore_n hC [(1, .int 0), (0, .ref t_o)] hl d_Sums_init_14 rfl (by decide) rfl (fun ls hl => ?_)
  have hL15 := lw2 (B := f_Sums_init_L15 N) (z := z) (fun (x109 : Int32) (x110 : Nat → Int32) => ∀ (H : Heap) (locs : List Loc) (ls : Array Slot), WS g.1 classes A s.heap H locs [(t_o, .inr (1, [.ref q82, .int 0])), (q82, .inl (g.2.1, 256, .inl x110))] → lv_has ls 4 [(1, .int x109), (0, .ref t_o)] → W p l e rm_Sums_init s m args below meth c H locs 1 (0 + 256) Q (F0 m 15 ls [])) (by
    intro k15 hk15 x109 x110 hf H locs ls hw hl
    unfold f_Sums_init_L15 at hf
    refine n_iload_n hC hl 0 d_Sums_init_15 rfl rfl ?_
    refine n_sipush hC 256 d_Sums_init_16 (by decide) ?_
    refine n_icmp_ge hC hf 71 d_Sums_init_19 (by decide) (fun hf => ?_) (fun hf => ?_)
    · cases hf
      refine W.widen (k := 1) (n := 256) (show 1 ≤ 1 by omega) (show 0 + 256 ≤ 256 by omega) ?_
      exact hret (q82) _ _ _ _ hw d_Sums_init_71
    · refine n_iload_n hC hl 0 d_Sums_init_22 rfl rfl ?_
      refine n_istore_n hC [(2, .int x109), (1, .int x109), (0, .ref t_o)] hl d_Sums_init_23 rfl (by decide) rfl (fun ls hl => ?_)
      refine n_iconst hC 0 d_Sums_init_24 (by decide) ?_
      refine n_istore_n hC [(3, .int 0), (2, .int x109), (1, .int x109), (0, .ref t_o)] hl d_Sums_init_25 rfl (by decide) rfl (fun ls hl => ?_)
      have hL26 := lw2 (B := f_Sums_init_L26 x110 x109 k15) (z := z) (fun (x145 : Int32) (x146 : Int32) => ∀ (H : Heap) (locs : List Loc) (ls : Array Slot), WS g.1 classes A s.heap H locs [(t_o, .inr (1, [.ref q82, .int 0])), (q82, .inl (g.2.1, 256, .inl x110))] → lv_has ls 4 [(3, .int x145), (2, .int x146), (1, .int x109), (0, .ref t_o)] → W p l e rm_Sums_init s m args below meth c H locs 1 (0 + 256) Q (F0 m 26 ls [])) (by
        intro k26 hk26 x145 x146 hf H locs ls hw hl
        unfold f_Sums_init_L26 at hf
        refine n_iload_n hC hl 0 d_Sums_init_26 rfl rfl ?_
        refine n_bipush hC 8 d_Sums_init_27 (by decide) ?_
        refine n_icmp_ge hC hf 58 d_Sums_init_29 (by decide) (fun hf => ?_) (fun hf => ?_)
        · refine n_aload_n hC hl 3 d_Sums_init_58 rfl rfl ?_
          refine n_get hC hw fg_Sums_9 0 rfl rfl d_Sums_init_59 ?_
          refine n_iload_n hC hl 2 d_Sums_init_62 rfl rfl ?_
          refine n_iload_n hC hl 1 d_Sums_init_63 rfl rfl ?_
          refine n_iast hC hw hf 1 0 (fun f155 => [(t_o, .inr (1, [.ref q82, .int 0])), (q82, .inl (g.2.1, 256, .inl f155))]) rfl rfl d_Sums_init_64 (fun _ => rfl) (fun f155 H locs hf hw => ?_)
          refine n_iinc hC (k := 2) hf (by decide) (fun v156 => [(1, .int v156), (3, .int x145), (2, .int x146), (0, .ref t_o)]) hl d_Sums_init_65 rfl (by decide) (fun _ => rfl) (fun v156 ls hf hl => ?_)
          refine n_goto hC 15 d_Sums_init_68 (by decide) ?_
          exact hk15 _ _ hf _ _ _ hw (lv_sub hl [0, 3] rfl)
        · refine n_iload_n hC hl 1 d_Sums_init_32 rfl rfl ?_
          refine n_iconst hC 1 d_Sums_init_33 (by decide) ?_
          refine n_iand hC hf d_Sums_init_34 (fun v157 hf => ?_)
          refine n_iconst hC 1 d_Sums_init_35 (by decide) ?_
          refine jn1 (fun (x161 : Int32) => ∀ (H : Heap) (locs : List Loc) (ls : Array Slot), WS g.1 classes A s.heap H locs [(t_o, .inr (1, [.ref q82, .int 0])), (q82, .inl (g.2.1, 256, .inl x110))] → lv_has ls 4 [(3, .int x145), (1, .int x109), (0, .ref t_o)] → W p l e rm_Sums_init s m args below meth c H locs 1 (0 + 256) Q (F0 m 51 ls [.int x161])) hf (fun x161 hf H locs ls hw hl => ?_) (fun j51 hj51 hf => ?_)
          · refine n_istore_n hC [(2, .int x161), (3, .int x145), (1, .int x109), (0, .ref t_o)] hl d_Sums_init_51 rfl (by decide) rfl (fun ls hl => ?_)
            refine n_iinc hC (k := 1) hf (by decide) (fun v162 => [(3, .int v162), (2, .int x161), (1, .int x109), (0, .ref t_o)]) hl d_Sums_init_52 rfl (by decide) (fun _ => rfl) (fun v162 ls hf hl => ?_)
            refine n_goto hC 26 d_Sums_init_55 (by decide) ?_
            exact hk26 _ _ hf _ _ _ hw (lv_sub hl [0, 1, 2, 3] rfl)
          refine n_icmp_ne hC hf 48 d_Sums_init_36 (by decide) (fun hf => ?_) (fun hf => ?_)
          · refine n_iload_n hC hl 1 d_Sums_init_48 rfl rfl ?_
            refine n_iconst hC 1 d_Sums_init_49 (by decide) ?_
            refine n_iushr hC hf d_Sums_init_50 (fun v163 hf => ?_)
            exact hj51 _ hf _ _ _ hw (lv_sub hl [0, 2, 3] rfl)
          · refine n_iload_n hC hl 1 d_Sums_init_39 rfl rfl ?_
            refine n_iconst hC 1 d_Sums_init_40 (by decide) ?_
            refine n_iushr hC hf d_Sums_init_41 (fun v164 hf => ?_)
            refine n_ldc hC (-306674912) kc_Sums_15 d_Sums_init_42 ?_
            refine n_ixor hC hf d_Sums_init_44 (fun v165 hf => ?_)
            refine n_goto hC 51 d_Sums_init_45 (by decide) ?_
            exact hj51 _ hf _ _ _ hw (lv_sub hl [0, 2, 3] rfl)
        )
      exact hL26 N _ _ hf _ _ _ hw (lv_sub hl [0, 1, 2, 3] rfl)
    )
  exact hL15 N _ _ hf _ _ _ hw (lv_sub hl [0, 1] rfl)
def f_Plan_init (a1 : Int32) : Option (Int32 × Int32 × Int32 × Int32 × (Nat → Int32) × (Nat → Int32) × (Nat → Int32) × (Nat → Int64) × (Nat → Int32) × (Nat → Int32) × (Nat → Int32)) :=
  lt_ (a1 - 33) (fun v17 => lt_ (v17 - 1) (fun v18 => some (v18, 0, 0, 0, (fun _ => 0), (fun _ => 0), (fun _ => 0), (fun _ => 0), (fun _ => 0), (fun _ => 0), (fun _ => 0))))
def rm_Plan_init : Room := { frames := 1, cells := 7, slots := 60, locals := 22 }
set_option maxHeartbeats 4000000 in
set_option maxRecDepth 100000 in
theorem c_Plan_init (l : Launch) (g : GT) (E : (Nat → Prop) → State → Prop) (hEe : Ee E) (t_o : Nat) (a1 : Int32) (z : Int32 × Int32 × Int32 × Int32 × (Nat → Int32) × (Nat → Int32) × (Nat → Int32) × (Nat → Int64) × (Nat → Int32) × (Nat → Int32) × (Nat → Int32)) (hf : f_Plan_init a1 = some z) : CtA l y_Plan_init ws_Plan_init rm_Plan_init g.1 classes (tK g) E [.ref t_o, .int a1] [(t_o, .inr (2, [.int 0, .null, .null, .null, .int 0, .null, .null, .null, .null, .int 0, .int 0]))] (fun a : Nat × Nat × Nat × Nat × Nat × Nat × Nat => [(t_o, .inr (2, [.int z.1, .ref a.1, .ref a.2.1, .ref a.2.2.1, .int z.2.1, .ref a.2.2.2.1, .ref a.2.2.2.2.1, .ref a.2.2.2.2.2.1, .ref a.2.2.2.2.2.2, .int z.2.2.1, .int z.2.2.2.1])), (a.1, .inl (g.2.1, 4, .inl z.2.2.2.2.1)), (a.2.1, .inl (g.2.1, 4, .inl z.2.2.2.2.2.1)), (a.2.2.1, .inl (g.2.1, 4, .inl z.2.2.2.2.2.2.1)), (a.2.2.2.1, .inl (g.2.2.1, 12, .inr (.inl z.2.2.2.2.2.2.2.1))), (a.2.2.2.2.1, .inl (g.2.1, 12, .inl z.2.2.2.2.2.2.2.2.1)), (a.2.2.2.2.2.1, .inl (g.2.1, 12, .inl z.2.2.2.2.2.2.2.2.2.1)), (a.2.2.2.2.2.2, .inl (g.2.2.2.1, 12, .inl z.2.2.2.2.2.2.2.2.2.2))]) 7 60 := by
  refine CtA.of hEe good_W (by decide) rfl (Nat.le_of_ble_eq_true rfl) ?_
  intro p e s m args below meth c A ls Q hC hin hw hl hret
  have hC : CX p m c b_Plan_init 2 s args Wall R_Plan g.1 classes (tK g) E A := hC
  have hl : lv_has ls 2 [(0, .ref t_o), (1, .int a1)] := hl
  unfold f_Plan_init at hf
  refine n_aload_n hC hl 0 d_Plan_init_0 rfl rfl ?_
  refine n_objInit hC oi_Plan_3 oi_inst oi_code hl.1 ⟨Nat.le_of_ble_eq_true rfl, Nat.le_of_ble_eq_true rfl⟩ d_Plan_init_1 ?_
  refine n_aload_n hC hl 0 d_Plan_init_4 rfl rfl ?_
  refine n_iconst hC 4 d_Plan_init_5 (by decide) ?_
  refine n_newa (atype := .int) (ty := .int) hC hw rfl ac_int 0 rfl (fun _ h => h) 4 (4, .inl (fun _ => 0)) (fun q10 => [(t_o, .inr (2, [.int 0, .null, .null, .null, .int 0, .null, .null, .null, .null, .int 0, .int 0])), (q10, .inl (g.2.1, 4, .inl (fun _ => 0)))]) (fun _ => rfl) (by decide) (show Int32.toNatClampNeg 4 = 4 by decide) (show 4 * 4 ≤ 536870912 by omega) (show 0 + 1 ≤ 7 by omega) (show 0 + 4 ≤ 60 by omega) d_Plan_init_6 (fun _ => rfl) (fun q10 H hw => ?_)
  refine n_putF hC hw hin ff_Plan_11 0 [(t_o, .inr (2, [.int 0, .ref q10, .null, .null, .int 0, .null, .null, .null, .null, .int 0, .int 0])), (q10, .inl (g.2.1, 4, .inl (fun _ => 0)))] rfl rfl rfl (Nat.le_of_ble_eq_true rfl) d_Plan_init_8 rfl (fun H locs hw => ?_)
  refine n_aload_n hC hl 0 d_Plan_init_11 rfl rfl ?_
  refine n_iconst hC 4 d_Plan_init_12 (by decide) ?_
  refine n_newa (atype := .int) (ty := .int) hC hw rfl ac_int 0 rfl (fun _ h => h) 4 (4, .inl (fun _ => 0)) (fun q11 => [(t_o, .inr (2, [.int 0, .ref q10, .null, .null, .int 0, .null, .null, .null, .null, .int 0, .int 0])), (q10, .inl (g.2.1, 4, .inl (fun _ => 0))), (q11, .inl (g.2.1, 4, .inl (fun _ => 0)))]) (fun _ => rfl) (by decide) (show Int32.toNatClampNeg 4 = 4 by decide) (show 4 * 4 ≤ 536870912 by omega) (show 1 + 1 ≤ 7 by omega) (show 0 + 4 + 4 ≤ 60 by omega) d_Plan_init_13 (fun _ => rfl) (fun q11 H hw => ?_)
  refine n_putF hC hw hin ff_Plan_15 0 [(t_o, .inr (2, [.int 0, .ref q10, .ref q11, .null, .int 0, .null, .null, .null, .null, .int 0, .int 0])), (q10, .inl (g.2.1, 4, .inl (fun _ => 0))), (q11, .inl (g.2.1, 4, .inl (fun _ => 0)))] rfl rfl rfl (Nat.le_of_ble_eq_true rfl) d_Plan_init_15 rfl (fun H locs hw => ?_)
  refine n_aload_n hC hl 0 d_Plan_init_18 rfl rfl ?_
  refine n_iconst hC 4 d_Plan_init_19 (by decide) ?_
  refine n_newa (atype := .int) (ty := .int) hC hw rfl ac_int 0 rfl (fun _ h => h) 4 (4, .inl (fun _ => 0)) (fun q12 => [(t_o, .inr (2, [.int 0, .ref q10, .ref q11, .null, .int 0, .null, .null, .null, .null, .int 0, .int 0])), (q10, .inl (g.2.1, 4, .inl (fun _ => 0))), (q11, .inl (g.2.1, 4, .inl (fun _ => 0))), (q12, .inl (g.2.1, 4, .inl (fun _ => 0)))]) (fun _ => rfl) (by decide) (show Int32.toNatClampNeg 4 = 4 by decide) (show 4 * 4 ≤ 536870912 by omega) (show 2 + 1 ≤ 7 by omega) (show 0 + 4 + 4 + 4 ≤ 60 by omega) d_Plan_init_20 (fun _ => rfl) (fun q12 H hw => ?_)
  refine n_putF hC hw hin ff_Plan_18 0 [(t_o, .inr (2, [.int 0, .ref q10, .ref q11, .ref q12, .int 0, .null, .null, .null, .null, .int 0, .int 0])), (q10, .inl (g.2.1, 4, .inl (fun _ => 0))), (q11, .inl (g.2.1, 4, .inl (fun _ => 0))), (q12, .inl (g.2.1, 4, .inl (fun _ => 0)))] rfl rfl rfl (Nat.le_of_ble_eq_true rfl) d_Plan_init_22 rfl (fun H locs hw => ?_)
  refine n_aload_n hC hl 0 d_Plan_init_25 rfl rfl ?_
  refine n_bipush hC 12 d_Plan_init_26 (by decide) ?_
  refine n_newa (atype := .long) (ty := .long) hC hw rfl ac_long 1 rfl (fun _ h => h) 12 (12, .inr (.inl (fun _ => 0))) (fun q13 => [(t_o, .inr (2, [.int 0, .ref q10, .ref q11, .ref q12, .int 0, .null, .null, .null, .null, .int 0, .int 0])), (q10, .inl (g.2.1, 4, .inl (fun _ => 0))), (q11, .inl (g.2.1, 4, .inl (fun _ => 0))), (q12, .inl (g.2.1, 4, .inl (fun _ => 0))), (q13, .inl (g.2.2.1, 12, .inr (.inl (fun _ => 0))))]) (fun _ => rfl) (by decide) (show Int32.toNatClampNeg 12 = 12 by decide) (show 12 * 8 ≤ 536870912 by omega) (show 3 + 1 ≤ 7 by omega) (show 0 + 4 + 4 + 4 + 12 ≤ 60 by omega) d_Plan_init_28 (fun _ => rfl) (fun q13 H hw => ?_)
  refine n_putF hC hw hin ff_Plan_21 0 [(t_o, .inr (2, [.int 0, .ref q10, .ref q11, .ref q12, .int 0, .ref q13, .null, .null, .null, .int 0, .int 0])), (q10, .inl (g.2.1, 4, .inl (fun _ => 0))), (q11, .inl (g.2.1, 4, .inl (fun _ => 0))), (q12, .inl (g.2.1, 4, .inl (fun _ => 0))), (q13, .inl (g.2.2.1, 12, .inr (.inl (fun _ => 0))))] rfl rfl rfl (Nat.le_of_ble_eq_true rfl) d_Plan_init_30 rfl (fun H locs hw => ?_)
  refine n_aload_n hC hl 0 d_Plan_init_33 rfl rfl ?_
  refine n_bipush hC 12 d_Plan_init_34 (by decide) ?_
  refine n_newa (atype := .int) (ty := .int) hC hw rfl ac_int 0 rfl (fun _ h => h) 12 (12, .inl (fun _ => 0)) (fun q14 => [(t_o, .inr (2, [.int 0, .ref q10, .ref q11, .ref q12, .int 0, .ref q13, .null, .null, .null, .int 0, .int 0])), (q10, .inl (g.2.1, 4, .inl (fun _ => 0))), (q11, .inl (g.2.1, 4, .inl (fun _ => 0))), (q12, .inl (g.2.1, 4, .inl (fun _ => 0))), (q13, .inl (g.2.2.1, 12, .inr (.inl (fun _ => 0)))), (q14, .inl (g.2.1, 12, .inl (fun _ => 0)))]) (fun _ => rfl) (by decide) (show Int32.toNatClampNeg 12 = 12 by decide) (show 12 * 4 ≤ 536870912 by omega) (show 4 + 1 ≤ 7 by omega) (show 0 + 4 + 4 + 4 + 12 + 12 ≤ 60 by omega) d_Plan_init_36 (fun _ => rfl) (fun q14 H hw => ?_)
  refine n_putF hC hw hin ff_Plan_25 0 [(t_o, .inr (2, [.int 0, .ref q10, .ref q11, .ref q12, .int 0, .ref q13, .ref q14, .null, .null, .int 0, .int 0])), (q10, .inl (g.2.1, 4, .inl (fun _ => 0))), (q11, .inl (g.2.1, 4, .inl (fun _ => 0))), (q12, .inl (g.2.1, 4, .inl (fun _ => 0))), (q13, .inl (g.2.2.1, 12, .inr (.inl (fun _ => 0)))), (q14, .inl (g.2.1, 12, .inl (fun _ => 0)))] rfl rfl rfl (Nat.le_of_ble_eq_true rfl) d_Plan_init_38 rfl (fun H locs hw => ?_)
  refine n_aload_n hC hl 0 d_Plan_init_41 rfl rfl ?_
  refine n_bipush hC 12 d_Plan_init_42 (by decide) ?_
  refine n_newa (atype := .int) (ty := .int) hC hw rfl ac_int 0 rfl (fun _ h => h) 12 (12, .inl (fun _ => 0)) (fun q15 => [(t_o, .inr (2, [.int 0, .ref q10, .ref q11, .ref q12, .int 0, .ref q13, .ref q14, .null, .null, .int 0, .int 0])), (q10, .inl (g.2.1, 4, .inl (fun _ => 0))), (q11, .inl (g.2.1, 4, .inl (fun _ => 0))), (q12, .inl (g.2.1, 4, .inl (fun _ => 0))), (q13, .inl (g.2.2.1, 12, .inr (.inl (fun _ => 0)))), (q14, .inl (g.2.1, 12, .inl (fun _ => 0))), (q15, .inl (g.2.1, 12, .inl (fun _ => 0)))]) (fun _ => rfl) (by decide) (show Int32.toNatClampNeg 12 = 12 by decide) (show 12 * 4 ≤ 536870912 by omega) (show 5 + 1 ≤ 7 by omega) (show 0 + 4 + 4 + 4 + 12 + 12 + 12 ≤ 60 by omega) d_Plan_init_44 (fun _ => rfl) (fun q15 H hw => ?_)
  refine n_putF hC hw hin ff_Plan_28 0 [(t_o, .inr (2, [.int 0, .ref q10, .ref q11, .ref q12, .int 0, .ref q13, .ref q14, .ref q15, .null, .int 0, .int 0])), (q10, .inl (g.2.1, 4, .inl (fun _ => 0))), (q11, .inl (g.2.1, 4, .inl (fun _ => 0))), (q12, .inl (g.2.1, 4, .inl (fun _ => 0))), (q13, .inl (g.2.2.1, 12, .inr (.inl (fun _ => 0)))), (q14, .inl (g.2.1, 12, .inl (fun _ => 0))), (q15, .inl (g.2.1, 12, .inl (fun _ => 0)))] rfl rfl rfl (Nat.le_of_ble_eq_true rfl) d_Plan_init_46 rfl (fun H locs hw => ?_)
  refine n_aload_n hC hl 0 d_Plan_init_49 rfl rfl ?_
  refine n_bipush hC 12 d_Plan_init_50 (by decide) ?_
  refine n_newa (atype := .boolean) (ty := .boolean) hC hw rfl ac_boolean 2 rfl (fun _ h => h) 12 (12, .inl (fun _ => 0)) (fun q16 => [(t_o, .inr (2, [.int 0, .ref q10, .ref q11, .ref q12, .int 0, .ref q13, .ref q14, .ref q15, .null, .int 0, .int 0])), (q10, .inl (g.2.1, 4, .inl (fun _ => 0))), (q11, .inl (g.2.1, 4, .inl (fun _ => 0))), (q12, .inl (g.2.1, 4, .inl (fun _ => 0))), (q13, .inl (g.2.2.1, 12, .inr (.inl (fun _ => 0)))), (q14, .inl (g.2.1, 12, .inl (fun _ => 0))), (q15, .inl (g.2.1, 12, .inl (fun _ => 0))), (q16, .inl (g.2.2.2.1, 12, .inl (fun _ => 0)))]) (fun _ => rfl) (by decide) (show Int32.toNatClampNeg 12 = 12 by decide) (show 12 * 1 ≤ 536870912 by omega) (show 6 + 1 ≤ 7 by omega) (show 0 + 4 + 4 + 4 + 12 + 12 + 12 + 12 ≤ 60 by omega) d_Plan_init_52 (fun _ => rfl) (fun q16 H hw => ?_)
  refine n_putF hC hw hin ff_Plan_31 0 [(t_o, .inr (2, [.int 0, .ref q10, .ref q11, .ref q12, .int 0, .ref q13, .ref q14, .ref q15, .ref q16, .int 0, .int 0])), (q10, .inl (g.2.1, 4, .inl (fun _ => 0))), (q11, .inl (g.2.1, 4, .inl (fun _ => 0))), (q12, .inl (g.2.1, 4, .inl (fun _ => 0))), (q13, .inl (g.2.2.1, 12, .inr (.inl (fun _ => 0)))), (q14, .inl (g.2.1, 12, .inl (fun _ => 0))), (q15, .inl (g.2.1, 12, .inl (fun _ => 0))), (q16, .inl (g.2.2.2.1, 12, .inl (fun _ => 0)))] rfl rfl rfl (Nat.le_of_ble_eq_true rfl) d_Plan_init_54 rfl (fun H locs hw => ?_)
  refine n_aload_n hC hl 0 d_Plan_init_57 rfl rfl ?_
  refine n_iload_n hC hl 1 d_Plan_init_58 rfl rfl ?_
  refine n_bipush hC 33 d_Plan_init_59 (by decide) ?_
  refine n_isub hC hf d_Plan_init_61 (fun v17 hf => ?_)
  refine n_iconst hC 1 d_Plan_init_62 (by decide) ?_
  refine n_isub hC hf d_Plan_init_63 (fun v18 hf => ?_)
  refine n_putF hC hw hin ff_Plan_35 0 [(t_o, .inr (2, [.int v18, .ref q10, .ref q11, .ref q12, .int 0, .ref q13, .ref q14, .ref q15, .ref q16, .int 0, .int 0])), (q10, .inl (g.2.1, 4, .inl (fun _ => 0))), (q11, .inl (g.2.1, 4, .inl (fun _ => 0))), (q12, .inl (g.2.1, 4, .inl (fun _ => 0))), (q13, .inl (g.2.2.1, 12, .inr (.inl (fun _ => 0)))), (q14, .inl (g.2.1, 12, .inl (fun _ => 0))), (q15, .inl (g.2.1, 12, .inl (fun _ => 0))), (q16, .inl (g.2.2.2.1, 12, .inl (fun _ => 0)))] rfl rfl rfl (Nat.le_of_ble_eq_true rfl) d_Plan_init_64 rfl (fun H locs hw => ?_)
  cases hf
  refine W.widen (k := 7) (n := 60) (show 7 ≤ 7 by omega) (show 0 + 4 + 4 + 4 + 12 + 12 + 12 + 12 ≤ 60 by omega) ?_
  exact hret (q10, q11, q12, q13, q14, q15, q16) _ _ _ _ hw d_Plan_init_67
def f_Volume_init (a1 : Int32) : Option (Int32 × Int32 × Int32 × Int32 × Int32 × (Nat → Int32) × (Nat → Int32) × (Nat → Int32) × Nat × (Nat → Int32)) :=
  nw_ 600 a1 (fun (n10 : Nat) => some (0, 0, 0, 0, 0, (fun _ => 0), (fun _ => 0), (fun _ => 0), n10, (fun _ => 0)))
def rm_Volume_init : Room := { frames := 1, cells := 4, slots := 652, locals := 22 }
set_option maxHeartbeats 4000000 in
set_option maxRecDepth 100000 in
theorem c_Volume_init (l : Launch) (g : GT) (E : (Nat → Prop) → State → Prop) (hEe : Ee E) (t_o : Nat) (a1 : Int32) (z : Int32 × Int32 × Int32 × Int32 × Int32 × (Nat → Int32) × (Nat → Int32) × (Nat → Int32) × Nat × (Nat → Int32)) (hf : f_Volume_init a1 = some z) : CtA l y_Volume_init ws_Volume_init rm_Volume_init g.1 classes (tK g) E [.ref t_o, .int a1] [(t_o, .inr (3, [.int 0, .int 0, .int 0, .int 0, .null, .null, .null, .null, .int 0]))] (fun a : Nat × Nat × Nat × Nat => [(t_o, .inr (3, [.int z.1, .int z.2.1, .int z.2.2.1, .int z.2.2.2.1, .ref a.2.2.2, .ref a.1, .ref a.2.1, .ref a.2.2.1, .int z.2.2.2.2.1])), (a.1, .inl (g.2.1, 12, .inl z.2.2.2.2.2.1)), (a.2.1, .inl (g.2.1, 20, .inl z.2.2.2.2.2.2.1)), (a.2.2.1, .inl (g.2.1, 20, .inl z.2.2.2.2.2.2.2.1)), (a.2.2.2, .inl (g.2.1, z.2.2.2.2.2.2.2.2.1, .inl z.2.2.2.2.2.2.2.2.2))]) 4 652 := by
  refine CtA.of hEe good_W (by decide) rfl (Nat.le_of_ble_eq_true rfl) ?_
  intro p e s m args below meth c A ls Q hC hin hw hl hret
  have hC : CX p m c b_Volume_init 2 s args Wall R_Volume g.1 classes (tK g) E A := hC
  have hl : lv_has ls 2 [(0, .ref t_o), (1, .int a1)] := hl
  unfold f_Volume_init at hf
  refine n_aload_n hC hl 0 d_Volume_init_0 rfl rfl ?_
  refine n_objInit hC oi_Volume_3 oi_inst oi_code hl.1 ⟨Nat.le_of_ble_eq_true rfl, Nat.le_of_ble_eq_true rfl⟩ d_Volume_init_1 ?_
  refine n_aload_n hC hl 0 d_Volume_init_4 rfl rfl ?_
  refine n_bipush hC 12 d_Volume_init_5 (by decide) ?_
  refine n_newa (atype := .int) (ty := .int) hC hw rfl ac_int 0 rfl (fun _ h => h) 12 (12, .inl (fun _ => 0)) (fun q6 => [(t_o, .inr (3, [.int 0, .int 0, .int 0, .int 0, .null, .null, .null, .null, .int 0])), (q6, .inl (g.2.1, 12, .inl (fun _ => 0)))]) (fun _ => rfl) (by decide) (show Int32.toNatClampNeg 12 = 12 by decide) (show 12 * 4 ≤ 536870912 by omega) (show 0 + 1 ≤ 4 by omega) (show 0 + 12 ≤ 652 by omega) d_Volume_init_7 (fun _ => rfl) (fun q6 H hw => ?_)
  refine n_putF hC hw hin ff_Volume_9 0 [(t_o, .inr (3, [.int 0, .int 0, .int 0, .int 0, .null, .ref q6, .null, .null, .int 0])), (q6, .inl (g.2.1, 12, .inl (fun _ => 0)))] rfl rfl rfl (Nat.le_of_ble_eq_true rfl) d_Volume_init_9 rfl (fun H locs hw => ?_)
  refine n_aload_n hC hl 0 d_Volume_init_12 rfl rfl ?_
  refine n_bipush hC 20 d_Volume_init_13 (by decide) ?_
  refine n_newa (atype := .int) (ty := .int) hC hw rfl ac_int 0 rfl (fun _ h => h) 20 (20, .inl (fun _ => 0)) (fun q7 => [(t_o, .inr (3, [.int 0, .int 0, .int 0, .int 0, .null, .ref q6, .null, .null, .int 0])), (q6, .inl (g.2.1, 12, .inl (fun _ => 0))), (q7, .inl (g.2.1, 20, .inl (fun _ => 0)))]) (fun _ => rfl) (by decide) (show Int32.toNatClampNeg 20 = 20 by decide) (show 20 * 4 ≤ 536870912 by omega) (show 1 + 1 ≤ 4 by omega) (show 0 + 12 + 20 ≤ 652 by omega) d_Volume_init_15 (fun _ => rfl) (fun q7 H hw => ?_)
  refine n_putF hC hw hin ff_Volume_15 0 [(t_o, .inr (3, [.int 0, .int 0, .int 0, .int 0, .null, .ref q6, .ref q7, .null, .int 0])), (q6, .inl (g.2.1, 12, .inl (fun _ => 0))), (q7, .inl (g.2.1, 20, .inl (fun _ => 0)))] rfl rfl rfl (Nat.le_of_ble_eq_true rfl) d_Volume_init_17 rfl (fun H locs hw => ?_)
  refine n_aload_n hC hl 0 d_Volume_init_20 rfl rfl ?_
  refine n_bipush hC 20 d_Volume_init_21 (by decide) ?_
  refine n_newa (atype := .int) (ty := .int) hC hw rfl ac_int 0 rfl (fun _ h => h) 20 (20, .inl (fun _ => 0)) (fun q8 => [(t_o, .inr (3, [.int 0, .int 0, .int 0, .int 0, .null, .ref q6, .ref q7, .null, .int 0])), (q6, .inl (g.2.1, 12, .inl (fun _ => 0))), (q7, .inl (g.2.1, 20, .inl (fun _ => 0))), (q8, .inl (g.2.1, 20, .inl (fun _ => 0)))]) (fun _ => rfl) (by decide) (show Int32.toNatClampNeg 20 = 20 by decide) (show 20 * 4 ≤ 536870912 by omega) (show 2 + 1 ≤ 4 by omega) (show 0 + 12 + 20 + 20 ≤ 652 by omega) d_Volume_init_23 (fun _ => rfl) (fun q8 H hw => ?_)
  refine n_putF hC hw hin ff_Volume_18 0 [(t_o, .inr (3, [.int 0, .int 0, .int 0, .int 0, .null, .ref q6, .ref q7, .ref q8, .int 0])), (q6, .inl (g.2.1, 12, .inl (fun _ => 0))), (q7, .inl (g.2.1, 20, .inl (fun _ => 0))), (q8, .inl (g.2.1, 20, .inl (fun _ => 0)))] rfl rfl rfl (Nat.le_of_ble_eq_true rfl) d_Volume_init_25 rfl (fun H locs hw => ?_)
  refine n_aload_n hC hl 0 d_Volume_init_28 rfl rfl ?_
  refine n_iload_n hC hl 1 d_Volume_init_29 rfl rfl ?_
  obtain ⟨hnn10, hkn10, hf⟩ := nw_s hf
  generalize hNn10 : Int32.toNatClampNeg a1 = n10 at hkn10 hf
  refine n_newa (atype := .int) (ty := .int) hC hw rfl ac_int 0 rfl (fun _ h => h) n10 (n10, .inl (fun _ => 0)) (fun q9 => [(t_o, .inr (3, [.int 0, .int 0, .int 0, .int 0, .null, .ref q6, .ref q7, .ref q8, .int 0])), (q6, .inl (g.2.1, 12, .inl (fun _ => 0))), (q7, .inl (g.2.1, 20, .inl (fun _ => 0))), (q8, .inl (g.2.1, 20, .inl (fun _ => 0))), (q9, .inl (g.2.1, n10, .inl (fun _ => 0)))]) (fun _ => rfl) hnn10 hNn10 (show n10 * 4 ≤ 536870912 by omega) (show 3 + 1 ≤ 4 by omega) (show 0 + 12 + 20 + 20 + n10 ≤ 652 by omega) d_Volume_init_30 (fun _ => rfl) (fun q9 H hw => ?_)
  refine n_putF hC hw hin ff_Volume_21 0 [(t_o, .inr (3, [.int 0, .int 0, .int 0, .int 0, .ref q9, .ref q6, .ref q7, .ref q8, .int 0])), (q6, .inl (g.2.1, 12, .inl (fun _ => 0))), (q7, .inl (g.2.1, 20, .inl (fun _ => 0))), (q8, .inl (g.2.1, 20, .inl (fun _ => 0))), (q9, .inl (g.2.1, n10, .inl (fun _ => 0)))] rfl rfl rfl (Nat.le_of_ble_eq_true rfl) d_Volume_init_32 rfl (fun H locs hw => ?_)
  cases hf
  refine W.widen (k := 4) (n := 652) (show 4 ≤ 4 by omega) (show 0 + 12 + 20 + 20 + n10 ≤ 652 by omega) ?_
  exact hret (q6, q7, q8, q9) _ _ _ _ hw d_Volume_init_35
def f_Writer_init (a2 : Int32) : Option (Int32 × Int32 × Int32 × Int32 × Int32 × Int32 × (Nat → Int32) × (Nat → Int32) × (Nat → Int32) × Nat × (Nat → Int32)) :=
  bd_ (f_Volume_init a2) (fun u5 => some (a2, u5.1, u5.2.1, u5.2.2.1, u5.2.2.2.1, u5.2.2.2.2.1, u5.2.2.2.2.2.1, u5.2.2.2.2.2.2.1, u5.2.2.2.2.2.2.2.1, u5.2.2.2.2.2.2.2.2.1, u5.2.2.2.2.2.2.2.2.2))
def rm_Writer_init : Room := { frames := 2, cells := 5, slots := 661, locals := 43 }
set_option maxHeartbeats 4000000 in
set_option maxRecDepth 100000 in
theorem c_Writer_init (l : Launch) (g : GT) (E : (Nat → Prop) → State → Prop) (hEe : Ee E) (t_o : Nat) (q1_o : Nat) (a2 : Int32) (q3_o : Nat) (q4_o : Nat) (z : Int32 × Int32 × Int32 × Int32 × Int32 × Int32 × (Nat → Int32) × (Nat → Int32) × (Nat → Int32) × Nat × (Nat → Int32)) (hf : f_Writer_init a2 = some z) : CtA l y_Writer_init ws_Writer_init rm_Writer_init g.1 classes (tK g) E [.ref t_o, .ref q1_o, .int a2, .ref q3_o, .ref q4_o] [(t_o, .inr (4, [.null, .int 0, .null, .null, .null]))] (fun a : Nat × Nat × Nat × Nat × Nat => [(t_o, .inr (4, [.ref q1_o, .int z.1, .ref q3_o, .ref q4_o, .ref a.1])), (a.1, .inr (3, [.int z.2.1, .int z.2.2.1, .int z.2.2.2.1, .int z.2.2.2.2.1, .ref a.2.2.2.2, .ref a.2.1, .ref a.2.2.1, .ref a.2.2.2.1, .int z.2.2.2.2.2.1])), (a.2.1, .inl (g.2.1, 12, .inl z.2.2.2.2.2.2.1)), (a.2.2.1, .inl (g.2.1, 20, .inl z.2.2.2.2.2.2.2.1)), (a.2.2.2.1, .inl (g.2.1, 20, .inl z.2.2.2.2.2.2.2.2.1)), (a.2.2.2.2, .inl (g.2.1, z.2.2.2.2.2.2.2.2.2.1, .inl z.2.2.2.2.2.2.2.2.2.2))]) 5 661 := by
  refine CtA.of hEe good_W (by decide) rfl (Nat.le_of_ble_eq_true rfl) ?_
  intro p e s m args below meth c A ls Q hC hin hw hl hret
  have hC : CX p m c b_Writer_init 5 s args Wall R_Writer g.1 classes (tK g) E A := hC
  have hl : lv_has ls 5 [(0, .ref t_o), (1, .ref q1_o), (2, .int a2), (3, .ref q3_o), (4, .ref q4_o)] := hl
  unfold f_Writer_init at hf
  refine n_aload_n hC hl 0 d_Writer_init_0 rfl rfl ?_
  refine n_objInit hC oi_Writer_3 oi_inst oi_code hl.1 ⟨Nat.le_of_ble_eq_true rfl, Nat.le_of_ble_eq_true rfl⟩ d_Writer_init_1 ?_
  refine n_aload_n hC hl 0 d_Writer_init_4 rfl rfl ?_
  refine n_aload_n hC hl 1 d_Writer_init_5 rfl rfl ?_
  refine n_putF hC hw hin ff_Writer_9 0 [(t_o, .inr (4, [.ref q1_o, .int 0, .null, .null, .null]))] rfl rfl rfl (Nat.le_of_ble_eq_true rfl) d_Writer_init_6 rfl (fun H locs hw => ?_)
  refine n_aload_n hC hl 0 d_Writer_init_9 rfl rfl ?_
  refine n_iload_n hC hl 2 d_Writer_init_10 rfl rfl ?_
  refine n_putF hC hw hin ff_Writer_15 0 [(t_o, .inr (4, [.ref q1_o, .int a2, .null, .null, .null]))] rfl rfl rfl (Nat.le_of_ble_eq_true rfl) d_Writer_init_11 rfl (fun H locs hw => ?_)
  refine n_aload_n hC hl 0 d_Writer_init_14 rfl rfl ?_
  refine n_aload_n hC hl 3 d_Writer_init_15 rfl rfl ?_
  refine n_putF hC hw hin ff_Writer_19 0 [(t_o, .inr (4, [.ref q1_o, .int a2, .ref q3_o, .null, .null]))] rfl rfl rfl (Nat.le_of_ble_eq_true rfl) d_Writer_init_16 rfl (fun H locs hw => ?_)
  refine n_aload_n hC hl 0 d_Writer_init_19 rfl rfl ?_
  refine n_aload hC hl 4 d_Writer_init_20 rfl ?_
  refine n_putF hC hw hin ff_Writer_23 0 [(t_o, .inr (4, [.ref q1_o, .int a2, .ref q3_o, .ref q4_o, .null]))] rfl rfl rfl (Nat.le_of_ble_eq_true rfl) d_Writer_init_22 rfl (fun H locs hw => ?_)
  refine n_aload_n hC hl 0 d_Writer_init_25 rfl rfl ?_
  refine n_new hC hw fn_Writer_27 (fun q4 => [(t_o, .inr (4, [.ref q1_o, .int a2, .ref q3_o, .ref q4_o, .null])), (q4, .inr (3, [.int 0, .int 0, .int 0, .int 0, .null, .null, .null, .null, .int 0]))]) (show 0 + 1 ≤ 5 by omega) (show 0 + 9 ≤ 661 by omega) d_Writer_init_26 (fun _ => rfl) (fun q4 H hw => ?_)
  refine n_dup hC d_Writer_init_29 rfl ?_
  refine n_iload_n hC hl 2 d_Writer_init_30 rfl rfl ?_
  obtain ⟨u5, hu5, hf⟩ := bd_s hf
  refine n_callI hC hw fi_Writer_29 (c_Volume_init l g E hEe q4 a2 u5 hu5) [1] [0] [(t_o, .inr (4, [.ref q1_o, .int a2, .ref q3_o, .ref q4_o, .null]))] ⟨rfl, rfl⟩ ⟨Nat.le_of_ble_eq_true rfl, Nat.le_of_ble_eq_true rfl⟩ rfl rfl rfl (At_.cons rfl At_.nil) (At_.cons rfl At_.nil) rfl hl.1 (Nat.le_of_ble_eq_true rfl) ⟨show 1 + 4 ≤ 5 by omega, show 0 + 9 + 652 ≤ 661 by omega⟩ d_Writer_init_31 (fun m6 H locs hw => ?_) rfl
  have hw : WS g.1 classes A s.heap H locs [(t_o, .inr (4, [.ref q1_o, .int a2, .ref q3_o, .ref q4_o, .null])), (q4, .inr (3, [.int u5.1, .int u5.2.1, .int u5.2.2.1, .int u5.2.2.2.1, .ref m6.2.2.2, .ref m6.1, .ref m6.2.1, .ref m6.2.2.1, .int u5.2.2.2.2.1])), (m6.1, .inl (g.2.1, 12, .inl u5.2.2.2.2.2.1)), (m6.2.1, .inl (g.2.1, 20, .inl u5.2.2.2.2.2.2.1)), (m6.2.2.1, .inl (g.2.1, 20, .inl u5.2.2.2.2.2.2.2.1)), (m6.2.2.2, .inl (g.2.1, u5.2.2.2.2.2.2.2.2.1, .inl u5.2.2.2.2.2.2.2.2.2))] := hw
  refine n_putF hC hw hin ff_Writer_32 0 [(t_o, .inr (4, [.ref q1_o, .int a2, .ref q3_o, .ref q4_o, .ref q4])), (q4, .inr (3, [.int u5.1, .int u5.2.1, .int u5.2.2.1, .int u5.2.2.2.1, .ref m6.2.2.2, .ref m6.1, .ref m6.2.1, .ref m6.2.2.1, .int u5.2.2.2.2.1])), (m6.1, .inl (g.2.1, 12, .inl u5.2.2.2.2.2.1)), (m6.2.1, .inl (g.2.1, 20, .inl u5.2.2.2.2.2.2.1)), (m6.2.2.1, .inl (g.2.1, 20, .inl u5.2.2.2.2.2.2.2.1)), (m6.2.2.2, .inl (g.2.1, u5.2.2.2.2.2.2.2.2.1, .inl u5.2.2.2.2.2.2.2.2.2))] rfl rfl rfl (Nat.le_of_ble_eq_true rfl) d_Writer_init_34 rfl (fun H locs hw => ?_)
  cases hf
  refine W.widen (k := 5) (n := 661) (show 5 ≤ 5 by omega) (show 0 + 9 + 652 ≤ 661 by omega) ?_
  exact hret (q4, m6.1, m6.2.1, m6.2.2.1, m6.2.2.2) _ _ _ _ hw d_Writer_init_37
def f_Firmware_init (a2 : Int32) : Option (Int32 × Int32 × Int32 × Int32 × Int32 × Int32 × Int32 × Int32 × Int32 × Nat × (Nat → Int64) × (Nat → Int32) × Nat × (Nat → Int32)) :=
  bd_ (f_Store_init 65536) (fun u8 => nw_ 600 a2 (fun (n12 : Nat) => some (a2, 0, 0, 0, 0, (-1), (-1), (-1), u8.1, u8.2.1, u8.2.2, (fun _ => 0), n12, (fun _ => 0))))
def rm_Firmware_init : Room := { frames := 2, cells := 4, slots := 39020, locals := 43 }
set_option maxHeartbeats 4000000 in
set_option maxRecDepth 100000 in
theorem c_Firmware_init (l : Launch) (g : GT) (E : (Nat → Prop) → State → Prop) (hEe : Ee E) (t_o : Nat) (q1_o : Nat) (a2 : Int32) (q3_o : Nat) (z : Int32 × Int32 × Int32 × Int32 × Int32 × Int32 × Int32 × Int32 × Int32 × Nat × (Nat → Int64) × (Nat → Int32) × Nat × (Nat → Int32)) (hf : f_Firmware_init a2 = some z) : CtA l y_Firmware_init ws_Firmware_init rm_Firmware_init g.1 classes (tK g) E [.ref t_o, .ref q1_o, .int a2, .ref q3_o] [(t_o, .inr (5, [.null, .null, .int 0, .null, .null, .null, .int 0, .int 0, .int 0, .int 0, .int 0, .int 0, .int 0]))] (fun a : Nat × Nat × Nat × Nat => [(t_o, .inr (5, [.ref a.1, .ref q1_o, .int z.1, .ref q3_o, .ref a.2.2.1, .ref a.2.2.2, .int z.2.1, .int z.2.2.1, .int z.2.2.2.1, .int z.2.2.2.2.1, .int z.2.2.2.2.2.1, .int z.2.2.2.2.2.2.1, .int z.2.2.2.2.2.2.2.1])), (a.1, .inr (0, [.int z.2.2.2.2.2.2.2.2.1, .ref a.2.1])), (a.2.1, .inl (g.2.2.1, z.2.2.2.2.2.2.2.2.2.1, .inr (.inl z.2.2.2.2.2.2.2.2.2.2.1))), (a.2.2.1, .inl (g.2.1, 18, .inl z.2.2.2.2.2.2.2.2.2.2.2.1)), (a.2.2.2, .inl (g.2.1, z.2.2.2.2.2.2.2.2.2.2.2.2.1, .inl z.2.2.2.2.2.2.2.2.2.2.2.2.2))]) 4 39020 := by
  refine CtA.of hEe good_W (by decide) rfl (Nat.le_of_ble_eq_true rfl) ?_
  intro p e s m args below meth c A ls Q hC hin hw hl hret
  have hC : CX p m c b_Firmware_init 4 s args Wall R_Firmware g.1 classes (tK g) E A := hC
  have hl : lv_has ls 4 [(0, .ref t_o), (1, .ref q1_o), (2, .int a2), (3, .ref q3_o)] := hl
  unfold f_Firmware_init at hf
  refine n_aload_n hC hl 0 d_Firmware_init_0 rfl rfl ?_
  refine n_objInit hC oi_Firmware_3 oi_inst oi_code hl.1 ⟨Nat.le_of_ble_eq_true rfl, Nat.le_of_ble_eq_true rfl⟩ d_Firmware_init_1 ?_
  refine n_aload_n hC hl 0 d_Firmware_init_4 rfl rfl ?_
  refine n_new hC hw fn_Firmware_9 (fun q7 => [(t_o, .inr (5, [.null, .null, .int 0, .null, .null, .null, .int 0, .int 0, .int 0, .int 0, .int 0, .int 0, .int 0])), (q7, .inr (0, [.int 0, .null]))]) (show 0 + 1 ≤ 4 by omega) (show 0 + 2 ≤ 39020 by omega) d_Firmware_init_5 (fun _ => rfl) (fun q7 H hw => ?_)
  refine n_dup hC d_Firmware_init_8 rfl ?_
  refine n_ldc hC 65536 kc_Firmware_11 d_Firmware_init_9 ?_
  obtain ⟨u8, hu8, hf⟩ := bd_s hf
  refine n_callI hC hw fi_Firmware_12 (c_Store_init l g E hEe q7 65536 u8 hu8) [1] [0] [(t_o, .inr (5, [.null, .null, .int 0, .null, .null, .null, .int 0, .int 0, .int 0, .int 0, .int 0, .int 0, .int 0]))] ⟨rfl, rfl⟩ ⟨Nat.le_of_ble_eq_true rfl, Nat.le_of_ble_eq_true rfl⟩ rfl rfl rfl (At_.cons rfl At_.nil) (At_.cons rfl At_.nil) rfl hl.1 (Nat.le_of_ble_eq_true rfl) ⟨show 1 + 1 ≤ 4 by omega, show 0 + 2 + 38400 ≤ 39020 by omega⟩ d_Firmware_init_11 (fun m9 H locs hw => ?_) rfl
  have hw : WS g.1 classes A s.heap H locs [(t_o, .inr (5, [.null, .null, .int 0, .null, .null, .null, .int 0, .int 0, .int 0, .int 0, .int 0, .int 0, .int 0])), (q7, .inr (0, [.int u8.1, .ref m9])), (m9, .inl (g.2.2.1, u8.2.1, .inr (.inl u8.2.2)))] := hw
  refine n_putF hC hw hin ff_Firmware_15 0 [(t_o, .inr (5, [.ref q7, .null, .int 0, .null, .null, .null, .int 0, .int 0, .int 0, .int 0, .int 0, .int 0, .int 0])), (q7, .inr (0, [.int u8.1, .ref m9])), (m9, .inl (g.2.2.1, u8.2.1, .inr (.inl u8.2.2)))] rfl rfl rfl (Nat.le_of_ble_eq_true rfl) d_Firmware_init_14 rfl (fun H locs hw => ?_)
  refine n_aload_n hC hl 0 d_Firmware_init_17 rfl rfl ?_
  refine n_bipush hC 18 d_Firmware_init_18 (by decide) ?_
  refine n_newa (atype := .int) (ty := .int) hC hw rfl ac_int 0 rfl (fun _ h => h) 18 (18, .inl (fun _ => 0)) (fun q10 => [(t_o, .inr (5, [.ref q7, .null, .int 0, .null, .null, .null, .int 0, .int 0, .int 0, .int 0, .int 0, .int 0, .int 0])), (q7, .inr (0, [.int u8.1, .ref m9])), (m9, .inl (g.2.2.1, u8.2.1, .inr (.inl u8.2.2))), (q10, .inl (g.2.1, 18, .inl (fun _ => 0)))]) (fun _ => rfl) (by decide) (show Int32.toNatClampNeg 18 = 18 by decide) (show 18 * 4 ≤ 536870912 by omega) (show 2 + 1 ≤ 4 by omega) (show 0 + 2 + 38400 + 18 ≤ 39020 by omega) d_Firmware_init_20 (fun _ => rfl) (fun q10 H hw => ?_)
  refine n_putF hC hw hin ff_Firmware_21 0 [(t_o, .inr (5, [.ref q7, .null, .int 0, .null, .ref q10, .null, .int 0, .int 0, .int 0, .int 0, .int 0, .int 0, .int 0])), (q7, .inr (0, [.int u8.1, .ref m9])), (m9, .inl (g.2.2.1, u8.2.1, .inr (.inl u8.2.2))), (q10, .inl (g.2.1, 18, .inl (fun _ => 0)))] rfl rfl rfl (Nat.le_of_ble_eq_true rfl) d_Firmware_init_22 rfl (fun H locs hw => ?_)
  refine n_aload_n hC hl 0 d_Firmware_init_25 rfl rfl ?_
  refine n_iconst hC (-1) d_Firmware_init_26 (by decide) ?_
  refine n_put hC hw fp_Firmware_25 0 [(t_o, .inr (5, [.ref q7, .null, .int 0, .null, .ref q10, .null, .int 0, .int 0, .int 0, .int 0, .int (-1), .int 0, .int 0])), (q7, .inr (0, [.int u8.1, .ref m9])), (m9, .inl (g.2.2.1, u8.2.1, .inr (.inl u8.2.2))), (q10, .inl (g.2.1, 18, .inl (fun _ => 0)))] rfl rfl rfl (Nat.le_of_ble_eq_true rfl) d_Firmware_init_27 rfl (fun H locs hw => ?_)
  refine n_aload_n hC hl 0 d_Firmware_init_30 rfl rfl ?_
  refine n_iconst hC (-1) d_Firmware_init_31 (by decide) ?_
  refine n_put hC hw fp_Firmware_29 0 [(t_o, .inr (5, [.ref q7, .null, .int 0, .null, .ref q10, .null, .int 0, .int 0, .int 0, .int 0, .int (-1), .int (-1), .int 0])), (q7, .inr (0, [.int u8.1, .ref m9])), (m9, .inl (g.2.2.1, u8.2.1, .inr (.inl u8.2.2))), (q10, .inl (g.2.1, 18, .inl (fun _ => 0)))] rfl rfl rfl (Nat.le_of_ble_eq_true rfl) d_Firmware_init_32 rfl (fun H locs hw => ?_)
  refine n_aload_n hC hl 0 d_Firmware_init_35 rfl rfl ?_
  refine n_iconst hC (-1) d_Firmware_init_36 (by decide) ?_
  refine n_put hC hw fp_Firmware_32 0 [(t_o, .inr (5, [.ref q7, .null, .int 0, .null, .ref q10, .null, .int 0, .int 0, .int 0, .int 0, .int (-1), .int (-1), .int (-1)])), (q7, .inr (0, [.int u8.1, .ref m9])), (m9, .inl (g.2.2.1, u8.2.1, .inr (.inl u8.2.2))), (q10, .inl (g.2.1, 18, .inl (fun _ => 0)))] rfl rfl rfl (Nat.le_of_ble_eq_true rfl) d_Firmware_init_37 rfl (fun H locs hw => ?_)
  refine n_aload_n hC hl 0 d_Firmware_init_40 rfl rfl ?_
  refine n_aload_n hC hl 1 d_Firmware_init_41 rfl rfl ?_
  refine n_putF hC hw hin ff_Firmware_35 0 [(t_o, .inr (5, [.ref q7, .ref q1_o, .int 0, .null, .ref q10, .null, .int 0, .int 0, .int 0, .int 0, .int (-1), .int (-1), .int (-1)])), (q7, .inr (0, [.int u8.1, .ref m9])), (m9, .inl (g.2.2.1, u8.2.1, .inr (.inl u8.2.2))), (q10, .inl (g.2.1, 18, .inl (fun _ => 0)))] rfl rfl rfl (Nat.le_of_ble_eq_true rfl) d_Firmware_init_42 rfl (fun H locs hw => ?_)
  refine n_aload_n hC hl 0 d_Firmware_init_45 rfl rfl ?_
  refine n_iload_n hC hl 2 d_Firmware_init_46 rfl rfl ?_
  refine n_putF hC hw hin ff_Firmware_38 0 [(t_o, .inr (5, [.ref q7, .ref q1_o, .int a2, .null, .ref q10, .null, .int 0, .int 0, .int 0, .int 0, .int (-1), .int (-1), .int (-1)])), (q7, .inr (0, [.int u8.1, .ref m9])), (m9, .inl (g.2.2.1, u8.2.1, .inr (.inl u8.2.2))), (q10, .inl (g.2.1, 18, .inl (fun _ => 0)))] rfl rfl rfl (Nat.le_of_ble_eq_true rfl) d_Firmware_init_47 rfl (fun H locs hw => ?_)
  refine n_aload_n hC hl 0 d_Firmware_init_50 rfl rfl ?_
  refine n_aload_n hC hl 3 d_Firmware_init_51 rfl rfl ?_
  refine n_putF hC hw hin ff_Firmware_41 0 [(t_o, .inr (5, [.ref q7, .ref q1_o, .int a2, .ref q3_o, .ref q10, .null, .int 0, .int 0, .int 0, .int 0, .int (-1), .int (-1), .int (-1)])), (q7, .inr (0, [.int u8.1, .ref m9])), (m9, .inl (g.2.2.1, u8.2.1, .inr (.inl u8.2.2))), (q10, .inl (g.2.1, 18, .inl (fun _ => 0)))] rfl rfl rfl (Nat.le_of_ble_eq_true rfl) d_Firmware_init_52 rfl (fun H locs hw => ?_)
  refine n_aload_n hC hl 0 d_Firmware_init_55 rfl rfl ?_
  refine n_iload_n hC hl 2 d_Firmware_init_56 rfl rfl ?_
  obtain ⟨hnn12, hkn12, hf⟩ := nw_s hf
  generalize hNn12 : Int32.toNatClampNeg a2 = n12 at hkn12 hf
  refine n_newa (atype := .int) (ty := .int) hC hw rfl ac_int 0 rfl (fun _ h => h) n12 (n12, .inl (fun _ => 0)) (fun q11 => [(t_o, .inr (5, [.ref q7, .ref q1_o, .int a2, .ref q3_o, .ref q10, .null, .int 0, .int 0, .int 0, .int 0, .int (-1), .int (-1), .int (-1)])), (q7, .inr (0, [.int u8.1, .ref m9])), (m9, .inl (g.2.2.1, u8.2.1, .inr (.inl u8.2.2))), (q10, .inl (g.2.1, 18, .inl (fun _ => 0))), (q11, .inl (g.2.1, n12, .inl (fun _ => 0)))]) (fun _ => rfl) hnn12 hNn12 (show n12 * 4 ≤ 536870912 by omega) (show 3 + 1 ≤ 4 by omega) (show 0 + 2 + 38400 + 18 + n12 ≤ 39020 by omega) d_Firmware_init_57 (fun _ => rfl) (fun q11 H hw => ?_)
  refine n_putF hC hw hin ff_Firmware_45 0 [(t_o, .inr (5, [.ref q7, .ref q1_o, .int a2, .ref q3_o, .ref q10, .ref q11, .int 0, .int 0, .int 0, .int 0, .int (-1), .int (-1), .int (-1)])), (q7, .inr (0, [.int u8.1, .ref m9])), (m9, .inl (g.2.2.1, u8.2.1, .inr (.inl u8.2.2))), (q10, .inl (g.2.1, 18, .inl (fun _ => 0))), (q11, .inl (g.2.1, n12, .inl (fun _ => 0)))] rfl rfl rfl (Nat.le_of_ble_eq_true rfl) d_Firmware_init_59 rfl (fun H locs hw => ?_)
  cases hf
  refine W.widen (k := 4) (n := 39020) (show 4 ≤ 4 by omega) (show 0 + 2 + 38400 + 18 + n12 ≤ 39020 by omega) ?_
  exact hret (q7, m9, q10, q11) _ _ _ _ hw d_Firmware_init_62
