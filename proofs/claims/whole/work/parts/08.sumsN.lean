abbrev b_Sums_begin : ByteArray := prog_5_method_2_code
def y_Sums_begin : MethodName := ⟨"BootMaker$Sums", "begin", "()V"⟩
def ws_Sums_begin : List Cond := Cond.code y_Sums_begin b_Sums_begin 1 (none) :: Wall
set_option maxRecDepth 100000 in
theorem cw_Sums_begin : Cond.code y_Sums_begin b_Sums_begin 1 (none) ∈ Wall := inW 385 rfl rfl
abbrev b_Sums_add : ByteArray := prog_5_method_3_code
def y_Sums_add : MethodName := ⟨"BootMaker$Sums", "add", "(I)V"⟩
def ws_Sums_add : List Cond := Cond.code y_Sums_add b_Sums_add 2 (none) :: Wall
set_option maxRecDepth 100000 in
theorem cw_Sums_add : Cond.code y_Sums_add b_Sums_add 2 (none) ∈ Wall := inW 448 rfl rfl
abbrev b_Sums_result : ByteArray := prog_5_method_4_code
def y_Sums_result : MethodName := ⟨"BootMaker$Sums", "result", "()I"⟩
def ws_Sums_result : List Cond := Cond.code y_Sums_result b_Sums_result 1 (some .int) :: Wall
set_option maxRecDepth 100000 in
theorem cw_Sums_result : Cond.code y_Sums_result b_Sums_result 1 (some .int) ∈ Wall := inW 452 rfl rfl
abbrev b_Sums_over : ByteArray := prog_5_method_5_code
def y_Sums_over : MethodName := ⟨"BootMaker$Sums", "over", "(LBootMaker$Store;II)I"⟩
def ws_Sums_over : List Cond := Cond.code y_Sums_over b_Sums_over 5 (some .int) :: Wall
set_option maxRecDepth 100000 in
theorem cw_Sums_over : Cond.code y_Sums_over b_Sums_over 5 (some .int) ∈ Wall := inW 489 rfl rfl
abbrev b_Sums_overHeader : ByteArray := prog_5_method_6_code
def y_Sums_overHeader : MethodName := ⟨"BootMaker$Sums", "overHeader", "(LBootMaker$Store;I)I"⟩
def ws_Sums_overHeader : List Cond := Cond.code y_Sums_overHeader b_Sums_overHeader 5 (some .int) :: Wall
set_option maxRecDepth 100000 in
theorem cw_Sums_overHeader : Cond.code y_Sums_overHeader b_Sums_overHeader 5 (some .int) ∈ Wall := inW 500 rfl rfl
theorem d_Sums_begin_0 : decode b_Sums_begin 0 = .ok (.aload_n 0, 1) := by decide +kernel
theorem d_Sums_begin_1 : decode b_Sums_begin 1 = .ok (.iconst (-1), 1) := by decide +kernel
theorem d_Sums_begin_2 : decode b_Sums_begin 2 = .ok (.putfield 16, 3) := by decide +kernel
theorem d_Sums_begin_5 : decode b_Sums_begin 5 = .ok (.return_, 1) := by decide +kernel
theorem d_Sums_add_0 : decode b_Sums_add 0 = .ok (.aload_n 0, 1) := by decide +kernel
theorem d_Sums_add_1 : decode b_Sums_add 1 = .ok (.aload_n 0, 1) := by decide +kernel
theorem d_Sums_add_2 : decode b_Sums_add 2 = .ok (.getfield 9, 3) := by decide +kernel
theorem d_Sums_add_5 : decode b_Sums_add 5 = .ok (.aload_n 0, 1) := by decide +kernel
theorem d_Sums_add_6 : decode b_Sums_add 6 = .ok (.getfield 16, 3) := by decide +kernel
theorem d_Sums_add_9 : decode b_Sums_add 9 = .ok (.iload_n 1, 1) := by decide +kernel
theorem d_Sums_add_10 : decode b_Sums_add 10 = .ok (.ixor, 1) := by decide +kernel
theorem d_Sums_add_11 : decode b_Sums_add 11 = .ok (.sipush 255, 3) := by decide +kernel
theorem d_Sums_add_14 : decode b_Sums_add 14 = .ok (.iand, 1) := by decide +kernel
theorem d_Sums_add_15 : decode b_Sums_add 15 = .ok (.iaload, 1) := by decide +kernel
theorem d_Sums_add_16 : decode b_Sums_add 16 = .ok (.aload_n 0, 1) := by decide +kernel
theorem d_Sums_add_17 : decode b_Sums_add 17 = .ok (.getfield 16, 3) := by decide +kernel
theorem d_Sums_add_20 : decode b_Sums_add 20 = .ok (.bipush 8, 2) := by decide +kernel
theorem d_Sums_add_22 : decode b_Sums_add 22 = .ok (.iushr, 1) := by decide +kernel
theorem d_Sums_add_23 : decode b_Sums_add 23 = .ok (.ixor, 1) := by decide +kernel
theorem d_Sums_add_24 : decode b_Sums_add 24 = .ok (.putfield 16, 3) := by decide +kernel
theorem d_Sums_add_27 : decode b_Sums_add 27 = .ok (.return_, 1) := by decide +kernel
theorem d_Sums_result_0 : decode b_Sums_result 0 = .ok (.aload_n 0, 1) := by decide +kernel
theorem d_Sums_result_1 : decode b_Sums_result 1 = .ok (.getfield 16, 3) := by decide +kernel
theorem d_Sums_result_4 : decode b_Sums_result 4 = .ok (.iconst (-1), 1) := by decide +kernel
theorem d_Sums_result_5 : decode b_Sums_result 5 = .ok (.ixor, 1) := by decide +kernel
theorem d_Sums_result_6 : decode b_Sums_result 6 = .ok (.ireturn, 1) := by decide +kernel
theorem d_Sums_over_0 : decode b_Sums_over 0 = .ok (.aload_n 0, 1) := by decide +kernel
theorem d_Sums_over_1 : decode b_Sums_over 1 = .ok (.invokevirtual 20, 3) := by decide +kernel
theorem d_Sums_over_4 : decode b_Sums_over 4 = .ok (.iconst 0, 1) := by decide +kernel
theorem d_Sums_over_5 : decode b_Sums_over 5 = .ok (.istore 4, 2) := by decide +kernel
theorem d_Sums_over_7 : decode b_Sums_over 7 = .ok (.iload 4, 2) := by decide +kernel
theorem d_Sums_over_9 : decode b_Sums_over 9 = .ok (.iload_n 3, 1) := by decide +kernel
theorem d_Sums_over_10 : decode b_Sums_over 10 = .ok (.if_icmp .ge 21, 3) := by decide +kernel
theorem d_Sums_over_13 : decode b_Sums_over 13 = .ok (.aload_n 0, 1) := by decide +kernel
theorem d_Sums_over_14 : decode b_Sums_over 14 = .ok (.aload_n 1, 1) := by decide +kernel
theorem d_Sums_over_15 : decode b_Sums_over 15 = .ok (.iload_n 2, 1) := by decide +kernel
theorem d_Sums_over_16 : decode b_Sums_over 16 = .ok (.iload 4, 2) := by decide +kernel
theorem d_Sums_over_18 : decode b_Sums_over 18 = .ok (.iadd, 1) := by decide +kernel
theorem d_Sums_over_19 : decode b_Sums_over 19 = .ok (.invokevirtual 23, 3) := by decide +kernel
theorem d_Sums_over_22 : decode b_Sums_over 22 = .ok (.invokevirtual 29, 3) := by decide +kernel
theorem d_Sums_over_25 : decode b_Sums_over 25 = .ok (.iinc 4 1, 3) := by decide +kernel
theorem d_Sums_over_28 : decode b_Sums_over 28 = .ok (.goto (-21), 3) := by decide +kernel
theorem d_Sums_over_31 : decode b_Sums_over 31 = .ok (.aload_n 0, 1) := by decide +kernel
theorem d_Sums_over_32 : decode b_Sums_over 32 = .ok (.invokevirtual 33, 3) := by decide +kernel
theorem d_Sums_over_35 : decode b_Sums_over 35 = .ok (.ireturn, 1) := by decide +kernel
theorem d_Sums_overHeader_0 : decode b_Sums_overHeader 0 = .ok (.aload_n 0, 1) := by decide +kernel
theorem d_Sums_overHeader_1 : decode b_Sums_overHeader 1 = .ok (.invokevirtual 20, 3) := by decide +kernel
theorem d_Sums_overHeader_4 : decode b_Sums_overHeader 4 = .ok (.iconst 0, 1) := by decide +kernel
theorem d_Sums_overHeader_5 : decode b_Sums_overHeader 5 = .ok (.istore_n 3, 1) := by decide +kernel
theorem d_Sums_overHeader_6 : decode b_Sums_overHeader 6 = .ok (.iload_n 3, 1) := by decide +kernel
theorem d_Sums_overHeader_7 : decode b_Sums_overHeader 7 = .ok (.bipush 92, 2) := by decide +kernel
theorem d_Sums_overHeader_9 : decode b_Sums_overHeader 9 = .ok (.if_icmp .ge 48, 3) := by decide +kernel
theorem d_Sums_overHeader_12 : decode b_Sums_overHeader 12 = .ok (.iload_n 3, 1) := by decide +kernel
theorem d_Sums_overHeader_13 : decode b_Sums_overHeader 13 = .ok (.bipush 16, 2) := by decide +kernel
theorem d_Sums_overHeader_15 : decode b_Sums_overHeader 15 = .ok (.if_icmp .lt 13, 3) := by decide +kernel
theorem d_Sums_overHeader_18 : decode b_Sums_overHeader 18 = .ok (.iload_n 3, 1) := by decide +kernel
theorem d_Sums_overHeader_19 : decode b_Sums_overHeader 19 = .ok (.bipush 20, 2) := by decide +kernel
theorem d_Sums_overHeader_21 : decode b_Sums_overHeader 21 = .ok (.if_icmp .ge 7, 3) := by decide +kernel
theorem d_Sums_overHeader_24 : decode b_Sums_overHeader 24 = .ok (.iconst 1, 1) := by decide +kernel
theorem d_Sums_overHeader_25 : decode b_Sums_overHeader 25 = .ok (.goto 4, 3) := by decide +kernel
theorem d_Sums_overHeader_28 : decode b_Sums_overHeader 28 = .ok (.iconst 0, 1) := by decide +kernel
theorem d_Sums_overHeader_29 : decode b_Sums_overHeader 29 = .ok (.istore 4, 2) := by decide +kernel
theorem d_Sums_overHeader_31 : decode b_Sums_overHeader 31 = .ok (.aload_n 0, 1) := by decide +kernel
theorem d_Sums_overHeader_32 : decode b_Sums_overHeader 32 = .ok (.iload 4, 2) := by decide +kernel
theorem d_Sums_overHeader_34 : decode b_Sums_overHeader 34 = .ok (.ifCond .eq 7, 3) := by decide +kernel
theorem d_Sums_overHeader_37 : decode b_Sums_overHeader 37 = .ok (.iconst 0, 1) := by decide +kernel
theorem d_Sums_overHeader_38 : decode b_Sums_overHeader 38 = .ok (.goto 10, 3) := by decide +kernel
theorem d_Sums_overHeader_41 : decode b_Sums_overHeader 41 = .ok (.aload_n 1, 1) := by decide +kernel
theorem d_Sums_overHeader_42 : decode b_Sums_overHeader 42 = .ok (.iload_n 2, 1) := by decide +kernel
theorem d_Sums_overHeader_43 : decode b_Sums_overHeader 43 = .ok (.iload_n 3, 1) := by decide +kernel
theorem d_Sums_overHeader_44 : decode b_Sums_overHeader 44 = .ok (.iadd, 1) := by decide +kernel
theorem d_Sums_overHeader_45 : decode b_Sums_overHeader 45 = .ok (.invokevirtual 23, 3) := by decide +kernel
theorem d_Sums_overHeader_48 : decode b_Sums_overHeader 48 = .ok (.invokevirtual 29, 3) := by decide +kernel
theorem d_Sums_overHeader_51 : decode b_Sums_overHeader 51 = .ok (.iinc 3 1, 3) := by decide +kernel
theorem d_Sums_overHeader_54 : decode b_Sums_overHeader 54 = .ok (.goto (-48), 3) := by decide +kernel
theorem d_Sums_overHeader_57 : decode b_Sums_overHeader 57 = .ok (.aload_n 0, 1) := by decide +kernel
theorem d_Sums_overHeader_58 : decode b_Sums_overHeader 58 = .ok (.invokevirtual 33, 3) := by decide +kernel
theorem d_Sums_overHeader_61 : decode b_Sums_overHeader 61 = .ok (.ireturn, 1) := by decide +kernel
set_option maxRecDepth 100000 in
theorem fg_Sums_16 : FlG Wall classes R_Sums 16 1 1 := ⟨_, _, _, rfl, by decide, in_Sums, inW 50 rfl rfl⟩
set_option maxRecDepth 100000 in
theorem fp_Sums_16 : FlP Wall classes R_Sums 16 1 1 .int := ⟨_, _, _, t_Sums, rfl, by decide, in_Sums, inW 50 rfl rfl, t_Sums_ok, n_Sums, rfl, by decide +kernel⟩
set_option maxRecDepth 100000 in
theorem fg_Sums_9 : FlG Wall classes R_Sums 9 1 0 := ⟨_, _, _, rfl, by decide, in_Sums, inW 49 rfl rfl⟩
set_option maxRecDepth 100000 in
theorem fc_Sums_20 : FcV Wall classes R_Sums 20 1 y_Sums_begin b_Sums_begin 1 (none) ws_Sums_begin 0 := ⟨⟨rfl, cw_Sums_begin, inW 490 rfl rfl, in_i_Sums, by decide +kernel⟩, inW 383 rfl rfl, inW 384 rfl rfl, _, _, rfl⟩
set_option maxRecDepth 100000 in
theorem fc_Sums_33 : FcV Wall classes R_Sums 33 1 y_Sums_result b_Sums_result 1 (some .int) ws_Sums_result 0 := ⟨⟨rfl, cw_Sums_result, inW 496 rfl rfl, in_i_Sums, by decide +kernel⟩, inW 450 rfl rfl, inW 451 rfl rfl, _, _, rfl⟩
set_option maxRecDepth 100000 in
theorem fc_Sums_23 : FcV Wall classes R_Sums 23 0 y_Store_get b_Store_get 2 (some .int) ws_Store_get 1 := ⟨⟨rfl, cw_Store_get, inW 491 rfl rfl, in_i_Store, by decide +kernel⟩, inW 492 rfl rfl, inW 493 rfl rfl, _, _, rfl⟩
set_option maxRecDepth 100000 in
theorem fc_Sums_29 : FcV Wall classes R_Sums 29 1 y_Sums_add b_Sums_add 2 (none) ws_Sums_add 1 := ⟨⟨rfl, cw_Sums_add, inW 495 rfl rfl, in_i_Sums, by decide +kernel⟩, inW 446 rfl rfl, inW 447 rfl rfl, _, _, rfl⟩
