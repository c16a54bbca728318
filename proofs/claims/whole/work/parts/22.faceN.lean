abbrev b_BootMaker_partition : ByteArray := prog_1_method_2_code
def y_BootMaker_partition : MethodName := ⟨"BootMaker", "partition", "(II)I"⟩
def ws_BootMaker_partition : List Cond := Cond.code y_BootMaker_partition b_BootMaker_partition 3 (some .int) :: Wall
set_option maxRecDepth 100000 in
theorem cw_BootMaker_partition : Cond.code y_BootMaker_partition b_BootMaker_partition 3 (some .int) ∈ Wall := inW 243 rfl rfl
abbrev b_BootMaker_where : ByteArray := prog_1_method_3_code
def y_BootMaker_where : MethodName := ⟨"BootMaker", "where", "(II)I"⟩
def ws_BootMaker_where : List Cond := Cond.code y_BootMaker_where b_BootMaker_where 3 (some .int) :: Wall
set_option maxRecDepth 100000 in
theorem cw_BootMaker_where : Cond.code y_BootMaker_where b_BootMaker_where 3 (some .int) ∈ Wall := inW 255 rfl rfl
abbrev b_BootMaker_file : ByteArray := prog_1_method_4_code
def y_BootMaker_file : MethodName := ⟨"BootMaker", "file", "(JIIZ)I"⟩
def ws_BootMaker_file : List Cond := Cond.code y_BootMaker_file b_BootMaker_file 6 (some .int) :: Wall
set_option maxRecDepth 100000 in
theorem cw_BootMaker_file : Cond.code y_BootMaker_file b_BootMaker_file 6 (some .int) ∈ Wall := inW 263 rfl rfl
abbrev b_BootMaker_address : ByteArray := prog_1_method_5_code
def y_BootMaker_address : MethodName := ⟨"BootMaker", "address", "(I)Z"⟩
def ws_BootMaker_address : List Cond := Cond.code y_BootMaker_address b_BootMaker_address 2 (some .boolean) :: Wall
set_option maxRecDepth 100000 in
theorem cw_BootMaker_address : Cond.code y_BootMaker_address b_BootMaker_address 2 (some .boolean) ∈ Wall := inW 281 rfl rfl
abbrev b_BootMaker_write : ByteArray := prog_1_method_6_code
def y_BootMaker_write : MethodName := ⟨"BootMaker", "write", "()I"⟩
def ws_BootMaker_write : List Cond := Cond.code y_BootMaker_write b_BootMaker_write 1 (some .int) :: Wall
set_option maxRecDepth 100000 in
theorem cw_BootMaker_write : Cond.code y_BootMaker_write b_BootMaker_write 1 (some .int) ∈ Wall := inW 285 rfl rfl
abbrev b_BootMaker_byteAt : ByteArray := prog_1_method_7_code
def y_BootMaker_byteAt : MethodName := ⟨"BootMaker", "byteAt", "(I)I"⟩
def ws_BootMaker_byteAt : List Cond := Cond.code y_BootMaker_byteAt b_BootMaker_byteAt 2 (some .int) :: Wall
set_option maxRecDepth 100000 in
theorem cw_BootMaker_byteAt : Cond.code y_BootMaker_byteAt b_BootMaker_byteAt 2 (some .int) ∈ Wall := inW 543 rfl rfl
abbrev b_BootMaker_poke : ByteArray := prog_1_method_8_code
def y_BootMaker_poke : MethodName := ⟨"BootMaker", "poke", "(II)I"⟩
def ws_BootMaker_poke : List Cond := Cond.code y_BootMaker_poke b_BootMaker_poke 4 (some .int) :: Wall
set_option maxRecDepth 100000 in
theorem cw_BootMaker_poke : Cond.code y_BootMaker_poke b_BootMaker_poke 4 (some .int) ∈ Wall := inW 552 rfl rfl
abbrev b_BootMaker_sum : ByteArray := prog_1_method_9_code
def y_BootMaker_sum : MethodName := ⟨"BootMaker", "sum", "(II)I"⟩
def ws_BootMaker_sum : List Cond := Cond.code y_BootMaker_sum b_BootMaker_sum 4 (some .int) :: Wall
set_option maxRecDepth 100000 in
theorem cw_BootMaker_sum : Cond.code y_BootMaker_sum b_BootMaker_sum 4 (some .int) ∈ Wall := inW 557 rfl rfl
abbrev b_BootMaker_booted : ByteArray := prog_1_method_11_code
def y_BootMaker_booted : MethodName := ⟨"BootMaker", "booted", "(I)I"⟩
def ws_BootMaker_booted : List Cond := Cond.code y_BootMaker_booted b_BootMaker_booted 2 (some .int) :: Wall
set_option maxRecDepth 100000 in
theorem cw_BootMaker_booted : Cond.code y_BootMaker_booted b_BootMaker_booted 2 (some .int) ∈ Wall := inW 562 rfl rfl
theorem d_BootMaker_partition_0 : decode b_BootMaker_partition 0 = .ok (.aload_n 0, 1) := by decide +kernel
theorem d_BootMaker_partition_1 : decode b_BootMaker_partition 1 = .ok (.getfield 28, 3) := by decide +kernel
theorem d_BootMaker_partition_4 : decode b_BootMaker_partition 4 = .ok (.iload_n 1, 1) := by decide +kernel
theorem d_BootMaker_partition_5 : decode b_BootMaker_partition 5 = .ok (.iload_n 2, 1) := by decide +kernel
theorem d_BootMaker_partition_6 : decode b_BootMaker_partition 6 = .ok (.invokevirtual 50, 3) := by decide +kernel
theorem d_BootMaker_partition_9 : decode b_BootMaker_partition 9 = .ok (.ireturn, 1) := by decide +kernel
theorem d_BootMaker_where_0 : decode b_BootMaker_where 0 = .ok (.aload_n 0, 1) := by decide +kernel
theorem d_BootMaker_where_1 : decode b_BootMaker_where 1 = .ok (.getfield 28, 3) := by decide +kernel
theorem d_BootMaker_where_4 : decode b_BootMaker_where 4 = .ok (.iload_n 1, 1) := by decide +kernel
theorem d_BootMaker_where_5 : decode b_BootMaker_where 5 = .ok (.iload_n 2, 1) := by decide +kernel
theorem d_BootMaker_where_6 : decode b_BootMaker_where 6 = .ok (.invokevirtual 54, 3) := by decide +kernel
theorem d_BootMaker_where_9 : decode b_BootMaker_where 9 = .ok (.ireturn, 1) := by decide +kernel
theorem d_BootMaker_file_0 : decode b_BootMaker_file 0 = .ok (.aload_n 0, 1) := by decide +kernel
theorem d_BootMaker_file_1 : decode b_BootMaker_file 1 = .ok (.getfield 28, 3) := by decide +kernel
theorem d_BootMaker_file_4 : decode b_BootMaker_file 4 = .ok (.lload_n 1, 1) := by decide +kernel
theorem d_BootMaker_file_5 : decode b_BootMaker_file 5 = .ok (.iload_n 3, 1) := by decide +kernel
theorem d_BootMaker_file_6 : decode b_BootMaker_file 6 = .ok (.iload 4, 2) := by decide +kernel
theorem d_BootMaker_file_8 : decode b_BootMaker_file 8 = .ok (.iload 5, 2) := by decide +kernel
theorem d_BootMaker_file_10 : decode b_BootMaker_file 10 = .ok (.invokevirtual 57, 3) := by decide +kernel
theorem d_BootMaker_file_13 : decode b_BootMaker_file 13 = .ok (.ireturn, 1) := by decide +kernel
theorem d_BootMaker_address_0 : decode b_BootMaker_address 0 = .ok (.iload_n 1, 1) := by decide +kernel
theorem d_BootMaker_address_1 : decode b_BootMaker_address 1 = .ok (.ifCond .ge 5, 3) := by decide +kernel
theorem d_BootMaker_address_4 : decode b_BootMaker_address 4 = .ok (.iconst 0, 1) := by decide +kernel
theorem d_BootMaker_address_5 : decode b_BootMaker_address 5 = .ok (.ireturn, 1) := by decide +kernel
theorem d_BootMaker_address_6 : decode b_BootMaker_address 6 = .ok (.aload_n 0, 1) := by decide +kernel
theorem d_BootMaker_address_7 : decode b_BootMaker_address 7 = .ok (.getfield 28, 3) := by decide +kernel
theorem d_BootMaker_address_10 : decode b_BootMaker_address 10 = .ok (.iload_n 1, 1) := by decide +kernel
theorem d_BootMaker_address_11 : decode b_BootMaker_address 11 = .ok (.putfield 61, 3) := by decide +kernel
theorem d_BootMaker_address_14 : decode b_BootMaker_address 14 = .ok (.iconst 1, 1) := by decide +kernel
theorem d_BootMaker_address_15 : decode b_BootMaker_address 15 = .ok (.ireturn, 1) := by decide +kernel
theorem d_BootMaker_write_0 : decode b_BootMaker_write 0 = .ok (.aload_n 0, 1) := by decide +kernel
theorem d_BootMaker_write_1 : decode b_BootMaker_write 1 = .ok (.getfield 37, 3) := by decide +kernel
theorem d_BootMaker_write_4 : decode b_BootMaker_write 4 = .ok (.invokevirtual 65, 3) := by decide +kernel
theorem d_BootMaker_write_7 : decode b_BootMaker_write 7 = .ok (.ireturn, 1) := by decide +kernel
theorem d_BootMaker_byteAt_0 : decode b_BootMaker_byteAt 0 = .ok (.aload_n 0, 1) := by decide +kernel
theorem d_BootMaker_byteAt_1 : decode b_BootMaker_byteAt 1 = .ok (.getfield 14, 3) := by decide +kernel
theorem d_BootMaker_byteAt_4 : decode b_BootMaker_byteAt 4 = .ok (.iload_n 1, 1) := by decide +kernel
theorem d_BootMaker_byteAt_5 : decode b_BootMaker_byteAt 5 = .ok (.invokevirtual 69, 3) := by decide +kernel
theorem d_BootMaker_byteAt_8 : decode b_BootMaker_byteAt 8 = .ok (.ifCond .eq 14, 3) := by decide +kernel
theorem d_BootMaker_byteAt_11 : decode b_BootMaker_byteAt 11 = .ok (.aload_n 0, 1) := by decide +kernel
theorem d_BootMaker_byteAt_12 : decode b_BootMaker_byteAt 12 = .ok (.getfield 14, 3) := by decide +kernel
theorem d_BootMaker_byteAt_15 : decode b_BootMaker_byteAt 15 = .ok (.iload_n 1, 1) := by decide +kernel
theorem d_BootMaker_byteAt_16 : decode b_BootMaker_byteAt 16 = .ok (.invokevirtual 73, 3) := by decide +kernel
theorem d_BootMaker_byteAt_19 : decode b_BootMaker_byteAt 19 = .ok (.goto 4, 3) := by decide +kernel
theorem d_BootMaker_byteAt_22 : decode b_BootMaker_byteAt 22 = .ok (.iconst (-1), 1) := by decide +kernel
theorem d_BootMaker_byteAt_23 : decode b_BootMaker_byteAt 23 = .ok (.ireturn, 1) := by decide +kernel
theorem d_BootMaker_poke_0 : decode b_BootMaker_poke 0 = .ok (.aload_n 0, 1) := by decide +kernel
theorem d_BootMaker_poke_1 : decode b_BootMaker_poke 1 = .ok (.getfield 14, 3) := by decide +kernel
theorem d_BootMaker_poke_4 : decode b_BootMaker_poke 4 = .ok (.iload_n 1, 1) := by decide +kernel
theorem d_BootMaker_poke_5 : decode b_BootMaker_poke 5 = .ok (.invokevirtual 69, 3) := by decide +kernel
theorem d_BootMaker_poke_8 : decode b_BootMaker_poke 8 = .ok (.ifCond .ne 5, 3) := by decide +kernel
theorem d_BootMaker_poke_11 : decode b_BootMaker_poke 11 = .ok (.iconst (-1), 1) := by decide +kernel
theorem d_BootMaker_poke_12 : decode b_BootMaker_poke 12 = .ok (.ireturn, 1) := by decide +kernel
theorem d_BootMaker_poke_13 : decode b_BootMaker_poke 13 = .ok (.aload_n 0, 1) := by decide +kernel
theorem d_BootMaker_poke_14 : decode b_BootMaker_poke 14 = .ok (.getfield 14, 3) := by decide +kernel
theorem d_BootMaker_poke_17 : decode b_BootMaker_poke 17 = .ok (.iload_n 1, 1) := by decide +kernel
theorem d_BootMaker_poke_18 : decode b_BootMaker_poke 18 = .ok (.invokevirtual 73, 3) := by decide +kernel
theorem d_BootMaker_poke_21 : decode b_BootMaker_poke 21 = .ok (.istore_n 3, 1) := by decide +kernel
theorem d_BootMaker_poke_22 : decode b_BootMaker_poke 22 = .ok (.aload_n 0, 1) := by decide +kernel
theorem d_BootMaker_poke_23 : decode b_BootMaker_poke 23 = .ok (.getfield 14, 3) := by decide +kernel
theorem d_BootMaker_poke_26 : decode b_BootMaker_poke 26 = .ok (.iload_n 1, 1) := by decide +kernel
theorem d_BootMaker_poke_27 : decode b_BootMaker_poke 27 = .ok (.iload_n 2, 1) := by decide +kernel
theorem d_BootMaker_poke_28 : decode b_BootMaker_poke 28 = .ok (.invokevirtual 77, 3) := by decide +kernel
theorem d_BootMaker_poke_31 : decode b_BootMaker_poke 31 = .ok (.iload_n 3, 1) := by decide +kernel
theorem d_BootMaker_poke_32 : decode b_BootMaker_poke 32 = .ok (.ireturn, 1) := by decide +kernel
theorem d_BootMaker_sum_0 : decode b_BootMaker_sum 0 = .ok (.iload_n 1, 1) := by decide +kernel
theorem d_BootMaker_sum_1 : decode b_BootMaker_sum 1 = .ok (.ifCond .lt 28, 3) := by decide +kernel
theorem d_BootMaker_sum_4 : decode b_BootMaker_sum 4 = .ok (.iload_n 2, 1) := by decide +kernel
theorem d_BootMaker_sum_5 : decode b_BootMaker_sum 5 = .ok (.ifCond .lt 24, 3) := by decide +kernel
theorem d_BootMaker_sum_8 : decode b_BootMaker_sum 8 = .ok (.iload_n 1, 1) := by decide +kernel
theorem d_BootMaker_sum_9 : decode b_BootMaker_sum 9 = .ok (.i2l, 1) := by decide +kernel
theorem d_BootMaker_sum_10 : decode b_BootMaker_sum 10 = .ok (.iload_n 2, 1) := by decide +kernel
theorem d_BootMaker_sum_11 : decode b_BootMaker_sum 11 = .ok (.i2l, 1) := by decide +kernel
theorem d_BootMaker_sum_12 : decode b_BootMaker_sum 12 = .ok (.ladd, 1) := by decide +kernel
theorem d_BootMaker_sum_13 : decode b_BootMaker_sum 13 = .ok (.aload_n 0, 1) := by decide +kernel
theorem d_BootMaker_sum_14 : decode b_BootMaker_sum 14 = .ok (.getfield 14, 3) := by decide +kernel
theorem d_BootMaker_sum_17 : decode b_BootMaker_sum 17 = .ok (.getfield 81, 3) := by decide +kernel
theorem d_BootMaker_sum_20 : decode b_BootMaker_sum 20 = .ok (.i2l, 1) := by decide +kernel
theorem d_BootMaker_sum_21 : decode b_BootMaker_sum 21 = .ok (.lcmp, 1) := by decide +kernel
theorem d_BootMaker_sum_22 : decode b_BootMaker_sum 22 = .ok (.ifCond .gt 7, 3) := by decide +kernel
theorem d_BootMaker_sum_25 : decode b_BootMaker_sum 25 = .ok (.iconst 1, 1) := by decide +kernel
theorem d_BootMaker_sum_26 : decode b_BootMaker_sum 26 = .ok (.goto 4, 3) := by decide +kernel
theorem d_BootMaker_sum_29 : decode b_BootMaker_sum 29 = .ok (.iconst 0, 1) := by decide +kernel
theorem d_BootMaker_sum_30 : decode b_BootMaker_sum 30 = .ok (.istore_n 3, 1) := by decide +kernel
theorem d_BootMaker_sum_31 : decode b_BootMaker_sum 31 = .ok (.iload_n 3, 1) := by decide +kernel
theorem d_BootMaker_sum_32 : decode b_BootMaker_sum 32 = .ok (.ifCond .eq 19, 3) := by decide +kernel
theorem d_BootMaker_sum_35 : decode b_BootMaker_sum 35 = .ok (.aload_n 0, 1) := by decide +kernel
theorem d_BootMaker_sum_36 : decode b_BootMaker_sum 36 = .ok (.getfield 21, 3) := by decide +kernel
theorem d_BootMaker_sum_39 : decode b_BootMaker_sum 39 = .ok (.aload_n 0, 1) := by decide +kernel
theorem d_BootMaker_sum_40 : decode b_BootMaker_sum 40 = .ok (.getfield 14, 3) := by decide +kernel
theorem d_BootMaker_sum_43 : decode b_BootMaker_sum 43 = .ok (.iload_n 1, 1) := by decide +kernel
theorem d_BootMaker_sum_44 : decode b_BootMaker_sum 44 = .ok (.iload_n 2, 1) := by decide +kernel
theorem d_BootMaker_sum_45 : decode b_BootMaker_sum 45 = .ok (.invokevirtual 84, 3) := by decide +kernel
theorem d_BootMaker_sum_48 : decode b_BootMaker_sum 48 = .ok (.goto 4, 3) := by decide +kernel
theorem d_BootMaker_sum_51 : decode b_BootMaker_sum 51 = .ok (.iconst 0, 1) := by decide +kernel
theorem d_BootMaker_sum_52 : decode b_BootMaker_sum 52 = .ok (.ireturn, 1) := by decide +kernel
theorem d_BootMaker_booted_0 : decode b_BootMaker_booted 0 = .ok (.aload_n 0, 1) := by decide +kernel
theorem d_BootMaker_booted_1 : decode b_BootMaker_booted 1 = .ok (.getfield 46, 3) := by decide +kernel
theorem d_BootMaker_booted_4 : decode b_BootMaker_booted 4 = .ok (.iload_n 1, 1) := by decide +kernel
theorem d_BootMaker_booted_5 : decode b_BootMaker_booted 5 = .ok (.invokevirtual 98, 3) := by decide +kernel
theorem d_BootMaker_booted_8 : decode b_BootMaker_booted 8 = .ok (.ireturn, 1) := by decide +kernel
set_option maxRecDepth 100000 in
theorem fg_BootMaker_28 : FlG Wall classes R_BootMaker 28 6 2 := ⟨_, _, _, rfl, by decide, in_BootMaker, inW 226 rfl rfl⟩
set_option maxRecDepth 100000 in
theorem fc_BootMaker_50 : FcV Wall classes R_BootMaker 50 2 y_Plan_addPartition b_Plan_addPartition 4 (some .int) ws_Plan_addPartition 2 := ⟨⟨rfl, cw_Plan_addPartition, inW 244 rfl rfl, in_i_Plan, by decide +kernel⟩, inW 245 rfl rfl, inW 246 rfl rfl, _, _, rfl⟩
set_option maxRecDepth 100000 in
theorem fc_BootMaker_54 : FcV Wall classes R_BootMaker 54 2 y_Plan_tellPartition b_Plan_tellPartition 3 (some .int) ws_Plan_tellPartition 2 := ⟨⟨rfl, cw_Plan_tellPartition, inW 256 rfl rfl, in_i_Plan, by decide +kernel⟩, inW 257 rfl rfl, inW 258 rfl rfl, _, _, rfl⟩
set_option maxRecDepth 100000 in
theorem fc_BootMaker_57 : FcV Wall classes R_BootMaker 57 2 y_Plan_addFile b_Plan_addFile 8 (some .int) ws_Plan_addFile 4 := ⟨⟨rfl, cw_Plan_addFile, inW 264 rfl rfl, in_i_Plan, by decide +kernel⟩, inW 265 rfl rfl, inW 266 rfl rfl, _, _, rfl⟩
set_option maxRecDepth 100000 in
theorem fg_BootMaker_61 : FlG Wall classes R_BootMaker 61 2 10 := ⟨_, _, _, rfl, by decide, in_Plan, inW 84 rfl rfl⟩
set_option maxRecDepth 100000 in
theorem fp_BootMaker_61 : FlP Wall classes R_BootMaker 61 2 10 .int := ⟨_, _, _, t_Plan, rfl, by decide, in_Plan, inW 84 rfl rfl, t_Plan_ok, n_Plan, rfl, by decide +kernel⟩
set_option maxRecDepth 100000 in
theorem fg_BootMaker_37 : FlG Wall classes R_BootMaker 37 6 3 := ⟨_, _, _, rfl, by decide, in_BootMaker, inW 227 rfl rfl⟩
set_option maxRecDepth 100000 in
theorem fc_BootMaker_65 : FcV Wall classes R_BootMaker 65 4 y_Writer_writeDisk b_Writer_writeDisk 3 (some .int) ws_Writer_writeDisk 0 := ⟨⟨rfl, cw_Writer_writeDisk, inW 286 rfl rfl, in_i_Writer, by decide +kernel⟩, inW 287 rfl rfl, inW 288 rfl rfl, _, _, rfl⟩
set_option maxRecDepth 100000 in
theorem fg_BootMaker_14 : FlG Wall classes R_BootMaker 14 6 0 := ⟨_, _, _, rfl, by decide, in_BootMaker, inW 224 rfl rfl⟩
set_option maxRecDepth 100000 in
theorem fc_BootMaker_69 : FcV Wall classes R_BootMaker 69 0 y_Store_has b_Store_has 2 (some .boolean) ws_Store_has 1 := ⟨⟨rfl, cw_Store_has, inW 544 rfl rfl, in_i_Store, by decide +kernel⟩, inW 545 rfl rfl, inW 546 rfl rfl, _, _, rfl⟩
set_option maxRecDepth 100000 in
theorem fc_BootMaker_73 : FcV Wall classes R_BootMaker 73 0 y_Store_get b_Store_get 2 (some .int) ws_Store_get 1 := ⟨⟨rfl, cw_Store_get, inW 548 rfl rfl, in_i_Store, by decide +kernel⟩, inW 492 rfl rfl, inW 493 rfl rfl, _, _, rfl⟩
set_option maxRecDepth 100000 in
theorem fc_BootMaker_77 : FcV Wall classes R_BootMaker 77 0 y_Store_put b_Store_put 4 (none) ws_Store_put 2 := ⟨⟨rfl, cw_Store_put, inW 553 rfl rfl, in_i_Store, by decide +kernel⟩, inW 364 rfl rfl, inW 365 rfl rfl, _, _, rfl⟩
set_option maxRecDepth 100000 in
theorem fg_BootMaker_21 : FlG Wall classes R_BootMaker 21 6 1 := ⟨_, _, _, rfl, by decide, in_BootMaker, inW 225 rfl rfl⟩
set_option maxRecDepth 100000 in
theorem fc_BootMaker_84 : FcV Wall classes R_BootMaker 84 1 y_Sums_over b_Sums_over 5 (some .int) ws_Sums_over 3 := ⟨⟨rfl, cw_Sums_over, inW 558 rfl rfl, in_i_Sums, by decide +kernel⟩, inW 487 rfl rfl, inW 488 rfl rfl, _, _, rfl⟩
set_option maxRecDepth 100000 in
theorem fg_BootMaker_81 : FlG Wall classes R_BootMaker 81 0 0 := ⟨_, _, _, rfl, by decide, in_Store, inW 34 rfl rfl⟩
set_option maxRecDepth 100000 in
theorem fg_BootMaker_46 : FlG Wall classes R_BootMaker 46 6 4 := ⟨_, _, _, rfl, by decide, in_BootMaker, inW 228 rfl rfl⟩
set_option maxRecDepth 100000 in
theorem fc_BootMaker_98 : FcV Wall classes R_BootMaker 98 5 y_Firmware_tell b_Firmware_tell 2 (some .int) ws_Firmware_tell 1 := ⟨⟨rfl, cw_Firmware_tell, inW 563 rfl rfl, in_i_Firmware, by decide +kernel⟩, inW 564 rfl rfl, inW 565 rfl rfl, _, _, rfl⟩
