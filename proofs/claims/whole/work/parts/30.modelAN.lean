abbrev b_Model_thrown : ByteArray := prog_9_method_2_code
def y_Model_thrown : MethodName := ⟨"BootMakerModel", "thrown", "()I"⟩
def ws_Model_thrown : List Cond := Cond.code y_Model_thrown b_Model_thrown 1 (some .int) :: Wall
set_option maxRecDepth 100000 in
theorem cw_Model_thrown : Cond.code y_Model_thrown b_Model_thrown 1 (some .int) ∈ Wall := inW 858 rfl rfl
abbrev b_Model_in : ByteArray := prog_9_method_3_code
def y_Model_in : MethodName := ⟨"BootMakerModel", "in", "(III)Z"⟩
def ws_Model_in : List Cond := Cond.code y_Model_in b_Model_in 3 (some .boolean) :: Wall
set_option maxRecDepth 100000 in
theorem cw_Model_in : Cond.code y_Model_in b_Model_in 3 (some .boolean) ∈ Wall := inW 865 rfl rfl
abbrev b_Model_get : ByteArray := prog_9_method_4_code
def y_Model_get : MethodName := ⟨"BootMakerModel", "get", "(I)I"⟩
def ws_Model_get : List Cond := Cond.code y_Model_get b_Model_get 2 (some .int) :: Wall
set_option maxRecDepth 100000 in
theorem cw_Model_get : Cond.code y_Model_get b_Model_get 2 (some .int) ∈ Wall := inW 869 rfl rfl
abbrev b_Model_low : ByteArray := prog_9_method_5_code
def y_Model_low : MethodName := ⟨"BootMakerModel", "low", "(IIJ)V"⟩
def ws_Model_low : List Cond := Cond.code y_Model_low b_Model_low 6 (none) :: Wall
set_option maxRecDepth 100000 in
theorem cw_Model_low : Cond.code y_Model_low b_Model_low 6 (none) ∈ Wall := inW 961 rfl rfl
abbrev b_Model_lowAt : ByteArray := prog_9_method_6_code
def y_Model_lowAt : MethodName := ⟨"BootMakerModel", "lowAt", "(II)J"⟩
def ws_Model_lowAt : List Cond := Cond.code y_Model_lowAt b_Model_lowAt 6 (some .long) :: Wall
set_option maxRecDepth 100000 in
theorem cw_Model_lowAt : Cond.code y_Model_lowAt b_Model_lowAt 6 (some .long) ∈ Wall := inW 986 rfl rfl
abbrev b_Model_goesOn : ByteArray := prog_9_method_7_code
def y_Model_goesOn : MethodName := ⟨"BootMakerModel", "goesOn", "(II)I"⟩
def ws_Model_goesOn : List Cond := Cond.code y_Model_goesOn b_Model_goesOn 4 (some .int) :: Wall
set_option maxRecDepth 100000 in
theorem cw_Model_goesOn : Cond.code y_Model_goesOn b_Model_goesOn 4 (some .int) ∈ Wall := inW 885 rfl rfl
abbrev b_Model_sumOf : ByteArray := prog_9_method_8_code
def y_Model_sumOf : MethodName := ⟨"BootMakerModel", "sumOf", "(II)I"⟩
def ws_Model_sumOf : List Cond := Cond.code y_Model_sumOf b_Model_sumOf 5 (some .int) :: Wall
set_option maxRecDepth 100000 in
theorem cw_Model_sumOf : Cond.code y_Model_sumOf b_Model_sumOf 5 (some .int) ∈ Wall := inW 882 rfl rfl
abbrev b_Model_byteAt : ByteArray := prog_9_method_9_code
def y_Model_byteAt : MethodName := ⟨"BootMakerModel", "byteAt", "(I)I"⟩
def ws_Model_byteAt : List Cond := Cond.code y_Model_byteAt b_Model_byteAt 2 (some .int) :: Wall
set_option maxRecDepth 100000 in
theorem cw_Model_byteAt : Cond.code y_Model_byteAt b_Model_byteAt 2 (some .int) ∈ Wall := inW 862 rfl rfl
abbrev b_Model_poke : ByteArray := prog_9_method_10_code
def y_Model_poke : MethodName := ⟨"BootMakerModel", "poke", "(II)I"⟩
def ws_Model_poke : List Cond := Cond.code y_Model_poke b_Model_poke 4 (some .int) :: Wall
set_option maxRecDepth 100000 in
theorem cw_Model_poke : Cond.code y_Model_poke b_Model_poke 4 (some .int) ∈ Wall := inW 873 rfl rfl
abbrev b_Model_sum : ByteArray := prog_9_method_11_code
def y_Model_sum : MethodName := ⟨"BootMakerModel", "sum", "(II)I"⟩
def ws_Model_sum : List Cond := Cond.code y_Model_sum b_Model_sum 3 (some .int) :: Wall
set_option maxRecDepth 100000 in
theorem cw_Model_sum : Cond.code y_Model_sum b_Model_sum 3 (some .int) ∈ Wall := inW 877 rfl rfl
abbrev b_Model_partition : ByteArray := prog_9_method_12_code
def y_Model_partition : MethodName := ⟨"BootMakerModel", "partition", "(II)I"⟩
def ws_Model_partition : List Cond := Cond.code y_Model_partition b_Model_partition 4 (some .int) :: Wall
set_option maxRecDepth 100000 in
theorem cw_Model_partition : Cond.code y_Model_partition b_Model_partition 4 (some .int) ∈ Wall := inW 890 rfl rfl
abbrev b_Model_where : ByteArray := prog_9_method_13_code
def y_Model_where : MethodName := ⟨"BootMakerModel", "where", "(II)I"⟩
def ws_Model_where : List Cond := Cond.code y_Model_where b_Model_where 3 (some .int) :: Wall
set_option maxRecDepth 100000 in
theorem cw_Model_where : Cond.code y_Model_where b_Model_where 3 (some .int) ∈ Wall := inW 894 rfl rfl
abbrev b_Model_isLetter : ByteArray := prog_9_method_14_code
def y_Model_isLetter : MethodName := ⟨"BootMakerModel", "isLetter", "(I)Z"⟩
def ws_Model_isLetter : List Cond := Cond.code y_Model_isLetter b_Model_isLetter 1 (some .boolean) :: Wall
set_option maxRecDepth 100000 in
theorem cw_Model_isLetter : Cond.code y_Model_isLetter b_Model_isLetter 1 (some .boolean) ∈ Wall := inW 905 rfl rfl
abbrev b_Model_told : ByteArray := prog_9_method_15_code
def y_Model_told : MethodName := ⟨"BootMakerModel", "told", "(J)J"⟩
def ws_Model_told : List Cond := Cond.code y_Model_told b_Model_told 6 (some .long) :: Wall
set_option maxRecDepth 100000 in
theorem cw_Model_told : Cond.code y_Model_told b_Model_told 6 (some .long) ∈ Wall := inW 901 rfl rfl
abbrev b_Model_named : ByteArray := prog_9_method_16_code
def y_Model_named : MethodName := ⟨"BootMakerModel", "named", "(J)I"⟩
def ws_Model_named : List Cond := Cond.code y_Model_named b_Model_named 4 (some .int) :: Wall
set_option maxRecDepth 100000 in
theorem cw_Model_named : Cond.code y_Model_named b_Model_named 4 (some .int) ∈ Wall := inW 909 rfl rfl
abbrev b_Model_file : ByteArray := prog_9_method_17_code
def y_Model_file : MethodName := ⟨"BootMakerModel", "file", "(JIIZ)I"⟩
def ws_Model_file : List Cond := Cond.code y_Model_file b_Model_file 8 (some .int) :: Wall
set_option maxRecDepth 100000 in
theorem cw_Model_file : Cond.code y_Model_file b_Model_file 8 (some .int) ∈ Wall := inW 898 rfl rfl
abbrev b_Model_address : ByteArray := prog_9_method_18_code
def y_Model_address : MethodName := ⟨"BootMakerModel", "address", "(I)Z"⟩
def ws_Model_address : List Cond := Cond.code y_Model_address b_Model_address 2 (some .boolean) :: Wall
set_option maxRecDepth 100000 in
theorem cw_Model_address : Cond.code y_Model_address b_Model_address 2 (some .boolean) ∈ Wall := inW 913 rfl rfl
abbrev b_Model_kernel : ByteArray := prog_9_method_19_code
def y_Model_kernel : MethodName := ⟨"BootMakerModel", "kernel", "()J"⟩
def ws_Model_kernel : List Cond := Cond.code y_Model_kernel b_Model_kernel 0 (some .long) :: Wall
set_option maxRecDepth 100000 in
theorem cw_Model_kernel : Cond.code y_Model_kernel b_Model_kernel 0 (some .long) ∈ Wall := inW 977 rfl rfl
abbrev b_Model_loader : ByteArray := prog_9_method_20_code
def y_Model_loader : MethodName := ⟨"BootMakerModel", "loader", "()J"⟩
def ws_Model_loader : List Cond := Cond.code y_Model_loader b_Model_loader 0 (some .long) :: Wall
set_option maxRecDepth 100000 in
theorem cw_Model_loader : Cond.code y_Model_loader b_Model_loader 0 (some .long) ∈ Wall := inW 938 rfl rfl
theorem d_Model_thrown_0 : decode b_Model_thrown 0 = .ok (.aload_n 0, 1) := by decide +kernel
theorem d_Model_thrown_1 : decode b_Model_thrown 1 = .ok (.getfield 61, 3) := by decide +kernel
theorem d_Model_thrown_4 : decode b_Model_thrown 4 = .ok (.ireturn, 1) := by decide +kernel
theorem d_Model_in_0 : decode b_Model_in 0 = .ok (.iload_n 0, 1) := by decide +kernel
theorem d_Model_in_1 : decode b_Model_in 1 = .ok (.iload_n 1, 1) := by decide +kernel
theorem d_Model_in_2 : decode b_Model_in 2 = .ok (.if_icmp .lt 12, 3) := by decide +kernel
theorem d_Model_in_5 : decode b_Model_in 5 = .ok (.iload_n 0, 1) := by decide +kernel
theorem d_Model_in_6 : decode b_Model_in 6 = .ok (.iload_n 2, 1) := by decide +kernel
theorem d_Model_in_7 : decode b_Model_in 7 = .ok (.if_icmp .gt 7, 3) := by decide +kernel
theorem d_Model_in_10 : decode b_Model_in 10 = .ok (.iconst 1, 1) := by decide +kernel
theorem d_Model_in_11 : decode b_Model_in 11 = .ok (.goto 4, 3) := by decide +kernel
theorem d_Model_in_14 : decode b_Model_in 14 = .ok (.iconst 0, 1) := by decide +kernel
theorem d_Model_in_15 : decode b_Model_in 15 = .ok (.ireturn, 1) := by decide +kernel
theorem d_Model_get_0 : decode b_Model_get 0 = .ok (.aload_n 0, 1) := by decide +kernel
theorem d_Model_get_1 : decode b_Model_get 1 = .ok (.getfield 8, 3) := by decide +kernel
theorem d_Model_get_4 : decode b_Model_get 4 = .ok (.iload_n 1, 1) := by decide +kernel
theorem d_Model_get_5 : decode b_Model_get 5 = .ok (.baload, 1) := by decide +kernel
theorem d_Model_get_6 : decode b_Model_get 6 = .ok (.sipush 255, 3) := by decide +kernel
theorem d_Model_get_9 : decode b_Model_get 9 = .ok (.iand, 1) := by decide +kernel
theorem d_Model_get_10 : decode b_Model_get 10 = .ok (.ireturn, 1) := by decide +kernel
theorem d_Model_low_0 : decode b_Model_low 0 = .ok (.iconst 0, 1) := by decide +kernel
theorem d_Model_low_1 : decode b_Model_low 1 = .ok (.istore 5, 2) := by decide +kernel
theorem d_Model_low_3 : decode b_Model_low 3 = .ok (.iload 5, 2) := by decide +kernel
theorem d_Model_low_5 : decode b_Model_low 5 = .ok (.iload_n 2, 1) := by decide +kernel
theorem d_Model_low_6 : decode b_Model_low 6 = .ok (.if_icmp .ge 27, 3) := by decide +kernel
theorem d_Model_low_9 : decode b_Model_low 9 = .ok (.aload_n 0, 1) := by decide +kernel
theorem d_Model_low_10 : decode b_Model_low 10 = .ok (.getfield 8, 3) := by decide +kernel
theorem d_Model_low_13 : decode b_Model_low 13 = .ok (.iload_n 1, 1) := by decide +kernel
theorem d_Model_low_14 : decode b_Model_low 14 = .ok (.iload 5, 2) := by decide +kernel
theorem d_Model_low_16 : decode b_Model_low 16 = .ok (.iadd, 1) := by decide +kernel
theorem d_Model_low_17 : decode b_Model_low 17 = .ok (.lload_n 3, 1) := by decide +kernel
theorem d_Model_low_18 : decode b_Model_low 18 = .ok (.bipush 8, 2) := by decide +kernel
theorem d_Model_low_20 : decode b_Model_low 20 = .ok (.iload 5, 2) := by decide +kernel
theorem d_Model_low_22 : decode b_Model_low 22 = .ok (.imul, 1) := by decide +kernel
theorem d_Model_low_23 : decode b_Model_low 23 = .ok (.lushr, 1) := by decide +kernel
theorem d_Model_low_24 : decode b_Model_low 24 = .ok (.l2i, 1) := by decide +kernel
theorem d_Model_low_25 : decode b_Model_low 25 = .ok (.i2b, 1) := by decide +kernel
theorem d_Model_low_26 : decode b_Model_low 26 = .ok (.bastore, 1) := by decide +kernel
theorem d_Model_low_27 : decode b_Model_low 27 = .ok (.iinc 5 1, 3) := by decide +kernel
theorem d_Model_low_30 : decode b_Model_low 30 = .ok (.goto (-27), 3) := by decide +kernel
theorem d_Model_low_33 : decode b_Model_low 33 = .ok (.return_, 1) := by decide +kernel
theorem d_Model_lowAt_0 : decode b_Model_lowAt 0 = .ok (.lconst 0, 1) := by decide +kernel
theorem d_Model_lowAt_1 : decode b_Model_lowAt 1 = .ok (.lstore_n 3, 1) := by decide +kernel
theorem d_Model_lowAt_2 : decode b_Model_lowAt 2 = .ok (.iload_n 2, 1) := by decide +kernel
theorem d_Model_lowAt_3 : decode b_Model_lowAt 3 = .ok (.iconst 1, 1) := by decide +kernel
theorem d_Model_lowAt_4 : decode b_Model_lowAt 4 = .ok (.isub, 1) := by decide +kernel
theorem d_Model_lowAt_5 : decode b_Model_lowAt 5 = .ok (.istore 5, 2) := by decide +kernel
theorem d_Model_lowAt_7 : decode b_Model_lowAt 7 = .ok (.iload 5, 2) := by decide +kernel
theorem d_Model_lowAt_9 : decode b_Model_lowAt 9 = .ok (.ifCond .lt 24, 3) := by decide +kernel
theorem d_Model_lowAt_12 : decode b_Model_lowAt 12 = .ok (.lload_n 3, 1) := by decide +kernel
theorem d_Model_lowAt_13 : decode b_Model_lowAt 13 = .ok (.bipush 8, 2) := by decide +kernel
theorem d_Model_lowAt_15 : decode b_Model_lowAt 15 = .ok (.lshl, 1) := by decide +kernel
theorem d_Model_lowAt_16 : decode b_Model_lowAt 16 = .ok (.aload_n 0, 1) := by decide +kernel
theorem d_Model_lowAt_17 : decode b_Model_lowAt 17 = .ok (.iload_n 1, 1) := by decide +kernel
theorem d_Model_lowAt_18 : decode b_Model_lowAt 18 = .ok (.iload 5, 2) := by decide +kernel
theorem d_Model_lowAt_20 : decode b_Model_lowAt 20 = .ok (.iadd, 1) := by decide +kernel
theorem d_Model_lowAt_21 : decode b_Model_lowAt 21 = .ok (.invokevirtual 64, 3) := by decide +kernel
theorem d_Model_lowAt_24 : decode b_Model_lowAt 24 = .ok (.i2l, 1) := by decide +kernel
theorem d_Model_lowAt_25 : decode b_Model_lowAt 25 = .ok (.lor, 1) := by decide +kernel
theorem d_Model_lowAt_26 : decode b_Model_lowAt 26 = .ok (.lstore_n 3, 1) := by decide +kernel
theorem d_Model_lowAt_27 : decode b_Model_lowAt 27 = .ok (.iinc 5 (-1), 3) := by decide +kernel
theorem d_Model_lowAt_30 : decode b_Model_lowAt 30 = .ok (.goto (-23), 3) := by decide +kernel
theorem d_Model_lowAt_33 : decode b_Model_lowAt 33 = .ok (.lload_n 3, 1) := by decide +kernel
theorem d_Model_lowAt_34 : decode b_Model_lowAt 34 = .ok (.lreturn, 1) := by decide +kernel
theorem d_Model_goesOn_0 : decode b_Model_goesOn 0 = .ok (.iload_n 0, 1) := by decide +kernel
theorem d_Model_goesOn_1 : decode b_Model_goesOn 1 = .ok (.iload_n 1, 1) := by decide +kernel
theorem d_Model_goesOn_2 : decode b_Model_goesOn 2 = .ok (.ixor, 1) := by decide +kernel
theorem d_Model_goesOn_3 : decode b_Model_goesOn 3 = .ok (.istore_n 2, 1) := by decide +kernel
theorem d_Model_goesOn_4 : decode b_Model_goesOn 4 = .ok (.iconst 0, 1) := by decide +kernel
theorem d_Model_goesOn_5 : decode b_Model_goesOn 5 = .ok (.istore_n 3, 1) := by decide +kernel
theorem d_Model_goesOn_6 : decode b_Model_goesOn 6 = .ok (.iload_n 3, 1) := by decide +kernel
theorem d_Model_goesOn_7 : decode b_Model_goesOn 7 = .ok (.bipush 8, 2) := by decide +kernel
theorem d_Model_goesOn_9 : decode b_Model_goesOn 9 = .ok (.if_icmp .ge 29, 3) := by decide +kernel
theorem d_Model_goesOn_12 : decode b_Model_goesOn 12 = .ok (.iload_n 2, 1) := by decide +kernel
theorem d_Model_goesOn_13 : decode b_Model_goesOn 13 = .ok (.iconst 1, 1) := by decide +kernel
theorem d_Model_goesOn_14 : decode b_Model_goesOn 14 = .ok (.iand, 1) := by decide +kernel
theorem d_Model_goesOn_15 : decode b_Model_goesOn 15 = .ok (.iconst 1, 1) := by decide +kernel
theorem d_Model_goesOn_16 : decode b_Model_goesOn 16 = .ok (.if_icmp .ne 12, 3) := by decide +kernel
theorem d_Model_goesOn_19 : decode b_Model_goesOn 19 = .ok (.iload_n 2, 1) := by decide +kernel
theorem d_Model_goesOn_20 : decode b_Model_goesOn 20 = .ok (.iconst 1, 1) := by decide +kernel
theorem d_Model_goesOn_21 : decode b_Model_goesOn 21 = .ok (.iushr, 1) := by decide +kernel
theorem d_Model_goesOn_22 : decode b_Model_goesOn 22 = .ok (.ldc 68, 2) := by decide +kernel
theorem d_Model_goesOn_24 : decode b_Model_goesOn 24 = .ok (.ixor, 1) := by decide +kernel
theorem d_Model_goesOn_25 : decode b_Model_goesOn 25 = .ok (.goto 6, 3) := by decide +kernel
theorem d_Model_goesOn_28 : decode b_Model_goesOn 28 = .ok (.iload_n 2, 1) := by decide +kernel
theorem d_Model_goesOn_29 : decode b_Model_goesOn 29 = .ok (.iconst 1, 1) := by decide +kernel
theorem d_Model_goesOn_30 : decode b_Model_goesOn 30 = .ok (.iushr, 1) := by decide +kernel
theorem d_Model_goesOn_31 : decode b_Model_goesOn 31 = .ok (.istore_n 2, 1) := by decide +kernel
theorem d_Model_goesOn_32 : decode b_Model_goesOn 32 = .ok (.iinc 3 1, 3) := by decide +kernel
theorem d_Model_goesOn_35 : decode b_Model_goesOn 35 = .ok (.goto (-29), 3) := by decide +kernel
theorem d_Model_goesOn_38 : decode b_Model_goesOn 38 = .ok (.iload_n 2, 1) := by decide +kernel
theorem d_Model_goesOn_39 : decode b_Model_goesOn 39 = .ok (.ireturn, 1) := by decide +kernel
theorem d_Model_sumOf_0 : decode b_Model_sumOf 0 = .ok (.iconst (-1), 1) := by decide +kernel
theorem d_Model_sumOf_1 : decode b_Model_sumOf 1 = .ok (.istore_n 3, 1) := by decide +kernel
theorem d_Model_sumOf_2 : decode b_Model_sumOf 2 = .ok (.iconst 0, 1) := by decide +kernel
theorem d_Model_sumOf_3 : decode b_Model_sumOf 3 = .ok (.istore 4, 2) := by decide +kernel
theorem d_Model_sumOf_5 : decode b_Model_sumOf 5 = .ok (.iload 4, 2) := by decide +kernel
theorem d_Model_sumOf_7 : decode b_Model_sumOf 7 = .ok (.iload_n 2, 1) := by decide +kernel
theorem d_Model_sumOf_8 : decode b_Model_sumOf 8 = .ok (.if_icmp .ge 22, 3) := by decide +kernel
theorem d_Model_sumOf_11 : decode b_Model_sumOf 11 = .ok (.iload_n 3, 1) := by decide +kernel
theorem d_Model_sumOf_12 : decode b_Model_sumOf 12 = .ok (.aload_n 0, 1) := by decide +kernel
theorem d_Model_sumOf_13 : decode b_Model_sumOf 13 = .ok (.iload_n 1, 1) := by decide +kernel
theorem d_Model_sumOf_14 : decode b_Model_sumOf 14 = .ok (.iload 4, 2) := by decide +kernel
theorem d_Model_sumOf_16 : decode b_Model_sumOf 16 = .ok (.iadd, 1) := by decide +kernel
theorem d_Model_sumOf_17 : decode b_Model_sumOf 17 = .ok (.invokevirtual 64, 3) := by decide +kernel
theorem d_Model_sumOf_20 : decode b_Model_sumOf 20 = .ok (.invokestatic 69, 3) := by decide +kernel
theorem d_Model_sumOf_23 : decode b_Model_sumOf 23 = .ok (.istore_n 3, 1) := by decide +kernel
theorem d_Model_sumOf_24 : decode b_Model_sumOf 24 = .ok (.iinc 4 1, 3) := by decide +kernel
theorem d_Model_sumOf_27 : decode b_Model_sumOf 27 = .ok (.goto (-22), 3) := by decide +kernel
theorem d_Model_sumOf_30 : decode b_Model_sumOf 30 = .ok (.iload_n 3, 1) := by decide +kernel
theorem d_Model_sumOf_31 : decode b_Model_sumOf 31 = .ok (.iconst (-1), 1) := by decide +kernel
theorem d_Model_sumOf_32 : decode b_Model_sumOf 32 = .ok (.ixor, 1) := by decide +kernel
theorem d_Model_sumOf_33 : decode b_Model_sumOf 33 = .ok (.ireturn, 1) := by decide +kernel
theorem d_Model_byteAt_0 : decode b_Model_byteAt 0 = .ok (.aload_n 0, 1) := by decide +kernel
theorem d_Model_byteAt_1 : decode b_Model_byteAt 1 = .ok (.iconst 0, 1) := by decide +kernel
theorem d_Model_byteAt_2 : decode b_Model_byteAt 2 = .ok (.putfield 61, 3) := by decide +kernel
theorem d_Model_byteAt_5 : decode b_Model_byteAt 5 = .ok (.iload_n 1, 1) := by decide +kernel
theorem d_Model_byteAt_6 : decode b_Model_byteAt 6 = .ok (.iconst 0, 1) := by decide +kernel
theorem d_Model_byteAt_7 : decode b_Model_byteAt 7 = .ok (.sipush 512, 3) := by decide +kernel
theorem d_Model_byteAt_10 : decode b_Model_byteAt 10 = .ok (.aload_n 0, 1) := by decide +kernel
theorem d_Model_byteAt_11 : decode b_Model_byteAt 11 = .ok (.getfield 48, 3) := by decide +kernel
theorem d_Model_byteAt_14 : decode b_Model_byteAt 14 = .ok (.imul, 1) := by decide +kernel
theorem d_Model_byteAt_15 : decode b_Model_byteAt 15 = .ok (.iconst 1, 1) := by decide +kernel
theorem d_Model_byteAt_16 : decode b_Model_byteAt 16 = .ok (.isub, 1) := by decide +kernel
theorem d_Model_byteAt_17 : decode b_Model_byteAt 17 = .ok (.invokestatic 73, 3) := by decide +kernel
theorem d_Model_byteAt_20 : decode b_Model_byteAt 20 = .ok (.ifCond .eq 11, 3) := by decide +kernel
theorem d_Model_byteAt_23 : decode b_Model_byteAt 23 = .ok (.aload_n 0, 1) := by decide +kernel
theorem d_Model_byteAt_24 : decode b_Model_byteAt 24 = .ok (.iload_n 1, 1) := by decide +kernel
theorem d_Model_byteAt_25 : decode b_Model_byteAt 25 = .ok (.invokevirtual 64, 3) := by decide +kernel
theorem d_Model_byteAt_28 : decode b_Model_byteAt 28 = .ok (.goto 4, 3) := by decide +kernel
theorem d_Model_byteAt_31 : decode b_Model_byteAt 31 = .ok (.iconst (-1), 1) := by decide +kernel
theorem d_Model_byteAt_32 : decode b_Model_byteAt 32 = .ok (.ireturn, 1) := by decide +kernel
theorem d_Model_poke_0 : decode b_Model_poke 0 = .ok (.aload_n 0, 1) := by decide +kernel
theorem d_Model_poke_1 : decode b_Model_poke 1 = .ok (.iconst 0, 1) := by decide +kernel
theorem d_Model_poke_2 : decode b_Model_poke 2 = .ok (.putfield 61, 3) := by decide +kernel
theorem d_Model_poke_5 : decode b_Model_poke 5 = .ok (.iload_n 1, 1) := by decide +kernel
theorem d_Model_poke_6 : decode b_Model_poke 6 = .ok (.iconst 0, 1) := by decide +kernel
theorem d_Model_poke_7 : decode b_Model_poke 7 = .ok (.sipush 512, 3) := by decide +kernel
theorem d_Model_poke_10 : decode b_Model_poke 10 = .ok (.aload_n 0, 1) := by decide +kernel
theorem d_Model_poke_11 : decode b_Model_poke 11 = .ok (.getfield 48, 3) := by decide +kernel
theorem d_Model_poke_14 : decode b_Model_poke 14 = .ok (.imul, 1) := by decide +kernel
theorem d_Model_poke_15 : decode b_Model_poke 15 = .ok (.iconst 1, 1) := by decide +kernel
theorem d_Model_poke_16 : decode b_Model_poke 16 = .ok (.isub, 1) := by decide +kernel
theorem d_Model_poke_17 : decode b_Model_poke 17 = .ok (.invokestatic 73, 3) := by decide +kernel
theorem d_Model_poke_20 : decode b_Model_poke 20 = .ok (.ifCond .ne 5, 3) := by decide +kernel
theorem d_Model_poke_23 : decode b_Model_poke 23 = .ok (.iconst (-1), 1) := by decide +kernel
theorem d_Model_poke_24 : decode b_Model_poke 24 = .ok (.ireturn, 1) := by decide +kernel
theorem d_Model_poke_25 : decode b_Model_poke 25 = .ok (.aload_n 0, 1) := by decide +kernel
theorem d_Model_poke_26 : decode b_Model_poke 26 = .ok (.iload_n 1, 1) := by decide +kernel
theorem d_Model_poke_27 : decode b_Model_poke 27 = .ok (.invokevirtual 64, 3) := by decide +kernel
theorem d_Model_poke_30 : decode b_Model_poke 30 = .ok (.istore_n 3, 1) := by decide +kernel
theorem d_Model_poke_31 : decode b_Model_poke 31 = .ok (.aload_n 0, 1) := by decide +kernel
theorem d_Model_poke_32 : decode b_Model_poke 32 = .ok (.getfield 8, 3) := by decide +kernel
theorem d_Model_poke_35 : decode b_Model_poke 35 = .ok (.iload_n 1, 1) := by decide +kernel
theorem d_Model_poke_36 : decode b_Model_poke 36 = .ok (.iload_n 2, 1) := by decide +kernel
theorem d_Model_poke_37 : decode b_Model_poke 37 = .ok (.i2b, 1) := by decide +kernel
theorem d_Model_poke_38 : decode b_Model_poke 38 = .ok (.bastore, 1) := by decide +kernel
theorem d_Model_poke_39 : decode b_Model_poke 39 = .ok (.iload_n 3, 1) := by decide +kernel
theorem d_Model_poke_40 : decode b_Model_poke 40 = .ok (.ireturn, 1) := by decide +kernel
theorem d_Model_sum_0 : decode b_Model_sum 0 = .ok (.aload_n 0, 1) := by decide +kernel
theorem d_Model_sum_1 : decode b_Model_sum 1 = .ok (.iconst 0, 1) := by decide +kernel
theorem d_Model_sum_2 : decode b_Model_sum 2 = .ok (.putfield 61, 3) := by decide +kernel
theorem d_Model_sum_5 : decode b_Model_sum 5 = .ok (.iload_n 2, 1) := by decide +kernel
theorem d_Model_sum_6 : decode b_Model_sum 6 = .ok (.ifCond .lt 34, 3) := by decide +kernel
theorem d_Model_sum_9 : decode b_Model_sum 9 = .ok (.iload_n 1, 1) := by decide +kernel
theorem d_Model_sum_10 : decode b_Model_sum 10 = .ok (.ifCond .lt 30, 3) := by decide +kernel
theorem d_Model_sum_13 : decode b_Model_sum 13 = .ok (.iload_n 1, 1) := by decide +kernel
theorem d_Model_sum_14 : decode b_Model_sum 14 = .ok (.i2l, 1) := by decide +kernel
theorem d_Model_sum_15 : decode b_Model_sum 15 = .ok (.iload_n 2, 1) := by decide +kernel
theorem d_Model_sum_16 : decode b_Model_sum 16 = .ok (.i2l, 1) := by decide +kernel
theorem d_Model_sum_17 : decode b_Model_sum 17 = .ok (.ladd, 1) := by decide +kernel
theorem d_Model_sum_18 : decode b_Model_sum 18 = .ok (.ldc2_w 77, 3) := by decide +kernel
theorem d_Model_sum_21 : decode b_Model_sum 21 = .ok (.aload_n 0, 1) := by decide +kernel
theorem d_Model_sum_22 : decode b_Model_sum 22 = .ok (.getfield 48, 3) := by decide +kernel
theorem d_Model_sum_25 : decode b_Model_sum 25 = .ok (.i2l, 1) := by decide +kernel
theorem d_Model_sum_26 : decode b_Model_sum 26 = .ok (.lmul, 1) := by decide +kernel
theorem d_Model_sum_27 : decode b_Model_sum 27 = .ok (.lcmp, 1) := by decide +kernel
theorem d_Model_sum_28 : decode b_Model_sum 28 = .ok (.ifCond .gt 12, 3) := by decide +kernel
theorem d_Model_sum_31 : decode b_Model_sum 31 = .ok (.aload_n 0, 1) := by decide +kernel
theorem d_Model_sum_32 : decode b_Model_sum 32 = .ok (.iload_n 1, 1) := by decide +kernel
theorem d_Model_sum_33 : decode b_Model_sum 33 = .ok (.iload_n 2, 1) := by decide +kernel
theorem d_Model_sum_34 : decode b_Model_sum 34 = .ok (.invokevirtual 79, 3) := by decide +kernel
theorem d_Model_sum_37 : decode b_Model_sum 37 = .ok (.goto 4, 3) := by decide +kernel
theorem d_Model_sum_40 : decode b_Model_sum 40 = .ok (.iconst 0, 1) := by decide +kernel
theorem d_Model_sum_41 : decode b_Model_sum 41 = .ok (.ireturn, 1) := by decide +kernel
theorem d_Model_partition_0 : decode b_Model_partition 0 = .ok (.aload_n 0, 1) := by decide +kernel
theorem d_Model_partition_1 : decode b_Model_partition 1 = .ok (.iconst 0, 1) := by decide +kernel
theorem d_Model_partition_2 : decode b_Model_partition 2 = .ok (.putfield 61, 3) := by decide +kernel
theorem d_Model_partition_5 : decode b_Model_partition 5 = .ok (.iload_n 1, 1) := by decide +kernel
theorem d_Model_partition_6 : decode b_Model_partition 6 = .ok (.iconst 0, 1) := by decide +kernel
theorem d_Model_partition_7 : decode b_Model_partition 7 = .ok (.iconst 1, 1) := by decide +kernel
theorem d_Model_partition_8 : decode b_Model_partition 8 = .ok (.invokestatic 73, 3) := by decide +kernel
theorem d_Model_partition_11 : decode b_Model_partition 11 = .ok (.ifCond .eq 15, 3) := by decide +kernel
theorem d_Model_partition_14 : decode b_Model_partition 14 = .ok (.iload_n 2, 1) := by decide +kernel
theorem d_Model_partition_15 : decode b_Model_partition 15 = .ok (.bipush 8, 2) := by decide +kernel
theorem d_Model_partition_17 : decode b_Model_partition 17 = .ok (.sipush 600, 3) := by decide +kernel
theorem d_Model_partition_20 : decode b_Model_partition 20 = .ok (.invokestatic 73, 3) := by decide +kernel
theorem d_Model_partition_23 : decode b_Model_partition 23 = .ok (.ifCond .ne 6, 3) := by decide +kernel
theorem d_Model_partition_26 : decode b_Model_partition 26 = .ok (.bipush (-2), 2) := by decide +kernel
theorem d_Model_partition_28 : decode b_Model_partition 28 = .ok (.ireturn, 1) := by decide +kernel
theorem d_Model_partition_29 : decode b_Model_partition 29 = .ok (.aload_n 0, 1) := by decide +kernel
theorem d_Model_partition_30 : decode b_Model_partition 30 = .ok (.getfield 82, 3) := by decide +kernel
theorem d_Model_partition_33 : decode b_Model_partition 33 = .ok (.iconst 4, 1) := by decide +kernel
theorem d_Model_partition_34 : decode b_Model_partition 34 = .ok (.if_icmp .ne 6, 3) := by decide +kernel
theorem d_Model_partition_37 : decode b_Model_partition 37 = .ok (.bipush (-3), 2) := by decide +kernel
theorem d_Model_partition_39 : decode b_Model_partition 39 = .ok (.ireturn, 1) := by decide +kernel
theorem d_Model_partition_40 : decode b_Model_partition 40 = .ok (.aload_n 0, 1) := by decide +kernel
theorem d_Model_partition_41 : decode b_Model_partition 41 = .ok (.getfield 82, 3) := by decide +kernel
theorem d_Model_partition_44 : decode b_Model_partition 44 = .ok (.ifCond .ne 8, 3) := by decide +kernel
theorem d_Model_partition_47 : decode b_Model_partition 47 = .ok (.bipush 40, 2) := by decide +kernel
theorem d_Model_partition_49 : decode b_Model_partition 49 = .ok (.goto 35, 3) := by decide +kernel
theorem d_Model_partition_52 : decode b_Model_partition 52 = .ok (.aload_n 0, 1) := by decide +kernel
theorem d_Model_partition_53 : decode b_Model_partition 53 = .ok (.getfield 18, 3) := by decide +kernel
theorem d_Model_partition_56 : decode b_Model_partition 56 = .ok (.aload_n 0, 1) := by decide +kernel
theorem d_Model_partition_57 : decode b_Model_partition 57 = .ok (.getfield 82, 3) := by decide +kernel
theorem d_Model_partition_60 : decode b_Model_partition 60 = .ok (.iconst 1, 1) := by decide +kernel
theorem d_Model_partition_61 : decode b_Model_partition 61 = .ok (.isub, 1) := by decide +kernel
theorem d_Model_partition_62 : decode b_Model_partition 62 = .ok (.iaload, 1) := by decide +kernel
theorem d_Model_partition_63 : decode b_Model_partition 63 = .ok (.aload_n 0, 1) := by decide +kernel
theorem d_Model_partition_64 : decode b_Model_partition 64 = .ok (.getfield 21, 3) := by decide +kernel
theorem d_Model_partition_67 : decode b_Model_partition 67 = .ok (.aload_n 0, 1) := by decide +kernel
theorem d_Model_partition_68 : decode b_Model_partition 68 = .ok (.getfield 82, 3) := by decide +kernel
theorem d_Model_partition_71 : decode b_Model_partition 71 = .ok (.iconst 1, 1) := by decide +kernel
theorem d_Model_partition_72 : decode b_Model_partition 72 = .ok (.isub, 1) := by decide +kernel
theorem d_Model_partition_73 : decode b_Model_partition 73 = .ok (.iaload, 1) := by decide +kernel
theorem d_Model_partition_74 : decode b_Model_partition 74 = .ok (.iadd, 1) := by decide +kernel
theorem d_Model_partition_75 : decode b_Model_partition 75 = .ok (.bipush 7, 2) := by decide +kernel
theorem d_Model_partition_77 : decode b_Model_partition 77 = .ok (.iadd, 1) := by decide +kernel
theorem d_Model_partition_78 : decode b_Model_partition 78 = .ok (.bipush 8, 2) := by decide +kernel
theorem d_Model_partition_80 : decode b_Model_partition 80 = .ok (.idiv, 1) := by decide +kernel
theorem d_Model_partition_81 : decode b_Model_partition 81 = .ok (.bipush 8, 2) := by decide +kernel
theorem d_Model_partition_83 : decode b_Model_partition 83 = .ok (.imul, 1) := by decide +kernel
theorem d_Model_partition_84 : decode b_Model_partition 84 = .ok (.istore_n 3, 1) := by decide +kernel
theorem d_Model_partition_85 : decode b_Model_partition 85 = .ok (.iload_n 3, 1) := by decide +kernel
theorem d_Model_partition_86 : decode b_Model_partition 86 = .ok (.iload_n 2, 1) := by decide +kernel
theorem d_Model_partition_87 : decode b_Model_partition 87 = .ok (.iadd, 1) := by decide +kernel
theorem d_Model_partition_88 : decode b_Model_partition 88 = .ok (.iconst 1, 1) := by decide +kernel
theorem d_Model_partition_89 : decode b_Model_partition 89 = .ok (.isub, 1) := by decide +kernel
theorem d_Model_partition_90 : decode b_Model_partition 90 = .ok (.aload_n 0, 1) := by decide +kernel
theorem d_Model_partition_91 : decode b_Model_partition 91 = .ok (.getfield 48, 3) := by decide +kernel
theorem d_Model_partition_94 : decode b_Model_partition 94 = .ok (.bipush 34, 2) := by decide +kernel
theorem d_Model_partition_96 : decode b_Model_partition 96 = .ok (.isub, 1) := by decide +kernel
theorem d_Model_partition_97 : decode b_Model_partition 97 = .ok (.if_icmp .le 6, 3) := by decide +kernel
theorem d_Model_partition_100 : decode b_Model_partition 100 = .ok (.bipush (-3), 2) := by decide +kernel
theorem d_Model_partition_102 : decode b_Model_partition 102 = .ok (.ireturn, 1) := by decide +kernel
theorem d_Model_partition_103 : decode b_Model_partition 103 = .ok (.aload_n 0, 1) := by decide +kernel
theorem d_Model_partition_104 : decode b_Model_partition 104 = .ok (.getfield 14, 3) := by decide +kernel
theorem d_Model_partition_107 : decode b_Model_partition 107 = .ok (.aload_n 0, 1) := by decide +kernel
theorem d_Model_partition_108 : decode b_Model_partition 108 = .ok (.getfield 82, 3) := by decide +kernel
theorem d_Model_partition_111 : decode b_Model_partition 111 = .ok (.iload_n 1, 1) := by decide +kernel
theorem d_Model_partition_112 : decode b_Model_partition 112 = .ok (.iastore, 1) := by decide +kernel
theorem d_Model_partition_113 : decode b_Model_partition 113 = .ok (.aload_n 0, 1) := by decide +kernel
theorem d_Model_partition_114 : decode b_Model_partition 114 = .ok (.getfield 18, 3) := by decide +kernel
theorem d_Model_partition_117 : decode b_Model_partition 117 = .ok (.aload_n 0, 1) := by decide +kernel
theorem d_Model_partition_118 : decode b_Model_partition 118 = .ok (.getfield 82, 3) := by decide +kernel
theorem d_Model_partition_121 : decode b_Model_partition 121 = .ok (.iload_n 3, 1) := by decide +kernel
theorem d_Model_partition_122 : decode b_Model_partition 122 = .ok (.iastore, 1) := by decide +kernel
theorem d_Model_partition_123 : decode b_Model_partition 123 = .ok (.aload_n 0, 1) := by decide +kernel
theorem d_Model_partition_124 : decode b_Model_partition 124 = .ok (.getfield 21, 3) := by decide +kernel
theorem d_Model_partition_127 : decode b_Model_partition 127 = .ok (.aload_n 0, 1) := by decide +kernel
theorem d_Model_partition_128 : decode b_Model_partition 128 = .ok (.getfield 82, 3) := by decide +kernel
theorem d_Model_partition_131 : decode b_Model_partition 131 = .ok (.iload_n 2, 1) := by decide +kernel
theorem d_Model_partition_132 : decode b_Model_partition 132 = .ok (.iastore, 1) := by decide +kernel
theorem d_Model_partition_133 : decode b_Model_partition 133 = .ok (.aload_n 0, 1) := by decide +kernel
theorem d_Model_partition_134 : decode b_Model_partition 134 = .ok (.dup, 1) := by decide +kernel
theorem d_Model_partition_135 : decode b_Model_partition 135 = .ok (.getfield 82, 3) := by decide +kernel
theorem d_Model_partition_138 : decode b_Model_partition 138 = .ok (.iconst 1, 1) := by decide +kernel
theorem d_Model_partition_139 : decode b_Model_partition 139 = .ok (.iadd, 1) := by decide +kernel
theorem d_Model_partition_140 : decode b_Model_partition 140 = .ok (.putfield 82, 3) := by decide +kernel
theorem d_Model_partition_143 : decode b_Model_partition 143 = .ok (.aload_n 0, 1) := by decide +kernel
theorem d_Model_partition_144 : decode b_Model_partition 144 = .ok (.getfield 82, 3) := by decide +kernel
theorem d_Model_partition_147 : decode b_Model_partition 147 = .ok (.iconst 1, 1) := by decide +kernel
theorem d_Model_partition_148 : decode b_Model_partition 148 = .ok (.isub, 1) := by decide +kernel
theorem d_Model_partition_149 : decode b_Model_partition 149 = .ok (.ireturn, 1) := by decide +kernel
theorem d_Model_where_0 : decode b_Model_where 0 = .ok (.aload_n 0, 1) := by decide +kernel
theorem d_Model_where_1 : decode b_Model_where 1 = .ok (.iconst 0, 1) := by decide +kernel
theorem d_Model_where_2 : decode b_Model_where 2 = .ok (.putfield 61, 3) := by decide +kernel
theorem d_Model_where_5 : decode b_Model_where 5 = .ok (.iload_n 1, 1) := by decide +kernel
theorem d_Model_where_6 : decode b_Model_where 6 = .ok (.iconst 0, 1) := by decide +kernel
theorem d_Model_where_7 : decode b_Model_where 7 = .ok (.aload_n 0, 1) := by decide +kernel
theorem d_Model_where_8 : decode b_Model_where 8 = .ok (.getfield 82, 3) := by decide +kernel
theorem d_Model_where_11 : decode b_Model_where 11 = .ok (.iconst 1, 1) := by decide +kernel
theorem d_Model_where_12 : decode b_Model_where 12 = .ok (.isub, 1) := by decide +kernel
theorem d_Model_where_13 : decode b_Model_where 13 = .ok (.invokestatic 73, 3) := by decide +kernel
theorem d_Model_where_16 : decode b_Model_where 16 = .ok (.ifCond .ne 5, 3) := by decide +kernel
theorem d_Model_where_19 : decode b_Model_where 19 = .ok (.iconst (-1), 1) := by decide +kernel
theorem d_Model_where_20 : decode b_Model_where 20 = .ok (.ireturn, 1) := by decide +kernel
theorem d_Model_where_21 : decode b_Model_where 21 = .ok (.iload_n 2, 1) := by decide +kernel
theorem d_Model_where_22 : decode b_Model_where 22 = .ok (.ifCond .ne 12, 3) := by decide +kernel
theorem d_Model_where_25 : decode b_Model_where 25 = .ok (.aload_n 0, 1) := by decide +kernel
theorem d_Model_where_26 : decode b_Model_where 26 = .ok (.getfield 18, 3) := by decide +kernel
theorem d_Model_where_29 : decode b_Model_where 29 = .ok (.iload_n 1, 1) := by decide +kernel
theorem d_Model_where_30 : decode b_Model_where 30 = .ok (.iaload, 1) := by decide +kernel
theorem d_Model_where_31 : decode b_Model_where 31 = .ok (.goto 32, 3) := by decide +kernel
theorem d_Model_where_34 : decode b_Model_where 34 = .ok (.iload_n 2, 1) := by decide +kernel
theorem d_Model_where_35 : decode b_Model_where 35 = .ok (.iconst 1, 1) := by decide +kernel
theorem d_Model_where_36 : decode b_Model_where 36 = .ok (.if_icmp .ne 12, 3) := by decide +kernel
theorem d_Model_where_39 : decode b_Model_where 39 = .ok (.aload_n 0, 1) := by decide +kernel
theorem d_Model_where_40 : decode b_Model_where 40 = .ok (.getfield 21, 3) := by decide +kernel
theorem d_Model_where_43 : decode b_Model_where 43 = .ok (.iload_n 1, 1) := by decide +kernel
theorem d_Model_where_44 : decode b_Model_where 44 = .ok (.iaload, 1) := by decide +kernel
theorem d_Model_where_45 : decode b_Model_where 45 = .ok (.goto 18, 3) := by decide +kernel
theorem d_Model_where_48 : decode b_Model_where 48 = .ok (.iload_n 2, 1) := by decide +kernel
theorem d_Model_where_49 : decode b_Model_where 49 = .ok (.iconst 2, 1) := by decide +kernel
theorem d_Model_where_50 : decode b_Model_where 50 = .ok (.if_icmp .ne 12, 3) := by decide +kernel
theorem d_Model_where_53 : decode b_Model_where 53 = .ok (.aload_n 0, 1) := by decide +kernel
theorem d_Model_where_54 : decode b_Model_where 54 = .ok (.getfield 14, 3) := by decide +kernel
theorem d_Model_where_57 : decode b_Model_where 57 = .ok (.iload_n 1, 1) := by decide +kernel
theorem d_Model_where_58 : decode b_Model_where 58 = .ok (.iaload, 1) := by decide +kernel
theorem d_Model_where_59 : decode b_Model_where 59 = .ok (.goto 4, 3) := by decide +kernel
theorem d_Model_where_62 : decode b_Model_where 62 = .ok (.iconst (-1), 1) := by decide +kernel
theorem d_Model_where_63 : decode b_Model_where 63 = .ok (.ireturn, 1) := by decide +kernel
theorem d_Model_isLetter_0 : decode b_Model_isLetter 0 = .ok (.iload_n 0, 1) := by decide +kernel
theorem d_Model_isLetter_1 : decode b_Model_isLetter 1 = .ok (.bipush 65, 2) := by decide +kernel
theorem d_Model_isLetter_3 : decode b_Model_isLetter 3 = .ok (.if_icmp .lt 9, 3) := by decide +kernel
theorem d_Model_isLetter_6 : decode b_Model_isLetter 6 = .ok (.iload_n 0, 1) := by decide +kernel
theorem d_Model_isLetter_7 : decode b_Model_isLetter 7 = .ok (.bipush 90, 2) := by decide +kernel
theorem d_Model_isLetter_9 : decode b_Model_isLetter 9 = .ok (.if_icmp .le 21, 3) := by decide +kernel
theorem d_Model_isLetter_12 : decode b_Model_isLetter 12 = .ok (.iload_n 0, 1) := by decide +kernel
theorem d_Model_isLetter_13 : decode b_Model_isLetter 13 = .ok (.bipush 48, 2) := by decide +kernel
theorem d_Model_isLetter_15 : decode b_Model_isLetter 15 = .ok (.if_icmp .lt 9, 3) := by decide +kernel
theorem d_Model_isLetter_18 : decode b_Model_isLetter 18 = .ok (.iload_n 0, 1) := by decide +kernel
theorem d_Model_isLetter_19 : decode b_Model_isLetter 19 = .ok (.bipush 57, 2) := by decide +kernel
theorem d_Model_isLetter_21 : decode b_Model_isLetter 21 = .ok (.if_icmp .le 9, 3) := by decide +kernel
theorem d_Model_isLetter_24 : decode b_Model_isLetter 24 = .ok (.iload_n 0, 1) := by decide +kernel
theorem d_Model_isLetter_25 : decode b_Model_isLetter 25 = .ok (.bipush 95, 2) := by decide +kernel
theorem d_Model_isLetter_27 : decode b_Model_isLetter 27 = .ok (.if_icmp .ne 7, 3) := by decide +kernel
theorem d_Model_isLetter_30 : decode b_Model_isLetter 30 = .ok (.iconst 1, 1) := by decide +kernel
theorem d_Model_isLetter_31 : decode b_Model_isLetter 31 = .ok (.goto 4, 3) := by decide +kernel
theorem d_Model_isLetter_34 : decode b_Model_isLetter 34 = .ok (.iconst 0, 1) := by decide +kernel
theorem d_Model_isLetter_35 : decode b_Model_isLetter 35 = .ok (.ireturn, 1) := by decide +kernel
theorem d_Model_told_0 : decode b_Model_told 0 = .ok (.lconst 0, 1) := by decide +kernel
theorem d_Model_told_1 : decode b_Model_told 1 = .ok (.lstore_n 2, 1) := by decide +kernel
theorem d_Model_told_2 : decode b_Model_told 2 = .ok (.bipush 7, 2) := by decide +kernel
theorem d_Model_told_4 : decode b_Model_told 4 = .ok (.istore 4, 2) := by decide +kernel
theorem d_Model_told_6 : decode b_Model_told 6 = .ok (.iload 4, 2) := by decide +kernel
theorem d_Model_told_8 : decode b_Model_told 8 = .ok (.ifCond .lt 50, 3) := by decide +kernel
theorem d_Model_told_11 : decode b_Model_told 11 = .ok (.lload_n 0, 1) := by decide +kernel
theorem d_Model_told_12 : decode b_Model_told 12 = .ok (.bipush 8, 2) := by decide +kernel
theorem d_Model_told_14 : decode b_Model_told 14 = .ok (.iload 4, 2) := by decide +kernel
theorem d_Model_told_16 : decode b_Model_told 16 = .ok (.imul, 1) := by decide +kernel
theorem d_Model_told_17 : decode b_Model_told 17 = .ok (.lushr, 1) := by decide +kernel
theorem d_Model_told_18 : decode b_Model_told 18 = .ok (.ldc2_w 85, 3) := by decide +kernel
theorem d_Model_told_21 : decode b_Model_told 21 = .ok (.land, 1) := by decide +kernel
theorem d_Model_told_22 : decode b_Model_told 22 = .ok (.l2i, 1) := by decide +kernel
theorem d_Model_told_23 : decode b_Model_told 23 = .ok (.istore 5, 2) := by decide +kernel
theorem d_Model_told_25 : decode b_Model_told 25 = .ok (.iload 5, 2) := by decide +kernel
theorem d_Model_told_27 : decode b_Model_told 27 = .ok (.ifCond .ne 6, 3) := by decide +kernel
theorem d_Model_told_30 : decode b_Model_told 30 = .ok (.goto 22, 3) := by decide +kernel
theorem d_Model_told_33 : decode b_Model_told 33 = .ok (.iload 5, 2) := by decide +kernel
theorem d_Model_told_35 : decode b_Model_told 35 = .ok (.invokestatic 87, 3) := by decide +kernel
theorem d_Model_told_38 : decode b_Model_told 38 = .ok (.ifCond .ne 5, 3) := by decide +kernel
theorem d_Model_told_41 : decode b_Model_told 41 = .ok (.lconst 0, 1) := by decide +kernel
theorem d_Model_told_42 : decode b_Model_told 42 = .ok (.lreturn, 1) := by decide +kernel
theorem d_Model_told_43 : decode b_Model_told 43 = .ok (.lload_n 2, 1) := by decide +kernel
theorem d_Model_told_44 : decode b_Model_told 44 = .ok (.bipush 8, 2) := by decide +kernel
theorem d_Model_told_46 : decode b_Model_told 46 = .ok (.lshl, 1) := by decide +kernel
theorem d_Model_told_47 : decode b_Model_told 47 = .ok (.iload 5, 2) := by decide +kernel
theorem d_Model_told_49 : decode b_Model_told 49 = .ok (.i2l, 1) := by decide +kernel
theorem d_Model_told_50 : decode b_Model_told 50 = .ok (.lor, 1) := by decide +kernel
theorem d_Model_told_51 : decode b_Model_told 51 = .ok (.lstore_n 2, 1) := by decide +kernel
theorem d_Model_told_52 : decode b_Model_told 52 = .ok (.iinc 4 (-1), 3) := by decide +kernel
theorem d_Model_told_55 : decode b_Model_told 55 = .ok (.goto (-49), 3) := by decide +kernel
theorem d_Model_told_58 : decode b_Model_told 58 = .ok (.lload_n 2, 1) := by decide +kernel
theorem d_Model_told_59 : decode b_Model_told 59 = .ok (.lreturn, 1) := by decide +kernel
theorem d_Model_named_0 : decode b_Model_named 0 = .ok (.iconst 0, 1) := by decide +kernel
theorem d_Model_named_1 : decode b_Model_named 1 = .ok (.istore_n 3, 1) := by decide +kernel
theorem d_Model_named_2 : decode b_Model_named 2 = .ok (.iload_n 3, 1) := by decide +kernel
theorem d_Model_named_3 : decode b_Model_named 3 = .ok (.aload_n 0, 1) := by decide +kernel
theorem d_Model_named_4 : decode b_Model_named 4 = .ok (.getfield 91, 3) := by decide +kernel
theorem d_Model_named_7 : decode b_Model_named 7 = .ok (.if_icmp .ge 22, 3) := by decide +kernel
theorem d_Model_named_10 : decode b_Model_named 10 = .ok (.aload_n 0, 1) := by decide +kernel
theorem d_Model_named_11 : decode b_Model_named 11 = .ok (.getfield 24, 3) := by decide +kernel
theorem d_Model_named_14 : decode b_Model_named 14 = .ok (.iload_n 3, 1) := by decide +kernel
theorem d_Model_named_15 : decode b_Model_named 15 = .ok (.laload, 1) := by decide +kernel
theorem d_Model_named_16 : decode b_Model_named 16 = .ok (.lload_n 1, 1) := by decide +kernel
theorem d_Model_named_17 : decode b_Model_named 17 = .ok (.lcmp, 1) := by decide +kernel
theorem d_Model_named_18 : decode b_Model_named 18 = .ok (.ifCond .ne 5, 3) := by decide +kernel
theorem d_Model_named_21 : decode b_Model_named 21 = .ok (.iload_n 3, 1) := by decide +kernel
theorem d_Model_named_22 : decode b_Model_named 22 = .ok (.ireturn, 1) := by decide +kernel
theorem d_Model_named_23 : decode b_Model_named 23 = .ok (.iinc 3 1, 3) := by decide +kernel
theorem d_Model_named_26 : decode b_Model_named 26 = .ok (.goto (-24), 3) := by decide +kernel
theorem d_Model_named_29 : decode b_Model_named 29 = .ok (.iconst (-1), 1) := by decide +kernel
theorem d_Model_named_30 : decode b_Model_named 30 = .ok (.ireturn, 1) := by decide +kernel
theorem d_Model_file_0 : decode b_Model_file 0 = .ok (.aload_n 0, 1) := by decide +kernel
theorem d_Model_file_1 : decode b_Model_file 1 = .ok (.iconst 0, 1) := by decide +kernel
theorem d_Model_file_2 : decode b_Model_file 2 = .ok (.putfield 61, 3) := by decide +kernel
theorem d_Model_file_5 : decode b_Model_file 5 = .ok (.lload_n 1, 1) := by decide +kernel
theorem d_Model_file_6 : decode b_Model_file 6 = .ok (.invokestatic 94, 3) := by decide +kernel
theorem d_Model_file_9 : decode b_Model_file 9 = .ok (.lstore 6, 2) := by decide +kernel
theorem d_Model_file_11 : decode b_Model_file 11 = .ok (.lload 6, 2) := by decide +kernel
theorem d_Model_file_13 : decode b_Model_file 13 = .ok (.lconst 0, 1) := by decide +kernel
theorem d_Model_file_14 : decode b_Model_file 14 = .ok (.lcmp, 1) := by decide +kernel
theorem d_Model_file_15 : decode b_Model_file 15 = .ok (.ifCond .eq 26, 3) := by decide +kernel
theorem d_Model_file_18 : decode b_Model_file 18 = .ok (.iload_n 3, 1) := by decide +kernel
theorem d_Model_file_19 : decode b_Model_file 19 = .ok (.iconst 0, 1) := by decide +kernel
theorem d_Model_file_20 : decode b_Model_file 20 = .ok (.sipush 9000, 3) := by decide +kernel
theorem d_Model_file_23 : decode b_Model_file 23 = .ok (.invokestatic 73, 3) := by decide +kernel
theorem d_Model_file_26 : decode b_Model_file 26 = .ok (.ifCond .eq 15, 3) := by decide +kernel
theorem d_Model_file_29 : decode b_Model_file 29 = .ok (.iload 4, 2) := by decide +kernel
theorem d_Model_file_31 : decode b_Model_file 31 = .ok (.iconst 0, 1) := by decide +kernel
theorem d_Model_file_32 : decode b_Model_file 32 = .ok (.sipush 255, 3) := by decide +kernel
theorem d_Model_file_35 : decode b_Model_file 35 = .ok (.invokestatic 73, 3) := by decide +kernel
theorem d_Model_file_38 : decode b_Model_file 38 = .ok (.ifCond .ne 6, 3) := by decide +kernel
theorem d_Model_file_41 : decode b_Model_file 41 = .ok (.bipush (-2), 2) := by decide +kernel
theorem d_Model_file_43 : decode b_Model_file 43 = .ok (.ireturn, 1) := by decide +kernel
theorem d_Model_file_44 : decode b_Model_file 44 = .ok (.aload_n 0, 1) := by decide +kernel
theorem d_Model_file_45 : decode b_Model_file 45 = .ok (.lload 6, 2) := by decide +kernel
theorem d_Model_file_47 : decode b_Model_file 47 = .ok (.invokevirtual 98, 3) := by decide +kernel
theorem d_Model_file_50 : decode b_Model_file 50 = .ok (.ifCond .lt 6, 3) := by decide +kernel
theorem d_Model_file_53 : decode b_Model_file 53 = .ok (.bipush (-4), 2) := by decide +kernel
theorem d_Model_file_55 : decode b_Model_file 55 = .ok (.ireturn, 1) := by decide +kernel
theorem d_Model_file_56 : decode b_Model_file 56 = .ok (.aload_n 0, 1) := by decide +kernel
theorem d_Model_file_57 : decode b_Model_file 57 = .ok (.getfield 91, 3) := by decide +kernel
theorem d_Model_file_60 : decode b_Model_file 60 = .ok (.bipush 12, 2) := by decide +kernel
theorem d_Model_file_62 : decode b_Model_file 62 = .ok (.if_icmp .ne 6, 3) := by decide +kernel
theorem d_Model_file_65 : decode b_Model_file 65 = .ok (.bipush (-3), 2) := by decide +kernel
theorem d_Model_file_67 : decode b_Model_file 67 = .ok (.ireturn, 1) := by decide +kernel
theorem d_Model_file_68 : decode b_Model_file 68 = .ok (.aload_n 0, 1) := by decide +kernel
theorem d_Model_file_69 : decode b_Model_file 69 = .ok (.getfield 24, 3) := by decide +kernel
theorem d_Model_file_72 : decode b_Model_file 72 = .ok (.aload_n 0, 1) := by decide +kernel
theorem d_Model_file_73 : decode b_Model_file 73 = .ok (.getfield 91, 3) := by decide +kernel
theorem d_Model_file_76 : decode b_Model_file 76 = .ok (.lload 6, 2) := by decide +kernel
theorem d_Model_file_78 : decode b_Model_file 78 = .ok (.lastore, 1) := by decide +kernel
theorem d_Model_file_79 : decode b_Model_file 79 = .ok (.aload_n 0, 1) := by decide +kernel
theorem d_Model_file_80 : decode b_Model_file 80 = .ok (.getfield 28, 3) := by decide +kernel
theorem d_Model_file_83 : decode b_Model_file 83 = .ok (.aload_n 0, 1) := by decide +kernel
theorem d_Model_file_84 : decode b_Model_file 84 = .ok (.getfield 91, 3) := by decide +kernel
theorem d_Model_file_87 : decode b_Model_file 87 = .ok (.iload_n 3, 1) := by decide +kernel
theorem d_Model_file_88 : decode b_Model_file 88 = .ok (.iastore, 1) := by decide +kernel
theorem d_Model_file_89 : decode b_Model_file 89 = .ok (.aload_n 0, 1) := by decide +kernel
theorem d_Model_file_90 : decode b_Model_file 90 = .ok (.getfield 31, 3) := by decide +kernel
theorem d_Model_file_93 : decode b_Model_file 93 = .ok (.aload_n 0, 1) := by decide +kernel
theorem d_Model_file_94 : decode b_Model_file 94 = .ok (.getfield 91, 3) := by decide +kernel
theorem d_Model_file_97 : decode b_Model_file 97 = .ok (.iload 4, 2) := by decide +kernel
theorem d_Model_file_99 : decode b_Model_file 99 = .ok (.iastore, 1) := by decide +kernel
theorem d_Model_file_100 : decode b_Model_file 100 = .ok (.aload_n 0, 1) := by decide +kernel
theorem d_Model_file_101 : decode b_Model_file 101 = .ok (.getfield 34, 3) := by decide +kernel
theorem d_Model_file_104 : decode b_Model_file 104 = .ok (.aload_n 0, 1) := by decide +kernel
theorem d_Model_file_105 : decode b_Model_file 105 = .ok (.getfield 91, 3) := by decide +kernel
theorem d_Model_file_108 : decode b_Model_file 108 = .ok (.iload 5, 2) := by decide +kernel
theorem d_Model_file_110 : decode b_Model_file 110 = .ok (.bastore, 1) := by decide +kernel
theorem d_Model_file_111 : decode b_Model_file 111 = .ok (.aload_n 0, 1) := by decide +kernel
theorem d_Model_file_112 : decode b_Model_file 112 = .ok (.dup, 1) := by decide +kernel
theorem d_Model_file_113 : decode b_Model_file 113 = .ok (.getfield 91, 3) := by decide +kernel
theorem d_Model_file_116 : decode b_Model_file 116 = .ok (.iconst 1, 1) := by decide +kernel
theorem d_Model_file_117 : decode b_Model_file 117 = .ok (.iadd, 1) := by decide +kernel
theorem d_Model_file_118 : decode b_Model_file 118 = .ok (.putfield 91, 3) := by decide +kernel
theorem d_Model_file_121 : decode b_Model_file 121 = .ok (.aload_n 0, 1) := by decide +kernel
theorem d_Model_file_122 : decode b_Model_file 122 = .ok (.getfield 91, 3) := by decide +kernel
theorem d_Model_file_125 : decode b_Model_file 125 = .ok (.iconst 1, 1) := by decide +kernel
theorem d_Model_file_126 : decode b_Model_file 126 = .ok (.isub, 1) := by decide +kernel
theorem d_Model_file_127 : decode b_Model_file 127 = .ok (.ireturn, 1) := by decide +kernel
theorem d_Model_address_0 : decode b_Model_address 0 = .ok (.aload_n 0, 1) := by decide +kernel
theorem d_Model_address_1 : decode b_Model_address 1 = .ok (.iconst 0, 1) := by decide +kernel
theorem d_Model_address_2 : decode b_Model_address 2 = .ok (.putfield 61, 3) := by decide +kernel
theorem d_Model_address_5 : decode b_Model_address 5 = .ok (.iload_n 1, 1) := by decide +kernel
theorem d_Model_address_6 : decode b_Model_address 6 = .ok (.ifCond .ge 5, 3) := by decide +kernel
theorem d_Model_address_9 : decode b_Model_address 9 = .ok (.iconst 0, 1) := by decide +kernel
theorem d_Model_address_10 : decode b_Model_address 10 = .ok (.ireturn, 1) := by decide +kernel
theorem d_Model_address_11 : decode b_Model_address 11 = .ok (.aload_n 0, 1) := by decide +kernel
theorem d_Model_address_12 : decode b_Model_address 12 = .ok (.iload_n 1, 1) := by decide +kernel
theorem d_Model_address_13 : decode b_Model_address 13 = .ok (.putfield 102, 3) := by decide +kernel
theorem d_Model_address_16 : decode b_Model_address 16 = .ok (.iconst 1, 1) := by decide +kernel
theorem d_Model_address_17 : decode b_Model_address 17 = .ok (.ireturn, 1) := by decide +kernel
theorem d_Model_kernel_0 : decode b_Model_kernel 0 = .ok (.ldc2_w 105, 3) := by decide +kernel
theorem d_Model_kernel_3 : decode b_Model_kernel 3 = .ok (.lreturn, 1) := by decide +kernel
theorem d_Model_loader_0 : decode b_Model_loader 0 = .ok (.ldc2_w 107, 3) := by decide +kernel
theorem d_Model_loader_3 : decode b_Model_loader 3 = .ok (.lreturn, 1) := by decide +kernel
set_option maxRecDepth 100000 in
theorem fg_Model_61 : FlG Wall classes R_Model 61 7 0 := ⟨_, _, _, rfl, by decide, in_Model, inW 782 rfl rfl⟩
set_option maxRecDepth 100000 in
theorem fg_Model_8 : FlG Wall classes R_Model 8 7 2 := ⟨_, _, _, rfl, by decide, in_Model, inW 784 rfl rfl⟩
set_option maxRecDepth 100000 in
theorem fc_Model_64 : FcV Wall classes R_Model 64 7 y_Model_get b_Model_get 2 (some .int) ws_Model_get 1 := ⟨⟨rfl, cw_Model_get, inW 866 rfl rfl, in_i_Model, by decide +kernel⟩, inW 868 rfl rfl, inP 30 rfl rfl, _, _, rfl⟩
set_option maxRecDepth 100000 in
theorem kc_Model_68 : Cond.constant R_Model 68 (-306674912) ∈ Wall := inW 886 rfl rfl
set_option maxRecDepth 100000 in
theorem fc_Model_69 : FcS Wall R_Model 69 y_Model_goesOn b_Model_goesOn 4 (some .int) ws_Model_goesOn 2 := ⟨⟨rfl, cw_Model_goesOn, inW 883 rfl rfl, in_i_Model, by decide +kernel⟩, inW 884 rfl rfl⟩
set_option maxRecDepth 100000 in
theorem fp_Model_61 : FlP Wall classes R_Model 61 7 0 .int := ⟨_, _, _, t_Model, rfl, by decide, in_Model, inW 782 rfl rfl, t_Model_ok, n_Model, rfl, by decide +kernel⟩
set_option maxRecDepth 100000 in
theorem fg_Model_48 : FlG Wall classes R_Model 48 7 1 := ⟨_, _, _, rfl, by decide, in_Model, inW 783 rfl rfl⟩
set_option maxRecDepth 100000 in
theorem fc_Model_73 : FcS Wall R_Model 73 y_Model_in b_Model_in 3 (some .boolean) ws_Model_in 3 := ⟨⟨rfl, cw_Model_in, inW 863 rfl rfl, in_i_Model, by decide +kernel⟩, inW 864 rfl rfl⟩
set_option maxRecDepth 100000 in
theorem kc_Model_77 : Cond.constantLong R_Model 77 512 ∈ Wall := inW 878 rfl rfl
set_option maxRecDepth 100000 in
theorem fc_Model_79 : FcV Wall classes R_Model 79 7 y_Model_sumOf b_Model_sumOf 5 (some .int) ws_Model_sumOf 2 := ⟨⟨rfl, cw_Model_sumOf, inW 879 rfl rfl, in_i_Model, by decide +kernel⟩, inW 881 rfl rfl, inP 31 rfl rfl, _, _, rfl⟩
set_option maxRecDepth 100000 in
theorem fg_Model_82 : FlG Wall classes R_Model 82 7 3 := ⟨_, _, _, rfl, by decide, in_Model, inW 785 rfl rfl⟩
set_option maxRecDepth 100000 in
theorem fp_Model_82 : FlP Wall classes R_Model 82 7 3 .int := ⟨_, _, _, t_Model, rfl, by decide, in_Model, inW 785 rfl rfl, t_Model_ok, n_Model, rfl, by decide +kernel⟩
set_option maxRecDepth 100000 in
theorem fg_Model_14 : FlG Wall classes R_Model 14 7 4 := ⟨_, _, _, rfl, by decide, in_Model, inW 786 rfl rfl⟩
set_option maxRecDepth 100000 in
theorem fg_Model_18 : FlG Wall classes R_Model 18 7 5 := ⟨_, _, _, rfl, by decide, in_Model, inW 787 rfl rfl⟩
set_option maxRecDepth 100000 in
theorem fg_Model_21 : FlG Wall classes R_Model 21 7 6 := ⟨_, _, _, rfl, by decide, in_Model, inW 788 rfl rfl⟩
set_option maxRecDepth 100000 in
theorem kc_Model_85 : Cond.constantLong R_Model 85 255 ∈ Wall := inW 902 rfl rfl
set_option maxRecDepth 100000 in
theorem fc_Model_87 : FcS Wall R_Model 87 y_Model_isLetter b_Model_isLetter 1 (some .boolean) ws_Model_isLetter 1 := ⟨⟨rfl, cw_Model_isLetter, inW 903 rfl rfl, in_i_Model, by decide +kernel⟩, inW 904 rfl rfl⟩
set_option maxRecDepth 100000 in
theorem fg_Model_91 : FlG Wall classes R_Model 91 7 7 := ⟨_, _, _, rfl, by decide, in_Model, inW 789 rfl rfl⟩
set_option maxRecDepth 100000 in
theorem fg_Model_24 : FlG Wall classes R_Model 24 7 8 := ⟨_, _, _, rfl, by decide, in_Model, inW 790 rfl rfl⟩
set_option maxRecDepth 100000 in
theorem fp_Model_91 : FlP Wall classes R_Model 91 7 7 .int := ⟨_, _, _, t_Model, rfl, by decide, in_Model, inW 789 rfl rfl, t_Model_ok, n_Model, rfl, by decide +kernel⟩
set_option maxRecDepth 100000 in
theorem fc_Model_94 : FcS Wall R_Model 94 y_Model_told b_Model_told 6 (some .long) ws_Model_told 1 := ⟨⟨rfl, cw_Model_told, inW 899 rfl rfl, in_i_Model, by decide +kernel⟩, inW 900 rfl rfl⟩
set_option maxRecDepth 100000 in
theorem fc_Model_98 : FcV Wall classes R_Model 98 7 y_Model_named b_Model_named 4 (some .int) ws_Model_named 1 := ⟨⟨rfl, cw_Model_named, inW 906 rfl rfl, in_i_Model, by decide +kernel⟩, inW 908 rfl rfl, inP 32 rfl rfl, _, _, rfl⟩
set_option maxRecDepth 100000 in
theorem fg_Model_28 : FlG Wall classes R_Model 28 7 9 := ⟨_, _, _, rfl, by decide, in_Model, inW 791 rfl rfl⟩
set_option maxRecDepth 100000 in
theorem fg_Model_31 : FlG Wall classes R_Model 31 7 10 := ⟨_, _, _, rfl, by decide, in_Model, inW 792 rfl rfl⟩
set_option maxRecDepth 100000 in
theorem fg_Model_34 : FlG Wall classes R_Model 34 7 11 := ⟨_, _, _, rfl, by decide, in_Model, inW 793 rfl rfl⟩
set_option maxRecDepth 100000 in
theorem fg_Model_102 : FlG Wall classes R_Model 102 7 12 := ⟨_, _, _, rfl, by decide, in_Model, inW 794 rfl rfl⟩
set_option maxRecDepth 100000 in
theorem fp_Model_102 : FlP Wall classes R_Model 102 7 12 .int := ⟨_, _, _, t_Model, rfl, by decide, in_Model, inW 794 rfl rfl, t_Model_ok, n_Model, rfl, by decide +kernel⟩
set_option maxRecDepth 100000 in
theorem kc_Model_105 : Cond.constantLong R_Model 105 82761105687884 ∈ Wall := inW 978 rfl rfl
set_option maxRecDepth 100000 in
theorem kc_Model_107 : Cond.constantLong R_Model 107 83903281120594 ∈ Wall := inW 939 rfl rfl
