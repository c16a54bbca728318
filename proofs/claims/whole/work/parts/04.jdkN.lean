abbrev b_Arrays_fillJ : ByteArray := prog_17_method_101_code
def y_Arrays_fillJ : MethodName := ⟨"java/util/Arrays", "fill", "([JJ)V"⟩
def ws_Arrays_fillJ : List Cond := Cond.code y_Arrays_fillJ b_Arrays_fillJ 5 (none) :: Wall
set_option maxRecDepth 100000 in
theorem cw_Arrays_fillJ : Cond.code y_Arrays_fillJ b_Arrays_fillJ 5 (none) ∈ Wall := inW 358 rfl rfl
abbrev b_Arrays_fillI : ByteArray := prog_17_method_103_code
def y_Arrays_fillI : MethodName := ⟨"java/util/Arrays", "fill", "([II)V"⟩
def ws_Arrays_fillI : List Cond := Cond.code y_Arrays_fillI b_Arrays_fillI 4 (none) :: Wall
set_option maxRecDepth 100000 in
theorem cw_Arrays_fillI : Cond.code y_Arrays_fillI b_Arrays_fillI 4 (none) ∈ Wall := inW 325 rfl rfl
abbrev b_Precond_checkIndex : ByteArray := prog_19_method_11_code
def y_Precond_checkIndex : MethodName := ⟨"jdk/internal/util/Preconditions", "checkIndex", "(IILjava/util/function/BiFunction;)I"⟩
def ws_Precond_checkIndex : List Cond := Cond.code y_Precond_checkIndex b_Precond_checkIndex 3 (some .int) :: Wall
set_option maxRecDepth 100000 in
theorem cw_Precond_checkIndex : Cond.code y_Precond_checkIndex b_Precond_checkIndex 3 (some .int) ∈ Wall := inW 423 rfl rfl
abbrev b_String_checkIndex : ByteArray := prog_13_method_155_code
def y_String_checkIndex : MethodName := ⟨"java/lang/String", "checkIndex", "(II)V"⟩
def ws_String_checkIndex : List Cond := Cond.code y_String_checkIndex b_String_checkIndex 2 (none) :: Wall
set_option maxRecDepth 100000 in
theorem cw_String_checkIndex : Cond.code y_String_checkIndex b_String_checkIndex 2 (none) ∈ Wall := inW 418 rfl rfl
abbrev b_String_coder : ByteArray := prog_13_method_152_code
def y_String_coder : MethodName := ⟨"java/lang/String", "coder", "()B"⟩
def ws_String_coder : List Cond := Cond.code y_String_coder b_String_coder 1 (some .byte) :: Wall
set_option maxRecDepth 100000 in
theorem cw_String_coder : Cond.code y_String_coder b_String_coder 1 (some .byte) ∈ Wall := inW 402 rfl rfl
abbrev b_String_isLatin1 : ByteArray := prog_13_method_154_code
def y_String_isLatin1 : MethodName := ⟨"java/lang/String", "isLatin1", "()Z"⟩
def ws_String_isLatin1 : List Cond := Cond.code y_String_isLatin1 b_String_isLatin1 1 (some .boolean) :: Wall
set_option maxRecDepth 100000 in
theorem cw_String_isLatin1 : Cond.code y_String_isLatin1 b_String_isLatin1 1 (some .boolean) ∈ Wall := inW 412 rfl rfl
abbrev b_String_length : ByteArray := prog_13_method_54_code
def y_String_length : MethodName := ⟨"java/lang/String", "length", "()I"⟩
def ws_String_length : List Cond := Cond.code y_String_length b_String_length 1 (some .int) :: Wall
set_option maxRecDepth 100000 in
theorem cw_String_length : Cond.code y_String_length b_String_length 1 (some .int) ∈ Wall := inW 398 rfl rfl
abbrev b_Latin1_charAt : ByteArray := prog_14_method_2_code
def y_Latin1_charAt : MethodName := ⟨"java/lang/StringLatin1", "charAt", "([BI)C"⟩
def ws_Latin1_charAt : List Cond := Cond.code y_Latin1_charAt b_Latin1_charAt 2 (some .char) :: Wall
set_option maxRecDepth 100000 in
theorem cw_Latin1_charAt : Cond.code y_Latin1_charAt b_Latin1_charAt 2 (some .char) ∈ Wall := inW 415 rfl rfl
abbrev b_String_charAt : ByteArray := prog_13_method_56_code
def y_String_charAt : MethodName := ⟨"java/lang/String", "charAt", "(I)C"⟩
def ws_String_charAt : List Cond := Cond.code y_String_charAt b_String_charAt 2 (some .char) :: Wall
set_option maxRecDepth 100000 in
theorem cw_String_charAt : Cond.code y_String_charAt b_String_charAt 2 (some .char) ∈ Wall := inW 408 rfl rfl
theorem d_Arrays_fillJ_0 : decode b_Arrays_fillJ 0 = .ok (.iconst 0, 1) := by decide +kernel
theorem d_Arrays_fillJ_1 : decode b_Arrays_fillJ 1 = .ok (.istore_n 3, 1) := by decide +kernel
theorem d_Arrays_fillJ_2 : decode b_Arrays_fillJ 2 = .ok (.aload_n 0, 1) := by decide +kernel
theorem d_Arrays_fillJ_3 : decode b_Arrays_fillJ 3 = .ok (.arraylength, 1) := by decide +kernel
theorem d_Arrays_fillJ_4 : decode b_Arrays_fillJ 4 = .ok (.istore 4, 2) := by decide +kernel
theorem d_Arrays_fillJ_6 : decode b_Arrays_fillJ 6 = .ok (.iload_n 3, 1) := by decide +kernel
theorem d_Arrays_fillJ_7 : decode b_Arrays_fillJ 7 = .ok (.iload 4, 2) := by decide +kernel
theorem d_Arrays_fillJ_9 : decode b_Arrays_fillJ 9 = .ok (.if_icmp .ge 13, 3) := by decide +kernel
theorem d_Arrays_fillJ_12 : decode b_Arrays_fillJ 12 = .ok (.aload_n 0, 1) := by decide +kernel
theorem d_Arrays_fillJ_13 : decode b_Arrays_fillJ 13 = .ok (.iload_n 3, 1) := by decide +kernel
theorem d_Arrays_fillJ_14 : decode b_Arrays_fillJ 14 = .ok (.lload_n 1, 1) := by decide +kernel
theorem d_Arrays_fillJ_15 : decode b_Arrays_fillJ 15 = .ok (.lastore, 1) := by decide +kernel
theorem d_Arrays_fillJ_16 : decode b_Arrays_fillJ 16 = .ok (.iinc 3 1, 3) := by decide +kernel
theorem d_Arrays_fillJ_19 : decode b_Arrays_fillJ 19 = .ok (.goto (-13), 3) := by decide +kernel
theorem d_Arrays_fillJ_22 : decode b_Arrays_fillJ 22 = .ok (.return_, 1) := by decide +kernel
theorem d_Arrays_fillI_0 : decode b_Arrays_fillI 0 = .ok (.iconst 0, 1) := by decide +kernel
theorem d_Arrays_fillI_1 : decode b_Arrays_fillI 1 = .ok (.istore_n 2, 1) := by decide +kernel
theorem d_Arrays_fillI_2 : decode b_Arrays_fillI 2 = .ok (.aload_n 0, 1) := by decide +kernel
theorem d_Arrays_fillI_3 : decode b_Arrays_fillI 3 = .ok (.arraylength, 1) := by decide +kernel
theorem d_Arrays_fillI_4 : decode b_Arrays_fillI 4 = .ok (.istore_n 3, 1) := by decide +kernel
theorem d_Arrays_fillI_5 : decode b_Arrays_fillI 5 = .ok (.iload_n 2, 1) := by decide +kernel
theorem d_Arrays_fillI_6 : decode b_Arrays_fillI 6 = .ok (.iload_n 3, 1) := by decide +kernel
theorem d_Arrays_fillI_7 : decode b_Arrays_fillI 7 = .ok (.if_icmp .ge 13, 3) := by decide +kernel
theorem d_Arrays_fillI_10 : decode b_Arrays_fillI 10 = .ok (.aload_n 0, 1) := by decide +kernel
theorem d_Arrays_fillI_11 : decode b_Arrays_fillI 11 = .ok (.iload_n 2, 1) := by decide +kernel
theorem d_Arrays_fillI_12 : decode b_Arrays_fillI 12 = .ok (.iload_n 1, 1) := by decide +kernel
theorem d_Arrays_fillI_13 : decode b_Arrays_fillI 13 = .ok (.iastore, 1) := by decide +kernel
theorem d_Arrays_fillI_14 : decode b_Arrays_fillI 14 = .ok (.iinc 2 1, 3) := by decide +kernel
theorem d_Arrays_fillI_17 : decode b_Arrays_fillI 17 = .ok (.goto (-12), 3) := by decide +kernel
theorem d_Arrays_fillI_20 : decode b_Arrays_fillI 20 = .ok (.return_, 1) := by decide +kernel
theorem d_Precond_checkIndex_0 : decode b_Precond_checkIndex 0 = .ok (.iload_n 0, 1) := by decide +kernel
theorem d_Precond_checkIndex_1 : decode b_Precond_checkIndex 1 = .ok (.ifCond .lt 8, 3) := by decide +kernel
theorem d_Precond_checkIndex_4 : decode b_Precond_checkIndex 4 = .ok (.iload_n 0, 1) := by decide +kernel
theorem d_Precond_checkIndex_5 : decode b_Precond_checkIndex 5 = .ok (.iload_n 1, 1) := by decide +kernel
theorem d_Precond_checkIndex_6 : decode b_Precond_checkIndex 6 = .ok (.if_icmp .lt 10, 3) := by decide +kernel
theorem d_Precond_checkIndex_9 : decode b_Precond_checkIndex 9 = .ok (.aload_n 2, 1) := by decide +kernel
theorem d_Precond_checkIndex_10 : decode b_Precond_checkIndex 10 = .ok (.iload_n 0, 1) := by decide +kernel
theorem d_Precond_checkIndex_11 : decode b_Precond_checkIndex 11 = .ok (.iload_n 1, 1) := by decide +kernel
theorem d_Precond_checkIndex_12 : decode b_Precond_checkIndex 12 = .ok (.invokestatic 95, 3) := by decide +kernel
theorem d_Precond_checkIndex_15 : decode b_Precond_checkIndex 15 = .ok (.athrow, 1) := by decide +kernel
theorem d_Precond_checkIndex_16 : decode b_Precond_checkIndex 16 = .ok (.iload_n 0, 1) := by decide +kernel
theorem d_Precond_checkIndex_17 : decode b_Precond_checkIndex 17 = .ok (.ireturn, 1) := by decide +kernel
theorem d_String_checkIndex_0 : decode b_String_checkIndex 0 = .ok (.iload_n 0, 1) := by decide +kernel
theorem d_String_checkIndex_1 : decode b_String_checkIndex 1 = .ok (.iload_n 1, 1) := by decide +kernel
theorem d_String_checkIndex_2 : decode b_String_checkIndex 2 = .ok (.getstatic 1053, 3) := by decide +kernel
theorem d_String_checkIndex_5 : decode b_String_checkIndex 5 = .ok (.invokestatic 1059, 3) := by decide +kernel
theorem d_String_checkIndex_8 : decode b_String_checkIndex 8 = .ok (.pop, 1) := by decide +kernel
theorem d_String_checkIndex_9 : decode b_String_checkIndex 9 = .ok (.return_, 1) := by decide +kernel
theorem d_String_coder_0 : decode b_String_coder 0 = .ok (.getstatic 38, 3) := by decide +kernel
theorem d_String_coder_3 : decode b_String_coder 3 = .ok (.ifCond .eq 10, 3) := by decide +kernel
theorem d_String_coder_6 : decode b_String_coder 6 = .ok (.aload_n 0, 1) := by decide +kernel
theorem d_String_coder_7 : decode b_String_coder 7 = .ok (.getfield 15, 3) := by decide +kernel
theorem d_String_coder_10 : decode b_String_coder 10 = .ok (.goto 4, 3) := by decide +kernel
theorem d_String_coder_13 : decode b_String_coder 13 = .ok (.iconst 1, 1) := by decide +kernel
theorem d_String_coder_14 : decode b_String_coder 14 = .ok (.ireturn, 1) := by decide +kernel
theorem d_String_isLatin1_0 : decode b_String_isLatin1 0 = .ok (.getstatic 38, 3) := by decide +kernel
theorem d_String_isLatin1_3 : decode b_String_isLatin1 3 = .ok (.ifCond .eq 14, 3) := by decide +kernel
theorem d_String_isLatin1_6 : decode b_String_isLatin1 6 = .ok (.aload_n 0, 1) := by decide +kernel
theorem d_String_isLatin1_7 : decode b_String_isLatin1 7 = .ok (.getfield 15, 3) := by decide +kernel
theorem d_String_isLatin1_10 : decode b_String_isLatin1 10 = .ok (.ifCond .ne 7, 3) := by decide +kernel
theorem d_String_isLatin1_13 : decode b_String_isLatin1 13 = .ok (.iconst 1, 1) := by decide +kernel
theorem d_String_isLatin1_14 : decode b_String_isLatin1 14 = .ok (.goto 4, 3) := by decide +kernel
theorem d_String_isLatin1_17 : decode b_String_isLatin1 17 = .ok (.iconst 0, 1) := by decide +kernel
theorem d_String_isLatin1_18 : decode b_String_isLatin1 18 = .ok (.ireturn, 1) := by decide +kernel
theorem d_String_length_0 : decode b_String_length 0 = .ok (.aload_n 0, 1) := by decide +kernel
theorem d_String_length_1 : decode b_String_length 1 = .ok (.getfield 9, 3) := by decide +kernel
theorem d_String_length_4 : decode b_String_length 4 = .ok (.arraylength, 1) := by decide +kernel
theorem d_String_length_5 : decode b_String_length 5 = .ok (.aload_n 0, 1) := by decide +kernel
theorem d_String_length_6 : decode b_String_length 6 = .ok (.invokevirtual 335, 3) := by decide +kernel
theorem d_String_length_9 : decode b_String_length 9 = .ok (.ishr, 1) := by decide +kernel
theorem d_String_length_10 : decode b_String_length 10 = .ok (.ireturn, 1) := by decide +kernel
theorem d_Latin1_charAt_0 : decode b_Latin1_charAt 0 = .ok (.iload_n 1, 1) := by decide +kernel
theorem d_Latin1_charAt_1 : decode b_Latin1_charAt 1 = .ok (.aload_n 0, 1) := by decide +kernel
theorem d_Latin1_charAt_2 : decode b_Latin1_charAt 2 = .ok (.arraylength, 1) := by decide +kernel
theorem d_Latin1_charAt_3 : decode b_Latin1_charAt 3 = .ok (.invokestatic 9, 3) := by decide +kernel
theorem d_Latin1_charAt_6 : decode b_Latin1_charAt 6 = .ok (.aload_n 0, 1) := by decide +kernel
theorem d_Latin1_charAt_7 : decode b_Latin1_charAt 7 = .ok (.iload_n 1, 1) := by decide +kernel
theorem d_Latin1_charAt_8 : decode b_Latin1_charAt 8 = .ok (.baload, 1) := by decide +kernel
theorem d_Latin1_charAt_9 : decode b_Latin1_charAt 9 = .ok (.sipush 255, 3) := by decide +kernel
theorem d_Latin1_charAt_12 : decode b_Latin1_charAt 12 = .ok (.iand, 1) := by decide +kernel
theorem d_Latin1_charAt_13 : decode b_Latin1_charAt 13 = .ok (.i2c, 1) := by decide +kernel
theorem d_Latin1_charAt_14 : decode b_Latin1_charAt 14 = .ok (.ireturn, 1) := by decide +kernel
theorem d_String_charAt_0 : decode b_String_charAt 0 = .ok (.aload_n 0, 1) := by decide +kernel
theorem d_String_charAt_1 : decode b_String_charAt 1 = .ok (.invokevirtual 492, 3) := by decide +kernel
theorem d_String_charAt_4 : decode b_String_charAt 4 = .ok (.ifCond .eq 12, 3) := by decide +kernel
theorem d_String_charAt_7 : decode b_String_charAt 7 = .ok (.aload_n 0, 1) := by decide +kernel
theorem d_String_charAt_8 : decode b_String_charAt 8 = .ok (.getfield 9, 3) := by decide +kernel
theorem d_String_charAt_11 : decode b_String_charAt 11 = .ok (.iload_n 1, 1) := by decide +kernel
theorem d_String_charAt_12 : decode b_String_charAt 12 = .ok (.invokestatic 495, 3) := by decide +kernel
theorem d_String_charAt_15 : decode b_String_charAt 15 = .ok (.ireturn, 1) := by decide +kernel
theorem d_String_charAt_16 : decode b_String_charAt 16 = .ok (.aload_n 0, 1) := by decide +kernel
theorem d_String_charAt_17 : decode b_String_charAt 17 = .ok (.getfield 9, 3) := by decide +kernel
theorem d_String_charAt_20 : decode b_String_charAt 20 = .ok (.iload_n 1, 1) := by decide +kernel
theorem d_String_charAt_21 : decode b_String_charAt 21 = .ok (.invokestatic 498, 3) := by decide +kernel
theorem d_String_charAt_24 : decode b_String_charAt 24 = .ok (.ireturn, 1) := by decide +kernel
set_option maxRecDepth 100000 in
theorem sl_String_1053 : Cond.fieldLink "java/lang/String" 1053 "jdk/internal/util/Preconditions" "SIOOBE_FORMATTER" "Ljava/util/function/BiFunction;" ∈ Wall := inW 419 rfl rfl
set_option maxRecDepth 100000 in
theorem fc_String_1059 : FcS Wall R_String 1059 y_Precond_checkIndex b_Precond_checkIndex 3 (some .int) ws_Precond_checkIndex 3 := ⟨⟨rfl, cw_Precond_checkIndex, inW 421 rfl rfl, in_i_Precond, by decide +kernel⟩, inW 422 rfl rfl⟩
set_option maxRecDepth 100000 in
theorem sl_String_38 : Cond.fieldLink "java/lang/String" 38 "java/lang/String" "COMPACT_STRINGS" "Z" ∈ Wall := inW 403 rfl rfl
set_option maxRecDepth 100000 in
theorem sl_String_15 : Cond.fieldLink "java/lang/String" 15 "java/lang/String" "coder" "B" ∈ Wall := inW 1053 rfl rfl
set_option maxRecDepth 100000 in
theorem sl_String_9 : Cond.fieldLink "java/lang/String" 9 "java/lang/String" "value" "[B" ∈ Wall := inW 1052 rfl rfl
set_option maxRecDepth 100000 in
theorem fc_String_335 : FcO Wall R_String 335 y_String_coder b_String_coder 1 (some .byte) ws_String_coder 0 := ⟨⟨rfl, cw_String_coder, inW 399 rfl rfl, in_i_String, by decide +kernel⟩, inW 400 rfl rfl, inW 401 rfl rfl⟩
set_option maxRecDepth 100000 in
theorem fc_Latin1_9 : FcS Wall R_Latin1 9 y_String_checkIndex b_String_checkIndex 2 (none) ws_String_checkIndex 2 := ⟨⟨rfl, cw_String_checkIndex, inW 416 rfl rfl, in_i_String, by decide +kernel⟩, inW 417 rfl rfl⟩
set_option maxRecDepth 100000 in
theorem fc_String_492 : FcO Wall R_String 492 y_String_isLatin1 b_String_isLatin1 1 (some .boolean) ws_String_isLatin1 0 := ⟨⟨rfl, cw_String_isLatin1, inW 409 rfl rfl, in_i_String, by decide +kernel⟩, inW 410 rfl rfl, inW 411 rfl rfl⟩
set_option maxRecDepth 100000 in
theorem fc_String_495 : FcS Wall R_String 495 y_Latin1_charAt b_Latin1_charAt 2 (some .char) ws_Latin1_charAt 2 := ⟨⟨rfl, cw_Latin1_charAt, inW 413 rfl rfl, in_i_Latin1, by decide +kernel⟩, inW 414 rfl rfl⟩
