abbrev b_Firmware_tell : ByteArray := prog_2_method_2_code
def y_Firmware_tell : MethodName := ⟨"BootMaker$Firmware", "tell", "(I)I"⟩
def ws_Firmware_tell : List Cond := Cond.code y_Firmware_tell b_Firmware_tell 2 (some .int) :: Wall
set_option maxRecDepth 100000 in
theorem cw_Firmware_tell : Cond.code y_Firmware_tell b_Firmware_tell 2 (some .int) ∈ Wall := inW 566 rfl rfl
abbrev b_Firmware_forget : ByteArray := prog_2_method_4_code
def y_Firmware_forget : MethodName := ⟨"BootMaker$Firmware", "forget", "()V"⟩
def ws_Firmware_forget : List Cond := Cond.code y_Firmware_forget b_Firmware_forget 1 (none) :: Wall
set_option maxRecDepth 100000 in
theorem cw_Firmware_forget : Cond.code y_Firmware_forget b_Firmware_forget 1 (none) ∈ Wall := inW 651 rfl rfl
abbrev b_Firmware_clusterAt : ByteArray := prog_2_method_18_code
def y_Firmware_clusterAt : MethodName := ⟨"BootMaker$Firmware", "clusterAt", "(I)I"⟩
def ws_Firmware_clusterAt : List Cond := Cond.code y_Firmware_clusterAt b_Firmware_clusterAt 3 (some .int) :: Wall
set_option maxRecDepth 100000 in
theorem cw_Firmware_clusterAt : Cond.code y_Firmware_clusterAt b_Firmware_clusterAt 3 (some .int) ∈ Wall := inW 745 rfl rfl
abbrev b_Firmware_clusterEntry : ByteArray := prog_2_method_16_code
def y_Firmware_clusterEntry : MethodName := ⟨"BootMaker$Firmware", "clusterEntry", "(I)I"⟩
def ws_Firmware_clusterEntry : List Cond := Cond.code y_Firmware_clusterEntry b_Firmware_clusterEntry 4 (some .int) :: Wall
set_option maxRecDepth 100000 in
theorem cw_Firmware_clusterEntry : Cond.code y_Firmware_clusterEntry b_Firmware_clusterEntry 4 (some .int) ∈ Wall := inW 737 rfl rfl
abbrev b_Firmware_hasGoodEntries : ByteArray := prog_2_method_7_code
def y_Firmware_hasGoodEntries : MethodName := ⟨"BootMaker$Firmware", "hasGoodEntries", "(I)Z"⟩
def ws_Firmware_hasGoodEntries : List Cond := Cond.code y_Firmware_hasGoodEntries b_Firmware_hasGoodEntries 5 (some .boolean) :: Wall
set_option maxRecDepth 100000 in
theorem cw_Firmware_hasGoodEntries : Cond.code y_Firmware_hasGoodEntries b_Firmware_hasGoodEntries 5 (some .boolean) ∈ Wall := inW 683 rfl rfl
abbrev b_Firmware_isGoodHeader : ByteArray := prog_2_method_6_code
def y_Firmware_isGoodHeader : MethodName := ⟨"BootMaker$Firmware", "isGoodHeader", "(I)Z"⟩
def ws_Firmware_isGoodHeader : List Cond := Cond.code y_Firmware_isGoodHeader b_Firmware_isGoodHeader 3 (some .boolean) :: Wall
set_option maxRecDepth 100000 in
theorem cw_Firmware_isGoodHeader : Cond.code y_Firmware_isGoodHeader b_Firmware_isGoodHeader 3 (some .boolean) ∈ Wall := inW 670 rfl rfl
abbrev b_Firmware_bootStartIn : ByteArray := prog_2_method_8_code
def y_Firmware_bootStartIn : MethodName := ⟨"BootMaker$Firmware", "bootStartIn", "(I)I"⟩
def ws_Firmware_bootStartIn : List Cond := Cond.code y_Firmware_bootStartIn b_Firmware_bootStartIn 8 (some .int) :: Wall
set_option maxRecDepth 100000 in
theorem cw_Firmware_bootStartIn : Cond.code y_Firmware_bootStartIn b_Firmware_bootStartIn 8 (some .int) ∈ Wall := inW 688 rfl rfl
abbrev b_Firmware_searchTable : ByteArray := prog_2_method_5_code
def y_Firmware_searchTable : MethodName := ⟨"BootMaker$Firmware", "searchTable", "()I"⟩
def ws_Firmware_searchTable : List Cond := Cond.code y_Firmware_searchTable b_Firmware_searchTable 2 (some .int) :: Wall
set_option maxRecDepth 100000 in
theorem cw_Firmware_searchTable : Cond.code y_Firmware_searchTable b_Firmware_searchTable 2 (some .int) ∈ Wall := inW 665 rfl rfl
theorem d_Firmware_tell_0 : decode b_Firmware_tell 0 = .ok (.aload_n 0, 1) := by decide +kernel
theorem d_Firmware_tell_1 : decode b_Firmware_tell 1 = .ok (.getfield 48, 3) := by decide +kernel
theorem d_Firmware_tell_4 : decode b_Firmware_tell 4 = .ok (.ifCond .ne 5, 3) := by decide +kernel
theorem d_Firmware_tell_7 : decode b_Firmware_tell 7 = .ok (.iconst (-1), 1) := by decide +kernel
theorem d_Firmware_tell_8 : decode b_Firmware_tell 8 = .ok (.ireturn, 1) := by decide +kernel
theorem d_Firmware_tell_9 : decode b_Firmware_tell 9 = .ok (.iload_n 1, 1) := by decide +kernel
theorem d_Firmware_tell_10 : decode b_Firmware_tell 10 = .ok (.tableswitch 50 0 3 #[30, 35, 40, 45], 30) := by decide +kernel
theorem d_Firmware_tell_40 : decode b_Firmware_tell 40 = .ok (.aload_n 0, 1) := by decide +kernel
theorem d_Firmware_tell_41 : decode b_Firmware_tell 41 = .ok (.getfield 52, 3) := by decide +kernel
theorem d_Firmware_tell_44 : decode b_Firmware_tell 44 = .ok (.ireturn, 1) := by decide +kernel
theorem d_Firmware_tell_45 : decode b_Firmware_tell 45 = .ok (.aload_n 0, 1) := by decide +kernel
theorem d_Firmware_tell_46 : decode b_Firmware_tell 46 = .ok (.getfield 25, 3) := by decide +kernel
theorem d_Firmware_tell_49 : decode b_Firmware_tell 49 = .ok (.ireturn, 1) := by decide +kernel
theorem d_Firmware_tell_50 : decode b_Firmware_tell 50 = .ok (.aload_n 0, 1) := by decide +kernel
theorem d_Firmware_tell_51 : decode b_Firmware_tell 51 = .ok (.getfield 29, 3) := by decide +kernel
theorem d_Firmware_tell_54 : decode b_Firmware_tell 54 = .ok (.ireturn, 1) := by decide +kernel
theorem d_Firmware_tell_55 : decode b_Firmware_tell 55 = .ok (.aload_n 0, 1) := by decide +kernel
theorem d_Firmware_tell_56 : decode b_Firmware_tell 56 = .ok (.getfield 32, 3) := by decide +kernel
theorem d_Firmware_tell_59 : decode b_Firmware_tell 59 = .ok (.ireturn, 1) := by decide +kernel
theorem d_Firmware_tell_60 : decode b_Firmware_tell 60 = .ok (.iconst (-1), 1) := by decide +kernel
theorem d_Firmware_tell_61 : decode b_Firmware_tell 61 = .ok (.ireturn, 1) := by decide +kernel
theorem d_Firmware_forget_0 : decode b_Firmware_forget 0 = .ok (.aload_n 0, 1) := by decide +kernel
theorem d_Firmware_forget_1 : decode b_Firmware_forget 1 = .ok (.iconst 1, 1) := by decide +kernel
theorem d_Firmware_forget_2 : decode b_Firmware_forget 2 = .ok (.putfield 48, 3) := by decide +kernel
theorem d_Firmware_forget_5 : decode b_Firmware_forget 5 = .ok (.aload_n 0, 1) := by decide +kernel
theorem d_Firmware_forget_6 : decode b_Firmware_forget 6 = .ok (.iconst 0, 1) := by decide +kernel
theorem d_Firmware_forget_7 : decode b_Firmware_forget 7 = .ok (.putfield 52, 3) := by decide +kernel
theorem d_Firmware_forget_10 : decode b_Firmware_forget 10 = .ok (.aload_n 0, 1) := by decide +kernel
theorem d_Firmware_forget_11 : decode b_Firmware_forget 11 = .ok (.iconst (-1), 1) := by decide +kernel
theorem d_Firmware_forget_12 : decode b_Firmware_forget 12 = .ok (.putfield 25, 3) := by decide +kernel
theorem d_Firmware_forget_15 : decode b_Firmware_forget 15 = .ok (.aload_n 0, 1) := by decide +kernel
theorem d_Firmware_forget_16 : decode b_Firmware_forget 16 = .ok (.iconst (-1), 1) := by decide +kernel
theorem d_Firmware_forget_17 : decode b_Firmware_forget 17 = .ok (.putfield 29, 3) := by decide +kernel
theorem d_Firmware_forget_20 : decode b_Firmware_forget 20 = .ok (.aload_n 0, 1) := by decide +kernel
theorem d_Firmware_forget_21 : decode b_Firmware_forget 21 = .ok (.iconst (-1), 1) := by decide +kernel
theorem d_Firmware_forget_22 : decode b_Firmware_forget 22 = .ok (.putfield 32, 3) := by decide +kernel
theorem d_Firmware_forget_25 : decode b_Firmware_forget 25 = .ok (.aload_n 0, 1) := by decide +kernel
theorem d_Firmware_forget_26 : decode b_Firmware_forget 26 = .ok (.getfield 15, 3) := by decide +kernel
theorem d_Firmware_forget_29 : decode b_Firmware_forget 29 = .ok (.invokevirtual 72, 3) := by decide +kernel
theorem d_Firmware_forget_32 : decode b_Firmware_forget 32 = .ok (.return_, 1) := by decide +kernel
theorem d_Firmware_clusterAt_0 : decode b_Firmware_clusterAt 0 = .ok (.aload_n 0, 1) := by decide +kernel
theorem d_Firmware_clusterAt_1 : decode b_Firmware_clusterAt 1 = .ok (.getfield 25, 3) := by decide +kernel
theorem d_Firmware_clusterAt_4 : decode b_Firmware_clusterAt 4 = .ok (.iconst 1, 1) := by decide +kernel
theorem d_Firmware_clusterAt_5 : decode b_Firmware_clusterAt 5 = .ok (.iadd, 1) := by decide +kernel
theorem d_Firmware_clusterAt_6 : decode b_Firmware_clusterAt 6 = .ok (.iconst 2, 1) := by decide +kernel
theorem d_Firmware_clusterAt_7 : decode b_Firmware_clusterAt 7 = .ok (.aload_n 0, 1) := by decide +kernel
theorem d_Firmware_clusterAt_8 : decode b_Firmware_clusterAt 8 = .ok (.getfield 161, 3) := by decide +kernel
theorem d_Firmware_clusterAt_11 : decode b_Firmware_clusterAt 11 = .ok (.imul, 1) := by decide +kernel
theorem d_Firmware_clusterAt_12 : decode b_Firmware_clusterAt 12 = .ok (.iadd, 1) := by decide +kernel
theorem d_Firmware_clusterAt_13 : decode b_Firmware_clusterAt 13 = .ok (.iconst 2, 1) := by decide +kernel
theorem d_Firmware_clusterAt_14 : decode b_Firmware_clusterAt 14 = .ok (.iadd, 1) := by decide +kernel
theorem d_Firmware_clusterAt_15 : decode b_Firmware_clusterAt 15 = .ok (.istore_n 2, 1) := by decide +kernel
theorem d_Firmware_clusterAt_16 : decode b_Firmware_clusterAt 16 = .ok (.iload_n 2, 1) := by decide +kernel
theorem d_Firmware_clusterAt_17 : decode b_Firmware_clusterAt 17 = .ok (.iload_n 1, 1) := by decide +kernel
theorem d_Firmware_clusterAt_18 : decode b_Firmware_clusterAt 18 = .ok (.iadd, 1) := by decide +kernel
theorem d_Firmware_clusterAt_19 : decode b_Firmware_clusterAt 19 = .ok (.iconst 2, 1) := by decide +kernel
theorem d_Firmware_clusterAt_20 : decode b_Firmware_clusterAt 20 = .ok (.isub, 1) := by decide +kernel
theorem d_Firmware_clusterAt_21 : decode b_Firmware_clusterAt 21 = .ok (.sipush 512, 3) := by decide +kernel
theorem d_Firmware_clusterAt_24 : decode b_Firmware_clusterAt 24 = .ok (.imul, 1) := by decide +kernel
theorem d_Firmware_clusterAt_25 : decode b_Firmware_clusterAt 25 = .ok (.ireturn, 1) := by decide +kernel
theorem d_Firmware_clusterEntry_0 : decode b_Firmware_clusterEntry 0 = .ok (.aload_n 0, 1) := by decide +kernel
theorem d_Firmware_clusterEntry_1 : decode b_Firmware_clusterEntry 1 = .ok (.getfield 25, 3) := by decide +kernel
theorem d_Firmware_clusterEntry_4 : decode b_Firmware_clusterEntry 4 = .ok (.iconst 1, 1) := by decide +kernel
theorem d_Firmware_clusterEntry_5 : decode b_Firmware_clusterEntry 5 = .ok (.iadd, 1) := by decide +kernel
theorem d_Firmware_clusterEntry_6 : decode b_Firmware_clusterEntry 6 = .ok (.sipush 512, 3) := by decide +kernel
theorem d_Firmware_clusterEntry_9 : decode b_Firmware_clusterEntry 9 = .ok (.imul, 1) := by decide +kernel
theorem d_Firmware_clusterEntry_10 : decode b_Firmware_clusterEntry 10 = .ok (.iload_n 1, 1) := by decide +kernel
theorem d_Firmware_clusterEntry_11 : decode b_Firmware_clusterEntry 11 = .ok (.iconst 3, 1) := by decide +kernel
theorem d_Firmware_clusterEntry_12 : decode b_Firmware_clusterEntry 12 = .ok (.imul, 1) := by decide +kernel
theorem d_Firmware_clusterEntry_13 : decode b_Firmware_clusterEntry 13 = .ok (.iconst 2, 1) := by decide +kernel
theorem d_Firmware_clusterEntry_14 : decode b_Firmware_clusterEntry 14 = .ok (.idiv, 1) := by decide +kernel
theorem d_Firmware_clusterEntry_15 : decode b_Firmware_clusterEntry 15 = .ok (.iadd, 1) := by decide +kernel
theorem d_Firmware_clusterEntry_16 : decode b_Firmware_clusterEntry 16 = .ok (.istore_n 2, 1) := by decide +kernel
theorem d_Firmware_clusterEntry_17 : decode b_Firmware_clusterEntry 17 = .ok (.aload_n 0, 1) := by decide +kernel
theorem d_Firmware_clusterEntry_18 : decode b_Firmware_clusterEntry 18 = .ok (.getfield 35, 3) := by decide +kernel
theorem d_Firmware_clusterEntry_21 : decode b_Firmware_clusterEntry 21 = .ok (.iload_n 2, 1) := by decide +kernel
theorem d_Firmware_clusterEntry_22 : decode b_Firmware_clusterEntry 22 = .ok (.iconst 2, 1) := by decide +kernel
theorem d_Firmware_clusterEntry_23 : decode b_Firmware_clusterEntry 23 = .ok (.invokevirtual 82, 3) := by decide +kernel
theorem d_Firmware_clusterEntry_26 : decode b_Firmware_clusterEntry 26 = .ok (.l2i, 1) := by decide +kernel
theorem d_Firmware_clusterEntry_27 : decode b_Firmware_clusterEntry 27 = .ok (.istore_n 3, 1) := by decide +kernel
theorem d_Firmware_clusterEntry_28 : decode b_Firmware_clusterEntry 28 = .ok (.iload_n 1, 1) := by decide +kernel
theorem d_Firmware_clusterEntry_29 : decode b_Firmware_clusterEntry 29 = .ok (.iconst 2, 1) := by decide +kernel
theorem d_Firmware_clusterEntry_30 : decode b_Firmware_clusterEntry 30 = .ok (.irem, 1) := by decide +kernel
theorem d_Firmware_clusterEntry_31 : decode b_Firmware_clusterEntry 31 = .ok (.ifCond .ne 11, 3) := by decide +kernel
theorem d_Firmware_clusterEntry_34 : decode b_Firmware_clusterEntry 34 = .ok (.iload_n 3, 1) := by decide +kernel
theorem d_Firmware_clusterEntry_35 : decode b_Firmware_clusterEntry 35 = .ok (.sipush 4095, 3) := by decide +kernel
theorem d_Firmware_clusterEntry_38 : decode b_Firmware_clusterEntry 38 = .ok (.iand, 1) := by decide +kernel
theorem d_Firmware_clusterEntry_39 : decode b_Firmware_clusterEntry 39 = .ok (.goto 6, 3) := by decide +kernel
theorem d_Firmware_clusterEntry_42 : decode b_Firmware_clusterEntry 42 = .ok (.iload_n 3, 1) := by decide +kernel
theorem d_Firmware_clusterEntry_43 : decode b_Firmware_clusterEntry 43 = .ok (.iconst 4, 1) := by decide +kernel
theorem d_Firmware_clusterEntry_44 : decode b_Firmware_clusterEntry 44 = .ok (.ishr, 1) := by decide +kernel
theorem d_Firmware_clusterEntry_45 : decode b_Firmware_clusterEntry 45 = .ok (.ireturn, 1) := by decide +kernel
theorem d_Firmware_hasGoodEntries_0 : decode b_Firmware_hasGoodEntries 0 = .ok (.aload_n 0, 1) := by decide +kernel
theorem d_Firmware_hasGoodEntries_1 : decode b_Firmware_hasGoodEntries 1 = .ok (.getfield 35, 3) := by decide +kernel
theorem d_Firmware_hasGoodEntries_4 : decode b_Firmware_hasGoodEntries 4 = .ok (.iload_n 1, 1) := by decide +kernel
theorem d_Firmware_hasGoodEntries_5 : decode b_Firmware_hasGoodEntries 5 = .ok (.bipush 72, 2) := by decide +kernel
theorem d_Firmware_hasGoodEntries_7 : decode b_Firmware_hasGoodEntries 7 = .ok (.iadd, 1) := by decide +kernel
theorem d_Firmware_hasGoodEntries_8 : decode b_Firmware_hasGoodEntries 8 = .ok (.bipush 8, 2) := by decide +kernel
theorem d_Firmware_hasGoodEntries_10 : decode b_Firmware_hasGoodEntries 10 = .ok (.invokevirtual 82, 3) := by decide +kernel
theorem d_Firmware_hasGoodEntries_13 : decode b_Firmware_hasGoodEntries 13 = .ok (.lstore_n 2, 1) := by decide +kernel
theorem d_Firmware_hasGoodEntries_14 : decode b_Firmware_hasGoodEntries 14 = .ok (.lload_n 2, 1) := by decide +kernel
theorem d_Firmware_hasGoodEntries_15 : decode b_Firmware_hasGoodEntries 15 = .ok (.lconst 0, 1) := by decide +kernel
theorem d_Firmware_hasGoodEntries_16 : decode b_Firmware_hasGoodEntries 16 = .ok (.lcmp, 1) := by decide +kernel
theorem d_Firmware_hasGoodEntries_17 : decode b_Firmware_hasGoodEntries 17 = .ok (.ifCond .lt 16, 3) := by decide +kernel
theorem d_Firmware_hasGoodEntries_20 : decode b_Firmware_hasGoodEntries 20 = .ok (.lload_n 2, 1) := by decide +kernel
theorem d_Firmware_hasGoodEntries_21 : decode b_Firmware_hasGoodEntries 21 = .ok (.aload_n 0, 1) := by decide +kernel
theorem d_Firmware_hasGoodEntries_22 : decode b_Firmware_hasGoodEntries 22 = .ok (.getfield 38, 3) := by decide +kernel
theorem d_Firmware_hasGoodEntries_25 : decode b_Firmware_hasGoodEntries 25 = .ok (.bipush 32, 2) := by decide +kernel
theorem d_Firmware_hasGoodEntries_27 : decode b_Firmware_hasGoodEntries 27 = .ok (.isub, 1) := by decide +kernel
theorem d_Firmware_hasGoodEntries_28 : decode b_Firmware_hasGoodEntries 28 = .ok (.i2l, 1) := by decide +kernel
theorem d_Firmware_hasGoodEntries_29 : decode b_Firmware_hasGoodEntries 29 = .ok (.lcmp, 1) := by decide +kernel
theorem d_Firmware_hasGoodEntries_30 : decode b_Firmware_hasGoodEntries 30 = .ok (.ifCond .le 5, 3) := by decide +kernel
theorem d_Firmware_hasGoodEntries_33 : decode b_Firmware_hasGoodEntries 33 = .ok (.iconst 0, 1) := by decide +kernel
theorem d_Firmware_hasGoodEntries_34 : decode b_Firmware_hasGoodEntries 34 = .ok (.ireturn, 1) := by decide +kernel
theorem d_Firmware_hasGoodEntries_35 : decode b_Firmware_hasGoodEntries 35 = .ok (.aload_n 0, 1) := by decide +kernel
theorem d_Firmware_hasGoodEntries_36 : decode b_Firmware_hasGoodEntries 36 = .ok (.getfield 35, 3) := by decide +kernel
theorem d_Firmware_hasGoodEntries_39 : decode b_Firmware_hasGoodEntries 39 = .ok (.iload_n 1, 1) := by decide +kernel
theorem d_Firmware_hasGoodEntries_40 : decode b_Firmware_hasGoodEntries 40 = .ok (.bipush 88, 2) := by decide +kernel
theorem d_Firmware_hasGoodEntries_42 : decode b_Firmware_hasGoodEntries 42 = .ok (.iadd, 1) := by decide +kernel
theorem d_Firmware_hasGoodEntries_43 : decode b_Firmware_hasGoodEntries 43 = .ok (.iconst 4, 1) := by decide +kernel
theorem d_Firmware_hasGoodEntries_44 : decode b_Firmware_hasGoodEntries 44 = .ok (.invokevirtual 82, 3) := by decide +kernel
theorem d_Firmware_hasGoodEntries_47 : decode b_Firmware_hasGoodEntries 47 = .ok (.l2i, 1) := by decide +kernel
theorem d_Firmware_hasGoodEntries_48 : decode b_Firmware_hasGoodEntries 48 = .ok (.istore 4, 2) := by decide +kernel
theorem d_Firmware_hasGoodEntries_50 : decode b_Firmware_hasGoodEntries 50 = .ok (.iload 4, 2) := by decide +kernel
theorem d_Firmware_hasGoodEntries_52 : decode b_Firmware_hasGoodEntries 52 = .ok (.aload_n 0, 1) := by decide +kernel
theorem d_Firmware_hasGoodEntries_53 : decode b_Firmware_hasGoodEntries 53 = .ok (.getfield 41, 3) := by decide +kernel
theorem d_Firmware_hasGoodEntries_56 : decode b_Firmware_hasGoodEntries 56 = .ok (.aload_n 0, 1) := by decide +kernel
theorem d_Firmware_hasGoodEntries_57 : decode b_Firmware_hasGoodEntries 57 = .ok (.getfield 35, 3) := by decide +kernel
theorem d_Firmware_hasGoodEntries_60 : decode b_Firmware_hasGoodEntries 60 = .ok (.lload_n 2, 1) := by decide +kernel
theorem d_Firmware_hasGoodEntries_61 : decode b_Firmware_hasGoodEntries 61 = .ok (.l2i, 1) := by decide +kernel
theorem d_Firmware_hasGoodEntries_62 : decode b_Firmware_hasGoodEntries 62 = .ok (.sipush 512, 3) := by decide +kernel
theorem d_Firmware_hasGoodEntries_65 : decode b_Firmware_hasGoodEntries 65 = .ok (.imul, 1) := by decide +kernel
theorem d_Firmware_hasGoodEntries_66 : decode b_Firmware_hasGoodEntries 66 = .ok (.sipush 16384, 3) := by decide +kernel
theorem d_Firmware_hasGoodEntries_69 : decode b_Firmware_hasGoodEntries 69 = .ok (.invokevirtual 109, 3) := by decide +kernel
theorem d_Firmware_hasGoodEntries_72 : decode b_Firmware_hasGoodEntries 72 = .ok (.if_icmp .ne 7, 3) := by decide +kernel
theorem d_Firmware_hasGoodEntries_75 : decode b_Firmware_hasGoodEntries 75 = .ok (.iconst 1, 1) := by decide +kernel
theorem d_Firmware_hasGoodEntries_76 : decode b_Firmware_hasGoodEntries 76 = .ok (.goto 4, 3) := by decide +kernel
theorem d_Firmware_hasGoodEntries_79 : decode b_Firmware_hasGoodEntries 79 = .ok (.iconst 0, 1) := by decide +kernel
theorem d_Firmware_hasGoodEntries_80 : decode b_Firmware_hasGoodEntries 80 = .ok (.ireturn, 1) := by decide +kernel
theorem d_Firmware_isGoodHeader_0 : decode b_Firmware_isGoodHeader 0 = .ok (.iload_n 1, 1) := by decide +kernel
theorem d_Firmware_isGoodHeader_1 : decode b_Firmware_isGoodHeader 1 = .ok (.sipush 512, 3) := by decide +kernel
theorem d_Firmware_isGoodHeader_4 : decode b_Firmware_isGoodHeader 4 = .ok (.imul, 1) := by decide +kernel
theorem d_Firmware_isGoodHeader_5 : decode b_Firmware_isGoodHeader 5 = .ok (.istore_n 2, 1) := by decide +kernel
theorem d_Firmware_isGoodHeader_6 : decode b_Firmware_isGoodHeader 6 = .ok (.aload_n 0, 1) := by decide +kernel
theorem d_Firmware_isGoodHeader_7 : decode b_Firmware_isGoodHeader 7 = .ok (.getfield 35, 3) := by decide +kernel
theorem d_Firmware_isGoodHeader_10 : decode b_Firmware_isGoodHeader 10 = .ok (.iload_n 2, 1) := by decide +kernel
theorem d_Firmware_isGoodHeader_11 : decode b_Firmware_isGoodHeader 11 = .ok (.getstatic 89, 3) := by decide +kernel
theorem d_Firmware_isGoodHeader_14 : decode b_Firmware_isGoodHeader 14 = .ok (.invokevirtual 92, 3) := by decide +kernel
theorem d_Firmware_isGoodHeader_17 : decode b_Firmware_isGoodHeader 17 = .ok (.ifCond .eq 119, 3) := by decide +kernel
theorem d_Firmware_isGoodHeader_20 : decode b_Firmware_isGoodHeader 20 = .ok (.aload_n 0, 1) := by decide +kernel
theorem d_Firmware_isGoodHeader_21 : decode b_Firmware_isGoodHeader 21 = .ok (.getfield 35, 3) := by decide +kernel
theorem d_Firmware_isGoodHeader_24 : decode b_Firmware_isGoodHeader 24 = .ok (.iload_n 2, 1) := by decide +kernel
theorem d_Firmware_isGoodHeader_25 : decode b_Firmware_isGoodHeader 25 = .ok (.bipush 12, 2) := by decide +kernel
theorem d_Firmware_isGoodHeader_27 : decode b_Firmware_isGoodHeader 27 = .ok (.iadd, 1) := by decide +kernel
theorem d_Firmware_isGoodHeader_28 : decode b_Firmware_isGoodHeader 28 = .ok (.iconst 4, 1) := by decide +kernel
theorem d_Firmware_isGoodHeader_29 : decode b_Firmware_isGoodHeader 29 = .ok (.invokevirtual 82, 3) := by decide +kernel
theorem d_Firmware_isGoodHeader_32 : decode b_Firmware_isGoodHeader 32 = .ok (.ldc2_w 96, 3) := by decide +kernel
theorem d_Firmware_isGoodHeader_35 : decode b_Firmware_isGoodHeader 35 = .ok (.lcmp, 1) := by decide +kernel
theorem d_Firmware_isGoodHeader_36 : decode b_Firmware_isGoodHeader 36 = .ok (.ifCond .ne 100, 3) := by decide +kernel
theorem d_Firmware_isGoodHeader_39 : decode b_Firmware_isGoodHeader 39 = .ok (.aload_n 0, 1) := by decide +kernel
theorem d_Firmware_isGoodHeader_40 : decode b_Firmware_isGoodHeader 40 = .ok (.getfield 35, 3) := by decide +kernel
theorem d_Firmware_isGoodHeader_43 : decode b_Firmware_isGoodHeader 43 = .ok (.iload_n 2, 1) := by decide +kernel
theorem d_Firmware_isGoodHeader_44 : decode b_Firmware_isGoodHeader 44 = .ok (.bipush 24, 2) := by decide +kernel
theorem d_Firmware_isGoodHeader_46 : decode b_Firmware_isGoodHeader 46 = .ok (.iadd, 1) := by decide +kernel
theorem d_Firmware_isGoodHeader_47 : decode b_Firmware_isGoodHeader 47 = .ok (.bipush 8, 2) := by decide +kernel
theorem d_Firmware_isGoodHeader_49 : decode b_Firmware_isGoodHeader 49 = .ok (.invokevirtual 82, 3) := by decide +kernel
theorem d_Firmware_isGoodHeader_52 : decode b_Firmware_isGoodHeader 52 = .ok (.iload_n 1, 1) := by decide +kernel
theorem d_Firmware_isGoodHeader_53 : decode b_Firmware_isGoodHeader 53 = .ok (.i2l, 1) := by decide +kernel
theorem d_Firmware_isGoodHeader_54 : decode b_Firmware_isGoodHeader 54 = .ok (.lcmp, 1) := by decide +kernel
theorem d_Firmware_isGoodHeader_55 : decode b_Firmware_isGoodHeader 55 = .ok (.ifCond .ne 81, 3) := by decide +kernel
theorem d_Firmware_isGoodHeader_58 : decode b_Firmware_isGoodHeader 58 = .ok (.aload_n 0, 1) := by decide +kernel
theorem d_Firmware_isGoodHeader_59 : decode b_Firmware_isGoodHeader 59 = .ok (.getfield 35, 3) := by decide +kernel
theorem d_Firmware_isGoodHeader_62 : decode b_Firmware_isGoodHeader 62 = .ok (.iload_n 2, 1) := by decide +kernel
theorem d_Firmware_isGoodHeader_63 : decode b_Firmware_isGoodHeader 63 = .ok (.bipush 80, 2) := by decide +kernel
theorem d_Firmware_isGoodHeader_65 : decode b_Firmware_isGoodHeader 65 = .ok (.iadd, 1) := by decide +kernel
theorem d_Firmware_isGoodHeader_66 : decode b_Firmware_isGoodHeader 66 = .ok (.iconst 4, 1) := by decide +kernel
theorem d_Firmware_isGoodHeader_67 : decode b_Firmware_isGoodHeader 67 = .ok (.invokevirtual 82, 3) := by decide +kernel
theorem d_Firmware_isGoodHeader_70 : decode b_Firmware_isGoodHeader 70 = .ok (.ldc2_w 98, 3) := by decide +kernel
theorem d_Firmware_isGoodHeader_73 : decode b_Firmware_isGoodHeader 73 = .ok (.lcmp, 1) := by decide +kernel
theorem d_Firmware_isGoodHeader_74 : decode b_Firmware_isGoodHeader 74 = .ok (.ifCond .ne 62, 3) := by decide +kernel
theorem d_Firmware_isGoodHeader_77 : decode b_Firmware_isGoodHeader 77 = .ok (.aload_n 0, 1) := by decide +kernel
theorem d_Firmware_isGoodHeader_78 : decode b_Firmware_isGoodHeader 78 = .ok (.getfield 35, 3) := by decide +kernel
theorem d_Firmware_isGoodHeader_81 : decode b_Firmware_isGoodHeader 81 = .ok (.iload_n 2, 1) := by decide +kernel
theorem d_Firmware_isGoodHeader_82 : decode b_Firmware_isGoodHeader 82 = .ok (.bipush 84, 2) := by decide +kernel
theorem d_Firmware_isGoodHeader_84 : decode b_Firmware_isGoodHeader 84 = .ok (.iadd, 1) := by decide +kernel
theorem d_Firmware_isGoodHeader_85 : decode b_Firmware_isGoodHeader 85 = .ok (.iconst 4, 1) := by decide +kernel
theorem d_Firmware_isGoodHeader_86 : decode b_Firmware_isGoodHeader 86 = .ok (.invokevirtual 82, 3) := by decide +kernel
theorem d_Firmware_isGoodHeader_89 : decode b_Firmware_isGoodHeader 89 = .ok (.ldc2_w 98, 3) := by decide +kernel
theorem d_Firmware_isGoodHeader_92 : decode b_Firmware_isGoodHeader 92 = .ok (.lcmp, 1) := by decide +kernel
theorem d_Firmware_isGoodHeader_93 : decode b_Firmware_isGoodHeader 93 = .ok (.ifCond .ne 43, 3) := by decide +kernel
theorem d_Firmware_isGoodHeader_96 : decode b_Firmware_isGoodHeader 96 = .ok (.aload_n 0, 1) := by decide +kernel
theorem d_Firmware_isGoodHeader_97 : decode b_Firmware_isGoodHeader 97 = .ok (.getfield 35, 3) := by decide +kernel
theorem d_Firmware_isGoodHeader_100 : decode b_Firmware_isGoodHeader 100 = .ok (.iload_n 2, 1) := by decide +kernel
theorem d_Firmware_isGoodHeader_101 : decode b_Firmware_isGoodHeader 101 = .ok (.bipush 16, 2) := by decide +kernel
theorem d_Firmware_isGoodHeader_103 : decode b_Firmware_isGoodHeader 103 = .ok (.iadd, 1) := by decide +kernel
theorem d_Firmware_isGoodHeader_104 : decode b_Firmware_isGoodHeader 104 = .ok (.iconst 4, 1) := by decide +kernel
theorem d_Firmware_isGoodHeader_105 : decode b_Firmware_isGoodHeader 105 = .ok (.invokevirtual 82, 3) := by decide +kernel
theorem d_Firmware_isGoodHeader_108 : decode b_Firmware_isGoodHeader 108 = .ok (.l2i, 1) := by decide +kernel
theorem d_Firmware_isGoodHeader_109 : decode b_Firmware_isGoodHeader 109 = .ok (.aload_n 0, 1) := by decide +kernel
theorem d_Firmware_isGoodHeader_110 : decode b_Firmware_isGoodHeader 110 = .ok (.getfield 41, 3) := by decide +kernel
theorem d_Firmware_isGoodHeader_113 : decode b_Firmware_isGoodHeader 113 = .ok (.aload_n 0, 1) := by decide +kernel
theorem d_Firmware_isGoodHeader_114 : decode b_Firmware_isGoodHeader 114 = .ok (.getfield 35, 3) := by decide +kernel
theorem d_Firmware_isGoodHeader_117 : decode b_Firmware_isGoodHeader 117 = .ok (.iload_n 2, 1) := by decide +kernel
theorem d_Firmware_isGoodHeader_118 : decode b_Firmware_isGoodHeader 118 = .ok (.invokevirtual 100, 3) := by decide +kernel
theorem d_Firmware_isGoodHeader_121 : decode b_Firmware_isGoodHeader 121 = .ok (.if_icmp .ne 15, 3) := by decide +kernel
theorem d_Firmware_isGoodHeader_124 : decode b_Firmware_isGoodHeader 124 = .ok (.aload_n 0, 1) := by decide +kernel
theorem d_Firmware_isGoodHeader_125 : decode b_Firmware_isGoodHeader 125 = .ok (.iload_n 2, 1) := by decide +kernel
theorem d_Firmware_isGoodHeader_126 : decode b_Firmware_isGoodHeader 126 = .ok (.invokevirtual 106, 3) := by decide +kernel
theorem d_Firmware_isGoodHeader_129 : decode b_Firmware_isGoodHeader 129 = .ok (.ifCond .eq 7, 3) := by decide +kernel
theorem d_Firmware_isGoodHeader_132 : decode b_Firmware_isGoodHeader 132 = .ok (.iconst 1, 1) := by decide +kernel
theorem d_Firmware_isGoodHeader_133 : decode b_Firmware_isGoodHeader 133 = .ok (.goto 4, 3) := by decide +kernel
theorem d_Firmware_isGoodHeader_136 : decode b_Firmware_isGoodHeader 136 = .ok (.iconst 0, 1) := by decide +kernel
theorem d_Firmware_isGoodHeader_137 : decode b_Firmware_isGoodHeader 137 = .ok (.ireturn, 1) := by decide +kernel
theorem d_Firmware_bootStartIn_0 : decode b_Firmware_bootStartIn 0 = .ok (.iconst 0, 1) := by decide +kernel
theorem d_Firmware_bootStartIn_1 : decode b_Firmware_bootStartIn 1 = .ok (.istore_n 2, 1) := by decide +kernel
theorem d_Firmware_bootStartIn_2 : decode b_Firmware_bootStartIn 2 = .ok (.iload_n 2, 1) := by decide +kernel
theorem d_Firmware_bootStartIn_3 : decode b_Firmware_bootStartIn 3 = .ok (.sipush 128, 3) := by decide +kernel
theorem d_Firmware_bootStartIn_6 : decode b_Firmware_bootStartIn 6 = .ok (.if_icmp .ge 91, 3) := by decide +kernel
theorem d_Firmware_bootStartIn_9 : decode b_Firmware_bootStartIn 9 = .ok (.iload_n 1, 1) := by decide +kernel
theorem d_Firmware_bootStartIn_10 : decode b_Firmware_bootStartIn 10 = .ok (.iload_n 2, 1) := by decide +kernel
theorem d_Firmware_bootStartIn_11 : decode b_Firmware_bootStartIn 11 = .ok (.sipush 128, 3) := by decide +kernel
theorem d_Firmware_bootStartIn_14 : decode b_Firmware_bootStartIn 14 = .ok (.imul, 1) := by decide +kernel
theorem d_Firmware_bootStartIn_15 : decode b_Firmware_bootStartIn 15 = .ok (.iadd, 1) := by decide +kernel
theorem d_Firmware_bootStartIn_16 : decode b_Firmware_bootStartIn 16 = .ok (.istore_n 3, 1) := by decide +kernel
theorem d_Firmware_bootStartIn_17 : decode b_Firmware_bootStartIn 17 = .ok (.aload_n 0, 1) := by decide +kernel
theorem d_Firmware_bootStartIn_18 : decode b_Firmware_bootStartIn 18 = .ok (.getfield 35, 3) := by decide +kernel
theorem d_Firmware_bootStartIn_21 : decode b_Firmware_bootStartIn 21 = .ok (.iload_n 3, 1) := by decide +kernel
theorem d_Firmware_bootStartIn_22 : decode b_Firmware_bootStartIn 22 = .ok (.getstatic 113, 3) := by decide +kernel
theorem d_Firmware_bootStartIn_25 : decode b_Firmware_bootStartIn 25 = .ok (.invokevirtual 92, 3) := by decide +kernel
theorem d_Firmware_bootStartIn_28 : decode b_Firmware_bootStartIn 28 = .ok (.ifCond .eq 63, 3) := by decide +kernel
theorem d_Firmware_bootStartIn_31 : decode b_Firmware_bootStartIn 31 = .ok (.aload_n 0, 1) := by decide +kernel
theorem d_Firmware_bootStartIn_32 : decode b_Firmware_bootStartIn 32 = .ok (.getfield 35, 3) := by decide +kernel
theorem d_Firmware_bootStartIn_35 : decode b_Firmware_bootStartIn 35 = .ok (.iload_n 3, 1) := by decide +kernel
theorem d_Firmware_bootStartIn_36 : decode b_Firmware_bootStartIn 36 = .ok (.bipush 32, 2) := by decide +kernel
theorem d_Firmware_bootStartIn_38 : decode b_Firmware_bootStartIn 38 = .ok (.iadd, 1) := by decide +kernel
theorem d_Firmware_bootStartIn_39 : decode b_Firmware_bootStartIn 39 = .ok (.bipush 8, 2) := by decide +kernel
theorem d_Firmware_bootStartIn_41 : decode b_Firmware_bootStartIn 41 = .ok (.invokevirtual 82, 3) := by decide +kernel
theorem d_Firmware_bootStartIn_44 : decode b_Firmware_bootStartIn 44 = .ok (.lstore 4, 2) := by decide +kernel
theorem d_Firmware_bootStartIn_46 : decode b_Firmware_bootStartIn 46 = .ok (.aload_n 0, 1) := by decide +kernel
theorem d_Firmware_bootStartIn_47 : decode b_Firmware_bootStartIn 47 = .ok (.getfield 35, 3) := by decide +kernel
theorem d_Firmware_bootStartIn_50 : decode b_Firmware_bootStartIn 50 = .ok (.iload_n 3, 1) := by decide +kernel
theorem d_Firmware_bootStartIn_51 : decode b_Firmware_bootStartIn 51 = .ok (.bipush 40, 2) := by decide +kernel
theorem d_Firmware_bootStartIn_53 : decode b_Firmware_bootStartIn 53 = .ok (.iadd, 1) := by decide +kernel
theorem d_Firmware_bootStartIn_54 : decode b_Firmware_bootStartIn 54 = .ok (.bipush 8, 2) := by decide +kernel
theorem d_Firmware_bootStartIn_56 : decode b_Firmware_bootStartIn 56 = .ok (.invokevirtual 82, 3) := by decide +kernel
theorem d_Firmware_bootStartIn_59 : decode b_Firmware_bootStartIn 59 = .ok (.lstore 6, 2) := by decide +kernel
theorem d_Firmware_bootStartIn_61 : decode b_Firmware_bootStartIn 61 = .ok (.lload 4, 2) := by decide +kernel
theorem d_Firmware_bootStartIn_63 : decode b_Firmware_bootStartIn 63 = .ok (.lconst 0, 1) := by decide +kernel
theorem d_Firmware_bootStartIn_64 : decode b_Firmware_bootStartIn 64 = .ok (.lcmp, 1) := by decide +kernel
theorem d_Firmware_bootStartIn_65 : decode b_Firmware_bootStartIn 65 = .ok (.ifCond .lt 26, 3) := by decide +kernel
theorem d_Firmware_bootStartIn_68 : decode b_Firmware_bootStartIn 68 = .ok (.lload 4, 2) := by decide +kernel
theorem d_Firmware_bootStartIn_70 : decode b_Firmware_bootStartIn 70 = .ok (.lload 6, 2) := by decide +kernel
theorem d_Firmware_bootStartIn_72 : decode b_Firmware_bootStartIn 72 = .ok (.lcmp, 1) := by decide +kernel
theorem d_Firmware_bootStartIn_73 : decode b_Firmware_bootStartIn 73 = .ok (.ifCond .gt 18, 3) := by decide +kernel
theorem d_Firmware_bootStartIn_76 : decode b_Firmware_bootStartIn 76 = .ok (.lload 6, 2) := by decide +kernel
theorem d_Firmware_bootStartIn_78 : decode b_Firmware_bootStartIn 78 = .ok (.aload_n 0, 1) := by decide +kernel
theorem d_Firmware_bootStartIn_79 : decode b_Firmware_bootStartIn 79 = .ok (.getfield 38, 3) := by decide +kernel
theorem d_Firmware_bootStartIn_82 : decode b_Firmware_bootStartIn 82 = .ok (.i2l, 1) := by decide +kernel
theorem d_Firmware_bootStartIn_83 : decode b_Firmware_bootStartIn 83 = .ok (.lcmp, 1) := by decide +kernel
theorem d_Firmware_bootStartIn_84 : decode b_Firmware_bootStartIn 84 = .ok (.ifCond .ge 7, 3) := by decide +kernel
theorem d_Firmware_bootStartIn_87 : decode b_Firmware_bootStartIn 87 = .ok (.lload 4, 2) := by decide +kernel
theorem d_Firmware_bootStartIn_89 : decode b_Firmware_bootStartIn 89 = .ok (.l2i, 1) := by decide +kernel
theorem d_Firmware_bootStartIn_90 : decode b_Firmware_bootStartIn 90 = .ok (.ireturn, 1) := by decide +kernel
theorem d_Firmware_bootStartIn_91 : decode b_Firmware_bootStartIn 91 = .ok (.iinc 2 1, 3) := by decide +kernel
theorem d_Firmware_bootStartIn_94 : decode b_Firmware_bootStartIn 94 = .ok (.goto (-92), 3) := by decide +kernel
theorem d_Firmware_bootStartIn_97 : decode b_Firmware_bootStartIn 97 = .ok (.iconst (-1), 1) := by decide +kernel
theorem d_Firmware_bootStartIn_98 : decode b_Firmware_bootStartIn 98 = .ok (.ireturn, 1) := by decide +kernel
theorem d_Firmware_searchTable_0 : decode b_Firmware_searchTable 0 = .ok (.aload_n 0, 1) := by decide +kernel
theorem d_Firmware_searchTable_1 : decode b_Firmware_searchTable 1 = .ok (.getfield 35, 3) := by decide +kernel
theorem d_Firmware_searchTable_4 : decode b_Firmware_searchTable 4 = .ok (.sipush 450, 3) := by decide +kernel
theorem d_Firmware_searchTable_7 : decode b_Firmware_searchTable 7 = .ok (.invokevirtual 75, 3) := by decide +kernel
theorem d_Firmware_searchTable_10 : decode b_Firmware_searchTable 10 = .ok (.sipush 238, 3) := by decide +kernel
theorem d_Firmware_searchTable_13 : decode b_Firmware_searchTable 13 = .ok (.if_icmp .eq 5, 3) := by decide +kernel
theorem d_Firmware_searchTable_16 : decode b_Firmware_searchTable 16 = .ok (.iconst 2, 1) := by decide +kernel
theorem d_Firmware_searchTable_17 : decode b_Firmware_searchTable 17 = .ok (.ireturn, 1) := by decide +kernel
theorem d_Firmware_searchTable_18 : decode b_Firmware_searchTable 18 = .ok (.iconst 1, 1) := by decide +kernel
theorem d_Firmware_searchTable_19 : decode b_Firmware_searchTable 19 = .ok (.istore_n 1, 1) := by decide +kernel
theorem d_Firmware_searchTable_20 : decode b_Firmware_searchTable 20 = .ok (.aload_n 0, 1) := by decide +kernel
theorem d_Firmware_searchTable_21 : decode b_Firmware_searchTable 21 = .ok (.iload_n 1, 1) := by decide +kernel
theorem d_Firmware_searchTable_22 : decode b_Firmware_searchTable 22 = .ok (.invokevirtual 79, 3) := by decide +kernel
theorem d_Firmware_searchTable_25 : decode b_Firmware_searchTable 25 = .ok (.ifCond .eq 11, 3) := by decide +kernel
theorem d_Firmware_searchTable_28 : decode b_Firmware_searchTable 28 = .ok (.aload_n 0, 1) := by decide +kernel
theorem d_Firmware_searchTable_29 : decode b_Firmware_searchTable 29 = .ok (.iconst 1, 1) := by decide +kernel
theorem d_Firmware_searchTable_30 : decode b_Firmware_searchTable 30 = .ok (.putfield 52, 3) := by decide +kernel
theorem d_Firmware_searchTable_33 : decode b_Firmware_searchTable 33 = .ok (.goto 25, 3) := by decide +kernel
theorem d_Firmware_searchTable_36 : decode b_Firmware_searchTable 36 = .ok (.aload_n 0, 1) := by decide +kernel
theorem d_Firmware_searchTable_37 : decode b_Firmware_searchTable 37 = .ok (.getfield 38, 3) := by decide +kernel
theorem d_Firmware_searchTable_40 : decode b_Firmware_searchTable 40 = .ok (.iconst 1, 1) := by decide +kernel
theorem d_Firmware_searchTable_41 : decode b_Firmware_searchTable 41 = .ok (.isub, 1) := by decide +kernel
theorem d_Firmware_searchTable_42 : decode b_Firmware_searchTable 42 = .ok (.istore_n 1, 1) := by decide +kernel
theorem d_Firmware_searchTable_43 : decode b_Firmware_searchTable 43 = .ok (.aload_n 0, 1) := by decide +kernel
theorem d_Firmware_searchTable_44 : decode b_Firmware_searchTable 44 = .ok (.iload_n 1, 1) := by decide +kernel
theorem d_Firmware_searchTable_45 : decode b_Firmware_searchTable 45 = .ok (.invokevirtual 79, 3) := by decide +kernel
theorem d_Firmware_searchTable_48 : decode b_Firmware_searchTable 48 = .ok (.ifCond .ne 5, 3) := by decide +kernel
theorem d_Firmware_searchTable_51 : decode b_Firmware_searchTable 51 = .ok (.iconst 3, 1) := by decide +kernel
theorem d_Firmware_searchTable_52 : decode b_Firmware_searchTable 52 = .ok (.ireturn, 1) := by decide +kernel
theorem d_Firmware_searchTable_53 : decode b_Firmware_searchTable 53 = .ok (.aload_n 0, 1) := by decide +kernel
theorem d_Firmware_searchTable_54 : decode b_Firmware_searchTable 54 = .ok (.iconst 2, 1) := by decide +kernel
theorem d_Firmware_searchTable_55 : decode b_Firmware_searchTable 55 = .ok (.putfield 52, 3) := by decide +kernel
theorem d_Firmware_searchTable_58 : decode b_Firmware_searchTable 58 = .ok (.aload_n 0, 1) := by decide +kernel
theorem d_Firmware_searchTable_59 : decode b_Firmware_searchTable 59 = .ok (.aload_n 0, 1) := by decide +kernel
theorem d_Firmware_searchTable_60 : decode b_Firmware_searchTable 60 = .ok (.aload_n 0, 1) := by decide +kernel
theorem d_Firmware_searchTable_61 : decode b_Firmware_searchTable 61 = .ok (.getfield 35, 3) := by decide +kernel
theorem d_Firmware_searchTable_64 : decode b_Firmware_searchTable 64 = .ok (.iload_n 1, 1) := by decide +kernel
theorem d_Firmware_searchTable_65 : decode b_Firmware_searchTable 65 = .ok (.sipush 512, 3) := by decide +kernel
theorem d_Firmware_searchTable_68 : decode b_Firmware_searchTable 68 = .ok (.imul, 1) := by decide +kernel
theorem d_Firmware_searchTable_69 : decode b_Firmware_searchTable 69 = .ok (.bipush 72, 2) := by decide +kernel
theorem d_Firmware_searchTable_71 : decode b_Firmware_searchTable 71 = .ok (.iadd, 1) := by decide +kernel
theorem d_Firmware_searchTable_72 : decode b_Firmware_searchTable 72 = .ok (.bipush 8, 2) := by decide +kernel
theorem d_Firmware_searchTable_74 : decode b_Firmware_searchTable 74 = .ok (.invokevirtual 82, 3) := by decide +kernel
theorem d_Firmware_searchTable_77 : decode b_Firmware_searchTable 77 = .ok (.l2i, 1) := by decide +kernel
theorem d_Firmware_searchTable_78 : decode b_Firmware_searchTable 78 = .ok (.sipush 512, 3) := by decide +kernel
theorem d_Firmware_searchTable_81 : decode b_Firmware_searchTable 81 = .ok (.imul, 1) := by decide +kernel
theorem d_Firmware_searchTable_82 : decode b_Firmware_searchTable 82 = .ok (.invokevirtual 86, 3) := by decide +kernel
theorem d_Firmware_searchTable_85 : decode b_Firmware_searchTable 85 = .ok (.putfield 25, 3) := by decide +kernel
theorem d_Firmware_searchTable_88 : decode b_Firmware_searchTable 88 = .ok (.aload_n 0, 1) := by decide +kernel
theorem d_Firmware_searchTable_89 : decode b_Firmware_searchTable 89 = .ok (.getfield 25, 3) := by decide +kernel
theorem d_Firmware_searchTable_92 : decode b_Firmware_searchTable 92 = .ok (.iconst (-1), 1) := by decide +kernel
theorem d_Firmware_searchTable_93 : decode b_Firmware_searchTable 93 = .ok (.if_icmp .ne 7, 3) := by decide +kernel
theorem d_Firmware_searchTable_96 : decode b_Firmware_searchTable 96 = .ok (.iconst 4, 1) := by decide +kernel
theorem d_Firmware_searchTable_97 : decode b_Firmware_searchTable 97 = .ok (.goto 4, 3) := by decide +kernel
theorem d_Firmware_searchTable_100 : decode b_Firmware_searchTable 100 = .ok (.iconst 0, 1) := by decide +kernel
theorem d_Firmware_searchTable_101 : decode b_Firmware_searchTable 101 = .ok (.ireturn, 1) := by decide +kernel
set_option maxRecDepth 100000 in
theorem fg_Firmware_48 : FlG Wall classes R_Firmware 48 5 8 := ⟨_, _, _, rfl, by decide, in_Firmware, inW 192 rfl rfl⟩
set_option maxRecDepth 100000 in
theorem fg_Firmware_52 : FlG Wall classes R_Firmware 52 5 9 := ⟨_, _, _, rfl, by decide, in_Firmware, inW 193 rfl rfl⟩
set_option maxRecDepth 100000 in
theorem fg_Firmware_25 : FlG Wall classes R_Firmware 25 5 10 := ⟨_, _, _, rfl, by decide, in_Firmware, inW 194 rfl rfl⟩
set_option maxRecDepth 100000 in
theorem fg_Firmware_29 : FlG Wall classes R_Firmware 29 5 11 := ⟨_, _, _, rfl, by decide, in_Firmware, inW 195 rfl rfl⟩
set_option maxRecDepth 100000 in
theorem fg_Firmware_32 : FlG Wall classes R_Firmware 32 5 12 := ⟨_, _, _, rfl, by decide, in_Firmware, inW 196 rfl rfl⟩
set_option maxRecDepth 100000 in
theorem fp_Firmware_48 : FlP Wall classes R_Firmware 48 5 8 .boolean := ⟨_, _, _, t_Firmware, rfl, by decide, in_Firmware, inW 192 rfl rfl, t_Firmware_ok, n_Firmware, rfl, by decide +kernel⟩
set_option maxRecDepth 100000 in
theorem fp_Firmware_52 : FlP Wall classes R_Firmware 52 5 9 .int := ⟨_, _, _, t_Firmware, rfl, by decide, in_Firmware, inW 193 rfl rfl, t_Firmware_ok, n_Firmware, rfl, by decide +kernel⟩
set_option maxRecDepth 100000 in
theorem fp_Firmware_25 : FlP Wall classes R_Firmware 25 5 10 .int := ⟨_, _, _, t_Firmware, rfl, by decide, in_Firmware, inW 194 rfl rfl, t_Firmware_ok, n_Firmware, rfl, by decide +kernel⟩
set_option maxRecDepth 100000 in
theorem fp_Firmware_29 : FlP Wall classes R_Firmware 29 5 11 .int := ⟨_, _, _, t_Firmware, rfl, by decide, in_Firmware, inW 195 rfl rfl, t_Firmware_ok, n_Firmware, rfl, by decide +kernel⟩
set_option maxRecDepth 100000 in
theorem fp_Firmware_32 : FlP Wall classes R_Firmware 32 5 12 .int := ⟨_, _, _, t_Firmware, rfl, by decide, in_Firmware, inW 196 rfl rfl, t_Firmware_ok, n_Firmware, rfl, by decide +kernel⟩
set_option maxRecDepth 100000 in
theorem fg_Firmware_15 : FlG Wall classes R_Firmware 15 5 0 := ⟨_, _, _, rfl, by decide, in_Firmware, inW 183 rfl rfl⟩
set_option maxRecDepth 100000 in
theorem fc_Firmware_72 : FcV Wall classes R_Firmware 72 0 y_Store_clear b_Store_clear 1 (none) ws_Store_clear 0 := ⟨⟨rfl, cw_Store_clear, inW 652 rfl rfl, in_i_Store, by decide +kernel⟩, inW 353 rfl rfl, inW 354 rfl rfl, _, _, rfl⟩
set_option maxRecDepth 100000 in
theorem fg_Firmware_161 : FlG Wall classes R_Firmware 161 5 6 := ⟨_, _, _, rfl, by decide, in_Firmware, inW 190 rfl rfl⟩
set_option maxRecDepth 100000 in
theorem fg_Firmware_35 : FlG Wall classes R_Firmware 35 5 1 := ⟨_, _, _, rfl, by decide, in_Firmware, inW 185 rfl rfl⟩
set_option maxRecDepth 100000 in
theorem fc_Firmware_82 : FcV Wall classes R_Firmware 82 0 y_Store_getLow b_Store_getLow 6 (some .long) ws_Store_getLow 2 := ⟨⟨rfl, cw_Store_getLow, inW 676 rfl rfl, in_i_Store, by decide +kernel⟩, inW 658 rfl rfl, inW 659 rfl rfl, _, _, rfl⟩
set_option maxRecDepth 100000 in
theorem fg_Firmware_38 : FlG Wall classes R_Firmware 38 5 2 := ⟨_, _, _, rfl, by decide, in_Firmware, inW 186 rfl rfl⟩
set_option maxRecDepth 100000 in
theorem fg_Firmware_41 : FlG Wall classes R_Firmware 41 5 3 := ⟨_, _, _, rfl, by decide, in_Firmware, inW 187 rfl rfl⟩
set_option maxRecDepth 100000 in
theorem fc_Firmware_109 : FcV Wall classes R_Firmware 109 1 y_Sums_over b_Sums_over 5 (some .int) ws_Sums_over 3 := ⟨⟨rfl, cw_Sums_over, inW 684 rfl rfl, in_i_Sums, by decide +kernel⟩, inW 487 rfl rfl, inW 488 rfl rfl, _, _, rfl⟩
set_option maxRecDepth 100000 in
theorem kc_Firmware_96 : Cond.constantLong R_Firmware 96 92 ∈ Wall := inW 677 rfl rfl
set_option maxRecDepth 100000 in
theorem kc_Firmware_98 : Cond.constantLong R_Firmware 98 128 ∈ Wall := inW 678 rfl rfl
set_option maxRecDepth 100000 in
theorem fc_Firmware_92 : FcV Wall classes R_Firmware 92 0 y_Store_holdsRow b_Store_holdsRow 4 (some .boolean) ws_Store_holdsRow 2 := ⟨⟨rfl, cw_Store_holdsRow, inW 672 rfl rfl, in_i_Store, by decide +kernel⟩, inW 673 rfl rfl, inW 674 rfl rfl, _, _, rfl⟩
set_option maxRecDepth 100000 in
theorem fc_Firmware_100 : FcV Wall classes R_Firmware 100 1 y_Sums_overHeader b_Sums_overHeader 5 (some .int) ws_Sums_overHeader 2 := ⟨⟨rfl, cw_Sums_overHeader, inW 679 rfl rfl, in_i_Sums, by decide +kernel⟩, inW 498 rfl rfl, inW 499 rfl rfl, _, _, rfl⟩
set_option maxRecDepth 100000 in
theorem fc_Firmware_106 : FcV Wall classes R_Firmware 106 5 y_Firmware_hasGoodEntries b_Firmware_hasGoodEntries 5 (some .boolean) ws_Firmware_hasGoodEntries 1 := ⟨⟨rfl, cw_Firmware_hasGoodEntries, inW 680 rfl rfl, in_i_Firmware, by decide +kernel⟩, inW 682 rfl rfl, inP 18 rfl rfl, _, _, rfl⟩
set_option maxRecDepth 100000 in
theorem fc_Firmware_75 : FcV Wall classes R_Firmware 75 0 y_Store_get b_Store_get 2 (some .int) ws_Store_get 1 := ⟨⟨rfl, cw_Store_get, inW 666 rfl rfl, in_i_Store, by decide +kernel⟩, inW 492 rfl rfl, inW 493 rfl rfl, _, _, rfl⟩
set_option maxRecDepth 100000 in
theorem fc_Firmware_79 : FcV Wall classes R_Firmware 79 5 y_Firmware_isGoodHeader b_Firmware_isGoodHeader 3 (some .boolean) ws_Firmware_isGoodHeader 1 := ⟨⟨rfl, cw_Firmware_isGoodHeader, inW 667 rfl rfl, in_i_Firmware, by decide +kernel⟩, inW 669 rfl rfl, inP 17 rfl rfl, _, _, rfl⟩
set_option maxRecDepth 100000 in
theorem fc_Firmware_86 : FcV Wall classes R_Firmware 86 5 y_Firmware_bootStartIn b_Firmware_bootStartIn 8 (some .int) ws_Firmware_bootStartIn 1 := ⟨⟨rfl, cw_Firmware_bootStartIn, inW 685 rfl rfl, in_i_Firmware, by decide +kernel⟩, inW 687 rfl rfl, inP 19 rfl rfl, _, _, rfl⟩
