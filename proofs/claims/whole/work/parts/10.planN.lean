abbrev b_Plan_nextStart : ByteArray := prog_3_method_3_code
def y_Plan_nextStart : MethodName := ⟨"BootMaker$Plan", "nextStart", "()I"⟩
def ws_Plan_nextStart : List Cond := Cond.code y_Plan_nextStart b_Plan_nextStart 2 (some .int) :: Wall
set_option maxRecDepth 100000 in
theorem cw_Plan_nextStart : Cond.code y_Plan_nextStart b_Plan_nextStart 2 (some .int) ∈ Wall := inW 251 rfl rfl
abbrev b_Plan_addPartition : ByteArray := prog_3_method_2_code
def y_Plan_addPartition : MethodName := ⟨"BootMaker$Plan", "addPartition", "(II)I"⟩
def ws_Plan_addPartition : List Cond := Cond.code y_Plan_addPartition b_Plan_addPartition 4 (some .int) :: Wall
set_option maxRecDepth 100000 in
theorem cw_Plan_addPartition : Cond.code y_Plan_addPartition b_Plan_addPartition 4 (some .int) ∈ Wall := inW 247 rfl rfl
abbrev b_Plan_tellPartition : ByteArray := prog_3_method_4_code
def y_Plan_tellPartition : MethodName := ⟨"BootMaker$Plan", "tellPartition", "(II)I"⟩
def ws_Plan_tellPartition : List Cond := Cond.code y_Plan_tellPartition b_Plan_tellPartition 3 (some .int) :: Wall
set_option maxRecDepth 100000 in
theorem cw_Plan_tellPartition : Cond.code y_Plan_tellPartition b_Plan_tellPartition 3 (some .int) ∈ Wall := inW 259 rfl rfl
abbrev b_Plan_bootPartition : ByteArray := prog_3_method_5_code
def y_Plan_bootPartition : MethodName := ⟨"BootMaker$Plan", "bootPartition", "()I"⟩
def ws_Plan_bootPartition : List Cond := Cond.code y_Plan_bootPartition b_Plan_bootPartition 2 (some .int) :: Wall
set_option maxRecDepth 100000 in
theorem cw_Plan_bootPartition : Cond.code y_Plan_bootPartition b_Plan_bootPartition 2 (some .int) ∈ Wall := inW 301 rfl rfl
abbrev b_Plan_isNameCharacter : ByteArray := prog_3_method_8_code
def y_Plan_isNameCharacter : MethodName := ⟨"BootMaker$Plan", "isNameCharacter", "(I)Z"⟩
def ws_Plan_isNameCharacter : List Cond := Cond.code y_Plan_isNameCharacter b_Plan_isNameCharacter 1 (some .boolean) :: Wall
set_option maxRecDepth 100000 in
theorem cw_Plan_isNameCharacter : Cond.code y_Plan_isNameCharacter b_Plan_isNameCharacter 1 (some .boolean) ∈ Wall := inW 273 rfl rfl
abbrev b_Plan_nameIn : ByteArray := prog_3_method_7_code
def y_Plan_nameIn : MethodName := ⟨"BootMaker$Plan", "nameIn", "(J)J"⟩
def ws_Plan_nameIn : List Cond := Cond.code y_Plan_nameIn b_Plan_nameIn 6 (some .long) :: Wall
set_option maxRecDepth 100000 in
theorem cw_Plan_nameIn : Cond.code y_Plan_nameIn b_Plan_nameIn 6 (some .long) ∈ Wall := inW 270 rfl rfl
abbrev b_Plan_fileNamed : ByteArray := prog_3_method_9_code
def y_Plan_fileNamed : MethodName := ⟨"BootMaker$Plan", "fileNamed", "(J)I"⟩
def ws_Plan_fileNamed : List Cond := Cond.code y_Plan_fileNamed b_Plan_fileNamed 4 (some .int) :: Wall
set_option maxRecDepth 100000 in
theorem cw_Plan_fileNamed : Cond.code y_Plan_fileNamed b_Plan_fileNamed 4 (some .int) ∈ Wall := inW 277 rfl rfl
abbrev b_Plan_addFile : ByteArray := prog_3_method_6_code
def y_Plan_addFile : MethodName := ⟨"BootMaker$Plan", "addFile", "(JIIZ)I"⟩
def ws_Plan_addFile : List Cond := Cond.code y_Plan_addFile b_Plan_addFile 8 (some .int) :: Wall
set_option maxRecDepth 100000 in
theorem cw_Plan_addFile : Cond.code y_Plan_addFile b_Plan_addFile 8 (some .int) ∈ Wall := inW 267 rfl rfl
abbrev b_Plan_headByte : ByteArray := prog_3_method_11_code
def y_Plan_headByte : MethodName := ⟨"BootMaker$Plan", "headByte", "(Ljava/lang/String;II)I"⟩
def ws_Plan_headByte : List Cond := Cond.code y_Plan_headByte b_Plan_headByte 3 (some .int) :: Wall
set_option maxRecDepth 100000 in
theorem cw_Plan_headByte : Cond.code y_Plan_headByte b_Plan_headByte 3 (some .int) ∈ Wall := inW 394 rfl rfl
abbrev b_Plan_fileByte : ByteArray := prog_3_method_10_code
def y_Plan_fileByte : MethodName := ⟨"BootMaker$Plan", "fileByte", "(III)I"⟩
def ws_Plan_fileByte : List Cond := Cond.code y_Plan_fileByte b_Plan_fileByte 4 (some .int) :: Wall
set_option maxRecDepth 100000 in
theorem cw_Plan_fileByte : Cond.code y_Plan_fileByte b_Plan_fileByte 4 (some .int) ∈ Wall := inW 389 rfl rfl
theorem d_Plan_nextStart_0 : decode b_Plan_nextStart 0 = .ok (.aload_n 0, 1) := by decide +kernel
theorem d_Plan_nextStart_1 : decode b_Plan_nextStart 1 = .ok (.getfield 39, 3) := by decide +kernel
theorem d_Plan_nextStart_4 : decode b_Plan_nextStart 4 = .ok (.ifCond .ne 6, 3) := by decide +kernel
theorem d_Plan_nextStart_7 : decode b_Plan_nextStart 7 = .ok (.bipush 40, 2) := by decide +kernel
theorem d_Plan_nextStart_9 : decode b_Plan_nextStart 9 = .ok (.ireturn, 1) := by decide +kernel
theorem d_Plan_nextStart_10 : decode b_Plan_nextStart 10 = .ok (.aload_n 0, 1) := by decide +kernel
theorem d_Plan_nextStart_11 : decode b_Plan_nextStart 11 = .ok (.getfield 15, 3) := by decide +kernel
theorem d_Plan_nextStart_14 : decode b_Plan_nextStart 14 = .ok (.aload_n 0, 1) := by decide +kernel
theorem d_Plan_nextStart_15 : decode b_Plan_nextStart 15 = .ok (.getfield 39, 3) := by decide +kernel
theorem d_Plan_nextStart_18 : decode b_Plan_nextStart 18 = .ok (.iconst 1, 1) := by decide +kernel
theorem d_Plan_nextStart_19 : decode b_Plan_nextStart 19 = .ok (.isub, 1) := by decide +kernel
theorem d_Plan_nextStart_20 : decode b_Plan_nextStart 20 = .ok (.iaload, 1) := by decide +kernel
theorem d_Plan_nextStart_21 : decode b_Plan_nextStart 21 = .ok (.aload_n 0, 1) := by decide +kernel
theorem d_Plan_nextStart_22 : decode b_Plan_nextStart 22 = .ok (.getfield 18, 3) := by decide +kernel
theorem d_Plan_nextStart_25 : decode b_Plan_nextStart 25 = .ok (.aload_n 0, 1) := by decide +kernel
theorem d_Plan_nextStart_26 : decode b_Plan_nextStart 26 = .ok (.getfield 39, 3) := by decide +kernel
theorem d_Plan_nextStart_29 : decode b_Plan_nextStart 29 = .ok (.iconst 1, 1) := by decide +kernel
theorem d_Plan_nextStart_30 : decode b_Plan_nextStart 30 = .ok (.isub, 1) := by decide +kernel
theorem d_Plan_nextStart_31 : decode b_Plan_nextStart 31 = .ok (.iaload, 1) := by decide +kernel
theorem d_Plan_nextStart_32 : decode b_Plan_nextStart 32 = .ok (.iadd, 1) := by decide +kernel
theorem d_Plan_nextStart_33 : decode b_Plan_nextStart 33 = .ok (.istore_n 1, 1) := by decide +kernel
theorem d_Plan_nextStart_34 : decode b_Plan_nextStart 34 = .ok (.iload_n 1, 1) := by decide +kernel
theorem d_Plan_nextStart_35 : decode b_Plan_nextStart 35 = .ok (.bipush 7, 2) := by decide +kernel
theorem d_Plan_nextStart_37 : decode b_Plan_nextStart 37 = .ok (.iadd, 1) := by decide +kernel
theorem d_Plan_nextStart_38 : decode b_Plan_nextStart 38 = .ok (.bipush 8, 2) := by decide +kernel
theorem d_Plan_nextStart_40 : decode b_Plan_nextStart 40 = .ok (.idiv, 1) := by decide +kernel
theorem d_Plan_nextStart_41 : decode b_Plan_nextStart 41 = .ok (.bipush 8, 2) := by decide +kernel
theorem d_Plan_nextStart_43 : decode b_Plan_nextStart 43 = .ok (.imul, 1) := by decide +kernel
theorem d_Plan_nextStart_44 : decode b_Plan_nextStart 44 = .ok (.ireturn, 1) := by decide +kernel
theorem d_Plan_addPartition_0 : decode b_Plan_addPartition 0 = .ok (.iload_n 1, 1) := by decide +kernel
theorem d_Plan_addPartition_1 : decode b_Plan_addPartition 1 = .ok (.ifCond .eq 8, 3) := by decide +kernel
theorem d_Plan_addPartition_4 : decode b_Plan_addPartition 4 = .ok (.iload_n 1, 1) := by decide +kernel
theorem d_Plan_addPartition_5 : decode b_Plan_addPartition 5 = .ok (.iconst 1, 1) := by decide +kernel
theorem d_Plan_addPartition_6 : decode b_Plan_addPartition 6 = .ok (.if_icmp .ne 16, 3) := by decide +kernel
theorem d_Plan_addPartition_9 : decode b_Plan_addPartition 9 = .ok (.iload_n 2, 1) := by decide +kernel
theorem d_Plan_addPartition_10 : decode b_Plan_addPartition 10 = .ok (.bipush 8, 2) := by decide +kernel
theorem d_Plan_addPartition_12 : decode b_Plan_addPartition 12 = .ok (.if_icmp .lt 10, 3) := by decide +kernel
theorem d_Plan_addPartition_15 : decode b_Plan_addPartition 15 = .ok (.iload_n 2, 1) := by decide +kernel
theorem d_Plan_addPartition_16 : decode b_Plan_addPartition 16 = .ok (.sipush 600, 3) := by decide +kernel
theorem d_Plan_addPartition_19 : decode b_Plan_addPartition 19 = .ok (.if_icmp .le 6, 3) := by decide +kernel
theorem d_Plan_addPartition_22 : decode b_Plan_addPartition 22 = .ok (.bipush (-2), 2) := by decide +kernel
theorem d_Plan_addPartition_24 : decode b_Plan_addPartition 24 = .ok (.ireturn, 1) := by decide +kernel
theorem d_Plan_addPartition_25 : decode b_Plan_addPartition 25 = .ok (.aload_n 0, 1) := by decide +kernel
theorem d_Plan_addPartition_26 : decode b_Plan_addPartition 26 = .ok (.getfield 39, 3) := by decide +kernel
theorem d_Plan_addPartition_29 : decode b_Plan_addPartition 29 = .ok (.iconst 4, 1) := by decide +kernel
theorem d_Plan_addPartition_30 : decode b_Plan_addPartition 30 = .ok (.if_icmp .lt 6, 3) := by decide +kernel
theorem d_Plan_addPartition_33 : decode b_Plan_addPartition 33 = .ok (.bipush (-3), 2) := by decide +kernel
theorem d_Plan_addPartition_35 : decode b_Plan_addPartition 35 = .ok (.ireturn, 1) := by decide +kernel
theorem d_Plan_addPartition_36 : decode b_Plan_addPartition 36 = .ok (.aload_n 0, 1) := by decide +kernel
theorem d_Plan_addPartition_37 : decode b_Plan_addPartition 37 = .ok (.invokevirtual 42, 3) := by decide +kernel
theorem d_Plan_addPartition_40 : decode b_Plan_addPartition 40 = .ok (.istore_n 3, 1) := by decide +kernel
theorem d_Plan_addPartition_41 : decode b_Plan_addPartition 41 = .ok (.iload_n 3, 1) := by decide +kernel
theorem d_Plan_addPartition_42 : decode b_Plan_addPartition 42 = .ok (.iload_n 2, 1) := by decide +kernel
theorem d_Plan_addPartition_43 : decode b_Plan_addPartition 43 = .ok (.iadd, 1) := by decide +kernel
theorem d_Plan_addPartition_44 : decode b_Plan_addPartition 44 = .ok (.iconst 1, 1) := by decide +kernel
theorem d_Plan_addPartition_45 : decode b_Plan_addPartition 45 = .ok (.isub, 1) := by decide +kernel
theorem d_Plan_addPartition_46 : decode b_Plan_addPartition 46 = .ok (.aload_n 0, 1) := by decide +kernel
theorem d_Plan_addPartition_47 : decode b_Plan_addPartition 47 = .ok (.getfield 35, 3) := by decide +kernel
theorem d_Plan_addPartition_50 : decode b_Plan_addPartition 50 = .ok (.if_icmp .le 6, 3) := by decide +kernel
theorem d_Plan_addPartition_53 : decode b_Plan_addPartition 53 = .ok (.bipush (-3), 2) := by decide +kernel
theorem d_Plan_addPartition_55 : decode b_Plan_addPartition 55 = .ok (.ireturn, 1) := by decide +kernel
theorem d_Plan_addPartition_56 : decode b_Plan_addPartition 56 = .ok (.aload_n 0, 1) := by decide +kernel
theorem d_Plan_addPartition_57 : decode b_Plan_addPartition 57 = .ok (.getfield 11, 3) := by decide +kernel
theorem d_Plan_addPartition_60 : decode b_Plan_addPartition 60 = .ok (.aload_n 0, 1) := by decide +kernel
theorem d_Plan_addPartition_61 : decode b_Plan_addPartition 61 = .ok (.getfield 39, 3) := by decide +kernel
theorem d_Plan_addPartition_64 : decode b_Plan_addPartition 64 = .ok (.iload_n 1, 1) := by decide +kernel
theorem d_Plan_addPartition_65 : decode b_Plan_addPartition 65 = .ok (.iastore, 1) := by decide +kernel
theorem d_Plan_addPartition_66 : decode b_Plan_addPartition 66 = .ok (.aload_n 0, 1) := by decide +kernel
theorem d_Plan_addPartition_67 : decode b_Plan_addPartition 67 = .ok (.getfield 15, 3) := by decide +kernel
theorem d_Plan_addPartition_70 : decode b_Plan_addPartition 70 = .ok (.aload_n 0, 1) := by decide +kernel
theorem d_Plan_addPartition_71 : decode b_Plan_addPartition 71 = .ok (.getfield 39, 3) := by decide +kernel
theorem d_Plan_addPartition_74 : decode b_Plan_addPartition 74 = .ok (.iload_n 3, 1) := by decide +kernel
theorem d_Plan_addPartition_75 : decode b_Plan_addPartition 75 = .ok (.iastore, 1) := by decide +kernel
theorem d_Plan_addPartition_76 : decode b_Plan_addPartition 76 = .ok (.aload_n 0, 1) := by decide +kernel
theorem d_Plan_addPartition_77 : decode b_Plan_addPartition 77 = .ok (.getfield 18, 3) := by decide +kernel
theorem d_Plan_addPartition_80 : decode b_Plan_addPartition 80 = .ok (.aload_n 0, 1) := by decide +kernel
theorem d_Plan_addPartition_81 : decode b_Plan_addPartition 81 = .ok (.getfield 39, 3) := by decide +kernel
theorem d_Plan_addPartition_84 : decode b_Plan_addPartition 84 = .ok (.iload_n 2, 1) := by decide +kernel
theorem d_Plan_addPartition_85 : decode b_Plan_addPartition 85 = .ok (.iastore, 1) := by decide +kernel
theorem d_Plan_addPartition_86 : decode b_Plan_addPartition 86 = .ok (.aload_n 0, 1) := by decide +kernel
theorem d_Plan_addPartition_87 : decode b_Plan_addPartition 87 = .ok (.dup, 1) := by decide +kernel
theorem d_Plan_addPartition_88 : decode b_Plan_addPartition 88 = .ok (.getfield 39, 3) := by decide +kernel
theorem d_Plan_addPartition_91 : decode b_Plan_addPartition 91 = .ok (.dup_x1, 1) := by decide +kernel
theorem d_Plan_addPartition_92 : decode b_Plan_addPartition 92 = .ok (.iconst 1, 1) := by decide +kernel
theorem d_Plan_addPartition_93 : decode b_Plan_addPartition 93 = .ok (.iadd, 1) := by decide +kernel
theorem d_Plan_addPartition_94 : decode b_Plan_addPartition 94 = .ok (.putfield 39, 3) := by decide +kernel
theorem d_Plan_addPartition_97 : decode b_Plan_addPartition 97 = .ok (.ireturn, 1) := by decide +kernel
theorem d_Plan_tellPartition_0 : decode b_Plan_tellPartition 0 = .ok (.iload_n 1, 1) := by decide +kernel
theorem d_Plan_tellPartition_1 : decode b_Plan_tellPartition 1 = .ok (.ifCond .lt 11, 3) := by decide +kernel
theorem d_Plan_tellPartition_4 : decode b_Plan_tellPartition 4 = .ok (.iload_n 1, 1) := by decide +kernel
theorem d_Plan_tellPartition_5 : decode b_Plan_tellPartition 5 = .ok (.aload_n 0, 1) := by decide +kernel
theorem d_Plan_tellPartition_6 : decode b_Plan_tellPartition 6 = .ok (.getfield 39, 3) := by decide +kernel
theorem d_Plan_tellPartition_9 : decode b_Plan_tellPartition 9 = .ok (.if_icmp .lt 5, 3) := by decide +kernel
theorem d_Plan_tellPartition_12 : decode b_Plan_tellPartition 12 = .ok (.iconst (-1), 1) := by decide +kernel
theorem d_Plan_tellPartition_13 : decode b_Plan_tellPartition 13 = .ok (.ireturn, 1) := by decide +kernel
theorem d_Plan_tellPartition_14 : decode b_Plan_tellPartition 14 = .ok (.iload_n 2, 1) := by decide +kernel
theorem d_Plan_tellPartition_15 : decode b_Plan_tellPartition 15 = .ok (.tableswitch 46 0 2 #[25, 32, 39], 25) := by decide +kernel
theorem d_Plan_tellPartition_40 : decode b_Plan_tellPartition 40 = .ok (.aload_n 0, 1) := by decide +kernel
theorem d_Plan_tellPartition_41 : decode b_Plan_tellPartition 41 = .ok (.getfield 15, 3) := by decide +kernel
theorem d_Plan_tellPartition_44 : decode b_Plan_tellPartition 44 = .ok (.iload_n 1, 1) := by decide +kernel
theorem d_Plan_tellPartition_45 : decode b_Plan_tellPartition 45 = .ok (.iaload, 1) := by decide +kernel
theorem d_Plan_tellPartition_46 : decode b_Plan_tellPartition 46 = .ok (.ireturn, 1) := by decide +kernel
theorem d_Plan_tellPartition_47 : decode b_Plan_tellPartition 47 = .ok (.aload_n 0, 1) := by decide +kernel
theorem d_Plan_tellPartition_48 : decode b_Plan_tellPartition 48 = .ok (.getfield 18, 3) := by decide +kernel
theorem d_Plan_tellPartition_51 : decode b_Plan_tellPartition 51 = .ok (.iload_n 1, 1) := by decide +kernel
theorem d_Plan_tellPartition_52 : decode b_Plan_tellPartition 52 = .ok (.iaload, 1) := by decide +kernel
theorem d_Plan_tellPartition_53 : decode b_Plan_tellPartition 53 = .ok (.ireturn, 1) := by decide +kernel
theorem d_Plan_tellPartition_54 : decode b_Plan_tellPartition 54 = .ok (.aload_n 0, 1) := by decide +kernel
theorem d_Plan_tellPartition_55 : decode b_Plan_tellPartition 55 = .ok (.getfield 11, 3) := by decide +kernel
theorem d_Plan_tellPartition_58 : decode b_Plan_tellPartition 58 = .ok (.iload_n 1, 1) := by decide +kernel
theorem d_Plan_tellPartition_59 : decode b_Plan_tellPartition 59 = .ok (.iaload, 1) := by decide +kernel
theorem d_Plan_tellPartition_60 : decode b_Plan_tellPartition 60 = .ok (.ireturn, 1) := by decide +kernel
theorem d_Plan_tellPartition_61 : decode b_Plan_tellPartition 61 = .ok (.iconst (-1), 1) := by decide +kernel
theorem d_Plan_tellPartition_62 : decode b_Plan_tellPartition 62 = .ok (.ireturn, 1) := by decide +kernel
theorem d_Plan_bootPartition_0 : decode b_Plan_bootPartition 0 = .ok (.iconst 0, 1) := by decide +kernel
theorem d_Plan_bootPartition_1 : decode b_Plan_bootPartition 1 = .ok (.istore_n 1, 1) := by decide +kernel
theorem d_Plan_bootPartition_2 : decode b_Plan_bootPartition 2 = .ok (.iload_n 1, 1) := by decide +kernel
theorem d_Plan_bootPartition_3 : decode b_Plan_bootPartition 3 = .ok (.aload_n 0, 1) := by decide +kernel
theorem d_Plan_bootPartition_4 : decode b_Plan_bootPartition 4 = .ok (.getfield 39, 3) := by decide +kernel
theorem d_Plan_bootPartition_7 : decode b_Plan_bootPartition 7 = .ok (.if_icmp .ge 20, 3) := by decide +kernel
theorem d_Plan_bootPartition_10 : decode b_Plan_bootPartition 10 = .ok (.aload_n 0, 1) := by decide +kernel
theorem d_Plan_bootPartition_11 : decode b_Plan_bootPartition 11 = .ok (.getfield 11, 3) := by decide +kernel
theorem d_Plan_bootPartition_14 : decode b_Plan_bootPartition 14 = .ok (.iload_n 1, 1) := by decide +kernel
theorem d_Plan_bootPartition_15 : decode b_Plan_bootPartition 15 = .ok (.iaload, 1) := by decide +kernel
theorem d_Plan_bootPartition_16 : decode b_Plan_bootPartition 16 = .ok (.ifCond .ne 5, 3) := by decide +kernel
theorem d_Plan_bootPartition_19 : decode b_Plan_bootPartition 19 = .ok (.iload_n 1, 1) := by decide +kernel
theorem d_Plan_bootPartition_20 : decode b_Plan_bootPartition 20 = .ok (.ireturn, 1) := by decide +kernel
theorem d_Plan_bootPartition_21 : decode b_Plan_bootPartition 21 = .ok (.iinc 1 1, 3) := by decide +kernel
theorem d_Plan_bootPartition_24 : decode b_Plan_bootPartition 24 = .ok (.goto (-22), 3) := by decide +kernel
theorem d_Plan_bootPartition_27 : decode b_Plan_bootPartition 27 = .ok (.iconst (-1), 1) := by decide +kernel
theorem d_Plan_bootPartition_28 : decode b_Plan_bootPartition 28 = .ok (.ireturn, 1) := by decide +kernel
theorem d_Plan_isNameCharacter_0 : decode b_Plan_isNameCharacter 0 = .ok (.iload_n 0, 1) := by decide +kernel
theorem d_Plan_isNameCharacter_1 : decode b_Plan_isNameCharacter 1 = .ok (.bipush 65, 2) := by decide +kernel
theorem d_Plan_isNameCharacter_3 : decode b_Plan_isNameCharacter 3 = .ok (.if_icmp .lt 9, 3) := by decide +kernel
theorem d_Plan_isNameCharacter_6 : decode b_Plan_isNameCharacter 6 = .ok (.iload_n 0, 1) := by decide +kernel
theorem d_Plan_isNameCharacter_7 : decode b_Plan_isNameCharacter 7 = .ok (.bipush 90, 2) := by decide +kernel
theorem d_Plan_isNameCharacter_9 : decode b_Plan_isNameCharacter 9 = .ok (.if_icmp .le 21, 3) := by decide +kernel
theorem d_Plan_isNameCharacter_12 : decode b_Plan_isNameCharacter 12 = .ok (.iload_n 0, 1) := by decide +kernel
theorem d_Plan_isNameCharacter_13 : decode b_Plan_isNameCharacter 13 = .ok (.bipush 48, 2) := by decide +kernel
theorem d_Plan_isNameCharacter_15 : decode b_Plan_isNameCharacter 15 = .ok (.if_icmp .lt 9, 3) := by decide +kernel
theorem d_Plan_isNameCharacter_18 : decode b_Plan_isNameCharacter 18 = .ok (.iload_n 0, 1) := by decide +kernel
theorem d_Plan_isNameCharacter_19 : decode b_Plan_isNameCharacter 19 = .ok (.bipush 57, 2) := by decide +kernel
theorem d_Plan_isNameCharacter_21 : decode b_Plan_isNameCharacter 21 = .ok (.if_icmp .le 9, 3) := by decide +kernel
theorem d_Plan_isNameCharacter_24 : decode b_Plan_isNameCharacter 24 = .ok (.iload_n 0, 1) := by decide +kernel
theorem d_Plan_isNameCharacter_25 : decode b_Plan_isNameCharacter 25 = .ok (.bipush 95, 2) := by decide +kernel
theorem d_Plan_isNameCharacter_27 : decode b_Plan_isNameCharacter 27 = .ok (.if_icmp .ne 7, 3) := by decide +kernel
theorem d_Plan_isNameCharacter_30 : decode b_Plan_isNameCharacter 30 = .ok (.iconst 1, 1) := by decide +kernel
theorem d_Plan_isNameCharacter_31 : decode b_Plan_isNameCharacter 31 = .ok (.goto 4, 3) := by decide +kernel
theorem d_Plan_isNameCharacter_34 : decode b_Plan_isNameCharacter 34 = .ok (.iconst 0, 1) := by decide +kernel
theorem d_Plan_isNameCharacter_35 : decode b_Plan_isNameCharacter 35 = .ok (.ireturn, 1) := by decide +kernel
theorem d_Plan_nameIn_0 : decode b_Plan_nameIn 0 = .ok (.lconst 0, 1) := by decide +kernel
theorem d_Plan_nameIn_1 : decode b_Plan_nameIn 1 = .ok (.lstore_n 2, 1) := by decide +kernel
theorem d_Plan_nameIn_2 : decode b_Plan_nameIn 2 = .ok (.bipush 56, 2) := by decide +kernel
theorem d_Plan_nameIn_4 : decode b_Plan_nameIn 4 = .ok (.istore 4, 2) := by decide +kernel
theorem d_Plan_nameIn_6 : decode b_Plan_nameIn 6 = .ok (.iload 4, 2) := by decide +kernel
theorem d_Plan_nameIn_8 : decode b_Plan_nameIn 8 = .ok (.ifCond .lt 44, 3) := by decide +kernel
theorem d_Plan_nameIn_11 : decode b_Plan_nameIn 11 = .ok (.lload_n 0, 1) := by decide +kernel
theorem d_Plan_nameIn_12 : decode b_Plan_nameIn 12 = .ok (.iload 4, 2) := by decide +kernel
theorem d_Plan_nameIn_14 : decode b_Plan_nameIn 14 = .ok (.lushr, 1) := by decide +kernel
theorem d_Plan_nameIn_15 : decode b_Plan_nameIn 15 = .ok (.l2i, 1) := by decide +kernel
theorem d_Plan_nameIn_16 : decode b_Plan_nameIn 16 = .ok (.sipush 255, 3) := by decide +kernel
theorem d_Plan_nameIn_19 : decode b_Plan_nameIn 19 = .ok (.iand, 1) := by decide +kernel
theorem d_Plan_nameIn_20 : decode b_Plan_nameIn 20 = .ok (.istore 5, 2) := by decide +kernel
theorem d_Plan_nameIn_22 : decode b_Plan_nameIn 22 = .ok (.iload 5, 2) := by decide +kernel
theorem d_Plan_nameIn_24 : decode b_Plan_nameIn 24 = .ok (.ifCond .eq 22, 3) := by decide +kernel
theorem d_Plan_nameIn_27 : decode b_Plan_nameIn 27 = .ok (.iload 5, 2) := by decide +kernel
theorem d_Plan_nameIn_29 : decode b_Plan_nameIn 29 = .ok (.invokestatic 57, 3) := by decide +kernel
theorem d_Plan_nameIn_32 : decode b_Plan_nameIn 32 = .ok (.ifCond .ne 5, 3) := by decide +kernel
theorem d_Plan_nameIn_35 : decode b_Plan_nameIn 35 = .ok (.lconst 0, 1) := by decide +kernel
theorem d_Plan_nameIn_36 : decode b_Plan_nameIn 36 = .ok (.lreturn, 1) := by decide +kernel
theorem d_Plan_nameIn_37 : decode b_Plan_nameIn 37 = .ok (.lload_n 2, 1) := by decide +kernel
theorem d_Plan_nameIn_38 : decode b_Plan_nameIn 38 = .ok (.bipush 8, 2) := by decide +kernel
theorem d_Plan_nameIn_40 : decode b_Plan_nameIn 40 = .ok (.lshl, 1) := by decide +kernel
theorem d_Plan_nameIn_41 : decode b_Plan_nameIn 41 = .ok (.iload 5, 2) := by decide +kernel
theorem d_Plan_nameIn_43 : decode b_Plan_nameIn 43 = .ok (.i2l, 1) := by decide +kernel
theorem d_Plan_nameIn_44 : decode b_Plan_nameIn 44 = .ok (.lor, 1) := by decide +kernel
theorem d_Plan_nameIn_45 : decode b_Plan_nameIn 45 = .ok (.lstore_n 2, 1) := by decide +kernel
theorem d_Plan_nameIn_46 : decode b_Plan_nameIn 46 = .ok (.iinc 4 (-8), 3) := by decide +kernel
theorem d_Plan_nameIn_49 : decode b_Plan_nameIn 49 = .ok (.goto (-43), 3) := by decide +kernel
theorem d_Plan_nameIn_52 : decode b_Plan_nameIn 52 = .ok (.lload_n 2, 1) := by decide +kernel
theorem d_Plan_nameIn_53 : decode b_Plan_nameIn 53 = .ok (.lreturn, 1) := by decide +kernel
theorem d_Plan_fileNamed_0 : decode b_Plan_fileNamed 0 = .ok (.iconst 0, 1) := by decide +kernel
theorem d_Plan_fileNamed_1 : decode b_Plan_fileNamed 1 = .ok (.istore_n 3, 1) := by decide +kernel
theorem d_Plan_fileNamed_2 : decode b_Plan_fileNamed 2 = .ok (.iload_n 3, 1) := by decide +kernel
theorem d_Plan_fileNamed_3 : decode b_Plan_fileNamed 3 = .ok (.aload_n 0, 1) := by decide +kernel
theorem d_Plan_fileNamed_4 : decode b_Plan_fileNamed 4 = .ok (.getfield 54, 3) := by decide +kernel
theorem d_Plan_fileNamed_7 : decode b_Plan_fileNamed 7 = .ok (.if_icmp .ge 22, 3) := by decide +kernel
theorem d_Plan_fileNamed_10 : decode b_Plan_fileNamed 10 = .ok (.aload_n 0, 1) := by decide +kernel
theorem d_Plan_fileNamed_11 : decode b_Plan_fileNamed 11 = .ok (.getfield 21, 3) := by decide +kernel
theorem d_Plan_fileNamed_14 : decode b_Plan_fileNamed 14 = .ok (.iload_n 3, 1) := by decide +kernel
theorem d_Plan_fileNamed_15 : decode b_Plan_fileNamed 15 = .ok (.laload, 1) := by decide +kernel
theorem d_Plan_fileNamed_16 : decode b_Plan_fileNamed 16 = .ok (.lload_n 1, 1) := by decide +kernel
theorem d_Plan_fileNamed_17 : decode b_Plan_fileNamed 17 = .ok (.lcmp, 1) := by decide +kernel
theorem d_Plan_fileNamed_18 : decode b_Plan_fileNamed 18 = .ok (.ifCond .ne 5, 3) := by decide +kernel
theorem d_Plan_fileNamed_21 : decode b_Plan_fileNamed 21 = .ok (.iload_n 3, 1) := by decide +kernel
theorem d_Plan_fileNamed_22 : decode b_Plan_fileNamed 22 = .ok (.ireturn, 1) := by decide +kernel
theorem d_Plan_fileNamed_23 : decode b_Plan_fileNamed 23 = .ok (.iinc 3 1, 3) := by decide +kernel
theorem d_Plan_fileNamed_26 : decode b_Plan_fileNamed 26 = .ok (.goto (-24), 3) := by decide +kernel
theorem d_Plan_fileNamed_29 : decode b_Plan_fileNamed 29 = .ok (.iconst (-1), 1) := by decide +kernel
theorem d_Plan_fileNamed_30 : decode b_Plan_fileNamed 30 = .ok (.ireturn, 1) := by decide +kernel
theorem d_Plan_addFile_0 : decode b_Plan_addFile 0 = .ok (.lload_n 1, 1) := by decide +kernel
theorem d_Plan_addFile_1 : decode b_Plan_addFile 1 = .ok (.invokestatic 46, 3) := by decide +kernel
theorem d_Plan_addFile_4 : decode b_Plan_addFile 4 = .ok (.lstore 6, 2) := by decide +kernel
theorem d_Plan_addFile_6 : decode b_Plan_addFile 6 = .ok (.lload 6, 2) := by decide +kernel
theorem d_Plan_addFile_8 : decode b_Plan_addFile 8 = .ok (.lconst 0, 1) := by decide +kernel
theorem d_Plan_addFile_9 : decode b_Plan_addFile 9 = .ok (.lcmp, 1) := by decide +kernel
theorem d_Plan_addFile_10 : decode b_Plan_addFile 10 = .ok (.ifCond .eq 27, 3) := by decide +kernel
theorem d_Plan_addFile_13 : decode b_Plan_addFile 13 = .ok (.iload_n 3, 1) := by decide +kernel
theorem d_Plan_addFile_14 : decode b_Plan_addFile 14 = .ok (.ifCond .lt 23, 3) := by decide +kernel
theorem d_Plan_addFile_17 : decode b_Plan_addFile 17 = .ok (.iload_n 3, 1) := by decide +kernel
theorem d_Plan_addFile_18 : decode b_Plan_addFile 18 = .ok (.sipush 9000, 3) := by decide +kernel
theorem d_Plan_addFile_21 : decode b_Plan_addFile 21 = .ok (.if_icmp .gt 16, 3) := by decide +kernel
theorem d_Plan_addFile_24 : decode b_Plan_addFile 24 = .ok (.iload 4, 2) := by decide +kernel
theorem d_Plan_addFile_26 : decode b_Plan_addFile 26 = .ok (.ifCond .lt 11, 3) := by decide +kernel
theorem d_Plan_addFile_29 : decode b_Plan_addFile 29 = .ok (.iload 4, 2) := by decide +kernel
theorem d_Plan_addFile_31 : decode b_Plan_addFile 31 = .ok (.sipush 255, 3) := by decide +kernel
theorem d_Plan_addFile_34 : decode b_Plan_addFile 34 = .ok (.if_icmp .le 6, 3) := by decide +kernel
theorem d_Plan_addFile_37 : decode b_Plan_addFile 37 = .ok (.bipush (-2), 2) := by decide +kernel
theorem d_Plan_addFile_39 : decode b_Plan_addFile 39 = .ok (.ireturn, 1) := by decide +kernel
theorem d_Plan_addFile_40 : decode b_Plan_addFile 40 = .ok (.aload_n 0, 1) := by decide +kernel
theorem d_Plan_addFile_41 : decode b_Plan_addFile 41 = .ok (.lload 6, 2) := by decide +kernel
theorem d_Plan_addFile_43 : decode b_Plan_addFile 43 = .ok (.invokevirtual 50, 3) := by decide +kernel
theorem d_Plan_addFile_46 : decode b_Plan_addFile 46 = .ok (.iconst (-1), 1) := by decide +kernel
theorem d_Plan_addFile_47 : decode b_Plan_addFile 47 = .ok (.if_icmp .eq 6, 3) := by decide +kernel
theorem d_Plan_addFile_50 : decode b_Plan_addFile 50 = .ok (.bipush (-4), 2) := by decide +kernel
theorem d_Plan_addFile_52 : decode b_Plan_addFile 52 = .ok (.ireturn, 1) := by decide +kernel
theorem d_Plan_addFile_53 : decode b_Plan_addFile 53 = .ok (.aload_n 0, 1) := by decide +kernel
theorem d_Plan_addFile_54 : decode b_Plan_addFile 54 = .ok (.getfield 54, 3) := by decide +kernel
theorem d_Plan_addFile_57 : decode b_Plan_addFile 57 = .ok (.bipush 12, 2) := by decide +kernel
theorem d_Plan_addFile_59 : decode b_Plan_addFile 59 = .ok (.if_icmp .lt 6, 3) := by decide +kernel
theorem d_Plan_addFile_62 : decode b_Plan_addFile 62 = .ok (.bipush (-3), 2) := by decide +kernel
theorem d_Plan_addFile_64 : decode b_Plan_addFile 64 = .ok (.ireturn, 1) := by decide +kernel
theorem d_Plan_addFile_65 : decode b_Plan_addFile 65 = .ok (.aload_n 0, 1) := by decide +kernel
theorem d_Plan_addFile_66 : decode b_Plan_addFile 66 = .ok (.getfield 21, 3) := by decide +kernel
theorem d_Plan_addFile_69 : decode b_Plan_addFile 69 = .ok (.aload_n 0, 1) := by decide +kernel
theorem d_Plan_addFile_70 : decode b_Plan_addFile 70 = .ok (.getfield 54, 3) := by decide +kernel
theorem d_Plan_addFile_73 : decode b_Plan_addFile 73 = .ok (.lload 6, 2) := by decide +kernel
theorem d_Plan_addFile_75 : decode b_Plan_addFile 75 = .ok (.lastore, 1) := by decide +kernel
theorem d_Plan_addFile_76 : decode b_Plan_addFile 76 = .ok (.aload_n 0, 1) := by decide +kernel
theorem d_Plan_addFile_77 : decode b_Plan_addFile 77 = .ok (.getfield 25, 3) := by decide +kernel
theorem d_Plan_addFile_80 : decode b_Plan_addFile 80 = .ok (.aload_n 0, 1) := by decide +kernel
theorem d_Plan_addFile_81 : decode b_Plan_addFile 81 = .ok (.getfield 54, 3) := by decide +kernel
theorem d_Plan_addFile_84 : decode b_Plan_addFile 84 = .ok (.iload_n 3, 1) := by decide +kernel
theorem d_Plan_addFile_85 : decode b_Plan_addFile 85 = .ok (.iastore, 1) := by decide +kernel
theorem d_Plan_addFile_86 : decode b_Plan_addFile 86 = .ok (.aload_n 0, 1) := by decide +kernel
theorem d_Plan_addFile_87 : decode b_Plan_addFile 87 = .ok (.getfield 28, 3) := by decide +kernel
theorem d_Plan_addFile_90 : decode b_Plan_addFile 90 = .ok (.aload_n 0, 1) := by decide +kernel
theorem d_Plan_addFile_91 : decode b_Plan_addFile 91 = .ok (.getfield 54, 3) := by decide +kernel
theorem d_Plan_addFile_94 : decode b_Plan_addFile 94 = .ok (.iload 4, 2) := by decide +kernel
theorem d_Plan_addFile_96 : decode b_Plan_addFile 96 = .ok (.iastore, 1) := by decide +kernel
theorem d_Plan_addFile_97 : decode b_Plan_addFile 97 = .ok (.aload_n 0, 1) := by decide +kernel
theorem d_Plan_addFile_98 : decode b_Plan_addFile 98 = .ok (.getfield 31, 3) := by decide +kernel
theorem d_Plan_addFile_101 : decode b_Plan_addFile 101 = .ok (.aload_n 0, 1) := by decide +kernel
theorem d_Plan_addFile_102 : decode b_Plan_addFile 102 = .ok (.getfield 54, 3) := by decide +kernel
theorem d_Plan_addFile_105 : decode b_Plan_addFile 105 = .ok (.iload 5, 2) := by decide +kernel
theorem d_Plan_addFile_107 : decode b_Plan_addFile 107 = .ok (.bastore, 1) := by decide +kernel
theorem d_Plan_addFile_108 : decode b_Plan_addFile 108 = .ok (.aload_n 0, 1) := by decide +kernel
theorem d_Plan_addFile_109 : decode b_Plan_addFile 109 = .ok (.dup, 1) := by decide +kernel
theorem d_Plan_addFile_110 : decode b_Plan_addFile 110 = .ok (.getfield 54, 3) := by decide +kernel
theorem d_Plan_addFile_113 : decode b_Plan_addFile 113 = .ok (.dup_x1, 1) := by decide +kernel
theorem d_Plan_addFile_114 : decode b_Plan_addFile 114 = .ok (.iconst 1, 1) := by decide +kernel
theorem d_Plan_addFile_115 : decode b_Plan_addFile 115 = .ok (.iadd, 1) := by decide +kernel
theorem d_Plan_addFile_116 : decode b_Plan_addFile 116 = .ok (.putfield 54, 3) := by decide +kernel
theorem d_Plan_addFile_119 : decode b_Plan_addFile 119 = .ok (.ireturn, 1) := by decide +kernel
theorem d_Plan_headByte_0 : decode b_Plan_headByte 0 = .ok (.iload_n 2, 1) := by decide +kernel
theorem d_Plan_headByte_1 : decode b_Plan_headByte 1 = .ok (.ifCond .lt 19, 3) := by decide +kernel
theorem d_Plan_headByte_4 : decode b_Plan_headByte 4 = .ok (.iload_n 2, 1) := by decide +kernel
theorem d_Plan_headByte_5 : decode b_Plan_headByte 5 = .ok (.aload_n 0, 1) := by decide +kernel
theorem d_Plan_headByte_6 : decode b_Plan_headByte 6 = .ok (.invokevirtual 76, 3) := by decide +kernel
theorem d_Plan_headByte_9 : decode b_Plan_headByte 9 = .ok (.if_icmp .ge 11, 3) := by decide +kernel
theorem d_Plan_headByte_12 : decode b_Plan_headByte 12 = .ok (.aload_n 0, 1) := by decide +kernel
theorem d_Plan_headByte_13 : decode b_Plan_headByte 13 = .ok (.iload_n 2, 1) := by decide +kernel
theorem d_Plan_headByte_14 : decode b_Plan_headByte 14 = .ok (.invokevirtual 81, 3) := by decide +kernel
theorem d_Plan_headByte_17 : decode b_Plan_headByte 17 = .ok (.goto 15, 3) := by decide +kernel
theorem d_Plan_headByte_20 : decode b_Plan_headByte 20 = .ok (.iload_n 1, 1) := by decide +kernel
theorem d_Plan_headByte_21 : decode b_Plan_headByte 21 = .ok (.bipush 8, 2) := by decide +kernel
theorem d_Plan_headByte_23 : decode b_Plan_headByte 23 = .ok (.iload_n 2, 1) := by decide +kernel
theorem d_Plan_headByte_24 : decode b_Plan_headByte 24 = .ok (.iconst 4, 1) := by decide +kernel
theorem d_Plan_headByte_25 : decode b_Plan_headByte 25 = .ok (.isub, 1) := by decide +kernel
theorem d_Plan_headByte_26 : decode b_Plan_headByte 26 = .ok (.imul, 1) := by decide +kernel
theorem d_Plan_headByte_27 : decode b_Plan_headByte 27 = .ok (.iushr, 1) := by decide +kernel
theorem d_Plan_headByte_28 : decode b_Plan_headByte 28 = .ok (.sipush 255, 3) := by decide +kernel
theorem d_Plan_headByte_31 : decode b_Plan_headByte 31 = .ok (.iand, 1) := by decide +kernel
theorem d_Plan_headByte_32 : decode b_Plan_headByte 32 = .ok (.ireturn, 1) := by decide +kernel
theorem d_Plan_fileByte_0 : decode b_Plan_fileByte 0 = .ok (.iload_n 2, 1) := by decide +kernel
theorem d_Plan_fileByte_1 : decode b_Plan_fileByte 1 = .ok (.bipush 8, 2) := by decide +kernel
theorem d_Plan_fileByte_3 : decode b_Plan_fileByte 3 = .ok (.if_icmp .ge 59, 3) := by decide +kernel
theorem d_Plan_fileByte_6 : decode b_Plan_fileByte 6 = .ok (.aload_n 0, 1) := by decide +kernel
theorem d_Plan_fileByte_7 : decode b_Plan_fileByte 7 = .ok (.getfield 25, 3) := by decide +kernel
theorem d_Plan_fileByte_10 : decode b_Plan_fileByte 10 = .ok (.iload_n 1, 1) := by decide +kernel
theorem d_Plan_fileByte_11 : decode b_Plan_fileByte 11 = .ok (.iaload, 1) := by decide +kernel
theorem d_Plan_fileByte_12 : decode b_Plan_fileByte 12 = .ok (.bipush 8, 2) := by decide +kernel
theorem d_Plan_fileByte_14 : decode b_Plan_fileByte 14 = .ok (.if_icmp .lt 48, 3) := by decide +kernel
theorem d_Plan_fileByte_17 : decode b_Plan_fileByte 17 = .ok (.aload_n 0, 1) := by decide +kernel
theorem d_Plan_fileByte_18 : decode b_Plan_fileByte 18 = .ok (.getfield 21, 3) := by decide +kernel
theorem d_Plan_fileByte_21 : decode b_Plan_fileByte 21 = .ok (.iload_n 1, 1) := by decide +kernel
theorem d_Plan_fileByte_22 : decode b_Plan_fileByte 22 = .ok (.laload, 1) := by decide +kernel
theorem d_Plan_fileByte_23 : decode b_Plan_fileByte 23 = .ok (.ldc2_w 61, 3) := by decide +kernel
theorem d_Plan_fileByte_26 : decode b_Plan_fileByte 26 = .ok (.lcmp, 1) := by decide +kernel
theorem d_Plan_fileByte_27 : decode b_Plan_fileByte 27 = .ok (.ifCond .ne 14, 3) := by decide +kernel
theorem d_Plan_fileByte_30 : decode b_Plan_fileByte 30 = .ok (.ldc 63, 2) := by decide +kernel
theorem d_Plan_fileByte_32 : decode b_Plan_fileByte 32 = .ok (.aload_n 0, 1) := by decide +kernel
theorem d_Plan_fileByte_33 : decode b_Plan_fileByte 33 = .ok (.getfield 65, 3) := by decide +kernel
theorem d_Plan_fileByte_36 : decode b_Plan_fileByte 36 = .ok (.iload_n 2, 1) := by decide +kernel
theorem d_Plan_fileByte_37 : decode b_Plan_fileByte 37 = .ok (.invokestatic 68, 3) := by decide +kernel
theorem d_Plan_fileByte_40 : decode b_Plan_fileByte 40 = .ok (.ireturn, 1) := by decide +kernel
theorem d_Plan_fileByte_41 : decode b_Plan_fileByte 41 = .ok (.aload_n 0, 1) := by decide +kernel
theorem d_Plan_fileByte_42 : decode b_Plan_fileByte 42 = .ok (.getfield 21, 3) := by decide +kernel
theorem d_Plan_fileByte_45 : decode b_Plan_fileByte 45 = .ok (.iload_n 1, 1) := by decide +kernel
theorem d_Plan_fileByte_46 : decode b_Plan_fileByte 46 = .ok (.laload, 1) := by decide +kernel
theorem d_Plan_fileByte_47 : decode b_Plan_fileByte 47 = .ok (.ldc2_w 72, 3) := by decide +kernel
theorem d_Plan_fileByte_50 : decode b_Plan_fileByte 50 = .ok (.lcmp, 1) := by decide +kernel
theorem d_Plan_fileByte_51 : decode b_Plan_fileByte 51 = .ok (.ifCond .ne 11, 3) := by decide +kernel
theorem d_Plan_fileByte_54 : decode b_Plan_fileByte 54 = .ok (.ldc 74, 2) := by decide +kernel
theorem d_Plan_fileByte_56 : decode b_Plan_fileByte 56 = .ok (.iload_n 3, 1) := by decide +kernel
theorem d_Plan_fileByte_57 : decode b_Plan_fileByte 57 = .ok (.iload_n 2, 1) := by decide +kernel
theorem d_Plan_fileByte_58 : decode b_Plan_fileByte 58 = .ok (.invokestatic 68, 3) := by decide +kernel
theorem d_Plan_fileByte_61 : decode b_Plan_fileByte 61 = .ok (.ireturn, 1) := by decide +kernel
theorem d_Plan_fileByte_62 : decode b_Plan_fileByte 62 = .ok (.aload_n 0, 1) := by decide +kernel
theorem d_Plan_fileByte_63 : decode b_Plan_fileByte 63 = .ok (.getfield 28, 3) := by decide +kernel
theorem d_Plan_fileByte_66 : decode b_Plan_fileByte 66 = .ok (.iload_n 1, 1) := by decide +kernel
theorem d_Plan_fileByte_67 : decode b_Plan_fileByte 67 = .ok (.iaload, 1) := by decide +kernel
theorem d_Plan_fileByte_68 : decode b_Plan_fileByte 68 = .ok (.bipush 7, 2) := by decide +kernel
theorem d_Plan_fileByte_70 : decode b_Plan_fileByte 70 = .ok (.iload_n 2, 1) := by decide +kernel
theorem d_Plan_fileByte_71 : decode b_Plan_fileByte 71 = .ok (.imul, 1) := by decide +kernel
theorem d_Plan_fileByte_72 : decode b_Plan_fileByte 72 = .ok (.iadd, 1) := by decide +kernel
theorem d_Plan_fileByte_73 : decode b_Plan_fileByte 73 = .ok (.iload_n 2, 1) := by decide +kernel
theorem d_Plan_fileByte_74 : decode b_Plan_fileByte 74 = .ok (.sipush 200, 3) := by decide +kernel
theorem d_Plan_fileByte_77 : decode b_Plan_fileByte 77 = .ok (.idiv, 1) := by decide +kernel
theorem d_Plan_fileByte_78 : decode b_Plan_fileByte 78 = .ok (.iadd, 1) := by decide +kernel
theorem d_Plan_fileByte_79 : decode b_Plan_fileByte 79 = .ok (.sipush 255, 3) := by decide +kernel
theorem d_Plan_fileByte_82 : decode b_Plan_fileByte 82 = .ok (.iand, 1) := by decide +kernel
theorem d_Plan_fileByte_83 : decode b_Plan_fileByte 83 = .ok (.ireturn, 1) := by decide +kernel
set_option maxRecDepth 100000 in
theorem fg_Plan_39 : FlG Wall classes R_Plan 39 2 4 := ⟨_, _, _, rfl, by decide, in_Plan, inW 71 rfl rfl⟩
set_option maxRecDepth 100000 in
theorem fg_Plan_15 : FlG Wall classes R_Plan 15 2 2 := ⟨_, _, _, rfl, by decide, in_Plan, inW 67 rfl rfl⟩
set_option maxRecDepth 100000 in
theorem fg_Plan_18 : FlG Wall classes R_Plan 18 2 3 := ⟨_, _, _, rfl, by decide, in_Plan, inW 69 rfl rfl⟩
set_option maxRecDepth 100000 in
theorem fp_Plan_39 : FlP Wall classes R_Plan 39 2 4 .int := ⟨_, _, _, t_Plan, rfl, by decide, in_Plan, inW 71 rfl rfl, t_Plan_ok, n_Plan, rfl, by decide +kernel⟩
set_option maxRecDepth 100000 in
theorem fc_Plan_42 : FcV Wall classes R_Plan 42 2 y_Plan_nextStart b_Plan_nextStart 2 (some .int) ws_Plan_nextStart 0 := ⟨⟨rfl, cw_Plan_nextStart, inW 248 rfl rfl, in_i_Plan, by decide +kernel⟩, inW 250 rfl rfl, inP 0 rfl rfl, _, _, rfl⟩
set_option maxRecDepth 100000 in
theorem fg_Plan_35 : FlG Wall classes R_Plan 35 2 0 := ⟨_, _, _, rfl, by decide, in_Plan, inW 63 rfl rfl⟩
set_option maxRecDepth 100000 in
theorem fg_Plan_11 : FlG Wall classes R_Plan 11 2 1 := ⟨_, _, _, rfl, by decide, in_Plan, inW 65 rfl rfl⟩
set_option maxRecDepth 100000 in
theorem fc_Plan_57 : FcS Wall R_Plan 57 y_Plan_isNameCharacter b_Plan_isNameCharacter 1 (some .boolean) ws_Plan_isNameCharacter 1 := ⟨⟨rfl, cw_Plan_isNameCharacter, inW 271 rfl rfl, in_i_Plan, by decide +kernel⟩, inW 272 rfl rfl⟩
set_option maxRecDepth 100000 in
theorem fg_Plan_54 : FlG Wall classes R_Plan 54 2 9 := ⟨_, _, _, rfl, by decide, in_Plan, inW 82 rfl rfl⟩
set_option maxRecDepth 100000 in
theorem fg_Plan_21 : FlG Wall classes R_Plan 21 2 5 := ⟨_, _, _, rfl, by decide, in_Plan, inW 73 rfl rfl⟩
set_option maxRecDepth 100000 in
theorem fp_Plan_54 : FlP Wall classes R_Plan 54 2 9 .int := ⟨_, _, _, t_Plan, rfl, by decide, in_Plan, inW 82 rfl rfl, t_Plan_ok, n_Plan, rfl, by decide +kernel⟩
set_option maxRecDepth 100000 in
theorem fc_Plan_46 : FcS Wall R_Plan 46 y_Plan_nameIn b_Plan_nameIn 6 (some .long) ws_Plan_nameIn 1 := ⟨⟨rfl, cw_Plan_nameIn, inW 268 rfl rfl, in_i_Plan, by decide +kernel⟩, inW 269 rfl rfl⟩
set_option maxRecDepth 100000 in
theorem fc_Plan_50 : FcV Wall classes R_Plan 50 2 y_Plan_fileNamed b_Plan_fileNamed 4 (some .int) ws_Plan_fileNamed 1 := ⟨⟨rfl, cw_Plan_fileNamed, inW 274 rfl rfl, in_i_Plan, by decide +kernel⟩, inW 275 rfl rfl, inW 276 rfl rfl, _, _, rfl⟩
set_option maxRecDepth 100000 in
theorem fg_Plan_25 : FlG Wall classes R_Plan 25 2 6 := ⟨_, _, _, rfl, by decide, in_Plan, inW 75 rfl rfl⟩
set_option maxRecDepth 100000 in
theorem fg_Plan_28 : FlG Wall classes R_Plan 28 2 7 := ⟨_, _, _, rfl, by decide, in_Plan, inW 78 rfl rfl⟩
set_option maxRecDepth 100000 in
theorem fg_Plan_31 : FlG Wall classes R_Plan 31 2 8 := ⟨_, _, _, rfl, by decide, in_Plan, inW 79 rfl rfl⟩
set_option maxRecDepth 100000 in
theorem fc_Plan_76 : FcO Wall R_Plan 76 y_String_length b_String_length 1 (some .int) ws_String_length 0 := ⟨⟨rfl, cw_String_length, inW 395 rfl rfl, in_i_String, by decide +kernel⟩, inW 396 rfl rfl, inW 397 rfl rfl⟩
set_option maxRecDepth 100000 in
theorem fc_Plan_81 : FcO Wall R_Plan 81 y_String_charAt b_String_charAt 2 (some .char) ws_String_charAt 1 := ⟨⟨rfl, cw_String_charAt, inW 405 rfl rfl, in_i_String, by decide +kernel⟩, inW 406 rfl rfl, inW 407 rfl rfl⟩
set_option maxRecDepth 100000 in
theorem kc_Plan_61 : Cond.constantLong R_Plan 61 82761105687884 ∈ Wall := inW 390 rfl rfl
set_option maxRecDepth 100000 in
theorem kc_Plan_72 : Cond.constantLong R_Plan 72 83903281120594 ∈ Wall := inW 443 rfl rfl
set_option maxRecDepth 100000 in
theorem fc_Plan_68 : FcS Wall R_Plan 68 y_Plan_headByte b_Plan_headByte 3 (some .int) ws_Plan_headByte 3 := ⟨⟨rfl, cw_Plan_headByte, inW 392 rfl rfl, in_i_Plan, by decide +kernel⟩, inW 393 rfl rfl⟩
set_option maxRecDepth 100000 in
theorem fg_Plan_65 : FlG Wall classes R_Plan 65 2 10 := ⟨_, _, _, rfl, by decide, in_Plan, inW 85 rfl rfl⟩
