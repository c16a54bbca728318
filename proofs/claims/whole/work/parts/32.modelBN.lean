abbrev b_Model_bootPartition : ByteArray := prog_9_method_21_code
def y_Model_bootPartition : MethodName := ⟨"BootMakerModel", "bootPartition", "()I"⟩
def ws_Model_bootPartition : List Cond := Cond.code y_Model_bootPartition b_Model_bootPartition 2 (some .int) :: Wall
set_option maxRecDepth 100000 in
theorem cw_Model_bootPartition : Cond.code y_Model_bootPartition b_Model_bootPartition 2 (some .int) ∈ Wall := inW 921 rfl rfl
abbrev b_Model_tableOf : ByteArray := prog_9_method_22_code
def y_Model_tableOf : MethodName := ⟨"BootMakerModel", "tableOf", "(I)I"⟩
def ws_Model_tableOf : List Cond := Cond.code y_Model_tableOf b_Model_tableOf 2 (some .int) :: Wall
set_option maxRecDepth 100000 in
theorem cw_Model_tableOf : Cond.code y_Model_tableOf b_Model_tableOf 2 (some .int) ∈ Wall := inW 924 rfl rfl
abbrev b_Model_needs : ByteArray := prog_9_method_23_code
def y_Model_needs : MethodName := ⟨"BootMakerModel", "needs", "(I)I"⟩
def ws_Model_needs : List Cond := Cond.code y_Model_needs b_Model_needs 1 (some .int) :: Wall
set_option maxRecDepth 100000 in
theorem cw_Model_needs : Cond.code y_Model_needs b_Model_needs 1 (some .int) ∈ Wall := inW 931 rfl rfl
abbrev b_Model_lowestFree : ByteArray := prog_9_method_24_code
def y_Model_lowestFree : MethodName := ⟨"BootMakerModel", "lowestFree", "(I)I"⟩
def ws_Model_lowestFree : List Cond := Cond.code y_Model_lowestFree b_Model_lowestFree 3 (some .int) :: Wall
set_option maxRecDepth 100000 in
theorem cw_Model_lowestFree : Cond.code y_Model_lowestFree b_Model_lowestFree 3 (some .int) ∈ Wall := inW 935 rfl rfl
abbrev b_Model_given : ByteArray := prog_9_method_25_code
def y_Model_given : MethodName := ⟨"BootMakerModel", "given", "()Z"⟩
def ws_Model_given : List Cond := Cond.code y_Model_given b_Model_given 6 (some .boolean) :: Wall
set_option maxRecDepth 100000 in
theorem cw_Model_given : Cond.code y_Model_given b_Model_given 6 (some .boolean) ∈ Wall := inW 928 rfl rfl
abbrev b_Model_sectorOf : ByteArray := prog_9_method_26_code
def y_Model_sectorOf : MethodName := ⟨"BootMakerModel", "sectorOf", "(II)I"⟩
def ws_Model_sectorOf : List Cond := Cond.code y_Model_sectorOf b_Model_sectorOf 5 (some .int) :: Wall
set_option maxRecDepth 100000 in
theorem cw_Model_sectorOf : Cond.code y_Model_sectorOf b_Model_sectorOf 5 (some .int) ∈ Wall := inW 947 rfl rfl
abbrev b_Model_runs : ByteArray := prog_9_method_27_code
def y_Model_runs : MethodName := ⟨"BootMakerModel", "runs", "(I)I"⟩
def ws_Model_runs : List Cond := Cond.code y_Model_runs b_Model_runs 4 (some .int) :: Wall
set_option maxRecDepth 100000 in
theorem cw_Model_runs : Cond.code y_Model_runs b_Model_runs 4 (some .int) ∈ Wall := inW 943 rfl rfl
abbrev b_Model_byteOf : ByteArray := prog_9_method_28_code
def y_Model_byteOf : MethodName := ⟨"BootMakerModel", "byteOf", "(II)I"⟩
def ws_Model_byteOf : List Cond := Cond.code y_Model_byteOf b_Model_byteOf 4 (some .int) :: Wall
set_option maxRecDepth 100000 in
theorem cw_Model_byteOf : Cond.code y_Model_byteOf b_Model_byteOf 4 (some .int) ∈ Wall := inW 974 rfl rfl
abbrev b_Model_word : ByteArray := prog_9_method_30_code
def y_Model_word : MethodName := ⟨"BootMakerModel", "word", "(IIIII)V"⟩
def ws_Model_word : List Cond := Cond.code y_Model_word b_Model_word 6 (none) :: Wall
set_option maxRecDepth 100000 in
theorem cw_Model_word : Cond.code y_Model_word b_Model_word 6 (none) ∈ Wall := inW 990 rfl rfl
abbrev b_Model_entry : ByteArray := prog_9_method_34_code
def y_Model_entry : MethodName := ⟨"BootMakerModel", "entry", "(III)V"⟩
def ws_Model_entry : List Cond := Cond.code y_Model_entry b_Model_entry 6 (none) :: Wall
set_option maxRecDepth 100000 in
theorem cw_Model_entry : Cond.code y_Model_entry b_Model_entry 6 (none) ∈ Wall := inW 968 rfl rfl
abbrev b_Model_text : ByteArray := prog_9_method_35_code
def y_Model_text : MethodName := ⟨"BootMakerModel", "text", "(IIJI)V"⟩
def ws_Model_text : List Cond := Cond.code y_Model_text b_Model_text 8 (none) :: Wall
set_option maxRecDepth 100000 in
theorem cw_Model_text : Cond.code y_Model_text b_Model_text 8 (none) ∈ Wall := inW 956 rfl rfl
abbrev b_Model_sixteen : ByteArray := prog_9_method_32_code
def y_Model_sixteen : MethodName := ⟨"BootMakerModel", "sixteen", "(II)I"⟩
def ws_Model_sixteen : List Cond := Cond.code y_Model_sixteen b_Model_sixteen 6 (some .int) :: Wall
set_option maxRecDepth 100000 in
theorem cw_Model_sixteen : Cond.code y_Model_sixteen b_Model_sixteen 6 (some .int) ∈ Wall := inW 997 rfl rfl
theorem d_Model_bootPartition_0 : decode b_Model_bootPartition 0 = .ok (.iconst 0, 1) := by decide +kernel
theorem d_Model_bootPartition_1 : decode b_Model_bootPartition 1 = .ok (.istore_n 1, 1) := by decide +kernel
theorem d_Model_bootPartition_2 : decode b_Model_bootPartition 2 = .ok (.iload_n 1, 1) := by decide +kernel
theorem d_Model_bootPartition_3 : decode b_Model_bootPartition 3 = .ok (.aload_n 0, 1) := by decide +kernel
theorem d_Model_bootPartition_4 : decode b_Model_bootPartition 4 = .ok (.getfield 82, 3) := by decide +kernel
theorem d_Model_bootPartition_7 : decode b_Model_bootPartition 7 = .ok (.if_icmp .ge 20, 3) := by decide +kernel
theorem d_Model_bootPartition_10 : decode b_Model_bootPartition 10 = .ok (.aload_n 0, 1) := by decide +kernel
theorem d_Model_bootPartition_11 : decode b_Model_bootPartition 11 = .ok (.getfield 14, 3) := by decide +kernel
theorem d_Model_bootPartition_14 : decode b_Model_bootPartition 14 = .ok (.iload_n 1, 1) := by decide +kernel
theorem d_Model_bootPartition_15 : decode b_Model_bootPartition 15 = .ok (.iaload, 1) := by decide +kernel
theorem d_Model_bootPartition_16 : decode b_Model_bootPartition 16 = .ok (.ifCond .ne 5, 3) := by decide +kernel
theorem d_Model_bootPartition_19 : decode b_Model_bootPartition 19 = .ok (.iload_n 1, 1) := by decide +kernel
theorem d_Model_bootPartition_20 : decode b_Model_bootPartition 20 = .ok (.ireturn, 1) := by decide +kernel
theorem d_Model_bootPartition_21 : decode b_Model_bootPartition 21 = .ok (.iinc 1 1, 3) := by decide +kernel
theorem d_Model_bootPartition_24 : decode b_Model_bootPartition 24 = .ok (.goto (-22), 3) := by decide +kernel
theorem d_Model_bootPartition_27 : decode b_Model_bootPartition 27 = .ok (.iconst (-1), 1) := by decide +kernel
theorem d_Model_bootPartition_28 : decode b_Model_bootPartition 28 = .ok (.ireturn, 1) := by decide +kernel
theorem d_Model_tableOf_0 : decode b_Model_tableOf 0 = .ok (.iconst 1, 1) := by decide +kernel
theorem d_Model_tableOf_1 : decode b_Model_tableOf 1 = .ok (.istore_n 1, 1) := by decide +kernel
theorem d_Model_tableOf_2 : decode b_Model_tableOf 2 = .ok (.iload_n 0, 1) := by decide +kernel
theorem d_Model_tableOf_3 : decode b_Model_tableOf 3 = .ok (.iconst 3, 1) := by decide +kernel
theorem d_Model_tableOf_4 : decode b_Model_tableOf 4 = .ok (.isub, 1) := by decide +kernel
theorem d_Model_tableOf_5 : decode b_Model_tableOf 5 = .ok (.iconst 2, 1) := by decide +kernel
theorem d_Model_tableOf_6 : decode b_Model_tableOf 6 = .ok (.iload_n 1, 1) := by decide +kernel
theorem d_Model_tableOf_7 : decode b_Model_tableOf 7 = .ok (.imul, 1) := by decide +kernel
theorem d_Model_tableOf_8 : decode b_Model_tableOf 8 = .ok (.isub, 1) := by decide +kernel
theorem d_Model_tableOf_9 : decode b_Model_tableOf 9 = .ok (.iconst 2, 1) := by decide +kernel
theorem d_Model_tableOf_10 : decode b_Model_tableOf 10 = .ok (.iadd, 1) := by decide +kernel
theorem d_Model_tableOf_11 : decode b_Model_tableOf 11 = .ok (.iconst 3, 1) := by decide +kernel
theorem d_Model_tableOf_12 : decode b_Model_tableOf 12 = .ok (.imul, 1) := by decide +kernel
theorem d_Model_tableOf_13 : decode b_Model_tableOf 13 = .ok (.iconst 1, 1) := by decide +kernel
theorem d_Model_tableOf_14 : decode b_Model_tableOf 14 = .ok (.iadd, 1) := by decide +kernel
theorem d_Model_tableOf_15 : decode b_Model_tableOf 15 = .ok (.iconst 2, 1) := by decide +kernel
theorem d_Model_tableOf_16 : decode b_Model_tableOf 16 = .ok (.idiv, 1) := by decide +kernel
theorem d_Model_tableOf_17 : decode b_Model_tableOf 17 = .ok (.sipush 512, 3) := by decide +kernel
theorem d_Model_tableOf_20 : decode b_Model_tableOf 20 = .ok (.iload_n 1, 1) := by decide +kernel
theorem d_Model_tableOf_21 : decode b_Model_tableOf 21 = .ok (.imul, 1) := by decide +kernel
theorem d_Model_tableOf_22 : decode b_Model_tableOf 22 = .ok (.if_icmp .le 9, 3) := by decide +kernel
theorem d_Model_tableOf_25 : decode b_Model_tableOf 25 = .ok (.iinc 1 1, 3) := by decide +kernel
theorem d_Model_tableOf_28 : decode b_Model_tableOf 28 = .ok (.goto (-26), 3) := by decide +kernel
theorem d_Model_tableOf_31 : decode b_Model_tableOf 31 = .ok (.iload_n 1, 1) := by decide +kernel
theorem d_Model_tableOf_32 : decode b_Model_tableOf 32 = .ok (.ireturn, 1) := by decide +kernel
theorem d_Model_needs_0 : decode b_Model_needs 0 = .ok (.iload_n 0, 1) := by decide +kernel
theorem d_Model_needs_1 : decode b_Model_needs 1 = .ok (.sipush 511, 3) := by decide +kernel
theorem d_Model_needs_4 : decode b_Model_needs 4 = .ok (.iadd, 1) := by decide +kernel
theorem d_Model_needs_5 : decode b_Model_needs 5 = .ok (.sipush 512, 3) := by decide +kernel
theorem d_Model_needs_8 : decode b_Model_needs 8 = .ok (.idiv, 1) := by decide +kernel
theorem d_Model_needs_9 : decode b_Model_needs 9 = .ok (.ireturn, 1) := by decide +kernel
theorem d_Model_lowestFree_0 : decode b_Model_lowestFree 0 = .ok (.iload_n 1, 1) := by decide +kernel
theorem d_Model_lowestFree_1 : decode b_Model_lowestFree 1 = .ok (.istore_n 2, 1) := by decide +kernel
theorem d_Model_lowestFree_2 : decode b_Model_lowestFree 2 = .ok (.iload_n 2, 1) := by decide +kernel
theorem d_Model_lowestFree_3 : decode b_Model_lowestFree 3 = .ok (.aload_n 0, 1) := by decide +kernel
theorem d_Model_lowestFree_4 : decode b_Model_lowestFree 4 = .ok (.getfield 109, 3) := by decide +kernel
theorem d_Model_lowestFree_7 : decode b_Model_lowestFree 7 = .ok (.iconst 2, 1) := by decide +kernel
theorem d_Model_lowestFree_8 : decode b_Model_lowestFree 8 = .ok (.iadd, 1) := by decide +kernel
theorem d_Model_lowestFree_9 : decode b_Model_lowestFree 9 = .ok (.if_icmp .ge 20, 3) := by decide +kernel
theorem d_Model_lowestFree_12 : decode b_Model_lowestFree 12 = .ok (.aload_n 0, 1) := by decide +kernel
theorem d_Model_lowestFree_13 : decode b_Model_lowestFree 13 = .ok (.getfield 41, 3) := by decide +kernel
theorem d_Model_lowestFree_16 : decode b_Model_lowestFree 16 = .ok (.iload_n 2, 1) := by decide +kernel
theorem d_Model_lowestFree_17 : decode b_Model_lowestFree 17 = .ok (.iaload, 1) := by decide +kernel
theorem d_Model_lowestFree_18 : decode b_Model_lowestFree 18 = .ok (.ifCond .ne 5, 3) := by decide +kernel
theorem d_Model_lowestFree_21 : decode b_Model_lowestFree 21 = .ok (.iload_n 2, 1) := by decide +kernel
theorem d_Model_lowestFree_22 : decode b_Model_lowestFree 22 = .ok (.ireturn, 1) := by decide +kernel
theorem d_Model_lowestFree_23 : decode b_Model_lowestFree 23 = .ok (.iinc 2 1, 3) := by decide +kernel
theorem d_Model_lowestFree_26 : decode b_Model_lowestFree 26 = .ok (.goto (-24), 3) := by decide +kernel
theorem d_Model_lowestFree_29 : decode b_Model_lowestFree 29 = .ok (.iconst (-1), 1) := by decide +kernel
theorem d_Model_lowestFree_30 : decode b_Model_lowestFree 30 = .ok (.ireturn, 1) := by decide +kernel
theorem d_Model_given_0 : decode b_Model_given 0 = .ok (.iconst 0, 1) := by decide +kernel
theorem d_Model_given_1 : decode b_Model_given 1 = .ok (.istore_n 1, 1) := by decide +kernel
theorem d_Model_given_2 : decode b_Model_given 2 = .ok (.iload_n 1, 1) := by decide +kernel
theorem d_Model_given_3 : decode b_Model_given 3 = .ok (.sipush 700, 3) := by decide +kernel
theorem d_Model_given_6 : decode b_Model_given 6 = .ok (.if_icmp .ge 16, 3) := by decide +kernel
theorem d_Model_given_9 : decode b_Model_given 9 = .ok (.aload_n 0, 1) := by decide +kernel
theorem d_Model_given_10 : decode b_Model_given 10 = .ok (.getfield 41, 3) := by decide +kernel
theorem d_Model_given_13 : decode b_Model_given 13 = .ok (.iload_n 1, 1) := by decide +kernel
theorem d_Model_given_14 : decode b_Model_given 14 = .ok (.iconst 0, 1) := by decide +kernel
theorem d_Model_given_15 : decode b_Model_given 15 = .ok (.iastore, 1) := by decide +kernel
theorem d_Model_given_16 : decode b_Model_given 16 = .ok (.iinc 1 1, 3) := by decide +kernel
theorem d_Model_given_19 : decode b_Model_given 19 = .ok (.goto (-17), 3) := by decide +kernel
theorem d_Model_given_22 : decode b_Model_given 22 = .ok (.iconst 0, 1) := by decide +kernel
theorem d_Model_given_23 : decode b_Model_given 23 = .ok (.istore_n 1, 1) := by decide +kernel
theorem d_Model_given_24 : decode b_Model_given 24 = .ok (.iload_n 1, 1) := by decide +kernel
theorem d_Model_given_25 : decode b_Model_given 25 = .ok (.aload_n 0, 1) := by decide +kernel
theorem d_Model_given_26 : decode b_Model_given 26 = .ok (.getfield 91, 3) := by decide +kernel
theorem d_Model_given_29 : decode b_Model_given 29 = .ok (.if_icmp .ge 130, 3) := by decide +kernel
theorem d_Model_given_32 : decode b_Model_given 32 = .ok (.aload_n 0, 1) := by decide +kernel
theorem d_Model_given_33 : decode b_Model_given 33 = .ok (.getfield 38, 3) := by decide +kernel
theorem d_Model_given_36 : decode b_Model_given 36 = .ok (.iload_n 1, 1) := by decide +kernel
theorem d_Model_given_37 : decode b_Model_given 37 = .ok (.iconst 0, 1) := by decide +kernel
theorem d_Model_given_38 : decode b_Model_given 38 = .ok (.iastore, 1) := by decide +kernel
theorem d_Model_given_39 : decode b_Model_given 39 = .ok (.iconst 0, 1) := by decide +kernel
theorem d_Model_given_40 : decode b_Model_given 40 = .ok (.istore_n 2, 1) := by decide +kernel
theorem d_Model_given_41 : decode b_Model_given 41 = .ok (.aload_n 0, 1) := by decide +kernel
theorem d_Model_given_42 : decode b_Model_given 42 = .ok (.getfield 34, 3) := by decide +kernel
theorem d_Model_given_45 : decode b_Model_given 45 = .ok (.iload_n 1, 1) := by decide +kernel
theorem d_Model_given_46 : decode b_Model_given 46 = .ok (.baload, 1) := by decide +kernel
theorem d_Model_given_47 : decode b_Model_given 47 = .ok (.istore_n 3, 1) := by decide +kernel
theorem d_Model_given_48 : decode b_Model_given 48 = .ok (.iconst 0, 1) := by decide +kernel
theorem d_Model_given_49 : decode b_Model_given 49 = .ok (.istore 4, 2) := by decide +kernel
theorem d_Model_given_51 : decode b_Model_given 51 = .ok (.iload 4, 2) := by decide +kernel
theorem d_Model_given_53 : decode b_Model_given 53 = .ok (.aload_n 0, 1) := by decide +kernel
theorem d_Model_given_54 : decode b_Model_given 54 = .ok (.getfield 28, 3) := by decide +kernel
theorem d_Model_given_57 : decode b_Model_given 57 = .ok (.iload_n 1, 1) := by decide +kernel
theorem d_Model_given_58 : decode b_Model_given 58 = .ok (.iaload, 1) := by decide +kernel
theorem d_Model_given_59 : decode b_Model_given 59 = .ok (.invokestatic 112, 3) := by decide +kernel
theorem d_Model_given_62 : decode b_Model_given 62 = .ok (.if_icmp .ge 91, 3) := by decide +kernel
theorem d_Model_given_65 : decode b_Model_given 65 = .ok (.iload_n 3, 1) := by decide +kernel
theorem d_Model_given_66 : decode b_Model_given 66 = .ok (.ifCond .eq 18, 3) := by decide +kernel
theorem d_Model_given_69 : decode b_Model_given 69 = .ok (.iload 4, 2) := by decide +kernel
theorem d_Model_given_71 : decode b_Model_given 71 = .ok (.ifCond .le 13, 3) := by decide +kernel
theorem d_Model_given_74 : decode b_Model_given 74 = .ok (.aload_n 0, 1) := by decide +kernel
theorem d_Model_given_75 : decode b_Model_given 75 = .ok (.iload_n 2, 1) := by decide +kernel
theorem d_Model_given_76 : decode b_Model_given 76 = .ok (.iconst 2, 1) := by decide +kernel
theorem d_Model_given_77 : decode b_Model_given 77 = .ok (.iadd, 1) := by decide +kernel
theorem d_Model_given_78 : decode b_Model_given 78 = .ok (.invokevirtual 115, 3) := by decide +kernel
theorem d_Model_given_81 : decode b_Model_given 81 = .ok (.goto 8, 3) := by decide +kernel
theorem d_Model_given_84 : decode b_Model_given 84 = .ok (.aload_n 0, 1) := by decide +kernel
theorem d_Model_given_85 : decode b_Model_given 85 = .ok (.iconst 2, 1) := by decide +kernel
theorem d_Model_given_86 : decode b_Model_given 86 = .ok (.invokevirtual 115, 3) := by decide +kernel
theorem d_Model_given_89 : decode b_Model_given 89 = .ok (.istore 5, 2) := by decide +kernel
theorem d_Model_given_91 : decode b_Model_given 91 = .ok (.iload 5, 2) := by decide +kernel
theorem d_Model_given_93 : decode b_Model_given 93 = .ok (.ifCond .ge 12, 3) := by decide +kernel
theorem d_Model_given_96 : decode b_Model_given 96 = .ok (.iconst 0, 1) := by decide +kernel
theorem d_Model_given_97 : decode b_Model_given 97 = .ok (.istore_n 3, 1) := by decide +kernel
theorem d_Model_given_98 : decode b_Model_given 98 = .ok (.aload_n 0, 1) := by decide +kernel
theorem d_Model_given_99 : decode b_Model_given 99 = .ok (.iconst 2, 1) := by decide +kernel
theorem d_Model_given_100 : decode b_Model_given 100 = .ok (.invokevirtual 115, 3) := by decide +kernel
theorem d_Model_given_103 : decode b_Model_given 103 = .ok (.istore 5, 2) := by decide +kernel
theorem d_Model_given_105 : decode b_Model_given 105 = .ok (.iload 5, 2) := by decide +kernel
theorem d_Model_given_107 : decode b_Model_given 107 = .ok (.ifCond .ge 5, 3) := by decide +kernel
theorem d_Model_given_110 : decode b_Model_given 110 = .ok (.iconst 0, 1) := by decide +kernel
theorem d_Model_given_111 : decode b_Model_given 111 = .ok (.ireturn, 1) := by decide +kernel
theorem d_Model_given_112 : decode b_Model_given 112 = .ok (.iload 4, 2) := by decide +kernel
theorem d_Model_given_114 : decode b_Model_given 114 = .ok (.ifCond .ne 14, 3) := by decide +kernel
theorem d_Model_given_117 : decode b_Model_given 117 = .ok (.aload_n 0, 1) := by decide +kernel
theorem d_Model_given_118 : decode b_Model_given 118 = .ok (.getfield 38, 3) := by decide +kernel
theorem d_Model_given_121 : decode b_Model_given 121 = .ok (.iload_n 1, 1) := by decide +kernel
theorem d_Model_given_122 : decode b_Model_given 122 = .ok (.iload 5, 2) := by decide +kernel
theorem d_Model_given_124 : decode b_Model_given 124 = .ok (.iastore, 1) := by decide +kernel
theorem d_Model_given_125 : decode b_Model_given 125 = .ok (.goto 11, 3) := by decide +kernel
theorem d_Model_given_128 : decode b_Model_given 128 = .ok (.aload_n 0, 1) := by decide +kernel
theorem d_Model_given_129 : decode b_Model_given 129 = .ok (.getfield 41, 3) := by decide +kernel
theorem d_Model_given_132 : decode b_Model_given 132 = .ok (.iload_n 2, 1) := by decide +kernel
theorem d_Model_given_133 : decode b_Model_given 133 = .ok (.iload 5, 2) := by decide +kernel
theorem d_Model_given_135 : decode b_Model_given 135 = .ok (.iastore, 1) := by decide +kernel
theorem d_Model_given_136 : decode b_Model_given 136 = .ok (.aload_n 0, 1) := by decide +kernel
theorem d_Model_given_137 : decode b_Model_given 137 = .ok (.getfield 41, 3) := by decide +kernel
theorem d_Model_given_140 : decode b_Model_given 140 = .ok (.iload 5, 2) := by decide +kernel
theorem d_Model_given_142 : decode b_Model_given 142 = .ok (.iconst (-1), 1) := by decide +kernel
theorem d_Model_given_143 : decode b_Model_given 143 = .ok (.iastore, 1) := by decide +kernel
theorem d_Model_given_144 : decode b_Model_given 144 = .ok (.iload 5, 2) := by decide +kernel
theorem d_Model_given_146 : decode b_Model_given 146 = .ok (.istore_n 2, 1) := by decide +kernel
theorem d_Model_given_147 : decode b_Model_given 147 = .ok (.iinc 4 1, 3) := by decide +kernel
theorem d_Model_given_150 : decode b_Model_given 150 = .ok (.goto (-99), 3) := by decide +kernel
theorem d_Model_given_153 : decode b_Model_given 153 = .ok (.iinc 1 1, 3) := by decide +kernel
theorem d_Model_given_156 : decode b_Model_given 156 = .ok (.goto (-132), 3) := by decide +kernel
theorem d_Model_given_159 : decode b_Model_given 159 = .ok (.iconst 1, 1) := by decide +kernel
theorem d_Model_given_160 : decode b_Model_given 160 = .ok (.ireturn, 1) := by decide +kernel
theorem d_Model_sectorOf_0 : decode b_Model_sectorOf 0 = .ok (.aload_n 0, 1) := by decide +kernel
theorem d_Model_sectorOf_1 : decode b_Model_sectorOf 1 = .ok (.getfield 38, 3) := by decide +kernel
theorem d_Model_sectorOf_4 : decode b_Model_sectorOf 4 = .ok (.iload_n 1, 1) := by decide +kernel
theorem d_Model_sectorOf_5 : decode b_Model_sectorOf 5 = .ok (.iaload, 1) := by decide +kernel
theorem d_Model_sectorOf_6 : decode b_Model_sectorOf 6 = .ok (.istore_n 3, 1) := by decide +kernel
theorem d_Model_sectorOf_7 : decode b_Model_sectorOf 7 = .ok (.iconst 0, 1) := by decide +kernel
theorem d_Model_sectorOf_8 : decode b_Model_sectorOf 8 = .ok (.istore 4, 2) := by decide +kernel
theorem d_Model_sectorOf_10 : decode b_Model_sectorOf 10 = .ok (.iload 4, 2) := by decide +kernel
theorem d_Model_sectorOf_12 : decode b_Model_sectorOf 12 = .ok (.iload_n 2, 1) := by decide +kernel
theorem d_Model_sectorOf_13 : decode b_Model_sectorOf 13 = .ok (.if_icmp .ge 16, 3) := by decide +kernel
theorem d_Model_sectorOf_16 : decode b_Model_sectorOf 16 = .ok (.aload_n 0, 1) := by decide +kernel
theorem d_Model_sectorOf_17 : decode b_Model_sectorOf 17 = .ok (.getfield 41, 3) := by decide +kernel
theorem d_Model_sectorOf_20 : decode b_Model_sectorOf 20 = .ok (.iload_n 3, 1) := by decide +kernel
theorem d_Model_sectorOf_21 : decode b_Model_sectorOf 21 = .ok (.iaload, 1) := by decide +kernel
theorem d_Model_sectorOf_22 : decode b_Model_sectorOf 22 = .ok (.istore_n 3, 1) := by decide +kernel
theorem d_Model_sectorOf_23 : decode b_Model_sectorOf 23 = .ok (.iinc 4 1, 3) := by decide +kernel
theorem d_Model_sectorOf_26 : decode b_Model_sectorOf 26 = .ok (.goto (-16), 3) := by decide +kernel
theorem d_Model_sectorOf_29 : decode b_Model_sectorOf 29 = .ok (.aload_n 0, 1) := by decide +kernel
theorem d_Model_sectorOf_30 : decode b_Model_sectorOf 30 = .ok (.getfield 118, 3) := by decide +kernel
theorem d_Model_sectorOf_33 : decode b_Model_sectorOf 33 = .ok (.iconst 3, 1) := by decide +kernel
theorem d_Model_sectorOf_34 : decode b_Model_sectorOf 34 = .ok (.iadd, 1) := by decide +kernel
theorem d_Model_sectorOf_35 : decode b_Model_sectorOf 35 = .ok (.iconst 2, 1) := by decide +kernel
theorem d_Model_sectorOf_36 : decode b_Model_sectorOf 36 = .ok (.aload_n 0, 1) := by decide +kernel
theorem d_Model_sectorOf_37 : decode b_Model_sectorOf 37 = .ok (.getfield 121, 3) := by decide +kernel
theorem d_Model_sectorOf_40 : decode b_Model_sectorOf 40 = .ok (.imul, 1) := by decide +kernel
theorem d_Model_sectorOf_41 : decode b_Model_sectorOf 41 = .ok (.iadd, 1) := by decide +kernel
theorem d_Model_sectorOf_42 : decode b_Model_sectorOf 42 = .ok (.iload_n 3, 1) := by decide +kernel
theorem d_Model_sectorOf_43 : decode b_Model_sectorOf 43 = .ok (.iadd, 1) := by decide +kernel
theorem d_Model_sectorOf_44 : decode b_Model_sectorOf 44 = .ok (.iconst 2, 1) := by decide +kernel
theorem d_Model_sectorOf_45 : decode b_Model_sectorOf 45 = .ok (.isub, 1) := by decide +kernel
theorem d_Model_sectorOf_46 : decode b_Model_sectorOf 46 = .ok (.ireturn, 1) := by decide +kernel
theorem d_Model_runs_0 : decode b_Model_runs 0 = .ok (.iconst 0, 1) := by decide +kernel
theorem d_Model_runs_1 : decode b_Model_runs 1 = .ok (.istore_n 2, 1) := by decide +kernel
theorem d_Model_runs_2 : decode b_Model_runs 2 = .ok (.iconst 0, 1) := by decide +kernel
theorem d_Model_runs_3 : decode b_Model_runs 3 = .ok (.istore_n 3, 1) := by decide +kernel
theorem d_Model_runs_4 : decode b_Model_runs 4 = .ok (.iload_n 3, 1) := by decide +kernel
theorem d_Model_runs_5 : decode b_Model_runs 5 = .ok (.aload_n 0, 1) := by decide +kernel
theorem d_Model_runs_6 : decode b_Model_runs 6 = .ok (.getfield 28, 3) := by decide +kernel
theorem d_Model_runs_9 : decode b_Model_runs 9 = .ok (.iload_n 1, 1) := by decide +kernel
theorem d_Model_runs_10 : decode b_Model_runs 10 = .ok (.iaload, 1) := by decide +kernel
theorem d_Model_runs_11 : decode b_Model_runs 11 = .ok (.invokestatic 112, 3) := by decide +kernel
theorem d_Model_runs_14 : decode b_Model_runs 14 = .ok (.if_icmp .ge 40, 3) := by decide +kernel
theorem d_Model_runs_17 : decode b_Model_runs 17 = .ok (.iload_n 2, 1) := by decide +kernel
theorem d_Model_runs_18 : decode b_Model_runs 18 = .ok (.iload_n 3, 1) := by decide +kernel
theorem d_Model_runs_19 : decode b_Model_runs 19 = .ok (.ifCond .eq 22, 3) := by decide +kernel
theorem d_Model_runs_22 : decode b_Model_runs 22 = .ok (.aload_n 0, 1) := by decide +kernel
theorem d_Model_runs_23 : decode b_Model_runs 23 = .ok (.iload_n 1, 1) := by decide +kernel
theorem d_Model_runs_24 : decode b_Model_runs 24 = .ok (.iload_n 3, 1) := by decide +kernel
theorem d_Model_runs_25 : decode b_Model_runs 25 = .ok (.invokevirtual 124, 3) := by decide +kernel
theorem d_Model_runs_28 : decode b_Model_runs 28 = .ok (.aload_n 0, 1) := by decide +kernel
theorem d_Model_runs_29 : decode b_Model_runs 29 = .ok (.iload_n 1, 1) := by decide +kernel
theorem d_Model_runs_30 : decode b_Model_runs 30 = .ok (.iload_n 3, 1) := by decide +kernel
theorem d_Model_runs_31 : decode b_Model_runs 31 = .ok (.iconst 1, 1) := by decide +kernel
theorem d_Model_runs_32 : decode b_Model_runs 32 = .ok (.isub, 1) := by decide +kernel
theorem d_Model_runs_33 : decode b_Model_runs 33 = .ok (.invokevirtual 124, 3) := by decide +kernel
theorem d_Model_runs_36 : decode b_Model_runs 36 = .ok (.iconst 1, 1) := by decide +kernel
theorem d_Model_runs_37 : decode b_Model_runs 37 = .ok (.iadd, 1) := by decide +kernel
theorem d_Model_runs_38 : decode b_Model_runs 38 = .ok (.if_icmp .eq 7, 3) := by decide +kernel
theorem d_Model_runs_41 : decode b_Model_runs 41 = .ok (.iconst 1, 1) := by decide +kernel
theorem d_Model_runs_42 : decode b_Model_runs 42 = .ok (.goto 4, 3) := by decide +kernel
theorem d_Model_runs_45 : decode b_Model_runs 45 = .ok (.iconst 0, 1) := by decide +kernel
theorem d_Model_runs_46 : decode b_Model_runs 46 = .ok (.iadd, 1) := by decide +kernel
theorem d_Model_runs_47 : decode b_Model_runs 47 = .ok (.istore_n 2, 1) := by decide +kernel
theorem d_Model_runs_48 : decode b_Model_runs 48 = .ok (.iinc 3 1, 3) := by decide +kernel
theorem d_Model_runs_51 : decode b_Model_runs 51 = .ok (.goto (-47), 3) := by decide +kernel
theorem d_Model_runs_54 : decode b_Model_runs 54 = .ok (.iload_n 2, 1) := by decide +kernel
theorem d_Model_runs_55 : decode b_Model_runs 55 = .ok (.ireturn, 1) := by decide +kernel
theorem d_Model_byteOf_0 : decode b_Model_byteOf 0 = .ok (.aload_n 0, 1) := by decide +kernel
theorem d_Model_byteOf_1 : decode b_Model_byteOf 1 = .ok (.getfield 28, 3) := by decide +kernel
theorem d_Model_byteOf_4 : decode b_Model_byteOf 4 = .ok (.iload_n 1, 1) := by decide +kernel
theorem d_Model_byteOf_5 : decode b_Model_byteOf 5 = .ok (.iaload, 1) := by decide +kernel
theorem d_Model_byteOf_6 : decode b_Model_byteOf 6 = .ok (.bipush 8, 2) := by decide +kernel
theorem d_Model_byteOf_8 : decode b_Model_byteOf 8 = .ok (.if_icmp .lt 13, 3) := by decide +kernel
theorem d_Model_byteOf_11 : decode b_Model_byteOf 11 = .ok (.iload_n 2, 1) := by decide +kernel
theorem d_Model_byteOf_12 : decode b_Model_byteOf 12 = .ok (.bipush 8, 2) := by decide +kernel
theorem d_Model_byteOf_14 : decode b_Model_byteOf 14 = .ok (.if_icmp .ge 7, 3) := by decide +kernel
theorem d_Model_byteOf_17 : decode b_Model_byteOf 17 = .ok (.iconst 1, 1) := by decide +kernel
theorem d_Model_byteOf_18 : decode b_Model_byteOf 18 = .ok (.goto 4, 3) := by decide +kernel
theorem d_Model_byteOf_21 : decode b_Model_byteOf 21 = .ok (.iconst 0, 1) := by decide +kernel
theorem d_Model_byteOf_22 : decode b_Model_byteOf 22 = .ok (.istore_n 3, 1) := by decide +kernel
theorem d_Model_byteOf_23 : decode b_Model_byteOf 23 = .ok (.iload_n 3, 1) := by decide +kernel
theorem d_Model_byteOf_24 : decode b_Model_byteOf 24 = .ok (.ifCond .eq 71, 3) := by decide +kernel
theorem d_Model_byteOf_27 : decode b_Model_byteOf 27 = .ok (.aload_n 0, 1) := by decide +kernel
theorem d_Model_byteOf_28 : decode b_Model_byteOf 28 = .ok (.getfield 24, 3) := by decide +kernel
theorem d_Model_byteOf_31 : decode b_Model_byteOf 31 = .ok (.iload_n 1, 1) := by decide +kernel
theorem d_Model_byteOf_32 : decode b_Model_byteOf 32 = .ok (.laload, 1) := by decide +kernel
theorem d_Model_byteOf_33 : decode b_Model_byteOf 33 = .ok (.invokestatic 127, 3) := by decide +kernel
theorem d_Model_byteOf_36 : decode b_Model_byteOf 36 = .ok (.lcmp, 1) := by decide +kernel
theorem d_Model_byteOf_37 : decode b_Model_byteOf 37 = .ok (.ifCond .ne 58, 3) := by decide +kernel
theorem d_Model_byteOf_40 : decode b_Model_byteOf 40 = .ok (.iload_n 2, 1) := by decide +kernel
theorem d_Model_byteOf_41 : decode b_Model_byteOf 41 = .ok (.ifCond .ne 8, 3) := by decide +kernel
theorem d_Model_byteOf_44 : decode b_Model_byteOf 44 = .ok (.bipush 75, 2) := by decide +kernel
theorem d_Model_byteOf_46 : decode b_Model_byteOf 46 = .ok (.goto 48, 3) := by decide +kernel
theorem d_Model_byteOf_49 : decode b_Model_byteOf 49 = .ok (.iload_n 2, 1) := by decide +kernel
theorem d_Model_byteOf_50 : decode b_Model_byteOf 50 = .ok (.iconst 1, 1) := by decide +kernel
theorem d_Model_byteOf_51 : decode b_Model_byteOf 51 = .ok (.if_icmp .ne 8, 3) := by decide +kernel
theorem d_Model_byteOf_54 : decode b_Model_byteOf 54 = .ok (.bipush 82, 2) := by decide +kernel
theorem d_Model_byteOf_56 : decode b_Model_byteOf 56 = .ok (.goto 38, 3) := by decide +kernel
theorem d_Model_byteOf_59 : decode b_Model_byteOf 59 = .ok (.iload_n 2, 1) := by decide +kernel
theorem d_Model_byteOf_60 : decode b_Model_byteOf 60 = .ok (.iconst 2, 1) := by decide +kernel
theorem d_Model_byteOf_61 : decode b_Model_byteOf 61 = .ok (.if_icmp .ne 8, 3) := by decide +kernel
theorem d_Model_byteOf_64 : decode b_Model_byteOf 64 = .ok (.bipush 78, 2) := by decide +kernel
theorem d_Model_byteOf_66 : decode b_Model_byteOf 66 = .ok (.goto 28, 3) := by decide +kernel
theorem d_Model_byteOf_69 : decode b_Model_byteOf 69 = .ok (.iload_n 2, 1) := by decide +kernel
theorem d_Model_byteOf_70 : decode b_Model_byteOf 70 = .ok (.iconst 3, 1) := by decide +kernel
theorem d_Model_byteOf_71 : decode b_Model_byteOf 71 = .ok (.if_icmp .ne 8, 3) := by decide +kernel
theorem d_Model_byteOf_74 : decode b_Model_byteOf 74 = .ok (.bipush 76, 2) := by decide +kernel
theorem d_Model_byteOf_76 : decode b_Model_byteOf 76 = .ok (.goto 18, 3) := by decide +kernel
theorem d_Model_byteOf_79 : decode b_Model_byteOf 79 = .ok (.aload_n 0, 1) := by decide +kernel
theorem d_Model_byteOf_80 : decode b_Model_byteOf 80 = .ok (.getfield 102, 3) := by decide +kernel
theorem d_Model_byteOf_83 : decode b_Model_byteOf 83 = .ok (.bipush 8, 2) := by decide +kernel
theorem d_Model_byteOf_85 : decode b_Model_byteOf 85 = .ok (.iload_n 2, 1) := by decide +kernel
theorem d_Model_byteOf_86 : decode b_Model_byteOf 86 = .ok (.iconst 4, 1) := by decide +kernel
theorem d_Model_byteOf_87 : decode b_Model_byteOf 87 = .ok (.isub, 1) := by decide +kernel
theorem d_Model_byteOf_88 : decode b_Model_byteOf 88 = .ok (.imul, 1) := by decide +kernel
theorem d_Model_byteOf_89 : decode b_Model_byteOf 89 = .ok (.ishr, 1) := by decide +kernel
theorem d_Model_byteOf_90 : decode b_Model_byteOf 90 = .ok (.sipush 255, 3) := by decide +kernel
theorem d_Model_byteOf_93 : decode b_Model_byteOf 93 = .ok (.iand, 1) := by decide +kernel
theorem d_Model_byteOf_94 : decode b_Model_byteOf 94 = .ok (.ireturn, 1) := by decide +kernel
theorem d_Model_byteOf_95 : decode b_Model_byteOf 95 = .ok (.iload_n 3, 1) := by decide +kernel
theorem d_Model_byteOf_96 : decode b_Model_byteOf 96 = .ok (.ifCond .eq 71, 3) := by decide +kernel
theorem d_Model_byteOf_99 : decode b_Model_byteOf 99 = .ok (.aload_n 0, 1) := by decide +kernel
theorem d_Model_byteOf_100 : decode b_Model_byteOf 100 = .ok (.getfield 24, 3) := by decide +kernel
theorem d_Model_byteOf_103 : decode b_Model_byteOf 103 = .ok (.iload_n 1, 1) := by decide +kernel
theorem d_Model_byteOf_104 : decode b_Model_byteOf 104 = .ok (.laload, 1) := by decide +kernel
theorem d_Model_byteOf_105 : decode b_Model_byteOf 105 = .ok (.invokestatic 131, 3) := by decide +kernel
theorem d_Model_byteOf_108 : decode b_Model_byteOf 108 = .ok (.lcmp, 1) := by decide +kernel
theorem d_Model_byteOf_109 : decode b_Model_byteOf 109 = .ok (.ifCond .ne 58, 3) := by decide +kernel
theorem d_Model_byteOf_112 : decode b_Model_byteOf 112 = .ok (.iload_n 2, 1) := by decide +kernel
theorem d_Model_byteOf_113 : decode b_Model_byteOf 113 = .ok (.ifCond .ne 8, 3) := by decide +kernel
theorem d_Model_byteOf_116 : decode b_Model_byteOf 116 = .ok (.bipush 76, 2) := by decide +kernel
theorem d_Model_byteOf_118 : decode b_Model_byteOf 118 = .ok (.goto 48, 3) := by decide +kernel
theorem d_Model_byteOf_121 : decode b_Model_byteOf 121 = .ok (.iload_n 2, 1) := by decide +kernel
theorem d_Model_byteOf_122 : decode b_Model_byteOf 122 = .ok (.iconst 1, 1) := by decide +kernel
theorem d_Model_byteOf_123 : decode b_Model_byteOf 123 = .ok (.if_icmp .ne 8, 3) := by decide +kernel
theorem d_Model_byteOf_126 : decode b_Model_byteOf 126 = .ok (.bipush 79, 2) := by decide +kernel
theorem d_Model_byteOf_128 : decode b_Model_byteOf 128 = .ok (.goto 38, 3) := by decide +kernel
theorem d_Model_byteOf_131 : decode b_Model_byteOf 131 = .ok (.iload_n 2, 1) := by decide +kernel
theorem d_Model_byteOf_132 : decode b_Model_byteOf 132 = .ok (.iconst 2, 1) := by decide +kernel
theorem d_Model_byteOf_133 : decode b_Model_byteOf 133 = .ok (.if_icmp .ne 8, 3) := by decide +kernel
theorem d_Model_byteOf_136 : decode b_Model_byteOf 136 = .ok (.bipush 65, 2) := by decide +kernel
theorem d_Model_byteOf_138 : decode b_Model_byteOf 138 = .ok (.goto 28, 3) := by decide +kernel
theorem d_Model_byteOf_141 : decode b_Model_byteOf 141 = .ok (.iload_n 2, 1) := by decide +kernel
theorem d_Model_byteOf_142 : decode b_Model_byteOf 142 = .ok (.iconst 3, 1) := by decide +kernel
theorem d_Model_byteOf_143 : decode b_Model_byteOf 143 = .ok (.if_icmp .ne 8, 3) := by decide +kernel
theorem d_Model_byteOf_146 : decode b_Model_byteOf 146 = .ok (.bipush 68, 2) := by decide +kernel
theorem d_Model_byteOf_148 : decode b_Model_byteOf 148 = .ok (.goto 18, 3) := by decide +kernel
theorem d_Model_byteOf_151 : decode b_Model_byteOf 151 = .ok (.aload_n 0, 1) := by decide +kernel
theorem d_Model_byteOf_152 : decode b_Model_byteOf 152 = .ok (.getfield 118, 3) := by decide +kernel
theorem d_Model_byteOf_155 : decode b_Model_byteOf 155 = .ok (.bipush 8, 2) := by decide +kernel
theorem d_Model_byteOf_157 : decode b_Model_byteOf 157 = .ok (.iload_n 2, 1) := by decide +kernel
theorem d_Model_byteOf_158 : decode b_Model_byteOf 158 = .ok (.iconst 4, 1) := by decide +kernel
theorem d_Model_byteOf_159 : decode b_Model_byteOf 159 = .ok (.isub, 1) := by decide +kernel
theorem d_Model_byteOf_160 : decode b_Model_byteOf 160 = .ok (.imul, 1) := by decide +kernel
theorem d_Model_byteOf_161 : decode b_Model_byteOf 161 = .ok (.ishr, 1) := by decide +kernel
theorem d_Model_byteOf_162 : decode b_Model_byteOf 162 = .ok (.sipush 255, 3) := by decide +kernel
theorem d_Model_byteOf_165 : decode b_Model_byteOf 165 = .ok (.iand, 1) := by decide +kernel
theorem d_Model_byteOf_166 : decode b_Model_byteOf 166 = .ok (.ireturn, 1) := by decide +kernel
theorem d_Model_byteOf_167 : decode b_Model_byteOf 167 = .ok (.aload_n 0, 1) := by decide +kernel
theorem d_Model_byteOf_168 : decode b_Model_byteOf 168 = .ok (.getfield 31, 3) := by decide +kernel
theorem d_Model_byteOf_171 : decode b_Model_byteOf 171 = .ok (.iload_n 1, 1) := by decide +kernel
theorem d_Model_byteOf_172 : decode b_Model_byteOf 172 = .ok (.iaload, 1) := by decide +kernel
theorem d_Model_byteOf_173 : decode b_Model_byteOf 173 = .ok (.bipush 7, 2) := by decide +kernel
theorem d_Model_byteOf_175 : decode b_Model_byteOf 175 = .ok (.iload_n 2, 1) := by decide +kernel
theorem d_Model_byteOf_176 : decode b_Model_byteOf 176 = .ok (.imul, 1) := by decide +kernel
theorem d_Model_byteOf_177 : decode b_Model_byteOf 177 = .ok (.iadd, 1) := by decide +kernel
theorem d_Model_byteOf_178 : decode b_Model_byteOf 178 = .ok (.iload_n 2, 1) := by decide +kernel
theorem d_Model_byteOf_179 : decode b_Model_byteOf 179 = .ok (.sipush 200, 3) := by decide +kernel
theorem d_Model_byteOf_182 : decode b_Model_byteOf 182 = .ok (.idiv, 1) := by decide +kernel
theorem d_Model_byteOf_183 : decode b_Model_byteOf 183 = .ok (.iadd, 1) := by decide +kernel
theorem d_Model_byteOf_184 : decode b_Model_byteOf 184 = .ok (.sipush 256, 3) := by decide +kernel
theorem d_Model_byteOf_187 : decode b_Model_byteOf 187 = .ok (.irem, 1) := by decide +kernel
theorem d_Model_byteOf_188 : decode b_Model_byteOf 188 = .ok (.ireturn, 1) := by decide +kernel
theorem d_Model_word_0 : decode b_Model_word 0 = .ok (.aload_n 0, 1) := by decide +kernel
theorem d_Model_word_1 : decode b_Model_word 1 = .ok (.getfield 8, 3) := by decide +kernel
theorem d_Model_word_4 : decode b_Model_word 4 = .ok (.iload_n 1, 1) := by decide +kernel
theorem d_Model_word_5 : decode b_Model_word 5 = .ok (.iload_n 2, 1) := by decide +kernel
theorem d_Model_word_6 : decode b_Model_word 6 = .ok (.i2b, 1) := by decide +kernel
theorem d_Model_word_7 : decode b_Model_word 7 = .ok (.bastore, 1) := by decide +kernel
theorem d_Model_word_8 : decode b_Model_word 8 = .ok (.aload_n 0, 1) := by decide +kernel
theorem d_Model_word_9 : decode b_Model_word 9 = .ok (.getfield 8, 3) := by decide +kernel
theorem d_Model_word_12 : decode b_Model_word 12 = .ok (.iload_n 1, 1) := by decide +kernel
theorem d_Model_word_13 : decode b_Model_word 13 = .ok (.iconst 1, 1) := by decide +kernel
theorem d_Model_word_14 : decode b_Model_word 14 = .ok (.iadd, 1) := by decide +kernel
theorem d_Model_word_15 : decode b_Model_word 15 = .ok (.iload_n 3, 1) := by decide +kernel
theorem d_Model_word_16 : decode b_Model_word 16 = .ok (.i2b, 1) := by decide +kernel
theorem d_Model_word_17 : decode b_Model_word 17 = .ok (.bastore, 1) := by decide +kernel
theorem d_Model_word_18 : decode b_Model_word 18 = .ok (.aload_n 0, 1) := by decide +kernel
theorem d_Model_word_19 : decode b_Model_word 19 = .ok (.getfield 8, 3) := by decide +kernel
theorem d_Model_word_22 : decode b_Model_word 22 = .ok (.iload_n 1, 1) := by decide +kernel
theorem d_Model_word_23 : decode b_Model_word 23 = .ok (.iconst 2, 1) := by decide +kernel
theorem d_Model_word_24 : decode b_Model_word 24 = .ok (.iadd, 1) := by decide +kernel
theorem d_Model_word_25 : decode b_Model_word 25 = .ok (.iload 4, 2) := by decide +kernel
theorem d_Model_word_27 : decode b_Model_word 27 = .ok (.i2b, 1) := by decide +kernel
theorem d_Model_word_28 : decode b_Model_word 28 = .ok (.bastore, 1) := by decide +kernel
theorem d_Model_word_29 : decode b_Model_word 29 = .ok (.aload_n 0, 1) := by decide +kernel
theorem d_Model_word_30 : decode b_Model_word 30 = .ok (.getfield 8, 3) := by decide +kernel
theorem d_Model_word_33 : decode b_Model_word 33 = .ok (.iload_n 1, 1) := by decide +kernel
theorem d_Model_word_34 : decode b_Model_word 34 = .ok (.iconst 3, 1) := by decide +kernel
theorem d_Model_word_35 : decode b_Model_word 35 = .ok (.iadd, 1) := by decide +kernel
theorem d_Model_word_36 : decode b_Model_word 36 = .ok (.iload 5, 2) := by decide +kernel
theorem d_Model_word_38 : decode b_Model_word 38 = .ok (.i2b, 1) := by decide +kernel
theorem d_Model_word_39 : decode b_Model_word 39 = .ok (.bastore, 1) := by decide +kernel
theorem d_Model_word_40 : decode b_Model_word 40 = .ok (.return_, 1) := by decide +kernel
theorem d_Model_entry_0 : decode b_Model_entry 0 = .ok (.sipush 512, 3) := by decide +kernel
theorem d_Model_entry_3 : decode b_Model_entry 3 = .ok (.iload_n 1, 1) := by decide +kernel
theorem d_Model_entry_4 : decode b_Model_entry 4 = .ok (.imul, 1) := by decide +kernel
theorem d_Model_entry_5 : decode b_Model_entry 5 = .ok (.iload_n 2, 1) := by decide +kernel
theorem d_Model_entry_6 : decode b_Model_entry 6 = .ok (.iconst 3, 1) := by decide +kernel
theorem d_Model_entry_7 : decode b_Model_entry 7 = .ok (.imul, 1) := by decide +kernel
theorem d_Model_entry_8 : decode b_Model_entry 8 = .ok (.iconst 2, 1) := by decide +kernel
theorem d_Model_entry_9 : decode b_Model_entry 9 = .ok (.idiv, 1) := by decide +kernel
theorem d_Model_entry_10 : decode b_Model_entry 10 = .ok (.iadd, 1) := by decide +kernel
theorem d_Model_entry_11 : decode b_Model_entry 11 = .ok (.istore 4, 2) := by decide +kernel
theorem d_Model_entry_13 : decode b_Model_entry 13 = .ok (.aload_n 0, 1) := by decide +kernel
theorem d_Model_entry_14 : decode b_Model_entry 14 = .ok (.iload 4, 2) := by decide +kernel
theorem d_Model_entry_16 : decode b_Model_entry 16 = .ok (.invokevirtual 64, 3) := by decide +kernel
theorem d_Model_entry_19 : decode b_Model_entry 19 = .ok (.aload_n 0, 1) := by decide +kernel
theorem d_Model_entry_20 : decode b_Model_entry 20 = .ok (.iload 4, 2) := by decide +kernel
theorem d_Model_entry_22 : decode b_Model_entry 22 = .ok (.iconst 1, 1) := by decide +kernel
theorem d_Model_entry_23 : decode b_Model_entry 23 = .ok (.iadd, 1) := by decide +kernel
theorem d_Model_entry_24 : decode b_Model_entry 24 = .ok (.invokevirtual 64, 3) := by decide +kernel
theorem d_Model_entry_27 : decode b_Model_entry 27 = .ok (.bipush 8, 2) := by decide +kernel
theorem d_Model_entry_29 : decode b_Model_entry 29 = .ok (.ishl, 1) := by decide +kernel
theorem d_Model_entry_30 : decode b_Model_entry 30 = .ok (.ior, 1) := by decide +kernel
theorem d_Model_entry_31 : decode b_Model_entry 31 = .ok (.istore 5, 2) := by decide +kernel
theorem d_Model_entry_33 : decode b_Model_entry 33 = .ok (.iload_n 2, 1) := by decide +kernel
theorem d_Model_entry_34 : decode b_Model_entry 34 = .ok (.iconst 2, 1) := by decide +kernel
theorem d_Model_entry_35 : decode b_Model_entry 35 = .ok (.irem, 1) := by decide +kernel
theorem d_Model_entry_36 : decode b_Model_entry 36 = .ok (.ifCond .ne 13, 3) := by decide +kernel
theorem d_Model_entry_39 : decode b_Model_entry 39 = .ok (.iload 5, 2) := by decide +kernel
theorem d_Model_entry_41 : decode b_Model_entry 41 = .ok (.ldc 192, 2) := by decide +kernel
theorem d_Model_entry_43 : decode b_Model_entry 43 = .ok (.iand, 1) := by decide +kernel
theorem d_Model_entry_44 : decode b_Model_entry 44 = .ok (.iload_n 3, 1) := by decide +kernel
theorem d_Model_entry_45 : decode b_Model_entry 45 = .ok (.ior, 1) := by decide +kernel
theorem d_Model_entry_46 : decode b_Model_entry 46 = .ok (.goto 12, 3) := by decide +kernel
theorem d_Model_entry_49 : decode b_Model_entry 49 = .ok (.iload 5, 2) := by decide +kernel
theorem d_Model_entry_51 : decode b_Model_entry 51 = .ok (.bipush 15, 2) := by decide +kernel
theorem d_Model_entry_53 : decode b_Model_entry 53 = .ok (.iand, 1) := by decide +kernel
theorem d_Model_entry_54 : decode b_Model_entry 54 = .ok (.iload_n 3, 1) := by decide +kernel
theorem d_Model_entry_55 : decode b_Model_entry 55 = .ok (.iconst 4, 1) := by decide +kernel
theorem d_Model_entry_56 : decode b_Model_entry 56 = .ok (.ishl, 1) := by decide +kernel
theorem d_Model_entry_57 : decode b_Model_entry 57 = .ok (.ior, 1) := by decide +kernel
theorem d_Model_entry_58 : decode b_Model_entry 58 = .ok (.istore 5, 2) := by decide +kernel
theorem d_Model_entry_60 : decode b_Model_entry 60 = .ok (.aload_n 0, 1) := by decide +kernel
theorem d_Model_entry_61 : decode b_Model_entry 61 = .ok (.getfield 8, 3) := by decide +kernel
theorem d_Model_entry_64 : decode b_Model_entry 64 = .ok (.iload 4, 2) := by decide +kernel
theorem d_Model_entry_66 : decode b_Model_entry 66 = .ok (.iload 5, 2) := by decide +kernel
theorem d_Model_entry_68 : decode b_Model_entry 68 = .ok (.i2b, 1) := by decide +kernel
theorem d_Model_entry_69 : decode b_Model_entry 69 = .ok (.bastore, 1) := by decide +kernel
theorem d_Model_entry_70 : decode b_Model_entry 70 = .ok (.aload_n 0, 1) := by decide +kernel
theorem d_Model_entry_71 : decode b_Model_entry 71 = .ok (.getfield 8, 3) := by decide +kernel
theorem d_Model_entry_74 : decode b_Model_entry 74 = .ok (.iload 4, 2) := by decide +kernel
theorem d_Model_entry_76 : decode b_Model_entry 76 = .ok (.iconst 1, 1) := by decide +kernel
theorem d_Model_entry_77 : decode b_Model_entry 77 = .ok (.iadd, 1) := by decide +kernel
theorem d_Model_entry_78 : decode b_Model_entry 78 = .ok (.iload 5, 2) := by decide +kernel
theorem d_Model_entry_80 : decode b_Model_entry 80 = .ok (.bipush 8, 2) := by decide +kernel
theorem d_Model_entry_82 : decode b_Model_entry 82 = .ok (.ishr, 1) := by decide +kernel
theorem d_Model_entry_83 : decode b_Model_entry 83 = .ok (.i2b, 1) := by decide +kernel
theorem d_Model_entry_84 : decode b_Model_entry 84 = .ok (.bastore, 1) := by decide +kernel
theorem d_Model_entry_85 : decode b_Model_entry 85 = .ok (.return_, 1) := by decide +kernel
theorem d_Model_text_0 : decode b_Model_text 0 = .ok (.iconst 0, 1) := by decide +kernel
theorem d_Model_text_1 : decode b_Model_text 1 = .ok (.istore 6, 2) := by decide +kernel
theorem d_Model_text_3 : decode b_Model_text 3 = .ok (.iload 6, 2) := by decide +kernel
theorem d_Model_text_5 : decode b_Model_text 5 = .ok (.bipush 8, 2) := by decide +kernel
theorem d_Model_text_7 : decode b_Model_text 7 = .ok (.if_icmp .ge 21, 3) := by decide +kernel
theorem d_Model_text_10 : decode b_Model_text 10 = .ok (.lload_n 3, 1) := by decide +kernel
theorem d_Model_text_11 : decode b_Model_text 11 = .ok (.bipush 8, 2) := by decide +kernel
theorem d_Model_text_13 : decode b_Model_text 13 = .ok (.iload 6, 2) := by decide +kernel
theorem d_Model_text_15 : decode b_Model_text 15 = .ok (.imul, 1) := by decide +kernel
theorem d_Model_text_16 : decode b_Model_text 16 = .ok (.lushr, 1) := by decide +kernel
theorem d_Model_text_17 : decode b_Model_text 17 = .ok (.lconst 0, 1) := by decide +kernel
theorem d_Model_text_18 : decode b_Model_text 18 = .ok (.lcmp, 1) := by decide +kernel
theorem d_Model_text_19 : decode b_Model_text 19 = .ok (.ifCond .eq 9, 3) := by decide +kernel
theorem d_Model_text_22 : decode b_Model_text 22 = .ok (.iinc 6 1, 3) := by decide +kernel
theorem d_Model_text_25 : decode b_Model_text 25 = .ok (.goto (-22), 3) := by decide +kernel
theorem d_Model_text_28 : decode b_Model_text 28 = .ok (.iconst 0, 1) := by decide +kernel
theorem d_Model_text_29 : decode b_Model_text 29 = .ok (.istore 7, 2) := by decide +kernel
theorem d_Model_text_31 : decode b_Model_text 31 = .ok (.iload 7, 2) := by decide +kernel
theorem d_Model_text_33 : decode b_Model_text 33 = .ok (.iload_n 2, 1) := by decide +kernel
theorem d_Model_text_34 : decode b_Model_text 34 = .ok (.iload 5, 2) := by decide +kernel
theorem d_Model_text_36 : decode b_Model_text 36 = .ok (.iadd, 1) := by decide +kernel
theorem d_Model_text_37 : decode b_Model_text 37 = .ok (.if_icmp .ge 45, 3) := by decide +kernel
theorem d_Model_text_40 : decode b_Model_text 40 = .ok (.aload_n 0, 1) := by decide +kernel
theorem d_Model_text_41 : decode b_Model_text 41 = .ok (.getfield 8, 3) := by decide +kernel
theorem d_Model_text_44 : decode b_Model_text 44 = .ok (.iload_n 1, 1) := by decide +kernel
theorem d_Model_text_45 : decode b_Model_text 45 = .ok (.iload 7, 2) := by decide +kernel
theorem d_Model_text_47 : decode b_Model_text 47 = .ok (.iadd, 1) := by decide +kernel
theorem d_Model_text_48 : decode b_Model_text 48 = .ok (.iload 7, 2) := by decide +kernel
theorem d_Model_text_50 : decode b_Model_text 50 = .ok (.iload 6, 2) := by decide +kernel
theorem d_Model_text_52 : decode b_Model_text 52 = .ok (.if_icmp .ge 18, 3) := by decide +kernel
theorem d_Model_text_55 : decode b_Model_text 55 = .ok (.lload_n 3, 1) := by decide +kernel
theorem d_Model_text_56 : decode b_Model_text 56 = .ok (.bipush 8, 2) := by decide +kernel
theorem d_Model_text_58 : decode b_Model_text 58 = .ok (.iload 6, 2) := by decide +kernel
theorem d_Model_text_60 : decode b_Model_text 60 = .ok (.iconst 1, 1) := by decide +kernel
theorem d_Model_text_61 : decode b_Model_text 61 = .ok (.isub, 1) := by decide +kernel
theorem d_Model_text_62 : decode b_Model_text 62 = .ok (.iload 7, 2) := by decide +kernel
theorem d_Model_text_64 : decode b_Model_text 64 = .ok (.isub, 1) := by decide +kernel
theorem d_Model_text_65 : decode b_Model_text 65 = .ok (.imul, 1) := by decide +kernel
theorem d_Model_text_66 : decode b_Model_text 66 = .ok (.lushr, 1) := by decide +kernel
theorem d_Model_text_67 : decode b_Model_text 67 = .ok (.goto 6, 3) := by decide +kernel
theorem d_Model_text_70 : decode b_Model_text 70 = .ok (.ldc2_w 193, 3) := by decide +kernel
theorem d_Model_text_73 : decode b_Model_text 73 = .ok (.l2i, 1) := by decide +kernel
theorem d_Model_text_74 : decode b_Model_text 74 = .ok (.i2b, 1) := by decide +kernel
theorem d_Model_text_75 : decode b_Model_text 75 = .ok (.bastore, 1) := by decide +kernel
theorem d_Model_text_76 : decode b_Model_text 76 = .ok (.iinc 7 1, 3) := by decide +kernel
theorem d_Model_text_79 : decode b_Model_text 79 = .ok (.goto (-48), 3) := by decide +kernel
theorem d_Model_text_82 : decode b_Model_text 82 = .ok (.return_, 1) := by decide +kernel
theorem d_Model_sixteen_0 : decode b_Model_sixteen 0 = .ok (.iload_n 0, 1) := by decide +kernel
theorem d_Model_sixteen_1 : decode b_Model_sixteen 1 = .ok (.ifCond .ne 9, 3) := by decide +kernel
theorem d_Model_sixteen_4 : decode b_Model_sixteen 4 = .ok (.ldc2_w 173, 3) := by decide +kernel
theorem d_Model_sixteen_7 : decode b_Model_sixteen 7 = .ok (.goto 6, 3) := by decide +kernel
theorem d_Model_sixteen_10 : decode b_Model_sixteen 10 = .ok (.ldc2_w 175, 3) := by decide +kernel
theorem d_Model_sixteen_13 : decode b_Model_sixteen 13 = .ok (.lstore_n 2, 1) := by decide +kernel
theorem d_Model_sixteen_14 : decode b_Model_sixteen 14 = .ok (.iload_n 0, 1) := by decide +kernel
theorem d_Model_sixteen_15 : decode b_Model_sixteen 15 = .ok (.ifCond .ne 9, 3) := by decide +kernel
theorem d_Model_sixteen_18 : decode b_Model_sixteen 18 = .ok (.ldc2_w 177, 3) := by decide +kernel
theorem d_Model_sixteen_21 : decode b_Model_sixteen 21 = .ok (.goto 6, 3) := by decide +kernel
theorem d_Model_sixteen_24 : decode b_Model_sixteen 24 = .ok (.ldc2_w 179, 3) := by decide +kernel
theorem d_Model_sixteen_27 : decode b_Model_sixteen 27 = .ok (.lstore 4, 2) := by decide +kernel
theorem d_Model_sixteen_29 : decode b_Model_sixteen 29 = .ok (.iload_n 1, 1) := by decide +kernel
theorem d_Model_sixteen_30 : decode b_Model_sixteen 30 = .ok (.bipush 8, 2) := by decide +kernel
theorem d_Model_sixteen_32 : decode b_Model_sixteen 32 = .ok (.if_icmp .ge 15, 3) := by decide +kernel
theorem d_Model_sixteen_35 : decode b_Model_sixteen 35 = .ok (.lload_n 2, 1) := by decide +kernel
theorem d_Model_sixteen_36 : decode b_Model_sixteen 36 = .ok (.bipush 56, 2) := by decide +kernel
theorem d_Model_sixteen_38 : decode b_Model_sixteen 38 = .ok (.bipush 8, 2) := by decide +kernel
theorem d_Model_sixteen_40 : decode b_Model_sixteen 40 = .ok (.iload_n 1, 1) := by decide +kernel
theorem d_Model_sixteen_41 : decode b_Model_sixteen 41 = .ok (.imul, 1) := by decide +kernel
theorem d_Model_sixteen_42 : decode b_Model_sixteen 42 = .ok (.isub, 1) := by decide +kernel
theorem d_Model_sixteen_43 : decode b_Model_sixteen 43 = .ok (.lushr, 1) := by decide +kernel
theorem d_Model_sixteen_44 : decode b_Model_sixteen 44 = .ok (.goto 13, 3) := by decide +kernel
theorem d_Model_sixteen_47 : decode b_Model_sixteen 47 = .ok (.lload 4, 2) := by decide +kernel
theorem d_Model_sixteen_49 : decode b_Model_sixteen 49 = .ok (.bipush 120, 2) := by decide +kernel
theorem d_Model_sixteen_51 : decode b_Model_sixteen 51 = .ok (.bipush 8, 2) := by decide +kernel
theorem d_Model_sixteen_53 : decode b_Model_sixteen 53 = .ok (.iload_n 1, 1) := by decide +kernel
theorem d_Model_sixteen_54 : decode b_Model_sixteen 54 = .ok (.imul, 1) := by decide +kernel
theorem d_Model_sixteen_55 : decode b_Model_sixteen 55 = .ok (.isub, 1) := by decide +kernel
theorem d_Model_sixteen_56 : decode b_Model_sixteen 56 = .ok (.lushr, 1) := by decide +kernel
theorem d_Model_sixteen_57 : decode b_Model_sixteen 57 = .ok (.ldc2_w 85, 3) := by decide +kernel
theorem d_Model_sixteen_60 : decode b_Model_sixteen 60 = .ok (.land, 1) := by decide +kernel
theorem d_Model_sixteen_61 : decode b_Model_sixteen 61 = .ok (.l2i, 1) := by decide +kernel
theorem d_Model_sixteen_62 : decode b_Model_sixteen 62 = .ok (.ireturn, 1) := by decide +kernel
set_option maxRecDepth 100000 in
theorem fg_Model_109 : FlG Wall classes R_Model 109 7 15 := ⟨_, _, _, rfl, by decide, in_Model, inW 797 rfl rfl⟩
set_option maxRecDepth 100000 in
theorem fg_Model_41 : FlG Wall classes R_Model 41 7 17 := ⟨_, _, _, rfl, by decide, in_Model, inW 799 rfl rfl⟩
set_option maxRecDepth 100000 in
theorem fg_Model_38 : FlG Wall classes R_Model 38 7 16 := ⟨_, _, _, rfl, by decide, in_Model, inW 798 rfl rfl⟩
set_option maxRecDepth 100000 in
theorem fc_Model_112 : FcS Wall R_Model 112 y_Model_needs b_Model_needs 1 (some .int) ws_Model_needs 1 := ⟨⟨rfl, cw_Model_needs, inW 929 rfl rfl, in_i_Model, by decide +kernel⟩, inW 930 rfl rfl⟩
set_option maxRecDepth 100000 in
theorem fc_Model_115 : FcV Wall classes R_Model 115 7 y_Model_lowestFree b_Model_lowestFree 3 (some .int) ws_Model_lowestFree 1 := ⟨⟨rfl, cw_Model_lowestFree, inW 932 rfl rfl, in_i_Model, by decide +kernel⟩, inW 934 rfl rfl, inP 35 rfl rfl, _, _, rfl⟩
set_option maxRecDepth 100000 in
theorem fg_Model_118 : FlG Wall classes R_Model 118 7 13 := ⟨_, _, _, rfl, by decide, in_Model, inW 795 rfl rfl⟩
set_option maxRecDepth 100000 in
theorem fg_Model_121 : FlG Wall classes R_Model 121 7 14 := ⟨_, _, _, rfl, by decide, in_Model, inW 796 rfl rfl⟩
set_option maxRecDepth 100000 in
theorem fc_Model_124 : FcV Wall classes R_Model 124 7 y_Model_sectorOf b_Model_sectorOf 5 (some .int) ws_Model_sectorOf 2 := ⟨⟨rfl, cw_Model_sectorOf, inW 944 rfl rfl, in_i_Model, by decide +kernel⟩, inW 946 rfl rfl, inP 37 rfl rfl, _, _, rfl⟩
set_option maxRecDepth 100000 in
theorem fc_Model_131 : FcS Wall R_Model 131 y_Model_loader b_Model_loader 0 (some .long) ws_Model_loader 0 := ⟨⟨rfl, cw_Model_loader, inW 936 rfl rfl, in_i_Model, by decide +kernel⟩, inW 937 rfl rfl⟩
set_option maxRecDepth 100000 in
theorem fc_Model_127 : FcS Wall R_Model 127 y_Model_kernel b_Model_kernel 0 (some .long) ws_Model_kernel 0 := ⟨⟨rfl, cw_Model_kernel, inW 975 rfl rfl, in_i_Model, by decide +kernel⟩, inW 976 rfl rfl⟩
set_option maxRecDepth 100000 in
theorem kc_Model_192 : Cond.constant R_Model 192 61440 ∈ Wall := inW 969 rfl rfl
set_option maxRecDepth 100000 in
theorem kc_Model_193 : Cond.constantLong R_Model 193 32 ∈ Wall := inW 957 rfl rfl
set_option maxRecDepth 100000 in
theorem kc_Model_175 : Cond.constantLong R_Model 175 (-6728148131701509308) ∈ Wall := inW 999 rfl rfl
set_option maxRecDepth 100000 in
theorem kc_Model_179 : Cond.constantLong R_Model 179 (-8664810549094737465) ∈ Wall := inW 1001 rfl rfl
set_option maxRecDepth 100000 in
theorem kc_Model_177 : Cond.constantLong R_Model 177 (-5022920268830553797) ∈ Wall := inW 1000 rfl rfl
set_option maxRecDepth 100000 in
theorem kc_Model_173 : Cond.constantLong R_Model 173 2914720392792298001 ∈ Wall := inW 998 rfl rfl
