abbrev b_Model_boot : ByteArray := prog_9_method_37_code
def y_Model_boot : MethodName := ⟨"BootMakerModel", "boot", "(I)I"⟩
def ws_Model_boot : List Cond := Cond.code y_Model_boot b_Model_boot 3 (some .int) :: Wall
set_option maxRecDepth 100000 in
theorem cw_Model_boot : Cond.code y_Model_boot b_Model_boot 3 (some .int) ∈ Wall := inW 1008 rfl rfl
abbrev b_Model_booted : ByteArray := prog_9_method_45_code
def y_Model_booted : MethodName := ⟨"BootMakerModel", "booted", "(I)I"⟩
def ws_Model_booted : List Cond := Cond.code y_Model_booted b_Model_booted 2 (some .int) :: Wall
set_option maxRecDepth 100000 in
theorem cw_Model_booted : Cond.code y_Model_booted b_Model_booted 2 (some .int) ∈ Wall := inW 1044 rfl rfl
abbrev b_Model_memory : ByteArray := prog_9_method_46_code
def y_Model_memory : MethodName := ⟨"BootMakerModel", "memory", "(I)I"⟩
def ws_Model_memory : List Cond := Cond.code y_Model_memory b_Model_memory 2 (some .int) :: Wall
set_option maxRecDepth 100000 in
theorem cw_Model_memory : Cond.code y_Model_memory b_Model_memory 2 (some .int) ∈ Wall := inW 1048 rfl rfl
abbrev b_Model_write : ByteArray := prog_9_method_29_code
def y_Model_write : MethodName := ⟨"BootMakerModel", "write", "()I"⟩
def ws_Model_write : List Cond := Cond.code y_Model_write b_Model_write 5 (some .int) :: Wall
set_option maxRecDepth 100000 in
theorem cw_Model_write : Cond.code y_Model_write b_Model_write 5 (some .int) ∈ Wall := inW 917 rfl rfl
theorem d_Model_boot_0 : decode b_Model_boot 0 = .ok (.aload_n 0, 1) := by decide +kernel
theorem d_Model_boot_1 : decode b_Model_boot 1 = .ok (.iload_n 1, 1) := by decide +kernel
theorem d_Model_boot_2 : decode b_Model_boot 2 = .ok (.iconst 0, 1) := by decide +kernel
theorem d_Model_boot_3 : decode b_Model_boot 3 = .ok (.iconst 1, 1) := by decide +kernel
theorem d_Model_boot_4 : decode b_Model_boot 4 = .ok (.invokestatic 73, 3) := by decide +kernel
theorem d_Model_boot_7 : decode b_Model_boot 7 = .ok (.ifCond .eq 7, 3) := by decide +kernel
theorem d_Model_boot_10 : decode b_Model_boot 10 = .ok (.iconst 0, 1) := by decide +kernel
theorem d_Model_boot_11 : decode b_Model_boot 11 = .ok (.goto 4, 3) := by decide +kernel
theorem d_Model_boot_14 : decode b_Model_boot 14 = .ok (.iconst 1, 1) := by decide +kernel
theorem d_Model_boot_15 : decode b_Model_boot 15 = .ok (.putfield 61, 3) := by decide +kernel
theorem d_Model_boot_18 : decode b_Model_boot 18 = .ok (.aload_n 0, 1) := by decide +kernel
theorem d_Model_boot_19 : decode b_Model_boot 19 = .ok (.getfield 61, 3) := by decide +kernel
theorem d_Model_boot_22 : decode b_Model_boot 22 = .ok (.iconst 1, 1) := by decide +kernel
theorem d_Model_boot_23 : decode b_Model_boot 23 = .ok (.if_icmp .ne 5, 3) := by decide +kernel
theorem d_Model_boot_26 : decode b_Model_boot 26 = .ok (.iconst 0, 1) := by decide +kernel
theorem d_Model_boot_27 : decode b_Model_boot 27 = .ok (.ireturn, 1) := by decide +kernel
theorem d_Model_boot_28 : decode b_Model_boot 28 = .ok (.aload_n 0, 1) := by decide +kernel
theorem d_Model_boot_29 : decode b_Model_boot 29 = .ok (.iconst 1, 1) := by decide +kernel
theorem d_Model_boot_30 : decode b_Model_boot 30 = .ok (.putfield 211, 3) := by decide +kernel
theorem d_Model_boot_33 : decode b_Model_boot 33 = .ok (.aload_n 0, 1) := by decide +kernel
theorem d_Model_boot_34 : decode b_Model_boot 34 = .ok (.iconst 0, 1) := by decide +kernel
theorem d_Model_boot_35 : decode b_Model_boot 35 = .ok (.putfield 215, 3) := by decide +kernel
theorem d_Model_boot_38 : decode b_Model_boot 38 = .ok (.aload_n 0, 1) := by decide +kernel
theorem d_Model_boot_39 : decode b_Model_boot 39 = .ok (.iconst (-1), 1) := by decide +kernel
theorem d_Model_boot_40 : decode b_Model_boot 40 = .ok (.putfield 52, 3) := by decide +kernel
theorem d_Model_boot_43 : decode b_Model_boot 43 = .ok (.aload_n 0, 1) := by decide +kernel
theorem d_Model_boot_44 : decode b_Model_boot 44 = .ok (.iconst (-1), 1) := by decide +kernel
theorem d_Model_boot_45 : decode b_Model_boot 45 = .ok (.putfield 55, 3) := by decide +kernel
theorem d_Model_boot_48 : decode b_Model_boot 48 = .ok (.aload_n 0, 1) := by decide +kernel
theorem d_Model_boot_49 : decode b_Model_boot 49 = .ok (.iconst (-1), 1) := by decide +kernel
theorem d_Model_boot_50 : decode b_Model_boot 50 = .ok (.putfield 58, 3) := by decide +kernel
theorem d_Model_boot_53 : decode b_Model_boot 53 = .ok (.iconst 0, 1) := by decide +kernel
theorem d_Model_boot_54 : decode b_Model_boot 54 = .ok (.istore_n 2, 1) := by decide +kernel
theorem d_Model_boot_55 : decode b_Model_boot 55 = .ok (.iload_n 2, 1) := by decide +kernel
theorem d_Model_boot_56 : decode b_Model_boot 56 = .ok (.ldc 44, 2) := by decide +kernel
theorem d_Model_boot_58 : decode b_Model_boot 58 = .ok (.if_icmp .ge 16, 3) := by decide +kernel
theorem d_Model_boot_61 : decode b_Model_boot 61 = .ok (.aload_n 0, 1) := by decide +kernel
theorem d_Model_boot_62 : decode b_Model_boot 62 = .ok (.getfield 45, 3) := by decide +kernel
theorem d_Model_boot_65 : decode b_Model_boot 65 = .ok (.iload_n 2, 1) := by decide +kernel
theorem d_Model_boot_66 : decode b_Model_boot 66 = .ok (.iconst 0, 1) := by decide +kernel
theorem d_Model_boot_67 : decode b_Model_boot 67 = .ok (.bastore, 1) := by decide +kernel
theorem d_Model_boot_68 : decode b_Model_boot 68 = .ok (.iinc 2 1, 3) := by decide +kernel
theorem d_Model_boot_71 : decode b_Model_boot 71 = .ok (.goto (-16), 3) := by decide +kernel
theorem d_Model_boot_74 : decode b_Model_boot 74 = .ok (.aload_n 0, 1) := by decide +kernel
theorem d_Model_boot_75 : decode b_Model_boot 75 = .ok (.sipush 510, 3) := by decide +kernel
theorem d_Model_boot_78 : decode b_Model_boot 78 = .ok (.invokevirtual 64, 3) := by decide +kernel
theorem d_Model_boot_81 : decode b_Model_boot 81 = .ok (.bipush 85, 2) := by decide +kernel
theorem d_Model_boot_83 : decode b_Model_boot 83 = .ok (.if_icmp .ne 16, 3) := by decide +kernel
theorem d_Model_boot_86 : decode b_Model_boot 86 = .ok (.aload_n 0, 1) := by decide +kernel
theorem d_Model_boot_87 : decode b_Model_boot 87 = .ok (.sipush 511, 3) := by decide +kernel
theorem d_Model_boot_90 : decode b_Model_boot 90 = .ok (.invokevirtual 64, 3) := by decide +kernel
theorem d_Model_boot_93 : decode b_Model_boot 93 = .ok (.sipush 170, 3) := by decide +kernel
theorem d_Model_boot_96 : decode b_Model_boot 96 = .ok (.if_icmp .eq 5, 3) := by decide +kernel
theorem d_Model_boot_99 : decode b_Model_boot 99 = .ok (.iconst 1, 1) := by decide +kernel
theorem d_Model_boot_100 : decode b_Model_boot 100 = .ok (.ireturn, 1) := by decide +kernel
theorem d_Model_boot_101 : decode b_Model_boot 101 = .ok (.iload_n 1, 1) := by decide +kernel
theorem d_Model_boot_102 : decode b_Model_boot 102 = .ok (.ifCond .ne 10, 3) := by decide +kernel
theorem d_Model_boot_105 : decode b_Model_boot 105 = .ok (.aload_n 0, 1) := by decide +kernel
theorem d_Model_boot_106 : decode b_Model_boot 106 = .ok (.invokevirtual 218, 3) := by decide +kernel
theorem d_Model_boot_109 : decode b_Model_boot 109 = .ok (.goto 7, 3) := by decide +kernel
theorem d_Model_boot_112 : decode b_Model_boot 112 = .ok (.aload_n 0, 1) := by decide +kernel
theorem d_Model_boot_113 : decode b_Model_boot 113 = .ok (.invokevirtual 221, 3) := by decide +kernel
theorem d_Model_boot_116 : decode b_Model_boot 116 = .ok (.istore_n 2, 1) := by decide +kernel
theorem d_Model_boot_117 : decode b_Model_boot 117 = .ok (.iload_n 2, 1) := by decide +kernel
theorem d_Model_boot_118 : decode b_Model_boot 118 = .ok (.ifCond .le 7, 3) := by decide +kernel
theorem d_Model_boot_121 : decode b_Model_boot 121 = .ok (.iload_n 2, 1) := by decide +kernel
theorem d_Model_boot_122 : decode b_Model_boot 122 = .ok (.goto 7, 3) := by decide +kernel
theorem d_Model_boot_125 : decode b_Model_boot 125 = .ok (.aload_n 0, 1) := by decide +kernel
theorem d_Model_boot_126 : decode b_Model_boot 126 = .ok (.invokevirtual 224, 3) := by decide +kernel
theorem d_Model_boot_129 : decode b_Model_boot 129 = .ok (.ireturn, 1) := by decide +kernel
theorem d_Model_booted_0 : decode b_Model_booted 0 = .ok (.aload_n 0, 1) := by decide +kernel
theorem d_Model_booted_1 : decode b_Model_booted 1 = .ok (.iconst 0, 1) := by decide +kernel
theorem d_Model_booted_2 : decode b_Model_booted 2 = .ok (.putfield 61, 3) := by decide +kernel
theorem d_Model_booted_5 : decode b_Model_booted 5 = .ok (.aload_n 0, 1) := by decide +kernel
theorem d_Model_booted_6 : decode b_Model_booted 6 = .ok (.getfield 211, 3) := by decide +kernel
theorem d_Model_booted_9 : decode b_Model_booted 9 = .ok (.ifCond .ne 5, 3) := by decide +kernel
theorem d_Model_booted_12 : decode b_Model_booted 12 = .ok (.iconst (-1), 1) := by decide +kernel
theorem d_Model_booted_13 : decode b_Model_booted 13 = .ok (.ireturn, 1) := by decide +kernel
theorem d_Model_booted_14 : decode b_Model_booted 14 = .ok (.iload_n 1, 1) := by decide +kernel
theorem d_Model_booted_15 : decode b_Model_booted 15 = .ok (.ifCond .ne 10, 3) := by decide +kernel
theorem d_Model_booted_18 : decode b_Model_booted 18 = .ok (.aload_n 0, 1) := by decide +kernel
theorem d_Model_booted_19 : decode b_Model_booted 19 = .ok (.getfield 215, 3) := by decide +kernel
theorem d_Model_booted_22 : decode b_Model_booted 22 = .ok (.goto 40, 3) := by decide +kernel
theorem d_Model_booted_25 : decode b_Model_booted 25 = .ok (.iload_n 1, 1) := by decide +kernel
theorem d_Model_booted_26 : decode b_Model_booted 26 = .ok (.iconst 1, 1) := by decide +kernel
theorem d_Model_booted_27 : decode b_Model_booted 27 = .ok (.if_icmp .ne 10, 3) := by decide +kernel
theorem d_Model_booted_30 : decode b_Model_booted 30 = .ok (.aload_n 0, 1) := by decide +kernel
theorem d_Model_booted_31 : decode b_Model_booted 31 = .ok (.getfield 52, 3) := by decide +kernel
theorem d_Model_booted_34 : decode b_Model_booted 34 = .ok (.goto 28, 3) := by decide +kernel
theorem d_Model_booted_37 : decode b_Model_booted 37 = .ok (.iload_n 1, 1) := by decide +kernel
theorem d_Model_booted_38 : decode b_Model_booted 38 = .ok (.iconst 2, 1) := by decide +kernel
theorem d_Model_booted_39 : decode b_Model_booted 39 = .ok (.if_icmp .ne 10, 3) := by decide +kernel
theorem d_Model_booted_42 : decode b_Model_booted 42 = .ok (.aload_n 0, 1) := by decide +kernel
theorem d_Model_booted_43 : decode b_Model_booted 43 = .ok (.getfield 55, 3) := by decide +kernel
theorem d_Model_booted_46 : decode b_Model_booted 46 = .ok (.goto 16, 3) := by decide +kernel
theorem d_Model_booted_49 : decode b_Model_booted 49 = .ok (.iload_n 1, 1) := by decide +kernel
theorem d_Model_booted_50 : decode b_Model_booted 50 = .ok (.iconst 3, 1) := by decide +kernel
theorem d_Model_booted_51 : decode b_Model_booted 51 = .ok (.if_icmp .ne 10, 3) := by decide +kernel
theorem d_Model_booted_54 : decode b_Model_booted 54 = .ok (.aload_n 0, 1) := by decide +kernel
theorem d_Model_booted_55 : decode b_Model_booted 55 = .ok (.getfield 58, 3) := by decide +kernel
theorem d_Model_booted_58 : decode b_Model_booted 58 = .ok (.goto 4, 3) := by decide +kernel
theorem d_Model_booted_61 : decode b_Model_booted 61 = .ok (.iconst (-1), 1) := by decide +kernel
theorem d_Model_booted_62 : decode b_Model_booted 62 = .ok (.ireturn, 1) := by decide +kernel
theorem d_Model_memory_0 : decode b_Model_memory 0 = .ok (.aload_n 0, 1) := by decide +kernel
theorem d_Model_memory_1 : decode b_Model_memory 1 = .ok (.iload_n 1, 1) := by decide +kernel
theorem d_Model_memory_2 : decode b_Model_memory 2 = .ok (.iconst 0, 1) := by decide +kernel
theorem d_Model_memory_3 : decode b_Model_memory 3 = .ok (.ldc 247, 2) := by decide +kernel
theorem d_Model_memory_5 : decode b_Model_memory 5 = .ok (.invokestatic 73, 3) := by decide +kernel
theorem d_Model_memory_8 : decode b_Model_memory 8 = .ok (.ifCond .eq 7, 3) := by decide +kernel
theorem d_Model_memory_11 : decode b_Model_memory 11 = .ok (.iconst 0, 1) := by decide +kernel
theorem d_Model_memory_12 : decode b_Model_memory 12 = .ok (.goto 4, 3) := by decide +kernel
theorem d_Model_memory_15 : decode b_Model_memory 15 = .ok (.iconst 1, 1) := by decide +kernel
theorem d_Model_memory_16 : decode b_Model_memory 16 = .ok (.putfield 61, 3) := by decide +kernel
theorem d_Model_memory_19 : decode b_Model_memory 19 = .ok (.aload_n 0, 1) := by decide +kernel
theorem d_Model_memory_20 : decode b_Model_memory 20 = .ok (.getfield 61, 3) := by decide +kernel
theorem d_Model_memory_23 : decode b_Model_memory 23 = .ok (.iconst 1, 1) := by decide +kernel
theorem d_Model_memory_24 : decode b_Model_memory 24 = .ok (.if_icmp .ne 7, 3) := by decide +kernel
theorem d_Model_memory_27 : decode b_Model_memory 27 = .ok (.iconst 0, 1) := by decide +kernel
theorem d_Model_memory_28 : decode b_Model_memory 28 = .ok (.goto 13, 3) := by decide +kernel
theorem d_Model_memory_31 : decode b_Model_memory 31 = .ok (.aload_n 0, 1) := by decide +kernel
theorem d_Model_memory_32 : decode b_Model_memory 32 = .ok (.getfield 45, 3) := by decide +kernel
theorem d_Model_memory_35 : decode b_Model_memory 35 = .ok (.iload_n 1, 1) := by decide +kernel
theorem d_Model_memory_36 : decode b_Model_memory 36 = .ok (.baload, 1) := by decide +kernel
theorem d_Model_memory_37 : decode b_Model_memory 37 = .ok (.sipush 255, 3) := by decide +kernel
theorem d_Model_memory_40 : decode b_Model_memory 40 = .ok (.iand, 1) := by decide +kernel
theorem d_Model_memory_41 : decode b_Model_memory 41 = .ok (.ireturn, 1) := by decide +kernel
theorem d_Model_write_0 : decode b_Model_write 0 = .ok (.aload_n 0, 1) := by decide +kernel
theorem d_Model_write_1 : decode b_Model_write 1 = .ok (.iconst 0, 1) := by decide +kernel
theorem d_Model_write_2 : decode b_Model_write 2 = .ok (.putfield 61, 3) := by decide +kernel
theorem d_Model_write_5 : decode b_Model_write 5 = .ok (.aload_n 0, 1) := by decide +kernel
theorem d_Model_write_6 : decode b_Model_write 6 = .ok (.invokevirtual 134, 3) := by decide +kernel
theorem d_Model_write_9 : decode b_Model_write 9 = .ok (.istore_n 1, 1) := by decide +kernel
theorem d_Model_write_10 : decode b_Model_write 10 = .ok (.iload_n 1, 1) := by decide +kernel
theorem d_Model_write_11 : decode b_Model_write 11 = .ok (.ifCond .ge 12, 3) := by decide +kernel
theorem d_Model_write_14 : decode b_Model_write 14 = .ok (.aload_n 0, 1) := by decide +kernel
theorem d_Model_write_15 : decode b_Model_write 15 = .ok (.getfield 91, 3) := by decide +kernel
theorem d_Model_write_18 : decode b_Model_write 18 = .ok (.ifCond .le 5, 3) := by decide +kernel
theorem d_Model_write_21 : decode b_Model_write 21 = .ok (.iconst 1, 1) := by decide +kernel
theorem d_Model_write_22 : decode b_Model_write 22 = .ok (.ireturn, 1) := by decide +kernel
theorem d_Model_write_23 : decode b_Model_write 23 = .ok (.iconst 0, 1) := by decide +kernel
theorem d_Model_write_24 : decode b_Model_write 24 = .ok (.istore_n 2, 1) := by decide +kernel
theorem d_Model_write_25 : decode b_Model_write 25 = .ok (.iload_n 1, 1) := by decide +kernel
theorem d_Model_write_26 : decode b_Model_write 26 = .ok (.ifCond .lt 90, 3) := by decide +kernel
theorem d_Model_write_29 : decode b_Model_write 29 = .ok (.aload_n 0, 1) := by decide +kernel
theorem d_Model_write_30 : decode b_Model_write 30 = .ok (.aload_n 0, 1) := by decide +kernel
theorem d_Model_write_31 : decode b_Model_write 31 = .ok (.getfield 18, 3) := by decide +kernel
theorem d_Model_write_34 : decode b_Model_write 34 = .ok (.iload_n 1, 1) := by decide +kernel
theorem d_Model_write_35 : decode b_Model_write 35 = .ok (.iaload, 1) := by decide +kernel
theorem d_Model_write_36 : decode b_Model_write 36 = .ok (.putfield 118, 3) := by decide +kernel
theorem d_Model_write_39 : decode b_Model_write 39 = .ok (.aload_n 0, 1) := by decide +kernel
theorem d_Model_write_40 : decode b_Model_write 40 = .ok (.aload_n 0, 1) := by decide +kernel
theorem d_Model_write_41 : decode b_Model_write 41 = .ok (.getfield 21, 3) := by decide +kernel
theorem d_Model_write_44 : decode b_Model_write 44 = .ok (.iload_n 1, 1) := by decide +kernel
theorem d_Model_write_45 : decode b_Model_write 45 = .ok (.iaload, 1) := by decide +kernel
theorem d_Model_write_46 : decode b_Model_write 46 = .ok (.invokestatic 138, 3) := by decide +kernel
theorem d_Model_write_49 : decode b_Model_write 49 = .ok (.putfield 121, 3) := by decide +kernel
theorem d_Model_write_52 : decode b_Model_write 52 = .ok (.aload_n 0, 1) := by decide +kernel
theorem d_Model_write_53 : decode b_Model_write 53 = .ok (.aload_n 0, 1) := by decide +kernel
theorem d_Model_write_54 : decode b_Model_write 54 = .ok (.getfield 21, 3) := by decide +kernel
theorem d_Model_write_57 : decode b_Model_write 57 = .ok (.iload_n 1, 1) := by decide +kernel
theorem d_Model_write_58 : decode b_Model_write 58 = .ok (.iaload, 1) := by decide +kernel
theorem d_Model_write_59 : decode b_Model_write 59 = .ok (.iconst 3, 1) := by decide +kernel
theorem d_Model_write_60 : decode b_Model_write 60 = .ok (.isub, 1) := by decide +kernel
theorem d_Model_write_61 : decode b_Model_write 61 = .ok (.iconst 2, 1) := by decide +kernel
theorem d_Model_write_62 : decode b_Model_write 62 = .ok (.aload_n 0, 1) := by decide +kernel
theorem d_Model_write_63 : decode b_Model_write 63 = .ok (.getfield 121, 3) := by decide +kernel
theorem d_Model_write_66 : decode b_Model_write 66 = .ok (.imul, 1) := by decide +kernel
theorem d_Model_write_67 : decode b_Model_write 67 = .ok (.isub, 1) := by decide +kernel
theorem d_Model_write_68 : decode b_Model_write 68 = .ok (.putfield 109, 3) := by decide +kernel
theorem d_Model_write_71 : decode b_Model_write 71 = .ok (.aload_n 0, 1) := by decide +kernel
theorem d_Model_write_72 : decode b_Model_write 72 = .ok (.getfield 109, 3) := by decide +kernel
theorem d_Model_write_75 : decode b_Model_write 75 = .ok (.ifCond .le 7, 3) := by decide +kernel
theorem d_Model_write_78 : decode b_Model_write 78 = .ok (.iconst 1, 1) := by decide +kernel
theorem d_Model_write_79 : decode b_Model_write 79 = .ok (.goto 4, 3) := by decide +kernel
theorem d_Model_write_82 : decode b_Model_write 82 = .ok (.iconst 0, 1) := by decide +kernel
theorem d_Model_write_83 : decode b_Model_write 83 = .ok (.istore_n 2, 1) := by decide +kernel
theorem d_Model_write_84 : decode b_Model_write 84 = .ok (.aload_n 0, 1) := by decide +kernel
theorem d_Model_write_85 : decode b_Model_write 85 = .ok (.getfield 91, 3) := by decide +kernel
theorem d_Model_write_88 : decode b_Model_write 88 = .ok (.ifCond .le 16, 3) := by decide +kernel
theorem d_Model_write_91 : decode b_Model_write 91 = .ok (.iload_n 2, 1) := by decide +kernel
theorem d_Model_write_92 : decode b_Model_write 92 = .ok (.ifCond .eq 10, 3) := by decide +kernel
theorem d_Model_write_95 : decode b_Model_write 95 = .ok (.aload_n 0, 1) := by decide +kernel
theorem d_Model_write_96 : decode b_Model_write 96 = .ok (.invokevirtual 141, 3) := by decide +kernel
theorem d_Model_write_99 : decode b_Model_write 99 = .ok (.ifCond .ne 5, 3) := by decide +kernel
theorem d_Model_write_102 : decode b_Model_write 102 = .ok (.iconst 2, 1) := by decide +kernel
theorem d_Model_write_103 : decode b_Model_write 103 = .ok (.ireturn, 1) := by decide +kernel
theorem d_Model_write_104 : decode b_Model_write 104 = .ok (.aload_n 0, 1) := by decide +kernel
theorem d_Model_write_105 : decode b_Model_write 105 = .ok (.getfield 91, 3) := by decide +kernel
theorem d_Model_write_108 : decode b_Model_write 108 = .ok (.ifCond .ne 8, 3) := by decide +kernel
theorem d_Model_write_111 : decode b_Model_write 111 = .ok (.aload_n 0, 1) := by decide +kernel
theorem d_Model_write_112 : decode b_Model_write 112 = .ok (.invokevirtual 141, 3) := by decide +kernel
theorem d_Model_write_115 : decode b_Model_write 115 = .ok (.pop, 1) := by decide +kernel
theorem d_Model_write_116 : decode b_Model_write 116 = .ok (.aload_n 0, 1) := by decide +kernel
theorem d_Model_write_117 : decode b_Model_write 117 = .ok (.invokestatic 131, 3) := by decide +kernel
theorem d_Model_write_120 : decode b_Model_write 120 = .ok (.invokevirtual 98, 3) := by decide +kernel
theorem d_Model_write_123 : decode b_Model_write 123 = .ok (.istore_n 3, 1) := by decide +kernel
theorem d_Model_write_124 : decode b_Model_write 124 = .ok (.iload_n 3, 1) := by decide +kernel
theorem d_Model_write_125 : decode b_Model_write 125 = .ok (.ifCond .lt 15, 3) := by decide +kernel
theorem d_Model_write_128 : decode b_Model_write 128 = .ok (.aload_n 0, 1) := by decide +kernel
theorem d_Model_write_129 : decode b_Model_write 129 = .ok (.iload_n 3, 1) := by decide +kernel
theorem d_Model_write_130 : decode b_Model_write 130 = .ok (.invokevirtual 145, 3) := by decide +kernel
theorem d_Model_write_133 : decode b_Model_write 133 = .ok (.bipush 20, 2) := by decide +kernel
theorem d_Model_write_135 : decode b_Model_write 135 = .ok (.if_icmp .le 5, 3) := by decide +kernel
theorem d_Model_write_138 : decode b_Model_write 138 = .ok (.iconst 3, 1) := by decide +kernel
theorem d_Model_write_139 : decode b_Model_write 139 = .ok (.ireturn, 1) := by decide +kernel
theorem d_Model_write_140 : decode b_Model_write 140 = .ok (.iconst 0, 1) := by decide +kernel
theorem d_Model_write_141 : decode b_Model_write 141 = .ok (.istore 4, 2) := by decide +kernel
theorem d_Model_write_143 : decode b_Model_write 143 = .ok (.iload 4, 2) := by decide +kernel
theorem d_Model_write_145 : decode b_Model_write 145 = .ok (.sipush 512, 3) := by decide +kernel
theorem d_Model_write_148 : decode b_Model_write 148 = .ok (.aload_n 0, 1) := by decide +kernel
theorem d_Model_write_149 : decode b_Model_write 149 = .ok (.getfield 48, 3) := by decide +kernel
theorem d_Model_write_152 : decode b_Model_write 152 = .ok (.imul, 1) := by decide +kernel
theorem d_Model_write_153 : decode b_Model_write 153 = .ok (.if_icmp .ge 17, 3) := by decide +kernel
theorem d_Model_write_156 : decode b_Model_write 156 = .ok (.aload_n 0, 1) := by decide +kernel
theorem d_Model_write_157 : decode b_Model_write 157 = .ok (.getfield 8, 3) := by decide +kernel
theorem d_Model_write_160 : decode b_Model_write 160 = .ok (.iload 4, 2) := by decide +kernel
theorem d_Model_write_162 : decode b_Model_write 162 = .ok (.iconst 0, 1) := by decide +kernel
theorem d_Model_write_163 : decode b_Model_write 163 = .ok (.bastore, 1) := by decide +kernel
theorem d_Model_write_164 : decode b_Model_write 164 = .ok (.iinc 4 1, 3) := by decide +kernel
theorem d_Model_write_167 : decode b_Model_write 167 = .ok (.goto (-24), 3) := by decide +kernel
theorem d_Model_write_170 : decode b_Model_write 170 = .ok (.iload_n 2, 1) := by decide +kernel
theorem d_Model_write_171 : decode b_Model_write 171 = .ok (.ifCond .eq 13, 3) := by decide +kernel
theorem d_Model_write_174 : decode b_Model_write 174 = .ok (.aload_n 0, 1) := by decide +kernel
theorem d_Model_write_175 : decode b_Model_write 175 = .ok (.aload_n 0, 1) := by decide +kernel
theorem d_Model_write_176 : decode b_Model_write 176 = .ok (.getfield 21, 3) := by decide +kernel
theorem d_Model_write_179 : decode b_Model_write 179 = .ok (.iload_n 1, 1) := by decide +kernel
theorem d_Model_write_180 : decode b_Model_write 180 = .ok (.iaload, 1) := by decide +kernel
theorem d_Model_write_181 : decode b_Model_write 181 = .ok (.invokevirtual 148, 3) := by decide +kernel
theorem d_Model_write_184 : decode b_Model_write 184 = .ok (.aload_n 0, 1) := by decide +kernel
theorem d_Model_write_185 : decode b_Model_write 185 = .ok (.iload_n 3, 1) := by decide +kernel
theorem d_Model_write_186 : decode b_Model_write 186 = .ok (.invokevirtual 152, 3) := by decide +kernel
theorem d_Model_write_189 : decode b_Model_write 189 = .ok (.aload_n 0, 1) := by decide +kernel
theorem d_Model_write_190 : decode b_Model_write 190 = .ok (.invokevirtual 155, 3) := by decide +kernel
theorem d_Model_write_193 : decode b_Model_write 193 = .ok (.iconst 0, 1) := by decide +kernel
theorem d_Model_write_194 : decode b_Model_write 194 = .ok (.ireturn, 1) := by decide +kernel
set_option maxRecDepth 100000 in
theorem fg_Model_211 : FlG Wall classes R_Model 211 7 22 := ⟨_, _, _, rfl, by decide, in_Model, inW 804 rfl rfl⟩
set_option maxRecDepth 100000 in
theorem fp_Model_211 : FlP Wall classes R_Model 211 7 22 .boolean := ⟨_, _, _, t_Model, rfl, by decide, in_Model, inW 804 rfl rfl, t_Model_ok, n_Model, rfl, by decide +kernel⟩
set_option maxRecDepth 100000 in
theorem kc_Model_44 : Cond.constant R_Model 44 65536 ∈ Wall := inW 781 rfl rfl
set_option maxRecDepth 100000 in
theorem fc_Model_224 : FcV Wall classes R_Model 224 7 y_Model_loaded b_Model_loaded 18 (some .int) ws_Model_loaded 0 := ⟨⟨rfl, cw_Model_loaded, inW 1027 rfl rfl, in_i_Model, by decide +kernel⟩, inW 1029 rfl rfl, inP 51 rfl rfl, _, _, rfl⟩
set_option maxRecDepth 100000 in
theorem fc_Model_221 : FcV Wall classes R_Model 221 7 y_Model_byLoader b_Model_byLoader 10 (some .int) ws_Model_byLoader 0 := ⟨⟨rfl, cw_Model_byLoader, inW 1017 rfl rfl, in_i_Model, by decide +kernel⟩, inW 1019 rfl rfl, inP 49 rfl rfl, _, _, rfl⟩
set_option maxRecDepth 100000 in
theorem fc_Model_218 : FcV Wall classes R_Model 218 7 y_Model_byTable b_Model_byTable 9 (some .int) ws_Model_byTable 0 := ⟨⟨rfl, cw_Model_byTable, inW 1009 rfl rfl, in_i_Model, by decide +kernel⟩, inW 1011 rfl rfl, inP 47 rfl rfl, _, _, rfl⟩
set_option maxRecDepth 100000 in
theorem kc_Model_247 : Cond.constant R_Model 247 65535 ∈ Wall := inW 1049 rfl rfl
set_option maxRecDepth 100000 in
theorem fp_Model_118 : FlP Wall classes R_Model 118 7 13 .int := ⟨_, _, _, t_Model, rfl, by decide, in_Model, inW 795 rfl rfl, t_Model_ok, n_Model, rfl, by decide +kernel⟩
set_option maxRecDepth 100000 in
theorem fp_Model_121 : FlP Wall classes R_Model 121 7 14 .int := ⟨_, _, _, t_Model, rfl, by decide, in_Model, inW 796 rfl rfl, t_Model_ok, n_Model, rfl, by decide +kernel⟩
set_option maxRecDepth 100000 in
theorem fp_Model_109 : FlP Wall classes R_Model 109 7 15 .int := ⟨_, _, _, t_Model, rfl, by decide, in_Model, inW 797 rfl rfl, t_Model_ok, n_Model, rfl, by decide +kernel⟩
set_option maxRecDepth 100000 in
theorem fc_Model_134 : FcV Wall classes R_Model 134 7 y_Model_bootPartition b_Model_bootPartition 2 (some .int) ws_Model_bootPartition 0 := ⟨⟨rfl, cw_Model_bootPartition, inW 918 rfl rfl, in_i_Model, by decide +kernel⟩, inW 920 rfl rfl, inP 33 rfl rfl, _, _, rfl⟩
set_option maxRecDepth 100000 in
theorem fc_Model_152 : FcV Wall classes R_Model 152 7 y_Model_beginning b_Model_beginning 5 (none) ws_Model_beginning 1 := ⟨⟨rfl, cw_Model_beginning, inW 979 rfl rfl, in_i_Model, by decide +kernel⟩, inW 981 rfl rfl, inP 43 rfl rfl, _, _, rfl⟩
set_option maxRecDepth 100000 in
theorem fc_Model_155 : FcV Wall classes R_Model 155 7 y_Model_tables b_Model_tables 6 (none) ws_Model_tables 0 := ⟨⟨rfl, cw_Model_tables, inW 991 rfl rfl, in_i_Model, by decide +kernel⟩, inW 993 rfl rfl, inP 46 rfl rfl, _, _, rfl⟩
set_option maxRecDepth 100000 in
theorem fc_Model_148 : FcV Wall classes R_Model 148 7 y_Model_lay b_Model_lay 6 (none) ws_Model_lay 1 := ⟨⟨rfl, cw_Model_lay, inW 948 rfl rfl, in_i_Model, by decide +kernel⟩, inW 950 rfl rfl, inP 38 rfl rfl, _, _, rfl⟩
set_option maxRecDepth 100000 in
theorem fc_Model_138 : FcS Wall R_Model 138 y_Model_tableOf b_Model_tableOf 2 (some .int) ws_Model_tableOf 1 := ⟨⟨rfl, cw_Model_tableOf, inW 922 rfl rfl, in_i_Model, by decide +kernel⟩, inW 923 rfl rfl⟩
set_option maxRecDepth 100000 in
theorem fc_Model_141 : FcV Wall classes R_Model 141 7 y_Model_given b_Model_given 6 (some .boolean) ws_Model_given 0 := ⟨⟨rfl, cw_Model_given, inW 925 rfl rfl, in_i_Model, by decide +kernel⟩, inW 927 rfl rfl, inP 34 rfl rfl, _, _, rfl⟩
