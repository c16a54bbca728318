abbrev b_Writer_fileSum : ByteArray := prog_7_method_6_code
def y_Writer_fileSum : MethodName := ⟨"BootMaker$Writer", "fileSum", "(I)I"⟩
def ws_Writer_fileSum : List Cond := Cond.code y_Writer_fileSum b_Writer_fileSum 3 (some .int) :: Wall
set_option maxRecDepth 100000 in
theorem cw_Writer_fileSum : Cond.code y_Writer_fileSum b_Writer_fileSum 3 (some .int) ∈ Wall := inW 381 rfl rfl
abbrev b_Writer_writeRuns : ByteArray := prog_7_method_5_code
def y_Writer_writeRuns : MethodName := ⟨"BootMaker$Writer", "writeRuns", "(I)V"⟩
def ws_Writer_writeRuns : List Cond := Cond.code y_Writer_writeRuns b_Writer_writeRuns 4 (none) :: Wall
set_option maxRecDepth 100000 in
theorem cw_Writer_writeRuns : Cond.code y_Writer_writeRuns b_Writer_writeRuns 4 (none) ∈ Wall := inW 372 rfl rfl
abbrev b_Writer_writeSectorZero : ByteArray := prog_7_method_4_code
def y_Writer_writeSectorZero : MethodName := ⟨"BootMaker$Writer", "writeSectorZero", "()V"⟩
def ws_Writer_writeSectorZero : List Cond := Cond.code y_Writer_writeSectorZero b_Writer_writeSectorZero 2 (none) :: Wall
set_option maxRecDepth 100000 in
theorem cw_Writer_writeSectorZero : Cond.code y_Writer_writeSectorZero b_Writer_writeSectorZero 2 (none) ∈ Wall := inW 362 rfl rfl
abbrev b_Writer_writeEntry : ByteArray := prog_7_method_8_code
def y_Writer_writeEntry : MethodName := ⟨"BootMaker$Writer", "writeEntry", "(II)V"⟩
def ws_Writer_writeEntry : List Cond := Cond.code y_Writer_writeEntry b_Writer_writeEntry 6 (none) :: Wall
set_option maxRecDepth 100000 in
theorem cw_Writer_writeEntry : Cond.code y_Writer_writeEntry b_Writer_writeEntry 6 (none) ∈ Wall := inW 472 rfl rfl
abbrev b_Writer_writeTable : ByteArray := prog_7_method_7_code
def y_Writer_writeTable : MethodName := ⟨"BootMaker$Writer", "writeTable", "(III)V"⟩
def ws_Writer_writeTable : List Cond := Cond.code y_Writer_writeTable b_Writer_writeTable 6 (none) :: Wall
set_option maxRecDepth 100000 in
theorem cw_Writer_writeTable : Cond.code y_Writer_writeTable b_Writer_writeTable 6 (none) ∈ Wall := inW 468 rfl rfl
theorem d_Writer_fileSum_0 : decode b_Writer_fileSum 0 = .ok (.aload_n 0, 1) := by decide +kernel
theorem d_Writer_fileSum_1 : decode b_Writer_fileSum 1 = .ok (.getfield 23, 3) := by decide +kernel
theorem d_Writer_fileSum_4 : decode b_Writer_fileSum 4 = .ok (.invokevirtual 137, 3) := by decide +kernel
theorem d_Writer_fileSum_7 : decode b_Writer_fileSum 7 = .ok (.iconst 0, 1) := by decide +kernel
theorem d_Writer_fileSum_8 : decode b_Writer_fileSum 8 = .ok (.istore_n 2, 1) := by decide +kernel
theorem d_Writer_fileSum_9 : decode b_Writer_fileSum 9 = .ok (.iload_n 2, 1) := by decide +kernel
theorem d_Writer_fileSum_10 : decode b_Writer_fileSum 10 = .ok (.aload_n 0, 1) := by decide +kernel
theorem d_Writer_fileSum_11 : decode b_Writer_fileSum 11 = .ok (.getfield 19, 3) := by decide +kernel
theorem d_Writer_fileSum_14 : decode b_Writer_fileSum 14 = .ok (.getfield 97, 3) := by decide +kernel
theorem d_Writer_fileSum_17 : decode b_Writer_fileSum 17 = .ok (.iload_n 1, 1) := by decide +kernel
theorem d_Writer_fileSum_18 : decode b_Writer_fileSum 18 = .ok (.iaload, 1) := by decide +kernel
theorem d_Writer_fileSum_19 : decode b_Writer_fileSum 19 = .ok (.if_icmp .ge 32, 3) := by decide +kernel
theorem d_Writer_fileSum_22 : decode b_Writer_fileSum 22 = .ok (.aload_n 0, 1) := by decide +kernel
theorem d_Writer_fileSum_23 : decode b_Writer_fileSum 23 = .ok (.getfield 23, 3) := by decide +kernel
theorem d_Writer_fileSum_26 : decode b_Writer_fileSum 26 = .ok (.aload_n 0, 1) := by decide +kernel
theorem d_Writer_fileSum_27 : decode b_Writer_fileSum 27 = .ok (.getfield 19, 3) := by decide +kernel
theorem d_Writer_fileSum_30 : decode b_Writer_fileSum 30 = .ok (.iload_n 1, 1) := by decide +kernel
theorem d_Writer_fileSum_31 : decode b_Writer_fileSum 31 = .ok (.iload_n 2, 1) := by decide +kernel
theorem d_Writer_fileSum_32 : decode b_Writer_fileSum 32 = .ok (.aload_n 0, 1) := by decide +kernel
theorem d_Writer_fileSum_33 : decode b_Writer_fileSum 33 = .ok (.getfield 32, 3) := by decide +kernel
theorem d_Writer_fileSum_36 : decode b_Writer_fileSum 36 = .ok (.getfield 142, 3) := by decide +kernel
theorem d_Writer_fileSum_39 : decode b_Writer_fileSum 39 = .ok (.invokevirtual 145, 3) := by decide +kernel
theorem d_Writer_fileSum_42 : decode b_Writer_fileSum 42 = .ok (.invokevirtual 149, 3) := by decide +kernel
theorem d_Writer_fileSum_45 : decode b_Writer_fileSum 45 = .ok (.iinc 2 1, 3) := by decide +kernel
theorem d_Writer_fileSum_48 : decode b_Writer_fileSum 48 = .ok (.goto (-39), 3) := by decide +kernel
theorem d_Writer_fileSum_51 : decode b_Writer_fileSum 51 = .ok (.aload_n 0, 1) := by decide +kernel
theorem d_Writer_fileSum_52 : decode b_Writer_fileSum 52 = .ok (.getfield 23, 3) := by decide +kernel
theorem d_Writer_fileSum_55 : decode b_Writer_fileSum 55 = .ok (.invokevirtual 152, 3) := by decide +kernel
theorem d_Writer_fileSum_58 : decode b_Writer_fileSum 58 = .ok (.ireturn, 1) := by decide +kernel
theorem d_Writer_writeRuns_0 : decode b_Writer_writeRuns 0 = .ok (.aload_n 0, 1) := by decide +kernel
theorem d_Writer_writeRuns_1 : decode b_Writer_writeRuns 1 = .ok (.getfield 9, 3) := by decide +kernel
theorem d_Writer_writeRuns_4 : decode b_Writer_writeRuns 4 = .ok (.bipush 64, 2) := by decide +kernel
theorem d_Writer_writeRuns_6 : decode b_Writer_writeRuns 6 = .ok (.aload_n 0, 1) := by decide +kernel
theorem d_Writer_writeRuns_7 : decode b_Writer_writeRuns 7 = .ok (.getfield 32, 3) := by decide +kernel
theorem d_Writer_writeRuns_10 : decode b_Writer_writeRuns 10 = .ok (.getfield 107, 3) := by decide +kernel
theorem d_Writer_writeRuns_13 : decode b_Writer_writeRuns 13 = .ok (.invokevirtual 104, 3) := by decide +kernel
theorem d_Writer_writeRuns_16 : decode b_Writer_writeRuns 16 = .ok (.bipush 65, 2) := by decide +kernel
theorem d_Writer_writeRuns_18 : decode b_Writer_writeRuns 18 = .ok (.istore_n 2, 1) := by decide +kernel
theorem d_Writer_writeRuns_19 : decode b_Writer_writeRuns 19 = .ok (.iconst 0, 1) := by decide +kernel
theorem d_Writer_writeRuns_20 : decode b_Writer_writeRuns 20 = .ok (.istore_n 3, 1) := by decide +kernel
theorem d_Writer_writeRuns_21 : decode b_Writer_writeRuns 21 = .ok (.iload_n 3, 1) := by decide +kernel
theorem d_Writer_writeRuns_22 : decode b_Writer_writeRuns 22 = .ok (.aload_n 0, 1) := by decide +kernel
theorem d_Writer_writeRuns_23 : decode b_Writer_writeRuns 23 = .ok (.getfield 32, 3) := by decide +kernel
theorem d_Writer_writeRuns_26 : decode b_Writer_writeRuns 26 = .ok (.getfield 107, 3) := by decide +kernel
theorem d_Writer_writeRuns_29 : decode b_Writer_writeRuns 29 = .ok (.if_icmp .ge 52, 3) := by decide +kernel
theorem d_Writer_writeRuns_32 : decode b_Writer_writeRuns 32 = .ok (.aload_n 0, 1) := by decide +kernel
theorem d_Writer_writeRuns_33 : decode b_Writer_writeRuns 33 = .ok (.getfield 9, 3) := by decide +kernel
theorem d_Writer_writeRuns_36 : decode b_Writer_writeRuns 36 = .ok (.iload_n 2, 1) := by decide +kernel
theorem d_Writer_writeRuns_37 : decode b_Writer_writeRuns 37 = .ok (.iconst 4, 1) := by decide +kernel
theorem d_Writer_writeRuns_38 : decode b_Writer_writeRuns 38 = .ok (.aload_n 0, 1) := by decide +kernel
theorem d_Writer_writeRuns_39 : decode b_Writer_writeRuns 39 = .ok (.getfield 32, 3) := by decide +kernel
theorem d_Writer_writeRuns_42 : decode b_Writer_writeRuns 42 = .ok (.getfield 127, 3) := by decide +kernel
theorem d_Writer_writeRuns_45 : decode b_Writer_writeRuns 45 = .ok (.iload_n 3, 1) := by decide +kernel
theorem d_Writer_writeRuns_46 : decode b_Writer_writeRuns 46 = .ok (.iaload, 1) := by decide +kernel
theorem d_Writer_writeRuns_47 : decode b_Writer_writeRuns 47 = .ok (.i2l, 1) := by decide +kernel
theorem d_Writer_writeRuns_48 : decode b_Writer_writeRuns 48 = .ok (.invokevirtual 120, 3) := by decide +kernel
theorem d_Writer_writeRuns_51 : decode b_Writer_writeRuns 51 = .ok (.aload_n 0, 1) := by decide +kernel
theorem d_Writer_writeRuns_52 : decode b_Writer_writeRuns 52 = .ok (.getfield 9, 3) := by decide +kernel
theorem d_Writer_writeRuns_55 : decode b_Writer_writeRuns 55 = .ok (.iload_n 2, 1) := by decide +kernel
theorem d_Writer_writeRuns_56 : decode b_Writer_writeRuns 56 = .ok (.iconst 4, 1) := by decide +kernel
theorem d_Writer_writeRuns_57 : decode b_Writer_writeRuns 57 = .ok (.iadd, 1) := by decide +kernel
theorem d_Writer_writeRuns_58 : decode b_Writer_writeRuns 58 = .ok (.iconst 2, 1) := by decide +kernel
theorem d_Writer_writeRuns_59 : decode b_Writer_writeRuns 59 = .ok (.aload_n 0, 1) := by decide +kernel
theorem d_Writer_writeRuns_60 : decode b_Writer_writeRuns 60 = .ok (.getfield 32, 3) := by decide +kernel
theorem d_Writer_writeRuns_63 : decode b_Writer_writeRuns 63 = .ok (.getfield 130, 3) := by decide +kernel
theorem d_Writer_writeRuns_66 : decode b_Writer_writeRuns 66 = .ok (.iload_n 3, 1) := by decide +kernel
theorem d_Writer_writeRuns_67 : decode b_Writer_writeRuns 67 = .ok (.iaload, 1) := by decide +kernel
theorem d_Writer_writeRuns_68 : decode b_Writer_writeRuns 68 = .ok (.i2l, 1) := by decide +kernel
theorem d_Writer_writeRuns_69 : decode b_Writer_writeRuns 69 = .ok (.invokevirtual 120, 3) := by decide +kernel
theorem d_Writer_writeRuns_72 : decode b_Writer_writeRuns 72 = .ok (.iinc 2 6, 3) := by decide +kernel
theorem d_Writer_writeRuns_75 : decode b_Writer_writeRuns 75 = .ok (.iinc 3 1, 3) := by decide +kernel
theorem d_Writer_writeRuns_78 : decode b_Writer_writeRuns 78 = .ok (.goto (-57), 3) := by decide +kernel
theorem d_Writer_writeRuns_81 : decode b_Writer_writeRuns 81 = .ok (.aload_n 0, 1) := by decide +kernel
theorem d_Writer_writeRuns_82 : decode b_Writer_writeRuns 82 = .ok (.getfield 9, 3) := by decide +kernel
theorem d_Writer_writeRuns_85 : decode b_Writer_writeRuns 85 = .ok (.iload_n 2, 1) := by decide +kernel
theorem d_Writer_writeRuns_86 : decode b_Writer_writeRuns 86 = .ok (.iconst 4, 1) := by decide +kernel
theorem d_Writer_writeRuns_87 : decode b_Writer_writeRuns 87 = .ok (.aload_n 0, 1) := by decide +kernel
theorem d_Writer_writeRuns_88 : decode b_Writer_writeRuns 88 = .ok (.getfield 19, 3) := by decide +kernel
theorem d_Writer_writeRuns_91 : decode b_Writer_writeRuns 91 = .ok (.getfield 97, 3) := by decide +kernel
theorem d_Writer_writeRuns_94 : decode b_Writer_writeRuns 94 = .ok (.iload_n 1, 1) := by decide +kernel
theorem d_Writer_writeRuns_95 : decode b_Writer_writeRuns 95 = .ok (.iaload, 1) := by decide +kernel
theorem d_Writer_writeRuns_96 : decode b_Writer_writeRuns 96 = .ok (.i2l, 1) := by decide +kernel
theorem d_Writer_writeRuns_97 : decode b_Writer_writeRuns 97 = .ok (.invokevirtual 120, 3) := by decide +kernel
theorem d_Writer_writeRuns_100 : decode b_Writer_writeRuns 100 = .ok (.aload_n 0, 1) := by decide +kernel
theorem d_Writer_writeRuns_101 : decode b_Writer_writeRuns 101 = .ok (.getfield 9, 3) := by decide +kernel
theorem d_Writer_writeRuns_104 : decode b_Writer_writeRuns 104 = .ok (.iload_n 2, 1) := by decide +kernel
theorem d_Writer_writeRuns_105 : decode b_Writer_writeRuns 105 = .ok (.iconst 4, 1) := by decide +kernel
theorem d_Writer_writeRuns_106 : decode b_Writer_writeRuns 106 = .ok (.iadd, 1) := by decide +kernel
theorem d_Writer_writeRuns_107 : decode b_Writer_writeRuns 107 = .ok (.iconst 4, 1) := by decide +kernel
theorem d_Writer_writeRuns_108 : decode b_Writer_writeRuns 108 = .ok (.aload_n 0, 1) := by decide +kernel
theorem d_Writer_writeRuns_109 : decode b_Writer_writeRuns 109 = .ok (.iload_n 1, 1) := by decide +kernel
theorem d_Writer_writeRuns_110 : decode b_Writer_writeRuns 110 = .ok (.invokevirtual 133, 3) := by decide +kernel
theorem d_Writer_writeRuns_113 : decode b_Writer_writeRuns 113 = .ok (.i2l, 1) := by decide +kernel
theorem d_Writer_writeRuns_114 : decode b_Writer_writeRuns 114 = .ok (.invokevirtual 120, 3) := by decide +kernel
theorem d_Writer_writeRuns_117 : decode b_Writer_writeRuns 117 = .ok (.return_, 1) := by decide +kernel
theorem d_Writer_writeSectorZero_0 : decode b_Writer_writeSectorZero 0 = .ok (.aload_n 0, 1) := by decide +kernel
theorem d_Writer_writeSectorZero_1 : decode b_Writer_writeSectorZero 1 = .ok (.getfield 9, 3) := by decide +kernel
theorem d_Writer_writeSectorZero_4 : decode b_Writer_writeSectorZero 4 = .ok (.iconst 0, 1) := by decide +kernel
theorem d_Writer_writeSectorZero_5 : decode b_Writer_writeSectorZero 5 = .ok (.sipush 235, 3) := by decide +kernel
theorem d_Writer_writeSectorZero_8 : decode b_Writer_writeSectorZero 8 = .ok (.invokevirtual 104, 3) := by decide +kernel
theorem d_Writer_writeSectorZero_11 : decode b_Writer_writeSectorZero 11 = .ok (.aload_n 0, 1) := by decide +kernel
theorem d_Writer_writeSectorZero_12 : decode b_Writer_writeSectorZero 12 = .ok (.getfield 9, 3) := by decide +kernel
theorem d_Writer_writeSectorZero_15 : decode b_Writer_writeSectorZero 15 = .ok (.iconst 1, 1) := by decide +kernel
theorem d_Writer_writeSectorZero_16 : decode b_Writer_writeSectorZero 16 = .ok (.bipush 62, 2) := by decide +kernel
theorem d_Writer_writeSectorZero_18 : decode b_Writer_writeSectorZero 18 = .ok (.invokevirtual 104, 3) := by decide +kernel
theorem d_Writer_writeSectorZero_21 : decode b_Writer_writeSectorZero 21 = .ok (.aload_n 0, 1) := by decide +kernel
theorem d_Writer_writeSectorZero_22 : decode b_Writer_writeSectorZero 22 = .ok (.getfield 19, 3) := by decide +kernel
theorem d_Writer_writeSectorZero_25 : decode b_Writer_writeSectorZero 25 = .ok (.ldc2_w 91, 3) := by decide +kernel
theorem d_Writer_writeSectorZero_28 : decode b_Writer_writeSectorZero 28 = .ok (.invokevirtual 93, 3) := by decide +kernel
theorem d_Writer_writeSectorZero_31 : decode b_Writer_writeSectorZero 31 = .ok (.istore_n 1, 1) := by decide +kernel
theorem d_Writer_writeSectorZero_32 : decode b_Writer_writeSectorZero 32 = .ok (.iload_n 1, 1) := by decide +kernel
theorem d_Writer_writeSectorZero_33 : decode b_Writer_writeSectorZero 33 = .ok (.iconst (-1), 1) := by decide +kernel
theorem d_Writer_writeSectorZero_34 : decode b_Writer_writeSectorZero 34 = .ok (.if_icmp .eq 18, 3) := by decide +kernel
theorem d_Writer_writeSectorZero_37 : decode b_Writer_writeSectorZero 37 = .ok (.aload_n 0, 1) := by decide +kernel
theorem d_Writer_writeSectorZero_38 : decode b_Writer_writeSectorZero 38 = .ok (.getfield 32, 3) := by decide +kernel
theorem d_Writer_writeSectorZero_41 : decode b_Writer_writeSectorZero 41 = .ok (.getfield 107, 3) := by decide +kernel
theorem d_Writer_writeSectorZero_44 : decode b_Writer_writeSectorZero 44 = .ok (.ifCond .le 8, 3) := by decide +kernel
theorem d_Writer_writeSectorZero_47 : decode b_Writer_writeSectorZero 47 = .ok (.aload_n 0, 1) := by decide +kernel
theorem d_Writer_writeSectorZero_48 : decode b_Writer_writeSectorZero 48 = .ok (.iload_n 1, 1) := by decide +kernel
theorem d_Writer_writeSectorZero_49 : decode b_Writer_writeSectorZero 49 = .ok (.invokevirtual 110, 3) := by decide +kernel
theorem d_Writer_writeSectorZero_52 : decode b_Writer_writeSectorZero 52 = .ok (.aload_n 0, 1) := by decide +kernel
theorem d_Writer_writeSectorZero_53 : decode b_Writer_writeSectorZero 53 = .ok (.getfield 9, 3) := by decide +kernel
theorem d_Writer_writeSectorZero_56 : decode b_Writer_writeSectorZero 56 = .ok (.sipush 446, 3) := by decide +kernel
theorem d_Writer_writeSectorZero_59 : decode b_Writer_writeSectorZero 59 = .ok (.getstatic 113, 3) := by decide +kernel
theorem d_Writer_writeSectorZero_62 : decode b_Writer_writeSectorZero 62 = .ok (.invokevirtual 116, 3) := by decide +kernel
theorem d_Writer_writeSectorZero_65 : decode b_Writer_writeSectorZero 65 = .ok (.aload_n 0, 1) := by decide +kernel
theorem d_Writer_writeSectorZero_66 : decode b_Writer_writeSectorZero 66 = .ok (.getfield 9, 3) := by decide +kernel
theorem d_Writer_writeSectorZero_69 : decode b_Writer_writeSectorZero 69 = .ok (.sipush 454, 3) := by decide +kernel
theorem d_Writer_writeSectorZero_72 : decode b_Writer_writeSectorZero 72 = .ok (.iconst 4, 1) := by decide +kernel
theorem d_Writer_writeSectorZero_73 : decode b_Writer_writeSectorZero 73 = .ok (.lconst 1, 1) := by decide +kernel
theorem d_Writer_writeSectorZero_74 : decode b_Writer_writeSectorZero 74 = .ok (.invokevirtual 120, 3) := by decide +kernel
theorem d_Writer_writeSectorZero_77 : decode b_Writer_writeSectorZero 77 = .ok (.aload_n 0, 1) := by decide +kernel
theorem d_Writer_writeSectorZero_78 : decode b_Writer_writeSectorZero 78 = .ok (.getfield 9, 3) := by decide +kernel
theorem d_Writer_writeSectorZero_81 : decode b_Writer_writeSectorZero 81 = .ok (.sipush 458, 3) := by decide +kernel
theorem d_Writer_writeSectorZero_84 : decode b_Writer_writeSectorZero 84 = .ok (.iconst 4, 1) := by decide +kernel
theorem d_Writer_writeSectorZero_85 : decode b_Writer_writeSectorZero 85 = .ok (.aload_n 0, 1) := by decide +kernel
theorem d_Writer_writeSectorZero_86 : decode b_Writer_writeSectorZero 86 = .ok (.getfield 15, 3) := by decide +kernel
theorem d_Writer_writeSectorZero_89 : decode b_Writer_writeSectorZero 89 = .ok (.iconst 1, 1) := by decide +kernel
theorem d_Writer_writeSectorZero_90 : decode b_Writer_writeSectorZero 90 = .ok (.isub, 1) := by decide +kernel
theorem d_Writer_writeSectorZero_91 : decode b_Writer_writeSectorZero 91 = .ok (.i2l, 1) := by decide +kernel
theorem d_Writer_writeSectorZero_92 : decode b_Writer_writeSectorZero 92 = .ok (.invokevirtual 120, 3) := by decide +kernel
theorem d_Writer_writeSectorZero_95 : decode b_Writer_writeSectorZero 95 = .ok (.aload_n 0, 1) := by decide +kernel
theorem d_Writer_writeSectorZero_96 : decode b_Writer_writeSectorZero 96 = .ok (.getfield 9, 3) := by decide +kernel
theorem d_Writer_writeSectorZero_99 : decode b_Writer_writeSectorZero 99 = .ok (.iconst 0, 1) := by decide +kernel
theorem d_Writer_writeSectorZero_100 : decode b_Writer_writeSectorZero 100 = .ok (.invokevirtual 124, 3) := by decide +kernel
theorem d_Writer_writeSectorZero_103 : decode b_Writer_writeSectorZero 103 = .ok (.return_, 1) := by decide +kernel
theorem d_Writer_writeEntry_0 : decode b_Writer_writeEntry 0 = .ok (.aload_n 0, 1) := by decide +kernel
theorem d_Writer_writeEntry_1 : decode b_Writer_writeEntry 1 = .ok (.getfield 19, 3) := by decide +kernel
theorem d_Writer_writeEntry_4 : decode b_Writer_writeEntry 4 = .ok (.getfield 181, 3) := by decide +kernel
theorem d_Writer_writeEntry_7 : decode b_Writer_writeEntry 7 = .ok (.iload_n 2, 1) := by decide +kernel
theorem d_Writer_writeEntry_8 : decode b_Writer_writeEntry 8 = .ok (.iaload, 1) := by decide +kernel
theorem d_Writer_writeEntry_9 : decode b_Writer_writeEntry 9 = .ok (.ifCond .ne 7, 3) := by decide +kernel
theorem d_Writer_writeEntry_12 : decode b_Writer_writeEntry 12 = .ok (.iconst 1, 1) := by decide +kernel
theorem d_Writer_writeEntry_13 : decode b_Writer_writeEntry 13 = .ok (.goto 4, 3) := by decide +kernel
theorem d_Writer_writeEntry_16 : decode b_Writer_writeEntry 16 = .ok (.iconst 0, 1) := by decide +kernel
theorem d_Writer_writeEntry_17 : decode b_Writer_writeEntry 17 = .ok (.istore_n 3, 1) := by decide +kernel
theorem d_Writer_writeEntry_18 : decode b_Writer_writeEntry 18 = .ok (.aload_n 0, 1) := by decide +kernel
theorem d_Writer_writeEntry_19 : decode b_Writer_writeEntry 19 = .ok (.getfield 9, 3) := by decide +kernel
theorem d_Writer_writeEntry_22 : decode b_Writer_writeEntry 22 = .ok (.iload_n 1, 1) := by decide +kernel
theorem d_Writer_writeEntry_23 : decode b_Writer_writeEntry 23 = .ok (.iload_n 3, 1) := by decide +kernel
theorem d_Writer_writeEntry_24 : decode b_Writer_writeEntry 24 = .ok (.ifCond .eq 9, 3) := by decide +kernel
theorem d_Writer_writeEntry_27 : decode b_Writer_writeEntry 27 = .ok (.getstatic 184, 3) := by decide +kernel
theorem d_Writer_writeEntry_30 : decode b_Writer_writeEntry 30 = .ok (.goto 6, 3) := by decide +kernel
theorem d_Writer_writeEntry_33 : decode b_Writer_writeEntry 33 = .ok (.getstatic 187, 3) := by decide +kernel
theorem d_Writer_writeEntry_36 : decode b_Writer_writeEntry 36 = .ok (.invokevirtual 116, 3) := by decide +kernel
theorem d_Writer_writeEntry_39 : decode b_Writer_writeEntry 39 = .ok (.iconst 0, 1) := by decide +kernel
theorem d_Writer_writeEntry_40 : decode b_Writer_writeEntry 40 = .ok (.istore 4, 2) := by decide +kernel
theorem d_Writer_writeEntry_42 : decode b_Writer_writeEntry 42 = .ok (.iload 4, 2) := by decide +kernel
theorem d_Writer_writeEntry_44 : decode b_Writer_writeEntry 44 = .ok (.bipush 16, 2) := by decide +kernel
theorem d_Writer_writeEntry_46 : decode b_Writer_writeEntry 46 = .ok (.if_icmp .ge 32, 3) := by decide +kernel
theorem d_Writer_writeEntry_49 : decode b_Writer_writeEntry 49 = .ok (.aload_n 0, 1) := by decide +kernel
theorem d_Writer_writeEntry_50 : decode b_Writer_writeEntry 50 = .ok (.getfield 9, 3) := by decide +kernel
theorem d_Writer_writeEntry_53 : decode b_Writer_writeEntry 53 = .ok (.iload_n 1, 1) := by decide +kernel
theorem d_Writer_writeEntry_54 : decode b_Writer_writeEntry 54 = .ok (.bipush 16, 2) := by decide +kernel
theorem d_Writer_writeEntry_56 : decode b_Writer_writeEntry 56 = .ok (.iadd, 1) := by decide +kernel
theorem d_Writer_writeEntry_57 : decode b_Writer_writeEntry 57 = .ok (.iload 4, 2) := by decide +kernel
theorem d_Writer_writeEntry_59 : decode b_Writer_writeEntry 59 = .ok (.iadd, 1) := by decide +kernel
theorem d_Writer_writeEntry_60 : decode b_Writer_writeEntry 60 = .ok (.bipush 32, 2) := by decide +kernel
theorem d_Writer_writeEntry_62 : decode b_Writer_writeEntry 62 = .ok (.iload_n 2, 1) := by decide +kernel
theorem d_Writer_writeEntry_63 : decode b_Writer_writeEntry 63 = .ok (.iconst 1, 1) := by decide +kernel
theorem d_Writer_writeEntry_64 : decode b_Writer_writeEntry 64 = .ok (.iadd, 1) := by decide +kernel
theorem d_Writer_writeEntry_65 : decode b_Writer_writeEntry 65 = .ok (.imul, 1) := by decide +kernel
theorem d_Writer_writeEntry_66 : decode b_Writer_writeEntry 66 = .ok (.iload 4, 2) := by decide +kernel
theorem d_Writer_writeEntry_68 : decode b_Writer_writeEntry 68 = .ok (.iadd, 1) := by decide +kernel
theorem d_Writer_writeEntry_69 : decode b_Writer_writeEntry 69 = .ok (.invokevirtual 104, 3) := by decide +kernel
theorem d_Writer_writeEntry_72 : decode b_Writer_writeEntry 72 = .ok (.iinc 4 1, 3) := by decide +kernel
theorem d_Writer_writeEntry_75 : decode b_Writer_writeEntry 75 = .ok (.goto (-33), 3) := by decide +kernel
theorem d_Writer_writeEntry_78 : decode b_Writer_writeEntry 78 = .ok (.aload_n 0, 1) := by decide +kernel
theorem d_Writer_writeEntry_79 : decode b_Writer_writeEntry 79 = .ok (.getfield 9, 3) := by decide +kernel
theorem d_Writer_writeEntry_82 : decode b_Writer_writeEntry 82 = .ok (.iload_n 1, 1) := by decide +kernel
theorem d_Writer_writeEntry_83 : decode b_Writer_writeEntry 83 = .ok (.bipush 32, 2) := by decide +kernel
theorem d_Writer_writeEntry_85 : decode b_Writer_writeEntry 85 = .ok (.iadd, 1) := by decide +kernel
theorem d_Writer_writeEntry_86 : decode b_Writer_writeEntry 86 = .ok (.bipush 8, 2) := by decide +kernel
theorem d_Writer_writeEntry_88 : decode b_Writer_writeEntry 88 = .ok (.aload_n 0, 1) := by decide +kernel
theorem d_Writer_writeEntry_89 : decode b_Writer_writeEntry 89 = .ok (.getfield 19, 3) := by decide +kernel
theorem d_Writer_writeEntry_92 : decode b_Writer_writeEntry 92 = .ok (.getfield 76, 3) := by decide +kernel
theorem d_Writer_writeEntry_95 : decode b_Writer_writeEntry 95 = .ok (.iload_n 2, 1) := by decide +kernel
theorem d_Writer_writeEntry_96 : decode b_Writer_writeEntry 96 = .ok (.iaload, 1) := by decide +kernel
theorem d_Writer_writeEntry_97 : decode b_Writer_writeEntry 97 = .ok (.i2l, 1) := by decide +kernel
theorem d_Writer_writeEntry_98 : decode b_Writer_writeEntry 98 = .ok (.invokevirtual 120, 3) := by decide +kernel
theorem d_Writer_writeEntry_101 : decode b_Writer_writeEntry 101 = .ok (.aload_n 0, 1) := by decide +kernel
theorem d_Writer_writeEntry_102 : decode b_Writer_writeEntry 102 = .ok (.getfield 9, 3) := by decide +kernel
theorem d_Writer_writeEntry_105 : decode b_Writer_writeEntry 105 = .ok (.iload_n 1, 1) := by decide +kernel
theorem d_Writer_writeEntry_106 : decode b_Writer_writeEntry 106 = .ok (.bipush 40, 2) := by decide +kernel
theorem d_Writer_writeEntry_108 : decode b_Writer_writeEntry 108 = .ok (.iadd, 1) := by decide +kernel
theorem d_Writer_writeEntry_109 : decode b_Writer_writeEntry 109 = .ok (.bipush 8, 2) := by decide +kernel
theorem d_Writer_writeEntry_111 : decode b_Writer_writeEntry 111 = .ok (.aload_n 0, 1) := by decide +kernel
theorem d_Writer_writeEntry_112 : decode b_Writer_writeEntry 112 = .ok (.getfield 19, 3) := by decide +kernel
theorem d_Writer_writeEntry_115 : decode b_Writer_writeEntry 115 = .ok (.getfield 76, 3) := by decide +kernel
theorem d_Writer_writeEntry_118 : decode b_Writer_writeEntry 118 = .ok (.iload_n 2, 1) := by decide +kernel
theorem d_Writer_writeEntry_119 : decode b_Writer_writeEntry 119 = .ok (.iaload, 1) := by decide +kernel
theorem d_Writer_writeEntry_120 : decode b_Writer_writeEntry 120 = .ok (.aload_n 0, 1) := by decide +kernel
theorem d_Writer_writeEntry_121 : decode b_Writer_writeEntry 121 = .ok (.getfield 19, 3) := by decide +kernel
theorem d_Writer_writeEntry_124 : decode b_Writer_writeEntry 124 = .ok (.getfield 80, 3) := by decide +kernel
theorem d_Writer_writeEntry_127 : decode b_Writer_writeEntry 127 = .ok (.iload_n 2, 1) := by decide +kernel
theorem d_Writer_writeEntry_128 : decode b_Writer_writeEntry 128 = .ok (.iaload, 1) := by decide +kernel
theorem d_Writer_writeEntry_129 : decode b_Writer_writeEntry 129 = .ok (.iadd, 1) := by decide +kernel
theorem d_Writer_writeEntry_130 : decode b_Writer_writeEntry 130 = .ok (.iconst 1, 1) := by decide +kernel
theorem d_Writer_writeEntry_131 : decode b_Writer_writeEntry 131 = .ok (.isub, 1) := by decide +kernel
theorem d_Writer_writeEntry_132 : decode b_Writer_writeEntry 132 = .ok (.i2l, 1) := by decide +kernel
theorem d_Writer_writeEntry_133 : decode b_Writer_writeEntry 133 = .ok (.invokevirtual 120, 3) := by decide +kernel
theorem d_Writer_writeEntry_136 : decode b_Writer_writeEntry 136 = .ok (.iload_n 3, 1) := by decide +kernel
theorem d_Writer_writeEntry_137 : decode b_Writer_writeEntry 137 = .ok (.ifCond .eq 8, 3) := by decide +kernel
theorem d_Writer_writeEntry_140 : decode b_Writer_writeEntry 140 = .ok (.ldc 190, 2) := by decide +kernel
theorem d_Writer_writeEntry_142 : decode b_Writer_writeEntry 142 = .ok (.goto 5, 3) := by decide +kernel
theorem d_Writer_writeEntry_145 : decode b_Writer_writeEntry 145 = .ok (.ldc 192, 2) := by decide +kernel
theorem d_Writer_writeEntry_147 : decode b_Writer_writeEntry 147 = .ok (.astore 4, 2) := by decide +kernel
theorem d_Writer_writeEntry_149 : decode b_Writer_writeEntry 149 = .ok (.iconst 0, 1) := by decide +kernel
theorem d_Writer_writeEntry_150 : decode b_Writer_writeEntry 150 = .ok (.istore 5, 2) := by decide +kernel
theorem d_Writer_writeEntry_152 : decode b_Writer_writeEntry 152 = .ok (.iload 5, 2) := by decide +kernel
theorem d_Writer_writeEntry_154 : decode b_Writer_writeEntry 154 = .ok (.aload 4, 2) := by decide +kernel
theorem d_Writer_writeEntry_156 : decode b_Writer_writeEntry 156 = .ok (.invokevirtual 194, 3) := by decide +kernel
theorem d_Writer_writeEntry_159 : decode b_Writer_writeEntry 159 = .ok (.if_icmp .ge 32, 3) := by decide +kernel
theorem d_Writer_writeEntry_162 : decode b_Writer_writeEntry 162 = .ok (.aload_n 0, 1) := by decide +kernel
theorem d_Writer_writeEntry_163 : decode b_Writer_writeEntry 163 = .ok (.getfield 9, 3) := by decide +kernel
theorem d_Writer_writeEntry_166 : decode b_Writer_writeEntry 166 = .ok (.iload_n 1, 1) := by decide +kernel
theorem d_Writer_writeEntry_167 : decode b_Writer_writeEntry 167 = .ok (.bipush 56, 2) := by decide +kernel
theorem d_Writer_writeEntry_169 : decode b_Writer_writeEntry 169 = .ok (.iadd, 1) := by decide +kernel
theorem d_Writer_writeEntry_170 : decode b_Writer_writeEntry 170 = .ok (.iconst 2, 1) := by decide +kernel
theorem d_Writer_writeEntry_171 : decode b_Writer_writeEntry 171 = .ok (.iload 5, 2) := by decide +kernel
theorem d_Writer_writeEntry_173 : decode b_Writer_writeEntry 173 = .ok (.imul, 1) := by decide +kernel
theorem d_Writer_writeEntry_174 : decode b_Writer_writeEntry 174 = .ok (.iadd, 1) := by decide +kernel
theorem d_Writer_writeEntry_175 : decode b_Writer_writeEntry 175 = .ok (.aload 4, 2) := by decide +kernel
theorem d_Writer_writeEntry_177 : decode b_Writer_writeEntry 177 = .ok (.iload 5, 2) := by decide +kernel
theorem d_Writer_writeEntry_179 : decode b_Writer_writeEntry 179 = .ok (.invokevirtual 199, 3) := by decide +kernel
theorem d_Writer_writeEntry_182 : decode b_Writer_writeEntry 182 = .ok (.invokevirtual 104, 3) := by decide +kernel
theorem d_Writer_writeEntry_185 : decode b_Writer_writeEntry 185 = .ok (.iinc 5 1, 3) := by decide +kernel
theorem d_Writer_writeEntry_188 : decode b_Writer_writeEntry 188 = .ok (.goto (-36), 3) := by decide +kernel
theorem d_Writer_writeEntry_191 : decode b_Writer_writeEntry 191 = .ok (.aload_n 0, 1) := by decide +kernel
theorem d_Writer_writeEntry_192 : decode b_Writer_writeEntry 192 = .ok (.getfield 9, 3) := by decide +kernel
theorem d_Writer_writeEntry_195 : decode b_Writer_writeEntry 195 = .ok (.iload_n 1, 1) := by decide +kernel
theorem d_Writer_writeEntry_196 : decode b_Writer_writeEntry 196 = .ok (.bipush 56, 2) := by decide +kernel
theorem d_Writer_writeEntry_198 : decode b_Writer_writeEntry 198 = .ok (.iadd, 1) := by decide +kernel
theorem d_Writer_writeEntry_199 : decode b_Writer_writeEntry 199 = .ok (.iconst 2, 1) := by decide +kernel
theorem d_Writer_writeEntry_200 : decode b_Writer_writeEntry 200 = .ok (.aload 4, 2) := by decide +kernel
theorem d_Writer_writeEntry_202 : decode b_Writer_writeEntry 202 = .ok (.invokevirtual 194, 3) := by decide +kernel
theorem d_Writer_writeEntry_205 : decode b_Writer_writeEntry 205 = .ok (.imul, 1) := by decide +kernel
theorem d_Writer_writeEntry_206 : decode b_Writer_writeEntry 206 = .ok (.iadd, 1) := by decide +kernel
theorem d_Writer_writeEntry_207 : decode b_Writer_writeEntry 207 = .ok (.bipush 48, 2) := by decide +kernel
theorem d_Writer_writeEntry_209 : decode b_Writer_writeEntry 209 = .ok (.iload_n 2, 1) := by decide +kernel
theorem d_Writer_writeEntry_210 : decode b_Writer_writeEntry 210 = .ok (.iadd, 1) := by decide +kernel
theorem d_Writer_writeEntry_211 : decode b_Writer_writeEntry 211 = .ok (.invokevirtual 104, 3) := by decide +kernel
theorem d_Writer_writeEntry_214 : decode b_Writer_writeEntry 214 = .ok (.return_, 1) := by decide +kernel
theorem d_Writer_writeTable_0 : decode b_Writer_writeTable 0 = .ok (.iconst 0, 1) := by decide +kernel
theorem d_Writer_writeTable_1 : decode b_Writer_writeTable 1 = .ok (.istore 4, 2) := by decide +kernel
theorem d_Writer_writeTable_3 : decode b_Writer_writeTable 3 = .ok (.iload 4, 2) := by decide +kernel
theorem d_Writer_writeTable_5 : decode b_Writer_writeTable 5 = .ok (.aload_n 0, 1) := by decide +kernel
theorem d_Writer_writeTable_6 : decode b_Writer_writeTable 6 = .ok (.getfield 19, 3) := by decide +kernel
theorem d_Writer_writeTable_9 : decode b_Writer_writeTable 9 = .ok (.getfield 155, 3) := by decide +kernel
theorem d_Writer_writeTable_12 : decode b_Writer_writeTable 12 = .ok (.if_icmp .ge 27, 3) := by decide +kernel
theorem d_Writer_writeTable_15 : decode b_Writer_writeTable 15 = .ok (.aload_n 0, 1) := by decide +kernel
theorem d_Writer_writeTable_16 : decode b_Writer_writeTable 16 = .ok (.iload_n 1, 1) := by decide +kernel
theorem d_Writer_writeTable_17 : decode b_Writer_writeTable 17 = .ok (.sipush 512, 3) := by decide +kernel
theorem d_Writer_writeTable_20 : decode b_Writer_writeTable 20 = .ok (.imul, 1) := by decide +kernel
theorem d_Writer_writeTable_21 : decode b_Writer_writeTable 21 = .ok (.iload 4, 2) := by decide +kernel
theorem d_Writer_writeTable_23 : decode b_Writer_writeTable 23 = .ok (.sipush 128, 3) := by decide +kernel
theorem d_Writer_writeTable_26 : decode b_Writer_writeTable 26 = .ok (.imul, 1) := by decide +kernel
theorem d_Writer_writeTable_27 : decode b_Writer_writeTable 27 = .ok (.iadd, 1) := by decide +kernel
theorem d_Writer_writeTable_28 : decode b_Writer_writeTable 28 = .ok (.iload 4, 2) := by decide +kernel
theorem d_Writer_writeTable_30 : decode b_Writer_writeTable 30 = .ok (.invokevirtual 158, 3) := by decide +kernel
theorem d_Writer_writeTable_33 : decode b_Writer_writeTable 33 = .ok (.iinc 4 1, 3) := by decide +kernel
theorem d_Writer_writeTable_36 : decode b_Writer_writeTable 36 = .ok (.goto (-33), 3) := by decide +kernel
theorem d_Writer_writeTable_39 : decode b_Writer_writeTable 39 = .ok (.iload_n 2, 1) := by decide +kernel
theorem d_Writer_writeTable_40 : decode b_Writer_writeTable 40 = .ok (.sipush 512, 3) := by decide +kernel
theorem d_Writer_writeTable_43 : decode b_Writer_writeTable 43 = .ok (.imul, 1) := by decide +kernel
theorem d_Writer_writeTable_44 : decode b_Writer_writeTable 44 = .ok (.istore 4, 2) := by decide +kernel
theorem d_Writer_writeTable_46 : decode b_Writer_writeTable 46 = .ok (.aload_n 0, 1) := by decide +kernel
theorem d_Writer_writeTable_47 : decode b_Writer_writeTable 47 = .ok (.getfield 9, 3) := by decide +kernel
theorem d_Writer_writeTable_50 : decode b_Writer_writeTable 50 = .ok (.iload 4, 2) := by decide +kernel
theorem d_Writer_writeTable_52 : decode b_Writer_writeTable 52 = .ok (.getstatic 161, 3) := by decide +kernel
theorem d_Writer_writeTable_55 : decode b_Writer_writeTable 55 = .ok (.invokevirtual 116, 3) := by decide +kernel
theorem d_Writer_writeTable_58 : decode b_Writer_writeTable 58 = .ok (.aload_n 0, 1) := by decide +kernel
theorem d_Writer_writeTable_59 : decode b_Writer_writeTable 59 = .ok (.getfield 9, 3) := by decide +kernel
theorem d_Writer_writeTable_62 : decode b_Writer_writeTable 62 = .ok (.iload 4, 2) := by decide +kernel
theorem d_Writer_writeTable_64 : decode b_Writer_writeTable 64 = .ok (.bipush 10, 2) := by decide +kernel
theorem d_Writer_writeTable_66 : decode b_Writer_writeTable 66 = .ok (.iadd, 1) := by decide +kernel
theorem d_Writer_writeTable_67 : decode b_Writer_writeTable 67 = .ok (.iconst 1, 1) := by decide +kernel
theorem d_Writer_writeTable_68 : decode b_Writer_writeTable 68 = .ok (.invokevirtual 104, 3) := by decide +kernel
theorem d_Writer_writeTable_71 : decode b_Writer_writeTable 71 = .ok (.aload_n 0, 1) := by decide +kernel
theorem d_Writer_writeTable_72 : decode b_Writer_writeTable 72 = .ok (.getfield 9, 3) := by decide +kernel
theorem d_Writer_writeTable_75 : decode b_Writer_writeTable 75 = .ok (.iload 4, 2) := by decide +kernel
theorem d_Writer_writeTable_77 : decode b_Writer_writeTable 77 = .ok (.bipush 12, 2) := by decide +kernel
theorem d_Writer_writeTable_79 : decode b_Writer_writeTable 79 = .ok (.iadd, 1) := by decide +kernel
theorem d_Writer_writeTable_80 : decode b_Writer_writeTable 80 = .ok (.iconst 4, 1) := by decide +kernel
theorem d_Writer_writeTable_81 : decode b_Writer_writeTable 81 = .ok (.ldc2_w 164, 3) := by decide +kernel
theorem d_Writer_writeTable_84 : decode b_Writer_writeTable 84 = .ok (.invokevirtual 120, 3) := by decide +kernel
theorem d_Writer_writeTable_87 : decode b_Writer_writeTable 87 = .ok (.aload_n 0, 1) := by decide +kernel
theorem d_Writer_writeTable_88 : decode b_Writer_writeTable 88 = .ok (.getfield 9, 3) := by decide +kernel
theorem d_Writer_writeTable_91 : decode b_Writer_writeTable 91 = .ok (.iload 4, 2) := by decide +kernel
theorem d_Writer_writeTable_93 : decode b_Writer_writeTable 93 = .ok (.bipush 24, 2) := by decide +kernel
theorem d_Writer_writeTable_95 : decode b_Writer_writeTable 95 = .ok (.iadd, 1) := by decide +kernel
theorem d_Writer_writeTable_96 : decode b_Writer_writeTable 96 = .ok (.bipush 8, 2) := by decide +kernel
theorem d_Writer_writeTable_98 : decode b_Writer_writeTable 98 = .ok (.iload_n 2, 1) := by decide +kernel
theorem d_Writer_writeTable_99 : decode b_Writer_writeTable 99 = .ok (.i2l, 1) := by decide +kernel
theorem d_Writer_writeTable_100 : decode b_Writer_writeTable 100 = .ok (.invokevirtual 120, 3) := by decide +kernel
theorem d_Writer_writeTable_103 : decode b_Writer_writeTable 103 = .ok (.aload_n 0, 1) := by decide +kernel
theorem d_Writer_writeTable_104 : decode b_Writer_writeTable 104 = .ok (.getfield 9, 3) := by decide +kernel
theorem d_Writer_writeTable_107 : decode b_Writer_writeTable 107 = .ok (.iload 4, 2) := by decide +kernel
theorem d_Writer_writeTable_109 : decode b_Writer_writeTable 109 = .ok (.bipush 32, 2) := by decide +kernel
theorem d_Writer_writeTable_111 : decode b_Writer_writeTable 111 = .ok (.iadd, 1) := by decide +kernel
theorem d_Writer_writeTable_112 : decode b_Writer_writeTable 112 = .ok (.bipush 8, 2) := by decide +kernel
theorem d_Writer_writeTable_114 : decode b_Writer_writeTable 114 = .ok (.iload_n 3, 1) := by decide +kernel
theorem d_Writer_writeTable_115 : decode b_Writer_writeTable 115 = .ok (.i2l, 1) := by decide +kernel
theorem d_Writer_writeTable_116 : decode b_Writer_writeTable 116 = .ok (.invokevirtual 120, 3) := by decide +kernel
theorem d_Writer_writeTable_119 : decode b_Writer_writeTable 119 = .ok (.aload_n 0, 1) := by decide +kernel
theorem d_Writer_writeTable_120 : decode b_Writer_writeTable 120 = .ok (.getfield 9, 3) := by decide +kernel
theorem d_Writer_writeTable_123 : decode b_Writer_writeTable 123 = .ok (.iload 4, 2) := by decide +kernel
theorem d_Writer_writeTable_125 : decode b_Writer_writeTable 125 = .ok (.bipush 40, 2) := by decide +kernel
theorem d_Writer_writeTable_127 : decode b_Writer_writeTable 127 = .ok (.iadd, 1) := by decide +kernel
theorem d_Writer_writeTable_128 : decode b_Writer_writeTable 128 = .ok (.bipush 8, 2) := by decide +kernel
theorem d_Writer_writeTable_130 : decode b_Writer_writeTable 130 = .ok (.ldc2_w 166, 3) := by decide +kernel
theorem d_Writer_writeTable_133 : decode b_Writer_writeTable 133 = .ok (.invokevirtual 120, 3) := by decide +kernel
theorem d_Writer_writeTable_136 : decode b_Writer_writeTable 136 = .ok (.aload_n 0, 1) := by decide +kernel
theorem d_Writer_writeTable_137 : decode b_Writer_writeTable 137 = .ok (.getfield 9, 3) := by decide +kernel
theorem d_Writer_writeTable_140 : decode b_Writer_writeTable 140 = .ok (.iload 4, 2) := by decide +kernel
theorem d_Writer_writeTable_142 : decode b_Writer_writeTable 142 = .ok (.bipush 48, 2) := by decide +kernel
theorem d_Writer_writeTable_144 : decode b_Writer_writeTable 144 = .ok (.iadd, 1) := by decide +kernel
theorem d_Writer_writeTable_145 : decode b_Writer_writeTable 145 = .ok (.bipush 8, 2) := by decide +kernel
theorem d_Writer_writeTable_147 : decode b_Writer_writeTable 147 = .ok (.aload_n 0, 1) := by decide +kernel
theorem d_Writer_writeTable_148 : decode b_Writer_writeTable 148 = .ok (.getfield 19, 3) := by decide +kernel
theorem d_Writer_writeTable_151 : decode b_Writer_writeTable 151 = .ok (.getfield 168, 3) := by decide +kernel
theorem d_Writer_writeTable_154 : decode b_Writer_writeTable 154 = .ok (.i2l, 1) := by decide +kernel
theorem d_Writer_writeTable_155 : decode b_Writer_writeTable 155 = .ok (.invokevirtual 120, 3) := by decide +kernel
theorem d_Writer_writeTable_158 : decode b_Writer_writeTable 158 = .ok (.iconst 0, 1) := by decide +kernel
theorem d_Writer_writeTable_159 : decode b_Writer_writeTable 159 = .ok (.istore 5, 2) := by decide +kernel
theorem d_Writer_writeTable_161 : decode b_Writer_writeTable 161 = .ok (.iload 5, 2) := by decide +kernel
theorem d_Writer_writeTable_163 : decode b_Writer_writeTable 163 = .ok (.bipush 16, 2) := by decide +kernel
theorem d_Writer_writeTable_165 : decode b_Writer_writeTable 165 = .ok (.if_icmp .ge 31, 3) := by decide +kernel
theorem d_Writer_writeTable_168 : decode b_Writer_writeTable 168 = .ok (.aload_n 0, 1) := by decide +kernel
theorem d_Writer_writeTable_169 : decode b_Writer_writeTable 169 = .ok (.getfield 9, 3) := by decide +kernel
theorem d_Writer_writeTable_172 : decode b_Writer_writeTable 172 = .ok (.iload 4, 2) := by decide +kernel
theorem d_Writer_writeTable_174 : decode b_Writer_writeTable 174 = .ok (.bipush 56, 2) := by decide +kernel
theorem d_Writer_writeTable_176 : decode b_Writer_writeTable 176 = .ok (.iadd, 1) := by decide +kernel
theorem d_Writer_writeTable_177 : decode b_Writer_writeTable 177 = .ok (.iload 5, 2) := by decide +kernel
theorem d_Writer_writeTable_179 : decode b_Writer_writeTable 179 = .ok (.iadd, 1) := by decide +kernel
theorem d_Writer_writeTable_180 : decode b_Writer_writeTable 180 = .ok (.bipush 17, 2) := by decide +kernel
theorem d_Writer_writeTable_182 : decode b_Writer_writeTable 182 = .ok (.iload 5, 2) := by decide +kernel
theorem d_Writer_writeTable_184 : decode b_Writer_writeTable 184 = .ok (.imul, 1) := by decide +kernel
theorem d_Writer_writeTable_185 : decode b_Writer_writeTable 185 = .ok (.iconst 1, 1) := by decide +kernel
theorem d_Writer_writeTable_186 : decode b_Writer_writeTable 186 = .ok (.iadd, 1) := by decide +kernel
theorem d_Writer_writeTable_187 : decode b_Writer_writeTable 187 = .ok (.invokevirtual 104, 3) := by decide +kernel
theorem d_Writer_writeTable_190 : decode b_Writer_writeTable 190 = .ok (.iinc 5 1, 3) := by decide +kernel
theorem d_Writer_writeTable_193 : decode b_Writer_writeTable 193 = .ok (.goto (-32), 3) := by decide +kernel
theorem d_Writer_writeTable_196 : decode b_Writer_writeTable 196 = .ok (.aload_n 0, 1) := by decide +kernel
theorem d_Writer_writeTable_197 : decode b_Writer_writeTable 197 = .ok (.getfield 9, 3) := by decide +kernel
theorem d_Writer_writeTable_200 : decode b_Writer_writeTable 200 = .ok (.iload 4, 2) := by decide +kernel
theorem d_Writer_writeTable_202 : decode b_Writer_writeTable 202 = .ok (.bipush 72, 2) := by decide +kernel
theorem d_Writer_writeTable_204 : decode b_Writer_writeTable 204 = .ok (.iadd, 1) := by decide +kernel
theorem d_Writer_writeTable_205 : decode b_Writer_writeTable 205 = .ok (.bipush 8, 2) := by decide +kernel
theorem d_Writer_writeTable_207 : decode b_Writer_writeTable 207 = .ok (.iload_n 1, 1) := by decide +kernel
theorem d_Writer_writeTable_208 : decode b_Writer_writeTable 208 = .ok (.i2l, 1) := by decide +kernel
theorem d_Writer_writeTable_209 : decode b_Writer_writeTable 209 = .ok (.invokevirtual 120, 3) := by decide +kernel
theorem d_Writer_writeTable_212 : decode b_Writer_writeTable 212 = .ok (.aload_n 0, 1) := by decide +kernel
theorem d_Writer_writeTable_213 : decode b_Writer_writeTable 213 = .ok (.getfield 9, 3) := by decide +kernel
theorem d_Writer_writeTable_216 : decode b_Writer_writeTable 216 = .ok (.iload 4, 2) := by decide +kernel
theorem d_Writer_writeTable_218 : decode b_Writer_writeTable 218 = .ok (.bipush 80, 2) := by decide +kernel
theorem d_Writer_writeTable_220 : decode b_Writer_writeTable 220 = .ok (.iadd, 1) := by decide +kernel
theorem d_Writer_writeTable_221 : decode b_Writer_writeTable 221 = .ok (.iconst 4, 1) := by decide +kernel
theorem d_Writer_writeTable_222 : decode b_Writer_writeTable 222 = .ok (.ldc2_w 171, 3) := by decide +kernel
theorem d_Writer_writeTable_225 : decode b_Writer_writeTable 225 = .ok (.invokevirtual 120, 3) := by decide +kernel
theorem d_Writer_writeTable_228 : decode b_Writer_writeTable 228 = .ok (.aload_n 0, 1) := by decide +kernel
theorem d_Writer_writeTable_229 : decode b_Writer_writeTable 229 = .ok (.getfield 9, 3) := by decide +kernel
theorem d_Writer_writeTable_232 : decode b_Writer_writeTable 232 = .ok (.iload 4, 2) := by decide +kernel
theorem d_Writer_writeTable_234 : decode b_Writer_writeTable 234 = .ok (.bipush 84, 2) := by decide +kernel
theorem d_Writer_writeTable_236 : decode b_Writer_writeTable 236 = .ok (.iadd, 1) := by decide +kernel
theorem d_Writer_writeTable_237 : decode b_Writer_writeTable 237 = .ok (.iconst 4, 1) := by decide +kernel
theorem d_Writer_writeTable_238 : decode b_Writer_writeTable 238 = .ok (.ldc2_w 171, 3) := by decide +kernel
theorem d_Writer_writeTable_241 : decode b_Writer_writeTable 241 = .ok (.invokevirtual 120, 3) := by decide +kernel
theorem d_Writer_writeTable_244 : decode b_Writer_writeTable 244 = .ok (.aload_n 0, 1) := by decide +kernel
theorem d_Writer_writeTable_245 : decode b_Writer_writeTable 245 = .ok (.getfield 9, 3) := by decide +kernel
theorem d_Writer_writeTable_248 : decode b_Writer_writeTable 248 = .ok (.iload 4, 2) := by decide +kernel
theorem d_Writer_writeTable_250 : decode b_Writer_writeTable 250 = .ok (.bipush 88, 2) := by decide +kernel
theorem d_Writer_writeTable_252 : decode b_Writer_writeTable 252 = .ok (.iadd, 1) := by decide +kernel
theorem d_Writer_writeTable_253 : decode b_Writer_writeTable 253 = .ok (.iconst 4, 1) := by decide +kernel
theorem d_Writer_writeTable_254 : decode b_Writer_writeTable 254 = .ok (.aload_n 0, 1) := by decide +kernel
theorem d_Writer_writeTable_255 : decode b_Writer_writeTable 255 = .ok (.getfield 23, 3) := by decide +kernel
theorem d_Writer_writeTable_258 : decode b_Writer_writeTable 258 = .ok (.aload_n 0, 1) := by decide +kernel
theorem d_Writer_writeTable_259 : decode b_Writer_writeTable 259 = .ok (.getfield 9, 3) := by decide +kernel
theorem d_Writer_writeTable_262 : decode b_Writer_writeTable 262 = .ok (.iload_n 1, 1) := by decide +kernel
theorem d_Writer_writeTable_263 : decode b_Writer_writeTable 263 = .ok (.sipush 512, 3) := by decide +kernel
theorem d_Writer_writeTable_266 : decode b_Writer_writeTable 266 = .ok (.imul, 1) := by decide +kernel
theorem d_Writer_writeTable_267 : decode b_Writer_writeTable 267 = .ok (.sipush 16384, 3) := by decide +kernel
theorem d_Writer_writeTable_270 : decode b_Writer_writeTable 270 = .ok (.invokevirtual 173, 3) := by decide +kernel
theorem d_Writer_writeTable_273 : decode b_Writer_writeTable 273 = .ok (.i2l, 1) := by decide +kernel
theorem d_Writer_writeTable_274 : decode b_Writer_writeTable 274 = .ok (.invokevirtual 120, 3) := by decide +kernel
theorem d_Writer_writeTable_277 : decode b_Writer_writeTable 277 = .ok (.aload_n 0, 1) := by decide +kernel
theorem d_Writer_writeTable_278 : decode b_Writer_writeTable 278 = .ok (.getfield 9, 3) := by decide +kernel
theorem d_Writer_writeTable_281 : decode b_Writer_writeTable 281 = .ok (.iload 4, 2) := by decide +kernel
theorem d_Writer_writeTable_283 : decode b_Writer_writeTable 283 = .ok (.bipush 16, 2) := by decide +kernel
theorem d_Writer_writeTable_285 : decode b_Writer_writeTable 285 = .ok (.iadd, 1) := by decide +kernel
theorem d_Writer_writeTable_286 : decode b_Writer_writeTable 286 = .ok (.iconst 4, 1) := by decide +kernel
theorem d_Writer_writeTable_287 : decode b_Writer_writeTable 287 = .ok (.aload_n 0, 1) := by decide +kernel
theorem d_Writer_writeTable_288 : decode b_Writer_writeTable 288 = .ok (.getfield 23, 3) := by decide +kernel
theorem d_Writer_writeTable_291 : decode b_Writer_writeTable 291 = .ok (.aload_n 0, 1) := by decide +kernel
theorem d_Writer_writeTable_292 : decode b_Writer_writeTable 292 = .ok (.getfield 9, 3) := by decide +kernel
theorem d_Writer_writeTable_295 : decode b_Writer_writeTable 295 = .ok (.iload 4, 2) := by decide +kernel
theorem d_Writer_writeTable_297 : decode b_Writer_writeTable 297 = .ok (.invokevirtual 177, 3) := by decide +kernel
theorem d_Writer_writeTable_300 : decode b_Writer_writeTable 300 = .ok (.i2l, 1) := by decide +kernel
theorem d_Writer_writeTable_301 : decode b_Writer_writeTable 301 = .ok (.invokevirtual 120, 3) := by decide +kernel
theorem d_Writer_writeTable_304 : decode b_Writer_writeTable 304 = .ok (.return_, 1) := by decide +kernel
set_option maxRecDepth 100000 in
theorem fg_Writer_23 : FlG Wall classes R_Writer 23 4 3 := ⟨_, _, _, rfl, by decide, in_Writer, inW 161 rfl rfl⟩
set_option maxRecDepth 100000 in
theorem fc_Writer_137 : FcV Wall classes R_Writer 137 1 y_Sums_begin b_Sums_begin 1 (none) ws_Sums_begin 0 := ⟨⟨rfl, cw_Sums_begin, inW 382 rfl rfl, in_i_Sums, by decide +kernel⟩, inW 383 rfl rfl, inW 384 rfl rfl, _, _, rfl⟩
set_option maxRecDepth 100000 in
theorem fg_Writer_19 : FlG Wall classes R_Writer 19 4 2 := ⟨_, _, _, rfl, by decide, in_Writer, inW 160 rfl rfl⟩
set_option maxRecDepth 100000 in
theorem fg_Writer_97 : FlG Wall classes R_Writer 97 2 6 := ⟨_, _, _, rfl, by decide, in_Plan, inW 76 rfl rfl⟩
set_option maxRecDepth 100000 in
theorem fc_Writer_152 : FcV Wall classes R_Writer 152 1 y_Sums_result b_Sums_result 1 (some .int) ws_Sums_result 0 := ⟨⟨rfl, cw_Sums_result, inW 449 rfl rfl, in_i_Sums, by decide +kernel⟩, inW 450 rfl rfl, inW 451 rfl rfl, _, _, rfl⟩
set_option maxRecDepth 100000 in
theorem fg_Writer_32 : FlG Wall classes R_Writer 32 4 4 := ⟨_, _, _, rfl, by decide, in_Writer, inW 162 rfl rfl⟩
set_option maxRecDepth 100000 in
theorem fg_Writer_142 : FlG Wall classes R_Writer 142 3 0 := ⟨_, _, _, rfl, by decide, in_Volume, inW 123 rfl rfl⟩
set_option maxRecDepth 100000 in
theorem fc_Writer_145 : FcV Wall classes R_Writer 145 2 y_Plan_fileByte b_Plan_fileByte 4 (some .int) ws_Plan_fileByte 3 := ⟨⟨rfl, cw_Plan_fileByte, inW 386 rfl rfl, in_i_Plan, by decide +kernel⟩, inW 387 rfl rfl, inW 388 rfl rfl, _, _, rfl⟩
set_option maxRecDepth 100000 in
theorem fc_Writer_149 : FcV Wall classes R_Writer 149 1 y_Sums_add b_Sums_add 2 (none) ws_Sums_add 1 := ⟨⟨rfl, cw_Sums_add, inW 445 rfl rfl, in_i_Sums, by decide +kernel⟩, inW 446 rfl rfl, inW 447 rfl rfl, _, _, rfl⟩
set_option maxRecDepth 100000 in
theorem fg_Writer_9 : FlG Wall classes R_Writer 9 4 0 := ⟨_, _, _, rfl, by decide, in_Writer, inW 158 rfl rfl⟩
set_option maxRecDepth 100000 in
theorem fg_Writer_107 : FlG Wall classes R_Writer 107 3 8 := ⟨_, _, _, rfl, by decide, in_Volume, inW 138 rfl rfl⟩
set_option maxRecDepth 100000 in
theorem fc_Writer_104 : FcV Wall classes R_Writer 104 0 y_Store_put b_Store_put 4 (none) ws_Store_put 2 := ⟨⟨rfl, cw_Store_put, inW 363 rfl rfl, in_i_Store, by decide +kernel⟩, inW 364 rfl rfl, inW 365 rfl rfl, _, _, rfl⟩
set_option maxRecDepth 100000 in
theorem fc_Writer_120 : FcV Wall classes R_Writer 120 0 y_Store_putLow b_Store_putLow 6 (none) ws_Store_putLow 3 := ⟨⟨rfl, cw_Store_putLow, inW 373 rfl rfl, in_i_Store, by decide +kernel⟩, inW 374 rfl rfl, inW 375 rfl rfl, _, _, rfl⟩
set_option maxRecDepth 100000 in
theorem fc_Writer_133 : FcV Wall classes R_Writer 133 4 y_Writer_fileSum b_Writer_fileSum 3 (some .int) ws_Writer_fileSum 1 := ⟨⟨rfl, cw_Writer_fileSum, inW 378 rfl rfl, in_i_Writer, by decide +kernel⟩, inW 380 rfl rfl, inP 6 rfl rfl, _, _, rfl⟩
set_option maxRecDepth 100000 in
theorem fg_Writer_127 : FlG Wall classes R_Writer 127 3 6 := ⟨_, _, _, rfl, by decide, in_Volume, inW 134 rfl rfl⟩
set_option maxRecDepth 100000 in
theorem fg_Writer_130 : FlG Wall classes R_Writer 130 3 7 := ⟨_, _, _, rfl, by decide, in_Volume, inW 136 rfl rfl⟩
set_option maxRecDepth 100000 in
theorem kc_Writer_91 : Cond.constantLong R_Writer 91 83903281120594 ∈ Wall := inW 334 rfl rfl
set_option maxRecDepth 100000 in
theorem fc_Writer_93 : FcV Wall classes R_Writer 93 2 y_Plan_fileNamed b_Plan_fileNamed 4 (some .int) ws_Plan_fileNamed 1 := ⟨⟨rfl, cw_Plan_fileNamed, inW 335 rfl rfl, in_i_Plan, by decide +kernel⟩, inW 275 rfl rfl, inW 276 rfl rfl, _, _, rfl⟩
set_option maxRecDepth 100000 in
theorem fc_Writer_116 : FcV Wall classes R_Writer 116 0 y_Store_putRow b_Store_putRow 4 (none) ws_Store_putRow 2 := ⟨⟨rfl, cw_Store_putRow, inW 455 rfl rfl, in_i_Store, by decide +kernel⟩, inW 456 rfl rfl, inW 457 rfl rfl, _, _, rfl⟩
set_option maxRecDepth 100000 in
theorem fg_Writer_15 : FlG Wall classes R_Writer 15 4 1 := ⟨_, _, _, rfl, by decide, in_Writer, inW 159 rfl rfl⟩
set_option maxRecDepth 100000 in
theorem fc_Writer_124 : FcV Wall classes R_Writer 124 0 y_Store_markBootSector b_Store_markBootSector 2 (none) ws_Store_markBootSector 1 := ⟨⟨rfl, cw_Store_markBootSector, inW 459 rfl rfl, in_i_Store, by decide +kernel⟩, inW 460 rfl rfl, inW 461 rfl rfl, _, _, rfl⟩
set_option maxRecDepth 100000 in
theorem fc_Writer_110 : FcV Wall classes R_Writer 110 4 y_Writer_writeRuns b_Writer_writeRuns 4 (none) ws_Writer_writeRuns 1 := ⟨⟨rfl, cw_Writer_writeRuns, inW 369 rfl rfl, in_i_Writer, by decide +kernel⟩, inW 371 rfl rfl, inP 5 rfl rfl, _, _, rfl⟩
set_option maxRecDepth 100000 in
theorem fg_Writer_181 : FlG Wall classes R_Writer 181 2 1 := ⟨_, _, _, rfl, by decide, in_Plan, inW 66 rfl rfl⟩
set_option maxRecDepth 100000 in
theorem fg_Writer_76 : FlG Wall classes R_Writer 76 2 2 := ⟨_, _, _, rfl, by decide, in_Plan, inW 68 rfl rfl⟩
set_option maxRecDepth 100000 in
theorem fg_Writer_80 : FlG Wall classes R_Writer 80 2 3 := ⟨_, _, _, rfl, by decide, in_Plan, inW 70 rfl rfl⟩
set_option maxRecDepth 100000 in
theorem fc_Writer_194 : FcO Wall R_Writer 194 y_String_length b_String_length 1 (some .int) ws_String_length 0 := ⟨⟨rfl, cw_String_length, inW 479 rfl rfl, in_i_String, by decide +kernel⟩, inW 396 rfl rfl, inW 397 rfl rfl⟩
set_option maxRecDepth 100000 in
theorem fc_Writer_199 : FcO Wall R_Writer 199 y_String_charAt b_String_charAt 2 (some .char) ws_String_charAt 1 := ⟨⟨rfl, cw_String_charAt, inW 480 rfl rfl, in_i_String, by decide +kernel⟩, inW 406 rfl rfl, inW 407 rfl rfl⟩
set_option maxRecDepth 100000 in
theorem kc_Writer_164 : Cond.constantLong R_Writer 164 92 ∈ Wall := inW 483 rfl rfl
set_option maxRecDepth 100000 in
theorem kc_Writer_166 : Cond.constantLong R_Writer 166 34 ∈ Wall := inW 484 rfl rfl
set_option maxRecDepth 100000 in
theorem kc_Writer_171 : Cond.constantLong R_Writer 171 128 ∈ Wall := inW 485 rfl rfl
set_option maxRecDepth 100000 in
theorem fg_Writer_155 : FlG Wall classes R_Writer 155 2 4 := ⟨_, _, _, rfl, by decide, in_Plan, inW 72 rfl rfl⟩
set_option maxRecDepth 100000 in
theorem fg_Writer_168 : FlG Wall classes R_Writer 168 2 0 := ⟨_, _, _, rfl, by decide, in_Plan, inW 64 rfl rfl⟩
set_option maxRecDepth 100000 in
theorem fc_Writer_173 : FcV Wall classes R_Writer 173 1 y_Sums_over b_Sums_over 5 (some .int) ws_Sums_over 3 := ⟨⟨rfl, cw_Sums_over, inW 486 rfl rfl, in_i_Sums, by decide +kernel⟩, inW 487 rfl rfl, inW 488 rfl rfl, _, _, rfl⟩
set_option maxRecDepth 100000 in
theorem fc_Writer_177 : FcV Wall classes R_Writer 177 1 y_Sums_overHeader b_Sums_overHeader 5 (some .int) ws_Sums_overHeader 2 := ⟨⟨rfl, cw_Sums_overHeader, inW 497 rfl rfl, in_i_Sums, by decide +kernel⟩, inW 498 rfl rfl, inW 499 rfl rfl, _, _, rfl⟩
set_option maxRecDepth 100000 in
theorem fc_Writer_158 : FcV Wall classes R_Writer 158 4 y_Writer_writeEntry b_Writer_writeEntry 6 (none) ws_Writer_writeEntry 2 := ⟨⟨rfl, cw_Writer_writeEntry, inW 469 rfl rfl, in_i_Writer, by decide +kernel⟩, inW 471 rfl rfl, inP 8 rfl rfl, _, _, rfl⟩
