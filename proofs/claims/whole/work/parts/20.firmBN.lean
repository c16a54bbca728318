abbrev b_Firmware_collectRuns : ByteArray := prog_2_method_10_code
def y_Firmware_collectRuns : MethodName := ⟨"BootMaker$Firmware", "collectRuns", "(II)Z"⟩
def ws_Firmware_collectRuns : List Cond := Cond.code y_Firmware_collectRuns b_Firmware_collectRuns 12 (some .boolean) :: Wall
set_option maxRecDepth 100000 in
theorem cw_Firmware_collectRuns : Cond.code y_Firmware_collectRuns b_Firmware_collectRuns 12 (some .boolean) ∈ Wall := inW 699 rfl rfl
abbrev b_Firmware_loaderSum : ByteArray := prog_2_method_11_code
def y_Firmware_loaderSum : MethodName := ⟨"BootMaker$Firmware", "loaderSum", "(I)I"⟩
def ws_Firmware_loaderSum : List Cond := Cond.code y_Firmware_loaderSum b_Firmware_loaderSum 3 (some .int) :: Wall
set_option maxRecDepth 100000 in
theorem cw_Firmware_loaderSum : Cond.code y_Firmware_loaderSum b_Firmware_loaderSum 3 (some .int) ∈ Wall := inW 704 rfl rfl
abbrev b_Firmware_searchLoader : ByteArray := prog_2_method_9_code
def y_Firmware_searchLoader : MethodName := ⟨"BootMaker$Firmware", "searchLoader", "()I"⟩
def ws_Firmware_searchLoader : List Cond := Cond.code y_Firmware_searchLoader b_Firmware_searchLoader 8 (some .int) :: Wall
set_option maxRecDepth 100000 in
theorem cw_Firmware_searchLoader : Cond.code y_Firmware_searchLoader b_Firmware_searchLoader 8 (some .int) ∈ Wall := inW 693 rfl rfl
abbrev b_Firmware_readVolumeSector : ByteArray := prog_2_method_13_code
def y_Firmware_readVolumeSector : MethodName := ⟨"BootMaker$Firmware", "readVolumeSector", "()Z"⟩
def ws_Firmware_readVolumeSector : List Cond := Cond.code y_Firmware_readVolumeSector b_Firmware_readVolumeSector 3 (some .boolean) :: Wall
set_option maxRecDepth 100000 in
theorem cw_Firmware_readVolumeSector : Cond.code y_Firmware_readVolumeSector b_Firmware_readVolumeSector 3 (some .boolean) ∈ Wall := inW 720 rfl rfl
abbrev b_Firmware_kernelEntry : ByteArray := prog_2_method_14_code
def y_Firmware_kernelEntry : MethodName := ⟨"BootMaker$Firmware", "kernelEntry", "()I"⟩
def ws_Firmware_kernelEntry : List Cond := Cond.code y_Firmware_kernelEntry b_Firmware_kernelEntry 4 (some .int) :: Wall
set_option maxRecDepth 100000 in
theorem cw_Firmware_kernelEntry : Cond.code y_Firmware_kernelEntry b_Firmware_kernelEntry 4 (some .int) ∈ Wall := inW 728 rfl rfl
abbrev b_Firmware_followChain : ByteArray := prog_2_method_15_code
def y_Firmware_followChain : MethodName := ⟨"BootMaker$Firmware", "followChain", "(IJ)Z"⟩
def ws_Firmware_followChain : List Cond := Cond.code y_Firmware_followChain b_Firmware_followChain 8 (some .boolean) :: Wall
set_option maxRecDepth 100000 in
theorem cw_Firmware_followChain : Cond.code y_Firmware_followChain b_Firmware_followChain 8 (some .boolean) ∈ Wall := inW 733 rfl rfl
abbrev b_Firmware_copyKernel : ByteArray := prog_2_method_17_code
def y_Firmware_copyKernel : MethodName := ⟨"BootMaker$Firmware", "copyKernel", "(I)Z"⟩
def ws_Firmware_copyKernel : List Cond := Cond.code y_Firmware_copyKernel b_Firmware_copyKernel 6 (some .boolean) :: Wall
set_option maxRecDepth 100000 in
theorem cw_Firmware_copyKernel : Cond.code y_Firmware_copyKernel b_Firmware_copyKernel 6 (some .boolean) ∈ Wall := inW 741 rfl rfl
abbrev b_Firmware_loadKernel : ByteArray := prog_2_method_12_code
def y_Firmware_loadKernel : MethodName := ⟨"BootMaker$Firmware", "loadKernel", "()I"⟩
def ws_Firmware_loadKernel : List Cond := Cond.code y_Firmware_loadKernel b_Firmware_loadKernel 4 (some .int) :: Wall
set_option maxRecDepth 100000 in
theorem cw_Firmware_loadKernel : Cond.code y_Firmware_loadKernel b_Firmware_loadKernel 4 (some .int) ∈ Wall := inW 716 rfl rfl
abbrev b_Firmware_start : ByteArray := prog_2_method_3_code
def y_Firmware_start : MethodName := ⟨"BootMaker$Firmware", "start", "(I)I"⟩
def ws_Firmware_start : List Cond := Cond.code y_Firmware_start b_Firmware_start 3 (some .int) :: Wall
set_option maxRecDepth 100000 in
theorem cw_Firmware_start : Cond.code y_Firmware_start b_Firmware_start 3 (some .int) ∈ Wall := inW 647 rfl rfl
theorem d_Firmware_collectRuns_0 : decode b_Firmware_collectRuns 0 = .ok (.iload_n 2, 1) := by decide +kernel
theorem d_Firmware_collectRuns_1 : decode b_Firmware_collectRuns 1 = .ok (.invokestatic 133, 3) := by decide +kernel
theorem d_Firmware_collectRuns_4 : decode b_Firmware_collectRuns 4 = .ok (.istore_n 3, 1) := by decide +kernel
theorem d_Firmware_collectRuns_5 : decode b_Firmware_collectRuns 5 = .ok (.iconst 0, 1) := by decide +kernel
theorem d_Firmware_collectRuns_6 : decode b_Firmware_collectRuns 6 = .ok (.istore 4, 2) := by decide +kernel
theorem d_Firmware_collectRuns_8 : decode b_Firmware_collectRuns 8 = .ok (.iconst 0, 1) := by decide +kernel
theorem d_Firmware_collectRuns_9 : decode b_Firmware_collectRuns 9 = .ok (.istore 5, 2) := by decide +kernel
theorem d_Firmware_collectRuns_11 : decode b_Firmware_collectRuns 11 = .ok (.iload 5, 2) := by decide +kernel
theorem d_Firmware_collectRuns_13 : decode b_Firmware_collectRuns 13 = .ok (.iload_n 1, 1) := by decide +kernel
theorem d_Firmware_collectRuns_14 : decode b_Firmware_collectRuns 14 = .ok (.if_icmp .ge 118, 3) := by decide +kernel
theorem d_Firmware_collectRuns_17 : decode b_Firmware_collectRuns 17 = .ok (.bipush 65, 2) := by decide +kernel
theorem d_Firmware_collectRuns_19 : decode b_Firmware_collectRuns 19 = .ok (.iload 5, 2) := by decide +kernel
theorem d_Firmware_collectRuns_21 : decode b_Firmware_collectRuns 21 = .ok (.bipush 6, 2) := by decide +kernel
theorem d_Firmware_collectRuns_23 : decode b_Firmware_collectRuns 23 = .ok (.imul, 1) := by decide +kernel
theorem d_Firmware_collectRuns_24 : decode b_Firmware_collectRuns 24 = .ok (.iadd, 1) := by decide +kernel
theorem d_Firmware_collectRuns_25 : decode b_Firmware_collectRuns 25 = .ok (.istore 6, 2) := by decide +kernel
theorem d_Firmware_collectRuns_27 : decode b_Firmware_collectRuns 27 = .ok (.aload_n 0, 1) := by decide +kernel
theorem d_Firmware_collectRuns_28 : decode b_Firmware_collectRuns 28 = .ok (.getfield 35, 3) := by decide +kernel
theorem d_Firmware_collectRuns_31 : decode b_Firmware_collectRuns 31 = .ok (.iload 6, 2) := by decide +kernel
theorem d_Firmware_collectRuns_33 : decode b_Firmware_collectRuns 33 = .ok (.iconst 4, 1) := by decide +kernel
theorem d_Firmware_collectRuns_34 : decode b_Firmware_collectRuns 34 = .ok (.invokevirtual 82, 3) := by decide +kernel
theorem d_Firmware_collectRuns_37 : decode b_Firmware_collectRuns 37 = .ok (.lstore 7, 2) := by decide +kernel
theorem d_Firmware_collectRuns_39 : decode b_Firmware_collectRuns 39 = .ok (.aload_n 0, 1) := by decide +kernel
theorem d_Firmware_collectRuns_40 : decode b_Firmware_collectRuns 40 = .ok (.getfield 35, 3) := by decide +kernel
theorem d_Firmware_collectRuns_43 : decode b_Firmware_collectRuns 43 = .ok (.iload 6, 2) := by decide +kernel
theorem d_Firmware_collectRuns_45 : decode b_Firmware_collectRuns 45 = .ok (.iconst 4, 1) := by decide +kernel
theorem d_Firmware_collectRuns_46 : decode b_Firmware_collectRuns 46 = .ok (.iadd, 1) := by decide +kernel
theorem d_Firmware_collectRuns_47 : decode b_Firmware_collectRuns 47 = .ok (.iconst 2, 1) := by decide +kernel
theorem d_Firmware_collectRuns_48 : decode b_Firmware_collectRuns 48 = .ok (.invokevirtual 82, 3) := by decide +kernel
theorem d_Firmware_collectRuns_51 : decode b_Firmware_collectRuns 51 = .ok (.lstore 9, 2) := by decide +kernel
theorem d_Firmware_collectRuns_53 : decode b_Firmware_collectRuns 53 = .ok (.lload 9, 2) := by decide +kernel
theorem d_Firmware_collectRuns_55 : decode b_Firmware_collectRuns 55 = .ok (.lconst 0, 1) := by decide +kernel
theorem d_Firmware_collectRuns_56 : decode b_Firmware_collectRuns 56 = .ok (.lcmp, 1) := by decide +kernel
theorem d_Firmware_collectRuns_57 : decode b_Firmware_collectRuns 57 = .ok (.ifCond .eq 17, 3) := by decide +kernel
theorem d_Firmware_collectRuns_60 : decode b_Firmware_collectRuns 60 = .ok (.lload 7, 2) := by decide +kernel
theorem d_Firmware_collectRuns_62 : decode b_Firmware_collectRuns 62 = .ok (.lload 9, 2) := by decide +kernel
theorem d_Firmware_collectRuns_64 : decode b_Firmware_collectRuns 64 = .ok (.ladd, 1) := by decide +kernel
theorem d_Firmware_collectRuns_65 : decode b_Firmware_collectRuns 65 = .ok (.aload_n 0, 1) := by decide +kernel
theorem d_Firmware_collectRuns_66 : decode b_Firmware_collectRuns 66 = .ok (.getfield 38, 3) := by decide +kernel
theorem d_Firmware_collectRuns_69 : decode b_Firmware_collectRuns 69 = .ok (.i2l, 1) := by decide +kernel
theorem d_Firmware_collectRuns_70 : decode b_Firmware_collectRuns 70 = .ok (.lcmp, 1) := by decide +kernel
theorem d_Firmware_collectRuns_71 : decode b_Firmware_collectRuns 71 = .ok (.ifCond .le 5, 3) := by decide +kernel
theorem d_Firmware_collectRuns_74 : decode b_Firmware_collectRuns 74 = .ok (.iconst 0, 1) := by decide +kernel
theorem d_Firmware_collectRuns_75 : decode b_Firmware_collectRuns 75 = .ok (.ireturn, 1) := by decide +kernel
theorem d_Firmware_collectRuns_76 : decode b_Firmware_collectRuns 76 = .ok (.iconst 0, 1) := by decide +kernel
theorem d_Firmware_collectRuns_77 : decode b_Firmware_collectRuns 77 = .ok (.istore 11, 2) := by decide +kernel
theorem d_Firmware_collectRuns_79 : decode b_Firmware_collectRuns 79 = .ok (.iload 11, 2) := by decide +kernel
theorem d_Firmware_collectRuns_81 : decode b_Firmware_collectRuns 81 = .ok (.i2l, 1) := by decide +kernel
theorem d_Firmware_collectRuns_82 : decode b_Firmware_collectRuns 82 = .ok (.lload 9, 2) := by decide +kernel
theorem d_Firmware_collectRuns_84 : decode b_Firmware_collectRuns 84 = .ok (.lcmp, 1) := by decide +kernel
theorem d_Firmware_collectRuns_85 : decode b_Firmware_collectRuns 85 = .ok (.ifCond .ge 41, 3) := by decide +kernel
theorem d_Firmware_collectRuns_88 : decode b_Firmware_collectRuns 88 = .ok (.iload 4, 2) := by decide +kernel
theorem d_Firmware_collectRuns_90 : decode b_Firmware_collectRuns 90 = .ok (.iload_n 3, 1) := by decide +kernel
theorem d_Firmware_collectRuns_91 : decode b_Firmware_collectRuns 91 = .ok (.if_icmp .ge 35, 3) := by decide +kernel
theorem d_Firmware_collectRuns_94 : decode b_Firmware_collectRuns 94 = .ok (.iload 4, 2) := by decide +kernel
theorem d_Firmware_collectRuns_96 : decode b_Firmware_collectRuns 96 = .ok (.aload_n 0, 1) := by decide +kernel
theorem d_Firmware_collectRuns_97 : decode b_Firmware_collectRuns 97 = .ok (.getfield 21, 3) := by decide +kernel
theorem d_Firmware_collectRuns_100 : decode b_Firmware_collectRuns 100 = .ok (.arraylength, 1) := by decide +kernel
theorem d_Firmware_collectRuns_101 : decode b_Firmware_collectRuns 101 = .ok (.if_icmp .ge 25, 3) := by decide +kernel
theorem d_Firmware_collectRuns_104 : decode b_Firmware_collectRuns 104 = .ok (.aload_n 0, 1) := by decide +kernel
theorem d_Firmware_collectRuns_105 : decode b_Firmware_collectRuns 105 = .ok (.getfield 21, 3) := by decide +kernel
theorem d_Firmware_collectRuns_108 : decode b_Firmware_collectRuns 108 = .ok (.iload 4, 2) := by decide +kernel
theorem d_Firmware_collectRuns_110 : decode b_Firmware_collectRuns 110 = .ok (.lload 7, 2) := by decide +kernel
theorem d_Firmware_collectRuns_112 : decode b_Firmware_collectRuns 112 = .ok (.l2i, 1) := by decide +kernel
theorem d_Firmware_collectRuns_113 : decode b_Firmware_collectRuns 113 = .ok (.iload 11, 2) := by decide +kernel
theorem d_Firmware_collectRuns_115 : decode b_Firmware_collectRuns 115 = .ok (.iadd, 1) := by decide +kernel
theorem d_Firmware_collectRuns_116 : decode b_Firmware_collectRuns 116 = .ok (.iastore, 1) := by decide +kernel
theorem d_Firmware_collectRuns_117 : decode b_Firmware_collectRuns 117 = .ok (.iinc 4 1, 3) := by decide +kernel
theorem d_Firmware_collectRuns_120 : decode b_Firmware_collectRuns 120 = .ok (.iinc 11 1, 3) := by decide +kernel
theorem d_Firmware_collectRuns_123 : decode b_Firmware_collectRuns 123 = .ok (.goto (-44), 3) := by decide +kernel
theorem d_Firmware_collectRuns_126 : decode b_Firmware_collectRuns 126 = .ok (.iinc 5 1, 3) := by decide +kernel
theorem d_Firmware_collectRuns_129 : decode b_Firmware_collectRuns 129 = .ok (.goto (-118), 3) := by decide +kernel
theorem d_Firmware_collectRuns_132 : decode b_Firmware_collectRuns 132 = .ok (.iload 4, 2) := by decide +kernel
theorem d_Firmware_collectRuns_134 : decode b_Firmware_collectRuns 134 = .ok (.iload_n 3, 1) := by decide +kernel
theorem d_Firmware_collectRuns_135 : decode b_Firmware_collectRuns 135 = .ok (.if_icmp .ne 7, 3) := by decide +kernel
theorem d_Firmware_collectRuns_138 : decode b_Firmware_collectRuns 138 = .ok (.iconst 1, 1) := by decide +kernel
theorem d_Firmware_collectRuns_139 : decode b_Firmware_collectRuns 139 = .ok (.goto 4, 3) := by decide +kernel
theorem d_Firmware_collectRuns_142 : decode b_Firmware_collectRuns 142 = .ok (.iconst 0, 1) := by decide +kernel
theorem d_Firmware_collectRuns_143 : decode b_Firmware_collectRuns 143 = .ok (.ireturn, 1) := by decide +kernel
theorem d_Firmware_loaderSum_0 : decode b_Firmware_loaderSum 0 = .ok (.aload_n 0, 1) := by decide +kernel
theorem d_Firmware_loaderSum_1 : decode b_Firmware_loaderSum 1 = .ok (.getfield 41, 3) := by decide +kernel
theorem d_Firmware_loaderSum_4 : decode b_Firmware_loaderSum 4 = .ok (.invokevirtual 138, 3) := by decide +kernel
theorem d_Firmware_loaderSum_7 : decode b_Firmware_loaderSum 7 = .ok (.iconst 0, 1) := by decide +kernel
theorem d_Firmware_loaderSum_8 : decode b_Firmware_loaderSum 8 = .ok (.istore_n 2, 1) := by decide +kernel
theorem d_Firmware_loaderSum_9 : decode b_Firmware_loaderSum 9 = .ok (.iload_n 2, 1) := by decide +kernel
theorem d_Firmware_loaderSum_10 : decode b_Firmware_loaderSum 10 = .ok (.iload_n 1, 1) := by decide +kernel
theorem d_Firmware_loaderSum_11 : decode b_Firmware_loaderSum 11 = .ok (.if_icmp .ge 56, 3) := by decide +kernel
theorem d_Firmware_loaderSum_14 : decode b_Firmware_loaderSum 14 = .ok (.iload_n 2, 1) := by decide +kernel
theorem d_Firmware_loaderSum_15 : decode b_Firmware_loaderSum 15 = .ok (.sipush 512, 3) := by decide +kernel
theorem d_Firmware_loaderSum_18 : decode b_Firmware_loaderSum 18 = .ok (.idiv, 1) := by decide +kernel
theorem d_Firmware_loaderSum_19 : decode b_Firmware_loaderSum 19 = .ok (.aload_n 0, 1) := by decide +kernel
theorem d_Firmware_loaderSum_20 : decode b_Firmware_loaderSum 20 = .ok (.getfield 21, 3) := by decide +kernel
theorem d_Firmware_loaderSum_23 : decode b_Firmware_loaderSum 23 = .ok (.arraylength, 1) := by decide +kernel
theorem d_Firmware_loaderSum_24 : decode b_Firmware_loaderSum 24 = .ok (.if_icmp .ge 43, 3) := by decide +kernel
theorem d_Firmware_loaderSum_27 : decode b_Firmware_loaderSum 27 = .ok (.aload_n 0, 1) := by decide +kernel
theorem d_Firmware_loaderSum_28 : decode b_Firmware_loaderSum 28 = .ok (.getfield 41, 3) := by decide +kernel
theorem d_Firmware_loaderSum_31 : decode b_Firmware_loaderSum 31 = .ok (.aload_n 0, 1) := by decide +kernel
theorem d_Firmware_loaderSum_32 : decode b_Firmware_loaderSum 32 = .ok (.getfield 35, 3) := by decide +kernel
theorem d_Firmware_loaderSum_35 : decode b_Firmware_loaderSum 35 = .ok (.aload_n 0, 1) := by decide +kernel
theorem d_Firmware_loaderSum_36 : decode b_Firmware_loaderSum 36 = .ok (.getfield 21, 3) := by decide +kernel
theorem d_Firmware_loaderSum_39 : decode b_Firmware_loaderSum 39 = .ok (.iload_n 2, 1) := by decide +kernel
theorem d_Firmware_loaderSum_40 : decode b_Firmware_loaderSum 40 = .ok (.sipush 512, 3) := by decide +kernel
theorem d_Firmware_loaderSum_43 : decode b_Firmware_loaderSum 43 = .ok (.idiv, 1) := by decide +kernel
theorem d_Firmware_loaderSum_44 : decode b_Firmware_loaderSum 44 = .ok (.iaload, 1) := by decide +kernel
theorem d_Firmware_loaderSum_45 : decode b_Firmware_loaderSum 45 = .ok (.sipush 512, 3) := by decide +kernel
theorem d_Firmware_loaderSum_48 : decode b_Firmware_loaderSum 48 = .ok (.imul, 1) := by decide +kernel
theorem d_Firmware_loaderSum_49 : decode b_Firmware_loaderSum 49 = .ok (.iload_n 2, 1) := by decide +kernel
theorem d_Firmware_loaderSum_50 : decode b_Firmware_loaderSum 50 = .ok (.sipush 512, 3) := by decide +kernel
theorem d_Firmware_loaderSum_53 : decode b_Firmware_loaderSum 53 = .ok (.irem, 1) := by decide +kernel
theorem d_Firmware_loaderSum_54 : decode b_Firmware_loaderSum 54 = .ok (.iadd, 1) := by decide +kernel
theorem d_Firmware_loaderSum_55 : decode b_Firmware_loaderSum 55 = .ok (.invokevirtual 75, 3) := by decide +kernel
theorem d_Firmware_loaderSum_58 : decode b_Firmware_loaderSum 58 = .ok (.invokevirtual 141, 3) := by decide +kernel
theorem d_Firmware_loaderSum_61 : decode b_Firmware_loaderSum 61 = .ok (.iinc 2 1, 3) := by decide +kernel
theorem d_Firmware_loaderSum_64 : decode b_Firmware_loaderSum 64 = .ok (.goto (-55), 3) := by decide +kernel
theorem d_Firmware_loaderSum_67 : decode b_Firmware_loaderSum 67 = .ok (.aload_n 0, 1) := by decide +kernel
theorem d_Firmware_loaderSum_68 : decode b_Firmware_loaderSum 68 = .ok (.getfield 41, 3) := by decide +kernel
theorem d_Firmware_loaderSum_71 : decode b_Firmware_loaderSum 71 = .ok (.invokevirtual 144, 3) := by decide +kernel
theorem d_Firmware_loaderSum_74 : decode b_Firmware_loaderSum 74 = .ok (.ireturn, 1) := by decide +kernel
theorem d_Firmware_searchLoader_0 : decode b_Firmware_searchLoader 0 = .ok (.aload_n 0, 1) := by decide +kernel
theorem d_Firmware_searchLoader_1 : decode b_Firmware_searchLoader 1 = .ok (.getfield 35, 3) := by decide +kernel
theorem d_Firmware_searchLoader_4 : decode b_Firmware_searchLoader 4 = .ok (.bipush 64, 2) := by decide +kernel
theorem d_Firmware_searchLoader_6 : decode b_Firmware_searchLoader 6 = .ok (.invokevirtual 75, 3) := by decide +kernel
theorem d_Firmware_searchLoader_9 : decode b_Firmware_searchLoader 9 = .ok (.istore_n 1, 1) := by decide +kernel
theorem d_Firmware_searchLoader_10 : decode b_Firmware_searchLoader 10 = .ok (.iload_n 1, 1) := by decide +kernel
theorem d_Firmware_searchLoader_11 : decode b_Firmware_searchLoader 11 = .ok (.ifCond .eq 9, 3) := by decide +kernel
theorem d_Firmware_searchLoader_14 : decode b_Firmware_searchLoader 14 = .ok (.iload_n 1, 1) := by decide +kernel
theorem d_Firmware_searchLoader_15 : decode b_Firmware_searchLoader 15 = .ok (.bipush 20, 2) := by decide +kernel
theorem d_Firmware_searchLoader_17 : decode b_Firmware_searchLoader 17 = .ok (.if_icmp .le 6, 3) := by decide +kernel
theorem d_Firmware_searchLoader_20 : decode b_Firmware_searchLoader 20 = .ok (.bipush 9, 2) := by decide +kernel
theorem d_Firmware_searchLoader_22 : decode b_Firmware_searchLoader 22 = .ok (.ireturn, 1) := by decide +kernel
theorem d_Firmware_searchLoader_23 : decode b_Firmware_searchLoader 23 = .ok (.bipush 65, 2) := by decide +kernel
theorem d_Firmware_searchLoader_25 : decode b_Firmware_searchLoader 25 = .ok (.iload_n 1, 1) := by decide +kernel
theorem d_Firmware_searchLoader_26 : decode b_Firmware_searchLoader 26 = .ok (.bipush 6, 2) := by decide +kernel
theorem d_Firmware_searchLoader_28 : decode b_Firmware_searchLoader 28 = .ok (.imul, 1) := by decide +kernel
theorem d_Firmware_searchLoader_29 : decode b_Firmware_searchLoader 29 = .ok (.iadd, 1) := by decide +kernel
theorem d_Firmware_searchLoader_30 : decode b_Firmware_searchLoader 30 = .ok (.istore_n 2, 1) := by decide +kernel
theorem d_Firmware_searchLoader_31 : decode b_Firmware_searchLoader 31 = .ok (.aload_n 0, 1) := by decide +kernel
theorem d_Firmware_searchLoader_32 : decode b_Firmware_searchLoader 32 = .ok (.getfield 35, 3) := by decide +kernel
theorem d_Firmware_searchLoader_35 : decode b_Firmware_searchLoader 35 = .ok (.iload_n 2, 1) := by decide +kernel
theorem d_Firmware_searchLoader_36 : decode b_Firmware_searchLoader 36 = .ok (.iconst 4, 1) := by decide +kernel
theorem d_Firmware_searchLoader_37 : decode b_Firmware_searchLoader 37 = .ok (.invokevirtual 82, 3) := by decide +kernel
theorem d_Firmware_searchLoader_40 : decode b_Firmware_searchLoader 40 = .ok (.lstore_n 3, 1) := by decide +kernel
theorem d_Firmware_searchLoader_41 : decode b_Firmware_searchLoader 41 = .ok (.lload_n 3, 1) := by decide +kernel
theorem d_Firmware_searchLoader_42 : decode b_Firmware_searchLoader 42 = .ok (.ldc2_w 116, 3) := by decide +kernel
theorem d_Firmware_searchLoader_45 : decode b_Firmware_searchLoader 45 = .ok (.lcmp, 1) := by decide +kernel
theorem d_Firmware_searchLoader_46 : decode b_Firmware_searchLoader 46 = .ok (.ifCond .lt 21, 3) := by decide +kernel
theorem d_Firmware_searchLoader_49 : decode b_Firmware_searchLoader 49 = .ok (.lload_n 3, 1) := by decide +kernel
theorem d_Firmware_searchLoader_50 : decode b_Firmware_searchLoader 50 = .ok (.ldc2_w 118, 3) := by decide +kernel
theorem d_Firmware_searchLoader_53 : decode b_Firmware_searchLoader 53 = .ok (.lcmp, 1) := by decide +kernel
theorem d_Firmware_searchLoader_54 : decode b_Firmware_searchLoader 54 = .ok (.ifCond .gt 13, 3) := by decide +kernel
theorem d_Firmware_searchLoader_57 : decode b_Firmware_searchLoader 57 = .ok (.aload_n 0, 1) := by decide +kernel
theorem d_Firmware_searchLoader_58 : decode b_Firmware_searchLoader 58 = .ok (.iload_n 1, 1) := by decide +kernel
theorem d_Firmware_searchLoader_59 : decode b_Firmware_searchLoader 59 = .ok (.lload_n 3, 1) := by decide +kernel
theorem d_Firmware_searchLoader_60 : decode b_Firmware_searchLoader 60 = .ok (.l2i, 1) := by decide +kernel
theorem d_Firmware_searchLoader_61 : decode b_Firmware_searchLoader 61 = .ok (.invokevirtual 120, 3) := by decide +kernel
theorem d_Firmware_searchLoader_64 : decode b_Firmware_searchLoader 64 = .ok (.ifCond .ne 6, 3) := by decide +kernel
theorem d_Firmware_searchLoader_67 : decode b_Firmware_searchLoader 67 = .ok (.bipush 9, 2) := by decide +kernel
theorem d_Firmware_searchLoader_69 : decode b_Firmware_searchLoader 69 = .ok (.ireturn, 1) := by decide +kernel
theorem d_Firmware_searchLoader_70 : decode b_Firmware_searchLoader 70 = .ok (.aload_n 0, 1) := by decide +kernel
theorem d_Firmware_searchLoader_71 : decode b_Firmware_searchLoader 71 = .ok (.lload_n 3, 1) := by decide +kernel
theorem d_Firmware_searchLoader_72 : decode b_Firmware_searchLoader 72 = .ok (.l2i, 1) := by decide +kernel
theorem d_Firmware_searchLoader_73 : decode b_Firmware_searchLoader 73 = .ok (.invokevirtual 124, 3) := by decide +kernel
theorem d_Firmware_searchLoader_76 : decode b_Firmware_searchLoader 76 = .ok (.aload_n 0, 1) := by decide +kernel
theorem d_Firmware_searchLoader_77 : decode b_Firmware_searchLoader 77 = .ok (.getfield 35, 3) := by decide +kernel
theorem d_Firmware_searchLoader_80 : decode b_Firmware_searchLoader 80 = .ok (.iload_n 2, 1) := by decide +kernel
theorem d_Firmware_searchLoader_81 : decode b_Firmware_searchLoader 81 = .ok (.iconst 4, 1) := by decide +kernel
theorem d_Firmware_searchLoader_82 : decode b_Firmware_searchLoader 82 = .ok (.iadd, 1) := by decide +kernel
theorem d_Firmware_searchLoader_83 : decode b_Firmware_searchLoader 83 = .ok (.iconst 4, 1) := by decide +kernel
theorem d_Firmware_searchLoader_84 : decode b_Firmware_searchLoader 84 = .ok (.invokevirtual 82, 3) := by decide +kernel
theorem d_Firmware_searchLoader_87 : decode b_Firmware_searchLoader 87 = .ok (.l2i, 1) := by decide +kernel
theorem d_Firmware_searchLoader_88 : decode b_Firmware_searchLoader 88 = .ok (.if_icmp .eq 6, 3) := by decide +kernel
theorem d_Firmware_searchLoader_91 : decode b_Firmware_searchLoader 91 = .ok (.bipush 9, 2) := by decide +kernel
theorem d_Firmware_searchLoader_93 : decode b_Firmware_searchLoader 93 = .ok (.ireturn, 1) := by decide +kernel
theorem d_Firmware_searchLoader_94 : decode b_Firmware_searchLoader 94 = .ok (.aload_n 0, 1) := by decide +kernel
theorem d_Firmware_searchLoader_95 : decode b_Firmware_searchLoader 95 = .ok (.getfield 21, 3) := by decide +kernel
theorem d_Firmware_searchLoader_98 : decode b_Firmware_searchLoader 98 = .ok (.iconst 0, 1) := by decide +kernel
theorem d_Firmware_searchLoader_99 : decode b_Firmware_searchLoader 99 = .ok (.iaload, 1) := by decide +kernel
theorem d_Firmware_searchLoader_100 : decode b_Firmware_searchLoader 100 = .ok (.sipush 512, 3) := by decide +kernel
theorem d_Firmware_searchLoader_103 : decode b_Firmware_searchLoader 103 = .ok (.imul, 1) := by decide +kernel
theorem d_Firmware_searchLoader_104 : decode b_Firmware_searchLoader 104 = .ok (.istore 5, 2) := by decide +kernel
theorem d_Firmware_searchLoader_106 : decode b_Firmware_searchLoader 106 = .ok (.aload_n 0, 1) := by decide +kernel
theorem d_Firmware_searchLoader_107 : decode b_Firmware_searchLoader 107 = .ok (.getfield 35, 3) := by decide +kernel
theorem d_Firmware_searchLoader_110 : decode b_Firmware_searchLoader 110 = .ok (.iload 5, 2) := by decide +kernel
theorem d_Firmware_searchLoader_112 : decode b_Firmware_searchLoader 112 = .ok (.iconst 4, 1) := by decide +kernel
theorem d_Firmware_searchLoader_113 : decode b_Firmware_searchLoader 113 = .ok (.iadd, 1) := by decide +kernel
theorem d_Firmware_searchLoader_114 : decode b_Firmware_searchLoader 114 = .ok (.iconst 4, 1) := by decide +kernel
theorem d_Firmware_searchLoader_115 : decode b_Firmware_searchLoader 115 = .ok (.invokevirtual 82, 3) := by decide +kernel
theorem d_Firmware_searchLoader_118 : decode b_Firmware_searchLoader 118 = .ok (.lstore 6, 2) := by decide +kernel
theorem d_Firmware_searchLoader_120 : decode b_Firmware_searchLoader 120 = .ok (.aload_n 0, 1) := by decide +kernel
theorem d_Firmware_searchLoader_121 : decode b_Firmware_searchLoader 121 = .ok (.getfield 35, 3) := by decide +kernel
theorem d_Firmware_searchLoader_124 : decode b_Firmware_searchLoader 124 = .ok (.iload 5, 2) := by decide +kernel
theorem d_Firmware_searchLoader_126 : decode b_Firmware_searchLoader 126 = .ok (.ldc 127, 2) := by decide +kernel
theorem d_Firmware_searchLoader_128 : decode b_Firmware_searchLoader 128 = .ok (.invokevirtual 129, 3) := by decide +kernel
theorem d_Firmware_searchLoader_131 : decode b_Firmware_searchLoader 131 = .ok (.ifCond .eq 14, 3) := by decide +kernel
theorem d_Firmware_searchLoader_134 : decode b_Firmware_searchLoader 134 = .ok (.lload 6, 2) := by decide +kernel
theorem d_Firmware_searchLoader_136 : decode b_Firmware_searchLoader 136 = .ok (.aload_n 0, 1) := by decide +kernel
theorem d_Firmware_searchLoader_137 : decode b_Firmware_searchLoader 137 = .ok (.getfield 38, 3) := by decide +kernel
theorem d_Firmware_searchLoader_140 : decode b_Firmware_searchLoader 140 = .ok (.i2l, 1) := by decide +kernel
theorem d_Firmware_searchLoader_141 : decode b_Firmware_searchLoader 141 = .ok (.lcmp, 1) := by decide +kernel
theorem d_Firmware_searchLoader_142 : decode b_Firmware_searchLoader 142 = .ok (.ifCond .lt 6, 3) := by decide +kernel
theorem d_Firmware_searchLoader_145 : decode b_Firmware_searchLoader 145 = .ok (.bipush 9, 2) := by decide +kernel
theorem d_Firmware_searchLoader_147 : decode b_Firmware_searchLoader 147 = .ok (.ireturn, 1) := by decide +kernel
theorem d_Firmware_searchLoader_148 : decode b_Firmware_searchLoader 148 = .ok (.aload_n 0, 1) := by decide +kernel
theorem d_Firmware_searchLoader_149 : decode b_Firmware_searchLoader 149 = .ok (.lload 6, 2) := by decide +kernel
theorem d_Firmware_searchLoader_151 : decode b_Firmware_searchLoader 151 = .ok (.l2i, 1) := by decide +kernel
theorem d_Firmware_searchLoader_152 : decode b_Firmware_searchLoader 152 = .ok (.putfield 25, 3) := by decide +kernel
theorem d_Firmware_searchLoader_155 : decode b_Firmware_searchLoader 155 = .ok (.iconst 0, 1) := by decide +kernel
theorem d_Firmware_searchLoader_156 : decode b_Firmware_searchLoader 156 = .ok (.ireturn, 1) := by decide +kernel
theorem d_Firmware_readVolumeSector_0 : decode b_Firmware_readVolumeSector 0 = .ok (.aload_n 0, 1) := by decide +kernel
theorem d_Firmware_readVolumeSector_1 : decode b_Firmware_readVolumeSector 1 = .ok (.getfield 25, 3) := by decide +kernel
theorem d_Firmware_readVolumeSector_4 : decode b_Firmware_readVolumeSector 4 = .ok (.sipush 512, 3) := by decide +kernel
theorem d_Firmware_readVolumeSector_7 : decode b_Firmware_readVolumeSector 7 = .ok (.imul, 1) := by decide +kernel
theorem d_Firmware_readVolumeSector_8 : decode b_Firmware_readVolumeSector 8 = .ok (.istore_n 1, 1) := by decide +kernel
theorem d_Firmware_readVolumeSector_9 : decode b_Firmware_readVolumeSector 9 = .ok (.aload_n 0, 1) := by decide +kernel
theorem d_Firmware_readVolumeSector_10 : decode b_Firmware_readVolumeSector 10 = .ok (.getfield 35, 3) := by decide +kernel
theorem d_Firmware_readVolumeSector_13 : decode b_Firmware_readVolumeSector 13 = .ok (.iload_n 1, 1) := by decide +kernel
theorem d_Firmware_readVolumeSector_14 : decode b_Firmware_readVolumeSector 14 = .ok (.bipush 19, 2) := by decide +kernel
theorem d_Firmware_readVolumeSector_16 : decode b_Firmware_readVolumeSector 16 = .ok (.iadd, 1) := by decide +kernel
theorem d_Firmware_readVolumeSector_17 : decode b_Firmware_readVolumeSector 17 = .ok (.iconst 2, 1) := by decide +kernel
theorem d_Firmware_readVolumeSector_18 : decode b_Firmware_readVolumeSector 18 = .ok (.invokevirtual 82, 3) := by decide +kernel
theorem d_Firmware_readVolumeSector_21 : decode b_Firmware_readVolumeSector 21 = .ok (.l2i, 1) := by decide +kernel
theorem d_Firmware_readVolumeSector_22 : decode b_Firmware_readVolumeSector 22 = .ok (.istore_n 2, 1) := by decide +kernel
theorem d_Firmware_readVolumeSector_23 : decode b_Firmware_readVolumeSector 23 = .ok (.aload_n 0, 1) := by decide +kernel
theorem d_Firmware_readVolumeSector_24 : decode b_Firmware_readVolumeSector 24 = .ok (.aload_n 0, 1) := by decide +kernel
theorem d_Firmware_readVolumeSector_25 : decode b_Firmware_readVolumeSector 25 = .ok (.getfield 35, 3) := by decide +kernel
theorem d_Firmware_readVolumeSector_28 : decode b_Firmware_readVolumeSector 28 = .ok (.iload_n 1, 1) := by decide +kernel
theorem d_Firmware_readVolumeSector_29 : decode b_Firmware_readVolumeSector 29 = .ok (.bipush 22, 2) := by decide +kernel
theorem d_Firmware_readVolumeSector_31 : decode b_Firmware_readVolumeSector 31 = .ok (.iadd, 1) := by decide +kernel
theorem d_Firmware_readVolumeSector_32 : decode b_Firmware_readVolumeSector 32 = .ok (.iconst 2, 1) := by decide +kernel
theorem d_Firmware_readVolumeSector_33 : decode b_Firmware_readVolumeSector 33 = .ok (.invokevirtual 82, 3) := by decide +kernel
theorem d_Firmware_readVolumeSector_36 : decode b_Firmware_readVolumeSector 36 = .ok (.l2i, 1) := by decide +kernel
theorem d_Firmware_readVolumeSector_37 : decode b_Firmware_readVolumeSector 37 = .ok (.putfield 161, 3) := by decide +kernel
theorem d_Firmware_readVolumeSector_40 : decode b_Firmware_readVolumeSector 40 = .ok (.aload_n 0, 1) := by decide +kernel
theorem d_Firmware_readVolumeSector_41 : decode b_Firmware_readVolumeSector 41 = .ok (.iload_n 2, 1) := by decide +kernel
theorem d_Firmware_readVolumeSector_42 : decode b_Firmware_readVolumeSector 42 = .ok (.aload_n 0, 1) := by decide +kernel
theorem d_Firmware_readVolumeSector_43 : decode b_Firmware_readVolumeSector 43 = .ok (.getfield 161, 3) := by decide +kernel
theorem d_Firmware_readVolumeSector_46 : decode b_Firmware_readVolumeSector 46 = .ok (.invokestatic 164, 3) := by decide +kernel
theorem d_Firmware_readVolumeSector_49 : decode b_Firmware_readVolumeSector 49 = .ok (.putfield 168, 3) := by decide +kernel
theorem d_Firmware_readVolumeSector_52 : decode b_Firmware_readVolumeSector 52 = .ok (.aload_n 0, 1) := by decide +kernel
theorem d_Firmware_readVolumeSector_53 : decode b_Firmware_readVolumeSector 53 = .ok (.getfield 35, 3) := by decide +kernel
theorem d_Firmware_readVolumeSector_56 : decode b_Firmware_readVolumeSector 56 = .ok (.aload_n 0, 1) := by decide +kernel
theorem d_Firmware_readVolumeSector_57 : decode b_Firmware_readVolumeSector 57 = .ok (.getfield 25, 3) := by decide +kernel
theorem d_Firmware_readVolumeSector_60 : decode b_Firmware_readVolumeSector 60 = .ok (.invokevirtual 58, 3) := by decide +kernel
theorem d_Firmware_readVolumeSector_63 : decode b_Firmware_readVolumeSector 63 = .ok (.ifCond .eq 138, 3) := by decide +kernel
theorem d_Firmware_readVolumeSector_66 : decode b_Firmware_readVolumeSector 66 = .ok (.aload_n 0, 1) := by decide +kernel
theorem d_Firmware_readVolumeSector_67 : decode b_Firmware_readVolumeSector 67 = .ok (.getfield 35, 3) := by decide +kernel
theorem d_Firmware_readVolumeSector_70 : decode b_Firmware_readVolumeSector 70 = .ok (.iload_n 1, 1) := by decide +kernel
theorem d_Firmware_readVolumeSector_71 : decode b_Firmware_readVolumeSector 71 = .ok (.bipush 11, 2) := by decide +kernel
theorem d_Firmware_readVolumeSector_73 : decode b_Firmware_readVolumeSector 73 = .ok (.iadd, 1) := by decide +kernel
theorem d_Firmware_readVolumeSector_74 : decode b_Firmware_readVolumeSector 74 = .ok (.iconst 2, 1) := by decide +kernel
theorem d_Firmware_readVolumeSector_75 : decode b_Firmware_readVolumeSector 75 = .ok (.invokevirtual 82, 3) := by decide +kernel
theorem d_Firmware_readVolumeSector_78 : decode b_Firmware_readVolumeSector 78 = .ok (.ldc2_w 171, 3) := by decide +kernel
theorem d_Firmware_readVolumeSector_81 : decode b_Firmware_readVolumeSector 81 = .ok (.lcmp, 1) := by decide +kernel
theorem d_Firmware_readVolumeSector_82 : decode b_Firmware_readVolumeSector 82 = .ok (.ifCond .ne 119, 3) := by decide +kernel
theorem d_Firmware_readVolumeSector_85 : decode b_Firmware_readVolumeSector 85 = .ok (.aload_n 0, 1) := by decide +kernel
theorem d_Firmware_readVolumeSector_86 : decode b_Firmware_readVolumeSector 86 = .ok (.getfield 35, 3) := by decide +kernel
theorem d_Firmware_readVolumeSector_89 : decode b_Firmware_readVolumeSector 89 = .ok (.iload_n 1, 1) := by decide +kernel
theorem d_Firmware_readVolumeSector_90 : decode b_Firmware_readVolumeSector 90 = .ok (.bipush 13, 2) := by decide +kernel
theorem d_Firmware_readVolumeSector_92 : decode b_Firmware_readVolumeSector 92 = .ok (.iadd, 1) := by decide +kernel
theorem d_Firmware_readVolumeSector_93 : decode b_Firmware_readVolumeSector 93 = .ok (.invokevirtual 75, 3) := by decide +kernel
theorem d_Firmware_readVolumeSector_96 : decode b_Firmware_readVolumeSector 96 = .ok (.iconst 1, 1) := by decide +kernel
theorem d_Firmware_readVolumeSector_97 : decode b_Firmware_readVolumeSector 97 = .ok (.if_icmp .ne 104, 3) := by decide +kernel
theorem d_Firmware_readVolumeSector_100 : decode b_Firmware_readVolumeSector 100 = .ok (.aload_n 0, 1) := by decide +kernel
theorem d_Firmware_readVolumeSector_101 : decode b_Firmware_readVolumeSector 101 = .ok (.getfield 35, 3) := by decide +kernel
theorem d_Firmware_readVolumeSector_104 : decode b_Firmware_readVolumeSector 104 = .ok (.iload_n 1, 1) := by decide +kernel
theorem d_Firmware_readVolumeSector_105 : decode b_Firmware_readVolumeSector 105 = .ok (.bipush 14, 2) := by decide +kernel
theorem d_Firmware_readVolumeSector_107 : decode b_Firmware_readVolumeSector 107 = .ok (.iadd, 1) := by decide +kernel
theorem d_Firmware_readVolumeSector_108 : decode b_Firmware_readVolumeSector 108 = .ok (.iconst 2, 1) := by decide +kernel
theorem d_Firmware_readVolumeSector_109 : decode b_Firmware_readVolumeSector 109 = .ok (.invokevirtual 82, 3) := by decide +kernel
theorem d_Firmware_readVolumeSector_112 : decode b_Firmware_readVolumeSector 112 = .ok (.lconst 1, 1) := by decide +kernel
theorem d_Firmware_readVolumeSector_113 : decode b_Firmware_readVolumeSector 113 = .ok (.lcmp, 1) := by decide +kernel
theorem d_Firmware_readVolumeSector_114 : decode b_Firmware_readVolumeSector 114 = .ok (.ifCond .ne 87, 3) := by decide +kernel
theorem d_Firmware_readVolumeSector_117 : decode b_Firmware_readVolumeSector 117 = .ok (.aload_n 0, 1) := by decide +kernel
theorem d_Firmware_readVolumeSector_118 : decode b_Firmware_readVolumeSector 118 = .ok (.getfield 35, 3) := by decide +kernel
theorem d_Firmware_readVolumeSector_121 : decode b_Firmware_readVolumeSector 121 = .ok (.iload_n 1, 1) := by decide +kernel
theorem d_Firmware_readVolumeSector_122 : decode b_Firmware_readVolumeSector 122 = .ok (.bipush 16, 2) := by decide +kernel
theorem d_Firmware_readVolumeSector_124 : decode b_Firmware_readVolumeSector 124 = .ok (.iadd, 1) := by decide +kernel
theorem d_Firmware_readVolumeSector_125 : decode b_Firmware_readVolumeSector 125 = .ok (.invokevirtual 75, 3) := by decide +kernel
theorem d_Firmware_readVolumeSector_128 : decode b_Firmware_readVolumeSector 128 = .ok (.iconst 2, 1) := by decide +kernel
theorem d_Firmware_readVolumeSector_129 : decode b_Firmware_readVolumeSector 129 = .ok (.if_icmp .ne 72, 3) := by decide +kernel
theorem d_Firmware_readVolumeSector_132 : decode b_Firmware_readVolumeSector 132 = .ok (.aload_n 0, 1) := by decide +kernel
theorem d_Firmware_readVolumeSector_133 : decode b_Firmware_readVolumeSector 133 = .ok (.getfield 35, 3) := by decide +kernel
theorem d_Firmware_readVolumeSector_136 : decode b_Firmware_readVolumeSector 136 = .ok (.iload_n 1, 1) := by decide +kernel
theorem d_Firmware_readVolumeSector_137 : decode b_Firmware_readVolumeSector 137 = .ok (.bipush 17, 2) := by decide +kernel
theorem d_Firmware_readVolumeSector_139 : decode b_Firmware_readVolumeSector 139 = .ok (.iadd, 1) := by decide +kernel
theorem d_Firmware_readVolumeSector_140 : decode b_Firmware_readVolumeSector 140 = .ok (.iconst 2, 1) := by decide +kernel
theorem d_Firmware_readVolumeSector_141 : decode b_Firmware_readVolumeSector 141 = .ok (.invokevirtual 82, 3) := by decide +kernel
theorem d_Firmware_readVolumeSector_144 : decode b_Firmware_readVolumeSector 144 = .ok (.ldc2_w 173, 3) := by decide +kernel
theorem d_Firmware_readVolumeSector_147 : decode b_Firmware_readVolumeSector 147 = .ok (.lcmp, 1) := by decide +kernel
theorem d_Firmware_readVolumeSector_148 : decode b_Firmware_readVolumeSector 148 = .ok (.ifCond .ne 53, 3) := by decide +kernel
theorem d_Firmware_readVolumeSector_151 : decode b_Firmware_readVolumeSector 151 = .ok (.aload_n 0, 1) := by decide +kernel
theorem d_Firmware_readVolumeSector_152 : decode b_Firmware_readVolumeSector 152 = .ok (.getfield 161, 3) := by decide +kernel
theorem d_Firmware_readVolumeSector_155 : decode b_Firmware_readVolumeSector 155 = .ok (.ifCond .le 46, 3) := by decide +kernel
theorem d_Firmware_readVolumeSector_158 : decode b_Firmware_readVolumeSector 158 = .ok (.aload_n 0, 1) := by decide +kernel
theorem d_Firmware_readVolumeSector_159 : decode b_Firmware_readVolumeSector 159 = .ok (.getfield 168, 3) := by decide +kernel
theorem d_Firmware_readVolumeSector_162 : decode b_Firmware_readVolumeSector 162 = .ok (.iconst 1, 1) := by decide +kernel
theorem d_Firmware_readVolumeSector_163 : decode b_Firmware_readVolumeSector 163 = .ok (.if_icmp .lt 38, 3) := by decide +kernel
theorem d_Firmware_readVolumeSector_166 : decode b_Firmware_readVolumeSector 166 = .ok (.aload_n 0, 1) := by decide +kernel
theorem d_Firmware_readVolumeSector_167 : decode b_Firmware_readVolumeSector 167 = .ok (.getfield 168, 3) := by decide +kernel
theorem d_Firmware_readVolumeSector_170 : decode b_Firmware_readVolumeSector 170 = .ok (.invokestatic 175, 3) := by decide +kernel
theorem d_Firmware_readVolumeSector_173 : decode b_Firmware_readVolumeSector 173 = .ok (.sipush 512, 3) := by decide +kernel
theorem d_Firmware_readVolumeSector_176 : decode b_Firmware_readVolumeSector 176 = .ok (.aload_n 0, 1) := by decide +kernel
theorem d_Firmware_readVolumeSector_177 : decode b_Firmware_readVolumeSector 177 = .ok (.getfield 161, 3) := by decide +kernel
theorem d_Firmware_readVolumeSector_180 : decode b_Firmware_readVolumeSector 180 = .ok (.imul, 1) := by decide +kernel
theorem d_Firmware_readVolumeSector_181 : decode b_Firmware_readVolumeSector 181 = .ok (.if_icmp .gt 20, 3) := by decide +kernel
theorem d_Firmware_readVolumeSector_184 : decode b_Firmware_readVolumeSector 184 = .ok (.aload_n 0, 1) := by decide +kernel
theorem d_Firmware_readVolumeSector_185 : decode b_Firmware_readVolumeSector 185 = .ok (.getfield 25, 3) := by decide +kernel
theorem d_Firmware_readVolumeSector_188 : decode b_Firmware_readVolumeSector 188 = .ok (.iload_n 2, 1) := by decide +kernel
theorem d_Firmware_readVolumeSector_189 : decode b_Firmware_readVolumeSector 189 = .ok (.iadd, 1) := by decide +kernel
theorem d_Firmware_readVolumeSector_190 : decode b_Firmware_readVolumeSector 190 = .ok (.aload_n 0, 1) := by decide +kernel
theorem d_Firmware_readVolumeSector_191 : decode b_Firmware_readVolumeSector 191 = .ok (.getfield 38, 3) := by decide +kernel
theorem d_Firmware_readVolumeSector_194 : decode b_Firmware_readVolumeSector 194 = .ok (.if_icmp .gt 7, 3) := by decide +kernel
theorem d_Firmware_readVolumeSector_197 : decode b_Firmware_readVolumeSector 197 = .ok (.iconst 1, 1) := by decide +kernel
theorem d_Firmware_readVolumeSector_198 : decode b_Firmware_readVolumeSector 198 = .ok (.goto 4, 3) := by decide +kernel
theorem d_Firmware_readVolumeSector_201 : decode b_Firmware_readVolumeSector 201 = .ok (.iconst 0, 1) := by decide +kernel
theorem d_Firmware_readVolumeSector_202 : decode b_Firmware_readVolumeSector 202 = .ok (.ireturn, 1) := by decide +kernel
theorem d_Firmware_kernelEntry_0 : decode b_Firmware_kernelEntry 0 = .ok (.aload_n 0, 1) := by decide +kernel
theorem d_Firmware_kernelEntry_1 : decode b_Firmware_kernelEntry 1 = .ok (.getfield 25, 3) := by decide +kernel
theorem d_Firmware_kernelEntry_4 : decode b_Firmware_kernelEntry 4 = .ok (.iconst 1, 1) := by decide +kernel
theorem d_Firmware_kernelEntry_5 : decode b_Firmware_kernelEntry 5 = .ok (.iadd, 1) := by decide +kernel
theorem d_Firmware_kernelEntry_6 : decode b_Firmware_kernelEntry 6 = .ok (.iconst 2, 1) := by decide +kernel
theorem d_Firmware_kernelEntry_7 : decode b_Firmware_kernelEntry 7 = .ok (.aload_n 0, 1) := by decide +kernel
theorem d_Firmware_kernelEntry_8 : decode b_Firmware_kernelEntry 8 = .ok (.getfield 161, 3) := by decide +kernel
theorem d_Firmware_kernelEntry_11 : decode b_Firmware_kernelEntry 11 = .ok (.imul, 1) := by decide +kernel
theorem d_Firmware_kernelEntry_12 : decode b_Firmware_kernelEntry 12 = .ok (.iadd, 1) := by decide +kernel
theorem d_Firmware_kernelEntry_13 : decode b_Firmware_kernelEntry 13 = .ok (.sipush 512, 3) := by decide +kernel
theorem d_Firmware_kernelEntry_16 : decode b_Firmware_kernelEntry 16 = .ok (.imul, 1) := by decide +kernel
theorem d_Firmware_kernelEntry_17 : decode b_Firmware_kernelEntry 17 = .ok (.istore_n 1, 1) := by decide +kernel
theorem d_Firmware_kernelEntry_18 : decode b_Firmware_kernelEntry 18 = .ok (.iconst 0, 1) := by decide +kernel
theorem d_Firmware_kernelEntry_19 : decode b_Firmware_kernelEntry 19 = .ok (.istore_n 2, 1) := by decide +kernel
theorem d_Firmware_kernelEntry_20 : decode b_Firmware_kernelEntry 20 = .ok (.iload_n 2, 1) := by decide +kernel
theorem d_Firmware_kernelEntry_21 : decode b_Firmware_kernelEntry 21 = .ok (.bipush 32, 2) := by decide +kernel
theorem d_Firmware_kernelEntry_23 : decode b_Firmware_kernelEntry 23 = .ok (.if_icmp .ge 60, 3) := by decide +kernel
theorem d_Firmware_kernelEntry_26 : decode b_Firmware_kernelEntry 26 = .ok (.iload_n 1, 1) := by decide +kernel
theorem d_Firmware_kernelEntry_27 : decode b_Firmware_kernelEntry 27 = .ok (.iload_n 2, 1) := by decide +kernel
theorem d_Firmware_kernelEntry_28 : decode b_Firmware_kernelEntry 28 = .ok (.bipush 32, 2) := by decide +kernel
theorem d_Firmware_kernelEntry_30 : decode b_Firmware_kernelEntry 30 = .ok (.imul, 1) := by decide +kernel
theorem d_Firmware_kernelEntry_31 : decode b_Firmware_kernelEntry 31 = .ok (.iadd, 1) := by decide +kernel
theorem d_Firmware_kernelEntry_32 : decode b_Firmware_kernelEntry 32 = .ok (.istore_n 3, 1) := by decide +kernel
theorem d_Firmware_kernelEntry_33 : decode b_Firmware_kernelEntry 33 = .ok (.aload_n 0, 1) := by decide +kernel
theorem d_Firmware_kernelEntry_34 : decode b_Firmware_kernelEntry 34 = .ok (.getfield 35, 3) := by decide +kernel
theorem d_Firmware_kernelEntry_37 : decode b_Firmware_kernelEntry 37 = .ok (.iload_n 3, 1) := by decide +kernel
theorem d_Firmware_kernelEntry_38 : decode b_Firmware_kernelEntry 38 = .ok (.invokevirtual 75, 3) := by decide +kernel
theorem d_Firmware_kernelEntry_41 : decode b_Firmware_kernelEntry 41 = .ok (.ifCond .ne 5, 3) := by decide +kernel
theorem d_Firmware_kernelEntry_44 : decode b_Firmware_kernelEntry 44 = .ok (.iconst (-1), 1) := by decide +kernel
theorem d_Firmware_kernelEntry_45 : decode b_Firmware_kernelEntry 45 = .ok (.ireturn, 1) := by decide +kernel
theorem d_Firmware_kernelEntry_46 : decode b_Firmware_kernelEntry 46 = .ok (.aload_n 0, 1) := by decide +kernel
theorem d_Firmware_kernelEntry_47 : decode b_Firmware_kernelEntry 47 = .ok (.getfield 35, 3) := by decide +kernel
theorem d_Firmware_kernelEntry_50 : decode b_Firmware_kernelEntry 50 = .ok (.iload_n 3, 1) := by decide +kernel
theorem d_Firmware_kernelEntry_51 : decode b_Firmware_kernelEntry 51 = .ok (.ldc 178, 2) := by decide +kernel
theorem d_Firmware_kernelEntry_53 : decode b_Firmware_kernelEntry 53 = .ok (.invokevirtual 129, 3) := by decide +kernel
theorem d_Firmware_kernelEntry_56 : decode b_Firmware_kernelEntry 56 = .ok (.ifCond .eq 21, 3) := by decide +kernel
theorem d_Firmware_kernelEntry_59 : decode b_Firmware_kernelEntry 59 = .ok (.aload_n 0, 1) := by decide +kernel
theorem d_Firmware_kernelEntry_60 : decode b_Firmware_kernelEntry 60 = .ok (.getfield 35, 3) := by decide +kernel
theorem d_Firmware_kernelEntry_63 : decode b_Firmware_kernelEntry 63 = .ok (.iload_n 3, 1) := by decide +kernel
theorem d_Firmware_kernelEntry_64 : decode b_Firmware_kernelEntry 64 = .ok (.bipush 11, 2) := by decide +kernel
theorem d_Firmware_kernelEntry_66 : decode b_Firmware_kernelEntry 66 = .ok (.iadd, 1) := by decide +kernel
theorem d_Firmware_kernelEntry_67 : decode b_Firmware_kernelEntry 67 = .ok (.invokevirtual 75, 3) := by decide +kernel
theorem d_Firmware_kernelEntry_70 : decode b_Firmware_kernelEntry 70 = .ok (.bipush 32, 2) := by decide +kernel
theorem d_Firmware_kernelEntry_72 : decode b_Firmware_kernelEntry 72 = .ok (.if_icmp .ne 5, 3) := by decide +kernel
theorem d_Firmware_kernelEntry_75 : decode b_Firmware_kernelEntry 75 = .ok (.iload_n 3, 1) := by decide +kernel
theorem d_Firmware_kernelEntry_76 : decode b_Firmware_kernelEntry 76 = .ok (.ireturn, 1) := by decide +kernel
theorem d_Firmware_kernelEntry_77 : decode b_Firmware_kernelEntry 77 = .ok (.iinc 2 1, 3) := by decide +kernel
theorem d_Firmware_kernelEntry_80 : decode b_Firmware_kernelEntry 80 = .ok (.goto (-60), 3) := by decide +kernel
theorem d_Firmware_kernelEntry_83 : decode b_Firmware_kernelEntry 83 = .ok (.iconst (-1), 1) := by decide +kernel
theorem d_Firmware_kernelEntry_84 : decode b_Firmware_kernelEntry 84 = .ok (.ireturn, 1) := by decide +kernel
theorem d_Firmware_followChain_0 : decode b_Firmware_followChain 0 = .ok (.lload_n 2, 1) := by decide +kernel
theorem d_Firmware_followChain_1 : decode b_Firmware_followChain 1 = .ok (.ldc2_w 171, 3) := by decide +kernel
theorem d_Firmware_followChain_4 : decode b_Firmware_followChain 4 = .ok (.ladd, 1) := by decide +kernel
theorem d_Firmware_followChain_5 : decode b_Firmware_followChain 5 = .ok (.lconst 1, 1) := by decide +kernel
theorem d_Firmware_followChain_6 : decode b_Firmware_followChain 6 = .ok (.lsub, 1) := by decide +kernel
theorem d_Firmware_followChain_7 : decode b_Firmware_followChain 7 = .ok (.ldc2_w 171, 3) := by decide +kernel
theorem d_Firmware_followChain_10 : decode b_Firmware_followChain 10 = .ok (.ldiv, 1) := by decide +kernel
theorem d_Firmware_followChain_11 : decode b_Firmware_followChain 11 = .ok (.lstore 4, 2) := by decide +kernel
theorem d_Firmware_followChain_13 : decode b_Firmware_followChain 13 = .ok (.lload 4, 2) := by decide +kernel
theorem d_Firmware_followChain_15 : decode b_Firmware_followChain 15 = .ok (.aload_n 0, 1) := by decide +kernel
theorem d_Firmware_followChain_16 : decode b_Firmware_followChain 16 = .ok (.getfield 168, 3) := by decide +kernel
theorem d_Firmware_followChain_19 : decode b_Firmware_followChain 19 = .ok (.i2l, 1) := by decide +kernel
theorem d_Firmware_followChain_20 : decode b_Firmware_followChain 20 = .ok (.lcmp, 1) := by decide +kernel
theorem d_Firmware_followChain_21 : decode b_Firmware_followChain 21 = .ok (.ifCond .gt 15, 3) := by decide +kernel
theorem d_Firmware_followChain_24 : decode b_Firmware_followChain 24 = .ok (.lload 4, 2) := by decide +kernel
theorem d_Firmware_followChain_26 : decode b_Firmware_followChain 26 = .ok (.aload_n 0, 1) := by decide +kernel
theorem d_Firmware_followChain_27 : decode b_Firmware_followChain 27 = .ok (.getfield 45, 3) := by decide +kernel
theorem d_Firmware_followChain_30 : decode b_Firmware_followChain 30 = .ok (.arraylength, 1) := by decide +kernel
theorem d_Firmware_followChain_31 : decode b_Firmware_followChain 31 = .ok (.i2l, 1) := by decide +kernel
theorem d_Firmware_followChain_32 : decode b_Firmware_followChain 32 = .ok (.lcmp, 1) := by decide +kernel
theorem d_Firmware_followChain_33 : decode b_Firmware_followChain 33 = .ok (.ifCond .le 5, 3) := by decide +kernel
theorem d_Firmware_followChain_36 : decode b_Firmware_followChain 36 = .ok (.iconst 0, 1) := by decide +kernel
theorem d_Firmware_followChain_37 : decode b_Firmware_followChain 37 = .ok (.ireturn, 1) := by decide +kernel
theorem d_Firmware_followChain_38 : decode b_Firmware_followChain 38 = .ok (.iload_n 1, 1) := by decide +kernel
theorem d_Firmware_followChain_39 : decode b_Firmware_followChain 39 = .ok (.istore 6, 2) := by decide +kernel
theorem d_Firmware_followChain_41 : decode b_Firmware_followChain 41 = .ok (.iconst 0, 1) := by decide +kernel
theorem d_Firmware_followChain_42 : decode b_Firmware_followChain 42 = .ok (.istore 7, 2) := by decide +kernel
theorem d_Firmware_followChain_44 : decode b_Firmware_followChain 44 = .ok (.iload 7, 2) := by decide +kernel
theorem d_Firmware_followChain_46 : decode b_Firmware_followChain 46 = .ok (.i2l, 1) := by decide +kernel
theorem d_Firmware_followChain_47 : decode b_Firmware_followChain 47 = .ok (.lload 4, 2) := by decide +kernel
theorem d_Firmware_followChain_49 : decode b_Firmware_followChain 49 = .ok (.lcmp, 1) := by decide +kernel
theorem d_Firmware_followChain_50 : decode b_Firmware_followChain 50 = .ok (.ifCond .ge 45, 3) := by decide +kernel
theorem d_Firmware_followChain_53 : decode b_Firmware_followChain 53 = .ok (.iload 6, 2) := by decide +kernel
theorem d_Firmware_followChain_55 : decode b_Firmware_followChain 55 = .ok (.iconst 2, 1) := by decide +kernel
theorem d_Firmware_followChain_56 : decode b_Firmware_followChain 56 = .ok (.if_icmp .lt 14, 3) := by decide +kernel
theorem d_Firmware_followChain_59 : decode b_Firmware_followChain 59 = .ok (.iload 6, 2) := by decide +kernel
theorem d_Firmware_followChain_61 : decode b_Firmware_followChain 61 = .ok (.aload_n 0, 1) := by decide +kernel
theorem d_Firmware_followChain_62 : decode b_Firmware_followChain 62 = .ok (.getfield 168, 3) := by decide +kernel
theorem d_Firmware_followChain_65 : decode b_Firmware_followChain 65 = .ok (.iconst 1, 1) := by decide +kernel
theorem d_Firmware_followChain_66 : decode b_Firmware_followChain 66 = .ok (.iadd, 1) := by decide +kernel
theorem d_Firmware_followChain_67 : decode b_Firmware_followChain 67 = .ok (.if_icmp .le 5, 3) := by decide +kernel
theorem d_Firmware_followChain_70 : decode b_Firmware_followChain 70 = .ok (.iconst 0, 1) := by decide +kernel
theorem d_Firmware_followChain_71 : decode b_Firmware_followChain 71 = .ok (.ireturn, 1) := by decide +kernel
theorem d_Firmware_followChain_72 : decode b_Firmware_followChain 72 = .ok (.aload_n 0, 1) := by decide +kernel
theorem d_Firmware_followChain_73 : decode b_Firmware_followChain 73 = .ok (.getfield 45, 3) := by decide +kernel
theorem d_Firmware_followChain_76 : decode b_Firmware_followChain 76 = .ok (.iload 7, 2) := by decide +kernel
theorem d_Firmware_followChain_78 : decode b_Firmware_followChain 78 = .ok (.iload 6, 2) := by decide +kernel
theorem d_Firmware_followChain_80 : decode b_Firmware_followChain 80 = .ok (.iastore, 1) := by decide +kernel
theorem d_Firmware_followChain_81 : decode b_Firmware_followChain 81 = .ok (.aload_n 0, 1) := by decide +kernel
theorem d_Firmware_followChain_82 : decode b_Firmware_followChain 82 = .ok (.iload 6, 2) := by decide +kernel
theorem d_Firmware_followChain_84 : decode b_Firmware_followChain 84 = .ok (.invokevirtual 180, 3) := by decide +kernel
theorem d_Firmware_followChain_87 : decode b_Firmware_followChain 87 = .ok (.istore 6, 2) := by decide +kernel
theorem d_Firmware_followChain_89 : decode b_Firmware_followChain 89 = .ok (.iinc 7 1, 3) := by decide +kernel
theorem d_Firmware_followChain_92 : decode b_Firmware_followChain 92 = .ok (.goto (-48), 3) := by decide +kernel
theorem d_Firmware_followChain_95 : decode b_Firmware_followChain 95 = .ok (.lload 4, 2) := by decide +kernel
theorem d_Firmware_followChain_97 : decode b_Firmware_followChain 97 = .ok (.lconst 0, 1) := by decide +kernel
theorem d_Firmware_followChain_98 : decode b_Firmware_followChain 98 = .ok (.lcmp, 1) := by decide +kernel
theorem d_Firmware_followChain_99 : decode b_Firmware_followChain 99 = .ok (.ifCond .eq 11, 3) := by decide +kernel
theorem d_Firmware_followChain_102 : decode b_Firmware_followChain 102 = .ok (.iload 6, 2) := by decide +kernel
theorem d_Firmware_followChain_104 : decode b_Firmware_followChain 104 = .ok (.sipush 4088, 3) := by decide +kernel
theorem d_Firmware_followChain_107 : decode b_Firmware_followChain 107 = .ok (.if_icmp .lt 7, 3) := by decide +kernel
theorem d_Firmware_followChain_110 : decode b_Firmware_followChain 110 = .ok (.iconst 1, 1) := by decide +kernel
theorem d_Firmware_followChain_111 : decode b_Firmware_followChain 111 = .ok (.goto 4, 3) := by decide +kernel
theorem d_Firmware_followChain_114 : decode b_Firmware_followChain 114 = .ok (.iconst 0, 1) := by decide +kernel
theorem d_Firmware_followChain_115 : decode b_Firmware_followChain 115 = .ok (.ireturn, 1) := by decide +kernel
theorem d_Firmware_copyKernel_0 : decode b_Firmware_copyKernel 0 = .ok (.iload_n 1, 1) := by decide +kernel
theorem d_Firmware_copyKernel_1 : decode b_Firmware_copyKernel 1 = .ok (.bipush 8, 2) := by decide +kernel
theorem d_Firmware_copyKernel_3 : decode b_Firmware_copyKernel 3 = .ok (.if_icmp .ge 5, 3) := by decide +kernel
theorem d_Firmware_copyKernel_6 : decode b_Firmware_copyKernel 6 = .ok (.iconst 0, 1) := by decide +kernel
theorem d_Firmware_copyKernel_7 : decode b_Firmware_copyKernel 7 = .ok (.ireturn, 1) := by decide +kernel
theorem d_Firmware_copyKernel_8 : decode b_Firmware_copyKernel 8 = .ok (.aload_n 0, 1) := by decide +kernel
theorem d_Firmware_copyKernel_9 : decode b_Firmware_copyKernel 9 = .ok (.aload_n 0, 1) := by decide +kernel
theorem d_Firmware_copyKernel_10 : decode b_Firmware_copyKernel 10 = .ok (.getfield 45, 3) := by decide +kernel
theorem d_Firmware_copyKernel_13 : decode b_Firmware_copyKernel 13 = .ok (.iconst 0, 1) := by decide +kernel
theorem d_Firmware_copyKernel_14 : decode b_Firmware_copyKernel 14 = .ok (.iaload, 1) := by decide +kernel
theorem d_Firmware_copyKernel_15 : decode b_Firmware_copyKernel 15 = .ok (.invokevirtual 183, 3) := by decide +kernel
theorem d_Firmware_copyKernel_18 : decode b_Firmware_copyKernel 18 = .ok (.istore_n 2, 1) := by decide +kernel
theorem d_Firmware_copyKernel_19 : decode b_Firmware_copyKernel 19 = .ok (.aload_n 0, 1) := by decide +kernel
theorem d_Firmware_copyKernel_20 : decode b_Firmware_copyKernel 20 = .ok (.getfield 35, 3) := by decide +kernel
theorem d_Firmware_copyKernel_23 : decode b_Firmware_copyKernel 23 = .ok (.iload_n 2, 1) := by decide +kernel
theorem d_Firmware_copyKernel_24 : decode b_Firmware_copyKernel 24 = .ok (.iconst 4, 1) := by decide +kernel
theorem d_Firmware_copyKernel_25 : decode b_Firmware_copyKernel 25 = .ok (.iadd, 1) := by decide +kernel
theorem d_Firmware_copyKernel_26 : decode b_Firmware_copyKernel 26 = .ok (.iconst 4, 1) := by decide +kernel
theorem d_Firmware_copyKernel_27 : decode b_Firmware_copyKernel 27 = .ok (.invokevirtual 82, 3) := by decide +kernel
theorem d_Firmware_copyKernel_30 : decode b_Firmware_copyKernel 30 = .ok (.lstore_n 3, 1) := by decide +kernel
theorem d_Firmware_copyKernel_31 : decode b_Firmware_copyKernel 31 = .ok (.aload_n 0, 1) := by decide +kernel
theorem d_Firmware_copyKernel_32 : decode b_Firmware_copyKernel 32 = .ok (.getfield 35, 3) := by decide +kernel
theorem d_Firmware_copyKernel_35 : decode b_Firmware_copyKernel 35 = .ok (.iload_n 2, 1) := by decide +kernel
theorem d_Firmware_copyKernel_36 : decode b_Firmware_copyKernel 36 = .ok (.ldc 186, 2) := by decide +kernel
theorem d_Firmware_copyKernel_38 : decode b_Firmware_copyKernel 38 = .ok (.invokevirtual 129, 3) := by decide +kernel
theorem d_Firmware_copyKernel_41 : decode b_Firmware_copyKernel 41 = .ok (.ifCond .eq 14, 3) := by decide +kernel
theorem d_Firmware_copyKernel_44 : decode b_Firmware_copyKernel 44 = .ok (.lload_n 3, 1) := by decide +kernel
theorem d_Firmware_copyKernel_45 : decode b_Firmware_copyKernel 45 = .ok (.iload_n 1, 1) := by decide +kernel
theorem d_Firmware_copyKernel_46 : decode b_Firmware_copyKernel 46 = .ok (.i2l, 1) := by decide +kernel
theorem d_Firmware_copyKernel_47 : decode b_Firmware_copyKernel 47 = .ok (.ladd, 1) := by decide +kernel
theorem d_Firmware_copyKernel_48 : decode b_Firmware_copyKernel 48 = .ok (.ldc2_w 188, 3) := by decide +kernel
theorem d_Firmware_copyKernel_51 : decode b_Firmware_copyKernel 51 = .ok (.lcmp, 1) := by decide +kernel
theorem d_Firmware_copyKernel_52 : decode b_Firmware_copyKernel 52 = .ok (.ifCond .le 5, 3) := by decide +kernel
theorem d_Firmware_copyKernel_55 : decode b_Firmware_copyKernel 55 = .ok (.iconst 0, 1) := by decide +kernel
theorem d_Firmware_copyKernel_56 : decode b_Firmware_copyKernel 56 = .ok (.ireturn, 1) := by decide +kernel
theorem d_Firmware_copyKernel_57 : decode b_Firmware_copyKernel 57 = .ok (.iconst 0, 1) := by decide +kernel
theorem d_Firmware_copyKernel_58 : decode b_Firmware_copyKernel 58 = .ok (.istore 5, 2) := by decide +kernel
theorem d_Firmware_copyKernel_60 : decode b_Firmware_copyKernel 60 = .ok (.iload 5, 2) := by decide +kernel
theorem d_Firmware_copyKernel_62 : decode b_Firmware_copyKernel 62 = .ok (.iload_n 1, 1) := by decide +kernel
theorem d_Firmware_copyKernel_63 : decode b_Firmware_copyKernel 63 = .ok (.if_icmp .ge 64, 3) := by decide +kernel
theorem d_Firmware_copyKernel_66 : decode b_Firmware_copyKernel 66 = .ok (.iload 5, 2) := by decide +kernel
theorem d_Firmware_copyKernel_68 : decode b_Firmware_copyKernel 68 = .ok (.sipush 512, 3) := by decide +kernel
theorem d_Firmware_copyKernel_71 : decode b_Firmware_copyKernel 71 = .ok (.idiv, 1) := by decide +kernel
theorem d_Firmware_copyKernel_72 : decode b_Firmware_copyKernel 72 = .ok (.aload_n 0, 1) := by decide +kernel
theorem d_Firmware_copyKernel_73 : decode b_Firmware_copyKernel 73 = .ok (.getfield 45, 3) := by decide +kernel
theorem d_Firmware_copyKernel_76 : decode b_Firmware_copyKernel 76 = .ok (.arraylength, 1) := by decide +kernel
theorem d_Firmware_copyKernel_77 : decode b_Firmware_copyKernel 77 = .ok (.if_icmp .ge 50, 3) := by decide +kernel
theorem d_Firmware_copyKernel_80 : decode b_Firmware_copyKernel 80 = .ok (.aload_n 0, 1) := by decide +kernel
theorem d_Firmware_copyKernel_81 : decode b_Firmware_copyKernel 81 = .ok (.getfield 15, 3) := by decide +kernel
theorem d_Firmware_copyKernel_84 : decode b_Firmware_copyKernel 84 = .ok (.lload_n 3, 1) := by decide +kernel
theorem d_Firmware_copyKernel_85 : decode b_Firmware_copyKernel 85 = .ok (.l2i, 1) := by decide +kernel
theorem d_Firmware_copyKernel_86 : decode b_Firmware_copyKernel 86 = .ok (.iload 5, 2) := by decide +kernel
theorem d_Firmware_copyKernel_88 : decode b_Firmware_copyKernel 88 = .ok (.iadd, 1) := by decide +kernel
theorem d_Firmware_copyKernel_89 : decode b_Firmware_copyKernel 89 = .ok (.aload_n 0, 1) := by decide +kernel
theorem d_Firmware_copyKernel_90 : decode b_Firmware_copyKernel 90 = .ok (.getfield 35, 3) := by decide +kernel
theorem d_Firmware_copyKernel_93 : decode b_Firmware_copyKernel 93 = .ok (.aload_n 0, 1) := by decide +kernel
theorem d_Firmware_copyKernel_94 : decode b_Firmware_copyKernel 94 = .ok (.aload_n 0, 1) := by decide +kernel
theorem d_Firmware_copyKernel_95 : decode b_Firmware_copyKernel 95 = .ok (.getfield 45, 3) := by decide +kernel
theorem d_Firmware_copyKernel_98 : decode b_Firmware_copyKernel 98 = .ok (.iload 5, 2) := by decide +kernel
theorem d_Firmware_copyKernel_100 : decode b_Firmware_copyKernel 100 = .ok (.sipush 512, 3) := by decide +kernel
theorem d_Firmware_copyKernel_103 : decode b_Firmware_copyKernel 103 = .ok (.idiv, 1) := by decide +kernel
theorem d_Firmware_copyKernel_104 : decode b_Firmware_copyKernel 104 = .ok (.iaload, 1) := by decide +kernel
theorem d_Firmware_copyKernel_105 : decode b_Firmware_copyKernel 105 = .ok (.invokevirtual 183, 3) := by decide +kernel
theorem d_Firmware_copyKernel_108 : decode b_Firmware_copyKernel 108 = .ok (.iload 5, 2) := by decide +kernel
theorem d_Firmware_copyKernel_110 : decode b_Firmware_copyKernel 110 = .ok (.sipush 512, 3) := by decide +kernel
theorem d_Firmware_copyKernel_113 : decode b_Firmware_copyKernel 113 = .ok (.irem, 1) := by decide +kernel
theorem d_Firmware_copyKernel_114 : decode b_Firmware_copyKernel 114 = .ok (.iadd, 1) := by decide +kernel
theorem d_Firmware_copyKernel_115 : decode b_Firmware_copyKernel 115 = .ok (.invokevirtual 75, 3) := by decide +kernel
theorem d_Firmware_copyKernel_118 : decode b_Firmware_copyKernel 118 = .ok (.invokevirtual 190, 3) := by decide +kernel
theorem d_Firmware_copyKernel_121 : decode b_Firmware_copyKernel 121 = .ok (.iinc 5 1, 3) := by decide +kernel
theorem d_Firmware_copyKernel_124 : decode b_Firmware_copyKernel 124 = .ok (.goto (-64), 3) := by decide +kernel
theorem d_Firmware_copyKernel_127 : decode b_Firmware_copyKernel 127 = .ok (.aload_n 0, 1) := by decide +kernel
theorem d_Firmware_copyKernel_128 : decode b_Firmware_copyKernel 128 = .ok (.lload_n 3, 1) := by decide +kernel
theorem d_Firmware_copyKernel_129 : decode b_Firmware_copyKernel 129 = .ok (.l2i, 1) := by decide +kernel
theorem d_Firmware_copyKernel_130 : decode b_Firmware_copyKernel 130 = .ok (.putfield 29, 3) := by decide +kernel
theorem d_Firmware_copyKernel_133 : decode b_Firmware_copyKernel 133 = .ok (.aload_n 0, 1) := by decide +kernel
theorem d_Firmware_copyKernel_134 : decode b_Firmware_copyKernel 134 = .ok (.iload_n 1, 1) := by decide +kernel
theorem d_Firmware_copyKernel_135 : decode b_Firmware_copyKernel 135 = .ok (.putfield 32, 3) := by decide +kernel
theorem d_Firmware_copyKernel_138 : decode b_Firmware_copyKernel 138 = .ok (.iconst 1, 1) := by decide +kernel
theorem d_Firmware_copyKernel_139 : decode b_Firmware_copyKernel 139 = .ok (.ireturn, 1) := by decide +kernel
theorem d_Firmware_loadKernel_0 : decode b_Firmware_loadKernel 0 = .ok (.aload_n 0, 1) := by decide +kernel
theorem d_Firmware_loadKernel_1 : decode b_Firmware_loadKernel 1 = .ok (.invokevirtual 147, 3) := by decide +kernel
theorem d_Firmware_loadKernel_4 : decode b_Firmware_loadKernel 4 = .ok (.ifCond .ne 5, 3) := by decide +kernel
theorem d_Firmware_loadKernel_7 : decode b_Firmware_loadKernel 7 = .ok (.iconst 5, 1) := by decide +kernel
theorem d_Firmware_loadKernel_8 : decode b_Firmware_loadKernel 8 = .ok (.ireturn, 1) := by decide +kernel
theorem d_Firmware_loadKernel_9 : decode b_Firmware_loadKernel 9 = .ok (.aload_n 0, 1) := by decide +kernel
theorem d_Firmware_loadKernel_10 : decode b_Firmware_loadKernel 10 = .ok (.invokevirtual 151, 3) := by decide +kernel
theorem d_Firmware_loadKernel_13 : decode b_Firmware_loadKernel 13 = .ok (.istore_n 1, 1) := by decide +kernel
theorem d_Firmware_loadKernel_14 : decode b_Firmware_loadKernel 14 = .ok (.iload_n 1, 1) := by decide +kernel
theorem d_Firmware_loadKernel_15 : decode b_Firmware_loadKernel 15 = .ok (.iconst (-1), 1) := by decide +kernel
theorem d_Firmware_loadKernel_16 : decode b_Firmware_loadKernel 16 = .ok (.if_icmp .ne 6, 3) := by decide +kernel
theorem d_Firmware_loadKernel_19 : decode b_Firmware_loadKernel 19 = .ok (.bipush 6, 2) := by decide +kernel
theorem d_Firmware_loadKernel_21 : decode b_Firmware_loadKernel 21 = .ok (.ireturn, 1) := by decide +kernel
theorem d_Firmware_loadKernel_22 : decode b_Firmware_loadKernel 22 = .ok (.aload_n 0, 1) := by decide +kernel
theorem d_Firmware_loadKernel_23 : decode b_Firmware_loadKernel 23 = .ok (.getfield 35, 3) := by decide +kernel
theorem d_Firmware_loadKernel_26 : decode b_Firmware_loadKernel 26 = .ok (.iload_n 1, 1) := by decide +kernel
theorem d_Firmware_loadKernel_27 : decode b_Firmware_loadKernel 27 = .ok (.bipush 28, 2) := by decide +kernel
theorem d_Firmware_loadKernel_29 : decode b_Firmware_loadKernel 29 = .ok (.iadd, 1) := by decide +kernel
theorem d_Firmware_loadKernel_30 : decode b_Firmware_loadKernel 30 = .ok (.iconst 4, 1) := by decide +kernel
theorem d_Firmware_loadKernel_31 : decode b_Firmware_loadKernel 31 = .ok (.invokevirtual 82, 3) := by decide +kernel
theorem d_Firmware_loadKernel_34 : decode b_Firmware_loadKernel 34 = .ok (.lstore_n 2, 1) := by decide +kernel
theorem d_Firmware_loadKernel_35 : decode b_Firmware_loadKernel 35 = .ok (.aload_n 0, 1) := by decide +kernel
theorem d_Firmware_loadKernel_36 : decode b_Firmware_loadKernel 36 = .ok (.aload_n 0, 1) := by decide +kernel
theorem d_Firmware_loadKernel_37 : decode b_Firmware_loadKernel 37 = .ok (.getfield 35, 3) := by decide +kernel
theorem d_Firmware_loadKernel_40 : decode b_Firmware_loadKernel 40 = .ok (.iload_n 1, 1) := by decide +kernel
theorem d_Firmware_loadKernel_41 : decode b_Firmware_loadKernel 41 = .ok (.bipush 26, 2) := by decide +kernel
theorem d_Firmware_loadKernel_43 : decode b_Firmware_loadKernel 43 = .ok (.iadd, 1) := by decide +kernel
theorem d_Firmware_loadKernel_44 : decode b_Firmware_loadKernel 44 = .ok (.iconst 2, 1) := by decide +kernel
theorem d_Firmware_loadKernel_45 : decode b_Firmware_loadKernel 45 = .ok (.invokevirtual 82, 3) := by decide +kernel
theorem d_Firmware_loadKernel_48 : decode b_Firmware_loadKernel 48 = .ok (.l2i, 1) := by decide +kernel
theorem d_Firmware_loadKernel_49 : decode b_Firmware_loadKernel 49 = .ok (.lload_n 2, 1) := by decide +kernel
theorem d_Firmware_loadKernel_50 : decode b_Firmware_loadKernel 50 = .ok (.invokevirtual 154, 3) := by decide +kernel
theorem d_Firmware_loadKernel_53 : decode b_Firmware_loadKernel 53 = .ok (.ifCond .ne 6, 3) := by decide +kernel
theorem d_Firmware_loadKernel_56 : decode b_Firmware_loadKernel 56 = .ok (.bipush 7, 2) := by decide +kernel
theorem d_Firmware_loadKernel_58 : decode b_Firmware_loadKernel 58 = .ok (.ireturn, 1) := by decide +kernel
theorem d_Firmware_loadKernel_59 : decode b_Firmware_loadKernel 59 = .ok (.aload_n 0, 1) := by decide +kernel
theorem d_Firmware_loadKernel_60 : decode b_Firmware_loadKernel 60 = .ok (.lload_n 2, 1) := by decide +kernel
theorem d_Firmware_loadKernel_61 : decode b_Firmware_loadKernel 61 = .ok (.l2i, 1) := by decide +kernel
theorem d_Firmware_loadKernel_62 : decode b_Firmware_loadKernel 62 = .ok (.invokevirtual 158, 3) := by decide +kernel
theorem d_Firmware_loadKernel_65 : decode b_Firmware_loadKernel 65 = .ok (.ifCond .eq 7, 3) := by decide +kernel
theorem d_Firmware_loadKernel_68 : decode b_Firmware_loadKernel 68 = .ok (.iconst 0, 1) := by decide +kernel
theorem d_Firmware_loadKernel_69 : decode b_Firmware_loadKernel 69 = .ok (.goto 5, 3) := by decide +kernel
theorem d_Firmware_loadKernel_72 : decode b_Firmware_loadKernel 72 = .ok (.bipush 8, 2) := by decide +kernel
theorem d_Firmware_loadKernel_74 : decode b_Firmware_loadKernel 74 = .ok (.ireturn, 1) := by decide +kernel
theorem d_Firmware_start_0 : decode b_Firmware_start 0 = .ok (.aload_n 0, 1) := by decide +kernel
theorem d_Firmware_start_1 : decode b_Firmware_start 1 = .ok (.invokevirtual 55, 3) := by decide +kernel
theorem d_Firmware_start_4 : decode b_Firmware_start 4 = .ok (.aload_n 0, 1) := by decide +kernel
theorem d_Firmware_start_5 : decode b_Firmware_start 5 = .ok (.getfield 35, 3) := by decide +kernel
theorem d_Firmware_start_8 : decode b_Firmware_start 8 = .ok (.iconst 0, 1) := by decide +kernel
theorem d_Firmware_start_9 : decode b_Firmware_start 9 = .ok (.invokevirtual 58, 3) := by decide +kernel
theorem d_Firmware_start_12 : decode b_Firmware_start 12 = .ok (.ifCond .ne 5, 3) := by decide +kernel
theorem d_Firmware_start_15 : decode b_Firmware_start 15 = .ok (.iconst 1, 1) := by decide +kernel
theorem d_Firmware_start_16 : decode b_Firmware_start 16 = .ok (.ireturn, 1) := by decide +kernel
theorem d_Firmware_start_17 : decode b_Firmware_start 17 = .ok (.iload_n 1, 1) := by decide +kernel
theorem d_Firmware_start_18 : decode b_Firmware_start 18 = .ok (.ifCond .ne 10, 3) := by decide +kernel
theorem d_Firmware_start_21 : decode b_Firmware_start 21 = .ok (.aload_n 0, 1) := by decide +kernel
theorem d_Firmware_start_22 : decode b_Firmware_start 22 = .ok (.invokevirtual 62, 3) := by decide +kernel
theorem d_Firmware_start_25 : decode b_Firmware_start 25 = .ok (.goto 7, 3) := by decide +kernel
theorem d_Firmware_start_28 : decode b_Firmware_start 28 = .ok (.aload_n 0, 1) := by decide +kernel
theorem d_Firmware_start_29 : decode b_Firmware_start 29 = .ok (.invokevirtual 66, 3) := by decide +kernel
theorem d_Firmware_start_32 : decode b_Firmware_start 32 = .ok (.istore_n 2, 1) := by decide +kernel
theorem d_Firmware_start_33 : decode b_Firmware_start 33 = .ok (.iload_n 2, 1) := by decide +kernel
theorem d_Firmware_start_34 : decode b_Firmware_start 34 = .ok (.ifCond .eq 7, 3) := by decide +kernel
theorem d_Firmware_start_37 : decode b_Firmware_start 37 = .ok (.iload_n 2, 1) := by decide +kernel
theorem d_Firmware_start_38 : decode b_Firmware_start 38 = .ok (.goto 7, 3) := by decide +kernel
theorem d_Firmware_start_41 : decode b_Firmware_start 41 = .ok (.aload_n 0, 1) := by decide +kernel
theorem d_Firmware_start_42 : decode b_Firmware_start 42 = .ok (.invokevirtual 69, 3) := by decide +kernel
theorem d_Firmware_start_45 : decode b_Firmware_start 45 = .ok (.ireturn, 1) := by decide +kernel
set_option maxRecDepth 100000 in
theorem fc_Firmware_133 : FcS Wall R_Firmware 133 y_Volume_clustersFor b_Volume_clustersFor 1 (some .int) ws_Volume_clustersFor 1 := ⟨⟨rfl, cw_Volume_clustersFor, inW 700 rfl rfl, in_i_Volume, by decide +kernel⟩, inW 321 rfl rfl⟩
set_option maxRecDepth 100000 in
theorem fg_Firmware_21 : FlG Wall classes R_Firmware 21 5 4 := ⟨_, _, _, rfl, by decide, in_Firmware, inW 188 rfl rfl⟩
set_option maxRecDepth 100000 in
theorem fc_Firmware_138 : FcV Wall classes R_Firmware 138 1 y_Sums_begin b_Sums_begin 1 (none) ws_Sums_begin 0 := ⟨⟨rfl, cw_Sums_begin, inW 705 rfl rfl, in_i_Sums, by decide +kernel⟩, inW 383 rfl rfl, inW 384 rfl rfl, _, _, rfl⟩
set_option maxRecDepth 100000 in
theorem fc_Firmware_144 : FcV Wall classes R_Firmware 144 1 y_Sums_result b_Sums_result 1 (some .int) ws_Sums_result 0 := ⟨⟨rfl, cw_Sums_result, inW 707 rfl rfl, in_i_Sums, by decide +kernel⟩, inW 450 rfl rfl, inW 451 rfl rfl, _, _, rfl⟩
set_option maxRecDepth 100000 in
theorem fc_Firmware_141 : FcV Wall classes R_Firmware 141 1 y_Sums_add b_Sums_add 2 (none) ws_Sums_add 1 := ⟨⟨rfl, cw_Sums_add, inW 706 rfl rfl, in_i_Sums, by decide +kernel⟩, inW 446 rfl rfl, inW 447 rfl rfl, _, _, rfl⟩
set_option maxRecDepth 100000 in
theorem kc_Firmware_116 : Cond.constantLong R_Firmware 116 8 ∈ Wall := inW 694 rfl rfl
set_option maxRecDepth 100000 in
theorem kc_Firmware_118 : Cond.constantLong R_Firmware 118 9000 ∈ Wall := inW 695 rfl rfl
set_option maxRecDepth 100000 in
theorem fc_Firmware_120 : FcV Wall classes R_Firmware 120 5 y_Firmware_collectRuns b_Firmware_collectRuns 12 (some .boolean) ws_Firmware_collectRuns 2 := ⟨⟨rfl, cw_Firmware_collectRuns, inW 696 rfl rfl, in_i_Firmware, by decide +kernel⟩, inW 698 rfl rfl, inP 21 rfl rfl, _, _, rfl⟩
set_option maxRecDepth 100000 in
theorem fc_Firmware_124 : FcV Wall classes R_Firmware 124 5 y_Firmware_loaderSum b_Firmware_loaderSum 3 (some .int) ws_Firmware_loaderSum 1 := ⟨⟨rfl, cw_Firmware_loaderSum, inW 701 rfl rfl, in_i_Firmware, by decide +kernel⟩, inW 703 rfl rfl, inP 22 rfl rfl, _, _, rfl⟩
set_option maxRecDepth 100000 in
theorem fc_Firmware_129 : FcV Wall classes R_Firmware 129 0 y_Store_holdsText b_Store_holdsText 4 (some .boolean) ws_Store_holdsText 2 := ⟨⟨rfl, cw_Store_holdsText, inW 709 rfl rfl, in_i_Store, by decide +kernel⟩, inW 710 rfl rfl, inW 711 rfl rfl, _, _, rfl⟩
set_option maxRecDepth 100000 in
theorem fp_Firmware_161 : FlP Wall classes R_Firmware 161 5 6 .int := ⟨_, _, _, t_Firmware, rfl, by decide, in_Firmware, inW 190 rfl rfl, t_Firmware_ok, n_Firmware, rfl, by decide +kernel⟩
set_option maxRecDepth 100000 in
theorem fg_Firmware_168 : FlG Wall classes R_Firmware 168 5 7 := ⟨_, _, _, rfl, by decide, in_Firmware, inW 191 rfl rfl⟩
set_option maxRecDepth 100000 in
theorem fp_Firmware_168 : FlP Wall classes R_Firmware 168 5 7 .int := ⟨_, _, _, t_Firmware, rfl, by decide, in_Firmware, inW 191 rfl rfl, t_Firmware_ok, n_Firmware, rfl, by decide +kernel⟩
set_option maxRecDepth 100000 in
theorem kc_Firmware_171 : Cond.constantLong R_Firmware 171 512 ∈ Wall := inW 722 rfl rfl
set_option maxRecDepth 100000 in
theorem kc_Firmware_173 : Cond.constantLong R_Firmware 173 32 ∈ Wall := inW 723 rfl rfl
set_option maxRecDepth 100000 in
theorem fc_Firmware_164 : FcS Wall R_Firmware 164 y_Volume_clustersIn b_Volume_clustersIn 2 (some .int) ws_Volume_clustersIn 2 := ⟨⟨rfl, cw_Volume_clustersIn, inW 721 rfl rfl, in_i_Volume, by decide +kernel⟩, inW 307 rfl rfl⟩
set_option maxRecDepth 100000 in
theorem fc_Firmware_58 : FcV Wall classes R_Firmware 58 0 y_Store_isBootSector b_Store_isBootSector 2 (some .boolean) ws_Store_isBootSector 1 := ⟨⟨rfl, cw_Store_isBootSector, inW 653 rfl rfl, in_i_Store, by decide +kernel⟩, inW 654 rfl rfl, inW 655 rfl rfl, _, _, rfl⟩
set_option maxRecDepth 100000 in
theorem fc_Firmware_175 : FcS Wall R_Firmware 175 y_Volume_tableBytes b_Volume_tableBytes 1 (some .int) ws_Volume_tableBytes 1 := ⟨⟨rfl, cw_Volume_tableBytes, inW 724 rfl rfl, in_i_Volume, by decide +kernel⟩, inW 310 rfl rfl⟩
set_option maxRecDepth 100000 in
theorem fg_Firmware_45 : FlG Wall classes R_Firmware 45 5 5 := ⟨_, _, _, rfl, by decide, in_Firmware, inW 189 rfl rfl⟩
set_option maxRecDepth 100000 in
theorem fc_Firmware_180 : FcV Wall classes R_Firmware 180 5 y_Firmware_clusterEntry b_Firmware_clusterEntry 4 (some .int) ws_Firmware_clusterEntry 1 := ⟨⟨rfl, cw_Firmware_clusterEntry, inW 734 rfl rfl, in_i_Firmware, by decide +kernel⟩, inW 736 rfl rfl, inP 27 rfl rfl, _, _, rfl⟩
set_option maxRecDepth 100000 in
theorem kc_Firmware_188 : Cond.constantLong R_Firmware 188 65536 ∈ Wall := inW 747 rfl rfl
set_option maxRecDepth 100000 in
theorem fc_Firmware_183 : FcV Wall classes R_Firmware 183 5 y_Firmware_clusterAt b_Firmware_clusterAt 3 (some .int) ws_Firmware_clusterAt 1 := ⟨⟨rfl, cw_Firmware_clusterAt, inW 742 rfl rfl, in_i_Firmware, by decide +kernel⟩, inW 744 rfl rfl, inP 29 rfl rfl, _, _, rfl⟩
set_option maxRecDepth 100000 in
theorem fc_Firmware_190 : FcV Wall classes R_Firmware 190 0 y_Store_put b_Store_put 4 (none) ws_Store_put 2 := ⟨⟨rfl, cw_Store_put, inW 748 rfl rfl, in_i_Store, by decide +kernel⟩, inW 364 rfl rfl, inW 365 rfl rfl, _, _, rfl⟩
set_option maxRecDepth 100000 in
theorem fc_Firmware_147 : FcV Wall classes R_Firmware 147 5 y_Firmware_readVolumeSector b_Firmware_readVolumeSector 3 (some .boolean) ws_Firmware_readVolumeSector 0 := ⟨⟨rfl, cw_Firmware_readVolumeSector, inW 717 rfl rfl, in_i_Firmware, by decide +kernel⟩, inW 719 rfl rfl, inP 24 rfl rfl, _, _, rfl⟩
set_option maxRecDepth 100000 in
theorem fc_Firmware_151 : FcV Wall classes R_Firmware 151 5 y_Firmware_kernelEntry b_Firmware_kernelEntry 4 (some .int) ws_Firmware_kernelEntry 0 := ⟨⟨rfl, cw_Firmware_kernelEntry, inW 725 rfl rfl, in_i_Firmware, by decide +kernel⟩, inW 727 rfl rfl, inP 25 rfl rfl, _, _, rfl⟩
set_option maxRecDepth 100000 in
theorem fc_Firmware_154 : FcV Wall classes R_Firmware 154 5 y_Firmware_followChain b_Firmware_followChain 8 (some .boolean) ws_Firmware_followChain 2 := ⟨⟨rfl, cw_Firmware_followChain, inW 730 rfl rfl, in_i_Firmware, by decide +kernel⟩, inW 732 rfl rfl, inP 26 rfl rfl, _, _, rfl⟩
set_option maxRecDepth 100000 in
theorem fc_Firmware_158 : FcV Wall classes R_Firmware 158 5 y_Firmware_copyKernel b_Firmware_copyKernel 6 (some .boolean) ws_Firmware_copyKernel 1 := ⟨⟨rfl, cw_Firmware_copyKernel, inW 738 rfl rfl, in_i_Firmware, by decide +kernel⟩, inW 740 rfl rfl, inP 28 rfl rfl, _, _, rfl⟩
set_option maxRecDepth 100000 in
theorem fc_Firmware_55 : FcV Wall classes R_Firmware 55 5 y_Firmware_forget b_Firmware_forget 1 (none) ws_Firmware_forget 0 := ⟨⟨rfl, cw_Firmware_forget, inW 648 rfl rfl, in_i_Firmware, by decide +kernel⟩, inW 650 rfl rfl, inP 15 rfl rfl, _, _, rfl⟩
set_option maxRecDepth 100000 in
theorem fc_Firmware_69 : FcV Wall classes R_Firmware 69 5 y_Firmware_loadKernel b_Firmware_loadKernel 4 (some .int) ws_Firmware_loadKernel 0 := ⟨⟨rfl, cw_Firmware_loadKernel, inW 713 rfl rfl, in_i_Firmware, by decide +kernel⟩, inW 715 rfl rfl, inP 23 rfl rfl, _, _, rfl⟩
set_option maxRecDepth 100000 in
theorem fc_Firmware_66 : FcV Wall classes R_Firmware 66 5 y_Firmware_searchLoader b_Firmware_searchLoader 8 (some .int) ws_Firmware_searchLoader 0 := ⟨⟨rfl, cw_Firmware_searchLoader, inW 690 rfl rfl, in_i_Firmware, by decide +kernel⟩, inW 692 rfl rfl, inP 20 rfl rfl, _, _, rfl⟩
set_option maxRecDepth 100000 in
theorem fc_Firmware_62 : FcV Wall classes R_Firmware 62 5 y_Firmware_searchTable b_Firmware_searchTable 2 (some .int) ws_Firmware_searchTable 0 := ⟨⟨rfl, cw_Firmware_searchTable, inW 662 rfl rfl, in_i_Firmware, by decide +kernel⟩, inW 664 rfl rfl, inP 16 rfl rfl, _, _, rfl⟩
