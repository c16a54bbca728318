abbrev b_Volume_tableBytes : ByteArray := prog_6_method_2_code
def y_Volume_tableBytes : MethodName := ⟨"BootMaker$Volume", "tableBytes", "(I)I"⟩
def ws_Volume_tableBytes : List Cond := Cond.code y_Volume_tableBytes b_Volume_tableBytes 1 (some .int) :: Wall
set_option maxRecDepth 100000 in
theorem cw_Volume_tableBytes : Cond.code y_Volume_tableBytes b_Volume_tableBytes 1 (some .int) ∈ Wall := inW 311 rfl rfl
abbrev b_Volume_clustersIn : ByteArray := prog_6_method_3_code
def y_Volume_clustersIn : MethodName := ⟨"BootMaker$Volume", "clustersIn", "(II)I"⟩
def ws_Volume_clustersIn : List Cond := Cond.code y_Volume_clustersIn b_Volume_clustersIn 2 (some .int) :: Wall
set_option maxRecDepth 100000 in
theorem cw_Volume_clustersIn : Cond.code y_Volume_clustersIn b_Volume_clustersIn 2 (some .int) ∈ Wall := inW 308 rfl rfl
abbrev b_Volume_forget : ByteArray := prog_6_method_4_code
def y_Volume_forget : MethodName := ⟨"BootMaker$Volume", "forget", "()V"⟩
def ws_Volume_forget : List Cond := Cond.code y_Volume_forget b_Volume_forget 1 (none) :: Wall
set_option maxRecDepth 100000 in
theorem cw_Volume_forget : Cond.code y_Volume_forget b_Volume_forget 1 (none) ∈ Wall := inW 297 rfl rfl
abbrev b_Volume_lieIn : ByteArray := prog_6_method_5_code
def y_Volume_lieIn : MethodName := ⟨"BootMaker$Volume", "lieIn", "(II)V"⟩
def ws_Volume_lieIn : List Cond := Cond.code y_Volume_lieIn b_Volume_lieIn 3 (none) :: Wall
set_option maxRecDepth 100000 in
theorem cw_Volume_lieIn : Cond.code y_Volume_lieIn b_Volume_lieIn 3 (none) ∈ Wall := inW 305 rfl rfl
abbrev b_Volume_isPossible : ByteArray := prog_6_method_6_code
def y_Volume_isPossible : MethodName := ⟨"BootMaker$Volume", "isPossible", "()Z"⟩
def ws_Volume_isPossible : List Cond := Cond.code y_Volume_isPossible b_Volume_isPossible 1 (some .boolean) :: Wall
set_option maxRecDepth 100000 in
theorem cw_Volume_isPossible : Cond.code y_Volume_isPossible b_Volume_isPossible 1 (some .boolean) ∈ Wall := inW 315 rfl rfl
abbrev b_Volume_clustersFor : ByteArray := prog_6_method_8_code
def y_Volume_clustersFor : MethodName := ⟨"BootMaker$Volume", "clustersFor", "(I)I"⟩
def ws_Volume_clustersFor : List Cond := Cond.code y_Volume_clustersFor b_Volume_clustersFor 1 (some .int) :: Wall
set_option maxRecDepth 100000 in
theorem cw_Volume_clustersFor : Cond.code y_Volume_clustersFor b_Volume_clustersFor 1 (some .int) ∈ Wall := inW 322 rfl rfl
abbrev b_Volume_lowestFree : ByteArray := prog_6_method_10_code
def y_Volume_lowestFree : MethodName := ⟨"BootMaker$Volume", "lowestFree", "(I)I"⟩
def ws_Volume_lowestFree : List Cond := Cond.code y_Volume_lowestFree b_Volume_lowestFree 3 (some .int) :: Wall
set_option maxRecDepth 100000 in
theorem cw_Volume_lowestFree : Cond.code y_Volume_lowestFree b_Volume_lowestFree 3 (some .int) ∈ Wall := inW 333 rfl rfl
abbrev b_Volume_placeFile : ByteArray := prog_6_method_9_code
def y_Volume_placeFile : MethodName := ⟨"BootMaker$Volume", "placeFile", "(IIZ)V"⟩
def ws_Volume_placeFile : List Cond := Cond.code y_Volume_placeFile b_Volume_placeFile 8 (none) :: Wall
set_option maxRecDepth 100000 in
theorem cw_Volume_placeFile : Cond.code y_Volume_placeFile b_Volume_placeFile 8 (none) ∈ Wall := inW 329 rfl rfl
abbrev b_Volume_placeFiles : ByteArray := prog_6_method_7_code
def y_Volume_placeFiles : MethodName := ⟨"BootMaker$Volume", "placeFiles", "(LBootMaker$Plan;)Z"⟩
def ws_Volume_placeFiles : List Cond := Cond.code y_Volume_placeFiles b_Volume_placeFiles 4 (some .boolean) :: Wall
set_option maxRecDepth 100000 in
theorem cw_Volume_placeFiles : Cond.code y_Volume_placeFiles b_Volume_placeFiles 4 (some .boolean) ∈ Wall := inW 319 rfl rfl
abbrev b_Volume_directorySector : ByteArray := prog_6_method_12_code
def y_Volume_directorySector : MethodName := ⟨"BootMaker$Volume", "directorySector", "()I"⟩
def ws_Volume_directorySector : List Cond := Cond.code y_Volume_directorySector b_Volume_directorySector 1 (some .int) :: Wall
set_option maxRecDepth 100000 in
theorem cw_Volume_directorySector : Cond.code y_Volume_directorySector b_Volume_directorySector 1 (some .int) ∈ Wall := inW 347 rfl rfl
abbrev b_Volume_sectorOf : ByteArray := prog_6_method_11_code
def y_Volume_sectorOf : MethodName := ⟨"BootMaker$Volume", "sectorOf", "(I)I"⟩
def ws_Volume_sectorOf : List Cond := Cond.code y_Volume_sectorOf b_Volume_sectorOf 2 (some .int) :: Wall
set_option maxRecDepth 100000 in
theorem cw_Volume_sectorOf : Cond.code y_Volume_sectorOf b_Volume_sectorOf 2 (some .int) ∈ Wall := inW 343 rfl rfl
abbrev b_Volume_follower : ByteArray := prog_6_method_14_code
def y_Volume_follower : MethodName := ⟨"BootMaker$Volume", "follower", "(I)I"⟩
def ws_Volume_follower : List Cond := Cond.code y_Volume_follower b_Volume_follower 2 (some .int) :: Wall
set_option maxRecDepth 100000 in
theorem cw_Volume_follower : Cond.code y_Volume_follower b_Volume_follower 2 (some .int) ∈ Wall := inW 351 rfl rfl
abbrev b_Volume_findRuns : ByteArray := prog_6_method_13_code
def y_Volume_findRuns : MethodName := ⟨"BootMaker$Volume", "findRuns", "(II)Z"⟩
def ws_Volume_findRuns : List Cond := Cond.code y_Volume_findRuns b_Volume_findRuns 7 (some .boolean) :: Wall
set_option maxRecDepth 100000 in
theorem cw_Volume_findRuns : Cond.code y_Volume_findRuns b_Volume_findRuns 7 (some .boolean) ∈ Wall := inW 339 rfl rfl
theorem d_Volume_tableBytes_0 : decode b_Volume_tableBytes 0 = .ok (.iload_n 0, 1) := by decide +kernel
theorem d_Volume_tableBytes_1 : decode b_Volume_tableBytes 1 = .ok (.iconst 2, 1) := by decide +kernel
theorem d_Volume_tableBytes_2 : decode b_Volume_tableBytes 2 = .ok (.iadd, 1) := by decide +kernel
theorem d_Volume_tableBytes_3 : decode b_Volume_tableBytes 3 = .ok (.iconst 3, 1) := by decide +kernel
theorem d_Volume_tableBytes_4 : decode b_Volume_tableBytes 4 = .ok (.imul, 1) := by decide +kernel
theorem d_Volume_tableBytes_5 : decode b_Volume_tableBytes 5 = .ok (.iconst 1, 1) := by decide +kernel
theorem d_Volume_tableBytes_6 : decode b_Volume_tableBytes 6 = .ok (.iadd, 1) := by decide +kernel
theorem d_Volume_tableBytes_7 : decode b_Volume_tableBytes 7 = .ok (.iconst 2, 1) := by decide +kernel
theorem d_Volume_tableBytes_8 : decode b_Volume_tableBytes 8 = .ok (.idiv, 1) := by decide +kernel
theorem d_Volume_tableBytes_9 : decode b_Volume_tableBytes 9 = .ok (.ireturn, 1) := by decide +kernel
theorem d_Volume_clustersIn_0 : decode b_Volume_clustersIn 0 = .ok (.iload_n 0, 1) := by decide +kernel
theorem d_Volume_clustersIn_1 : decode b_Volume_clustersIn 1 = .ok (.iconst 1, 1) := by decide +kernel
theorem d_Volume_clustersIn_2 : decode b_Volume_clustersIn 2 = .ok (.isub, 1) := by decide +kernel
theorem d_Volume_clustersIn_3 : decode b_Volume_clustersIn 3 = .ok (.iconst 2, 1) := by decide +kernel
theorem d_Volume_clustersIn_4 : decode b_Volume_clustersIn 4 = .ok (.isub, 1) := by decide +kernel
theorem d_Volume_clustersIn_5 : decode b_Volume_clustersIn 5 = .ok (.iconst 2, 1) := by decide +kernel
theorem d_Volume_clustersIn_6 : decode b_Volume_clustersIn 6 = .ok (.iload_n 1, 1) := by decide +kernel
theorem d_Volume_clustersIn_7 : decode b_Volume_clustersIn 7 = .ok (.imul, 1) := by decide +kernel
theorem d_Volume_clustersIn_8 : decode b_Volume_clustersIn 8 = .ok (.isub, 1) := by decide +kernel
theorem d_Volume_clustersIn_9 : decode b_Volume_clustersIn 9 = .ok (.ireturn, 1) := by decide +kernel
theorem d_Volume_forget_0 : decode b_Volume_forget 0 = .ok (.aload_n 0, 1) := by decide +kernel
theorem d_Volume_forget_1 : decode b_Volume_forget 1 = .ok (.iconst 0, 1) := by decide +kernel
theorem d_Volume_forget_2 : decode b_Volume_forget 2 = .ok (.putfield 24, 3) := by decide +kernel
theorem d_Volume_forget_5 : decode b_Volume_forget 5 = .ok (.aload_n 0, 1) := by decide +kernel
theorem d_Volume_forget_6 : decode b_Volume_forget 6 = .ok (.iconst 0, 1) := by decide +kernel
theorem d_Volume_forget_7 : decode b_Volume_forget 7 = .ok (.putfield 28, 3) := by decide +kernel
theorem d_Volume_forget_10 : decode b_Volume_forget 10 = .ok (.return_, 1) := by decide +kernel
theorem d_Volume_lieIn_0 : decode b_Volume_lieIn 0 = .ok (.aload_n 0, 1) := by decide +kernel
theorem d_Volume_lieIn_1 : decode b_Volume_lieIn 1 = .ok (.iload_n 1, 1) := by decide +kernel
theorem d_Volume_lieIn_2 : decode b_Volume_lieIn 2 = .ok (.putfield 31, 3) := by decide +kernel
theorem d_Volume_lieIn_5 : decode b_Volume_lieIn 5 = .ok (.aload_n 0, 1) := by decide +kernel
theorem d_Volume_lieIn_6 : decode b_Volume_lieIn 6 = .ok (.iload_n 2, 1) := by decide +kernel
theorem d_Volume_lieIn_7 : decode b_Volume_lieIn 7 = .ok (.putfield 34, 3) := by decide +kernel
theorem d_Volume_lieIn_10 : decode b_Volume_lieIn 10 = .ok (.aload_n 0, 1) := by decide +kernel
theorem d_Volume_lieIn_11 : decode b_Volume_lieIn 11 = .ok (.iconst 1, 1) := by decide +kernel
theorem d_Volume_lieIn_12 : decode b_Volume_lieIn 12 = .ok (.putfield 37, 3) := by decide +kernel
theorem d_Volume_lieIn_15 : decode b_Volume_lieIn 15 = .ok (.aload_n 0, 1) := by decide +kernel
theorem d_Volume_lieIn_16 : decode b_Volume_lieIn 16 = .ok (.getfield 37, 3) := by decide +kernel
theorem d_Volume_lieIn_19 : decode b_Volume_lieIn 19 = .ok (.aload_n 0, 1) := by decide +kernel
theorem d_Volume_lieIn_20 : decode b_Volume_lieIn 20 = .ok (.getfield 34, 3) := by decide +kernel
theorem d_Volume_lieIn_23 : decode b_Volume_lieIn 23 = .ok (.if_icmp .ge 41, 3) := by decide +kernel
theorem d_Volume_lieIn_26 : decode b_Volume_lieIn 26 = .ok (.aload_n 0, 1) := by decide +kernel
theorem d_Volume_lieIn_27 : decode b_Volume_lieIn 27 = .ok (.getfield 34, 3) := by decide +kernel
theorem d_Volume_lieIn_30 : decode b_Volume_lieIn 30 = .ok (.aload_n 0, 1) := by decide +kernel
theorem d_Volume_lieIn_31 : decode b_Volume_lieIn 31 = .ok (.getfield 37, 3) := by decide +kernel
theorem d_Volume_lieIn_34 : decode b_Volume_lieIn 34 = .ok (.invokestatic 40, 3) := by decide +kernel
theorem d_Volume_lieIn_37 : decode b_Volume_lieIn 37 = .ok (.invokestatic 44, 3) := by decide +kernel
theorem d_Volume_lieIn_40 : decode b_Volume_lieIn 40 = .ok (.sipush 512, 3) := by decide +kernel
theorem d_Volume_lieIn_43 : decode b_Volume_lieIn 43 = .ok (.aload_n 0, 1) := by decide +kernel
theorem d_Volume_lieIn_44 : decode b_Volume_lieIn 44 = .ok (.getfield 37, 3) := by decide +kernel
theorem d_Volume_lieIn_47 : decode b_Volume_lieIn 47 = .ok (.imul, 1) := by decide +kernel
theorem d_Volume_lieIn_48 : decode b_Volume_lieIn 48 = .ok (.if_icmp .le 16, 3) := by decide +kernel
theorem d_Volume_lieIn_51 : decode b_Volume_lieIn 51 = .ok (.aload_n 0, 1) := by decide +kernel
theorem d_Volume_lieIn_52 : decode b_Volume_lieIn 52 = .ok (.dup, 1) := by decide +kernel
theorem d_Volume_lieIn_53 : decode b_Volume_lieIn 53 = .ok (.getfield 37, 3) := by decide +kernel
theorem d_Volume_lieIn_56 : decode b_Volume_lieIn 56 = .ok (.iconst 1, 1) := by decide +kernel
theorem d_Volume_lieIn_57 : decode b_Volume_lieIn 57 = .ok (.iadd, 1) := by decide +kernel
theorem d_Volume_lieIn_58 : decode b_Volume_lieIn 58 = .ok (.putfield 37, 3) := by decide +kernel
theorem d_Volume_lieIn_61 : decode b_Volume_lieIn 61 = .ok (.goto (-46), 3) := by decide +kernel
theorem d_Volume_lieIn_64 : decode b_Volume_lieIn 64 = .ok (.aload_n 0, 1) := by decide +kernel
theorem d_Volume_lieIn_65 : decode b_Volume_lieIn 65 = .ok (.aload_n 0, 1) := by decide +kernel
theorem d_Volume_lieIn_66 : decode b_Volume_lieIn 66 = .ok (.getfield 34, 3) := by decide +kernel
theorem d_Volume_lieIn_69 : decode b_Volume_lieIn 69 = .ok (.aload_n 0, 1) := by decide +kernel
theorem d_Volume_lieIn_70 : decode b_Volume_lieIn 70 = .ok (.getfield 37, 3) := by decide +kernel
theorem d_Volume_lieIn_73 : decode b_Volume_lieIn 73 = .ok (.invokestatic 40, 3) := by decide +kernel
theorem d_Volume_lieIn_76 : decode b_Volume_lieIn 76 = .ok (.putfield 24, 3) := by decide +kernel
theorem d_Volume_lieIn_79 : decode b_Volume_lieIn 79 = .ok (.return_, 1) := by decide +kernel
theorem d_Volume_isPossible_0 : decode b_Volume_isPossible 0 = .ok (.aload_n 0, 1) := by decide +kernel
theorem d_Volume_isPossible_1 : decode b_Volume_isPossible 1 = .ok (.getfield 24, 3) := by decide +kernel
theorem d_Volume_isPossible_4 : decode b_Volume_isPossible 4 = .ok (.iconst 1, 1) := by decide +kernel
theorem d_Volume_isPossible_5 : decode b_Volume_isPossible 5 = .ok (.if_icmp .lt 21, 3) := by decide +kernel
theorem d_Volume_isPossible_8 : decode b_Volume_isPossible 8 = .ok (.aload_n 0, 1) := by decide +kernel
theorem d_Volume_isPossible_9 : decode b_Volume_isPossible 9 = .ok (.getfield 24, 3) := by decide +kernel
theorem d_Volume_isPossible_12 : decode b_Volume_isPossible 12 = .ok (.iconst 2, 1) := by decide +kernel
theorem d_Volume_isPossible_13 : decode b_Volume_isPossible 13 = .ok (.iadd, 1) := by decide +kernel
theorem d_Volume_isPossible_14 : decode b_Volume_isPossible 14 = .ok (.aload_n 0, 1) := by decide +kernel
theorem d_Volume_isPossible_15 : decode b_Volume_isPossible 15 = .ok (.getfield 21, 3) := by decide +kernel
theorem d_Volume_isPossible_18 : decode b_Volume_isPossible 18 = .ok (.arraylength, 1) := by decide +kernel
theorem d_Volume_isPossible_19 : decode b_Volume_isPossible 19 = .ok (.if_icmp .gt 7, 3) := by decide +kernel
theorem d_Volume_isPossible_22 : decode b_Volume_isPossible 22 = .ok (.iconst 1, 1) := by decide +kernel
theorem d_Volume_isPossible_23 : decode b_Volume_isPossible 23 = .ok (.goto 4, 3) := by decide +kernel
theorem d_Volume_isPossible_26 : decode b_Volume_isPossible 26 = .ok (.iconst 0, 1) := by decide +kernel
theorem d_Volume_isPossible_27 : decode b_Volume_isPossible 27 = .ok (.ireturn, 1) := by decide +kernel
theorem d_Volume_clustersFor_0 : decode b_Volume_clustersFor 0 = .ok (.iload_n 0, 1) := by decide +kernel
theorem d_Volume_clustersFor_1 : decode b_Volume_clustersFor 1 = .ok (.sipush 512, 3) := by decide +kernel
theorem d_Volume_clustersFor_4 : decode b_Volume_clustersFor 4 = .ok (.iadd, 1) := by decide +kernel
theorem d_Volume_clustersFor_5 : decode b_Volume_clustersFor 5 = .ok (.iconst 1, 1) := by decide +kernel
theorem d_Volume_clustersFor_6 : decode b_Volume_clustersFor 6 = .ok (.isub, 1) := by decide +kernel
theorem d_Volume_clustersFor_7 : decode b_Volume_clustersFor 7 = .ok (.sipush 512, 3) := by decide +kernel
theorem d_Volume_clustersFor_10 : decode b_Volume_clustersFor 10 = .ok (.idiv, 1) := by decide +kernel
theorem d_Volume_clustersFor_11 : decode b_Volume_clustersFor 11 = .ok (.ireturn, 1) := by decide +kernel
theorem d_Volume_lowestFree_0 : decode b_Volume_lowestFree 0 = .ok (.iload_n 1, 1) := by decide +kernel
theorem d_Volume_lowestFree_1 : decode b_Volume_lowestFree 1 = .ok (.istore_n 2, 1) := by decide +kernel
theorem d_Volume_lowestFree_2 : decode b_Volume_lowestFree 2 = .ok (.iload_n 2, 1) := by decide +kernel
theorem d_Volume_lowestFree_3 : decode b_Volume_lowestFree 3 = .ok (.aload_n 0, 1) := by decide +kernel
theorem d_Volume_lowestFree_4 : decode b_Volume_lowestFree 4 = .ok (.getfield 24, 3) := by decide +kernel
theorem d_Volume_lowestFree_7 : decode b_Volume_lowestFree 7 = .ok (.iconst 2, 1) := by decide +kernel
theorem d_Volume_lowestFree_8 : decode b_Volume_lowestFree 8 = .ok (.iadd, 1) := by decide +kernel
theorem d_Volume_lowestFree_9 : decode b_Volume_lowestFree 9 = .ok (.if_icmp .ge 20, 3) := by decide +kernel
theorem d_Volume_lowestFree_12 : decode b_Volume_lowestFree 12 = .ok (.aload_n 0, 1) := by decide +kernel
theorem d_Volume_lowestFree_13 : decode b_Volume_lowestFree 13 = .ok (.getfield 21, 3) := by decide +kernel
theorem d_Volume_lowestFree_16 : decode b_Volume_lowestFree 16 = .ok (.iload_n 2, 1) := by decide +kernel
theorem d_Volume_lowestFree_17 : decode b_Volume_lowestFree 17 = .ok (.iaload, 1) := by decide +kernel
theorem d_Volume_lowestFree_18 : decode b_Volume_lowestFree 18 = .ok (.ifCond .ne 5, 3) := by decide +kernel
theorem d_Volume_lowestFree_21 : decode b_Volume_lowestFree 21 = .ok (.iload_n 2, 1) := by decide +kernel
theorem d_Volume_lowestFree_22 : decode b_Volume_lowestFree 22 = .ok (.ireturn, 1) := by decide +kernel
theorem d_Volume_lowestFree_23 : decode b_Volume_lowestFree 23 = .ok (.iinc 2 1, 3) := by decide +kernel
theorem d_Volume_lowestFree_26 : decode b_Volume_lowestFree 26 = .ok (.goto (-24), 3) := by decide +kernel
theorem d_Volume_lowestFree_29 : decode b_Volume_lowestFree 29 = .ok (.iconst (-1), 1) := by decide +kernel
theorem d_Volume_lowestFree_30 : decode b_Volume_lowestFree 30 = .ok (.ireturn, 1) := by decide +kernel
theorem d_Volume_placeFile_0 : decode b_Volume_placeFile 0 = .ok (.iload_n 3, 1) := by decide +kernel
theorem d_Volume_placeFile_1 : decode b_Volume_placeFile 1 = .ok (.istore 4, 2) := by decide +kernel
theorem d_Volume_placeFile_3 : decode b_Volume_placeFile 3 = .ok (.iconst 0, 1) := by decide +kernel
theorem d_Volume_placeFile_4 : decode b_Volume_placeFile 4 = .ok (.istore 5, 2) := by decide +kernel
theorem d_Volume_placeFile_6 : decode b_Volume_placeFile 6 = .ok (.aload_n 0, 1) := by decide +kernel
theorem d_Volume_placeFile_7 : decode b_Volume_placeFile 7 = .ok (.getfield 9, 3) := by decide +kernel
theorem d_Volume_placeFile_10 : decode b_Volume_placeFile 10 = .ok (.iload_n 1, 1) := by decide +kernel
theorem d_Volume_placeFile_11 : decode b_Volume_placeFile 11 = .ok (.iconst 0, 1) := by decide +kernel
theorem d_Volume_placeFile_12 : decode b_Volume_placeFile 12 = .ok (.iastore, 1) := by decide +kernel
theorem d_Volume_placeFile_13 : decode b_Volume_placeFile 13 = .ok (.iconst 0, 1) := by decide +kernel
theorem d_Volume_placeFile_14 : decode b_Volume_placeFile 14 = .ok (.istore 6, 2) := by decide +kernel
theorem d_Volume_placeFile_16 : decode b_Volume_placeFile 16 = .ok (.iload 6, 2) := by decide +kernel
theorem d_Volume_placeFile_18 : decode b_Volume_placeFile 18 = .ok (.iload_n 2, 1) := by decide +kernel
theorem d_Volume_placeFile_19 : decode b_Volume_placeFile 19 = .ok (.if_icmp .ge 95, 3) := by decide +kernel
theorem d_Volume_placeFile_22 : decode b_Volume_placeFile 22 = .ok (.aload_n 0, 1) := by decide +kernel
theorem d_Volume_placeFile_23 : decode b_Volume_placeFile 23 = .ok (.iload 4, 2) := by decide +kernel
theorem d_Volume_placeFile_25 : decode b_Volume_placeFile 25 = .ok (.ifCond .eq 15, 3) := by decide +kernel
theorem d_Volume_placeFile_28 : decode b_Volume_placeFile 28 = .ok (.iload 6, 2) := by decide +kernel
theorem d_Volume_placeFile_30 : decode b_Volume_placeFile 30 = .ok (.ifCond .le 10, 3) := by decide +kernel
theorem d_Volume_placeFile_33 : decode b_Volume_placeFile 33 = .ok (.iload 5, 2) := by decide +kernel
theorem d_Volume_placeFile_35 : decode b_Volume_placeFile 35 = .ok (.iconst 2, 1) := by decide +kernel
theorem d_Volume_placeFile_36 : decode b_Volume_placeFile 36 = .ok (.iadd, 1) := by decide +kernel
theorem d_Volume_placeFile_37 : decode b_Volume_placeFile 37 = .ok (.goto 4, 3) := by decide +kernel
theorem d_Volume_placeFile_40 : decode b_Volume_placeFile 40 = .ok (.iconst 2, 1) := by decide +kernel
theorem d_Volume_placeFile_41 : decode b_Volume_placeFile 41 = .ok (.invokevirtual 73, 3) := by decide +kernel
theorem d_Volume_placeFile_44 : decode b_Volume_placeFile 44 = .ok (.istore 7, 2) := by decide +kernel
theorem d_Volume_placeFile_46 : decode b_Volume_placeFile 46 = .ok (.iload 7, 2) := by decide +kernel
theorem d_Volume_placeFile_48 : decode b_Volume_placeFile 48 = .ok (.iconst (-1), 1) := by decide +kernel
theorem d_Volume_placeFile_49 : decode b_Volume_placeFile 49 = .ok (.if_icmp .ne 13, 3) := by decide +kernel
theorem d_Volume_placeFile_52 : decode b_Volume_placeFile 52 = .ok (.iconst 0, 1) := by decide +kernel
theorem d_Volume_placeFile_53 : decode b_Volume_placeFile 53 = .ok (.istore 4, 2) := by decide +kernel
theorem d_Volume_placeFile_55 : decode b_Volume_placeFile 55 = .ok (.aload_n 0, 1) := by decide +kernel
theorem d_Volume_placeFile_56 : decode b_Volume_placeFile 56 = .ok (.iconst 2, 1) := by decide +kernel
theorem d_Volume_placeFile_57 : decode b_Volume_placeFile 57 = .ok (.invokevirtual 73, 3) := by decide +kernel
theorem d_Volume_placeFile_60 : decode b_Volume_placeFile 60 = .ok (.istore 7, 2) := by decide +kernel
theorem d_Volume_placeFile_62 : decode b_Volume_placeFile 62 = .ok (.iload 7, 2) := by decide +kernel
theorem d_Volume_placeFile_64 : decode b_Volume_placeFile 64 = .ok (.iconst (-1), 1) := by decide +kernel
theorem d_Volume_placeFile_65 : decode b_Volume_placeFile 65 = .ok (.if_icmp .ne 4, 3) := by decide +kernel
theorem d_Volume_placeFile_68 : decode b_Volume_placeFile 68 = .ok (.return_, 1) := by decide +kernel
theorem d_Volume_placeFile_69 : decode b_Volume_placeFile 69 = .ok (.iload 6, 2) := by decide +kernel
theorem d_Volume_placeFile_71 : decode b_Volume_placeFile 71 = .ok (.ifCond .ne 14, 3) := by decide +kernel
theorem d_Volume_placeFile_74 : decode b_Volume_placeFile 74 = .ok (.aload_n 0, 1) := by decide +kernel
theorem d_Volume_placeFile_75 : decode b_Volume_placeFile 75 = .ok (.getfield 9, 3) := by decide +kernel
theorem d_Volume_placeFile_78 : decode b_Volume_placeFile 78 = .ok (.iload_n 1, 1) := by decide +kernel
theorem d_Volume_placeFile_79 : decode b_Volume_placeFile 79 = .ok (.iload 7, 2) := by decide +kernel
theorem d_Volume_placeFile_81 : decode b_Volume_placeFile 81 = .ok (.iastore, 1) := by decide +kernel
theorem d_Volume_placeFile_82 : decode b_Volume_placeFile 82 = .ok (.goto 12, 3) := by decide +kernel
theorem d_Volume_placeFile_85 : decode b_Volume_placeFile 85 = .ok (.aload_n 0, 1) := by decide +kernel
theorem d_Volume_placeFile_86 : decode b_Volume_placeFile 86 = .ok (.getfield 21, 3) := by decide +kernel
theorem d_Volume_placeFile_89 : decode b_Volume_placeFile 89 = .ok (.iload 5, 2) := by decide +kernel
theorem d_Volume_placeFile_91 : decode b_Volume_placeFile 91 = .ok (.iload 7, 2) := by decide +kernel
theorem d_Volume_placeFile_93 : decode b_Volume_placeFile 93 = .ok (.iastore, 1) := by decide +kernel
theorem d_Volume_placeFile_94 : decode b_Volume_placeFile 94 = .ok (.aload_n 0, 1) := by decide +kernel
theorem d_Volume_placeFile_95 : decode b_Volume_placeFile 95 = .ok (.getfield 21, 3) := by decide +kernel
theorem d_Volume_placeFile_98 : decode b_Volume_placeFile 98 = .ok (.iload 7, 2) := by decide +kernel
theorem d_Volume_placeFile_100 : decode b_Volume_placeFile 100 = .ok (.sipush 4095, 3) := by decide +kernel
theorem d_Volume_placeFile_103 : decode b_Volume_placeFile 103 = .ok (.iastore, 1) := by decide +kernel
theorem d_Volume_placeFile_104 : decode b_Volume_placeFile 104 = .ok (.iload 7, 2) := by decide +kernel
theorem d_Volume_placeFile_106 : decode b_Volume_placeFile 106 = .ok (.istore 5, 2) := by decide +kernel
theorem d_Volume_placeFile_108 : decode b_Volume_placeFile 108 = .ok (.iinc 6 1, 3) := by decide +kernel
theorem d_Volume_placeFile_111 : decode b_Volume_placeFile 111 = .ok (.goto (-95), 3) := by decide +kernel
theorem d_Volume_placeFile_114 : decode b_Volume_placeFile 114 = .ok (.return_, 1) := by decide +kernel
theorem d_Volume_placeFiles_0 : decode b_Volume_placeFiles 0 = .ok (.iconst 0, 1) := by decide +kernel
theorem d_Volume_placeFiles_1 : decode b_Volume_placeFiles 1 = .ok (.istore_n 2, 1) := by decide +kernel
theorem d_Volume_placeFiles_2 : decode b_Volume_placeFiles 2 = .ok (.iconst 0, 1) := by decide +kernel
theorem d_Volume_placeFiles_3 : decode b_Volume_placeFiles 3 = .ok (.istore_n 3, 1) := by decide +kernel
theorem d_Volume_placeFiles_4 : decode b_Volume_placeFiles 4 = .ok (.iload_n 3, 1) := by decide +kernel
theorem d_Volume_placeFiles_5 : decode b_Volume_placeFiles 5 = .ok (.aload_n 1, 1) := by decide +kernel
theorem d_Volume_placeFiles_6 : decode b_Volume_placeFiles 6 = .ok (.getfield 48, 3) := by decide +kernel
theorem d_Volume_placeFiles_9 : decode b_Volume_placeFiles 9 = .ok (.if_icmp .ge 21, 3) := by decide +kernel
theorem d_Volume_placeFiles_12 : decode b_Volume_placeFiles 12 = .ok (.iload_n 2, 1) := by decide +kernel
theorem d_Volume_placeFiles_13 : decode b_Volume_placeFiles 13 = .ok (.aload_n 1, 1) := by decide +kernel
theorem d_Volume_placeFiles_14 : decode b_Volume_placeFiles 14 = .ok (.getfield 53, 3) := by decide +kernel
theorem d_Volume_placeFiles_17 : decode b_Volume_placeFiles 17 = .ok (.iload_n 3, 1) := by decide +kernel
theorem d_Volume_placeFiles_18 : decode b_Volume_placeFiles 18 = .ok (.iaload, 1) := by decide +kernel
theorem d_Volume_placeFiles_19 : decode b_Volume_placeFiles 19 = .ok (.invokestatic 56, 3) := by decide +kernel
theorem d_Volume_placeFiles_22 : decode b_Volume_placeFiles 22 = .ok (.iadd, 1) := by decide +kernel
theorem d_Volume_placeFiles_23 : decode b_Volume_placeFiles 23 = .ok (.istore_n 2, 1) := by decide +kernel
theorem d_Volume_placeFiles_24 : decode b_Volume_placeFiles 24 = .ok (.iinc 3 1, 3) := by decide +kernel
theorem d_Volume_placeFiles_27 : decode b_Volume_placeFiles 27 = .ok (.goto (-23), 3) := by decide +kernel
theorem d_Volume_placeFiles_30 : decode b_Volume_placeFiles 30 = .ok (.iload_n 2, 1) := by decide +kernel
theorem d_Volume_placeFiles_31 : decode b_Volume_placeFiles 31 = .ok (.aload_n 0, 1) := by decide +kernel
theorem d_Volume_placeFiles_32 : decode b_Volume_placeFiles 32 = .ok (.getfield 24, 3) := by decide +kernel
theorem d_Volume_placeFiles_35 : decode b_Volume_placeFiles 35 = .ok (.if_icmp .le 5, 3) := by decide +kernel
theorem d_Volume_placeFiles_38 : decode b_Volume_placeFiles 38 = .ok (.iconst 0, 1) := by decide +kernel
theorem d_Volume_placeFiles_39 : decode b_Volume_placeFiles 39 = .ok (.ireturn, 1) := by decide +kernel
theorem d_Volume_placeFiles_40 : decode b_Volume_placeFiles 40 = .ok (.aload_n 0, 1) := by decide +kernel
theorem d_Volume_placeFiles_41 : decode b_Volume_placeFiles 41 = .ok (.getfield 21, 3) := by decide +kernel
theorem d_Volume_placeFiles_44 : decode b_Volume_placeFiles 44 = .ok (.iconst 0, 1) := by decide +kernel
theorem d_Volume_placeFiles_45 : decode b_Volume_placeFiles 45 = .ok (.invokestatic 59, 3) := by decide +kernel
theorem d_Volume_placeFiles_48 : decode b_Volume_placeFiles 48 = .ok (.aload_n 0, 1) := by decide +kernel
theorem d_Volume_placeFiles_49 : decode b_Volume_placeFiles 49 = .ok (.getfield 21, 3) := by decide +kernel
theorem d_Volume_placeFiles_52 : decode b_Volume_placeFiles 52 = .ok (.iconst 0, 1) := by decide +kernel
theorem d_Volume_placeFiles_53 : decode b_Volume_placeFiles 53 = .ok (.sipush 4088, 3) := by decide +kernel
theorem d_Volume_placeFiles_56 : decode b_Volume_placeFiles 56 = .ok (.iastore, 1) := by decide +kernel
theorem d_Volume_placeFiles_57 : decode b_Volume_placeFiles 57 = .ok (.aload_n 0, 1) := by decide +kernel
theorem d_Volume_placeFiles_58 : decode b_Volume_placeFiles 58 = .ok (.getfield 21, 3) := by decide +kernel
theorem d_Volume_placeFiles_61 : decode b_Volume_placeFiles 61 = .ok (.iconst 1, 1) := by decide +kernel
theorem d_Volume_placeFiles_62 : decode b_Volume_placeFiles 62 = .ok (.sipush 4095, 3) := by decide +kernel
theorem d_Volume_placeFiles_65 : decode b_Volume_placeFiles 65 = .ok (.iastore, 1) := by decide +kernel
theorem d_Volume_placeFiles_66 : decode b_Volume_placeFiles 66 = .ok (.iconst 0, 1) := by decide +kernel
theorem d_Volume_placeFiles_67 : decode b_Volume_placeFiles 67 = .ok (.istore_n 3, 1) := by decide +kernel
theorem d_Volume_placeFiles_68 : decode b_Volume_placeFiles 68 = .ok (.iload_n 3, 1) := by decide +kernel
theorem d_Volume_placeFiles_69 : decode b_Volume_placeFiles 69 = .ok (.aload_n 1, 1) := by decide +kernel
theorem d_Volume_placeFiles_70 : decode b_Volume_placeFiles 70 = .ok (.getfield 48, 3) := by decide +kernel
theorem d_Volume_placeFiles_73 : decode b_Volume_placeFiles 73 = .ok (.if_icmp .ge 29, 3) := by decide +kernel
theorem d_Volume_placeFiles_76 : decode b_Volume_placeFiles 76 = .ok (.aload_n 0, 1) := by decide +kernel
theorem d_Volume_placeFiles_77 : decode b_Volume_placeFiles 77 = .ok (.iload_n 3, 1) := by decide +kernel
theorem d_Volume_placeFiles_78 : decode b_Volume_placeFiles 78 = .ok (.aload_n 1, 1) := by decide +kernel
theorem d_Volume_placeFiles_79 : decode b_Volume_placeFiles 79 = .ok (.getfield 53, 3) := by decide +kernel
theorem d_Volume_placeFiles_82 : decode b_Volume_placeFiles 82 = .ok (.iload_n 3, 1) := by decide +kernel
theorem d_Volume_placeFiles_83 : decode b_Volume_placeFiles 83 = .ok (.iaload, 1) := by decide +kernel
theorem d_Volume_placeFiles_84 : decode b_Volume_placeFiles 84 = .ok (.invokestatic 56, 3) := by decide +kernel
theorem d_Volume_placeFiles_87 : decode b_Volume_placeFiles 87 = .ok (.aload_n 1, 1) := by decide +kernel
theorem d_Volume_placeFiles_88 : decode b_Volume_placeFiles 88 = .ok (.getfield 65, 3) := by decide +kernel
theorem d_Volume_placeFiles_91 : decode b_Volume_placeFiles 91 = .ok (.iload_n 3, 1) := by decide +kernel
theorem d_Volume_placeFiles_92 : decode b_Volume_placeFiles 92 = .ok (.baload, 1) := by decide +kernel
theorem d_Volume_placeFiles_93 : decode b_Volume_placeFiles 93 = .ok (.invokevirtual 69, 3) := by decide +kernel
theorem d_Volume_placeFiles_96 : decode b_Volume_placeFiles 96 = .ok (.iinc 3 1, 3) := by decide +kernel
theorem d_Volume_placeFiles_99 : decode b_Volume_placeFiles 99 = .ok (.goto (-31), 3) := by decide +kernel
theorem d_Volume_placeFiles_102 : decode b_Volume_placeFiles 102 = .ok (.iconst 1, 1) := by decide +kernel
theorem d_Volume_placeFiles_103 : decode b_Volume_placeFiles 103 = .ok (.ireturn, 1) := by decide +kernel
theorem d_Volume_directorySector_0 : decode b_Volume_directorySector 0 = .ok (.aload_n 0, 1) := by decide +kernel
theorem d_Volume_directorySector_1 : decode b_Volume_directorySector 1 = .ok (.getfield 31, 3) := by decide +kernel
theorem d_Volume_directorySector_4 : decode b_Volume_directorySector 4 = .ok (.iconst 1, 1) := by decide +kernel
theorem d_Volume_directorySector_5 : decode b_Volume_directorySector 5 = .ok (.iadd, 1) := by decide +kernel
theorem d_Volume_directorySector_6 : decode b_Volume_directorySector 6 = .ok (.iconst 2, 1) := by decide +kernel
theorem d_Volume_directorySector_7 : decode b_Volume_directorySector 7 = .ok (.aload_n 0, 1) := by decide +kernel
theorem d_Volume_directorySector_8 : decode b_Volume_directorySector 8 = .ok (.getfield 37, 3) := by decide +kernel
theorem d_Volume_directorySector_11 : decode b_Volume_directorySector 11 = .ok (.imul, 1) := by decide +kernel
theorem d_Volume_directorySector_12 : decode b_Volume_directorySector 12 = .ok (.iadd, 1) := by decide +kernel
theorem d_Volume_directorySector_13 : decode b_Volume_directorySector 13 = .ok (.ireturn, 1) := by decide +kernel
theorem d_Volume_sectorOf_0 : decode b_Volume_sectorOf 0 = .ok (.aload_n 0, 1) := by decide +kernel
theorem d_Volume_sectorOf_1 : decode b_Volume_sectorOf 1 = .ok (.invokevirtual 76, 3) := by decide +kernel
theorem d_Volume_sectorOf_4 : decode b_Volume_sectorOf 4 = .ok (.iconst 2, 1) := by decide +kernel
theorem d_Volume_sectorOf_5 : decode b_Volume_sectorOf 5 = .ok (.iadd, 1) := by decide +kernel
theorem d_Volume_sectorOf_6 : decode b_Volume_sectorOf 6 = .ok (.iload_n 1, 1) := by decide +kernel
theorem d_Volume_sectorOf_7 : decode b_Volume_sectorOf 7 = .ok (.iadd, 1) := by decide +kernel
theorem d_Volume_sectorOf_8 : decode b_Volume_sectorOf 8 = .ok (.iconst 2, 1) := by decide +kernel
theorem d_Volume_sectorOf_9 : decode b_Volume_sectorOf 9 = .ok (.isub, 1) := by decide +kernel
theorem d_Volume_sectorOf_10 : decode b_Volume_sectorOf 10 = .ok (.ireturn, 1) := by decide +kernel
theorem d_Volume_follower_0 : decode b_Volume_follower 0 = .ok (.iload_n 1, 1) := by decide +kernel
theorem d_Volume_follower_1 : decode b_Volume_follower 1 = .ok (.ifCond .lt 21, 3) := by decide +kernel
theorem d_Volume_follower_4 : decode b_Volume_follower 4 = .ok (.iload_n 1, 1) := by decide +kernel
theorem d_Volume_follower_5 : decode b_Volume_follower 5 = .ok (.aload_n 0, 1) := by decide +kernel
theorem d_Volume_follower_6 : decode b_Volume_follower 6 = .ok (.getfield 21, 3) := by decide +kernel
theorem d_Volume_follower_9 : decode b_Volume_follower 9 = .ok (.arraylength, 1) := by decide +kernel
theorem d_Volume_follower_10 : decode b_Volume_follower 10 = .ok (.if_icmp .ge 12, 3) := by decide +kernel
theorem d_Volume_follower_13 : decode b_Volume_follower 13 = .ok (.aload_n 0, 1) := by decide +kernel
theorem d_Volume_follower_14 : decode b_Volume_follower 14 = .ok (.getfield 21, 3) := by decide +kernel
theorem d_Volume_follower_17 : decode b_Volume_follower 17 = .ok (.iload_n 1, 1) := by decide +kernel
theorem d_Volume_follower_18 : decode b_Volume_follower 18 = .ok (.iaload, 1) := by decide +kernel
theorem d_Volume_follower_19 : decode b_Volume_follower 19 = .ok (.goto 4, 3) := by decide +kernel
theorem d_Volume_follower_22 : decode b_Volume_follower 22 = .ok (.iconst 0, 1) := by decide +kernel
theorem d_Volume_follower_23 : decode b_Volume_follower 23 = .ok (.ireturn, 1) := by decide +kernel
theorem d_Volume_findRuns_0 : decode b_Volume_findRuns 0 = .ok (.aload_n 0, 1) := by decide +kernel
theorem d_Volume_findRuns_1 : decode b_Volume_findRuns 1 = .ok (.getfield 9, 3) := by decide +kernel
theorem d_Volume_findRuns_4 : decode b_Volume_findRuns 4 = .ok (.iload_n 1, 1) := by decide +kernel
theorem d_Volume_findRuns_5 : decode b_Volume_findRuns 5 = .ok (.iaload, 1) := by decide +kernel
theorem d_Volume_findRuns_6 : decode b_Volume_findRuns 6 = .ok (.istore_n 3, 1) := by decide +kernel
theorem d_Volume_findRuns_7 : decode b_Volume_findRuns 7 = .ok (.iload_n 2, 1) := by decide +kernel
theorem d_Volume_findRuns_8 : decode b_Volume_findRuns 8 = .ok (.invokestatic 56, 3) := by decide +kernel
theorem d_Volume_findRuns_11 : decode b_Volume_findRuns 11 = .ok (.istore 4, 2) := by decide +kernel
theorem d_Volume_findRuns_13 : decode b_Volume_findRuns 13 = .ok (.iconst 0, 1) := by decide +kernel
theorem d_Volume_findRuns_14 : decode b_Volume_findRuns 14 = .ok (.istore 5, 2) := by decide +kernel
theorem d_Volume_findRuns_16 : decode b_Volume_findRuns 16 = .ok (.iload 5, 2) := by decide +kernel
theorem d_Volume_findRuns_18 : decode b_Volume_findRuns 18 = .ok (.iload 4, 2) := by decide +kernel
theorem d_Volume_findRuns_20 : decode b_Volume_findRuns 20 = .ok (.if_icmp .ge 117, 3) := by decide +kernel
theorem d_Volume_findRuns_23 : decode b_Volume_findRuns 23 = .ok (.aload_n 0, 1) := by decide +kernel
theorem d_Volume_findRuns_24 : decode b_Volume_findRuns 24 = .ok (.iload_n 3, 1) := by decide +kernel
theorem d_Volume_findRuns_25 : decode b_Volume_findRuns 25 = .ok (.invokevirtual 80, 3) := by decide +kernel
theorem d_Volume_findRuns_28 : decode b_Volume_findRuns 28 = .ok (.istore 6, 2) := by decide +kernel
theorem d_Volume_findRuns_30 : decode b_Volume_findRuns 30 = .ok (.aload_n 0, 1) := by decide +kernel
theorem d_Volume_findRuns_31 : decode b_Volume_findRuns 31 = .ok (.getfield 28, 3) := by decide +kernel
theorem d_Volume_findRuns_34 : decode b_Volume_findRuns 34 = .ok (.ifCond .le 49, 3) := by decide +kernel
theorem d_Volume_findRuns_37 : decode b_Volume_findRuns 37 = .ok (.aload_n 0, 1) := by decide +kernel
theorem d_Volume_findRuns_38 : decode b_Volume_findRuns 38 = .ok (.getfield 15, 3) := by decide +kernel
theorem d_Volume_findRuns_41 : decode b_Volume_findRuns 41 = .ok (.aload_n 0, 1) := by decide +kernel
theorem d_Volume_findRuns_42 : decode b_Volume_findRuns 42 = .ok (.getfield 28, 3) := by decide +kernel
theorem d_Volume_findRuns_45 : decode b_Volume_findRuns 45 = .ok (.iconst 1, 1) := by decide +kernel
theorem d_Volume_findRuns_46 : decode b_Volume_findRuns 46 = .ok (.isub, 1) := by decide +kernel
theorem d_Volume_findRuns_47 : decode b_Volume_findRuns 47 = .ok (.iaload, 1) := by decide +kernel
theorem d_Volume_findRuns_48 : decode b_Volume_findRuns 48 = .ok (.aload_n 0, 1) := by decide +kernel
theorem d_Volume_findRuns_49 : decode b_Volume_findRuns 49 = .ok (.getfield 18, 3) := by decide +kernel
theorem d_Volume_findRuns_52 : decode b_Volume_findRuns 52 = .ok (.aload_n 0, 1) := by decide +kernel
theorem d_Volume_findRuns_53 : decode b_Volume_findRuns 53 = .ok (.getfield 28, 3) := by decide +kernel
theorem d_Volume_findRuns_56 : decode b_Volume_findRuns 56 = .ok (.iconst 1, 1) := by decide +kernel
theorem d_Volume_findRuns_57 : decode b_Volume_findRuns 57 = .ok (.isub, 1) := by decide +kernel
theorem d_Volume_findRuns_58 : decode b_Volume_findRuns 58 = .ok (.iaload, 1) := by decide +kernel
theorem d_Volume_findRuns_59 : decode b_Volume_findRuns 59 = .ok (.iadd, 1) := by decide +kernel
theorem d_Volume_findRuns_60 : decode b_Volume_findRuns 60 = .ok (.iload 6, 2) := by decide +kernel
theorem d_Volume_findRuns_62 : decode b_Volume_findRuns 62 = .ok (.if_icmp .ne 21, 3) := by decide +kernel
theorem d_Volume_findRuns_65 : decode b_Volume_findRuns 65 = .ok (.aload_n 0, 1) := by decide +kernel
theorem d_Volume_findRuns_66 : decode b_Volume_findRuns 66 = .ok (.getfield 18, 3) := by decide +kernel
theorem d_Volume_findRuns_69 : decode b_Volume_findRuns 69 = .ok (.aload_n 0, 1) := by decide +kernel
theorem d_Volume_findRuns_70 : decode b_Volume_findRuns 70 = .ok (.getfield 28, 3) := by decide +kernel
theorem d_Volume_findRuns_73 : decode b_Volume_findRuns 73 = .ok (.iconst 1, 1) := by decide +kernel
theorem d_Volume_findRuns_74 : decode b_Volume_findRuns 74 = .ok (.isub, 1) := by decide +kernel
theorem d_Volume_findRuns_75 : decode b_Volume_findRuns 75 = .ok (.dup2, 1) := by decide +kernel
theorem d_Volume_findRuns_76 : decode b_Volume_findRuns 76 = .ok (.iaload, 1) := by decide +kernel
theorem d_Volume_findRuns_77 : decode b_Volume_findRuns 77 = .ok (.iconst 1, 1) := by decide +kernel
theorem d_Volume_findRuns_78 : decode b_Volume_findRuns 78 = .ok (.iadd, 1) := by decide +kernel
theorem d_Volume_findRuns_79 : decode b_Volume_findRuns 79 = .ok (.iastore, 1) := by decide +kernel
theorem d_Volume_findRuns_80 : decode b_Volume_findRuns 80 = .ok (.goto 45, 3) := by decide +kernel
theorem d_Volume_findRuns_83 : decode b_Volume_findRuns 83 = .ok (.aload_n 0, 1) := by decide +kernel
theorem d_Volume_findRuns_84 : decode b_Volume_findRuns 84 = .ok (.getfield 28, 3) := by decide +kernel
theorem d_Volume_findRuns_87 : decode b_Volume_findRuns 87 = .ok (.bipush 20, 2) := by decide +kernel
theorem d_Volume_findRuns_89 : decode b_Volume_findRuns 89 = .ok (.if_icmp .lt 5, 3) := by decide +kernel
theorem d_Volume_findRuns_92 : decode b_Volume_findRuns 92 = .ok (.iconst 0, 1) := by decide +kernel
theorem d_Volume_findRuns_93 : decode b_Volume_findRuns 93 = .ok (.ireturn, 1) := by decide +kernel
theorem d_Volume_findRuns_94 : decode b_Volume_findRuns 94 = .ok (.aload_n 0, 1) := by decide +kernel
theorem d_Volume_findRuns_95 : decode b_Volume_findRuns 95 = .ok (.getfield 15, 3) := by decide +kernel
theorem d_Volume_findRuns_98 : decode b_Volume_findRuns 98 = .ok (.aload_n 0, 1) := by decide +kernel
theorem d_Volume_findRuns_99 : decode b_Volume_findRuns 99 = .ok (.getfield 28, 3) := by decide +kernel
theorem d_Volume_findRuns_102 : decode b_Volume_findRuns 102 = .ok (.iload 6, 2) := by decide +kernel
theorem d_Volume_findRuns_104 : decode b_Volume_findRuns 104 = .ok (.iastore, 1) := by decide +kernel
theorem d_Volume_findRuns_105 : decode b_Volume_findRuns 105 = .ok (.aload_n 0, 1) := by decide +kernel
theorem d_Volume_findRuns_106 : decode b_Volume_findRuns 106 = .ok (.getfield 18, 3) := by decide +kernel
theorem d_Volume_findRuns_109 : decode b_Volume_findRuns 109 = .ok (.aload_n 0, 1) := by decide +kernel
theorem d_Volume_findRuns_110 : decode b_Volume_findRuns 110 = .ok (.getfield 28, 3) := by decide +kernel
theorem d_Volume_findRuns_113 : decode b_Volume_findRuns 113 = .ok (.iconst 1, 1) := by decide +kernel
theorem d_Volume_findRuns_114 : decode b_Volume_findRuns 114 = .ok (.iastore, 1) := by decide +kernel
theorem d_Volume_findRuns_115 : decode b_Volume_findRuns 115 = .ok (.aload_n 0, 1) := by decide +kernel
theorem d_Volume_findRuns_116 : decode b_Volume_findRuns 116 = .ok (.dup, 1) := by decide +kernel
theorem d_Volume_findRuns_117 : decode b_Volume_findRuns 117 = .ok (.getfield 28, 3) := by decide +kernel
theorem d_Volume_findRuns_120 : decode b_Volume_findRuns 120 = .ok (.iconst 1, 1) := by decide +kernel
theorem d_Volume_findRuns_121 : decode b_Volume_findRuns 121 = .ok (.iadd, 1) := by decide +kernel
theorem d_Volume_findRuns_122 : decode b_Volume_findRuns 122 = .ok (.putfield 28, 3) := by decide +kernel
theorem d_Volume_findRuns_125 : decode b_Volume_findRuns 125 = .ok (.aload_n 0, 1) := by decide +kernel
theorem d_Volume_findRuns_126 : decode b_Volume_findRuns 126 = .ok (.iload_n 3, 1) := by decide +kernel
theorem d_Volume_findRuns_127 : decode b_Volume_findRuns 127 = .ok (.invokevirtual 83, 3) := by decide +kernel
theorem d_Volume_findRuns_130 : decode b_Volume_findRuns 130 = .ok (.istore_n 3, 1) := by decide +kernel
theorem d_Volume_findRuns_131 : decode b_Volume_findRuns 131 = .ok (.iinc 5 1, 3) := by decide +kernel
theorem d_Volume_findRuns_134 : decode b_Volume_findRuns 134 = .ok (.goto (-118), 3) := by decide +kernel
theorem d_Volume_findRuns_137 : decode b_Volume_findRuns 137 = .ok (.iconst 1, 1) := by decide +kernel
theorem d_Volume_findRuns_138 : decode b_Volume_findRuns 138 = .ok (.ireturn, 1) := by decide +kernel
set_option maxRecDepth 100000 in
theorem fg_Volume_24 : FlG Wall classes R_Volume 24 3 3 := ⟨_, _, _, rfl, by decide, in_Volume, inW 128 rfl rfl⟩
set_option maxRecDepth 100000 in
theorem fp_Volume_24 : FlP Wall classes R_Volume 24 3 3 .int := ⟨_, _, _, t_Volume, rfl, by decide, in_Volume, inW 128 rfl rfl, t_Volume_ok, n_Volume, rfl, by decide +kernel⟩
set_option maxRecDepth 100000 in
theorem fg_Volume_28 : FlG Wall classes R_Volume 28 3 8 := ⟨_, _, _, rfl, by decide, in_Volume, inW 137 rfl rfl⟩
set_option maxRecDepth 100000 in
theorem fp_Volume_28 : FlP Wall classes R_Volume 28 3 8 .int := ⟨_, _, _, t_Volume, rfl, by decide, in_Volume, inW 137 rfl rfl, t_Volume_ok, n_Volume, rfl, by decide +kernel⟩
set_option maxRecDepth 100000 in
theorem fg_Volume_31 : FlG Wall classes R_Volume 31 3 0 := ⟨_, _, _, rfl, by decide, in_Volume, inW 122 rfl rfl⟩
set_option maxRecDepth 100000 in
theorem fp_Volume_31 : FlP Wall classes R_Volume 31 3 0 .int := ⟨_, _, _, t_Volume, rfl, by decide, in_Volume, inW 122 rfl rfl, t_Volume_ok, n_Volume, rfl, by decide +kernel⟩
set_option maxRecDepth 100000 in
theorem fg_Volume_34 : FlG Wall classes R_Volume 34 3 1 := ⟨_, _, _, rfl, by decide, in_Volume, inW 124 rfl rfl⟩
set_option maxRecDepth 100000 in
theorem fp_Volume_34 : FlP Wall classes R_Volume 34 3 1 .int := ⟨_, _, _, t_Volume, rfl, by decide, in_Volume, inW 124 rfl rfl, t_Volume_ok, n_Volume, rfl, by decide +kernel⟩
set_option maxRecDepth 100000 in
theorem fg_Volume_37 : FlG Wall classes R_Volume 37 3 2 := ⟨_, _, _, rfl, by decide, in_Volume, inW 126 rfl rfl⟩
set_option maxRecDepth 100000 in
theorem fp_Volume_37 : FlP Wall classes R_Volume 37 3 2 .int := ⟨_, _, _, t_Volume, rfl, by decide, in_Volume, inW 126 rfl rfl, t_Volume_ok, n_Volume, rfl, by decide +kernel⟩
set_option maxRecDepth 100000 in
theorem fc_Volume_40 : FcS Wall R_Volume 40 y_Volume_clustersIn b_Volume_clustersIn 2 (some .int) ws_Volume_clustersIn 2 := ⟨⟨rfl, cw_Volume_clustersIn, inW 306 rfl rfl, in_i_Volume, by decide +kernel⟩, inW 307 rfl rfl⟩
set_option maxRecDepth 100000 in
theorem fc_Volume_44 : FcS Wall R_Volume 44 y_Volume_tableBytes b_Volume_tableBytes 1 (some .int) ws_Volume_tableBytes 1 := ⟨⟨rfl, cw_Volume_tableBytes, inW 309 rfl rfl, in_i_Volume, by decide +kernel⟩, inW 310 rfl rfl⟩
set_option maxRecDepth 100000 in
theorem fg_Volume_21 : FlG Wall classes R_Volume 21 3 4 := ⟨_, _, _, rfl, by decide, in_Volume, inW 130 rfl rfl⟩
set_option maxRecDepth 100000 in
theorem fg_Volume_9 : FlG Wall classes R_Volume 9 3 5 := ⟨_, _, _, rfl, by decide, in_Volume, inW 131 rfl rfl⟩
set_option maxRecDepth 100000 in
theorem fc_Volume_73 : FcV Wall classes R_Volume 73 3 y_Volume_lowestFree b_Volume_lowestFree 3 (some .int) ws_Volume_lowestFree 1 := ⟨⟨rfl, cw_Volume_lowestFree, inW 330 rfl rfl, in_i_Volume, by decide +kernel⟩, inW 332 rfl rfl, inP 3 rfl rfl, _, _, rfl⟩
set_option maxRecDepth 100000 in
theorem fg_Volume_48 : FlG Wall classes R_Volume 48 2 9 := ⟨_, _, _, rfl, by decide, in_Plan, inW 83 rfl rfl⟩
set_option maxRecDepth 100000 in
theorem fc_Volume_59 : FcS Wall R_Volume 59 y_Arrays_fillI b_Arrays_fillI 4 (none) ws_Arrays_fillI 2 := ⟨⟨rfl, cw_Arrays_fillI, inW 323 rfl rfl, in_i_Arrays, by decide +kernel⟩, inW 324 rfl rfl⟩
set_option maxRecDepth 100000 in
theorem fg_Volume_53 : FlG Wall classes R_Volume 53 2 6 := ⟨_, _, _, rfl, by decide, in_Plan, inW 77 rfl rfl⟩
set_option maxRecDepth 100000 in
theorem fc_Volume_56 : FcS Wall R_Volume 56 y_Volume_clustersFor b_Volume_clustersFor 1 (some .int) ws_Volume_clustersFor 1 := ⟨⟨rfl, cw_Volume_clustersFor, inW 320 rfl rfl, in_i_Volume, by decide +kernel⟩, inW 321 rfl rfl⟩
set_option maxRecDepth 100000 in
theorem fg_Volume_65 : FlG Wall classes R_Volume 65 2 8 := ⟨_, _, _, rfl, by decide, in_Plan, inW 80 rfl rfl⟩
set_option maxRecDepth 100000 in
theorem fc_Volume_69 : FcV Wall classes R_Volume 69 3 y_Volume_placeFile b_Volume_placeFile 8 (none) ws_Volume_placeFile 3 := ⟨⟨rfl, cw_Volume_placeFile, inW 326 rfl rfl, in_i_Volume, by decide +kernel⟩, inW 328 rfl rfl, inP 2 rfl rfl, _, _, rfl⟩
set_option maxRecDepth 100000 in
theorem fc_Volume_76 : FcV Wall classes R_Volume 76 3 y_Volume_directorySector b_Volume_directorySector 1 (some .int) ws_Volume_directorySector 0 := ⟨⟨rfl, cw_Volume_directorySector, inW 344 rfl rfl, in_i_Volume, by decide +kernel⟩, inW 345 rfl rfl, inW 346 rfl rfl, _, _, rfl⟩
set_option maxRecDepth 100000 in
theorem fc_Volume_80 : FcV Wall classes R_Volume 80 3 y_Volume_sectorOf b_Volume_sectorOf 2 (some .int) ws_Volume_sectorOf 1 := ⟨⟨rfl, cw_Volume_sectorOf, inW 340 rfl rfl, in_i_Volume, by decide +kernel⟩, inW 341 rfl rfl, inW 342 rfl rfl, _, _, rfl⟩
set_option maxRecDepth 100000 in
theorem fc_Volume_83 : FcV Wall classes R_Volume 83 3 y_Volume_follower b_Volume_follower 2 (some .int) ws_Volume_follower 1 := ⟨⟨rfl, cw_Volume_follower, inW 348 rfl rfl, in_i_Volume, by decide +kernel⟩, inW 349 rfl rfl, inW 350 rfl rfl, _, _, rfl⟩
set_option maxRecDepth 100000 in
theorem fg_Volume_15 : FlG Wall classes R_Volume 15 3 6 := ⟨_, _, _, rfl, by decide, in_Volume, inW 133 rfl rfl⟩
set_option maxRecDepth 100000 in
theorem fg_Volume_18 : FlG Wall classes R_Volume 18 3 7 := ⟨_, _, _, rfl, by decide, in_Volume, inW 135 rfl rfl⟩
