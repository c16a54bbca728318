set_option maxRecDepth 100000 in
theorem oi_inst : Cond.instanceMethod objectInit ∈ Wall := inW 25 rfl rfl
set_option maxRecDepth 100000 in
theorem oi_code : Cond.code objectInit ⟨#[0xb1]⟩ 1 none ∈ Wall := inW 26 rfl rfl
set_option maxRecDepth 100000 in
theorem ac_int : Cond.arrayClass .int ∈ Wall := inW 56 rfl rfl
set_option maxRecDepth 100000 in
theorem ac_long : Cond.arrayClass .long ∈ Wall := inW 41 rfl rfl
set_option maxRecDepth 100000 in
theorem ac_boolean : Cond.arrayClass .boolean ∈ Wall := inW 109 rfl rfl
set_option maxRecDepth 100000 in
theorem ac_byte : Cond.arrayClass .byte ∈ Wall := inW 539 rfl rfl
abbrev b_Store_init : ByteArray := prog_4_method_1_code
def y_Store_init : MethodName := ⟨"BootMaker$Store", "<init>", "(I)V"⟩
def ws_Store_init : List Cond := Cond.code y_Store_init b_Store_init 2 (none) :: Wall
set_option maxRecDepth 100000 in
theorem cw_Store_init : Cond.code y_Store_init b_Store_init 2 (none) ∈ Wall := inW 31 rfl rfl
abbrev b_Sums_init : ByteArray := prog_5_method_1_code
def y_Sums_init : MethodName := ⟨"BootMaker$Sums", "<init>", "()V"⟩
def ws_Sums_init : List Cond := Cond.code y_Sums_init b_Sums_init 4 (none) :: Wall
set_option maxRecDepth 100000 in
theorem cw_Sums_init : Cond.code y_Sums_init b_Sums_init 4 (none) ∈ Wall := inW 46 rfl rfl
abbrev b_Plan_init : ByteArray := prog_3_method_1_code
def y_Plan_init : MethodName := ⟨"BootMaker$Plan", "<init>", "(I)V"⟩
def ws_Plan_init : List Cond := Cond.code y_Plan_init b_Plan_init 2 (none) :: Wall
set_option maxRecDepth 100000 in
theorem cw_Plan_init : Cond.code y_Plan_init b_Plan_init 2 (none) ∈ Wall := inW 61 rfl rfl
abbrev b_Volume_init : ByteArray := prog_6_method_1_code
def y_Volume_init : MethodName := ⟨"BootMaker$Volume", "<init>", "(I)V"⟩
def ws_Volume_init : List Cond := Cond.code y_Volume_init b_Volume_init 2 (none) :: Wall
set_option maxRecDepth 100000 in
theorem cw_Volume_init : Cond.code y_Volume_init b_Volume_init 2 (none) ∈ Wall := inW 120 rfl rfl
abbrev b_Writer_init : ByteArray := prog_7_method_1_code
def y_Writer_init : MethodName := ⟨"BootMaker$Writer", "<init>", "(LBootMaker$Store;ILBootMaker$Plan;LBootMaker$Sums;)V"⟩
def ws_Writer_init : List Cond := Cond.code y_Writer_init b_Writer_init 5 (none) :: Wall
set_option maxRecDepth 100000 in
theorem cw_Writer_init : Cond.code y_Writer_init b_Writer_init 5 (none) ∈ Wall := inW 114 rfl rfl
abbrev b_Firmware_init : ByteArray := prog_2_method_1_code
def y_Firmware_init : MethodName := ⟨"BootMaker$Firmware", "<init>", "(LBootMaker$Store;ILBootMaker$Sums;)V"⟩
def ws_Firmware_init : List Cond := Cond.code y_Firmware_init b_Firmware_init 4 (none) :: Wall
set_option maxRecDepth 100000 in
theorem cw_Firmware_init : Cond.code y_Firmware_init b_Firmware_init 4 (none) ∈ Wall := inW 178 rfl rfl
abbrev b_BootMaker_init : ByteArray := prog_1_method_1_code
def y_BootMaker_init : MethodName := ⟨"BootMaker", "<init>", "(I)V"⟩
def ws_BootMaker_init : List Cond := Cond.code y_BootMaker_init b_BootMaker_init 3 (none) :: Wall
set_option maxRecDepth 100000 in
theorem cw_BootMaker_init : Cond.code y_BootMaker_init b_BootMaker_init 3 (none) ∈ Wall := inW 23 rfl rfl
abbrev b_Model_init : ByteArray := prog_9_method_1_code
def y_Model_init : MethodName := ⟨"BootMakerModel", "<init>", "(I)V"⟩
def ws_Model_init : List Cond := Cond.code y_Model_init b_Model_init 2 (none) :: Wall
set_option maxRecDepth 100000 in
theorem cw_Model_init : Cond.code y_Model_init b_Model_init 2 (none) ∈ Wall := inW 778 rfl rfl
theorem d_Store_init_0 : decode b_Store_init 0 = .ok (.aload_n 0, 1) := by decide +kernel
theorem d_Store_init_1 : decode b_Store_init 1 = .ok (.invokespecial 3, 3) := by decide +kernel
theorem d_Store_init_4 : decode b_Store_init 4 = .ok (.aload_n 0, 1) := by decide +kernel
theorem d_Store_init_5 : decode b_Store_init 5 = .ok (.iload_n 1, 1) := by decide +kernel
theorem d_Store_init_6 : decode b_Store_init 6 = .ok (.putfield 9, 3) := by decide +kernel
theorem d_Store_init_9 : decode b_Store_init 9 = .ok (.aload_n 0, 1) := by decide +kernel
theorem d_Store_init_10 : decode b_Store_init 10 = .ok (.iload_n 1, 1) := by decide +kernel
theorem d_Store_init_11 : decode b_Store_init 11 = .ok (.bipush 7, 2) := by decide +kernel
theorem d_Store_init_13 : decode b_Store_init 13 = .ok (.iadd, 1) := by decide +kernel
theorem d_Store_init_14 : decode b_Store_init 14 = .ok (.bipush 8, 2) := by decide +kernel
theorem d_Store_init_16 : decode b_Store_init 16 = .ok (.idiv, 1) := by decide +kernel
theorem d_Store_init_17 : decode b_Store_init 17 = .ok (.newarray .long, 2) := by decide +kernel
theorem d_Store_init_19 : decode b_Store_init 19 = .ok (.putfield 15, 3) := by decide +kernel
theorem d_Store_init_22 : decode b_Store_init 22 = .ok (.return_, 1) := by decide +kernel
theorem d_Sums_init_0 : decode b_Sums_init 0 = .ok (.aload_n 0, 1) := by decide +kernel
theorem d_Sums_init_1 : decode b_Sums_init 1 = .ok (.invokespecial 3, 3) := by decide +kernel
theorem d_Sums_init_4 : decode b_Sums_init 4 = .ok (.aload_n 0, 1) := by decide +kernel
theorem d_Sums_init_5 : decode b_Sums_init 5 = .ok (.sipush 256, 3) := by decide +kernel
theorem d_Sums_init_8 : decode b_Sums_init 8 = .ok (.newarray .int, 2) := by decide +kernel
theorem d_Sums_init_10 : decode b_Sums_init 10 = .ok (.putfield 9, 3) := by decide +kernel
theorem d_Sums_init_13 : decode b_Sums_init 13 = .ok (.iconst 0, 1) := by decide +kernel
theorem d_Sums_init_14 : decode b_Sums_init 14 = .ok (.istore_n 1, 1) := by decide +kernel
theorem d_Sums_init_15 : decode b_Sums_init 15 = .ok (.iload_n 1, 1) := by decide +kernel
theorem d_Sums_init_16 : decode b_Sums_init 16 = .ok (.sipush 256, 3) := by decide +kernel
theorem d_Sums_init_19 : decode b_Sums_init 19 = .ok (.if_icmp .ge 52, 3) := by decide +kernel
theorem d_Sums_init_22 : decode b_Sums_init 22 = .ok (.iload_n 1, 1) := by decide +kernel
theorem d_Sums_init_23 : decode b_Sums_init 23 = .ok (.istore_n 2, 1) := by decide +kernel
theorem d_Sums_init_24 : decode b_Sums_init 24 = .ok (.iconst 0, 1) := by decide +kernel
theorem d_Sums_init_25 : decode b_Sums_init 25 = .ok (.istore_n 3, 1) := by decide +kernel
theorem d_Sums_init_26 : decode b_Sums_init 26 = .ok (.iload_n 3, 1) := by decide +kernel
theorem d_Sums_init_27 : decode b_Sums_init 27 = .ok (.bipush 8, 2) := by decide +kernel
theorem d_Sums_init_29 : decode b_Sums_init 29 = .ok (.if_icmp .ge 29, 3) := by decide +kernel
theorem d_Sums_init_32 : decode b_Sums_init 32 = .ok (.iload_n 2, 1) := by decide +kernel
theorem d_Sums_init_33 : decode b_Sums_init 33 = .ok (.iconst 1, 1) := by decide +kernel
theorem d_Sums_init_34 : decode b_Sums_init 34 = .ok (.iand, 1) := by decide +kernel
theorem d_Sums_init_35 : decode b_Sums_init 35 = .ok (.iconst 1, 1) := by decide +kernel
theorem d_Sums_init_36 : decode b_Sums_init 36 = .ok (.if_icmp .ne 12, 3) := by decide +kernel
theorem d_Sums_init_39 : decode b_Sums_init 39 = .ok (.iload_n 2, 1) := by decide +kernel
theorem d_Sums_init_40 : decode b_Sums_init 40 = .ok (.iconst 1, 1) := by decide +kernel
theorem d_Sums_init_41 : decode b_Sums_init 41 = .ok (.iushr, 1) := by decide +kernel
theorem d_Sums_init_42 : decode b_Sums_init 42 = .ok (.ldc 15, 2) := by decide +kernel
theorem d_Sums_init_44 : decode b_Sums_init 44 = .ok (.ixor, 1) := by decide +kernel
theorem d_Sums_init_45 : decode b_Sums_init 45 = .ok (.goto 6, 3) := by decide +kernel
theorem d_Sums_init_48 : decode b_Sums_init 48 = .ok (.iload_n 2, 1) := by decide +kernel
theorem d_Sums_init_49 : decode b_Sums_init 49 = .ok (.iconst 1, 1) := by decide +kernel
theorem d_Sums_init_50 : decode b_Sums_init 50 = .ok (.iushr, 1) := by decide +kernel
theorem d_Sums_init_51 : decode b_Sums_init 51 = .ok (.istore_n 2, 1) := by decide +kernel
theorem d_Sums_init_52 : decode b_Sums_init 52 = .ok (.iinc 3 1, 3) := by decide +kernel
theorem d_Sums_init_55 : decode b_Sums_init 55 = .ok (.goto (-29), 3) := by decide +kernel
theorem d_Sums_init_58 : decode b_Sums_init 58 = .ok (.aload_n 0, 1) := by decide +kernel
theorem d_Sums_init_59 : decode b_Sums_init 59 = .ok (.getfield 9, 3) := by decide +kernel
theorem d_Sums_init_62 : decode b_Sums_init 62 = .ok (.iload_n 1, 1) := by decide +kernel
theorem d_Sums_init_63 : decode b_Sums_init 63 = .ok (.iload_n 2, 1) := by decide +kernel
theorem d_Sums_init_64 : decode b_Sums_init 64 = .ok (.iastore, 1) := by decide +kernel
theorem d_Sums_init_65 : decode b_Sums_init 65 = .ok (.iinc 1 1, 3) := by decide +kernel
theorem d_Sums_init_68 : decode b_Sums_init 68 = .ok (.goto (-53), 3) := by decide +kernel
theorem d_Sums_init_71 : decode b_Sums_init 71 = .ok (.return_, 1) := by decide +kernel
theorem d_Plan_init_0 : decode b_Plan_init 0 = .ok (.aload_n 0, 1) := by decide +kernel
theorem d_Plan_init_1 : decode b_Plan_init 1 = .ok (.invokespecial 3, 3) := by decide +kernel
theorem d_Plan_init_4 : decode b_Plan_init 4 = .ok (.aload_n 0, 1) := by decide +kernel
theorem d_Plan_init_5 : decode b_Plan_init 5 = .ok (.iconst 4, 1) := by decide +kernel
theorem d_Plan_init_6 : decode b_Plan_init 6 = .ok (.newarray .int, 2) := by decide +kernel
theorem d_Plan_init_8 : decode b_Plan_init 8 = .ok (.putfield 11, 3) := by decide +kernel
theorem d_Plan_init_11 : decode b_Plan_init 11 = .ok (.aload_n 0, 1) := by decide +kernel
theorem d_Plan_init_12 : decode b_Plan_init 12 = .ok (.iconst 4, 1) := by decide +kernel
theorem d_Plan_init_13 : decode b_Plan_init 13 = .ok (.newarray .int, 2) := by decide +kernel
theorem d_Plan_init_15 : decode b_Plan_init 15 = .ok (.putfield 15, 3) := by decide +kernel
theorem d_Plan_init_18 : decode b_Plan_init 18 = .ok (.aload_n 0, 1) := by decide +kernel
theorem d_Plan_init_19 : decode b_Plan_init 19 = .ok (.iconst 4, 1) := by decide +kernel
theorem d_Plan_init_20 : decode b_Plan_init 20 = .ok (.newarray .int, 2) := by decide +kernel
theorem d_Plan_init_22 : decode b_Plan_init 22 = .ok (.putfield 18, 3) := by decide +kernel
theorem d_Plan_init_25 : decode b_Plan_init 25 = .ok (.aload_n 0, 1) := by decide +kernel
theorem d_Plan_init_26 : decode b_Plan_init 26 = .ok (.bipush 12, 2) := by decide +kernel
theorem d_Plan_init_28 : decode b_Plan_init 28 = .ok (.newarray .long, 2) := by decide +kernel
theorem d_Plan_init_30 : decode b_Plan_init 30 = .ok (.putfield 21, 3) := by decide +kernel
theorem d_Plan_init_33 : decode b_Plan_init 33 = .ok (.aload_n 0, 1) := by decide +kernel
theorem d_Plan_init_34 : decode b_Plan_init 34 = .ok (.bipush 12, 2) := by decide +kernel
theorem d_Plan_init_36 : decode b_Plan_init 36 = .ok (.newarray .int, 2) := by decide +kernel
theorem d_Plan_init_38 : decode b_Plan_init 38 = .ok (.putfield 25, 3) := by decide +kernel
theorem d_Plan_init_41 : decode b_Plan_init 41 = .ok (.aload_n 0, 1) := by decide +kernel
theorem d_Plan_init_42 : decode b_Plan_init 42 = .ok (.bipush 12, 2) := by decide +kernel
theorem d_Plan_init_44 : decode b_Plan_init 44 = .ok (.newarray .int, 2) := by decide +kernel
theorem d_Plan_init_46 : decode b_Plan_init 46 = .ok (.putfield 28, 3) := by decide +kernel
theorem d_Plan_init_49 : decode b_Plan_init 49 = .ok (.aload_n 0, 1) := by decide +kernel
theorem d_Plan_init_50 : decode b_Plan_init 50 = .ok (.bipush 12, 2) := by decide +kernel
theorem d_Plan_init_52 : decode b_Plan_init 52 = .ok (.newarray .boolean, 2) := by decide +kernel
theorem d_Plan_init_54 : decode b_Plan_init 54 = .ok (.putfield 31, 3) := by decide +kernel
theorem d_Plan_init_57 : decode b_Plan_init 57 = .ok (.aload_n 0, 1) := by decide +kernel
theorem d_Plan_init_58 : decode b_Plan_init 58 = .ok (.iload_n 1, 1) := by decide +kernel
theorem d_Plan_init_59 : decode b_Plan_init 59 = .ok (.bipush 33, 2) := by decide +kernel
theorem d_Plan_init_61 : decode b_Plan_init 61 = .ok (.isub, 1) := by decide +kernel
theorem d_Plan_init_62 : decode b_Plan_init 62 = .ok (.iconst 1, 1) := by decide +kernel
theorem d_Plan_init_63 : decode b_Plan_init 63 = .ok (.isub, 1) := by decide +kernel
theorem d_Plan_init_64 : decode b_Plan_init 64 = .ok (.putfield 35, 3) := by decide +kernel
theorem d_Plan_init_67 : decode b_Plan_init 67 = .ok (.return_, 1) := by decide +kernel
theorem d_Volume_init_0 : decode b_Volume_init 0 = .ok (.aload_n 0, 1) := by decide +kernel
theorem d_Volume_init_1 : decode b_Volume_init 1 = .ok (.invokespecial 3, 3) := by decide +kernel
theorem d_Volume_init_4 : decode b_Volume_init 4 = .ok (.aload_n 0, 1) := by decide +kernel
theorem d_Volume_init_5 : decode b_Volume_init 5 = .ok (.bipush 12, 2) := by decide +kernel
theorem d_Volume_init_7 : decode b_Volume_init 7 = .ok (.newarray .int, 2) := by decide +kernel
theorem d_Volume_init_9 : decode b_Volume_init 9 = .ok (.putfield 9, 3) := by decide +kernel
theorem d_Volume_init_12 : decode b_Volume_init 12 = .ok (.aload_n 0, 1) := by decide +kernel
theorem d_Volume_init_13 : decode b_Volume_init 13 = .ok (.bipush 20, 2) := by decide +kernel
theorem d_Volume_init_15 : decode b_Volume_init 15 = .ok (.newarray .int, 2) := by decide +kernel
theorem d_Volume_init_17 : decode b_Volume_init 17 = .ok (.putfield 15, 3) := by decide +kernel
theorem d_Volume_init_20 : decode b_Volume_init 20 = .ok (.aload_n 0, 1) := by decide +kernel
theorem d_Volume_init_21 : decode b_Volume_init 21 = .ok (.bipush 20, 2) := by decide +kernel
theorem d_Volume_init_23 : decode b_Volume_init 23 = .ok (.newarray .int, 2) := by decide +kernel
theorem d_Volume_init_25 : decode b_Volume_init 25 = .ok (.putfield 18, 3) := by decide +kernel
theorem d_Volume_init_28 : decode b_Volume_init 28 = .ok (.aload_n 0, 1) := by decide +kernel
theorem d_Volume_init_29 : decode b_Volume_init 29 = .ok (.iload_n 1, 1) := by decide +kernel
theorem d_Volume_init_30 : decode b_Volume_init 30 = .ok (.newarray .int, 2) := by decide +kernel
theorem d_Volume_init_32 : decode b_Volume_init 32 = .ok (.putfield 21, 3) := by decide +kernel
theorem d_Volume_init_35 : decode b_Volume_init 35 = .ok (.return_, 1) := by decide +kernel
theorem d_Writer_init_0 : decode b_Writer_init 0 = .ok (.aload_n 0, 1) := by decide +kernel
theorem d_Writer_init_1 : decode b_Writer_init 1 = .ok (.invokespecial 3, 3) := by decide +kernel
theorem d_Writer_init_4 : decode b_Writer_init 4 = .ok (.aload_n 0, 1) := by decide +kernel
theorem d_Writer_init_5 : decode b_Writer_init 5 = .ok (.aload_n 1, 1) := by decide +kernel
theorem d_Writer_init_6 : decode b_Writer_init 6 = .ok (.putfield 9, 3) := by decide +kernel
theorem d_Writer_init_9 : decode b_Writer_init 9 = .ok (.aload_n 0, 1) := by decide +kernel
theorem d_Writer_init_10 : decode b_Writer_init 10 = .ok (.iload_n 2, 1) := by decide +kernel
theorem d_Writer_init_11 : decode b_Writer_init 11 = .ok (.putfield 15, 3) := by decide +kernel
theorem d_Writer_init_14 : decode b_Writer_init 14 = .ok (.aload_n 0, 1) := by decide +kernel
theorem d_Writer_init_15 : decode b_Writer_init 15 = .ok (.aload_n 3, 1) := by decide +kernel
theorem d_Writer_init_16 : decode b_Writer_init 16 = .ok (.putfield 19, 3) := by decide +kernel
theorem d_Writer_init_19 : decode b_Writer_init 19 = .ok (.aload_n 0, 1) := by decide +kernel
theorem d_Writer_init_20 : decode b_Writer_init 20 = .ok (.aload 4, 2) := by decide +kernel
theorem d_Writer_init_22 : decode b_Writer_init 22 = .ok (.putfield 23, 3) := by decide +kernel
theorem d_Writer_init_25 : decode b_Writer_init 25 = .ok (.aload_n 0, 1) := by decide +kernel
theorem d_Writer_init_26 : decode b_Writer_init 26 = .ok (.new 27, 3) := by decide +kernel
theorem d_Writer_init_29 : decode b_Writer_init 29 = .ok (.dup, 1) := by decide +kernel
theorem d_Writer_init_30 : decode b_Writer_init 30 = .ok (.iload_n 2, 1) := by decide +kernel
theorem d_Writer_init_31 : decode b_Writer_init 31 = .ok (.invokespecial 29, 3) := by decide +kernel
theorem d_Writer_init_34 : decode b_Writer_init 34 = .ok (.putfield 32, 3) := by decide +kernel
theorem d_Writer_init_37 : decode b_Writer_init 37 = .ok (.return_, 1) := by decide +kernel
theorem d_Firmware_init_0 : decode b_Firmware_init 0 = .ok (.aload_n 0, 1) := by decide +kernel
theorem d_Firmware_init_1 : decode b_Firmware_init 1 = .ok (.invokespecial 3, 3) := by decide +kernel
theorem d_Firmware_init_4 : decode b_Firmware_init 4 = .ok (.aload_n 0, 1) := by decide +kernel
theorem d_Firmware_init_5 : decode b_Firmware_init 5 = .ok (.new 9, 3) := by decide +kernel
theorem d_Firmware_init_8 : decode b_Firmware_init 8 = .ok (.dup, 1) := by decide +kernel
theorem d_Firmware_init_9 : decode b_Firmware_init 9 = .ok (.ldc 11, 2) := by decide +kernel
theorem d_Firmware_init_11 : decode b_Firmware_init 11 = .ok (.invokespecial 12, 3) := by decide +kernel
theorem d_Firmware_init_14 : decode b_Firmware_init 14 = .ok (.putfield 15, 3) := by decide +kernel
theorem d_Firmware_init_17 : decode b_Firmware_init 17 = .ok (.aload_n 0, 1) := by decide +kernel
theorem d_Firmware_init_18 : decode b_Firmware_init 18 = .ok (.bipush 18, 2) := by decide +kernel
theorem d_Firmware_init_20 : decode b_Firmware_init 20 = .ok (.newarray .int, 2) := by decide +kernel
theorem d_Firmware_init_22 : decode b_Firmware_init 22 = .ok (.putfield 21, 3) := by decide +kernel
theorem d_Firmware_init_25 : decode b_Firmware_init 25 = .ok (.aload_n 0, 1) := by decide +kernel
theorem d_Firmware_init_26 : decode b_Firmware_init 26 = .ok (.iconst (-1), 1) := by decide +kernel
theorem d_Firmware_init_27 : decode b_Firmware_init 27 = .ok (.putfield 25, 3) := by decide +kernel
theorem d_Firmware_init_30 : decode b_Firmware_init 30 = .ok (.aload_n 0, 1) := by decide +kernel
theorem d_Firmware_init_31 : decode b_Firmware_init 31 = .ok (.iconst (-1), 1) := by decide +kernel
theorem d_Firmware_init_32 : decode b_Firmware_init 32 = .ok (.putfield 29, 3) := by decide +kernel
theorem d_Firmware_init_35 : decode b_Firmware_init 35 = .ok (.aload_n 0, 1) := by decide +kernel
theorem d_Firmware_init_36 : decode b_Firmware_init 36 = .ok (.iconst (-1), 1) := by decide +kernel
theorem d_Firmware_init_37 : decode b_Firmware_init 37 = .ok (.putfield 32, 3) := by decide +kernel
theorem d_Firmware_init_40 : decode b_Firmware_init 40 = .ok (.aload_n 0, 1) := by decide +kernel
theorem d_Firmware_init_41 : decode b_Firmware_init 41 = .ok (.aload_n 1, 1) := by decide +kernel
theorem d_Firmware_init_42 : decode b_Firmware_init 42 = .ok (.putfield 35, 3) := by decide +kernel
theorem d_Firmware_init_45 : decode b_Firmware_init 45 = .ok (.aload_n 0, 1) := by decide +kernel
theorem d_Firmware_init_46 : decode b_Firmware_init 46 = .ok (.iload_n 2, 1) := by decide +kernel
theorem d_Firmware_init_47 : decode b_Firmware_init 47 = .ok (.putfield 38, 3) := by decide +kernel
theorem d_Firmware_init_50 : decode b_Firmware_init 50 = .ok (.aload_n 0, 1) := by decide +kernel
theorem d_Firmware_init_51 : decode b_Firmware_init 51 = .ok (.aload_n 3, 1) := by decide +kernel
theorem d_Firmware_init_52 : decode b_Firmware_init 52 = .ok (.putfield 41, 3) := by decide +kernel
theorem d_Firmware_init_55 : decode b_Firmware_init 55 = .ok (.aload_n 0, 1) := by decide +kernel
theorem d_Firmware_init_56 : decode b_Firmware_init 56 = .ok (.iload_n 2, 1) := by decide +kernel
theorem d_Firmware_init_57 : decode b_Firmware_init 57 = .ok (.newarray .int, 2) := by decide +kernel
theorem d_Firmware_init_59 : decode b_Firmware_init 59 = .ok (.putfield 45, 3) := by decide +kernel
theorem d_Firmware_init_62 : decode b_Firmware_init 62 = .ok (.return_, 1) := by decide +kernel
theorem d_BootMaker_init_0 : decode b_BootMaker_init 0 = .ok (.aload_n 0, 1) := by decide +kernel
theorem d_BootMaker_init_1 : decode b_BootMaker_init 1 = .ok (.invokespecial 1, 3) := by decide +kernel
theorem d_BootMaker_init_4 : decode b_BootMaker_init 4 = .ok (.iload_n 1, 1) := by decide +kernel
theorem d_BootMaker_init_5 : decode b_BootMaker_init 5 = .ok (.bipush 100, 2) := by decide +kernel
theorem d_BootMaker_init_7 : decode b_BootMaker_init 7 = .ok (.if_icmp .lt 14, 3) := by decide +kernel
theorem d_BootMaker_init_10 : decode b_BootMaker_init 10 = .ok (.iload_n 1, 1) := by decide +kernel
theorem d_BootMaker_init_11 : decode b_BootMaker_init 11 = .ok (.sipush 600, 3) := by decide +kernel
theorem d_BootMaker_init_14 : decode b_BootMaker_init 14 = .ok (.if_icmp .gt 7, 3) := by decide +kernel
theorem d_BootMaker_init_17 : decode b_BootMaker_init 17 = .ok (.iload_n 1, 1) := by decide +kernel
theorem d_BootMaker_init_18 : decode b_BootMaker_init 18 = .ok (.goto 6, 3) := by decide +kernel
theorem d_BootMaker_init_21 : decode b_BootMaker_init 21 = .ok (.sipush 200, 3) := by decide +kernel
theorem d_BootMaker_init_24 : decode b_BootMaker_init 24 = .ok (.istore_n 2, 1) := by decide +kernel
theorem d_BootMaker_init_25 : decode b_BootMaker_init 25 = .ok (.aload_n 0, 1) := by decide +kernel
theorem d_BootMaker_init_26 : decode b_BootMaker_init 26 = .ok (.new 9, 3) := by decide +kernel
theorem d_BootMaker_init_29 : decode b_BootMaker_init 29 = .ok (.dup, 1) := by decide +kernel
theorem d_BootMaker_init_30 : decode b_BootMaker_init 30 = .ok (.iload_n 2, 1) := by decide +kernel
theorem d_BootMaker_init_31 : decode b_BootMaker_init 31 = .ok (.sipush 512, 3) := by decide +kernel
theorem d_BootMaker_init_34 : decode b_BootMaker_init 34 = .ok (.imul, 1) := by decide +kernel
theorem d_BootMaker_init_35 : decode b_BootMaker_init 35 = .ok (.invokespecial 11, 3) := by decide +kernel
theorem d_BootMaker_init_38 : decode b_BootMaker_init 38 = .ok (.putfield 14, 3) := by decide +kernel
theorem d_BootMaker_init_41 : decode b_BootMaker_init 41 = .ok (.aload_n 0, 1) := by decide +kernel
theorem d_BootMaker_init_42 : decode b_BootMaker_init 42 = .ok (.new 18, 3) := by decide +kernel
theorem d_BootMaker_init_45 : decode b_BootMaker_init 45 = .ok (.dup, 1) := by decide +kernel
theorem d_BootMaker_init_46 : decode b_BootMaker_init 46 = .ok (.invokespecial 20, 3) := by decide +kernel
theorem d_BootMaker_init_49 : decode b_BootMaker_init 49 = .ok (.putfield 21, 3) := by decide +kernel
theorem d_BootMaker_init_52 : decode b_BootMaker_init 52 = .ok (.aload_n 0, 1) := by decide +kernel
theorem d_BootMaker_init_53 : decode b_BootMaker_init 53 = .ok (.new 25, 3) := by decide +kernel
theorem d_BootMaker_init_56 : decode b_BootMaker_init 56 = .ok (.dup, 1) := by decide +kernel
theorem d_BootMaker_init_57 : decode b_BootMaker_init 57 = .ok (.iload_n 2, 1) := by decide +kernel
theorem d_BootMaker_init_58 : decode b_BootMaker_init 58 = .ok (.invokespecial 27, 3) := by decide +kernel
theorem d_BootMaker_init_61 : decode b_BootMaker_init 61 = .ok (.putfield 28, 3) := by decide +kernel
theorem d_BootMaker_init_64 : decode b_BootMaker_init 64 = .ok (.aload_n 0, 1) := by decide +kernel
theorem d_BootMaker_init_65 : decode b_BootMaker_init 65 = .ok (.new 32, 3) := by decide +kernel
theorem d_BootMaker_init_68 : decode b_BootMaker_init 68 = .ok (.dup, 1) := by decide +kernel
theorem d_BootMaker_init_69 : decode b_BootMaker_init 69 = .ok (.aload_n 0, 1) := by decide +kernel
theorem d_BootMaker_init_70 : decode b_BootMaker_init 70 = .ok (.getfield 14, 3) := by decide +kernel
theorem d_BootMaker_init_73 : decode b_BootMaker_init 73 = .ok (.iload_n 2, 1) := by decide +kernel
theorem d_BootMaker_init_74 : decode b_BootMaker_init 74 = .ok (.aload_n 0, 1) := by decide +kernel
theorem d_BootMaker_init_75 : decode b_BootMaker_init 75 = .ok (.getfield 28, 3) := by decide +kernel
theorem d_BootMaker_init_78 : decode b_BootMaker_init 78 = .ok (.aload_n 0, 1) := by decide +kernel
theorem d_BootMaker_init_79 : decode b_BootMaker_init 79 = .ok (.getfield 21, 3) := by decide +kernel
theorem d_BootMaker_init_82 : decode b_BootMaker_init 82 = .ok (.invokespecial 34, 3) := by decide +kernel
theorem d_BootMaker_init_85 : decode b_BootMaker_init 85 = .ok (.putfield 37, 3) := by decide +kernel
theorem d_BootMaker_init_88 : decode b_BootMaker_init 88 = .ok (.aload_n 0, 1) := by decide +kernel
theorem d_BootMaker_init_89 : decode b_BootMaker_init 89 = .ok (.new 41, 3) := by decide +kernel
theorem d_BootMaker_init_92 : decode b_BootMaker_init 92 = .ok (.dup, 1) := by decide +kernel
theorem d_BootMaker_init_93 : decode b_BootMaker_init 93 = .ok (.aload_n 0, 1) := by decide +kernel
theorem d_BootMaker_init_94 : decode b_BootMaker_init 94 = .ok (.getfield 14, 3) := by decide +kernel
theorem d_BootMaker_init_97 : decode b_BootMaker_init 97 = .ok (.iload_n 2, 1) := by decide +kernel
theorem d_BootMaker_init_98 : decode b_BootMaker_init 98 = .ok (.aload_n 0, 1) := by decide +kernel
theorem d_BootMaker_init_99 : decode b_BootMaker_init 99 = .ok (.getfield 21, 3) := by decide +kernel
theorem d_BootMaker_init_102 : decode b_BootMaker_init 102 = .ok (.invokespecial 43, 3) := by decide +kernel
theorem d_BootMaker_init_105 : decode b_BootMaker_init 105 = .ok (.putfield 46, 3) := by decide +kernel
theorem d_BootMaker_init_108 : decode b_BootMaker_init 108 = .ok (.return_, 1) := by decide +kernel
theorem d_Model_init_0 : decode b_Model_init 0 = .ok (.aload_n 0, 1) := by decide +kernel
theorem d_Model_init_1 : decode b_Model_init 1 = .ok (.invokespecial 1, 3) := by decide +kernel
theorem d_Model_init_4 : decode b_Model_init 4 = .ok (.aload_n 0, 1) := by decide +kernel
theorem d_Model_init_5 : decode b_Model_init 5 = .ok (.ldc 7, 2) := by decide +kernel
theorem d_Model_init_7 : decode b_Model_init 7 = .ok (.newarray .byte, 2) := by decide +kernel
theorem d_Model_init_9 : decode b_Model_init 9 = .ok (.putfield 8, 3) := by decide +kernel
theorem d_Model_init_12 : decode b_Model_init 12 = .ok (.aload_n 0, 1) := by decide +kernel
theorem d_Model_init_13 : decode b_Model_init 13 = .ok (.iconst 4, 1) := by decide +kernel
theorem d_Model_init_14 : decode b_Model_init 14 = .ok (.newarray .int, 2) := by decide +kernel
theorem d_Model_init_16 : decode b_Model_init 16 = .ok (.putfield 14, 3) := by decide +kernel
theorem d_Model_init_19 : decode b_Model_init 19 = .ok (.aload_n 0, 1) := by decide +kernel
theorem d_Model_init_20 : decode b_Model_init 20 = .ok (.iconst 4, 1) := by decide +kernel
theorem d_Model_init_21 : decode b_Model_init 21 = .ok (.newarray .int, 2) := by decide +kernel
theorem d_Model_init_23 : decode b_Model_init 23 = .ok (.putfield 18, 3) := by decide +kernel
theorem d_Model_init_26 : decode b_Model_init 26 = .ok (.aload_n 0, 1) := by decide +kernel
theorem d_Model_init_27 : decode b_Model_init 27 = .ok (.iconst 4, 1) := by decide +kernel
theorem d_Model_init_28 : decode b_Model_init 28 = .ok (.newarray .int, 2) := by decide +kernel
theorem d_Model_init_30 : decode b_Model_init 30 = .ok (.putfield 21, 3) := by decide +kernel
theorem d_Model_init_33 : decode b_Model_init 33 = .ok (.aload_n 0, 1) := by decide +kernel
theorem d_Model_init_34 : decode b_Model_init 34 = .ok (.bipush 12, 2) := by decide +kernel
theorem d_Model_init_36 : decode b_Model_init 36 = .ok (.newarray .long, 2) := by decide +kernel
theorem d_Model_init_38 : decode b_Model_init 38 = .ok (.putfield 24, 3) := by decide +kernel
theorem d_Model_init_41 : decode b_Model_init 41 = .ok (.aload_n 0, 1) := by decide +kernel
theorem d_Model_init_42 : decode b_Model_init 42 = .ok (.bipush 12, 2) := by decide +kernel
theorem d_Model_init_44 : decode b_Model_init 44 = .ok (.newarray .int, 2) := by decide +kernel
theorem d_Model_init_46 : decode b_Model_init 46 = .ok (.putfield 28, 3) := by decide +kernel
theorem d_Model_init_49 : decode b_Model_init 49 = .ok (.aload_n 0, 1) := by decide +kernel
theorem d_Model_init_50 : decode b_Model_init 50 = .ok (.bipush 12, 2) := by decide +kernel
theorem d_Model_init_52 : decode b_Model_init 52 = .ok (.newarray .int, 2) := by decide +kernel
theorem d_Model_init_54 : decode b_Model_init 54 = .ok (.putfield 31, 3) := by decide +kernel
theorem d_Model_init_57 : decode b_Model_init 57 = .ok (.aload_n 0, 1) := by decide +kernel
theorem d_Model_init_58 : decode b_Model_init 58 = .ok (.bipush 12, 2) := by decide +kernel
theorem d_Model_init_60 : decode b_Model_init 60 = .ok (.newarray .boolean, 2) := by decide +kernel
theorem d_Model_init_62 : decode b_Model_init 62 = .ok (.putfield 34, 3) := by decide +kernel
theorem d_Model_init_65 : decode b_Model_init 65 = .ok (.aload_n 0, 1) := by decide +kernel
theorem d_Model_init_66 : decode b_Model_init 66 = .ok (.bipush 12, 2) := by decide +kernel
theorem d_Model_init_68 : decode b_Model_init 68 = .ok (.newarray .int, 2) := by decide +kernel
theorem d_Model_init_70 : decode b_Model_init 70 = .ok (.putfield 38, 3) := by decide +kernel
theorem d_Model_init_73 : decode b_Model_init 73 = .ok (.aload_n 0, 1) := by decide +kernel
theorem d_Model_init_74 : decode b_Model_init 74 = .ok (.sipush 700, 3) := by decide +kernel
theorem d_Model_init_77 : decode b_Model_init 77 = .ok (.newarray .int, 2) := by decide +kernel
theorem d_Model_init_79 : decode b_Model_init 79 = .ok (.putfield 41, 3) := by decide +kernel
theorem d_Model_init_82 : decode b_Model_init 82 = .ok (.aload_n 0, 1) := by decide +kernel
theorem d_Model_init_83 : decode b_Model_init 83 = .ok (.ldc 44, 2) := by decide +kernel
theorem d_Model_init_85 : decode b_Model_init 85 = .ok (.newarray .byte, 2) := by decide +kernel
theorem d_Model_init_87 : decode b_Model_init 87 = .ok (.putfield 45, 3) := by decide +kernel
theorem d_Model_init_90 : decode b_Model_init 90 = .ok (.aload_n 0, 1) := by decide +kernel
theorem d_Model_init_91 : decode b_Model_init 91 = .ok (.iload_n 1, 1) := by decide +kernel
theorem d_Model_init_92 : decode b_Model_init 92 = .ok (.bipush 100, 2) := by decide +kernel
theorem d_Model_init_94 : decode b_Model_init 94 = .ok (.if_icmp .lt 14, 3) := by decide +kernel
theorem d_Model_init_97 : decode b_Model_init 97 = .ok (.iload_n 1, 1) := by decide +kernel
theorem d_Model_init_98 : decode b_Model_init 98 = .ok (.sipush 600, 3) := by decide +kernel
theorem d_Model_init_101 : decode b_Model_init 101 = .ok (.if_icmp .gt 7, 3) := by decide +kernel
theorem d_Model_init_104 : decode b_Model_init 104 = .ok (.iload_n 1, 1) := by decide +kernel
theorem d_Model_init_105 : decode b_Model_init 105 = .ok (.goto 6, 3) := by decide +kernel
theorem d_Model_init_108 : decode b_Model_init 108 = .ok (.sipush 200, 3) := by decide +kernel
theorem d_Model_init_111 : decode b_Model_init 111 = .ok (.putfield 48, 3) := by decide +kernel
theorem d_Model_init_114 : decode b_Model_init 114 = .ok (.aload_n 0, 1) := by decide +kernel
theorem d_Model_init_115 : decode b_Model_init 115 = .ok (.iconst (-1), 1) := by decide +kernel
theorem d_Model_init_116 : decode b_Model_init 116 = .ok (.putfield 52, 3) := by decide +kernel
theorem d_Model_init_119 : decode b_Model_init 119 = .ok (.aload_n 0, 1) := by decide +kernel
theorem d_Model_init_120 : decode b_Model_init 120 = .ok (.iconst (-1), 1) := by decide +kernel
theorem d_Model_init_121 : decode b_Model_init 121 = .ok (.putfield 55, 3) := by decide +kernel
theorem d_Model_init_124 : decode b_Model_init 124 = .ok (.aload_n 0, 1) := by decide +kernel
theorem d_Model_init_125 : decode b_Model_init 125 = .ok (.iconst (-1), 1) := by decide +kernel
theorem d_Model_init_126 : decode b_Model_init 126 = .ok (.putfield 58, 3) := by decide +kernel
theorem d_Model_init_129 : decode b_Model_init 129 = .ok (.return_, 1) := by decide +kernel
set_option maxRecDepth 100000 in
theorem ff_Store_9 : FlF Wall classes R_Store 9 0 0 .int := ⟨_, _, _, t_Store, rfl, by decide, in_Store, inW 33 rfl rfl, t_Store_ok, n_Store, rfl, rfl, by decide +kernel⟩
set_option maxRecDepth 100000 in
theorem ff_Store_15 : FlF Wall classes R_Store 15 0 1 (.array .long) := ⟨_, _, _, t_Store, rfl, by decide, in_Store, inW 35 rfl rfl, t_Store_ok, n_Store, rfl, rfl, by decide +kernel⟩
set_option maxRecDepth 100000 in
theorem oi_Store_3 : Cond.methodLink R_Store 3 objectInit ∈ Wall := inW 32 rfl rfl
set_option maxRecDepth 100000 in
theorem ff_Sums_9 : FlF Wall classes R_Sums 9 1 0 (.array .int) := ⟨_, _, _, t_Sums, rfl, by decide, in_Sums, inW 49 rfl rfl, t_Sums_ok, n_Sums, rfl, rfl, by decide +kernel⟩
set_option maxRecDepth 100000 in
theorem kc_Sums_15 : Cond.constant R_Sums 15 (-306674912) ∈ Wall := inW 48 rfl rfl
set_option maxRecDepth 100000 in
theorem oi_Sums_3 : Cond.methodLink R_Sums 3 objectInit ∈ Wall := inW 47 rfl rfl
set_option maxRecDepth 100000 in
theorem ff_Plan_11 : FlF Wall classes R_Plan 11 2 1 (.array .int) := ⟨_, _, _, t_Plan, rfl, by decide, in_Plan, inW 65 rfl rfl, t_Plan_ok, n_Plan, rfl, rfl, by decide +kernel⟩
set_option maxRecDepth 100000 in
theorem ff_Plan_15 : FlF Wall classes R_Plan 15 2 2 (.array .int) := ⟨_, _, _, t_Plan, rfl, by decide, in_Plan, inW 67 rfl rfl, t_Plan_ok, n_Plan, rfl, rfl, by decide +kernel⟩
set_option maxRecDepth 100000 in
theorem ff_Plan_18 : FlF Wall classes R_Plan 18 2 3 (.array .int) := ⟨_, _, _, t_Plan, rfl, by decide, in_Plan, inW 69 rfl rfl, t_Plan_ok, n_Plan, rfl, rfl, by decide +kernel⟩
set_option maxRecDepth 100000 in
theorem ff_Plan_21 : FlF Wall classes R_Plan 21 2 5 (.array .long) := ⟨_, _, _, t_Plan, rfl, by decide, in_Plan, inW 73 rfl rfl, t_Plan_ok, n_Plan, rfl, rfl, by decide +kernel⟩
set_option maxRecDepth 100000 in
theorem ff_Plan_25 : FlF Wall classes R_Plan 25 2 6 (.array .int) := ⟨_, _, _, t_Plan, rfl, by decide, in_Plan, inW 75 rfl rfl, t_Plan_ok, n_Plan, rfl, rfl, by decide +kernel⟩
set_option maxRecDepth 100000 in
theorem ff_Plan_28 : FlF Wall classes R_Plan 28 2 7 (.array .int) := ⟨_, _, _, t_Plan, rfl, by decide, in_Plan, inW 78 rfl rfl, t_Plan_ok, n_Plan, rfl, rfl, by decide +kernel⟩
set_option maxRecDepth 100000 in
theorem ff_Plan_31 : FlF Wall classes R_Plan 31 2 8 (.array .boolean) := ⟨_, _, _, t_Plan, rfl, by decide, in_Plan, inW 79 rfl rfl, t_Plan_ok, n_Plan, rfl, rfl, by decide +kernel⟩
set_option maxRecDepth 100000 in
theorem ff_Plan_35 : FlF Wall classes R_Plan 35 2 0 .int := ⟨_, _, _, t_Plan, rfl, by decide, in_Plan, inW 63 rfl rfl, t_Plan_ok, n_Plan, rfl, rfl, by decide +kernel⟩
set_option maxRecDepth 100000 in
theorem oi_Plan_3 : Cond.methodLink R_Plan 3 objectInit ∈ Wall := inW 62 rfl rfl
set_option maxRecDepth 100000 in
theorem ff_Volume_9 : FlF Wall classes R_Volume 9 3 5 (.array .int) := ⟨_, _, _, t_Volume, rfl, by decide, in_Volume, inW 131 rfl rfl, t_Volume_ok, n_Volume, rfl, rfl, by decide +kernel⟩
set_option maxRecDepth 100000 in
theorem ff_Volume_15 : FlF Wall classes R_Volume 15 3 6 (.array .int) := ⟨_, _, _, t_Volume, rfl, by decide, in_Volume, inW 133 rfl rfl, t_Volume_ok, n_Volume, rfl, rfl, by decide +kernel⟩
set_option maxRecDepth 100000 in
theorem ff_Volume_18 : FlF Wall classes R_Volume 18 3 7 (.array .int) := ⟨_, _, _, t_Volume, rfl, by decide, in_Volume, inW 135 rfl rfl, t_Volume_ok, n_Volume, rfl, rfl, by decide +kernel⟩
set_option maxRecDepth 100000 in
theorem ff_Volume_21 : FlF Wall classes R_Volume 21 3 4 (.array .int) := ⟨_, _, _, t_Volume, rfl, by decide, in_Volume, inW 130 rfl rfl, t_Volume_ok, n_Volume, rfl, rfl, by decide +kernel⟩
set_option maxRecDepth 100000 in
theorem oi_Volume_3 : Cond.methodLink R_Volume 3 objectInit ∈ Wall := inW 121 rfl rfl
set_option maxRecDepth 100000 in
theorem ff_Writer_9 : FlF Wall classes R_Writer 9 4 0 (.object "BootMaker$Store") := ⟨_, _, _, t_Writer, rfl, by decide, in_Writer, inW 158 rfl rfl, t_Writer_ok, n_Writer, rfl, rfl, by decide +kernel⟩
set_option maxRecDepth 100000 in
theorem ff_Writer_15 : FlF Wall classes R_Writer 15 4 1 .int := ⟨_, _, _, t_Writer, rfl, by decide, in_Writer, inW 159 rfl rfl, t_Writer_ok, n_Writer, rfl, rfl, by decide +kernel⟩
set_option maxRecDepth 100000 in
theorem ff_Writer_19 : FlF Wall classes R_Writer 19 4 2 (.object "BootMaker$Plan") := ⟨_, _, _, t_Writer, rfl, by decide, in_Writer, inW 160 rfl rfl, t_Writer_ok, n_Writer, rfl, rfl, by decide +kernel⟩
set_option maxRecDepth 100000 in
theorem ff_Writer_23 : FlF Wall classes R_Writer 23 4 3 (.object "BootMaker$Sums") := ⟨_, _, _, t_Writer, rfl, by decide, in_Writer, inW 161 rfl rfl, t_Writer_ok, n_Writer, rfl, rfl, by decide +kernel⟩
set_option maxRecDepth 100000 in
theorem ff_Writer_32 : FlF Wall classes R_Writer 32 4 4 (.object "BootMaker$Volume") := ⟨_, _, _, t_Writer, rfl, by decide, in_Writer, inW 162 rfl rfl, t_Writer_ok, n_Writer, rfl, rfl, by decide +kernel⟩
set_option maxRecDepth 100000 in
theorem oi_Writer_3 : Cond.methodLink R_Writer 3 objectInit ∈ Wall := inW 115 rfl rfl
set_option maxRecDepth 100000 in
theorem fn_Writer_27 : FlN Wall classes R_Writer 27 3 9 [.int 0, .int 0, .int 0, .int 0, .null, .null, .null, .null, .int 0] := ⟨_, _, t_Volume, rfl, in_Volume, t_Volume_ok, inW 116 rfl rfl, inW 117 rfl rfl, in_i_Volume, fun j hj => match j, hj with | 0, _ => rfl | 1, _ => rfl | 2, _ => rfl | 3, _ => rfl | 4, _ => rfl | 5, _ => rfl | 6, _ => rfl | 7, _ => rfl | 8, _ => rfl | (q + 9), h => absurd h (by omega)⟩
set_option maxRecDepth 100000 in
theorem fi_Writer_29 : FcI Wall R_Writer 29 y_Volume_init b_Volume_init 2 ws_Volume_init 1 := ⟨⟨rfl, cw_Volume_init, inW 118 rfl rfl, in_i_Volume, by decide +kernel⟩, inW 119 rfl rfl, rfl⟩
set_option maxRecDepth 100000 in
theorem kc_Firmware_11 : Cond.constant R_Firmware 11 65536 ∈ Wall := inW 181 rfl rfl
set_option maxRecDepth 100000 in
theorem ff_Firmware_15 : FlF Wall classes R_Firmware 15 5 0 (.object "BootMaker$Store") := ⟨_, _, _, t_Firmware, rfl, by decide, in_Firmware, inW 183 rfl rfl, t_Firmware_ok, n_Firmware, rfl, rfl, by decide +kernel⟩
set_option maxRecDepth 100000 in
theorem ff_Firmware_21 : FlF Wall classes R_Firmware 21 5 4 (.array .int) := ⟨_, _, _, t_Firmware, rfl, by decide, in_Firmware, inW 188 rfl rfl, t_Firmware_ok, n_Firmware, rfl, rfl, by decide +kernel⟩
set_option maxRecDepth 100000 in
theorem ff_Firmware_35 : FlF Wall classes R_Firmware 35 5 1 (.object "BootMaker$Store") := ⟨_, _, _, t_Firmware, rfl, by decide, in_Firmware, inW 185 rfl rfl, t_Firmware_ok, n_Firmware, rfl, rfl, by decide +kernel⟩
set_option maxRecDepth 100000 in
theorem ff_Firmware_38 : FlF Wall classes R_Firmware 38 5 2 .int := ⟨_, _, _, t_Firmware, rfl, by decide, in_Firmware, inW 186 rfl rfl, t_Firmware_ok, n_Firmware, rfl, rfl, by decide +kernel⟩
set_option maxRecDepth 100000 in
theorem ff_Firmware_41 : FlF Wall classes R_Firmware 41 5 3 (.object "BootMaker$Sums") := ⟨_, _, _, t_Firmware, rfl, by decide, in_Firmware, inW 187 rfl rfl, t_Firmware_ok, n_Firmware, rfl, rfl, by decide +kernel⟩
set_option maxRecDepth 100000 in
theorem ff_Firmware_45 : FlF Wall classes R_Firmware 45 5 5 (.array .int) := ⟨_, _, _, t_Firmware, rfl, by decide, in_Firmware, inW 189 rfl rfl, t_Firmware_ok, n_Firmware, rfl, rfl, by decide +kernel⟩
set_option maxRecDepth 100000 in
theorem oi_Firmware_3 : Cond.methodLink R_Firmware 3 objectInit ∈ Wall := inW 179 rfl rfl
set_option maxRecDepth 100000 in
theorem fn_Firmware_9 : FlN Wall classes R_Firmware 9 0 2 [.int 0, .null] := ⟨_, _, t_Store, rfl, in_Store, t_Store_ok, inW 180 rfl rfl, inW 28 rfl rfl, in_i_Store, fun j hj => match j, hj with | 0, _ => rfl | 1, _ => rfl | (q + 2), h => absurd h (by omega)⟩
set_option maxRecDepth 100000 in
theorem fi_Firmware_12 : FcI Wall R_Firmware 12 y_Store_init b_Store_init 2 ws_Store_init 1 := ⟨⟨rfl, cw_Store_init, inW 182 rfl rfl, in_i_Store, by decide +kernel⟩, inW 30 rfl rfl, rfl⟩
set_option maxRecDepth 100000 in
theorem ff_BootMaker_14 : FlF Wall classes R_BootMaker 14 6 0 (.object "BootMaker$Store") := ⟨_, _, _, t_BootMaker, rfl, by decide, in_BootMaker, inW 224 rfl rfl, t_BootMaker_ok, n_BootMaker, rfl, rfl, by decide +kernel⟩
set_option maxRecDepth 100000 in
theorem ff_BootMaker_21 : FlF Wall classes R_BootMaker 21 6 1 (.object "BootMaker$Sums") := ⟨_, _, _, t_BootMaker, rfl, by decide, in_BootMaker, inW 225 rfl rfl, t_BootMaker_ok, n_BootMaker, rfl, rfl, by decide +kernel⟩
set_option maxRecDepth 100000 in
theorem ff_BootMaker_28 : FlF Wall classes R_BootMaker 28 6 2 (.object "BootMaker$Plan") := ⟨_, _, _, t_BootMaker, rfl, by decide, in_BootMaker, inW 226 rfl rfl, t_BootMaker_ok, n_BootMaker, rfl, rfl, by decide +kernel⟩
set_option maxRecDepth 100000 in
theorem ff_BootMaker_37 : FlF Wall classes R_BootMaker 37 6 3 (.object "BootMaker$Writer") := ⟨_, _, _, t_BootMaker, rfl, by decide, in_BootMaker, inW 227 rfl rfl, t_BootMaker_ok, n_BootMaker, rfl, rfl, by decide +kernel⟩
set_option maxRecDepth 100000 in
theorem ff_BootMaker_46 : FlF Wall classes R_BootMaker 46 6 4 (.object "BootMaker$Firmware") := ⟨_, _, _, t_BootMaker, rfl, by decide, in_BootMaker, inW 228 rfl rfl, t_BootMaker_ok, n_BootMaker, rfl, rfl, by decide +kernel⟩
set_option maxRecDepth 100000 in
theorem oi_BootMaker_1 : Cond.methodLink R_BootMaker 1 objectInit ∈ Wall := inW 24 rfl rfl
set_option maxRecDepth 100000 in
theorem fn_BootMaker_9 : FlN Wall classes R_BootMaker 9 0 2 [.int 0, .null] := ⟨_, _, t_Store, rfl, in_Store, t_Store_ok, inW 27 rfl rfl, inW 28 rfl rfl, in_i_Store, fun j hj => match j, hj with | 0, _ => rfl | 1, _ => rfl | (q + 2), h => absurd h (by omega)⟩
set_option maxRecDepth 100000 in
theorem fi_BootMaker_11 : FcI Wall R_BootMaker 11 y_Store_init b_Store_init 2 ws_Store_init 1 := ⟨⟨rfl, cw_Store_init, inW 29 rfl rfl, in_i_Store, by decide +kernel⟩, inW 30 rfl rfl, rfl⟩
set_option maxRecDepth 100000 in
theorem fn_BootMaker_18 : FlN Wall classes R_BootMaker 18 1 2 [.null, .int 0] := ⟨_, _, t_Sums, rfl, in_Sums, t_Sums_ok, inW 42 rfl rfl, inW 43 rfl rfl, in_i_Sums, fun j hj => match j, hj with | 0, _ => rfl | 1, _ => rfl | (q + 2), h => absurd h (by omega)⟩
set_option maxRecDepth 100000 in
theorem fi_BootMaker_20 : FcI Wall R_BootMaker 20 y_Sums_init b_Sums_init 4 ws_Sums_init 0 := ⟨⟨rfl, cw_Sums_init, inW 44 rfl rfl, in_i_Sums, by decide +kernel⟩, inW 45 rfl rfl, rfl⟩
set_option maxRecDepth 100000 in
theorem fn_BootMaker_25 : FlN Wall classes R_BootMaker 25 2 11 [.int 0, .null, .null, .null, .int 0, .null, .null, .null, .null, .int 0, .int 0] := ⟨_, _, t_Plan, rfl, in_Plan, t_Plan_ok, inW 57 rfl rfl, inW 58 rfl rfl, in_i_Plan, fun j hj => match j, hj with | 0, _ => rfl | 1, _ => rfl | 2, _ => rfl | 3, _ => rfl | 4, _ => rfl | 5, _ => rfl | 6, _ => rfl | 7, _ => rfl | 8, _ => rfl | 9, _ => rfl | 10, _ => rfl | (q + 11), h => absurd h (by omega)⟩
set_option maxRecDepth 100000 in
theorem fi_BootMaker_27 : FcI Wall R_BootMaker 27 y_Plan_init b_Plan_init 2 ws_Plan_init 1 := ⟨⟨rfl, cw_Plan_init, inW 59 rfl rfl, in_i_Plan, by decide +kernel⟩, inW 60 rfl rfl, rfl⟩
set_option maxRecDepth 100000 in
theorem fn_BootMaker_32 : FlN Wall classes R_BootMaker 32 4 5 [.null, .int 0, .null, .null, .null] := ⟨_, _, t_Writer, rfl, in_Writer, t_Writer_ok, inW 110 rfl rfl, inW 111 rfl rfl, in_i_Writer, fun j hj => match j, hj with | 0, _ => rfl | 1, _ => rfl | 2, _ => rfl | 3, _ => rfl | 4, _ => rfl | (q + 5), h => absurd h (by omega)⟩
set_option maxRecDepth 100000 in
theorem fi_BootMaker_34 : FcI Wall R_BootMaker 34 y_Writer_init b_Writer_init 5 ws_Writer_init 4 := ⟨⟨rfl, cw_Writer_init, inW 112 rfl rfl, in_i_Writer, by decide +kernel⟩, inW 113 rfl rfl, rfl⟩
set_option maxRecDepth 100000 in
theorem fn_BootMaker_41 : FlN Wall classes R_BootMaker 41 5 13 [.null, .null, .int 0, .null, .null, .null, .int 0, .int 0, .int 0, .int 0, .int 0, .int 0, .int 0] := ⟨_, _, t_Firmware, rfl, in_Firmware, t_Firmware_ok, inW 174 rfl rfl, inW 175 rfl rfl, in_i_Firmware, fun j hj => match j, hj with | 0, _ => rfl | 1, _ => rfl | 2, _ => rfl | 3, _ => rfl | 4, _ => rfl | 5, _ => rfl | 6, _ => rfl | 7, _ => rfl | 8, _ => rfl | 9, _ => rfl | 10, _ => rfl | 11, _ => rfl | 12, _ => rfl | (q + 13), h => absurd h (by omega)⟩
set_option maxRecDepth 100000 in
theorem fi_BootMaker_43 : FcI Wall R_BootMaker 43 y_Firmware_init b_Firmware_init 4 ws_Firmware_init 3 := ⟨⟨rfl, cw_Firmware_init, inW 176 rfl rfl, in_i_Firmware, by decide +kernel⟩, inW 177 rfl rfl, rfl⟩
set_option maxRecDepth 100000 in
theorem kc_Model_7 : Cond.constant R_Model 7 307200 ∈ Wall := inW 780 rfl rfl
set_option maxRecDepth 100000 in
theorem ff_Model_8 : FlF Wall classes R_Model 8 7 2 (.array .byte) := ⟨_, _, _, t_Model, rfl, by decide, in_Model, inW 784 rfl rfl, t_Model_ok, n_Model, rfl, rfl, by decide +kernel⟩
set_option maxRecDepth 100000 in
theorem ff_Model_14 : FlF Wall classes R_Model 14 7 4 (.array .int) := ⟨_, _, _, t_Model, rfl, by decide, in_Model, inW 786 rfl rfl, t_Model_ok, n_Model, rfl, rfl, by decide +kernel⟩
set_option maxRecDepth 100000 in
theorem ff_Model_18 : FlF Wall classes R_Model 18 7 5 (.array .int) := ⟨_, _, _, t_Model, rfl, by decide, in_Model, inW 787 rfl rfl, t_Model_ok, n_Model, rfl, rfl, by decide +kernel⟩
set_option maxRecDepth 100000 in
theorem ff_Model_21 : FlF Wall classes R_Model 21 7 6 (.array .int) := ⟨_, _, _, t_Model, rfl, by decide, in_Model, inW 788 rfl rfl, t_Model_ok, n_Model, rfl, rfl, by decide +kernel⟩
set_option maxRecDepth 100000 in
theorem ff_Model_24 : FlF Wall classes R_Model 24 7 8 (.array .long) := ⟨_, _, _, t_Model, rfl, by decide, in_Model, inW 790 rfl rfl, t_Model_ok, n_Model, rfl, rfl, by decide +kernel⟩
set_option maxRecDepth 100000 in
theorem ff_Model_28 : FlF Wall classes R_Model 28 7 9 (.array .int) := ⟨_, _, _, t_Model, rfl, by decide, in_Model, inW 791 rfl rfl, t_Model_ok, n_Model, rfl, rfl, by decide +kernel⟩
set_option maxRecDepth 100000 in
theorem ff_Model_31 : FlF Wall classes R_Model 31 7 10 (.array .int) := ⟨_, _, _, t_Model, rfl, by decide, in_Model, inW 792 rfl rfl, t_Model_ok, n_Model, rfl, rfl, by decide +kernel⟩
set_option maxRecDepth 100000 in
theorem ff_Model_34 : FlF Wall classes R_Model 34 7 11 (.array .boolean) := ⟨_, _, _, t_Model, rfl, by decide, in_Model, inW 793 rfl rfl, t_Model_ok, n_Model, rfl, rfl, by decide +kernel⟩
set_option maxRecDepth 100000 in
theorem ff_Model_38 : FlF Wall classes R_Model 38 7 16 (.array .int) := ⟨_, _, _, t_Model, rfl, by decide, in_Model, inW 798 rfl rfl, t_Model_ok, n_Model, rfl, rfl, by decide +kernel⟩
set_option maxRecDepth 100000 in
theorem ff_Model_41 : FlF Wall classes R_Model 41 7 17 (.array .int) := ⟨_, _, _, t_Model, rfl, by decide, in_Model, inW 799 rfl rfl, t_Model_ok, n_Model, rfl, rfl, by decide +kernel⟩
set_option maxRecDepth 100000 in
theorem ff_Model_45 : FlF Wall classes R_Model 45 7 23 (.array .byte) := ⟨_, _, _, t_Model, rfl, by decide, in_Model, inW 805 rfl rfl, t_Model_ok, n_Model, rfl, rfl, by decide +kernel⟩
set_option maxRecDepth 100000 in
theorem ff_Model_48 : FlF Wall classes R_Model 48 7 1 .int := ⟨_, _, _, t_Model, rfl, by decide, in_Model, inW 783 rfl rfl, t_Model_ok, n_Model, rfl, rfl, by decide +kernel⟩
set_option maxRecDepth 100000 in
theorem oi_Model_1 : Cond.methodLink R_Model 1 objectInit ∈ Wall := inW 779 rfl rfl
