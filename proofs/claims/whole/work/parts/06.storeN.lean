abbrev b_Store_has : ByteArray := prog_4_method_2_code
def y_Store_has : MethodName := ⟨"BootMaker$Store", "has", "(I)Z"⟩
def ws_Store_has : List Cond := Cond.code y_Store_has b_Store_has 2 (some .boolean) :: Wall
set_option maxRecDepth 100000 in
theorem cw_Store_has : Cond.code y_Store_has b_Store_has 2 (some .boolean) ∈ Wall := inW 547 rfl rfl
abbrev b_Store_get : ByteArray := prog_4_method_3_code
def y_Store_get : MethodName := ⟨"BootMaker$Store", "get", "(I)I"⟩
def ws_Store_get : List Cond := Cond.code y_Store_get b_Store_get 2 (some .int) :: Wall
set_option maxRecDepth 100000 in
theorem cw_Store_get : Cond.code y_Store_get b_Store_get 2 (some .int) ∈ Wall := inW 494 rfl rfl
abbrev b_Store_put : ByteArray := prog_4_method_4_code
def y_Store_put : MethodName := ⟨"BootMaker$Store", "put", "(II)V"⟩
def ws_Store_put : List Cond := Cond.code y_Store_put b_Store_put 4 (none) :: Wall
set_option maxRecDepth 100000 in
theorem cw_Store_put : Cond.code y_Store_put b_Store_put 4 (none) ∈ Wall := inW 366 rfl rfl
abbrev b_Store_getLow : ByteArray := prog_4_method_6_code
def y_Store_getLow : MethodName := ⟨"BootMaker$Store", "getLow", "(II)J"⟩
def ws_Store_getLow : List Cond := Cond.code y_Store_getLow b_Store_getLow 6 (some .long) :: Wall
set_option maxRecDepth 100000 in
theorem cw_Store_getLow : Cond.code y_Store_getLow b_Store_getLow 6 (some .long) ∈ Wall := inW 660 rfl rfl
abbrev b_Store_putLow : ByteArray := prog_4_method_7_code
def y_Store_putLow : MethodName := ⟨"BootMaker$Store", "putLow", "(IIJ)V"⟩
def ws_Store_putLow : List Cond := Cond.code y_Store_putLow b_Store_putLow 6 (none) :: Wall
set_option maxRecDepth 100000 in
theorem cw_Store_putLow : Cond.code y_Store_putLow b_Store_putLow 6 (none) ∈ Wall := inW 376 rfl rfl
abbrev b_Store_markBootSector : ByteArray := prog_4_method_12_code
def y_Store_markBootSector : MethodName := ⟨"BootMaker$Store", "markBootSector", "(I)V"⟩
def ws_Store_markBootSector : List Cond := Cond.code y_Store_markBootSector b_Store_markBootSector 2 (none) :: Wall
set_option maxRecDepth 100000 in
theorem cw_Store_markBootSector : Cond.code y_Store_markBootSector b_Store_markBootSector 2 (none) ∈ Wall := inW 462 rfl rfl
abbrev b_Store_isBootSector : ByteArray := prog_4_method_13_code
def y_Store_isBootSector : MethodName := ⟨"BootMaker$Store", "isBootSector", "(I)Z"⟩
def ws_Store_isBootSector : List Cond := Cond.code y_Store_isBootSector b_Store_isBootSector 2 (some .boolean) :: Wall
set_option maxRecDepth 100000 in
theorem cw_Store_isBootSector : Cond.code y_Store_isBootSector b_Store_isBootSector 2 (some .boolean) ∈ Wall := inW 656 rfl rfl
abbrev b_Store_clear : ByteArray := prog_4_method_5_code
def y_Store_clear : MethodName := ⟨"BootMaker$Store", "clear", "()V"⟩
def ws_Store_clear : List Cond := Cond.code y_Store_clear b_Store_clear 1 (none) :: Wall
set_option maxRecDepth 100000 in
theorem cw_Store_clear : Cond.code y_Store_clear b_Store_clear 1 (none) ∈ Wall := inW 355 rfl rfl
abbrev b_Store_putRow : ByteArray := prog_4_method_8_code
def y_Store_putRow : MethodName := ⟨"BootMaker$Store", "putRow", "(I[I)V"⟩
def ws_Store_putRow : List Cond := Cond.code y_Store_putRow b_Store_putRow 4 (none) :: Wall
set_option maxRecDepth 100000 in
theorem cw_Store_putRow : Cond.code y_Store_putRow b_Store_putRow 4 (none) ∈ Wall := inW 458 rfl rfl
abbrev b_Store_holdsRow : ByteArray := prog_4_method_9_code
def y_Store_holdsRow : MethodName := ⟨"BootMaker$Store", "holdsRow", "(I[I)Z"⟩
def ws_Store_holdsRow : List Cond := Cond.code y_Store_holdsRow b_Store_holdsRow 4 (some .boolean) :: Wall
set_option maxRecDepth 100000 in
theorem cw_Store_holdsRow : Cond.code y_Store_holdsRow b_Store_holdsRow 4 (some .boolean) ∈ Wall := inW 675 rfl rfl
abbrev b_Store_putText : ByteArray := prog_4_method_10_code
def y_Store_putText : MethodName := ⟨"BootMaker$Store", "putText", "(ILjava/lang/String;)V"⟩
def ws_Store_putText : List Cond := Cond.code y_Store_putText b_Store_putText 4 (none) :: Wall
set_option maxRecDepth 100000 in
theorem cw_Store_putText : Cond.code y_Store_putText b_Store_putText 4 (none) ∈ Wall := inW 509 rfl rfl
abbrev b_Store_holdsText : ByteArray := prog_4_method_11_code
def y_Store_holdsText : MethodName := ⟨"BootMaker$Store", "holdsText", "(ILjava/lang/String;)Z"⟩
def ws_Store_holdsText : List Cond := Cond.code y_Store_holdsText b_Store_holdsText 4 (some .boolean) :: Wall
set_option maxRecDepth 100000 in
theorem cw_Store_holdsText : Cond.code y_Store_holdsText b_Store_holdsText 4 (some .boolean) ∈ Wall := inW 712 rfl rfl
theorem d_Store_has_0 : decode b_Store_has 0 = .ok (.iload_n 1, 1) := by decide +kernel
theorem d_Store_has_1 : decode b_Store_has 1 = .ok (.ifCond .lt 15, 3) := by decide +kernel
theorem d_Store_has_4 : decode b_Store_has 4 = .ok (.iload_n 1, 1) := by decide +kernel
theorem d_Store_has_5 : decode b_Store_has 5 = .ok (.aload_n 0, 1) := by decide +kernel
theorem d_Store_has_6 : decode b_Store_has 6 = .ok (.getfield 9, 3) := by decide +kernel
theorem d_Store_has_9 : decode b_Store_has 9 = .ok (.if_icmp .ge 7, 3) := by decide +kernel
theorem d_Store_has_12 : decode b_Store_has 12 = .ok (.iconst 1, 1) := by decide +kernel
theorem d_Store_has_13 : decode b_Store_has 13 = .ok (.goto 4, 3) := by decide +kernel
theorem d_Store_has_16 : decode b_Store_has 16 = .ok (.iconst 0, 1) := by decide +kernel
theorem d_Store_has_17 : decode b_Store_has 17 = .ok (.ireturn, 1) := by decide +kernel
theorem d_Store_get_0 : decode b_Store_get 0 = .ok (.iload_n 1, 1) := by decide +kernel
theorem d_Store_get_1 : decode b_Store_get 1 = .ok (.ifCond .lt 34, 3) := by decide +kernel
theorem d_Store_get_4 : decode b_Store_get 4 = .ok (.iload_n 1, 1) := by decide +kernel
theorem d_Store_get_5 : decode b_Store_get 5 = .ok (.aload_n 0, 1) := by decide +kernel
theorem d_Store_get_6 : decode b_Store_get 6 = .ok (.getfield 9, 3) := by decide +kernel
theorem d_Store_get_9 : decode b_Store_get 9 = .ok (.if_icmp .ge 26, 3) := by decide +kernel
theorem d_Store_get_12 : decode b_Store_get 12 = .ok (.aload_n 0, 1) := by decide +kernel
theorem d_Store_get_13 : decode b_Store_get 13 = .ok (.getfield 15, 3) := by decide +kernel
theorem d_Store_get_16 : decode b_Store_get 16 = .ok (.iload_n 1, 1) := by decide +kernel
theorem d_Store_get_17 : decode b_Store_get 17 = .ok (.iconst 3, 1) := by decide +kernel
theorem d_Store_get_18 : decode b_Store_get 18 = .ok (.ishr, 1) := by decide +kernel
theorem d_Store_get_19 : decode b_Store_get 19 = .ok (.laload, 1) := by decide +kernel
theorem d_Store_get_20 : decode b_Store_get 20 = .ok (.iload_n 1, 1) := by decide +kernel
theorem d_Store_get_21 : decode b_Store_get 21 = .ok (.bipush 7, 2) := by decide +kernel
theorem d_Store_get_23 : decode b_Store_get 23 = .ok (.iand, 1) := by decide +kernel
theorem d_Store_get_24 : decode b_Store_get 24 = .ok (.iconst 3, 1) := by decide +kernel
theorem d_Store_get_25 : decode b_Store_get 25 = .ok (.ishl, 1) := by decide +kernel
theorem d_Store_get_26 : decode b_Store_get 26 = .ok (.lushr, 1) := by decide +kernel
theorem d_Store_get_27 : decode b_Store_get 27 = .ok (.l2i, 1) := by decide +kernel
theorem d_Store_get_28 : decode b_Store_get 28 = .ok (.sipush 255, 3) := by decide +kernel
theorem d_Store_get_31 : decode b_Store_get 31 = .ok (.iand, 1) := by decide +kernel
theorem d_Store_get_32 : decode b_Store_get 32 = .ok (.goto 4, 3) := by decide +kernel
theorem d_Store_get_35 : decode b_Store_get 35 = .ok (.iconst 0, 1) := by decide +kernel
theorem d_Store_get_36 : decode b_Store_get 36 = .ok (.ireturn, 1) := by decide +kernel
theorem d_Store_put_0 : decode b_Store_put 0 = .ok (.iload_n 1, 1) := by decide +kernel
theorem d_Store_put_1 : decode b_Store_put 1 = .ok (.ifCond .lt 53, 3) := by decide +kernel
theorem d_Store_put_4 : decode b_Store_put 4 = .ok (.iload_n 1, 1) := by decide +kernel
theorem d_Store_put_5 : decode b_Store_put 5 = .ok (.aload_n 0, 1) := by decide +kernel
theorem d_Store_put_6 : decode b_Store_put 6 = .ok (.getfield 9, 3) := by decide +kernel
theorem d_Store_put_9 : decode b_Store_put 9 = .ok (.if_icmp .ge 45, 3) := by decide +kernel
theorem d_Store_put_12 : decode b_Store_put 12 = .ok (.iload_n 1, 1) := by decide +kernel
theorem d_Store_put_13 : decode b_Store_put 13 = .ok (.bipush 7, 2) := by decide +kernel
theorem d_Store_put_15 : decode b_Store_put 15 = .ok (.iand, 1) := by decide +kernel
theorem d_Store_put_16 : decode b_Store_put 16 = .ok (.iconst 3, 1) := by decide +kernel
theorem d_Store_put_17 : decode b_Store_put 17 = .ok (.ishl, 1) := by decide +kernel
theorem d_Store_put_18 : decode b_Store_put 18 = .ok (.istore_n 3, 1) := by decide +kernel
theorem d_Store_put_19 : decode b_Store_put 19 = .ok (.aload_n 0, 1) := by decide +kernel
theorem d_Store_put_20 : decode b_Store_put 20 = .ok (.getfield 15, 3) := by decide +kernel
theorem d_Store_put_23 : decode b_Store_put 23 = .ok (.iload_n 1, 1) := by decide +kernel
theorem d_Store_put_24 : decode b_Store_put 24 = .ok (.iconst 3, 1) := by decide +kernel
theorem d_Store_put_25 : decode b_Store_put 25 = .ok (.ishr, 1) := by decide +kernel
theorem d_Store_put_26 : decode b_Store_put 26 = .ok (.aload_n 0, 1) := by decide +kernel
theorem d_Store_put_27 : decode b_Store_put 27 = .ok (.getfield 15, 3) := by decide +kernel
theorem d_Store_put_30 : decode b_Store_put 30 = .ok (.iload_n 1, 1) := by decide +kernel
theorem d_Store_put_31 : decode b_Store_put 31 = .ok (.iconst 3, 1) := by decide +kernel
theorem d_Store_put_32 : decode b_Store_put 32 = .ok (.ishr, 1) := by decide +kernel
theorem d_Store_put_33 : decode b_Store_put 33 = .ok (.laload, 1) := by decide +kernel
theorem d_Store_put_34 : decode b_Store_put 34 = .ok (.ldc2_w 19, 3) := by decide +kernel
theorem d_Store_put_37 : decode b_Store_put 37 = .ok (.iload_n 3, 1) := by decide +kernel
theorem d_Store_put_38 : decode b_Store_put 38 = .ok (.lshl, 1) := by decide +kernel
theorem d_Store_put_39 : decode b_Store_put 39 = .ok (.ldc2_w 21, 3) := by decide +kernel
theorem d_Store_put_42 : decode b_Store_put 42 = .ok (.lxor, 1) := by decide +kernel
theorem d_Store_put_43 : decode b_Store_put 43 = .ok (.land, 1) := by decide +kernel
theorem d_Store_put_44 : decode b_Store_put 44 = .ok (.iload_n 2, 1) := by decide +kernel
theorem d_Store_put_45 : decode b_Store_put 45 = .ok (.i2l, 1) := by decide +kernel
theorem d_Store_put_46 : decode b_Store_put 46 = .ok (.ldc2_w 19, 3) := by decide +kernel
theorem d_Store_put_49 : decode b_Store_put 49 = .ok (.land, 1) := by decide +kernel
theorem d_Store_put_50 : decode b_Store_put 50 = .ok (.iload_n 3, 1) := by decide +kernel
theorem d_Store_put_51 : decode b_Store_put 51 = .ok (.lshl, 1) := by decide +kernel
theorem d_Store_put_52 : decode b_Store_put 52 = .ok (.lor, 1) := by decide +kernel
theorem d_Store_put_53 : decode b_Store_put 53 = .ok (.lastore, 1) := by decide +kernel
theorem d_Store_put_54 : decode b_Store_put 54 = .ok (.return_, 1) := by decide +kernel
theorem d_Store_getLow_0 : decode b_Store_getLow 0 = .ok (.lconst 0, 1) := by decide +kernel
theorem d_Store_getLow_1 : decode b_Store_getLow 1 = .ok (.lstore_n 3, 1) := by decide +kernel
theorem d_Store_getLow_2 : decode b_Store_getLow 2 = .ok (.iload_n 2, 1) := by decide +kernel
theorem d_Store_getLow_3 : decode b_Store_getLow 3 = .ok (.iconst 1, 1) := by decide +kernel
theorem d_Store_getLow_4 : decode b_Store_getLow 4 = .ok (.isub, 1) := by decide +kernel
theorem d_Store_getLow_5 : decode b_Store_getLow 5 = .ok (.istore 5, 2) := by decide +kernel
theorem d_Store_getLow_7 : decode b_Store_getLow 7 = .ok (.iload 5, 2) := by decide +kernel
theorem d_Store_getLow_9 : decode b_Store_getLow 9 = .ok (.ifCond .lt 24, 3) := by decide +kernel
theorem d_Store_getLow_12 : decode b_Store_getLow 12 = .ok (.lload_n 3, 1) := by decide +kernel
theorem d_Store_getLow_13 : decode b_Store_getLow 13 = .ok (.bipush 8, 2) := by decide +kernel
theorem d_Store_getLow_15 : decode b_Store_getLow 15 = .ok (.lshl, 1) := by decide +kernel
theorem d_Store_getLow_16 : decode b_Store_getLow 16 = .ok (.aload_n 0, 1) := by decide +kernel
theorem d_Store_getLow_17 : decode b_Store_getLow 17 = .ok (.iload_n 1, 1) := by decide +kernel
theorem d_Store_getLow_18 : decode b_Store_getLow 18 = .ok (.iload 5, 2) := by decide +kernel
theorem d_Store_getLow_20 : decode b_Store_getLow 20 = .ok (.iadd, 1) := by decide +kernel
theorem d_Store_getLow_21 : decode b_Store_getLow 21 = .ok (.invokevirtual 29, 3) := by decide +kernel
theorem d_Store_getLow_24 : decode b_Store_getLow 24 = .ok (.i2l, 1) := by decide +kernel
theorem d_Store_getLow_25 : decode b_Store_getLow 25 = .ok (.lor, 1) := by decide +kernel
theorem d_Store_getLow_26 : decode b_Store_getLow 26 = .ok (.lstore_n 3, 1) := by decide +kernel
theorem d_Store_getLow_27 : decode b_Store_getLow 27 = .ok (.iinc 5 (-1), 3) := by decide +kernel
theorem d_Store_getLow_30 : decode b_Store_getLow 30 = .ok (.goto (-23), 3) := by decide +kernel
theorem d_Store_getLow_33 : decode b_Store_getLow 33 = .ok (.lload_n 3, 1) := by decide +kernel
theorem d_Store_getLow_34 : decode b_Store_getLow 34 = .ok (.lreturn, 1) := by decide +kernel
theorem d_Store_putLow_0 : decode b_Store_putLow 0 = .ok (.iconst 0, 1) := by decide +kernel
theorem d_Store_putLow_1 : decode b_Store_putLow 1 = .ok (.istore 5, 2) := by decide +kernel
theorem d_Store_putLow_3 : decode b_Store_putLow 3 = .ok (.iload 5, 2) := by decide +kernel
theorem d_Store_putLow_5 : decode b_Store_putLow 5 = .ok (.iload_n 2, 1) := by decide +kernel
theorem d_Store_putLow_6 : decode b_Store_putLow 6 = .ok (.if_icmp .ge 25, 3) := by decide +kernel
theorem d_Store_putLow_9 : decode b_Store_putLow 9 = .ok (.aload_n 0, 1) := by decide +kernel
theorem d_Store_putLow_10 : decode b_Store_putLow 10 = .ok (.iload_n 1, 1) := by decide +kernel
theorem d_Store_putLow_11 : decode b_Store_putLow 11 = .ok (.iload 5, 2) := by decide +kernel
theorem d_Store_putLow_13 : decode b_Store_putLow 13 = .ok (.iadd, 1) := by decide +kernel
theorem d_Store_putLow_14 : decode b_Store_putLow 14 = .ok (.lload_n 3, 1) := by decide +kernel
theorem d_Store_putLow_15 : decode b_Store_putLow 15 = .ok (.bipush 8, 2) := by decide +kernel
theorem d_Store_putLow_17 : decode b_Store_putLow 17 = .ok (.iload 5, 2) := by decide +kernel
theorem d_Store_putLow_19 : decode b_Store_putLow 19 = .ok (.imul, 1) := by decide +kernel
theorem d_Store_putLow_20 : decode b_Store_putLow 20 = .ok (.lushr, 1) := by decide +kernel
theorem d_Store_putLow_21 : decode b_Store_putLow 21 = .ok (.l2i, 1) := by decide +kernel
theorem d_Store_putLow_22 : decode b_Store_putLow 22 = .ok (.invokevirtual 33, 3) := by decide +kernel
theorem d_Store_putLow_25 : decode b_Store_putLow 25 = .ok (.iinc 5 1, 3) := by decide +kernel
theorem d_Store_putLow_28 : decode b_Store_putLow 28 = .ok (.goto (-25), 3) := by decide +kernel
theorem d_Store_putLow_31 : decode b_Store_putLow 31 = .ok (.return_, 1) := by decide +kernel
theorem d_Store_markBootSector_0 : decode b_Store_markBootSector 0 = .ok (.aload_n 0, 1) := by decide +kernel
theorem d_Store_markBootSector_1 : decode b_Store_markBootSector 1 = .ok (.iload_n 1, 1) := by decide +kernel
theorem d_Store_markBootSector_2 : decode b_Store_markBootSector 2 = .ok (.sipush 512, 3) := by decide +kernel
theorem d_Store_markBootSector_5 : decode b_Store_markBootSector 5 = .ok (.imul, 1) := by decide +kernel
theorem d_Store_markBootSector_6 : decode b_Store_markBootSector 6 = .ok (.sipush 510, 3) := by decide +kernel
theorem d_Store_markBootSector_9 : decode b_Store_markBootSector 9 = .ok (.iadd, 1) := by decide +kernel
theorem d_Store_markBootSector_10 : decode b_Store_markBootSector 10 = .ok (.iconst 2, 1) := by decide +kernel
theorem d_Store_markBootSector_11 : decode b_Store_markBootSector 11 = .ok (.ldc2_w 46, 3) := by decide +kernel
theorem d_Store_markBootSector_14 : decode b_Store_markBootSector 14 = .ok (.invokevirtual 48, 3) := by decide +kernel
theorem d_Store_markBootSector_17 : decode b_Store_markBootSector 17 = .ok (.return_, 1) := by decide +kernel
theorem d_Store_isBootSector_0 : decode b_Store_isBootSector 0 = .ok (.aload_n 0, 1) := by decide +kernel
theorem d_Store_isBootSector_1 : decode b_Store_isBootSector 1 = .ok (.iload_n 1, 1) := by decide +kernel
theorem d_Store_isBootSector_2 : decode b_Store_isBootSector 2 = .ok (.sipush 512, 3) := by decide +kernel
theorem d_Store_isBootSector_5 : decode b_Store_isBootSector 5 = .ok (.imul, 1) := by decide +kernel
theorem d_Store_isBootSector_6 : decode b_Store_isBootSector 6 = .ok (.sipush 510, 3) := by decide +kernel
theorem d_Store_isBootSector_9 : decode b_Store_isBootSector 9 = .ok (.iadd, 1) := by decide +kernel
theorem d_Store_isBootSector_10 : decode b_Store_isBootSector 10 = .ok (.iconst 2, 1) := by decide +kernel
theorem d_Store_isBootSector_11 : decode b_Store_isBootSector 11 = .ok (.invokevirtual 52, 3) := by decide +kernel
theorem d_Store_isBootSector_14 : decode b_Store_isBootSector 14 = .ok (.ldc2_w 46, 3) := by decide +kernel
theorem d_Store_isBootSector_17 : decode b_Store_isBootSector 17 = .ok (.lcmp, 1) := by decide +kernel
theorem d_Store_isBootSector_18 : decode b_Store_isBootSector 18 = .ok (.ifCond .ne 7, 3) := by decide +kernel
theorem d_Store_isBootSector_21 : decode b_Store_isBootSector 21 = .ok (.iconst 1, 1) := by decide +kernel
theorem d_Store_isBootSector_22 : decode b_Store_isBootSector 22 = .ok (.goto 4, 3) := by decide +kernel
theorem d_Store_isBootSector_25 : decode b_Store_isBootSector 25 = .ok (.iconst 0, 1) := by decide +kernel
theorem d_Store_isBootSector_26 : decode b_Store_isBootSector 26 = .ok (.ireturn, 1) := by decide +kernel
theorem d_Store_clear_0 : decode b_Store_clear 0 = .ok (.aload_n 0, 1) := by decide +kernel
theorem d_Store_clear_1 : decode b_Store_clear 1 = .ok (.getfield 15, 3) := by decide +kernel
theorem d_Store_clear_4 : decode b_Store_clear 4 = .ok (.lconst 0, 1) := by decide +kernel
theorem d_Store_clear_5 : decode b_Store_clear 5 = .ok (.invokestatic 23, 3) := by decide +kernel
theorem d_Store_clear_8 : decode b_Store_clear 8 = .ok (.return_, 1) := by decide +kernel
theorem d_Store_putRow_0 : decode b_Store_putRow 0 = .ok (.iconst 0, 1) := by decide +kernel
theorem d_Store_putRow_1 : decode b_Store_putRow 1 = .ok (.istore_n 3, 1) := by decide +kernel
theorem d_Store_putRow_2 : decode b_Store_putRow 2 = .ok (.iload_n 3, 1) := by decide +kernel
theorem d_Store_putRow_3 : decode b_Store_putRow 3 = .ok (.aload_n 2, 1) := by decide +kernel
theorem d_Store_putRow_4 : decode b_Store_putRow 4 = .ok (.arraylength, 1) := by decide +kernel
theorem d_Store_putRow_5 : decode b_Store_putRow 5 = .ok (.if_icmp .ge 19, 3) := by decide +kernel
theorem d_Store_putRow_8 : decode b_Store_putRow 8 = .ok (.aload_n 0, 1) := by decide +kernel
theorem d_Store_putRow_9 : decode b_Store_putRow 9 = .ok (.iload_n 1, 1) := by decide +kernel
theorem d_Store_putRow_10 : decode b_Store_putRow 10 = .ok (.iload_n 3, 1) := by decide +kernel
theorem d_Store_putRow_11 : decode b_Store_putRow 11 = .ok (.iadd, 1) := by decide +kernel
theorem d_Store_putRow_12 : decode b_Store_putRow 12 = .ok (.aload_n 2, 1) := by decide +kernel
theorem d_Store_putRow_13 : decode b_Store_putRow 13 = .ok (.iload_n 3, 1) := by decide +kernel
theorem d_Store_putRow_14 : decode b_Store_putRow 14 = .ok (.iaload, 1) := by decide +kernel
theorem d_Store_putRow_15 : decode b_Store_putRow 15 = .ok (.invokevirtual 33, 3) := by decide +kernel
theorem d_Store_putRow_18 : decode b_Store_putRow 18 = .ok (.iinc 3 1, 3) := by decide +kernel
theorem d_Store_putRow_21 : decode b_Store_putRow 21 = .ok (.goto (-19), 3) := by decide +kernel
theorem d_Store_putRow_24 : decode b_Store_putRow 24 = .ok (.return_, 1) := by decide +kernel
theorem d_Store_holdsRow_0 : decode b_Store_holdsRow 0 = .ok (.iconst 0, 1) := by decide +kernel
theorem d_Store_holdsRow_1 : decode b_Store_holdsRow 1 = .ok (.istore_n 3, 1) := by decide +kernel
theorem d_Store_holdsRow_2 : decode b_Store_holdsRow 2 = .ok (.iload_n 3, 1) := by decide +kernel
theorem d_Store_holdsRow_3 : decode b_Store_holdsRow 3 = .ok (.aload_n 2, 1) := by decide +kernel
theorem d_Store_holdsRow_4 : decode b_Store_holdsRow 4 = .ok (.arraylength, 1) := by decide +kernel
theorem d_Store_holdsRow_5 : decode b_Store_holdsRow 5 = .ok (.if_icmp .ge 24, 3) := by decide +kernel
theorem d_Store_holdsRow_8 : decode b_Store_holdsRow 8 = .ok (.aload_n 0, 1) := by decide +kernel
theorem d_Store_holdsRow_9 : decode b_Store_holdsRow 9 = .ok (.iload_n 1, 1) := by decide +kernel
theorem d_Store_holdsRow_10 : decode b_Store_holdsRow 10 = .ok (.iload_n 3, 1) := by decide +kernel
theorem d_Store_holdsRow_11 : decode b_Store_holdsRow 11 = .ok (.iadd, 1) := by decide +kernel
theorem d_Store_holdsRow_12 : decode b_Store_holdsRow 12 = .ok (.invokevirtual 29, 3) := by decide +kernel
theorem d_Store_holdsRow_15 : decode b_Store_holdsRow 15 = .ok (.aload_n 2, 1) := by decide +kernel
theorem d_Store_holdsRow_16 : decode b_Store_holdsRow 16 = .ok (.iload_n 3, 1) := by decide +kernel
theorem d_Store_holdsRow_17 : decode b_Store_holdsRow 17 = .ok (.iaload, 1) := by decide +kernel
theorem d_Store_holdsRow_18 : decode b_Store_holdsRow 18 = .ok (.if_icmp .eq 5, 3) := by decide +kernel
theorem d_Store_holdsRow_21 : decode b_Store_holdsRow 21 = .ok (.iconst 0, 1) := by decide +kernel
theorem d_Store_holdsRow_22 : decode b_Store_holdsRow 22 = .ok (.ireturn, 1) := by decide +kernel
theorem d_Store_holdsRow_23 : decode b_Store_holdsRow 23 = .ok (.iinc 3 1, 3) := by decide +kernel
theorem d_Store_holdsRow_26 : decode b_Store_holdsRow 26 = .ok (.goto (-24), 3) := by decide +kernel
theorem d_Store_holdsRow_29 : decode b_Store_holdsRow 29 = .ok (.iconst 1, 1) := by decide +kernel
theorem d_Store_holdsRow_30 : decode b_Store_holdsRow 30 = .ok (.ireturn, 1) := by decide +kernel
theorem d_Store_putText_0 : decode b_Store_putText 0 = .ok (.iconst 0, 1) := by decide +kernel
theorem d_Store_putText_1 : decode b_Store_putText 1 = .ok (.istore_n 3, 1) := by decide +kernel
theorem d_Store_putText_2 : decode b_Store_putText 2 = .ok (.iload_n 3, 1) := by decide +kernel
theorem d_Store_putText_3 : decode b_Store_putText 3 = .ok (.aload_n 2, 1) := by decide +kernel
theorem d_Store_putText_4 : decode b_Store_putText 4 = .ok (.invokevirtual 37, 3) := by decide +kernel
theorem d_Store_putText_7 : decode b_Store_putText 7 = .ok (.if_icmp .ge 21, 3) := by decide +kernel
theorem d_Store_putText_10 : decode b_Store_putText 10 = .ok (.aload_n 0, 1) := by decide +kernel
theorem d_Store_putText_11 : decode b_Store_putText 11 = .ok (.iload_n 1, 1) := by decide +kernel
theorem d_Store_putText_12 : decode b_Store_putText 12 = .ok (.iload_n 3, 1) := by decide +kernel
theorem d_Store_putText_13 : decode b_Store_putText 13 = .ok (.iadd, 1) := by decide +kernel
theorem d_Store_putText_14 : decode b_Store_putText 14 = .ok (.aload_n 2, 1) := by decide +kernel
theorem d_Store_putText_15 : decode b_Store_putText 15 = .ok (.iload_n 3, 1) := by decide +kernel
theorem d_Store_putText_16 : decode b_Store_putText 16 = .ok (.invokevirtual 42, 3) := by decide +kernel
theorem d_Store_putText_19 : decode b_Store_putText 19 = .ok (.invokevirtual 33, 3) := by decide +kernel
theorem d_Store_putText_22 : decode b_Store_putText 22 = .ok (.iinc 3 1, 3) := by decide +kernel
theorem d_Store_putText_25 : decode b_Store_putText 25 = .ok (.goto (-23), 3) := by decide +kernel
theorem d_Store_putText_28 : decode b_Store_putText 28 = .ok (.return_, 1) := by decide +kernel
theorem d_Store_holdsText_0 : decode b_Store_holdsText 0 = .ok (.iconst 0, 1) := by decide +kernel
theorem d_Store_holdsText_1 : decode b_Store_holdsText 1 = .ok (.istore_n 3, 1) := by decide +kernel
theorem d_Store_holdsText_2 : decode b_Store_holdsText 2 = .ok (.iload_n 3, 1) := by decide +kernel
theorem d_Store_holdsText_3 : decode b_Store_holdsText 3 = .ok (.aload_n 2, 1) := by decide +kernel
theorem d_Store_holdsText_4 : decode b_Store_holdsText 4 = .ok (.invokevirtual 37, 3) := by decide +kernel
theorem d_Store_holdsText_7 : decode b_Store_holdsText 7 = .ok (.if_icmp .ge 26, 3) := by decide +kernel
theorem d_Store_holdsText_10 : decode b_Store_holdsText 10 = .ok (.aload_n 0, 1) := by decide +kernel
theorem d_Store_holdsText_11 : decode b_Store_holdsText 11 = .ok (.iload_n 1, 1) := by decide +kernel
theorem d_Store_holdsText_12 : decode b_Store_holdsText 12 = .ok (.iload_n 3, 1) := by decide +kernel
theorem d_Store_holdsText_13 : decode b_Store_holdsText 13 = .ok (.iadd, 1) := by decide +kernel
theorem d_Store_holdsText_14 : decode b_Store_holdsText 14 = .ok (.invokevirtual 29, 3) := by decide +kernel
theorem d_Store_holdsText_17 : decode b_Store_holdsText 17 = .ok (.aload_n 2, 1) := by decide +kernel
theorem d_Store_holdsText_18 : decode b_Store_holdsText 18 = .ok (.iload_n 3, 1) := by decide +kernel
theorem d_Store_holdsText_19 : decode b_Store_holdsText 19 = .ok (.invokevirtual 42, 3) := by decide +kernel
theorem d_Store_holdsText_22 : decode b_Store_holdsText 22 = .ok (.if_icmp .eq 5, 3) := by decide +kernel
theorem d_Store_holdsText_25 : decode b_Store_holdsText 25 = .ok (.iconst 0, 1) := by decide +kernel
theorem d_Store_holdsText_26 : decode b_Store_holdsText 26 = .ok (.ireturn, 1) := by decide +kernel
theorem d_Store_holdsText_27 : decode b_Store_holdsText 27 = .ok (.iinc 3 1, 3) := by decide +kernel
theorem d_Store_holdsText_30 : decode b_Store_holdsText 30 = .ok (.goto (-28), 3) := by decide +kernel
theorem d_Store_holdsText_33 : decode b_Store_holdsText 33 = .ok (.iconst 1, 1) := by decide +kernel
theorem d_Store_holdsText_34 : decode b_Store_holdsText 34 = .ok (.ireturn, 1) := by decide +kernel
set_option maxRecDepth 100000 in
theorem fg_Store_9 : FlG Wall classes R_Store 9 0 0 := ⟨_, _, _, rfl, by decide, in_Store, inW 33 rfl rfl⟩
set_option maxRecDepth 100000 in
theorem fg_Store_15 : FlG Wall classes R_Store 15 0 1 := ⟨_, _, _, rfl, by decide, in_Store, inW 35 rfl rfl⟩
set_option maxRecDepth 100000 in
theorem kc_Store_19 : Cond.constantLong R_Store 19 255 ∈ Wall := inW 367 rfl rfl
set_option maxRecDepth 100000 in
theorem kc_Store_21 : Cond.constantLong R_Store 21 (-1) ∈ Wall := inW 368 rfl rfl
set_option maxRecDepth 100000 in
theorem fc_Store_29 : FcV Wall classes R_Store 29 0 y_Store_get b_Store_get 2 (some .int) ws_Store_get 1 := ⟨⟨rfl, cw_Store_get, inW 661 rfl rfl, in_i_Store, by decide +kernel⟩, inW 492 rfl rfl, inW 493 rfl rfl, _, _, rfl⟩
set_option maxRecDepth 100000 in
theorem fc_Store_33 : FcV Wall classes R_Store 33 0 y_Store_put b_Store_put 4 (none) ws_Store_put 2 := ⟨⟨rfl, cw_Store_put, inW 377 rfl rfl, in_i_Store, by decide +kernel⟩, inW 364 rfl rfl, inW 365 rfl rfl, _, _, rfl⟩
set_option maxRecDepth 100000 in
theorem kc_Store_46 : Cond.constantLong R_Store 46 43605 ∈ Wall := inW 463 rfl rfl
set_option maxRecDepth 100000 in
theorem fc_Store_48 : FcV Wall classes R_Store 48 0 y_Store_putLow b_Store_putLow 6 (none) ws_Store_putLow 3 := ⟨⟨rfl, cw_Store_putLow, inW 464 rfl rfl, in_i_Store, by decide +kernel⟩, inW 374 rfl rfl, inW 375 rfl rfl, _, _, rfl⟩
set_option maxRecDepth 100000 in
theorem fc_Store_52 : FcV Wall classes R_Store 52 0 y_Store_getLow b_Store_getLow 6 (some .long) ws_Store_getLow 2 := ⟨⟨rfl, cw_Store_getLow, inW 657 rfl rfl, in_i_Store, by decide +kernel⟩, inW 658 rfl rfl, inW 659 rfl rfl, _, _, rfl⟩
set_option maxRecDepth 100000 in
theorem fc_Store_23 : FcS Wall R_Store 23 y_Arrays_fillJ b_Arrays_fillJ 5 (none) ws_Arrays_fillJ 2 := ⟨⟨rfl, cw_Arrays_fillJ, inW 356 rfl rfl, in_i_Arrays, by decide +kernel⟩, inW 357 rfl rfl⟩
set_option maxRecDepth 100000 in
theorem fc_Store_37 : FcO Wall R_Store 37 y_String_length b_String_length 1 (some .int) ws_String_length 0 := ⟨⟨rfl, cw_String_length, inW 510 rfl rfl, in_i_String, by decide +kernel⟩, inW 396 rfl rfl, inW 397 rfl rfl⟩
set_option maxRecDepth 100000 in
theorem fc_Store_42 : FcO Wall R_Store 42 y_String_charAt b_String_charAt 2 (some .char) ws_String_charAt 1 := ⟨⟨rfl, cw_String_charAt, inW 511 rfl rfl, in_i_String, by decide +kernel⟩, inW 406 rfl rfl, inW 407 rfl rfl⟩
