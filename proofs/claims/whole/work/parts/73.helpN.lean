theorem one_row {L : List ExceptionTableEntry} {a b h t : Nat} (q : L.map (fun h => (h.startPc, h.endPc, h.handlerPc, h.catchType)) = [(a, b, h, t)]) : ∃ x, L = [x] ∧ x.startPc = a ∧ x.endPc = b ∧ x.handlerPc = h ∧ x.catchType = t := by
  match L, q with
  | [x], q =>
    simp only [List.map_cons, List.map_nil, List.cons.injEq, Prod.mk.injEq, and_true] at q
    exact ⟨x, rfl, q⟩
  | [], q => cases q
  | _ :: _ :: _, q => simp at q
set_option maxRecDepth 100000 in
theorem in_i_Law : Cond.initialized R_Law ∈ Wall := inW 0 rfl rfl
abbrev b_Law_boot : ByteArray := method_3_code
def y_Law_boot : MethodName := ⟨"BootMakerLaw", "boot", "(LBootMaker;I[J)I"⟩
def ws_Law_boot : List Cond := Cond.codeWith y_Law_boot b_Law_boot 4 (some .int) [(0, 9, 12, 13)] :: Wall
theorem d_Law_boot_0 : decode b_Law_boot 0 = .ok (.aload_n 2, 1) := by decide +kernel
theorem d_Law_boot_1 : decode b_Law_boot 1 = .ok (.iconst 0, 1) := by decide +kernel
theorem d_Law_boot_2 : decode b_Law_boot 2 = .ok (.aload_n 0, 1) := by decide +kernel
theorem d_Law_boot_3 : decode b_Law_boot 3 = .ok (.iload_n 1, 1) := by decide +kernel
theorem d_Law_boot_4 : decode b_Law_boot 4 = .ok (.invokevirtual 7, 3) := by decide +kernel
theorem d_Law_boot_7 : decode b_Law_boot 7 = .ok (.i2l, 1) := by decide +kernel
theorem d_Law_boot_8 : decode b_Law_boot 8 = .ok (.lastore, 1) := by decide +kernel
theorem d_Law_boot_9 : decode b_Law_boot 9 = .ok (.goto 6, 3) := by decide +kernel
theorem d_Law_boot_12 : decode b_Law_boot 12 = .ok (.astore_n 3, 1) := by decide +kernel
theorem d_Law_boot_13 : decode b_Law_boot 13 = .ok (.iconst 1, 1) := by decide +kernel
theorem d_Law_boot_14 : decode b_Law_boot 14 = .ok (.ireturn, 1) := by decide +kernel
theorem d_Law_boot_15 : decode b_Law_boot 15 = .ok (.iconst 0, 1) := by decide +kernel
theorem d_Law_boot_16 : decode b_Law_boot 16 = .ok (.ireturn, 1) := by decide +kernel
abbrev b_Law_memory : ByteArray := method_4_code
def y_Law_memory : MethodName := ⟨"BootMakerLaw", "memory", "(LBootMaker;I[J)I"⟩
def ws_Law_memory : List Cond := Cond.codeWith y_Law_memory b_Law_memory 4 (some .int) [(0, 9, 12, 18)] :: Wall
theorem d_Law_memory_0 : decode b_Law_memory 0 = .ok (.aload_n 2, 1) := by decide +kernel
theorem d_Law_memory_1 : decode b_Law_memory 1 = .ok (.iconst 0, 1) := by decide +kernel
theorem d_Law_memory_2 : decode b_Law_memory 2 = .ok (.aload_n 0, 1) := by decide +kernel
theorem d_Law_memory_3 : decode b_Law_memory 3 = .ok (.iload_n 1, 1) := by decide +kernel
theorem d_Law_memory_4 : decode b_Law_memory 4 = .ok (.invokevirtual 15, 3) := by decide +kernel
theorem d_Law_memory_7 : decode b_Law_memory 7 = .ok (.i2l, 1) := by decide +kernel
theorem d_Law_memory_8 : decode b_Law_memory 8 = .ok (.lastore, 1) := by decide +kernel
theorem d_Law_memory_9 : decode b_Law_memory 9 = .ok (.goto 6, 3) := by decide +kernel
theorem d_Law_memory_12 : decode b_Law_memory 12 = .ok (.astore_n 3, 1) := by decide +kernel
theorem d_Law_memory_13 : decode b_Law_memory 13 = .ok (.iconst 1, 1) := by decide +kernel
theorem d_Law_memory_14 : decode b_Law_memory 14 = .ok (.ireturn, 1) := by decide +kernel
theorem d_Law_memory_15 : decode b_Law_memory 15 = .ok (.iconst 0, 1) := by decide +kernel
theorem d_Law_memory_16 : decode b_Law_memory 16 = .ok (.ireturn, 1) := by decide +kernel
set_option maxRecDepth 100000 in
theorem wl_boot : Cond.classLink R_Law 13 tIA ∈ Wall := inW 573 rfl rfl
set_option maxRecDepth 100000 in
theorem wl_memory : Cond.classLink R_Law 18 tNS ∈ Wall := inW 752 rfl rfl
set_option maxRecDepth 100000 in
theorem fc_Law_7 : FcV Wall classes R_Law 7 6 y_BootMaker_boot b_BootMaker_boot 2 (some .int) ws_BootMaker_boot 1 := ⟨⟨rfl, cw_BootMaker_boot, inW 574 rfl rfl, in_i_BootMaker, by decide +kernel⟩, inW 575 rfl rfl, inW 576 rfl rfl, _, _, rfl⟩
set_option maxRecDepth 100000 in
theorem fc_Law_15 : FcV Wall classes R_Law 15 6 y_BootMaker_memory b_BootMaker_memory 2 (some .int) ws_BootMaker_memory 1 := ⟨⟨rfl, cw_BootMaker_memory, inW 753 rfl rfl, in_i_BootMaker, by decide +kernel⟩, inW 754 rfl rfl, inW 755 rfl rfl, _, _, rfl⟩
set_option maxRecDepth 100000 in
theorem cwh_boot : Cond.codeWith y_Law_boot b_Law_boot 4 (some .int) [(0, 9, 12, 13)] ∈ Wall := inW 572 rfl rfl
set_option maxRecDepth 100000 in
theorem fh_boot : FcH Wall R_Law 70 y_Law_boot b_Law_boot 4 (some .int) [(0, 9, 12, 13)] ws_Law_boot 3 := ⟨rfl, cwh_boot, inW 570 rfl rfl, in_i_Law, by decide +kernel, inW 571 rfl rfl⟩
set_option maxRecDepth 100000 in
theorem cwh_memory : Cond.codeWith y_Law_memory b_Law_memory 4 (some .int) [(0, 9, 12, 18)] ∈ Wall := inW 751 rfl rfl
set_option maxRecDepth 100000 in
theorem fh_memory : FcH Wall R_Law 81 y_Law_memory b_Law_memory 4 (some .int) [(0, 9, 12, 18)] ws_Law_memory 3 := ⟨rfl, cwh_memory, inW 749 rfl rfl, in_i_Law, by decide +kernel, inW 750 rfl rfl⟩
abbrev b_Law_cell : ByteArray := method_2_code
def y_Law_cell : MethodName := ⟨"BootMakerLaw", "cell", "([II)I"⟩
def ws_Law_cell : List Cond := Cond.code y_Law_cell b_Law_cell 2 (some .int) :: Wall
set_option maxRecDepth 100000 in
theorem cw_Law_cell : Cond.code y_Law_cell b_Law_cell 2 (some .int) ∈ Wall := inW 569 rfl rfl
theorem d_Law_cell_0 : decode b_Law_cell 0 = .ok (.iload_n 1, 1) := by decide +kernel
theorem d_Law_cell_1 : decode b_Law_cell 1 = .ok (.aload_n 0, 1) := by decide +kernel
theorem d_Law_cell_2 : decode b_Law_cell 2 = .ok (.arraylength, 1) := by decide +kernel
theorem d_Law_cell_3 : decode b_Law_cell 3 = .ok (.if_icmp .ge 9, 3) := by decide +kernel
theorem d_Law_cell_6 : decode b_Law_cell 6 = .ok (.aload_n 0, 1) := by decide +kernel
theorem d_Law_cell_7 : decode b_Law_cell 7 = .ok (.iload_n 1, 1) := by decide +kernel
theorem d_Law_cell_8 : decode b_Law_cell 8 = .ok (.iaload, 1) := by decide +kernel
theorem d_Law_cell_9 : decode b_Law_cell 9 = .ok (.goto 4, 3) := by decide +kernel
theorem d_Law_cell_12 : decode b_Law_cell 12 = .ok (.iconst 0, 1) := by decide +kernel
theorem d_Law_cell_13 : decode b_Law_cell 13 = .ok (.ireturn, 1) := by decide +kernel
