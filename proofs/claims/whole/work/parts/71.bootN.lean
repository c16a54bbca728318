/-! machine: the words that a new exception wants -/
def okA (a : Cond) : Prop := a ∈ Wall ∨ ∀ (A : Nat → Prop) (u : State) (args : Array Value), ETh A u → a.before args u = true
theorem fm_c {p : Cond → Prop} {a : Cond} {t : List Cond} (h : p a) (k : ∀ x ∈ t, p x) : ∀ x ∈ a :: t, p x := List.forall_mem_cons.mpr ⟨h, k⟩
theorem fm_n {p : Cond → Prop} : ∀ x ∈ ([] : List Cond), p x := fun _ h => absurd h List.not_mem_nil
theorem okA_w {a : Cond} (k : Nat) (h : tables_1[k]? = some a) (hg : goodWord a = true) : okA a := Or.inl (inW k h hg)
set_option maxRecDepth 100000 in
theorem ta_ok : ∀ a ∈ Bundle.throwableAtoms, okA a := by
  unfold Bundle.throwableAtoms
  exact fm_c (okA_w 14 rfl rfl) (fm_c (okA_w 600 rfl rfl) (fm_c (okA_w 609 rfl rfl) (fm_c (okA_w 612 rfl rfl) (fm_c (okA_w 615 rfl rfl) (fm_c (okA_w 617 rfl rfl) (fm_c (okA_w 601 rfl rfl) (fm_c (okA_w 602 rfl rfl) (fm_c (okA_w 25 rfl rfl) (fm_c (okA_w 26 rfl rfl) (fm_c (okA_w 603 rfl rfl) (fm_c (okA_w 608 rfl rfl) (fm_c (okA_w 613 rfl rfl) (fm_c (okA_w 633 rfl rfl) (fm_c (okA_w 590 rfl rfl) (fm_c (okA_w 634 rfl rfl) (fm_c (okA_w 592 rfl rfl) (fm_c (okA_w 635 rfl rfl) (fm_c (okA_w 594 rfl rfl) (fm_c (okA_w 604 rfl rfl) (fm_c (Or.inr (fun A u args h => h.1.1.use _)) (fm_c (okA_w 606 rfl rfl) (fm_c (Or.inr (fun A u args h => h.1.2.use _)) (fm_c (okA_w 596 rfl rfl) (fm_n))))))))))))))))))))))))
set_option maxRecDepth 100000 in
theorem ts_ok : ∀ a ∈ Bundle.throwableSAtoms, okA a := by
  unfold Bundle.throwableSAtoms
  exact fm_c (okA_w 629 rfl rfl) (fm_c (okA_w 630 rfl rfl) (fm_c (okA_w 632 rfl rfl) (fm_c (okA_w 596 rfl rfl) (fm_n))))
set_option maxRecDepth 100000 in
theorem tc_ok : ∀ a ∈ Bundle.chainSAtoms "java/lang/RuntimeException" ["java/lang/Exception"], okA a := by
  show ∀ a ∈ Bundle.passSAtoms "java/lang/RuntimeException" "java/lang/Exception" 7 Bundle.six ++ Bundle.passSAtoms "java/lang/Exception" Bundle.tN 7 Bundle.six, okA a
  refine List.forall_mem_append.mpr ⟨?_, ?_⟩
  · unfold Bundle.passSAtoms
    exact fm_c (okA_w 623 rfl rfl) (fm_c (okA_w 624 rfl rfl) (fm_c (okA_w 625 rfl rfl) (fm_c (okA_w 626 rfl rfl) (fm_c (Or.inr (fun A u args h => va_Nw.use rfl h.2.2.1.2.1)) (fm_n)))))
  · unfold Bundle.passSAtoms
    exact fm_c (okA_w 626 rfl rfl) (fm_c (okA_w 627 rfl rfl) (fm_c (okA_w 628 rfl rfl) (fm_c (okA_w 629 rfl rfl) (fm_c (Or.inr (fun A u args h => va_Nw.use rfl h.2.2.1.2.2)) (fm_n)))))
set_option maxRecDepth 100000 in
theorem tx_boot : ∀ a ∈ Bundle.ownAtomsX "BootMaker" 92 "java/lang/IllegalArgumentException" 7 prog_11_method_2_code ["java/lang/RuntimeException", "java/lang/Exception"], okA a := by
  refine List.forall_mem_append.mpr ⟨List.forall_mem_append.mpr ⟨List.forall_mem_append.mpr ⟨ta_ok, ts_ok⟩, ?_⟩, ?_⟩
  · show ∀ a ∈ Bundle.passSAtoms "java/lang/IllegalArgumentException" "java/lang/RuntimeException" 7 prog_11_method_2_code ++ Bundle.chainSAtoms "java/lang/RuntimeException" ["java/lang/Exception"], okA a
    refine List.forall_mem_append.mpr ⟨?_, tc_ok⟩
    unfold Bundle.passSAtoms
    exact fm_c (okA_w 620 rfl rfl) (fm_c (okA_w 621 rfl rfl) (fm_c (okA_w 622 rfl rfl) (fm_c (okA_w 623 rfl rfl) (fm_c (Or.inr (fun A u args h => va_Nw.use rfl h.2.2.1.1)) (fm_n)))))
  · exact fm_c (okA_w 619 rfl rfl) (fm_c (okA_w 579 rfl rfl) (fm_c (Or.inr (fun A u args h => va_Nw.use rfl h.2.2.2.1)) (fm_c (okA_w 587 rfl rfl) (fm_c (okA_w 588 rfl rfl) (fm_c (okA_w 589 rfl rfl) (fm_c (okA_w 591 rfl rfl) (fm_c (okA_w 593 rfl rfl) (fm_c (okA_w 595 rfl rfl) (fm_c (Or.inr (fun A u args h => zq_ref h.2.1.1 _)) (fm_c (Or.inr (fun A u args h => zq_ref h.2.1.2 _)) (fm_c (okA_w 599 rfl rfl) (fm_c (okA_w 598 rfl rfl) (fm_c (okA_w 597 rfl rfl) (fm_n))))))))))))))
set_option maxRecDepth 100000 in
theorem tx_memory : ∀ a ∈ Bundle.ownAtomsX "BootMaker" 106 "java/util/NoSuchElementException" 13 prog_18_method_4_code ["java/lang/RuntimeException", "java/lang/Exception"], okA a := by
  refine List.forall_mem_append.mpr ⟨List.forall_mem_append.mpr ⟨List.forall_mem_append.mpr ⟨ta_ok, ts_ok⟩, ?_⟩, ?_⟩
  · show ∀ a ∈ Bundle.passSAtoms "java/util/NoSuchElementException" "java/lang/RuntimeException" 13 prog_18_method_4_code ++ Bundle.chainSAtoms "java/lang/RuntimeException" ["java/lang/Exception"], okA a
    refine List.forall_mem_append.mpr ⟨?_, tc_ok⟩
    unfold Bundle.passSAtoms
    exact fm_c (okA_w 769 rfl rfl) (fm_c (okA_w 770 rfl rfl) (fm_c (okA_w 771 rfl rfl) (fm_c (okA_w 623 rfl rfl) (fm_c (Or.inr (fun A u args h => va_Nw.use rfl h.2.2.1.1)) (fm_n)))))
  · exact fm_c (okA_w 768 rfl rfl) (fm_c (okA_w 759 rfl rfl) (fm_c (Or.inr (fun A u args h => va_Nw.use rfl h.2.2.2.2)) (fm_c (okA_w 761 rfl rfl) (fm_c (okA_w 611 rfl rfl) (fm_c (okA_w 762 rfl rfl) (fm_c (okA_w 763 rfl rfl) (fm_c (okA_w 764 rfl rfl) (fm_c (okA_w 765 rfl rfl) (fm_c (Or.inr (fun A u args h => zq_ref h.2.1.1 _)) (fm_c (Or.inr (fun A u args h => zq_ref h.2.1.2 _)) (fm_c (okA_w 599 rfl rfl) (fm_c (okA_w 598 rfl rfl) (fm_c (okA_w 766 rfl rfl) (fm_n))))))))))))))

abbrev b_BootMaker_boot : ByteArray := prog_1_method_10_code
def y_BootMaker_boot : MethodName := ⟨"BootMaker", "boot", "(I)I"⟩
def ws_BootMaker_boot : List Cond := Cond.code y_BootMaker_boot b_BootMaker_boot 2 (some .int) :: Wall
set_option maxRecDepth 100000 in
theorem cw_BootMaker_boot : Cond.code y_BootMaker_boot b_BootMaker_boot 2 (some .int) ∈ Wall := inW 577 rfl rfl
abbrev b_BootMaker_memory : ByteArray := prog_1_method_12_code
def y_BootMaker_memory : MethodName := ⟨"BootMaker", "memory", "(I)I"⟩
def ws_BootMaker_memory : List Cond := Cond.code y_BootMaker_memory b_BootMaker_memory 2 (some .int) :: Wall
set_option maxRecDepth 100000 in
theorem cw_BootMaker_memory : Cond.code y_BootMaker_memory b_BootMaker_memory 2 (some .int) ∈ Wall := inW 756 rfl rfl
theorem d_BootMaker_boot_0 : decode b_BootMaker_boot 0 = .ok (.iload_n 1, 1) := by decide +kernel
theorem d_BootMaker_boot_1 : decode b_BootMaker_boot 1 = .ok (.ifCond .eq 18, 3) := by decide +kernel
theorem d_BootMaker_boot_4 : decode b_BootMaker_boot 4 = .ok (.iload_n 1, 1) := by decide +kernel
theorem d_BootMaker_boot_5 : decode b_BootMaker_boot 5 = .ok (.iconst 1, 1) := by decide +kernel
theorem d_BootMaker_boot_6 : decode b_BootMaker_boot 6 = .ok (.if_icmp .eq 13, 3) := by decide +kernel
theorem d_BootMaker_boot_9 : decode b_BootMaker_boot 9 = .ok (.new 88, 3) := by decide +kernel
theorem d_BootMaker_boot_12 : decode b_BootMaker_boot 12 = .ok (.dup, 1) := by decide +kernel
theorem d_BootMaker_boot_13 : decode b_BootMaker_boot 13 = .ok (.ldc 90, 2) := by decide +kernel
theorem d_BootMaker_boot_15 : decode b_BootMaker_boot 15 = .ok (.invokespecial 92, 3) := by decide +kernel
theorem d_BootMaker_boot_18 : decode b_BootMaker_boot 18 = .ok (.athrow, 1) := by decide +kernel
theorem d_BootMaker_boot_19 : decode b_BootMaker_boot 19 = .ok (.aload_n 0, 1) := by decide +kernel
theorem d_BootMaker_boot_20 : decode b_BootMaker_boot 20 = .ok (.getfield 46, 3) := by decide +kernel
theorem d_BootMaker_boot_23 : decode b_BootMaker_boot 23 = .ok (.iload_n 1, 1) := by decide +kernel
theorem d_BootMaker_boot_24 : decode b_BootMaker_boot 24 = .ok (.invokevirtual 95, 3) := by decide +kernel
theorem d_BootMaker_boot_27 : decode b_BootMaker_boot 27 = .ok (.ireturn, 1) := by decide +kernel
theorem d_BootMaker_memory_0 : decode b_BootMaker_memory 0 = .ok (.iload_n 1, 1) := by decide +kernel
theorem d_BootMaker_memory_1 : decode b_BootMaker_memory 1 = .ok (.ifCond .lt 9, 3) := by decide +kernel
theorem d_BootMaker_memory_4 : decode b_BootMaker_memory 4 = .ok (.iload_n 1, 1) := by decide +kernel
theorem d_BootMaker_memory_5 : decode b_BootMaker_memory 5 = .ok (.ldc 101, 2) := by decide +kernel
theorem d_BootMaker_memory_7 : decode b_BootMaker_memory 7 = .ok (.if_icmp .lt 13, 3) := by decide +kernel
theorem d_BootMaker_memory_10 : decode b_BootMaker_memory 10 = .ok (.new 102, 3) := by decide +kernel
theorem d_BootMaker_memory_13 : decode b_BootMaker_memory 13 = .ok (.dup, 1) := by decide +kernel
theorem d_BootMaker_memory_14 : decode b_BootMaker_memory 14 = .ok (.ldc 104, 2) := by decide +kernel
theorem d_BootMaker_memory_16 : decode b_BootMaker_memory 16 = .ok (.invokespecial 106, 3) := by decide +kernel
theorem d_BootMaker_memory_19 : decode b_BootMaker_memory 19 = .ok (.athrow, 1) := by decide +kernel
theorem d_BootMaker_memory_20 : decode b_BootMaker_memory 20 = .ok (.aload_n 0, 1) := by decide +kernel
theorem d_BootMaker_memory_21 : decode b_BootMaker_memory 21 = .ok (.getfield 46, 3) := by decide +kernel
theorem d_BootMaker_memory_24 : decode b_BootMaker_memory 24 = .ok (.getfield 107, 3) := by decide +kernel
theorem d_BootMaker_memory_27 : decode b_BootMaker_memory 27 = .ok (.iload_n 1, 1) := by decide +kernel
theorem d_BootMaker_memory_28 : decode b_BootMaker_memory 28 = .ok (.invokevirtual 73, 3) := by decide +kernel
theorem d_BootMaker_memory_31 : decode b_BootMaker_memory 31 = .ok (.ireturn, 1) := by decide +kernel
set_option maxRecDepth 100000 in
theorem fc_BootMaker_95 : FcV Wall classes R_BootMaker 95 5 y_Firmware_start b_Firmware_start 3 (some .int) ws_Firmware_start 1 := ⟨⟨rfl, cw_Firmware_start, inW 644 rfl rfl, in_i_Firmware, by decide +kernel⟩, inW 645 rfl rfl, inW 646 rfl rfl, _, _, rfl⟩
set_option maxRecDepth 100000 in
theorem kc_BootMaker_101 : Cond.constant R_BootMaker 101 65536 ∈ Wall := inW 757 rfl rfl
set_option maxRecDepth 100000 in
theorem fg_BootMaker_107 : FlG Wall classes R_BootMaker 107 5 0 := ⟨_, _, _, rfl, by decide, in_Firmware, inW 184 rfl rfl⟩
