section
-- ===== PART A: goes FIRST, ahead of the names: the tables' words, and 'selects' of the private methods out of them =====
/-- a private method of a class that the tables say can be made, by its rows of tables_1 -/
def lw_okq (q : MethodName × Nat) : Prop := (q.1.cls ≠ "java/lang/invoke/MethodHandle" ∧ q.1.cls ≠ "java/lang/invoke/VarHandle") ∧ Cond.instantiable q.1.cls q.2 ∈ tables_1 ∧ Cond.privateMethod q.1 ∈ tables_1 ∧ Cond.instanceMethod q.1 ∈ tables_1
theorem lw_p0 : lw_okq (⟨"BootMaker$Plan", "nextStart", "()I"⟩, 11) := ⟨⟨by decide +kernel, by decide +kernel⟩, List.mem_of_getElem? (i := 58) (by decide +kernel), List.mem_of_getElem? (i := 249) (by decide +kernel), List.mem_of_getElem? (i := 250) (by decide +kernel)⟩
theorem lw_p1 : lw_okq (⟨"BootMaker$Writer", "layOut", "()I"⟩, 5) := ⟨⟨by decide +kernel, by decide +kernel⟩, List.mem_of_getElem? (i := 111) (by decide +kernel), List.mem_of_getElem? (i := 291) (by decide +kernel), List.mem_of_getElem? (i := 292) (by decide +kernel)⟩
theorem lw_p2 : lw_okq (⟨"BootMaker$Volume", "placeFile", "(IIZ)V"⟩, 9) := ⟨⟨by decide +kernel, by decide +kernel⟩, List.mem_of_getElem? (i := 117) (by decide +kernel), List.mem_of_getElem? (i := 327) (by decide +kernel), List.mem_of_getElem? (i := 328) (by decide +kernel)⟩
theorem lw_p3 : lw_okq (⟨"BootMaker$Volume", "lowestFree", "(I)I"⟩, 9) := ⟨⟨by decide +kernel, by decide +kernel⟩, List.mem_of_getElem? (i := 117) (by decide +kernel), List.mem_of_getElem? (i := 331) (by decide +kernel), List.mem_of_getElem? (i := 332) (by decide +kernel)⟩
theorem lw_p4 : lw_okq (⟨"BootMaker$Writer", "writeSectorZero", "()V"⟩, 5) := ⟨⟨by decide +kernel, by decide +kernel⟩, List.mem_of_getElem? (i := 111) (by decide +kernel), List.mem_of_getElem? (i := 360) (by decide +kernel), List.mem_of_getElem? (i := 361) (by decide +kernel)⟩
theorem lw_p5 : lw_okq (⟨"BootMaker$Writer", "writeRuns", "(I)V"⟩, 5) := ⟨⟨by decide +kernel, by decide +kernel⟩, List.mem_of_getElem? (i := 111) (by decide +kernel), List.mem_of_getElem? (i := 370) (by decide +kernel), List.mem_of_getElem? (i := 371) (by decide +kernel)⟩
theorem lw_p6 : lw_okq (⟨"BootMaker$Writer", "fileSum", "(I)I"⟩, 5) := ⟨⟨by decide +kernel, by decide +kernel⟩, List.mem_of_getElem? (i := 111) (by decide +kernel), List.mem_of_getElem? (i := 379) (by decide +kernel), List.mem_of_getElem? (i := 380) (by decide +kernel)⟩
theorem lw_p7 : lw_okq (⟨"BootMaker$Writer", "writeTable", "(III)V"⟩, 5) := ⟨⟨by decide +kernel, by decide +kernel⟩, List.mem_of_getElem? (i := 111) (by decide +kernel), List.mem_of_getElem? (i := 466) (by decide +kernel), List.mem_of_getElem? (i := 467) (by decide +kernel)⟩
theorem lw_p8 : lw_okq (⟨"BootMaker$Writer", "writeEntry", "(II)V"⟩, 5) := ⟨⟨by decide +kernel, by decide +kernel⟩, List.mem_of_getElem? (i := 111) (by decide +kernel), List.mem_of_getElem? (i := 470) (by decide +kernel), List.mem_of_getElem? (i := 471) (by decide +kernel)⟩
theorem lw_p9 : lw_okq (⟨"BootMaker$Writer", "writeVolumeSector", "()V"⟩, 5) := ⟨⟨by decide +kernel, by decide +kernel⟩, List.mem_of_getElem? (i := 111) (by decide +kernel), List.mem_of_getElem? (i := 502) (by decide +kernel), List.mem_of_getElem? (i := 503) (by decide +kernel)⟩
theorem lw_p10 : lw_okq (⟨"BootMaker$Writer", "writeClusterTables", "()V"⟩, 5) := ⟨⟨by decide +kernel, by decide +kernel⟩, List.mem_of_getElem? (i := 111) (by decide +kernel), List.mem_of_getElem? (i := 518) (by decide +kernel), List.mem_of_getElem? (i := 519) (by decide +kernel)⟩
theorem lw_p11 : lw_okq (⟨"BootMaker$Writer", "writeClusterEntry", "(II)V"⟩, 5) := ⟨⟨by decide +kernel, by decide +kernel⟩, List.mem_of_getElem? (i := 111) (by decide +kernel), List.mem_of_getElem? (i := 522) (by decide +kernel), List.mem_of_getElem? (i := 523) (by decide +kernel)⟩
theorem lw_p12 : lw_okq (⟨"BootMaker$Writer", "writeFile", "(I)V"⟩, 5) := ⟨⟨by decide +kernel, by decide +kernel⟩, List.mem_of_getElem? (i := 111) (by decide +kernel), List.mem_of_getElem? (i := 528) (by decide +kernel), List.mem_of_getElem? (i := 529) (by decide +kernel)⟩
theorem lw_p13 : lw_okq (⟨"BootMaker$Writer", "writeDirectoryEntry", "(II)V"⟩, 5) := ⟨⟨by decide +kernel, by decide +kernel⟩, List.mem_of_getElem? (i := 111) (by decide +kernel), List.mem_of_getElem? (i := 533) (by decide +kernel), List.mem_of_getElem? (i := 534) (by decide +kernel)⟩
theorem lw_p14 : lw_okq (⟨"java/lang/Throwable", "fillInStackTrace", "(I)Ljava/lang/Throwable;"⟩, 6) := ⟨⟨by decide +kernel, by decide +kernel⟩, List.mem_of_getElem? (i := 616) (by decide +kernel), List.mem_of_getElem? (i := 614) (by decide +kernel), List.mem_of_getElem? (i := 615) (by decide +kernel)⟩
theorem lw_p15 : lw_okq (⟨"BootMaker$Firmware", "forget", "()V"⟩, 13) := ⟨⟨by decide +kernel, by decide +kernel⟩, List.mem_of_getElem? (i := 175) (by decide +kernel), List.mem_of_getElem? (i := 649) (by decide +kernel), List.mem_of_getElem? (i := 650) (by decide +kernel)⟩
def lw_privs_1 : List (MethodName × Nat) := [(⟨"BootMaker$Plan", "nextStart", "()I"⟩, 11), (⟨"BootMaker$Writer", "layOut", "()I"⟩, 5), (⟨"BootMaker$Volume", "placeFile", "(IIZ)V"⟩, 9), (⟨"BootMaker$Volume", "lowestFree", "(I)I"⟩, 9), (⟨"BootMaker$Writer", "writeSectorZero", "()V"⟩, 5), (⟨"BootMaker$Writer", "writeRuns", "(I)V"⟩, 5), (⟨"BootMaker$Writer", "fileSum", "(I)I"⟩, 5), (⟨"BootMaker$Writer", "writeTable", "(III)V"⟩, 5), (⟨"BootMaker$Writer", "writeEntry", "(II)V"⟩, 5), (⟨"BootMaker$Writer", "writeVolumeSector", "()V"⟩, 5), (⟨"BootMaker$Writer", "writeClusterTables", "()V"⟩, 5), (⟨"BootMaker$Writer", "writeClusterEntry", "(II)V"⟩, 5), (⟨"BootMaker$Writer", "writeFile", "(I)V"⟩, 5), (⟨"BootMaker$Writer", "writeDirectoryEntry", "(II)V"⟩, 5), (⟨"java/lang/Throwable", "fillInStackTrace", "(I)Ljava/lang/Throwable;"⟩, 6), (⟨"BootMaker$Firmware", "forget", "()V"⟩, 13)]
theorem lw_r1 : ∀ q ∈ lw_privs_1, lw_okq q := List.forall_mem_cons.mpr ⟨lw_p0, List.forall_mem_cons.mpr ⟨lw_p1, List.forall_mem_cons.mpr ⟨lw_p2, List.forall_mem_cons.mpr ⟨lw_p3, List.forall_mem_cons.mpr ⟨lw_p4, List.forall_mem_cons.mpr ⟨lw_p5, List.forall_mem_cons.mpr ⟨lw_p6, List.forall_mem_cons.mpr ⟨lw_p7, List.forall_mem_cons.mpr ⟨lw_p8, List.forall_mem_cons.mpr ⟨lw_p9, List.forall_mem_cons.mpr ⟨lw_p10, List.forall_mem_cons.mpr ⟨lw_p11, List.forall_mem_cons.mpr ⟨lw_p12, List.forall_mem_cons.mpr ⟨lw_p13, List.forall_mem_cons.mpr ⟨lw_p14, List.forall_mem_cons.mpr ⟨lw_p15, fun _ h => absurd h List.not_mem_nil⟩⟩⟩⟩⟩⟩⟩⟩⟩⟩⟩⟩⟩⟩⟩⟩
theorem lw_p16 : lw_okq (⟨"BootMaker$Firmware", "searchTable", "()I"⟩, 13) := ⟨⟨by decide +kernel, by decide +kernel⟩, List.mem_of_getElem? (i := 175) (by decide +kernel), List.mem_of_getElem? (i := 663) (by decide +kernel), List.mem_of_getElem? (i := 664) (by decide +kernel)⟩
theorem lw_p17 : lw_okq (⟨"BootMaker$Firmware", "isGoodHeader", "(I)Z"⟩, 13) := ⟨⟨by decide +kernel, by decide +kernel⟩, List.mem_of_getElem? (i := 175) (by decide +kernel), List.mem_of_getElem? (i := 668) (by decide +kernel), List.mem_of_getElem? (i := 669) (by decide +kernel)⟩
theorem lw_p18 : lw_okq (⟨"BootMaker$Firmware", "hasGoodEntries", "(I)Z"⟩, 13) := ⟨⟨by decide +kernel, by decide +kernel⟩, List.mem_of_getElem? (i := 175) (by decide +kernel), List.mem_of_getElem? (i := 681) (by decide +kernel), List.mem_of_getElem? (i := 682) (by decide +kernel)⟩
theorem lw_p19 : lw_okq (⟨"BootMaker$Firmware", "bootStartIn", "(I)I"⟩, 13) := ⟨⟨by decide +kernel, by decide +kernel⟩, List.mem_of_getElem? (i := 175) (by decide +kernel), List.mem_of_getElem? (i := 686) (by decide +kernel), List.mem_of_getElem? (i := 687) (by decide +kernel)⟩
theorem lw_p20 : lw_okq (⟨"BootMaker$Firmware", "searchLoader", "()I"⟩, 13) := ⟨⟨by decide +kernel, by decide +kernel⟩, List.mem_of_getElem? (i := 175) (by decide +kernel), List.mem_of_getElem? (i := 691) (by decide +kernel), List.mem_of_getElem? (i := 692) (by decide +kernel)⟩
theorem lw_p21 : lw_okq (⟨"BootMaker$Firmware", "collectRuns", "(II)Z"⟩, 13) := ⟨⟨by decide +kernel, by decide +kernel⟩, List.mem_of_getElem? (i := 175) (by decide +kernel), List.mem_of_getElem? (i := 697) (by decide +kernel), List.mem_of_getElem? (i := 698) (by decide +kernel)⟩
theorem lw_p22 : lw_okq (⟨"BootMaker$Firmware", "loaderSum", "(I)I"⟩, 13) := ⟨⟨by decide +kernel, by decide +kernel⟩, List.mem_of_getElem? (i := 175) (by decide +kernel), List.mem_of_getElem? (i := 702) (by decide +kernel), List.mem_of_getElem? (i := 703) (by decide +kernel)⟩
theorem lw_p23 : lw_okq (⟨"BootMaker$Firmware", "loadKernel", "()I"⟩, 13) := ⟨⟨by decide +kernel, by decide +kernel⟩, List.mem_of_getElem? (i := 175) (by decide +kernel), List.mem_of_getElem? (i := 714) (by decide +kernel), List.mem_of_getElem? (i := 715) (by decide +kernel)⟩
theorem lw_p24 : lw_okq (⟨"BootMaker$Firmware", "readVolumeSector", "()Z"⟩, 13) := ⟨⟨by decide +kernel, by decide +kernel⟩, List.mem_of_getElem? (i := 175) (by decide +kernel), List.mem_of_getElem? (i := 718) (by decide +kernel), List.mem_of_getElem? (i := 719) (by decide +kernel)⟩
theorem lw_p25 : lw_okq (⟨"BootMaker$Firmware", "kernelEntry", "()I"⟩, 13) := ⟨⟨by decide +kernel, by decide +kernel⟩, List.mem_of_getElem? (i := 175) (by decide +kernel), List.mem_of_getElem? (i := 726) (by decide +kernel), List.mem_of_getElem? (i := 727) (by decide +kernel)⟩
theorem lw_p26 : lw_okq (⟨"BootMaker$Firmware", "followChain", "(IJ)Z"⟩, 13) := ⟨⟨by decide +kernel, by decide +kernel⟩, List.mem_of_getElem? (i := 175) (by decide +kernel), List.mem_of_getElem? (i := 731) (by decide +kernel), List.mem_of_getElem? (i := 732) (by decide +kernel)⟩
theorem lw_p27 : lw_okq (⟨"BootMaker$Firmware", "clusterEntry", "(I)I"⟩, 13) := ⟨⟨by decide +kernel, by decide +kernel⟩, List.mem_of_getElem? (i := 175) (by decide +kernel), List.mem_of_getElem? (i := 735) (by decide +kernel), List.mem_of_getElem? (i := 736) (by decide +kernel)⟩
theorem lw_p28 : lw_okq (⟨"BootMaker$Firmware", "copyKernel", "(I)Z"⟩, 13) := ⟨⟨by decide +kernel, by decide +kernel⟩, List.mem_of_getElem? (i := 175) (by decide +kernel), List.mem_of_getElem? (i := 739) (by decide +kernel), List.mem_of_getElem? (i := 740) (by decide +kernel)⟩
theorem lw_p29 : lw_okq (⟨"BootMaker$Firmware", "clusterAt", "(I)I"⟩, 13) := ⟨⟨by decide +kernel, by decide +kernel⟩, List.mem_of_getElem? (i := 175) (by decide +kernel), List.mem_of_getElem? (i := 743) (by decide +kernel), List.mem_of_getElem? (i := 744) (by decide +kernel)⟩
theorem lw_p30 : lw_okq (⟨"BootMakerModel", "get", "(I)I"⟩, 24) := ⟨⟨by decide +kernel, by decide +kernel⟩, List.mem_of_getElem? (i := 775) (by decide +kernel), List.mem_of_getElem? (i := 867) (by decide +kernel), List.mem_of_getElem? (i := 868) (by decide +kernel)⟩
theorem lw_p31 : lw_okq (⟨"BootMakerModel", "sumOf", "(II)I"⟩, 24) := ⟨⟨by decide +kernel, by decide +kernel⟩, List.mem_of_getElem? (i := 775) (by decide +kernel), List.mem_of_getElem? (i := 880) (by decide +kernel), List.mem_of_getElem? (i := 881) (by decide +kernel)⟩
def lw_privs_2 : List (MethodName × Nat) := [(⟨"BootMaker$Firmware", "searchTable", "()I"⟩, 13), (⟨"BootMaker$Firmware", "isGoodHeader", "(I)Z"⟩, 13), (⟨"BootMaker$Firmware", "hasGoodEntries", "(I)Z"⟩, 13), (⟨"BootMaker$Firmware", "bootStartIn", "(I)I"⟩, 13), (⟨"BootMaker$Firmware", "searchLoader", "()I"⟩, 13), (⟨"BootMaker$Firmware", "collectRuns", "(II)Z"⟩, 13), (⟨"BootMaker$Firmware", "loaderSum", "(I)I"⟩, 13), (⟨"BootMaker$Firmware", "loadKernel", "()I"⟩, 13), (⟨"BootMaker$Firmware", "readVolumeSector", "()Z"⟩, 13), (⟨"BootMaker$Firmware", "kernelEntry", "()I"⟩, 13), (⟨"BootMaker$Firmware", "followChain", "(IJ)Z"⟩, 13), (⟨"BootMaker$Firmware", "clusterEntry", "(I)I"⟩, 13), (⟨"BootMaker$Firmware", "copyKernel", "(I)Z"⟩, 13), (⟨"BootMaker$Firmware", "clusterAt", "(I)I"⟩, 13), (⟨"BootMakerModel", "get", "(I)I"⟩, 24), (⟨"BootMakerModel", "sumOf", "(II)I"⟩, 24)]
theorem lw_r2 : ∀ q ∈ lw_privs_2, lw_okq q := List.forall_mem_cons.mpr ⟨lw_p16, List.forall_mem_cons.mpr ⟨lw_p17, List.forall_mem_cons.mpr ⟨lw_p18, List.forall_mem_cons.mpr ⟨lw_p19, List.forall_mem_cons.mpr ⟨lw_p20, List.forall_mem_cons.mpr ⟨lw_p21, List.forall_mem_cons.mpr ⟨lw_p22, List.forall_mem_cons.mpr ⟨lw_p23, List.forall_mem_cons.mpr ⟨lw_p24, List.forall_mem_cons.mpr ⟨lw_p25, List.forall_mem_cons.mpr ⟨lw_p26, List.forall_mem_cons.mpr ⟨lw_p27, List.forall_mem_cons.mpr ⟨lw_p28, List.forall_mem_cons.mpr ⟨lw_p29, List.forall_mem_cons.mpr ⟨lw_p30, List.forall_mem_cons.mpr ⟨lw_p31, fun _ h => absurd h List.not_mem_nil⟩⟩⟩⟩⟩⟩⟩⟩⟩⟩⟩⟩⟩⟩⟩⟩
theorem lw_p32 : lw_okq (⟨"BootMakerModel", "named", "(J)I"⟩, 24) := ⟨⟨by decide +kernel, by decide +kernel⟩, List.mem_of_getElem? (i := 775) (by decide +kernel), List.mem_of_getElem? (i := 907) (by decide +kernel), List.mem_of_getElem? (i := 908) (by decide +kernel)⟩
theorem lw_p33 : lw_okq (⟨"BootMakerModel", "bootPartition", "()I"⟩, 24) := ⟨⟨by decide +kernel, by decide +kernel⟩, List.mem_of_getElem? (i := 775) (by decide +kernel), List.mem_of_getElem? (i := 919) (by decide +kernel), List.mem_of_getElem? (i := 920) (by decide +kernel)⟩
theorem lw_p34 : lw_okq (⟨"BootMakerModel", "given", "()Z"⟩, 24) := ⟨⟨by decide +kernel, by decide +kernel⟩, List.mem_of_getElem? (i := 775) (by decide +kernel), List.mem_of_getElem? (i := 926) (by decide +kernel), List.mem_of_getElem? (i := 927) (by decide +kernel)⟩
theorem lw_p35 : lw_okq (⟨"BootMakerModel", "lowestFree", "(I)I"⟩, 24) := ⟨⟨by decide +kernel, by decide +kernel⟩, List.mem_of_getElem? (i := 775) (by decide +kernel), List.mem_of_getElem? (i := 933) (by decide +kernel), List.mem_of_getElem? (i := 934) (by decide +kernel)⟩
theorem lw_p36 : lw_okq (⟨"BootMakerModel", "runs", "(I)I"⟩, 24) := ⟨⟨by decide +kernel, by decide +kernel⟩, List.mem_of_getElem? (i := 775) (by decide +kernel), List.mem_of_getElem? (i := 941) (by decide +kernel), List.mem_of_getElem? (i := 942) (by decide +kernel)⟩
theorem lw_p37 : lw_okq (⟨"BootMakerModel", "sectorOf", "(II)I"⟩, 24) := ⟨⟨by decide +kernel, by decide +kernel⟩, List.mem_of_getElem? (i := 775) (by decide +kernel), List.mem_of_getElem? (i := 945) (by decide +kernel), List.mem_of_getElem? (i := 946) (by decide +kernel)⟩
theorem lw_p38 : lw_okq (⟨"BootMakerModel", "lay", "(I)V"⟩, 24) := ⟨⟨by decide +kernel, by decide +kernel⟩, List.mem_of_getElem? (i := 775) (by decide +kernel), List.mem_of_getElem? (i := 949) (by decide +kernel), List.mem_of_getElem? (i := 950) (by decide +kernel)⟩
theorem lw_p39 : lw_okq (⟨"BootMakerModel", "text", "(IIJI)V"⟩, 24) := ⟨⟨by decide +kernel, by decide +kernel⟩, List.mem_of_getElem? (i := 775) (by decide +kernel), List.mem_of_getElem? (i := 954) (by decide +kernel), List.mem_of_getElem? (i := 955) (by decide +kernel)⟩
theorem lw_p40 : lw_okq (⟨"BootMakerModel", "low", "(IIJ)V"⟩, 24) := ⟨⟨by decide +kernel, by decide +kernel⟩, List.mem_of_getElem? (i := 775) (by decide +kernel), List.mem_of_getElem? (i := 959) (by decide +kernel), List.mem_of_getElem? (i := 960) (by decide +kernel)⟩
theorem lw_p41 : lw_okq (⟨"BootMakerModel", "entry", "(III)V"⟩, 24) := ⟨⟨by decide +kernel, by decide +kernel⟩, List.mem_of_getElem? (i := 775) (by decide +kernel), List.mem_of_getElem? (i := 966) (by decide +kernel), List.mem_of_getElem? (i := 967) (by decide +kernel)⟩
theorem lw_p42 : lw_okq (⟨"BootMakerModel", "byteOf", "(II)I"⟩, 24) := ⟨⟨by decide +kernel, by decide +kernel⟩, List.mem_of_getElem? (i := 775) (by decide +kernel), List.mem_of_getElem? (i := 972) (by decide +kernel), List.mem_of_getElem? (i := 973) (by decide +kernel)⟩
theorem lw_p43 : lw_okq (⟨"BootMakerModel", "beginning", "(I)V"⟩, 24) := ⟨⟨by decide +kernel, by decide +kernel⟩, List.mem_of_getElem? (i := 775) (by decide +kernel), List.mem_of_getElem? (i := 980) (by decide +kernel), List.mem_of_getElem? (i := 981) (by decide +kernel)⟩
theorem lw_p44 : lw_okq (⟨"BootMakerModel", "lowAt", "(II)J"⟩, 24) := ⟨⟨by decide +kernel, by decide +kernel⟩, List.mem_of_getElem? (i := 775) (by decide +kernel), List.mem_of_getElem? (i := 984) (by decide +kernel), List.mem_of_getElem? (i := 985) (by decide +kernel)⟩
theorem lw_p45 : lw_okq (⟨"BootMakerModel", "word", "(IIIII)V"⟩, 24) := ⟨⟨by decide +kernel, by decide +kernel⟩, List.mem_of_getElem? (i := 775) (by decide +kernel), List.mem_of_getElem? (i := 988) (by decide +kernel), List.mem_of_getElem? (i := 989) (by decide +kernel)⟩
theorem lw_p46 : lw_okq (⟨"BootMakerModel", "tables", "()V"⟩, 24) := ⟨⟨by decide +kernel, by decide +kernel⟩, List.mem_of_getElem? (i := 775) (by decide +kernel), List.mem_of_getElem? (i := 992) (by decide +kernel), List.mem_of_getElem? (i := 993) (by decide +kernel)⟩
theorem lw_p47 : lw_okq (⟨"BootMakerModel", "byTable", "()I"⟩, 24) := ⟨⟨by decide +kernel, by decide +kernel⟩, List.mem_of_getElem? (i := 775) (by decide +kernel), List.mem_of_getElem? (i := 1010) (by decide +kernel), List.mem_of_getElem? (i := 1011) (by decide +kernel)⟩
def lw_privs_3 : List (MethodName × Nat) := [(⟨"BootMakerModel", "named", "(J)I"⟩, 24), (⟨"BootMakerModel", "bootPartition", "()I"⟩, 24), (⟨"BootMakerModel", "given", "()Z"⟩, 24), (⟨"BootMakerModel", "lowestFree", "(I)I"⟩, 24), (⟨"BootMakerModel", "runs", "(I)I"⟩, 24), (⟨"BootMakerModel", "sectorOf", "(II)I"⟩, 24), (⟨"BootMakerModel", "lay", "(I)V"⟩, 24), (⟨"BootMakerModel", "text", "(IIJI)V"⟩, 24), (⟨"BootMakerModel", "low", "(IIJ)V"⟩, 24), (⟨"BootMakerModel", "entry", "(III)V"⟩, 24), (⟨"BootMakerModel", "byteOf", "(II)I"⟩, 24), (⟨"BootMakerModel", "beginning", "(I)V"⟩, 24), (⟨"BootMakerModel", "lowAt", "(II)J"⟩, 24), (⟨"BootMakerModel", "word", "(IIIII)V"⟩, 24), (⟨"BootMakerModel", "tables", "()V"⟩, 24), (⟨"BootMakerModel", "byTable", "()I"⟩, 24)]
theorem lw_r3 : ∀ q ∈ lw_privs_3, lw_okq q := List.forall_mem_cons.mpr ⟨lw_p32, List.forall_mem_cons.mpr ⟨lw_p33, List.forall_mem_cons.mpr ⟨lw_p34, List.forall_mem_cons.mpr ⟨lw_p35, List.forall_mem_cons.mpr ⟨lw_p36, List.forall_mem_cons.mpr ⟨lw_p37, List.forall_mem_cons.mpr ⟨lw_p38, List.forall_mem_cons.mpr ⟨lw_p39, List.forall_mem_cons.mpr ⟨lw_p40, List.forall_mem_cons.mpr ⟨lw_p41, List.forall_mem_cons.mpr ⟨lw_p42, List.forall_mem_cons.mpr ⟨lw_p43, List.forall_mem_cons.mpr ⟨lw_p44, List.forall_mem_cons.mpr ⟨lw_p45, List.forall_mem_cons.mpr ⟨lw_p46, List.forall_mem_cons.mpr ⟨lw_p47, fun _ h => absurd h List.not_mem_nil⟩⟩⟩⟩⟩⟩⟩⟩⟩⟩⟩⟩⟩⟩⟩⟩
theorem lw_p48 : lw_okq (⟨"BootMakerModel", "isGood", "(I)Z"⟩, 24) := ⟨⟨by decide +kernel, by decide +kernel⟩, List.mem_of_getElem? (i := 775) (by decide +kernel), List.mem_of_getElem? (i := 1014) (by decide +kernel), List.mem_of_getElem? (i := 1015) (by decide +kernel)⟩
theorem lw_p49 : lw_okq (⟨"BootMakerModel", "byLoader", "()I"⟩, 24) := ⟨⟨by decide +kernel, by decide +kernel⟩, List.mem_of_getElem? (i := 775) (by decide +kernel), List.mem_of_getElem? (i := 1018) (by decide +kernel), List.mem_of_getElem? (i := 1019) (by decide +kernel)⟩
theorem lw_p50 : lw_okq (⟨"BootMakerModel", "runAt", "(I)I"⟩, 24) := ⟨⟨by decide +kernel, by decide +kernel⟩, List.mem_of_getElem? (i := 775) (by decide +kernel), List.mem_of_getElem? (i := 1024) (by decide +kernel), List.mem_of_getElem? (i := 1025) (by decide +kernel)⟩
theorem lw_p51 : lw_okq (⟨"BootMakerModel", "loaded", "()I"⟩, 24) := ⟨⟨by decide +kernel, by decide +kernel⟩, List.mem_of_getElem? (i := 775) (by decide +kernel), List.mem_of_getElem? (i := 1028) (by decide +kernel), List.mem_of_getElem? (i := 1029) (by decide +kernel)⟩
theorem lw_p52 : lw_okq (⟨"BootMakerModel", "kernelEntry", "(I)I"⟩, 24) := ⟨⟨by decide +kernel, by decide +kernel⟩, List.mem_of_getElem? (i := 775) (by decide +kernel), List.mem_of_getElem? (i := 1032) (by decide +kernel), List.mem_of_getElem? (i := 1033) (by decide +kernel)⟩
theorem lw_p53 : lw_okq (⟨"BootMakerModel", "entryAt", "(II)I"⟩, 24) := ⟨⟨by decide +kernel, by decide +kernel⟩, List.mem_of_getElem? (i := 775) (by decide +kernel), List.mem_of_getElem? (i := 1037) (by decide +kernel), List.mem_of_getElem? (i := 1038) (by decide +kernel)⟩
def lw_privs_4 : List (MethodName × Nat) := [(⟨"BootMakerModel", "isGood", "(I)Z"⟩, 24), (⟨"BootMakerModel", "byLoader", "()I"⟩, 24), (⟨"BootMakerModel", "runAt", "(I)I"⟩, 24), (⟨"BootMakerModel", "loaded", "()I"⟩, 24), (⟨"BootMakerModel", "kernelEntry", "(I)I"⟩, 24), (⟨"BootMakerModel", "entryAt", "(II)I"⟩, 24)]
theorem lw_r4 : ∀ q ∈ lw_privs_4, lw_okq q := List.forall_mem_cons.mpr ⟨lw_p48, List.forall_mem_cons.mpr ⟨lw_p49, List.forall_mem_cons.mpr ⟨lw_p50, List.forall_mem_cons.mpr ⟨lw_p51, List.forall_mem_cons.mpr ⟨lw_p52, List.forall_mem_cons.mpr ⟨lw_p53, fun _ h => absurd h List.not_mem_nil⟩⟩⟩⟩⟩⟩
def lw_privs : List (MethodName × Nat) := lw_privs_1 ++ (lw_privs_2 ++ (lw_privs_3 ++ (lw_privs_4)))
def lw_tbl : List Cond := k2_sels lw_privs ++ tables_1
theorem lw_privs_ok : ∀ q ∈ lw_privs, lw_okq q := by
  show ∀ q ∈ lw_privs_1 ++ (lw_privs_2 ++ (lw_privs_3 ++ (lw_privs_4))), lw_okq q
  exact List.forall_mem_append.mpr ⟨lw_r1, List.forall_mem_append.mpr ⟨lw_r2, List.forall_mem_append.mpr ⟨lw_r3, lw_r4⟩⟩⟩
end
section
/-! my own rows over the kit: a pure function's run (hf) is carried along the walk; a contract is the function's value -/
def lt_ {α β : Type} (a : α) (f : α → β) : β := f a
def bd_ {α β : Type} (o : Option α) (f : α → Option β) : Option β := o.bind f
def ix_ {α β : Type} (n : Nat) (f : Nat → α) (i : Int32) (K : α → Option β) : Option β := if i < 0 ∨ n ≤ i.toNatClampNeg then none else K (f i.toNatClampNeg)
def up_i {β : Type} (n : Nat) (f : Nat → Int32) (i : Int32) (x : Int32) (K : (Nat → Int32) → Option β) : Option β := if i < 0 ∨ n ≤ i.toNatClampNeg then none else K (upd f i.toNatClampNeg x)
def up_b {β : Type} (n : Nat) (f : Nat → Int32) (i : Int32) (x : Int32) (K : (Nat → Int32) → Option β) : Option β := if i < 0 ∨ n ≤ i.toNatClampNeg then none else K (upd f i.toNatClampNeg (vp_nar .byte x))
def up_z {β : Type} (n : Nat) (f : Nat → Int32) (i : Int32) (x : Int32) (K : (Nat → Int32) → Option β) : Option β := if i < 0 ∨ n ≤ i.toNatClampNeg then none else K (upd f i.toNatClampNeg (vp_nar .boolean x))
def up_l {β : Type} (n : Nat) (f : Nat → Int64) (i : Int32) (x : Int64) (K : (Nat → Int64) → Option β) : Option β := if i < 0 ∨ n ≤ i.toNatClampNeg then none else K (vp_updL f i.toNatClampNeg x)
def lp_ {F : Type} (z : F) (b : F → F) : Nat → F
  | 0 => z
  | n + 1 => b (lp_ z b n)
theorem bd_s {α β : Type} {o : Option α} {f : α → Option β} {z : β} (h : bd_ o f = some z) : ∃ u, o = some u ∧ f u = some z := by
  cases o with
  | none => cases h
  | some u => exact ⟨u, rfl, h⟩
theorem ix_s {α β : Type} {n : Nat} {f : Nat → α} {i : Int32} {K : α → Option β} {z : β} (h : ix_ n f i K = some z) : vp_in i n ∧ K (f i.toNatClampNeg) = some z := by
  unfold ix_ at h
  by_cases hc : i < 0 ∨ n ≤ i.toNatClampNeg
  · rw [if_pos hc] at h; cases h
  · rw [if_neg hc] at h; exact ⟨hc, h⟩
theorem upi_s {β : Type} {n : Nat} {f : Nat → Int32} {i x : Int32} {K : (Nat → Int32) → Option β} {z : β} (h : up_i n f i x K = some z) : vp_in i n ∧ K (upd f i.toNatClampNeg x) = some z := by
  unfold up_i at h
  by_cases hc : i < 0 ∨ n ≤ i.toNatClampNeg
  · rw [if_pos hc] at h; cases h
  · rw [if_neg hc] at h; exact ⟨hc, h⟩
theorem upb_s {β : Type} {n : Nat} {f : Nat → Int32} {i x : Int32} {K : (Nat → Int32) → Option β} {z : β} (h : up_b n f i x K = some z) : vp_in i n ∧ K (upd f i.toNatClampNeg (vp_nar .byte x)) = some z := by
  unfold up_b at h
  by_cases hc : i < 0 ∨ n ≤ i.toNatClampNeg
  · rw [if_pos hc] at h; cases h
  · rw [if_neg hc] at h; exact ⟨hc, h⟩
theorem upz_s {β : Type} {n : Nat} {f : Nat → Int32} {i x : Int32} {K : (Nat → Int32) → Option β} {z : β} (h : up_z n f i x K = some z) : vp_in i n ∧ K (upd f i.toNatClampNeg (vp_nar .boolean x)) = some z := by
  unfold up_z at h
  by_cases hc : i < 0 ∨ n ≤ i.toNatClampNeg
  · rw [if_pos hc] at h; cases h
  · rw [if_neg hc] at h; exact ⟨hc, h⟩
theorem upl_s {β : Type} {n : Nat} {f : Nat → Int64} {i : Int32} {x : Int64} {K : (Nat → Int64) → Option β} {z : β} (h : up_l n f i x K = some z) : vp_in i n ∧ K (vp_updL f i.toNatClampNeg x) = some z := by
  unfold up_l at h
  by_cases hc : i < 0 ∨ n ≤ i.toNatClampNeg
  · rw [if_pos hc] at h; cases h
  · rw [if_neg hc] at h; exact ⟨hc, h⟩
/-- what stays true of a state while nothing outside A changes -/
def Ee (E : (Nat → Prop) → State → Prop) : Prop := ∀ (A B : Nat → Prop) (u U : State), (∀ q : Nat, B q → A q) → u.vm.Alike U.vm → (∀ a : Nat, a < u.heap.size → ¬ A a → U.heap[a]? = u.heap[a]?) → E A u → E B U
def Gd (Wl : List Cond) : Prop := ∀ w ∈ Wl, (w.onTables && w.keeps) = true ∨ ∃ ty, w = .arrayClass ty
def CX (p : Program) (m : MethodId) (c : Code) (cc : ByteArray) (nL : Nat) (s : State) (args : Array Value) (Wl : List Cond) (own : String) (D : va_G) (cl : List vw_C) (tys : List (ClassId × FieldType)) (E : (Nat → Prop) → State → Prop) (A : Nat → Prop) : Prop :=
  CallFix p m c cc nL s args Wl own ∧ Gd Wl ∧ va_K D cl tys s ∧ (∀ q : Nat, s.heap.size ≤ q → A q) ∧ Ee E ∧ E A s
def WS (D : va_G) (cl : List vw_C) (A : Nat → Prop) (H0 H : Heap) (locs : List Loc) (ws : va_W) : Prop := va_P D cl ws H ∧ va_D A ws ∧ va_S A H0 H locs
def CQ (D : va_G) (cl : List vw_C) (tys : List (ClassId × FieldType)) (o : Option Value) (w1 : va_W) (A : Nat → Prop) : Array Value → State → Outcome → State → Prop := fun _ st oc t =>
  (oc = .returned o ∧ va_P D cl w1 t.heap ∧ va_K D cl tys t ∧ va_D A w1) ∧ va_F A st t
def CP (D : va_G) (cl : List vw_C) (tys : List (ClassId × FieldType)) (E : (Nat → Prop) → State → Prop) (av : List Value) (w0 : va_W) (sz : Nat) : Array Value → State → Prop :=
  va_Pc av (fun U => U.heap.size = sz ∧ va_P D cl w0 U.heap ∧ va_K D cl tys U ∧ va_D (fun _ => True) w0 ∧ E (va_A w0 sz) U)
/-- a contract: at these arguments, in this world, the method answers o and leaves the world w1 -/
def Ct (l : Launch) (y : MethodName) (ws : List Cond) (rm : Room) (D : va_G) (cl : List vw_C) (tys : List (ClassId × FieldType)) (E : (Nat → Prop) → State → Prop) (av : List Value) (w0 : va_W) (o : Option Value) (w1 : va_W) : Prop :=
  ∀ sz : Nat, Met l y ws rm (CP D cl tys E av w0 sz) (CQ D cl tys o w1 (va_A w0 sz)) 0 0 (va_A w0 sz)
theorem CP.blind {D : va_G} {cl : List vw_C} {tys : List (ClassId × FieldType)} {E : (Nat → Prop) → State → Prop} {av : List Value} {w0 : va_W} {sz : Nat} (hE : Ee E) : FrameBlind (CP D cl tys E av w0 sz) := by
  intro a U g mk q
  obtain ⟨q0, q1, qP, qK, qD, qE⟩ := q
  exact ⟨q0, q1, qP, va_K.moved (u := U) (U := U.calling g mk a) (Vm.Alike.refl U.vm) qK, qD, hE _ _ U _ (fun _ h => h) (Vm.Alike.refl U.vm) (fun _ _ _ => rfl) qE⟩
theorem Ct.ofI {l : Launch} {y : MethodName} {ws Wl : List Cond} {rm : Room} {D : va_G} {cl : List vw_C} {tys : List (ClassId × FieldType)} {E : (Nat → Prop) → State → Prop} {av : List Value} {w0 w1 : va_W} {r : Int32} {cc : ByteArray} {maxL : Nat} {ty : FieldType}
    (hEe : Ee E) (hGd : Gd Wl) (hy : plainName y.cls = true) (hw : ws = Cond.code y cc maxL (some ty) :: Wl) (hlen : (lg_sl av).length ≤ maxL)
    (body : ∀ (p : Program) (e : Env) (s : State) (m : MethodId) (args : Array Value) (below : List Frame) (meth : Method) (c : Code) (A : Nat → Prop) (ls : Array Slot) (Q : State → Prop), CX p m c cc maxL s args Wl y.cls D cl tys E A → WS D cl A s.heap s.heap [] w0 → lv_has ls maxL (lv_args 0 av) →
      (∀ (H : Heap) (locs : List Loc) (pc : Nat) (ls : Array Slot), WS D cl A s.heap H locs w1 → narrow ty (.int r) = .int r → decode cc pc = .ok (.ireturn, 1) → W p l e rm s m args below meth c H locs 0 0 Q (F0 m pc ls [.int r])) →
      W p l e rm s m args below meth c s.heap [] 0 0 Q (F0 m 0 ls [])) : Ct l y ws rm D cl tys E av w0 (some (.int r)) w1 := by
  intro sz
  refine Met.ofW (cc := cc) (maxL := maxL) (ret := some ty) hy hw ?_
  intro p e s m args below meth c s₁ B hml hv
  obtain ⟨rfl, hsz, hP, hK, hD0, hE⟩ := hv
  have hts := atoms_spec (ws := ws) B.pre
  subst hsz
  have hD := hD0.self (sz := s.heap.size)
  rw [lg_entry_eq]
  refine body p e s m av.toArray below meth c (va_A w0 s.heap.size) _ _ ⟨⟨B.exec, B.bytes, hml, findClass_of_methodNamed B.named, fun w h => hts w (by rw [hw]; exact List.mem_cons_of_mem _ h)⟩, hGd, hK, fun q h => Or.inr h, hEe, hE⟩ ⟨hP, hD, va_S.rf⟩ (lv_entry av hlen) (fun H locs pc ls hW hn hdg => ?_)
  exact W.zret B.exec B.bytes B.returns hn (fun t ht hw' => ⟨⟨rfl, by rw [ht]; exact hW.1, va_K.moved hw'.alike hK, hW.2.1⟩, hW.2.2.F ht⟩) hW.2.2.2.2 hdg
theorem Ct.ofL {l : Launch} {y : MethodName} {ws Wl : List Cond} {rm : Room} {D : va_G} {cl : List vw_C} {tys : List (ClassId × FieldType)} {E : (Nat → Prop) → State → Prop} {av : List Value} {w0 w1 : va_W} {r : Int64} {cc : ByteArray} {maxL : Nat}
    (hEe : Ee E) (hGd : Gd Wl) (hy : plainName y.cls = true) (hw : ws = Cond.code y cc maxL (some .long) :: Wl) (hlen : (lg_sl av).length ≤ maxL)
    (body : ∀ (p : Program) (e : Env) (s : State) (m : MethodId) (args : Array Value) (below : List Frame) (meth : Method) (c : Code) (A : Nat → Prop) (ls : Array Slot) (Q : State → Prop), CX p m c cc maxL s args Wl y.cls D cl tys E A → WS D cl A s.heap s.heap [] w0 → lv_has ls maxL (lv_args 0 av) →
      (∀ (H : Heap) (locs : List Loc) (pc : Nat) (ls : Array Slot), WS D cl A s.heap H locs w1 → decode cc pc = .ok (.lreturn, 1) → W p l e rm s m args below meth c H locs 0 0 Q (F0 m pc ls [.long r])) →
      W p l e rm s m args below meth c s.heap [] 0 0 Q (F0 m 0 ls [])) : Ct l y ws rm D cl tys E av w0 (some (.long r)) w1 := by
  intro sz
  refine Met.ofW (cc := cc) (maxL := maxL) (ret := some .long) hy hw ?_
  intro p e s m args below meth c s₁ B hml hv
  obtain ⟨rfl, hsz, hP, hK, hD0, hE⟩ := hv
  have hts := atoms_spec (ws := ws) B.pre
  subst hsz
  have hD := hD0.self (sz := s.heap.size)
  rw [lg_entry_eq]
  refine body p e s m av.toArray below meth c (va_A w0 s.heap.size) _ _ ⟨⟨B.exec, B.bytes, hml, findClass_of_methodNamed B.named, fun w h => hts w (by rw [hw]; exact List.mem_cons_of_mem _ h)⟩, hGd, hK, fun q h => Or.inr h, hEe, hE⟩ ⟨hP, hD, va_S.rf⟩ (lv_entry av hlen) (fun H locs pc ls hW hdg => ?_)
  exact W.lret B.exec B.bytes B.returns (fun t ht hw' => ⟨⟨rfl, by rw [ht]; exact hW.1, va_K.moved hw'.alike hK, hW.2.1⟩, hW.2.2.F ht⟩) hW.2.2.2.2 hdg
theorem Ct.ofV {l : Launch} {y : MethodName} {ws Wl : List Cond} {rm : Room} {D : va_G} {cl : List vw_C} {tys : List (ClassId × FieldType)} {E : (Nat → Prop) → State → Prop} {av : List Value} {w0 w1 : va_W} {cc : ByteArray} {maxL : Nat}
    (hEe : Ee E) (hGd : Gd Wl) (hy : plainName y.cls = true) (hw : ws = Cond.code y cc maxL none :: Wl) (hlen : (lg_sl av).length ≤ maxL)
    (body : ∀ (p : Program) (e : Env) (s : State) (m : MethodId) (args : Array Value) (below : List Frame) (meth : Method) (c : Code) (A : Nat → Prop) (ls : Array Slot) (Q : State → Prop), CX p m c cc maxL s args Wl y.cls D cl tys E A → WS D cl A s.heap s.heap [] w0 → lv_has ls maxL (lv_args 0 av) →
      (∀ (H : Heap) (locs : List Loc) (pc : Nat) (ls : Array Slot), WS D cl A s.heap H locs w1 → decode cc pc = .ok (.return_, 1) → W p l e rm s m args below meth c H locs 0 0 Q (F0 m pc ls [])) →
      W p l e rm s m args below meth c s.heap [] 0 0 Q (F0 m 0 ls [])) : Ct l y ws rm D cl tys E av w0 none w1 := by
  intro sz
  refine Met.ofW (cc := cc) (maxL := maxL) (ret := none) hy hw ?_
  intro p e s m args below meth c s₁ B hml hv
  obtain ⟨rfl, hsz, hP, hK, hD0, hE⟩ := hv
  have hts := atoms_spec (ws := ws) B.pre
  subst hsz
  have hD := hD0.self (sz := s.heap.size)
  rw [lg_entry_eq]
  refine body p e s m av.toArray below meth c (va_A w0 s.heap.size) _ _ ⟨⟨B.exec, B.bytes, hml, findClass_of_methodNamed B.named, fun w h => hts w (by rw [hw]; exact List.mem_cons_of_mem _ h)⟩, hGd, hK, fun q h => Or.inr h, hEe, hE⟩ ⟨hP, hD, va_S.rf⟩ (lv_entry av hlen) (fun H locs pc ls hW hdg => ?_)
  exact W.vret B.exec B.bytes B.returns (fun t ht hw' => ⟨⟨rfl, by rw [ht]; exact hW.1, va_K.moved hw'.alike hK, hW.2.1⟩, hW.2.2.F ht⟩) hW.2.2.2.2 hdg

section QR
variable {p : Program} {l : Launch} {e : Env} {R : Room} {s : State} {m : MethodId} {args : Array Value} {below : List Frame} {meth : Method} {c : Code} {H : Heap} {locs : List Loc} {cells slots : Nat} {Q : State → Prop}
variable {cc : ByteArray} {nL : Nat} {Wl : List Cond} {own : String} {D : va_G} {cl : List vw_C} {tys : List (ClassId × FieldType)} {E : (Nat → Prop) → State → Prop} {A : Nat → Prop} {pc : Nat} {ls : Array Slot} {rest : List Value} {β : Type} {z : β} {ws : va_W}
theorem n_iconst (hC : CX p m c cc nL s args Wl own D cl tys E A) {n : Int} (v : Int32) (hdg : decode cc pc = .ok (.iconst n, 1)) (hv : Int32.ofInt n = v) (k : W p l e R s m args below meth c H locs cells slots Q (F0 m (pc + 1) ls (.int v :: rest))) : W p l e R s m args below meth c H locs cells slots Q (F0 m pc ls (rest)) := lv_iconst hC.1.1 hC.1.2.1 hdg hv k
theorem n_bipush (hC : CX p m c cc nL s args Wl own D cl tys E A) {n : Int} (v : Int32) (hdg : decode cc pc = .ok (.bipush n, 2)) (hv : (Int8.ofInt n).toInt32 = v) (k : W p l e R s m args below meth c H locs cells slots Q (F0 m (pc + 2) ls (.int v :: rest))) : W p l e R s m args below meth c H locs cells slots Q (F0 m pc ls (rest)) := lv_bipush hC.1.1 hC.1.2.1 hdg hv k
theorem n_sipush (hC : CX p m c cc nL s args Wl own D cl tys E A) {n : Int} (v : Int32) (hdg : decode cc pc = .ok (.sipush n, 3)) (hv : (Int16.ofInt n).toInt32 = v) (k : W p l e R s m args below meth c H locs cells slots Q (F0 m (pc + 3) ls (.int v :: rest))) : W p l e R s m args below meth c H locs cells slots Q (F0 m pc ls (rest)) := lv_sipush hC.1.1 hC.1.2.1 hdg hv k
theorem n_lconst (hC : CX p m c cc nL s args Wl own D cl tys E A) {n : Fin 2} (v : Int64) (hdg : decode cc pc = .ok (.lconst n, 1)) (hv : Int64.ofNat (n : Nat) = v) (k : W p l e R s m args below meth c H locs cells slots Q (F0 m (pc + 1) ls (.long v :: rest))) : W p l e R s m args below meth c H locs cells slots Q (F0 m pc ls (rest)) := lv_lconst hC.1.1 hC.1.2.1 hdg hv k
theorem n_ldc (hC : CX p m c cc nL s args Wl own D cl tys E A) {index : Nat} (v : Int32) (hm : Jvm.Cond.constant own index v ∈ Wl) (hdg : decode cc pc = .ok (.ldc index, 2)) (k : W p l e R s m args below meth c H locs cells slots Q (F0 m (pc + 2) ls (.int v :: rest))) : W p l e R s m args below meth c H locs cells slots Q (F0 m pc ls (rest)) := lv_ldc hC.1.1 hC.1.2.1 hC.1.2.2.2.1 (hC.1.2.2.2.2 _ hm) hdg k
theorem n_ldc2 (hC : CX p m c cc nL s args Wl own D cl tys E A) {index : Nat} (v : Int64) (hm : Jvm.Cond.constantLong own index v ∈ Wl) (hdg : decode cc pc = .ok (.ldc2_w index, 3)) (k : W p l e R s m args below meth c H locs cells slots Q (F0 m (pc + 3) ls (.long v :: rest))) : W p l e R s m args below meth c H locs cells slots Q (F0 m pc ls (rest)) := lv_ldc2 hC.1.1 hC.1.2.1 hC.1.2.2.2.1 (hC.1.2.2.2.2 _ hm) hdg k
theorem n_iload_n (hC : CX p m c cc nL s args Wl own D cl tys E A) {k : Fin 4} {i : Nat} {x : Int32} {lv : List (Nat × Value)} (hl : lv_has ls nL lv) (q : Nat) (hdg : decode cc pc = .ok (.iload_n k, 1)) (hi : (k : Nat) = i) (hq : lv[q]? = some (i, .int x)) (kk : W p l e R s m args below meth c H locs cells slots Q (F0 m (pc + 1) ls (.int x :: rest))) : W p l e R s m args below meth c H locs cells slots Q (F0 m pc ls (rest)) := lv_iload_n hC.1.1 hC.1.2.1 hdg hi (lv_at hl q hq) kk
theorem n_iload (hC : CX p m c cc nL s args Wl own D cl tys E A) {i : Nat} {x : Int32} {lv : List (Nat × Value)} (hl : lv_has ls nL lv) (q : Nat) (hdg : decode cc pc = .ok (.iload i, 2)) (hq : lv[q]? = some (i, .int x)) (kk : W p l e R s m args below meth c H locs cells slots Q (F0 m (pc + 2) ls (.int x :: rest))) : W p l e R s m args below meth c H locs cells slots Q (F0 m pc ls (rest)) := lv_iload hC.1.1 hC.1.2.1 hdg (lv_at hl q hq) kk
theorem n_istore_n (hC : CX p m c cc nL s args Wl own D cl tys E A) {k : Fin 4} {i : Nat} {x : Int32} {lv : List (Nat × Value)} (lv' : List (Nat × Value)) (hl : lv_has ls nL lv) (hdg : decode cc pc = .ok (.istore_n k, 1)) (hi : (k : Nat) = i) (hn : i < nL) (he : (i, Value.int x) :: lv.filter (fun q => !(q.1 == i) && !(q.1 + 1 == i && q.2.category == 2)) = lv') (kk : ∀ ls : Array Slot, lv_has ls nL lv' → W p l e R s m args below meth c H locs cells slots Q (F0 m (pc + 1) ls (rest))) : W p l e R s m args below meth c H locs cells slots Q (F0 m pc ls (.int x :: rest)) := lv_istore_n hC.1.1 hC.1.2.1 hdg hi hl hn he kk
theorem n_istore (hC : CX p m c cc nL s args Wl own D cl tys E A) {i : Nat} {x : Int32} {lv : List (Nat × Value)} (lv' : List (Nat × Value)) (hl : lv_has ls nL lv) (hdg : decode cc pc = .ok (.istore i, 2)) (hn : i < nL) (he : (i, Value.int x) :: lv.filter (fun q => !(q.1 == i) && !(q.1 + 1 == i && q.2.category == 2)) = lv') (kk : ∀ ls : Array Slot, lv_has ls nL lv' → W p l e R s m args below meth c H locs cells slots Q (F0 m (pc + 2) ls (rest))) : W p l e R s m args below meth c H locs cells slots Q (F0 m pc ls (.int x :: rest)) := lv_istore hC.1.1 hC.1.2.1 hdg hl hn he kk
theorem n_lload_n (hC : CX p m c cc nL s args Wl own D cl tys E A) {k : Fin 4} {i : Nat} {x : Int64} {lv : List (Nat × Value)} (hl : lv_has ls nL lv) (q : Nat) (hdg : decode cc pc = .ok (.lload_n k, 1)) (hi : (k : Nat) = i) (hq : lv[q]? = some (i, .long x)) (kk : W p l e R s m args below meth c H locs cells slots Q (F0 m (pc + 1) ls (.long x :: rest))) : W p l e R s m args below meth c H locs cells slots Q (F0 m pc ls (rest)) := lv_lload_n hC.1.1 hC.1.2.1 hdg hi (lv_at hl q hq) kk
theorem n_lload (hC : CX p m c cc nL s args Wl own D cl tys E A) {i : Nat} {x : Int64} {lv : List (Nat × Value)} (hl : lv_has ls nL lv) (q : Nat) (hdg : decode cc pc = .ok (.lload i, 2)) (hq : lv[q]? = some (i, .long x)) (kk : W p l e R s m args below meth c H locs cells slots Q (F0 m (pc + 2) ls (.long x :: rest))) : W p l e R s m args below meth c H locs cells slots Q (F0 m pc ls (rest)) := lv_lload hC.1.1 hC.1.2.1 hdg (lv_at hl q hq) kk
theorem n_lstore_n (hC : CX p m c cc nL s args Wl own D cl tys E A) {k : Fin 4} {i : Nat} {x : Int64} {lv : List (Nat × Value)} (lv' : List (Nat × Value)) (hl : lv_has ls nL lv) (hdg : decode cc pc = .ok (.lstore_n k, 1)) (hi : (k : Nat) = i) (hn : i + 1 < nL) (he : (i, Value.long x) :: lv.filter (fun q => !(q.1 == i) && (!(q.1 == i + 1) && !(q.1 + 1 == i && q.2.category == 2))) = lv') (kk : ∀ ls : Array Slot, lv_has ls nL lv' → W p l e R s m args below meth c H locs cells slots Q (F0 m (pc + 1) ls (rest))) : W p l e R s m args below meth c H locs cells slots Q (F0 m pc ls (.long x :: rest)) := lv_lstore_n hC.1.1 hC.1.2.1 hdg hi hl hn he kk
theorem n_lstore (hC : CX p m c cc nL s args Wl own D cl tys E A) {i : Nat} {x : Int64} {lv : List (Nat × Value)} (lv' : List (Nat × Value)) (hl : lv_has ls nL lv) (hdg : decode cc pc = .ok (.lstore i, 2)) (hn : i + 1 < nL) (he : (i, Value.long x) :: lv.filter (fun q => !(q.1 == i) && (!(q.1 == i + 1) && !(q.1 + 1 == i && q.2.category == 2))) = lv') (kk : ∀ ls : Array Slot, lv_has ls nL lv' → W p l e R s m args below meth c H locs cells slots Q (F0 m (pc + 2) ls (rest))) : W p l e R s m args below meth c H locs cells slots Q (F0 m pc ls (.long x :: rest)) := lv_lstore hC.1.1 hC.1.2.1 hdg hl hn he kk
theorem n_aload_n (hC : CX p m c cc nL s args Wl own D cl tys E A) {k : Fin 4} {i : Nat} {x : Nat} {lv : List (Nat × Value)} (hl : lv_has ls nL lv) (q : Nat) (hdg : decode cc pc = .ok (.aload_n k, 1)) (hi : (k : Nat) = i) (hq : lv[q]? = some (i, .ref x)) (kk : W p l e R s m args below meth c H locs cells slots Q (F0 m (pc + 1) ls (.ref x :: rest))) : W p l e R s m args below meth c H locs cells slots Q (F0 m pc ls (rest)) := lv_aload_n hC.1.1 hC.1.2.1 hdg hi (lv_at hl q hq) kk
theorem n_aload (hC : CX p m c cc nL s args Wl own D cl tys E A) {i : Nat} {x : Nat} {lv : List (Nat × Value)} (hl : lv_has ls nL lv) (q : Nat) (hdg : decode cc pc = .ok (.aload i, 2)) (hq : lv[q]? = some (i, .ref x)) (kk : W p l e R s m args below meth c H locs cells slots Q (F0 m (pc + 2) ls (.ref x :: rest))) : W p l e R s m args below meth c H locs cells slots Q (F0 m pc ls (rest)) := lv_aload hC.1.1 hC.1.2.1 hdg (lv_at hl q hq) kk
theorem n_astore_n (hC : CX p m c cc nL s args Wl own D cl tys E A) {k : Fin 4} {i : Nat} {x : Nat} {lv : List (Nat × Value)} (lv' : List (Nat × Value)) (hl : lv_has ls nL lv) (hdg : decode cc pc = .ok (.astore_n k, 1)) (hi : (k : Nat) = i) (hn : i < nL) (he : (i, Value.ref x) :: lv.filter (fun q => !(q.1 == i) && !(q.1 + 1 == i && q.2.category == 2)) = lv') (kk : ∀ ls : Array Slot, lv_has ls nL lv' → W p l e R s m args below meth c H locs cells slots Q (F0 m (pc + 1) ls (rest))) : W p l e R s m args below meth c H locs cells slots Q (F0 m pc ls (.ref x :: rest)) := lv_astore_n hC.1.1 hC.1.2.1 hdg hi hl hn he kk
theorem n_astore (hC : CX p m c cc nL s args Wl own D cl tys E A) {i : Nat} {x : Nat} {lv : List (Nat × Value)} (lv' : List (Nat × Value)) (hl : lv_has ls nL lv) (hdg : decode cc pc = .ok (.astore i, 2)) (hn : i < nL) (he : (i, Value.ref x) :: lv.filter (fun q => !(q.1 == i) && !(q.1 + 1 == i && q.2.category == 2)) = lv') (kk : ∀ ls : Array Slot, lv_has ls nL lv' → W p l e R s m args below meth c H locs cells slots Q (F0 m (pc + 2) ls (rest))) : W p l e R s m args below meth c H locs cells slots Q (F0 m pc ls (.ref x :: rest)) := lv_astore hC.1.1 hC.1.2.1 hdg hl hn he kk
theorem n_iinc (hC : CX p m c cc nL s args Wl own D cl tys E A) {i k : Nat} {n : Int} {x d : Int32} {lv : List (Nat × Value)} {K : Int32 → Option β} (hf : lt_ (x + d) K = some z) (hd : Int32.ofInt n = d) (lv' : Int32 → List (Nat × Value)) (hl : lv_has ls nL lv) (hdg : decode cc pc = .ok (.iinc i n, 3)) (hk : lv[k]? = some (i, .int x)) (hn : i < nL) (he : ∀ v : Int32, (i, Value.int v) :: lv.filter (fun q => !(q.1 == i) && !(q.1 + 1 == i && q.2.category == 2)) = lv' v) (kk : ∀ (v : Int32) (ls : Array Slot), K v = some z → lv_has ls nL (lv' v) → W p l e R s m args below meth c H locs cells slots Q (F0 m (pc + 3) ls (rest))) : W p l e R s m args below meth c H locs cells slots Q (F0 m pc ls (rest)) := lv_iinc hC.1.1 hC.1.2.1 hdg hl hk (by rw [hd]) hn (he _) (fun ls' hl' => kk _ ls' hf hl')
theorem n_iadd (hC : CX p m c cc nL s args Wl own D cl tys E A) {x : Int32} {y : Int32} {K : Int32 → Option β} (hf : lt_ (x + y) K = some z) (hdg : decode cc pc = .ok (.iadd, 1)) (k : ∀ v : Int32, K v = some z → W p l e R s m args below meth c H locs cells slots Q (F0 m (pc + 1) ls (.int v :: rest))) : W p l e R s m args below meth c H locs cells slots Q (F0 m pc ls (.int y :: .int x :: rest)) := lv_iadd hC.1.1 hC.1.2.1 hdg (k _ hf)
theorem n_isub (hC : CX p m c cc nL s args Wl own D cl tys E A) {x : Int32} {y : Int32} {K : Int32 → Option β} (hf : lt_ (x - y) K = some z) (hdg : decode cc pc = .ok (.isub, 1)) (k : ∀ v : Int32, K v = some z → W p l e R s m args below meth c H locs cells slots Q (F0 m (pc + 1) ls (.int v :: rest))) : W p l e R s m args below meth c H locs cells slots Q (F0 m pc ls (.int y :: .int x :: rest)) := lv_isub hC.1.1 hC.1.2.1 hdg (k _ hf)
theorem n_imul (hC : CX p m c cc nL s args Wl own D cl tys E A) {x : Int32} {y : Int32} {K : Int32 → Option β} (hf : lt_ (x * y) K = some z) (hdg : decode cc pc = .ok (.imul, 1)) (k : ∀ v : Int32, K v = some z → W p l e R s m args below meth c H locs cells slots Q (F0 m (pc + 1) ls (.int v :: rest))) : W p l e R s m args below meth c H locs cells slots Q (F0 m pc ls (.int y :: .int x :: rest)) := lv_imul hC.1.1 hC.1.2.1 hdg (k _ hf)
theorem n_iand (hC : CX p m c cc nL s args Wl own D cl tys E A) {x : Int32} {y : Int32} {K : Int32 → Option β} (hf : lt_ (x &&& y) K = some z) (hdg : decode cc pc = .ok (.iand, 1)) (k : ∀ v : Int32, K v = some z → W p l e R s m args below meth c H locs cells slots Q (F0 m (pc + 1) ls (.int v :: rest))) : W p l e R s m args below meth c H locs cells slots Q (F0 m pc ls (.int y :: .int x :: rest)) := lv_iand hC.1.1 hC.1.2.1 hdg (k _ hf)
theorem n_ior (hC : CX p m c cc nL s args Wl own D cl tys E A) {x : Int32} {y : Int32} {K : Int32 → Option β} (hf : lt_ (x ||| y) K = some z) (hdg : decode cc pc = .ok (.ior, 1)) (k : ∀ v : Int32, K v = some z → W p l e R s m args below meth c H locs cells slots Q (F0 m (pc + 1) ls (.int v :: rest))) : W p l e R s m args below meth c H locs cells slots Q (F0 m pc ls (.int y :: .int x :: rest)) := lv_ior hC.1.1 hC.1.2.1 hdg (k _ hf)
theorem n_ixor (hC : CX p m c cc nL s args Wl own D cl tys E A) {x : Int32} {y : Int32} {K : Int32 → Option β} (hf : lt_ (x ^^^ y) K = some z) (hdg : decode cc pc = .ok (.ixor, 1)) (k : ∀ v : Int32, K v = some z → W p l e R s m args below meth c H locs cells slots Q (F0 m (pc + 1) ls (.int v :: rest))) : W p l e R s m args below meth c H locs cells slots Q (F0 m pc ls (.int y :: .int x :: rest)) := lv_ixor hC.1.1 hC.1.2.1 hdg (k _ hf)
theorem n_ladd (hC : CX p m c cc nL s args Wl own D cl tys E A) {x : Int64} {y : Int64} {K : Int64 → Option β} (hf : lt_ (x + y) K = some z) (hdg : decode cc pc = .ok (.ladd, 1)) (k : ∀ v : Int64, K v = some z → W p l e R s m args below meth c H locs cells slots Q (F0 m (pc + 1) ls (.long v :: rest))) : W p l e R s m args below meth c H locs cells slots Q (F0 m pc ls (.long y :: .long x :: rest)) := lv_ladd hC.1.1 hC.1.2.1 hdg (k _ hf)
theorem n_lsub (hC : CX p m c cc nL s args Wl own D cl tys E A) {x : Int64} {y : Int64} {K : Int64 → Option β} (hf : lt_ (x - y) K = some z) (hdg : decode cc pc = .ok (.lsub, 1)) (k : ∀ v : Int64, K v = some z → W p l e R s m args below meth c H locs cells slots Q (F0 m (pc + 1) ls (.long v :: rest))) : W p l e R s m args below meth c H locs cells slots Q (F0 m pc ls (.long y :: .long x :: rest)) := lv_lsub hC.1.1 hC.1.2.1 hdg (k _ hf)
theorem n_lmul (hC : CX p m c cc nL s args Wl own D cl tys E A) {x : Int64} {y : Int64} {K : Int64 → Option β} (hf : lt_ (x * y) K = some z) (hdg : decode cc pc = .ok (.lmul, 1)) (k : ∀ v : Int64, K v = some z → W p l e R s m args below meth c H locs cells slots Q (F0 m (pc + 1) ls (.long v :: rest))) : W p l e R s m args below meth c H locs cells slots Q (F0 m pc ls (.long y :: .long x :: rest)) := lv_lmul hC.1.1 hC.1.2.1 hdg (k _ hf)
theorem n_land (hC : CX p m c cc nL s args Wl own D cl tys E A) {x : Int64} {y : Int64} {K : Int64 → Option β} (hf : lt_ (x &&& y) K = some z) (hdg : decode cc pc = .ok (.land, 1)) (k : ∀ v : Int64, K v = some z → W p l e R s m args below meth c H locs cells slots Q (F0 m (pc + 1) ls (.long v :: rest))) : W p l e R s m args below meth c H locs cells slots Q (F0 m pc ls (.long y :: .long x :: rest)) := lv_land hC.1.1 hC.1.2.1 hdg (k _ hf)
theorem n_lor (hC : CX p m c cc nL s args Wl own D cl tys E A) {x : Int64} {y : Int64} {K : Int64 → Option β} (hf : lt_ (x ||| y) K = some z) (hdg : decode cc pc = .ok (.lor, 1)) (k : ∀ v : Int64, K v = some z → W p l e R s m args below meth c H locs cells slots Q (F0 m (pc + 1) ls (.long v :: rest))) : W p l e R s m args below meth c H locs cells slots Q (F0 m pc ls (.long y :: .long x :: rest)) := lv_lor hC.1.1 hC.1.2.1 hdg (k _ hf)
theorem n_lxor (hC : CX p m c cc nL s args Wl own D cl tys E A) {x : Int64} {y : Int64} {K : Int64 → Option β} (hf : lt_ (x ^^^ y) K = some z) (hdg : decode cc pc = .ok (.lxor, 1)) (k : ∀ v : Int64, K v = some z → W p l e R s m args below meth c H locs cells slots Q (F0 m (pc + 1) ls (.long v :: rest))) : W p l e R s m args below meth c H locs cells slots Q (F0 m pc ls (.long y :: .long x :: rest)) := lv_lxor hC.1.1 hC.1.2.1 hdg (k _ hf)
theorem n_idiv (hC : CX p m c cc nL s args Wl own D cl tys E A) {x : Int32} {y : Int32} {K : Int32 → Option β} (hf : lt_ (x / y) K = some z) (hdg : decode cc pc = .ok (.idiv, 1)) (hne : ¬ y = 0) (k : ∀ v : Int32, K v = some z → W p l e R s m args below meth c H locs cells slots Q (F0 m (pc + 1) ls (.int v :: rest))) : W p l e R s m args below meth c H locs cells slots Q (F0 m pc ls (.int y :: .int x :: rest)) := lv_idiv hC.1.1 hC.1.2.1 hdg hne (k _ hf)
theorem n_irem (hC : CX p m c cc nL s args Wl own D cl tys E A) {x : Int32} {y : Int32} {K : Int32 → Option β} (hf : lt_ (x - x / y * y) K = some z) (hdg : decode cc pc = .ok (.irem, 1)) (hne : ¬ y = 0) (k : ∀ v : Int32, K v = some z → W p l e R s m args below meth c H locs cells slots Q (F0 m (pc + 1) ls (.int v :: rest))) : W p l e R s m args below meth c H locs cells slots Q (F0 m pc ls (.int y :: .int x :: rest)) := lv_irem hC.1.1 hC.1.2.1 hdg hne (k _ hf)
theorem n_ldiv (hC : CX p m c cc nL s args Wl own D cl tys E A) {x : Int64} {y : Int64} {K : Int64 → Option β} (hf : lt_ (x / y) K = some z) (hdg : decode cc pc = .ok (.ldiv, 1)) (hne : ¬ y = 0) (k : ∀ v : Int64, K v = some z → W p l e R s m args below meth c H locs cells slots Q (F0 m (pc + 1) ls (.long v :: rest))) : W p l e R s m args below meth c H locs cells slots Q (F0 m pc ls (.long y :: .long x :: rest)) := lv_ldiv hC.1.1 hC.1.2.1 hdg hne (k _ hf)
theorem n_ishl (hC : CX p m c cc nL s args Wl own D cl tys E A) {x : Int32} {y : Int32} {K : Int32 → Option β} (hf : lt_ (x <<< (y &&& 31)) K = some z) (hdg : decode cc pc = .ok (.ishl, 1)) (k : ∀ v : Int32, K v = some z → W p l e R s m args below meth c H locs cells slots Q (F0 m (pc + 1) ls (.int v :: rest))) : W p l e R s m args below meth c H locs cells slots Q (F0 m pc ls (.int y :: .int x :: rest)) := lv_ishl hC.1.1 hC.1.2.1 hdg (k _ hf)
theorem n_ishr (hC : CX p m c cc nL s args Wl own D cl tys E A) {x : Int32} {y : Int32} {K : Int32 → Option β} (hf : lt_ (x >>> (y &&& 31)) K = some z) (hdg : decode cc pc = .ok (.ishr, 1)) (k : ∀ v : Int32, K v = some z → W p l e R s m args below meth c H locs cells slots Q (F0 m (pc + 1) ls (.int v :: rest))) : W p l e R s m args below meth c H locs cells slots Q (F0 m pc ls (.int y :: .int x :: rest)) := lv_ishr hC.1.1 hC.1.2.1 hdg (k _ hf)
theorem n_iushr (hC : CX p m c cc nL s args Wl own D cl tys E A) {x : Int32} {y : Int32} {K : Int32 → Option β} (hf : lt_ ((x.toUInt32 >>> (y.toUInt32 &&& Int32.toUInt32 31)).toInt32) K = some z) (hdg : decode cc pc = .ok (.iushr, 1)) (k : ∀ v : Int32, K v = some z → W p l e R s m args below meth c H locs cells slots Q (F0 m (pc + 1) ls (.int v :: rest))) : W p l e R s m args below meth c H locs cells slots Q (F0 m pc ls (.int y :: .int x :: rest)) := lv_iushr hC.1.1 hC.1.2.1 hdg rfl (k _ hf)
theorem n_lushr (hC : CX p m c cc nL s args Wl own D cl tys E A) {x : Int64} {y : Int32} {K : Int64 → Option β} (hf : lt_ ((x.toUInt64 >>> (y.toInt64.toUInt64 &&& Int64.toUInt64 63)).toInt64) K = some z) (hdg : decode cc pc = .ok (.lushr, 1)) (k : ∀ v : Int64, K v = some z → W p l e R s m args below meth c H locs cells slots Q (F0 m (pc + 1) ls (.long v :: rest))) : W p l e R s m args below meth c H locs cells slots Q (F0 m pc ls (.int y :: .long x :: rest)) := lv_lushr hC.1.1 hC.1.2.1 hdg rfl (k _ hf)
theorem n_lshl (hC : CX p m c cc nL s args Wl own D cl tys E A) {x : Int64} {y : Int32} {K : Int64 → Option β} (hf : lt_ (x <<< (y.toInt64 &&& 63)) K = some z) (hdg : decode cc pc = .ok (.lshl, 1)) (k : ∀ v : Int64, K v = some z → W p l e R s m args below meth c H locs cells slots Q (F0 m (pc + 1) ls (.long v :: rest))) : W p l e R s m args below meth c H locs cells slots Q (F0 m pc ls (.int y :: .long x :: rest)) := lv_lshl hC.1.1 hC.1.2.1 hdg rfl (k _ hf)
theorem n_lshr (hC : CX p m c cc nL s args Wl own D cl tys E A) {x : Int64} {y : Int32} {K : Int64 → Option β} (hf : lt_ (x >>> (y.toInt64 &&& 63)) K = some z) (hdg : decode cc pc = .ok (.lshr, 1)) (k : ∀ v : Int64, K v = some z → W p l e R s m args below meth c H locs cells slots Q (F0 m (pc + 1) ls (.long v :: rest))) : W p l e R s m args below meth c H locs cells slots Q (F0 m pc ls (.int y :: .long x :: rest)) := lv_lshr hC.1.1 hC.1.2.1 hdg rfl (k _ hf)
theorem n_lcmp (hC : CX p m c cc nL s args Wl own D cl tys E A) {x y : Int64} {K : Int32 → Option β} (hf : lt_ (lg_cmp x y) K = some z) (hdg : decode cc pc = .ok (.lcmp, 1)) (k : ∀ v : Int32, K v = some z → W p l e R s m args below meth c H locs cells slots Q (F0 m (pc + 1) ls (.int v :: rest))) : W p l e R s m args below meth c H locs cells slots Q (F0 m pc ls (.long y :: .long x :: rest)) := W.lcmp hC.1.1 hC.1.2.1 hdg (k _ hf)
theorem n_ineg (hC : CX p m c cc nL s args Wl own D cl tys E A) {x : Int32} {K : Int32 → Option β} (hf : lt_ (-x) K = some z) (hdg : decode cc pc = .ok (.ineg, 1)) (k : ∀ v : Int32, K v = some z → W p l e R s m args below meth c H locs cells slots Q (F0 m (pc + 1) ls (.int v :: rest))) : W p l e R s m args below meth c H locs cells slots Q (F0 m pc ls (.int x :: rest)) := lv_ineg hC.1.1 hC.1.2.1 hdg (k _ hf)
theorem n_lneg (hC : CX p m c cc nL s args Wl own D cl tys E A) {x : Int64} {K : Int64 → Option β} (hf : lt_ (-x) K = some z) (hdg : decode cc pc = .ok (.lneg, 1)) (k : ∀ v : Int64, K v = some z → W p l e R s m args below meth c H locs cells slots Q (F0 m (pc + 1) ls (.long v :: rest))) : W p l e R s m args below meth c H locs cells slots Q (F0 m pc ls (.long x :: rest)) := lv_lneg hC.1.1 hC.1.2.1 hdg (k _ hf)
theorem n_i2l (hC : CX p m c cc nL s args Wl own D cl tys E A) {x : Int32} {K : Int64 → Option β} (hf : lt_ (x.toInt64) K = some z) (hdg : decode cc pc = .ok (.i2l, 1)) (k : ∀ v : Int64, K v = some z → W p l e R s m args below meth c H locs cells slots Q (F0 m (pc + 1) ls (.long v :: rest))) : W p l e R s m args below meth c H locs cells slots Q (F0 m pc ls (.int x :: rest)) := lv_i2l hC.1.1 hC.1.2.1 hdg rfl (k _ hf)
theorem n_l2i (hC : CX p m c cc nL s args Wl own D cl tys E A) {x : Int64} {K : Int32 → Option β} (hf : lt_ (x.toInt32) K = some z) (hdg : decode cc pc = .ok (.l2i, 1)) (k : ∀ v : Int32, K v = some z → W p l e R s m args below meth c H locs cells slots Q (F0 m (pc + 1) ls (.int v :: rest))) : W p l e R s m args below meth c H locs cells slots Q (F0 m pc ls (.long x :: rest)) := lv_l2i hC.1.1 hC.1.2.1 hdg rfl (k _ hf)
theorem n_i2b (hC : CX p m c cc nL s args Wl own D cl tys E A) {x : Int32} {K : Int32 → Option β} (hf : lt_ (x.toInt8.toInt32) K = some z) (hdg : decode cc pc = .ok (.i2b, 1)) (k : ∀ v : Int32, K v = some z → W p l e R s m args below meth c H locs cells slots Q (F0 m (pc + 1) ls (.int v :: rest))) : W p l e R s m args below meth c H locs cells slots Q (F0 m pc ls (.int x :: rest)) := lv_i2b hC.1.1 hC.1.2.1 hdg rfl (k _ hf)
theorem n_i2c (hC : CX p m c cc nL s args Wl own D cl tys E A) {x : Int32} {K : Int32 → Option β} (hf : lt_ ((x.toUInt32 % 65536).toInt32) K = some z) (hdg : decode cc pc = .ok (.i2c, 1)) (k : ∀ v : Int32, K v = some z → W p l e R s m args below meth c H locs cells slots Q (F0 m (pc + 1) ls (.int v :: rest))) : W p l e R s m args below meth c H locs cells slots Q (F0 m pc ls (.int x :: rest)) := lv_i2c hC.1.1 hC.1.2.1 hdg rfl (k _ hf)
theorem n_dup (hC : CX p m c cc nL s args Wl own D cl tys E A) {va : Value} (hdg : decode cc pc = .ok (.dup, 1)) (h1 : va.category = 1) (k : W p l e R s m args below meth c H locs cells slots Q (F0 m (pc + 1) ls (va :: va :: rest))) : W p l e R s m args below meth c H locs cells slots Q (F0 m pc ls (va :: rest)) := lv_dup hC.1.1 hC.1.2.1 hdg h1 k
theorem n_pop (hC : CX p m c cc nL s args Wl own D cl tys E A) {va : Value} (hdg : decode cc pc = .ok (.pop, 1)) (h1 : va.category = 1) (k : W p l e R s m args below meth c H locs cells slots Q (F0 m (pc + 1) ls (rest))) : W p l e R s m args below meth c H locs cells slots Q (F0 m pc ls (va :: rest)) := lv_pop hC.1.1 hC.1.2.1 hdg h1 k
theorem n_dup_x1 (hC : CX p m c cc nL s args Wl own D cl tys E A) {va vb : Value} (hdg : decode cc pc = .ok (.dup_x1, 1)) (h1 : va.category = 1) (h2 : vb.category = 1) (k : W p l e R s m args below meth c H locs cells slots Q (F0 m (pc + 1) ls (va :: vb :: va :: rest))) : W p l e R s m args below meth c H locs cells slots Q (F0 m pc ls (va :: vb :: rest)) := lv_dup_x1 hC.1.1 hC.1.2.1 hdg h1 h2 k
theorem n_dup2_11 (hC : CX p m c cc nL s args Wl own D cl tys E A) {va vb : Value} (hdg : decode cc pc = .ok (.dup2, 1)) (h1 : va.category = 1) (h2 : vb.category = 1) (k : W p l e R s m args below meth c H locs cells slots Q (F0 m (pc + 1) ls (va :: vb :: va :: vb :: rest))) : W p l e R s m args below meth c H locs cells slots Q (F0 m pc ls (va :: vb :: rest)) := lv_dup2_11 hC.1.1 hC.1.2.1 hdg h1 h2 k
theorem n_if_eq (hC : CX p m c cc nL s args Wl own D cl tys E A) {x : Int32} {X Y : Option β} (hf : (if x = 0 then X else Y) = some z) {off : Int} (tgt : Nat) (hdg : decode cc pc = .ok (.ifCond .eq off, 3)) (ht : (pc : Int) + off = (tgt : Int)) (kt : X = some z → W p l e R s m args below meth c H locs cells slots Q (F0 m tgt ls rest)) (kf : Y = some z → W p l e R s m args below meth c H locs cells slots Q (F0 m (pc + 3) ls rest)) : W p l e R s m args below meth c H locs cells slots Q (F0 m pc ls (.int x :: rest)) := lv_if_eq hC.1.1 hC.1.2.1 hdg ht (fun h => kt (by rw [if_pos h] at hf; exact hf)) (fun h => kf (by rw [if_neg h] at hf; exact hf))
theorem n_icmp_eq (hC : CX p m c cc nL s args Wl own D cl tys E A) {x y : Int32} {X Y : Option β} (hf : (if x = y then X else Y) = some z) {off : Int} (tgt : Nat) (hdg : decode cc pc = .ok (.if_icmp .eq off, 3)) (ht : (pc : Int) + off = (tgt : Int)) (kt : X = some z → W p l e R s m args below meth c H locs cells slots Q (F0 m tgt ls rest)) (kf : Y = some z → W p l e R s m args below meth c H locs cells slots Q (F0 m (pc + 3) ls rest)) : W p l e R s m args below meth c H locs cells slots Q (F0 m pc ls (.int y :: .int x :: rest)) := lv_icmp_eq hC.1.1 hC.1.2.1 hdg ht (fun h => kt (by rw [if_pos h] at hf; exact hf)) (fun h => kf (by rw [if_neg h] at hf; exact hf))
theorem n_if_ne (hC : CX p m c cc nL s args Wl own D cl tys E A) {x : Int32} {X Y : Option β} (hf : (if ¬ x = 0 then X else Y) = some z) {off : Int} (tgt : Nat) (hdg : decode cc pc = .ok (.ifCond .ne off, 3)) (ht : (pc : Int) + off = (tgt : Int)) (kt : X = some z → W p l e R s m args below meth c H locs cells slots Q (F0 m tgt ls rest)) (kf : Y = some z → W p l e R s m args below meth c H locs cells slots Q (F0 m (pc + 3) ls rest)) : W p l e R s m args below meth c H locs cells slots Q (F0 m pc ls (.int x :: rest)) := lv_if_ne hC.1.1 hC.1.2.1 hdg ht (fun h => kt (by rw [if_pos h] at hf; exact hf)) (fun h => kf (by rw [if_neg (not_not_intro h)] at hf; exact hf))
theorem n_icmp_ne (hC : CX p m c cc nL s args Wl own D cl tys E A) {x y : Int32} {X Y : Option β} (hf : (if ¬ x = y then X else Y) = some z) {off : Int} (tgt : Nat) (hdg : decode cc pc = .ok (.if_icmp .ne off, 3)) (ht : (pc : Int) + off = (tgt : Int)) (kt : X = some z → W p l e R s m args below meth c H locs cells slots Q (F0 m tgt ls rest)) (kf : Y = some z → W p l e R s m args below meth c H locs cells slots Q (F0 m (pc + 3) ls rest)) : W p l e R s m args below meth c H locs cells slots Q (F0 m pc ls (.int y :: .int x :: rest)) := lv_icmp_ne hC.1.1 hC.1.2.1 hdg ht (fun h => kt (by rw [if_pos h] at hf; exact hf)) (fun h => kf (by rw [if_neg (not_not_intro h)] at hf; exact hf))
theorem n_if_lt (hC : CX p m c cc nL s args Wl own D cl tys E A) {x : Int32} {X Y : Option β} (hf : (if x < 0 then X else Y) = some z) {off : Int} (tgt : Nat) (hdg : decode cc pc = .ok (.ifCond .lt off, 3)) (ht : (pc : Int) + off = (tgt : Int)) (kt : X = some z → W p l e R s m args below meth c H locs cells slots Q (F0 m tgt ls rest)) (kf : Y = some z → W p l e R s m args below meth c H locs cells slots Q (F0 m (pc + 3) ls rest)) : W p l e R s m args below meth c H locs cells slots Q (F0 m pc ls (.int x :: rest)) := lv_if_lt hC.1.1 hC.1.2.1 hdg ht (fun h => kt (by rw [if_pos h] at hf; exact hf)) (fun h => kf (by rw [if_neg h] at hf; exact hf))
theorem n_icmp_lt (hC : CX p m c cc nL s args Wl own D cl tys E A) {x y : Int32} {X Y : Option β} (hf : (if x < y then X else Y) = some z) {off : Int} (tgt : Nat) (hdg : decode cc pc = .ok (.if_icmp .lt off, 3)) (ht : (pc : Int) + off = (tgt : Int)) (kt : X = some z → W p l e R s m args below meth c H locs cells slots Q (F0 m tgt ls rest)) (kf : Y = some z → W p l e R s m args below meth c H locs cells slots Q (F0 m (pc + 3) ls rest)) : W p l e R s m args below meth c H locs cells slots Q (F0 m pc ls (.int y :: .int x :: rest)) := lv_icmp_lt hC.1.1 hC.1.2.1 hdg ht (fun h => kt (by rw [if_pos h] at hf; exact hf)) (fun h => kf (by rw [if_neg h] at hf; exact hf))
theorem n_if_ge (hC : CX p m c cc nL s args Wl own D cl tys E A) {x : Int32} {X Y : Option β} (hf : (if 0 ≤ x then X else Y) = some z) {off : Int} (tgt : Nat) (hdg : decode cc pc = .ok (.ifCond .ge off, 3)) (ht : (pc : Int) + off = (tgt : Int)) (kt : X = some z → W p l e R s m args below meth c H locs cells slots Q (F0 m tgt ls rest)) (kf : Y = some z → W p l e R s m args below meth c H locs cells slots Q (F0 m (pc + 3) ls rest)) : W p l e R s m args below meth c H locs cells slots Q (F0 m pc ls (.int x :: rest)) := lv_if_ge hC.1.1 hC.1.2.1 hdg ht (fun h => kt (by rw [if_pos h] at hf; exact hf)) (fun h => kf (by rw [if_neg h] at hf; exact hf))
theorem n_icmp_ge (hC : CX p m c cc nL s args Wl own D cl tys E A) {x y : Int32} {X Y : Option β} (hf : (if y ≤ x then X else Y) = some z) {off : Int} (tgt : Nat) (hdg : decode cc pc = .ok (.if_icmp .ge off, 3)) (ht : (pc : Int) + off = (tgt : Int)) (kt : X = some z → W p l e R s m args below meth c H locs cells slots Q (F0 m tgt ls rest)) (kf : Y = some z → W p l e R s m args below meth c H locs cells slots Q (F0 m (pc + 3) ls rest)) : W p l e R s m args below meth c H locs cells slots Q (F0 m pc ls (.int y :: .int x :: rest)) := lv_icmp_ge hC.1.1 hC.1.2.1 hdg ht (fun h => kt (by rw [if_pos h] at hf; exact hf)) (fun h => kf (by rw [if_neg h] at hf; exact hf))
theorem n_if_gt (hC : CX p m c cc nL s args Wl own D cl tys E A) {x : Int32} {X Y : Option β} (hf : (if 0 < x then X else Y) = some z) {off : Int} (tgt : Nat) (hdg : decode cc pc = .ok (.ifCond .gt off, 3)) (ht : (pc : Int) + off = (tgt : Int)) (kt : X = some z → W p l e R s m args below meth c H locs cells slots Q (F0 m tgt ls rest)) (kf : Y = some z → W p l e R s m args below meth c H locs cells slots Q (F0 m (pc + 3) ls rest)) : W p l e R s m args below meth c H locs cells slots Q (F0 m pc ls (.int x :: rest)) := lv_if_gt hC.1.1 hC.1.2.1 hdg ht (fun h => kt (by rw [if_pos h] at hf; exact hf)) (fun h => kf (by rw [if_neg h] at hf; exact hf))
theorem n_icmp_gt (hC : CX p m c cc nL s args Wl own D cl tys E A) {x y : Int32} {X Y : Option β} (hf : (if y < x then X else Y) = some z) {off : Int} (tgt : Nat) (hdg : decode cc pc = .ok (.if_icmp .gt off, 3)) (ht : (pc : Int) + off = (tgt : Int)) (kt : X = some z → W p l e R s m args below meth c H locs cells slots Q (F0 m tgt ls rest)) (kf : Y = some z → W p l e R s m args below meth c H locs cells slots Q (F0 m (pc + 3) ls rest)) : W p l e R s m args below meth c H locs cells slots Q (F0 m pc ls (.int y :: .int x :: rest)) := lv_icmp_gt hC.1.1 hC.1.2.1 hdg ht (fun h => kt (by rw [if_pos h] at hf; exact hf)) (fun h => kf (by rw [if_neg h] at hf; exact hf))
theorem n_if_le (hC : CX p m c cc nL s args Wl own D cl tys E A) {x : Int32} {X Y : Option β} (hf : (if x ≤ 0 then X else Y) = some z) {off : Int} (tgt : Nat) (hdg : decode cc pc = .ok (.ifCond .le off, 3)) (ht : (pc : Int) + off = (tgt : Int)) (kt : X = some z → W p l e R s m args below meth c H locs cells slots Q (F0 m tgt ls rest)) (kf : Y = some z → W p l e R s m args below meth c H locs cells slots Q (F0 m (pc + 3) ls rest)) : W p l e R s m args below meth c H locs cells slots Q (F0 m pc ls (.int x :: rest)) := lv_if_le hC.1.1 hC.1.2.1 hdg ht (fun h => kt (by rw [if_pos h] at hf; exact hf)) (fun h => kf (by rw [if_neg h] at hf; exact hf))
theorem n_icmp_le (hC : CX p m c cc nL s args Wl own D cl tys E A) {x y : Int32} {X Y : Option β} (hf : (if x ≤ y then X else Y) = some z) {off : Int} (tgt : Nat) (hdg : decode cc pc = .ok (.if_icmp .le off, 3)) (ht : (pc : Int) + off = (tgt : Int)) (kt : X = some z → W p l e R s m args below meth c H locs cells slots Q (F0 m tgt ls rest)) (kf : Y = some z → W p l e R s m args below meth c H locs cells slots Q (F0 m (pc + 3) ls rest)) : W p l e R s m args below meth c H locs cells slots Q (F0 m pc ls (.int y :: .int x :: rest)) := lv_icmp_le hC.1.1 hC.1.2.1 hdg ht (fun h => kt (by rw [if_pos h] at hf; exact hf)) (fun h => kf (by rw [if_neg h] at hf; exact hf))
theorem n_goto (hC : CX p m c cc nL s args Wl own D cl tys E A) {off : Int} (tgt : Nat) (hdg : decode cc pc = .ok (.goto off, 3)) (ht : (pc : Int) + off = (tgt : Int)) (k : W p l e R s m args below meth c H locs cells slots Q (F0 m tgt ls rest)) : W p l e R s m args below meth c H locs cells slots Q (F0 m pc ls rest) := lv_goto hC.1.1 hC.1.2.1 hdg ht k
def FlG (Wl : List Cond) (cl : List vw_C) (own : String) (index ci k : Nat) : Prop := ∃ (C : String) (T : u_T) (N : Nat), cl[ci]? = some (C, T, N) ∧ k < N ∧ (∀ w ∈ u_ws C T N, w ∈ Wl) ∧ Cond.fieldLink own index (T k).1 (T k).2.1 (T k).2.2.1 ∈ Wl
def FlP (Wl : List Cond) (cl : List vw_C) (own : String) (index ci k : Nat) (ty : FieldType) : Prop := ∃ (C : String) (T : u_T) (N : Nat) (ty0 : Nat → FieldType), cl[ci]? = some (C, T, N) ∧ k < N ∧ (∀ w ∈ u_ws C T N, w ∈ Wl) ∧ Cond.fieldLink own index (T k).1 (T k).2.1 (T k).2.2.1 ∈ Wl ∧ (∀ k, k < N → parseFieldDescriptor (T k).2.2.1 = some (ty0 k)) ∧ (∀ a, a < N → ∀ b, b < N → a ≠ b → (T a).2.1 ≠ (T b).2.1) ∧ (T k).2.2.2 = false ∧ parseFieldDescriptor (T k).2.2.1 = some ty
theorem n_get (hC : CX p m c cc nL s args Wl own D cl tys E A) (hw : WS D cl A s.heap H locs ws) {index ci k a : Nat} (hF : FlG Wl cl own index ci k) (q0 : Nat) {fs : List Value} (he : ws[q0]? = some (a, .inr (ci, fs))) {v : Value} (hv : fs[k]? = some v) (hdg : decode cc pc = .ok (.getfield index, 3)) (kk : W p l e R s m args below meth c H locs cells slots Q (F0 m (pc + 3) ls (v :: rest))) : W p l e R s m args below meth c H locs cells slots Q (F0 m pc ls (.ref a :: rest)) := by
  obtain ⟨C, T, N, h1, h2, h3, h4⟩ := hF
  exact va_get hC.1.1 hC.1.2.1 hC.1.2.2.2.2 h3 hC.1.2.2.2.1 hC.2.2.1 hw.1 q0 he h1 k h2 (hC.1.2.2.2.2 _ h4) (fun _ h => h) hv hdg kk
theorem n_put (hC : CX p m c cc nL s args Wl own D cl tys E A) (hw : WS D cl A s.heap H locs ws) {index ci k a : Nat} {ty : FieldType} (hF : FlP Wl cl own index ci k ty) (q0 : Nat) {fs : List Value} {v : Value} (ws' : va_W) (he : ws[q0]? = some (a, .inr (ci, fs))) (hn : narrow ty v = v) (hfit : fits ty v = true) (hl : k < fs.length) (hdg : decode cc pc = .ok (.putfield index, 3)) (he' : ws.set q0 (a, .inr (ci, fs.set k v)) = ws') (kk : ∀ (H1 : Heap) (locs1 : List Loc), WS D cl A s.heap H1 locs1 ws' → W p l e R s m args below meth c H1 locs1 cells slots Q (F0 m (pc + 3) ls (rest))) : W p l e R s m args below meth c H locs cells slots Q (F0 m pc ls (v :: .ref a :: rest)) := by
  obtain ⟨C, T, N, ty0, h1, h2, h3, h4, h5, h6, h7, h8⟩ := hF
  subst he'
  exact va_put hC.1.1 hC.1.2.1 hC.1.2.2.2.2 h3 ty0 h5 h6 hC.1.2.2.2.1 hC.2.2.1 hw.1 hw.2.1 hw.2.2 q0 he h1 k h2 (hC.1.2.2.2.2 _ h4) (fun _ h => h) h7 h8 hn hfit hl hdg (fun H1 locs1 a b d => kk H1 locs1 ⟨a, b, d⟩)
theorem n_iald (hC : CX p m c cc nL s args Wl own D cl tys E A) (hw : WS D cl A s.heap H locs ws) {a n : Nat} {f : Nat → Int32} {i : Int32} {K : Int32 → Option β} (hf : ix_ n f i K = some z) (q0 t0 : Nat) {cA : ClassId} (ha : ws[q0]? = some (a, .inl (cA, n, .inl f))) (ht : tys[t0]? = some (cA, .int)) (hdg : decode cc pc = .ok (.iaload, 1)) (kk : ∀ v : Int32, K v = some z → W p l e R s m args below meth c H locs cells slots Q (F0 m (pc + 1) ls (.int v :: rest))) : W p l e R s m args below meth c H locs cells slots Q (F0 m pc ls (.int i :: .ref a :: rest)) :=
  va_iald hC.1.1 hC.1.2.1 hC.2.2.1 hw.1 q0 t0 ha ht (ix_s hf).1 hdg (kk _ (ix_s hf).2)
theorem n_bald (hC : CX p m c cc nL s args Wl own D cl tys E A) (hw : WS D cl A s.heap H locs ws) {a n : Nat} {f : Nat → Int32} {i : Int32} {K : Int32 → Option β} (hf : ix_ n f i K = some z) (q0 t0 : Nat) {cA : ClassId} (ha : ws[q0]? = some (a, .inl (cA, n, .inl f))) (ht : tys[t0]? = some (cA, .byte)) (hdg : decode cc pc = .ok (.baload, 1)) (kk : ∀ v : Int32, K v = some z → W p l e R s m args below meth c H locs cells slots Q (F0 m (pc + 1) ls (.int v :: rest))) : W p l e R s m args below meth c H locs cells slots Q (F0 m pc ls (.int i :: .ref a :: rest)) :=
  va_bald hC.1.1 hC.1.2.1 hC.2.2.1 hw.1 q0 t0 ha ht (ix_s hf).1 hdg (kk _ (ix_s hf).2)
theorem n_zald (hC : CX p m c cc nL s args Wl own D cl tys E A) (hw : WS D cl A s.heap H locs ws) {a n : Nat} {f : Nat → Int32} {i : Int32} {K : Int32 → Option β} (hf : ix_ n f i K = some z) (q0 t0 : Nat) {cA : ClassId} (ha : ws[q0]? = some (a, .inl (cA, n, .inl f))) (ht : tys[t0]? = some (cA, .boolean)) (hdg : decode cc pc = .ok (.baload, 1)) (kk : ∀ v : Int32, K v = some z → W p l e R s m args below meth c H locs cells slots Q (F0 m (pc + 1) ls (.int v :: rest))) : W p l e R s m args below meth c H locs cells slots Q (F0 m pc ls (.int i :: .ref a :: rest)) :=
  va_zald hC.1.1 hC.1.2.1 hC.2.2.1 hw.1 q0 t0 ha ht (ix_s hf).1 hdg (kk _ (ix_s hf).2)
theorem n_lald (hC : CX p m c cc nL s args Wl own D cl tys E A) (hw : WS D cl A s.heap H locs ws) {a n : Nat} {f : Nat → Int64} {i : Int32} {K : Int64 → Option β} (hf : ix_ n f i K = some z) (q0 t0 : Nat) {cA : ClassId} (ha : ws[q0]? = some (a, .inl (cA, n, .inr (.inl f)))) (ht : tys[t0]? = some (cA, .long)) (hdg : decode cc pc = .ok (.laload, 1)) (kk : ∀ v : Int64, K v = some z → W p l e R s m args below meth c H locs cells slots Q (F0 m (pc + 1) ls (.long v :: rest))) : W p l e R s m args below meth c H locs cells slots Q (F0 m pc ls (.int i :: .ref a :: rest)) :=
  va_lald hC.1.1 hC.1.2.1 hC.2.2.1 hw.1 q0 t0 ha ht (ix_s hf).1 hdg (kk _ (ix_s hf).2)
theorem n_iast (hC : CX p m c cc nL s args Wl own D cl tys E A) (hw : WS D cl A s.heap H locs ws) {a n : Nat} {f : Nat → Int32} {i : Int32} {x : Int32} {K : (Nat → Int32) → Option β} (hf : up_i n f i x K = some z) (q0 t0 : Nat) {cA : ClassId} (ws' : (Nat → Int32) → va_W) (ha : ws[q0]? = some (a, .inl (cA, n, .inl f))) (ht : tys[t0]? = some (cA, .int)) (hdg : decode cc pc = .ok (.iastore, 1)) (he' : ∀ f' : Nat → Int32, ws.set q0 (a, .inl (cA, n, .inl f')) = ws' f') (kk : ∀ (f' : Nat → Int32) (H1 : Heap) (locs1 : List Loc), K f' = some z → WS D cl A s.heap H1 locs1 (ws' f') → W p l e R s m args below meth c H1 locs1 cells slots Q (F0 m (pc + 1) ls (rest))) : W p l e R s m args below meth c H locs cells slots Q (F0 m pc ls (.int x :: .int i :: .ref a :: rest)) :=
  va_iast hC.1.1 hC.1.2.1 hC.2.2.1 hw.1 hw.2.1 hw.2.2 q0 t0 ha ht (upi_s hf).1 hdg (fun H1 locs1 a1 b1 d1 => kk _ H1 locs1 (upi_s hf).2 ⟨by rw [← he']; exact a1, by rw [← he']; exact b1, d1⟩)
theorem n_bast (hC : CX p m c cc nL s args Wl own D cl tys E A) (hw : WS D cl A s.heap H locs ws) {a n : Nat} {f : Nat → Int32} {i : Int32} {x : Int32} {K : (Nat → Int32) → Option β} (hf : up_b n f i x K = some z) (q0 t0 : Nat) {cA : ClassId} (ws' : (Nat → Int32) → va_W) (ha : ws[q0]? = some (a, .inl (cA, n, .inl f))) (ht : tys[t0]? = some (cA, .byte)) (hdg : decode cc pc = .ok (.bastore, 1)) (he' : ∀ f' : Nat → Int32, ws.set q0 (a, .inl (cA, n, .inl f')) = ws' f') (kk : ∀ (f' : Nat → Int32) (H1 : Heap) (locs1 : List Loc), K f' = some z → WS D cl A s.heap H1 locs1 (ws' f') → W p l e R s m args below meth c H1 locs1 cells slots Q (F0 m (pc + 1) ls (rest))) : W p l e R s m args below meth c H locs cells slots Q (F0 m pc ls (.int x :: .int i :: .ref a :: rest)) :=
  va_bast hC.1.1 hC.1.2.1 hC.2.2.1 hw.1 hw.2.1 hw.2.2 q0 t0 ha ht (upb_s hf).1 hdg (fun H1 locs1 a1 b1 d1 => kk _ H1 locs1 (upb_s hf).2 ⟨by rw [← he']; exact a1, by rw [← he']; exact b1, d1⟩)
theorem n_zast (hC : CX p m c cc nL s args Wl own D cl tys E A) (hw : WS D cl A s.heap H locs ws) {a n : Nat} {f : Nat → Int32} {i : Int32} {x : Int32} {K : (Nat → Int32) → Option β} (hf : up_z n f i x K = some z) (q0 t0 : Nat) {cA : ClassId} (ws' : (Nat → Int32) → va_W) (ha : ws[q0]? = some (a, .inl (cA, n, .inl f))) (ht : tys[t0]? = some (cA, .boolean)) (hdg : decode cc pc = .ok (.bastore, 1)) (he' : ∀ f' : Nat → Int32, ws.set q0 (a, .inl (cA, n, .inl f')) = ws' f') (kk : ∀ (f' : Nat → Int32) (H1 : Heap) (locs1 : List Loc), K f' = some z → WS D cl A s.heap H1 locs1 (ws' f') → W p l e R s m args below meth c H1 locs1 cells slots Q (F0 m (pc + 1) ls (rest))) : W p l e R s m args below meth c H locs cells slots Q (F0 m pc ls (.int x :: .int i :: .ref a :: rest)) :=
  va_zast hC.1.1 hC.1.2.1 hC.2.2.1 hw.1 hw.2.1 hw.2.2 q0 t0 ha ht (upz_s hf).1 hdg (fun H1 locs1 a1 b1 d1 => kk _ H1 locs1 (upz_s hf).2 ⟨by rw [← he']; exact a1, by rw [← he']; exact b1, d1⟩)
theorem n_last (hC : CX p m c cc nL s args Wl own D cl tys E A) (hw : WS D cl A s.heap H locs ws) {a n : Nat} {f : Nat → Int64} {i : Int32} {x : Int64} {K : (Nat → Int64) → Option β} (hf : up_l n f i x K = some z) (q0 t0 : Nat) {cA : ClassId} (ws' : (Nat → Int64) → va_W) (ha : ws[q0]? = some (a, .inl (cA, n, .inr (.inl f)))) (ht : tys[t0]? = some (cA, .long)) (hdg : decode cc pc = .ok (.lastore, 1)) (he' : ∀ f' : Nat → Int64, ws.set q0 (a, .inl (cA, n, .inr (.inl f'))) = ws' f') (kk : ∀ (f' : Nat → Int64) (H1 : Heap) (locs1 : List Loc), K f' = some z → WS D cl A s.heap H1 locs1 (ws' f') → W p l e R s m args below meth c H1 locs1 cells slots Q (F0 m (pc + 1) ls (rest))) : W p l e R s m args below meth c H locs cells slots Q (F0 m pc ls (.long x :: .int i :: .ref a :: rest)) :=
  va_last hC.1.1 hC.1.2.1 hC.2.2.1 hw.1 hw.2.1 hw.2.2 q0 t0 ha ht (upl_s hf).1 hdg (fun H1 locs1 a1 b1 d1 => kk _ H1 locs1 (upl_s hf).2 ⟨by rw [← he']; exact a1, by rw [← he']; exact b1, d1⟩)
theorem n_alen (hC : CX p m c cc nL s args Wl own D cl tys E A) (hw : WS D cl A s.heap H locs ws) {a : Nat} (q0 t0 : Nat) {cA : ClassId} {x : vp_A} {ty : FieldType} (v : Int32) (ha : ws[q0]? = some (a, .inl (cA, x))) (ht : tys[t0]? = some (cA, ty)) (hv : Int32.ofNat x.1 = v) (hdg : decode cc pc = .ok (.arraylength, 1)) (kk : W p l e R s m args below meth c H locs cells slots Q (F0 m (pc + 1) ls (.int v :: rest))) : W p l e R s m args below meth c H locs cells slots Q (F0 m pc ls (.ref a :: rest)) :=
  va_alen hC.1.1 hC.1.2.1 hC.2.2.1 hw.1 q0 t0 ha ht hv hdg kk
end QR
theorem jn1 {A1 β : Type} {z : β} {K0 : A1 → Option β} {M : (A1 → Option β) → Option β} {G : Prop} (J : A1 → Prop) (hf : lt_ K0 M = some z) (hj : ∀ (a1 : A1), K0 a1 = some z → J a1) (hm : ∀ K : A1 → Option β, (∀ (a1 : A1), K a1 = some z → J a1) → M K = some z → G) : G := hm K0 hj hf
theorem lw1 {A1 β : Type} {z : β} {B : (A1 → Option β) → A1 → Option β} (J : A1 → Prop) (hs : ∀ k : A1 → Option β, (∀ (a1 : A1), k a1 = some z → J a1) → ∀ (a1 : A1), B k a1 = some z → J a1) : ∀ (n : Nat) (a1 : A1), lp_ (fun _ => none) B n a1 = some z → J a1 := by
  intro n
  induction n with
  | zero => intro a1 h; cases h
  | succ n ih => exact hs _ ih
theorem jn2 {A1 A2 β : Type} {z : β} {K0 : A1 → A2 → Option β} {M : (A1 → A2 → Option β) → Option β} {G : Prop} (J : A1 → A2 → Prop) (hf : lt_ K0 M = some z) (hj : ∀ (a1 : A1) (a2 : A2), K0 a1 a2 = some z → J a1 a2) (hm : ∀ K : A1 → A2 → Option β, (∀ (a1 : A1) (a2 : A2), K a1 a2 = some z → J a1 a2) → M K = some z → G) : G := hm K0 hj hf
theorem lw2 {A1 A2 β : Type} {z : β} {B : (A1 → A2 → Option β) → A1 → A2 → Option β} (J : A1 → A2 → Prop) (hs : ∀ k : A1 → A2 → Option β, (∀ (a1 : A1) (a2 : A2), k a1 a2 = some z → J a1 a2) → ∀ (a1 : A1) (a2 : A2), B k a1 a2 = some z → J a1 a2) : ∀ (n : Nat) (a1 : A1) (a2 : A2), lp_ (fun _ _ => none) B n a1 a2 = some z → J a1 a2 := by
  intro n
  induction n with
  | zero => intro a1 a2 h; cases h
  | succ n ih => exact hs _ ih
theorem jn3 {A1 A2 A3 β : Type} {z : β} {K0 : A1 → A2 → A3 → Option β} {M : (A1 → A2 → A3 → Option β) → Option β} {G : Prop} (J : A1 → A2 → A3 → Prop) (hf : lt_ K0 M = some z) (hj : ∀ (a1 : A1) (a2 : A2) (a3 : A3), K0 a1 a2 a3 = some z → J a1 a2 a3) (hm : ∀ K : A1 → A2 → A3 → Option β, (∀ (a1 : A1) (a2 : A2) (a3 : A3), K a1 a2 a3 = some z → J a1 a2 a3) → M K = some z → G) : G := hm K0 hj hf
theorem lw3 {A1 A2 A3 β : Type} {z : β} {B : (A1 → A2 → A3 → Option β) → A1 → A2 → A3 → Option β} (J : A1 → A2 → A3 → Prop) (hs : ∀ k : A1 → A2 → A3 → Option β, (∀ (a1 : A1) (a2 : A2) (a3 : A3), k a1 a2 a3 = some z → J a1 a2 a3) → ∀ (a1 : A1) (a2 : A2) (a3 : A3), B k a1 a2 a3 = some z → J a1 a2 a3) : ∀ (n : Nat) (a1 : A1) (a2 : A2) (a3 : A3), lp_ (fun _ _ _ => none) B n a1 a2 a3 = some z → J a1 a2 a3 := by
  intro n
  induction n with
  | zero => intro a1 a2 a3 h; cases h
  | succ n ih => exact hs _ ih
theorem jn4 {A1 A2 A3 A4 β : Type} {z : β} {K0 : A1 → A2 → A3 → A4 → Option β} {M : (A1 → A2 → A3 → A4 → Option β) → Option β} {G : Prop} (J : A1 → A2 → A3 → A4 → Prop) (hf : lt_ K0 M = some z) (hj : ∀ (a1 : A1) (a2 : A2) (a3 : A3) (a4 : A4), K0 a1 a2 a3 a4 = some z → J a1 a2 a3 a4) (hm : ∀ K : A1 → A2 → A3 → A4 → Option β, (∀ (a1 : A1) (a2 : A2) (a3 : A3) (a4 : A4), K a1 a2 a3 a4 = some z → J a1 a2 a3 a4) → M K = some z → G) : G := hm K0 hj hf
theorem lw4 {A1 A2 A3 A4 β : Type} {z : β} {B : (A1 → A2 → A3 → A4 → Option β) → A1 → A2 → A3 → A4 → Option β} (J : A1 → A2 → A3 → A4 → Prop) (hs : ∀ k : A1 → A2 → A3 → A4 → Option β, (∀ (a1 : A1) (a2 : A2) (a3 : A3) (a4 : A4), k a1 a2 a3 a4 = some z → J a1 a2 a3 a4) → ∀ (a1 : A1) (a2 : A2) (a3 : A3) (a4 : A4), B k a1 a2 a3 a4 = some z → J a1 a2 a3 a4) : ∀ (n : Nat) (a1 : A1) (a2 : A2) (a3 : A3) (a4 : A4), lp_ (fun _ _ _ _ => none) B n a1 a2 a3 a4 = some z → J a1 a2 a3 a4 := by
  intro n
  induction n with
  | zero => intro a1 a2 a3 a4 h; cases h
  | succ n ih => exact hs _ ih
theorem jn5 {A1 A2 A3 A4 A5 β : Type} {z : β} {K0 : A1 → A2 → A3 → A4 → A5 → Option β} {M : (A1 → A2 → A3 → A4 → A5 → Option β) → Option β} {G : Prop} (J : A1 → A2 → A3 → A4 → A5 → Prop) (hf : lt_ K0 M = some z) (hj : ∀ (a1 : A1) (a2 : A2) (a3 : A3) (a4 : A4) (a5 : A5), K0 a1 a2 a3 a4 a5 = some z → J a1 a2 a3 a4 a5) (hm : ∀ K : A1 → A2 → A3 → A4 → A5 → Option β, (∀ (a1 : A1) (a2 : A2) (a3 : A3) (a4 : A4) (a5 : A5), K a1 a2 a3 a4 a5 = some z → J a1 a2 a3 a4 a5) → M K = some z → G) : G := hm K0 hj hf
theorem lw5 {A1 A2 A3 A4 A5 β : Type} {z : β} {B : (A1 → A2 → A3 → A4 → A5 → Option β) → A1 → A2 → A3 → A4 → A5 → Option β} (J : A1 → A2 → A3 → A4 → A5 → Prop) (hs : ∀ k : A1 → A2 → A3 → A4 → A5 → Option β, (∀ (a1 : A1) (a2 : A2) (a3 : A3) (a4 : A4) (a5 : A5), k a1 a2 a3 a4 a5 = some z → J a1 a2 a3 a4 a5) → ∀ (a1 : A1) (a2 : A2) (a3 : A3) (a4 : A4) (a5 : A5), B k a1 a2 a3 a4 a5 = some z → J a1 a2 a3 a4 a5) : ∀ (n : Nat) (a1 : A1) (a2 : A2) (a3 : A3) (a4 : A4) (a5 : A5), lp_ (fun _ _ _ _ _ => none) B n a1 a2 a3 a4 a5 = some z → J a1 a2 a3 a4 a5 := by
  intro n
  induction n with
  | zero => intro a1 a2 a3 a4 a5 h; cases h
  | succ n ih => exact hs _ ih
theorem jn6 {A1 A2 A3 A4 A5 A6 β : Type} {z : β} {K0 : A1 → A2 → A3 → A4 → A5 → A6 → Option β} {M : (A1 → A2 → A3 → A4 → A5 → A6 → Option β) → Option β} {G : Prop} (J : A1 → A2 → A3 → A4 → A5 → A6 → Prop) (hf : lt_ K0 M = some z) (hj : ∀ (a1 : A1) (a2 : A2) (a3 : A3) (a4 : A4) (a5 : A5) (a6 : A6), K0 a1 a2 a3 a4 a5 a6 = some z → J a1 a2 a3 a4 a5 a6) (hm : ∀ K : A1 → A2 → A3 → A4 → A5 → A6 → Option β, (∀ (a1 : A1) (a2 : A2) (a3 : A3) (a4 : A4) (a5 : A5) (a6 : A6), K a1 a2 a3 a4 a5 a6 = some z → J a1 a2 a3 a4 a5 a6) → M K = some z → G) : G := hm K0 hj hf
theorem lw6 {A1 A2 A3 A4 A5 A6 β : Type} {z : β} {B : (A1 → A2 → A3 → A4 → A5 → A6 → Option β) → A1 → A2 → A3 → A4 → A5 → A6 → Option β} (J : A1 → A2 → A3 → A4 → A5 → A6 → Prop) (hs : ∀ k : A1 → A2 → A3 → A4 → A5 → A6 → Option β, (∀ (a1 : A1) (a2 : A2) (a3 : A3) (a4 : A4) (a5 : A5) (a6 : A6), k a1 a2 a3 a4 a5 a6 = some z → J a1 a2 a3 a4 a5 a6) → ∀ (a1 : A1) (a2 : A2) (a3 : A3) (a4 : A4) (a5 : A5) (a6 : A6), B k a1 a2 a3 a4 a5 a6 = some z → J a1 a2 a3 a4 a5 a6) : ∀ (n : Nat) (a1 : A1) (a2 : A2) (a3 : A3) (a4 : A4) (a5 : A5) (a6 : A6), lp_ (fun _ _ _ _ _ _ => none) B n a1 a2 a3 a4 a5 a6 = some z → J a1 a2 a3 a4 a5 a6 := by
  intro n
  induction n with
  | zero => intro a1 a2 a3 a4 a5 a6 h; cases h
  | succ n ih => exact hs _ ih
theorem jn7 {A1 A2 A3 A4 A5 A6 A7 β : Type} {z : β} {K0 : A1 → A2 → A3 → A4 → A5 → A6 → A7 → Option β} {M : (A1 → A2 → A3 → A4 → A5 → A6 → A7 → Option β) → Option β} {G : Prop} (J : A1 → A2 → A3 → A4 → A5 → A6 → A7 → Prop) (hf : lt_ K0 M = some z) (hj : ∀ (a1 : A1) (a2 : A2) (a3 : A3) (a4 : A4) (a5 : A5) (a6 : A6) (a7 : A7), K0 a1 a2 a3 a4 a5 a6 a7 = some z → J a1 a2 a3 a4 a5 a6 a7) (hm : ∀ K : A1 → A2 → A3 → A4 → A5 → A6 → A7 → Option β, (∀ (a1 : A1) (a2 : A2) (a3 : A3) (a4 : A4) (a5 : A5) (a6 : A6) (a7 : A7), K a1 a2 a3 a4 a5 a6 a7 = some z → J a1 a2 a3 a4 a5 a6 a7) → M K = some z → G) : G := hm K0 hj hf
theorem lw7 {A1 A2 A3 A4 A5 A6 A7 β : Type} {z : β} {B : (A1 → A2 → A3 → A4 → A5 → A6 → A7 → Option β) → A1 → A2 → A3 → A4 → A5 → A6 → A7 → Option β} (J : A1 → A2 → A3 → A4 → A5 → A6 → A7 → Prop) (hs : ∀ k : A1 → A2 → A3 → A4 → A5 → A6 → A7 → Option β, (∀ (a1 : A1) (a2 : A2) (a3 : A3) (a4 : A4) (a5 : A5) (a6 : A6) (a7 : A7), k a1 a2 a3 a4 a5 a6 a7 = some z → J a1 a2 a3 a4 a5 a6 a7) → ∀ (a1 : A1) (a2 : A2) (a3 : A3) (a4 : A4) (a5 : A5) (a6 : A6) (a7 : A7), B k a1 a2 a3 a4 a5 a6 a7 = some z → J a1 a2 a3 a4 a5 a6 a7) : ∀ (n : Nat) (a1 : A1) (a2 : A2) (a3 : A3) (a4 : A4) (a5 : A5) (a6 : A6) (a7 : A7), lp_ (fun _ _ _ _ _ _ _ => none) B n a1 a2 a3 a4 a5 a6 a7 = some z → J a1 a2 a3 a4 a5 a6 a7 := by
  intro n
  induction n with
  | zero => intro a1 a2 a3 a4 a5 a6 a7 h; cases h
  | succ n ih => exact hs _ ih
theorem jn8 {A1 A2 A3 A4 A5 A6 A7 A8 β : Type} {z : β} {K0 : A1 → A2 → A3 → A4 → A5 → A6 → A7 → A8 → Option β} {M : (A1 → A2 → A3 → A4 → A5 → A6 → A7 → A8 → Option β) → Option β} {G : Prop} (J : A1 → A2 → A3 → A4 → A5 → A6 → A7 → A8 → Prop) (hf : lt_ K0 M = some z) (hj : ∀ (a1 : A1) (a2 : A2) (a3 : A3) (a4 : A4) (a5 : A5) (a6 : A6) (a7 : A7) (a8 : A8), K0 a1 a2 a3 a4 a5 a6 a7 a8 = some z → J a1 a2 a3 a4 a5 a6 a7 a8) (hm : ∀ K : A1 → A2 → A3 → A4 → A5 → A6 → A7 → A8 → Option β, (∀ (a1 : A1) (a2 : A2) (a3 : A3) (a4 : A4) (a5 : A5) (a6 : A6) (a7 : A7) (a8 : A8), K a1 a2 a3 a4 a5 a6 a7 a8 = some z → J a1 a2 a3 a4 a5 a6 a7 a8) → M K = some z → G) : G := hm K0 hj hf
theorem lw8 {A1 A2 A3 A4 A5 A6 A7 A8 β : Type} {z : β} {B : (A1 → A2 → A3 → A4 → A5 → A6 → A7 → A8 → Option β) → A1 → A2 → A3 → A4 → A5 → A6 → A7 → A8 → Option β} (J : A1 → A2 → A3 → A4 → A5 → A6 → A7 → A8 → Prop) (hs : ∀ k : A1 → A2 → A3 → A4 → A5 → A6 → A7 → A8 → Option β, (∀ (a1 : A1) (a2 : A2) (a3 : A3) (a4 : A4) (a5 : A5) (a6 : A6) (a7 : A7) (a8 : A8), k a1 a2 a3 a4 a5 a6 a7 a8 = some z → J a1 a2 a3 a4 a5 a6 a7 a8) → ∀ (a1 : A1) (a2 : A2) (a3 : A3) (a4 : A4) (a5 : A5) (a6 : A6) (a7 : A7) (a8 : A8), B k a1 a2 a3 a4 a5 a6 a7 a8 = some z → J a1 a2 a3 a4 a5 a6 a7 a8) : ∀ (n : Nat) (a1 : A1) (a2 : A2) (a3 : A3) (a4 : A4) (a5 : A5) (a6 : A6) (a7 : A7) (a8 : A8), lp_ (fun _ _ _ _ _ _ _ _ => none) B n a1 a2 a3 a4 a5 a6 a7 a8 = some z → J a1 a2 a3 a4 a5 a6 a7 a8 := by
  intro n
  induction n with
  | zero => intro a1 a2 a3 a4 a5 a6 a7 a8 h; cases h
  | succ n ih => exact hs _ ih
theorem jn9 {A1 A2 A3 A4 A5 A6 A7 A8 A9 β : Type} {z : β} {K0 : A1 → A2 → A3 → A4 → A5 → A6 → A7 → A8 → A9 → Option β} {M : (A1 → A2 → A3 → A4 → A5 → A6 → A7 → A8 → A9 → Option β) → Option β} {G : Prop} (J : A1 → A2 → A3 → A4 → A5 → A6 → A7 → A8 → A9 → Prop) (hf : lt_ K0 M = some z) (hj : ∀ (a1 : A1) (a2 : A2) (a3 : A3) (a4 : A4) (a5 : A5) (a6 : A6) (a7 : A7) (a8 : A8) (a9 : A9), K0 a1 a2 a3 a4 a5 a6 a7 a8 a9 = some z → J a1 a2 a3 a4 a5 a6 a7 a8 a9) (hm : ∀ K : A1 → A2 → A3 → A4 → A5 → A6 → A7 → A8 → A9 → Option β, (∀ (a1 : A1) (a2 : A2) (a3 : A3) (a4 : A4) (a5 : A5) (a6 : A6) (a7 : A7) (a8 : A8) (a9 : A9), K a1 a2 a3 a4 a5 a6 a7 a8 a9 = some z → J a1 a2 a3 a4 a5 a6 a7 a8 a9) → M K = some z → G) : G := hm K0 hj hf
theorem lw9 {A1 A2 A3 A4 A5 A6 A7 A8 A9 β : Type} {z : β} {B : (A1 → A2 → A3 → A4 → A5 → A6 → A7 → A8 → A9 → Option β) → A1 → A2 → A3 → A4 → A5 → A6 → A7 → A8 → A9 → Option β} (J : A1 → A2 → A3 → A4 → A5 → A6 → A7 → A8 → A9 → Prop) (hs : ∀ k : A1 → A2 → A3 → A4 → A5 → A6 → A7 → A8 → A9 → Option β, (∀ (a1 : A1) (a2 : A2) (a3 : A3) (a4 : A4) (a5 : A5) (a6 : A6) (a7 : A7) (a8 : A8) (a9 : A9), k a1 a2 a3 a4 a5 a6 a7 a8 a9 = some z → J a1 a2 a3 a4 a5 a6 a7 a8 a9) → ∀ (a1 : A1) (a2 : A2) (a3 : A3) (a4 : A4) (a5 : A5) (a6 : A6) (a7 : A7) (a8 : A8) (a9 : A9), B k a1 a2 a3 a4 a5 a6 a7 a8 a9 = some z → J a1 a2 a3 a4 a5 a6 a7 a8 a9) : ∀ (n : Nat) (a1 : A1) (a2 : A2) (a3 : A3) (a4 : A4) (a5 : A5) (a6 : A6) (a7 : A7) (a8 : A8) (a9 : A9), lp_ (fun _ _ _ _ _ _ _ _ _ => none) B n a1 a2 a3 a4 a5 a6 a7 a8 a9 = some z → J a1 a2 a3 a4 a5 a6 a7 a8 a9 := by
  intro n
  induction n with
  | zero => intro a1 a2 a3 a4 a5 a6 a7 a8 a9 h; cases h
  | succ n ih => exact hs _ ih
theorem jn10 {A1 A2 A3 A4 A5 A6 A7 A8 A9 A10 β : Type} {z : β} {K0 : A1 → A2 → A3 → A4 → A5 → A6 → A7 → A8 → A9 → A10 → Option β} {M : (A1 → A2 → A3 → A4 → A5 → A6 → A7 → A8 → A9 → A10 → Option β) → Option β} {G : Prop} (J : A1 → A2 → A3 → A4 → A5 → A6 → A7 → A8 → A9 → A10 → Prop) (hf : lt_ K0 M = some z) (hj : ∀ (a1 : A1) (a2 : A2) (a3 : A3) (a4 : A4) (a5 : A5) (a6 : A6) (a7 : A7) (a8 : A8) (a9 : A9) (a10 : A10), K0 a1 a2 a3 a4 a5 a6 a7 a8 a9 a10 = some z → J a1 a2 a3 a4 a5 a6 a7 a8 a9 a10) (hm : ∀ K : A1 → A2 → A3 → A4 → A5 → A6 → A7 → A8 → A9 → A10 → Option β, (∀ (a1 : A1) (a2 : A2) (a3 : A3) (a4 : A4) (a5 : A5) (a6 : A6) (a7 : A7) (a8 : A8) (a9 : A9) (a10 : A10), K a1 a2 a3 a4 a5 a6 a7 a8 a9 a10 = some z → J a1 a2 a3 a4 a5 a6 a7 a8 a9 a10) → M K = some z → G) : G := hm K0 hj hf
theorem lw10 {A1 A2 A3 A4 A5 A6 A7 A8 A9 A10 β : Type} {z : β} {B : (A1 → A2 → A3 → A4 → A5 → A6 → A7 → A8 → A9 → A10 → Option β) → A1 → A2 → A3 → A4 → A5 → A6 → A7 → A8 → A9 → A10 → Option β} (J : A1 → A2 → A3 → A4 → A5 → A6 → A7 → A8 → A9 → A10 → Prop) (hs : ∀ k : A1 → A2 → A3 → A4 → A5 → A6 → A7 → A8 → A9 → A10 → Option β, (∀ (a1 : A1) (a2 : A2) (a3 : A3) (a4 : A4) (a5 : A5) (a6 : A6) (a7 : A7) (a8 : A8) (a9 : A9) (a10 : A10), k a1 a2 a3 a4 a5 a6 a7 a8 a9 a10 = some z → J a1 a2 a3 a4 a5 a6 a7 a8 a9 a10) → ∀ (a1 : A1) (a2 : A2) (a3 : A3) (a4 : A4) (a5 : A5) (a6 : A6) (a7 : A7) (a8 : A8) (a9 : A9) (a10 : A10), B k a1 a2 a3 a4 a5 a6 a7 a8 a9 a10 = some z → J a1 a2 a3 a4 a5 a6 a7 a8 a9 a10) : ∀ (n : Nat) (a1 : A1) (a2 : A2) (a3 : A3) (a4 : A4) (a5 : A5) (a6 : A6) (a7 : A7) (a8 : A8) (a9 : A9) (a10 : A10), lp_ (fun _ _ _ _ _ _ _ _ _ _ => none) B n a1 a2 a3 a4 a5 a6 a7 a8 a9 a10 = some z → J a1 a2 a3 a4 a5 a6 a7 a8 a9 a10 := by
  intro n
  induction n with
  | zero => intro a1 a2 a3 a4 a5 a6 a7 a8 a9 a10 h; cases h
  | succ n ih => exact hs _ ih
theorem jn11 {A1 A2 A3 A4 A5 A6 A7 A8 A9 A10 A11 β : Type} {z : β} {K0 : A1 → A2 → A3 → A4 → A5 → A6 → A7 → A8 → A9 → A10 → A11 → Option β} {M : (A1 → A2 → A3 → A4 → A5 → A6 → A7 → A8 → A9 → A10 → A11 → Option β) → Option β} {G : Prop} (J : A1 → A2 → A3 → A4 → A5 → A6 → A7 → A8 → A9 → A10 → A11 → Prop) (hf : lt_ K0 M = some z) (hj : ∀ (a1 : A1) (a2 : A2) (a3 : A3) (a4 : A4) (a5 : A5) (a6 : A6) (a7 : A7) (a8 : A8) (a9 : A9) (a10 : A10) (a11 : A11), K0 a1 a2 a3 a4 a5 a6 a7 a8 a9 a10 a11 = some z → J a1 a2 a3 a4 a5 a6 a7 a8 a9 a10 a11) (hm : ∀ K : A1 → A2 → A3 → A4 → A5 → A6 → A7 → A8 → A9 → A10 → A11 → Option β, (∀ (a1 : A1) (a2 : A2) (a3 : A3) (a4 : A4) (a5 : A5) (a6 : A6) (a7 : A7) (a8 : A8) (a9 : A9) (a10 : A10) (a11 : A11), K a1 a2 a3 a4 a5 a6 a7 a8 a9 a10 a11 = some z → J a1 a2 a3 a4 a5 a6 a7 a8 a9 a10 a11) → M K = some z → G) : G := hm K0 hj hf
theorem lw11 {A1 A2 A3 A4 A5 A6 A7 A8 A9 A10 A11 β : Type} {z : β} {B : (A1 → A2 → A3 → A4 → A5 → A6 → A7 → A8 → A9 → A10 → A11 → Option β) → A1 → A2 → A3 → A4 → A5 → A6 → A7 → A8 → A9 → A10 → A11 → Option β} (J : A1 → A2 → A3 → A4 → A5 → A6 → A7 → A8 → A9 → A10 → A11 → Prop) (hs : ∀ k : A1 → A2 → A3 → A4 → A5 → A6 → A7 → A8 → A9 → A10 → A11 → Option β, (∀ (a1 : A1) (a2 : A2) (a3 : A3) (a4 : A4) (a5 : A5) (a6 : A6) (a7 : A7) (a8 : A8) (a9 : A9) (a10 : A10) (a11 : A11), k a1 a2 a3 a4 a5 a6 a7 a8 a9 a10 a11 = some z → J a1 a2 a3 a4 a5 a6 a7 a8 a9 a10 a11) → ∀ (a1 : A1) (a2 : A2) (a3 : A3) (a4 : A4) (a5 : A5) (a6 : A6) (a7 : A7) (a8 : A8) (a9 : A9) (a10 : A10) (a11 : A11), B k a1 a2 a3 a4 a5 a6 a7 a8 a9 a10 a11 = some z → J a1 a2 a3 a4 a5 a6 a7 a8 a9 a10 a11) : ∀ (n : Nat) (a1 : A1) (a2 : A2) (a3 : A3) (a4 : A4) (a5 : A5) (a6 : A6) (a7 : A7) (a8 : A8) (a9 : A9) (a10 : A10) (a11 : A11), lp_ (fun _ _ _ _ _ _ _ _ _ _ _ => none) B n a1 a2 a3 a4 a5 a6 a7 a8 a9 a10 a11 = some z → J a1 a2 a3 a4 a5 a6 a7 a8 a9 a10 a11 := by
  intro n
  induction n with
  | zero => intro a1 a2 a3 a4 a5 a6 a7 a8 a9 a10 a11 h; cases h
  | succ n ih => exact hs _ ih
theorem jn12 {A1 A2 A3 A4 A5 A6 A7 A8 A9 A10 A11 A12 β : Type} {z : β} {K0 : A1 → A2 → A3 → A4 → A5 → A6 → A7 → A8 → A9 → A10 → A11 → A12 → Option β} {M : (A1 → A2 → A3 → A4 → A5 → A6 → A7 → A8 → A9 → A10 → A11 → A12 → Option β) → Option β} {G : Prop} (J : A1 → A2 → A3 → A4 → A5 → A6 → A7 → A8 → A9 → A10 → A11 → A12 → Prop) (hf : lt_ K0 M = some z) (hj : ∀ (a1 : A1) (a2 : A2) (a3 : A3) (a4 : A4) (a5 : A5) (a6 : A6) (a7 : A7) (a8 : A8) (a9 : A9) (a10 : A10) (a11 : A11) (a12 : A12), K0 a1 a2 a3 a4 a5 a6 a7 a8 a9 a10 a11 a12 = some z → J a1 a2 a3 a4 a5 a6 a7 a8 a9 a10 a11 a12) (hm : ∀ K : A1 → A2 → A3 → A4 → A5 → A6 → A7 → A8 → A9 → A10 → A11 → A12 → Option β, (∀ (a1 : A1) (a2 : A2) (a3 : A3) (a4 : A4) (a5 : A5) (a6 : A6) (a7 : A7) (a8 : A8) (a9 : A9) (a10 : A10) (a11 : A11) (a12 : A12), K a1 a2 a3 a4 a5 a6 a7 a8 a9 a10 a11 a12 = some z → J a1 a2 a3 a4 a5 a6 a7 a8 a9 a10 a11 a12) → M K = some z → G) : G := hm K0 hj hf
theorem lw12 {A1 A2 A3 A4 A5 A6 A7 A8 A9 A10 A11 A12 β : Type} {z : β} {B : (A1 → A2 → A3 → A4 → A5 → A6 → A7 → A8 → A9 → A10 → A11 → A12 → Option β) → A1 → A2 → A3 → A4 → A5 → A6 → A7 → A8 → A9 → A10 → A11 → A12 → Option β} (J : A1 → A2 → A3 → A4 → A5 → A6 → A7 → A8 → A9 → A10 → A11 → A12 → Prop) (hs : ∀ k : A1 → A2 → A3 → A4 → A5 → A6 → A7 → A8 → A9 → A10 → A11 → A12 → Option β, (∀ (a1 : A1) (a2 : A2) (a3 : A3) (a4 : A4) (a5 : A5) (a6 : A6) (a7 : A7) (a8 : A8) (a9 : A9) (a10 : A10) (a11 : A11) (a12 : A12), k a1 a2 a3 a4 a5 a6 a7 a8 a9 a10 a11 a12 = some z → J a1 a2 a3 a4 a5 a6 a7 a8 a9 a10 a11 a12) → ∀ (a1 : A1) (a2 : A2) (a3 : A3) (a4 : A4) (a5 : A5) (a6 : A6) (a7 : A7) (a8 : A8) (a9 : A9) (a10 : A10) (a11 : A11) (a12 : A12), B k a1 a2 a3 a4 a5 a6 a7 a8 a9 a10 a11 a12 = some z → J a1 a2 a3 a4 a5 a6 a7 a8 a9 a10 a11 a12) : ∀ (n : Nat) (a1 : A1) (a2 : A2) (a3 : A3) (a4 : A4) (a5 : A5) (a6 : A6) (a7 : A7) (a8 : A8) (a9 : A9) (a10 : A10) (a11 : A11) (a12 : A12), lp_ (fun _ _ _ _ _ _ _ _ _ _ _ _ => none) B n a1 a2 a3 a4 a5 a6 a7 a8 a9 a10 a11 a12 = some z → J a1 a2 a3 a4 a5 a6 a7 a8 a9 a10 a11 a12 := by
  intro n
  induction n with
  | zero => intro a1 a2 a3 a4 a5 a6 a7 a8 a9 a10 a11 a12 h; cases h
  | succ n ih => exact hs _ ih
theorem jn0 {β : Type} {z : β} {K0 : Option β} {M : Option β → Option β} {G : Prop} (J : Prop) (hf : lt_ K0 M = some z) (hj : K0 = some z → J) (hm : ∀ K : Option β, (K = some z → J) → M K = some z → G) : G := hm K0 hj hf
theorem nj_P {D : va_G} {cl : List vw_C} {A0 : Nat → Prop} {ws ws' wc w1 : va_W} {H H1 : Heap} (hP : va_P D cl ws H) (hD : va_D A0 ws) (isC isR : List Nat) (h0 : isC.map (fun i => ws[i]?) = wc.map some) (h1 : isC.map (fun i => ws'[i]?) = w1.map some) (h2 : ws'.map (fun q => q.1) = ws.map (fun q => q.1)) (h3 : isR.map (fun i => ws'[i]?) = isR.map (fun i => ws[i]?)) (h4 : (List.range ws.length).all (fun k => isC.contains k || isR.contains k) = true)
    (hk : ∀ q : Nat, q < H.size → ¬ va_A wc H.size q → H1[q]? = H[q]?) (hP1 : va_P D cl w1 H1) : va_P D cl ws' H1 ∧ va_D A0 ws' := by
  have hlen : ws'.length = ws.length := by have := congrArg List.length h2; simpa using this
  have ad : ∀ (k : Nat) (q : Nat × va_E), ws'[k]? = some q → ∃ q', ws[k]? = some q' ∧ q'.1 = q.1 := by
    intro k q hq
    have e : (ws'.map (fun q => q.1))[k]? = some q.1 := by rw [List.getElem?_map, hq]; rfl
    rw [h2, List.getElem?_map] at e
    cases hw : ws[k]? with
    | none => rw [hw] at e; cases e
    | some q' => rw [hw] at e; exact ⟨q', rfl, Option.some.inj e⟩
  refine ⟨fun k q hq => ?_, fun i j x y hx hy hxy => ?_, fun k q hq => ?_⟩
  · have hkl : k < ws.length := by rw [← hlen]; exact (List.getElem?_eq_some_iff.mp hq).1
    have hcov := List.all_eq_true.mp h4 k (List.mem_range.mpr hkl)
    by_cases hc : k ∈ isC
    · obtain ⟨j, hj⟩ := List.getElem?_of_mem hc
      have e : (isC.map (fun i => ws'[i]?))[j]? = some (some q) := by rw [List.getElem?_map, hj]; exact congrArg some hq
      rw [h1, List.getElem?_map] at e
      cases hw : w1[j]? with
      | none => rw [hw] at e; cases e
      | some q' =>
        rw [hw] at e
        have e2 : q' = q := Option.some.inj (Option.some.inj e)
        subst e2
        exact hP1 j _ hw
    · have hr : k ∈ isR := by
        rcases (Bool.or_eq_true _ _).mp hcov with h | h
        · exact absurd (List.contains_iff_mem.mp h) hc
        · exact List.contains_iff_mem.mp h
      obtain ⟨j, hj⟩ := List.getElem?_of_mem hr
      have e : (isR.map (fun i => ws'[i]?))[j]? = some (some q) := by rw [List.getElem?_map, hj]; exact congrArg some hq
      rw [h3, List.getElem?_map, hj] at e
      have hq0 : ws[k]? = some q := Option.some.inj e
      refine (hP k q hq0).kept (hk q.1 (hP k q hq0).lt (fun h => ?_))
      rcases h with ⟨j2, e2, h⟩ | h
      · have e3 : (isC.map (fun i => ws[i]?))[j2]? = some (some (q.1, e2)) := by rw [h0, List.getElem?_map, h]; rfl
        rw [List.getElem?_map] at e3
        cases hi : isC[j2]? with
        | none => rw [hi] at e3; cases e3
        | some i =>
          rw [hi] at e3
          have hk2 : k = i := hD.1 k i q (q.1, e2) hq0 (Option.some.inj e3) rfl
          exact hc (by rw [hk2]; exact List.mem_of_getElem? hi)
      · exact absurd (hP k q hq0).lt (by omega)
  · obtain ⟨x', g1, g2⟩ := ad i x hx
    obtain ⟨y', g3, g4⟩ := ad j y hy
    exact hD.1 i j x' y' g1 g3 (by rw [g2, g4]; exact hxy)
  · obtain ⟨q', g1, g2⟩ := ad k q hq
    rw [← g2]
    exact hD.2 k q' g1
section QC
variable {p : Program} {l : Launch} {e : Env} {R : Room} {s : State} {m : MethodId} {args : Array Value} {below : List Frame} {meth : Method} {c : Code} {H : Heap} {locs : List Loc} {cells slots : Nat} {Q : State → Prop}
variable {cc : ByteArray} {nL : Nat} {Wl : List Cond} {own : String} {D : va_G} {cl : List vw_C} {tys : List (ClassId × FieldType)} {E : (Nat → Prop) → State → Prop} {A : Nat → Prop} {pc : Nat} {ls : Array Slot} {rest : List Value} {ws : va_W}
variable {y : MethodName} {bytes : ByteArray} {maxL n index : Nat} {ret : Option FieldType} {wsc : List Cond} {rm : Room} {w0 w1 : va_W} {C : String} {b : Nat} {As : List Value}
theorem nc_core {o : Option Value} {st0 : List Value} {a : Array Value} (hC : CX p m c cc nL s args Wl own D cl tys E A) (hw : WS D cl A s.heap H locs ws) (hr : va_Run p l e R s m args below meth c H locs cells slots 0 0 (F0 m pc ls st0) rest (CQ D cl tys o w1 (va_A w0 H.size) a) (va_A w0 H.size)) (isC isR : List Nat) (ws' : va_W) (h0 : isC.map (fun i => ws[i]?) = w0.map some) (h1 : isC.map (fun i => ws'[i]?) = w1.map some) (h2 : ws'.map (fun q => q.1) = ws.map (fun q => q.1)) (h3 : isR.map (fun i => ws'[i]?) = isR.map (fun i => ws[i]?)) (h4 : (List.range ws.length).all (fun k => isC.contains k || isR.contains k) = true)
    (kk : ∀ (H1 : Heap) (locs1 : List Loc), WS D cl A s.heap H1 locs1 ws' → W p l e R s m args below meth c H1 locs1 cells slots Q (F0 m (pc + 3) ls (o.toList ++ rest))) : W p l e R s m args below meth c H locs cells slots Q (F0 m pc ls st0) := by
  intro T hT X
  obtain ⟨v, st₀, t, T', L, h0', X', hL, e1, e2, ⟨⟨hv, hP1, hK1, hD1⟩, hz, hk⟩, st⟩ := hr T hT X
  cases hv
  rw [h0'] at hz hk
  have hfree := va_free hw.2.1 hw.2.2 hC.2.2.2.1 isC h0
  have hk' : ∀ q : Nat, q < H.size → ¬ va_A w0 H.size q → T'.heap[q]? = H[q]? := fun q g1 g2 => by rw [e1]; exact hk q g1 g2
  obtain ⟨hPn, hDn⟩ := nj_P hw.1 hw.2.1 isC isR h0 h1 h2 h3 h4 hk' (by rw [e1]; exact hP1)
  obtain ⟨t2, a1, b1⟩ := kk T'.heap (locs ++ L) ⟨hPn, hDn, Nat.le_trans hw.2.2.1 (by rw [e1]; exact hz), fun q g1 g2 => by
      rw [hk' q (Nat.lt_of_lt_of_le g1 hw.2.2.1) (fun h => g2 (hfree q h))]; exact hw.2.2.2.1 q g1 g2, fun q hq => by
      rcases List.mem_append.mp hq with h | h
      · exact hw.2.2.2.2 q h
      · exact hfree _ (hL q h)⟩ T' rfl X'
  exact ⟨t2, st t2 a1, b1⟩
theorem nc_pre (hC : CX p m c cc nL s args Wl own D cl tys E A) (hw : WS D cl A s.heap H locs ws) (isC : List Nat) (hn : va_nd isC = true) (h0 : isC.map (fun i => ws[i]?) = w0.map some) (av : List Value) : PreS s H (CP D cl tys E av w0 H.size) av := by
  refine ⟨CP.blind hC.2.2.2.2.1, fun U hU hW => ⟨rfl, by rw [hU], ?_, va_K.moved hW.alike hC.2.2.1, (hw.2.1.sub isC hn h0).weaken (fun _ _ _ _ => trivial), ?_⟩⟩
  · rw [hU]
    intro k q hq
    obtain ⟨i, g1, g2⟩ := va_in_of (X := ws) isC h0 hq
    exact hw.1 i q g2
  · exact hC.2.2.2.2.1 A _ s U (va_free hw.2.1 hw.2.2 hC.2.2.2.1 isC h0) hW.alike (fun a h1 h2 => by rw [hU]; exact hw.2.2.2.1 a h1 h2) hC.2.2.2.2.2
def FcB (Wl : List Cond) (own : String) (index : Nat) (y : MethodName) (bytes : ByteArray) (maxL : Nat) (ret : Option FieldType) (wsc : List Cond) (n : Nat) : Prop := wsc = Cond.code y bytes maxL ret :: Wl ∧ Cond.code y bytes maxL ret ∈ Wl ∧ Cond.methodLink own index y ∈ Wl ∧ Cond.initialized y.cls ∈ Wl ∧ (y.cls ≠ "java/lang/invoke/MethodHandle" ∧ y.cls ≠ "java/lang/invoke/VarHandle" ∧ (parseMethodDescriptor y.desc).map (fun d => d.parameters.length) = some n)
def FcV (Wl : List Cond) (cl : List vw_C) (own : String) (index ci : Nat) (y : MethodName) (bytes : ByteArray) (maxL : Nat) (ret : Option FieldType) (wsc : List Cond) (n : Nat) : Prop := FcB Wl own index y bytes maxL ret wsc n ∧ Cond.instanceMethod y ∈ Wl ∧ Cond.selects y.cls y y ∈ Wl ∧ ∃ (T : u_T) (N : Nat), cl[ci]? = some (y.cls, T, N)
def FcS (Wl : List Cond) (own : String) (index : Nat) (y : MethodName) (bytes : ByteArray) (maxL : Nat) (ret : Option FieldType) (wsc : List Cond) (n : Nat) : Prop := FcB Wl own index y bytes maxL ret wsc n ∧ Cond.static y ∈ Wl
theorem nc_B (hC : CX p m c cc nL s args Wl own D cl tys E A) (hF : FcB Wl own index y bytes maxL ret wsc n) (hrm : rm.cells = 0 ∧ rm.slots = 0) (hR : rm.frames + 1 ≤ R.frames ∧ 8 + (maxL + 11) + rm.locals ≤ R.locals) : CallB R s args own index y bytes maxL ret wsc rm 0 0 n := by
  obtain ⟨h1, h2, h3, h4, h5⟩ := hF
  refine callB_of n hC.1.2.2.2.2 (fun w hw => ?_) h1 hrm.1 hrm.2 (hC.1.2.2.2.2 _ h4) (hC.1.2.2.2.2 _ h3) h5 hR
  rw [h1] at hw
  rcases List.mem_cons.mp hw with rfl | hw
  · exact ⟨h2, hC.2.1 _ h2⟩
  · exact ⟨hw, hC.2.1 _ hw⟩
theorem n_callVi {r : Int32} (hC : CX p m c cc nL s args Wl own D cl tys E A) (hw : WS D cl A s.heap H locs ws) {ci : Nat} {fs : List Value} (hF : FcV Wl cl own index ci y bytes maxL ret wsc n) (hM : Ct l y wsc rm D cl tys E (.ref b :: As) w0 (some (.int r)) w1) (isC isR : List Nat) (ws' : va_W) (q0 : Nat) (he : ws[q0]? = some (b, .inr (ci, fs))) (hrm : rm.cells = 0 ∧ rm.slots = 0) (hR : rm.frames + 1 ≤ R.frames ∧ 8 + (maxL + 11) + rm.locals ≤ R.locals) (hn : va_nd isC = true) (h0 : isC.map (fun i => ws[i]?) = w0.map some) (h1 : isC.map (fun i => ws'[i]?) = w1.map some) (h2 : ws'.map (fun q => q.1) = ws.map (fun q => q.1)) (h3 : isR.map (fun i => ws'[i]?) = isR.map (fun i => ws[i]?)) (h4 : (List.range ws.length).all (fun k => isC.contains k || isR.contains k) = true) (hlen : As.length = n) (hml : ls.size = nL) (hroom : (rest.map fun v => v.category).sum ≤ 8) (hcs : cells + 0 ≤ R.cells ∧ slots + 0 ≤ R.slots) (hdg : decode cc pc = .ok (.invokevirtual index, 3))
    (kk : ∀ (H1 : Heap) (locs1 : List Loc), WS D cl A s.heap H1 locs1 ws' → W p l e R s m args below meth c H1 locs1 cells slots Q (F0 m (pc + 3) ls (.int r :: rest))) {st0 : List Value} (hst : st0 = As.reverse ++ .ref b :: rest) : W p l e R s m args below meth c H locs cells slots Q (F0 m pc ls st0) := by
  obtain ⟨hB, hi, hs, T, N, hc⟩ := hF
  subst hst
  exact nc_core hC hw (va_runV (As := As) (rest := rest) (C := y.cls) hC.1 (hM H.size) ⟨nc_B hC hB hrm hR, hC.1.2.2.2.2 _ hi, hC.1.2.2.2.2 _ hs⟩ ⟨(nc_pre hC hw isC hn h0 _).1, va_recv hC.2.2.1 hw.1 hc he, (nc_pre hC hw isC hn h0 _).2⟩ rfl hlen hml rfl (lv_room hroom) hdg hcs) isC isR ws' h0 h1 h2 h3 h4 kk
theorem n_callSi {r : Int32} (hC : CX p m c cc nL s args Wl own D cl tys E A) (hw : WS D cl A s.heap H locs ws) (hF : FcS Wl own index y bytes maxL ret wsc n) (hM : Ct l y wsc rm D cl tys E As w0 (some (.int r)) w1) (isC isR : List Nat) (ws' : va_W) (hrm : rm.cells = 0 ∧ rm.slots = 0) (hR : rm.frames + 1 ≤ R.frames ∧ 8 + (maxL + 11) + rm.locals ≤ R.locals) (hn : va_nd isC = true) (h0 : isC.map (fun i => ws[i]?) = w0.map some) (h1 : isC.map (fun i => ws'[i]?) = w1.map some) (h2 : ws'.map (fun q => q.1) = ws.map (fun q => q.1)) (h3 : isR.map (fun i => ws'[i]?) = isR.map (fun i => ws[i]?)) (h4 : (List.range ws.length).all (fun k => isC.contains k || isR.contains k) = true) (hlen : As.length = n) (hml : ls.size = nL) (hroom : (rest.map fun v => v.category).sum ≤ 8) (hcs : cells + 0 ≤ R.cells ∧ slots + 0 ≤ R.slots) (hdg : decode cc pc = .ok (.invokestatic index, 3))
    (kk : ∀ (H1 : Heap) (locs1 : List Loc), WS D cl A s.heap H1 locs1 ws' → W p l e R s m args below meth c H1 locs1 cells slots Q (F0 m (pc + 3) ls (.int r :: rest))) {st0 : List Value} (hst : st0 = As.reverse ++ rest) : W p l e R s m args below meth c H locs cells slots Q (F0 m pc ls st0) := by
  obtain ⟨hB, hi⟩ := hF
  subst hst
  exact nc_core hC hw (va_runS (As := As) (rest := rest) hC.1 (hM H.size) ⟨nc_B hC hB hrm hR, hC.1.2.2.2.2 _ hi⟩ (nc_pre hC hw isC hn h0 _) rfl hlen hml rfl (lv_room hroom) hdg hcs) isC isR ws' h0 h1 h2 h3 h4 kk
theorem n_callVl {r : Int64} (hC : CX p m c cc nL s args Wl own D cl tys E A) (hw : WS D cl A s.heap H locs ws) {ci : Nat} {fs : List Value} (hF : FcV Wl cl own index ci y bytes maxL ret wsc n) (hM : Ct l y wsc rm D cl tys E (.ref b :: As) w0 (some (.long r)) w1) (isC isR : List Nat) (ws' : va_W) (q0 : Nat) (he : ws[q0]? = some (b, .inr (ci, fs))) (hrm : rm.cells = 0 ∧ rm.slots = 0) (hR : rm.frames + 1 ≤ R.frames ∧ 8 + (maxL + 11) + rm.locals ≤ R.locals) (hn : va_nd isC = true) (h0 : isC.map (fun i => ws[i]?) = w0.map some) (h1 : isC.map (fun i => ws'[i]?) = w1.map some) (h2 : ws'.map (fun q => q.1) = ws.map (fun q => q.1)) (h3 : isR.map (fun i => ws'[i]?) = isR.map (fun i => ws[i]?)) (h4 : (List.range ws.length).all (fun k => isC.contains k || isR.contains k) = true) (hlen : As.length = n) (hml : ls.size = nL) (hroom : (rest.map fun v => v.category).sum ≤ 8) (hcs : cells + 0 ≤ R.cells ∧ slots + 0 ≤ R.slots) (hdg : decode cc pc = .ok (.invokevirtual index, 3))
    (kk : ∀ (H1 : Heap) (locs1 : List Loc), WS D cl A s.heap H1 locs1 ws' → W p l e R s m args below meth c H1 locs1 cells slots Q (F0 m (pc + 3) ls (.long r :: rest))) {st0 : List Value} (hst : st0 = As.reverse ++ .ref b :: rest) : W p l e R s m args below meth c H locs cells slots Q (F0 m pc ls st0) := by
  obtain ⟨hB, hi, hs, T, N, hc⟩ := hF
  subst hst
  exact nc_core hC hw (va_runV (As := As) (rest := rest) (C := y.cls) hC.1 (hM H.size) ⟨nc_B hC hB hrm hR, hC.1.2.2.2.2 _ hi, hC.1.2.2.2.2 _ hs⟩ ⟨(nc_pre hC hw isC hn h0 _).1, va_recv hC.2.2.1 hw.1 hc he, (nc_pre hC hw isC hn h0 _).2⟩ rfl hlen hml rfl (lv_room hroom) hdg hcs) isC isR ws' h0 h1 h2 h3 h4 kk
theorem n_callSl {r : Int64} (hC : CX p m c cc nL s args Wl own D cl tys E A) (hw : WS D cl A s.heap H locs ws) (hF : FcS Wl own index y bytes maxL ret wsc n) (hM : Ct l y wsc rm D cl tys E As w0 (some (.long r)) w1) (isC isR : List Nat) (ws' : va_W) (hrm : rm.cells = 0 ∧ rm.slots = 0) (hR : rm.frames + 1 ≤ R.frames ∧ 8 + (maxL + 11) + rm.locals ≤ R.locals) (hn : va_nd isC = true) (h0 : isC.map (fun i => ws[i]?) = w0.map some) (h1 : isC.map (fun i => ws'[i]?) = w1.map some) (h2 : ws'.map (fun q => q.1) = ws.map (fun q => q.1)) (h3 : isR.map (fun i => ws'[i]?) = isR.map (fun i => ws[i]?)) (h4 : (List.range ws.length).all (fun k => isC.contains k || isR.contains k) = true) (hlen : As.length = n) (hml : ls.size = nL) (hroom : (rest.map fun v => v.category).sum ≤ 8) (hcs : cells + 0 ≤ R.cells ∧ slots + 0 ≤ R.slots) (hdg : decode cc pc = .ok (.invokestatic index, 3))
    (kk : ∀ (H1 : Heap) (locs1 : List Loc), WS D cl A s.heap H1 locs1 ws' → W p l e R s m args below meth c H1 locs1 cells slots Q (F0 m (pc + 3) ls (.long r :: rest))) {st0 : List Value} (hst : st0 = As.reverse ++ rest) : W p l e R s m args below meth c H locs cells slots Q (F0 m pc ls st0) := by
  obtain ⟨hB, hi⟩ := hF
  subst hst
  exact nc_core hC hw (va_runS (As := As) (rest := rest) hC.1 (hM H.size) ⟨nc_B hC hB hrm hR, hC.1.2.2.2.2 _ hi⟩ (nc_pre hC hw isC hn h0 _) rfl hlen hml rfl (lv_room hroom) hdg hcs) isC isR ws' h0 h1 h2 h3 h4 kk
theorem n_callVv  (hC : CX p m c cc nL s args Wl own D cl tys E A) (hw : WS D cl A s.heap H locs ws) {ci : Nat} {fs : List Value} (hF : FcV Wl cl own index ci y bytes maxL ret wsc n) (hM : Ct l y wsc rm D cl tys E (.ref b :: As) w0 none w1) (isC isR : List Nat) (ws' : va_W) (q0 : Nat) (he : ws[q0]? = some (b, .inr (ci, fs))) (hrm : rm.cells = 0 ∧ rm.slots = 0) (hR : rm.frames + 1 ≤ R.frames ∧ 8 + (maxL + 11) + rm.locals ≤ R.locals) (hn : va_nd isC = true) (h0 : isC.map (fun i => ws[i]?) = w0.map some) (h1 : isC.map (fun i => ws'[i]?) = w1.map some) (h2 : ws'.map (fun q => q.1) = ws.map (fun q => q.1)) (h3 : isR.map (fun i => ws'[i]?) = isR.map (fun i => ws[i]?)) (h4 : (List.range ws.length).all (fun k => isC.contains k || isR.contains k) = true) (hlen : As.length = n) (hml : ls.size = nL) (hroom : (rest.map fun v => v.category).sum ≤ 8) (hcs : cells + 0 ≤ R.cells ∧ slots + 0 ≤ R.slots) (hdg : decode cc pc = .ok (.invokevirtual index, 3))
    (kk : ∀ (H1 : Heap) (locs1 : List Loc), WS D cl A s.heap H1 locs1 ws' → W p l e R s m args below meth c H1 locs1 cells slots Q (F0 m (pc + 3) ls (rest))) {st0 : List Value} (hst : st0 = As.reverse ++ .ref b :: rest) : W p l e R s m args below meth c H locs cells slots Q (F0 m pc ls st0) := by
  obtain ⟨hB, hi, hs, T, N, hc⟩ := hF
  subst hst
  exact nc_core hC hw (va_runV (As := As) (rest := rest) (C := y.cls) hC.1 (hM H.size) ⟨nc_B hC hB hrm hR, hC.1.2.2.2.2 _ hi, hC.1.2.2.2.2 _ hs⟩ ⟨(nc_pre hC hw isC hn h0 _).1, va_recv hC.2.2.1 hw.1 hc he, (nc_pre hC hw isC hn h0 _).2⟩ rfl hlen hml rfl (lv_room hroom) hdg hcs) isC isR ws' h0 h1 h2 h3 h4 kk
theorem n_callSv  (hC : CX p m c cc nL s args Wl own D cl tys E A) (hw : WS D cl A s.heap H locs ws) (hF : FcS Wl own index y bytes maxL ret wsc n) (hM : Ct l y wsc rm D cl tys E As w0 none w1) (isC isR : List Nat) (ws' : va_W) (hrm : rm.cells = 0 ∧ rm.slots = 0) (hR : rm.frames + 1 ≤ R.frames ∧ 8 + (maxL + 11) + rm.locals ≤ R.locals) (hn : va_nd isC = true) (h0 : isC.map (fun i => ws[i]?) = w0.map some) (h1 : isC.map (fun i => ws'[i]?) = w1.map some) (h2 : ws'.map (fun q => q.1) = ws.map (fun q => q.1)) (h3 : isR.map (fun i => ws'[i]?) = isR.map (fun i => ws[i]?)) (h4 : (List.range ws.length).all (fun k => isC.contains k || isR.contains k) = true) (hlen : As.length = n) (hml : ls.size = nL) (hroom : (rest.map fun v => v.category).sum ≤ 8) (hcs : cells + 0 ≤ R.cells ∧ slots + 0 ≤ R.slots) (hdg : decode cc pc = .ok (.invokestatic index, 3))
    (kk : ∀ (H1 : Heap) (locs1 : List Loc), WS D cl A s.heap H1 locs1 ws' → W p l e R s m args below meth c H1 locs1 cells slots Q (F0 m (pc + 3) ls (rest))) {st0 : List Value} (hst : st0 = As.reverse ++ rest) : W p l e R s m args below meth c H locs cells slots Q (F0 m pc ls st0) := by
  obtain ⟨hB, hi⟩ := hF
  subst hst
  exact nc_core hC hw (va_runS (As := As) (rest := rest) hC.1 (hM H.size) ⟨nc_B hC hB hrm hR, hC.1.2.2.2.2 _ hi⟩ (nc_pre hC hw isC hn h0 _) rfl hlen hml rfl (lv_room hroom) hdg hcs) isC isR ws' h0 h1 h2 h3 h4 kk
end QC
end
section
def R_Store : String := "BootMaker$Store"
def R_Sums : String := "BootMaker$Sums"
def R_Plan : String := "BootMaker$Plan"
def R_Volume : String := "BootMaker$Volume"
def R_Writer : String := "BootMaker$Writer"
def R_Firmware : String := "BootMaker$Firmware"
def R_BootMaker : String := "BootMaker"
def R_Model : String := "BootMakerModel"
def R_Law : String := "BootMakerLaw"
def F_Store : u_T := fun k => match k with
  | 0 => ("BootMaker$Store", "length", "I", true)
  | _ => ("BootMaker$Store", "words", "[J", true)
def t_Store : Nat → FieldType := fun k => match k with
  | 0 => .int
  | _ => .array .long
theorem n_Store : ∀ a, a < 2 → ∀ b, b < 2 → a ≠ b → (F_Store a).2.1 ≠ (F_Store b).2.1 := by decide +kernel
theorem t_Store_ok : ∀ k, k < 2 → parseFieldDescriptor (F_Store k).2.2.1 = some (t_Store k) := by decide +kernel
def F_Sums : u_T := fun k => match k with
  | 0 => ("BootMaker$Sums", "shifted", "[I", true)
  | _ => ("BootMaker$Sums", "bits", "I", false)
def t_Sums : Nat → FieldType := fun k => match k with
  | 0 => .array .int
  | _ => .int
theorem n_Sums : ∀ a, a < 2 → ∀ b, b < 2 → a ≠ b → (F_Sums a).2.1 ≠ (F_Sums b).2.1 := by decide +kernel
theorem t_Sums_ok : ∀ k, k < 2 → parseFieldDescriptor (F_Sums k).2.2.1 = some (t_Sums k) := by decide +kernel
def F_Plan : u_T := fun k => match k with
  | 0 => ("BootMaker$Plan", "lastUsable", "I", true)
  | 1 => ("BootMaker$Plan", "sorts", "[I", true)
  | 2 => ("BootMaker$Plan", "starts", "[I", true)
  | 3 => ("BootMaker$Plan", "lengths", "[I", true)
  | 4 => ("BootMaker$Plan", "partitions", "I", false)
  | 5 => ("BootMaker$Plan", "names", "[J", true)
  | 6 => ("BootMaker$Plan", "sizes", "[I", true)
  | 7 => ("BootMaker$Plan", "seeds", "[I", true)
  | 8 => ("BootMaker$Plan", "scattered", "[Z", true)
  | 9 => ("BootMaker$Plan", "files", "I", false)
  | _ => ("BootMaker$Plan", "kernelAddress", "I", false)
def t_Plan : Nat → FieldType := fun k => match k with
  | 0 => .int
  | 1 => .array .int
  | 2 => .array .int
  | 3 => .array .int
  | 4 => .int
  | 5 => .array .long
  | 6 => .array .int
  | 7 => .array .int
  | 8 => .array .boolean
  | 9 => .int
  | _ => .int
theorem n_Plan : ∀ a, a < 11 → ∀ b, b < 11 → a ≠ b → (F_Plan a).2.1 ≠ (F_Plan b).2.1 := by decide +kernel
theorem t_Plan_ok : ∀ k, k < 11 → parseFieldDescriptor (F_Plan k).2.2.1 = some (t_Plan k) := by decide +kernel
def F_Volume : u_T := fun k => match k with
  | 0 => ("BootMaker$Volume", "start", "I", false)
  | 1 => ("BootMaker$Volume", "length", "I", false)
  | 2 => ("BootMaker$Volume", "tableSectors", "I", false)
  | 3 => ("BootMaker$Volume", "clusters", "I", false)
  | 4 => ("BootMaker$Volume", "next", "[I", true)
  | 5 => ("BootMaker$Volume", "firstClusters", "[I", true)
  | 6 => ("BootMaker$Volume", "runStarts", "[I", true)
  | 7 => ("BootMaker$Volume", "runLengths", "[I", true)
  | _ => ("BootMaker$Volume", "runs", "I", false)
def t_Volume : Nat → FieldType := fun k => match k with
  | 0 => .int
  | 1 => .int
  | 2 => .int
  | 3 => .int
  | 4 => .array .int
  | 5 => .array .int
  | 6 => .array .int
  | 7 => .array .int
  | _ => .int
theorem n_Volume : ∀ a, a < 9 → ∀ b, b < 9 → a ≠ b → (F_Volume a).2.1 ≠ (F_Volume b).2.1 := by decide +kernel
theorem t_Volume_ok : ∀ k, k < 9 → parseFieldDescriptor (F_Volume k).2.2.1 = some (t_Volume k) := by decide +kernel
def F_Writer : u_T := fun k => match k with
  | 0 => ("BootMaker$Writer", "disk", "LBootMaker$Store;", true)
  | 1 => ("BootMaker$Writer", "sectors", "I", true)
  | 2 => ("BootMaker$Writer", "plan", "LBootMaker$Plan;", true)
  | 3 => ("BootMaker$Writer", "sums", "LBootMaker$Sums;", true)
  | _ => ("BootMaker$Writer", "volume", "LBootMaker$Volume;", true)
def t_Writer : Nat → FieldType := fun k => match k with
  | 0 => .object "BootMaker$Store"
  | 1 => .int
  | 2 => .object "BootMaker$Plan"
  | 3 => .object "BootMaker$Sums"
  | _ => .object "BootMaker$Volume"
theorem n_Writer : ∀ a, a < 5 → ∀ b, b < 5 → a ≠ b → (F_Writer a).2.1 ≠ (F_Writer b).2.1 := by decide +kernel
theorem t_Writer_ok : ∀ k, k < 5 → parseFieldDescriptor (F_Writer k).2.2.1 = some (t_Writer k) := by decide +kernel
def F_Firmware : u_T := fun k => match k with
  | 0 => ("BootMaker$Firmware", "ram", "LBootMaker$Store;", true)
  | 1 => ("BootMaker$Firmware", "disk", "LBootMaker$Store;", true)
  | 2 => ("BootMaker$Firmware", "sectors", "I", true)
  | 3 => ("BootMaker$Firmware", "sums", "LBootMaker$Sums;", true)
  | 4 => ("BootMaker$Firmware", "loaderSectors", "[I", true)
  | 5 => ("BootMaker$Firmware", "chain", "[I", true)
  | 6 => ("BootMaker$Firmware", "tableSectors", "I", false)
  | 7 => ("BootMaker$Firmware", "clusters", "I", false)
  | 8 => ("BootMaker$Firmware", "tried", "Z", false)
  | 9 => ("BootMaker$Firmware", "header", "I", false)
  | 10 => ("BootMaker$Firmware", "bootStart", "I", false)
  | 11 => ("BootMaker$Firmware", "kernelAddress", "I", false)
  | _ => ("BootMaker$Firmware", "kernelSize", "I", false)
def t_Firmware : Nat → FieldType := fun k => match k with
  | 0 => .object "BootMaker$Store"
  | 1 => .object "BootMaker$Store"
  | 2 => .int
  | 3 => .object "BootMaker$Sums"
  | 4 => .array .int
  | 5 => .array .int
  | 6 => .int
  | 7 => .int
  | 8 => .boolean
  | 9 => .int
  | 10 => .int
  | 11 => .int
  | _ => .int
theorem n_Firmware : ∀ a, a < 13 → ∀ b, b < 13 → a ≠ b → (F_Firmware a).2.1 ≠ (F_Firmware b).2.1 := by decide +kernel
theorem t_Firmware_ok : ∀ k, k < 13 → parseFieldDescriptor (F_Firmware k).2.2.1 = some (t_Firmware k) := by decide +kernel
def F_BootMaker : u_T := fun k => match k with
  | 0 => ("BootMaker", "disk", "LBootMaker$Store;", true)
  | 1 => ("BootMaker", "sums", "LBootMaker$Sums;", true)
  | 2 => ("BootMaker", "plan", "LBootMaker$Plan;", true)
  | 3 => ("BootMaker", "writer", "LBootMaker$Writer;", true)
  | _ => ("BootMaker", "firmware", "LBootMaker$Firmware;", true)
def t_BootMaker : Nat → FieldType := fun k => match k with
  | 0 => .object "BootMaker$Store"
  | 1 => .object "BootMaker$Sums"
  | 2 => .object "BootMaker$Plan"
  | 3 => .object "BootMaker$Writer"
  | _ => .object "BootMaker$Firmware"
theorem n_BootMaker : ∀ a, a < 5 → ∀ b, b < 5 → a ≠ b → (F_BootMaker a).2.1 ≠ (F_BootMaker b).2.1 := by decide +kernel
theorem t_BootMaker_ok : ∀ k, k < 5 → parseFieldDescriptor (F_BootMaker k).2.2.1 = some (t_BootMaker k) := by decide +kernel
def F_Model : u_T := fun k => match k with
  | 0 => ("BootMakerModel", "thrown", "I", false)
  | 1 => ("BootMakerModel", "sectors", "I", true)
  | 2 => ("BootMakerModel", "disk", "[B", true)
  | 3 => ("BootMakerModel", "partitions", "I", false)
  | 4 => ("BootMakerModel", "sort", "[I", true)
  | 5 => ("BootMakerModel", "first", "[I", true)
  | 6 => ("BootMakerModel", "many", "[I", true)
  | 7 => ("BootMakerModel", "files", "I", false)
  | 8 => ("BootMakerModel", "name", "[J", true)
  | 9 => ("BootMakerModel", "size", "[I", true)
  | 10 => ("BootMakerModel", "seed", "[I", true)
  | 11 => ("BootMakerModel", "scattered", "[Z", true)
  | 12 => ("BootMakerModel", "address", "I", false)
  | 13 => ("BootMakerModel", "start", "I", false)
  | 14 => ("BootMakerModel", "fat", "I", false)
  | 15 => ("BootMakerModel", "clusters", "I", false)
  | 16 => ("BootMakerModel", "head", "[I", true)
  | 17 => ("BootMakerModel", "follows", "[I", true)
  | 18 => ("BootMakerModel", "header", "I", false)
  | 19 => ("BootMakerModel", "found", "I", false)
  | 20 => ("BootMakerModel", "kernelAt", "I", false)
  | 21 => ("BootMakerModel", "kernelSize", "I", false)
  | 22 => ("BootMakerModel", "any", "Z", false)
  | _ => ("BootMakerModel", "memory", "[B", true)
def t_Model : Nat → FieldType := fun k => match k with
  | 0 => .int
  | 1 => .int
  | 2 => .array .byte
  | 3 => .int
  | 4 => .array .int
  | 5 => .array .int
  | 6 => .array .int
  | 7 => .int
  | 8 => .array .long
  | 9 => .array .int
  | 10 => .array .int
  | 11 => .array .boolean
  | 12 => .int
  | 13 => .int
  | 14 => .int
  | 15 => .int
  | 16 => .array .int
  | 17 => .array .int
  | 18 => .int
  | 19 => .int
  | 20 => .int
  | 21 => .int
  | 22 => .boolean
  | _ => .array .byte
theorem n_Model : ∀ a, a < 24 → ∀ b, b < 24 → a ≠ b → (F_Model a).2.1 ≠ (F_Model b).2.1 := by decide +kernel
theorem t_Model_ok : ∀ k, k < 24 → parseFieldDescriptor (F_Model k).2.2.1 = some (t_Model k) := by decide +kernel
abbrev classes : List vw_C := [(R_Store, F_Store, 2), (R_Sums, F_Sums, 2), (R_Plan, F_Plan, 11), (R_Volume, F_Volume, 9), (R_Writer, F_Writer, 5), (R_Firmware, F_Firmware, 13), (R_BootMaker, F_BootMaker, 5), (R_Model, F_Model, 24)]
def Wall : List Cond := lw_tbl.filter goodWord
theorem inW {w : Cond} (k : Nat) (h : tables_1[k]? = some w) (hg : goodWord w = true) : w ∈ Wall := List.mem_filter.mpr ⟨List.mem_append_right _ (List.mem_of_getElem? h), hg⟩
theorem inP {w : Cond} (k : Nat) (h : (k2_sels lw_privs)[k]? = some w) (hg : goodWord w = true) : w ∈ Wall := List.mem_filter.mpr ⟨List.mem_append_left _ (List.mem_of_getElem? h), hg⟩
theorem good_W : Gd Wall := fun w h => good_of_word (List.mem_filter.mp h).2
theorem in_Store : ∀ w ∈ u_ws R_Store F_Store 2, w ∈ Wall := by
  intro w hw
  obtain ⟨k, hk, rfl⟩ := List.mem_map.mp hw
  have hk := List.mem_range.mp hk
  match k, hk with
  | 0, _ => exact inW 36 (by decide +kernel) rfl
  | 1, _ => exact inW 38 (by decide +kernel) rfl
  | (q + 2), h => exact absurd h (by omega)
theorem in_Sums : ∀ w ∈ u_ws R_Sums F_Sums 2, w ∈ Wall := by
  intro w hw
  obtain ⟨k, hk, rfl⟩ := List.mem_map.mp hw
  have hk := List.mem_range.mp hk
  match k, hk with
  | 0, _ => exact inW 51 (by decide +kernel) rfl
  | 1, _ => exact inW 53 (by decide +kernel) rfl
  | (q + 2), h => exact absurd h (by omega)
theorem in_Plan : ∀ w ∈ u_ws R_Plan F_Plan 11, w ∈ Wall := by
  intro w hw
  obtain ⟨k, hk, rfl⟩ := List.mem_map.mp hw
  have hk := List.mem_range.mp hk
  match k, hk with
  | 0, _ => exact inW 86 (by decide +kernel) rfl
  | 1, _ => exact inW 88 (by decide +kernel) rfl
  | 2, _ => exact inW 90 (by decide +kernel) rfl
  | 3, _ => exact inW 92 (by decide +kernel) rfl
  | 4, _ => exact inW 94 (by decide +kernel) rfl
  | 5, _ => exact inW 96 (by decide +kernel) rfl
  | 6, _ => exact inW 98 (by decide +kernel) rfl
  | 7, _ => exact inW 100 (by decide +kernel) rfl
  | 8, _ => exact inW 102 (by decide +kernel) rfl
  | 9, _ => exact inW 104 (by decide +kernel) rfl
  | 10, _ => exact inW 106 (by decide +kernel) rfl
  | (q + 11), h => exact absurd h (by omega)
theorem in_Volume : ∀ w ∈ u_ws R_Volume F_Volume 9, w ∈ Wall := by
  intro w hw
  obtain ⟨k, hk, rfl⟩ := List.mem_map.mp hw
  have hk := List.mem_range.mp hk
  match k, hk with
  | 0, _ => exact inW 139 (by decide +kernel) rfl
  | 1, _ => exact inW 141 (by decide +kernel) rfl
  | 2, _ => exact inW 143 (by decide +kernel) rfl
  | 3, _ => exact inW 145 (by decide +kernel) rfl
  | 4, _ => exact inW 147 (by decide +kernel) rfl
  | 5, _ => exact inW 149 (by decide +kernel) rfl
  | 6, _ => exact inW 151 (by decide +kernel) rfl
  | 7, _ => exact inW 153 (by decide +kernel) rfl
  | 8, _ => exact inW 155 (by decide +kernel) rfl
  | (q + 9), h => exact absurd h (by omega)
theorem in_Writer : ∀ w ∈ u_ws R_Writer F_Writer 5, w ∈ Wall := by
  intro w hw
  obtain ⟨k, hk, rfl⟩ := List.mem_map.mp hw
  have hk := List.mem_range.mp hk
  match k, hk with
  | 0, _ => exact inW 163 (by decide +kernel) rfl
  | 1, _ => exact inW 165 (by decide +kernel) rfl
  | 2, _ => exact inW 167 (by decide +kernel) rfl
  | 3, _ => exact inW 169 (by decide +kernel) rfl
  | 4, _ => exact inW 171 (by decide +kernel) rfl
  | (q + 5), h => exact absurd h (by omega)
theorem in_Firmware : ∀ w ∈ u_ws R_Firmware F_Firmware 13, w ∈ Wall := by
  intro w hw
  obtain ⟨k, hk, rfl⟩ := List.mem_map.mp hw
  have hk := List.mem_range.mp hk
  match k, hk with
  | 0, _ => exact inW 197 (by decide +kernel) rfl
  | 1, _ => exact inW 199 (by decide +kernel) rfl
  | 2, _ => exact inW 201 (by decide +kernel) rfl
  | 3, _ => exact inW 203 (by decide +kernel) rfl
  | 4, _ => exact inW 205 (by decide +kernel) rfl
  | 5, _ => exact inW 207 (by decide +kernel) rfl
  | 6, _ => exact inW 209 (by decide +kernel) rfl
  | 7, _ => exact inW 211 (by decide +kernel) rfl
  | 8, _ => exact inW 213 (by decide +kernel) rfl
  | 9, _ => exact inW 215 (by decide +kernel) rfl
  | 10, _ => exact inW 217 (by decide +kernel) rfl
  | 11, _ => exact inW 219 (by decide +kernel) rfl
  | 12, _ => exact inW 221 (by decide +kernel) rfl
  | (q + 13), h => exact absurd h (by omega)
theorem in_BootMaker : ∀ w ∈ u_ws R_BootMaker F_BootMaker 5, w ∈ Wall := by
  intro w hw
  obtain ⟨k, hk, rfl⟩ := List.mem_map.mp hw
  have hk := List.mem_range.mp hk
  match k, hk with
  | 0, _ => exact inW 229 (by decide +kernel) rfl
  | 1, _ => exact inW 231 (by decide +kernel) rfl
  | 2, _ => exact inW 233 (by decide +kernel) rfl
  | 3, _ => exact inW 235 (by decide +kernel) rfl
  | 4, _ => exact inW 237 (by decide +kernel) rfl
  | (q + 5), h => exact absurd h (by omega)
theorem in_Model : ∀ w ∈ u_ws R_Model F_Model 24, w ∈ Wall := by
  intro w hw
  obtain ⟨k, hk, rfl⟩ := List.mem_map.mp hw
  have hk := List.mem_range.mp hk
  match k, hk with
  | 0, _ => exact inW 806 (by decide +kernel) rfl
  | 1, _ => exact inW 808 (by decide +kernel) rfl
  | 2, _ => exact inW 810 (by decide +kernel) rfl
  | 3, _ => exact inW 812 (by decide +kernel) rfl
  | 4, _ => exact inW 814 (by decide +kernel) rfl
  | 5, _ => exact inW 816 (by decide +kernel) rfl
  | 6, _ => exact inW 818 (by decide +kernel) rfl
  | 7, _ => exact inW 820 (by decide +kernel) rfl
  | 8, _ => exact inW 822 (by decide +kernel) rfl
  | 9, _ => exact inW 824 (by decide +kernel) rfl
  | 10, _ => exact inW 826 (by decide +kernel) rfl
  | 11, _ => exact inW 828 (by decide +kernel) rfl
  | 12, _ => exact inW 830 (by decide +kernel) rfl
  | 13, _ => exact inW 832 (by decide +kernel) rfl
  | 14, _ => exact inW 834 (by decide +kernel) rfl
  | 15, _ => exact inW 836 (by decide +kernel) rfl
  | 16, _ => exact inW 838 (by decide +kernel) rfl
  | 17, _ => exact inW 840 (by decide +kernel) rfl
  | 18, _ => exact inW 842 (by decide +kernel) rfl
  | 19, _ => exact inW 844 (by decide +kernel) rfl
  | 20, _ => exact inW 846 (by decide +kernel) rfl
  | 21, _ => exact inW 848 (by decide +kernel) rfl
  | 22, _ => exact inW 850 (by decide +kernel) rfl
  | 23, _ => exact inW 852 (by decide +kernel) rfl
  | (q + 24), h => exact absurd h (by omega)
theorem in_i_Store : Cond.initialized "BootMaker$Store" ∈ Wall := inW 2 (by decide +kernel) rfl
theorem in_i_Sums : Cond.initialized "BootMaker$Sums" ∈ Wall := inW 3 (by decide +kernel) rfl
theorem in_i_Plan : Cond.initialized "BootMaker$Plan" ∈ Wall := inW 4 (by decide +kernel) rfl
theorem in_i_Volume : Cond.initialized "BootMaker$Volume" ∈ Wall := inW 6 (by decide +kernel) rfl
theorem in_i_Writer : Cond.initialized "BootMaker$Writer" ∈ Wall := inW 5 (by decide +kernel) rfl
theorem in_i_Firmware : Cond.initialized "BootMaker$Firmware" ∈ Wall := inW 7 (by decide +kernel) rfl
theorem in_i_BootMaker : Cond.initialized "BootMaker" ∈ Wall := inW 1 (by decide +kernel) rfl
theorem in_i_Model : Cond.initialized "BootMakerModel" ∈ Wall := inW 8 (by decide +kernel) rfl
theorem in_i_Arrays : Cond.initialized "java/util/Arrays" ∈ Wall := inW 9 (by decide +kernel) rfl
abbrev GT : Type := va_G × (ClassId × ClassId × ClassId × ClassId)
def tK (g : GT) : List (ClassId × FieldType) := [(g.2.1, .int), (g.2.2.1, .long), (g.2.2.2.1, .boolean), (g.2.2.2.2, .byte)]
abbrev Cg (l : Launch) (g : GT) (E : (Nat → Prop) → State → Prop) (y : MethodName) (ws : List Cond) (rm : Room) (av : List Value) (w0 : va_W) (o : Option Value) (w1 : va_W) : Prop := Ct l y ws rm g.1 classes (tK g) E av w0 o w1
end
section
abbrev b_Store_has : ByteArray := prog_4_method_2_code
def y_Store_has : MethodName := ⟨"BootMaker$Store", "has", "(I)Z"⟩
def ws_Store_has : List Cond := Cond.code y_Store_has b_Store_has 2 (some .boolean) :: Wall
theorem cw_Store_has : Cond.code y_Store_has b_Store_has 2 (some .boolean) ∈ Wall := inW 547 (by decide +kernel) rfl
abbrev b_Store_get : ByteArray := prog_4_method_3_code
def y_Store_get : MethodName := ⟨"BootMaker$Store", "get", "(I)I"⟩
def ws_Store_get : List Cond := Cond.code y_Store_get b_Store_get 2 (some .int) :: Wall
theorem cw_Store_get : Cond.code y_Store_get b_Store_get 2 (some .int) ∈ Wall := inW 494 (by decide +kernel) rfl
abbrev b_Store_put : ByteArray := prog_4_method_4_code
def y_Store_put : MethodName := ⟨"BootMaker$Store", "put", "(II)V"⟩
def ws_Store_put : List Cond := Cond.code y_Store_put b_Store_put 4 (none) :: Wall
theorem cw_Store_put : Cond.code y_Store_put b_Store_put 4 (none) ∈ Wall := inW 366 (by decide +kernel) rfl
abbrev b_Store_getLow : ByteArray := prog_4_method_6_code
def y_Store_getLow : MethodName := ⟨"BootMaker$Store", "getLow", "(II)J"⟩
def ws_Store_getLow : List Cond := Cond.code y_Store_getLow b_Store_getLow 6 (some .long) :: Wall
theorem cw_Store_getLow : Cond.code y_Store_getLow b_Store_getLow 6 (some .long) ∈ Wall := inW 660 (by decide +kernel) rfl
abbrev b_Store_putLow : ByteArray := prog_4_method_7_code
def y_Store_putLow : MethodName := ⟨"BootMaker$Store", "putLow", "(IIJ)V"⟩
def ws_Store_putLow : List Cond := Cond.code y_Store_putLow b_Store_putLow 6 (none) :: Wall
theorem cw_Store_putLow : Cond.code y_Store_putLow b_Store_putLow 6 (none) ∈ Wall := inW 376 (by decide +kernel) rfl
abbrev b_Store_markBootSector : ByteArray := prog_4_method_12_code
def y_Store_markBootSector : MethodName := ⟨"BootMaker$Store", "markBootSector", "(I)V"⟩
def ws_Store_markBootSector : List Cond := Cond.code y_Store_markBootSector b_Store_markBootSector 2 (none) :: Wall
theorem cw_Store_markBootSector : Cond.code y_Store_markBootSector b_Store_markBootSector 2 (none) ∈ Wall := inW 462 (by decide +kernel) rfl
abbrev b_Store_isBootSector : ByteArray := prog_4_method_13_code
def y_Store_isBootSector : MethodName := ⟨"BootMaker$Store", "isBootSector", "(I)Z"⟩
def ws_Store_isBootSector : List Cond := Cond.code y_Store_isBootSector b_Store_isBootSector 2 (some .boolean) :: Wall
theorem cw_Store_isBootSector : Cond.code y_Store_isBootSector b_Store_isBootSector 2 (some .boolean) ∈ Wall := inW 656 (by decide +kernel) rfl
theorem d_Store_has_0 : decode b_Store_has 0 = .ok (.iload_n 1, 1) := by decide +kernel
theorem d_Store_has_1 : decode b_Store_has 1 = .ok (.ifCond .lt 15, 3) := by decide +kernel
theorem d_Store_has_4 : decode b_Store_has 4 = .ok (.iload_n 1, 1) := by decide +kernel
theorem d_Store_has_5 : decode b_Store_has 5 = .ok (.aload_n 0, 1) := by decide +kernel
theorem d_Store_has_6 : decode b_Store_has 6 = .ok (.getfield 9, 3) := by decide +kernel
theorem d_Store_has_9 : decode b_Store_has 9 = .ok (.if_icmp .ge 7, 3) := by decide +kernel
theorem d_Store_has_12 : decode b_Store_has 12 = .ok (.iconst 1, 1) := by decide +kernel
theorem d_Store_has_13 : decode b_Store_has 13 = .ok (.goto 4, 3) := by decide +kernel
theorem d_Store_has_16 : decode b_Store_has 16 = .ok (.iconst 0, 1) := by decide +kernel
theorem d_Store_has_17 : decode b_Store_has 17 = .ok (.ireturn, 1) := by decide +kernel
theorem d_Store_get_0 : decode b_Store_get 0 = .ok (.iload_n 1, 1) := by decide +kernel
theorem d_Store_get_1 : decode b_Store_get 1 = .ok (.ifCond .lt 34, 3) := by decide +kernel
theorem d_Store_get_4 : decode b_Store_get 4 = .ok (.iload_n 1, 1) := by decide +kernel
theorem d_Store_get_5 : decode b_Store_get 5 = .ok (.aload_n 0, 1) := by decide +kernel
theorem d_Store_get_6 : decode b_Store_get 6 = .ok (.getfield 9, 3) := by decide +kernel
theorem d_Store_get_9 : decode b_Store_get 9 = .ok (.if_icmp .ge 26, 3) := by decide +kernel
theorem d_Store_get_12 : decode b_Store_get 12 = .ok (.aload_n 0, 1) := by decide +kernel
theorem d_Store_get_13 : decode b_Store_get 13 = .ok (.getfield 15, 3) := by decide +kernel
theorem d_Store_get_16 : decode b_Store_get 16 = .ok (.iload_n 1, 1) := by decide +kernel
theorem d_Store_get_17 : decode b_Store_get 17 = .ok (.iconst 3, 1) := by decide +kernel
theorem d_Store_get_18 : decode b_Store_get 18 = .ok (.ishr, 1) := by decide +kernel
theorem d_Store_get_19 : decode b_Store_get 19 = .ok (.laload, 1) := by decide +kernel
theorem d_Store_get_20 : decode b_Store_get 20 = .ok (.iload_n 1, 1) := by decide +kernel
theorem d_Store_get_21 : decode b_Store_get 21 = .ok (.bipush 7, 2) := by decide +kernel
theorem d_Store_get_23 : decode b_Store_get 23 = .ok (.iand, 1) := by decide +kernel
theorem d_Store_get_24 : decode b_Store_get 24 = .ok (.iconst 3, 1) := by decide +kernel
theorem d_Store_get_25 : decode b_Store_get 25 = .ok (.ishl, 1) := by decide +kernel
theorem d_Store_get_26 : decode b_Store_get 26 = .ok (.lushr, 1) := by decide +kernel
theorem d_Store_get_27 : decode b_Store_get 27 = .ok (.l2i, 1) := by decide +kernel
theorem d_Store_get_28 : decode b_Store_get 28 = .ok (.sipush 255, 3) := by decide +kernel
theorem d_Store_get_31 : decode b_Store_get 31 = .ok (.iand, 1) := by decide +kernel
theorem d_Store_get_32 : decode b_Store_get 32 = .ok (.goto 4, 3) := by decide +kernel
theorem d_Store_get_35 : decode b_Store_get 35 = .ok (.iconst 0, 1) := by decide +kernel
theorem d_Store_get_36 : decode b_Store_get 36 = .ok (.ireturn, 1) := by decide +kernel
theorem d_Store_put_0 : decode b_Store_put 0 = .ok (.iload_n 1, 1) := by decide +kernel
theorem d_Store_put_1 : decode b_Store_put 1 = .ok (.ifCond .lt 53, 3) := by decide +kernel
theorem d_Store_put_4 : decode b_Store_put 4 = .ok (.iload_n 1, 1) := by decide +kernel
theorem d_Store_put_5 : decode b_Store_put 5 = .ok (.aload_n 0, 1) := by decide +kernel
theorem d_Store_put_6 : decode b_Store_put 6 = .ok (.getfield 9, 3) := by decide +kernel
theorem d_Store_put_9 : decode b_Store_put 9 = .ok (.if_icmp .ge 45, 3) := by decide +kernel
theorem d_Store_put_12 : decode b_Store_put 12 = .ok (.iload_n 1, 1) := by decide +kernel
theorem d_Store_put_13 : decode b_Store_put 13 = .ok (.bipush 7, 2) := by decide +kernel
theorem d_Store_put_15 : decode b_Store_put 15 = .ok (.iand, 1) := by decide +kernel
theorem d_Store_put_16 : decode b_Store_put 16 = .ok (.iconst 3, 1) := by decide +kernel
theorem d_Store_put_17 : decode b_Store_put 17 = .ok (.ishl, 1) := by decide +kernel
theorem d_Store_put_18 : decode b_Store_put 18 = .ok (.istore_n 3, 1) := by decide +kernel
theorem d_Store_put_19 : decode b_Store_put 19 = .ok (.aload_n 0, 1) := by decide +kernel
theorem d_Store_put_20 : decode b_Store_put 20 = .ok (.getfield 15, 3) := by decide +kernel
theorem d_Store_put_23 : decode b_Store_put 23 = .ok (.iload_n 1, 1) := by decide +kernel
theorem d_Store_put_24 : decode b_Store_put 24 = .ok (.iconst 3, 1) := by decide +kernel
theorem d_Store_put_25 : decode b_Store_put 25 = .ok (.ishr, 1) := by decide +kernel
theorem d_Store_put_26 : decode b_Store_put 26 = .ok (.aload_n 0, 1) := by decide +kernel
theorem d_Store_put_27 : decode b_Store_put 27 = .ok (.getfield 15, 3) := by decide +kernel
theorem d_Store_put_30 : decode b_Store_put 30 = .ok (.iload_n 1, 1) := by decide +kernel
theorem d_Store_put_31 : decode b_Store_put 31 = .ok (.iconst 3, 1) := by decide +kernel
theorem d_Store_put_32 : decode b_Store_put 32 = .ok (.ishr, 1) := by decide +kernel
theorem d_Store_put_33 : decode b_Store_put 33 = .ok (.laload, 1) := by decide +kernel
theorem d_Store_put_34 : decode b_Store_put 34 = .ok (.ldc2_w 19, 3) := by decide +kernel
theorem d_Store_put_37 : decode b_Store_put 37 = .ok (.iload_n 3, 1) := by decide +kernel
theorem d_Store_put_38 : decode b_Store_put 38 = .ok (.lshl, 1) := by decide +kernel
theorem d_Store_put_39 : decode b_Store_put 39 = .ok (.ldc2_w 21, 3) := by decide +kernel
theorem d_Store_put_42 : decode b_Store_put 42 = .ok (.lxor, 1) := by decide +kernel
theorem d_Store_put_43 : decode b_Store_put 43 = .ok (.land, 1) := by decide +kernel
theorem d_Store_put_44 : decode b_Store_put 44 = .ok (.iload_n 2, 1) := by decide +kernel
theorem d_Store_put_45 : decode b_Store_put 45 = .ok (.i2l, 1) := by decide +kernel
theorem d_Store_put_46 : decode b_Store_put 46 = .ok (.ldc2_w 19, 3) := by decide +kernel
theorem d_Store_put_49 : decode b_Store_put 49 = .ok (.land, 1) := by decide +kernel
theorem d_Store_put_50 : decode b_Store_put 50 = .ok (.iload_n 3, 1) := by decide +kernel
theorem d_Store_put_51 : decode b_Store_put 51 = .ok (.lshl, 1) := by decide +kernel
theorem d_Store_put_52 : decode b_Store_put 52 = .ok (.lor, 1) := by decide +kernel
theorem d_Store_put_53 : decode b_Store_put 53 = .ok (.lastore, 1) := by decide +kernel
theorem d_Store_put_54 : decode b_Store_put 54 = .ok (.return_, 1) := by decide +kernel
theorem d_Store_getLow_0 : decode b_Store_getLow 0 = .ok (.lconst 0, 1) := by decide +kernel
theorem d_Store_getLow_1 : decode b_Store_getLow 1 = .ok (.lstore_n 3, 1) := by decide +kernel
theorem d_Store_getLow_2 : decode b_Store_getLow 2 = .ok (.iload_n 2, 1) := by decide +kernel
theorem d_Store_getLow_3 : decode b_Store_getLow 3 = .ok (.iconst 1, 1) := by decide +kernel
theorem d_Store_getLow_4 : decode b_Store_getLow 4 = .ok (.isub, 1) := by decide +kernel
theorem d_Store_getLow_5 : decode b_Store_getLow 5 = .ok (.istore 5, 2) := by decide +kernel
theorem d_Store_getLow_7 : decode b_Store_getLow 7 = .ok (.iload 5, 2) := by decide +kernel
theorem d_Store_getLow_9 : decode b_Store_getLow 9 = .ok (.ifCond .lt 24, 3) := by decide +kernel
theorem d_Store_getLow_12 : decode b_Store_getLow 12 = .ok (.lload_n 3, 1) := by decide +kernel
theorem d_Store_getLow_13 : decode b_Store_getLow 13 = .ok (.bipush 8, 2) := by decide +kernel
theorem d_Store_getLow_15 : decode b_Store_getLow 15 = .ok (.lshl, 1) := by decide +kernel
theorem d_Store_getLow_16 : decode b_Store_getLow 16 = .ok (.aload_n 0, 1) := by decide +kernel
theorem d_Store_getLow_17 : decode b_Store_getLow 17 = .ok (.iload_n 1, 1) := by decide +kernel
theorem d_Store_getLow_18 : decode b_Store_getLow 18 = .ok (.iload 5, 2) := by decide +kernel
theorem d_Store_getLow_20 : decode b_Store_getLow 20 = .ok (.iadd, 1) := by decide +kernel
theorem d_Store_getLow_21 : decode b_Store_getLow 21 = .ok (.invokevirtual 29, 3) := by decide +kernel
theorem d_Store_getLow_24 : decode b_Store_getLow 24 = .ok (.i2l, 1) := by decide +kernel
theorem d_Store_getLow_25 : decode b_Store_getLow 25 = .ok (.lor, 1) := by decide +kernel
theorem d_Store_getLow_26 : decode b_Store_getLow 26 = .ok (.lstore_n 3, 1) := by decide +kernel
theorem d_Store_getLow_27 : decode b_Store_getLow 27 = .ok (.iinc 5 (-1), 3) := by decide +kernel
theorem d_Store_getLow_30 : decode b_Store_getLow 30 = .ok (.goto (-23), 3) := by decide +kernel
theorem d_Store_getLow_33 : decode b_Store_getLow 33 = .ok (.lload_n 3, 1) := by decide +kernel
theorem d_Store_getLow_34 : decode b_Store_getLow 34 = .ok (.lreturn, 1) := by decide +kernel
theorem d_Store_putLow_0 : decode b_Store_putLow 0 = .ok (.iconst 0, 1) := by decide +kernel
theorem d_Store_putLow_1 : decode b_Store_putLow 1 = .ok (.istore 5, 2) := by decide +kernel
theorem d_Store_putLow_3 : decode b_Store_putLow 3 = .ok (.iload 5, 2) := by decide +kernel
theorem d_Store_putLow_5 : decode b_Store_putLow 5 = .ok (.iload_n 2, 1) := by decide +kernel
theorem d_Store_putLow_6 : decode b_Store_putLow 6 = .ok (.if_icmp .ge 25, 3) := by decide +kernel
theorem d_Store_putLow_9 : decode b_Store_putLow 9 = .ok (.aload_n 0, 1) := by decide +kernel
theorem d_Store_putLow_10 : decode b_Store_putLow 10 = .ok (.iload_n 1, 1) := by decide +kernel
theorem d_Store_putLow_11 : decode b_Store_putLow 11 = .ok (.iload 5, 2) := by decide +kernel
theorem d_Store_putLow_13 : decode b_Store_putLow 13 = .ok (.iadd, 1) := by decide +kernel
theorem d_Store_putLow_14 : decode b_Store_putLow 14 = .ok (.lload_n 3, 1) := by decide +kernel
theorem d_Store_putLow_15 : decode b_Store_putLow 15 = .ok (.bipush 8, 2) := by decide +kernel
theorem d_Store_putLow_17 : decode b_Store_putLow 17 = .ok (.iload 5, 2) := by decide +kernel
theorem d_Store_putLow_19 : decode b_Store_putLow 19 = .ok (.imul, 1) := by decide +kernel
theorem d_Store_putLow_20 : decode b_Store_putLow 20 = .ok (.lushr, 1) := by decide +kernel
theorem d_Store_putLow_21 : decode b_Store_putLow 21 = .ok (.l2i, 1) := by decide +kernel
theorem d_Store_putLow_22 : decode b_Store_putLow 22 = .ok (.invokevirtual 33, 3) := by decide +kernel
theorem d_Store_putLow_25 : decode b_Store_putLow 25 = .ok (.iinc 5 1, 3) := by decide +kernel
theorem d_Store_putLow_28 : decode b_Store_putLow 28 = .ok (.goto (-25), 3) := by decide +kernel
theorem d_Store_putLow_31 : decode b_Store_putLow 31 = .ok (.return_, 1) := by decide +kernel
theorem d_Store_markBootSector_0 : decode b_Store_markBootSector 0 = .ok (.aload_n 0, 1) := by decide +kernel
theorem d_Store_markBootSector_1 : decode b_Store_markBootSector 1 = .ok (.iload_n 1, 1) := by decide +kernel
theorem d_Store_markBootSector_2 : decode b_Store_markBootSector 2 = .ok (.sipush 512, 3) := by decide +kernel
theorem d_Store_markBootSector_5 : decode b_Store_markBootSector 5 = .ok (.imul, 1) := by decide +kernel
theorem d_Store_markBootSector_6 : decode b_Store_markBootSector 6 = .ok (.sipush 510, 3) := by decide +kernel
theorem d_Store_markBootSector_9 : decode b_Store_markBootSector 9 = .ok (.iadd, 1) := by decide +kernel
theorem d_Store_markBootSector_10 : decode b_Store_markBootSector 10 = .ok (.iconst 2, 1) := by decide +kernel
theorem d_Store_markBootSector_11 : decode b_Store_markBootSector 11 = .ok (.ldc2_w 46, 3) := by decide +kernel
theorem d_Store_markBootSector_14 : decode b_Store_markBootSector 14 = .ok (.invokevirtual 48, 3) := by decide +kernel
theorem d_Store_markBootSector_17 : decode b_Store_markBootSector 17 = .ok (.return_, 1) := by decide +kernel
theorem d_Store_isBootSector_0 : decode b_Store_isBootSector 0 = .ok (.aload_n 0, 1) := by decide +kernel
theorem d_Store_isBootSector_1 : decode b_Store_isBootSector 1 = .ok (.iload_n 1, 1) := by decide +kernel
theorem d_Store_isBootSector_2 : decode b_Store_isBootSector 2 = .ok (.sipush 512, 3) := by decide +kernel
theorem d_Store_isBootSector_5 : decode b_Store_isBootSector 5 = .ok (.imul, 1) := by decide +kernel
theorem d_Store_isBootSector_6 : decode b_Store_isBootSector 6 = .ok (.sipush 510, 3) := by decide +kernel
theorem d_Store_isBootSector_9 : decode b_Store_isBootSector 9 = .ok (.iadd, 1) := by decide +kernel
theorem d_Store_isBootSector_10 : decode b_Store_isBootSector 10 = .ok (.iconst 2, 1) := by decide +kernel
theorem d_Store_isBootSector_11 : decode b_Store_isBootSector 11 = .ok (.invokevirtual 52, 3) := by decide +kernel
theorem d_Store_isBootSector_14 : decode b_Store_isBootSector 14 = .ok (.ldc2_w 46, 3) := by decide +kernel
theorem d_Store_isBootSector_17 : decode b_Store_isBootSector 17 = .ok (.lcmp, 1) := by decide +kernel
theorem d_Store_isBootSector_18 : decode b_Store_isBootSector 18 = .ok (.ifCond .ne 7, 3) := by decide +kernel
theorem d_Store_isBootSector_21 : decode b_Store_isBootSector 21 = .ok (.iconst 1, 1) := by decide +kernel
theorem d_Store_isBootSector_22 : decode b_Store_isBootSector 22 = .ok (.goto 4, 3) := by decide +kernel
theorem d_Store_isBootSector_25 : decode b_Store_isBootSector 25 = .ok (.iconst 0, 1) := by decide +kernel
theorem d_Store_isBootSector_26 : decode b_Store_isBootSector 26 = .ok (.ireturn, 1) := by decide +kernel
theorem fg_Store_9 : FlG Wall classes R_Store 9 0 0 := ⟨_, _, _, rfl, by decide, in_Store, inW 33 (by decide +kernel) rfl⟩
theorem fg_Store_15 : FlG Wall classes R_Store 15 0 1 := ⟨_, _, _, rfl, by decide, in_Store, inW 35 (by decide +kernel) rfl⟩
theorem kc_Store_19 : Cond.constantLong R_Store 19 255 ∈ Wall := inW 367 (by decide +kernel) rfl
theorem kc_Store_21 : Cond.constantLong R_Store 21 (-1) ∈ Wall := inW 368 (by decide +kernel) rfl
theorem fc_Store_29 : FcV Wall classes R_Store 29 0 y_Store_get b_Store_get 2 (some .int) ws_Store_get 1 := ⟨⟨rfl, cw_Store_get, inW 661 (by decide +kernel) rfl, in_i_Store, by decide +kernel⟩, inW 492 (by decide +kernel) rfl, inW 493 (by decide +kernel) rfl, _, _, rfl⟩
theorem fc_Store_33 : FcV Wall classes R_Store 33 0 y_Store_put b_Store_put 4 (none) ws_Store_put 2 := ⟨⟨rfl, cw_Store_put, inW 377 (by decide +kernel) rfl, in_i_Store, by decide +kernel⟩, inW 364 (by decide +kernel) rfl, inW 365 (by decide +kernel) rfl, _, _, rfl⟩
theorem kc_Store_46 : Cond.constantLong R_Store 46 43605 ∈ Wall := inW 463 (by decide +kernel) rfl
theorem fc_Store_48 : FcV Wall classes R_Store 48 0 y_Store_putLow b_Store_putLow 6 (none) ws_Store_putLow 3 := ⟨⟨rfl, cw_Store_putLow, inW 464 (by decide +kernel) rfl, in_i_Store, by decide +kernel⟩, inW 374 (by decide +kernel) rfl, inW 375 (by decide +kernel) rfl, _, _, rfl⟩
theorem fc_Store_52 : FcV Wall classes R_Store 52 0 y_Store_getLow b_Store_getLow 6 (some .long) ws_Store_getLow 2 := ⟨⟨rfl, cw_Store_getLow, inW 657 (by decide +kernel) rfl, in_i_Store, by decide +kernel⟩, inW 658 (by decide +kernel) rfl, inW 659 (by decide +kernel) rfl, _, _, rfl⟩
end
section
def wd_Store_has (g : GT) (t_o : Nat) (t_words_a : Nat) (t_length : Int32) : va_W := [(t_o, .inr (0, [.int t_length, .ref t_words_a]))]
def f_Store_has (a1 : Int32) (t_length : Int32) : Option (Int32) :=
  if a1 < 0 then some (0) else if t_length ≤ a1 then some (0) else some (1)
def rm_Store_has : Room := { frames := 0, cells := 0, slots := 0, locals := 0 }
set_option maxHeartbeats 4000000 in
set_option maxRecDepth 100000 in
theorem c_Store_has (l : Launch) (g : GT) (E : (Nat → Prop) → State → Prop) (hEe : Ee E) (t_o : Nat) (t_words_a : Nat) (t_length : Int32) (a1 : Int32) (z : Int32) (hf : f_Store_has a1 t_length = some z) : Cg l g E y_Store_has ws_Store_has rm_Store_has [.ref t_o, .int a1] (wd_Store_has g t_o t_words_a t_length) (some (.int z)) (wd_Store_has g t_o t_words_a t_length) := by
  refine Ct.ofI hEe good_W (by decide) rfl (Nat.le_of_ble_eq_true rfl) ?_
  intro p e s m args below meth c A ls Q hC hw hl hret
  have hC : CX p m c b_Store_has 2 s args Wall R_Store g.1 classes (tK g) E A := hC
  have hl : lv_has ls 2 [(0, .ref t_o), (1, .int a1)] := hl
  unfold f_Store_has at hf
  refine n_iload_n hC hl 1 d_Store_has_0 rfl rfl ?_
  refine n_if_lt hC hf 16 d_Store_has_1 (by decide) (fun hf => ?_) (fun hf => ?_)
  · refine n_iconst hC 0 d_Store_has_16 (by decide) ?_
    cases hf
    exact hret _ _ _ _ hw rfl d_Store_has_17
  · refine n_iload_n hC hl 1 d_Store_has_4 rfl rfl ?_
    refine n_aload_n hC hl 0 d_Store_has_5 rfl rfl ?_
    refine n_get hC hw fg_Store_9 0 rfl rfl d_Store_has_6 ?_
    refine n_icmp_ge hC hf 16 d_Store_has_9 (by decide) (fun hf => ?_) (fun hf => ?_)
    · refine n_iconst hC 0 d_Store_has_16 (by decide) ?_
      cases hf
      exact hret _ _ _ _ hw rfl d_Store_has_17
    · refine n_iconst hC 1 d_Store_has_12 (by decide) ?_
      refine n_goto hC 17 d_Store_has_13 (by decide) ?_
      cases hf
      exact hret _ _ _ _ hw rfl d_Store_has_17
def wd_Store_get (g : GT) (t_o : Nat) (t_words_a : Nat) (t_words_n : Nat) (t_length : Int32) (t_words : Nat → Int64) : va_W := [(t_o, .inr (0, [.int t_length, .ref t_words_a])), (t_words_a, .inl (g.2.2.1, t_words_n, .inr (.inl t_words)))]
def f_Store_get (a1 : Int32) (t_length : Int32) (t_words_n : Nat) (t_words : Nat → Int64) : Option (Int32) :=
  if a1 < 0 then some (0) else if t_length ≤ a1 then some (0) else lt_ (a1 >>> ((3 : Int32) &&& 31)) (fun v8 => ix_ t_words_n t_words v8 (fun (v9 : Int64) => lt_ (a1 &&& 7) (fun v10 => lt_ (v10 <<< ((3 : Int32) &&& 31)) (fun v11 => lt_ ((v9.toUInt64 >>> (v11.toInt64.toUInt64 &&& Int64.toUInt64 63)).toInt64) (fun v12 => lt_ (v12.toInt32) (fun v13 => lt_ (v13 &&& 255) (fun v14 => some (v14))))))))
def rm_Store_get : Room := { frames := 0, cells := 0, slots := 0, locals := 0 }
set_option maxHeartbeats 4000000 in
set_option maxRecDepth 100000 in
theorem c_Store_get (l : Launch) (g : GT) (E : (Nat → Prop) → State → Prop) (hEe : Ee E) (t_o : Nat) (t_words_a : Nat) (t_words_n : Nat) (t_length : Int32) (t_words : Nat → Int64) (a1 : Int32) (z : Int32) (hf : f_Store_get a1 t_length t_words_n t_words = some z) : Cg l g E y_Store_get ws_Store_get rm_Store_get [.ref t_o, .int a1] (wd_Store_get g t_o t_words_a t_words_n t_length t_words) (some (.int z)) (wd_Store_get g t_o t_words_a t_words_n t_length t_words) := by
  refine Ct.ofI hEe good_W (by decide) rfl (Nat.le_of_ble_eq_true rfl) ?_
  intro p e s m args below meth c A ls Q hC hw hl hret
  have hC : CX p m c b_Store_get 2 s args Wall R_Store g.1 classes (tK g) E A := hC
  have hl : lv_has ls 2 [(0, .ref t_o), (1, .int a1)] := hl
  unfold f_Store_get at hf
  refine n_iload_n hC hl 1 d_Store_get_0 rfl rfl ?_
  refine n_if_lt hC hf 35 d_Store_get_1 (by decide) (fun hf => ?_) (fun hf => ?_)
  · refine n_iconst hC 0 d_Store_get_35 (by decide) ?_
    cases hf
    exact hret _ _ _ _ hw rfl d_Store_get_36
  · refine n_iload_n hC hl 1 d_Store_get_4 rfl rfl ?_
    refine n_aload_n hC hl 0 d_Store_get_5 rfl rfl ?_
    refine n_get hC hw fg_Store_9 0 rfl rfl d_Store_get_6 ?_
    refine n_icmp_ge hC hf 35 d_Store_get_9 (by decide) (fun hf => ?_) (fun hf => ?_)
    · refine n_iconst hC 0 d_Store_get_35 (by decide) ?_
      cases hf
      exact hret _ _ _ _ hw rfl d_Store_get_36
    · refine n_aload_n hC hl 0 d_Store_get_12 rfl rfl ?_
      refine n_get hC hw fg_Store_15 0 rfl rfl d_Store_get_13 ?_
      refine n_iload_n hC hl 1 d_Store_get_16 rfl rfl ?_
      refine n_iconst hC 3 d_Store_get_17 (by decide) ?_
      refine n_ishr hC hf d_Store_get_18 (fun v8 hf => ?_)
      refine n_lald hC hw hf 1 1 rfl rfl d_Store_get_19 (fun v9 hf => ?_)
      refine n_iload_n hC hl 1 d_Store_get_20 rfl rfl ?_
      refine n_bipush hC 7 d_Store_get_21 (by decide) ?_
      refine n_iand hC hf d_Store_get_23 (fun v10 hf => ?_)
      refine n_iconst hC 3 d_Store_get_24 (by decide) ?_
      refine n_ishl hC hf d_Store_get_25 (fun v11 hf => ?_)
      refine n_lushr hC hf d_Store_get_26 (fun v12 hf => ?_)
      refine n_l2i hC hf d_Store_get_27 (fun v13 hf => ?_)
      refine n_sipush hC 255 d_Store_get_28 (by decide) ?_
      refine n_iand hC hf d_Store_get_31 (fun v14 hf => ?_)
      refine n_goto hC 36 d_Store_get_32 (by decide) ?_
      cases hf
      exact hret _ _ _ _ hw rfl d_Store_get_36
def wd_Store_put (g : GT) (t_o : Nat) (t_words_a : Nat) (t_words_n : Nat) (t_length : Int32) (t_words : Nat → Int64) : va_W := [(t_o, .inr (0, [.int t_length, .ref t_words_a])), (t_words_a, .inl (g.2.2.1, t_words_n, .inr (.inl t_words)))]
def f_Store_put (a1 : Int32) (t_words : Nat → Int64) (t_length : Int32) (t_words_n : Nat) (a2 : Int32) : Option ((Nat → Int64)) :=
  if a1 < 0 then some (t_words) else if t_length ≤ a1 then some (t_words) else lt_ (a1 &&& 7) (fun v14 => lt_ (v14 <<< ((3 : Int32) &&& 31)) (fun v15 => lt_ (a1 >>> ((3 : Int32) &&& 31)) (fun v16 => lt_ (a1 >>> ((3 : Int32) &&& 31)) (fun v17 => ix_ t_words_n t_words v17 (fun (v18 : Int64) => lt_ ((255 : Int64) <<< (v15.toInt64 &&& 63)) (fun v19 => lt_ (v19 ^^^ (-1)) (fun v20 => lt_ (v18 &&& v20) (fun v21 => lt_ (a2.toInt64) (fun v22 => lt_ (v22 &&& 255) (fun v23 => lt_ (v23 <<< (v15.toInt64 &&& 63)) (fun v24 => lt_ (v21 ||| v24) (fun v25 => up_l t_words_n t_words v16 v25 (fun (f26 : Nat → Int64) => some (f26))))))))))))))
def rm_Store_put : Room := { frames := 0, cells := 0, slots := 0, locals := 0 }
set_option maxHeartbeats 4000000 in
set_option maxRecDepth 100000 in
theorem c_Store_put (l : Launch) (g : GT) (E : (Nat → Prop) → State → Prop) (hEe : Ee E) (t_o : Nat) (t_words_a : Nat) (t_words_n : Nat) (t_length : Int32) (t_words : Nat → Int64) (a1 : Int32) (a2 : Int32) (z : (Nat → Int64)) (hf : f_Store_put a1 t_words t_length t_words_n a2 = some z) : Cg l g E y_Store_put ws_Store_put rm_Store_put [.ref t_o, .int a1, .int a2] (wd_Store_put g t_o t_words_a t_words_n t_length t_words) none (wd_Store_put g t_o t_words_a t_words_n t_length z) := by
  refine Ct.ofV hEe good_W (by decide) rfl (Nat.le_of_ble_eq_true rfl) ?_
  intro p e s m args below meth c A ls Q hC hw hl hret
  have hC : CX p m c b_Store_put 4 s args Wall R_Store g.1 classes (tK g) E A := hC
  have hl : lv_has ls 4 [(0, .ref t_o), (1, .int a1), (2, .int a2)] := hl
  unfold f_Store_put at hf
  refine n_iload_n hC hl 1 d_Store_put_0 rfl rfl ?_
  refine n_if_lt hC hf 54 d_Store_put_1 (by decide) (fun hf => ?_) (fun hf => ?_)
  · cases hf
    exact hret _ _ _ _ hw d_Store_put_54
  · refine n_iload_n hC hl 1 d_Store_put_4 rfl rfl ?_
    refine n_aload_n hC hl 0 d_Store_put_5 rfl rfl ?_
    refine n_get hC hw fg_Store_9 0 rfl rfl d_Store_put_6 ?_
    refine n_icmp_ge hC hf 54 d_Store_put_9 (by decide) (fun hf => ?_) (fun hf => ?_)
    · cases hf
      exact hret _ _ _ _ hw d_Store_put_54
    · refine n_iload_n hC hl 1 d_Store_put_12 rfl rfl ?_
      refine n_bipush hC 7 d_Store_put_13 (by decide) ?_
      refine n_iand hC hf d_Store_put_15 (fun v14 hf => ?_)
      refine n_iconst hC 3 d_Store_put_16 (by decide) ?_
      refine n_ishl hC hf d_Store_put_17 (fun v15 hf => ?_)
      refine n_istore_n hC [(3, .int v15), (0, .ref t_o), (1, .int a1), (2, .int a2)] hl d_Store_put_18 rfl (by decide) rfl (fun ls hl => ?_)
      refine n_aload_n hC hl 1 d_Store_put_19 rfl rfl ?_
      refine n_get hC hw fg_Store_15 0 rfl rfl d_Store_put_20 ?_
      refine n_iload_n hC hl 2 d_Store_put_23 rfl rfl ?_
      refine n_iconst hC 3 d_Store_put_24 (by decide) ?_
      refine n_ishr hC hf d_Store_put_25 (fun v16 hf => ?_)
      refine n_aload_n hC hl 1 d_Store_put_26 rfl rfl ?_
      refine n_get hC hw fg_Store_15 0 rfl rfl d_Store_put_27 ?_
      refine n_iload_n hC hl 2 d_Store_put_30 rfl rfl ?_
      refine n_iconst hC 3 d_Store_put_31 (by decide) ?_
      refine n_ishr hC hf d_Store_put_32 (fun v17 hf => ?_)
      refine n_lald hC hw hf 1 1 rfl rfl d_Store_put_33 (fun v18 hf => ?_)
      refine n_ldc2 hC 255 kc_Store_19 d_Store_put_34 ?_
      refine n_iload_n hC hl 0 d_Store_put_37 rfl rfl ?_
      refine n_lshl hC hf d_Store_put_38 (fun v19 hf => ?_)
      refine n_ldc2 hC (-1) kc_Store_21 d_Store_put_39 ?_
      refine n_lxor hC hf d_Store_put_42 (fun v20 hf => ?_)
      refine n_land hC hf d_Store_put_43 (fun v21 hf => ?_)
      refine n_iload_n hC hl 3 d_Store_put_44 rfl rfl ?_
      refine n_i2l hC hf d_Store_put_45 (fun v22 hf => ?_)
      refine n_ldc2 hC 255 kc_Store_19 d_Store_put_46 ?_
      refine n_land hC hf d_Store_put_49 (fun v23 hf => ?_)
      refine n_iload_n hC hl 0 d_Store_put_50 rfl rfl ?_
      refine n_lshl hC hf d_Store_put_51 (fun v24 hf => ?_)
      refine n_lor hC hf d_Store_put_52 (fun v25 hf => ?_)
      refine n_last hC hw hf 1 1 (fun f26 => wd_Store_put g t_o t_words_a t_words_n t_length f26) rfl rfl d_Store_put_53 (fun _ => rfl) (fun f26 H locs hf hw => ?_)
      cases hf
      exact hret _ _ _ _ hw d_Store_put_54
def wd_Store_getLow (g : GT) (t_o : Nat) (t_words_a : Nat) (t_words_n : Nat) (t_length : Int32) (t_words : Nat → Int64) : va_W := [(t_o, .inr (0, [.int t_length, .ref t_words_a])), (t_words_a, .inl (g.2.2.1, t_words_n, .inr (.inl t_words)))]
def f_Store_getLow_L7 (a1 : Int32) (t_length : Int32) (t_words_n : Nat) (t_words : Nat → Int64) (k7 : Int32 → Int64 → Option (Int64)) (x29 : Int32) (x30 : Int64) : Option (Int64) :=
  if x29 < 0 then some (x30) else lt_ (x30 <<< ((8 : Int32).toInt64 &&& 63)) (fun v37 => lt_ (a1 + x29) (fun v38 => bd_ (f_Store_get v38 t_length t_words_n t_words) (fun u39 => lt_ (u39.toInt64) (fun v40 => lt_ (v37 ||| v40) (fun v41 => lt_ (x29 + (-1)) (fun v42 => k7 v42 v41))))))
def f_Store_getLow (N : Nat) (a2 : Int32) (a1 : Int32) (t_length : Int32) (t_words_n : Nat) (t_words : Nat → Int64) : Option (Int64) :=
  lt_ (a2 - 1) (fun v22 => lp_ (fun _ _ => none) (f_Store_getLow_L7 a1 t_length t_words_n t_words) N v22 0)
def rm_Store_getLow : Room := { frames := 1, cells := 0, slots := 0, locals := 21 }
set_option maxHeartbeats 4000000 in
set_option maxRecDepth 100000 in
theorem c_Store_getLow (l : Launch) (g : GT) (E : (Nat → Prop) → State → Prop) (hEe : Ee E) (t_o : Nat) (t_words_a : Nat) (t_words_n : Nat) (t_length : Int32) (t_words : Nat → Int64) (a1 : Int32) (a2 : Int32) (N : Nat) (z : Int64) (hf : f_Store_getLow N a2 a1 t_length t_words_n t_words = some z) : Cg l g E y_Store_getLow ws_Store_getLow rm_Store_getLow [.ref t_o, .int a1, .int a2] (wd_Store_getLow g t_o t_words_a t_words_n t_length t_words) (some (.long z)) (wd_Store_getLow g t_o t_words_a t_words_n t_length t_words) := by
  refine Ct.ofL hEe good_W (by decide) rfl (Nat.le_of_ble_eq_true rfl) ?_
  intro p e s m args below meth c A ls Q hC hw hl hret
  have hC : CX p m c b_Store_getLow 6 s args Wall R_Store g.1 classes (tK g) E A := hC
  have hl : lv_has ls 6 [(0, .ref t_o), (1, .int a1), (2, .int a2)] := hl
  unfold f_Store_getLow at hf
  refine n_lconst hC 0 d_Store_getLow_0 (by decide) ?_
  refine n_lstore_n hC [(3, .long 0), (0, .ref t_o), (1, .int a1), (2, .int a2)] hl d_Store_getLow_1 rfl (by decide) rfl (fun ls hl => ?_)
  refine n_iload_n hC hl 3 d_Store_getLow_2 rfl rfl ?_
  refine n_iconst hC 1 d_Store_getLow_3 (by decide) ?_
  refine n_isub hC hf d_Store_getLow_4 (fun v22 hf => ?_)
  refine n_istore hC [(5, .int v22), (3, .long 0), (0, .ref t_o), (1, .int a1), (2, .int a2)] hl d_Store_getLow_5 (by decide) rfl (fun ls hl => ?_)
  have hL7 := lw2 (B := f_Store_getLow_L7 a1 t_length t_words_n t_words) (z := z) (fun (x29 : Int32) (x30 : Int64) => ∀ (H : Heap) (locs : List Loc) (ls : Array Slot), WS g.1 classes A s.heap H locs (wd_Store_getLow g t_o t_words_a t_words_n t_length t_words) → lv_has ls 6 [(5, .int x29), (3, .long x30), (0, .ref t_o), (1, .int a1)] → W p l e rm_Store_getLow s m args below meth c H locs 0 0 Q (F0 m 7 ls [])) (by
    intro k7 hk7 x29 x30 hf H locs ls hw hl
    unfold f_Store_getLow_L7 at hf
    refine n_iload hC hl 0 d_Store_getLow_7 rfl ?_
    refine n_if_lt hC hf 33 d_Store_getLow_9 (by decide) (fun hf => ?_) (fun hf => ?_)
    · refine n_lload_n hC hl 1 d_Store_getLow_33 rfl rfl ?_
      cases hf
      exact hret _ _ _ _ hw d_Store_getLow_34
    · refine n_lload_n hC hl 1 d_Store_getLow_12 rfl rfl ?_
      refine n_bipush hC 8 d_Store_getLow_13 (by decide) ?_
      refine n_lshl hC hf d_Store_getLow_15 (fun v37 hf => ?_)
      refine n_aload_n hC hl 2 d_Store_getLow_16 rfl rfl ?_
      refine n_iload_n hC hl 3 d_Store_getLow_17 rfl rfl ?_
      refine n_iload hC hl 0 d_Store_getLow_18 rfl ?_
      refine n_iadd hC hf d_Store_getLow_20 (fun v38 hf => ?_)
      obtain ⟨u39, hu39, hf⟩ := bd_s hf
      refine n_callVi hC hw fc_Store_29 (c_Store_get l g E hEe t_o t_words_a t_words_n t_length t_words v38 u39 hu39) [0, 1] [] (wd_Store_getLow g t_o t_words_a t_words_n t_length t_words) 0 rfl ⟨rfl, rfl⟩ ⟨Nat.le_of_ble_eq_true rfl, Nat.le_of_ble_eq_true rfl⟩ rfl rfl rfl rfl rfl rfl rfl hl.1 (Nat.le_of_ble_eq_true rfl) ⟨Nat.zero_le _, Nat.zero_le _⟩ d_Store_getLow_21 (fun H locs hw => ?_) rfl
      refine n_i2l hC hf d_Store_getLow_24 (fun v40 hf => ?_)
      refine n_lor hC hf d_Store_getLow_25 (fun v41 hf => ?_)
      refine n_lstore_n hC [(3, .long v41), (5, .int x29), (0, .ref t_o), (1, .int a1)] hl d_Store_getLow_26 rfl (by decide) rfl (fun ls hl => ?_)
      refine n_iinc hC (k := 1) hf (by decide) (fun v42 => [(5, .int v42), (3, .long v41), (0, .ref t_o), (1, .int a1)]) hl d_Store_getLow_27 rfl (by decide) (fun _ => rfl) (fun v42 ls hf hl => ?_)
      refine n_goto hC 7 d_Store_getLow_30 (by decide) ?_
      exact hk7 _ _ hf _ _ _ hw (lv_sub hl [0, 1, 2, 3] rfl)
    )
  exact hL7 N _ _ hf _ _ _ hw (lv_sub hl [0, 1, 2, 3] rfl)
def wd_Store_putLow (g : GT) (t_o : Nat) (t_words_a : Nat) (t_words_n : Nat) (t_length : Int32) (t_words : Nat → Int64) : va_W := [(t_o, .inr (0, [.int t_length, .ref t_words_a])), (t_words_a, .inl (g.2.2.1, t_words_n, .inr (.inl t_words)))]
def f_Store_putLow_L3 (a2 : Int32) (a1 : Int32) (a3 : Int64) (t_length : Int32) (t_words_n : Nat) (k3 : Int32 → (Nat → Int64) → Option ((Nat → Int64))) (x27 : Int32) (x28 : Nat → Int64) : Option ((Nat → Int64)) :=
  if a2 ≤ x27 then some (x28) else lt_ (a1 + x27) (fun v35 => lt_ ((8 : Int32) * x27) (fun v36 => lt_ ((a3.toUInt64 >>> (v36.toInt64.toUInt64 &&& Int64.toUInt64 63)).toInt64) (fun v37 => lt_ (v37.toInt32) (fun v38 => bd_ (f_Store_put v35 x28 t_length t_words_n v38) (fun u39 => lt_ (x27 + 1) (fun v40 => k3 v40 u39))))))
def f_Store_putLow (N : Nat) (a2 : Int32) (a1 : Int32) (a3 : Int64) (t_length : Int32) (t_words_n : Nat) (t_words : Nat → Int64) : Option ((Nat → Int64)) :=
  lp_ (fun _ _ => none) (f_Store_putLow_L3 a2 a1 a3 t_length t_words_n) N 0 t_words
def rm_Store_putLow : Room := { frames := 1, cells := 0, slots := 0, locals := 23 }
set_option maxHeartbeats 4000000 in
set_option maxRecDepth 100000 in
theorem c_Store_putLow (l : Launch) (g : GT) (E : (Nat → Prop) → State → Prop) (hEe : Ee E) (t_o : Nat) (t_words_a : Nat) (t_words_n : Nat) (t_length : Int32) (t_words : Nat → Int64) (a1 : Int32) (a2 : Int32) (a3 : Int64) (N : Nat) (z : (Nat → Int64)) (hf : f_Store_putLow N a2 a1 a3 t_length t_words_n t_words = some z) : Cg l g E y_Store_putLow ws_Store_putLow rm_Store_putLow [.ref t_o, .int a1, .int a2, .long a3] (wd_Store_putLow g t_o t_words_a t_words_n t_length t_words) none (wd_Store_putLow g t_o t_words_a t_words_n t_length z) := by
  refine Ct.ofV hEe good_W (by decide) rfl (Nat.le_of_ble_eq_true rfl) ?_
  intro p e s m args below meth c A ls Q hC hw hl hret
  have hC : CX p m c b_Store_putLow 6 s args Wall R_Store g.1 classes (tK g) E A := hC
  have hl : lv_has ls 6 [(0, .ref t_o), (1, .int a1), (2, .int a2), (3, .long a3)] := hl
  unfold f_Store_putLow at hf
  refine n_iconst hC 0 d_Store_putLow_0 (by decide) ?_
  refine n_istore hC [(5, .int 0), (0, .ref t_o), (1, .int a1), (2, .int a2), (3, .long a3)] hl d_Store_putLow_1 (by decide) rfl (fun ls hl => ?_)
  have hL3 := lw2 (B := f_Store_putLow_L3 a2 a1 a3 t_length t_words_n) (z := z) (fun (x27 : Int32) (x28 : Nat → Int64) => ∀ (H : Heap) (locs : List Loc) (ls : Array Slot), WS g.1 classes A s.heap H locs (wd_Store_putLow g t_o t_words_a t_words_n t_length x28) → lv_has ls 6 [(5, .int x27), (0, .ref t_o), (1, .int a1), (2, .int a2), (3, .long a3)] → W p l e rm_Store_putLow s m args below meth c H locs 0 0 Q (F0 m 3 ls [])) (by
    intro k3 hk3 x27 x28 hf H locs ls hw hl
    unfold f_Store_putLow_L3 at hf
    refine n_iload hC hl 0 d_Store_putLow_3 rfl ?_
    refine n_iload_n hC hl 3 d_Store_putLow_5 rfl rfl ?_
    refine n_icmp_ge hC hf 31 d_Store_putLow_6 (by decide) (fun hf => ?_) (fun hf => ?_)
    · cases hf
      exact hret _ _ _ _ hw d_Store_putLow_31
    · refine n_aload_n hC hl 1 d_Store_putLow_9 rfl rfl ?_
      refine n_iload_n hC hl 2 d_Store_putLow_10 rfl rfl ?_
      refine n_iload hC hl 0 d_Store_putLow_11 rfl ?_
      refine n_iadd hC hf d_Store_putLow_13 (fun v35 hf => ?_)
      refine n_lload_n hC hl 4 d_Store_putLow_14 rfl rfl ?_
      refine n_bipush hC 8 d_Store_putLow_15 (by decide) ?_
      refine n_iload hC hl 0 d_Store_putLow_17 rfl ?_
      refine n_imul hC hf d_Store_putLow_19 (fun v36 hf => ?_)
      refine n_lushr hC hf d_Store_putLow_20 (fun v37 hf => ?_)
      refine n_l2i hC hf d_Store_putLow_21 (fun v38 hf => ?_)
      obtain ⟨u39, hu39, hf⟩ := bd_s hf
      refine n_callVv hC hw fc_Store_33 (c_Store_put l g E hEe t_o t_words_a t_words_n t_length x28 v35 v38 u39 hu39) [0, 1] [] (wd_Store_putLow g t_o t_words_a t_words_n t_length u39) 0 rfl ⟨rfl, rfl⟩ ⟨Nat.le_of_ble_eq_true rfl, Nat.le_of_ble_eq_true rfl⟩ rfl rfl rfl rfl rfl rfl rfl hl.1 (Nat.le_of_ble_eq_true rfl) ⟨Nat.zero_le _, Nat.zero_le _⟩ d_Store_putLow_22 (fun H locs hw => ?_) rfl
      refine n_iinc hC (k := 0) hf (by decide) (fun v40 => [(5, .int v40), (0, .ref t_o), (1, .int a1), (2, .int a2), (3, .long a3)]) hl d_Store_putLow_25 rfl (by decide) (fun _ => rfl) (fun v40 ls hf hl => ?_)
      refine n_goto hC 3 d_Store_putLow_28 (by decide) ?_
      exact hk3 _ _ hf _ _ _ hw (lv_sub hl [0, 1, 2, 3, 4] rfl)
    )
  exact hL3 N _ _ hf _ _ _ hw (lv_sub hl [0, 1, 2, 3, 4] rfl)
def wd_Store_markBootSector (g : GT) (t_o : Nat) (t_words_a : Nat) (t_words_n : Nat) (t_length : Int32) (t_words : Nat → Int64) : va_W := [(t_o, .inr (0, [.int t_length, .ref t_words_a])), (t_words_a, .inl (g.2.2.1, t_words_n, .inr (.inl t_words)))]
def f_Store_markBootSector (N : Nat) (a1 : Int32) (t_length : Int32) (t_words_n : Nat) (t_words : Nat → Int64) : Option ((Nat → Int64)) :=
  lt_ (a1 * 512) (fun v4 => lt_ (v4 + 510) (fun v5 => bd_ (f_Store_putLow N 2 v5 43605 t_length t_words_n t_words) (fun u6 => some (u6))))
def rm_Store_markBootSector : Room := { frames := 2, cells := 0, slots := 0, locals := 48 }
set_option maxHeartbeats 4000000 in
set_option maxRecDepth 100000 in
theorem c_Store_markBootSector (l : Launch) (g : GT) (E : (Nat → Prop) → State → Prop) (hEe : Ee E) (t_o : Nat) (t_words_a : Nat) (t_words_n : Nat) (t_length : Int32) (t_words : Nat → Int64) (a1 : Int32) (N : Nat) (z : (Nat → Int64)) (hf : f_Store_markBootSector N a1 t_length t_words_n t_words = some z) : Cg l g E y_Store_markBootSector ws_Store_markBootSector rm_Store_markBootSector [.ref t_o, .int a1] (wd_Store_markBootSector g t_o t_words_a t_words_n t_length t_words) none (wd_Store_markBootSector g t_o t_words_a t_words_n t_length z) := by
  refine Ct.ofV hEe good_W (by decide) rfl (Nat.le_of_ble_eq_true rfl) ?_
  intro p e s m args below meth c A ls Q hC hw hl hret
  have hC : CX p m c b_Store_markBootSector 2 s args Wall R_Store g.1 classes (tK g) E A := hC
  have hl : lv_has ls 2 [(0, .ref t_o), (1, .int a1)] := hl
  unfold f_Store_markBootSector at hf
  refine n_aload_n hC hl 0 d_Store_markBootSector_0 rfl rfl ?_
  refine n_iload_n hC hl 1 d_Store_markBootSector_1 rfl rfl ?_
  refine n_sipush hC 512 d_Store_markBootSector_2 (by decide) ?_
  refine n_imul hC hf d_Store_markBootSector_5 (fun v4 hf => ?_)
  refine n_sipush hC 510 d_Store_markBootSector_6 (by decide) ?_
  refine n_iadd hC hf d_Store_markBootSector_9 (fun v5 hf => ?_)
  refine n_iconst hC 2 d_Store_markBootSector_10 (by decide) ?_
  refine n_ldc2 hC 43605 kc_Store_46 d_Store_markBootSector_11 ?_
  obtain ⟨u6, hu6, hf⟩ := bd_s hf
  refine n_callVv hC hw fc_Store_48 (c_Store_putLow l g E hEe t_o t_words_a t_words_n t_length t_words v5 2 43605 N u6 hu6) [0, 1] [] (wd_Store_markBootSector g t_o t_words_a t_words_n t_length u6) 0 rfl ⟨rfl, rfl⟩ ⟨Nat.le_of_ble_eq_true rfl, Nat.le_of_ble_eq_true rfl⟩ rfl rfl rfl rfl rfl rfl rfl hl.1 (Nat.le_of_ble_eq_true rfl) ⟨Nat.zero_le _, Nat.zero_le _⟩ d_Store_markBootSector_14 (fun H locs hw => ?_) rfl
  cases hf
  exact hret _ _ _ _ hw d_Store_markBootSector_17
def wd_Store_isBootSector (g : GT) (t_o : Nat) (t_words_a : Nat) (t_words_n : Nat) (t_length : Int32) (t_words : Nat → Int64) : va_W := [(t_o, .inr (0, [.int t_length, .ref t_words_a])), (t_words_a, .inl (g.2.2.1, t_words_n, .inr (.inl t_words)))]
def f_Store_isBootSector (N : Nat) (a1 : Int32) (t_length : Int32) (t_words_n : Nat) (t_words : Nat → Int64) : Option (Int32) :=
  lt_ (a1 * 512) (fun v5 => lt_ (v5 + 510) (fun v6 => bd_ (f_Store_getLow N 2 v6 t_length t_words_n t_words) (fun u7 => lt_ (lg_cmp u7 43605) (fun v8 => if ¬ v8 = 0 then some (0) else some (1)))))
def rm_Store_isBootSector : Room := { frames := 2, cells := 0, slots := 0, locals := 46 }
set_option maxHeartbeats 4000000 in
set_option maxRecDepth 100000 in
theorem c_Store_isBootSector (l : Launch) (g : GT) (E : (Nat → Prop) → State → Prop) (hEe : Ee E) (t_o : Nat) (t_words_a : Nat) (t_words_n : Nat) (t_length : Int32) (t_words : Nat → Int64) (a1 : Int32) (N : Nat) (z : Int32) (hf : f_Store_isBootSector N a1 t_length t_words_n t_words = some z) : Cg l g E y_Store_isBootSector ws_Store_isBootSector rm_Store_isBootSector [.ref t_o, .int a1] (wd_Store_isBootSector g t_o t_words_a t_words_n t_length t_words) (some (.int z)) (wd_Store_isBootSector g t_o t_words_a t_words_n t_length t_words) := by
  refine Ct.ofI hEe good_W (by decide) rfl (Nat.le_of_ble_eq_true rfl) ?_
  intro p e s m args below meth c A ls Q hC hw hl hret
  have hC : CX p m c b_Store_isBootSector 2 s args Wall R_Store g.1 classes (tK g) E A := hC
  have hl : lv_has ls 2 [(0, .ref t_o), (1, .int a1)] := hl
  unfold f_Store_isBootSector at hf
  refine n_aload_n hC hl 0 d_Store_isBootSector_0 rfl rfl ?_
  refine n_iload_n hC hl 1 d_Store_isBootSector_1 rfl rfl ?_
  refine n_sipush hC 512 d_Store_isBootSector_2 (by decide) ?_
  refine n_imul hC hf d_Store_isBootSector_5 (fun v5 hf => ?_)
  refine n_sipush hC 510 d_Store_isBootSector_6 (by decide) ?_
  refine n_iadd hC hf d_Store_isBootSector_9 (fun v6 hf => ?_)
  refine n_iconst hC 2 d_Store_isBootSector_10 (by decide) ?_
  obtain ⟨u7, hu7, hf⟩ := bd_s hf
  refine n_callVl hC hw fc_Store_52 (c_Store_getLow l g E hEe t_o t_words_a t_words_n t_length t_words v6 2 N u7 hu7) [0, 1] [] (wd_Store_isBootSector g t_o t_words_a t_words_n t_length t_words) 0 rfl ⟨rfl, rfl⟩ ⟨Nat.le_of_ble_eq_true rfl, Nat.le_of_ble_eq_true rfl⟩ rfl rfl rfl rfl rfl rfl rfl hl.1 (Nat.le_of_ble_eq_true rfl) ⟨Nat.zero_le _, Nat.zero_le _⟩ d_Store_isBootSector_11 (fun H locs hw => ?_) rfl
  refine n_ldc2 hC 43605 kc_Store_46 d_Store_isBootSector_14 ?_
  refine n_lcmp hC hf d_Store_isBootSector_17 (fun v8 hf => ?_)
  refine n_if_ne hC hf 25 d_Store_isBootSector_18 (by decide) (fun hf => ?_) (fun hf => ?_)
  · refine n_iconst hC 0 d_Store_isBootSector_25 (by decide) ?_
    cases hf
    exact hret _ _ _ _ hw rfl d_Store_isBootSector_26
  · refine n_iconst hC 1 d_Store_isBootSector_21 (by decide) ?_
    refine n_goto hC 26 d_Store_isBootSector_22 (by decide) ?_
    cases hf
    exact hret _ _ _ _ hw rfl d_Store_isBootSector_26
end
