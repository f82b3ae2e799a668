section
-- ===== PART A: goes FIRST, ahead of the names: the tables' words, and 'selects' of the private methods out of them =====
/-- a private method of a class that the tables say can be made, by its rows of tables_1 -/
def lw_okq (q : MethodName × Nat) : Prop := (q.1.cls ≠ "java/lang/invoke/MethodHandle" ∧ q.1.cls ≠ "java/lang/invoke/VarHandle") ∧ Cond.instantiable q.1.cls q.2 ∈ tables_1 ∧ Cond.privateMethod q.1 ∈ tables_1 ∧ Cond.instanceMethod q.1 ∈ tables_1
theorem lw_p0 : lw_okq (⟨"FatVolume", "aboutDisk", "(I)I"⟩, 7) := ⟨⟨by decide +kernel, by decide +kernel⟩, List.mem_of_getElem? (i := 20) (by decide +kernel), List.mem_of_getElem? (i := 292) (by decide +kernel), List.mem_of_getElem? (i := 293) (by decide +kernel)⟩
theorem lw_p1 : lw_okq (⟨"FatVolume", "demandPath", "(Z)V"⟩, 7) := ⟨⟨by decide +kernel, by decide +kernel⟩, List.mem_of_getElem? (i := 20) (by decide +kernel), List.mem_of_getElem? (i := 330) (by decide +kernel), List.mem_of_getElem? (i := 331) (by decide +kernel)⟩
theorem lw_p2 : lw_okq (⟨"FatVolume", "demandUp", "()V"⟩, 7) := ⟨⟨by decide +kernel, by decide +kernel⟩, List.mem_of_getElem? (i := 20) (by decide +kernel), List.mem_of_getElem? (i := 334) (by decide +kernel), List.mem_of_getElem? (i := 335) (by decide +kernel)⟩
theorem lw_p3 : lw_okq (⟨"java/lang/Throwable", "fillInStackTrace", "(I)Ljava/lang/Throwable;"⟩, 6) := ⟨⟨by decide +kernel, by decide +kernel⟩, List.mem_of_getElem? (i := 376) (by decide +kernel), List.mem_of_getElem? (i := 374) (by decide +kernel), List.mem_of_getElem? (i := 375) (by decide +kernel)⟩
theorem lw_p4 : lw_okq (⟨"FatVolume$Folder", "isShort", "(ILFatVolume$Buffer;I)Z"⟩, 3) := ⟨⟨by decide +kernel, by decide +kernel⟩, List.mem_of_getElem? (i := 87) (by decide +kernel), List.mem_of_getElem? (i := 453) (by decide +kernel), List.mem_of_getElem? (i := 454) (by decide +kernel)⟩
theorem lw_p5 : lw_okq (⟨"FatVolume$Folder", "shortLength", "(I)I"⟩, 3) := ⟨⟨by decide +kernel, by decide +kernel⟩, List.mem_of_getElem? (i := 87) (by decide +kernel), List.mem_of_getElem? (i := 457) (by decide +kernel), List.mem_of_getElem? (i := 458) (by decide +kernel)⟩
theorem lw_p6 : lw_okq (⟨"FatVolume$Folder", "isLong", "(ILFatVolume$Buffer;I)Z"⟩, 3) := ⟨⟨by decide +kernel, by decide +kernel⟩, List.mem_of_getElem? (i := 87) (by decide +kernel), List.mem_of_getElem? (i := 476) (by decide +kernel), List.mem_of_getElem? (i := 477) (by decide +kernel)⟩
theorem lw_p7 : lw_okq (⟨"FatVolume$Folder", "sum", "(I)I"⟩, 3) := ⟨⟨by decide +kernel, by decide +kernel⟩, List.mem_of_getElem? (i := 87) (by decide +kernel), List.mem_of_getElem? (i := 484) (by decide +kernel), List.mem_of_getElem? (i := 485) (by decide +kernel)⟩
theorem lw_p8 : lw_okq (⟨"FatVolume$Folder", "isPart", "(III)Z"⟩, 3) := ⟨⟨by decide +kernel, by decide +kernel⟩, List.mem_of_getElem? (i := 87) (by decide +kernel), List.mem_of_getElem? (i := 491) (by decide +kernel), List.mem_of_getElem? (i := 492) (by decide +kernel)⟩
theorem lw_p9 : lw_okq (⟨"FatVolume", "addEntry", "(ZIII)I"⟩, 7) := ⟨⟨by decide +kernel, by decide +kernel⟩, List.mem_of_getElem? (i := 20) (by decide +kernel), List.mem_of_getElem? (i := 571) (by decide +kernel), List.mem_of_getElem? (i := 572) (by decide +kernel)⟩
theorem lw_p10 : lw_okq (⟨"FatVolume$Change", "take", "([II)I"⟩, 5) := ⟨⟨by decide +kernel, by decide +kernel⟩, List.mem_of_getElem? (i := 148) (by decide +kernel), List.mem_of_getElem? (i := 601) (by decide +kernel), List.mem_of_getElem? (i := 602) (by decide +kernel)⟩
theorem lw_p11 : lw_okq (⟨"FatVolume$Change", "bringIntoForce", "(I)I"⟩, 5) := ⟨⟨by decide +kernel, by decide +kernel⟩, List.mem_of_getElem? (i := 148) (by decide +kernel), List.mem_of_getElem? (i := 656) (by decide +kernel), List.mem_of_getElem? (i := 657) (by decide +kernel)⟩
theorem lw_p12 : lw_okq (⟨"FatVolume", "settled", "(II)I"⟩, 7) := ⟨⟨by decide +kernel, by decide +kernel⟩, List.mem_of_getElem? (i := 20) (by decide +kernel), List.mem_of_getElem? (i := 673) (by decide +kernel), List.mem_of_getElem? (i := 674) (by decide +kernel)⟩
theorem lw_p13 : lw_okq (⟨"FatVolume", "findsFullDirectory", "()Z"⟩, 7) := ⟨⟨by decide +kernel, by decide +kernel⟩, List.mem_of_getElem? (i := 20) (by decide +kernel), List.mem_of_getElem? (i := 684) (by decide +kernel), List.mem_of_getElem? (i := 685) (by decide +kernel)⟩
theorem lw_p14 : lw_okq (⟨"FatVolume", "dropEntry", "()I"⟩, 7) := ⟨⟨by decide +kernel, by decide +kernel⟩, List.mem_of_getElem? (i := 20) (by decide +kernel), List.mem_of_getElem? (i := 704) (by decide +kernel), List.mem_of_getElem? (i := 705) (by decide +kernel)⟩
theorem lw_p15 : lw_okq (⟨"FatVolume", "storeFile", "(I)I"⟩, 7) := ⟨⟨by decide +kernel, by decide +kernel⟩, List.mem_of_getElem? (i := 20) (by decide +kernel), List.mem_of_getElem? (i := 757) (by decide +kernel), List.mem_of_getElem? (i := 758) (by decide +kernel)⟩
def lw_privs_1 : List (MethodName × Nat) := [(⟨"FatVolume", "aboutDisk", "(I)I"⟩, 7), (⟨"FatVolume", "demandPath", "(Z)V"⟩, 7), (⟨"FatVolume", "demandUp", "()V"⟩, 7), (⟨"java/lang/Throwable", "fillInStackTrace", "(I)Ljava/lang/Throwable;"⟩, 6), (⟨"FatVolume$Folder", "isShort", "(ILFatVolume$Buffer;I)Z"⟩, 3), (⟨"FatVolume$Folder", "shortLength", "(I)I"⟩, 3), (⟨"FatVolume$Folder", "isLong", "(ILFatVolume$Buffer;I)Z"⟩, 3), (⟨"FatVolume$Folder", "sum", "(I)I"⟩, 3), (⟨"FatVolume$Folder", "isPart", "(III)Z"⟩, 3), (⟨"FatVolume", "addEntry", "(ZIII)I"⟩, 7), (⟨"FatVolume$Change", "take", "([II)I"⟩, 5), (⟨"FatVolume$Change", "bringIntoForce", "(I)I"⟩, 5), (⟨"FatVolume", "settled", "(II)I"⟩, 7), (⟨"FatVolume", "findsFullDirectory", "()Z"⟩, 7), (⟨"FatVolume", "dropEntry", "()I"⟩, 7), (⟨"FatVolume", "storeFile", "(I)I"⟩, 7)]
theorem lw_r1 : ∀ q ∈ lw_privs_1, lw_okq q := List.forall_mem_cons.mpr ⟨lw_p0, List.forall_mem_cons.mpr ⟨lw_p1, List.forall_mem_cons.mpr ⟨lw_p2, List.forall_mem_cons.mpr ⟨lw_p3, List.forall_mem_cons.mpr ⟨lw_p4, List.forall_mem_cons.mpr ⟨lw_p5, List.forall_mem_cons.mpr ⟨lw_p6, List.forall_mem_cons.mpr ⟨lw_p7, List.forall_mem_cons.mpr ⟨lw_p8, List.forall_mem_cons.mpr ⟨lw_p9, List.forall_mem_cons.mpr ⟨lw_p10, List.forall_mem_cons.mpr ⟨lw_p11, List.forall_mem_cons.mpr ⟨lw_p12, List.forall_mem_cons.mpr ⟨lw_p13, List.forall_mem_cons.mpr ⟨lw_p14, List.forall_mem_cons.mpr ⟨lw_p15, fun _ h => absurd h List.not_mem_nil⟩⟩⟩⟩⟩⟩⟩⟩⟩⟩⟩⟩⟩⟩⟩⟩
theorem lw_p16 : lw_okq (⟨"FatVolume$Repairer", "use", "(I)V"⟩, 5) := ⟨⟨by decide +kernel, by decide +kernel⟩, List.mem_of_getElem? (i := 170) (by decide +kernel), List.mem_of_getElem? (i := 817) (by decide +kernel), List.mem_of_getElem? (i := 818) (by decide +kernel)⟩
theorem lw_p17 : lw_okq (⟨"FatVolume$Repairer", "goThrough", "(II)V"⟩, 5) := ⟨⟨by decide +kernel, by decide +kernel⟩, List.mem_of_getElem? (i := 170) (by decide +kernel), List.mem_of_getElem? (i := 825) (by decide +kernel), List.mem_of_getElem? (i := 826) (by decide +kernel)⟩
theorem lw_p18 : lw_okq (⟨"FatVolume$Repairer", "isRight", "(LFatVolume$Folder;II)Z"⟩, 5) := ⟨⟨by decide +kernel, by decide +kernel⟩, List.mem_of_getElem? (i := 170) (by decide +kernel), List.mem_of_getElem? (i := 831) (by decide +kernel), List.mem_of_getElem? (i := 832) (by decide +kernel)⟩
theorem lw_p19 : lw_okq (⟨"FatVolume$Repairer", "isUsable", "(I)Z"⟩, 5) := ⟨⟨by decide +kernel, by decide +kernel⟩, List.mem_of_getElem? (i := 170) (by decide +kernel), List.mem_of_getElem? (i := 835) (by decide +kernel), List.mem_of_getElem? (i := 836) (by decide +kernel)⟩
theorem lw_p20 : lw_okq (⟨"FatVolume$Repairer", "mend", "(LFatVolume$Folder;IZI)V"⟩, 5) := ⟨⟨by decide +kernel, by decide +kernel⟩, List.mem_of_getElem? (i := 170) (by decide +kernel), List.mem_of_getElem? (i := 843) (by decide +kernel), List.mem_of_getElem? (i := 844) (by decide +kernel)⟩
theorem lw_p21 : lw_okq (⟨"FatVolume$Repairer", "mendFile", "(LFatVolume$Folder;I)V"⟩, 5) := ⟨⟨by decide +kernel, by decide +kernel⟩, List.mem_of_getElem? (i := 170) (by decide +kernel), List.mem_of_getElem? (i := 847) (by decide +kernel), List.mem_of_getElem? (i := 848) (by decide +kernel)⟩
theorem lw_p22 : lw_okq (⟨"FatVolume$Repairer", "follow", "(I)I"⟩, 5) := ⟨⟨by decide +kernel, by decide +kernel⟩, List.mem_of_getElem? (i := 170) (by decide +kernel), List.mem_of_getElem? (i := 851) (by decide +kernel), List.mem_of_getElem? (i := 852) (by decide +kernel)⟩
theorem lw_p23 : lw_okq (⟨"FatVolume$Repairer", "freeUnused", "()V"⟩, 5) := ⟨⟨by decide +kernel, by decide +kernel⟩, List.mem_of_getElem? (i := 170) (by decide +kernel), List.mem_of_getElem? (i := 859) (by decide +kernel), List.mem_of_getElem? (i := 860) (by decide +kernel)⟩
theorem lw_p24 : lw_okq (⟨"FatVolumeModel", "barred", "(Z)I"⟩, 29) := ⟨⟨by decide +kernel, by decide +kernel⟩, List.mem_of_getElem? (i := 867) (by decide +kernel), List.mem_of_getElem? (i := 977) (by decide +kernel), List.mem_of_getElem? (i := 978) (by decide +kernel)⟩
theorem lw_p25 : lw_okq (⟨"FatVolumeModel", "isPath", "()Z"⟩, 29) := ⟨⟨by decide +kernel, by decide +kernel⟩, List.mem_of_getElem? (i := 867) (by decide +kernel), List.mem_of_getElem? (i := 981) (by decide +kernel), List.mem_of_getElem? (i := 982) (by decide +kernel)⟩
theorem lw_p26 : lw_okq (⟨"FatVolumeModel", "raise", "(I)I"⟩, 29) := ⟨⟨by decide +kernel, by decide +kernel⟩, List.mem_of_getElem? (i := 867) (by decide +kernel), List.mem_of_getElem? (i := 985) (by decide +kernel), List.mem_of_getElem? (i := 986) (by decide +kernel)⟩
theorem lw_p27 : lw_okq (⟨"FatVolumeModel", "walk", "()Z"⟩, 29) := ⟨⟨by decide +kernel, by decide +kernel⟩, List.mem_of_getElem? (i := 867) (by decide +kernel), List.mem_of_getElem? (i := 989) (by decide +kernel), List.mem_of_getElem? (i := 990) (by decide +kernel)⟩
theorem lw_p28 : lw_okq (⟨"FatVolumeModel", "find", "(II)I"⟩, 29) := ⟨⟨by decide +kernel, by decide +kernel⟩, List.mem_of_getElem? (i := 867) (by decide +kernel), List.mem_of_getElem? (i := 993) (by decide +kernel), List.mem_of_getElem? (i := 994) (by decide +kernel)⟩
theorem lw_p29 : lw_okq (⟨"FatVolumeModel", "isEntry", "(II)Z"⟩, 29) := ⟨⟨by decide +kernel, by decide +kernel⟩, List.mem_of_getElem? (i := 867) (by decide +kernel), List.mem_of_getElem? (i := 997) (by decide +kernel), List.mem_of_getElem? (i := 998) (by decide +kernel)⟩
theorem lw_p30 : lw_okq (⟨"FatVolumeModel", "at", "(III)I"⟩, 29) := ⟨⟨by decide +kernel, by decide +kernel⟩, List.mem_of_getElem? (i := 867) (by decide +kernel), List.mem_of_getElem? (i := 1001) (by decide +kernel), List.mem_of_getElem? (i := 1002) (by decide +kernel)⟩
theorem lw_p31 : lw_okq (⟨"FatVolumeModel", "named", "(III)Z"⟩, 29) := ⟨⟨by decide +kernel, by decide +kernel⟩, List.mem_of_getElem? (i := 867) (by decide +kernel), List.mem_of_getElem? (i := 1005) (by decide +kernel), List.mem_of_getElem? (i := 1006) (by decide +kernel)⟩
def lw_privs_2 : List (MethodName × Nat) := [(⟨"FatVolume$Repairer", "use", "(I)V"⟩, 5), (⟨"FatVolume$Repairer", "goThrough", "(II)V"⟩, 5), (⟨"FatVolume$Repairer", "isRight", "(LFatVolume$Folder;II)Z"⟩, 5), (⟨"FatVolume$Repairer", "isUsable", "(I)Z"⟩, 5), (⟨"FatVolume$Repairer", "mend", "(LFatVolume$Folder;IZI)V"⟩, 5), (⟨"FatVolume$Repairer", "mendFile", "(LFatVolume$Folder;I)V"⟩, 5), (⟨"FatVolume$Repairer", "follow", "(I)I"⟩, 5), (⟨"FatVolume$Repairer", "freeUnused", "()V"⟩, 5), (⟨"FatVolumeModel", "barred", "(Z)I"⟩, 29), (⟨"FatVolumeModel", "isPath", "()Z"⟩, 29), (⟨"FatVolumeModel", "raise", "(I)I"⟩, 29), (⟨"FatVolumeModel", "walk", "()Z"⟩, 29), (⟨"FatVolumeModel", "find", "(II)I"⟩, 29), (⟨"FatVolumeModel", "isEntry", "(II)Z"⟩, 29), (⟨"FatVolumeModel", "at", "(III)I"⟩, 29), (⟨"FatVolumeModel", "named", "(III)Z"⟩, 29)]
theorem lw_r2 : ∀ q ∈ lw_privs_2, lw_okq q := List.forall_mem_cons.mpr ⟨lw_p16, List.forall_mem_cons.mpr ⟨lw_p17, List.forall_mem_cons.mpr ⟨lw_p18, List.forall_mem_cons.mpr ⟨lw_p19, List.forall_mem_cons.mpr ⟨lw_p20, List.forall_mem_cons.mpr ⟨lw_p21, List.forall_mem_cons.mpr ⟨lw_p22, List.forall_mem_cons.mpr ⟨lw_p23, List.forall_mem_cons.mpr ⟨lw_p24, List.forall_mem_cons.mpr ⟨lw_p25, List.forall_mem_cons.mpr ⟨lw_p26, List.forall_mem_cons.mpr ⟨lw_p27, List.forall_mem_cons.mpr ⟨lw_p28, List.forall_mem_cons.mpr ⟨lw_p29, List.forall_mem_cons.mpr ⟨lw_p30, List.forall_mem_cons.mpr ⟨lw_p31, fun _ h => absurd h List.not_mem_nil⟩⟩⟩⟩⟩⟩⟩⟩⟩⟩⟩⟩⟩⟩⟩⟩
theorem lw_p32 : lw_okq (⟨"FatVolumeModel", "along", "(IIIIII)I"⟩, 29) := ⟨⟨by decide +kernel, by decide +kernel⟩, List.mem_of_getElem? (i := 867) (by decide +kernel), List.mem_of_getElem? (i := 1009) (by decide +kernel), List.mem_of_getElem? (i := 1010) (by decide +kernel)⟩
theorem lw_p33 : lw_okq (⟨"FatVolumeModel", "longs", "(II)I"⟩, 29) := ⟨⟨by decide +kernel, by decide +kernel⟩, List.mem_of_getElem? (i := 867) (by decide +kernel), List.mem_of_getElem? (i := 1016) (by decide +kernel), List.mem_of_getElem? (i := 1017) (by decide +kernel)⟩
theorem lw_p34 : lw_okq (⟨"FatVolumeModel", "isLong", "(IIII)Z"⟩, 29) := ⟨⟨by decide +kernel, by decide +kernel⟩, List.mem_of_getElem? (i := 867) (by decide +kernel), List.mem_of_getElem? (i := 1020) (by decide +kernel), List.mem_of_getElem? (i := 1021) (by decide +kernel)⟩
theorem lw_p35 : lw_okq (⟨"FatVolumeModel", "isShort", "(I)Z"⟩, 29) := ⟨⟨by decide +kernel, by decide +kernel⟩, List.mem_of_getElem? (i := 867) (by decide +kernel), List.mem_of_getElem? (i := 1027) (by decide +kernel), List.mem_of_getElem? (i := 1028) (by decide +kernel)⟩
theorem lw_p36 : lw_okq (⟨"FatVolumeModel", "gap", "(II)I"⟩, 29) := ⟨⟨by decide +kernel, by decide +kernel⟩, List.mem_of_getElem? (i := 867) (by decide +kernel), List.mem_of_getElem? (i := 1031) (by decide +kernel), List.mem_of_getElem? (i := 1032) (by decide +kernel)⟩
theorem lw_p37 : lw_okq (⟨"FatVolumeModel", "shorten", "(II)Z"⟩, 29) := ⟨⟨by decide +kernel, by decide +kernel⟩, List.mem_of_getElem? (i := 867) (by decide +kernel), List.mem_of_getElem? (i := 1035) (by decide +kernel), List.mem_of_getElem? (i := 1036) (by decide +kernel)⟩
theorem lw_p38 : lw_okq (⟨"FatVolumeModel", "isUsed", "(I)Z"⟩, 29) := ⟨⟨by decide +kernel, by decide +kernel⟩, List.mem_of_getElem? (i := 867) (by decide +kernel), List.mem_of_getElem? (i := 1042) (by decide +kernel), List.mem_of_getElem? (i := 1043) (by decide +kernel)⟩
theorem lw_p39 : lw_okq (⟨"FatVolumeModel", "startChange", "()V"⟩, 29) := ⟨⟨by decide +kernel, by decide +kernel⟩, List.mem_of_getElem? (i := 867) (by decide +kernel), List.mem_of_getElem? (i := 1046) (by decide +kernel), List.mem_of_getElem? (i := 1047) (by decide +kernel)⟩
theorem lw_p40 : lw_okq (⟨"FatVolumeModel", "clearStage", "()V"⟩, 29) := ⟨⟨by decide +kernel, by decide +kernel⟩, List.mem_of_getElem? (i := 867) (by decide +kernel), List.mem_of_getElem? (i := 1050) (by decide +kernel), List.mem_of_getElem? (i := 1051) (by decide +kernel)⟩
theorem lw_p41 : lw_okq (⟨"FatVolumeModel", "put", "()I"⟩, 29) := ⟨⟨by decide +kernel, by decide +kernel⟩, List.mem_of_getElem? (i := 867) (by decide +kernel), List.mem_of_getElem? (i := 1054) (by decide +kernel), List.mem_of_getElem? (i := 1055) (by decide +kernel)⟩
theorem lw_p42 : lw_okq (⟨"FatVolumeModel", "leastFree", "()I"⟩, 29) := ⟨⟨by decide +kernel, by decide +kernel⟩, List.mem_of_getElem? (i := 867) (by decide +kernel), List.mem_of_getElem? (i := 1058) (by decide +kernel), List.mem_of_getElem? (i := 1059) (by decide +kernel)⟩
theorem lw_p43 : lw_okq (⟨"FatVolumeModel", "writes", "()Z"⟩, 29) := ⟨⟨by decide +kernel, by decide +kernel⟩, List.mem_of_getElem? (i := 867) (by decide +kernel), List.mem_of_getElem? (i := 1062) (by decide +kernel), List.mem_of_getElem? (i := 1063) (by decide +kernel)⟩
theorem lw_p44 : lw_okq (⟨"FatVolumeModel", "answer", "(II)I"⟩, 29) := ⟨⟨by decide +kernel, by decide +kernel⟩, List.mem_of_getElem? (i := 867) (by decide +kernel), List.mem_of_getElem? (i := 1066) (by decide +kernel), List.mem_of_getElem? (i := 1067) (by decide +kernel)⟩
theorem lw_p45 : lw_okq (⟨"FatVolumeModel", "putLong", "(IIII)V"⟩, 29) := ⟨⟨by decide +kernel, by decide +kernel⟩, List.mem_of_getElem? (i := 867) (by decide +kernel), List.mem_of_getElem? (i := 1070) (by decide +kernel), List.mem_of_getElem? (i := 1071) (by decide +kernel)⟩
theorem lw_p46 : lw_okq (⟨"FatVolumeModel", "finish", "()I"⟩, 29) := ⟨⟨by decide +kernel, by decide +kernel⟩, List.mem_of_getElem? (i := 867) (by decide +kernel), List.mem_of_getElem? (i := 1074) (by decide +kernel), List.mem_of_getElem? (i := 1075) (by decide +kernel)⟩
theorem lw_p47 : lw_okq (⟨"FatVolumeModel", "free", "(I)V"⟩, 29) := ⟨⟨by decide +kernel, by decide +kernel⟩, List.mem_of_getElem? (i := 867) (by decide +kernel), List.mem_of_getElem? (i := 1078) (by decide +kernel), List.mem_of_getElem? (i := 1079) (by decide +kernel)⟩
def lw_privs_3 : List (MethodName × Nat) := [(⟨"FatVolumeModel", "along", "(IIIIII)I"⟩, 29), (⟨"FatVolumeModel", "longs", "(II)I"⟩, 29), (⟨"FatVolumeModel", "isLong", "(IIII)Z"⟩, 29), (⟨"FatVolumeModel", "isShort", "(I)Z"⟩, 29), (⟨"FatVolumeModel", "gap", "(II)I"⟩, 29), (⟨"FatVolumeModel", "shorten", "(II)Z"⟩, 29), (⟨"FatVolumeModel", "isUsed", "(I)Z"⟩, 29), (⟨"FatVolumeModel", "startChange", "()V"⟩, 29), (⟨"FatVolumeModel", "clearStage", "()V"⟩, 29), (⟨"FatVolumeModel", "put", "()I"⟩, 29), (⟨"FatVolumeModel", "leastFree", "()I"⟩, 29), (⟨"FatVolumeModel", "writes", "()Z"⟩, 29), (⟨"FatVolumeModel", "answer", "(II)I"⟩, 29), (⟨"FatVolumeModel", "putLong", "(IIII)V"⟩, 29), (⟨"FatVolumeModel", "finish", "()I"⟩, 29), (⟨"FatVolumeModel", "free", "(I)V"⟩, 29)]
theorem lw_r3 : ∀ q ∈ lw_privs_3, lw_okq q := List.forall_mem_cons.mpr ⟨lw_p32, List.forall_mem_cons.mpr ⟨lw_p33, List.forall_mem_cons.mpr ⟨lw_p34, List.forall_mem_cons.mpr ⟨lw_p35, List.forall_mem_cons.mpr ⟨lw_p36, List.forall_mem_cons.mpr ⟨lw_p37, List.forall_mem_cons.mpr ⟨lw_p38, List.forall_mem_cons.mpr ⟨lw_p39, List.forall_mem_cons.mpr ⟨lw_p40, List.forall_mem_cons.mpr ⟨lw_p41, List.forall_mem_cons.mpr ⟨lw_p42, List.forall_mem_cons.mpr ⟨lw_p43, List.forall_mem_cons.mpr ⟨lw_p44, List.forall_mem_cons.mpr ⟨lw_p45, List.forall_mem_cons.mpr ⟨lw_p46, List.forall_mem_cons.mpr ⟨lw_p47, fun _ h => absurd h List.not_mem_nil⟩⟩⟩⟩⟩⟩⟩⟩⟩⟩⟩⟩⟩⟩⟩⟩
theorem lw_p48 : lw_okq (⟨"FatVolumeModel", "target", "()I"⟩, 29) := ⟨⟨by decide +kernel, by decide +kernel⟩, List.mem_of_getElem? (i := 867) (by decide +kernel), List.mem_of_getElem? (i := 1087) (by decide +kernel), List.mem_of_getElem? (i := 1088) (by decide +kernel)⟩
theorem lw_p49 : lw_okq (⟨"FatVolumeModel", "isEmpty", "(I)Z"⟩, 29) := ⟨⟨by decide +kernel, by decide +kernel⟩, List.mem_of_getElem? (i := 867) (by decide +kernel), List.mem_of_getElem? (i := 1091) (by decide +kernel), List.mem_of_getElem? (i := 1092) (by decide +kernel)⟩
theorem lw_p50 : lw_okq (⟨"FatVolumeModel", "readFile", "(II)I"⟩, 29) := ⟨⟨by decide +kernel, by decide +kernel⟩, List.mem_of_getElem? (i := 867) (by decide +kernel), List.mem_of_getElem? (i := 1095) (by decide +kernel), List.mem_of_getElem? (i := 1096) (by decide +kernel)⟩
theorem lw_p51 : lw_okq (⟨"FatVolumeModel", "freeChain", "()V"⟩, 29) := ⟨⟨by decide +kernel, by decide +kernel⟩, List.mem_of_getElem? (i := 867) (by decide +kernel), List.mem_of_getElem? (i := 1099) (by decide +kernel), List.mem_of_getElem? (i := 1100) (by decide +kernel)⟩
theorem lw_p52 : lw_okq (⟨"FatVolumeModel", "fileTarget", "()I"⟩, 29) := ⟨⟨by decide +kernel, by decide +kernel⟩, List.mem_of_getElem? (i := 867) (by decide +kernel), List.mem_of_getElem? (i := 1107) (by decide +kernel), List.mem_of_getElem? (i := 1108) (by decide +kernel)⟩
theorem lw_p53 : lw_okq (⟨"FatVolumeModel", "store", "(III)I"⟩, 29) := ⟨⟨by decide +kernel, by decide +kernel⟩, List.mem_of_getElem? (i := 867) (by decide +kernel), List.mem_of_getElem? (i := 1111) (by decide +kernel), List.mem_of_getElem? (i := 1112) (by decide +kernel)⟩
theorem lw_p54 : lw_okq (⟨"FatVolumeModel", "counted", "(I)I"⟩, 29) := ⟨⟨by decide +kernel, by decide +kernel⟩, List.mem_of_getElem? (i := 867) (by decide +kernel), List.mem_of_getElem? (i := 1151) (by decide +kernel), List.mem_of_getElem? (i := 1152) (by decide +kernel)⟩
theorem lw_p55 : lw_okq (⟨"FatVolumeModel", "wipeEntry", "(II)V"⟩, 29) := ⟨⟨by decide +kernel, by decide +kernel⟩, List.mem_of_getElem? (i := 867) (by decide +kernel), List.mem_of_getElem? (i := 1159) (by decide +kernel), List.mem_of_getElem? (i := 1160) (by decide +kernel)⟩
theorem lw_p56 : lw_okq (⟨"FatVolumeModel", "mend", "(II)Z"⟩, 29) := ⟨⟨by decide +kernel, by decide +kernel⟩, List.mem_of_getElem? (i := 867) (by decide +kernel), List.mem_of_getElem? (i := 1163) (by decide +kernel), List.mem_of_getElem? (i := 1164) (by decide +kernel)⟩
theorem lw_p57 : lw_okq (⟨"FatVolumeModel", "canBeUsed", "(I)Z"⟩, 29) := ⟨⟨by decide +kernel, by decide +kernel⟩, List.mem_of_getElem? (i := 867) (by decide +kernel), List.mem_of_getElem? (i := 1167) (by decide +kernel), List.mem_of_getElem? (i := 1168) (by decide +kernel)⟩
theorem lw_p58 : lw_okq (⟨"FatVolumeModel", "mendFile", "(II)V"⟩, 29) := ⟨⟨by decide +kernel, by decide +kernel⟩, List.mem_of_getElem? (i := 867) (by decide +kernel), List.mem_of_getElem? (i := 1171) (by decide +kernel), List.mem_of_getElem? (i := 1172) (by decide +kernel)⟩
def lw_privs_4 : List (MethodName × Nat) := [(⟨"FatVolumeModel", "target", "()I"⟩, 29), (⟨"FatVolumeModel", "isEmpty", "(I)Z"⟩, 29), (⟨"FatVolumeModel", "readFile", "(II)I"⟩, 29), (⟨"FatVolumeModel", "freeChain", "()V"⟩, 29), (⟨"FatVolumeModel", "fileTarget", "()I"⟩, 29), (⟨"FatVolumeModel", "store", "(III)I"⟩, 29), (⟨"FatVolumeModel", "counted", "(I)I"⟩, 29), (⟨"FatVolumeModel", "wipeEntry", "(II)V"⟩, 29), (⟨"FatVolumeModel", "mend", "(II)Z"⟩, 29), (⟨"FatVolumeModel", "canBeUsed", "(I)Z"⟩, 29), (⟨"FatVolumeModel", "mendFile", "(II)V"⟩, 29)]
theorem lw_r4 : ∀ q ∈ lw_privs_4, lw_okq q := List.forall_mem_cons.mpr ⟨lw_p48, List.forall_mem_cons.mpr ⟨lw_p49, List.forall_mem_cons.mpr ⟨lw_p50, List.forall_mem_cons.mpr ⟨lw_p51, List.forall_mem_cons.mpr ⟨lw_p52, List.forall_mem_cons.mpr ⟨lw_p53, List.forall_mem_cons.mpr ⟨lw_p54, List.forall_mem_cons.mpr ⟨lw_p55, List.forall_mem_cons.mpr ⟨lw_p56, List.forall_mem_cons.mpr ⟨lw_p57, List.forall_mem_cons.mpr ⟨lw_p58, fun _ h => absurd h List.not_mem_nil⟩⟩⟩⟩⟩⟩⟩⟩⟩⟩⟩
def lw_privs : List (MethodName × Nat) := lw_privs_1 ++ (lw_privs_2 ++ (lw_privs_3 ++ (lw_privs_4)))
def lw_tbl : List Cond := k2_sels lw_privs ++ tables_1
theorem lw_privs_ok : ∀ q ∈ lw_privs, lw_okq q := by
  show ∀ q ∈ lw_privs_1 ++ (lw_privs_2 ++ (lw_privs_3 ++ (lw_privs_4))), lw_okq q
  exact List.forall_mem_append.mpr ⟨lw_r1, List.forall_mem_append.mpr ⟨lw_r2, List.forall_mem_append.mpr ⟨lw_r3, lw_r4⟩⟩⟩
end
section
/-! my tables of the program: made by wip/p1/gen_tables.py out of the Statement and the class files -/
def iv_cnm (k : Nat) : String := match k with
  | 0 => "FatVolume"
  | 1 => "FatVolume$Buffer"
  | 2 => "FatVolume$Change"
  | 3 => "FatVolume$Disk"
  | 4 => "FatVolume$FileBytes"
  | 5 => "FatVolume$Folder"
  | 6 => "FatVolume$Repairer"
  | 7 => "FatVolume$Route"
  | 8 => "FatVolume$ShortName"
  | 9 => "FatVolumeModel"
  | _ => "FatVolumeLaw"
def iv_F0 : u_T := fun k => match k with
  | 0 => ("FatVolume", "disk", "LFatVolume$Disk;", true)
  | 1 => ("FatVolume", "buffer", "LFatVolume$Buffer;", true)
  | 2 => ("FatVolume", "route", "LFatVolume$Route;", true)
  | 3 => ("FatVolume", "file", "LFatVolume$FileBytes;", true)
  | 4 => ("FatVolume", "shortName", "LFatVolume$ShortName;", true)
  | 5 => ("FatVolume", "change", "LFatVolume$Change;", true)
  | _ => ("FatVolume", "repairer", "LFatVolume$Repairer;", true)
def iv_t0 : Nat → FieldType := fun k => match k with
  | 0 => .object "FatVolume$Disk"
  | 1 => .object "FatVolume$Buffer"
  | 2 => .object "FatVolume$Route"
  | 3 => .object "FatVolume$FileBytes"
  | 4 => .object "FatVolume$ShortName"
  | 5 => .object "FatVolume$Change"
  | _ => .object "FatVolume$Repairer"
def iv_F1 : u_T := fun k => match k with
  | 0 => ("FatVolume$Buffer", "chars", "[I", true)
  | 1 => ("FatVolume$Buffer", "starts", "[I", true)
  | 2 => ("FatVolume$Buffer", "lengths", "[I", true)
  | 3 => ("FatVolume$Buffer", "count", "I", false)
  | _ => ("FatVolume$Buffer", "names", "I", false)
def iv_t1 : Nat → FieldType := fun k => match k with
  | 0 => .array .int
  | 1 => .array .int
  | 2 => .array .int
  | 3 => .int
  | _ => .int
def iv_F2 : u_T := fun k => match k with
  | 0 => ("FatVolume$Change", "disk", "LFatVolume$Disk;", true)
  | 1 => ("FatVolume$Change", "route", "LFatVolume$Route;", true)
  | 2 => ("FatVolume$Change", "table", "[I", true)
  | 3 => ("FatVolume$Change", "taken", "[Z", true)
  | _ => ("FatVolume$Change", "empty", "[I", true)
def iv_t2 : Nat → FieldType := fun k => match k with
  | 0 => .object "FatVolume$Disk"
  | 1 => .object "FatVolume$Route"
  | 2 => .array .int
  | 3 => .array .boolean
  | _ => .array .int
def iv_F3 : u_T := fun k => match k with
  | 0 => ("FatVolume$Disk", "cells", "[I", true)
  | 1 => ("FatVolume$Disk", "tables", "[I", true)
  | 2 => ("FatVolume$Disk", "spoilt", "[Z", true)
  | 3 => ("FatVolume$Disk", "active", "I", false)
  | 4 => ("FatVolume$Disk", "root", "I", false)
  | 5 => ("FatVolume$Disk", "writesToFailure", "I", false)
  | _ => ("FatVolume$Disk", "down", "Z", false)
def iv_t3 : Nat → FieldType := fun k => match k with
  | 0 => .array .int
  | 1 => .array .int
  | 2 => .array .boolean
  | 3 => .int
  | 4 => .int
  | 5 => .int
  | _ => .boolean
def iv_F4 : u_T := fun k => match k with
  | 0 => ("FatVolume$FileBytes", "disk", "LFatVolume$Disk;", true)
  | 1 => ("FatVolume$FileBytes", "bytes", "[I", true)
  | 2 => ("FatVolume$FileBytes", "chain", "[I", true)
  | 3 => ("FatVolume$FileBytes", "links", "I", false)
  | _ => ("FatVolume$FileBytes", "count", "I", false)
def iv_t4 : Nat → FieldType := fun k => match k with
  | 0 => .object "FatVolume$Disk"
  | 1 => .array .int
  | 2 => .array .int
  | 3 => .int
  | _ => .int
def iv_F5 : u_T := fun k => match k with
  | 0 => ("FatVolume$Folder", "bytes", "[I", true)
  | 1 => ("FatVolume$Folder", "home", "I", false)
  | _ => ("FatVolume$Folder", "slot", "I", false)
def iv_t5 : Nat → FieldType := fun k => match k with
  | 0 => .array .int
  | 1 => .int
  | _ => .int
def iv_F6 : u_T := fun k => match k with
  | 0 => ("FatVolume$Repairer", "disk", "LFatVolume$Disk;", true)
  | 1 => ("FatVolume$Repairer", "used", "[Z", true)
  | 2 => ("FatVolume$Repairer", "before", "[I", true)
  | 3 => ("FatVolume$Repairer", "chain", "[I", true)
  | _ => ("FatVolume$Repairer", "folders", "[LFatVolume$Folder;", true)
def iv_t6 : Nat → FieldType := fun k => match k with
  | 0 => .object "FatVolume$Disk"
  | 1 => .array .boolean
  | 2 => .array .int
  | 3 => .array .int
  | _ => .array (.object "FatVolume$Folder")
def iv_F7 : u_T := fun k => match k with
  | 0 => ("FatVolume$Route", "disk", "LFatVolume$Disk;", true)
  | 1 => ("FatVolume$Route", "buffer", "LFatVolume$Buffer;", true)
  | 2 => ("FatVolume$Route", "folders", "[LFatVolume$Folder;", true)
  | _ => ("FatVolume$Route", "lastName", "I", false)
def iv_t7 : Nat → FieldType := fun k => match k with
  | 0 => .object "FatVolume$Disk"
  | 1 => .object "FatVolume$Buffer"
  | 2 => .array (.object "FatVolume$Folder")
  | _ => .int
def iv_F8 : u_T := fun k => match k with
  | _ => ("FatVolume$ShortName", "chars", "[I", true)
def iv_t8 : Nat → FieldType := fun k => match k with
  | _ => .array .int
def iv_F9 : u_T := fun k => match k with
  | 0 => ("FatVolumeModel", "thrown", "I", false)
  | 1 => ("FatVolumeModel", "size", "I", false)
  | 2 => ("FatVolumeModel", "buf", "[I", true)
  | 3 => ("FatVolumeModel", "table", "[I", true)
  | 4 => ("FatVolumeModel", "disk", "[I", true)
  | 5 => ("FatVolumeModel", "active", "I", false)
  | 6 => ("FatVolumeModel", "root", "I", false)
  | 7 => ("FatVolumeModel", "spoilt", "[Z", true)
  | 8 => ("FatVolumeModel", "failing", "I", false)
  | 9 => ("FatVolumeModel", "down", "Z", false)
  | 10 => ("FatVolumeModel", "names", "I", false)
  | 11 => ("FatVolumeModel", "from", "[I", true)
  | 12 => ("FatVolumeModel", "length", "[I", true)
  | 13 => ("FatVolumeModel", "deep", "I", false)
  | 14 => ("FatVolumeModel", "dir", "[I", true)
  | 15 => ("FatVolumeModel", "place", "[I", true)
  | 16 => ("FatVolumeModel", "fresh", "[I", true)
  | 17 => ("FatVolumeModel", "taken", "[Z", true)
  | 18 => ("FatVolumeModel", "copy", "[I", true)
  | 19 => ("FatVolumeModel", "bytes", "[I", true)
  | 20 => ("FatVolumeModel", "links", "I", false)
  | 21 => ("FatVolumeModel", "chain", "[I", true)
  | 22 => ("FatVolumeModel", "stage", "[I", true)
  | 23 => ("FatVolumeModel", "shortName", "[I", true)
  | 24 => ("FatVolumeModel", "before", "[I", true)
  | 25 => ("FatVolumeModel", "used", "[Z", true)
  | 26 => ("FatVolumeModel", "open", "[I", true)
  | 27 => ("FatVolumeModel", "next", "[I", true)
  | _ => ("FatVolumeModel", "begin", "[I", true)
def iv_t9 : Nat → FieldType := fun k => match k with
  | 0 => .int
  | 1 => .int
  | 2 => .array .int
  | 3 => .array .int
  | 4 => .array .int
  | 5 => .int
  | 6 => .int
  | 7 => .array .boolean
  | 8 => .int
  | 9 => .boolean
  | 10 => .int
  | 11 => .array .int
  | 12 => .array .int
  | 13 => .int
  | 14 => .array .int
  | 15 => .array .int
  | 16 => .array .int
  | 17 => .array .boolean
  | 18 => .array .int
  | 19 => .array .int
  | 20 => .int
  | 21 => .array .int
  | 22 => .array .int
  | 23 => .array .int
  | 24 => .array .int
  | 25 => .array .boolean
  | 26 => .array .int
  | 27 => .array .int
  | _ => .array .int
def iv_T (μ : Nat) : u_T := (if μ < 5 then (if μ < 2 then (if μ < 1 then iv_F0 else iv_F1) else (if μ < 3 then iv_F2 else (if μ < 4 then iv_F3 else iv_F4))) else (if μ < 7 then (if μ < 6 then iv_F5 else iv_F6) else (if μ < 8 then iv_F7 else (if μ < 9 then iv_F8 else iv_F9))))
def iv_ty (μ : Nat) : Nat → FieldType := (if μ < 5 then (if μ < 2 then (if μ < 1 then iv_t0 else iv_t1) else (if μ < 3 then iv_t2 else (if μ < 4 then iv_t3 else iv_t4))) else (if μ < 7 then (if μ < 6 then iv_t5 else iv_t6) else (if μ < 8 then iv_t7 else (if μ < 9 then iv_t8 else iv_t9))))
def iv_N (μ : Nat) : Nat := (if μ < 5 then (if μ < 2 then (if μ < 1 then 7 else 5) else (if μ < 3 then 5 else (if μ < 4 then 7 else 5))) else (if μ < 7 then (if μ < 6 then 3 else 5) else (if μ < 8 then 4 else (if μ < 9 then 1 else 29))))
def iv_f0 (μ : Nat) : List Value := (if μ < 5 then (if μ < 2 then (if μ < 1 then [.null, .null, .null, .null, .null, .null, .null] else [.null, .null, .null, .int 0, .int 0]) else (if μ < 3 then [.null, .null, .null, .null, .null] else (if μ < 4 then [.null, .null, .null, .int 0, .int 0, .int 0, .int 0] else [.null, .null, .null, .int 0, .int 0]))) else (if μ < 7 then (if μ < 6 then [.null, .int 0, .int 0] else [.null, .null, .null, .null, .null]) else (if μ < 8 then [.null, .null, .null, .int 0] else (if μ < 9 then [.null] else [.int 0, .int 0, .null, .null, .null, .int 0, .int 0, .null, .int 0, .int 0, .int 0, .null, .null, .int 0, .null, .null, .null, .null, .null, .null, .int 0, .null, .null, .null, .null, .null, .null, .null, .null]))))
def iv_cl : List vw_C := [(iv_cnm 0, iv_F0, 7), (iv_cnm 1, iv_F1, 5), (iv_cnm 2, iv_F2, 5), (iv_cnm 3, iv_F3, 7), (iv_cnm 4, iv_F4, 5), (iv_cnm 5, iv_F5, 3), (iv_cnm 6, iv_F6, 5), (iv_cnm 7, iv_F7, 4), (iv_cnm 8, iv_F8, 1), (iv_cnm 9, iv_F9, 29)]
def iv_fo : Nat := 5
def iv_foN : String := "FatVolume$Folder"
def iv_xnm (q : Nat) : String := match q with
  | 0 => "java/lang/IllegalStateException"
  | 1 => "java/lang/IllegalArgumentException"
  | _ => "java/lang/UnsupportedOperationException"
def iv_xN : Nat := 6
def iv_tys (tc : Nat → ClassId) : List (ClassId × FieldType) := [(tc 0, .int), (tc 1, .boolean), (tc 2, .long), (tc 3, .object iv_foN)]
def iv_y (μ : Nat) : MethodName := (if μ < 97 then (if μ < 48 then (if μ < 24 then (if μ < 12 then (if μ < 6 then (if μ < 3 then (if μ < 1 then ⟨iv_cnm 10, "law", "([I)Z"⟩ else (if μ < 2 then ⟨iv_cnm 0, "<init>", "()V"⟩ else ⟨iv_cnm 0, "type", "(J)Z"⟩)) else (if μ < 4 then ⟨iv_cnm 0, "wipe", "()V"⟩ else (if μ < 5 then ⟨iv_cnm 0, "make", "(ZI)I"⟩ else ⟨iv_cnm 0, "remove", "()I"⟩))) else (if μ < 9 then (if μ < 7 then ⟨iv_cnm 0, "write", "(IJII)I"⟩ else (if μ < 8 then ⟨iv_cnm 0, "cut", "(I)I"⟩ else ⟨iv_cnm 0, "read", "(I)I"⟩)) else (if μ < 10 then ⟨iv_cnm 0, "look", "()I"⟩ else (if μ < 11 then ⟨iv_cnm 0, "fail", "(I)Z"⟩ else ⟨iv_cnm 0, "spoil", "(I)Z"⟩)))) else (if μ < 18 then (if μ < 15 then (if μ < 13 then ⟨iv_cnm 0, "mount", "()Z"⟩ else (if μ < 14 then ⟨iv_cnm 0, "poke", "(III)Z"⟩ else ⟨iv_cnm 0, "peek", "(II)I"⟩)) else (if μ < 16 then ⟨iv_cnm 0, "repair", "()I"⟩ else (if μ < 17 then ⟨iv_cnm 0, "demandUp", "()V"⟩ else ⟨iv_cnm 0, "demandPath", "(Z)V"⟩))) else (if μ < 21 then (if μ < 19 then ⟨iv_cnm 0, "settled", "(II)I"⟩ else (if μ < 20 then ⟨iv_cnm 0, "addEntry", "(ZIII)I"⟩ else ⟨iv_cnm 0, "dropEntry", "()I"⟩)) else (if μ < 22 then ⟨iv_cnm 0, "storeFile", "(I)I"⟩ else (if μ < 23 then ⟨iv_cnm 0, "findsFullDirectory", "()Z"⟩ else ⟨iv_cnm 0, "aboutDisk", "(I)I"⟩))))) else (if μ < 36 then (if μ < 30 then (if μ < 27 then (if μ < 25 then ⟨iv_cnm 0, "isByte", "(I)Z"⟩ else (if μ < 26 then ⟨iv_cnm 0, "isCluster", "(I)Z"⟩ else ⟨iv_cnm 0, "isTablePlace", "(II)Z"⟩)) else (if μ < 28 then ⟨iv_cnm 0, "isClusterPlace", "(II)Z"⟩ else (if μ < 29 then ⟨iv_cnm 0, "isDigit", "(I)Z"⟩ else ⟨iv_cnm 0, "asCapital", "(I)I"⟩))) else (if μ < 33 then (if μ < 31 then ⟨iv_cnm 0, "isLetter", "(I)Z"⟩ else (if μ < 32 then ⟨iv_cnm 0, "sumOf", "(III)I"⟩ else ⟨iv_cnm 1, "<init>", "()V"⟩)) else (if μ < 34 then ⟨iv_cnm 1, "clear", "()V"⟩ else (if μ < 35 then ⟨iv_cnm 1, "append", "(J)Z"⟩ else ⟨iv_cnm 1, "split", "()Z"⟩)))) else (if μ < 42 then (if μ < 39 then (if μ < 37 then ⟨iv_cnm 1, "names", "()I"⟩ else (if μ < 38 then ⟨iv_cnm 1, "length", "(I)I"⟩ else ⟨iv_cnm 1, "charAt", "(II)I"⟩)) else (if μ < 40 then ⟨iv_cnm 1, "isAlike", "(III)Z"⟩ else (if μ < 41 then ⟨iv_cnm 1, "isOwnShort", "(I)Z"⟩ else ⟨iv_cnm 1, "longParts", "(I)I"⟩))) else (if μ < 45 then (if μ < 43 then ⟨iv_cnm 1, "leading", "(I)I"⟩ else (if μ < 44 then ⟨iv_cnm 1, "copyPart", "(IILFatVolume$Folder;I)V"⟩ else ⟨iv_cnm 2, "<init>", "(LFatVolume$Disk;LFatVolume$Route;)V"⟩)) else (if μ < 46 then ⟨iv_cnm 2, "begin", "()V"⟩ else (if μ < 47 then ⟨iv_cnm 2, "release", "(I)V"⟩ else ⟨iv_cnm 2, "releaseChain", "(LFatVolume$FileBytes;)V"⟩)))))) else (if μ < 72 then (if μ < 60 then (if μ < 54 then (if μ < 51 then (if μ < 49 then ⟨iv_cnm 2, "takeEmpty", "()I"⟩ else (if μ < 50 then ⟨iv_cnm 2, "takeChain", "(LFatVolume$FileBytes;I)I"⟩ else ⟨iv_cnm 2, "take", "([II)I"⟩)) else (if μ < 52 then ⟨iv_cnm 2, "commit", "()I"⟩ else (if μ < 53 then ⟨iv_cnm 2, "bringIntoForce", "(I)I"⟩ else ⟨iv_cnm 3, "<init>", "()V"⟩))) else (if μ < 57 then (if μ < 55 then ⟨iv_cnm 3, "active", "()I"⟩ else (if μ < 56 then ⟨iv_cnm 3, "root", "()I"⟩ else ⟨iv_cnm 3, "isDown", "()Z"⟩)) else (if μ < 58 then ⟨iv_cnm 3, "comeUp", "()V"⟩ else (if μ < 59 then ⟨iv_cnm 3, "tellFailure", "(I)V"⟩ else ⟨iv_cnm 3, "failsNow", "()Z"⟩)))) else (if μ < 66 then (if μ < 63 then (if μ < 61 then ⟨iv_cnm 3, "isSpoilt", "(I)Z"⟩ else (if μ < 62 then ⟨iv_cnm 3, "setSpoilt", "(I)V"⟩ else ⟨iv_cnm 3, "tableByte", "(II)I"⟩)) else (if μ < 64 then ⟨iv_cnm 3, "setTableByte", "(III)V"⟩ else (if μ < 65 then ⟨iv_cnm 3, "clusterByte", "(II)I"⟩ else ⟨iv_cnm 3, "setClusterByte", "(III)V"⟩))) else (if μ < 69 then (if μ < 67 then ⟨iv_cnm 3, "state", "(I)I"⟩ else (if μ < 68 then ⟨iv_cnm 3, "setState", "(II)V"⟩ else ⟨iv_cnm 3, "count", "(I)I"⟩)) else (if μ < 70 then ⟨iv_cnm 3, "hasEntries", "(I)Z"⟩ else (if μ < 71 then ⟨iv_cnm 3, "loadCluster", "(I[II)V"⟩ else ⟨iv_cnm 3, "storeCluster", "(I[II)V"⟩))))) else (if μ < 84 then (if μ < 78 then (if μ < 75 then (if μ < 73 then ⟨iv_cnm 3, "loadActiveTable", "([I)V"⟩ else (if μ < 74 then ⟨iv_cnm 3, "storeOtherTable", "([I)V"⟩ else ⟨iv_cnm 3, "storeBoot", "(I)V"⟩)) else (if μ < 76 then ⟨iv_cnm 3, "copyAll", "([I)V"⟩ else (if μ < 77 then ⟨iv_cnm 3, "countOthers", "([I)I"⟩ else ⟨iv_cnm 4, "<init>", "(LFatVolume$Disk;)V"⟩))) else (if μ < 81 then (if μ < 79 then ⟨iv_cnm 4, "load", "(II)V"⟩ else (if μ < 80 then ⟨iv_cnm 4, "bytes", "()[I"⟩ else ⟨iv_cnm 4, "links", "()I"⟩)) else (if μ < 82 then ⟨iv_cnm 4, "link", "(I)I"⟩ else (if μ < 83 then ⟨iv_cnm 4, "has", "(I)Z"⟩ else ⟨iv_cnm 4, "get", "(I)I"⟩)))) else (if μ < 90 then (if μ < 87 then (if μ < 85 then ⟨iv_cnm 4, "put", "(IJI)V"⟩ else (if μ < 86 then ⟨iv_cnm 4, "clearFrom", "(I)V"⟩ else ⟨iv_cnm 5, "<init>", "()V"⟩)) else (if μ < 88 then ⟨iv_cnm 5, "load", "(LFatVolume$Disk;I)V"⟩ else (if μ < 89 then ⟨iv_cnm 5, "bytes", "()[I"⟩ else ⟨iv_cnm 5, "home", "()I"⟩))) else (if μ < 93 then (if μ < 91 then ⟨iv_cnm 5, "slot", "()I"⟩ else (if μ < 92 then ⟨iv_cnm 5, "choose", "(I)V"⟩ else ⟨iv_cnm 5, "get", "(II)I"⟩)) else (if μ < 95 then (if μ < 94 then ⟨iv_cnm 5, "set", "(III)V"⟩ else ⟨iv_cnm 5, "clearSlots", "(II)V"⟩) else (if μ < 96 then ⟨iv_cnm 5, "putEntry", "(IIII)V"⟩ else ⟨iv_cnm 5, "putLong", "(III)V"⟩))))))) else (if μ < 145 then (if μ < 121 then (if μ < 109 then (if μ < 103 then (if μ < 100 then (if μ < 98 then ⟨iv_cnm 5, "isNamed", "(I)Z"⟩ else (if μ < 99 then ⟨iv_cnm 5, "room", "(I)I"⟩ else ⟨iv_cnm 5, "find", "(LFatVolume$Buffer;I)I"⟩)) else (if μ < 101 then ⟨iv_cnm 5, "hasShort", "([I)Z"⟩ else (if μ < 102 then ⟨iv_cnm 5, "longParts", "(I)I"⟩ else ⟨iv_cnm 5, "isPart", "(III)Z"⟩))) else (if μ < 106 then (if μ < 104 then ⟨iv_cnm 5, "shortLength", "(I)I"⟩ else (if μ < 105 then ⟨iv_cnm 5, "sum", "(I)I"⟩ else ⟨iv_cnm 5, "isShort", "(ILFatVolume$Buffer;I)Z"⟩)) else (if μ < 107 then ⟨iv_cnm 5, "isLong", "(ILFatVolume$Buffer;I)Z"⟩ else (if μ < 108 then ⟨iv_cnm 6, "<init>", "(LFatVolume$Disk;)V"⟩ else ⟨iv_cnm 6, "run", "()I"⟩)))) else (if μ < 115 then (if μ < 112 then (if μ < 110 then ⟨iv_cnm 6, "use", "(I)V"⟩ else (if μ < 111 then ⟨iv_cnm 6, "freeUnused", "()V"⟩ else ⟨iv_cnm 6, "goThrough", "(II)V"⟩)) else (if μ < 113 then ⟨iv_cnm 6, "isRight", "(LFatVolume$Folder;II)Z"⟩ else (if μ < 114 then ⟨iv_cnm 6, "isUsable", "(I)Z"⟩ else ⟨iv_cnm 6, "mend", "(LFatVolume$Folder;IZI)V"⟩))) else (if μ < 118 then (if μ < 116 then ⟨iv_cnm 6, "mendFile", "(LFatVolume$Folder;I)V"⟩ else (if μ < 117 then ⟨iv_cnm 6, "follow", "(I)I"⟩ else ⟨iv_cnm 7, "<init>", "(LFatVolume$Disk;LFatVolume$Buffer;)V"⟩)) else (if μ < 119 then ⟨iv_cnm 7, "reach", "()Z"⟩ else (if μ < 120 then ⟨iv_cnm 7, "clusterBelow", "(LFatVolume$Folder;)I"⟩ else ⟨iv_cnm 7, "lastName", "()I"⟩))))) else (if μ < 133 then (if μ < 127 then (if μ < 124 then (if μ < 122 then ⟨iv_cnm 7, "folder", "(I)LFatVolume$Folder;"⟩ else (if μ < 123 then ⟨iv_cnm 7, "last", "()LFatVolume$Folder;"⟩ else ⟨iv_cnm 7, "finds", "()Z"⟩)) else (if μ < 125 then ⟨iv_cnm 7, "findsKind", "(I)Z"⟩ else (if μ < 126 then ⟨iv_cnm 7, "found", "(I)I"⟩ else ⟨iv_cnm 7, "setFound", "(II)V"⟩))) else (if μ < 130 then (if μ < 128 then ⟨iv_cnm 8, "<init>", "()V"⟩ else (if μ < 129 then ⟨iv_cnm 8, "choose", "(LFatVolume$Buffer;ILFatVolume$Folder;)Z"⟩ else ⟨iv_cnm 8, "asNumber", "()I"⟩)) else (if μ < 131 then ⟨iv_cnm 8, "sum", "()I"⟩ else (if μ < 132 then ⟨iv_cnm 8, "copyTo", "(LFatVolume$Folder;I)V"⟩ else ⟨iv_cnm 9, "<init>", "()V"⟩)))) else (if μ < 139 then (if μ < 136 then (if μ < 134 then ⟨iv_cnm 9, "thrown", "()I"⟩ else (if μ < 135 then ⟨iv_cnm 9, "raise", "(I)I"⟩ else ⟨iv_cnm 9, "type", "(J)Z"⟩)) else (if μ < 137 then ⟨iv_cnm 9, "wipe", "()V"⟩ else (if μ < 138 then ⟨iv_cnm 9, "isPath", "()Z"⟩ else ⟨iv_cnm 9, "isCluster", "(I)Z"⟩))) else (if μ < 142 then (if μ < 140 then ⟨iv_cnm 9, "at", "(III)I"⟩ else (if μ < 141 then ⟨iv_cnm 9, "small", "(I)I"⟩ else ⟨iv_cnm 9, "large", "(I)I"⟩)) else (if μ < 143 then ⟨iv_cnm 9, "isEntry", "(II)Z"⟩ else (if μ < 144 then ⟨iv_cnm 9, "isLong", "(IIII)Z"⟩ else ⟨iv_cnm 9, "longs", "(II)I"⟩)))))) else (if μ < 169 then (if μ < 157 then (if μ < 151 then (if μ < 148 then (if μ < 146 then ⟨iv_cnm 9, "along", "(IIIIII)I"⟩ else (if μ < 147 then ⟨iv_cnm 9, "named", "(III)Z"⟩ else ⟨iv_cnm 9, "find", "(II)I"⟩)) else (if μ < 149 then ⟨iv_cnm 9, "walk", "()Z"⟩ else (if μ < 150 then ⟨iv_cnm 9, "target", "()I"⟩ else ⟨iv_cnm 9, "fileTarget", "()I"⟩))) else (if μ < 154 then (if μ < 152 then ⟨iv_cnm 9, "readFile", "(II)I"⟩ else (if μ < 153 then ⟨iv_cnm 9, "startChange", "()V"⟩ else ⟨iv_cnm 9, "writes", "()Z"⟩)) else (if μ < 155 then ⟨iv_cnm 9, "leastFree", "()I"⟩ else (if μ < 156 then ⟨iv_cnm 9, "put", "()I"⟩ else ⟨iv_cnm 9, "free", "(I)V"⟩)))) else (if μ < 163 then (if μ < 160 then (if μ < 158 then ⟨iv_cnm 9, "freeChain", "()V"⟩ else (if μ < 159 then ⟨iv_cnm 9, "finish", "()I"⟩ else ⟨iv_cnm 9, "answer", "(II)I"⟩)) else (if μ < 161 then ⟨iv_cnm 9, "barred", "(Z)I"⟩ else (if μ < 162 then ⟨iv_cnm 9, "isShort", "(I)Z"⟩ else ⟨iv_cnm 9, "isUsed", "(I)Z"⟩))) else (if μ < 166 then (if μ < 164 then ⟨iv_cnm 9, "shorten", "(II)Z"⟩ else (if μ < 165 then ⟨iv_cnm 9, "gap", "(II)I"⟩ else ⟨iv_cnm 9, "putLong", "(IIII)V"⟩)) else (if μ < 167 then ⟨iv_cnm 9, "clearStage", "()V"⟩ else (if μ < 168 then ⟨iv_cnm 9, "make", "(ZI)I"⟩ else ⟨iv_cnm 9, "isEmpty", "(I)Z"⟩))))) else (if μ < 181 then (if μ < 175 then (if μ < 172 then (if μ < 170 then ⟨iv_cnm 9, "remove", "()I"⟩ else (if μ < 171 then ⟨iv_cnm 9, "store", "(III)I"⟩ else ⟨iv_cnm 9, "write", "(IJII)I"⟩)) else (if μ < 173 then ⟨iv_cnm 9, "cut", "(I)I"⟩ else (if μ < 174 then ⟨iv_cnm 9, "read", "(I)I"⟩ else ⟨iv_cnm 9, "look", "()I"⟩))) else (if μ < 178 then (if μ < 176 then ⟨iv_cnm 9, "fail", "(I)Z"⟩ else (if μ < 177 then ⟨iv_cnm 9, "spoil", "(I)Z"⟩ else ⟨iv_cnm 9, "mount", "()Z"⟩)) else (if μ < 179 then ⟨iv_cnm 9, "isByte", "(II)Z"⟩ else (if μ < 180 then ⟨iv_cnm 9, "poke", "(III)Z"⟩ else ⟨iv_cnm 9, "counted", "(I)I"⟩)))) else (if μ < 187 then (if μ < 184 then (if μ < 182 then ⟨iv_cnm 9, "peek", "(II)I"⟩ else (if μ < 183 then ⟨iv_cnm 9, "wipeEntry", "(II)V"⟩ else ⟨iv_cnm 9, "canBeUsed", "(I)Z"⟩)) else (if μ < 185 then ⟨iv_cnm 9, "mendFile", "(II)V"⟩ else (if μ < 186 then ⟨iv_cnm 9, "mend", "(II)Z"⟩ else ⟨iv_cnm 9, "repair", "()I"⟩))) else (if μ < 190 then (if μ < 188 then ⟨iv_cnm 10, "make", "(LFatVolume;ZI[J)I"⟩ else (if μ < 189 then ⟨iv_cnm 10, "remove", "(LFatVolume;[J)I"⟩ else ⟨iv_cnm 10, "write", "(LFatVolume;IJII[J)I"⟩)) else (if μ < 192 then (if μ < 191 then ⟨iv_cnm 10, "cut", "(LFatVolume;I[J)I"⟩ else ⟨iv_cnm 10, "read", "(LFatVolume;I[J)I"⟩) else (if μ < 193 then ⟨iv_cnm 10, "look", "(LFatVolume;[J)I"⟩ else ⟨iv_cnm 10, "repair", "(LFatVolume;[J)I"⟩))))))))
def iv_c (μ : Nat) : ByteArray := (if μ < 97 then (if μ < 48 then (if μ < 24 then (if μ < 12 then (if μ < 6 then (if μ < 3 then (if μ < 1 then code else (if μ < 2 then prog_1_method_1_code else prog_1_method_2_code)) else (if μ < 4 then prog_1_method_3_code else (if μ < 5 then prog_1_method_4_code else prog_1_method_5_code))) else (if μ < 9 then (if μ < 7 then prog_1_method_6_code else (if μ < 8 then prog_1_method_7_code else prog_1_method_8_code)) else (if μ < 10 then prog_1_method_9_code else (if μ < 11 then prog_1_method_10_code else prog_1_method_11_code)))) else (if μ < 18 then (if μ < 15 then (if μ < 13 then prog_1_method_12_code else (if μ < 14 then prog_1_method_13_code else prog_1_method_14_code)) else (if μ < 16 then prog_1_method_15_code else (if μ < 17 then prog_1_method_16_code else prog_1_method_17_code))) else (if μ < 21 then (if μ < 19 then prog_1_method_18_code else (if μ < 20 then prog_1_method_19_code else prog_1_method_20_code)) else (if μ < 22 then prog_1_method_21_code else (if μ < 23 then prog_1_method_22_code else prog_1_method_23_code))))) else (if μ < 36 then (if μ < 30 then (if μ < 27 then (if μ < 25 then prog_1_method_24_code else (if μ < 26 then prog_1_method_25_code else prog_1_method_26_code)) else (if μ < 28 then prog_1_method_27_code else (if μ < 29 then prog_1_method_28_code else prog_1_method_29_code))) else (if μ < 33 then (if μ < 31 then prog_1_method_30_code else (if μ < 32 then prog_1_method_31_code else prog_2_method_1_code)) else (if μ < 34 then prog_2_method_2_code else (if μ < 35 then prog_2_method_3_code else prog_2_method_4_code)))) else (if μ < 42 then (if μ < 39 then (if μ < 37 then prog_2_method_5_code else (if μ < 38 then prog_2_method_6_code else prog_2_method_7_code)) else (if μ < 40 then prog_2_method_8_code else (if μ < 41 then prog_2_method_9_code else prog_2_method_10_code))) else (if μ < 45 then (if μ < 43 then prog_2_method_11_code else (if μ < 44 then prog_2_method_12_code else prog_3_method_1_code)) else (if μ < 46 then prog_3_method_2_code else (if μ < 47 then prog_3_method_3_code else prog_3_method_4_code)))))) else (if μ < 72 then (if μ < 60 then (if μ < 54 then (if μ < 51 then (if μ < 49 then prog_3_method_5_code else (if μ < 50 then prog_3_method_6_code else prog_3_method_7_code)) else (if μ < 52 then prog_3_method_8_code else (if μ < 53 then prog_3_method_9_code else prog_4_method_1_code))) else (if μ < 57 then (if μ < 55 then prog_4_method_2_code else (if μ < 56 then prog_4_method_3_code else prog_4_method_4_code)) else (if μ < 58 then prog_4_method_5_code else (if μ < 59 then prog_4_method_6_code else prog_4_method_7_code)))) else (if μ < 66 then (if μ < 63 then (if μ < 61 then prog_4_method_8_code else (if μ < 62 then prog_4_method_9_code else prog_4_method_10_code)) else (if μ < 64 then prog_4_method_11_code else (if μ < 65 then prog_4_method_12_code else prog_4_method_13_code))) else (if μ < 69 then (if μ < 67 then prog_4_method_14_code else (if μ < 68 then prog_4_method_15_code else prog_4_method_16_code)) else (if μ < 70 then prog_4_method_17_code else (if μ < 71 then prog_4_method_18_code else prog_4_method_19_code))))) else (if μ < 84 then (if μ < 78 then (if μ < 75 then (if μ < 73 then prog_4_method_20_code else (if μ < 74 then prog_4_method_21_code else prog_4_method_22_code)) else (if μ < 76 then prog_4_method_23_code else (if μ < 77 then prog_4_method_24_code else prog_5_method_1_code))) else (if μ < 81 then (if μ < 79 then prog_5_method_2_code else (if μ < 80 then prog_5_method_3_code else prog_5_method_4_code)) else (if μ < 82 then prog_5_method_5_code else (if μ < 83 then prog_5_method_6_code else prog_5_method_7_code)))) else (if μ < 90 then (if μ < 87 then (if μ < 85 then prog_5_method_8_code else (if μ < 86 then prog_5_method_9_code else prog_6_method_1_code)) else (if μ < 88 then prog_6_method_2_code else (if μ < 89 then prog_6_method_3_code else prog_6_method_4_code))) else (if μ < 93 then (if μ < 91 then prog_6_method_5_code else (if μ < 92 then prog_6_method_6_code else prog_6_method_7_code)) else (if μ < 95 then (if μ < 94 then prog_6_method_8_code else prog_6_method_9_code) else (if μ < 96 then prog_6_method_10_code else prog_6_method_11_code))))))) else (if μ < 145 then (if μ < 121 then (if μ < 109 then (if μ < 103 then (if μ < 100 then (if μ < 98 then prog_6_method_12_code else (if μ < 99 then prog_6_method_13_code else prog_6_method_14_code)) else (if μ < 101 then prog_6_method_15_code else (if μ < 102 then prog_6_method_16_code else prog_6_method_17_code))) else (if μ < 106 then (if μ < 104 then prog_6_method_18_code else (if μ < 105 then prog_6_method_19_code else prog_6_method_20_code)) else (if μ < 107 then prog_6_method_21_code else (if μ < 108 then prog_7_method_1_code else prog_7_method_2_code)))) else (if μ < 115 then (if μ < 112 then (if μ < 110 then prog_7_method_3_code else (if μ < 111 then prog_7_method_4_code else prog_7_method_5_code)) else (if μ < 113 then prog_7_method_6_code else (if μ < 114 then prog_7_method_7_code else prog_7_method_8_code))) else (if μ < 118 then (if μ < 116 then prog_7_method_9_code else (if μ < 117 then prog_7_method_10_code else prog_8_method_1_code)) else (if μ < 119 then prog_8_method_2_code else (if μ < 120 then prog_8_method_3_code else prog_8_method_4_code))))) else (if μ < 133 then (if μ < 127 then (if μ < 124 then (if μ < 122 then prog_8_method_5_code else (if μ < 123 then prog_8_method_6_code else prog_8_method_7_code)) else (if μ < 125 then prog_8_method_8_code else (if μ < 126 then prog_8_method_9_code else prog_8_method_10_code))) else (if μ < 130 then (if μ < 128 then prog_9_method_1_code else (if μ < 129 then prog_9_method_2_code else prog_9_method_3_code)) else (if μ < 131 then prog_9_method_4_code else (if μ < 132 then prog_9_method_5_code else prog_11_method_1_code)))) else (if μ < 139 then (if μ < 136 then (if μ < 134 then prog_11_method_2_code else (if μ < 135 then prog_11_method_3_code else prog_11_method_4_code)) else (if μ < 137 then prog_11_method_5_code else (if μ < 138 then prog_11_method_6_code else prog_11_method_7_code))) else (if μ < 142 then (if μ < 140 then prog_11_method_8_code else (if μ < 141 then prog_11_method_9_code else prog_11_method_10_code)) else (if μ < 143 then prog_11_method_11_code else (if μ < 144 then prog_11_method_12_code else prog_11_method_13_code)))))) else (if μ < 169 then (if μ < 157 then (if μ < 151 then (if μ < 148 then (if μ < 146 then prog_11_method_14_code else (if μ < 147 then prog_11_method_15_code else prog_11_method_16_code)) else (if μ < 149 then prog_11_method_17_code else (if μ < 150 then prog_11_method_18_code else prog_11_method_19_code))) else (if μ < 154 then (if μ < 152 then prog_11_method_20_code else (if μ < 153 then prog_11_method_21_code else prog_11_method_22_code)) else (if μ < 155 then prog_11_method_23_code else (if μ < 156 then prog_11_method_24_code else prog_11_method_25_code)))) else (if μ < 163 then (if μ < 160 then (if μ < 158 then prog_11_method_26_code else (if μ < 159 then prog_11_method_27_code else prog_11_method_28_code)) else (if μ < 161 then prog_11_method_29_code else (if μ < 162 then prog_11_method_30_code else prog_11_method_31_code))) else (if μ < 166 then (if μ < 164 then prog_11_method_32_code else (if μ < 165 then prog_11_method_33_code else prog_11_method_34_code)) else (if μ < 167 then prog_11_method_35_code else (if μ < 168 then prog_11_method_36_code else prog_11_method_37_code))))) else (if μ < 181 then (if μ < 175 then (if μ < 172 then (if μ < 170 then prog_11_method_38_code else (if μ < 171 then prog_11_method_39_code else prog_11_method_40_code)) else (if μ < 173 then prog_11_method_41_code else (if μ < 174 then prog_11_method_42_code else prog_11_method_43_code))) else (if μ < 178 then (if μ < 176 then prog_11_method_44_code else (if μ < 177 then prog_11_method_45_code else prog_11_method_46_code)) else (if μ < 179 then prog_11_method_47_code else (if μ < 180 then prog_11_method_48_code else prog_11_method_49_code)))) else (if μ < 187 then (if μ < 184 then (if μ < 182 then prog_11_method_50_code else (if μ < 183 then prog_11_method_51_code else prog_11_method_52_code)) else (if μ < 185 then prog_11_method_53_code else (if μ < 186 then prog_11_method_54_code else prog_11_method_55_code))) else (if μ < 190 then (if μ < 188 then method_3_code else (if μ < 189 then method_4_code else method_5_code)) else (if μ < 192 then (if μ < 191 then method_6_code else method_7_code) else (if μ < 193 then method_8_code else method_9_code))))))))
def iv_L (μ : Nat) : Nat := (if μ < 97 then (if μ < 48 then (if μ < 24 then (if μ < 12 then (if μ < 6 then (if μ < 3 then (if μ < 1 then 7 else (if μ < 2 then 1 else 3)) else (if μ < 4 then 1 else (if μ < 5 then 5 else 1))) else (if μ < 9 then (if μ < 7 then 8 else (if μ < 8 then 3 else 2)) else (if μ < 10 then 2 else (if μ < 11 then 2 else 2)))) else (if μ < 18 then (if μ < 15 then (if μ < 13 then 1 else (if μ < 14 then 4 else 3)) else (if μ < 16 then 1 else (if μ < 17 then 1 else 2))) else (if μ < 21 then (if μ < 19 then 3 else (if μ < 20 then 10 else 3)) else (if μ < 22 then 3 else (if μ < 23 then 1 else 2))))) else (if μ < 36 then (if μ < 30 then (if μ < 27 then (if μ < 25 then 1 else (if μ < 26 then 1 else 2)) else (if μ < 28 then 2 else (if μ < 29 then 1 else 1))) else (if μ < 33 then (if μ < 31 then 2 else (if μ < 32 then 3 else 1)) else (if μ < 34 then 1 else (if μ < 35 then 6 else 4)))) else (if μ < 42 then (if μ < 39 then (if μ < 37 then 1 else (if μ < 38 then 2 else 3)) else (if μ < 40 then 4 else (if μ < 41 then 4 else 2))) else (if μ < 45 then (if μ < 43 then 4 else (if μ < 44 then 7 else 3)) else (if μ < 46 then 2 else (if μ < 47 then 2 else 3)))))) else (if μ < 72 then (if μ < 60 then (if μ < 54 then (if μ < 51 then (if μ < 49 then 1 else (if μ < 50 then 7 else 4)) else (if μ < 52 then 4 else (if μ < 53 then 2 else 1))) else (if μ < 57 then (if μ < 55 then 1 else (if μ < 56 then 1 else 1)) else (if μ < 58 then 1 else (if μ < 59 then 2 else 1)))) else (if μ < 66 then (if μ < 63 then (if μ < 61 then 2 else (if μ < 62 then 2 else 3)) else (if μ < 64 then 4 else (if μ < 65 then 3 else 4))) else (if μ < 69 then (if μ < 67 then 2 else (if μ < 68 then 3 else 4)) else (if μ < 70 then 3 else (if μ < 71 then 4 else 4))))) else (if μ < 84 then (if μ < 78 then (if μ < 75 then (if μ < 73 then 2 else (if μ < 74 then 2 else 2)) else (if μ < 76 then 2 else (if μ < 77 then 4 else 2))) else (if μ < 81 then (if μ < 79 then 4 else (if μ < 80 then 1 else 1)) else (if μ < 82 then 2 else (if μ < 83 then 2 else 2)))) else (if μ < 90 then (if μ < 87 then (if μ < 85 then 6 else (if μ < 86 then 3 else 1)) else (if μ < 88 then 3 else (if μ < 89 then 1 else 1))) else (if μ < 93 then (if μ < 91 then 1 else (if μ < 92 then 2 else 3)) else (if μ < 95 then (if μ < 94 then 4 else 4) else (if μ < 96 then 5 else 4))))))) else (if μ < 145 then (if μ < 121 then (if μ < 109 then (if μ < 103 then (if μ < 100 then (if μ < 98 then 2 else (if μ < 99 then 4 else 4)) else (if μ < 101 then 5 else (if μ < 102 then 3 else 4))) else (if μ < 106 then (if μ < 104 then 3 else (if μ < 105 then 5 else 6)) else (if μ < 107 then 8 else (if μ < 108 then 3 else 2)))) else (if μ < 115 then (if μ < 112 then (if μ < 110 then 2 else (if μ < 111 then 2 else 7)) else (if μ < 113 then 4 else (if μ < 114 then 2 else 6))) else (if μ < 118 then (if μ < 116 then 7 else (if μ < 117 then 4 else 4)) else (if μ < 119 then 4 else (if μ < 120 then 2 else 1))))) else (if μ < 133 then (if μ < 127 then (if μ < 124 then (if μ < 122 then 2 else (if μ < 123 then 1 else 1)) else (if μ < 125 then 2 else (if μ < 126 then 2 else 3))) else (if μ < 130 then (if μ < 128 then 1 else (if μ < 129 then 5 else 1)) else (if μ < 131 then 1 else (if μ < 132 then 4 else 1)))) else (if μ < 139 then (if μ < 136 then (if μ < 134 then 1 else (if μ < 135 then 2 else 7)) else (if μ < 137 then 1 else (if μ < 138 then 4 else 1))) else (if μ < 142 then (if μ < 140 then 4 else (if μ < 141 then 1 else 1)) else (if μ < 143 then 3 else (if μ < 144 then 5 else 4)))))) else (if μ < 169 then (if μ < 157 then (if μ < 151 then (if μ < 148 then (if μ < 146 then 10 else (if μ < 147 then 6 else 4)) else (if μ < 149 then 3 else (if μ < 150 then 1 else 2))) else (if μ < 154 then (if μ < 152 then 6 else (if μ < 153 then 3 else 1)) else (if μ < 155 then 2 else (if μ < 156 then 3 else 2)))) else (if μ < 163 then (if μ < 160 then (if μ < 158 then 2 else (if μ < 159 then 3 else 3)) else (if μ < 161 then 2 else (if μ < 162 then 5 else 8))) else (if μ < 166 then (if μ < 164 then 6 else (if μ < 165 then 5 else 7)) else (if μ < 167 then 2 else (if μ < 168 then 10 else 4))))) else (if μ < 181 then (if μ < 175 then (if μ < 172 then (if μ < 170 then 8 else (if μ < 171 then 8 else 12)) else (if μ < 173 then 6 else (if μ < 174 then 5 else 4))) else (if μ < 178 then (if μ < 176 then 2 else (if μ < 177 then 2 else 1)) else (if μ < 179 then 2 else (if μ < 180 then 4 else 4)))) else (if μ < 187 then (if μ < 184 then (if μ < 182 then 3 else (if μ < 183 then 4 else 2)) else (if μ < 185 then 8 else (if μ < 186 then 8 else 4))) else (if μ < 190 then (if μ < 188 then 5 else (if μ < 189 then 3 else 8)) else (if μ < 192 then (if μ < 191 then 4 else 4) else (if μ < 193 then 3 else 3))))))))
def iv_r (μ : Nat) : Option FieldType := (if μ < 97 then (if μ < 48 then (if μ < 24 then (if μ < 12 then (if μ < 6 then (if μ < 3 then (if μ < 1 then (some .boolean) else (if μ < 2 then none else (some .boolean))) else (if μ < 4 then none else (if μ < 5 then (some .int) else (some .int)))) else (if μ < 9 then (if μ < 7 then (some .int) else (if μ < 8 then (some .int) else (some .int))) else (if μ < 10 then (some .int) else (if μ < 11 then (some .boolean) else (some .boolean))))) else (if μ < 18 then (if μ < 15 then (if μ < 13 then (some .boolean) else (if μ < 14 then (some .boolean) else (some .int))) else (if μ < 16 then (some .int) else (if μ < 17 then none else none))) else (if μ < 21 then (if μ < 19 then (some .int) else (if μ < 20 then (some .int) else (some .int))) else (if μ < 22 then (some .int) else (if μ < 23 then (some .boolean) else (some .int)))))) else (if μ < 36 then (if μ < 30 then (if μ < 27 then (if μ < 25 then (some .boolean) else (if μ < 26 then (some .boolean) else (some .boolean))) else (if μ < 28 then (some .boolean) else (if μ < 29 then (some .boolean) else (some .int)))) else (if μ < 33 then (if μ < 31 then (some .boolean) else (if μ < 32 then (some .int) else none)) else (if μ < 34 then none else (if μ < 35 then (some .boolean) else (some .boolean))))) else (if μ < 42 then (if μ < 39 then (if μ < 37 then (some .int) else (if μ < 38 then (some .int) else (some .int))) else (if μ < 40 then (some .boolean) else (if μ < 41 then (some .boolean) else (some .int)))) else (if μ < 45 then (if μ < 43 then (some .int) else (if μ < 44 then none else none)) else (if μ < 46 then none else (if μ < 47 then none else none)))))) else (if μ < 72 then (if μ < 60 then (if μ < 54 then (if μ < 51 then (if μ < 49 then (some .int) else (if μ < 50 then (some .int) else (some .int))) else (if μ < 52 then (some .int) else (if μ < 53 then (some .int) else none))) else (if μ < 57 then (if μ < 55 then (some .int) else (if μ < 56 then (some .int) else (some .boolean))) else (if μ < 58 then none else (if μ < 59 then none else (some .boolean))))) else (if μ < 66 then (if μ < 63 then (if μ < 61 then (some .boolean) else (if μ < 62 then none else (some .int))) else (if μ < 64 then none else (if μ < 65 then (some .int) else none))) else (if μ < 69 then (if μ < 67 then (some .int) else (if μ < 68 then none else (some .int))) else (if μ < 70 then (some .boolean) else (if μ < 71 then none else none))))) else (if μ < 84 then (if μ < 78 then (if μ < 75 then (if μ < 73 then none else (if μ < 74 then none else none)) else (if μ < 76 then none else (if μ < 77 then (some .int) else none))) else (if μ < 81 then (if μ < 79 then none else (if μ < 80 then (some (.array .int)) else (some .int))) else (if μ < 82 then (some .int) else (if μ < 83 then (some .boolean) else (some .int))))) else (if μ < 90 then (if μ < 87 then (if μ < 85 then none else (if μ < 86 then none else none)) else (if μ < 88 then none else (if μ < 89 then (some (.array .int)) else (some .int)))) else (if μ < 93 then (if μ < 91 then (some .int) else (if μ < 92 then none else (some .int))) else (if μ < 95 then (if μ < 94 then none else none) else (if μ < 96 then none else none))))))) else (if μ < 145 then (if μ < 121 then (if μ < 109 then (if μ < 103 then (if μ < 100 then (if μ < 98 then (some .boolean) else (if μ < 99 then (some .int) else (some .int))) else (if μ < 101 then (some .boolean) else (if μ < 102 then (some .int) else (some .boolean)))) else (if μ < 106 then (if μ < 104 then (some .int) else (if μ < 105 then (some .int) else (some .boolean))) else (if μ < 107 then (some .boolean) else (if μ < 108 then none else (some .int))))) else (if μ < 115 then (if μ < 112 then (if μ < 110 then none else (if μ < 111 then none else none)) else (if μ < 113 then (some .boolean) else (if μ < 114 then (some .boolean) else none))) else (if μ < 118 then (if μ < 116 then none else (if μ < 117 then (some .int) else none)) else (if μ < 119 then (some .boolean) else (if μ < 120 then (some .int) else (some .int)))))) else (if μ < 133 then (if μ < 127 then (if μ < 124 then (if μ < 122 then (some (.object "FatVolume$Folder")) else (if μ < 123 then (some (.object "FatVolume$Folder")) else (some .boolean))) else (if μ < 125 then (some .boolean) else (if μ < 126 then (some .int) else none))) else (if μ < 130 then (if μ < 128 then none else (if μ < 129 then (some .boolean) else (some .int))) else (if μ < 131 then (some .int) else (if μ < 132 then none else none)))) else (if μ < 139 then (if μ < 136 then (if μ < 134 then (some .int) else (if μ < 135 then (some .int) else (some .boolean))) else (if μ < 137 then none else (if μ < 138 then (some .boolean) else (some .boolean)))) else (if μ < 142 then (if μ < 140 then (some .int) else (if μ < 141 then (some .int) else (some .int))) else (if μ < 143 then (some .boolean) else (if μ < 144 then (some .boolean) else (some .int))))))) else (if μ < 169 then (if μ < 157 then (if μ < 151 then (if μ < 148 then (if μ < 146 then (some .int) else (if μ < 147 then (some .boolean) else (some .int))) else (if μ < 149 then (some .boolean) else (if μ < 150 then (some .int) else (some .int)))) else (if μ < 154 then (if μ < 152 then (some .int) else (if μ < 153 then none else (some .boolean))) else (if μ < 155 then (some .int) else (if μ < 156 then (some .int) else none)))) else (if μ < 163 then (if μ < 160 then (if μ < 158 then none else (if μ < 159 then (some .int) else (some .int))) else (if μ < 161 then (some .int) else (if μ < 162 then (some .boolean) else (some .boolean)))) else (if μ < 166 then (if μ < 164 then (some .boolean) else (if μ < 165 then (some .int) else none)) else (if μ < 167 then none else (if μ < 168 then (some .int) else (some .boolean)))))) else (if μ < 181 then (if μ < 175 then (if μ < 172 then (if μ < 170 then (some .int) else (if μ < 171 then (some .int) else (some .int))) else (if μ < 173 then (some .int) else (if μ < 174 then (some .int) else (some .int)))) else (if μ < 178 then (if μ < 176 then (some .boolean) else (if μ < 177 then (some .boolean) else (some .boolean))) else (if μ < 179 then (some .boolean) else (if μ < 180 then (some .boolean) else (some .int))))) else (if μ < 187 then (if μ < 184 then (if μ < 182 then (some .int) else (if μ < 183 then none else (some .boolean))) else (if μ < 185 then none else (if μ < 186 then (some .boolean) else (some .int)))) else (if μ < 190 then (if μ < 188 then (some .int) else (if μ < 189 then (some .int) else (some .int))) else (if μ < 192 then (if μ < 191 then (some .int) else (some .int)) else (if μ < 193 then (some .int) else (some .int)))))))))
def iv_np (μ : Nat) : Nat := (if μ < 97 then (if μ < 48 then (if μ < 24 then (if μ < 12 then (if μ < 6 then (if μ < 3 then (if μ < 1 then 1 else (if μ < 2 then 0 else 1)) else (if μ < 4 then 0 else (if μ < 5 then 2 else 0))) else (if μ < 9 then (if μ < 7 then 4 else (if μ < 8 then 1 else 1)) else (if μ < 10 then 0 else (if μ < 11 then 1 else 1)))) else (if μ < 18 then (if μ < 15 then (if μ < 13 then 0 else (if μ < 14 then 3 else 2)) else (if μ < 16 then 0 else (if μ < 17 then 0 else 1))) else (if μ < 21 then (if μ < 19 then 2 else (if μ < 20 then 4 else 0)) else (if μ < 22 then 1 else (if μ < 23 then 0 else 1))))) else (if μ < 36 then (if μ < 30 then (if μ < 27 then (if μ < 25 then 1 else (if μ < 26 then 1 else 2)) else (if μ < 28 then 2 else (if μ < 29 then 1 else 1))) else (if μ < 33 then (if μ < 31 then 1 else (if μ < 32 then 3 else 0)) else (if μ < 34 then 0 else (if μ < 35 then 1 else 0)))) else (if μ < 42 then (if μ < 39 then (if μ < 37 then 0 else (if μ < 38 then 1 else 2)) else (if μ < 40 then 3 else (if μ < 41 then 1 else 1))) else (if μ < 45 then (if μ < 43 then 1 else (if μ < 44 then 4 else 2)) else (if μ < 46 then 0 else (if μ < 47 then 1 else 1)))))) else (if μ < 72 then (if μ < 60 then (if μ < 54 then (if μ < 51 then (if μ < 49 then 0 else (if μ < 50 then 2 else 2)) else (if μ < 52 then 0 else (if μ < 53 then 1 else 0))) else (if μ < 57 then (if μ < 55 then 0 else (if μ < 56 then 0 else 0)) else (if μ < 58 then 0 else (if μ < 59 then 1 else 0)))) else (if μ < 66 then (if μ < 63 then (if μ < 61 then 1 else (if μ < 62 then 1 else 2)) else (if μ < 64 then 3 else (if μ < 65 then 2 else 3))) else (if μ < 69 then (if μ < 67 then 1 else (if μ < 68 then 2 else 1)) else (if μ < 70 then 1 else (if μ < 71 then 3 else 3))))) else (if μ < 84 then (if μ < 78 then (if μ < 75 then (if μ < 73 then 1 else (if μ < 74 then 1 else 1)) else (if μ < 76 then 1 else (if μ < 77 then 1 else 1))) else (if μ < 81 then (if μ < 79 then 2 else (if μ < 80 then 0 else 0)) else (if μ < 82 then 1 else (if μ < 83 then 1 else 1)))) else (if μ < 90 then (if μ < 87 then (if μ < 85 then 3 else (if μ < 86 then 1 else 0)) else (if μ < 88 then 2 else (if μ < 89 then 0 else 0))) else (if μ < 93 then (if μ < 91 then 0 else (if μ < 92 then 1 else 2)) else (if μ < 95 then (if μ < 94 then 3 else 2) else (if μ < 96 then 4 else 3))))))) else (if μ < 145 then (if μ < 121 then (if μ < 109 then (if μ < 103 then (if μ < 100 then (if μ < 98 then 1 else (if μ < 99 then 1 else 2)) else (if μ < 101 then 1 else (if μ < 102 then 1 else 3))) else (if μ < 106 then (if μ < 104 then 1 else (if μ < 105 then 1 else 3)) else (if μ < 107 then 3 else (if μ < 108 then 1 else 0)))) else (if μ < 115 then (if μ < 112 then (if μ < 110 then 1 else (if μ < 111 then 0 else 2)) else (if μ < 113 then 3 else (if μ < 114 then 1 else 4))) else (if μ < 118 then (if μ < 116 then 2 else (if μ < 117 then 1 else 2)) else (if μ < 119 then 0 else (if μ < 120 then 1 else 0))))) else (if μ < 133 then (if μ < 127 then (if μ < 124 then (if μ < 122 then 1 else (if μ < 123 then 0 else 0)) else (if μ < 125 then 1 else (if μ < 126 then 1 else 2))) else (if μ < 130 then (if μ < 128 then 0 else (if μ < 129 then 3 else 0)) else (if μ < 131 then 0 else (if μ < 132 then 2 else 0)))) else (if μ < 139 then (if μ < 136 then (if μ < 134 then 0 else (if μ < 135 then 1 else 1)) else (if μ < 137 then 0 else (if μ < 138 then 0 else 1))) else (if μ < 142 then (if μ < 140 then 3 else (if μ < 141 then 1 else 1)) else (if μ < 143 then 2 else (if μ < 144 then 4 else 2)))))) else (if μ < 169 then (if μ < 157 then (if μ < 151 then (if μ < 148 then (if μ < 146 then 6 else (if μ < 147 then 3 else 2)) else (if μ < 149 then 0 else (if μ < 150 then 0 else 0))) else (if μ < 154 then (if μ < 152 then 2 else (if μ < 153 then 0 else 0)) else (if μ < 155 then 0 else (if μ < 156 then 0 else 1)))) else (if μ < 163 then (if μ < 160 then (if μ < 158 then 0 else (if μ < 159 then 0 else 2)) else (if μ < 161 then 1 else (if μ < 162 then 1 else 1))) else (if μ < 166 then (if μ < 164 then 2 else (if μ < 165 then 2 else 4)) else (if μ < 167 then 0 else (if μ < 168 then 2 else 1))))) else (if μ < 181 then (if μ < 175 then (if μ < 172 then (if μ < 170 then 0 else (if μ < 171 then 3 else 4)) else (if μ < 173 then 1 else (if μ < 174 then 1 else 0))) else (if μ < 178 then (if μ < 176 then 1 else (if μ < 177 then 1 else 0)) else (if μ < 179 then 2 else (if μ < 180 then 3 else 1)))) else (if μ < 187 then (if μ < 184 then (if μ < 182 then 2 else (if μ < 183 then 2 else 1)) else (if μ < 185 then 2 else (if μ < 186 then 2 else 0))) else (if μ < 190 then (if μ < 188 then 4 else (if μ < 189 then 2 else 6)) else (if μ < 192 then (if μ < 191 then 3 else 3) else (if μ < 193 then 2 else 2))))))))
def iv_cn (μ : Nat) : Nat := (if μ < 97 then (if μ < 48 then (if μ < 24 then (if μ < 12 then (if μ < 6 then (if μ < 3 then (if μ < 1 then 10 else (if μ < 2 then 0 else 0)) else (if μ < 4 then 0 else (if μ < 5 then 0 else 0))) else (if μ < 9 then (if μ < 7 then 0 else (if μ < 8 then 0 else 0)) else (if μ < 10 then 0 else (if μ < 11 then 0 else 0)))) else (if μ < 18 then (if μ < 15 then (if μ < 13 then 0 else (if μ < 14 then 0 else 0)) else (if μ < 16 then 0 else (if μ < 17 then 0 else 0))) else (if μ < 21 then (if μ < 19 then 0 else (if μ < 20 then 0 else 0)) else (if μ < 22 then 0 else (if μ < 23 then 0 else 0))))) else (if μ < 36 then (if μ < 30 then (if μ < 27 then (if μ < 25 then 0 else (if μ < 26 then 0 else 0)) else (if μ < 28 then 0 else (if μ < 29 then 0 else 0))) else (if μ < 33 then (if μ < 31 then 0 else (if μ < 32 then 0 else 1)) else (if μ < 34 then 1 else (if μ < 35 then 1 else 1)))) else (if μ < 42 then (if μ < 39 then (if μ < 37 then 1 else (if μ < 38 then 1 else 1)) else (if μ < 40 then 1 else (if μ < 41 then 1 else 1))) else (if μ < 45 then (if μ < 43 then 1 else (if μ < 44 then 1 else 2)) else (if μ < 46 then 2 else (if μ < 47 then 2 else 2)))))) else (if μ < 72 then (if μ < 60 then (if μ < 54 then (if μ < 51 then (if μ < 49 then 2 else (if μ < 50 then 2 else 2)) else (if μ < 52 then 2 else (if μ < 53 then 2 else 3))) else (if μ < 57 then (if μ < 55 then 3 else (if μ < 56 then 3 else 3)) else (if μ < 58 then 3 else (if μ < 59 then 3 else 3)))) else (if μ < 66 then (if μ < 63 then (if μ < 61 then 3 else (if μ < 62 then 3 else 3)) else (if μ < 64 then 3 else (if μ < 65 then 3 else 3))) else (if μ < 69 then (if μ < 67 then 3 else (if μ < 68 then 3 else 3)) else (if μ < 70 then 3 else (if μ < 71 then 3 else 3))))) else (if μ < 84 then (if μ < 78 then (if μ < 75 then (if μ < 73 then 3 else (if μ < 74 then 3 else 3)) else (if μ < 76 then 3 else (if μ < 77 then 3 else 4))) else (if μ < 81 then (if μ < 79 then 4 else (if μ < 80 then 4 else 4)) else (if μ < 82 then 4 else (if μ < 83 then 4 else 4)))) else (if μ < 90 then (if μ < 87 then (if μ < 85 then 4 else (if μ < 86 then 4 else 5)) else (if μ < 88 then 5 else (if μ < 89 then 5 else 5))) else (if μ < 93 then (if μ < 91 then 5 else (if μ < 92 then 5 else 5)) else (if μ < 95 then (if μ < 94 then 5 else 5) else (if μ < 96 then 5 else 5))))))) else (if μ < 145 then (if μ < 121 then (if μ < 109 then (if μ < 103 then (if μ < 100 then (if μ < 98 then 5 else (if μ < 99 then 5 else 5)) else (if μ < 101 then 5 else (if μ < 102 then 5 else 5))) else (if μ < 106 then (if μ < 104 then 5 else (if μ < 105 then 5 else 5)) else (if μ < 107 then 5 else (if μ < 108 then 6 else 6)))) else (if μ < 115 then (if μ < 112 then (if μ < 110 then 6 else (if μ < 111 then 6 else 6)) else (if μ < 113 then 6 else (if μ < 114 then 6 else 6))) else (if μ < 118 then (if μ < 116 then 6 else (if μ < 117 then 6 else 7)) else (if μ < 119 then 7 else (if μ < 120 then 7 else 7))))) else (if μ < 133 then (if μ < 127 then (if μ < 124 then (if μ < 122 then 7 else (if μ < 123 then 7 else 7)) else (if μ < 125 then 7 else (if μ < 126 then 7 else 7))) else (if μ < 130 then (if μ < 128 then 8 else (if μ < 129 then 8 else 8)) else (if μ < 131 then 8 else (if μ < 132 then 8 else 9)))) else (if μ < 139 then (if μ < 136 then (if μ < 134 then 9 else (if μ < 135 then 9 else 9)) else (if μ < 137 then 9 else (if μ < 138 then 9 else 9))) else (if μ < 142 then (if μ < 140 then 9 else (if μ < 141 then 9 else 9)) else (if μ < 143 then 9 else (if μ < 144 then 9 else 9)))))) else (if μ < 169 then (if μ < 157 then (if μ < 151 then (if μ < 148 then (if μ < 146 then 9 else (if μ < 147 then 9 else 9)) else (if μ < 149 then 9 else (if μ < 150 then 9 else 9))) else (if μ < 154 then (if μ < 152 then 9 else (if μ < 153 then 9 else 9)) else (if μ < 155 then 9 else (if μ < 156 then 9 else 9)))) else (if μ < 163 then (if μ < 160 then (if μ < 158 then 9 else (if μ < 159 then 9 else 9)) else (if μ < 161 then 9 else (if μ < 162 then 9 else 9))) else (if μ < 166 then (if μ < 164 then 9 else (if μ < 165 then 9 else 9)) else (if μ < 167 then 9 else (if μ < 168 then 9 else 9))))) else (if μ < 181 then (if μ < 175 then (if μ < 172 then (if μ < 170 then 9 else (if μ < 171 then 9 else 9)) else (if μ < 173 then 9 else (if μ < 174 then 9 else 9))) else (if μ < 178 then (if μ < 176 then 9 else (if μ < 177 then 9 else 9)) else (if μ < 179 then 9 else (if μ < 180 then 9 else 9)))) else (if μ < 187 then (if μ < 184 then (if μ < 182 then 9 else (if μ < 183 then 9 else 9)) else (if μ < 185 then 9 else (if μ < 186 then 9 else 9))) else (if μ < 190 then (if μ < 188 then 10 else (if μ < 189 then 10 else 10)) else (if μ < 192 then (if μ < 191 then 10 else 10) else (if μ < 193 then 10 else 10))))))))
def iv_hh (μ : Nat) : List (Nat × Nat × Nat × Nat) := (if μ < 97 then (if μ < 48 then (if μ < 24 then (if μ < 12 then (if μ < 6 then (if μ < 3 then (if μ < 1 then [] else (if μ < 2 then [] else [])) else (if μ < 4 then [] else (if μ < 5 then [] else []))) else (if μ < 9 then (if μ < 7 then [] else (if μ < 8 then [] else [])) else (if μ < 10 then [] else (if μ < 11 then [] else [])))) else (if μ < 18 then (if μ < 15 then (if μ < 13 then [] else (if μ < 14 then [] else [])) else (if μ < 16 then [] else (if μ < 17 then [] else []))) else (if μ < 21 then (if μ < 19 then [] else (if μ < 20 then [] else [])) else (if μ < 22 then [] else (if μ < 23 then [] else []))))) else (if μ < 36 then (if μ < 30 then (if μ < 27 then (if μ < 25 then [] else (if μ < 26 then [] else [])) else (if μ < 28 then [] else (if μ < 29 then [] else []))) else (if μ < 33 then (if μ < 31 then [] else (if μ < 32 then [] else [])) else (if μ < 34 then [] else (if μ < 35 then [] else [])))) else (if μ < 42 then (if μ < 39 then (if μ < 37 then [] else (if μ < 38 then [] else [])) else (if μ < 40 then [] else (if μ < 41 then [] else []))) else (if μ < 45 then (if μ < 43 then [] else (if μ < 44 then [] else [])) else (if μ < 46 then [] else (if μ < 47 then [] else [])))))) else (if μ < 72 then (if μ < 60 then (if μ < 54 then (if μ < 51 then (if μ < 49 then [] else (if μ < 50 then [] else [])) else (if μ < 52 then [] else (if μ < 53 then [] else []))) else (if μ < 57 then (if μ < 55 then [] else (if μ < 56 then [] else [])) else (if μ < 58 then [] else (if μ < 59 then [] else [])))) else (if μ < 66 then (if μ < 63 then (if μ < 61 then [] else (if μ < 62 then [] else [])) else (if μ < 64 then [] else (if μ < 65 then [] else []))) else (if μ < 69 then (if μ < 67 then [] else (if μ < 68 then [] else [])) else (if μ < 70 then [] else (if μ < 71 then [] else []))))) else (if μ < 84 then (if μ < 78 then (if μ < 75 then (if μ < 73 then [] else (if μ < 74 then [] else [])) else (if μ < 76 then [] else (if μ < 77 then [] else []))) else (if μ < 81 then (if μ < 79 then [] else (if μ < 80 then [] else [])) else (if μ < 82 then [] else (if μ < 83 then [] else [])))) else (if μ < 90 then (if μ < 87 then (if μ < 85 then [] else (if μ < 86 then [] else [])) else (if μ < 88 then [] else (if μ < 89 then [] else []))) else (if μ < 93 then (if μ < 91 then [] else (if μ < 92 then [] else [])) else (if μ < 95 then (if μ < 94 then [] else []) else (if μ < 96 then [] else []))))))) else (if μ < 145 then (if μ < 121 then (if μ < 109 then (if μ < 103 then (if μ < 100 then (if μ < 98 then [] else (if μ < 99 then [] else [])) else (if μ < 101 then [] else (if μ < 102 then [] else []))) else (if μ < 106 then (if μ < 104 then [] else (if μ < 105 then [] else [])) else (if μ < 107 then [] else (if μ < 108 then [] else [])))) else (if μ < 115 then (if μ < 112 then (if μ < 110 then [] else (if μ < 111 then [] else [])) else (if μ < 113 then [] else (if μ < 114 then [] else []))) else (if μ < 118 then (if μ < 116 then [] else (if μ < 117 then [] else [])) else (if μ < 119 then [] else (if μ < 120 then [] else []))))) else (if μ < 133 then (if μ < 127 then (if μ < 124 then (if μ < 122 then [] else (if μ < 123 then [] else [])) else (if μ < 125 then [] else (if μ < 126 then [] else []))) else (if μ < 130 then (if μ < 128 then [] else (if μ < 129 then [] else [])) else (if μ < 131 then [] else (if μ < 132 then [] else [])))) else (if μ < 139 then (if μ < 136 then (if μ < 134 then [] else (if μ < 135 then [] else [])) else (if μ < 137 then [] else (if μ < 138 then [] else []))) else (if μ < 142 then (if μ < 140 then [] else (if μ < 141 then [] else [])) else (if μ < 143 then [] else (if μ < 144 then [] else [])))))) else (if μ < 169 then (if μ < 157 then (if μ < 151 then (if μ < 148 then (if μ < 146 then [] else (if μ < 147 then [] else [])) else (if μ < 149 then [] else (if μ < 150 then [] else []))) else (if μ < 154 then (if μ < 152 then [] else (if μ < 153 then [] else [])) else (if μ < 155 then [] else (if μ < 156 then [] else [])))) else (if μ < 163 then (if μ < 160 then (if μ < 158 then [] else (if μ < 159 then [] else [])) else (if μ < 161 then [] else (if μ < 162 then [] else []))) else (if μ < 166 then (if μ < 164 then [] else (if μ < 165 then [] else [])) else (if μ < 167 then [] else (if μ < 168 then [] else []))))) else (if μ < 181 then (if μ < 175 then (if μ < 172 then (if μ < 170 then [] else (if μ < 171 then [] else [])) else (if μ < 173 then [] else (if μ < 174 then [] else []))) else (if μ < 178 then (if μ < 176 then [] else (if μ < 177 then [] else [])) else (if μ < 179 then [] else (if μ < 180 then [] else [])))) else (if μ < 187 then (if μ < 184 then (if μ < 182 then [] else (if μ < 183 then [] else [])) else (if μ < 185 then [] else (if μ < 186 then [] else []))) else (if μ < 190 then (if μ < 188 then [(0, 10, 13, 13), (0, 10, 17, 15), (0, 10, 21, 17)] else (if μ < 189 then [(0, 8, 11, 13), (0, 8, 14, 15), (0, 8, 17, 17)] else [(0, 15, 18, 13), (0, 15, 22, 15), (0, 15, 26, 17)])) else (if μ < 192 then (if μ < 191 then [(0, 9, 12, 13), (0, 9, 15, 15), (0, 9, 18, 17)] else [(0, 9, 12, 13), (0, 9, 15, 15)]) else (if μ < 193 then [(0, 8, 11, 13), (0, 8, 14, 15)] else [(0, 8, 11, 13)]))))))))
def iv_h (μ : Nat) : List (Nat × Nat × Nat × Nat × Nat) := (if μ < 97 then (if μ < 48 then (if μ < 24 then (if μ < 12 then (if μ < 6 then (if μ < 3 then (if μ < 1 then [] else (if μ < 2 then [] else [])) else (if μ < 4 then [] else (if μ < 5 then [] else []))) else (if μ < 9 then (if μ < 7 then [] else (if μ < 8 then [] else [])) else (if μ < 10 then [] else (if μ < 11 then [] else [])))) else (if μ < 18 then (if μ < 15 then (if μ < 13 then [] else (if μ < 14 then [] else [])) else (if μ < 16 then [] else (if μ < 17 then [] else []))) else (if μ < 21 then (if μ < 19 then [] else (if μ < 20 then [] else [])) else (if μ < 22 then [] else (if μ < 23 then [] else []))))) else (if μ < 36 then (if μ < 30 then (if μ < 27 then (if μ < 25 then [] else (if μ < 26 then [] else [])) else (if μ < 28 then [] else (if μ < 29 then [] else []))) else (if μ < 33 then (if μ < 31 then [] else (if μ < 32 then [] else [])) else (if μ < 34 then [] else (if μ < 35 then [] else [])))) else (if μ < 42 then (if μ < 39 then (if μ < 37 then [] else (if μ < 38 then [] else [])) else (if μ < 40 then [] else (if μ < 41 then [] else []))) else (if μ < 45 then (if μ < 43 then [] else (if μ < 44 then [] else [])) else (if μ < 46 then [] else (if μ < 47 then [] else [])))))) else (if μ < 72 then (if μ < 60 then (if μ < 54 then (if μ < 51 then (if μ < 49 then [] else (if μ < 50 then [] else [])) else (if μ < 52 then [] else (if μ < 53 then [] else []))) else (if μ < 57 then (if μ < 55 then [] else (if μ < 56 then [] else [])) else (if μ < 58 then [] else (if μ < 59 then [] else [])))) else (if μ < 66 then (if μ < 63 then (if μ < 61 then [] else (if μ < 62 then [] else [])) else (if μ < 64 then [] else (if μ < 65 then [] else []))) else (if μ < 69 then (if μ < 67 then [] else (if μ < 68 then [] else [])) else (if μ < 70 then [] else (if μ < 71 then [] else []))))) else (if μ < 84 then (if μ < 78 then (if μ < 75 then (if μ < 73 then [] else (if μ < 74 then [] else [])) else (if μ < 76 then [] else (if μ < 77 then [] else []))) else (if μ < 81 then (if μ < 79 then [] else (if μ < 80 then [] else [])) else (if μ < 82 then [] else (if μ < 83 then [] else [])))) else (if μ < 90 then (if μ < 87 then (if μ < 85 then [] else (if μ < 86 then [] else [])) else (if μ < 88 then [] else (if μ < 89 then [] else []))) else (if μ < 93 then (if μ < 91 then [] else (if μ < 92 then [] else [])) else (if μ < 95 then (if μ < 94 then [] else []) else (if μ < 96 then [] else []))))))) else (if μ < 145 then (if μ < 121 then (if μ < 109 then (if μ < 103 then (if μ < 100 then (if μ < 98 then [] else (if μ < 99 then [] else [])) else (if μ < 101 then [] else (if μ < 102 then [] else []))) else (if μ < 106 then (if μ < 104 then [] else (if μ < 105 then [] else [])) else (if μ < 107 then [] else (if μ < 108 then [] else [])))) else (if μ < 115 then (if μ < 112 then (if μ < 110 then [] else (if μ < 111 then [] else [])) else (if μ < 113 then [] else (if μ < 114 then [] else []))) else (if μ < 118 then (if μ < 116 then [] else (if μ < 117 then [] else [])) else (if μ < 119 then [] else (if μ < 120 then [] else []))))) else (if μ < 133 then (if μ < 127 then (if μ < 124 then (if μ < 122 then [] else (if μ < 123 then [] else [])) else (if μ < 125 then [] else (if μ < 126 then [] else []))) else (if μ < 130 then (if μ < 128 then [] else (if μ < 129 then [] else [])) else (if μ < 131 then [] else (if μ < 132 then [] else [])))) else (if μ < 139 then (if μ < 136 then (if μ < 134 then [] else (if μ < 135 then [] else [])) else (if μ < 137 then [] else (if μ < 138 then [] else []))) else (if μ < 142 then (if μ < 140 then [] else (if μ < 141 then [] else [])) else (if μ < 143 then [] else (if μ < 144 then [] else [])))))) else (if μ < 169 then (if μ < 157 then (if μ < 151 then (if μ < 148 then (if μ < 146 then [] else (if μ < 147 then [] else [])) else (if μ < 149 then [] else (if μ < 150 then [] else []))) else (if μ < 154 then (if μ < 152 then [] else (if μ < 153 then [] else [])) else (if μ < 155 then [] else (if μ < 156 then [] else [])))) else (if μ < 163 then (if μ < 160 then (if μ < 158 then [] else (if μ < 159 then [] else [])) else (if μ < 161 then [] else (if μ < 162 then [] else []))) else (if μ < 166 then (if μ < 164 then [] else (if μ < 165 then [] else [])) else (if μ < 167 then [] else (if μ < 168 then [] else []))))) else (if μ < 181 then (if μ < 175 then (if μ < 172 then (if μ < 170 then [] else (if μ < 171 then [] else [])) else (if μ < 173 then [] else (if μ < 174 then [] else []))) else (if μ < 178 then (if μ < 176 then [] else (if μ < 177 then [] else [])) else (if μ < 179 then [] else (if μ < 180 then [] else [])))) else (if μ < 187 then (if μ < 184 then (if μ < 182 then [] else (if μ < 183 then [] else [])) else (if μ < 185 then [] else (if μ < 186 then [] else []))) else (if μ < 190 then (if μ < 188 then [(0, 10, 15, 0, 4), (0, 10, 19, 1, 4), (0, 10, 23, 2, 4)] else (if μ < 189 then [(0, 8, 12, 0, 2), (0, 8, 15, 1, 2), (0, 8, 18, 2, 2)] else [(0, 15, 20, 0, 7), (0, 15, 24, 1, 7), (0, 15, 28, 2, 7)])) else (if μ < 192 then (if μ < 191 then [(0, 9, 13, 0, 3), (0, 9, 16, 1, 3), (0, 9, 19, 2, 3)] else [(0, 9, 13, 0, 3), (0, 9, 16, 1, 3)]) else (if μ < 193 then [(0, 8, 12, 0, 2), (0, 8, 15, 1, 2)] else [(0, 8, 12, 0, 2)]))))))))
def iv_m0 : List (Nat × Instr × Nat) := [(0, .new 8, 0), (3, .dup, 0), (4, .invokespecial 40, 4001), (7, .astore_n 1, 0), (8, .new 41, 9), (11, .dup, 0), (12, .invokespecial 43, 4132), (15, .astore_n 2, 0), (16, .iconst 1, 0), (17, .newarray .long, 0), (19, .astore_n 3, 0), (20, .iconst 0, 0), (21, .istore 4, 0), (23, .iload 4, 0), (25, .aload_n 0, 0), (26, .arraylength, 0), (27, .bipush 6, 0), (29, .isub, 0), (30, .if_icmp .gt (757), 787), (33, .aload_n 0, 0), (34, .iload 4, 0), (36, .iaload, 0), (37, .bipush 15, 0), (39, .iand, 0), (40, .tableswitch (741) (0) (13) #[72, 129, 140, 224, 268, 392, 448, 504, 548, 573, 598, 611, 660, 697], 72), (112, .aload_n 1, 0), (113, .aload_n 0, 0), (114, .iload 4, 0), (116, .iconst 1, 0), (117, .iadd, 0), (118, .iaload, 0), (119, .i2l, 0), (120, .bipush 32, 0), (122, .lshl, 0), (123, .aload_n 0, 0), (124, .iload 4, 0), (126, .iconst 2, 0), (127, .iadd, 0), (128, .iaload, 0), (129, .i2l, 0), (130, .ldc2_w 44, 4294967295), (133, .land, 0), (134, .lor, 0), (135, .invokevirtual 46, 2), (138, .aload_n 2, 0), (139, .aload_n 0, 0), (140, .iload 4, 0), (142, .iconst 1, 0), (143, .iadd, 0), (144, .iaload, 0), (145, .i2l, 0), (146, .bipush 32, 0), (148, .lshl, 0), (149, .aload_n 0, 0), (150, .iload 4, 0), (152, .iconst 2, 0), (153, .iadd, 0), (154, .iaload, 0), (155, .i2l, 0), (156, .ldc2_w 44, 4294967295), (159, .land, 0), (160, .lor, 0), (161, .invokevirtual 50, 135), (164, .if_icmp .eq (617), 781), (167, .iconst 0, 0), (168, .ireturn, 0), (169, .aload_n 1, 0), (170, .invokevirtual 51, 3), (173, .aload_n 2, 0), (174, .invokevirtual 54, 136), (177, .goto (604), 781), (180, .aload_n 1, 0), (181, .aload_n 0, 0), (182, .iload 4, 0), (184, .iconst 1, 0), (185, .iadd, 0), (186, .iaload, 0), (187, .ifCond .eq (7), 194), (190, .iconst 1, 0), (191, .goto (4), 195), (194, .iconst 0, 0), (195, .aload_n 0, 0), (196, .iload 4, 0), (198, .iconst 2, 0), (199, .iadd, 0), (200, .iaload, 0), (201, .aload_n 3, 0), (202, .invokestatic 55, 2187), (205, .istore 5, 0), (207, .aload_n 2, 0), (208, .aload_n 0, 0), (209, .iload 4, 0), (211, .iconst 1, 0), (212, .iadd, 0), (213, .iaload, 0), (214, .ifCond .eq (7), 221), (217, .iconst 1, 0), (218, .goto (4), 222), (221, .iconst 0, 0), (222, .aload_n 0, 0), (223, .iload 4, 0), (225, .iconst 2, 0), (226, .iadd, 0), (227, .iaload, 0), (228, .invokevirtual 60, 167), (231, .istore 6, 0), (233, .aload_n 2, 0), (234, .invokevirtual 61, 133), (237, .iload 5, 0), (239, .if_icmp .eq (5), 244), (242, .iconst 0, 0), (243, .ireturn, 0), (244, .iload 5, 0), (246, .ifCond .ne (15), 261), (249, .aload_n 3, 0), (250, .iconst 0, 0), (251, .laload, 0), (252, .iload 6, 0), (254, .i2l, 0), (255, .lcmp, 0), (256, .ifCond .eq (5), 261), (259, .iconst 0, 0), (260, .ireturn, 0), (261, .goto (520), 781), (264, .aload_n 1, 0), (265, .aload_n 3, 0), (266, .invokestatic 64, 2188), (269, .istore 5, 0), (271, .aload_n 2, 0), (272, .invokevirtual 67, 169), (275, .istore 6, 0), (277, .aload_n 2, 0), (278, .invokevirtual 61, 133), (281, .iload 5, 0), (283, .if_icmp .eq (5), 288), (286, .iconst 0, 0), (287, .ireturn, 0), (288, .iload 5, 0), (290, .ifCond .ne (15), 305), (293, .aload_n 3, 0), (294, .iconst 0, 0), (295, .laload, 0), (296, .iload 6, 0), (298, .i2l, 0), (299, .lcmp, 0), (300, .ifCond .eq (5), 305), (303, .iconst 0, 0), (304, .ireturn, 0), (305, .goto (476), 781), (308, .aload_n 1, 0), (309, .aload_n 0, 0), (310, .iload 4, 0), (312, .iconst 1, 0), (313, .iadd, 0), (314, .iaload, 0), (315, .aload_n 0, 0), (316, .iload 4, 0), (318, .iconst 2, 0), (319, .iadd, 0), (320, .iaload, 0), (321, .i2l, 0), (322, .bipush 32, 0), (324, .lshl, 0), (325, .aload_n 0, 0), (326, .iload 4, 0), (328, .iconst 3, 0), (329, .iadd, 0), (330, .iaload, 0), (331, .i2l, 0), (332, .ldc2_w 44, 4294967295), (335, .land, 0), (336, .lor, 0), (337, .aload_n 0, 0), (338, .iload 4, 0), (340, .iconst 4, 0), (341, .iadd, 0), (342, .iaload, 0), (343, .aload_n 0, 0), (344, .iload 4, 0), (346, .iconst 5, 0), (347, .iadd, 0), (348, .iaload, 0), (349, .aload_n 3, 0), (350, .invokestatic 68, 2189), (353, .istore 5, 0), (355, .aload_n 2, 0), (356, .aload_n 0, 0), (357, .iload 4, 0), (359, .iconst 1, 0), (360, .iadd, 0), (361, .iaload, 0), (362, .aload_n 0, 0), (363, .iload 4, 0), (365, .iconst 2, 0), (366, .iadd, 0), (367, .iaload, 0), (368, .i2l, 0), (369, .bipush 32, 0), (371, .lshl, 0), (372, .aload_n 0, 0), (373, .iload 4, 0), (375, .iconst 3, 0), (376, .iadd, 0), (377, .iaload, 0), (378, .i2l, 0), (379, .ldc2_w 44, 4294967295), (382, .land, 0), (383, .lor, 0), (384, .aload_n 0, 0), (385, .iload 4, 0), (387, .iconst 4, 0), (388, .iadd, 0), (389, .iaload, 0), (390, .aload_n 0, 0), (391, .iload 4, 0), (393, .iconst 5, 0), (394, .iadd, 0), (395, .iaload, 0), (396, .invokevirtual 71, 171), (399, .istore 6, 0), (401, .aload_n 2, 0), (402, .invokevirtual 61, 133), (405, .iload 5, 0), (407, .if_icmp .eq (5), 412), (410, .iconst 0, 0), (411, .ireturn, 0), (412, .iload 5, 0), (414, .ifCond .ne (15), 429), (417, .aload_n 3, 0), (418, .iconst 0, 0), (419, .laload, 0), (420, .iload 6, 0), (422, .i2l, 0), (423, .lcmp, 0), (424, .ifCond .eq (5), 429), (427, .iconst 0, 0), (428, .ireturn, 0), (429, .goto (352), 781), (432, .aload_n 1, 0), (433, .aload_n 0, 0), (434, .iload 4, 0), (436, .iconst 1, 0), (437, .iadd, 0), (438, .iaload, 0), (439, .aload_n 3, 0), (440, .invokestatic 72, 2190), (443, .istore 5, 0), (445, .aload_n 2, 0), (446, .aload_n 0, 0), (447, .iload 4, 0), (449, .iconst 1, 0), (450, .iadd, 0), (451, .iaload, 0), (452, .invokevirtual 75, 172), (455, .istore 6, 0), (457, .aload_n 2, 0), (458, .invokevirtual 61, 133), (461, .iload 5, 0), (463, .if_icmp .eq (5), 468), (466, .iconst 0, 0), (467, .ireturn, 0), (468, .iload 5, 0), (470, .ifCond .ne (15), 485), (473, .aload_n 3, 0), (474, .iconst 0, 0), (475, .laload, 0), (476, .iload 6, 0), (478, .i2l, 0), (479, .lcmp, 0), (480, .ifCond .eq (5), 485), (483, .iconst 0, 0), (484, .ireturn, 0), (485, .goto (296), 781), (488, .aload_n 1, 0), (489, .aload_n 0, 0), (490, .iload 4, 0), (492, .iconst 1, 0), (493, .iadd, 0), (494, .iaload, 0), (495, .aload_n 3, 0), (496, .invokestatic 76, 2191), (499, .istore 5, 0), (501, .aload_n 2, 0), (502, .aload_n 0, 0), (503, .iload 4, 0), (505, .iconst 1, 0), (506, .iadd, 0), (507, .iaload, 0), (508, .invokevirtual 78, 173), (511, .istore 6, 0), (513, .aload_n 2, 0), (514, .invokevirtual 61, 133), (517, .iload 5, 0), (519, .if_icmp .eq (5), 524), (522, .iconst 0, 0), (523, .ireturn, 0), (524, .iload 5, 0), (526, .ifCond .ne (15), 541), (529, .aload_n 3, 0), (530, .iconst 0, 0), (531, .laload, 0), (532, .iload 6, 0), (534, .i2l, 0), (535, .lcmp, 0), (536, .ifCond .eq (5), 541), (539, .iconst 0, 0), (540, .ireturn, 0), (541, .goto (240), 781), (544, .aload_n 1, 0), (545, .aload_n 3, 0), (546, .invokestatic 79, 2192), (549, .istore 5, 0), (551, .aload_n 2, 0), (552, .invokevirtual 81, 174), (555, .istore 6, 0), (557, .aload_n 2, 0), (558, .invokevirtual 61, 133), (561, .iload 5, 0), (563, .if_icmp .eq (5), 568), (566, .iconst 0, 0), (567, .ireturn, 0), (568, .iload 5, 0), (570, .ifCond .ne (15), 585), (573, .aload_n 3, 0), (574, .iconst 0, 0), (575, .laload, 0), (576, .iload 6, 0), (578, .i2l, 0), (579, .lcmp, 0), (580, .ifCond .eq (5), 585), (583, .iconst 0, 0), (584, .ireturn, 0), (585, .goto (196), 781), (588, .aload_n 1, 0), (589, .aload_n 0, 0), (590, .iload 4, 0), (592, .iconst 1, 0), (593, .iadd, 0), (594, .iaload, 0), (595, .invokevirtual 82, 10), (598, .aload_n 2, 0), (599, .aload_n 0, 0), (600, .iload 4, 0), (602, .iconst 1, 0), (603, .iadd, 0), (604, .iaload, 0), (605, .invokevirtual 86, 175), (608, .if_icmp .eq (173), 781), (611, .iconst 0, 0), (612, .ireturn, 0), (613, .aload_n 1, 0), (614, .aload_n 0, 0), (615, .iload 4, 0), (617, .iconst 1, 0), (618, .iadd, 0), (619, .iaload, 0), (620, .invokevirtual 87, 11), (623, .aload_n 2, 0), (624, .aload_n 0, 0), (625, .iload 4, 0), (627, .iconst 1, 0), (628, .iadd, 0), (629, .iaload, 0), (630, .invokevirtual 90, 176), (633, .if_icmp .eq (148), 781), (636, .iconst 0, 0), (637, .ireturn, 0), (638, .aload_n 1, 0), (639, .invokevirtual 91, 12), (642, .aload_n 2, 0), (643, .invokevirtual 95, 177), (646, .if_icmp .eq (135), 781), (649, .iconst 0, 0), (650, .ireturn, 0), (651, .aload_n 1, 0), (652, .aload_n 0, 0), (653, .iload 4, 0), (655, .iconst 1, 0), (656, .iadd, 0), (657, .iaload, 0), (658, .aload_n 0, 0), (659, .iload 4, 0), (661, .iconst 2, 0), (662, .iadd, 0), (663, .iaload, 0), (664, .aload_n 0, 0), (665, .iload 4, 0), (667, .iconst 3, 0), (668, .iadd, 0), (669, .iaload, 0), (670, .invokevirtual 96, 13), (673, .aload_n 2, 0), (674, .aload_n 0, 0), (675, .iload 4, 0), (677, .iconst 1, 0), (678, .iadd, 0), (679, .iaload, 0), (680, .aload_n 0, 0), (681, .iload 4, 0), (683, .iconst 2, 0), (684, .iadd, 0), (685, .iaload, 0), (686, .aload_n 0, 0), (687, .iload 4, 0), (689, .iconst 3, 0), (690, .iadd, 0), (691, .iaload, 0), (692, .invokevirtual 100, 179), (695, .if_icmp .eq (86), 781), (698, .iconst 0, 0), (699, .ireturn, 0), (700, .aload_n 1, 0), (701, .aload_n 0, 0), (702, .iload 4, 0), (704, .iconst 1, 0), (705, .iadd, 0), (706, .iaload, 0), (707, .aload_n 0, 0), (708, .iload 4, 0), (710, .iconst 2, 0), (711, .iadd, 0), (712, .iaload, 0), (713, .invokevirtual 101, 14), (716, .aload_n 2, 0), (717, .aload_n 0, 0), (718, .iload 4, 0), (720, .iconst 1, 0), (721, .iadd, 0), (722, .iaload, 0), (723, .aload_n 0, 0), (724, .iload 4, 0), (726, .iconst 2, 0), (727, .iadd, 0), (728, .iaload, 0), (729, .invokevirtual 105, 181), (732, .if_icmp .eq (49), 781), (735, .iconst 0, 0), (736, .ireturn, 0), (737, .aload_n 1, 0), (738, .aload_n 3, 0), (739, .invokestatic 106, 2193), (742, .istore 5, 0), (744, .aload_n 2, 0), (745, .invokevirtual 108, 186), (748, .istore 6, 0), (750, .aload_n 2, 0), (751, .invokevirtual 61, 133), (754, .iload 5, 0), (756, .if_icmp .eq (5), 761), (759, .iconst 0, 0), (760, .ireturn, 0), (761, .iload 5, 0), (763, .ifCond .ne (15), 778), (766, .aload_n 3, 0), (767, .iconst 0, 0), (768, .laload, 0), (769, .iload 6, 0), (771, .i2l, 0), (772, .lcmp, 0), (773, .ifCond .eq (5), 778), (776, .iconst 0, 0), (777, .ireturn, 0), (778, .goto (3), 781), (781, .iinc 4 (6), 0), (784, .goto (-761), 23), (787, .iconst 1, 0), (788, .ireturn, 0)]
def iv_m1 : List (Nat × Instr × Nat) := [(0, .aload_n 0, 0), (1, .invokespecial 1, 6000), (4, .aload_n 0, 0), (5, .new 7, 3), (8, .dup, 0), (9, .invokespecial 9, 4053), (12, .putfield 10, 0), (15, .aload_n 0, 0), (16, .new 16, 1), (19, .dup, 0), (20, .invokespecial 18, 5032), (23, .putfield 19, 1), (26, .aload_n 0, 0), (27, .new 23, 7), (30, .dup, 0), (31, .aload_n 0, 0), (32, .getfield 10, 0), (35, .aload_n 0, 0), (36, .getfield 19, 1), (39, .invokespecial 25, 4117), (42, .putfield 28, 2), (45, .aload_n 0, 0), (46, .new 32, 4), (49, .dup, 0), (50, .aload_n 0, 0), (51, .getfield 10, 0), (54, .invokespecial 34, 4077), (57, .putfield 37, 3), (60, .aload_n 0, 0), (61, .new 41, 8), (64, .dup, 0), (65, .invokespecial 43, 5127), (68, .putfield 44, 4), (71, .aload_n 0, 0), (72, .new 48, 2), (75, .dup, 0), (76, .aload_n 0, 0), (77, .getfield 10, 0), (80, .aload_n 0, 0), (81, .getfield 28, 2), (84, .invokespecial 50, 4044), (87, .putfield 53, 5), (90, .aload_n 0, 0), (91, .new 57, 6), (94, .dup, 0), (95, .aload_n 0, 0), (96, .getfield 10, 0), (99, .invokespecial 59, 4107), (102, .putfield 60, 6), (105, .return_, 0)]
def iv_m2 : List (Nat × Instr × Nat) := [(0, .aload_n 0, 0), (1, .getfield 19, 1), (4, .lload_n 1, 0), (5, .invokevirtual 64, 34), (8, .ireturn, 0)]
def iv_m3 : List (Nat × Instr × Nat) := [(0, .aload_n 0, 0), (1, .getfield 19, 1), (4, .invokevirtual 68, 33), (7, .return_, 0)]
def iv_m4 : List (Nat × Instr × Nat) := [(0, .aload_n 0, 0), (1, .iload_n 2, 0), (2, .invokestatic 71, 2024), (5, .invokevirtual 75, 17), (8, .aload_n 0, 0), (9, .getfield 28, 2), (12, .invokevirtual 79, 118), (15, .ifCond .eq (13), 28), (18, .aload_n 0, 0), (19, .getfield 28, 2), (22, .invokevirtual 83, 123), (25, .ifCond .eq (5), 30), (28, .iconst (-1), 0), (29, .ireturn, 0), (30, .aload_n 0, 0), (31, .getfield 19, 1), (34, .aload_n 0, 0), (35, .getfield 28, 2), (38, .invokevirtual 86, 120), (41, .invokevirtual 90, 41), (44, .istore_n 3, 0), (45, .aload_n 0, 0), (46, .getfield 28, 2), (49, .invokevirtual 94, 122), (52, .iload_n 3, 0), (53, .iconst 1, 0), (54, .iadd, 0), (55, .invokevirtual 98, 98), (58, .istore 4, 0), (60, .iload 4, 0), (62, .ifCond .lt (31), 93), (65, .aload_n 0, 0), (66, .getfield 44, 4), (69, .aload_n 0, 0), (70, .getfield 19, 1), (73, .aload_n 0, 0), (74, .getfield 28, 2), (77, .invokevirtual 86, 120), (80, .aload_n 0, 0), (81, .getfield 28, 2), (84, .invokevirtual 94, 122), (87, .invokevirtual 103, 128), (90, .ifCond .ne (11), 101), (93, .new 107, 1002), (101, .aload_n 0, 0), (102, .aload_n 0, 0), (103, .iload_n 1, 0), (104, .iload_n 2, 0), (105, .iload 4, 0), (107, .iload_n 3, 0), (108, .invokevirtual 110, 19), (111, .aload_n 0, 0), (112, .getfield 44, 4), (115, .invokevirtual 114, 129), (118, .invokevirtual 117, 18), (121, .ireturn, 0)]
def iv_m5 : List (Nat × Instr × Nat) := [(0, .aload_n 0, 0), (1, .iconst 1, 0), (2, .invokevirtual 75, 17), (5, .aload_n 0, 0), (6, .getfield 28, 2), (9, .invokevirtual 79, 118), (12, .ifCond .eq (20), 32), (15, .aload_n 0, 0), (16, .getfield 28, 2), (19, .invokevirtual 83, 123), (22, .ifCond .eq (10), 32), (25, .aload_n 0, 0), (26, .invokevirtual 121, 22), (29, .ifCond .eq (5), 34), (32, .iconst (-1), 0), (33, .ireturn, 0), (34, .aload_n 0, 0), (35, .aload_n 0, 0), (36, .invokevirtual 124, 20), (39, .iconst 1, 0), (40, .invokevirtual 117, 18), (43, .ireturn, 0)]
def iv_m6 : List (Nat × Instr × Nat) := [(0, .aload_n 0, 0), (1, .iload 4, 0), (3, .iconst 1, 0), (4, .if_icmp .lt (22), 26), (7, .iload 4, 0), (9, .bipush 8, 0), (11, .if_icmp .gt (15), 26), (14, .iload 5, 0), (16, .invokestatic 71, 2024), (19, .ifCond .eq (7), 26), (22, .iconst 1, 0), (23, .goto (4), 27), (26, .iconst 0, 0), (27, .invokevirtual 75, 17), (30, .aload_n 0, 0), (31, .getfield 28, 2), (34, .invokevirtual 79, 118), (37, .ifCond .eq (14), 51), (40, .aload_n 0, 0), (41, .getfield 28, 2), (44, .iconst 1, 0), (45, .invokevirtual 127, 124), (48, .ifCond .ne (5), 53), (51, .iconst (-1), 0), (52, .ireturn, 0), (53, .aload_n 0, 0), (54, .getfield 28, 2), (57, .iconst 5, 0), (58, .invokevirtual 130, 125), (61, .istore 6, 0), (63, .iload_n 1, 0), (64, .ifCond .lt (9), 73), (67, .iload_n 1, 0), (68, .iload 6, 0), (70, .if_icmp .le (5), 75), (73, .iconst (-1), 0), (74, .ireturn, 0), (75, .iload 6, 0), (77, .iload_n 1, 0), (78, .iload 4, 0), (80, .iadd, 0), (81, .invokestatic 133, 7000), (84, .istore 7, 0), (86, .iload 7, 0), (88, .sipush 192, 0), (91, .if_icmp .le (11), 102), (94, .new 107, 1002), (102, .aload_n 0, 0), (103, .getfield 37, 3), (106, .aload_n 0, 0), (107, .getfield 28, 2), (110, .iconst 4, 0), (111, .invokevirtual 130, 125), (114, .iload 6, 0), (116, .invokevirtual 138, 78), (119, .aload_n 0, 0), (120, .getfield 37, 3), (123, .iload_n 1, 0), (124, .lload_n 2, 0), (125, .iload 4, 0), (127, .invokevirtual 142, 84), (130, .aload_n 0, 0), (131, .getfield 28, 2), (134, .bipush 7, 0), (136, .iload 5, 0), (138, .invokevirtual 146, 126), (141, .aload_n 0, 0), (142, .aload_n 0, 0), (143, .iload 7, 0), (145, .invokevirtual 149, 21), (148, .iload 7, 0), (150, .invokevirtual 117, 18), (153, .ireturn, 0)]
def iv_m7 : List (Nat × Instr × Nat) := [(0, .aload_n 0, 0), (1, .iconst 1, 0), (2, .invokevirtual 75, 17), (5, .aload_n 0, 0), (6, .getfield 28, 2), (9, .invokevirtual 79, 118), (12, .ifCond .eq (14), 26), (15, .aload_n 0, 0), (16, .getfield 28, 2), (19, .iconst 1, 0), (20, .invokevirtual 127, 124), (23, .ifCond .ne (5), 28), (26, .iconst (-1), 0), (27, .ireturn, 0), (28, .aload_n 0, 0), (29, .getfield 28, 2), (32, .iconst 5, 0), (33, .invokevirtual 130, 125), (36, .istore_n 2, 0), (37, .iload_n 1, 0), (38, .ifCond .lt (8), 46), (41, .iload_n 1, 0), (42, .iload_n 2, 0), (43, .if_icmp .le (5), 48), (46, .iconst (-1), 0), (47, .ireturn, 0), (48, .iload_n 1, 0), (49, .sipush 192, 0), (52, .if_icmp .le (11), 63), (55, .new 107, 1002), (63, .iload_n 1, 0), (64, .iload_n 2, 0), (65, .if_icmp .ne (5), 70), (68, .iconst 0, 0), (69, .ireturn, 0), (70, .aload_n 0, 0), (71, .getfield 37, 3), (74, .aload_n 0, 0), (75, .getfield 28, 2), (78, .iconst 4, 0), (79, .invokevirtual 130, 125), (82, .iload_n 2, 0), (83, .invokevirtual 138, 78), (86, .aload_n 0, 0), (87, .getfield 37, 3), (90, .iload_n 1, 0), (91, .invokevirtual 152, 85), (94, .aload_n 0, 0), (95, .aload_n 0, 0), (96, .iload_n 1, 0), (97, .invokevirtual 149, 21), (100, .iload_n 2, 0), (101, .iload_n 1, 0), (102, .isub, 0), (103, .invokevirtual 117, 18), (106, .ireturn, 0)]
def iv_m8 : List (Nat × Instr × Nat) := [(0, .aload_n 0, 0), (1, .iconst 1, 0), (2, .invokevirtual 75, 17), (5, .aload_n 0, 0), (6, .getfield 28, 2), (9, .invokevirtual 79, 118), (12, .ifCond .eq (14), 26), (15, .aload_n 0, 0), (16, .getfield 28, 2), (19, .iconst 1, 0), (20, .invokevirtual 127, 124), (23, .ifCond .ne (5), 28), (26, .iconst (-1), 0), (27, .ireturn, 0), (28, .aload_n 0, 0), (29, .getfield 37, 3), (32, .aload_n 0, 0), (33, .getfield 28, 2), (36, .iconst 4, 0), (37, .invokevirtual 130, 125), (40, .aload_n 0, 0), (41, .getfield 28, 2), (44, .iconst 5, 0), (45, .invokevirtual 130, 125), (48, .invokevirtual 138, 78), (51, .aload_n 0, 0), (52, .getfield 37, 3), (55, .iload_n 1, 0), (56, .invokevirtual 156, 82), (59, .ifCond .eq (14), 73), (62, .aload_n 0, 0), (63, .getfield 37, 3), (66, .iload_n 1, 0), (67, .invokevirtual 159, 83), (70, .goto (4), 74), (73, .iconst (-1), 0), (74, .ireturn, 0)]
def iv_m9 : List (Nat × Instr × Nat) := [(0, .aload_n 0, 0), (1, .iconst 1, 0), (2, .invokevirtual 75, 17), (5, .aload_n 0, 0), (6, .getfield 28, 2), (9, .invokevirtual 79, 118), (12, .ifCond .eq (13), 25), (15, .aload_n 0, 0), (16, .getfield 28, 2), (19, .invokevirtual 83, 123), (22, .ifCond .ne (5), 27), (25, .iconst (-1), 0), (26, .ireturn, 0), (27, .aload_n 0, 0), (28, .getfield 28, 2), (31, .iconst 2, 0), (32, .invokevirtual 127, 124), (35, .ifCond .eq (8), 43), (38, .ldc 162, 65536), (40, .goto (4), 44), (43, .iconst 0, 0), (44, .istore_n 1, 0), (45, .aload_n 0, 0), (46, .getfield 28, 2), (49, .iconst 5, 0), (50, .invokevirtual 130, 125), (53, .sipush 256, 0), (56, .aload_n 0, 0), (57, .getfield 28, 2), (60, .bipush 7, 0), (62, .invokevirtual 130, 125), (65, .imul, 0), (66, .iadd, 0), (67, .iload_n 1, 0), (68, .iadd, 0), (69, .ldc 163, 131072), (71, .aload_n 0, 0), (72, .getfield 28, 2), (75, .iconst 4, 0), (76, .invokevirtual 130, 125), (79, .imul, 0), (80, .iadd, 0), (81, .ireturn, 0)]
def iv_m10 : List (Nat × Instr × Nat) := [(0, .aload_n 0, 0), (1, .getfield 10, 0), (4, .invokevirtual 164, 56), (7, .ifCond .ne (13), 20), (10, .iload_n 1, 0), (11, .ifCond .lt (9), 20), (14, .iload_n 1, 0), (15, .bipush 40, 0), (17, .if_icmp .le (5), 22), (20, .iconst 0, 0), (21, .ireturn, 0), (22, .aload_n 0, 0), (23, .getfield 10, 0), (26, .iload_n 1, 0), (27, .invokevirtual 167, 58), (30, .iconst 1, 0), (31, .ireturn, 0)]
def iv_m11 : List (Nat × Instr × Nat) := [(0, .iload_n 1, 0), (1, .invokestatic 170, 2025), (4, .ifCond .eq (14), 18), (7, .aload_n 0, 0), (8, .getfield 10, 0), (11, .iload_n 1, 0), (12, .invokevirtual 173, 60), (15, .ifCond .eq (5), 20), (18, .iconst 0, 0), (19, .ireturn, 0), (20, .aload_n 0, 0), (21, .getfield 10, 0), (24, .iload_n 1, 0), (25, .invokevirtual 176, 61), (28, .iconst 1, 0), (29, .ireturn, 0)]
def iv_m12 : List (Nat × Instr × Nat) := [(0, .aload_n 0, 0), (1, .getfield 10, 0), (4, .invokevirtual 164, 56), (7, .ifCond .ne (5), 12), (10, .iconst 0, 0), (11, .ireturn, 0), (12, .aload_n 0, 0), (13, .getfield 10, 0), (16, .invokevirtual 179, 57), (19, .iconst 1, 0), (20, .ireturn, 0)]
def iv_m13 : List (Nat × Instr × Nat) := [(0, .iload_n 3, 0), (1, .invokestatic 71, 2024), (4, .ifCond .ne (5), 9), (7, .iconst 0, 0), (8, .ireturn, 0), (9, .iload_n 1, 0), (10, .iload_n 2, 0), (11, .invokestatic 182, 2026), (14, .ifCond .eq (15), 29), (17, .aload_n 0, 0), (18, .getfield 10, 0), (21, .iload_n 1, 0), (22, .iload_n 2, 0), (23, .iload_n 3, 0), (24, .invokevirtual 186, 63), (27, .iconst 1, 0), (28, .ireturn, 0), (29, .iload_n 1, 0), (30, .iload_n 2, 0), (31, .invokestatic 190, 2027), (34, .ifCond .eq (15), 49), (37, .aload_n 0, 0), (38, .getfield 10, 0), (41, .iload_n 1, 0), (42, .iload_n 2, 0), (43, .iload_n 3, 0), (44, .invokevirtual 193, 65), (47, .iconst 1, 0), (48, .ireturn, 0), (49, .iconst 0, 0), (50, .ireturn, 0)]
def iv_m14 : List (Nat × Instr × Nat) := [(0, .iload_n 1, 0), (1, .iconst (-1), 0), (2, .if_icmp .ne (9), 11), (5, .aload_n 0, 0), (6, .iload_n 2, 0), (7, .invokevirtual 196, 23), (10, .ireturn, 0), (11, .iload_n 1, 0), (12, .iload_n 2, 0), (13, .invokestatic 182, 2026), (16, .ifCond .eq (13), 29), (19, .aload_n 0, 0), (20, .getfield 10, 0), (23, .iload_n 1, 0), (24, .iload_n 2, 0), (25, .invokevirtual 199, 62), (28, .ireturn, 0), (29, .iload_n 1, 0), (30, .iload_n 2, 0), (31, .invokestatic 190, 2027), (34, .ifCond .eq (15), 49), (37, .aload_n 0, 0), (38, .getfield 10, 0), (41, .iload_n 1, 0), (42, .iload_n 2, 0), (43, .invokevirtual 202, 64), (46, .goto (4), 50), (49, .iconst (-1), 0), (50, .ireturn, 0)]
def iv_m15 : List (Nat × Instr × Nat) := [(0, .aload_n 0, 0), (1, .invokevirtual 205, 16), (4, .aload_n 0, 0), (5, .getfield 60, 6), (8, .invokevirtual 208, 108), (11, .ireturn, 0)]
def iv_m16 : List (Nat × Instr × Nat) := [(0, .aload_n 0, 0), (1, .getfield 10, 0), (4, .invokevirtual 164, 56), (7, .ifCond .eq (11), 18), (10, .new 211, 1000), (18, .return_, 0)]
def iv_m17 : List (Nat × Instr × Nat) := [(0, .aload_n 0, 0), (1, .invokevirtual 205, 16), (4, .iload_n 1, 0), (5, .ifCond .eq (13), 18), (8, .aload_n 0, 0), (9, .getfield 19, 1), (12, .invokevirtual 214, 35), (15, .ifCond .ne (11), 26), (18, .new 217, 1001), (26, .return_, 0)]
def iv_m18 : List (Nat × Instr × Nat) := [(0, .iload_n 1, 0), (1, .bipush (-3), 0), (3, .if_icmp .ne (11), 14), (6, .new 107, 1002), (14, .iload_n 1, 0), (15, .bipush (-2), 0), (17, .if_icmp .ne (8), 25), (20, .bipush (-2), 0), (22, .goto (4), 26), (25, .iload_n 2, 0), (26, .ireturn, 0)]
def iv_m19 : List (Nat × Instr × Nat) := [(0, .aload_n 0, 0), (1, .getfield 53, 5), (4, .invokevirtual 220, 45), (7, .iload_n 1, 0), (8, .ifCond .eq (13), 21), (11, .aload_n 0, 0), (12, .getfield 53, 5), (15, .invokevirtual 223, 48), (18, .goto (4), 22), (21, .iconst 0, 0), (22, .istore 5, 0), (24, .iload 5, 0), (26, .ifCond .ge (6), 32), (29, .iload 5, 0), (31, .ireturn, 0), (32, .aload_n 0, 0), (33, .getfield 28, 2), (36, .invokevirtual 94, 122), (39, .astore 6, 0), (41, .aload_n 0, 0), (42, .getfield 44, 4), (45, .invokevirtual 226, 130), (48, .istore 7, 0), (50, .iload 4, 0), (52, .istore 8, 0), (54, .iload 8, 0), (56, .iconst 1, 0), (57, .if_icmp .lt (69), 126), (60, .iload 8, 0), (62, .iload 4, 0), (64, .if_icmp .ne (11), 75), (67, .iload 8, 0), (69, .bipush 64, 0), (71, .iadd, 0), (72, .goto (5), 77), (75, .iload 8, 0), (77, .istore 9, 0), (79, .aload 6, 0), (81, .iload_n 3, 0), (82, .iload 4, 0), (84, .iadd, 0), (85, .iload 8, 0), (87, .isub, 0), (88, .iload 9, 0), (90, .iload 7, 0), (92, .invokevirtual 229, 96), (95, .aload_n 0, 0), (96, .getfield 19, 1), (99, .aload_n 0, 0), (100, .getfield 28, 2), (103, .invokevirtual 86, 120), (106, .iload 8, 0), (108, .aload 6, 0), (110, .iload_n 3, 0), (111, .iload 4, 0), (113, .iadd, 0), (114, .iload 8, 0), (116, .isub, 0), (117, .invokevirtual 232, 43), (120, .iinc 8 (-1), 0), (123, .goto (-69), 54), (126, .aload 6, 0), (128, .iload_n 3, 0), (129, .iload 4, 0), (131, .iadd, 0), (132, .iload_n 1, 0), (133, .ifCond .eq (7), 140), (136, .iconst 2, 0), (137, .goto (4), 141), (140, .iconst 1, 0), (141, .iload 5, 0), (143, .iload_n 2, 0), (144, .invokevirtual 236, 95), (147, .aload_n 0, 0), (148, .getfield 44, 4), (151, .aload 6, 0), (153, .iload_n 3, 0), (154, .iload 4, 0), (156, .iadd, 0), (157, .invokevirtual 240, 131), (160, .aload_n 0, 0), (161, .getfield 53, 5), (164, .invokevirtual 244, 51), (167, .ireturn, 0)]
def iv_m20 : List (Nat × Instr × Nat) := [(0, .aload_n 0, 0), (1, .getfield 28, 2), (4, .invokevirtual 94, 122), (7, .astore_n 1, 0), (8, .aload_n 1, 0), (9, .invokevirtual 247, 90), (12, .istore_n 2, 0), (13, .aload_n 0, 0), (14, .getfield 53, 5), (17, .invokevirtual 220, 45), (20, .aload_n 0, 0), (21, .getfield 28, 2), (24, .iconst 1, 0), (25, .invokevirtual 127, 124), (28, .ifCond .eq (40), 68), (31, .aload_n 0, 0), (32, .getfield 37, 3), (35, .aload_n 0, 0), (36, .getfield 28, 2), (39, .iconst 4, 0), (40, .invokevirtual 130, 125), (43, .aload_n 0, 0), (44, .getfield 28, 2), (47, .iconst 5, 0), (48, .invokevirtual 130, 125), (51, .invokevirtual 138, 78), (54, .aload_n 0, 0), (55, .getfield 53, 5), (58, .aload_n 0, 0), (59, .getfield 37, 3), (62, .invokevirtual 250, 47), (65, .goto (18), 83), (68, .aload_n 0, 0), (69, .getfield 53, 5), (72, .aload_n 0, 0), (73, .getfield 28, 2), (76, .iconst 4, 0), (77, .invokevirtual 130, 125), (80, .invokevirtual 254, 46), (83, .aload_n 1, 0), (84, .iload_n 2, 0), (85, .aload_n 1, 0), (86, .iload_n 2, 0), (87, .invokevirtual 257, 101), (90, .isub, 0), (91, .iload_n 2, 0), (92, .iconst 1, 0), (93, .iadd, 0), (94, .invokevirtual 258, 94), (97, .aload_n 0, 0), (98, .getfield 53, 5), (101, .invokevirtual 244, 51), (104, .ireturn, 0)]
def iv_m21 : List (Nat × Instr × Nat) := [(0, .aload_n 0, 0), (1, .getfield 53, 5), (4, .invokevirtual 220, 45), (7, .aload_n 0, 0), (8, .getfield 53, 5), (11, .aload_n 0, 0), (12, .getfield 37, 3), (15, .invokevirtual 250, 47), (18, .aload_n 0, 0), (19, .getfield 53, 5), (22, .aload_n 0, 0), (23, .getfield 37, 3), (26, .iload_n 1, 0), (27, .invokevirtual 261, 49), (30, .istore_n 2, 0), (31, .iload_n 2, 0), (32, .ifCond .ge (5), 37), (35, .iload_n 2, 0), (36, .ireturn, 0), (37, .aload_n 0, 0), (38, .getfield 28, 2), (41, .iconst 4, 0), (42, .iload_n 2, 0), (43, .invokevirtual 146, 126), (46, .aload_n 0, 0), (47, .getfield 28, 2), (50, .iconst 5, 0), (51, .iload_n 1, 0), (52, .invokevirtual 146, 126), (55, .aload_n 0, 0), (56, .getfield 53, 5), (59, .invokevirtual 244, 51), (62, .ireturn, 0)]
def iv_m22 : List (Nat × Instr × Nat) := [(0, .aload_n 0, 0), (1, .getfield 28, 2), (4, .iconst 2, 0), (5, .invokevirtual 127, 124), (8, .ifCond .eq (25), 33), (11, .aload_n 0, 0), (12, .getfield 10, 0), (15, .aload_n 0, 0), (16, .getfield 28, 2), (19, .iconst 4, 0), (20, .invokevirtual 130, 125), (23, .invokevirtual 265, 69), (26, .ifCond .eq (7), 33), (29, .iconst 1, 0), (30, .goto (4), 34), (33, .iconst 0, 0), (34, .ireturn, 0)]
def iv_m23 : List (Nat × Instr × Nat) := [(0, .iload_n 1, 0), (1, .tableswitch (87) (0) (4) #[35, 43, 51, 60, 71], 35), (36, .aload_n 0, 0), (37, .getfield 10, 0), (40, .invokevirtual 268, 54), (43, .ireturn, 0), (44, .aload_n 0, 0), (45, .getfield 10, 0), (48, .invokevirtual 271, 55), (51, .ireturn, 0), (52, .aload_n 0, 0), (53, .getfield 10, 0), (56, .iconst 0, 0), (57, .invokevirtual 274, 68), (60, .ireturn, 0), (61, .aload_n 0, 0), (62, .getfield 10, 0), (65, .sipush 254, 0), (68, .invokevirtual 274, 68), (71, .ireturn, 0), (72, .aload_n 0, 0), (73, .getfield 10, 0), (76, .invokevirtual 164, 56), (79, .ifCond .eq (7), 86), (82, .iconst 1, 0), (83, .goto (4), 87), (86, .iconst 0, 0), (87, .ireturn, 0), (88, .iconst (-1), 0), (89, .ireturn, 0)]
def iv_m24 : List (Nat × Instr × Nat) := [(0, .iload_n 0, 0), (1, .ifCond .lt (14), 15), (4, .iload_n 0, 0), (5, .sipush 255, 0), (8, .if_icmp .gt (7), 15), (11, .iconst 1, 0), (12, .goto (4), 16), (15, .iconst 0, 0), (16, .ireturn, 0)]
def iv_m25 : List (Nat × Instr × Nat) := [(0, .iload_n 0, 0), (1, .iconst 2, 0), (2, .if_icmp .lt (13), 15), (5, .iload_n 0, 0), (6, .bipush 32, 0), (8, .if_icmp .ge (7), 15), (11, .iconst 1, 0), (12, .goto (4), 16), (15, .iconst 0, 0), (16, .ireturn, 0)]
def iv_m26 : List (Nat × Instr × Nat) := [(0, .iload_n 0, 0), (1, .ifCond .eq (8), 9), (4, .iload_n 0, 0), (5, .iconst 1, 0), (6, .if_icmp .ne (17), 23), (9, .iload_n 1, 0), (10, .ifCond .lt (13), 23), (13, .iload_n 1, 0), (14, .bipush 32, 0), (16, .if_icmp .ge (7), 23), (19, .iconst 1, 0), (20, .goto (4), 24), (23, .iconst 0, 0), (24, .ireturn, 0)]
def iv_m27 : List (Nat × Instr × Nat) := [(0, .iload_n 0, 0), (1, .invokestatic 170, 2025), (4, .ifCond .eq (17), 21), (7, .iload_n 1, 0), (8, .ifCond .lt (13), 21), (11, .iload_n 1, 0), (12, .bipush 64, 0), (14, .if_icmp .ge (7), 21), (17, .iconst 1, 0), (18, .goto (4), 22), (21, .iconst 0, 0), (22, .ireturn, 0)]
def iv_m28 : List (Nat × Instr × Nat) := [(0, .iload_n 0, 0), (1, .bipush 48, 0), (3, .if_icmp .lt (13), 16), (6, .iload_n 0, 0), (7, .bipush 57, 0), (9, .if_icmp .gt (7), 16), (12, .iconst 1, 0), (13, .goto (4), 17), (16, .iconst 0, 0), (17, .ireturn, 0)]
def iv_m29 : List (Nat × Instr × Nat) := [(0, .iload_n 0, 0), (1, .bipush 97, 0), (3, .if_icmp .lt (19), 22), (6, .iload_n 0, 0), (7, .bipush 122, 0), (9, .if_icmp .gt (13), 22), (12, .iload_n 0, 0), (13, .bipush 97, 0), (15, .isub, 0), (16, .bipush 65, 0), (18, .iadd, 0), (19, .goto (4), 23), (22, .iload_n 0, 0), (23, .ireturn, 0)]
def iv_m30 : List (Nat × Instr × Nat) := [(0, .iload_n 0, 0), (1, .invokestatic 277, 2029), (4, .istore_n 1, 0), (5, .iload_n 1, 0), (6, .bipush 65, 0), (8, .if_icmp .lt (13), 21), (11, .iload_n 1, 0), (12, .bipush 90, 0), (14, .if_icmp .gt (7), 21), (17, .iconst 1, 0), (18, .goto (4), 22), (21, .iconst 0, 0), (22, .ireturn, 0)]
def iv_m31 : List (Nat × Instr × Nat) := [(0, .iconst 4, 0), (1, .iload_n 0, 0), (2, .imul, 0), (3, .iconst 2, 0), (4, .iload_n 1, 0), (5, .imul, 0), (6, .iadd, 0), (7, .iload_n 2, 0), (8, .iadd, 0), (9, .sipush 255, 0), (12, .iand, 0), (13, .ireturn, 0)]
def iv_m32 : List (Nat × Instr × Nat) := [(0, .aload_n 0, 0), (1, .invokespecial 3, 6000), (4, .aload_n 0, 0), (5, .bipush 40, 0), (7, .newarray .int, 0), (9, .putfield 9, 100), (12, .aload_n 0, 0), (13, .iconst 4, 0), (14, .newarray .int, 0), (16, .putfield 15, 101), (19, .aload_n 0, 0), (20, .iconst 4, 0), (21, .newarray .int, 0), (23, .putfield 18, 102), (26, .return_, 0)]
def iv_m33 : List (Nat × Instr × Nat) := [(0, .aload_n 0, 0), (1, .iconst 0, 0), (2, .putfield 21, 103), (5, .return_, 0)]
def iv_m34 : List (Nat × Instr × Nat) := [(0, .iconst 0, 0), (1, .istore_n 3, 0), (2, .bipush 56, 0), (4, .istore 4, 0), (6, .iload 4, 0), (8, .ifCond .lt (54), 62), (11, .lload_n 1, 0), (12, .iload 4, 0), (14, .lushr, 0), (15, .l2i, 0), (16, .sipush 255, 0), (19, .iand, 0), (20, .istore 5, 0), (22, .iload 5, 0), (24, .ifCond .eq (19), 43), (27, .iload 5, 0), (29, .bipush 33, 0), (31, .if_icmp .lt (10), 41), (34, .iload 5, 0), (36, .bipush 126, 0), (38, .if_icmp .le (5), 43), (41, .iconst 0, 0), (42, .ireturn, 0), (43, .iload_n 3, 0), (44, .iload 5, 0), (46, .ifCond .ne (7), 53), (49, .iconst 0, 0), (50, .goto (4), 54), (53, .iconst 1, 0), (54, .iadd, 0), (55, .istore_n 3, 0), (56, .iinc 4 (-8), 0), (59, .goto (-53), 6), (62, .aload_n 0, 0), (63, .getfield 21, 103), (66, .iload_n 3, 0), (67, .iadd, 0), (68, .bipush 40, 0), (70, .if_icmp .le (5), 75), (73, .iconst 0, 0), (74, .ireturn, 0), (75, .bipush 56, 0), (77, .istore 4, 0), (79, .iload 4, 0), (81, .ifCond .lt (46), 127), (84, .lload_n 1, 0), (85, .iload 4, 0), (87, .lushr, 0), (88, .l2i, 0), (89, .sipush 255, 0), (92, .iand, 0), (93, .istore 5, 0), (95, .iload 5, 0), (97, .ifCond .eq (24), 121), (100, .aload_n 0, 0), (101, .getfield 9, 100), (104, .aload_n 0, 0), (105, .getfield 21, 103), (108, .iload 5, 0), (110, .iastore, 0), (111, .aload_n 0, 0), (112, .dup, 0), (113, .getfield 21, 103), (116, .iconst 1, 0), (117, .iadd, 0), (118, .putfield 21, 103), (121, .iinc 4 (-8), 0), (124, .goto (-45), 79), (127, .iconst 1, 0), (128, .ireturn, 0)]
def iv_m35 : List (Nat × Instr × Nat) := [(0, .aload_n 0, 0), (1, .iconst 0, 0), (2, .putfield 25, 104), (5, .iconst 0, 0), (6, .istore_n 1, 0), (7, .iconst 0, 0), (8, .istore_n 2, 0), (9, .iload_n 2, 0), (10, .aload_n 0, 0), (11, .getfield 21, 103), (14, .if_icmp .gt (87), 101), (17, .iload_n 2, 0), (18, .aload_n 0, 0), (19, .getfield 21, 103), (22, .if_icmp .eq (14), 36), (25, .aload_n 0, 0), (26, .getfield 9, 100), (29, .iload_n 2, 0), (30, .iaload, 0), (31, .bipush 47, 0), (33, .if_icmp .ne (62), 95), (36, .iload_n 2, 0), (37, .iload_n 1, 0), (38, .isub, 0), (39, .istore_n 3, 0), (40, .iload_n 3, 0), (41, .iconst 1, 0), (42, .if_icmp .lt (17), 59), (45, .iload_n 3, 0), (46, .bipush 10, 0), (48, .if_icmp .gt (11), 59), (51, .aload_n 0, 0), (52, .getfield 25, 104), (55, .iconst 4, 0), (56, .if_icmp .ne (5), 61), (59, .iconst 0, 0), (60, .ireturn, 0), (61, .aload_n 0, 0), (62, .getfield 15, 101), (65, .aload_n 0, 0), (66, .getfield 25, 104), (69, .iload_n 1, 0), (70, .iastore, 0), (71, .aload_n 0, 0), (72, .getfield 18, 102), (75, .aload_n 0, 0), (76, .getfield 25, 104), (79, .iload_n 3, 0), (80, .iastore, 0), (81, .aload_n 0, 0), (82, .dup, 0), (83, .getfield 25, 104), (86, .iconst 1, 0), (87, .iadd, 0), (88, .putfield 25, 104), (91, .iload_n 2, 0), (92, .iconst 1, 0), (93, .iadd, 0), (94, .istore_n 1, 0), (95, .iinc 2 (1), 0), (98, .goto (-89), 9), (101, .iconst 1, 0), (102, .ireturn, 0)]
def iv_m36 : List (Nat × Instr × Nat) := [(0, .aload_n 0, 0), (1, .getfield 25, 104), (4, .ireturn, 0)]
def iv_m37 : List (Nat × Instr × Nat) := [(0, .aload_n 0, 0), (1, .getfield 18, 102), (4, .iload_n 1, 0), (5, .iaload, 0), (6, .ireturn, 0)]
def iv_m38 : List (Nat × Instr × Nat) := [(0, .aload_n 0, 0), (1, .getfield 9, 100), (4, .aload_n 0, 0), (5, .getfield 15, 101), (8, .iload_n 1, 0), (9, .iaload, 0), (10, .iload_n 2, 0), (11, .iadd, 0), (12, .iaload, 0), (13, .ireturn, 0)]
def iv_m39 : List (Nat × Instr × Nat) := [(0, .aload_n 0, 0), (1, .iload_n 1, 0), (2, .iload_n 2, 0), (3, .invokevirtual 28, 38), (6, .invokestatic 32, 3029), (9, .iload_n 3, 0), (10, .invokestatic 32, 3029), (13, .if_icmp .ne (7), 20), (16, .iconst 1, 0), (17, .goto (4), 21), (20, .iconst 0, 0), (21, .ireturn, 0)]
def iv_m40 : List (Nat × Instr × Nat) := [(0, .aload_n 0, 0), (1, .iload_n 1, 0), (2, .invokevirtual 36, 37), (5, .iconst 3, 0), (6, .if_icmp .le (5), 11), (9, .iconst 0, 0), (10, .ireturn, 0), (11, .iconst 0, 0), (12, .istore_n 2, 0), (13, .iload_n 2, 0), (14, .aload_n 0, 0), (15, .iload_n 1, 0), (16, .invokevirtual 36, 37), (19, .if_icmp .ge (37), 56), (22, .aload_n 0, 0), (23, .iload_n 1, 0), (24, .iload_n 2, 0), (25, .invokevirtual 28, 38), (28, .istore_n 3, 0), (29, .iload_n 3, 0), (30, .invokestatic 39, 3028), (33, .ifCond .ne (17), 50), (36, .iload_n 3, 0), (37, .bipush 65, 0), (39, .if_icmp .lt (9), 48), (42, .iload_n 3, 0), (43, .bipush 90, 0), (45, .if_icmp .le (5), 50), (48, .iconst 0, 0), (49, .ireturn, 0), (50, .iinc 2 (1), 0), (53, .goto (-40), 13), (56, .iconst 1, 0), (57, .ireturn, 0)]
def iv_m41 : List (Nat × Instr × Nat) := [(0, .aload_n 0, 0), (1, .iload_n 1, 0), (2, .invokevirtual 43, 40), (5, .ifCond .eq (5), 10), (8, .iconst 0, 0), (9, .ireturn, 0), (10, .aload_n 0, 0), (11, .iload_n 1, 0), (12, .invokevirtual 36, 37), (15, .iconst 5, 0), (16, .if_icmp .le (7), 23), (19, .iconst 2, 0), (20, .goto (4), 24), (23, .iconst 1, 0), (24, .ireturn, 0)]
def iv_m42 : List (Nat × Instr × Nat) := [(0, .iconst 0, 0), (1, .istore_n 2, 0), (2, .iload_n 2, 0), (3, .aload_n 0, 0), (4, .iload_n 1, 0), (5, .invokevirtual 36, 37), (8, .if_icmp .ge (35), 43), (11, .aload_n 0, 0), (12, .iload_n 1, 0), (13, .iload_n 2, 0), (14, .invokevirtual 28, 38), (17, .istore_n 3, 0), (18, .iload_n 3, 0), (19, .invokestatic 46, 3030), (22, .ifCond .ne (10), 32), (25, .iload_n 3, 0), (26, .invokestatic 39, 3028), (29, .ifCond .eq (8), 37), (32, .iload_n 3, 0), (33, .invokestatic 32, 3029), (36, .ireturn, 0), (37, .iinc 2 (1), 0), (40, .goto (-38), 2), (43, .bipush 95, 0), (45, .ireturn, 0)]
def iv_m43 : List (Nat × Instr × Nat) := [(0, .iconst 5, 0), (1, .iload_n 2, 0), (2, .iconst 1, 0), (3, .isub, 0), (4, .imul, 0), (5, .istore 5, 0), (7, .iconst 0, 0), (8, .istore 6, 0), (10, .iload 6, 0), (12, .iconst 5, 0), (13, .if_icmp .ge (42), 55), (16, .iload 5, 0), (18, .iload 6, 0), (20, .iadd, 0), (21, .aload_n 0, 0), (22, .iload_n 1, 0), (23, .invokevirtual 36, 37), (26, .if_icmp .ge (29), 55), (29, .aload_n 3, 0), (30, .iload 4, 0), (32, .iconst 3, 0), (33, .iload 6, 0), (35, .iadd, 0), (36, .aload_n 0, 0), (37, .iload_n 1, 0), (38, .iload 5, 0), (40, .iload 6, 0), (42, .iadd, 0), (43, .invokevirtual 28, 38), (46, .invokevirtual 49, 93), (49, .iinc 6 (1), 0), (52, .goto (-42), 10), (55, .return_, 0)]
def iv_m44 : List (Nat × Instr × Nat) := [(0, .aload_n 0, 0), (1, .invokespecial 3, 6000), (4, .aload_n 0, 0), (5, .bipush 32, 0), (7, .newarray .int, 0), (9, .putfield 9, 202), (12, .aload_n 0, 0), (13, .bipush 32, 0), (15, .newarray .boolean, 0), (17, .putfield 15, 203), (20, .aload_n 0, 0), (21, .bipush 64, 0), (23, .newarray .int, 0), (25, .putfield 19, 204), (28, .aload_n 0, 0), (29, .aload_n 1, 0), (30, .putfield 22, 200), (33, .aload_n 0, 0), (34, .aload_n 2, 0), (35, .putfield 26, 201), (38, .return_, 0)]
def iv_m45 : List (Nat × Instr × Nat) := [(0, .aload_n 0, 0), (1, .getfield 22, 200), (4, .aload_n 0, 0), (5, .getfield 9, 202), (8, .invokevirtual 30, 72), (11, .iconst 0, 0), (12, .istore_n 1, 0), (13, .iload_n 1, 0), (14, .bipush 32, 0), (16, .if_icmp .ge (16), 32), (19, .aload_n 0, 0), (20, .getfield 15, 203), (23, .iload_n 1, 0), (24, .iconst 0, 0), (25, .bastore, 0), (26, .iinc 1 (1), 0), (29, .goto (-16), 13), (32, .iconst 0, 0), (33, .istore_n 1, 0), (34, .iload_n 1, 0), (35, .aload_n 0, 0), (36, .getfield 26, 201), (39, .invokevirtual 36, 120), (42, .if_icmp .gt (24), 66), (45, .aload_n 0, 0), (46, .aload_n 0, 0), (47, .getfield 26, 201), (50, .iload_n 1, 0), (51, .invokevirtual 42, 121), (54, .invokevirtual 46, 89), (57, .invokevirtual 51, 46), (60, .iinc 1 (1), 0), (63, .goto (-29), 34), (66, .return_, 0)]
def iv_m46 : List (Nat × Instr × Nat) := [(0, .iload_n 1, 0), (1, .invokestatic 55, 3025), (4, .ifCond .eq (10), 14), (7, .aload_n 0, 0), (8, .getfield 9, 202), (11, .iload_n 1, 0), (12, .iconst 0, 0), (13, .iastore, 0), (14, .return_, 0)]
def iv_m47 : List (Nat × Instr × Nat) := [(0, .iconst 0, 0), (1, .istore_n 2, 0), (2, .iload_n 2, 0), (3, .aload_n 1, 0), (4, .invokevirtual 59, 80), (7, .if_icmp .ge (18), 25), (10, .aload_n 0, 0), (11, .aload_n 1, 0), (12, .iload_n 2, 0), (13, .invokevirtual 64, 81), (16, .invokevirtual 51, 46), (19, .iinc 2 (1), 0), (22, .goto (-20), 2), (25, .return_, 0)]
def iv_m48 : List (Nat × Instr × Nat) := [(0, .aload_n 0, 0), (1, .aload_n 0, 0), (2, .getfield 19, 204), (5, .iconst 0, 0), (6, .invokevirtual 68, 50), (9, .ireturn, 0)]
def iv_m49 : List (Nat × Instr × Nat) := [(0, .iconst 0, 0), (1, .istore_n 3, 0), (2, .iconst 0, 0), (3, .istore 4, 0), (5, .iconst 0, 0), (6, .istore 5, 0), (8, .iload 5, 0), (10, .iload_n 2, 0), (11, .if_icmp .ge (53), 64), (14, .aload_n 0, 0), (15, .aload_n 1, 0), (16, .invokevirtual 72, 79), (19, .iload 5, 0), (21, .invokevirtual 68, 50), (24, .istore 6, 0), (26, .iload 6, 0), (28, .ifCond .ge (6), 34), (31, .iload 6, 0), (33, .ireturn, 0), (34, .iload 4, 0), (36, .ifCond .ne (9), 45), (39, .iload 6, 0), (41, .istore_n 3, 0), (42, .goto (12), 54), (45, .aload_n 0, 0), (46, .getfield 9, 202), (49, .iload 4, 0), (51, .iload 6, 0), (53, .iastore, 0), (54, .iload 6, 0), (56, .istore 4, 0), (58, .iinc 5 (64), 0), (61, .goto (-53), 8), (64, .iload_n 3, 0), (65, .ireturn, 0)]
def iv_m50 : List (Nat × Instr × Nat) := [(0, .iconst 2, 0), (1, .istore_n 3, 0), (2, .iload_n 3, 0), (3, .bipush 32, 0), (5, .if_icmp .ge (93), 98), (8, .aload_n 0, 0), (9, .getfield 22, 200), (12, .iload_n 3, 0), (13, .invokevirtual 76, 66), (16, .ifCond .ne (76), 92), (19, .aload_n 0, 0), (20, .getfield 15, 203), (23, .iload_n 3, 0), (24, .baload, 0), (25, .ifCond .eq (6), 31), (28, .goto (64), 92), (31, .aload_n 0, 0), (32, .getfield 15, 203), (35, .iload_n 3, 0), (36, .iconst 1, 0), (37, .bastore, 0), (38, .aload_n 0, 0), (39, .getfield 22, 200), (42, .invokevirtual 79, 59), (45, .ifCond .eq (6), 51), (48, .bipush (-2), 0), (50, .ireturn, 0), (51, .aload_n 0, 0), (52, .getfield 22, 200), (55, .iload_n 3, 0), (56, .invokevirtual 83, 60), (59, .ifCond .ne (24), 83), (62, .aload_n 0, 0), (63, .getfield 22, 200), (66, .iload_n 3, 0), (67, .aload_n 1, 0), (68, .iload_n 2, 0), (69, .invokevirtual 86, 71), (72, .aload_n 0, 0), (73, .getfield 9, 202), (76, .iload_n 3, 0), (77, .sipush 255, 0), (80, .iastore, 0), (81, .iload_n 3, 0), (82, .ireturn, 0), (83, .aload_n 0, 0), (84, .getfield 9, 202), (87, .iload_n 3, 0), (88, .sipush 254, 0), (91, .iastore, 0), (92, .iinc 3 (1), 0), (95, .goto (-93), 2), (98, .bipush (-3), 0), (100, .ireturn, 0)]
def iv_m51 : List (Nat × Instr × Nat) := [(0, .iconst 0, 0), (1, .istore_n 1, 0), (2, .aload_n 0, 0), (3, .getfield 26, 201), (6, .invokevirtual 36, 120), (9, .istore_n 2, 0), (10, .iload_n 2, 0), (11, .ifCond .lt (55), 66), (14, .aload_n 0, 0), (15, .getfield 26, 201), (18, .iload_n 2, 0), (19, .invokevirtual 42, 121), (22, .astore_n 3, 0), (23, .iload_n 2, 0), (24, .aload_n 0, 0), (25, .getfield 26, 201), (28, .invokevirtual 36, 120), (31, .if_icmp .ge (13), 44), (34, .aload_n 3, 0), (35, .aload_n 3, 0), (36, .invokevirtual 90, 90), (39, .iconst 4, 0), (40, .iload_n 1, 0), (41, .invokevirtual 93, 93), (44, .aload_n 0, 0), (45, .aload_n 3, 0), (46, .invokevirtual 97, 88), (49, .iconst 0, 0), (50, .invokevirtual 68, 50), (53, .istore_n 1, 0), (54, .iload_n 1, 0), (55, .ifCond .ge (5), 60), (58, .iload_n 1, 0), (59, .ireturn, 0), (60, .iinc 2 (-1), 0), (63, .goto (-53), 10), (66, .aload_n 0, 0), (67, .iload_n 1, 0), (68, .invokevirtual 98, 52), (71, .ireturn, 0)]
def iv_m52 : List (Nat × Instr × Nat) := [(0, .aload_n 0, 0), (1, .getfield 22, 200), (4, .invokevirtual 79, 59), (7, .ifCond .eq (6), 13), (10, .bipush (-2), 0), (12, .ireturn, 0), (13, .aload_n 0, 0), (14, .getfield 22, 200), (17, .aload_n 0, 0), (18, .getfield 9, 202), (21, .invokevirtual 101, 73), (24, .aload_n 0, 0), (25, .getfield 22, 200), (28, .invokevirtual 79, 59), (31, .ifCond .eq (6), 37), (34, .bipush (-2), 0), (36, .ireturn, 0), (37, .aload_n 0, 0), (38, .getfield 22, 200), (41, .iload_n 1, 0), (42, .invokevirtual 104, 74), (45, .iconst 0, 0), (46, .ireturn, 0)]
def iv_m53 : List (Nat × Instr × Nat) := [(0, .aload_n 0, 0), (1, .invokespecial 3, 6000), (4, .aload_n 0, 0), (5, .sipush 2048, 0), (8, .newarray .int, 0), (10, .putfield 9, 300), (13, .aload_n 0, 0), (14, .bipush 64, 0), (16, .newarray .int, 0), (18, .putfield 15, 301), (21, .aload_n 0, 0), (22, .bipush 32, 0), (24, .newarray .boolean, 0), (26, .putfield 18, 302), (29, .aload_n 0, 0), (30, .iconst 2, 0), (31, .putfield 22, 304), (34, .aload_n 0, 0), (35, .getfield 15, 301), (38, .iconst 2, 0), (39, .sipush 255, 0), (42, .iastore, 0), (43, .return_, 0)]
def iv_m54 : List (Nat × Instr × Nat) := [(0, .aload_n 0, 0), (1, .getfield 26, 303), (4, .ireturn, 0)]
def iv_m55 : List (Nat × Instr × Nat) := [(0, .aload_n 0, 0), (1, .getfield 22, 304), (4, .ireturn, 0)]
def iv_m56 : List (Nat × Instr × Nat) := [(0, .aload_n 0, 0), (1, .getfield 29, 306), (4, .ireturn, 0)]
def iv_m57 : List (Nat × Instr × Nat) := [(0, .aload_n 0, 0), (1, .iconst 0, 0), (2, .putfield 29, 306), (5, .aload_n 0, 0), (6, .iconst 0, 0), (7, .putfield 33, 305), (10, .return_, 0)]
def iv_m58 : List (Nat × Instr × Nat) := [(0, .aload_n 0, 0), (1, .iload_n 1, 0), (2, .putfield 33, 305), (5, .return_, 0)]
def iv_m59 : List (Nat × Instr × Nat) := [(0, .aload_n 0, 0), (1, .getfield 33, 305), (4, .ifCond .ne (5), 9), (7, .iconst 0, 0), (8, .ireturn, 0), (9, .aload_n 0, 0), (10, .dup, 0), (11, .getfield 33, 305), (14, .iconst 1, 0), (15, .isub, 0), (16, .putfield 33, 305), (19, .aload_n 0, 0), (20, .aload_n 0, 0), (21, .getfield 33, 305), (24, .ifCond .ne (7), 31), (27, .iconst 1, 0), (28, .goto (4), 32), (31, .iconst 0, 0), (32, .putfield 29, 306), (35, .aload_n 0, 0), (36, .getfield 29, 306), (39, .ireturn, 0)]
def iv_m60 : List (Nat × Instr × Nat) := [(0, .aload_n 0, 0), (1, .getfield 18, 302), (4, .iload_n 1, 0), (5, .baload, 0), (6, .ireturn, 0)]
def iv_m61 : List (Nat × Instr × Nat) := [(0, .aload_n 0, 0), (1, .getfield 18, 302), (4, .iload_n 1, 0), (5, .iconst 1, 0), (6, .bastore, 0), (7, .return_, 0)]
def iv_m62 : List (Nat × Instr × Nat) := [(0, .aload_n 0, 0), (1, .getfield 15, 301), (4, .bipush 32, 0), (6, .iload_n 1, 0), (7, .imul, 0), (8, .iload_n 2, 0), (9, .iadd, 0), (10, .iaload, 0), (11, .ireturn, 0)]
def iv_m63 : List (Nat × Instr × Nat) := [(0, .aload_n 0, 0), (1, .getfield 15, 301), (4, .bipush 32, 0), (6, .iload_n 1, 0), (7, .imul, 0), (8, .iload_n 2, 0), (9, .iadd, 0), (10, .iload_n 3, 0), (11, .iastore, 0), (12, .return_, 0)]
def iv_m64 : List (Nat × Instr × Nat) := [(0, .aload_n 0, 0), (1, .getfield 9, 300), (4, .bipush 64, 0), (6, .iload_n 1, 0), (7, .imul, 0), (8, .iload_n 2, 0), (9, .iadd, 0), (10, .iaload, 0), (11, .ireturn, 0)]
def iv_m65 : List (Nat × Instr × Nat) := [(0, .aload_n 0, 0), (1, .getfield 9, 300), (4, .bipush 64, 0), (6, .iload_n 1, 0), (7, .imul, 0), (8, .iload_n 2, 0), (9, .iadd, 0), (10, .iload_n 3, 0), (11, .iastore, 0), (12, .return_, 0)]
def iv_m66 : List (Nat × Instr × Nat) := [(0, .aload_n 0, 0), (1, .getfield 15, 301), (4, .bipush 32, 0), (6, .aload_n 0, 0), (7, .getfield 26, 303), (10, .imul, 0), (11, .iload_n 1, 0), (12, .iadd, 0), (13, .iaload, 0), (14, .ireturn, 0)]
def iv_m67 : List (Nat × Instr × Nat) := [(0, .aload_n 0, 0), (1, .getfield 15, 301), (4, .bipush 32, 0), (6, .aload_n 0, 0), (7, .getfield 26, 303), (10, .imul, 0), (11, .iload_n 1, 0), (12, .iadd, 0), (13, .iload_n 2, 0), (14, .iastore, 0), (15, .return_, 0)]
def iv_m68 : List (Nat × Instr × Nat) := [(0, .iconst 0, 0), (1, .istore_n 2, 0), (2, .iconst 2, 0), (3, .istore_n 3, 0), (4, .iload_n 3, 0), (5, .bipush 32, 0), (7, .if_icmp .ge (21), 28), (10, .aload_n 0, 0), (11, .iload_n 3, 0), (12, .invokevirtual 36, 66), (15, .iload_n 1, 0), (16, .if_icmp .ne (6), 22), (19, .iinc 2 (1), 0), (22, .iinc 3 (1), 0), (25, .goto (-21), 4), (28, .iload_n 2, 0), (29, .ireturn, 0)]
def iv_m69 : List (Nat × Instr × Nat) := [(0, .iload_n 1, 0), (1, .invokestatic 40, 3025), (4, .ifCond .ne (5), 9), (7, .iconst 0, 0), (8, .ireturn, 0), (9, .iconst 0, 0), (10, .istore_n 2, 0), (11, .iload_n 2, 0), (12, .bipush 8, 0), (14, .if_icmp .ge (25), 39), (17, .aload_n 0, 0), (18, .iload_n 1, 0), (19, .bipush 8, 0), (21, .iload_n 2, 0), (22, .imul, 0), (23, .iconst 0, 0), (24, .iadd, 0), (25, .invokevirtual 44, 64), (28, .ifCond .eq (5), 33), (31, .iconst 1, 0), (32, .ireturn, 0), (33, .iinc 2 (1), 0), (36, .goto (-25), 11), (39, .iconst 0, 0), (40, .ireturn, 0)]
def iv_m70 : List (Nat × Instr × Nat) := [(0, .aload_n 0, 0), (1, .getfield 9, 300), (4, .bipush 64, 0), (6, .iload_n 1, 0), (7, .imul, 0), (8, .aload_n 2, 0), (9, .iload_n 3, 0), (10, .bipush 64, 0), (12, .invokestatic 48, 9000), (15, .return_, 0)]
def iv_m71 : List (Nat × Instr × Nat) := [(0, .aload_n 2, 0), (1, .iload_n 3, 0), (2, .aload_n 0, 0), (3, .getfield 9, 300), (6, .bipush 64, 0), (8, .iload_n 1, 0), (9, .imul, 0), (10, .bipush 64, 0), (12, .invokestatic 48, 9000), (15, .return_, 0)]
def iv_m72 : List (Nat × Instr × Nat) := [(0, .aload_n 0, 0), (1, .getfield 15, 301), (4, .bipush 32, 0), (6, .aload_n 0, 0), (7, .getfield 26, 303), (10, .imul, 0), (11, .aload_n 1, 0), (12, .iconst 0, 0), (13, .bipush 32, 0), (15, .invokestatic 48, 9000), (18, .return_, 0)]
def iv_m73 : List (Nat × Instr × Nat) := [(0, .aload_n 1, 0), (1, .iconst 0, 0), (2, .aload_n 0, 0), (3, .getfield 15, 301), (6, .bipush 32, 0), (8, .iconst 1, 0), (9, .aload_n 0, 0), (10, .getfield 26, 303), (13, .isub, 0), (14, .imul, 0), (15, .bipush 32, 0), (17, .invokestatic 48, 9000), (20, .return_, 0)]
def iv_m74 : List (Nat × Instr × Nat) := [(0, .aload_n 0, 0), (1, .iconst 1, 0), (2, .aload_n 0, 0), (3, .getfield 26, 303), (6, .isub, 0), (7, .putfield 26, 303), (10, .aload_n 0, 0), (11, .iload_n 1, 0), (12, .putfield 22, 304), (15, .return_, 0)]
def iv_m75 : List (Nat × Instr × Nat) := [(0, .aload_n 0, 0), (1, .getfield 9, 300), (4, .iconst 0, 0), (5, .aload_n 1, 0), (6, .iconst 0, 0), (7, .aload_n 0, 0), (8, .getfield 9, 300), (11, .arraylength, 0), (12, .invokestatic 48, 9000), (15, .aload_n 0, 0), (16, .getfield 15, 301), (19, .iconst 0, 0), (20, .aload_n 1, 0), (21, .aload_n 0, 0), (22, .getfield 9, 300), (25, .arraylength, 0), (26, .aload_n 0, 0), (27, .getfield 15, 301), (30, .arraylength, 0), (31, .invokestatic 48, 9000), (34, .return_, 0)]
def iv_m76 : List (Nat × Instr × Nat) := [(0, .iconst 0, 0), (1, .istore_n 2, 0), (2, .iconst 0, 0), (3, .istore_n 3, 0), (4, .iload_n 3, 0), (5, .aload_n 0, 0), (6, .getfield 9, 300), (9, .arraylength, 0), (10, .if_icmp .ge (24), 34), (13, .aload_n 0, 0), (14, .getfield 9, 300), (17, .iload_n 3, 0), (18, .iaload, 0), (19, .aload_n 1, 0), (20, .iload_n 3, 0), (21, .iaload, 0), (22, .if_icmp .eq (6), 28), (25, .iinc 2 (1), 0), (28, .iinc 3 (1), 0), (31, .goto (-27), 4), (34, .iconst 0, 0), (35, .istore_n 3, 0), (36, .iload_n 3, 0), (37, .aload_n 0, 0), (38, .getfield 15, 301), (41, .arraylength, 0), (42, .if_icmp .ge (30), 72), (45, .aload_n 0, 0), (46, .getfield 15, 301), (49, .iload_n 3, 0), (50, .iaload, 0), (51, .aload_n 1, 0), (52, .aload_n 0, 0), (53, .getfield 9, 300), (56, .arraylength, 0), (57, .iload_n 3, 0), (58, .iadd, 0), (59, .iaload, 0), (60, .if_icmp .eq (6), 66), (63, .iinc 2 (1), 0), (66, .iinc 3 (1), 0), (69, .goto (-33), 36), (72, .iload_n 2, 0), (73, .ireturn, 0)]
def iv_m77 : List (Nat × Instr × Nat) := [(0, .aload_n 0, 0), (1, .invokespecial 3, 6000), (4, .aload_n 0, 0), (5, .sipush 256, 0), (8, .newarray .int, 0), (10, .putfield 9, 401), (13, .aload_n 0, 0), (14, .iconst 4, 0), (15, .newarray .int, 0), (17, .putfield 15, 402), (20, .aload_n 0, 0), (21, .aload_n 1, 0), (22, .putfield 18, 400), (25, .return_, 0)]
def iv_m78 : List (Nat × Instr × Nat) := [(0, .aload_n 0, 0), (1, .iconst 0, 0), (2, .putfield 22, 403), (5, .iload_n 1, 0), (6, .istore_n 3, 0), (7, .aload_n 0, 0), (8, .getfield 22, 403), (11, .iconst 4, 0), (12, .if_icmp .ge (72), 84), (15, .bipush 64, 0), (17, .aload_n 0, 0), (18, .getfield 22, 403), (21, .imul, 0), (22, .iload_n 2, 0), (23, .if_icmp .ge (61), 84), (26, .iload_n 3, 0), (27, .invokestatic 26, 3025), (30, .ifCond .eq (54), 84), (33, .aload_n 0, 0), (34, .getfield 18, 400), (37, .iload_n 3, 0), (38, .aload_n 0, 0), (39, .getfield 9, 401), (42, .bipush 64, 0), (44, .aload_n 0, 0), (45, .getfield 22, 403), (48, .imul, 0), (49, .invokevirtual 30, 70), (52, .aload_n 0, 0), (53, .getfield 15, 402), (56, .aload_n 0, 0), (57, .getfield 22, 403), (60, .iload_n 3, 0), (61, .iastore, 0), (62, .aload_n 0, 0), (63, .dup, 0), (64, .getfield 22, 403), (67, .iconst 1, 0), (68, .iadd, 0), (69, .putfield 22, 403), (72, .aload_n 0, 0), (73, .getfield 18, 400), (76, .iload_n 3, 0), (77, .invokevirtual 36, 66), (80, .istore_n 3, 0), (81, .goto (-74), 7), (84, .aload_n 0, 0), (85, .iload_n 2, 0), (86, .bipush 64, 0), (88, .aload_n 0, 0), (89, .getfield 22, 403), (92, .imul, 0), (93, .invokestatic 40, 8000), (96, .putfield 46, 404), (99, .aload_n 0, 0), (100, .aload_n 0, 0), (101, .getfield 46, 404), (104, .invokevirtual 49, 85), (107, .return_, 0)]
def iv_m79 : List (Nat × Instr × Nat) := [(0, .aload_n 0, 0), (1, .getfield 9, 401), (4, .areturn, 0)]
def iv_m80 : List (Nat × Instr × Nat) := [(0, .aload_n 0, 0), (1, .getfield 22, 403), (4, .ireturn, 0)]
def iv_m81 : List (Nat × Instr × Nat) := [(0, .aload_n 0, 0), (1, .getfield 15, 402), (4, .iload_n 1, 0), (5, .iaload, 0), (6, .ireturn, 0)]
def iv_m82 : List (Nat × Instr × Nat) := [(0, .iload_n 1, 0), (1, .ifCond .lt (15), 16), (4, .iload_n 1, 0), (5, .aload_n 0, 0), (6, .getfield 46, 404), (9, .if_icmp .ge (7), 16), (12, .iconst 1, 0), (13, .goto (4), 17), (16, .iconst 0, 0), (17, .ireturn, 0)]
def iv_m83 : List (Nat × Instr × Nat) := [(0, .aload_n 0, 0), (1, .getfield 9, 401), (4, .iload_n 1, 0), (5, .iaload, 0), (6, .ireturn, 0)]
def iv_m84 : List (Nat × Instr × Nat) := [(0, .iconst 0, 0), (1, .istore 5, 0), (3, .iload 5, 0), (5, .iload 4, 0), (7, .if_icmp .ge (35), 42), (10, .aload_n 0, 0), (11, .getfield 9, 401), (14, .iload_n 1, 0), (15, .iload 5, 0), (17, .iadd, 0), (18, .lload_n 2, 0), (19, .bipush 8, 0), (21, .iload 4, 0), (23, .iconst 1, 0), (24, .isub, 0), (25, .iload 5, 0), (27, .isub, 0), (28, .imul, 0), (29, .lushr, 0), (30, .l2i, 0), (31, .sipush 255, 0), (34, .iand, 0), (35, .iastore, 0), (36, .iinc 5 (1), 0), (39, .goto (-36), 3), (42, .return_, 0)]
def iv_m85 : List (Nat × Instr × Nat) := [(0, .iload_n 1, 0), (1, .istore_n 2, 0), (2, .iload_n 2, 0), (3, .aload_n 0, 0), (4, .getfield 9, 401), (7, .arraylength, 0), (8, .if_icmp .ge (16), 24), (11, .aload_n 0, 0), (12, .getfield 9, 401), (15, .iload_n 2, 0), (16, .iconst 0, 0), (17, .iastore, 0), (18, .iinc 2 (1), 0), (21, .goto (-19), 2), (24, .return_, 0)]
def iv_m86 : List (Nat × Instr × Nat) := [(0, .aload_n 0, 0), (1, .invokespecial 3, 6000), (4, .aload_n 0, 0), (5, .bipush 64, 0), (7, .newarray .int, 0), (9, .putfield 9, 500), (12, .return_, 0)]
def iv_m87 : List (Nat × Instr × Nat) := [(0, .aload_n 1, 0), (1, .iload_n 2, 0), (2, .aload_n 0, 0), (3, .getfield 9, 500), (6, .iconst 0, 0), (7, .invokevirtual 15, 70), (10, .aload_n 0, 0), (11, .iload_n 2, 0), (12, .putfield 21, 501), (15, .return_, 0)]
def iv_m88 : List (Nat × Instr × Nat) := [(0, .aload_n 0, 0), (1, .getfield 9, 500), (4, .areturn, 0)]
def iv_m89 : List (Nat × Instr × Nat) := [(0, .aload_n 0, 0), (1, .getfield 21, 501), (4, .ireturn, 0)]
def iv_m90 : List (Nat × Instr × Nat) := [(0, .aload_n 0, 0), (1, .getfield 25, 502), (4, .ireturn, 0)]
def iv_m91 : List (Nat × Instr × Nat) := [(0, .aload_n 0, 0), (1, .iload_n 1, 0), (2, .putfield 25, 502), (5, .return_, 0)]
def iv_m92 : List (Nat × Instr × Nat) := [(0, .aload_n 0, 0), (1, .getfield 9, 500), (4, .bipush 8, 0), (6, .iload_n 1, 0), (7, .imul, 0), (8, .iload_n 2, 0), (9, .iadd, 0), (10, .iaload, 0), (11, .ireturn, 0)]
def iv_m93 : List (Nat × Instr × Nat) := [(0, .aload_n 0, 0), (1, .getfield 9, 500), (4, .bipush 8, 0), (6, .iload_n 1, 0), (7, .imul, 0), (8, .iload_n 2, 0), (9, .iadd, 0), (10, .iload_n 3, 0), (11, .iastore, 0), (12, .return_, 0)]
def iv_m94 : List (Nat × Instr × Nat) := [(0, .bipush 8, 0), (2, .iload_n 1, 0), (3, .imul, 0), (4, .istore_n 3, 0), (5, .iload_n 3, 0), (6, .bipush 8, 0), (8, .iload_n 2, 0), (9, .imul, 0), (10, .if_icmp .ge (16), 26), (13, .aload_n 0, 0), (14, .getfield 9, 500), (17, .iload_n 3, 0), (18, .iconst 0, 0), (19, .iastore, 0), (20, .iinc 3 (1), 0), (23, .goto (-18), 5), (26, .return_, 0)]
def iv_m95 : List (Nat × Instr × Nat) := [(0, .aload_n 0, 0), (1, .iload_n 1, 0), (2, .iload_n 1, 0), (3, .iconst 1, 0), (4, .iadd, 0), (5, .invokevirtual 28, 94), (8, .aload_n 0, 0), (9, .iload_n 1, 0), (10, .iconst 0, 0), (11, .iload_n 2, 0), (12, .invokevirtual 32, 93), (15, .aload_n 0, 0), (16, .iload_n 1, 0), (17, .iconst 4, 0), (18, .iload_n 3, 0), (19, .invokevirtual 32, 93), (22, .aload_n 0, 0), (23, .iload_n 1, 0), (24, .bipush 7, 0), (26, .iload 4, 0), (28, .invokevirtual 32, 93), (31, .return_, 0)]
def iv_m96 : List (Nat × Instr × Nat) := [(0, .aload_n 0, 0), (1, .iload_n 1, 0), (2, .iload_n 1, 0), (3, .iconst 1, 0), (4, .iadd, 0), (5, .invokevirtual 28, 94), (8, .aload_n 0, 0), (9, .iload_n 1, 0), (10, .iconst 0, 0), (11, .bipush 15, 0), (13, .invokevirtual 32, 93), (16, .aload_n 0, 0), (17, .iload_n 1, 0), (18, .iconst 1, 0), (19, .iload_n 2, 0), (20, .invokevirtual 32, 93), (23, .aload_n 0, 0), (24, .iload_n 1, 0), (25, .iconst 2, 0), (26, .iload_n 3, 0), (27, .invokevirtual 32, 93), (30, .return_, 0)]
def iv_m97 : List (Nat × Instr × Nat) := [(0, .aload_n 0, 0), (1, .iload_n 1, 0), (2, .iconst 0, 0), (3, .invokevirtual 36, 92), (6, .iconst 1, 0), (7, .if_icmp .eq (13), 20), (10, .aload_n 0, 0), (11, .iload_n 1, 0), (12, .iconst 0, 0), (13, .invokevirtual 36, 92), (16, .iconst 2, 0), (17, .if_icmp .ne (7), 24), (20, .iconst 1, 0), (21, .goto (4), 25), (24, .iconst 0, 0), (25, .ireturn, 0)]
def iv_m98 : List (Nat × Instr × Nat) := [(0, .iconst 0, 0), (1, .istore_n 2, 0), (2, .iconst 0, 0), (3, .istore_n 3, 0), (4, .iload_n 3, 0), (5, .bipush 8, 0), (7, .if_icmp .ge (37), 44), (10, .aload_n 0, 0), (11, .iload_n 3, 0), (12, .iconst 0, 0), (13, .invokevirtual 36, 92), (16, .ifCond .ne (9), 25), (19, .iload_n 2, 0), (20, .iconst 1, 0), (21, .iadd, 0), (22, .goto (4), 26), (25, .iconst 0, 0), (26, .istore_n 2, 0), (27, .iload_n 2, 0), (28, .iload_n 1, 0), (29, .if_icmp .ne (9), 38), (32, .iload_n 3, 0), (33, .iload_n 1, 0), (34, .isub, 0), (35, .iconst 1, 0), (36, .iadd, 0), (37, .ireturn, 0), (38, .iinc 3 (1), 0), (41, .goto (-37), 4), (44, .iconst (-1), 0), (45, .ireturn, 0)]
def iv_m99 : List (Nat × Instr × Nat) := [(0, .iconst 0, 0), (1, .istore_n 3, 0), (2, .iload_n 3, 0), (3, .bipush 8, 0), (5, .if_icmp .ge (39), 44), (8, .aload_n 0, 0), (9, .iload_n 3, 0), (10, .invokevirtual 40, 97), (13, .ifCond .eq (25), 38), (16, .aload_n 0, 0), (17, .iload_n 3, 0), (18, .aload_n 1, 0), (19, .iload_n 2, 0), (20, .invokevirtual 44, 105), (23, .ifCond .ne (13), 36), (26, .aload_n 0, 0), (27, .iload_n 3, 0), (28, .aload_n 1, 0), (29, .iload_n 2, 0), (30, .invokevirtual 48, 106), (33, .ifCond .eq (5), 38), (36, .iload_n 3, 0), (37, .ireturn, 0), (38, .iinc 3 (1), 0), (41, .goto (-39), 2), (44, .iconst (-1), 0), (45, .ireturn, 0)]
def iv_m100 : List (Nat × Instr × Nat) := [(0, .iconst 0, 0), (1, .istore_n 2, 0), (2, .iload_n 2, 0), (3, .bipush 8, 0), (5, .if_icmp .ge (68), 73), (8, .aload_n 0, 0), (9, .iload_n 2, 0), (10, .invokevirtual 40, 97), (13, .istore_n 3, 0), (14, .iconst 0, 0), (15, .istore 4, 0), (17, .iload 4, 0), (19, .iconst 3, 0), (20, .if_icmp .ge (41), 61), (23, .iload_n 3, 0), (24, .ifCond .eq (29), 53), (27, .aload_n 0, 0), (28, .iload_n 2, 0), (29, .iconst 1, 0), (30, .iload 4, 0), (32, .iadd, 0), (33, .invokevirtual 36, 92), (36, .invokestatic 51, 3029), (39, .aload_n 1, 0), (40, .iload 4, 0), (42, .iaload, 0), (43, .invokestatic 51, 3029), (46, .if_icmp .ne (7), 53), (49, .iconst 1, 0), (50, .goto (4), 54), (53, .iconst 0, 0), (54, .istore_n 3, 0), (55, .iinc 4 (1), 0), (58, .goto (-41), 17), (61, .iload_n 3, 0), (62, .ifCond .eq (5), 67), (65, .iconst 1, 0), (66, .ireturn, 0), (67, .iinc 2 (1), 0), (70, .goto (-68), 2), (73, .iconst 0, 0), (74, .ireturn, 0)]
def iv_m101 : List (Nat × Instr × Nat) := [(0, .aload_n 0, 0), (1, .iload_n 1, 0), (2, .invokevirtual 55, 104), (5, .istore_n 2, 0), (6, .aload_n 0, 0), (7, .iload_n 1, 0), (8, .iconst 1, 0), (9, .isub, 0), (10, .bipush 65, 0), (12, .iload_n 2, 0), (13, .invokevirtual 58, 102), (16, .ifCond .eq (5), 21), (19, .iconst 1, 0), (20, .ireturn, 0), (21, .aload_n 0, 0), (22, .iload_n 1, 0), (23, .iconst 1, 0), (24, .isub, 0), (25, .iconst 1, 0), (26, .iload_n 2, 0), (27, .invokevirtual 58, 102), (30, .ifCond .eq (20), 50), (33, .aload_n 0, 0), (34, .iload_n 1, 0), (35, .iconst 2, 0), (36, .isub, 0), (37, .bipush 66, 0), (39, .iload_n 2, 0), (40, .invokevirtual 58, 102), (43, .ifCond .eq (7), 50), (46, .iconst 2, 0), (47, .goto (4), 51), (50, .iconst 0, 0), (51, .ireturn, 0)]
def iv_m102 : List (Nat × Instr × Nat) := [(0, .iload_n 1, 0), (1, .ifCond .lt (38), 39), (4, .aload_n 0, 0), (5, .iload_n 1, 0), (6, .iconst 0, 0), (7, .invokevirtual 36, 92), (10, .bipush 15, 0), (12, .if_icmp .ne (27), 39), (15, .aload_n 0, 0), (16, .iload_n 1, 0), (17, .iconst 1, 0), (18, .invokevirtual 36, 92), (21, .iload_n 2, 0), (22, .if_icmp .ne (17), 39), (25, .aload_n 0, 0), (26, .iload_n 1, 0), (27, .iconst 2, 0), (28, .invokevirtual 36, 92), (31, .iload_n 3, 0), (32, .if_icmp .ne (7), 39), (35, .iconst 1, 0), (36, .goto (4), 40), (39, .iconst 0, 0), (40, .ireturn, 0)]
def iv_m103 : List (Nat × Instr × Nat) := [(0, .iconst 0, 0), (1, .istore_n 2, 0), (2, .iload_n 2, 0), (3, .iconst 3, 0), (4, .if_icmp .ge (20), 24), (7, .aload_n 0, 0), (8, .iload_n 1, 0), (9, .iconst 1, 0), (10, .iload_n 2, 0), (11, .iadd, 0), (12, .invokevirtual 36, 92), (15, .ifCond .eq (9), 24), (18, .iinc 2 (1), 0), (21, .goto (-19), 2), (24, .iload_n 2, 0), (25, .ireturn, 0)]
def iv_m104 : List (Nat × Instr × Nat) := [(0, .aload_n 0, 0), (1, .iload_n 1, 0), (2, .iconst 1, 0), (3, .invokevirtual 36, 92), (6, .istore_n 2, 0), (7, .iload_n 2, 0), (8, .ifCond .ne (7), 15), (11, .iconst 0, 0), (12, .goto (9), 21), (15, .aload_n 0, 0), (16, .iload_n 1, 0), (17, .iconst 2, 0), (18, .invokevirtual 36, 92), (21, .istore_n 3, 0), (22, .iload_n 3, 0), (23, .ifCond .ne (7), 30), (26, .iconst 0, 0), (27, .goto (9), 36), (30, .aload_n 0, 0), (31, .iload_n 1, 0), (32, .iconst 3, 0), (33, .invokevirtual 36, 92), (36, .istore 4, 0), (38, .iload_n 2, 0), (39, .iload_n 3, 0), (40, .iload 4, 0), (42, .invokestatic 62, 3031), (45, .ireturn, 0)]
def iv_m105 : List (Nat × Instr × Nat) := [(0, .aload_n 0, 0), (1, .iload_n 1, 0), (2, .invokevirtual 66, 103), (5, .istore 4, 0), (7, .iload 4, 0), (9, .aload_n 2, 0), (10, .iload_n 3, 0), (11, .invokevirtual 69, 37), (14, .if_icmp .eq (5), 19), (17, .iconst 0, 0), (18, .ireturn, 0), (19, .iconst 0, 0), (20, .istore 5, 0), (22, .iload 5, 0), (24, .iload 4, 0), (26, .if_icmp .ge (30), 56), (29, .aload_n 2, 0), (30, .iload_n 3, 0), (31, .iload 5, 0), (33, .aload_n 0, 0), (34, .iload_n 1, 0), (35, .iconst 1, 0), (36, .iload 5, 0), (38, .iadd, 0), (39, .invokevirtual 36, 92), (42, .invokevirtual 74, 39), (45, .ifCond .ne (5), 50), (48, .iconst 0, 0), (49, .ireturn, 0), (50, .iinc 5 (1), 0), (53, .goto (-31), 22), (56, .iconst 1, 0), (57, .ireturn, 0)]
def iv_m106 : List (Nat × Instr × Nat) := [(0, .aload_n 0, 0), (1, .iload_n 1, 0), (2, .invokevirtual 77, 101), (5, .istore 4, 0), (7, .iconst 0, 0), (8, .istore 5, 0), (10, .iconst 1, 0), (11, .istore 6, 0), (13, .iload 6, 0), (15, .iload 4, 0), (17, .if_icmp .gt (73), 90), (20, .iconst 3, 0), (21, .istore 7, 0), (23, .iload 7, 0), (25, .bipush 8, 0), (27, .if_icmp .ge (57), 84), (30, .aload_n 0, 0), (31, .iload_n 1, 0), (32, .iload 6, 0), (34, .isub, 0), (35, .iload 7, 0), (37, .invokevirtual 36, 92), (40, .ifCond .eq (44), 84), (43, .iload 5, 0), (45, .aload_n 2, 0), (46, .iload_n 3, 0), (47, .invokevirtual 69, 37), (50, .if_icmp .eq (23), 73), (53, .aload_n 2, 0), (54, .iload_n 3, 0), (55, .iload 5, 0), (57, .aload_n 0, 0), (58, .iload_n 1, 0), (59, .iload 6, 0), (61, .isub, 0), (62, .iload 7, 0), (64, .invokevirtual 36, 92), (67, .invokevirtual 74, 39), (70, .ifCond .ne (5), 75), (73, .iconst 0, 0), (74, .ireturn, 0), (75, .iinc 5 (1), 0), (78, .iinc 7 (1), 0), (81, .goto (-58), 23), (84, .iinc 6 (1), 0), (87, .goto (-74), 13), (90, .iload 5, 0), (92, .aload_n 2, 0), (93, .iload_n 3, 0), (94, .invokevirtual 69, 37), (97, .if_icmp .ne (7), 104), (100, .iconst 1, 0), (101, .goto (4), 105), (104, .iconst 0, 0), (105, .ireturn, 0)]
def iv_m107 : List (Nat × Instr × Nat) := [(0, .aload_n 0, 0), (1, .invokespecial 3, 6000), (4, .aload_n 0, 0), (5, .bipush 32, 0), (7, .newarray .boolean, 0), (9, .putfield 9, 601), (12, .aload_n 0, 0), (13, .sipush 2112, 0), (16, .newarray .int, 0), (18, .putfield 15, 602), (21, .aload_n 0, 0), (22, .iconst 3, 0), (23, .newarray .int, 0), (25, .putfield 19, 603), (28, .aload_n 0, 0), (29, .iconst 5, 0), (30, .anewarray 22, 0), (33, .putfield 24, 604), (36, .aload_n 0, 0), (37, .aload_n 1, 0), (38, .putfield 28, 600), (41, .iconst 0, 0), (42, .istore_n 2, 0), (43, .iload_n 2, 0), (44, .aload_n 0, 0), (45, .getfield 24, 604), (48, .arraylength, 0), (49, .if_icmp .ge (22), 71), (52, .aload_n 0, 0), (53, .getfield 24, 604), (56, .iload_n 2, 0), (57, .new 22, 5), (60, .dup, 0), (61, .invokespecial 32, 5086), (64, .aastore, 0), (65, .iinc 2 (1), 0), (68, .goto (-25), 43), (71, .return_, 0)]
def iv_m108 : List (Nat × Instr × Nat) := [(0, .aload_n 0, 0), (1, .getfield 28, 600), (4, .aload_n 0, 0), (5, .getfield 15, 602), (8, .invokevirtual 33, 75), (11, .iconst 0, 0), (12, .istore_n 1, 0), (13, .iload_n 1, 0), (14, .bipush 32, 0), (16, .if_icmp .ge (16), 32), (19, .aload_n 0, 0), (20, .getfield 9, 601), (23, .iload_n 1, 0), (24, .iconst 0, 0), (25, .bastore, 0), (26, .iinc 1 (1), 0), (29, .goto (-16), 13), (32, .aload_n 0, 0), (33, .aload_n 0, 0), (34, .getfield 28, 600), (37, .invokevirtual 39, 55), (40, .invokevirtual 43, 109), (43, .aload_n 0, 0), (44, .aload_n 0, 0), (45, .getfield 28, 600), (48, .invokevirtual 39, 55), (51, .iconst 1, 0), (52, .invokevirtual 47, 111), (55, .aload_n 0, 0), (56, .invokevirtual 51, 110), (59, .aload_n 0, 0), (60, .getfield 28, 600), (63, .aload_n 0, 0), (64, .getfield 15, 602), (67, .invokevirtual 54, 76), (70, .ireturn, 0)]
def iv_m109 : List (Nat × Instr × Nat) := [(0, .aload_n 0, 0), (1, .getfield 9, 601), (4, .iload_n 1, 0), (5, .iconst 1, 0), (6, .bastore, 0), (7, .aload_n 0, 0), (8, .getfield 28, 600), (11, .iload_n 1, 0), (12, .sipush 255, 0), (15, .invokevirtual 58, 67), (18, .return_, 0)]
def iv_m110 : List (Nat × Instr × Nat) := [(0, .iconst 2, 0), (1, .istore_n 1, 0), (2, .iload_n 1, 0), (3, .bipush 32, 0), (5, .if_icmp .ge (41), 46), (8, .aload_n 0, 0), (9, .getfield 9, 601), (12, .iload_n 1, 0), (13, .baload, 0), (14, .ifCond .ne (26), 40), (17, .aload_n 0, 0), (18, .getfield 28, 600), (21, .iload_n 1, 0), (22, .invokevirtual 61, 66), (25, .sipush 254, 0), (28, .if_icmp .eq (12), 40), (31, .aload_n 0, 0), (32, .getfield 28, 600), (35, .iload_n 1, 0), (36, .iconst 0, 0), (37, .invokevirtual 58, 67), (40, .iinc 1 (1), 0), (43, .goto (-41), 2), (46, .return_, 0)]
def iv_m111 : List (Nat × Instr × Nat) := [(0, .iload_n 2, 0), (1, .aload_n 0, 0), (2, .getfield 24, 604), (5, .arraylength, 0), (6, .if_icmp .le (4), 10), (9, .return_, 0), (10, .aload_n 0, 0), (11, .getfield 24, 604), (14, .iload_n 2, 0), (15, .iconst 1, 0), (16, .isub, 0), (17, .aaload, 0), (18, .astore_n 3, 0), (19, .aload_n 3, 0), (20, .aload_n 0, 0), (21, .getfield 28, 600), (24, .iload_n 1, 0), (25, .invokevirtual 65, 87), (28, .iconst 0, 0), (29, .istore 4, 0), (31, .iconst 0, 0), (32, .istore 5, 0), (34, .iload 5, 0), (36, .bipush 8, 0), (38, .if_icmp .ge (71), 109), (41, .aload_n 3, 0), (42, .iload 5, 0), (44, .iconst 0, 0), (45, .invokevirtual 69, 92), (48, .bipush 15, 0), (50, .if_icmp .eq (53), 103), (53, .aload_n 0, 0), (54, .aload_n 3, 0), (55, .iload 5, 0), (57, .iload_n 2, 0), (58, .invokevirtual 73, 112), (61, .istore 6, 0), (63, .aload_n 3, 0), (64, .iload 4, 0), (66, .iload 5, 0), (68, .iload 6, 0), (70, .ifCond .eq (12), 82), (73, .aload_n 3, 0), (74, .iload 5, 0), (76, .invokevirtual 77, 101), (79, .goto (4), 83), (82, .iconst 0, 0), (83, .isub, 0), (84, .invokevirtual 80, 94), (87, .iload 5, 0), (89, .iconst 1, 0), (90, .iadd, 0), (91, .istore 4, 0), (93, .aload_n 0, 0), (94, .aload_n 3, 0), (95, .iload 5, 0), (97, .iload 6, 0), (99, .iload_n 2, 0), (100, .invokevirtual 83, 114), (103, .iinc 5 (1), 0), (106, .goto (-72), 34), (109, .aload_n 3, 0), (110, .iload 4, 0), (112, .bipush 8, 0), (114, .invokevirtual 80, 94), (117, .aload_n 0, 0), (118, .getfield 28, 600), (121, .iload_n 1, 0), (122, .aload_n 3, 0), (123, .invokevirtual 87, 88), (126, .iconst 0, 0), (127, .invokevirtual 91, 71), (130, .return_, 0)]
def iv_m112 : List (Nat × Instr × Nat) := [(0, .aload_n 1, 0), (1, .iload_n 2, 0), (2, .iconst 0, 0), (3, .invokevirtual 69, 92), (6, .iconst 2, 0), (7, .if_icmp .ne (27), 34), (10, .iload_n 3, 0), (11, .iconst 4, 0), (12, .if_icmp .gt (20), 32), (15, .aload_n 0, 0), (16, .aload_n 1, 0), (17, .iload_n 2, 0), (18, .iconst 4, 0), (19, .invokevirtual 69, 92), (22, .invokevirtual 95, 113), (25, .ifCond .eq (7), 32), (28, .iconst 1, 0), (29, .goto (4), 33), (32, .iconst 0, 0), (33, .ireturn, 0), (34, .aload_n 1, 0), (35, .iload_n 2, 0), (36, .iconst 0, 0), (37, .invokevirtual 69, 92), (40, .iconst 1, 0), (41, .if_icmp .ne (7), 48), (44, .iconst 1, 0), (45, .goto (4), 49), (48, .iconst 0, 0), (49, .ireturn, 0)]
def iv_m113 : List (Nat × Instr × Nat) := [(0, .iload_n 1, 0), (1, .invokestatic 99, 3025), (4, .ifCond .eq (30), 34), (7, .aload_n 0, 0), (8, .getfield 28, 600), (11, .iload_n 1, 0), (12, .invokevirtual 61, 66), (15, .sipush 254, 0), (18, .if_icmp .eq (16), 34), (21, .aload_n 0, 0), (22, .getfield 9, 601), (25, .iload_n 1, 0), (26, .baload, 0), (27, .ifCond .ne (7), 34), (30, .iconst 1, 0), (31, .goto (4), 35), (34, .iconst 0, 0), (35, .ireturn, 0)]
def iv_m114 : List (Nat × Instr × Nat) := [(0, .aload_n 1, 0), (1, .iload_n 2, 0), (2, .iconst 0, 0), (3, .invokevirtual 69, 92), (6, .istore 5, 0), (8, .iload_n 3, 0), (9, .ifCond .ne (19), 28), (12, .iload 5, 0), (14, .ifCond .eq (60), 74), (17, .aload_n 1, 0), (18, .iload_n 2, 0), (19, .iload_n 2, 0), (20, .iconst 1, 0), (21, .iadd, 0), (22, .invokevirtual 80, 94), (25, .goto (49), 74), (28, .iload 5, 0), (30, .iconst 1, 0), (31, .if_icmp .ne (12), 43), (34, .aload_n 0, 0), (35, .aload_n 1, 0), (36, .iload_n 2, 0), (37, .invokevirtual 102, 115), (40, .goto (34), 74), (43, .aload_n 0, 0), (44, .aload_n 1, 0), (45, .iload_n 2, 0), (46, .iconst 4, 0), (47, .invokevirtual 69, 92), (50, .invokevirtual 43, 109), (53, .aload_n 1, 0), (54, .iload_n 2, 0), (55, .iconst 5, 0), (56, .iconst 0, 0), (57, .invokevirtual 106, 93), (60, .aload_n 0, 0), (61, .aload_n 1, 0), (62, .iload_n 2, 0), (63, .iconst 4, 0), (64, .invokevirtual 69, 92), (67, .iload 4, 0), (69, .iconst 1, 0), (70, .iadd, 0), (71, .invokevirtual 47, 111), (74, .return_, 0)]
def iv_m115 : List (Nat × Instr × Nat) := [(0, .aload_n 0, 0), (1, .aload_n 1, 0), (2, .iload_n 2, 0), (3, .iconst 4, 0), (4, .invokevirtual 69, 92), (7, .invokevirtual 110, 116), (10, .istore_n 3, 0), (11, .aload_n 1, 0), (12, .iload_n 2, 0), (13, .iconst 5, 0), (14, .invokevirtual 69, 92), (17, .bipush 64, 0), (19, .iload_n 3, 0), (20, .imul, 0), (21, .invokestatic 113, 8000), (24, .istore 4, 0), (26, .iload 4, 0), (28, .bipush 64, 0), (30, .iadd, 0), (31, .iconst 1, 0), (32, .isub, 0), (33, .bipush 64, 0), (35, .idiv, 0), (36, .istore 5, 0), (38, .aload_n 1, 0), (39, .iload_n 2, 0), (40, .iconst 5, 0), (41, .iload 4, 0), (43, .invokevirtual 106, 93), (46, .iload 5, 0), (48, .istore 6, 0), (50, .iload 6, 0), (52, .iload_n 3, 0), (53, .if_icmp .ge (22), 75), (56, .aload_n 0, 0), (57, .getfield 9, 601), (60, .aload_n 0, 0), (61, .getfield 19, 603), (64, .iload 6, 0), (66, .iaload, 0), (67, .iconst 0, 0), (68, .bastore, 0), (69, .iinc 6 (1), 0), (72, .goto (-22), 50), (75, .iload 5, 0), (77, .ifCond .ne (13), 90), (80, .aload_n 1, 0), (81, .iload_n 2, 0), (82, .iconst 4, 0), (83, .iconst 0, 0), (84, .invokevirtual 106, 93), (87, .goto (22), 109), (90, .aload_n 0, 0), (91, .getfield 28, 600), (94, .aload_n 0, 0), (95, .getfield 19, 603), (98, .iload 5, 0), (100, .iconst 1, 0), (101, .isub, 0), (102, .iaload, 0), (103, .sipush 255, 0), (106, .invokevirtual 58, 67), (109, .return_, 0)]
def iv_m116 : List (Nat × Instr × Nat) := [(0, .iconst 0, 0), (1, .istore_n 2, 0), (2, .iload_n 1, 0), (3, .istore_n 3, 0), (4, .iload_n 2, 0), (5, .iconst 3, 0), (6, .if_icmp .ge (40), 46), (9, .aload_n 0, 0), (10, .iload_n 3, 0), (11, .invokevirtual 95, 113), (14, .ifCond .eq (32), 46), (17, .aload_n 0, 0), (18, .getfield 9, 601), (21, .iload_n 3, 0), (22, .iconst 1, 0), (23, .bastore, 0), (24, .aload_n 0, 0), (25, .getfield 19, 603), (28, .iload_n 2, 0), (29, .iload_n 3, 0), (30, .iastore, 0), (31, .iinc 2 (1), 0), (34, .aload_n 0, 0), (35, .getfield 28, 600), (38, .iload_n 3, 0), (39, .invokevirtual 61, 66), (42, .istore_n 3, 0), (43, .goto (-39), 4), (46, .iload_n 2, 0), (47, .ireturn, 0)]
def iv_m117 : List (Nat × Instr × Nat) := [(0, .aload_n 0, 0), (1, .invokespecial 3, 6000), (4, .aload_n 0, 0), (5, .iconst 4, 0), (6, .anewarray 9, 0), (9, .putfield 11, 702), (12, .aload_n 0, 0), (13, .aload_n 1, 0), (14, .putfield 17, 700), (17, .aload_n 0, 0), (18, .aload_n 2, 0), (19, .putfield 21, 701), (22, .iconst 0, 0), (23, .istore_n 3, 0), (24, .iload_n 3, 0), (25, .iconst 4, 0), (26, .if_icmp .ge (22), 48), (29, .aload_n 0, 0), (30, .getfield 11, 702), (33, .iload_n 3, 0), (34, .new 9, 5), (37, .dup, 0), (38, .invokespecial 25, 5086), (41, .aastore, 0), (42, .iinc 3 (1), 0), (45, .goto (-21), 24), (48, .return_, 0)]
def iv_m118 : List (Nat × Instr × Nat) := [(0, .aload_n 0, 0), (1, .getfield 17, 700), (4, .invokevirtual 26, 55), (7, .istore_n 1, 0), (8, .aload_n 0, 0), (9, .aload_n 0, 0), (10, .getfield 21, 701), (13, .invokevirtual 32, 36), (16, .iconst 1, 0), (17, .isub, 0), (18, .putfield 37, 703), (21, .iconst 0, 0), (22, .istore_n 2, 0), (23, .iload_n 2, 0), (24, .aload_n 0, 0), (25, .getfield 37, 703), (28, .if_icmp .gt (60), 88), (31, .iload_n 1, 0), (32, .invokestatic 41, 3025), (35, .ifCond .ne (5), 40), (38, .iconst 0, 0), (39, .ireturn, 0), (40, .aload_n 0, 0), (41, .getfield 11, 702), (44, .iload_n 2, 0), (45, .aaload, 0), (46, .astore_n 3, 0), (47, .aload_n 3, 0), (48, .aload_n 0, 0), (49, .getfield 17, 700), (52, .iload_n 1, 0), (53, .invokevirtual 45, 87), (56, .aload_n 3, 0), (57, .aload_n 3, 0), (58, .aload_n 0, 0), (59, .getfield 21, 701), (62, .iload_n 2, 0), (63, .invokevirtual 49, 99), (66, .invokevirtual 53, 91), (69, .iload_n 2, 0), (70, .aload_n 0, 0), (71, .getfield 37, 703), (74, .if_icmp .ge (8), 82), (77, .aload_n 3, 0), (78, .invokestatic 57, 2119), (81, .istore_n 1, 0), (82, .iinc 2 (1), 0), (85, .goto (-62), 23), (88, .iconst 1, 0), (89, .ireturn, 0)]
def iv_m119 : List (Nat × Instr × Nat) := [(0, .aload_n 0, 0), (1, .invokevirtual 61, 90), (4, .istore_n 1, 0), (5, .iload_n 1, 0), (6, .ifCond .lt (22), 28), (9, .aload_n 0, 0), (10, .iload_n 1, 0), (11, .iconst 0, 0), (12, .invokevirtual 64, 92), (15, .iconst 2, 0), (16, .if_icmp .ne (12), 28), (19, .aload_n 0, 0), (20, .iload_n 1, 0), (21, .iconst 4, 0), (22, .invokevirtual 64, 92), (25, .goto (4), 29), (28, .iconst 0, 0), (29, .ireturn, 0)]
def iv_m120 : List (Nat × Instr × Nat) := [(0, .aload_n 0, 0), (1, .getfield 37, 703), (4, .ireturn, 0)]
def iv_m121 : List (Nat × Instr × Nat) := [(0, .aload_n 0, 0), (1, .getfield 11, 702), (4, .iload_n 1, 0), (5, .aaload, 0), (6, .areturn, 0)]
def iv_m122 : List (Nat × Instr × Nat) := [(0, .aload_n 0, 0), (1, .getfield 11, 702), (4, .aload_n 0, 0), (5, .getfield 37, 703), (8, .aaload, 0), (9, .areturn, 0)]
def iv_m123 : List (Nat × Instr × Nat) := [(0, .aload_n 0, 0), (1, .invokevirtual 68, 122), (4, .invokevirtual 61, 90), (7, .ifCond .lt (7), 14), (10, .iconst 1, 0), (11, .goto (4), 15), (14, .iconst 0, 0), (15, .ireturn, 0)]
def iv_m124 : List (Nat × Instr × Nat) := [(0, .aload_n 0, 0), (1, .invokevirtual 72, 123), (4, .ifCond .eq (16), 20), (7, .aload_n 0, 0), (8, .iconst 0, 0), (9, .invokevirtual 76, 125), (12, .iload_n 1, 0), (13, .if_icmp .ne (7), 20), (16, .iconst 1, 0), (17, .goto (4), 21), (20, .iconst 0, 0), (21, .ireturn, 0)]
def iv_m125 : List (Nat × Instr × Nat) := [(0, .aload_n 0, 0), (1, .invokevirtual 68, 122), (4, .aload_n 0, 0), (5, .invokevirtual 68, 122), (8, .invokevirtual 61, 90), (11, .iload_n 1, 0), (12, .invokevirtual 64, 92), (15, .ireturn, 0)]
def iv_m126 : List (Nat × Instr × Nat) := [(0, .aload_n 0, 0), (1, .invokevirtual 68, 122), (4, .aload_n 0, 0), (5, .invokevirtual 68, 122), (8, .invokevirtual 61, 90), (11, .iload_n 1, 0), (12, .iload_n 2, 0), (13, .invokevirtual 80, 93), (16, .return_, 0)]
def iv_m127 : List (Nat × Instr × Nat) := [(0, .aload_n 0, 0), (1, .invokespecial 3, 6000), (4, .aload_n 0, 0), (5, .iconst 3, 0), (6, .newarray .int, 0), (8, .putfield 9, 800), (11, .return_, 0)]
def iv_m128 : List (Nat × Instr × Nat) := [(0, .aload_n 1, 0), (1, .iload_n 2, 0), (2, .invokevirtual 15, 40), (5, .ifCond .eq (48), 53), (8, .iconst 0, 0), (9, .istore 4, 0), (11, .iload 4, 0), (13, .iconst 3, 0), (14, .if_icmp .ge (37), 51), (17, .aload_n 0, 0), (18, .getfield 9, 800), (21, .iload 4, 0), (23, .iload 4, 0), (25, .aload_n 1, 0), (26, .iload_n 2, 0), (27, .invokevirtual 21, 37), (30, .if_icmp .ge (13), 43), (33, .aload_n 1, 0), (34, .iload_n 2, 0), (35, .iload 4, 0), (37, .invokevirtual 25, 38), (40, .goto (4), 44), (43, .iconst 0, 0), (44, .iastore, 0), (45, .iinc 4 (1), 0), (48, .goto (-37), 11), (51, .iconst 1, 0), (52, .ireturn, 0), (53, .aload_n 0, 0), (54, .getfield 9, 800), (57, .iconst 0, 0), (58, .aload_n 1, 0), (59, .iload_n 2, 0), (60, .invokevirtual 29, 42), (63, .iastore, 0), (64, .aload_n 0, 0), (65, .getfield 9, 800), (68, .iconst 1, 0), (69, .bipush 126, 0), (71, .iastore, 0), (72, .bipush 49, 0), (74, .istore 4, 0), (76, .iload 4, 0), (78, .bipush 57, 0), (80, .if_icmp .gt (30), 110), (83, .aload_n 0, 0), (84, .getfield 9, 800), (87, .iconst 2, 0), (88, .iload 4, 0), (90, .iastore, 0), (91, .aload_n 3, 0), (92, .aload_n 0, 0), (93, .getfield 9, 800), (96, .invokevirtual 32, 100), (99, .ifCond .ne (5), 104), (102, .iconst 1, 0), (103, .ireturn, 0), (104, .iinc 4 (1), 0), (107, .goto (-31), 76), (110, .iconst 0, 0), (111, .ireturn, 0)]
def iv_m129 : List (Nat × Instr × Nat) := [(0, .ldc 38, 65536), (2, .aload_n 0, 0), (3, .getfield 9, 800), (6, .iconst 0, 0), (7, .iaload, 0), (8, .imul, 0), (9, .sipush 256, 0), (12, .aload_n 0, 0), (13, .getfield 9, 800), (16, .iconst 1, 0), (17, .iaload, 0), (18, .imul, 0), (19, .iadd, 0), (20, .aload_n 0, 0), (21, .getfield 9, 800), (24, .iconst 2, 0), (25, .iaload, 0), (26, .iadd, 0), (27, .ireturn, 0)]
def iv_m130 : List (Nat × Instr × Nat) := [(0, .aload_n 0, 0), (1, .getfield 9, 800), (4, .iconst 0, 0), (5, .iaload, 0), (6, .aload_n 0, 0), (7, .getfield 9, 800), (10, .iconst 1, 0), (11, .iaload, 0), (12, .aload_n 0, 0), (13, .getfield 9, 800), (16, .iconst 2, 0), (17, .iaload, 0), (18, .invokestatic 39, 3031), (21, .ireturn, 0)]
def iv_m131 : List (Nat × Instr × Nat) := [(0, .iconst 0, 0), (1, .istore_n 3, 0), (2, .iload_n 3, 0), (3, .iconst 3, 0), (4, .if_icmp .ge (23), 27), (7, .aload_n 1, 0), (8, .iload_n 2, 0), (9, .iconst 1, 0), (10, .iload_n 3, 0), (11, .iadd, 0), (12, .aload_n 0, 0), (13, .getfield 9, 800), (16, .iload_n 3, 0), (17, .iaload, 0), (18, .invokevirtual 43, 93), (21, .iinc 3 (1), 0), (24, .goto (-22), 2), (27, .return_, 0)]
def iv_m132 : List (Nat × Instr × Nat) := [(0, .aload_n 0, 0), (1, .invokespecial 1, 6000), (4, .aload_n 0, 0), (5, .bipush 40, 0), (7, .newarray .int, 0), (9, .putfield 7, 902), (12, .aload_n 0, 0), (13, .bipush 64, 0), (15, .newarray .int, 0), (17, .putfield 13, 903), (20, .aload_n 0, 0), (21, .sipush 2048, 0), (24, .newarray .int, 0), (26, .putfield 16, 904), (29, .aload_n 0, 0), (30, .iconst 2, 0), (31, .putfield 19, 906), (34, .aload_n 0, 0), (35, .bipush 32, 0), (37, .newarray .boolean, 0), (39, .putfield 23, 907), (42, .aload_n 0, 0), (43, .iconst 4, 0), (44, .newarray .int, 0), (46, .putfield 27, 911), (49, .aload_n 0, 0), (50, .iconst 4, 0), (51, .newarray .int, 0), (53, .putfield 30, 912), (56, .aload_n 0, 0), (57, .iconst 4, 0), (58, .newarray .int, 0), (60, .putfield 33, 914), (63, .aload_n 0, 0), (64, .iconst 4, 0), (65, .newarray .int, 0), (67, .putfield 36, 915), (70, .aload_n 0, 0), (71, .bipush 32, 0), (73, .newarray .int, 0), (75, .putfield 39, 916), (78, .aload_n 0, 0), (79, .bipush 32, 0), (81, .newarray .boolean, 0), (83, .putfield 42, 917), (86, .aload_n 0, 0), (87, .sipush 256, 0), (90, .newarray .int, 0), (92, .putfield 45, 918), (95, .aload_n 0, 0), (96, .sipush 256, 0), (99, .newarray .int, 0), (101, .putfield 48, 919), (104, .aload_n 0, 0), (105, .iconst 4, 0), (106, .newarray .int, 0), (108, .putfield 51, 921), (111, .aload_n 0, 0), (112, .bipush 64, 0), (114, .newarray .int, 0), (116, .putfield 54, 922), (119, .aload_n 0, 0), (120, .iconst 3, 0), (121, .newarray .int, 0), (123, .putfield 57, 923), (126, .aload_n 0, 0), (127, .sipush 2112, 0), (130, .newarray .int, 0), (132, .putfield 60, 924), (135, .aload_n 0, 0), (136, .bipush 32, 0), (138, .newarray .boolean, 0), (140, .putfield 63, 925), (143, .aload_n 0, 0), (144, .iconst 5, 0), (145, .newarray .int, 0), (147, .putfield 66, 926), (150, .aload_n 0, 0), (151, .iconst 5, 0), (152, .newarray .int, 0), (154, .putfield 69, 927), (157, .aload_n 0, 0), (158, .iconst 5, 0), (159, .newarray .int, 0), (161, .putfield 72, 928), (164, .aload_n 0, 0), (165, .getfield 13, 903), (168, .iconst 2, 0), (169, .sipush 255, 0), (172, .iastore, 0), (173, .return_, 0)]
def iv_m133 : List (Nat × Instr × Nat) := [(0, .aload_n 0, 0), (1, .getfield 75, 900), (4, .ireturn, 0)]
def iv_m134 : List (Nat × Instr × Nat) := [(0, .aload_n 0, 0), (1, .iload_n 1, 0), (2, .putfield 75, 900), (5, .iconst 0, 0), (6, .ireturn, 0)]
def iv_m135 : List (Nat × Instr × Nat) := [(0, .aload_n 0, 0), (1, .iconst 0, 0), (2, .putfield 75, 900), (5, .iconst 0, 0), (6, .istore_n 3, 0), (7, .iconst 1, 0), (8, .istore 4, 0), (10, .bipush 56, 0), (12, .istore 5, 0), (14, .iload 5, 0), (16, .ifCond .lt (64), 80), (19, .lload_n 1, 0), (20, .iload 5, 0), (22, .lushr, 0), (23, .l2i, 0), (24, .sipush 255, 0), (27, .iand, 0), (28, .istore 6, 0), (30, .iload 4, 0), (32, .ifCond .eq (26), 58), (35, .iload 6, 0), (37, .ifCond .eq (17), 54), (40, .iload 6, 0), (42, .bipush 33, 0), (44, .if_icmp .lt (14), 58), (47, .iload 6, 0), (49, .bipush 126, 0), (51, .if_icmp .gt (7), 58), (54, .iconst 1, 0), (55, .goto (4), 59), (58, .iconst 0, 0), (59, .istore 4, 0), (61, .iload 6, 0), (63, .ifCond .ne (7), 70), (66, .iload_n 3, 0), (67, .goto (6), 73), (70, .iload_n 3, 0), (71, .iconst 1, 0), (72, .iadd, 0), (73, .istore_n 3, 0), (74, .iinc 5 (-8), 0), (77, .goto (-63), 14), (80, .iload 4, 0), (82, .ifCond .eq (14), 96), (85, .aload_n 0, 0), (86, .getfield 78, 901), (89, .iload_n 3, 0), (90, .iadd, 0), (91, .bipush 40, 0), (93, .if_icmp .le (5), 98), (96, .iconst 0, 0), (97, .ireturn, 0), (98, .bipush 56, 0), (100, .istore 5, 0), (102, .iload 5, 0), (104, .ifCond .lt (46), 150), (107, .lload_n 1, 0), (108, .iload 5, 0), (110, .lushr, 0), (111, .l2i, 0), (112, .sipush 255, 0), (115, .iand, 0), (116, .istore 6, 0), (118, .iload 6, 0), (120, .ifCond .eq (24), 144), (123, .aload_n 0, 0), (124, .getfield 7, 902), (127, .aload_n 0, 0), (128, .getfield 78, 901), (131, .iload 6, 0), (133, .iastore, 0), (134, .aload_n 0, 0), (135, .dup, 0), (136, .getfield 78, 901), (139, .iconst 1, 0), (140, .iadd, 0), (141, .putfield 78, 901), (144, .iinc 5 (-8), 0), (147, .goto (-45), 102), (150, .iconst 1, 0), (151, .ireturn, 0)]
def iv_m136 : List (Nat × Instr × Nat) := [(0, .aload_n 0, 0), (1, .iconst 0, 0), (2, .putfield 75, 900), (5, .aload_n 0, 0), (6, .iconst 0, 0), (7, .putfield 78, 901), (10, .return_, 0)]
def iv_m137 : List (Nat × Instr × Nat) := [(0, .aload_n 0, 0), (1, .iconst 0, 0), (2, .putfield 81, 910), (5, .iconst 0, 0), (6, .istore_n 1, 0), (7, .aload_n 0, 0), (8, .getfield 78, 901), (11, .ifCond .le (7), 18), (14, .iconst 1, 0), (15, .goto (4), 19), (18, .iconst 0, 0), (19, .istore_n 2, 0), (20, .iload_n 2, 0), (21, .ifCond .eq (108), 129), (24, .iload_n 1, 0), (25, .aload_n 0, 0), (26, .getfield 78, 901), (29, .if_icmp .gt (100), 129), (32, .iload_n 1, 0), (33, .istore_n 3, 0), (34, .iload_n 3, 0), (35, .aload_n 0, 0), (36, .getfield 78, 901), (39, .if_icmp .ge (20), 59), (42, .aload_n 0, 0), (43, .getfield 7, 902), (46, .iload_n 3, 0), (47, .iaload, 0), (48, .bipush 47, 0), (50, .if_icmp .eq (9), 59), (53, .iinc 3 (1), 0), (56, .goto (-22), 34), (59, .aload_n 0, 0), (60, .getfield 81, 910), (63, .iconst 4, 0), (64, .if_icmp .ge (20), 84), (67, .iload_n 3, 0), (68, .iload_n 1, 0), (69, .if_icmp .le (15), 84), (72, .iload_n 3, 0), (73, .iload_n 1, 0), (74, .isub, 0), (75, .bipush 10, 0), (77, .if_icmp .gt (7), 84), (80, .iconst 1, 0), (81, .goto (4), 85), (84, .iconst 0, 0), (85, .istore_n 2, 0), (86, .iload_n 2, 0), (87, .ifCond .eq (35), 122), (90, .aload_n 0, 0), (91, .getfield 27, 911), (94, .aload_n 0, 0), (95, .getfield 81, 910), (98, .iload_n 1, 0), (99, .iastore, 0), (100, .aload_n 0, 0), (101, .getfield 30, 912), (104, .aload_n 0, 0), (105, .getfield 81, 910), (108, .iload_n 3, 0), (109, .iload_n 1, 0), (110, .isub, 0), (111, .iastore, 0), (112, .aload_n 0, 0), (113, .dup, 0), (114, .getfield 81, 910), (117, .iconst 1, 0), (118, .iadd, 0), (119, .putfield 81, 910), (122, .iload_n 3, 0), (123, .iconst 1, 0), (124, .iadd, 0), (125, .istore_n 1, 0), (126, .goto (-106), 20), (129, .iload_n 2, 0), (130, .ireturn, 0)]
def iv_m138 : List (Nat × Instr × Nat) := [(0, .iload_n 0, 0), (1, .iconst 2, 0), (2, .if_icmp .lt (13), 15), (5, .iload_n 0, 0), (6, .bipush 31, 0), (8, .if_icmp .gt (7), 15), (11, .iconst 1, 0), (12, .goto (4), 16), (15, .iconst 0, 0), (16, .ireturn, 0)]
def iv_m139 : List (Nat × Instr × Nat) := [(0, .aload_n 0, 0), (1, .getfield 16, 904), (4, .bipush 64, 0), (6, .iload_n 1, 0), (7, .imul, 0), (8, .bipush 8, 0), (10, .iload_n 2, 0), (11, .imul, 0), (12, .iadd, 0), (13, .iload_n 3, 0), (14, .iadd, 0), (15, .iaload, 0), (16, .ireturn, 0)]
def iv_m140 : List (Nat × Instr × Nat) := [(0, .iload_n 0, 0), (1, .bipush 65, 0), (3, .if_icmp .lt (16), 19), (6, .iload_n 0, 0), (7, .bipush 90, 0), (9, .if_icmp .gt (10), 19), (12, .iload_n 0, 0), (13, .bipush 32, 0), (15, .iadd, 0), (16, .goto (4), 20), (19, .iload_n 0, 0), (20, .ireturn, 0)]
def iv_m141 : List (Nat × Instr × Nat) := [(0, .iload_n 0, 0), (1, .bipush 97, 0), (3, .if_icmp .lt (16), 19), (6, .iload_n 0, 0), (7, .bipush 122, 0), (9, .if_icmp .gt (10), 19), (12, .iload_n 0, 0), (13, .bipush 32, 0), (15, .isub, 0), (16, .goto (4), 20), (19, .iload_n 0, 0), (20, .ireturn, 0)]
def iv_m142 : List (Nat × Instr × Nat) := [(0, .aload_n 0, 0), (1, .iload_n 1, 0), (2, .iload_n 2, 0), (3, .iconst 0, 0), (4, .invokevirtual 84, 139), (7, .iconst 1, 0), (8, .if_icmp .eq (14), 22), (11, .aload_n 0, 0), (12, .iload_n 1, 0), (13, .iload_n 2, 0), (14, .iconst 0, 0), (15, .invokevirtual 84, 139), (18, .iconst 2, 0), (19, .if_icmp .ne (7), 26), (22, .iconst 1, 0), (23, .goto (4), 27), (26, .iconst 0, 0), (27, .ireturn, 0)]
def iv_m143 : List (Nat × Instr × Nat) := [(0, .iload_n 2, 0), (1, .ifCond .lt (42), 43), (4, .aload_n 0, 0), (5, .iload_n 1, 0), (6, .iload_n 2, 0), (7, .iconst 0, 0), (8, .invokevirtual 84, 139), (11, .bipush 15, 0), (13, .if_icmp .ne (30), 43), (16, .aload_n 0, 0), (17, .iload_n 1, 0), (18, .iload_n 2, 0), (19, .iconst 1, 0), (20, .invokevirtual 84, 139), (23, .iload_n 3, 0), (24, .if_icmp .ne (19), 43), (27, .aload_n 0, 0), (28, .iload_n 1, 0), (29, .iload_n 2, 0), (30, .iconst 2, 0), (31, .invokevirtual 84, 139), (34, .iload 4, 0), (36, .if_icmp .ne (7), 43), (39, .iconst 1, 0), (40, .goto (4), 44), (43, .iconst 0, 0), (44, .ireturn, 0)]
def iv_m144 : List (Nat × Instr × Nat) := [(0, .iconst 4, 0), (1, .aload_n 0, 0), (2, .iload_n 1, 0), (3, .iload_n 2, 0), (4, .iconst 1, 0), (5, .invokevirtual 84, 139), (8, .imul, 0), (9, .iconst 2, 0), (10, .aload_n 0, 0), (11, .iload_n 1, 0), (12, .iload_n 2, 0), (13, .iconst 2, 0), (14, .invokevirtual 84, 139), (17, .imul, 0), (18, .iadd, 0), (19, .aload_n 0, 0), (20, .iload_n 1, 0), (21, .iload_n 2, 0), (22, .iconst 3, 0), (23, .invokevirtual 84, 139), (26, .iadd, 0), (27, .sipush 255, 0), (30, .iand, 0), (31, .istore_n 3, 0), (32, .aload_n 0, 0), (33, .iload_n 1, 0), (34, .iload_n 2, 0), (35, .iconst 1, 0), (36, .isub, 0), (37, .bipush 65, 0), (39, .iload_n 3, 0), (40, .invokevirtual 88, 143), (43, .ifCond .eq (5), 48), (46, .iconst 1, 0), (47, .ireturn, 0), (48, .aload_n 0, 0), (49, .iload_n 1, 0), (50, .iload_n 2, 0), (51, .iconst 1, 0), (52, .isub, 0), (53, .iconst 1, 0), (54, .iload_n 3, 0), (55, .invokevirtual 88, 143), (58, .ifCond .eq (21), 79), (61, .aload_n 0, 0), (62, .iload_n 1, 0), (63, .iload_n 2, 0), (64, .iconst 2, 0), (65, .isub, 0), (66, .bipush 66, 0), (68, .iload_n 3, 0), (69, .invokevirtual 88, 143), (72, .ifCond .eq (7), 79), (75, .iconst 2, 0), (76, .goto (4), 80), (79, .iconst 0, 0), (80, .ireturn, 0)]
def iv_m145 : List (Nat × Instr × Nat) := [(0, .iload_n 2, 0), (1, .istore 7, 0), (3, .iload 5, 0), (5, .istore 8, 0), (7, .iload 8, 0), (9, .iload 5, 0), (11, .iload 6, 0), (13, .iadd, 0), (14, .if_icmp .ge (69), 83), (17, .aload_n 0, 0), (18, .iload_n 3, 0), (19, .iload 4, 0), (21, .iload 8, 0), (23, .invokevirtual 84, 139), (26, .istore 9, 0), (28, .iload 9, 0), (30, .ifCond .ne (6), 36), (33, .iload 7, 0), (35, .ireturn, 0), (36, .iload 7, 0), (38, .aload_n 0, 0), (39, .getfield 30, 912), (42, .iload_n 1, 0), (43, .iaload, 0), (44, .if_icmp .ge (28), 72), (47, .aload_n 0, 0), (48, .getfield 7, 902), (51, .aload_n 0, 0), (52, .getfield 27, 911), (55, .iload_n 1, 0), (56, .iaload, 0), (57, .iload 7, 0), (59, .iadd, 0), (60, .iaload, 0), (61, .invokestatic 92, 2140), (64, .iload 9, 0), (66, .invokestatic 92, 2140), (69, .if_icmp .eq (5), 74), (72, .iconst (-1), 0), (73, .ireturn, 0), (74, .iinc 7 (1), 0), (77, .iinc 8 (1), 0), (80, .goto (-73), 7), (83, .iload 7, 0), (85, .ireturn, 0)]
def iv_m146 : List (Nat × Instr × Nat) := [(0, .aload_n 0, 0), (1, .iload_n 1, 0), (2, .iconst 0, 0), (3, .iload_n 2, 0), (4, .iload_n 3, 0), (5, .iconst 1, 0), (6, .iconst 3, 0), (7, .invokevirtual 96, 145), (10, .aload_n 0, 0), (11, .getfield 30, 912), (14, .iload_n 1, 0), (15, .iaload, 0), (16, .if_icmp .ne (5), 21), (19, .iconst 1, 0), (20, .ireturn, 0), (21, .aload_n 0, 0), (22, .iload_n 2, 0), (23, .iload_n 3, 0), (24, .invokevirtual 100, 144), (27, .istore 4, 0), (29, .iload 4, 0), (31, .ifCond .ne (7), 38), (34, .iconst (-1), 0), (35, .goto (15), 50), (38, .aload_n 0, 0), (39, .iload_n 1, 0), (40, .iconst 0, 0), (41, .iload_n 2, 0), (42, .iload_n 3, 0), (43, .iconst 1, 0), (44, .isub, 0), (45, .iconst 3, 0), (46, .iconst 5, 0), (47, .invokevirtual 96, 145), (50, .istore 5, 0), (52, .iload 4, 0), (54, .iconst 2, 0), (55, .if_icmp .ne (24), 79), (58, .iload 5, 0), (60, .ifCond .lt (19), 79), (63, .aload_n 0, 0), (64, .iload_n 1, 0), (65, .iload 5, 0), (67, .iload_n 2, 0), (68, .iload_n 3, 0), (69, .iconst 2, 0), (70, .isub, 0), (71, .iconst 3, 0), (72, .iconst 5, 0), (73, .invokevirtual 96, 145), (76, .goto (5), 81), (79, .iload 5, 0), (81, .istore 5, 0), (83, .iload 5, 0), (85, .aload_n 0, 0), (86, .getfield 30, 912), (89, .iload_n 1, 0), (90, .iaload, 0), (91, .if_icmp .ne (7), 98), (94, .iconst 1, 0), (95, .goto (4), 99), (98, .iconst 0, 0), (99, .ireturn, 0)]
def iv_m147 : List (Nat × Instr × Nat) := [(0, .iconst 0, 0), (1, .istore_n 3, 0), (2, .iload_n 3, 0), (3, .bipush 8, 0), (5, .if_icmp .ge (30), 35), (8, .aload_n 0, 0), (9, .iload_n 2, 0), (10, .iload_n 3, 0), (11, .invokevirtual 104, 142), (14, .ifCond .eq (15), 29), (17, .aload_n 0, 0), (18, .iload_n 1, 0), (19, .iload_n 2, 0), (20, .iload_n 3, 0), (21, .invokevirtual 108, 146), (24, .ifCond .eq (5), 29), (27, .iload_n 3, 0), (28, .ireturn, 0), (29, .iinc 3 (1), 0), (32, .goto (-30), 2), (35, .iconst (-1), 0), (36, .ireturn, 0)]
def iv_m148 : List (Nat × Instr × Nat) := [(0, .aload_n 0, 0), (1, .iconst 0, 0), (2, .putfield 112, 913), (5, .aload_n 0, 0), (6, .getfield 33, 914), (9, .iconst 0, 0), (10, .aload_n 0, 0), (11, .getfield 19, 906), (14, .iastore, 0), (15, .iconst 0, 0), (16, .istore_n 1, 0), (17, .iload_n 1, 0), (18, .iconst 1, 0), (19, .iadd, 0), (20, .aload_n 0, 0), (21, .getfield 81, 910), (24, .if_icmp .ge (102), 126), (27, .aload_n 0, 0), (28, .iload_n 1, 0), (29, .aload_n 0, 0), (30, .getfield 33, 914), (33, .iload_n 1, 0), (34, .iaload, 0), (35, .invokevirtual 115, 147), (38, .istore_n 2, 0), (39, .iload_n 2, 0), (40, .ifCond .lt (37), 77), (43, .aload_n 0, 0), (44, .aload_n 0, 0), (45, .getfield 33, 914), (48, .iload_n 1, 0), (49, .iaload, 0), (50, .iload_n 2, 0), (51, .iconst 0, 0), (52, .invokevirtual 84, 139), (55, .iconst 2, 0), (56, .if_icmp .ne (21), 77), (59, .aload_n 0, 0), (60, .aload_n 0, 0), (61, .getfield 33, 914), (64, .iload_n 1, 0), (65, .iaload, 0), (66, .iload_n 2, 0), (67, .iconst 4, 0), (68, .invokevirtual 84, 139), (71, .invokestatic 118, 2138), (74, .ifCond .ne (5), 79), (77, .iconst 0, 0), (78, .ireturn, 0), (79, .aload_n 0, 0), (80, .dup, 0), (81, .getfield 112, 913), (84, .iconst 1, 0), (85, .iadd, 0), (86, .putfield 112, 913), (89, .aload_n 0, 0), (90, .getfield 33, 914), (93, .aload_n 0, 0), (94, .getfield 112, 913), (97, .aload_n 0, 0), (98, .aload_n 0, 0), (99, .getfield 33, 914), (102, .iload_n 1, 0), (103, .iaload, 0), (104, .iload_n 2, 0), (105, .iconst 4, 0), (106, .invokevirtual 84, 139), (109, .iastore, 0), (110, .aload_n 0, 0), (111, .getfield 36, 915), (114, .aload_n 0, 0), (115, .getfield 112, 913), (118, .iload_n 2, 0), (119, .iastore, 0), (120, .iinc 1 (1), 0), (123, .goto (-106), 17), (126, .iconst 1, 0), (127, .ireturn, 0)]
def iv_m149 : List (Nat × Instr × Nat) := [(0, .aload_n 0, 0), (1, .invokevirtual 122, 148), (4, .ifCond .eq (25), 29), (7, .aload_n 0, 0), (8, .aload_n 0, 0), (9, .getfield 81, 910), (12, .iconst 1, 0), (13, .isub, 0), (14, .aload_n 0, 0), (15, .getfield 33, 914), (18, .aload_n 0, 0), (19, .getfield 112, 913), (22, .iaload, 0), (23, .invokevirtual 115, 147), (26, .goto (4), 30), (29, .iconst (-1), 0), (30, .ireturn, 0)]
def iv_m150 : List (Nat × Instr × Nat) := [(0, .aload_n 0, 0), (1, .invokevirtual 126, 149), (4, .istore_n 1, 0), (5, .iload_n 1, 0), (6, .ifCond .lt (22), 28), (9, .aload_n 0, 0), (10, .aload_n 0, 0), (11, .getfield 33, 914), (14, .aload_n 0, 0), (15, .getfield 112, 913), (18, .iaload, 0), (19, .iload_n 1, 0), (20, .iconst 0, 0), (21, .invokevirtual 84, 139), (24, .iconst 1, 0), (25, .if_icmp .eq (7), 32), (28, .iconst (-1), 0), (29, .goto (4), 33), (32, .iload_n 1, 0), (33, .ireturn, 0)]
def iv_m151 : List (Nat × Instr × Nat) := [(0, .aload_n 0, 0), (1, .iload_n 1, 0), (2, .iload_n 2, 0), (3, .iconst 5, 0), (4, .invokevirtual 84, 139), (7, .istore_n 3, 0), (8, .aload_n 0, 0), (9, .iconst 0, 0), (10, .putfield 130, 920), (13, .aload_n 0, 0), (14, .iload_n 1, 0), (15, .iload_n 2, 0), (16, .iconst 4, 0), (17, .invokevirtual 84, 139), (20, .istore 4, 0), (22, .aload_n 0, 0), (23, .getfield 130, 920), (26, .iload_n 3, 0), (27, .bipush 63, 0), (29, .iadd, 0), (30, .bipush 64, 0), (32, .idiv, 0), (33, .if_icmp .ge (52), 85), (36, .iload 4, 0), (38, .invokestatic 118, 2138), (41, .ifCond .eq (44), 85), (44, .aload_n 0, 0), (45, .getfield 51, 921), (48, .aload_n 0, 0), (49, .getfield 130, 920), (52, .iload 4, 0), (54, .iastore, 0), (55, .aload_n 0, 0), (56, .dup, 0), (57, .getfield 130, 920), (60, .iconst 1, 0), (61, .iadd, 0), (62, .putfield 130, 920), (65, .aload_n 0, 0), (66, .getfield 13, 903), (69, .bipush 32, 0), (71, .aload_n 0, 0), (72, .getfield 133, 905), (75, .imul, 0), (76, .iload 4, 0), (78, .iadd, 0), (79, .iaload, 0), (80, .istore 4, 0), (82, .goto (-60), 22), (85, .iconst 0, 0), (86, .istore 5, 0), (88, .iload 5, 0), (90, .sipush 256, 0), (93, .if_icmp .ge (62), 155), (96, .aload_n 0, 0), (97, .getfield 48, 919), (100, .iload 5, 0), (102, .iload 5, 0), (104, .iload_n 3, 0), (105, .if_icmp .ge (42), 147), (108, .iload 5, 0), (110, .bipush 64, 0), (112, .idiv, 0), (113, .aload_n 0, 0), (114, .getfield 130, 920), (117, .if_icmp .ge (30), 147), (120, .aload_n 0, 0), (121, .getfield 16, 904), (124, .bipush 64, 0), (126, .aload_n 0, 0), (127, .getfield 51, 921), (130, .iload 5, 0), (132, .bipush 64, 0), (134, .idiv, 0), (135, .iaload, 0), (136, .imul, 0), (137, .iload 5, 0), (139, .bipush 64, 0), (141, .irem, 0), (142, .iadd, 0), (143, .iaload, 0), (144, .goto (4), 148), (147, .iconst 0, 0), (148, .iastore, 0), (149, .iinc 5 (1), 0), (152, .goto (-64), 88), (155, .iload_n 3, 0), (156, .bipush 64, 0), (158, .aload_n 0, 0), (159, .getfield 130, 920), (162, .imul, 0), (163, .if_icmp .ge (7), 170), (166, .iload_n 3, 0), (167, .goto (10), 177), (170, .bipush 64, 0), (172, .aload_n 0, 0), (173, .getfield 130, 920), (176, .imul, 0), (177, .ireturn, 0)]
def iv_m152 : List (Nat × Instr × Nat) := [(0, .iconst 0, 0), (1, .istore_n 1, 0), (2, .iload_n 1, 0), (3, .bipush 32, 0), (5, .if_icmp .ge (36), 41), (8, .aload_n 0, 0), (9, .getfield 39, 916), (12, .iload_n 1, 0), (13, .aload_n 0, 0), (14, .getfield 13, 903), (17, .bipush 32, 0), (19, .aload_n 0, 0), (20, .getfield 133, 905), (23, .imul, 0), (24, .iload_n 1, 0), (25, .iadd, 0), (26, .iaload, 0), (27, .iastore, 0), (28, .aload_n 0, 0), (29, .getfield 42, 917), (32, .iload_n 1, 0), (33, .iconst 0, 0), (34, .bastore, 0), (35, .iinc 1 (1), 0), (38, .goto (-36), 2), (41, .iconst 0, 0), (42, .istore_n 1, 0), (43, .iload_n 1, 0), (44, .aload_n 0, 0), (45, .getfield 112, 913), (48, .if_icmp .gt (50), 98), (51, .iconst 0, 0), (52, .istore_n 2, 0), (53, .iload_n 2, 0), (54, .bipush 64, 0), (56, .if_icmp .ge (36), 92), (59, .aload_n 0, 0), (60, .getfield 45, 918), (63, .bipush 64, 0), (65, .iload_n 1, 0), (66, .imul, 0), (67, .iload_n 2, 0), (68, .iadd, 0), (69, .aload_n 0, 0), (70, .getfield 16, 904), (73, .bipush 64, 0), (75, .aload_n 0, 0), (76, .getfield 33, 914), (79, .iload_n 1, 0), (80, .iaload, 0), (81, .imul, 0), (82, .iload_n 2, 0), (83, .iadd, 0), (84, .iaload, 0), (85, .iastore, 0), (86, .iinc 2 (1), 0), (89, .goto (-36), 53), (92, .iinc 1 (1), 0), (95, .goto (-52), 43), (98, .return_, 0)]
def iv_m153 : List (Nat × Instr × Nat) := [(0, .aload_n 0, 0), (1, .getfield 136, 908), (4, .ifCond .ne (5), 9), (7, .iconst 1, 0), (8, .ireturn, 0), (9, .aload_n 0, 0), (10, .dup, 0), (11, .getfield 136, 908), (14, .iconst 1, 0), (15, .isub, 0), (16, .putfield 136, 908), (19, .aload_n 0, 0), (20, .aload_n 0, 0), (21, .getfield 136, 908), (24, .ifCond .ne (7), 31), (27, .iconst 1, 0), (28, .goto (4), 32), (31, .iconst 0, 0), (32, .putfield 139, 909), (35, .aload_n 0, 0), (36, .getfield 139, 909), (39, .ifCond .ne (7), 46), (42, .iconst 1, 0), (43, .goto (4), 47), (46, .iconst 0, 0), (47, .ireturn, 0)]
def iv_m154 : List (Nat × Instr × Nat) := [(0, .iconst 2, 0), (1, .istore_n 1, 0), (2, .iload_n 1, 0), (3, .bipush 32, 0), (5, .if_icmp .ge (37), 42), (8, .aload_n 0, 0), (9, .getfield 13, 903), (12, .bipush 32, 0), (14, .aload_n 0, 0), (15, .getfield 133, 905), (18, .imul, 0), (19, .iload_n 1, 0), (20, .iadd, 0), (21, .iaload, 0), (22, .ifCond .ne (14), 36), (25, .aload_n 0, 0), (26, .getfield 42, 917), (29, .iload_n 1, 0), (30, .baload, 0), (31, .ifCond .ne (5), 36), (34, .iload_n 1, 0), (35, .ireturn, 0), (36, .iinc 1 (1), 0), (39, .goto (-37), 2), (42, .iconst (-1), 0), (43, .ireturn, 0)]
def iv_m155 : List (Nat × Instr × Nat) := [(0, .aload_n 0, 0), (1, .invokevirtual 143, 154), (4, .istore_n 1, 0), (5, .iload_n 1, 0), (6, .ifCond .lt (88), 94), (9, .aload_n 0, 0), (10, .getfield 42, 917), (13, .iload_n 1, 0), (14, .iconst 1, 0), (15, .bastore, 0), (16, .aload_n 0, 0), (17, .invokevirtual 146, 153), (20, .ifCond .ne (6), 26), (23, .bipush (-2), 0), (25, .ireturn, 0), (26, .aload_n 0, 0), (27, .getfield 23, 907), (30, .iload_n 1, 0), (31, .baload, 0), (32, .ifCond .ne (45), 77), (35, .iconst 0, 0), (36, .istore_n 2, 0), (37, .iload_n 2, 0), (38, .bipush 64, 0), (40, .if_icmp .ge (26), 66), (43, .aload_n 0, 0), (44, .getfield 16, 904), (47, .bipush 64, 0), (49, .iload_n 1, 0), (50, .imul, 0), (51, .iload_n 2, 0), (52, .iadd, 0), (53, .aload_n 0, 0), (54, .getfield 54, 922), (57, .iload_n 2, 0), (58, .iaload, 0), (59, .iastore, 0), (60, .iinc 2 (1), 0), (63, .goto (-26), 37), (66, .aload_n 0, 0), (67, .getfield 39, 916), (70, .iload_n 1, 0), (71, .sipush 255, 0), (74, .iastore, 0), (75, .iload_n 1, 0), (76, .ireturn, 0), (77, .aload_n 0, 0), (78, .getfield 39, 916), (81, .iload_n 1, 0), (82, .sipush 254, 0), (85, .iastore, 0), (86, .aload_n 0, 0), (87, .invokevirtual 143, 154), (90, .istore_n 1, 0), (91, .goto (-86), 5), (94, .iconst (-1), 0), (95, .ireturn, 0)]
def iv_m156 : List (Nat × Instr × Nat) := [(0, .aload_n 0, 0), (1, .getfield 39, 916), (4, .iload_n 1, 0), (5, .aload_n 0, 0), (6, .getfield 42, 917), (9, .iload_n 1, 0), (10, .baload, 0), (11, .ifCond .eq (12), 23), (14, .aload_n 0, 0), (15, .getfield 39, 916), (18, .iload_n 1, 0), (19, .iaload, 0), (20, .goto (4), 24), (23, .iconst 0, 0), (24, .iastore, 0), (25, .return_, 0)]
def iv_m157 : List (Nat × Instr × Nat) := [(0, .iconst 0, 0), (1, .istore_n 1, 0), (2, .iload_n 1, 0), (3, .aload_n 0, 0), (4, .getfield 130, 920), (7, .if_icmp .ge (19), 26), (10, .aload_n 0, 0), (11, .aload_n 0, 0), (12, .getfield 51, 921), (15, .iload_n 1, 0), (16, .iaload, 0), (17, .invokevirtual 149, 156), (20, .iinc 1 (1), 0), (23, .goto (-21), 2), (26, .return_, 0)]
def iv_m158 : List (Nat × Instr × Nat) := [(0, .aload_n 0, 0), (1, .getfield 112, 913), (4, .istore_n 1, 0), (5, .iload_n 1, 0), (6, .ifCond .lt (99), 105), (9, .iconst 0, 0), (10, .istore_n 2, 0), (11, .iload_n 2, 0), (12, .bipush 64, 0), (14, .if_icmp .ge (26), 40), (17, .aload_n 0, 0), (18, .getfield 54, 922), (21, .iload_n 2, 0), (22, .aload_n 0, 0), (23, .getfield 45, 918), (26, .bipush 64, 0), (28, .iload_n 1, 0), (29, .imul, 0), (30, .iload_n 2, 0), (31, .iadd, 0), (32, .iaload, 0), (33, .iastore, 0), (34, .iinc 2 (1), 0), (37, .goto (-26), 11), (40, .aload_n 0, 0), (41, .invokevirtual 153, 155), (44, .istore_n 2, 0), (45, .iload_n 2, 0), (46, .ifCond .ge (5), 51), (49, .iload_n 2, 0), (50, .ireturn, 0), (51, .aload_n 0, 0), (52, .aload_n 0, 0), (53, .getfield 33, 914), (56, .iload_n 1, 0), (57, .iaload, 0), (58, .invokevirtual 149, 156), (61, .iload_n 1, 0), (62, .ifCond .le (30), 92), (65, .aload_n 0, 0), (66, .getfield 45, 918), (69, .bipush 64, 0), (71, .iload_n 1, 0), (72, .iconst 1, 0), (73, .isub, 0), (74, .imul, 0), (75, .bipush 8, 0), (77, .aload_n 0, 0), (78, .getfield 36, 915), (81, .iload_n 1, 0), (82, .iaload, 0), (83, .imul, 0), (84, .iadd, 0), (85, .iconst 4, 0), (86, .iadd, 0), (87, .iload_n 2, 0), (88, .iastore, 0), (89, .goto (10), 99), (92, .aload_n 0, 0), (93, .getfield 36, 915), (96, .iconst 0, 0), (97, .iload_n 2, 0), (98, .iastore, 0), (99, .iinc 1 (-1), 0), (102, .goto (-97), 5), (105, .aload_n 0, 0), (106, .invokevirtual 146, 153), (109, .ifCond .ne (6), 115), (112, .bipush (-2), 0), (114, .ireturn, 0), (115, .iconst 0, 0), (116, .istore_n 1, 0), (117, .iload_n 1, 0), (118, .bipush 32, 0), (120, .if_icmp .ge (31), 151), (123, .aload_n 0, 0), (124, .getfield 13, 903), (127, .bipush 32, 0), (129, .iconst 1, 0), (130, .aload_n 0, 0), (131, .getfield 133, 905), (134, .isub, 0), (135, .imul, 0), (136, .iload_n 1, 0), (137, .iadd, 0), (138, .aload_n 0, 0), (139, .getfield 39, 916), (142, .iload_n 1, 0), (143, .iaload, 0), (144, .iastore, 0), (145, .iinc 1 (1), 0), (148, .goto (-31), 117), (151, .aload_n 0, 0), (152, .invokevirtual 146, 153), (155, .ifCond .ne (6), 161), (158, .bipush (-2), 0), (160, .ireturn, 0), (161, .aload_n 0, 0), (162, .iconst 1, 0), (163, .aload_n 0, 0), (164, .getfield 133, 905), (167, .isub, 0), (168, .putfield 133, 905), (171, .aload_n 0, 0), (172, .aload_n 0, 0), (173, .getfield 36, 915), (176, .iconst 0, 0), (177, .iaload, 0), (178, .putfield 19, 906), (181, .iconst 0, 0), (182, .ireturn, 0)]
def iv_m159 : List (Nat × Instr × Nat) := [(0, .iload_n 1, 0), (1, .iconst (-1), 0), (2, .if_icmp .ne (9), 11), (5, .aload_n 0, 0), (6, .iconst 3, 0), (7, .invokevirtual 156, 134), (10, .ireturn, 0), (11, .aload_n 0, 0), (12, .iconst 0, 0), (13, .putfield 75, 900), (16, .iload_n 1, 0), (17, .bipush (-2), 0), (19, .if_icmp .ne (8), 27), (22, .bipush (-2), 0), (24, .goto (4), 28), (27, .iload_n 2, 0), (28, .ireturn, 0)]
def iv_m160 : List (Nat × Instr × Nat) := [(0, .aload_n 0, 0), (1, .getfield 139, 909), (4, .ifCond .eq (5), 9), (7, .iconst 1, 0), (8, .ireturn, 0), (9, .aload_n 0, 0), (10, .invokevirtual 159, 137), (13, .ifCond .eq (11), 24), (16, .iload_n 1, 0), (17, .ifCond .eq (7), 24), (20, .iconst 0, 0), (21, .goto (4), 25), (24, .iconst 2, 0), (25, .ireturn, 0)]
def iv_m161 : List (Nat × Instr × Nat) := [(0, .aload_n 0, 0), (1, .getfield 30, 912), (4, .iload_n 1, 0), (5, .iaload, 0), (6, .iconst 3, 0), (7, .if_icmp .gt (7), 14), (10, .iconst 1, 0), (11, .goto (4), 15), (14, .iconst 0, 0), (15, .istore_n 2, 0), (16, .iconst 0, 0), (17, .istore_n 3, 0), (18, .iload_n 3, 0), (19, .aload_n 0, 0), (20, .getfield 30, 912), (23, .iload_n 1, 0), (24, .iaload, 0), (25, .if_icmp .ge (62), 87), (28, .aload_n 0, 0), (29, .getfield 7, 902), (32, .aload_n 0, 0), (33, .getfield 27, 911), (36, .iload_n 1, 0), (37, .iaload, 0), (38, .iload_n 3, 0), (39, .iadd, 0), (40, .iaload, 0), (41, .istore 4, 0), (43, .iload_n 2, 0), (44, .ifCond .eq (35), 79), (47, .iload 4, 0), (49, .bipush 65, 0), (51, .if_icmp .lt (10), 61), (54, .iload 4, 0), (56, .bipush 90, 0), (58, .if_icmp .le (17), 75), (61, .iload 4, 0), (63, .bipush 48, 0), (65, .if_icmp .lt (14), 79), (68, .iload 4, 0), (70, .bipush 57, 0), (72, .if_icmp .gt (7), 79), (75, .iconst 1, 0), (76, .goto (4), 80), (79, .iconst 0, 0), (80, .istore_n 2, 0), (81, .iinc 3 (1), 0), (84, .goto (-66), 18), (87, .iload_n 2, 0), (88, .ireturn, 0)]
def iv_m162 : List (Nat × Instr × Nat) := [(0, .iconst 0, 0), (1, .istore_n 2, 0), (2, .iconst 0, 0), (3, .istore_n 3, 0), (4, .iload_n 3, 0), (5, .bipush 8, 0), (7, .if_icmp .ge (126), 133), (10, .aload_n 0, 0), (11, .iload_n 1, 0), (12, .iload_n 3, 0), (13, .invokevirtual 104, 142), (16, .istore 4, 0), (18, .iconst 0, 0), (19, .istore 5, 0), (21, .iconst 0, 0), (22, .istore 6, 0), (24, .iload 6, 0), (26, .iconst 3, 0), (27, .if_icmp .ge (85), 112), (30, .iload 4, 0), (32, .ifCond .eq (80), 112), (35, .iload 5, 0), (37, .ifCond .ne (16), 53), (40, .aload_n 0, 0), (41, .iload_n 1, 0), (42, .iload_n 3, 0), (43, .iconst 1, 0), (44, .iload 6, 0), (46, .iadd, 0), (47, .invokevirtual 84, 139), (50, .ifCond .ne (7), 57), (53, .iconst 1, 0), (54, .goto (4), 58), (57, .iconst 0, 0), (58, .istore 5, 0), (60, .iload 5, 0), (62, .ifCond .eq (7), 69), (65, .iconst 0, 0), (66, .goto (13), 79), (69, .aload_n 0, 0), (70, .iload_n 1, 0), (71, .iload_n 3, 0), (72, .iconst 1, 0), (73, .iload 6, 0), (75, .iadd, 0), (76, .invokevirtual 84, 139), (79, .istore 7, 0), (81, .iload 7, 0), (83, .invokestatic 92, 2140), (86, .aload_n 0, 0), (87, .getfield 57, 923), (90, .iload 6, 0), (92, .iaload, 0), (93, .invokestatic 92, 2140), (96, .if_icmp .ne (7), 103), (99, .iconst 1, 0), (100, .goto (4), 104), (103, .iconst 0, 0), (104, .istore 4, 0), (106, .iinc 6 (1), 0), (109, .goto (-85), 24), (112, .iload_n 2, 0), (113, .ifCond .ne (8), 121), (116, .iload 4, 0), (118, .ifCond .eq (7), 125), (121, .iconst 1, 0), (122, .goto (4), 126), (125, .iconst 0, 0), (126, .istore_n 2, 0), (127, .iinc 3 (1), 0), (130, .goto (-126), 4), (133, .iload_n 2, 0), (134, .ireturn, 0)]
def iv_m163 : List (Nat × Instr × Nat) := [(0, .aload_n 0, 0), (1, .iload_n 1, 0), (2, .invokevirtual 162, 161), (5, .ifCond .eq (51), 56), (8, .iconst 0, 0), (9, .istore_n 3, 0), (10, .iload_n 3, 0), (11, .iconst 3, 0), (12, .if_icmp .ge (42), 54), (15, .aload_n 0, 0), (16, .getfield 57, 923), (19, .iload_n 3, 0), (20, .iload_n 3, 0), (21, .aload_n 0, 0), (22, .getfield 30, 912), (25, .iload_n 1, 0), (26, .iaload, 0), (27, .if_icmp .ge (19), 46), (30, .aload_n 0, 0), (31, .getfield 7, 902), (34, .aload_n 0, 0), (35, .getfield 27, 911), (38, .iload_n 1, 0), (39, .iaload, 0), (40, .iload_n 3, 0), (41, .iadd, 0), (42, .iaload, 0), (43, .goto (4), 47), (46, .iconst 0, 0), (47, .iastore, 0), (48, .iinc 3 (1), 0), (51, .goto (-41), 10), (54, .iconst 1, 0), (55, .ireturn, 0), (56, .iconst 0, 0), (57, .istore_n 3, 0), (58, .aload_n 0, 0), (59, .getfield 30, 912), (62, .iload_n 1, 0), (63, .iaload, 0), (64, .iconst 1, 0), (65, .isub, 0), (66, .istore 4, 0), (68, .iload 4, 0), (70, .ifCond .lt (63), 133), (73, .aload_n 0, 0), (74, .getfield 7, 902), (77, .aload_n 0, 0), (78, .getfield 27, 911), (81, .iload_n 1, 0), (82, .iaload, 0), (83, .iload 4, 0), (85, .iadd, 0), (86, .iaload, 0), (87, .invokestatic 165, 2141), (90, .istore 5, 0), (92, .iload 5, 0), (94, .bipush 65, 0), (96, .if_icmp .lt (10), 106), (99, .iload 5, 0), (101, .bipush 90, 0), (103, .if_icmp .le (17), 120), (106, .iload 5, 0), (108, .bipush 48, 0), (110, .if_icmp .lt (15), 125), (113, .iload 5, 0), (115, .bipush 57, 0), (117, .if_icmp .gt (8), 125), (120, .iload 5, 0), (122, .goto (4), 126), (125, .iload_n 3, 0), (126, .istore_n 3, 0), (127, .iinc 4 (-1), 0), (130, .goto (-62), 68), (133, .aload_n 0, 0), (134, .getfield 57, 923), (137, .iconst 0, 0), (138, .iload_n 3, 0), (139, .ifCond .ne (8), 147), (142, .bipush 95, 0), (144, .goto (4), 148), (147, .iload_n 3, 0), (148, .iastore, 0), (149, .aload_n 0, 0), (150, .getfield 57, 923), (153, .iconst 1, 0), (154, .bipush 126, 0), (156, .iastore, 0), (157, .bipush 49, 0), (159, .istore 4, 0), (161, .iload 4, 0), (163, .bipush 57, 0), (165, .if_icmp .gt (27), 192), (168, .aload_n 0, 0), (169, .getfield 57, 923), (172, .iconst 2, 0), (173, .iload 4, 0), (175, .iastore, 0), (176, .aload_n 0, 0), (177, .iload_n 2, 0), (178, .invokevirtual 168, 162), (181, .ifCond .ne (5), 186), (184, .iconst 1, 0), (185, .ireturn, 0), (186, .iinc 4 (1), 0), (189, .goto (-28), 161), (192, .iconst 0, 0), (193, .ireturn, 0)]
def iv_m164 : List (Nat × Instr × Nat) := [(0, .iconst 0, 0), (1, .istore_n 3, 0), (2, .iconst 0, 0), (3, .istore 4, 0), (5, .iload 4, 0), (7, .bipush 8, 0), (9, .if_icmp .ge (40), 49), (12, .aload_n 0, 0), (13, .iload_n 1, 0), (14, .iload 4, 0), (16, .iconst 0, 0), (17, .invokevirtual 84, 139), (20, .ifCond .ne (9), 29), (23, .iload_n 3, 0), (24, .iconst 1, 0), (25, .iadd, 0), (26, .goto (4), 30), (29, .iconst 0, 0), (30, .istore_n 3, 0), (31, .iload_n 3, 0), (32, .iload_n 2, 0), (33, .if_icmp .ne (10), 43), (36, .iload 4, 0), (38, .iload_n 2, 0), (39, .isub, 0), (40, .iconst 1, 0), (41, .iadd, 0), (42, .ireturn, 0), (43, .iinc 4 (1), 0), (46, .goto (-41), 5), (49, .iconst (-1), 0), (50, .ireturn, 0)]
def iv_m165 : List (Nat × Instr × Nat) := [(0, .bipush 64, 0), (2, .aload_n 0, 0), (3, .getfield 112, 913), (6, .imul, 0), (7, .bipush 8, 0), (9, .iload_n 1, 0), (10, .imul, 0), (11, .iadd, 0), (12, .istore 5, 0), (14, .aload_n 0, 0), (15, .getfield 45, 918), (18, .iload 5, 0), (20, .bipush 15, 0), (22, .iastore, 0), (23, .aload_n 0, 0), (24, .getfield 45, 918), (27, .iload 5, 0), (29, .iconst 1, 0), (30, .iadd, 0), (31, .iload_n 2, 0), (32, .iastore, 0), (33, .aload_n 0, 0), (34, .getfield 45, 918), (37, .iload 5, 0), (39, .iconst 2, 0), (40, .iadd, 0), (41, .iconst 4, 0), (42, .aload_n 0, 0), (43, .getfield 57, 923), (46, .iconst 0, 0), (47, .iaload, 0), (48, .imul, 0), (49, .iconst 2, 0), (50, .aload_n 0, 0), (51, .getfield 57, 923), (54, .iconst 1, 0), (55, .iaload, 0), (56, .imul, 0), (57, .iadd, 0), (58, .aload_n 0, 0), (59, .getfield 57, 923), (62, .iconst 2, 0), (63, .iaload, 0), (64, .iadd, 0), (65, .sipush 255, 0), (68, .iand, 0), (69, .iastore, 0), (70, .iconst 0, 0), (71, .istore 6, 0), (73, .iload 6, 0), (75, .iconst 5, 0), (76, .if_icmp .ge (56), 132), (79, .aload_n 0, 0), (80, .getfield 45, 918), (83, .iload 5, 0), (85, .iconst 3, 0), (86, .iadd, 0), (87, .iload 6, 0), (89, .iadd, 0), (90, .iload 4, 0), (92, .iload 6, 0), (94, .iadd, 0), (95, .aload_n 0, 0), (96, .getfield 30, 912), (99, .iload_n 3, 0), (100, .iaload, 0), (101, .if_icmp .ge (23), 124), (104, .aload_n 0, 0), (105, .getfield 7, 902), (108, .aload_n 0, 0), (109, .getfield 27, 911), (112, .iload_n 3, 0), (113, .iaload, 0), (114, .iload 4, 0), (116, .iadd, 0), (117, .iload 6, 0), (119, .iadd, 0), (120, .iaload, 0), (121, .goto (4), 125), (124, .iconst 0, 0), (125, .iastore, 0), (126, .iinc 6 (1), 0), (129, .goto (-56), 73), (132, .return_, 0)]
def iv_m166 : List (Nat × Instr × Nat) := [(0, .iconst 0, 0), (1, .istore_n 1, 0), (2, .iload_n 1, 0), (3, .bipush 64, 0), (5, .if_icmp .ge (16), 21), (8, .aload_n 0, 0), (9, .getfield 54, 922), (12, .iload_n 1, 0), (13, .iconst 0, 0), (14, .iastore, 0), (15, .iinc 1 (1), 0), (18, .goto (-16), 2), (21, .return_, 0)]
def iv_m167 : List (Nat × Instr × Nat) := [(0, .aload_n 0, 0), (1, .iload_n 2, 0), (2, .ifCond .lt (14), 16), (5, .iload_n 2, 0), (6, .sipush 255, 0), (9, .if_icmp .gt (7), 16), (12, .iconst 1, 0), (13, .goto (4), 17), (16, .iconst 0, 0), (17, .invokevirtual 171, 160), (20, .istore_n 3, 0), (21, .iload_n 3, 0), (22, .ifCond .le (9), 31), (25, .aload_n 0, 0), (26, .iload_n 3, 0), (27, .invokevirtual 156, 134), (30, .ireturn, 0), (31, .aload_n 0, 0), (32, .iconst 0, 0), (33, .putfield 75, 900), (36, .aload_n 0, 0), (37, .invokevirtual 122, 148), (40, .ifCond .eq (25), 65), (43, .aload_n 0, 0), (44, .aload_n 0, 0), (45, .getfield 81, 910), (48, .iconst 1, 0), (49, .isub, 0), (50, .aload_n 0, 0), (51, .getfield 33, 914), (54, .aload_n 0, 0), (55, .getfield 112, 913), (58, .iaload, 0), (59, .invokevirtual 115, 147), (62, .ifCond .lt (5), 67), (65, .iconst (-1), 0), (66, .ireturn, 0), (67, .aload_n 0, 0), (68, .getfield 81, 910), (71, .iconst 1, 0), (72, .isub, 0), (73, .istore 4, 0), (75, .aload_n 0, 0), (76, .iload 4, 0), (78, .invokevirtual 162, 161), (81, .ifCond .eq (7), 88), (84, .iconst 0, 0), (85, .goto (19), 104), (88, .aload_n 0, 0), (89, .getfield 30, 912), (92, .iload 4, 0), (94, .iaload, 0), (95, .iconst 5, 0), (96, .if_icmp .le (7), 103), (99, .iconst 2, 0), (100, .goto (4), 104), (103, .iconst 1, 0), (104, .istore 5, 0), (106, .aload_n 0, 0), (107, .aload_n 0, 0), (108, .getfield 33, 914), (111, .aload_n 0, 0), (112, .getfield 112, 913), (115, .iaload, 0), (116, .iload 5, 0), (118, .iconst 1, 0), (119, .iadd, 0), (120, .invokevirtual 175, 164), (123, .istore 6, 0), (125, .aload_n 0, 0), (126, .iload 4, 0), (128, .aload_n 0, 0), (129, .getfield 33, 914), (132, .aload_n 0, 0), (133, .getfield 112, 913), (136, .iaload, 0), (137, .invokevirtual 178, 163), (140, .ifCond .eq (8), 148), (143, .iload 6, 0), (145, .ifCond .ge (9), 154), (148, .aload_n 0, 0), (149, .iconst 3, 0), (150, .invokevirtual 156, 134), (153, .ireturn, 0), (154, .aload_n 0, 0), (155, .invokevirtual 181, 152), (158, .iconst 0, 0), (159, .istore 7, 0), (161, .iload_n 1, 0), (162, .ifCond .eq (26), 188), (165, .aload_n 0, 0), (166, .invokevirtual 184, 166), (169, .aload_n 0, 0), (170, .invokevirtual 153, 155), (173, .istore 7, 0), (175, .iload 7, 0), (177, .ifCond .ge (11), 188), (180, .aload_n 0, 0), (181, .iload 7, 0), (183, .iconst 0, 0), (184, .invokevirtual 187, 159), (187, .ireturn, 0), (188, .iload 5, 0), (190, .iconst 2, 0), (191, .if_icmp .ne (14), 205), (194, .aload_n 0, 0), (195, .iload 6, 0), (197, .bipush 66, 0), (199, .iload 4, 0), (201, .iconst 5, 0), (202, .invokevirtual 190, 165), (205, .iload 5, 0), (207, .ifCond .le (29), 236), (210, .aload_n 0, 0), (211, .iload 6, 0), (213, .iload 5, 0), (215, .iadd, 0), (216, .iconst 1, 0), (217, .isub, 0), (218, .iload 5, 0), (220, .iconst 2, 0), (221, .if_icmp .ne (7), 228), (224, .iconst 1, 0), (225, .goto (5), 230), (228, .bipush 65, 0), (230, .iload 4, 0), (232, .iconst 0, 0), (233, .invokevirtual 190, 165), (236, .bipush 64, 0), (238, .aload_n 0, 0), (239, .getfield 112, 913), (242, .imul, 0), (243, .bipush 8, 0), (245, .iload 6, 0), (247, .iload 5, 0), (249, .iadd, 0), (250, .imul, 0), (251, .iadd, 0), (252, .istore 8, 0), (254, .aload_n 0, 0), (255, .getfield 45, 918), (258, .iload 8, 0), (260, .iload_n 1, 0), (261, .ifCond .eq (7), 268), (264, .iconst 2, 0), (265, .goto (4), 269), (268, .iconst 1, 0), (269, .iastore, 0), (270, .iconst 0, 0), (271, .istore 9, 0), (273, .iload 9, 0), (275, .iconst 3, 0), (276, .if_icmp .ge (28), 304), (279, .aload_n 0, 0), (280, .getfield 45, 918), (283, .iload 8, 0), (285, .iconst 1, 0), (286, .iadd, 0), (287, .iload 9, 0), (289, .iadd, 0), (290, .aload_n 0, 0), (291, .getfield 57, 923), (294, .iload 9, 0), (296, .iaload, 0), (297, .iastore, 0), (298, .iinc 9 (1), 0), (301, .goto (-28), 273), (304, .aload_n 0, 0), (305, .getfield 45, 918), (308, .iload 8, 0), (310, .iconst 4, 0), (311, .iadd, 0), (312, .iload 7, 0), (314, .iastore, 0), (315, .aload_n 0, 0), (316, .getfield 45, 918), (319, .iload 8, 0), (321, .iconst 5, 0), (322, .iadd, 0), (323, .iconst 0, 0), (324, .iastore, 0), (325, .aload_n 0, 0), (326, .getfield 45, 918), (329, .iload 8, 0), (331, .bipush 6, 0), (333, .iadd, 0), (334, .iconst 0, 0), (335, .iastore, 0), (336, .aload_n 0, 0), (337, .getfield 45, 918), (340, .iload 8, 0), (342, .bipush 7, 0), (344, .iadd, 0), (345, .iload_n 2, 0), (346, .iastore, 0), (347, .aload_n 0, 0), (348, .aload_n 0, 0), (349, .invokevirtual 194, 158), (352, .ldc 197, 65536), (354, .aload_n 0, 0), (355, .getfield 57, 923), (358, .iconst 0, 0), (359, .iaload, 0), (360, .imul, 0), (361, .sipush 256, 0), (364, .aload_n 0, 0), (365, .getfield 57, 923), (368, .iconst 1, 0), (369, .iaload, 0), (370, .imul, 0), (371, .iadd, 0), (372, .aload_n 0, 0), (373, .getfield 57, 923), (376, .iconst 2, 0), (377, .iaload, 0), (378, .iadd, 0), (379, .invokevirtual 187, 159), (382, .ireturn, 0)]
def iv_m168 : List (Nat × Instr × Nat) := [(0, .iconst 1, 0), (1, .istore_n 2, 0), (2, .iconst 0, 0), (3, .istore_n 3, 0), (4, .iload_n 3, 0), (5, .bipush 8, 0), (7, .if_icmp .ge (29), 36), (10, .iload_n 2, 0), (11, .ifCond .eq (17), 28), (14, .aload_n 0, 0), (15, .iload_n 1, 0), (16, .iload_n 3, 0), (17, .iconst 0, 0), (18, .invokevirtual 84, 139), (21, .ifCond .ne (7), 28), (24, .iconst 1, 0), (25, .goto (4), 29), (28, .iconst 0, 0), (29, .istore_n 2, 0), (30, .iinc 3 (1), 0), (33, .goto (-29), 4), (36, .iload_n 2, 0), (37, .ireturn, 0)]
def iv_m169 : List (Nat × Instr × Nat) := [(0, .aload_n 0, 0), (1, .iconst 1, 0), (2, .invokevirtual 171, 160), (5, .istore_n 1, 0), (6, .iload_n 1, 0), (7, .ifCond .le (9), 16), (10, .aload_n 0, 0), (11, .iload_n 1, 0), (12, .invokevirtual 156, 134), (15, .ireturn, 0), (16, .aload_n 0, 0), (17, .iconst 0, 0), (18, .putfield 75, 900), (21, .aload_n 0, 0), (22, .invokevirtual 126, 149), (25, .istore_n 2, 0), (26, .iload_n 2, 0), (27, .ifCond .ge (5), 32), (30, .iconst (-1), 0), (31, .ireturn, 0), (32, .aload_n 0, 0), (33, .getfield 33, 914), (36, .aload_n 0, 0), (37, .getfield 112, 913), (40, .iaload, 0), (41, .istore_n 3, 0), (42, .aload_n 0, 0), (43, .iload_n 3, 0), (44, .iload_n 2, 0), (45, .iconst 4, 0), (46, .invokevirtual 84, 139), (49, .istore 4, 0), (51, .aload_n 0, 0), (52, .iload_n 3, 0), (53, .iload_n 2, 0), (54, .iconst 0, 0), (55, .invokevirtual 84, 139), (58, .iconst 2, 0), (59, .if_icmp .ne (7), 66), (62, .iconst 1, 0), (63, .goto (4), 67), (66, .iconst 0, 0), (67, .istore 5, 0), (69, .iload 5, 0), (71, .ifCond .eq (22), 93), (74, .iload 4, 0), (76, .invokestatic 118, 2138), (79, .ifCond .eq (14), 93), (82, .aload_n 0, 0), (83, .iload 4, 0), (85, .invokevirtual 198, 168), (88, .ifCond .ne (5), 93), (91, .iconst (-1), 0), (92, .ireturn, 0), (93, .aload_n 0, 0), (94, .iload_n 3, 0), (95, .iload_n 2, 0), (96, .invokevirtual 100, 144), (99, .istore 6, 0), (101, .aload_n 0, 0), (102, .iconst 0, 0), (103, .putfield 130, 920), (106, .iload 5, 0), (108, .ifCond .ne (14), 122), (111, .aload_n 0, 0), (112, .iload_n 3, 0), (113, .iload_n 2, 0), (114, .invokevirtual 201, 151), (117, .istore 7, 0), (119, .goto (24), 143), (122, .iload 4, 0), (124, .invokestatic 118, 2138), (127, .ifCond .eq (16), 143), (130, .aload_n 0, 0), (131, .getfield 51, 921), (134, .iconst 0, 0), (135, .iload 4, 0), (137, .iastore, 0), (138, .aload_n 0, 0), (139, .iconst 1, 0), (140, .putfield 130, 920), (143, .aload_n 0, 0), (144, .invokevirtual 181, 152), (147, .bipush 8, 0), (149, .iload_n 2, 0), (150, .iload 6, 0), (152, .isub, 0), (153, .imul, 0), (154, .istore 7, 0), (156, .iload 7, 0), (158, .bipush 8, 0), (160, .iload_n 2, 0), (161, .imul, 0), (162, .bipush 8, 0), (164, .iadd, 0), (165, .if_icmp .ge (25), 190), (168, .aload_n 0, 0), (169, .getfield 45, 918), (172, .bipush 64, 0), (174, .aload_n 0, 0), (175, .getfield 112, 913), (178, .imul, 0), (179, .iload 7, 0), (181, .iadd, 0), (182, .iconst 0, 0), (183, .iastore, 0), (184, .iinc 7 (1), 0), (187, .goto (-31), 156), (190, .aload_n 0, 0), (191, .invokevirtual 204, 157), (194, .aload_n 0, 0), (195, .aload_n 0, 0), (196, .invokevirtual 194, 158), (199, .iconst 1, 0), (200, .invokevirtual 187, 159), (203, .ireturn, 0)]
def iv_m170 : List (Nat × Instr × Nat) := [(0, .aload_n 0, 0), (1, .invokevirtual 181, 152), (4, .iconst 0, 0), (5, .istore 4, 0), (7, .iconst 0, 0), (8, .istore 5, 0), (10, .iconst 0, 0), (11, .istore 6, 0), (13, .bipush 64, 0), (15, .iload 6, 0), (17, .imul, 0), (18, .iload_n 2, 0), (19, .if_icmp .ge (116), 135), (22, .iconst 0, 0), (23, .istore 7, 0), (25, .iload 7, 0), (27, .bipush 64, 0), (29, .if_icmp .ge (45), 74), (32, .aload_n 0, 0), (33, .getfield 54, 922), (36, .iload 7, 0), (38, .bipush 64, 0), (40, .iload 6, 0), (42, .imul, 0), (43, .iload 7, 0), (45, .iadd, 0), (46, .iload_n 2, 0), (47, .if_icmp .ge (19), 66), (50, .aload_n 0, 0), (51, .getfield 48, 919), (54, .bipush 64, 0), (56, .iload 6, 0), (58, .imul, 0), (59, .iload 7, 0), (61, .iadd, 0), (62, .iaload, 0), (63, .goto (4), 67), (66, .iconst 0, 0), (67, .iastore, 0), (68, .iinc 7 (1), 0), (71, .goto (-46), 25), (74, .aload_n 0, 0), (75, .invokevirtual 153, 155), (78, .istore 7, 0), (80, .iload 7, 0), (82, .ifCond .ge (6), 88), (85, .iload 7, 0), (87, .ireturn, 0), (88, .aload_n 0, 0), (89, .getfield 39, 916), (92, .iload 5, 0), (94, .iload 5, 0), (96, .ifCond .ne (12), 108), (99, .aload_n 0, 0), (100, .getfield 39, 916), (103, .iconst 0, 0), (104, .iaload, 0), (105, .goto (5), 110), (108, .iload 7, 0), (110, .iastore, 0), (111, .iload 6, 0), (113, .ifCond .ne (8), 121), (116, .iload 7, 0), (118, .goto (5), 123), (121, .iload 4, 0), (123, .istore 4, 0), (125, .iload 7, 0), (127, .istore 5, 0), (129, .iinc 6 (1), 0), (132, .goto (-119), 13), (135, .aload_n 0, 0), (136, .invokevirtual 204, 157), (139, .bipush 64, 0), (141, .aload_n 0, 0), (142, .getfield 112, 913), (145, .imul, 0), (146, .bipush 8, 0), (148, .iload_n 1, 0), (149, .imul, 0), (150, .iadd, 0), (151, .istore 6, 0), (153, .aload_n 0, 0), (154, .getfield 45, 918), (157, .iload 6, 0), (159, .iconst 4, 0), (160, .iadd, 0), (161, .iload 4, 0), (163, .iastore, 0), (164, .aload_n 0, 0), (165, .getfield 45, 918), (168, .iload 6, 0), (170, .iconst 5, 0), (171, .iadd, 0), (172, .iload_n 2, 0), (173, .iastore, 0), (174, .aload_n 0, 0), (175, .getfield 45, 918), (178, .iload 6, 0), (180, .bipush 7, 0), (182, .iadd, 0), (183, .iload_n 3, 0), (184, .iastore, 0), (185, .aload_n 0, 0), (186, .invokevirtual 194, 158), (189, .ireturn, 0)]
def iv_m171 : List (Nat × Instr × Nat) := [(0, .aload_n 0, 0), (1, .iload 4, 0), (3, .iconst 1, 0), (4, .if_icmp .lt (27), 31), (7, .iload 4, 0), (9, .bipush 8, 0), (11, .if_icmp .gt (20), 31), (14, .iload 5, 0), (16, .ifCond .lt (15), 31), (19, .iload 5, 0), (21, .sipush 255, 0), (24, .if_icmp .gt (7), 31), (27, .iconst 1, 0), (28, .goto (4), 32), (31, .iconst 0, 0), (32, .invokevirtual 171, 160), (35, .istore 6, 0), (37, .iload 6, 0), (39, .ifCond .le (10), 49), (42, .aload_n 0, 0), (43, .iload 6, 0), (45, .invokevirtual 156, 134), (48, .ireturn, 0), (49, .aload_n 0, 0), (50, .iconst 0, 0), (51, .putfield 75, 900), (54, .aload_n 0, 0), (55, .invokevirtual 207, 150), (58, .istore 7, 0), (60, .iload 7, 0), (62, .ifCond .ge (7), 69), (65, .iconst 0, 0), (66, .goto (19), 85), (69, .aload_n 0, 0), (70, .aload_n 0, 0), (71, .getfield 33, 914), (74, .aload_n 0, 0), (75, .getfield 112, 913), (78, .iaload, 0), (79, .iload 7, 0), (81, .iconst 5, 0), (82, .invokevirtual 84, 139), (85, .istore 8, 0), (87, .iload 7, 0), (89, .ifCond .lt (13), 102), (92, .iload_n 1, 0), (93, .ifCond .lt (9), 102), (96, .iload_n 1, 0), (97, .iload 8, 0), (99, .if_icmp .le (5), 104), (102, .iconst (-1), 0), (103, .ireturn, 0), (104, .iload_n 1, 0), (105, .iload 4, 0), (107, .iadd, 0), (108, .iload 8, 0), (110, .if_icmp .le (10), 120), (113, .iload_n 1, 0), (114, .iload 4, 0), (116, .iadd, 0), (117, .goto (5), 122), (120, .iload 8, 0), (122, .istore 9, 0), (124, .iload 9, 0), (126, .sipush 192, 0), (129, .if_icmp .le (9), 138), (132, .aload_n 0, 0), (133, .iconst 3, 0), (134, .invokevirtual 156, 134), (137, .ireturn, 0), (138, .aload_n 0, 0), (139, .aload_n 0, 0), (140, .getfield 33, 914), (143, .aload_n 0, 0), (144, .getfield 112, 913), (147, .iaload, 0), (148, .iload 7, 0), (150, .invokevirtual 201, 151), (153, .istore 10, 0), (155, .iconst 0, 0), (156, .istore 11, 0), (158, .iload 11, 0), (160, .iload 4, 0), (162, .if_icmp .ge (35), 197), (165, .aload_n 0, 0), (166, .getfield 48, 919), (169, .iload_n 1, 0), (170, .iload 11, 0), (172, .iadd, 0), (173, .lload_n 2, 0), (174, .bipush 8, 0), (176, .iload 4, 0), (178, .iconst 1, 0), (179, .isub, 0), (180, .iload 11, 0), (182, .isub, 0), (183, .imul, 0), (184, .lushr, 0), (185, .l2i, 0), (186, .sipush 255, 0), (189, .iand, 0), (190, .iastore, 0), (191, .iinc 11 (1), 0), (194, .goto (-36), 158), (197, .aload_n 0, 0), (198, .aload_n 0, 0), (199, .iload 7, 0), (201, .iload 9, 0), (203, .iload 5, 0), (205, .invokevirtual 210, 170), (208, .iload 9, 0), (210, .invokevirtual 187, 159), (213, .ireturn, 0)]
def iv_m172 : List (Nat × Instr × Nat) := [(0, .aload_n 0, 0), (1, .iconst 1, 0), (2, .invokevirtual 171, 160), (5, .istore_n 2, 0), (6, .iload_n 2, 0), (7, .ifCond .le (9), 16), (10, .aload_n 0, 0), (11, .iload_n 2, 0), (12, .invokevirtual 156, 134), (15, .ireturn, 0), (16, .aload_n 0, 0), (17, .iconst 0, 0), (18, .putfield 75, 900), (21, .aload_n 0, 0), (22, .invokevirtual 207, 150), (25, .istore_n 3, 0), (26, .iload_n 3, 0), (27, .ifCond .ge (7), 34), (30, .iconst 0, 0), (31, .goto (18), 49), (34, .aload_n 0, 0), (35, .aload_n 0, 0), (36, .getfield 33, 914), (39, .aload_n 0, 0), (40, .getfield 112, 913), (43, .iaload, 0), (44, .iload_n 3, 0), (45, .iconst 5, 0), (46, .invokevirtual 84, 139), (49, .istore 4, 0), (51, .iload_n 3, 0), (52, .ifCond .lt (13), 65), (55, .iload_n 1, 0), (56, .ifCond .lt (9), 65), (59, .iload_n 1, 0), (60, .iload 4, 0), (62, .if_icmp .le (5), 67), (65, .iconst (-1), 0), (66, .ireturn, 0), (67, .iload_n 1, 0), (68, .sipush 192, 0), (71, .if_icmp .le (9), 80), (74, .aload_n 0, 0), (75, .iconst 3, 0), (76, .invokevirtual 156, 134), (79, .ireturn, 0), (80, .iload_n 1, 0), (81, .iload 4, 0), (83, .if_icmp .ne (5), 88), (86, .iconst 0, 0), (87, .ireturn, 0), (88, .aload_n 0, 0), (89, .aload_n 0, 0), (90, .getfield 33, 914), (93, .aload_n 0, 0), (94, .getfield 112, 913), (97, .iaload, 0), (98, .iload_n 3, 0), (99, .invokevirtual 201, 151), (102, .istore 5, 0), (104, .aload_n 0, 0), (105, .aload_n 0, 0), (106, .iload_n 3, 0), (107, .iload_n 1, 0), (108, .aload_n 0, 0), (109, .aload_n 0, 0), (110, .getfield 33, 914), (113, .aload_n 0, 0), (114, .getfield 112, 913), (117, .iaload, 0), (118, .iload_n 3, 0), (119, .bipush 7, 0), (121, .invokevirtual 84, 139), (124, .invokevirtual 210, 170), (127, .iload 4, 0), (129, .iload_n 1, 0), (130, .isub, 0), (131, .invokevirtual 187, 159), (134, .ireturn, 0)]
def iv_m173 : List (Nat × Instr × Nat) := [(0, .aload_n 0, 0), (1, .iconst 1, 0), (2, .invokevirtual 171, 160), (5, .istore_n 2, 0), (6, .iload_n 2, 0), (7, .ifCond .le (9), 16), (10, .aload_n 0, 0), (11, .iload_n 2, 0), (12, .invokevirtual 156, 134), (15, .ireturn, 0), (16, .aload_n 0, 0), (17, .iconst 0, 0), (18, .putfield 75, 900), (21, .aload_n 0, 0), (22, .invokevirtual 207, 150), (25, .istore_n 3, 0), (26, .iload_n 3, 0), (27, .ifCond .ge (5), 32), (30, .iconst (-1), 0), (31, .ireturn, 0), (32, .aload_n 0, 0), (33, .aload_n 0, 0), (34, .getfield 33, 914), (37, .aload_n 0, 0), (38, .getfield 112, 913), (41, .iaload, 0), (42, .iload_n 3, 0), (43, .invokevirtual 201, 151), (46, .istore 4, 0), (48, .iload_n 1, 0), (49, .ifCond .lt (18), 67), (52, .iload_n 1, 0), (53, .iload 4, 0), (55, .if_icmp .ge (12), 67), (58, .aload_n 0, 0), (59, .getfield 48, 919), (62, .iload_n 1, 0), (63, .iaload, 0), (64, .goto (4), 68), (67, .iconst (-1), 0), (68, .ireturn, 0)]
def iv_m174 : List (Nat × Instr × Nat) := [(0, .aload_n 0, 0), (1, .iconst 1, 0), (2, .invokevirtual 171, 160), (5, .istore_n 1, 0), (6, .iload_n 1, 0), (7, .ifCond .le (9), 16), (10, .aload_n 0, 0), (11, .iload_n 1, 0), (12, .invokevirtual 156, 134), (15, .ireturn, 0), (16, .aload_n 0, 0), (17, .iconst 0, 0), (18, .putfield 75, 900), (21, .aload_n 0, 0), (22, .invokevirtual 126, 149), (25, .istore_n 2, 0), (26, .iload_n 2, 0), (27, .ifCond .ge (5), 32), (30, .iconst (-1), 0), (31, .ireturn, 0), (32, .aload_n 0, 0), (33, .getfield 33, 914), (36, .aload_n 0, 0), (37, .getfield 112, 913), (40, .iaload, 0), (41, .istore_n 3, 0), (42, .aload_n 0, 0), (43, .iload_n 3, 0), (44, .iload_n 2, 0), (45, .iconst 5, 0), (46, .invokevirtual 84, 139), (49, .sipush 256, 0), (52, .aload_n 0, 0), (53, .iload_n 3, 0), (54, .iload_n 2, 0), (55, .bipush 7, 0), (57, .invokevirtual 84, 139), (60, .imul, 0), (61, .iadd, 0), (62, .aload_n 0, 0), (63, .iload_n 3, 0), (64, .iload_n 2, 0), (65, .iconst 0, 0), (66, .invokevirtual 84, 139), (69, .iconst 2, 0), (70, .if_icmp .ne (8), 78), (73, .ldc 197, 65536), (75, .goto (4), 79), (78, .iconst 0, 0), (79, .iadd, 0), (80, .ldc 213, 131072), (82, .aload_n 0, 0), (83, .iload_n 3, 0), (84, .iload_n 2, 0), (85, .iconst 4, 0), (86, .invokevirtual 84, 139), (89, .imul, 0), (90, .iadd, 0), (91, .ireturn, 0)]
def iv_m175 : List (Nat × Instr × Nat) := [(0, .aload_n 0, 0), (1, .iconst 0, 0), (2, .putfield 75, 900), (5, .aload_n 0, 0), (6, .getfield 139, 909), (9, .ifCond .ne (13), 22), (12, .iload_n 1, 0), (13, .ifCond .lt (9), 22), (16, .iload_n 1, 0), (17, .bipush 40, 0), (19, .if_icmp .le (5), 24), (22, .iconst 0, 0), (23, .ireturn, 0), (24, .aload_n 0, 0), (25, .iload_n 1, 0), (26, .putfield 136, 908), (29, .iconst 1, 0), (30, .ireturn, 0)]
def iv_m176 : List (Nat × Instr × Nat) := [(0, .aload_n 0, 0), (1, .iconst 0, 0), (2, .putfield 75, 900), (5, .iload_n 1, 0), (6, .invokestatic 118, 2138), (9, .ifCond .eq (12), 21), (12, .aload_n 0, 0), (13, .getfield 23, 907), (16, .iload_n 1, 0), (17, .baload, 0), (18, .ifCond .eq (5), 23), (21, .iconst 0, 0), (22, .ireturn, 0), (23, .aload_n 0, 0), (24, .getfield 23, 907), (27, .iload_n 1, 0), (28, .iconst 1, 0), (29, .bastore, 0), (30, .iconst 1, 0), (31, .ireturn, 0)]
def iv_m177 : List (Nat × Instr × Nat) := [(0, .aload_n 0, 0), (1, .iconst 0, 0), (2, .putfield 75, 900), (5, .aload_n 0, 0), (6, .getfield 139, 909), (9, .ifCond .ne (5), 14), (12, .iconst 0, 0), (13, .ireturn, 0), (14, .aload_n 0, 0), (15, .iconst 0, 0), (16, .putfield 139, 909), (19, .aload_n 0, 0), (20, .iconst 0, 0), (21, .putfield 136, 908), (24, .iconst 1, 0), (25, .ireturn, 0)]
def iv_m178 : List (Nat × Instr × Nat) := [(0, .iload_n 0, 0), (1, .ifCond .lt (33), 34), (4, .iload_n 0, 0), (5, .bipush 31, 0), (7, .if_icmp .gt (27), 34), (10, .iload_n 1, 0), (11, .ifCond .lt (23), 34), (14, .iload_n 1, 0), (15, .iload_n 0, 0), (16, .iconst 2, 0), (17, .if_icmp .ge (8), 25), (20, .bipush 32, 0), (22, .goto (5), 27), (25, .bipush 64, 0), (27, .if_icmp .ge (7), 34), (30, .iconst 1, 0), (31, .goto (4), 35), (34, .iconst 0, 0), (35, .ireturn, 0)]
def iv_m179 : List (Nat × Instr × Nat) := [(0, .aload_n 0, 0), (1, .iconst 0, 0), (2, .putfield 75, 900), (5, .iload_n 1, 0), (6, .iload_n 2, 0), (7, .invokestatic 214, 2178), (10, .ifCond .eq (14), 24), (13, .iload_n 3, 0), (14, .ifCond .lt (10), 24), (17, .iload_n 3, 0), (18, .sipush 255, 0), (21, .if_icmp .le (5), 26), (24, .iconst 0, 0), (25, .ireturn, 0), (26, .iload_n 1, 0), (27, .iconst 2, 0), (28, .if_icmp .ge (18), 46), (31, .aload_n 0, 0), (32, .getfield 13, 903), (35, .bipush 32, 0), (37, .iload_n 1, 0), (38, .imul, 0), (39, .iload_n 2, 0), (40, .iadd, 0), (41, .iload_n 3, 0), (42, .iastore, 0), (43, .goto (15), 58), (46, .aload_n 0, 0), (47, .getfield 16, 904), (50, .bipush 64, 0), (52, .iload_n 1, 0), (53, .imul, 0), (54, .iload_n 2, 0), (55, .iadd, 0), (56, .iload_n 3, 0), (57, .iastore, 0), (58, .iconst 1, 0), (59, .ireturn, 0)]
def iv_m180 : List (Nat × Instr × Nat) := [(0, .iconst 0, 0), (1, .istore_n 2, 0), (2, .iconst 2, 0), (3, .istore_n 3, 0), (4, .iload_n 3, 0), (5, .bipush 32, 0), (7, .if_icmp .ge (35), 42), (10, .iload_n 2, 0), (11, .aload_n 0, 0), (12, .getfield 13, 903), (15, .bipush 32, 0), (17, .aload_n 0, 0), (18, .getfield 133, 905), (21, .imul, 0), (22, .iload_n 3, 0), (23, .iadd, 0), (24, .iaload, 0), (25, .iload_n 1, 0), (26, .if_icmp .ne (7), 33), (29, .iconst 1, 0), (30, .goto (4), 34), (33, .iconst 0, 0), (34, .iadd, 0), (35, .istore_n 2, 0), (36, .iinc 3 (1), 0), (39, .goto (-35), 4), (42, .iload_n 2, 0), (43, .ireturn, 0)]
def iv_m181 : List (Nat × Instr × Nat) := [(0, .aload_n 0, 0), (1, .iconst 0, 0), (2, .putfield 75, 900), (5, .iload_n 1, 0), (6, .iconst (-1), 0), (7, .if_icmp .ne (76), 83), (10, .iload_n 2, 0), (11, .ifCond .ne (10), 21), (14, .aload_n 0, 0), (15, .getfield 133, 905), (18, .goto (64), 82), (21, .iload_n 2, 0), (22, .iconst 1, 0), (23, .if_icmp .ne (10), 33), (26, .aload_n 0, 0), (27, .getfield 19, 906), (30, .goto (52), 82), (33, .iload_n 2, 0), (34, .iconst 2, 0), (35, .if_icmp .ne (11), 46), (38, .aload_n 0, 0), (39, .iconst 0, 0), (40, .invokevirtual 217, 180), (43, .goto (39), 82), (46, .iload_n 2, 0), (47, .iconst 3, 0), (48, .if_icmp .ne (13), 61), (51, .aload_n 0, 0), (52, .sipush 254, 0), (55, .invokevirtual 217, 180), (58, .goto (24), 82), (61, .iload_n 2, 0), (62, .iconst 4, 0), (63, .if_icmp .ne (18), 81), (66, .aload_n 0, 0), (67, .getfield 139, 909), (70, .ifCond .eq (7), 77), (73, .iconst 1, 0), (74, .goto (8), 82), (77, .iconst 0, 0), (78, .goto (4), 82), (81, .iconst (-1), 0), (82, .ireturn, 0), (83, .iload_n 1, 0), (84, .iload_n 2, 0), (85, .invokestatic 214, 2178), (88, .ifCond .ne (5), 93), (91, .iconst (-1), 0), (92, .ireturn, 0), (93, .iload_n 1, 0), (94, .iconst 2, 0), (95, .if_icmp .ge (17), 112), (98, .aload_n 0, 0), (99, .getfield 13, 903), (102, .bipush 32, 0), (104, .iload_n 1, 0), (105, .imul, 0), (106, .iload_n 2, 0), (107, .iadd, 0), (108, .iaload, 0), (109, .goto (14), 123), (112, .aload_n 0, 0), (113, .getfield 16, 904), (116, .bipush 64, 0), (118, .iload_n 1, 0), (119, .imul, 0), (120, .iload_n 2, 0), (121, .iadd, 0), (122, .iaload, 0), (123, .ireturn, 0)]
def iv_m182 : List (Nat × Instr × Nat) := [(0, .iconst 0, 0), (1, .istore_n 3, 0), (2, .iload_n 3, 0), (3, .bipush 8, 0), (5, .if_icmp .ge (26), 31), (8, .aload_n 0, 0), (9, .getfield 16, 904), (12, .bipush 64, 0), (14, .iload_n 1, 0), (15, .imul, 0), (16, .bipush 8, 0), (18, .iload_n 2, 0), (19, .imul, 0), (20, .iadd, 0), (21, .iload_n 3, 0), (22, .iadd, 0), (23, .iconst 0, 0), (24, .iastore, 0), (25, .iinc 3 (1), 0), (28, .goto (-26), 2), (31, .return_, 0)]
def iv_m183 : List (Nat × Instr × Nat) := [(0, .iload_n 1, 0), (1, .invokestatic 118, 2138), (4, .ifCond .eq (36), 40), (7, .aload_n 0, 0), (8, .getfield 13, 903), (11, .bipush 32, 0), (13, .aload_n 0, 0), (14, .getfield 133, 905), (17, .imul, 0), (18, .iload_n 1, 0), (19, .iadd, 0), (20, .iaload, 0), (21, .sipush 254, 0), (24, .if_icmp .eq (16), 40), (27, .aload_n 0, 0), (28, .getfield 63, 925), (31, .iload_n 1, 0), (32, .baload, 0), (33, .ifCond .ne (7), 40), (36, .iconst 1, 0), (37, .goto (4), 41), (40, .iconst 0, 0), (41, .ireturn, 0)]
def iv_m184 : List (Nat × Instr × Nat) := [(0, .bipush 32, 0), (2, .aload_n 0, 0), (3, .getfield 133, 905), (6, .imul, 0), (7, .istore_n 3, 0), (8, .aload_n 0, 0), (9, .iload_n 1, 0), (10, .iload_n 2, 0), (11, .iconst 4, 0), (12, .invokevirtual 84, 139), (15, .istore 4, 0), (17, .aload_n 0, 0), (18, .iconst 0, 0), (19, .putfield 130, 920), (22, .aload_n 0, 0), (23, .getfield 130, 920), (26, .iconst 3, 0), (27, .if_icmp .ge (55), 82), (30, .aload_n 0, 0), (31, .iload 4, 0), (33, .invokevirtual 220, 183), (36, .ifCond .eq (46), 82), (39, .aload_n 0, 0), (40, .getfield 63, 925), (43, .iload 4, 0), (45, .iconst 1, 0), (46, .bastore, 0), (47, .aload_n 0, 0), (48, .getfield 51, 921), (51, .aload_n 0, 0), (52, .getfield 130, 920), (55, .iload 4, 0), (57, .iastore, 0), (58, .aload_n 0, 0), (59, .dup, 0), (60, .getfield 130, 920), (63, .iconst 1, 0), (64, .iadd, 0), (65, .putfield 130, 920), (68, .aload_n 0, 0), (69, .getfield 13, 903), (72, .iload_n 3, 0), (73, .iload 4, 0), (75, .iadd, 0), (76, .iaload, 0), (77, .istore 4, 0), (79, .goto (-57), 22), (82, .aload_n 0, 0), (83, .iload_n 1, 0), (84, .iload_n 2, 0), (85, .iconst 5, 0), (86, .invokevirtual 84, 139), (89, .bipush 64, 0), (91, .aload_n 0, 0), (92, .getfield 130, 920), (95, .imul, 0), (96, .if_icmp .ge (13), 109), (99, .aload_n 0, 0), (100, .iload_n 1, 0), (101, .iload_n 2, 0), (102, .iconst 5, 0), (103, .invokevirtual 84, 139), (106, .goto (10), 116), (109, .bipush 64, 0), (111, .aload_n 0, 0), (112, .getfield 130, 920), (115, .imul, 0), (116, .istore 5, 0), (118, .iload 5, 0), (120, .bipush 63, 0), (122, .iadd, 0), (123, .bipush 64, 0), (125, .idiv, 0), (126, .istore 6, 0), (128, .iload 6, 0), (130, .istore 7, 0), (132, .iload 7, 0), (134, .aload_n 0, 0), (135, .getfield 130, 920), (138, .if_icmp .ge (22), 160), (141, .aload_n 0, 0), (142, .getfield 63, 925), (145, .aload_n 0, 0), (146, .getfield 51, 921), (149, .iload 7, 0), (151, .iaload, 0), (152, .iconst 0, 0), (153, .bastore, 0), (154, .iinc 7 (1), 0), (157, .goto (-25), 132), (160, .aload_n 0, 0), (161, .getfield 16, 904), (164, .bipush 64, 0), (166, .iload_n 1, 0), (167, .imul, 0), (168, .bipush 8, 0), (170, .iload_n 2, 0), (171, .imul, 0), (172, .iadd, 0), (173, .iconst 5, 0), (174, .iadd, 0), (175, .iload 5, 0), (177, .iastore, 0), (178, .iload 6, 0), (180, .ifCond .le (25), 205), (183, .aload_n 0, 0), (184, .getfield 13, 903), (187, .iload_n 3, 0), (188, .aload_n 0, 0), (189, .getfield 51, 921), (192, .iload 6, 0), (194, .iconst 1, 0), (195, .isub, 0), (196, .iaload, 0), (197, .iadd, 0), (198, .sipush 255, 0), (201, .iastore, 0), (202, .goto (20), 222), (205, .aload_n 0, 0), (206, .getfield 16, 904), (209, .bipush 64, 0), (211, .iload_n 1, 0), (212, .imul, 0), (213, .bipush 8, 0), (215, .iload_n 2, 0), (216, .imul, 0), (217, .iadd, 0), (218, .iconst 4, 0), (219, .iadd, 0), (220, .iconst 0, 0), (221, .iastore, 0), (222, .return_, 0)]
def iv_m185 : List (Nat × Instr × Nat) := [(0, .aload_n 0, 0), (1, .getfield 66, 926), (4, .iload_n 1, 0), (5, .iaload, 0), (6, .istore_n 3, 0), (7, .aload_n 0, 0), (8, .iload_n 3, 0), (9, .iload_n 2, 0), (10, .iconst 0, 0), (11, .invokevirtual 84, 139), (14, .istore 4, 0), (16, .iload 4, 0), (18, .iconst 1, 0), (19, .if_icmp .eq (28), 47), (22, .iload 4, 0), (24, .iconst 2, 0), (25, .if_icmp .ne (26), 51), (28, .iload_n 1, 0), (29, .iconst 4, 0), (30, .if_icmp .ge (21), 51), (33, .aload_n 0, 0), (34, .aload_n 0, 0), (35, .iload_n 3, 0), (36, .iload_n 2, 0), (37, .iconst 4, 0), (38, .invokevirtual 84, 139), (41, .invokevirtual 220, 183), (44, .ifCond .eq (7), 51), (47, .iconst 1, 0), (48, .goto (4), 52), (51, .iconst 0, 0), (52, .istore 5, 0), (54, .iload 5, 0), (56, .ifCond .eq (12), 68), (59, .aload_n 0, 0), (60, .iload_n 3, 0), (61, .iload_n 2, 0), (62, .invokevirtual 100, 144), (65, .goto (4), 69), (68, .iconst 0, 0), (69, .istore 6, 0), (71, .aload_n 0, 0), (72, .getfield 72, 928), (75, .iload_n 1, 0), (76, .iaload, 0), (77, .istore 7, 0), (79, .iload 7, 0), (81, .iload_n 2, 0), (82, .iload 6, 0), (84, .isub, 0), (85, .if_icmp .ge (16), 101), (88, .aload_n 0, 0), (89, .iload_n 3, 0), (90, .iload 7, 0), (92, .invokevirtual 223, 182), (95, .iinc 7 (1), 0), (98, .goto (-19), 79), (101, .aload_n 0, 0), (102, .getfield 72, 928), (105, .iload_n 1, 0), (106, .iload_n 2, 0), (107, .iconst 1, 0), (108, .iadd, 0), (109, .iastore, 0), (110, .iload 5, 0), (112, .ifCond .ne (14), 126), (115, .iload 4, 0), (117, .ifCond .eq (9), 126), (120, .aload_n 0, 0), (121, .iload_n 3, 0), (122, .iload_n 2, 0), (123, .invokevirtual 223, 182), (126, .iload 5, 0), (128, .ifCond .eq (15), 143), (131, .iload 4, 0), (133, .iconst 1, 0), (134, .if_icmp .ne (9), 143), (137, .aload_n 0, 0), (138, .iload_n 3, 0), (139, .iload_n 2, 0), (140, .invokevirtual 227, 184), (143, .iload 5, 0), (145, .ifCond .eq (9), 154), (148, .iload 4, 0), (150, .iconst 1, 0), (151, .if_icmp .ne (5), 156), (154, .iconst 0, 0), (155, .ireturn, 0), (156, .aload_n 0, 0), (157, .iload_n 3, 0), (158, .iload_n 2, 0), (159, .iconst 4, 0), (160, .invokevirtual 84, 139), (163, .istore 7, 0), (165, .aload_n 0, 0), (166, .getfield 63, 925), (169, .iload 7, 0), (171, .iconst 1, 0), (172, .bastore, 0), (173, .aload_n 0, 0), (174, .getfield 13, 903), (177, .bipush 32, 0), (179, .aload_n 0, 0), (180, .getfield 133, 905), (183, .imul, 0), (184, .iload 7, 0), (186, .iadd, 0), (187, .sipush 255, 0), (190, .iastore, 0), (191, .aload_n 0, 0), (192, .getfield 16, 904), (195, .bipush 64, 0), (197, .iload_n 3, 0), (198, .imul, 0), (199, .bipush 8, 0), (201, .iload_n 2, 0), (202, .imul, 0), (203, .iadd, 0), (204, .iconst 5, 0), (205, .iadd, 0), (206, .iconst 0, 0), (207, .iastore, 0), (208, .aload_n 0, 0), (209, .getfield 66, 926), (212, .iload_n 1, 0), (213, .iconst 1, 0), (214, .iadd, 0), (215, .iload 7, 0), (217, .iastore, 0), (218, .aload_n 0, 0), (219, .getfield 69, 927), (222, .iload_n 1, 0), (223, .iconst 1, 0), (224, .iadd, 0), (225, .iconst 0, 0), (226, .iastore, 0), (227, .aload_n 0, 0), (228, .getfield 72, 928), (231, .iload_n 1, 0), (232, .iconst 1, 0), (233, .iadd, 0), (234, .iconst 0, 0), (235, .iastore, 0), (236, .iconst 1, 0), (237, .ireturn, 0)]
def iv_m186 : List (Nat × Instr × Nat) := [(0, .aload_n 0, 0), (1, .getfield 139, 909), (4, .ifCond .eq (9), 13), (7, .aload_n 0, 0), (8, .iconst 1, 0), (9, .invokevirtual 156, 134), (12, .ireturn, 0), (13, .aload_n 0, 0), (14, .iconst 0, 0), (15, .putfield 75, 900), (18, .iconst 0, 0), (19, .istore_n 1, 0), (20, .iload_n 1, 0), (21, .sipush 2112, 0), (24, .if_icmp .ge (39), 63), (27, .aload_n 0, 0), (28, .getfield 60, 924), (31, .iload_n 1, 0), (32, .iload_n 1, 0), (33, .bipush 64, 0), (35, .if_icmp .ge (12), 47), (38, .aload_n 0, 0), (39, .getfield 13, 903), (42, .iload_n 1, 0), (43, .iaload, 0), (44, .goto (12), 56), (47, .aload_n 0, 0), (48, .getfield 16, 904), (51, .iload_n 1, 0), (52, .bipush 64, 0), (54, .isub, 0), (55, .iaload, 0), (56, .iastore, 0), (57, .iinc 1 (1), 0), (60, .goto (-40), 20), (63, .iconst 0, 0), (64, .istore_n 1, 0), (65, .iload_n 1, 0), (66, .bipush 32, 0), (68, .if_icmp .ge (28), 96), (71, .aload_n 0, 0), (72, .getfield 63, 925), (75, .iload_n 1, 0), (76, .iload_n 1, 0), (77, .aload_n 0, 0), (78, .getfield 19, 906), (81, .if_icmp .ne (7), 88), (84, .iconst 1, 0), (85, .goto (4), 89), (88, .iconst 0, 0), (89, .bastore, 0), (90, .iinc 1 (1), 0), (93, .goto (-28), 65), (96, .aload_n 0, 0), (97, .getfield 13, 903), (100, .bipush 32, 0), (102, .aload_n 0, 0), (103, .getfield 133, 905), (106, .imul, 0), (107, .aload_n 0, 0), (108, .getfield 19, 906), (111, .iadd, 0), (112, .sipush 255, 0), (115, .iastore, 0), (116, .aload_n 0, 0), (117, .getfield 66, 926), (120, .iconst 0, 0), (121, .aload_n 0, 0), (122, .getfield 19, 906), (125, .iastore, 0), (126, .aload_n 0, 0), (127, .getfield 69, 927), (130, .iconst 0, 0), (131, .iconst 0, 0), (132, .iastore, 0), (133, .aload_n 0, 0), (134, .getfield 72, 928), (137, .iconst 0, 0), (138, .iconst 0, 0), (139, .iastore, 0), (140, .iconst 0, 0), (141, .istore_n 1, 0), (142, .iload_n 1, 0), (143, .ifCond .lt (94), 237), (146, .aload_n 0, 0), (147, .getfield 69, 927), (150, .iload_n 1, 0), (151, .iaload, 0), (152, .istore_n 2, 0), (153, .aload_n 0, 0), (154, .getfield 69, 927), (157, .iload_n 1, 0), (158, .dup2, 0), (159, .iaload, 0), (160, .iconst 1, 0), (161, .iadd, 0), (162, .iastore, 0), (163, .iload_n 2, 0), (164, .bipush 8, 0), (166, .if_icmp .ne (39), 205), (169, .aload_n 0, 0), (170, .getfield 72, 928), (173, .iload_n 1, 0), (174, .iaload, 0), (175, .istore_n 3, 0), (176, .iload_n 3, 0), (177, .bipush 8, 0), (179, .if_icmp .ge (20), 199), (182, .aload_n 0, 0), (183, .aload_n 0, 0), (184, .getfield 66, 926), (187, .iload_n 1, 0), (188, .iaload, 0), (189, .iload_n 3, 0), (190, .invokevirtual 223, 182), (193, .iinc 3 (1), 0), (196, .goto (-20), 176), (199, .iinc 1 (-1), 0), (202, .goto (32), 234), (205, .aload_n 0, 0), (206, .aload_n 0, 0), (207, .getfield 66, 926), (210, .iload_n 1, 0), (211, .iaload, 0), (212, .iload_n 2, 0), (213, .iconst 0, 0), (214, .invokevirtual 84, 139), (217, .bipush 15, 0), (219, .if_icmp .eq (15), 234), (222, .aload_n 0, 0), (223, .iload_n 1, 0), (224, .iload_n 2, 0), (225, .invokevirtual 230, 185), (228, .ifCond .eq (6), 234), (231, .iinc 1 (1), 0), (234, .goto (-92), 142), (237, .iconst 2, 0), (238, .istore_n 2, 0), (239, .iload_n 2, 0), (240, .bipush 32, 0), (242, .if_icmp .ge (56), 298), (245, .bipush 32, 0), (247, .aload_n 0, 0), (248, .getfield 133, 905), (251, .imul, 0), (252, .iload_n 2, 0), (253, .iadd, 0), (254, .istore_n 3, 0), (255, .aload_n 0, 0), (256, .getfield 13, 903), (259, .iload_n 3, 0), (260, .aload_n 0, 0), (261, .getfield 63, 925), (264, .iload_n 2, 0), (265, .baload, 0), (266, .ifCond .ne (15), 281), (269, .aload_n 0, 0), (270, .getfield 13, 903), (273, .iload_n 3, 0), (274, .iaload, 0), (275, .sipush 254, 0), (278, .if_icmp .ne (12), 290), (281, .aload_n 0, 0), (282, .getfield 13, 903), (285, .iload_n 3, 0), (286, .iaload, 0), (287, .goto (4), 291), (290, .iconst 0, 0), (291, .iastore, 0), (292, .iinc 2 (1), 0), (295, .goto (-56), 239), (298, .iconst 0, 0), (299, .istore_n 2, 0), (300, .iconst 0, 0), (301, .istore_n 3, 0), (302, .iload_n 3, 0), (303, .sipush 2112, 0), (306, .if_icmp .ge (50), 356), (309, .iload_n 2, 0), (310, .aload_n 0, 0), (311, .getfield 60, 924), (314, .iload_n 3, 0), (315, .iaload, 0), (316, .iload_n 3, 0), (317, .bipush 64, 0), (319, .if_icmp .ge (12), 331), (322, .aload_n 0, 0), (323, .getfield 13, 903), (326, .iload_n 3, 0), (327, .iaload, 0), (328, .goto (12), 340), (331, .aload_n 0, 0), (332, .getfield 16, 904), (335, .iload_n 3, 0), (336, .bipush 64, 0), (338, .isub, 0), (339, .iaload, 0), (340, .if_icmp .eq (7), 347), (343, .iconst 1, 0), (344, .goto (4), 348), (347, .iconst 0, 0), (348, .iadd, 0), (349, .istore_n 2, 0), (350, .iinc 3 (1), 0), (353, .goto (-51), 302), (356, .iload_n 2, 0), (357, .ireturn, 0)]
def iv_m187 : List (Nat × Instr × Nat) := [(0, .aload_n 3, 0), (1, .iconst 0, 0), (2, .aload_n 0, 0), (3, .iload_n 1, 0), (4, .iload_n 2, 0), (5, .invokevirtual 7, 4), (8, .i2l, 0), (9, .lastore, 0), (10, .goto (15), 25), (13, .astore 4, 0), (15, .iconst 1, 0), (16, .ireturn, 0), (17, .astore 4, 0), (19, .iconst 2, 0), (20, .ireturn, 0), (21, .astore 4, 0), (23, .iconst 3, 0), (24, .ireturn, 0), (25, .iconst 0, 0), (26, .ireturn, 0)]
def iv_m188 : List (Nat × Instr × Nat) := [(0, .aload_n 1, 0), (1, .iconst 0, 0), (2, .aload_n 0, 0), (3, .invokevirtual 19, 5), (6, .i2l, 0), (7, .lastore, 0), (8, .goto (12), 20), (11, .astore_n 2, 0), (12, .iconst 1, 0), (13, .ireturn, 0), (14, .astore_n 2, 0), (15, .iconst 2, 0), (16, .ireturn, 0), (17, .astore_n 2, 0), (18, .iconst 3, 0), (19, .ireturn, 0), (20, .iconst 0, 0), (21, .ireturn, 0)]
def iv_m189 : List (Nat × Instr × Nat) := [(0, .aload 6, 0), (2, .iconst 0, 0), (3, .aload_n 0, 0), (4, .iload_n 1, 0), (5, .lload_n 2, 0), (6, .iload 4, 0), (8, .iload 5, 0), (10, .invokevirtual 23, 6), (13, .i2l, 0), (14, .lastore, 0), (15, .goto (15), 30), (18, .astore 7, 0), (20, .iconst 1, 0), (21, .ireturn, 0), (22, .astore 7, 0), (24, .iconst 2, 0), (25, .ireturn, 0), (26, .astore 7, 0), (28, .iconst 3, 0), (29, .ireturn, 0), (30, .iconst 0, 0), (31, .ireturn, 0)]
def iv_m190 : List (Nat × Instr × Nat) := [(0, .aload_n 2, 0), (1, .iconst 0, 0), (2, .aload_n 0, 0), (3, .iload_n 1, 0), (4, .invokevirtual 27, 7), (7, .i2l, 0), (8, .lastore, 0), (9, .goto (12), 21), (12, .astore_n 3, 0), (13, .iconst 1, 0), (14, .ireturn, 0), (15, .astore_n 3, 0), (16, .iconst 2, 0), (17, .ireturn, 0), (18, .astore_n 3, 0), (19, .iconst 3, 0), (20, .ireturn, 0), (21, .iconst 0, 0), (22, .ireturn, 0)]
def iv_m191 : List (Nat × Instr × Nat) := [(0, .aload_n 2, 0), (1, .iconst 0, 0), (2, .aload_n 0, 0), (3, .iload_n 1, 0), (4, .invokevirtual 31, 8), (7, .i2l, 0), (8, .lastore, 0), (9, .goto (9), 18), (12, .astore_n 3, 0), (13, .iconst 1, 0), (14, .ireturn, 0), (15, .astore_n 3, 0), (16, .iconst 2, 0), (17, .ireturn, 0), (18, .iconst 0, 0), (19, .ireturn, 0)]
def iv_m192 : List (Nat × Instr × Nat) := [(0, .aload_n 1, 0), (1, .iconst 0, 0), (2, .aload_n 0, 0), (3, .invokevirtual 34, 9), (6, .i2l, 0), (7, .lastore, 0), (8, .goto (9), 17), (11, .astore_n 2, 0), (12, .iconst 1, 0), (13, .ireturn, 0), (14, .astore_n 2, 0), (15, .iconst 2, 0), (16, .ireturn, 0), (17, .iconst 0, 0), (18, .ireturn, 0)]
def iv_m193 : List (Nat × Instr × Nat) := [(0, .aload_n 1, 0), (1, .iconst 0, 0), (2, .aload_n 0, 0), (3, .invokevirtual 37, 15), (6, .i2l, 0), (7, .lastore, 0), (8, .goto (6), 14), (11, .astore_n 2, 0), (12, .iconst 1, 0), (13, .ireturn, 0), (14, .iconst 0, 0), (15, .ireturn, 0)]
def iv_nm : Nat := 194
def iv_tt (μ : Nat) : List (Nat × Instr × Nat) := (if μ < 97 then (if μ < 48 then (if μ < 24 then (if μ < 12 then (if μ < 6 then (if μ < 3 then (if μ < 1 then iv_m0 else (if μ < 2 then iv_m1 else iv_m2)) else (if μ < 4 then iv_m3 else (if μ < 5 then iv_m4 else iv_m5))) else (if μ < 9 then (if μ < 7 then iv_m6 else (if μ < 8 then iv_m7 else iv_m8)) else (if μ < 10 then iv_m9 else (if μ < 11 then iv_m10 else iv_m11)))) else (if μ < 18 then (if μ < 15 then (if μ < 13 then iv_m12 else (if μ < 14 then iv_m13 else iv_m14)) else (if μ < 16 then iv_m15 else (if μ < 17 then iv_m16 else iv_m17))) else (if μ < 21 then (if μ < 19 then iv_m18 else (if μ < 20 then iv_m19 else iv_m20)) else (if μ < 22 then iv_m21 else (if μ < 23 then iv_m22 else iv_m23))))) else (if μ < 36 then (if μ < 30 then (if μ < 27 then (if μ < 25 then iv_m24 else (if μ < 26 then iv_m25 else iv_m26)) else (if μ < 28 then iv_m27 else (if μ < 29 then iv_m28 else iv_m29))) else (if μ < 33 then (if μ < 31 then iv_m30 else (if μ < 32 then iv_m31 else iv_m32)) else (if μ < 34 then iv_m33 else (if μ < 35 then iv_m34 else iv_m35)))) else (if μ < 42 then (if μ < 39 then (if μ < 37 then iv_m36 else (if μ < 38 then iv_m37 else iv_m38)) else (if μ < 40 then iv_m39 else (if μ < 41 then iv_m40 else iv_m41))) else (if μ < 45 then (if μ < 43 then iv_m42 else (if μ < 44 then iv_m43 else iv_m44)) else (if μ < 46 then iv_m45 else (if μ < 47 then iv_m46 else iv_m47)))))) else (if μ < 72 then (if μ < 60 then (if μ < 54 then (if μ < 51 then (if μ < 49 then iv_m48 else (if μ < 50 then iv_m49 else iv_m50)) else (if μ < 52 then iv_m51 else (if μ < 53 then iv_m52 else iv_m53))) else (if μ < 57 then (if μ < 55 then iv_m54 else (if μ < 56 then iv_m55 else iv_m56)) else (if μ < 58 then iv_m57 else (if μ < 59 then iv_m58 else iv_m59)))) else (if μ < 66 then (if μ < 63 then (if μ < 61 then iv_m60 else (if μ < 62 then iv_m61 else iv_m62)) else (if μ < 64 then iv_m63 else (if μ < 65 then iv_m64 else iv_m65))) else (if μ < 69 then (if μ < 67 then iv_m66 else (if μ < 68 then iv_m67 else iv_m68)) else (if μ < 70 then iv_m69 else (if μ < 71 then iv_m70 else iv_m71))))) else (if μ < 84 then (if μ < 78 then (if μ < 75 then (if μ < 73 then iv_m72 else (if μ < 74 then iv_m73 else iv_m74)) else (if μ < 76 then iv_m75 else (if μ < 77 then iv_m76 else iv_m77))) else (if μ < 81 then (if μ < 79 then iv_m78 else (if μ < 80 then iv_m79 else iv_m80)) else (if μ < 82 then iv_m81 else (if μ < 83 then iv_m82 else iv_m83)))) else (if μ < 90 then (if μ < 87 then (if μ < 85 then iv_m84 else (if μ < 86 then iv_m85 else iv_m86)) else (if μ < 88 then iv_m87 else (if μ < 89 then iv_m88 else iv_m89))) else (if μ < 93 then (if μ < 91 then iv_m90 else (if μ < 92 then iv_m91 else iv_m92)) else (if μ < 95 then (if μ < 94 then iv_m93 else iv_m94) else (if μ < 96 then iv_m95 else iv_m96))))))) else (if μ < 145 then (if μ < 121 then (if μ < 109 then (if μ < 103 then (if μ < 100 then (if μ < 98 then iv_m97 else (if μ < 99 then iv_m98 else iv_m99)) else (if μ < 101 then iv_m100 else (if μ < 102 then iv_m101 else iv_m102))) else (if μ < 106 then (if μ < 104 then iv_m103 else (if μ < 105 then iv_m104 else iv_m105)) else (if μ < 107 then iv_m106 else (if μ < 108 then iv_m107 else iv_m108)))) else (if μ < 115 then (if μ < 112 then (if μ < 110 then iv_m109 else (if μ < 111 then iv_m110 else iv_m111)) else (if μ < 113 then iv_m112 else (if μ < 114 then iv_m113 else iv_m114))) else (if μ < 118 then (if μ < 116 then iv_m115 else (if μ < 117 then iv_m116 else iv_m117)) else (if μ < 119 then iv_m118 else (if μ < 120 then iv_m119 else iv_m120))))) else (if μ < 133 then (if μ < 127 then (if μ < 124 then (if μ < 122 then iv_m121 else (if μ < 123 then iv_m122 else iv_m123)) else (if μ < 125 then iv_m124 else (if μ < 126 then iv_m125 else iv_m126))) else (if μ < 130 then (if μ < 128 then iv_m127 else (if μ < 129 then iv_m128 else iv_m129)) else (if μ < 131 then iv_m130 else (if μ < 132 then iv_m131 else iv_m132)))) else (if μ < 139 then (if μ < 136 then (if μ < 134 then iv_m133 else (if μ < 135 then iv_m134 else iv_m135)) else (if μ < 137 then iv_m136 else (if μ < 138 then iv_m137 else iv_m138))) else (if μ < 142 then (if μ < 140 then iv_m139 else (if μ < 141 then iv_m140 else iv_m141)) else (if μ < 143 then iv_m142 else (if μ < 144 then iv_m143 else iv_m144)))))) else (if μ < 169 then (if μ < 157 then (if μ < 151 then (if μ < 148 then (if μ < 146 then iv_m145 else (if μ < 147 then iv_m146 else iv_m147)) else (if μ < 149 then iv_m148 else (if μ < 150 then iv_m149 else iv_m150))) else (if μ < 154 then (if μ < 152 then iv_m151 else (if μ < 153 then iv_m152 else iv_m153)) else (if μ < 155 then iv_m154 else (if μ < 156 then iv_m155 else iv_m156)))) else (if μ < 163 then (if μ < 160 then (if μ < 158 then iv_m157 else (if μ < 159 then iv_m158 else iv_m159)) else (if μ < 161 then iv_m160 else (if μ < 162 then iv_m161 else iv_m162))) else (if μ < 166 then (if μ < 164 then iv_m163 else (if μ < 165 then iv_m164 else iv_m165)) else (if μ < 167 then iv_m166 else (if μ < 168 then iv_m167 else iv_m168))))) else (if μ < 181 then (if μ < 175 then (if μ < 172 then (if μ < 170 then iv_m169 else (if μ < 171 then iv_m170 else iv_m171)) else (if μ < 173 then iv_m172 else (if μ < 174 then iv_m173 else iv_m174))) else (if μ < 178 then (if μ < 176 then iv_m175 else (if μ < 177 then iv_m176 else iv_m177)) else (if μ < 179 then iv_m178 else (if μ < 180 then iv_m179 else iv_m180)))) else (if μ < 187 then (if μ < 184 then (if μ < 182 then iv_m181 else (if μ < 183 then iv_m182 else iv_m183)) else (if μ < 185 then iv_m184 else (if μ < 186 then iv_m185 else iv_m186))) else (if μ < 190 then (if μ < 188 then iv_m187 else (if μ < 189 then iv_m188 else iv_m189)) else (if μ < 192 then (if μ < 191 then iv_m190 else iv_m191) else (if μ < 193 then iv_m192 else iv_m193))))))))
def iv_t (μ : Nat) : List (Nat × Instr × Nat) := if 194 ≤ μ then [] else iv_tt μ
end
section
/-! the words that the program needs, by their places in lw_tbl -/
def iv_all : List Cond := lw_tbl.filter goodWord
def iv_is (q : Nat × Cond) : Bool := decide (lw_tbl[q.1]? = some q.2) && goodWord q.2
theorem iv_is_in {q : Nat × Cond} (h : iv_is q = true) : q.2 ∈ iv_all := by
  unfold iv_is at h
  rw [Bool.and_eq_true] at h
  exact List.mem_filter.mpr ⟨List.mem_of_getElem? (of_decide_eq_true h.1), h.2⟩
theorem iv_good (w : Cond) (h : w ∈ iv_all) : (w.onTables && w.keeps) = true ∨ ∃ ty, w = .arrayClass ty := good_of_word (List.mem_filter.mp h).2
theorem iv_all_in {w : Cond} (h : w ∈ iv_all) : w ∈ lw_tbl := (List.mem_filter.mp h).1
/-- fields: class of the code, entry, class, field, place -/
def iv_fl : List (Nat × Nat × Nat × Nat × Nat) := [(0, 10, 0, 0, 252), (0, 19, 0, 1, 253), (0, 28, 0, 2, 254), (0, 37, 0, 3, 255), (0, 44, 0, 4, 256), (0, 53, 0, 5, 257), (0, 60, 0, 6, 258), (1, 9, 1, 0, 122), (1, 15, 1, 1, 123), (1, 18, 1, 2, 124), (1, 21, 1, 3, 125), (1, 25, 1, 4, 126), (2, 9, 2, 2, 214), (2, 15, 2, 3, 215), (2, 19, 2, 4, 216), (2, 22, 2, 0, 212), (2, 26, 2, 1, 213), (3, 9, 3, 0, 92), (3, 15, 3, 1, 93), (3, 18, 3, 2, 94), (3, 22, 3, 4, 96), (3, 26, 3, 3, 95), (3, 29, 3, 6, 98), (3, 33, 3, 5, 97), (4, 9, 4, 1, 181), (4, 15, 4, 2, 182), (4, 18, 4, 0, 180), (4, 22, 4, 3, 183), (4, 46, 4, 4, 184), (5, 9, 5, 0, 151), (5, 21, 5, 1, 152), (5, 25, 5, 2, 153), (6, 9, 6, 1, 237), (6, 15, 6, 2, 238), (6, 19, 6, 3, 239), (6, 24, 6, 4, 240), (6, 28, 6, 0, 236), (7, 11, 7, 2, 163), (7, 17, 7, 0, 161), (7, 21, 7, 1, 162), (7, 37, 7, 3, 164), (8, 9, 8, 0, 202), (9, 7, 9, 2, 933), (9, 13, 9, 3, 934), (9, 16, 9, 4, 935), (9, 19, 9, 6, 937), (9, 23, 9, 7, 938), (9, 27, 9, 11, 942), (9, 30, 9, 12, 943), (9, 33, 9, 14, 945), (9, 36, 9, 15, 946), (9, 39, 9, 16, 947), (9, 42, 9, 17, 948), (9, 45, 9, 18, 949), (9, 48, 9, 19, 950), (9, 51, 9, 21, 952), (9, 54, 9, 22, 953), (9, 57, 9, 23, 954), (9, 60, 9, 24, 955), (9, 63, 9, 25, 956), (9, 66, 9, 26, 957), (9, 69, 9, 27, 958), (9, 72, 9, 28, 959), (9, 75, 9, 0, 931), (9, 78, 9, 1, 932), (9, 81, 9, 10, 941), (9, 112, 9, 13, 944), (9, 130, 9, 20, 951), (9, 133, 9, 5, 936), (9, 136, 9, 8, 939), (9, 139, 9, 9, 940)]
def iv_flw (q : Nat × Nat × Nat × Nat × Nat) : Nat × Cond := (q.2.2.2.2, .fieldLink (iv_cnm q.1) q.2.1 (iv_cnm q.2.2.1) (iv_T q.2.2.1 q.2.2.2.1).2.1 (iv_T q.2.2.1 q.2.2.2.1).2.2.1)
theorem iv_fl_ok : iv_fl.all (fun q => iv_is (iv_flw q)) = true := by decide +kernel
/-- methods: class of the code, entry, method, place -/
def iv_ml : List (Nat × Nat × Nat × Nat) := [(0, 9, 53, 88), (0, 25, 117, 140), (0, 34, 77, 176), (0, 50, 44, 208), (0, 59, 107, 230), (0, 64, 34, 278), (0, 68, 33, 286), (0, 71, 24, 329), (0, 75, 17, 388), (0, 79, 118, 478), (0, 83, 123, 565), (0, 86, 120, 573), (0, 90, 41, 577), (0, 94, 122, 589), (0, 98, 98, 590), (0, 103, 128, 594), (0, 110, 19, 629), (0, 114, 129, 726), (0, 117, 18, 731), (0, 121, 22, 742), (0, 124, 20, 762), (0, 127, 124, 746), (0, 130, 125, 755), (0, 138, 78, 767), (0, 142, 84, 806), (0, 146, 126, 810), (0, 149, 21, 815), (0, 152, 85, 834), (0, 156, 82, 842), (0, 159, 83, 846), (0, 164, 56, 294), (0, 167, 58, 298), (0, 170, 25, 306), (0, 173, 60, 309), (0, 176, 61, 313), (0, 179, 57, 321), (0, 182, 26, 332), (0, 186, 63, 335), (0, 190, 27, 339), (0, 193, 65, 342), (0, 196, 23, 350), (0, 199, 62, 370), (0, 202, 64, 374), (0, 205, 16, 392), (0, 208, 108, 866), (0, 214, 35, 459), (0, 220, 45, 633), (0, 223, 48, 655), (0, 226, 130, 673), (0, 229, 96, 678), (0, 232, 43, 690), (0, 236, 95, 695), (0, 240, 131, 699), (0, 244, 51, 704), (0, 247, 90, 766), (0, 250, 47, 781), (0, 254, 46, 793), (0, 257, 101, 794), (0, 258, 94, 795), (0, 261, 49, 819), (0, 265, 69, 756), (0, 268, 54, 354), (0, 271, 55, 358), (0, 274, 68, 362), (0, 277, 29, 608), (1, 28, 38, 527), (1, 36, 37, 585), (1, 43, 40, 581), (1, 49, 93, 694), (2, 30, 72, 637), (2, 36, 120, 641), (2, 42, 121, 642), (2, 46, 89, 646), (2, 51, 46, 650), (2, 59, 80, 785), (2, 64, 81, 789), (2, 68, 50, 659), (2, 72, 79, 823), (2, 76, 66, 663), (2, 79, 59, 664), (2, 83, 60, 668), (2, 86, 71, 669), (2, 90, 90, 708), (2, 93, 93, 709), (2, 97, 88, 710), (2, 98, 52, 714), (2, 101, 73, 718), (2, 104, 74, 722), (3, 36, 66, 366), (3, 44, 64, 761), (4, 30, 70, 772), (4, 36, 66, 773), (4, 49, 85, 777), (5, 15, 70, 492), (5, 28, 94, 682), (5, 32, 93, 686), (5, 36, 92, 507), (5, 40, 97, 503), (5, 44, 105, 511), (5, 48, 106, 534), (5, 55, 104, 542), (5, 58, 102, 549), (5, 66, 103, 515), (5, 69, 37, 519), (5, 74, 39, 523), (5, 77, 101, 538), (6, 33, 75, 870), (6, 39, 55, 874), (6, 43, 109, 875), (6, 47, 111, 883), (6, 51, 110, 917), (6, 54, 76, 921), (6, 58, 67, 879), (6, 61, 66, 898), (6, 65, 87, 887), (6, 69, 92, 888), (6, 73, 112, 889), (6, 77, 101, 899), (6, 80, 94, 900), (6, 83, 114, 901), (6, 87, 88, 915), (6, 91, 71, 916), (6, 95, 113, 893), (6, 102, 115, 905), (6, 106, 93, 914), (6, 110, 116, 909), (7, 26, 55, 482), (7, 32, 36, 483), (7, 45, 87, 488), (7, 49, 99, 499), (7, 53, 91, 553), (7, 57, 119, 557), (7, 61, 90, 560), (7, 64, 92, 564), (7, 68, 122, 569), (7, 72, 123, 750), (7, 76, 125, 751), (7, 80, 93, 814), (8, 15, 40, 598), (8, 21, 37, 599), (8, 25, 38, 600), (8, 29, 42, 601), (8, 32, 100, 609), (8, 43, 93, 703), (9, 84, 139, 1059), (9, 88, 143, 1078), (9, 92, 140, 1071), (9, 96, 145, 1067), (9, 100, 144, 1074), (9, 104, 142, 1055), (9, 108, 146, 1063), (9, 115, 147, 1051), (9, 118, 138, 1082), (9, 122, 148, 1047), (9, 126, 149, 1145), (9, 143, 154, 1116), (9, 146, 153, 1120), (9, 149, 156, 1136), (9, 153, 155, 1112), (9, 156, 134, 1043), (9, 159, 137, 1039), (9, 162, 161, 1085), (9, 165, 141, 1097), (9, 168, 162, 1100), (9, 171, 160, 1035), (9, 175, 164, 1089), (9, 178, 163, 1093), (9, 181, 152, 1104), (9, 184, 166, 1108), (9, 187, 159, 1124), (9, 190, 165, 1128), (9, 194, 158, 1132), (9, 198, 168, 1149), (9, 201, 151, 1153), (9, 204, 157, 1157), (9, 207, 150, 1165), (9, 210, 170, 1169), (9, 214, 178, 1202), (9, 217, 180, 1209), (9, 220, 183, 1225), (9, 223, 182, 1217), (9, 227, 184, 1229), (9, 230, 185, 1221), (10, 7, 4, 384), (10, 19, 5, 738), (10, 23, 6, 799), (10, 27, 7, 830), (10, 31, 8, 838), (10, 34, 9, 853), (10, 37, 15, 862), (10, 40, 1, 80), (10, 43, 132, 927), (10, 46, 2, 274), (10, 50, 135, 1023), (10, 51, 3, 282), (10, 54, 136, 1027), (10, 55, 187, 378), (10, 60, 167, 1031), (10, 61, 133, 1019), (10, 64, 188, 735), (10, 67, 169, 1141), (10, 68, 189, 796), (10, 71, 171, 1161), (10, 72, 190, 827), (10, 75, 172, 1173), (10, 76, 191, 835), (10, 78, 173, 1177), (10, 79, 192, 850), (10, 81, 174, 1181), (10, 82, 10, 290), (10, 86, 175, 1186), (10, 87, 11, 302), (10, 90, 176, 1190), (10, 91, 12, 317), (10, 95, 177, 1194), (10, 96, 13, 325), (10, 100, 179, 1198), (10, 101, 14, 346), (10, 105, 181, 1205), (10, 106, 193, 859), (10, 108, 186, 1213)]
def iv_mlw (q : Nat × Nat × Nat × Nat) : Nat × Cond := (q.2.2.2, .methodLink (iv_cnm q.1) q.2.1 (iv_y q.2.2.1))
theorem iv_ml_ok : iv_ml.all (fun q => iv_is (iv_mlw q)) = true := by decide +kernel
def iv_nl : List (Nat × Nat × Nat × Nat) := [(0, 18, 32, 118), (0, 43, 127, 198), (1, 32, 29, 531), (1, 39, 28, 586), (1, 46, 30, 605), (2, 55, 25, 654), (3, 40, 25, 760), (4, 26, 25, 771), (5, 51, 29, 613), (5, 62, 31, 546), (6, 32, 86, 235), (6, 99, 25, 897), (7, 25, 86, 147), (7, 41, 25, 487), (8, 39, 31, 677)]
def iv_nest : List (String × Nat × MethodName × String) := iv_nl.map (fun q => (iv_cnm q.1, q.2.1, iv_y q.2.2.1, "FatVolume"))
theorem iv_nl_ok : iv_nl.all (fun q => decide (lw_tbl[q.2.2.2]? = some (.methodLinkNest (iv_cnm q.1) q.2.1 (iv_y q.2.2.1) "FatVolume"))) = true := by decide +kernel
/-- classes made: class of the code, entry, class, place -/
def iv_ck : List (Nat × Nat × Nat × Nat) := [(0, 7, 3, 86), (0, 16, 1, 116), (0, 23, 7, 138), (0, 32, 4, 174), (0, 41, 8, 196), (0, 48, 2, 206), (0, 57, 6, 228), (6, 22, 5, 234), (7, 9, 5, 144), (10, 8, 0, 78), (10, 41, 9, 925)]
theorem iv_ck_ok : iv_ck.all (fun q => iv_is (q.2.2.2, .classLink (iv_cnm q.1) q.2.1 (iv_cnm q.2.2.1))) = true := by decide +kernel
/-- a class: its instantiable, initialized, then its fields -/
def iv_cs : List (Nat × Nat × Nat × List Nat) := [(0, 79, 60, [259, 261, 263, 265, 267, 269, 271]), (1, 117, 62, [127, 129, 131, 133, 135]), (2, 207, 67, [217, 219, 221, 223, 225]), (3, 87, 61, [99, 101, 103, 105, 107, 109, 111]), (4, 175, 65, [185, 187, 189, 191, 193]), (5, 146, 64, [154, 156, 158]), (6, 229, 68, [241, 243, 245, 247, 249]), (7, 139, 63, [165, 167, 169, 171]), (8, 197, 66, [203]), (9, 926, 69, [960, 962, 964, 966, 968, 970, 972, 974, 976, 978, 980, 982, 984, 986, 988, 990, 992, 994, 996, 998, 1000, 1002, 1004, 1006, 1008, 1010, 1012, 1014, 1016])]
theorem iv_cs_ok : iv_cs.all (fun q => iv_is (q.2.1, .instantiable (iv_cnm q.1) (iv_N q.1)) && iv_is (q.2.2.1, .initialized (iv_cnm q.1)) && (List.range (iv_N q.1)).all (fun j => iv_is (q.2.2.2.getD j 0, u_lay (iv_cnm q.1) (iv_T q.1) j))) = true := by decide +kernel
theorem iv_ilaw_ok : iv_is (59, .initialized (iv_cnm 10)) = true := by decide +kernel
/-- a method: its code, its static or instanceMethod, its selects (0: none) -/
def iv_ms : List (Nat × Nat × Nat × Nat × Nat) := [(1, 82, 0, 81, 99999), (2, 277, 0, 275, 276), (3, 285, 0, 283, 284), (4, 387, 0, 385, 386), (5, 741, 0, 739, 740), (6, 802, 0, 800, 801), (7, 833, 0, 831, 832), (8, 841, 0, 839, 840), (9, 856, 0, 854, 855), (10, 293, 0, 291, 292), (11, 305, 0, 303, 304), (12, 320, 0, 318, 319), (13, 328, 0, 326, 327), (14, 349, 0, 347, 348), (15, 865, 0, 863, 864), (16, 395, 0, 394, 2), (17, 391, 0, 390, 1), (18, 734, 0, 733, 12), (19, 632, 0, 631, 9), (20, 765, 0, 764, 14), (21, 818, 0, 817, 15), (22, 745, 0, 744, 13), (23, 353, 0, 352, 0), (24, 331, 1, 330, 99999), (25, 308, 1, 307, 99999), (26, 334, 1, 333, 99999), (27, 341, 1, 340, 99999), (28, 588, 1, 587, 99999), (29, 533, 1, 532, 99999), (30, 607, 1, 606, 99999), (31, 548, 1, 547, 99999), (32, 120, 0, 119, 99999), (33, 289, 0, 287, 288), (34, 281, 0, 279, 280), (35, 462, 0, 460, 461), (36, 486, 0, 484, 485), (37, 522, 0, 520, 521), (38, 530, 0, 528, 529), (39, 526, 0, 524, 525), (40, 584, 0, 582, 583), (41, 580, 0, 578, 579), (42, 604, 0, 602, 603), (43, 693, 0, 691, 692), (44, 210, 0, 209, 99999), (45, 636, 0, 634, 635), (46, 653, 0, 651, 652), (47, 784, 0, 782, 783), (48, 658, 0, 656, 657), (49, 822, 0, 820, 821), (50, 662, 0, 661, 10), (51, 707, 0, 705, 706), (52, 717, 0, 716, 11), (53, 90, 0, 89, 99999), (54, 357, 0, 355, 356), (55, 361, 0, 359, 360), (56, 297, 0, 295, 296), (57, 324, 0, 322, 323), (58, 301, 0, 299, 300), (59, 667, 0, 665, 666), (60, 312, 0, 310, 311), (61, 316, 0, 314, 315), (62, 373, 0, 371, 372), (63, 338, 0, 336, 337), (64, 377, 0, 375, 376), (65, 345, 0, 343, 344), (66, 369, 0, 367, 368), (67, 882, 0, 880, 881), (68, 365, 0, 363, 364), (69, 759, 0, 757, 758), (70, 495, 0, 493, 494), (71, 672, 0, 670, 671), (72, 640, 0, 638, 639), (73, 721, 0, 719, 720), (74, 725, 0, 723, 724), (75, 873, 0, 871, 872), (76, 924, 0, 922, 923), (77, 178, 0, 177, 99999), (78, 770, 0, 768, 769), (79, 826, 0, 824, 825), (80, 788, 0, 786, 787), (81, 792, 0, 790, 791), (82, 845, 0, 843, 844), (83, 849, 0, 847, 848), (84, 809, 0, 807, 808), (85, 780, 0, 778, 779), (86, 149, 0, 148, 99999), (87, 491, 0, 489, 490), (88, 713, 0, 711, 712), (89, 649, 0, 647, 648), (90, 563, 0, 561, 562), (91, 556, 0, 554, 555), (92, 510, 0, 508, 509), (93, 689, 0, 687, 688), (94, 685, 0, 683, 684), (95, 698, 0, 696, 697), (96, 681, 0, 679, 680), (97, 506, 0, 504, 505), (98, 593, 0, 591, 592), (99, 502, 0, 500, 501), (100, 612, 0, 610, 611), (101, 541, 0, 539, 540), (102, 552, 0, 551, 8), (103, 518, 0, 517, 5), (104, 545, 0, 544, 7), (105, 514, 0, 513, 4), (106, 537, 0, 536, 6), (107, 232, 0, 231, 99999), (108, 869, 0, 867, 868), (109, 878, 0, 877, 16), (110, 920, 0, 919, 23), (111, 886, 0, 885, 17), (112, 892, 0, 891, 18), (113, 896, 0, 895, 19), (114, 904, 0, 903, 20), (115, 908, 0, 907, 21), (116, 912, 0, 911, 22), (117, 142, 0, 141, 99999), (118, 481, 0, 479, 480), (119, 559, 1, 558, 99999), (120, 576, 0, 574, 575), (121, 645, 0, 643, 644), (122, 572, 0, 570, 571), (123, 568, 0, 566, 567), (124, 749, 0, 747, 748), (125, 754, 0, 752, 753), (126, 813, 0, 811, 812), (127, 200, 0, 199, 99999), (128, 597, 0, 595, 596), (129, 729, 0, 727, 728), (130, 676, 0, 674, 675), (131, 702, 0, 700, 701), (132, 929, 0, 928, 99999), (133, 1022, 0, 1020, 1021), (134, 1046, 0, 1045, 26), (135, 1026, 0, 1024, 1025), (136, 1030, 0, 1028, 1029), (137, 1042, 0, 1041, 25), (138, 1084, 1, 1083, 99999), (139, 1062, 0, 1061, 30), (140, 1073, 1, 1072, 99999), (141, 1099, 1, 1098, 99999), (142, 1058, 0, 1057, 29), (143, 1081, 0, 1080, 34), (144, 1077, 0, 1076, 33), (145, 1070, 0, 1069, 32), (146, 1066, 0, 1065, 31), (147, 1054, 0, 1053, 28), (148, 1050, 0, 1049, 27), (149, 1148, 0, 1147, 48), (150, 1168, 0, 1167, 52), (151, 1156, 0, 1155, 50), (152, 1107, 0, 1106, 39), (153, 1123, 0, 1122, 43), (154, 1119, 0, 1118, 42), (155, 1115, 0, 1114, 41), (156, 1139, 0, 1138, 47), (157, 1160, 0, 1159, 51), (158, 1135, 0, 1134, 46), (159, 1127, 0, 1126, 44), (160, 1038, 0, 1037, 24), (161, 1088, 0, 1087, 35), (162, 1103, 0, 1102, 38), (163, 1096, 0, 1095, 37), (164, 1092, 0, 1091, 36), (165, 1131, 0, 1130, 45), (166, 1111, 0, 1110, 40), (167, 1034, 0, 1032, 1033), (168, 1152, 0, 1151, 49), (169, 1144, 0, 1142, 1143), (170, 1172, 0, 1171, 53), (171, 1164, 0, 1162, 1163), (172, 1176, 0, 1174, 1175), (173, 1180, 0, 1178, 1179), (174, 1184, 0, 1182, 1183), (175, 1189, 0, 1187, 1188), (176, 1193, 0, 1191, 1192), (177, 1197, 0, 1195, 1196), (178, 1204, 1, 1203, 99999), (179, 1201, 0, 1199, 1200), (180, 1212, 0, 1211, 54), (181, 1208, 0, 1206, 1207), (182, 1220, 0, 1219, 55), (183, 1228, 0, 1227, 57), (184, 1232, 0, 1231, 58), (185, 1224, 0, 1223, 56), (186, 1216, 0, 1214, 1215), (187, 380, 1, 379, 99999), (188, 737, 1, 736, 99999), (189, 798, 1, 797, 99999), (190, 829, 1, 828, 99999), (191, 837, 1, 836, 99999), (192, 852, 1, 851, 99999), (193, 861, 1, 860, 99999)]
def iv_cw (μ : Nat) : Cond := match iv_h μ with
  | [] => .code (iv_y μ) (iv_c μ) (iv_L μ) (iv_r μ)
  | _ => .codeWith (iv_y μ) (iv_c μ) (iv_L μ) (iv_r μ) (iv_hh μ)
def iv_ms0 : List (Nat × Nat × Nat × Nat × Nat) := [(1, 82, 0, 81, 99999), (2, 277, 0, 275, 276), (3, 285, 0, 283, 284), (4, 387, 0, 385, 386), (5, 741, 0, 739, 740), (6, 802, 0, 800, 801), (7, 833, 0, 831, 832), (8, 841, 0, 839, 840), (9, 856, 0, 854, 855), (10, 293, 0, 291, 292), (11, 305, 0, 303, 304), (12, 320, 0, 318, 319), (13, 328, 0, 326, 327), (14, 349, 0, 347, 348), (15, 865, 0, 863, 864), (16, 395, 0, 394, 2)]
set_option maxRecDepth 100000 in
theorem iv_ms0_code : ∀ q ∈ iv_ms0, lw_tbl[q.2.1]? = some (iv_cw q.1) := List.forall_mem_cons.mpr ⟨rfl, List.forall_mem_cons.mpr ⟨rfl, List.forall_mem_cons.mpr ⟨rfl, List.forall_mem_cons.mpr ⟨rfl, List.forall_mem_cons.mpr ⟨rfl, List.forall_mem_cons.mpr ⟨rfl, List.forall_mem_cons.mpr ⟨rfl, List.forall_mem_cons.mpr ⟨rfl, List.forall_mem_cons.mpr ⟨rfl, List.forall_mem_cons.mpr ⟨rfl, List.forall_mem_cons.mpr ⟨rfl, List.forall_mem_cons.mpr ⟨rfl, List.forall_mem_cons.mpr ⟨rfl, List.forall_mem_cons.mpr ⟨rfl, List.forall_mem_cons.mpr ⟨rfl, List.forall_mem_cons.mpr ⟨rfl, fun _ h => absurd h List.not_mem_nil⟩⟩⟩⟩⟩⟩⟩⟩⟩⟩⟩⟩⟩⟩⟩⟩
def iv_ms1 : List (Nat × Nat × Nat × Nat × Nat) := [(17, 391, 0, 390, 1), (18, 734, 0, 733, 12), (19, 632, 0, 631, 9), (20, 765, 0, 764, 14), (21, 818, 0, 817, 15), (22, 745, 0, 744, 13), (23, 353, 0, 352, 0), (24, 331, 1, 330, 99999), (25, 308, 1, 307, 99999), (26, 334, 1, 333, 99999), (27, 341, 1, 340, 99999), (28, 588, 1, 587, 99999), (29, 533, 1, 532, 99999), (30, 607, 1, 606, 99999), (31, 548, 1, 547, 99999), (32, 120, 0, 119, 99999)]
set_option maxRecDepth 100000 in
theorem iv_ms1_code : ∀ q ∈ iv_ms1, lw_tbl[q.2.1]? = some (iv_cw q.1) := List.forall_mem_cons.mpr ⟨rfl, List.forall_mem_cons.mpr ⟨rfl, List.forall_mem_cons.mpr ⟨rfl, List.forall_mem_cons.mpr ⟨rfl, List.forall_mem_cons.mpr ⟨rfl, List.forall_mem_cons.mpr ⟨rfl, List.forall_mem_cons.mpr ⟨rfl, List.forall_mem_cons.mpr ⟨rfl, List.forall_mem_cons.mpr ⟨rfl, List.forall_mem_cons.mpr ⟨rfl, List.forall_mem_cons.mpr ⟨rfl, List.forall_mem_cons.mpr ⟨rfl, List.forall_mem_cons.mpr ⟨rfl, List.forall_mem_cons.mpr ⟨rfl, List.forall_mem_cons.mpr ⟨rfl, List.forall_mem_cons.mpr ⟨rfl, fun _ h => absurd h List.not_mem_nil⟩⟩⟩⟩⟩⟩⟩⟩⟩⟩⟩⟩⟩⟩⟩⟩
def iv_ms2 : List (Nat × Nat × Nat × Nat × Nat) := [(33, 289, 0, 287, 288), (34, 281, 0, 279, 280), (35, 462, 0, 460, 461), (36, 486, 0, 484, 485), (37, 522, 0, 520, 521), (38, 530, 0, 528, 529), (39, 526, 0, 524, 525), (40, 584, 0, 582, 583), (41, 580, 0, 578, 579), (42, 604, 0, 602, 603), (43, 693, 0, 691, 692), (44, 210, 0, 209, 99999), (45, 636, 0, 634, 635), (46, 653, 0, 651, 652), (47, 784, 0, 782, 783), (48, 658, 0, 656, 657)]
set_option maxRecDepth 100000 in
theorem iv_ms2_code : ∀ q ∈ iv_ms2, lw_tbl[q.2.1]? = some (iv_cw q.1) := List.forall_mem_cons.mpr ⟨rfl, List.forall_mem_cons.mpr ⟨rfl, List.forall_mem_cons.mpr ⟨rfl, List.forall_mem_cons.mpr ⟨rfl, List.forall_mem_cons.mpr ⟨rfl, List.forall_mem_cons.mpr ⟨rfl, List.forall_mem_cons.mpr ⟨rfl, List.forall_mem_cons.mpr ⟨rfl, List.forall_mem_cons.mpr ⟨rfl, List.forall_mem_cons.mpr ⟨rfl, List.forall_mem_cons.mpr ⟨rfl, List.forall_mem_cons.mpr ⟨rfl, List.forall_mem_cons.mpr ⟨rfl, List.forall_mem_cons.mpr ⟨rfl, List.forall_mem_cons.mpr ⟨rfl, List.forall_mem_cons.mpr ⟨rfl, fun _ h => absurd h List.not_mem_nil⟩⟩⟩⟩⟩⟩⟩⟩⟩⟩⟩⟩⟩⟩⟩⟩
def iv_ms3 : List (Nat × Nat × Nat × Nat × Nat) := [(49, 822, 0, 820, 821), (50, 662, 0, 661, 10), (51, 707, 0, 705, 706), (52, 717, 0, 716, 11), (53, 90, 0, 89, 99999), (54, 357, 0, 355, 356), (55, 361, 0, 359, 360), (56, 297, 0, 295, 296), (57, 324, 0, 322, 323), (58, 301, 0, 299, 300), (59, 667, 0, 665, 666), (60, 312, 0, 310, 311), (61, 316, 0, 314, 315), (62, 373, 0, 371, 372), (63, 338, 0, 336, 337), (64, 377, 0, 375, 376)]
set_option maxRecDepth 100000 in
theorem iv_ms3_code : ∀ q ∈ iv_ms3, lw_tbl[q.2.1]? = some (iv_cw q.1) := List.forall_mem_cons.mpr ⟨rfl, List.forall_mem_cons.mpr ⟨rfl, List.forall_mem_cons.mpr ⟨rfl, List.forall_mem_cons.mpr ⟨rfl, List.forall_mem_cons.mpr ⟨rfl, List.forall_mem_cons.mpr ⟨rfl, List.forall_mem_cons.mpr ⟨rfl, List.forall_mem_cons.mpr ⟨rfl, List.forall_mem_cons.mpr ⟨rfl, List.forall_mem_cons.mpr ⟨rfl, List.forall_mem_cons.mpr ⟨rfl, List.forall_mem_cons.mpr ⟨rfl, List.forall_mem_cons.mpr ⟨rfl, List.forall_mem_cons.mpr ⟨rfl, List.forall_mem_cons.mpr ⟨rfl, List.forall_mem_cons.mpr ⟨rfl, fun _ h => absurd h List.not_mem_nil⟩⟩⟩⟩⟩⟩⟩⟩⟩⟩⟩⟩⟩⟩⟩⟩
def iv_ms4 : List (Nat × Nat × Nat × Nat × Nat) := [(65, 345, 0, 343, 344), (66, 369, 0, 367, 368), (67, 882, 0, 880, 881), (68, 365, 0, 363, 364), (69, 759, 0, 757, 758), (70, 495, 0, 493, 494), (71, 672, 0, 670, 671), (72, 640, 0, 638, 639), (73, 721, 0, 719, 720), (74, 725, 0, 723, 724), (75, 873, 0, 871, 872), (76, 924, 0, 922, 923), (77, 178, 0, 177, 99999), (78, 770, 0, 768, 769), (79, 826, 0, 824, 825), (80, 788, 0, 786, 787)]
set_option maxRecDepth 100000 in
theorem iv_ms4_code : ∀ q ∈ iv_ms4, lw_tbl[q.2.1]? = some (iv_cw q.1) := List.forall_mem_cons.mpr ⟨rfl, List.forall_mem_cons.mpr ⟨rfl, List.forall_mem_cons.mpr ⟨rfl, List.forall_mem_cons.mpr ⟨rfl, List.forall_mem_cons.mpr ⟨rfl, List.forall_mem_cons.mpr ⟨rfl, List.forall_mem_cons.mpr ⟨rfl, List.forall_mem_cons.mpr ⟨rfl, List.forall_mem_cons.mpr ⟨rfl, List.forall_mem_cons.mpr ⟨rfl, List.forall_mem_cons.mpr ⟨rfl, List.forall_mem_cons.mpr ⟨rfl, List.forall_mem_cons.mpr ⟨rfl, List.forall_mem_cons.mpr ⟨rfl, List.forall_mem_cons.mpr ⟨rfl, List.forall_mem_cons.mpr ⟨rfl, fun _ h => absurd h List.not_mem_nil⟩⟩⟩⟩⟩⟩⟩⟩⟩⟩⟩⟩⟩⟩⟩⟩
def iv_ms5 : List (Nat × Nat × Nat × Nat × Nat) := [(81, 792, 0, 790, 791), (82, 845, 0, 843, 844), (83, 849, 0, 847, 848), (84, 809, 0, 807, 808), (85, 780, 0, 778, 779), (86, 149, 0, 148, 99999), (87, 491, 0, 489, 490), (88, 713, 0, 711, 712), (89, 649, 0, 647, 648), (90, 563, 0, 561, 562), (91, 556, 0, 554, 555), (92, 510, 0, 508, 509), (93, 689, 0, 687, 688), (94, 685, 0, 683, 684), (95, 698, 0, 696, 697), (96, 681, 0, 679, 680)]
set_option maxRecDepth 100000 in
theorem iv_ms5_code : ∀ q ∈ iv_ms5, lw_tbl[q.2.1]? = some (iv_cw q.1) := List.forall_mem_cons.mpr ⟨rfl, List.forall_mem_cons.mpr ⟨rfl, List.forall_mem_cons.mpr ⟨rfl, List.forall_mem_cons.mpr ⟨rfl, List.forall_mem_cons.mpr ⟨rfl, List.forall_mem_cons.mpr ⟨rfl, List.forall_mem_cons.mpr ⟨rfl, List.forall_mem_cons.mpr ⟨rfl, List.forall_mem_cons.mpr ⟨rfl, List.forall_mem_cons.mpr ⟨rfl, List.forall_mem_cons.mpr ⟨rfl, List.forall_mem_cons.mpr ⟨rfl, List.forall_mem_cons.mpr ⟨rfl, List.forall_mem_cons.mpr ⟨rfl, List.forall_mem_cons.mpr ⟨rfl, List.forall_mem_cons.mpr ⟨rfl, fun _ h => absurd h List.not_mem_nil⟩⟩⟩⟩⟩⟩⟩⟩⟩⟩⟩⟩⟩⟩⟩⟩
def iv_ms6 : List (Nat × Nat × Nat × Nat × Nat) := [(97, 506, 0, 504, 505), (98, 593, 0, 591, 592), (99, 502, 0, 500, 501), (100, 612, 0, 610, 611), (101, 541, 0, 539, 540), (102, 552, 0, 551, 8), (103, 518, 0, 517, 5), (104, 545, 0, 544, 7), (105, 514, 0, 513, 4), (106, 537, 0, 536, 6), (107, 232, 0, 231, 99999), (108, 869, 0, 867, 868), (109, 878, 0, 877, 16), (110, 920, 0, 919, 23), (111, 886, 0, 885, 17), (112, 892, 0, 891, 18)]
set_option maxRecDepth 100000 in
theorem iv_ms6_code : ∀ q ∈ iv_ms6, lw_tbl[q.2.1]? = some (iv_cw q.1) := List.forall_mem_cons.mpr ⟨rfl, List.forall_mem_cons.mpr ⟨rfl, List.forall_mem_cons.mpr ⟨rfl, List.forall_mem_cons.mpr ⟨rfl, List.forall_mem_cons.mpr ⟨rfl, List.forall_mem_cons.mpr ⟨rfl, List.forall_mem_cons.mpr ⟨rfl, List.forall_mem_cons.mpr ⟨rfl, List.forall_mem_cons.mpr ⟨rfl, List.forall_mem_cons.mpr ⟨rfl, List.forall_mem_cons.mpr ⟨rfl, List.forall_mem_cons.mpr ⟨rfl, List.forall_mem_cons.mpr ⟨rfl, List.forall_mem_cons.mpr ⟨rfl, List.forall_mem_cons.mpr ⟨rfl, List.forall_mem_cons.mpr ⟨rfl, fun _ h => absurd h List.not_mem_nil⟩⟩⟩⟩⟩⟩⟩⟩⟩⟩⟩⟩⟩⟩⟩⟩
def iv_ms7 : List (Nat × Nat × Nat × Nat × Nat) := [(113, 896, 0, 895, 19), (114, 904, 0, 903, 20), (115, 908, 0, 907, 21), (116, 912, 0, 911, 22), (117, 142, 0, 141, 99999), (118, 481, 0, 479, 480), (119, 559, 1, 558, 99999), (120, 576, 0, 574, 575), (121, 645, 0, 643, 644), (122, 572, 0, 570, 571), (123, 568, 0, 566, 567), (124, 749, 0, 747, 748), (125, 754, 0, 752, 753), (126, 813, 0, 811, 812), (127, 200, 0, 199, 99999), (128, 597, 0, 595, 596)]
set_option maxRecDepth 100000 in
theorem iv_ms7_code : ∀ q ∈ iv_ms7, lw_tbl[q.2.1]? = some (iv_cw q.1) := List.forall_mem_cons.mpr ⟨rfl, List.forall_mem_cons.mpr ⟨rfl, List.forall_mem_cons.mpr ⟨rfl, List.forall_mem_cons.mpr ⟨rfl, List.forall_mem_cons.mpr ⟨rfl, List.forall_mem_cons.mpr ⟨rfl, List.forall_mem_cons.mpr ⟨rfl, List.forall_mem_cons.mpr ⟨rfl, List.forall_mem_cons.mpr ⟨rfl, List.forall_mem_cons.mpr ⟨rfl, List.forall_mem_cons.mpr ⟨rfl, List.forall_mem_cons.mpr ⟨rfl, List.forall_mem_cons.mpr ⟨rfl, List.forall_mem_cons.mpr ⟨rfl, List.forall_mem_cons.mpr ⟨rfl, List.forall_mem_cons.mpr ⟨rfl, fun _ h => absurd h List.not_mem_nil⟩⟩⟩⟩⟩⟩⟩⟩⟩⟩⟩⟩⟩⟩⟩⟩
def iv_ms8 : List (Nat × Nat × Nat × Nat × Nat) := [(129, 729, 0, 727, 728), (130, 676, 0, 674, 675), (131, 702, 0, 700, 701), (132, 929, 0, 928, 99999), (133, 1022, 0, 1020, 1021), (134, 1046, 0, 1045, 26), (135, 1026, 0, 1024, 1025), (136, 1030, 0, 1028, 1029), (137, 1042, 0, 1041, 25), (138, 1084, 1, 1083, 99999), (139, 1062, 0, 1061, 30), (140, 1073, 1, 1072, 99999), (141, 1099, 1, 1098, 99999), (142, 1058, 0, 1057, 29), (143, 1081, 0, 1080, 34), (144, 1077, 0, 1076, 33)]
set_option maxRecDepth 100000 in
theorem iv_ms8_code : ∀ q ∈ iv_ms8, lw_tbl[q.2.1]? = some (iv_cw q.1) := List.forall_mem_cons.mpr ⟨rfl, List.forall_mem_cons.mpr ⟨rfl, List.forall_mem_cons.mpr ⟨rfl, List.forall_mem_cons.mpr ⟨rfl, List.forall_mem_cons.mpr ⟨rfl, List.forall_mem_cons.mpr ⟨rfl, List.forall_mem_cons.mpr ⟨rfl, List.forall_mem_cons.mpr ⟨rfl, List.forall_mem_cons.mpr ⟨rfl, List.forall_mem_cons.mpr ⟨rfl, List.forall_mem_cons.mpr ⟨rfl, List.forall_mem_cons.mpr ⟨rfl, List.forall_mem_cons.mpr ⟨rfl, List.forall_mem_cons.mpr ⟨rfl, List.forall_mem_cons.mpr ⟨rfl, List.forall_mem_cons.mpr ⟨rfl, fun _ h => absurd h List.not_mem_nil⟩⟩⟩⟩⟩⟩⟩⟩⟩⟩⟩⟩⟩⟩⟩⟩
def iv_ms9 : List (Nat × Nat × Nat × Nat × Nat) := [(145, 1070, 0, 1069, 32), (146, 1066, 0, 1065, 31), (147, 1054, 0, 1053, 28), (148, 1050, 0, 1049, 27), (149, 1148, 0, 1147, 48), (150, 1168, 0, 1167, 52), (151, 1156, 0, 1155, 50), (152, 1107, 0, 1106, 39), (153, 1123, 0, 1122, 43), (154, 1119, 0, 1118, 42), (155, 1115, 0, 1114, 41), (156, 1139, 0, 1138, 47), (157, 1160, 0, 1159, 51), (158, 1135, 0, 1134, 46), (159, 1127, 0, 1126, 44), (160, 1038, 0, 1037, 24)]
set_option maxRecDepth 100000 in
theorem iv_ms9_code : ∀ q ∈ iv_ms9, lw_tbl[q.2.1]? = some (iv_cw q.1) := List.forall_mem_cons.mpr ⟨rfl, List.forall_mem_cons.mpr ⟨rfl, List.forall_mem_cons.mpr ⟨rfl, List.forall_mem_cons.mpr ⟨rfl, List.forall_mem_cons.mpr ⟨rfl, List.forall_mem_cons.mpr ⟨rfl, List.forall_mem_cons.mpr ⟨rfl, List.forall_mem_cons.mpr ⟨rfl, List.forall_mem_cons.mpr ⟨rfl, List.forall_mem_cons.mpr ⟨rfl, List.forall_mem_cons.mpr ⟨rfl, List.forall_mem_cons.mpr ⟨rfl, List.forall_mem_cons.mpr ⟨rfl, List.forall_mem_cons.mpr ⟨rfl, List.forall_mem_cons.mpr ⟨rfl, List.forall_mem_cons.mpr ⟨rfl, fun _ h => absurd h List.not_mem_nil⟩⟩⟩⟩⟩⟩⟩⟩⟩⟩⟩⟩⟩⟩⟩⟩
def iv_ms10 : List (Nat × Nat × Nat × Nat × Nat) := [(161, 1088, 0, 1087, 35), (162, 1103, 0, 1102, 38), (163, 1096, 0, 1095, 37), (164, 1092, 0, 1091, 36), (165, 1131, 0, 1130, 45), (166, 1111, 0, 1110, 40), (167, 1034, 0, 1032, 1033), (168, 1152, 0, 1151, 49), (169, 1144, 0, 1142, 1143), (170, 1172, 0, 1171, 53), (171, 1164, 0, 1162, 1163), (172, 1176, 0, 1174, 1175), (173, 1180, 0, 1178, 1179), (174, 1184, 0, 1182, 1183), (175, 1189, 0, 1187, 1188), (176, 1193, 0, 1191, 1192)]
set_option maxRecDepth 100000 in
theorem iv_ms10_code : ∀ q ∈ iv_ms10, lw_tbl[q.2.1]? = some (iv_cw q.1) := List.forall_mem_cons.mpr ⟨rfl, List.forall_mem_cons.mpr ⟨rfl, List.forall_mem_cons.mpr ⟨rfl, List.forall_mem_cons.mpr ⟨rfl, List.forall_mem_cons.mpr ⟨rfl, List.forall_mem_cons.mpr ⟨rfl, List.forall_mem_cons.mpr ⟨rfl, List.forall_mem_cons.mpr ⟨rfl, List.forall_mem_cons.mpr ⟨rfl, List.forall_mem_cons.mpr ⟨rfl, List.forall_mem_cons.mpr ⟨rfl, List.forall_mem_cons.mpr ⟨rfl, List.forall_mem_cons.mpr ⟨rfl, List.forall_mem_cons.mpr ⟨rfl, List.forall_mem_cons.mpr ⟨rfl, List.forall_mem_cons.mpr ⟨rfl, fun _ h => absurd h List.not_mem_nil⟩⟩⟩⟩⟩⟩⟩⟩⟩⟩⟩⟩⟩⟩⟩⟩
def iv_ms11 : List (Nat × Nat × Nat × Nat × Nat) := [(177, 1197, 0, 1195, 1196), (178, 1204, 1, 1203, 99999), (179, 1201, 0, 1199, 1200), (180, 1212, 0, 1211, 54), (181, 1208, 0, 1206, 1207), (182, 1220, 0, 1219, 55), (183, 1228, 0, 1227, 57), (184, 1232, 0, 1231, 58), (185, 1224, 0, 1223, 56), (186, 1216, 0, 1214, 1215), (187, 380, 1, 379, 99999), (188, 737, 1, 736, 99999), (189, 798, 1, 797, 99999), (190, 829, 1, 828, 99999), (191, 837, 1, 836, 99999), (192, 852, 1, 851, 99999)]
set_option maxRecDepth 100000 in
theorem iv_ms11_code : ∀ q ∈ iv_ms11, lw_tbl[q.2.1]? = some (iv_cw q.1) := List.forall_mem_cons.mpr ⟨rfl, List.forall_mem_cons.mpr ⟨rfl, List.forall_mem_cons.mpr ⟨rfl, List.forall_mem_cons.mpr ⟨rfl, List.forall_mem_cons.mpr ⟨rfl, List.forall_mem_cons.mpr ⟨rfl, List.forall_mem_cons.mpr ⟨rfl, List.forall_mem_cons.mpr ⟨rfl, List.forall_mem_cons.mpr ⟨rfl, List.forall_mem_cons.mpr ⟨rfl, List.forall_mem_cons.mpr ⟨rfl, List.forall_mem_cons.mpr ⟨rfl, List.forall_mem_cons.mpr ⟨rfl, List.forall_mem_cons.mpr ⟨rfl, List.forall_mem_cons.mpr ⟨rfl, List.forall_mem_cons.mpr ⟨rfl, fun _ h => absurd h List.not_mem_nil⟩⟩⟩⟩⟩⟩⟩⟩⟩⟩⟩⟩⟩⟩⟩⟩
def iv_ms12 : List (Nat × Nat × Nat × Nat × Nat) := [(193, 861, 1, 860, 99999)]
set_option maxRecDepth 100000 in
theorem iv_ms12_code : ∀ q ∈ iv_ms12, lw_tbl[q.2.1]? = some (iv_cw q.1) := List.forall_mem_cons.mpr ⟨rfl, fun _ h => absurd h List.not_mem_nil⟩
set_option maxRecDepth 100000 in
theorem iv_ms_split : iv_ms = iv_ms0 ++ (iv_ms1 ++ (iv_ms2 ++ (iv_ms3 ++ (iv_ms4 ++ (iv_ms5 ++ (iv_ms6 ++ (iv_ms7 ++ (iv_ms8 ++ (iv_ms9 ++ (iv_ms10 ++ (iv_ms11 ++ (iv_ms12)))))))))))) := rfl
theorem iv_ms_code : ∀ q ∈ iv_ms, lw_tbl[q.2.1]? = some (iv_cw q.1) := by
  rw [iv_ms_split]
  exact List.forall_mem_append.mpr ⟨iv_ms0_code, List.forall_mem_append.mpr ⟨iv_ms1_code, List.forall_mem_append.mpr ⟨iv_ms2_code, List.forall_mem_append.mpr ⟨iv_ms3_code, List.forall_mem_append.mpr ⟨iv_ms4_code, List.forall_mem_append.mpr ⟨iv_ms5_code, List.forall_mem_append.mpr ⟨iv_ms6_code, List.forall_mem_append.mpr ⟨iv_ms7_code, List.forall_mem_append.mpr ⟨iv_ms8_code, List.forall_mem_append.mpr ⟨iv_ms9_code, List.forall_mem_append.mpr ⟨iv_ms10_code, List.forall_mem_append.mpr ⟨iv_ms11_code, iv_ms12_code⟩⟩⟩⟩⟩⟩⟩⟩⟩⟩⟩⟩
theorem iv_cw_good (μ : Nat) : goodWord (iv_cw μ) = true := by
  unfold iv_cw
  split <;> rfl
theorem iv_cw_in {q : Nat × Nat × Nat × Nat × Nat} (h : q ∈ iv_ms) : iv_cw q.1 ∈ iv_all := List.mem_filter.mpr ⟨List.mem_of_getElem? (iv_ms_code q h), iv_cw_good _⟩
theorem iv_ms_kind : iv_ms.all (fun q => iv_is (q.2.2.2.1, if q.2.2.1 = 1 then .static (iv_y q.1) else .instanceMethod (iv_y q.1))) = true := by decide +kernel
theorem iv_ms_sel : iv_ms.all (fun q => q.2.2.2.2 == 99999 && (q.2.2.1 == 1 || decide ((iv_y q.1).name = "<init>")) || iv_is (q.2.2.2.2, .selects (iv_y q.1).cls (iv_y q.1) (iv_y q.1))) = true := by decide +kernel
/-- the library: class of the code, entry, which, place -/
def iv_lb : List (Nat × Nat × Nat × Nat) := [(0, 1, 6000, 83), (0, 133, 7000, 803), (1, 3, 6000, 121), (2, 3, 6000, 211), (3, 3, 6000, 91), (3, 48, 9000, 496), (4, 3, 6000, 179), (4, 40, 8000, 774), (5, 3, 6000, 150), (6, 3, 6000, 233), (6, 113, 8000, 913), (7, 3, 6000, 143), (8, 3, 6000, 201), (9, 1, 6000, 930)]
def iv_lbw (q : Nat × Nat × Nat × Nat) : Nat × Cond := (q.2.2.2, .methodLink (iv_cnm q.1) q.2.1 (if q.2.2.1 = 6000 then Lib.objectInit else if q.2.2.1 = 7000 then Lib.Math.max.name else if q.2.2.1 = 8000 then Lib.Math.min.name else arraycopyName))
theorem iv_lb_ok : iv_lb.all (fun q => iv_is (iv_lbw q)) = true := by decide +kernel
set_option maxRecDepth 100000 in
theorem iv_lib_words : iv_is (84, .instanceMethod Lib.objectInit) = true ∧ lw_tbl[85]? = some (.code Lib.objectInit ⟨#[0xb1]⟩ 1 none) ∧
    iv_is (804, .static Lib.Math.max.name) = true ∧ iv_is (77, .initialized "java/lang/Math") = true ∧ lw_tbl[805]? = some (.code Lib.Math.max.name Lib.Math.max.code 2 (some .int)) ∧
    iv_is (775, .static Lib.Math.min.name) = true ∧ lw_tbl[776]? = some (.code Lib.Math.min.name Lib.Math.min.code 2 (some .int)) ∧
    iv_is (498, .native arraycopyName) = true ∧ iv_is (497, .static arraycopyName) = true ∧ iv_is (75, .initialized "java/lang/System") = true := by
  refine ⟨?_, ?_, ?_, ?_, ?_, ?_, ?_, ?_, ?_, ?_⟩ <;> first | rfl | decide +kernel
theorem iv_arr_words : iv_is (114, .arrayClass .int) = true ∧ iv_is (115, .arrayClass .boolean) = true ∧ iv_is (1234, .arrayClass .long) = true := by
  refine ⟨?_, ?_, ?_⟩ <;> decide +kernel
theorem iv_over_word : lw_tbl[145]? = some (.arrayOver (.object iv_foN)) := by decide +kernel
/-- numbers: 0 an int, 1 a long; class of the code, entry, number, place -/
def iv_kk : List (Nat × Nat × Nat × Nat × Nat) := [(0, 0, 162, 65536, 857), (0, 0, 163, 131072, 858), (0, 8, 38, 65536, 730), (0, 9, 197, 65536, 1140), (0, 9, 213, 131072, 1185), (1, 10, 44, 4294967295, 1233)]
theorem iv_kk_ok : iv_kk.all (fun q => iv_is (q.2.2.2.2, if q.1 = 0 then .constant (iv_cnm q.2.1) q.2.2.1 (Int32.ofNat q.2.2.2.1) else .constantLong (iv_cnm q.2.1) q.2.2.1 (Int64.ofNat q.2.2.2.1))) = true := by decide +kernel
/-- throws: class of the code, entry of the class, which, entry of its constructor, place -/
def iv_xl : List (Nat × Nat × Nat × Nat × Nat) := [(0, 107, 2, 109, 614), (0, 211, 0, 213, 396), (0, 217, 1, 219, 463)]
theorem iv_xl_ok : iv_xl.all (fun q => iv_is (q.2.2.2.2, .classLink (iv_cnm q.1) q.2.1 (iv_xnm q.2.2.1))) = true := by decide +kernel
theorem iv_xc_ok : iv_is (381, .classLink "FatVolumeLaw" 13 (iv_xnm 0)) = true ∧ iv_is (382, .classLink "FatVolumeLaw" 15 (iv_xnm 1)) = true ∧ iv_is (383, .classLink "FatVolumeLaw" 17 (iv_xnm 2)) = true := by
  refine ⟨?_, ?_, ?_⟩ <;> decide +kernel
end
section
/-! every row of my tables is right: by program -/
def iv_look (t : List (Nat × Instr × Nat)) (pc : Nat) : Option (Instr × Nat) := match t with
  | [] => none
  | q :: r => if q.1 = pc then some q.2 else iv_look r pc
theorem iv_look_mem : ∀ (t : List (Nat × Instr × Nat)) (pc : Nat) (y : Instr × Nat), iv_look t pc = some y → (pc, y) ∈ t
  | [], _, _, h => by simp [iv_look] at h
  | q :: r, pc, y, h => by
    unfold iv_look at h
    split at h
    · next e => cases h; subst e; exact List.mem_cons_self
    · exact List.mem_cons_of_mem _ (iv_look_mem r pc y h)
def iv_ln (i : Instr) (x : Nat) : Nat := match i with
  | .bipush _ | .iload _ | .istore _ | .aload _ | .astore _ | .lload _ | .lstore _ | .newarray _ | .ldc _ => 2
  | .sipush _ | .iinc _ _ | .ifCond _ _ | .if_icmp _ _ | .goto _ | .getfield _ | .putfield _ | .invokevirtual _ | .invokestatic _ | .invokespecial _ | .new _ | .anewarray _ | .ldc2_w _ => 3
  | .tableswitch _ _ _ _ => x
  | _ => 1
def iv_flm (o n ci j : Nat) : Bool := iv_fl.any (fun q => q.1 == o && q.2.1 == n && q.2.2.1 == ci && q.2.2.2.1 == j)
theorem iv_flm_in {o n ci j : Nat} (h : iv_flm o n ci j = true) : Cond.fieldLink (iv_cnm o) n (iv_cnm ci) (iv_T ci j).2.1 (iv_T ci j).2.2.1 ∈ iv_all := by
  obtain ⟨⟨q1, q2, q3, q4, q5⟩, hq, hh⟩ := List.any_eq_true.mp h
  simp only [Bool.and_eq_true, beq_iff_eq] at hh
  obtain ⟨⟨⟨rfl, rfl⟩, rfl⟩, rfl⟩ := hh
  exact iv_is_in (List.all_eq_true.mp iv_fl_ok _ hq)
def iv_mlm (o n ν : Nat) : Bool := iv_ml.any (fun q => q.1 == o && q.2.1 == n && q.2.2.1 == ν)
theorem iv_mlm_in {o n ν : Nat} (h : iv_mlm o n ν = true) : Cond.methodLink (iv_cnm o) n (iv_y ν) ∈ iv_all := by
  obtain ⟨⟨q1, q2, q3, q4⟩, hq, hh⟩ := List.any_eq_true.mp h
  simp only [Bool.and_eq_true, beq_iff_eq] at hh
  obtain ⟨⟨rfl, rfl⟩, rfl⟩ := hh
  exact iv_is_in (List.all_eq_true.mp iv_ml_ok _ hq)
def iv_nlm (o n ν : Nat) : Bool := iv_nl.any (fun q => q.1 == o && q.2.1 == n && q.2.2.1 == ν)
theorem iv_nlm_in {o n ν : Nat} (h : iv_nlm o n ν = true) : (iv_cnm o, n, iv_y ν, "FatVolume") ∈ iv_nest := by
  obtain ⟨⟨q1, q2, q3, q4⟩, hq, hh⟩ := List.any_eq_true.mp h
  simp only [Bool.and_eq_true, beq_iff_eq] at hh
  obtain ⟨⟨rfl, rfl⟩, rfl⟩ := hh
  exact List.mem_map.mpr ⟨_, hq, rfl⟩
def iv_ckm (o n ci : Nat) : Bool := iv_ck.any (fun q => q.1 == o && q.2.1 == n && q.2.2.1 == ci)
theorem iv_ckm_in {o n ci : Nat} (h : iv_ckm o n ci = true) : Cond.classLink (iv_cnm o) n (iv_cnm ci) ∈ iv_all := by
  obtain ⟨⟨q1, q2, q3, q4⟩, hq, hh⟩ := List.any_eq_true.mp h
  simp only [Bool.and_eq_true, beq_iff_eq] at hh
  obtain ⟨⟨rfl, rfl⟩, rfl⟩ := hh
  exact iv_is_in (List.all_eq_true.mp iv_ck_ok _ hq)
def iv_lbm (o n x : Nat) : Bool := iv_lb.any (fun q => q.1 == o && q.2.1 == n && q.2.2.1 == x)
theorem iv_lbm_in {o n x : Nat} (h : iv_lbm o n x = true) : Cond.methodLink (iv_cnm o) n (if x = 6000 then Lib.objectInit else if x = 7000 then Lib.Math.max.name else if x = 8000 then Lib.Math.min.name else arraycopyName) ∈ iv_all := by
  obtain ⟨⟨q1, q2, q3, q4⟩, hq, hh⟩ := List.any_eq_true.mp h
  simp only [Bool.and_eq_true, beq_iff_eq] at hh
  obtain ⟨⟨rfl, rfl⟩, rfl⟩ := hh
  exact iv_is_in (List.all_eq_true.mp iv_lb_ok _ hq)
def iv_kkm (t o n x : Nat) : Bool := iv_kk.any (fun q => q.1 == t && q.2.1 == o && q.2.2.1 == n && q.2.2.2.1 == x)
theorem iv_kkm_in {t o n x : Nat} (h : iv_kkm t o n x = true) : (if t = 0 then Cond.constant (iv_cnm o) n (Int32.ofNat x) else Cond.constantLong (iv_cnm o) n (Int64.ofNat x)) ∈ iv_all := by
  obtain ⟨⟨q1, q2, q3, q4, q5⟩, hq, hh⟩ := List.any_eq_true.mp h
  simp only [Bool.and_eq_true, beq_iff_eq] at hh
  obtain ⟨⟨⟨rfl, rfl⟩, rfl⟩, rfl⟩ := hh
  exact iv_is_in (List.all_eq_true.mp iv_kk_ok _ hq)
def iv_xlm (o n q ic : Nat) : Bool := iv_xl.any (fun r => r.1 == o && r.2.1 == n && r.2.2.1 == q && r.2.2.2.1 == ic)
theorem iv_xlm_in {o n q ic : Nat} (h : iv_xlm o n q ic = true) : Cond.classLink (iv_cnm o) n (iv_xnm q) ∈ iv_all := by
  obtain ⟨⟨q1, q2, q3, q4, q5⟩, hq, hh⟩ := List.any_eq_true.mp h
  simp only [Bool.and_eq_true, beq_iff_eq] at hh
  obtain ⟨⟨⟨rfl, rfl⟩, rfl⟩, rfl⟩ := hh
  exact iv_is_in (List.all_eq_true.mp iv_xl_ok _ hq)
-- classes
theorem iv_cl_at : ∀ ci, ci < 10 → iv_cl[ci]? = some (iv_cnm ci, iv_T ci, iv_N ci) := by
  intro ci h
  have : ci = 0 ∨ ci = 1 ∨ ci = 2 ∨ ci = 3 ∨ ci = 4 ∨ ci = 5 ∨ ci = 6 ∨ ci = 7 ∨ ci = 8 ∨ ci = 9 := by omega
  rcases this with rfl | rfl | rfl | rfl | rfl | rfl | rfl | rfl | rfl | rfl <;> rfl
theorem iv_cs_mem : ∀ ci, ci < 10 → ∃ a b l, (ci, a, b, l) ∈ iv_cs := by
  intro ci h
  have : ci = 0 ∨ ci = 1 ∨ ci = 2 ∨ ci = 3 ∨ ci = 4 ∨ ci = 5 ∨ ci = 6 ∨ ci = 7 ∨ ci = 8 ∨ ci = 9 := by omega
  rcases this with rfl | rfl | rfl | rfl | rfl | rfl | rfl | rfl | rfl | rfl
  · exact ⟨_, _, _, List.mem_of_getElem? (l := iv_cs) (i := 0) rfl⟩
  · exact ⟨_, _, _, List.mem_of_getElem? (l := iv_cs) (i := 1) rfl⟩
  · exact ⟨_, _, _, List.mem_of_getElem? (l := iv_cs) (i := 2) rfl⟩
  · exact ⟨_, _, _, List.mem_of_getElem? (l := iv_cs) (i := 3) rfl⟩
  · exact ⟨_, _, _, List.mem_of_getElem? (l := iv_cs) (i := 4) rfl⟩
  · exact ⟨_, _, _, List.mem_of_getElem? (l := iv_cs) (i := 5) rfl⟩
  · exact ⟨_, _, _, List.mem_of_getElem? (l := iv_cs) (i := 6) rfl⟩
  · exact ⟨_, _, _, List.mem_of_getElem? (l := iv_cs) (i := 7) rfl⟩
  · exact ⟨_, _, _, List.mem_of_getElem? (l := iv_cs) (i := 8) rfl⟩
  · exact ⟨_, _, _, List.mem_of_getElem? (l := iv_cs) (i := 9) rfl⟩
theorem iv_cs_words {ci : Nat} (h : ci < 10) : Cond.instantiable (iv_cnm ci) (iv_N ci) ∈ iv_all ∧ Cond.initialized (iv_cnm ci) ∈ iv_all ∧ ∀ w ∈ u_ws (iv_cnm ci) (iv_T ci) (iv_N ci), w ∈ iv_all := by
  obtain ⟨a, b, l, hm⟩ := iv_cs_mem ci h
  have h1 := List.all_eq_true.mp iv_cs_ok _ hm
  simp only [Bool.and_eq_true] at h1
  refine ⟨iv_is_in h1.1.1, iv_is_in h1.1.2, fun w hw => ?_⟩
  obtain ⟨j, hj, rfl⟩ := List.mem_map.mp hw
  exact iv_is_in (List.all_eq_true.mp h1.2 j hj)
theorem iv_ty_ok : ∀ ci, ci < 10 → ∀ k, k < iv_N ci → parseFieldDescriptor (iv_T ci k).2.2.1 = some (iv_ty ci k) := by decide +kernel
theorem iv_nm_ok : ∀ ci, ci < 10 → ∀ a, a < iv_N ci → ∀ b, b < iv_N ci → a ≠ b → (iv_T ci a).2.1 ≠ (iv_T ci b).2.1 := by decide +kernel
theorem iv_own_ok : ∀ ci, ci < 10 → ∀ k, k < iv_N ci → (iv_T ci k).1 = iv_cnm ci := by decide +kernel
theorem iv_f0_ok : ∀ ci, ci < 10 → ∀ k, k < iv_N ci → defaultValue (iv_ty ci k) = vp_V (iv_f0 ci) k := by decide +kernel
theorem iv_f0_no : ∀ ci, ci < 10 → ∀ v ∈ iv_f0 ci, v = .null ∨ v = .int 0 := by decide +kernel
-- methods
theorem iv_y_ok : ∀ μ, μ < iv_nm → (iv_y μ).cls = iv_cnm (iv_cn μ) := by decide +kernel
theorem iv_m_ok : ∀ μ, μ < iv_nm → ((iv_y μ).cls ≠ "java/lang/invoke/MethodHandle" ∧ (iv_y μ).cls ≠ "java/lang/invoke/VarHandle") ∧ (parseMethodDescriptor (iv_y μ).desc).map (fun d => d.parameters.length) = some (iv_np μ) ∧ plainName (iv_y μ).cls = true ∧ iv_L μ ≤ 60 ∧ (iv_h μ = [] → iv_hh μ = []) := by decide +kernel
def iv_msm (ν k : Nat) (sel : Bool) : Bool := iv_ms.any (fun q => q.1 == ν && q.2.2.1 == k && (!sel || q.2.2.2.2 != 99999))
theorem iv_msm_in {ν k : Nat} {sel : Bool} (h : iv_msm ν k sel = true) : iv_cw ν ∈ iv_all ∧ (if k = 1 then Cond.static (iv_y ν) else Cond.instanceMethod (iv_y ν)) ∈ iv_all ∧ (sel = true → Cond.selects (iv_y ν).cls (iv_y ν) (iv_y ν) ∈ iv_all) := by
  obtain ⟨⟨q1, q2, q3, q4, q5⟩, hq, hh⟩ := List.any_eq_true.mp h
  simp only [Bool.and_eq_true, beq_iff_eq] at hh
  obtain ⟨⟨rfl, rfl⟩, h3⟩ := hh
  refine ⟨iv_cw_in hq, iv_is_in (List.all_eq_true.mp iv_ms_kind _ hq), fun hs => ?_⟩
  have h4 := List.all_eq_true.mp iv_ms_sel _ hq
  subst hs
  simp only [Bool.not_true, Bool.false_or, bne_iff_ne, ne_eq] at h3
  simp only [Bool.or_eq_true, Bool.and_eq_true, beq_iff_eq] at h4
  rcases h4 with h4 | h4
  · exact absurd h4.1 h3
  · exact iv_is_in h4
def iv_chk (μ pc : Nat) (i : Instr) (x : Nat) : Bool := decide (decode (iv_c μ) pc = .ok (i, iv_ln i x)) && (match i with
  | .getfield n => iv_flm (iv_cn μ) n (x / 100) (x % 100) && decide (x / 100 < 10) && decide (x % 100 < iv_N (x / 100))
  | .putfield n => iv_flm (iv_cn μ) n (x / 100) (x % 100) && decide (x / 100 < 10) && decide (x % 100 < iv_N (x / 100)) && ((iv_T (x / 100) (x % 100)).2.2.2 == false || (decide ((iv_y μ).name = "<init>") && iv_cn μ == x / 100))
  | .ldc n => iv_kkm 0 (iv_cn μ) n x
  | .ldc2_w n => iv_kkm 1 (iv_cn μ) n x
  | .ifCond _ o => decide ((pc : Int) + o = (x : Int))
  | .if_icmp _ o => decide ((pc : Int) + o = (x : Int))
  | .goto o => decide ((pc : Int) + o = (x : Int))
  | .new n => if 1000 ≤ x then (match decode (iv_c μ) (pc + 4) with
      | .ok (.invokespecial ic, 3) => iv_xlm (iv_cn μ) n (x - 1000) ic && decide (decode (iv_c μ) (pc + 3) = .ok (.dup, 1)) && decide (decode (iv_c μ) (pc + 7) = .ok (.athrow, 1)) && (iv_hh μ).isEmpty
      | _ => false) else (iv_ckm (iv_cn μ) n x && decide (x < 10))
  | .newarray t => t == .int || t == .boolean || t == .long
  | .anewarray n => iv_ckm (iv_cn μ) n iv_fo
  | .invokevirtual n => decide (x < 6000) && decide (x % 1000 < iv_nm) && iv_msm (x % 1000) 0 true && (iv_h (x % 1000)).isEmpty && decide (iv_cn (x % 1000) < 10) && ((x / 1000 == 0 && iv_mlm (iv_cn μ) n (x % 1000)) || (x / 1000 == 1 && iv_nlm (iv_cn μ) n (x % 1000)))
  | .invokestatic n => if 6000 ≤ x then iv_lbm (iv_cn μ) n x && (x == 7000 || x == 8000 || x == 9000) else decide (x % 1000 < iv_nm) && iv_msm (x % 1000) 1 false && ((x / 1000 == 2 && iv_mlm (iv_cn μ) n (x % 1000)) || (x / 1000 == 3 && (iv_h (x % 1000)).isEmpty && iv_nlm (iv_cn μ) n (x % 1000)))
  | .invokespecial n => if 6000 ≤ x then iv_lbm (iv_cn μ) n x && x == 6000 else decide (x % 1000 < iv_nm) && iv_msm (x % 1000) 0 false && (iv_h (x % 1000)).isEmpty && decide ((iv_y (x % 1000)).name = "<init>") && (iv_r (x % 1000)).isNone && ((x / 1000 == 4 && iv_mlm (iv_cn μ) n (x % 1000)) || (x / 1000 == 5 && iv_nlm (iv_cn μ) n (x % 1000)))
  | _ => true)
def iv_chr (μ a k : Nat) : Bool := (((iv_t μ).drop a).take k).all (fun q => iv_chk μ q.1 q.2.1 q.2.2)
def iv_chm (a k : Nat) : Bool := (List.range k).all (fun j => (iv_t (a + j)).all (fun q => iv_chk (a + j) q.1 q.2.1 q.2.2))
end
section
theorem iv_rows_1 : iv_chm 1 12 = true := by decide +kernel
theorem iv_rows_13 : iv_chm 13 20 = true := by decide +kernel
theorem iv_rows_33 : iv_chm 33 17 = true := by decide +kernel
theorem iv_rows_50 : iv_chm 50 27 = true := by decide +kernel
end
section
theorem iv_rows_77 : iv_chm 77 25 = true := by decide +kernel
theorem iv_rows_102 : iv_chm 102 12 = true := by decide +kernel
theorem iv_rows_114 : iv_chm 114 18 = true := by decide +kernel
theorem iv_rows_132 : iv_chm 132 13 = true := by decide +kernel
end
section
theorem iv_rows_145 : iv_chm 145 8 = true := by decide +kernel
theorem iv_rows_153 : iv_chm 153 10 = true := by decide +kernel
theorem iv_rows_163 : iv_chm 163 4 = true := by decide +kernel
theorem iv_rows_167 : iv_chm 167 3 = true := by decide +kernel
end
section
theorem iv_rows_170 : iv_chm 170 6 = true := by decide +kernel
theorem iv_rows_176 : iv_chm 176 9 = true := by decide +kernel
theorem iv_rows_185 : iv_chm 185 5 = true := by decide +kernel
theorem iv_rows_190 : iv_chm 190 4 = true := by decide +kernel
end
section
theorem iv_rowz_0 : iv_chr 0 0 40 = true := by decide +kernel
theorem iv_rowz_40 : iv_chr 0 40 40 = true := by decide +kernel
theorem iv_rowz_80 : iv_chr 0 80 40 = true := by decide +kernel
theorem iv_rowz_120 : iv_chr 0 120 40 = true := by decide +kernel
theorem iv_rowz_160 : iv_chr 0 160 40 = true := by decide +kernel
theorem iv_rowz_200 : iv_chr 0 200 40 = true := by decide +kernel
theorem iv_rowz_240 : iv_chr 0 240 40 = true := by decide +kernel
theorem iv_rowz_280 : iv_chr 0 280 40 = true := by decide +kernel
theorem iv_rowz_320 : iv_chr 0 320 40 = true := by decide +kernel
theorem iv_rowz_360 : iv_chr 0 360 40 = true := by decide +kernel
theorem iv_rowz_400 : iv_chr 0 400 40 = true := by decide +kernel
theorem iv_rowz_440 : iv_chr 0 440 40 = true := by decide +kernel
end
section
/-- the rows of all methods are right -/
theorem iv_chm_at {a k μ pc : Nat} {i : Instr} {x : Nat} (h : iv_chm a k = true) (h1 : a ≤ μ) (h2 : μ < a + k) (hl : iv_look (iv_t μ) pc = some (i, x)) : iv_chk μ pc i x = true := by
  have h3 := List.all_eq_true.mp h (μ - a) (List.mem_range.mpr (by omega))
  rw [show a + (μ - a) = μ by omega] at h3
  exact List.all_eq_true.mp h3 (pc, i, x) (iv_look_mem _ _ _ hl)
theorem iv_slice {α : Type} {f : α → Bool} (l : List α) (a k : Nat) (h1 : ((l.drop a).take k).all f = true) (h2 : (l.drop (a + k)).all f = true) : (l.drop a).all f = true := by
  rw [← List.take_append_drop k (l.drop a), List.all_append, h1, List.drop_drop, h2]
  rfl
theorem iv_rows_0 : iv_chm 0 1 = true := by
  have e : (iv_t 0).drop 480 = [] := by decide +kernel
  have h480 : ((iv_t 0).drop 480).all (fun q => iv_chk 0 q.1 q.2.1 q.2.2) = true := by rw [e]; rfl
  have h440 : ((iv_t 0).drop 440).all (fun q => iv_chk 0 q.1 q.2.1 q.2.2) = true := iv_slice _ 440 40 iv_rowz_440 h480
  have h400 : ((iv_t 0).drop 400).all (fun q => iv_chk 0 q.1 q.2.1 q.2.2) = true := iv_slice _ 400 40 iv_rowz_400 h440
  have h360 : ((iv_t 0).drop 360).all (fun q => iv_chk 0 q.1 q.2.1 q.2.2) = true := iv_slice _ 360 40 iv_rowz_360 h400
  have h320 : ((iv_t 0).drop 320).all (fun q => iv_chk 0 q.1 q.2.1 q.2.2) = true := iv_slice _ 320 40 iv_rowz_320 h360
  have h280 : ((iv_t 0).drop 280).all (fun q => iv_chk 0 q.1 q.2.1 q.2.2) = true := iv_slice _ 280 40 iv_rowz_280 h320
  have h240 : ((iv_t 0).drop 240).all (fun q => iv_chk 0 q.1 q.2.1 q.2.2) = true := iv_slice _ 240 40 iv_rowz_240 h280
  have h200 : ((iv_t 0).drop 200).all (fun q => iv_chk 0 q.1 q.2.1 q.2.2) = true := iv_slice _ 200 40 iv_rowz_200 h240
  have h160 : ((iv_t 0).drop 160).all (fun q => iv_chk 0 q.1 q.2.1 q.2.2) = true := iv_slice _ 160 40 iv_rowz_160 h200
  have h120 : ((iv_t 0).drop 120).all (fun q => iv_chk 0 q.1 q.2.1 q.2.2) = true := iv_slice _ 120 40 iv_rowz_120 h160
  have h80 : ((iv_t 0).drop 80).all (fun q => iv_chk 0 q.1 q.2.1 q.2.2) = true := iv_slice _ 80 40 iv_rowz_80 h120
  have h40 : ((iv_t 0).drop 40).all (fun q => iv_chk 0 q.1 q.2.1 q.2.2) = true := iv_slice _ 40 40 iv_rowz_40 h80
  have h0 : ((iv_t 0).drop 0).all (fun q => iv_chk 0 q.1 q.2.1 q.2.2) = true := iv_slice _ 0 40 iv_rowz_0 h40
  show ([0].all fun j => (iv_t (0 + j)).all (fun q => iv_chk (0 + j) q.1 q.2.1 q.2.2)) = true
  rw [List.drop_zero] at h0
  simp only [List.all_cons, List.all_nil, Bool.and_true]
  exact h0
theorem iv_tab_chk {μ pc : Nat} {i : Instr} {x : Nat} (hl : iv_look (iv_t μ) pc = some (i, x)) : μ < iv_nm ∧ iv_chk μ pc i x = true := by
  by_cases hn : 194 ≤ μ
  · unfold iv_t at hl
    rw [if_pos hn] at hl
    cases hl
  · refine ⟨by show μ < 194; omega, ?_⟩
    by_cases h0 : μ < 1
    · exact iv_chm_at iv_rows_0 (by omega) (by omega) hl
    by_cases h1 : μ < 13
    · exact iv_chm_at iv_rows_1 (by omega) (by omega) hl
    by_cases h13 : μ < 33
    · exact iv_chm_at iv_rows_13 (by omega) (by omega) hl
    by_cases h33 : μ < 50
    · exact iv_chm_at iv_rows_33 (by omega) (by omega) hl
    by_cases h50 : μ < 77
    · exact iv_chm_at iv_rows_50 (by omega) (by omega) hl
    by_cases h77 : μ < 102
    · exact iv_chm_at iv_rows_77 (by omega) (by omega) hl
    by_cases h102 : μ < 114
    · exact iv_chm_at iv_rows_102 (by omega) (by omega) hl
    by_cases h114 : μ < 132
    · exact iv_chm_at iv_rows_114 (by omega) (by omega) hl
    by_cases h132 : μ < 145
    · exact iv_chm_at iv_rows_132 (by omega) (by omega) hl
    by_cases h145 : μ < 153
    · exact iv_chm_at iv_rows_145 (by omega) (by omega) hl
    by_cases h153 : μ < 163
    · exact iv_chm_at iv_rows_153 (by omega) (by omega) hl
    by_cases h163 : μ < 167
    · exact iv_chm_at iv_rows_163 (by omega) (by omega) hl
    by_cases h167 : μ < 170
    · exact iv_chm_at iv_rows_167 (by omega) (by omega) hl
    by_cases h170 : μ < 176
    · exact iv_chm_at iv_rows_170 (by omega) (by omega) hl
    by_cases h176 : μ < 185
    · exact iv_chm_at iv_rows_176 (by omega) (by omega) hl
    by_cases h185 : μ < 190
    · exact iv_chm_at iv_rows_185 (by omega) (by omega) hl
    exact iv_chm_at iv_rows_190 (by omega) (by omega) hl
end
section
/-! A machine of my own over pictures of cells. A value is the model's; a reference names a cell by its number: 0 is the script, k + 1 the k-th cell of the world (it lies at sz + k). -/
def iv_ad (sz b : Nat) (k : Nat) : Nat := match k with
  | 0 => b
  | j + 1 => sz + j
def iv_v (sz b : Nat) (v : Value) : Value := match v with
  | .ref k => .ref (iv_ad sz b k)
  | .int x => .int x
  | .long x => .long x
  | .float x => .float x
  | .double x => .double x
  | .null => .null
  | .retAddr x => .retAddr x
abbrev iv_A (sz : Nat) : Nat → Prop := fun q => sz ≤ q
abbrev iv_E : Type := (Nat × vp_A) ⊕ (Nat × List Value)
abbrev iv_W : Type := List iv_E
def iv_a (sz b : Nat) (a : vp_A) : vp_A := match a with
  | (n, .inl f) => (n, .inl f)
  | (n, .inr (.inl f)) => (n, .inr (.inl f))
  | (n, .inr (.inr (.inl f))) => (n, .inr (.inr (.inl f)))
  | (n, .inr (.inr (.inr (.inl f)))) => (n, .inr (.inr (.inr (.inl f))))
  | (n, .inr (.inr (.inr (.inr f)))) => (n, .inr (.inr (.inr (.inr (fun i => (f i).map (iv_ad sz b))))))
def iv_e (sz b : Nat) (tc : Nat → ClassId) (e : iv_E) : va_E := match e with
  | .inl (t, a) => .inl (tc t, iv_a sz b a)
  | .inr (ci, fs) => .inr (ci, fs.map (iv_v sz b))
def iv_ws (sz b : Nat) (tc : Nat → ClassId) (w : iv_W) : va_W := w.mapIdx (fun k e => (sz + k, iv_e sz b tc e))
def iv_lv (sz b : Nat) (lv : List (Nat × Value)) : List (Nat × Value) := lv.map (fun q => (q.1, iv_v sz b q.2))
def iv_st1 (lv : List (Nat × Value)) (i : Nat) (v : Value) : List (Nat × Value) := (i, v) :: lv.filter (fun q => !(q.1 == i) && !(q.1 + 1 == i && q.2.category == 2))
def iv_st2 (lv : List (Nat × Value)) (i : Nat) (v : Value) : List (Nat × Value) := (i, v) :: lv.filter (fun q => !(q.1 == i) && (!(q.1 == i + 1) && !(q.1 + 1 == i && q.2.category == 2)))
def iv_no (lv : List (Nat × Value)) (i : Nat) : List (Nat × Value) := lv.filter (fun q => !(q.1 == i) && !(q.1 + 1 == i && q.2.category == 2))
def iv_ld (lv : List (Nat × Value)) (i : Nat) : Option Value := match lv with
  | [] => none
  | q :: r => if q.1 = i then some q.2 else iv_ld r i
theorem iv_cat {sz b : Nat} (v : Value) : (iv_v sz b v).category = v.category := by cases v <;> rfl
theorem iv_lv_no {sz b : Nat} (lv : List (Nat × Value)) (i : Nat) : iv_lv sz b (iv_no lv i) = (iv_lv sz b lv).filter (fun q => !(q.1 == i) && !(q.1 + 1 == i && q.2.category == 2)) := by
  simp [iv_lv, iv_no, List.filter_map, Function.comp_def, iv_cat]
theorem iv_lv_st1 {sz b : Nat} (lv : List (Nat × Value)) (i : Nat) (v : Value) : (i, iv_v sz b v) :: (iv_lv sz b lv).filter (fun q => !(q.1 == i) && !(q.1 + 1 == i && q.2.category == 2)) = iv_lv sz b (iv_st1 lv i v) := by
  simp [iv_lv, iv_st1, List.filter_map, Function.comp_def, iv_cat]
theorem iv_lv_st2 {sz b : Nat} (lv : List (Nat × Value)) (i : Nat) (v : Value) : (i, iv_v sz b v) :: (iv_lv sz b lv).filter (fun q => !(q.1 == i) && (!(q.1 == i + 1) && !(q.1 + 1 == i && q.2.category == 2))) = iv_lv sz b (iv_st2 lv i v) := by
  simp [iv_lv, iv_st2, List.filter_map, Function.comp_def, iv_cat]
theorem iv_ld_mem : ∀ (lv : List (Nat × Value)) (i : Nat) (v : Value), iv_ld lv i = some v → (i, v) ∈ lv
  | [], _, _, h => by simp [iv_ld] at h
  | q :: r, i, v, h => by
    unfold iv_ld at h
    split at h
    · next e => cases h; subst e; exact List.mem_cons_self
    · exact List.mem_cons_of_mem _ (iv_ld_mem r i v h)
theorem iv_ld_at {sz b nL : Nat} {ls : Array Slot} {lv : List (Nat × Value)} {i : Nat} {v : Value} (hl : lv_has ls nL (iv_lv sz b lv)) (h : iv_ld lv i = some v) : ls[i]? = some (.val (iv_v sz b v)) :=
  hl.2.2 (i, iv_v sz b v) (List.mem_map.mpr ⟨(i, v), iv_ld_mem lv i v h, rfl⟩)
theorem iv_ld_k {sz b : Nat} : ∀ (lv : List (Nat × Value)) (i : Nat) (v : Value), iv_ld lv i = some v → ∃ k : Nat, (iv_lv sz b lv)[k]? = some (i, iv_v sz b v) := fun lv i v h =>
  List.getElem?_of_mem (List.mem_map.mpr ⟨(i, v), iv_ld_mem lv i v h, rfl⟩)
theorem iv_args {sz b : Nat} : ∀ (vs : List Value) (i : Nat), lv_args i (vs.map (iv_v sz b)) = iv_lv sz b (lv_args i vs)
  | [], _ => rfl
  | v :: vs, i => by
    simp only [List.map_cons, lv_args, iv_cat]
    rw [iv_args vs]
    rfl
section
variable {sz b : Nat} {tc : Nat → ClassId}
theorem iv_ws_at {w : iv_W} {k : Nat} {e : iv_E} (h : w[k]? = some e) : (iv_ws sz b tc w)[k]? = some (sz + k, iv_e sz b tc e) := by
  simp [iv_ws, List.getElem?_mapIdx, h]
theorem iv_ws_get (w : iv_W) (k : Nat) : (iv_ws sz b tc w)[k]? = (w[k]?).map (fun e => (sz + k, iv_e sz b tc e)) := by
  simp [iv_ws, List.getElem?_mapIdx]
theorem iv_ws_set {w : iv_W} {k : Nat} {e : iv_E} : (iv_ws sz b tc w).set k (sz + k, iv_e sz b tc e) = iv_ws sz b tc (w.set k e) := by
  apply List.ext_getElem?
  intro i
  rw [List.getElem?_set, iv_ws_get, iv_ws_get, List.getElem?_set]
  by_cases h : k = i
  · subst h
    simp only [if_true]
    by_cases hl : k < w.length
    · simp [hl, iv_ws]
    · simp [hl, iv_ws]
  · simp [h]
theorem iv_ws_push {w : iv_W} {e : iv_E} : iv_ws sz b tc w ++ [(sz + w.length, iv_e sz b tc e)] = iv_ws sz b tc (w ++ [e]) := by
  simp [iv_ws, List.mapIdx_append]
theorem iv_D {w : iv_W} : va_D (iv_A sz) (iv_ws sz b tc w) := by
  have key : ∀ (k : Nat) (q : Nat × va_E), (iv_ws sz b tc w)[k]? = some q → q.1 = sz + k := by
    intro k q h
    rw [iv_ws_get] at h
    cases hw : w[k]? with
    | none => rw [hw] at h; cases h
    | some e => rw [hw] at h; cases h; rfl
  refine ⟨fun i j p q hi hj h => ?_, fun k q h => ?_⟩
  · have h1 := key i p hi
    have h2 := key j q hj
    omega
  · have h1 := key k q h
    show sz ≤ q.1
    omega
end
-- the stack
def iv_p1 (st : List Value) : Option (Int32 × List Value) := match st with
  | .int x :: r => some (x, r)
  | _ => none
def iv_p2 (st : List Value) : Option (Int32 × Int32 × List Value) := match st with
  | .int y :: .int x :: r => some (x, y, r)
  | _ => none
def iv_pl (st : List Value) : Option (Int64 × List Value) := match st with
  | .long x :: r => some (x, r)
  | _ => none
def iv_pl2 (st : List Value) : Option (Int64 × Int64 × List Value) := match st with
  | .long y :: .long x :: r => some (x, y, r)
  | _ => none
def iv_pli (st : List Value) : Option (Int64 × Int32 × List Value) := match st with
  | .int y :: .long x :: r => some (x, y, r)
  | _ => none
def iv_pr (st : List Value) : Option (Nat × List Value) := match st with
  | .ref a :: r => some (a, r)
  | _ => none
def iv_pv (st : List Value) : Option (Value × List Value) := match st with
  | v :: r => some (v, r)
  | _ => none
def iv_pvr (st : List Value) : Option (Value × Nat × List Value) := match st with
  | v :: .ref a :: r => some (v, a, r)
  | _ => none
def iv_pir (st : List Value) : Option (Int32 × Nat × List Value) := match st with
  | .int i :: .ref a :: r => some (i, a, r)
  | _ => none
def iv_piir (st : List Value) : Option (Int32 × Int32 × Nat × List Value) := match st with
  | .int x :: .int i :: .ref a :: r => some (x, i, a, r)
  | _ => none
def iv_plir (st : List Value) : Option (Int64 × Int32 × Nat × List Value) := match st with
  | .long x :: .int i :: .ref a :: r => some (x, i, a, r)
  | _ => none
def iv_prir (st : List Value) : Option (Nat × Int32 × Nat × List Value) := match st with
  | .ref x :: .int i :: .ref a :: r => some (x, i, a, r)
  | _ => none
theorem iv_p1_eq {st : List Value} {x : Int32} {r : List Value} (h : iv_p1 st = some (x, r)) : st = .int x :: r := by
  unfold iv_p1 at h; split at h <;> cases h; rfl
theorem iv_p2_eq {st : List Value} {x y : Int32} {r : List Value} (h : iv_p2 st = some (x, y, r)) : st = .int y :: .int x :: r := by
  unfold iv_p2 at h; split at h <;> cases h; rfl
theorem iv_pl_eq {st : List Value} {x : Int64} {r : List Value} (h : iv_pl st = some (x, r)) : st = .long x :: r := by
  unfold iv_pl at h; split at h <;> cases h; rfl
theorem iv_pl2_eq {st : List Value} {x y : Int64} {r : List Value} (h : iv_pl2 st = some (x, y, r)) : st = .long y :: .long x :: r := by
  unfold iv_pl2 at h; split at h <;> cases h; rfl
theorem iv_pli_eq {st : List Value} {x : Int64} {y : Int32} {r : List Value} (h : iv_pli st = some (x, y, r)) : st = .int y :: .long x :: r := by
  unfold iv_pli at h; split at h <;> cases h; rfl
theorem iv_pr_eq {st : List Value} {a : Nat} {r : List Value} (h : iv_pr st = some (a, r)) : st = .ref a :: r := by
  unfold iv_pr at h; split at h <;> cases h; rfl
theorem iv_pv_eq {st : List Value} {v : Value} {r : List Value} (h : iv_pv st = some (v, r)) : st = v :: r := by
  unfold iv_pv at h; split at h <;> cases h; rfl
theorem iv_pvr_eq {st : List Value} {v : Value} {a : Nat} {r : List Value} (h : iv_pvr st = some (v, a, r)) : st = v :: .ref a :: r := by
  unfold iv_pvr at h; split at h <;> cases h; rfl
theorem iv_pir_eq {st : List Value} {i : Int32} {a : Nat} {r : List Value} (h : iv_pir st = some (i, a, r)) : st = .int i :: .ref a :: r := by
  unfold iv_pir at h; split at h <;> cases h; rfl
theorem iv_piir_eq {st : List Value} {x i : Int32} {a : Nat} {r : List Value} (h : iv_piir st = some (x, i, a, r)) : st = .int x :: .int i :: .ref a :: r := by
  unfold iv_piir at h; split at h <;> cases h; rfl
theorem iv_plir_eq {st : List Value} {x : Int64} {i : Int32} {a : Nat} {r : List Value} (h : iv_plir st = some (x, i, a, r)) : st = .long x :: .int i :: .ref a :: r := by
  unfold iv_plir at h; split at h <;> cases h; rfl
theorem iv_prir_eq {st : List Value} {x : Nat} {i : Int32} {a : Nat} {r : List Value} (h : iv_prir st = some (x, i, a, r)) : st = .ref x :: .int i :: .ref a :: r := by
  unfold iv_prir at h; split at h <;> cases h; rfl
-- locals
def iv_ldi (lv : List (Nat × Value)) (i : Nat) : Option Int32 := match iv_ld lv i with
  | some (.int x) => some x
  | _ => none
def iv_ldl (lv : List (Nat × Value)) (i : Nat) : Option Int64 := match iv_ld lv i with
  | some (.long x) => some x
  | _ => none
def iv_lda (lv : List (Nat × Value)) (i : Nat) : Option Nat := match iv_ld lv i with
  | some (.ref x) => some x
  | _ => none
theorem iv_ldi_eq {lv : List (Nat × Value)} {i : Nat} {x : Int32} (h : iv_ldi lv i = some x) : iv_ld lv i = some (.int x) := by
  unfold iv_ldi at h; split at h <;> cases h; assumption
theorem iv_ldl_eq {lv : List (Nat × Value)} {i : Nat} {x : Int64} (h : iv_ldl lv i = some x) : iv_ld lv i = some (.long x) := by
  unfold iv_ldl at h; split at h <;> cases h; assumption
theorem iv_lda_eq {lv : List (Nat × Value)} {i : Nat} {x : Nat} (h : iv_lda lv i = some x) : iv_ld lv i = some (.ref x) := by
  unfold iv_lda at h; split at h <;> cases h; assumption
-- cells
def iv_obj (w : iv_W) (a ci : Nat) : Option (List Value) := match a with
  | 0 => none
  | k + 1 => match w[k]? with
    | some (.inr (c, fs)) => if c = ci then some fs else none
    | _ => none
theorem iv_obj_eq {w : iv_W} {a ci : Nat} {fs : List Value} (h : iv_obj w a ci = some fs) : ∃ k, a = k + 1 ∧ w[k]? = some (.inr (ci, fs)) := by
  unfold iv_obj at h
  split at h
  · cases h
  · split at h
    · split at h
      · next e hw hc => cases h; subst hc; exact ⟨_, rfl, hw⟩
      · cases h
    · cases h
/-- an array's kind: 0 int, 1 boolean, 2 long, 3 references to Folder -/
def iv_ai (w : iv_W) (a t : Nat) : Option (Nat × (Nat → Int32)) := match a with
  | 0 => none
  | k + 1 => match w[k]? with
    | some (.inl (t', n, .inl f)) => if t' = t then some (n, f) else none
    | _ => none
theorem iv_ai_eq {w : iv_W} {a t n : Nat} {f : Nat → Int32} (h : iv_ai w a t = some (n, f)) : ∃ k, a = k + 1 ∧ w[k]? = some (.inl (t, n, .inl f)) := by
  unfold iv_ai at h
  split at h
  · cases h
  · split at h
    · split at h
      · next e hw hc => cases h; subst hc; exact ⟨_, rfl, hw⟩
      · cases h
    · cases h
def iv_al (w : iv_W) (a : Nat) : Option (Nat × (Nat → Int64)) := match a with
  | 0 => none
  | k + 1 => match w[k]? with
    | some (.inl (t', n, .inr (.inl f))) => if t' = 2 then some (n, f) else none
    | _ => none
theorem iv_al_eq {w : iv_W} {a n : Nat} {f : Nat → Int64} (h : iv_al w a = some (n, f)) : ∃ k, a = k + 1 ∧ w[k]? = some (.inl (2, n, .inr (.inl f))) := by
  unfold iv_al at h
  split at h
  · cases h
  · split at h
    · split at h
      · next e hw hc => cases h; subst hc; exact ⟨_, rfl, hw⟩
      · cases h
    · cases h
def iv_aq (w : iv_W) (a : Nat) : Option (Nat × (Nat → Option Nat)) := match a with
  | 0 => none
  | k + 1 => match w[k]? with
    | some (.inl (t', n, .inr (.inr (.inr (.inr f))))) => if t' = 3 then some (n, f) else none
    | _ => none
theorem iv_aq_eq {w : iv_W} {a n : Nat} {f : Nat → Option Nat} (h : iv_aq w a = some (n, f)) : ∃ k, a = k + 1 ∧ w[k]? = some (.inl (3, n, .inr (.inr (.inr (.inr f))))) := by
  unfold iv_aq at h
  split at h
  · cases h
  · split at h
    · split at h
      · next e hw hc => cases h; subst hc; exact ⟨_, rfl, hw⟩
      · cases h
    · cases h
def iv_len (w : iv_W) (a : Nat) : Option (Nat × Nat) := match a with
  | 0 => none
  | k + 1 => match w[k]? with
    | some (.inl (t, x)) => if t < 4 then some (t, x.1) else none
    | _ => none
theorem iv_len_eq {w : iv_W} {a t n : Nat} (h : iv_len w a = some (t, n)) : ∃ k x, a = k + 1 ∧ w[k]? = some (.inl (t, x)) ∧ x.1 = n ∧ t < 4 := by
  unfold iv_len at h
  split at h
  · cases h
  · split at h
    · split at h
      · next e hw hc => cases h; exact ⟨_, _, rfl, hw, rfl, hc⟩
      · cases h
    · cases h
def iv_in (i : Int32) (n : Nat) : Bool := !(decide (i < 0)) && decide (i.toNatClampNeg < n)
theorem iv_in_ok {i : Int32} {n : Nat} (h : iv_in i n = true) : vp_in i n := by
  unfold iv_in at h
  simp only [Bool.and_eq_true, Bool.not_eq_true', decide_eq_false_iff_not, decide_eq_true_eq] at h
  rintro (h1 | h1)
  · exact h.1 h1
  · omega
/-- what a field takes -/
def iv_fit (ty : FieldType) (v : Value) : Bool := match ty, v with
  | .int, .int _ => true
  | .boolean, .int x => x == 0 || x == 1
  | .object _, .ref _ => true
  | .array _, .ref _ => true
  | _, _ => false
theorem iv_fit_ok {sz b : Nat} {ty : FieldType} {v : Value} (h : iv_fit ty v = true) : narrow ty (iv_v sz b v) = iv_v sz b v ∧ fits ty (iv_v sz b v) = true := by
  unfold iv_fit at h
  split at h
  · exact ⟨rfl, rfl⟩
  · next x =>
    simp only [Bool.or_eq_true, beq_iff_eq] at h
    rcases h with rfl | rfl
    · exact ⟨show narrow .boolean (.int 0) = .int 0 by decide, show fits .boolean (.int 0) = true by decide⟩
    · exact ⟨show narrow .boolean (.int 1) = .int 1 by decide, show fits .boolean (.int 1) = true by decide⟩
  · exact ⟨rfl, rfl⟩
  · exact ⟨rfl, rfl⟩
  · cases h
def iv_c0 (c : ClassFile.Cond) (x : Int32) : Bool := match c with
  | .eq => decide (x = 0)
  | .ne => decide (¬ x = 0)
  | .lt => decide (x < 0)
  | .ge => decide (0 ≤ x)
  | .gt => decide (0 < x)
  | .le => decide (x ≤ 0)
def iv_c2 (c : ClassFile.Cond) (x y : Int32) : Bool := match c with
  | .eq => decide (x = y)
  | .ne => decide (¬ x = y)
  | .lt => decide (x < y)
  | .ge => decide (y ≤ x)
  | .gt => decide (y < x)
  | .le => decide (x ≤ y)
end
section
theorem iv_tys_at (tc : Nat → ClassId) {t : Nat} (h : t < 4) : ∃ ty, (iv_tys tc)[t]? = some (tc t, ty) := by
  have : t = 0 ∨ t = 1 ∨ t = 2 ∨ t = 3 := by omega
  rcases this with rfl | rfl | rfl | rfl <;> exact ⟨_, rfl⟩
theorem iv_fo_ty (tc : Nat → ClassId) : (iv_tys tc)[3]? = some (tc 3, .object (iv_cnm 5, iv_F5, 3).1) := rfl
theorem iv_fo_cl : iv_cl[iv_fo]? = some (iv_cnm 5, iv_F5, 3) := rfl
theorem iv_f0_map {ci sz b : Nat} (h : ci < 10) : (iv_f0 ci).map (iv_v sz b) = iv_f0 ci := by
  have h1 : ∀ v ∈ iv_f0 ci, iv_v sz b v = v := fun v hv => by
    rcases iv_f0_no ci h v hv with rfl | rfl <;> rfl
  rw [List.map_congr_left h1]
  exact List.map_id _
/-! one step of the machine; x: what the table says beside the instruction (a target, a class and field, a number) -/
def iv_sw (pc : Nat) (dflt lo hi : Int) (offs : Array Int) (v : Int32) : Option Nat :=
  if v.toInt < lo ∨ hi < v.toInt then (if (pc : Int) + dflt < 0 then none else some ((pc : Int) + dflt).toNat)
  else match offs[(v.toInt - lo).toNat]? with
    | none => none
    | some off => if (pc : Int) + off < 0 then none else some ((pc : Int) + off).toNat
def iv_step (L : Nat) (xs : Nat → Int32) (μ : Nat) (i : Instr) (x pc : Nat) (lv : List (Nat × Value)) (st : List Value) (w : iv_W) : Option (Nat × List (Nat × Value) × List Value × iv_W) := match i with
  | .iconst n => some (pc + 1, lv, .int (Int32.ofInt n) :: st, w)
  | .bipush n => some (pc + 2, lv, .int (Int8.ofInt n).toInt32 :: st, w)
  | .sipush n => some (pc + 3, lv, .int (Int16.ofInt n).toInt32 :: st, w)
  | .lconst n => some (pc + 1, lv, .long (Int64.ofNat (n : Nat)) :: st, w)
  | .ldc n => some (pc + 2, lv, .int (Int32.ofNat x) :: st, w)
  | .ldc2_w n => some (pc + 3, lv, .long (Int64.ofNat x) :: st, w)
  | .iload_n k => match iv_ldi lv k.val with
    | some v => some (pc + 1, lv, .int v :: st, w)
    | none => none
  | .iload k => match iv_ldi lv k with
    | some v => some (pc + 2, lv, .int v :: st, w)
    | none => none
  | .lload_n k => match iv_ldl lv k.val with
    | some v => some (pc + 1, lv, .long v :: st, w)
    | none => none
  | .lload k => match iv_ldl lv k with
    | some v => some (pc + 2, lv, .long v :: st, w)
    | none => none
  | .aload_n k => match iv_lda lv k.val with
    | some v => some (pc + 1, lv, .ref v :: st, w)
    | none => none
  | .aload k => match iv_lda lv k with
    | some v => some (pc + 2, lv, .ref v :: st, w)
    | none => none
  | .istore_n k => match iv_p1 st with
    | some (v, r) => if k.val < iv_L μ then some (pc + 1, iv_st1 lv k.val (.int v), r, w) else none
    | none => none
  | .istore k => match iv_p1 st with
    | some (v, r) => if k < iv_L μ then some (pc + 2, iv_st1 lv k (.int v), r, w) else none
    | none => none
  | .lstore_n k => match iv_pl st with
    | some (v, r) => if k.val + 1 < iv_L μ then some (pc + 1, iv_st2 lv k.val (.long v), r, w) else none
    | none => none
  | .lstore k => match iv_pl st with
    | some (v, r) => if k + 1 < iv_L μ then some (pc + 2, iv_st2 lv k (.long v), r, w) else none
    | none => none
  | .astore_n k => match iv_pr st with
    | some (v, r) => if k.val < iv_L μ then some (pc + 1, iv_st1 lv k.val (.ref v), r, w) else none
    | none => none
  | .astore k => match iv_pr st with
    | some (v, r) => if k < iv_L μ then some (pc + 2, iv_st1 lv k (.ref v), r, w) else none
    | none => none
  | .iinc k n => match iv_ldi lv k with
    | some v => if k < iv_L μ then some (pc + 3, iv_st1 lv k (.int (v + Int32.ofInt n)), st, w) else none
    | none => none
  | .iadd => match iv_p2 st with
    | some (y, z, r) => some (pc + 1, lv, .int (y + z) :: r, w)
    | none => none
  | .isub => match iv_p2 st with
    | some (y, z, r) => some (pc + 1, lv, .int (y - z) :: r, w)
    | none => none
  | .imul => match iv_p2 st with
    | some (y, z, r) => some (pc + 1, lv, .int (y * z) :: r, w)
    | none => none
  | .iand => match iv_p2 st with
    | some (y, z, r) => some (pc + 1, lv, .int (y &&& z) :: r, w)
    | none => none
  | .ior => match iv_p2 st with
    | some (y, z, r) => some (pc + 1, lv, .int (y ||| z) :: r, w)
    | none => none
  | .idiv => match iv_p2 st with
    | some (y, z, r) => if z = 0 then none else some (pc + 1, lv, .int (y / z) :: r, w)
    | none => none
  | .irem => match iv_p2 st with
    | some (y, z, r) => if z = 0 then none else some (pc + 1, lv, .int (y - y / z * z) :: r, w)
    | none => none
  | .i2l => match iv_p1 st with
    | some (y, r) => some (pc + 1, lv, .long y.toInt64 :: r, w)
    | none => none
  | .l2i => match iv_pl st with
    | some (y, r) => some (pc + 1, lv, .int y.toInt32 :: r, w)
    | none => none
  | .lushr => match iv_pli st with
    | some (y, z, r) => some (pc + 1, lv, .long (y.toUInt64 >>> (z.toInt64.toUInt64 &&& Int64.toUInt64 63)).toInt64 :: r, w)
    | none => none
  | .lshl => match iv_pli st with
    | some (y, z, r) => some (pc + 1, lv, .long (y <<< (z.toInt64 &&& 63)) :: r, w)
    | none => none
  | .lor => match iv_pl2 st with
    | some (y, z, r) => some (pc + 1, lv, .long (y ||| z) :: r, w)
    | none => none
  | .land => match iv_pl2 st with
    | some (y, z, r) => some (pc + 1, lv, .long (y &&& z) :: r, w)
    | none => none
  | .lcmp => match iv_pl2 st with
    | some (y, z, r) => some (pc + 1, lv, .int (lg_cmp y z) :: r, w)
    | none => none
  | .dup => match iv_pv st with
    | some (v, r) => if v.category = 1 then some (pc + 1, lv, v :: v :: r, w) else none
    | none => none
  | .pop => match iv_pv st with
    | some (v, r) => if v.category = 1 then some (pc + 1, lv, r, w) else none
    | none => none
  | .dup2 => match iv_pir st with
    | some (y, a, r) => some (pc + 1, lv, .int y :: .ref a :: .int y :: .ref a :: r, w)
    | none => none
  | .goto n => some (x, lv, st, w)
  | .ifCond q n => match iv_p1 st with
    | some (y, r) => some (if iv_c0 q y = true then x else pc + 3, lv, r, w)
    | none => none
  | .if_icmp q n => match iv_p2 st with
    | some (y, z, r) => some (if iv_c2 q y z = true then x else pc + 3, lv, r, w)
    | none => none
  | .tableswitch dflt lo hi offs => match iv_p1 st with
    | some (y, r) => match iv_sw pc dflt lo hi offs y with
      | some t => some (t, lv, r, w)
      | none => none
    | none => none
  | .getfield n => match iv_pr st with
    | some (a, r) => match iv_obj w a (x / 100) with
      | some fs => match fs[x % 100]? with
        | some v => some (pc + 3, lv, v :: r, w)
        | none => none
      | none => none
    | none => none
  | .putfield n => match iv_pvr st with
    | some (v, a, r) => match iv_obj w a (x / 100) with
      | some fs => if x % 100 < fs.length ∧ iv_fit (iv_ty (x / 100) (x % 100)) v = true then some (pc + 3, lv, r, w.set (a - 1) (.inr (x / 100, fs.set (x % 100) v))) else none
      | none => none
    | none => none
  | .arraylength => match iv_pr st with
    | some (a, r) => if a = 0 then some (pc + 1, lv, .int (Int32.ofNat L) :: r, w) else match iv_len w a with
      | some (t, n) => some (pc + 1, lv, .int (Int32.ofNat n) :: r, w)
      | none => none
    | none => none
  | .iaload => match iv_pir st with
    | some (j, a, r) => if a = 0 then (if iv_in j L = true then some (pc + 1, lv, .int (xs j.toNatClampNeg) :: r, w) else none) else match iv_ai w a 0 with
      | some (n, f) => if iv_in j n = true then some (pc + 1, lv, .int (f j.toNatClampNeg) :: r, w) else none
      | none => none
    | none => none
  | .baload => match iv_pir st with
    | some (j, a, r) => match iv_ai w a 1 with
      | some (n, f) => if iv_in j n = true then some (pc + 1, lv, .int (f j.toNatClampNeg) :: r, w) else none
      | none => none
    | none => none
  | .laload => match iv_pir st with
    | some (j, a, r) => match iv_al w a with
      | some (n, f) => if iv_in j n = true then some (pc + 1, lv, .long (f j.toNatClampNeg) :: r, w) else none
      | none => none
    | none => none
  | .aaload => match iv_pir st with
    | some (j, a, r) => match iv_aq w a with
      | some (n, f) => if iv_in j n = true then (match f j.toNatClampNeg with
        | some q => some (pc + 1, lv, .ref q :: r, w)
        | none => none) else none
      | none => none
    | none => none
  | .iastore => match iv_piir st with
    | some (v, j, a, r) => match iv_ai w a 0 with
      | some (n, f) => if iv_in j n = true then some (pc + 1, lv, r, w.set (a - 1) (.inl (0, n, .inl (upd f j.toNatClampNeg v)))) else none
      | none => none
    | none => none
  | .bastore => match iv_piir st with
    | some (v, j, a, r) => match iv_ai w a 1 with
      | some (n, f) => if iv_in j n = true then some (pc + 1, lv, r, w.set (a - 1) (.inl (1, n, .inl (upd f j.toNatClampNeg (vp_nar .boolean v))))) else none
      | none => none
    | none => none
  | .lastore => match iv_plir st with
    | some (v, j, a, r) => match iv_al w a with
      | some (n, f) => if iv_in j n = true then some (pc + 1, lv, r, w.set (a - 1) (.inl (2, n, .inr (.inl (vp_updL f j.toNatClampNeg v))))) else none
      | none => none
    | none => none
  | .aastore => match iv_prir st with
    | some (v, j, a, r) => match iv_aq w a with
      | some (n, f) => if iv_in j n = true ∧ (iv_obj w v iv_fo).isSome = true then some (pc + 1, lv, r, w.set (a - 1) (.inl (3, n, .inr (.inr (.inr (.inr (va_up f j.toNatClampNeg (some v)))))))) else none
      | none => none
    | none => none
  | _ => none
/-- what the tables must say at an instruction -/
def iv_fd (own : String) (mname : String) (put : Bool) (n ci j : Nat) : Prop := ∃ (C : String) (T : u_T) (N : Nat), iv_cl[ci]? = some (C, T, N) ∧ j < N ∧ (T j).1 = C ∧ (∀ w ∈ u_ws C T N, w ∈ iv_all) ∧ Cond.fieldLink own n C (T j).2.1 (T j).2.2.1 ∈ iv_all ∧
  (∀ k, k < N → parseFieldDescriptor (T k).2.2.1 = some (iv_ty ci k)) ∧ (∀ a, a < N → ∀ b, b < N → a ≠ b → (T a).2.1 ≠ (T b).2.1) ∧ (put = false ∨ (T j).2.2.2 = false ∨ ((T j).2.2.2 = true ∧ mname = "<init>" ∧ (T j).1 = own))
def iv_fp (own : String) (mname : String) (n ci j : Nat) : Prop := ∃ (C : String) (T : u_T) (N : Nat), iv_cl[ci]? = some (C, T, N) ∧ j < N ∧ (T j).1 = C ∧ (∀ w ∈ u_ws C T N, w ∈ iv_all) ∧ Cond.fieldLink own n C (T j).2.1 (T j).2.2.1 ∈ iv_all ∧
  (∀ k, k < N → parseFieldDescriptor (T k).2.2.1 = some (iv_ty ci k)) ∧ (∀ a, a < N → ∀ b, b < N → a ≠ b → (T a).2.1 ≠ (T b).2.1) ∧ ((T j).2.2.2 = false ∨ ((T j).2.2.2 = true ∧ mname = "<init>" ∧ (T j).1 = own))
def iv_ok (μ pc : Nat) (i : Instr) (x : Nat) : Prop := decode (iv_c μ) pc = .ok (i, iv_ln i x) ∧ match i with
  | .getfield n => iv_fd (iv_y μ).cls (iv_y μ).name false n (x / 100) (x % 100)
  | .putfield n => iv_fp (iv_y μ).cls (iv_y μ).name n (x / 100) (x % 100)
  | .ldc n => Cond.constant (iv_y μ).cls n (Int32.ofNat x) ∈ iv_all
  | .ldc2_w n => Cond.constantLong (iv_y μ).cls n (Int64.ofNat x) ∈ iv_all
  | .ifCond _ o => (pc : Int) + o = (x : Int)
  | .if_icmp _ o => (pc : Int) + o = (x : Int)
  | .goto o => (pc : Int) + o = (x : Int)
  | _ => True
section
variable {p : Program} {l : Launch} {e : Env} {R : Room} {s : State} {m : MethodId} {args : Array Value} {below : List Frame} {meth : Method} {c : Code} {H : Heap} {locs : List Loc} {cells slots : Nat} {Q : State → Prop} {ls : Array Slot} {sz b L : Nat} {xs : Nat → Int32} {tc : Nat → ClassId} {D : va_G} {μ pc x pc2 : Nat} {i : Instr} {lv lv2 : List (Nat × Value)} {st st2 : List Value} {w w2 : iv_W}
set_option maxRecDepth 100000 in
set_option maxHeartbeats 8000000 in
theorem iv_step_ok (hx : p.tables.exec = Jvm.exec) (hb : c.code = iv_c μ) (hown : s.vm.findClass (iv_y μ).cls = some m.cls) (hts : ∀ w ∈ iv_all, w.before args s = true) (hname : meth.name = (iv_y μ).name)
    (hK : va_K D iv_cl (iv_tys tc) s) (hX : va_X b L xs s s.heap) (hbz : b < sz) (hz0 : sz ≤ s.heap.size)
    (hP : va_P D iv_cl (iv_ws sz b tc w) H) (hS : va_S (iv_A sz) s.heap H locs) (hl : lv_has ls (iv_L μ) (iv_lv sz b lv)) (hd : iv_ok μ pc i x) (h : iv_step L xs μ i x pc lv st w = some (pc2, lv2, st2, w2))
    (kk : ∀ (H1 : Heap) (locs1 : List Loc) (ls1 : Array Slot), va_P D iv_cl (iv_ws sz b tc w2) H1 → va_S (iv_A sz) s.heap H1 locs1 → lv_has ls1 (iv_L μ) (iv_lv sz b lv2) → W p l e R s m args below meth c H1 locs1 cells slots Q (F0 m pc2 ls1 (st2.map (iv_v sz b)))) :
    W p l e R s m args below meth c H locs cells slots Q (F0 m pc ls (st.map (iv_v sz b))) := by
  cases i
  case iconst n =>
    simp only [iv_step, Option.some.injEq, Prod.mk.injEq] at h
    obtain ⟨rfl, rfl, rfl, rfl⟩ := h
    exact lv_iconst hx hb hd.1 rfl (kk H locs ls hP hS hl)
  case bipush n =>
    simp only [iv_step, Option.some.injEq, Prod.mk.injEq] at h
    obtain ⟨rfl, rfl, rfl, rfl⟩ := h
    exact lv_bipush hx hb hd.1 rfl (kk H locs ls hP hS hl)
  case sipush n =>
    simp only [iv_step, Option.some.injEq, Prod.mk.injEq] at h
    obtain ⟨rfl, rfl, rfl, rfl⟩ := h
    exact lv_sipush hx hb hd.1 rfl (kk H locs ls hP hS hl)
  case lconst n =>
    simp only [iv_step, Option.some.injEq, Prod.mk.injEq] at h
    obtain ⟨rfl, rfl, rfl, rfl⟩ := h
    exact lv_lconst hx hb hd.1 rfl (kk H locs ls hP hS hl)
  case ldc n =>
    simp only [iv_step, Option.some.injEq, Prod.mk.injEq] at h
    obtain ⟨rfl, rfl, rfl, rfl⟩ := h
    exact lv_ldc hx hb hown (hts _ hd.2) hd.1 (kk H locs ls hP hS hl)
  case ldc2_w n =>
    simp only [iv_step, Option.some.injEq, Prod.mk.injEq] at h
    obtain ⟨rfl, rfl, rfl, rfl⟩ := h
    exact lv_ldc2 hx hb hown (hts _ hd.2) hd.1 (kk H locs ls hP hS hl)
  case iload_n k =>
    simp only [iv_step] at h
    split at h
    · next v e0 =>
      simp only [Option.some.injEq, Prod.mk.injEq] at h
      obtain ⟨rfl, rfl, rfl, rfl⟩ := h
      exact lv_iload_n hx hb hd.1 rfl (iv_ld_at hl (iv_ldi_eq e0)) (kk H locs ls hP hS hl)
    · cases h
  case iload k =>
    simp only [iv_step] at h
    split at h
    · next v e0 =>
      simp only [Option.some.injEq, Prod.mk.injEq] at h
      obtain ⟨rfl, rfl, rfl, rfl⟩ := h
      exact lv_iload hx hb hd.1 (iv_ld_at hl (iv_ldi_eq e0)) (kk H locs ls hP hS hl)
    · cases h
  case lload_n k =>
    simp only [iv_step] at h
    split at h
    · next v e0 =>
      simp only [Option.some.injEq, Prod.mk.injEq] at h
      obtain ⟨rfl, rfl, rfl, rfl⟩ := h
      exact lv_lload_n hx hb hd.1 rfl (iv_ld_at hl (iv_ldl_eq e0)) (kk H locs ls hP hS hl)
    · cases h
  case lload k =>
    simp only [iv_step] at h
    split at h
    · next v e0 =>
      simp only [Option.some.injEq, Prod.mk.injEq] at h
      obtain ⟨rfl, rfl, rfl, rfl⟩ := h
      exact lv_lload hx hb hd.1 (iv_ld_at hl (iv_ldl_eq e0)) (kk H locs ls hP hS hl)
    · cases h
  case aload_n k =>
    simp only [iv_step] at h
    split at h
    · next v e0 =>
      simp only [Option.some.injEq, Prod.mk.injEq] at h
      obtain ⟨rfl, rfl, rfl, rfl⟩ := h
      exact lv_aload_n hx hb hd.1 rfl (iv_ld_at hl (iv_lda_eq e0)) (kk H locs ls hP hS hl)
    · cases h
  case aload k =>
    simp only [iv_step] at h
    split at h
    · next v e0 =>
      simp only [Option.some.injEq, Prod.mk.injEq] at h
      obtain ⟨rfl, rfl, rfl, rfl⟩ := h
      exact lv_aload hx hb hd.1 (iv_ld_at hl (iv_lda_eq e0)) (kk H locs ls hP hS hl)
    · cases h
  case istore_n k =>
    simp only [iv_step] at h
    split at h
    · next v r e0 =>
      split at h
      · next hk =>
        simp only [Option.some.injEq, Prod.mk.injEq] at h
        obtain ⟨rfl, rfl, rfl, rfl⟩ := h
        rw [iv_p1_eq e0]
        exact lv_istore_n hx hb hd.1 rfl hl hk (iv_lv_st1 lv k.val (.int v)) (fun ls2 hl2 => kk H locs ls2 hP hS hl2)
      · cases h
    · cases h
  case istore k =>
    simp only [iv_step] at h
    split at h
    · next v r e0 =>
      split at h
      · next hk =>
        simp only [Option.some.injEq, Prod.mk.injEq] at h
        obtain ⟨rfl, rfl, rfl, rfl⟩ := h
        rw [iv_p1_eq e0]
        exact lv_istore hx hb hd.1 hl hk (iv_lv_st1 lv k (.int v)) (fun ls2 hl2 => kk H locs ls2 hP hS hl2)
      · cases h
    · cases h
  case lstore_n k =>
    simp only [iv_step] at h
    split at h
    · next v r e0 =>
      split at h
      · next hk =>
        simp only [Option.some.injEq, Prod.mk.injEq] at h
        obtain ⟨rfl, rfl, rfl, rfl⟩ := h
        rw [iv_pl_eq e0]
        exact lv_lstore_n hx hb hd.1 rfl hl hk (iv_lv_st2 lv k.val (.long v)) (fun ls2 hl2 => kk H locs ls2 hP hS hl2)
      · cases h
    · cases h
  case lstore k =>
    simp only [iv_step] at h
    split at h
    · next v r e0 =>
      split at h
      · next hk =>
        simp only [Option.some.injEq, Prod.mk.injEq] at h
        obtain ⟨rfl, rfl, rfl, rfl⟩ := h
        rw [iv_pl_eq e0]
        exact lv_lstore hx hb hd.1 hl hk (iv_lv_st2 lv k (.long v)) (fun ls2 hl2 => kk H locs ls2 hP hS hl2)
      · cases h
    · cases h
  case astore_n k =>
    simp only [iv_step] at h
    split at h
    · next v r e0 =>
      split at h
      · next hk =>
        simp only [Option.some.injEq, Prod.mk.injEq] at h
        obtain ⟨rfl, rfl, rfl, rfl⟩ := h
        rw [iv_pr_eq e0]
        exact lv_astore_n hx hb hd.1 rfl hl hk (iv_lv_st1 lv k.val (.ref v)) (fun ls2 hl2 => kk H locs ls2 hP hS hl2)
      · cases h
    · cases h
  case astore k =>
    simp only [iv_step] at h
    split at h
    · next v r e0 =>
      split at h
      · next hk =>
        simp only [Option.some.injEq, Prod.mk.injEq] at h
        obtain ⟨rfl, rfl, rfl, rfl⟩ := h
        rw [iv_pr_eq e0]
        exact lv_astore hx hb hd.1 hl hk (iv_lv_st1 lv k (.ref v)) (fun ls2 hl2 => kk H locs ls2 hP hS hl2)
      · cases h
    · cases h
  case iinc k n =>
    simp only [iv_step] at h
    split at h
    · next v e0 =>
      split at h
      · next hk =>
        simp only [Option.some.injEq, Prod.mk.injEq] at h
        obtain ⟨rfl, rfl, rfl, rfl⟩ := h
        obtain ⟨j, hj⟩ := iv_ld_k (sz := sz) (b := b) lv k (.int v) (iv_ldi_eq e0)
        exact lv_iinc hx hb hd.1 hl hj rfl hk (iv_lv_st1 lv k (.int (v + Int32.ofInt n))) (fun ls2 hl2 => kk H locs ls2 hP hS hl2)
      · cases h
    · cases h
  case iadd =>
    simp only [iv_step] at h
    split at h
    · next y z r e0 =>
      simp only [Option.some.injEq, Prod.mk.injEq] at h
      obtain ⟨rfl, rfl, rfl, rfl⟩ := h
      rw [iv_p2_eq e0]
      exact lv_iadd hx hb hd.1 (kk H locs ls hP hS hl)
    · cases h
  case isub =>
    simp only [iv_step] at h
    split at h
    · next y z r e0 =>
      simp only [Option.some.injEq, Prod.mk.injEq] at h
      obtain ⟨rfl, rfl, rfl, rfl⟩ := h
      rw [iv_p2_eq e0]
      exact lv_isub hx hb hd.1 (kk H locs ls hP hS hl)
    · cases h
  case imul =>
    simp only [iv_step] at h
    split at h
    · next y z r e0 =>
      simp only [Option.some.injEq, Prod.mk.injEq] at h
      obtain ⟨rfl, rfl, rfl, rfl⟩ := h
      rw [iv_p2_eq e0]
      exact lv_imul hx hb hd.1 (kk H locs ls hP hS hl)
    · cases h
  case iand =>
    simp only [iv_step] at h
    split at h
    · next y z r e0 =>
      simp only [Option.some.injEq, Prod.mk.injEq] at h
      obtain ⟨rfl, rfl, rfl, rfl⟩ := h
      rw [iv_p2_eq e0]
      exact lv_iand hx hb hd.1 (kk H locs ls hP hS hl)
    · cases h
  case ior =>
    simp only [iv_step] at h
    split at h
    · next y z r e0 =>
      simp only [Option.some.injEq, Prod.mk.injEq] at h
      obtain ⟨rfl, rfl, rfl, rfl⟩ := h
      rw [iv_p2_eq e0]
      exact lv_ior hx hb hd.1 (kk H locs ls hP hS hl)
    · cases h
  case idiv =>
    simp only [iv_step] at h
    split at h
    · next y z r e0 =>
      split at h
      · cases h
      · next hz =>
        simp only [Option.some.injEq, Prod.mk.injEq] at h
        obtain ⟨rfl, rfl, rfl, rfl⟩ := h
        rw [iv_p2_eq e0]
        exact lv_idiv hx hb hd.1 hz (kk H locs ls hP hS hl)
    · cases h
  case irem =>
    simp only [iv_step] at h
    split at h
    · next y z r e0 =>
      split at h
      · cases h
      · next hz =>
        simp only [Option.some.injEq, Prod.mk.injEq] at h
        obtain ⟨rfl, rfl, rfl, rfl⟩ := h
        rw [iv_p2_eq e0]
        exact lv_irem hx hb hd.1 hz (kk H locs ls hP hS hl)
    · cases h
  case i2l =>
    simp only [iv_step] at h
    split at h
    · next y r e0 =>
      simp only [Option.some.injEq, Prod.mk.injEq] at h
      obtain ⟨rfl, rfl, rfl, rfl⟩ := h
      rw [iv_p1_eq e0]
      exact lv_i2l hx hb hd.1 rfl (kk H locs ls hP hS hl)
    · cases h
  case l2i =>
    simp only [iv_step] at h
    split at h
    · next y r e0 =>
      simp only [Option.some.injEq, Prod.mk.injEq] at h
      obtain ⟨rfl, rfl, rfl, rfl⟩ := h
      rw [iv_pl_eq e0]
      exact lv_l2i hx hb hd.1 rfl (kk H locs ls hP hS hl)
    · cases h
  case lushr =>
    simp only [iv_step] at h
    split at h
    · next y z r e0 =>
      simp only [Option.some.injEq, Prod.mk.injEq] at h
      obtain ⟨rfl, rfl, rfl, rfl⟩ := h
      rw [iv_pli_eq e0]
      exact lv_lushr hx hb hd.1 rfl (kk H locs ls hP hS hl)
    · cases h
  case lshl =>
    simp only [iv_step] at h
    split at h
    · next y z r e0 =>
      simp only [Option.some.injEq, Prod.mk.injEq] at h
      obtain ⟨rfl, rfl, rfl, rfl⟩ := h
      rw [iv_pli_eq e0]
      exact lv_lshl hx hb hd.1 rfl (kk H locs ls hP hS hl)
    · cases h
  case lor =>
    simp only [iv_step] at h
    split at h
    · next y z r e0 =>
      simp only [Option.some.injEq, Prod.mk.injEq] at h
      obtain ⟨rfl, rfl, rfl, rfl⟩ := h
      rw [iv_pl2_eq e0]
      exact lv_lor hx hb hd.1 (kk H locs ls hP hS hl)
    · cases h
  case land =>
    simp only [iv_step] at h
    split at h
    · next y z r e0 =>
      simp only [Option.some.injEq, Prod.mk.injEq] at h
      obtain ⟨rfl, rfl, rfl, rfl⟩ := h
      rw [iv_pl2_eq e0]
      exact lv_land hx hb hd.1 (kk H locs ls hP hS hl)
    · cases h
  case lcmp =>
    simp only [iv_step] at h
    split at h
    · next y z r e0 =>
      simp only [Option.some.injEq, Prod.mk.injEq] at h
      obtain ⟨rfl, rfl, rfl, rfl⟩ := h
      rw [iv_pl2_eq e0]
      exact W.lcmp hx hb hd.1 (kk H locs ls hP hS hl)
    · cases h
  case dup =>
    simp only [iv_step] at h
    split at h
    · next v r e0 =>
      split at h
      · next hk =>
        simp only [Option.some.injEq, Prod.mk.injEq] at h
        obtain ⟨rfl, rfl, rfl, rfl⟩ := h
        rw [iv_pv_eq e0]
        exact lv_dup hx hb hd.1 (by rw [iv_cat]; exact hk) (kk H locs ls hP hS hl)
      · cases h
    · cases h
  case pop =>
    simp only [iv_step] at h
    split at h
    · next v r e0 =>
      split at h
      · next hk =>
        simp only [Option.some.injEq, Prod.mk.injEq] at h
        obtain ⟨rfl, rfl, rfl, rfl⟩ := h
        rw [iv_pv_eq e0]
        exact lv_pop hx hb hd.1 (by rw [iv_cat]; exact hk) (kk H locs ls hP hS hl)
      · cases h
    · cases h
  case dup2 =>
    simp only [iv_step] at h
    split at h
    · next y a r e0 =>
      simp only [Option.some.injEq, Prod.mk.injEq] at h
      obtain ⟨rfl, rfl, rfl, rfl⟩ := h
      rw [iv_pir_eq e0]
      exact lv_dup2_11 hx hb hd.1 rfl rfl (kk H locs ls hP hS hl)
    · cases h
  case goto n =>
    simp only [iv_step, Option.some.injEq, Prod.mk.injEq] at h
    obtain ⟨rfl, rfl, rfl, rfl⟩ := h
    exact lv_goto hx hb hd.1 hd.2 (kk H locs ls hP hS hl)
  case ifCond q n =>
    simp only [iv_step] at h
    split at h
    · next y r e0 =>
      simp only [Option.some.injEq, Prod.mk.injEq] at h
      obtain ⟨rfl, rfl, rfl, rfl⟩ := h
      rw [iv_p1_eq e0]
      cases q
      · exact lv_if_eq hx hb hd.1 hd.2 (fun q => by have := kk H locs ls hP hS hl; rwa [if_pos (by simpa [iv_c0] using q)] at this) (fun q => by have := kk H locs ls hP hS hl; rwa [if_neg (by simpa [iv_c0] using q)] at this)
      · exact lv_if_ne hx hb hd.1 hd.2 (fun q => by have := kk H locs ls hP hS hl; rwa [if_pos (by simpa [iv_c0] using q)] at this) (fun q => by have := kk H locs ls hP hS hl; rwa [if_neg (by simpa [iv_c0] using q)] at this)
      · exact lv_if_lt hx hb hd.1 hd.2 (fun q => by have := kk H locs ls hP hS hl; rwa [if_pos (by simpa [iv_c0] using q)] at this) (fun q => by have := kk H locs ls hP hS hl; rwa [if_neg (by simpa [iv_c0] using q)] at this)
      · exact lv_if_ge hx hb hd.1 hd.2 (fun q => by have := kk H locs ls hP hS hl; rwa [if_pos (by simpa [iv_c0] using q)] at this) (fun q => by have := kk H locs ls hP hS hl; rwa [if_neg (by simpa [iv_c0] using q)] at this)
      · exact lv_if_gt hx hb hd.1 hd.2 (fun q => by have := kk H locs ls hP hS hl; rwa [if_pos (by simpa [iv_c0] using q)] at this) (fun q => by have := kk H locs ls hP hS hl; rwa [if_neg (by simpa [iv_c0] using q)] at this)
      · exact lv_if_le hx hb hd.1 hd.2 (fun q => by have := kk H locs ls hP hS hl; rwa [if_pos (by simpa [iv_c0] using q)] at this) (fun q => by have := kk H locs ls hP hS hl; rwa [if_neg (by simpa [iv_c0] using q)] at this)
    · cases h
  case if_icmp q n =>
    simp only [iv_step] at h
    split at h
    · next y z r e0 =>
      simp only [Option.some.injEq, Prod.mk.injEq] at h
      obtain ⟨rfl, rfl, rfl, rfl⟩ := h
      rw [iv_p2_eq e0]
      cases q
      · exact lv_icmp_eq hx hb hd.1 hd.2 (fun q => by have := kk H locs ls hP hS hl; rwa [if_pos (by simpa [iv_c2] using q)] at this) (fun q => by have := kk H locs ls hP hS hl; rwa [if_neg (by simpa [iv_c2] using q)] at this)
      · exact lv_icmp_ne hx hb hd.1 hd.2 (fun q => by have := kk H locs ls hP hS hl; rwa [if_pos (by simpa [iv_c2] using q)] at this) (fun q => by have := kk H locs ls hP hS hl; rwa [if_neg (by simpa [iv_c2] using q)] at this)
      · exact lv_icmp_lt hx hb hd.1 hd.2 (fun q => by have := kk H locs ls hP hS hl; rwa [if_pos (by simpa [iv_c2] using q)] at this) (fun q => by have := kk H locs ls hP hS hl; rwa [if_neg (by simpa [iv_c2] using q)] at this)
      · exact lv_icmp_ge hx hb hd.1 hd.2 (fun q => by have := kk H locs ls hP hS hl; rwa [if_pos (by simpa [iv_c2] using q)] at this) (fun q => by have := kk H locs ls hP hS hl; rwa [if_neg (by simpa [iv_c2] using q)] at this)
      · exact lv_icmp_gt hx hb hd.1 hd.2 (fun q => by have := kk H locs ls hP hS hl; rwa [if_pos (by simpa [iv_c2] using q)] at this) (fun q => by have := kk H locs ls hP hS hl; rwa [if_neg (by simpa [iv_c2] using q)] at this)
      · exact lv_icmp_le hx hb hd.1 hd.2 (fun q => by have := kk H locs ls hP hS hl; rwa [if_pos (by simpa [iv_c2] using q)] at this) (fun q => by have := kk H locs ls hP hS hl; rwa [if_neg (by simpa [iv_c2] using q)] at this)
    · cases h
  case tableswitch dflt lo hi offs =>
    simp only [iv_step] at h
    split at h
    · next y r e0 =>
      split at h
      · next t e1 =>
        simp only [Option.some.injEq, Prod.mk.injEq] at h
        obtain ⟨rfl, rfl, rfl, rfl⟩ := h
        rw [iv_p1_eq e0]
        unfold iv_sw at e1
        split at e1
        · next hq =>
          split at e1
          · cases e1
          · next h0 =>
            cases e1
            exact lv_tableOut hx hb hd.1 hq (by omega) (kk H locs ls hP hS hl)
        · next hq =>
          split at e1
          · cases e1
          · next off ho =>
            split at e1
            · cases e1
            · next h0 =>
              cases e1
              exact lv_tableIn hx hb hd.1 (fun z => hq (Or.inl z)) (fun z => hq (Or.inr z)) ho (by omega) (kk H locs ls hP hS hl)
      · cases h
    · cases h
  case getfield n =>
    simp only [iv_step] at h
    split at h
    · next a r e0 =>
      split at h
      · next fs e1 =>
        split at h
        · next v e2 =>
          simp only [Option.some.injEq, Prod.mk.injEq] at h
          obtain ⟨rfl, rfl, rfl, rfl⟩ := h
          rw [iv_pr_eq e0]
          obtain ⟨k, rfl, hw⟩ := iv_obj_eq e1
          obtain ⟨C, T, N, f1, f2, f3, f4, f5, -⟩ := hd.2
          exact va_get (D := D) (cl := iv_cl) (ref := C) hx hb hts f4 hown hK hP k (iv_ws_at hw) f1 (x % 100) f2 (hts _ f5) (fun q hq => by rw [f3] at hq; exact hq) (v := iv_v sz b v) (by rw [List.getElem?_map, e2]; rfl) hd.1 (kk H locs ls hP hS hl)
        · cases h
      · cases h
    · cases h
  case putfield n =>
    simp only [iv_step] at h
    split at h
    · next v a r e0 =>
      split at h
      · next fs e1 =>
        split at h
        · next hv =>
          simp only [Option.some.injEq, Prod.mk.injEq] at h
          obtain ⟨rfl, rfl, rfl, rfl⟩ := h
          rw [iv_pvr_eq e0]
          obtain ⟨k, rfl, hw⟩ := iv_obj_eq e1
          obtain ⟨C, T, N, f1, f2, f3, f4, f5, f6, f7, f8⟩ := hd.2
          obtain ⟨g1, g2⟩ := iv_fit_ok (sz := sz) (b := b) hv.2
          have hset : (fs.map (iv_v sz b)).set (x % 100) (iv_v sz b v) = (fs.set (x % 100) v).map (iv_v sz b) := by rw [List.map_set]
          have fin : ∀ (H1 : Heap) (locs1 : List Loc), va_P D iv_cl ((iv_ws sz b tc w).set k (sz + k, .inr (x / 100, (fs.map (iv_v sz b)).set (x % 100) (iv_v sz b v)))) H1 → va_D (iv_A sz) ((iv_ws sz b tc w).set k (sz + k, .inr (x / 100, (fs.map (iv_v sz b)).set (x % 100) (iv_v sz b v)))) → va_S (iv_A sz) s.heap H1 locs1 → W p l e R s m args below meth c H1 locs1 cells slots Q (F0 m (pc + 3) ls (r.map (iv_v sz b))) := by
            intro H1 locs1 q1 q2 q3
            rw [hset] at q1
            refine kk H1 locs1 ls ?_ q3 hl
            have q4 := q1
            rw [show ((sz + k, Sum.inr (x / 100, (fs.set (x % 100) v).map (iv_v sz b))) : Nat × va_E) = (sz + k, iv_e sz b tc (.inr (x / 100, fs.set (x % 100) v))) from rfl, iv_ws_set] at q4
            exact q4
          rcases f8 with f8 | ⟨f8, f9, f10⟩
          · exact va_put (D := D) (cl := iv_cl) (ref := C) hx hb hts f4 (iv_ty (x / 100)) f6 f7 hown hK hP iv_D hS k (iv_ws_at hw) f1 (x % 100) f2 (hts _ f5) (fun q hq => by rw [f3] at hq; exact hq) f8 (f6 _ f2) g1 g2 (by rw [List.length_map]; exact hv.1) hd.1 fin
          · exact va_putF (D := D) (cl := iv_cl) (ref := C) hx hb hts f4 (iv_ty (x / 100)) f6 f7 hown hK hP iv_D hS k (iv_ws_at hw) f1 (x % 100) f2 (hts _ f5) (fun q hq => by rw [f3] at hq; exact hq) f8 (hname.trans f9) f10 (f6 _ f2) g1 g2 (by rw [List.length_map]; exact hv.1) hd.1 fin
        · cases h
      · cases h
    · cases h
  case arraylength =>
    simp only [iv_step] at h
    split at h
    · next a r e0 =>
      split at h
      · next ha =>
        subst ha
        simp only [Option.some.injEq, Prod.mk.injEq] at h
        obtain ⟨rfl, rfl, rfl, rfl⟩ := h
        rw [iv_pr_eq e0]
        exact va_slen hx hb hX (Nat.lt_of_lt_of_le hbz hz0) (fun q => absurd hbz (Nat.not_lt.mpr q)) hS hd.1 (kk H locs ls hP hS hl)
      · split at h
        · next t n e1 =>
          simp only [Option.some.injEq, Prod.mk.injEq] at h
          obtain ⟨rfl, rfl, rfl, rfl⟩ := h
          rw [iv_pr_eq e0]
          obtain ⟨k, x2, rfl, hw, hn, ht⟩ := iv_len_eq e1
          obtain ⟨ty, hty⟩ := iv_tys_at tc ht
          have hn2 : (iv_a sz b x2).1 = n := by
            rw [← hn]
            obtain ⟨n2, f | f | f | f | f⟩ := x2 <;> rfl
          exact va_alen hx hb hK hP k t (iv_ws_at hw) hty (by rw [hn2]) hd.1 (kk H locs ls hP hS hl)
        · cases h
    · cases h
  case iaload =>
    simp only [iv_step] at h
    split at h
    · next j a r e0 =>
      split at h
      · next ha =>
        subst ha
        split at h
        · next hj =>
          simp only [Option.some.injEq, Prod.mk.injEq] at h
          obtain ⟨rfl, rfl, rfl, rfl⟩ := h
          rw [iv_pir_eq e0]
          exact va_sld hx hb hX (Nat.lt_of_lt_of_le hbz hz0) (fun q => absurd hbz (Nat.not_lt.mpr q)) hS (iv_in_ok hj) hd.1 (kk H locs ls hP hS hl)
        · cases h
      · split at h
        · next n f e1 =>
          split at h
          · next hj =>
            simp only [Option.some.injEq, Prod.mk.injEq] at h
            obtain ⟨rfl, rfl, rfl, rfl⟩ := h
            rw [iv_pir_eq e0]
            obtain ⟨k, rfl, hw⟩ := iv_ai_eq e1
            exact va_iald hx hb hK hP k 0 (iv_ws_at hw) rfl (iv_in_ok hj) hd.1 (kk H locs ls hP hS hl)
          · cases h
        · cases h
    · cases h
  case baload =>
    simp only [iv_step] at h
    split at h
    · next j a r e0 =>
      split at h
      · next n f e1 =>
        split at h
        · next hj =>
          simp only [Option.some.injEq, Prod.mk.injEq] at h
          obtain ⟨rfl, rfl, rfl, rfl⟩ := h
          rw [iv_pir_eq e0]
          obtain ⟨k, rfl, hw⟩ := iv_ai_eq e1
          exact va_zald hx hb hK hP k 1 (iv_ws_at hw) rfl (iv_in_ok hj) hd.1 (kk H locs ls hP hS hl)
        · cases h
      · cases h
    · cases h
  case laload =>
    simp only [iv_step] at h
    split at h
    · next j a r e0 =>
      split at h
      · next n f e1 =>
        split at h
        · next hj =>
          simp only [Option.some.injEq, Prod.mk.injEq] at h
          obtain ⟨rfl, rfl, rfl, rfl⟩ := h
          rw [iv_pir_eq e0]
          obtain ⟨k, rfl, hw⟩ := iv_al_eq e1
          exact va_lald hx hb hK hP k 2 (iv_ws_at hw) rfl (iv_in_ok hj) hd.1 (kk H locs ls hP hS hl)
        · cases h
      · cases h
    · cases h
  case aaload =>
    simp only [iv_step] at h
    split at h
    · next j a r e0 =>
      split at h
      · next n f e1 =>
        split at h
        · next hj =>
          split at h
          · next q e2 =>
            simp only [Option.some.injEq, Prod.mk.injEq] at h
            obtain ⟨rfl, rfl, rfl, rfl⟩ := h
            rw [iv_pir_eq e0]
            obtain ⟨k, rfl, hw⟩ := iv_aq_eq e1
            refine va_aldq hx hb hK hP k 3 (iv_ws_at hw) rfl (iv_in_ok hj) hd.1 ?_
            rw [e2]
            exact kk H locs ls hP hS hl
          · cases h
        · cases h
      · cases h
    · cases h
  case iastore =>
    simp only [iv_step] at h
    split at h
    · next v j a r e0 =>
      split at h
      · next n f e1 =>
        split at h
        · next hj =>
          simp only [Option.some.injEq, Prod.mk.injEq] at h
          obtain ⟨rfl, rfl, rfl, rfl⟩ := h
          rw [iv_piir_eq e0]
          obtain ⟨k, rfl, hw⟩ := iv_ai_eq e1
          refine va_iast hx hb hK hP iv_D hS k 0 (iv_ws_at hw) rfl (iv_in_ok hj) hd.1 (fun H1 locs1 q1 q2 q3 => kk H1 locs1 ls ?_ q3 hl)
          rw [← iv_ws_set]
          exact q1
        · cases h
      · cases h
    · cases h
  case bastore =>
    simp only [iv_step] at h
    split at h
    · next v j a r e0 =>
      split at h
      · next n f e1 =>
        split at h
        · next hj =>
          simp only [Option.some.injEq, Prod.mk.injEq] at h
          obtain ⟨rfl, rfl, rfl, rfl⟩ := h
          rw [iv_piir_eq e0]
          obtain ⟨k, rfl, hw⟩ := iv_ai_eq e1
          refine va_zast hx hb hK hP iv_D hS k 1 (iv_ws_at hw) rfl (iv_in_ok hj) hd.1 (fun H1 locs1 q1 q2 q3 => kk H1 locs1 ls ?_ q3 hl)
          rw [← iv_ws_set]
          exact q1
        · cases h
      · cases h
    · cases h
  case lastore =>
    simp only [iv_step] at h
    split at h
    · next v j a r e0 =>
      split at h
      · next n f e1 =>
        split at h
        · next hj =>
          simp only [Option.some.injEq, Prod.mk.injEq] at h
          obtain ⟨rfl, rfl, rfl, rfl⟩ := h
          rw [iv_plir_eq e0]
          obtain ⟨k, rfl, hw⟩ := iv_al_eq e1
          refine va_last hx hb hK hP iv_D hS k 2 (iv_ws_at hw) rfl (iv_in_ok hj) hd.1 (fun H1 locs1 q1 q2 q3 => kk H1 locs1 ls ?_ q3 hl)
          rw [← iv_ws_set]
          exact q1
        · cases h
      · cases h
    · cases h
  case aastore =>
    simp only [iv_step] at h
    split at h
    · next v j a r e0 =>
      split at h
      · next n f e1 =>
        split at h
        · next hj =>
          simp only [Option.some.injEq, Prod.mk.injEq] at h
          obtain ⟨rfl, rfl, rfl, rfl⟩ := h
          rw [iv_prir_eq e0]
          obtain ⟨k, rfl, hw⟩ := iv_aq_eq e1
          obtain ⟨fs, hfs⟩ := Option.isSome_iff_exists.mp hj.2
          obtain ⟨k2, rfl, hw2⟩ := iv_obj_eq hfs
          refine va_astq hx hb hK hP iv_D hS k 3 k2 iv_fo (iv_ws_at hw) (iv_fo_ty tc) (iv_ws_at hw2) iv_fo_cl (iv_in_ok hj.1) hd.1 (fun H1 locs1 q1 q2 q3 => kk H1 locs1 ls ?_ q3 hl)
          rw [← iv_ws_set]
          have e9 : (va_up (fun q => (f q).map (iv_ad sz b)) j.toNatClampNeg (some (iv_ad sz b (k2 + 1)))) = (fun q => (va_up f j.toNatClampNeg (some (k2 + 1)) q).map (iv_ad sz b)) := by
            funext q
            unfold va_up
            split <;> rfl
          have q4 := q1
          show va_P D iv_cl ((iv_ws sz b tc w).set k (sz + k, .inl (tc 3, n, .inr (.inr (.inr (.inr (fun q => (va_up f j.toNatClampNeg (some (k2 + 1)) q).map (iv_ad sz b)))))))) H1
          rw [← e9]
          exact q4
        · cases h
      · cases h
    · cases h
  all_goals (simp only [iv_step] at h; cases h)
end
end
section
/-! a run of the machine: fuel, depth of calls left, method, pc, locals, stack, world, whether every new cell is the world's, cells and slots made -/
abbrev iv_O : Type := (Option Value ⊕ Nat) × iv_W × Bool × Nat × Nat
def iv_kd (i : Instr) (x : Nat) : Nat := match i with
  | .ireturn | .areturn | .return_ => 1
  | .new _ => if 1000 ≤ x then 2 else 3
  | .newarray _ | .anewarray _ => 3
  | .invokevirtual _ | .invokestatic _ | .invokespecial _ => if 6000 ≤ x then 4 else 5
  | _ => 0
def iv_ret (ret : Option FieldType) (i : Instr) (st : List Value) : Option (Option Value) := match i, ret, st with
  | .return_, none, [] => some none
  | .ireturn, some .int, [.int v] => some (some (.int v))
  | .ireturn, some .boolean, [.int v] => if v = 0 ∨ v = 1 then some (some (.int v)) else none
  | .areturn, some (.object _), [.ref a] => some (some (.ref a))
  | .areturn, some (.array _), [.ref a] => some (some (.ref a))
  | _, _, _ => none
/-- a new cell: its picture, the stack below, its slots, the instruction's length -/
def iv_new (i : Instr) (x : Nat) (st : List Value) : Option (iv_E × List Value × Nat × Nat) := match i with
  | .new _ => some (.inr (x, iv_f0 x), st, iv_N x, 3)
  | .newarray t => match iv_p1 st with
    | some (n, r) => if n < 0 ∨ 100000 < n.toNatClampNeg then none else (match t with
      | .int => some (.inl (0, n.toNatClampNeg, .inl (fun _ => 0)), r, n.toNatClampNeg, 2)
      | .boolean => some (.inl (1, n.toNatClampNeg, .inl (fun _ => 0)), r, n.toNatClampNeg, 2)
      | .long => some (.inl (2, n.toNatClampNeg, .inr (.inl (fun _ => 0))), r, n.toNatClampNeg, 2)
      | _ => none)
    | none => none
  | .anewarray _ => match iv_p1 st with
    | some (n, r) => if n < 0 ∨ 100000 < n.toNatClampNeg then none else some (.inl (3, n.toNatClampNeg, .inr (.inr (.inr (.inr (fun _ => none))))), r, n.toNatClampNeg, 3)
    | none => none
  | _ => none
def iv_cp (st : List Value) : Option (Int32 × Int32 × Nat × Int32 × Nat × List Value) := match st with
  | .int n :: .int dp :: .ref a :: .int sp :: .ref a0 :: r => some (n, dp, a, sp, a0, r)
  | _ => none
/-- Object's constructor (6000), Math.max (7000), Math.min (8000), System.arraycopy of ints (9000) -/
def iv_lib (x : Nat) (st : List Value) (w : iv_W) : Option (List Value × iv_W) := match x with
  | 6000 => match iv_pr st with
    | some (a, r) => if (r.map fun v => v.category).sum ≤ 8 then some (r, w) else none
    | none => none
  | 7000 => match iv_p2 st with
    | some (y, z, r) => if (r.map fun v => v.category).sum ≤ 8 then some (.int (if y < z then z else y) :: r, w) else none
    | none => none
  | 8000 => match iv_p2 st with
    | some (y, z, r) => if (r.map fun v => v.category).sum ≤ 8 then some (.int (if z < y then z else y) :: r, w) else none
    | none => none
  | 9000 => match iv_cp st with
    | some (n, dp, a, sp, a0, r) => match iv_ai w a0 0, iv_ai w a 0 with
      | some (n0, f), some (n1, g) => if (r.map fun v => v.category).sum ≤ 8 ∧ ¬ sp < 0 ∧ ¬ dp < 0 ∧ ¬ n < 0 ∧ sp.toNatClampNeg + n.toNatClampNeg ≤ n0 ∧ dp.toNatClampNeg + n.toNatClampNeg ≤ n1 then
          some (r, w.set (a - 1) (.inl (0, n1, .inl (va_cpy f g sp.toNatClampNeg dp.toNatClampNeg n.toNatClampNeg)))) else none
      | _, _ => none
    | none => none
  | _ => none
/-- the handler: from, to, behind its store, the class caught, the local -/
def iv_hd (hs : List (Nat × Nat × Nat × Nat × Nat)) (pc q : Nat) : Option (Nat × Nat) := match hs with
  | [] => none
  | h :: r => if h.1 ≤ pc ∧ pc < h.2.1 ∧ h.2.2.2.1 = q then some (h.2.2.1, h.2.2.2.2) else iv_hd r pc q
def iv_cv (np kind : Nat) : Nat := if kind = 2 ∨ kind = 3 then np else np + 1
def iv_rc (w : iv_W) (kind μ : Nat) (as : List Value) : Bool := decide ((as.map fun v => v.category).sum ≤ iv_L μ) && (match kind, as with
  | 0, .ref a :: _ => (iv_obj w a (iv_cn μ)).isSome
  | 1, .ref a :: _ => (iv_obj w a (iv_cn μ)).isSome
  | 2, _ => true
  | 3, _ => true
  | 4, .ref _ :: _ => true
  | 5, .ref _ :: _ => true
  | _, _ => false)
def iv_run (L : Nat) (xs : Nat → Int32) : Nat → Nat → Nat → Nat → List (Nat × Value) → List Value → iv_W → Bool → Nat → Nat → Option iv_O
  | 0, _, _, _, _, _, _, _, _, _ => none
  | n + 1, d, μ, pc, lv, st, w, tg, k, z => match iv_look (iv_t μ) pc with
    | none => none
    | some (i, x) => match iv_kd i x with
      | 0 => match iv_step L xs μ i x pc lv st w with
        | none => none
        | some (pc2, lv2, st2, w2) => iv_run L xs n d μ pc2 lv2 st2 w2 tg k z
      | 1 => match iv_ret (iv_r μ) i st with
        | none => none
        | some v => some (.inl v, w, tg, k, z)
      | 2 => if (st.map fun v => v.category).sum ≤ 8 ∧ x < 1003 then some (.inr (x - 1000), w, false, k + 1, z + iv_xN) else none
      | 3 => if tg = true then (match iv_new i x st with
        | none => none
        | some (y, r, a, len) => iv_run L xs n d μ (pc + len) lv (.ref (w.length + 1) :: r) (w ++ [y]) true (k + 1) (z + a)) else none
      | 4 => match iv_lib x st w with
        | none => none
        | some (st2, w2) => iv_run L xs n d μ (pc + 3) lv st2 w2 tg k z
      | _ => match d with
        | 0 => none
        | d2 + 1 => if (st.take (iv_cv (iv_np (x % 1000)) (x / 1000))).length = iv_cv (iv_np (x % 1000)) (x / 1000) ∧ ((st.drop (iv_cv (iv_np (x % 1000)) (x / 1000))).map fun v => v.category).sum ≤ 8 ∧ iv_rc w (x / 1000) (x % 1000) (st.take (iv_cv (iv_np (x % 1000)) (x / 1000))).reverse = true then
          (match iv_run L xs n d2 (x % 1000) 0 (lv_args 0 (st.take (iv_cv (iv_np (x % 1000)) (x / 1000))).reverse) [] w tg 0 0 with
          | none => none
          | some (.inl v, w2, tg2, k2, z2) => iv_run L xs n (d2 + 1) μ (pc + 3) lv (v.toList ++ st.drop (iv_cv (iv_np (x % 1000)) (x / 1000))) w2 tg2 (k + k2) (z + z2)
          | some (.inr q, w2, tg2, k2, z2) => if x / 1000 < 2 then (match iv_hd (iv_h μ) pc q with
            | none => if (iv_h μ).isEmpty = true then some (.inr q, w2, tg2, k + k2, z + z2) else none
            | some (pc2, j) => iv_run L xs n (d2 + 1) μ pc2 (iv_no lv j) [] w2 tg2 (k + k2) (z + z2)) else none) else none
theorem iv_step_len {L : Nat} {xs : Nat → Int32} {μ : Nat} {i : Instr} {x pc : Nat} {lv : List (Nat × Value)} {st : List Value} {w : iv_W} {pc2 : Nat} {lv2 : List (Nat × Value)} {st2 : List Value} {w2 : iv_W} (h : iv_step L xs μ i x pc lv st w = some (pc2, lv2, st2, w2)) : w2.length = w.length := by
  unfold iv_step at h
  repeat' split at h
  all_goals first | (cases h; done) | (simp only [Option.some.injEq, Prod.mk.injEq] at h; obtain ⟨-, -, -, rfl⟩ := h; first | rfl | rw [List.length_set])
theorem iv_lib_len {x : Nat} {st : List Value} {w : iv_W} {st2 : List Value} {w2 : iv_W} (h : iv_lib x st w = some (st2, w2)) : w2.length = w.length := by
  unfold iv_lib at h
  repeat' split at h
  all_goals first | (cases h; done) | (simp only [Option.some.injEq, Prod.mk.injEq] at h; obtain ⟨-, rfl⟩ := h; first | rfl | rw [List.length_set])
theorem iv_run_mono {L : Nat} {xs : Nat → Int32} : ∀ (n d μ pc : Nat) (lv : List (Nat × Value)) (st : List Value) (w : iv_W) (tg : Bool) (k z : Nat) (o : Option Value ⊕ Nat) (w2 : iv_W) (tg2 : Bool) (k2 z2 : Nat), iv_run L xs n d μ pc lv st w tg k z = some (o, w2, tg2, k2, z2) →
    k ≤ k2 ∧ z ≤ z2 ∧ (tg2 = true → tg = true ∧ w2.length + k = w.length + k2)
  | 0, _, _, _, _, _, _, _, _, _, _, _, _, _, _, h => by simp [iv_run] at h
  | n + 1, d, μ, pc, lv, st, w, tg, k, z, o, w2, tg2, k2, z2, h => by
    unfold iv_run at h
    split at h
    · cases h
    · split at h
      · split at h
        · cases h
        · next e =>
          have h1 := iv_run_mono n _ _ _ _ _ _ _ _ _ _ _ _ _ _ h
          rw [iv_step_len e] at h1
          exact h1
      · split at h
        · cases h
        · cases h
          exact ⟨Nat.le_refl _, Nat.le_refl _, fun q => ⟨q, rfl⟩⟩
      · split at h
        · cases h
          exact ⟨by omega, by omega, fun q => by cases q⟩
        · cases h
      · split at h
        · next ht =>
          split at h
          · cases h
          · next e =>
            have h1 := iv_run_mono n _ _ _ _ _ _ _ _ _ _ _ _ _ _ h
            rw [List.length_append] at h1
            exact ⟨by omega, by omega, fun q => ⟨ht, by have := (h1.2.2 q).2; simp only [List.length_cons, List.length_nil] at this; omega⟩⟩
        · cases h
      · split at h
        · cases h
        · next e =>
          have h1 := iv_run_mono n _ _ _ _ _ _ _ _ _ _ _ _ _ _ h
          rw [iv_lib_len e] at h1
          exact h1
      · split at h
        · cases h
        · split at h
          · split at h
            · cases h
            · next e =>
              have h0 := iv_run_mono n _ _ _ _ _ _ _ _ _ _ _ _ _ _ e
              have h1 := iv_run_mono n _ _ _ _ _ _ _ _ _ _ _ _ _ _ h
              refine ⟨by omega, by omega, fun q => ?_⟩
              have h2 := h1.2.2 q
              have h3 := h0.2.2 h2.1
              exact ⟨h3.1, by omega⟩
            · next e =>
              have h0 := iv_run_mono n _ _ _ _ _ _ _ _ _ _ _ _ _ _ e
              split at h
              · split at h
                · split at h
                  · cases h
                    refine ⟨by omega, by omega, fun q => ?_⟩
                    have h3 := h0.2.2 q
                    exact ⟨h3.1, by omega⟩
                  · cases h
                · have h1 := iv_run_mono n _ _ _ _ _ _ _ _ _ _ _ _ _ _ h
                  refine ⟨by omega, by omega, fun q => ?_⟩
                  have h2 := h1.2.2 q
                  have h3 := h0.2.2 h2.1
                  exact ⟨h3.1, by omega⟩
              · cases h
          · cases h
end
section
/-! a callee that throws: its contract, and the call -/
def iv_MetT (l : Launch) (y : MethodName) (ws : List Cond) (rm : Room) (Pc : Array Value → State → Prop) (Qc : Array Value → State → Outcome → State → Prop) (mc ms : Nat) (free : Addr → Prop) : Prop :=
  MetFree l y (headSpec ws rm) Pc (fun _ _ _ _ _ => True) (fun a st o t => Qc a st o t ∧ (∃ x, o = .threw x) ∧ st.WarmedH t.vm ∧ ∃ L, st.sameButNew ({ t with vm := st.vm } : State) L mc ms ∧ ∀ q ∈ L, free q.base)
def iv_MT (below : List Frame) (Qc : Array Value → State → Outcome → State → Prop) (a : Array Value) (s : State) (mc ms : Nat) (free : Addr → Prop) : State → Prop := fun t =>
  ∃ x, t.status = .running ∧ Ended t below (.threw x) ∧ Qc a s (.threw x) t ∧ s.WarmedH t.vm ∧ ∃ L, s.sameButNew ({ t with vm := s.vm } : State) L mc ms ∧ ∀ q ∈ L, free q.base
theorem iv_MetT_of {l : Launch} {y : MethodName} {ws ws' : List Cond} {rm : Room} {Pc : Array Value → State → Prop} {Qc : Array Value → State → Outcome → State → Prop} {mc ms : Nat} {free : Addr → Prop} {cc : ByteArray} {maxL : Nat} {ret : Option FieldType}
    (hy : plainName y.cls = true) (hw : ws = Cond.code y cc maxL ret :: ws')
    (body : ∀ p e s m args below meth c s₁, BodyLoose p l y (headSpec ws rm) cc maxL ret e s m args below meth c s₁ → c.maxLocals = maxL → Pc args s →
      W p l e (headSpec ws rm).room s m args below meth c s.heap [] 0 0 (iv_MT below Qc args s mc ms free) (entryFrame m args maxL)) : iv_MetT l y ws rm Pc Qc mc ms free := by
  refine MetFree.of_bodyS (code := cc) (maxLocals := maxL) (ret := ret) hy ?_ ?_
  · intro args s m h hn
    obtain ⟨meth, c, h1, h2, h3, h4, h5, h6, -, -⟩ := Cond.code_spec hn (atoms_spec (ws := ws) h _ (by rw [hw]; exact List.mem_cons_self))
    exact ⟨meth, c, h1, h2, h3, h4, h5, h6⟩
  · intro p e s m args below meth c s₁ B hml hP _
    have hh0 : s₁.heap = s.heap := by rw [B.state]; rfl
    obtain ⟨t, a1, x, b1, b2, b3, b4, b5⟩ := body p e s m args below meth c s₁ B hml hP s₁ hh0 (Stand.of_body B)
    exact ⟨t, .threw x, a1, b1, b2, b3, ⟨x, rfl⟩, b4, b5⟩
section
variable {p : Program} {l : Launch} {e : Env} {R : Room} {s : State} {m : MethodId} {args : Array Value} {below : List Frame} {meth : Method} {c : Code} {U : State} {Ls : List Loc} {c0 s0 : Nat}
theorem iv_intoT (X : Stand p l e R s m args below meth c U Ls c0 s0) {g : JFrame} (hg : g.method = m) (hsize : g.locals.size = c.maxLocals) {ig : Instr} {len : Nat} (hdg : decode c.code g.pc = .ok (ig, len)) {y : MethodName} {mk : MethodId} {a : Array Value} (hn : U.methodNamed? y = some mk)
    {ws : List Cond} {rm : Room} {Pc : Array Value → State → Prop} {Qc : Array Value → State → Outcome → State → Prop} {mc ms : Nat} {free : Addr → Prop} {bytes : ByteArray} {maxL : Nat} {ret : Option FieldType}
    (hM : iv_MetT l y ws rm Pc Qc mc ms free) (hW : 2 * g.monitorRoom + (g.stack.map fun v => v.category).sum ≤ 8) (hframes : rm.frames + 1 ≤ R.frames) (hlocals : 8 + (maxL + 11) + rm.locals ≤ R.locals)
    (hpre : ∀ w ∈ ws, w.before a U = true) (hcode : (Cond.code y bytes maxL ret).before a U = true) (hini : (Cond.initialized y.cls).before a U = true) (hc : c0 + rm.cells ≤ R.cells) (hs : s0 + rm.slots ≤ R.slots) (hP : Pc a (U.calling g mk a)) :
    ∃ (x : Addr) (t : State) (L : List Loc) (T' : State), Stand p l e R s m args below meth c T' (Ls ++ L) (c0 + mc) (s0 + ms) ∧ (∀ q ∈ L, free q.base) ∧ T'.heap = t.heap ∧ T'.vm = t.vm ∧ Qc a (U.calling g mk a) (.threw x) t ∧
      Steps p.tables e below (doInvoke e (U.setTop g) [] mk a).1 ((T'.setTop g).pushFrame (.throwing x)) := by
  obtain ⟨methY, cY, hmY, hcY, -, hlY, -, -, -, -⟩ := Cond.code_spec hn hcode
  obtain ⟨kY, hkY, -⟩ := className_of_methodNamed hn
  have hinitY : kY.init = .initialized := Cond.initialized_spec (findClass_of_methodNamed hn) hkY hini
  have h : At U g.method c below := by rw [hg]; exact X.here
  have happ : (headSpec ws rm).appliesLoose y e.platform (U.calling g mk a) = true :=
    Spec.appliesLoose_calling (g := g) h hdg hn hkY hinitY
      (X.room_calling (g := g) (R' := (headSpec ws rm).room) hsize hmY hcY hframes (by rw [hlY]; show _ + (maxL + 11) + rm.locals ≤ _; omega) hc hs) (atoms_intro hpre)
  obtain ⟨mid, hmid⟩ := h.above
  have hfr : (U.setTop g).frames = (.java g :: mid) ++ below := by rw [State.frames_setTop' g h.top, hmid]; rfl
  obtain ⟨o, s₂, hsteps, -, hend, hq, ⟨x, rfl⟩, hWm, L, hsame, hL⟩ := Steps.callFree hM p X.admits X.cas X.clock (acts := []) hfr happ hP trivial
  rw [State.frames_setTop' g h.top, X.tail] at hend
  obtain ⟨T', X', -, -, ht⟩ := X.outOfThrown hg hend hWm hsame
  refine ⟨x, s₂, L, T', X', hL, ?_, ?_, hq, ?_⟩
  · rw [ht, Stand.throwing_heap]
  · rw [ht, Stand.throwing_vm]
  · rw [← ht]; exact hsteps
end
section
variable {p : Program} {l : Launch} {e : Env} {R : Room} {s : State} {m : MethodId} {args : Array Value} {below : List Frame} {meth : Method} {c : Code} {H : Heap} {locs : List Loc} {cells slots : Nat} {Q : State → Prop}
/-- a virtual call that throws; 'far': what the walk does with the thrown object -/
theorem iv_callVT {cc : ByteArray} {nL : Nat} (hx : p.tables.exec = Jvm.exec) (hb : c.code = cc) (hml : c.maxLocals = nL) {own C : String} {index n : Nat} {y : MethodName} {bytes : ByteArray} {maxL : Nat} {ret : Option FieldType}
    (hown : s.vm.findClass own = some m.cls) (hlink : (Cond.methodLink own index y).before args s = true ∨ ∃ host, (Cond.methodLinkNest own index y host).before args s = true) (hinst : (Cond.instanceMethod y).before args s = true) (hsel : (Cond.selects C y y).before args s = true)
    (hcode : (Cond.code y bytes maxL ret).before args s = true) (hy : y.cls ≠ "java/lang/invoke/MethodHandle" ∧ y.cls ≠ "java/lang/invoke/VarHandle")
    {ws : List Cond} {rm : Room} {Pc : Array Value → State → Prop} {Qc : Array Value → State → Outcome → State → Prop} {mc ms : Nat} {free : Addr → Prop} (hM : iv_MetT l y ws rm Pc Qc mc ms free) (hrc : rm.cells = mc) (hrs : rm.slots = ms)
    (hframes : rm.frames + 1 ≤ R.frames) (hlocals : 8 + (maxL + 11) + rm.locals ≤ R.locals) (hws : ∀ w ∈ ws, ∀ (a' : Array Value) (U : State), s.WarmedH U.vm → w.before a' U = true) (hcw : Cond.code y bytes maxL ret ∈ ws) (hini : ∀ (a' : Array Value) (U : State), s.WarmedH U.vm → (Cond.initialized y.cls).before a' U = true)
    {b : Addr} {As rest : List Value} (hp : PreV s H C b Pc As) (hn : As.length = n) (hlen : (parseMethodDescriptor y.desc).map (fun d => d.parameters.length) = some n)
    {pc : Nat} {ls : Array Slot} (hsize : ls.size = nL) (hW : (rest.map fun v => v.category).sum ≤ 8) (hdg : decode cc pc = .ok (.invokevirtual index, 3)) (hf : cells + mc ≤ R.cells ∧ slots + ms ≤ R.slots)
    (far : ∀ (x : Addr) (t T' st₀ : State) (L : List Loc), st₀.heap = H → (∀ q ∈ L, free q.base) → T'.heap = t.heap → T'.vm = t.vm → Qc (Value.ref b :: As).toArray st₀ (.threw x) t → Stand p l e R s m args below meth c T' (locs ++ L) (cells + mc) (slots + ms) →
      ∃ t', Steps p.tables e below ((T'.setTop (F0 m pc ls rest)).pushFrame (.throwing x)) t' ∧ Q t') :
    W p l e R s m args below meth c H locs cells slots Q (F0 m pc ls (As.reverse ++ .ref b :: rest)) := by
  obtain ⟨hblind, ⟨cellB, hcB, hoB, hclB⟩, hPc⟩ := hp
  intro T hT X
  obtain ⟨mk, methM, hnamed, hmethM, hstM, habM⟩ := Cond.instanceMethod_spec hinst
  obtain ⟨methM', cM, hmethM', -, -, -, -, -, -, hsigM⟩ := Cond.code_spec hnamed hcode
  cases hmethM.symm.trans hmethM'
  obtain ⟨c2, r2, m2, q1, q2, q3, q4, kP, hkP, hkPi⟩ := Cond.selects_spec hsel
  cases hclB.symm.trans q1
  cases (State.methodFound?_of_named hnamed hy).symm.trans q2
  cases hnamed.symm.trans q3
  have hselP : selectMethod e.platform s.vm cellB.cls mk = .method mk := by rw [Launch.admits_selectMethod X.admits]; exact q4
  have hlen' : As.length = methM.sig.parameters.length := by
    rw [hsigM] at hlen
    exact hn.trans (Option.some.inj hlen).symm
  have hstep : ∃ vm₁, Stand p l e R s m args below meth c (T.setVm vm₁) locs cells slots ∧ ∀ target, (∀ acts, Steps p.tables e below (doInvoke e ((T.setVm vm₁).setTop (F0 m pc ls rest)) acts mk (Value.ref b :: As).toArray).1 target) → Steps p.tables e below (T.setTop (F0 m pc ls (As.reverse ++ .ref b :: rest))) target := by
    rcases hlink with hlink | ⟨host, hlink⟩
    · obtain ⟨vm₁, X₁, h₁⟩ := X.invokevirtual hx hown hlink hnamed hmethM hstM hkP hkPi hy (a := b) (cell := cellB) (by rw [hT]; exact hcB)
        (fun z h => by rw [h] at hoB; cases hoB) hselP hmethM habM hkP hkPi (g := F0 m pc ls (As.reverse ++ .ref b :: rest)) rfl (argsL := As) (rest := rest) hlen' rfl (by rw [hb]; exact hdg)
      exact ⟨vm₁, X₁, h₁⟩
    · obtain ⟨vm₁, X₁, h₁⟩ := X.invokevirtualNest hx hown hlink hnamed hmethM hstM hkP hkPi hy (a := b) (cell := cellB) (by rw [hT]; exact hcB)
        (fun z h => by rw [h] at hoB; cases hoB) hselP hmethM habM hkP hkPi (g := F0 m pc ls (As.reverse ++ .ref b :: rest)) rfl (argsL := As) (rest := rest) hlen' rfl (by rw [hb]; exact hdg)
      exact ⟨vm₁, X₁, h₁⟩
  obtain ⟨vm₁, X₁, h₁⟩ := hstep
  obtain ⟨x, t, L, T', X', hL, e1, e2, hq, st⟩ := iv_intoT X₁ (g := F0 m pc ls rest) rfl (by rw [hml]; exact hsize) (by rw [hb]; exact hdg) (X₁.named hnamed) hM (by show 2 * 0 + (rest.map fun v => v.category).sum ≤ 8; omega) hframes hlocals
    (fun w hw => hws w hw _ _ X₁.warmed) (hws _ hcw _ _ X₁.warmed) (hini _ _ X₁.warmed) (by rw [hrc]; exact hf.1) (by rw [hrs]; exact hf.2) (hblind _ _ _ _ (hPc (T.setVm vm₁) hT X₁.warmed))
  obtain ⟨t', a1, b1⟩ := far x t T' _ L (show ((T.setVm vm₁).calling (F0 m pc ls rest) mk (Value.ref b :: As).toArray).heap = H from hT) hL e1 e2 hq X'
  exact ⟨t', h₁ _ (fun acts => by rw [doInvoke_state]; exact st.trans a1), b1⟩
end
end
section
/-! throwing: 'throw new X()' for three classes X of the JDK, without stack traces -/
def iv_Ln (l : Launch) : Prop := l.flags = flags0
theorem iv_htr {l : Launch} {e : Env} (h : iv_Ln l) (ha : l.admits e) : e.platform.stackTraces = false := by
  have h1 := ha.2.2.2.2.1
  have h2 : e.platform.stackTraces = l.stackTraces := by rw [h1]
  rw [h2]
  unfold Launch.stackTraces
  rw [show l.flags = flags0 from h]
  decide +kernel
def iv_tn : String := "java/lang/Throwable"
/-- a static of Throwable that holds a reference or null; its cell lies below sz -/
def iv_Zs (sz : Nat) (n d : String) (U : State) : Prop := ∃ (c : ClassId) (k : Class) (i : Nat) (f : Field) (a : Nat) (cell : Cell) (v : Value), U.vm.findClass iv_tn = some c ∧ U.fieldFound? iv_tn n d = some (c, k, i, f) ∧ f.isStatic = true ∧ k.statics = some a ∧ a < sz ∧ U.heap[a]? = some cell ∧ cell.vm.isStatics = true ∧ cell.cls = c ∧
  f.slot < cell.slots.size ∧ k.staticTypes[f.slot]? = some f.type ∧ cell.slots[f.slot]? = some v ∧ (v = .null ∨ ∃ t, v = .ref t)
theorem iv_Zs_moved {sz : Nat} {n d : String} {s U : State} (h : iv_Zs sz n d s) (hW : s.WarmedH U.vm) (hq : ∀ q, q < sz → U.heap[q]? = s.heap[q]?) : iv_Zs sz n d U := by
  obtain ⟨c, k, i, f, a, cell, v, h1, h2, h3, h4, h5, h6, h7, h8, h9, h10, h11, h12⟩ := h
  have hvm := hW.alike
  obtain ⟨k', hi', he⟩ := State.fieldFound?_setVm hvm h2
  exact ⟨c, k', i, f, a, cell, v, by rw [hvm.findClass]; exact h1, hi', h3, by rw [he]; exact h4, h5, by rw [hq a h5]; exact h6, h7, h8, h9, by rw [he]; exact h10, h11, h12⟩
theorem iv_Zs_lays {sz : Nat} {n d : String} {U : State} {args : Array Value} (h : iv_Zs sz n d U) : (Cond.laysStatic iv_tn n d).before args U = true := by
  obtain ⟨c, k, i, f, a, cell, v, h1, h2, h3, h4, h5, h6, h7, h8, h9, h10, h11, h12⟩ := h
  simp [Cond.before, Cond.holds, Cond.value, h1, h2, h3, h4, h6, h7, h8, h9, h10]
theorem iv_Zs_ref {sz : Nat} {n d : String} {U : State} {args : Array Value} (h : iv_Zs sz n d U) : (Cond.isRef (.static iv_tn n d)).before args U = true := by
  obtain ⟨c, k, i, f, a, cell, v, h1, h2, h3, h4, h5, h6, h7, h8, h9, h10, h11, h12⟩ := h
  rcases h12 with rfl | ⟨t, rfl⟩ <;> simp [Cond.before, Cond.holds, Cond.value, Term.eval, State.fieldNamed?, h2, h3, h4, h6, h7, h11]
theorem iv_Zs_of {sz : Nat} {n d : String} {s : State} {args : Array Value} (hl : (Cond.laysStatic iv_tn n d).before args s = true) (hr : (Cond.isRef (.static iv_tn n d)).before args s = true) (hz : s.heap.size ≤ sz) : iv_Zs sz n d s := by
  obtain ⟨c, k, i, f, a, cell, h1, h2, h3, h4, h5, h6, h7, h8, h9⟩ := Cond.laysStatic_spec hl
  obtain ⟨u, hu⟩ := Cond.staticRefV h2 h3 h4 h5 h6 hr
  refine ⟨c, k, i, f, a, cell, u.v, h1, h2, h3, h4, Nat.lt_of_lt_of_le (Array.getElem?_eq_some_iff.mp h5).1 hz, h5, h6, h7, h8, h9, hu, ?_⟩
  obtain ⟨v, hv⟩ := u
  cases v <;> first | exact Or.inl rfl | exact Or.inr ⟨_, rfl⟩ | (simp [Value.isRef] at hv)
def iv_i0 (X : String) : MethodName := ⟨X, "<init>", "()V"⟩
def iv_Th (sz : Nat) (U : State) : Prop := iv_Zs sz "UNASSIGNED_STACK" "[Ljava/lang/StackTraceElement;" U ∧ iv_Zs sz "SUPPRESSED_SENTINEL" "Ljava/util/List;" U ∧
  va_Nw (.declares (iv_i0 "java/lang/RuntimeException")) U ∧ va_Nw (.declares (iv_i0 "java/lang/Exception")) U ∧ va_Nw (.declares (iv_i0 iv_tn)) U ∧
  (∀ q, q < 3 → va_Nw (.castable (iv_xnm q) (iv_xnm q)) U) ∧ ∀ q r, q < 3 → r < 3 → q ≠ r → va_Nc (iv_xnm q) (iv_xnm r) U
theorem iv_Th_moved {sz : Nat} {s U : State} (h : iv_Th sz s) (hW : s.WarmedH U.vm) (hq : ∀ q, q < sz → U.heap[q]? = s.heap[q]?) : iv_Th sz U := by
  obtain ⟨h1, h2, h3, h4, h5, h6, h7⟩ := h
  exact ⟨iv_Zs_moved h1 hW hq, iv_Zs_moved h2 hW hq, va_Nw.warmD hW h3, va_Nw.warmD hW h4, va_Nw.warmD hW h5, fun q hq => va_Nw.warmC hW (h6 q hq), fun q r a b c => va_Nc.moved hW.alike (h7 q r a b c)⟩
section
variable {p : Program} {l : Launch} {e : Env} {R : Room} {s : State} {m₀ : MethodId} {args : Array Value} {below : List Frame} {meth : Method} {c : Code} {W : State} {locs : List Loc} {cells slots : Nat}
set_option maxHeartbeats 1000000 in
/-- the constructor and the throw of a new exception; what was written lies at sz or above, the statics below -/
theorem iv_ctor (X : Stand p l e R s m₀ args below meth c W locs cells slots) (hexec : p.tables.exec = Jvm.exec) (htr : e.platform.stackTraces = false) {own cls : String} {names : List String} {ic : Nat}
    (hown : s.vm.findClass own = some m₀.cls) (hcls : Bundle.fit cls = true) (hnames : ∀ n ∈ names, Bundle.fit n = true)
    (h : ∀ a ∈ Bundle.ownAtoms0 own ic cls names, a.before args s = true) {sz : Nat} (hlocs : ∀ x ∈ locs, sz ≤ x.base) (hZ : iv_Zs sz "UNASSIGNED_STACK" "[Ljava/lang/StackTraceElement;" s)
    {a : Addr} {cX : ClassId} {kX : Class} (hfoundX : s.vm.findClass cls = some cX) (hkX : s.vm.classes[cX]? = some kX) (hcell : W.heap[a]? = some (freshCell cX kX)) (hnew : s.heap.size ≤ a)
    {g : JFrame} (hg : g.method = m₀) (hsize : g.locals.size = c.maxLocals) (hlocked : g.locked = none) (hentered : g.entered = []) {rest : List Value} (hstack : g.stack = .ref a :: .ref a :: rest)
    (hd6 : decode c.code g.pc = .ok (.invokespecial ic, 3)) (hd9 : decode c.code (g.pc + 3) = .ok (.athrow, 1)) (hout : ∀ x ∈ c.exceptionTable.toList, covers x (g.pc + 3) = false)
    (hRframes : names.length + 3 < R.frames) (hRlocals : 2 * g.monitorRoom + ((Value.ref a :: rest).map fun v => v.category).sum + (13 * (names.length + 1) + 41) ≤ R.locals) (hlocks : meth.locks = false) :
    ∃ U : State, Steps p.tables e below (W.setTop g) U ∧ U.status = .running ∧ Ended U below (.threw a) ∧ s.WarmedH U.vm ∧ s.sameButNew ({ U with vm := s.vm } : State) locs cells slots ∧
      (∃ ce : Cell, U.heap[a]? = some ce ∧ ce.cls = cX ∧ ce.vm = .none) ∧ U.heap.size = W.heap.size ∧ ∀ q, q ≠ a → U.heap[q]? = W.heap[q]? := by
  have howns : e.platform.frameOwnsMonitors = true := by rw [X.admits.platform]
  have hfin : e.platform.finalization = false := by rw [X.admits.platform]
  have hpl : e.platform.magicAccessors = ({} : Platform).magicAccessors := by rw [X.admits.platform]
  have a' : ∀ x, x ∈ Bundle.ownAtoms0 own ic cls names → x.holds args s none s [] = true := fun x hx => h x hx
  obtain ⟨T, Z, L, LZ, Y⟩ := ThrowableC.of_atoms (args := args) howns hfin hpl (fun x hx => h x (by simp [Bundle.ownAtoms0, hx]))
  obtain ⟨P1, Ps, hlen, L1, hL, hP1m, hlink1, hlink⟩ := Bundle.chain0 (args := args) hpl Y.init0 names cls hcls hnames (fun x hx => h x (by simp [Bundle.ownAtoms0, hx]))
  have hfound : s.vm.findClass cls = some P1.m.cls := findClass_of_methodNamed hP1m
  cases Option.some.inj (hfoundX.symm.trans hfound)
  obtain ⟨c1, kX', hc1, hk, hord, -, -, hn6⟩ := Cond.instantiable_spec (a' (.instantiable cls 6) (by simp [Bundle.ownAtoms0]))
  cases Option.some.inj (hc1.symm.trans hfound)
  cases Option.some.inj (hkX.symm.trans hk)
  have hsel0 : selectMethod e.platform s.vm P1.m.cls T.fill0 = .method T.fill0 := by
    obtain ⟨c2, r2, m2, q1, q2, q3, q4, -⟩ := Cond.selects_spec (a' (.selects cls Bundle.tFill0 Bundle.tFill0) (by simp [Bundle.ownAtoms0]))
    cases Option.some.inj (q1.symm.trans hfound)
    cases Option.some.inj (q2.symm.trans (State.methodFound?_of_named Y.fill0 (by decide)))
    cases Option.some.inj (q3.symm.trans Y.fill0)
    rw [Launch.admits_selectMethod X.admits]; exact q4
  have hselF : selectMethod e.platform s.vm P1.m.cls T.fill = .method T.fill := by
    obtain ⟨c2, r2, m2, q1, q2, q3, q4, -⟩ := Cond.selects_spec (a' (.selects cls Bundle.tFill Bundle.tFill) (by simp [Bundle.ownAtoms0]))
    cases Option.some.inj (q1.symm.trans hfound)
    cases Option.some.inj (q2.symm.trans (State.methodFound?_of_named Y.fill (by decide)))
    cases Option.some.inj (q3.symm.trans Y.fill)
    rw [Launch.admits_selectMethod X.admits]; exact q4
  obtain ⟨cellS0, hcS0, hiss⟩ := Y.statics
  obtain ⟨u0, hu0⟩ := Cond.staticRefV Y.unassigned L.unassignedStatic L.statics hcS0 hiss (a' (.isRef (.static Bundle.tN "UNASSIGNED_STACK" Bundle.steD)) (by simp [Bundle.ownAtoms0]))
  obtain ⟨sen, hsen⟩ := Cond.staticRefV Y.sentinel L.sentinelStatic L.statics hcS0 hiss (a' (.isRef (.static Bundle.tN "SUPPRESSED_SENTINEL" Bundle.listD)) (by simp [Bundle.ownAtoms0]))
  obtain ⟨ci198, i198, fB, hk198, hg198, ha198, hsB, -, hnB, htB, hffB⟩ := Cond.ownField (t := .object "java/lang/Object") Y.found L.cls (by decide +kernel) (a' (.fieldLink Bundle.tN 198 Bundle.tN "backtrace" "Ljava/lang/Object;") (by simp [Bundle.ownAtoms0])) (a' (.lays Bundle.tN Bundle.tN "backtrace" "Ljava/lang/Object;") (by simp [Bundle.ownAtoms0])) e.platform hpl
  obtain ⟨cellS, hcS', heS, -, hkeep⟩ := X.same.2.2.2.2.2 T.aS cellS0 hcS0
  have hcellS : W.heap[T.aS]? = some cellS := hcS'
  have haS : T.aS < sz := by
    obtain ⟨cz, kz, iz, fz, az, cellz, vz, z1, z2, z3, z4, z5, -⟩ := hZ
    have z6 := Option.some.inj (z2.symm.trans Y.unassigned)
    have z7 : kz = T.kT := congrArg (fun q => q.2.1) z6
    rw [z7, L.statics] at z4
    cases z4
    exact z5
  have hout' : ∀ i, (⟨T.aS, i⟩ : Loc) ∉ locs := fun i hmem => by
    have := hlocs _ hmem
    exact absurd haS (Nat.not_lt.mpr this)
  have hknownS : cellS.vm ≠ .unknown := by
    rw [heS]; intro hu
    rw [show cellS0.vm = .unknown from hu] at hiss
    cases hiss
  have hneS : T.aS ≠ a := Nat.ne_of_lt (Nat.lt_of_lt_of_le (Array.getElem?_eq_some_iff.mp hcS0).1 hnew)
  obtain ⟨tyC, dC, hdC, hdnC⟩ := Cond.laysAt hfound hk Y.cause (a' (.lays cls Bundle.tN "cause" "Ljava/lang/Throwable;") (by simp [Bundle.ownAtoms0]))
  obtain ⟨tyS, dS, hdS, hdnS⟩ := Cond.laysAt hfound hk Y.stack (a' (.lays cls Bundle.tN "stackTrace" Bundle.steD) (by simp [Bundle.ownAtoms0]))
  obtain ⟨tyP, dP, hdP, hdnP⟩ := Cond.laysAt hfound hk Y.supp (a' (.lays cls Bundle.tN "suppressedExceptions" Bundle.listD) (by simp [Bundle.ownAtoms0]))
  obtain ⟨tyB, dB, hdB, hdnB⟩ := Cond.laysAt hfound hk hffB (a' (.lays cls Bundle.tN "backtrace" "Ljava/lang/Object;") (by simp [Bundle.ownAtoms0]))
  have bC := Cond.laysApart hdB hdC hdnB hdnC (by rw [hnB, Y.causeName]; decide)
  have bS := Cond.laysApart hdB hdS hdnB hdnS (by rw [hnB, Y.stackName]; decide)
  have bP := Cond.laysApart hdB hdP hdnB hdnP (by rw [hnB, Y.suppName]; decide)
  have hskip : SkipFacts T e.platform s (fun u => u) u0 ((preparedCellV T.toThrowableT (freshCell P1.m.cls kX) a u0 sen).withEntry W.cur) :=
    ⟨{ ci198 := ci198, i198 := i198, fBack := fB }, ⟨hk198, hg198, ha198, hsB⟩, by
      have := fresh_default (c := P1.m.cls) tyB
      rw [htB] at this
      simpa [preparedCellV, Cell.setSlot, Cell.withEntry, Array.getElem?_setIfInBounds, bC, bS, bP, bC.symm, bS.symm, bP.symm, defaultValue] using this, fun _ _ => rfl⟩
  obtain ⟨tm, methC, cdC, kC, vm₁, hnC, -, -, -, -, -, -, -, hW₁, st1⟩ := Steps.initCold (tb := p.tables) (e := e) (below := below) (s := s) (U := W) X.here hexec X.warmed hpl hown (t := Bundle.init0 cls) rfl rfl (Bundle.fit_spec hcls).2
    (a' (.methodLink own ic (Bundle.init0 cls)) (by simp [Bundle.ownAtoms0])) (h (.instanceMethod (Bundle.init0 cls)) (by cases names <;> simp [Bundle.ownAtoms0, Bundle.chain0Atoms, Bundle.passAtoms])) (bytes := Bundle.five) (maxL := 1) (h (.code (Bundle.init0 cls) Bundle.five 1 none) (by cases names <;> simp [Bundle.ownAtoms0, Bundle.chain0Atoms, Bundle.passAtoms]))
    (f := g) hg (a := a) (rest := .ref a :: rest) hstack hd6
  cases Option.some.inj (hnC.symm.trans hP1m)
  have X₁ := X.noted hW₁
  obtain ⟨vm₂, X₂, st2⟩ := X₁.ctorPlainOffV hexec (g := { g with stack := .ref a :: rest }) hg hsize T L Z LZ (P1 :: Ps)
    (fun P hP => by rcases List.mem_cons.mp hP with rfl | hP; exact L1; exact hL P hP) ⟨hlink1, hlink⟩ (u0 := u0) (sen := sen) (self := a) (cell := freshCell P1.m.cls kX) (cellS := cellS)
    hcell (fun _ => by simp) (by simp) rfl rfl hsel0 hselF hcellS hneS hknownS (by rw [hkeep _ (hout' _)]; exact hu0) (by rw [hkeep _ (hout' _)]; exact hsen)
    (Takes.of_laid hk hord tyC (by rw [Y.causeType]; rfl)) (Takes.of_laid hk hord tyS (by rw [Y.stackType]; exact fits_refV_array _ u0)) (Takes.of_laid hk hord tyP (by rw [Y.suppType]; exact fits_refV_object _ sen)) Y.objLocals hskip htr [] hd6
    (by simp only [List.length_cons, hlen]; omega) (by simp only [List.length_cons, hlen]; exact hRlocals)
  obtain ⟨hwalk, hrun, hended, hWU, hsame⟩ := X₂.athrowLeaves hexec (g := { g with stack := .ref a :: rest, pc := g.pc + 3 }) hg hlocked hentered hout (a := a) (rest := rest) rfl hd9 hlocks
  have hlt : a < ((W.setVm vm₁).setVm vm₂).heap.size := (Array.getElem?_eq_some_iff.mp hcell).1
  refine ⟨_, st1 _ (fun acts => ?_), hrun, hended, hWU, hsame.weaken (fun y hy hlt' => ?_) (Nat.le_refl _) (Nat.le_refl _), ⟨_, heapAt_setCell_self (s := (W.setVm vm₁).setVm vm₂) _ hlt, rfl, rfl⟩, size_setCell _ _ _, fun q hq => heapAt_setCell_ne (s := (W.setVm vm₁).setVm vm₂) _ (Ne.symm hq)⟩
  · rw [doInvoke_state]
    exact st2 _ hwalk
  · rcases List.mem_append.mp hy with h1 | h1
    · exact h1
    · exfalso
      have hb : y.base = a := by
        simp only [List.mem_cons, List.not_mem_nil, or_false] at h1
        rcases h1 with rfl | rfl | rfl | rfl <;> rfl
      rw [hb] at hlt'
      exact Nat.not_lt.mpr hnew hlt'
end
end
section
theorem iv_inw {i : Nat} {w : Cond} (h : lw_tbl[i]? = some w) (hg : goodWord w = true) : w ∈ iv_all := List.mem_filter.mpr ⟨List.mem_of_getElem? h, hg⟩
def iv_up : List String := ["java/lang/RuntimeException", "java/lang/Exception"]
def iv_ic (q : Nat) : Nat := match q with
  | 0 => 213
  | 1 => 219
  | _ => 109
set_option maxRecDepth 100000 in
theorem iv_own_t {sz : Nat} {args : Array Value} {s : State} (hts : ∀ w ∈ iv_all, w.before args s = true) (hT : iv_Th sz s) : ∀ a ∈ Bundle.throwableAtoms, a.before args s = true :=
  List.forall_mem_cons.mpr ⟨hts _ (iv_inw (i := 70) rfl rfl), List.forall_mem_cons.mpr ⟨hts _ (iv_inw (i := 418) rfl rfl), List.forall_mem_cons.mpr ⟨hts _ (iv_inw (i := 427) rfl rfl), List.forall_mem_cons.mpr ⟨hts _ (iv_inw (i := 431) rfl rfl), List.forall_mem_cons.mpr ⟨hts _ (iv_inw (i := 434) rfl rfl), List.forall_mem_cons.mpr ⟨hts _ (iv_inw (i := 436) rfl rfl), List.forall_mem_cons.mpr ⟨hts _ (iv_inw (i := 419) rfl rfl), List.forall_mem_cons.mpr ⟨hts _ (iv_inw (i := 420) rfl rfl), List.forall_mem_cons.mpr ⟨hts _ (iv_inw (i := 84) rfl rfl), List.forall_mem_cons.mpr ⟨hts _ (iv_inw (i := 85) rfl rfl), List.forall_mem_cons.mpr ⟨hts _ (iv_inw (i := 421) rfl rfl), List.forall_mem_cons.mpr ⟨hts _ (iv_inw (i := 426) rfl rfl), List.forall_mem_cons.mpr ⟨hts _ (iv_inw (i := 432) rfl rfl), List.forall_mem_cons.mpr ⟨hts _ (iv_inw (i := 448) rfl rfl), List.forall_mem_cons.mpr ⟨hts _ (iv_inw (i := 408) rfl rfl), List.forall_mem_cons.mpr ⟨hts _ (iv_inw (i := 449) rfl rfl), List.forall_mem_cons.mpr ⟨hts _ (iv_inw (i := 410) rfl rfl), List.forall_mem_cons.mpr ⟨hts _ (iv_inw (i := 450) rfl rfl), List.forall_mem_cons.mpr ⟨hts _ (iv_inw (i := 412) rfl rfl), List.forall_mem_cons.mpr ⟨hts _ (iv_inw (i := 422) rfl rfl), List.forall_mem_cons.mpr ⟨iv_Zs_lays hT.1, List.forall_mem_cons.mpr ⟨hts _ (iv_inw (i := 424) rfl rfl), List.forall_mem_cons.mpr ⟨iv_Zs_lays hT.2.1, List.forall_mem_cons.mpr ⟨hts _ (iv_inw (i := 414) rfl rfl), fun _ h => absurd h List.not_mem_nil⟩⟩⟩⟩⟩⟩⟩⟩⟩⟩⟩⟩⟩⟩⟩⟩⟩⟩⟩⟩⟩⟩⟩⟩
set_option maxRecDepth 100000 in
theorem iv_own_0 {sz : Nat} {args : Array Value} {s : State} (hts : ∀ w ∈ iv_all, w.before args s = true) (hT : iv_Th sz s) : ∀ a ∈ Bundle.ownAtoms0 "FatVolume" 213 (iv_xnm 0) iv_up, a.before args s = true :=
  List.forall_mem_append.mpr ⟨List.forall_mem_append.mpr ⟨iv_own_t hts hT, List.forall_mem_append.mpr ⟨List.forall_mem_cons.mpr ⟨hts _ (iv_inw (i := 438) rfl rfl), List.forall_mem_cons.mpr ⟨hts _ (iv_inw (i := 439) rfl rfl), List.forall_mem_cons.mpr ⟨hts _ (iv_inw (i := 440) rfl rfl), List.forall_mem_cons.mpr ⟨hts _ (iv_inw (i := 441) rfl rfl), List.forall_mem_cons.mpr ⟨va_Nw.use rfl hT.2.2.1, fun _ h => absurd h List.not_mem_nil⟩⟩⟩⟩⟩, List.forall_mem_append.mpr ⟨List.forall_mem_cons.mpr ⟨hts _ (iv_inw (i := 441) rfl rfl), List.forall_mem_cons.mpr ⟨hts _ (iv_inw (i := 442) rfl rfl), List.forall_mem_cons.mpr ⟨hts _ (iv_inw (i := 443) rfl rfl), List.forall_mem_cons.mpr ⟨hts _ (iv_inw (i := 444) rfl rfl), List.forall_mem_cons.mpr ⟨va_Nw.use rfl hT.2.2.2.1, fun _ h => absurd h List.not_mem_nil⟩⟩⟩⟩⟩, List.forall_mem_cons.mpr ⟨hts _ (iv_inw (i := 444) rfl rfl), List.forall_mem_cons.mpr ⟨hts _ (iv_inw (i := 445) rfl rfl), List.forall_mem_cons.mpr ⟨hts _ (iv_inw (i := 446) rfl rfl), List.forall_mem_cons.mpr ⟨hts _ (iv_inw (i := 419) rfl rfl), List.forall_mem_cons.mpr ⟨va_Nw.use rfl hT.2.2.2.2.1, fun _ h => absurd h List.not_mem_nil⟩⟩⟩⟩⟩⟩⟩⟩, List.forall_mem_cons.mpr ⟨hts _ (iv_inw (i := 437) rfl rfl), List.forall_mem_cons.mpr ⟨hts _ (iv_inw (i := 397) rfl rfl), List.forall_mem_cons.mpr ⟨va_Nw.use rfl (hT.2.2.2.2.2.1 0 (by decide)), List.forall_mem_cons.mpr ⟨hts _ (iv_inw (i := 405) rfl rfl), List.forall_mem_cons.mpr ⟨hts _ (iv_inw (i := 406) rfl rfl), List.forall_mem_cons.mpr ⟨hts _ (iv_inw (i := 407) rfl rfl), List.forall_mem_cons.mpr ⟨hts _ (iv_inw (i := 409) rfl rfl), List.forall_mem_cons.mpr ⟨hts _ (iv_inw (i := 411) rfl rfl), List.forall_mem_cons.mpr ⟨hts _ (iv_inw (i := 413) rfl rfl), List.forall_mem_cons.mpr ⟨iv_Zs_ref hT.1, List.forall_mem_cons.mpr ⟨iv_Zs_ref hT.2.1, List.forall_mem_cons.mpr ⟨hts _ (iv_inw (i := 417) rfl rfl), List.forall_mem_cons.mpr ⟨hts _ (iv_inw (i := 416) rfl rfl), List.forall_mem_cons.mpr ⟨hts _ (iv_inw (i := 415) rfl rfl), fun _ h => absurd h List.not_mem_nil⟩⟩⟩⟩⟩⟩⟩⟩⟩⟩⟩⟩⟩⟩⟩
set_option maxRecDepth 100000 in
theorem iv_own_1 {sz : Nat} {args : Array Value} {s : State} (hts : ∀ w ∈ iv_all, w.before args s = true) (hT : iv_Th sz s) : ∀ a ∈ Bundle.ownAtoms0 "FatVolume" 219 (iv_xnm 1) iv_up, a.before args s = true :=
  List.forall_mem_append.mpr ⟨List.forall_mem_append.mpr ⟨iv_own_t hts hT, List.forall_mem_append.mpr ⟨List.forall_mem_cons.mpr ⟨hts _ (iv_inw (i := 473) rfl rfl), List.forall_mem_cons.mpr ⟨hts _ (iv_inw (i := 474) rfl rfl), List.forall_mem_cons.mpr ⟨hts _ (iv_inw (i := 475) rfl rfl), List.forall_mem_cons.mpr ⟨hts _ (iv_inw (i := 441) rfl rfl), List.forall_mem_cons.mpr ⟨va_Nw.use rfl hT.2.2.1, fun _ h => absurd h List.not_mem_nil⟩⟩⟩⟩⟩, List.forall_mem_append.mpr ⟨List.forall_mem_cons.mpr ⟨hts _ (iv_inw (i := 441) rfl rfl), List.forall_mem_cons.mpr ⟨hts _ (iv_inw (i := 442) rfl rfl), List.forall_mem_cons.mpr ⟨hts _ (iv_inw (i := 443) rfl rfl), List.forall_mem_cons.mpr ⟨hts _ (iv_inw (i := 444) rfl rfl), List.forall_mem_cons.mpr ⟨va_Nw.use rfl hT.2.2.2.1, fun _ h => absurd h List.not_mem_nil⟩⟩⟩⟩⟩, List.forall_mem_cons.mpr ⟨hts _ (iv_inw (i := 444) rfl rfl), List.forall_mem_cons.mpr ⟨hts _ (iv_inw (i := 445) rfl rfl), List.forall_mem_cons.mpr ⟨hts _ (iv_inw (i := 446) rfl rfl), List.forall_mem_cons.mpr ⟨hts _ (iv_inw (i := 419) rfl rfl), List.forall_mem_cons.mpr ⟨va_Nw.use rfl hT.2.2.2.2.1, fun _ h => absurd h List.not_mem_nil⟩⟩⟩⟩⟩⟩⟩⟩, List.forall_mem_cons.mpr ⟨hts _ (iv_inw (i := 472) rfl rfl), List.forall_mem_cons.mpr ⟨hts _ (iv_inw (i := 464) rfl rfl), List.forall_mem_cons.mpr ⟨va_Nw.use rfl (hT.2.2.2.2.2.1 1 (by decide)), List.forall_mem_cons.mpr ⟨hts _ (iv_inw (i := 466) rfl rfl), List.forall_mem_cons.mpr ⟨hts _ (iv_inw (i := 429) rfl rfl), List.forall_mem_cons.mpr ⟨hts _ (iv_inw (i := 467) rfl rfl), List.forall_mem_cons.mpr ⟨hts _ (iv_inw (i := 468) rfl rfl), List.forall_mem_cons.mpr ⟨hts _ (iv_inw (i := 469) rfl rfl), List.forall_mem_cons.mpr ⟨hts _ (iv_inw (i := 470) rfl rfl), List.forall_mem_cons.mpr ⟨iv_Zs_ref hT.1, List.forall_mem_cons.mpr ⟨iv_Zs_ref hT.2.1, List.forall_mem_cons.mpr ⟨hts _ (iv_inw (i := 417) rfl rfl), List.forall_mem_cons.mpr ⟨hts _ (iv_inw (i := 416) rfl rfl), List.forall_mem_cons.mpr ⟨hts _ (iv_inw (i := 471) rfl rfl), fun _ h => absurd h List.not_mem_nil⟩⟩⟩⟩⟩⟩⟩⟩⟩⟩⟩⟩⟩⟩⟩
set_option maxRecDepth 100000 in
theorem iv_own_2 {sz : Nat} {args : Array Value} {s : State} (hts : ∀ w ∈ iv_all, w.before args s = true) (hT : iv_Th sz s) : ∀ a ∈ Bundle.ownAtoms0 "FatVolume" 109 (iv_xnm 2) iv_up, a.before args s = true :=
  List.forall_mem_append.mpr ⟨List.forall_mem_append.mpr ⟨iv_own_t hts hT, List.forall_mem_append.mpr ⟨List.forall_mem_cons.mpr ⟨hts _ (iv_inw (i := 624) rfl rfl), List.forall_mem_cons.mpr ⟨hts _ (iv_inw (i := 625) rfl rfl), List.forall_mem_cons.mpr ⟨hts _ (iv_inw (i := 626) rfl rfl), List.forall_mem_cons.mpr ⟨hts _ (iv_inw (i := 441) rfl rfl), List.forall_mem_cons.mpr ⟨va_Nw.use rfl hT.2.2.1, fun _ h => absurd h List.not_mem_nil⟩⟩⟩⟩⟩, List.forall_mem_append.mpr ⟨List.forall_mem_cons.mpr ⟨hts _ (iv_inw (i := 441) rfl rfl), List.forall_mem_cons.mpr ⟨hts _ (iv_inw (i := 442) rfl rfl), List.forall_mem_cons.mpr ⟨hts _ (iv_inw (i := 443) rfl rfl), List.forall_mem_cons.mpr ⟨hts _ (iv_inw (i := 444) rfl rfl), List.forall_mem_cons.mpr ⟨va_Nw.use rfl hT.2.2.2.1, fun _ h => absurd h List.not_mem_nil⟩⟩⟩⟩⟩, List.forall_mem_cons.mpr ⟨hts _ (iv_inw (i := 444) rfl rfl), List.forall_mem_cons.mpr ⟨hts _ (iv_inw (i := 445) rfl rfl), List.forall_mem_cons.mpr ⟨hts _ (iv_inw (i := 446) rfl rfl), List.forall_mem_cons.mpr ⟨hts _ (iv_inw (i := 419) rfl rfl), List.forall_mem_cons.mpr ⟨va_Nw.use rfl hT.2.2.2.2.1, fun _ h => absurd h List.not_mem_nil⟩⟩⟩⟩⟩⟩⟩⟩, List.forall_mem_cons.mpr ⟨hts _ (iv_inw (i := 623) rfl rfl), List.forall_mem_cons.mpr ⟨hts _ (iv_inw (i := 615) rfl rfl), List.forall_mem_cons.mpr ⟨va_Nw.use rfl (hT.2.2.2.2.2.1 2 (by decide)), List.forall_mem_cons.mpr ⟨hts _ (iv_inw (i := 617) rfl rfl), List.forall_mem_cons.mpr ⟨hts _ (iv_inw (i := 430) rfl rfl), List.forall_mem_cons.mpr ⟨hts _ (iv_inw (i := 618) rfl rfl), List.forall_mem_cons.mpr ⟨hts _ (iv_inw (i := 619) rfl rfl), List.forall_mem_cons.mpr ⟨hts _ (iv_inw (i := 620) rfl rfl), List.forall_mem_cons.mpr ⟨hts _ (iv_inw (i := 621) rfl rfl), List.forall_mem_cons.mpr ⟨iv_Zs_ref hT.1, List.forall_mem_cons.mpr ⟨iv_Zs_ref hT.2.1, List.forall_mem_cons.mpr ⟨hts _ (iv_inw (i := 417) rfl rfl), List.forall_mem_cons.mpr ⟨hts _ (iv_inw (i := 416) rfl rfl), List.forall_mem_cons.mpr ⟨hts _ (iv_inw (i := 622) rfl rfl), fun _ h => absurd h List.not_mem_nil⟩⟩⟩⟩⟩⟩⟩⟩⟩⟩⟩⟩⟩⟩⟩
theorem iv_own {sz : Nat} {args : Array Value} {s : State} (hts : ∀ w ∈ iv_all, w.before args s = true) (hT : iv_Th sz s) {q : Nat} (hq : q < 3) : ∀ a ∈ Bundle.ownAtoms0 "FatVolume" (iv_ic q) (iv_xnm q) iv_up, a.before args s = true := by
  have : q = 0 ∨ q = 1 ∨ q = 2 := by omega
  rcases this with rfl | rfl | rfl
  · exact iv_own_0 hts hT
  · exact iv_own_1 hts hT
  · exact iv_own_2 hts hT
theorem iv_fit_x {q : Nat} (hq : q < 3) : Bundle.fit (iv_xnm q) = true := by
  have : q = 0 ∨ q = 1 ∨ q = 2 := by omega
  rcases this with rfl | rfl | rfl <;> decide +kernel
theorem iv_fit_up : ∀ n ∈ iv_up, Bundle.fit n = true := by decide +kernel
set_option maxRecDepth 100000 in
theorem iv_x_words {q : Nat} (hq : q < 3) : Cond.instantiable (iv_xnm q) 6 ∈ iv_all ∧ Cond.initialized (iv_xnm q) ∈ iv_all := by
  have : q = 0 ∨ q = 1 ∨ q = 2 := by omega
  rcases this with rfl | rfl | rfl
  · exact ⟨iv_inw (i := 397) rfl rfl, iv_inw (i := 73) rfl rfl⟩
  · exact ⟨iv_inw (i := 464) rfl rfl, iv_inw (i := 74) rfl rfl⟩
  · exact ⟨iv_inw (i := 615) rfl rfl, iv_inw (i := 76) rfl rfl⟩
end
section
/-! catching: a handler whose class may not have been resolved yet -/
section
variable {e : Env} {f : JFrame} {a : Addr}
theorem iv_go_cold {U : State} {Q : Handler → Pre} {E : CtlPost} {d : Bool} {acts : List Action} {x : ExceptionTableEntry} {t : List ExceptionTableEntry} {c : ClassId} {cell : Cell} {vm' : Vm} (hx : covers x f.pc = true) (h0 : x.catchType ≠ 0)
    (hg : (Jvm.resolveClass f.method.cls x.catchType).Gives e.toSetting U.vm (.ok c) vm') (hsz : vm'.classes.size ≤ U.vm.classes.size) (hcell : U.heap[a]? = some cell) (hobj : ∀ k, cell.vm ≠ .statics k)
    (hk : ∃ k, vm'.classes[cell.cls]? = some k) (hc : ∃ k, vm'.classes[c]? = some k) :
    wp (findHandler.go f a (x :: t)) Q E e d acts U ↔ if vm'.assignable cell.cls c = true then Q (.found x.handlerPc) d acts (U.setVm vm') else wp (findHandler.go f a t) Q E e d acts (U.setVm vm') := by
  obtain ⟨ha, ht⟩ := hg.op (op := VmOp.resolveClass f.method.cls x.catchType) rfl
  simp only [covers] at hx
  cases hfit : vm'.assignable cell.cls c <;>
    simp [findHandler.go, hx, h0, ha, ht, hsz, hcell, hobj, hk, hc, hfit, VmOp.dirties, VmOp.acts]
end
section
variable {e : Env} {s : State} {f : JFrame} {a : Addr} {args : Array Value} {own X C : String} {m : MethodId} {cell : Cell} {h : ExceptionTableEntry}
theorem iv_find (hm : f.method = m) (hpl : e.platform.magicAccessors = ({} : Platform).magicAccessors) (hown : s.vm.findClass own = some m.cls) (hobj : cell.vm = .none) (hX : s.vm.findClass X = some cell.cls) (hh : covers h f.pc = true) (hh0 : h.catchType ≠ 0) (hhl : (Cond.classLink own h.catchType C).before args s = true) (hhc : va_Nw (.castable X C) s) (post : List ExceptionTableEntry) :
    ∀ (pre : List ExceptionTableEntry) (U : State), s.WarmedH U.vm → U.heap[a]? = some cell → (∀ y ∈ pre, covers y f.pc = true ∧ y.catchType ≠ 0 ∧ ∃ C', (Cond.classLink own y.catchType C').before args s = true ∧ va_Nc X C' s) →
      ∃ vm', s.WarmedH vm' ∧ ∀ (Q : Handler → Pre) (E : CtlPost) (d : Bool) (acts : List Action), wp (findHandler.go f a (pre ++ h :: post)) Q E e d acts U ↔ Q (.found h.handlerPc) d acts (U.setVm vm') := by
  subst hm
  intro pre
  induction pre with
  | nil =>
    intro U hW hc _
    obtain ⟨cc, hfcc, hcl⟩ := Cond.classLink_spec hown hhl e.platform hpl
    obtain ⟨g1, g2, g3⟩ := State.classEntry (e := e) hW hcl
    have hsz : (U.vm.noted f.method.cls h.catchType (.cls cc)).classes.size ≤ U.vm.classes.size := by rw [Vm.size_noted]; exact Nat.le_refl _
    generalize U.vm.noted f.method.cls h.catchType (.cls cc) = vm₁ at g1 g2 g3 hsz
    refine ⟨vm₁, g2, fun Q E d acts => ?_⟩
    have hal := g2.alike
    have f1 : vm₁.findClass X = some cell.cls := by rw [hal.findClass]; exact hX
    have f2 : vm₁.findClass C = some cc := by rw [hal.findClass]; exact hfcc
    rw [List.nil_append, iv_go_cold hh hh0 g1 hsz hc (fun k q => by rw [hobj] at q; cases q) (Vm.classAt_of_findClass f1) (Vm.classAt_of_findClass f2), if_pos]
    rw [hal.assignable]
    exact vb_asgC hhc cc cell.cls hfcc hX
  | cons y pre ih =>
    intro U hW hc hp
    obtain ⟨p1, p2, C', p3, p4⟩ := hp y List.mem_cons_self
    obtain ⟨cc, hfcc, hcl⟩ := Cond.classLink_spec hown p3 e.platform hpl
    obtain ⟨g1, g2, g3⟩ := State.classEntry (e := e) hW hcl
    have hsz : (U.vm.noted f.method.cls y.catchType (.cls cc)).classes.size ≤ U.vm.classes.size := by rw [Vm.size_noted]; exact Nat.le_refl _
    generalize U.vm.noted f.method.cls y.catchType (.cls cc) = vm₁ at g1 g2 g3 hsz
    obtain ⟨vm₂, w1, w2⟩ := ih (U.setVm vm₁) g2 hc (fun z hz => hp z (List.mem_cons_of_mem _ hz))
    refine ⟨vm₂, w1, fun Q E d acts => ?_⟩
    have hal := g2.alike
    have f1 : vm₁.findClass X = some cell.cls := by rw [hal.findClass]; exact hX
    have f2 : vm₁.findClass C' = some cc := by rw [hal.findClass]; exact hfcc
    obtain ⟨c1, c2, n1, n2, n3⟩ := p4
    cases hX.symm.trans n1
    cases hfcc.symm.trans n2
    rw [List.cons_append, iv_go_cold p1 p2 g1 hsz hc (fun k q => by rw [hobj] at q; cases q) (Vm.classAt_of_findClass f1) (Vm.classAt_of_findClass f2), if_neg (by rw [hal.assignable, n3]; decide)]
    exact w2 Q E d acts
theorem iv_stepCatch {s : State} {f : JFrame} {r : List Frame} {pc : Nat} {vm' : Vm} (hfind : ∀ (Q : Handler → Pre) (E : CtlPost) (d : Bool) (acts : List Action), wp (findHandler f a) Q E e d acts s ↔ Q (.found pc) d acts (s.setVm vm')) :
    (stepThrowing e s a (.java f :: r)).Is ((s.setVm vm').setFrames (.java { f with pc := pc, stack := [.ref a] } :: r)) [] := by
  simp only [stepThrowing, searchFrame, vmDo]
  generalize hr : Sem.go _ e false [] s = res
  obtain ⟨as, rfl, ha⟩ := Sem.eq_ok_of hr (a := Handler.found pc) (s' := s.setVm vm') (acts' := []) (by simp [hfind _ _ _ _])
  exact ⟨rfl, ha⟩
end
section
variable {p : Program} {l : Launch} {e : Env} {R : Room} {s : State} {m : MethodId} {args : Array Value} {below : List Frame} {meth : Method} {c : Code} {T : State} {locs : List Loc} {cells slots : Nat}
/-- the exception a of class X is caught by the entry h of the method's own table -/
theorem iv_catch (Xs : Stand p l e R s m args below meth c T locs cells slots) {own X C : String} (hown : s.vm.findClass own = some m.cls) {a : Addr} {cell : Cell} (hcell : T.heap[a]? = some cell) (hobj : cell.vm = .none) (hX : s.vm.findClass X = some cell.cls)
    {g : JFrame} (hg : g.method = m) {pre post : List ExceptionTableEntry} {h : ExceptionTableEntry} (htab : c.exceptionTable.toList = pre ++ h :: post) (hh : covers h g.pc = true) (hh0 : h.catchType ≠ 0) (hhl : (Cond.classLink own h.catchType C).before args s = true) (hhc : va_Nw (.castable X C) s)
    (hp : ∀ y ∈ pre, covers y g.pc = true ∧ y.catchType ≠ 0 ∧ ∃ C', (Cond.classLink own y.catchType C').before args s = true ∧ va_Nc X C' s) :
    ∃ vm', Stand p l e R s m args below meth c (T.setVm vm') locs cells slots ∧ ∀ target, Steps p.tables e below ((T.setVm vm').setTop { g with pc := h.handlerPc, stack := [.ref a] }) target → Steps p.tables e below ((T.setTop g).pushFrame (.throwing a)) target := by
  have hpl : e.platform.magicAccessors = ({} : Platform).magicAccessors := by rw [Xs.admits.platform]
  obtain ⟨vm', w1, w2⟩ := iv_find (e := e) (f := g) (a := a) hg hpl hown hobj hX hh hh0 hhl hhc post pre ((T.setTop g).pushFrame (.throwing a)) (by rw [Stand.throwing_vm]; exact Xs.warmed) (by rw [Stand.throwing_heap]; exact hcell) hp
  refine ⟨vm', Xs.noted w1, fun target hrest => ?_⟩
  subst hg
  have hA := Xs.here
  obtain ⟨hgo, hw⟩ := hA.throwing a
  refine Steps.head hgo hw ?_
  have hfind : ∀ (Q : Handler → Pre) (E : CtlPost) (d : Bool) (acts : List Action), wp (findHandler g a) Q E e d acts ((T.setTop g).pushFrame (.throwing a)) ↔ Q (.found h.handlerPc) d acts (((T.setTop g).pushFrame (.throwing a)).setVm vm') := by
    intro Q E d acts
    rw [W.findHandler_eq (meth := meth) (code := c) (by rw [Stand.throwing_vm]; exact Xs.method') Xs.code, htab]
    exact w2 Q E d acts
  rw [stepThread_throwing (frames_entered hA.top _), (iv_stepCatch (s := (T.setTop g).pushFrame (.throwing a)) hfind).1]
  obtain ⟨g₀, hg0⟩ := Option.isSome_iff_exists.mp hA.top
  obtain ⟨r, hr⟩ := State.topJava?_eq_some.mp hg0
  have hr' : (T.setVm vm').frames = .java g₀ :: r := hr
  rw [State.setTop_of_frames _ hr'] at hrest
  have e1 : (((T.setTop g).pushFrame (.throwing a)).setVm vm').setFrames (.java { g with pc := h.handlerPc, stack := [.ref a] } :: T.frames.tail) = (T.setVm vm').setFrames (.java { g with pc := h.handlerPc, stack := [.ref a] } :: r) := by
    rw [State.pushFrame, State.setTop_of_frames _ hr]
    show (((T.setFrames _).setFrames _).setFrames _).setVm vm' = _
    rw [State.setFrames_setFrames, State.setFrames_setFrames, hr]
    rfl
  rw [e1]
  exact hrest
end
end
section
/-! what holds in a state: the tables, the script, the world -/
def iv_St (L : Nat) (xs : Nat → Int32) (sz b : Nat) (D : va_G) (tc : Nat → ClassId) (U : State) : Prop :=
  va_K D iv_cl (iv_tys tc) U ∧ (∀ q ∈ iv_nest, va_Nw (.methodLinkNest q.1 q.2.1 q.2.2.1 q.2.2.2) U) ∧ va_AO iv_foN U ∧ va_X b L xs U U.heap ∧ b < sz ∧ sz ≤ U.heap.size ∧ iv_Th sz U
theorem iv_St_moved {L : Nat} {xs : Nat → Int32} {sz b : Nat} {D : va_G} {tc : Nat → ClassId} {s U : State} (h : iv_St L xs sz b D tc s) (hW : s.WarmedH U.vm) (hq : ∀ q, q < sz → U.heap[q]? = s.heap[q]?) (hz : sz ≤ U.heap.size) : iv_St L xs sz b D tc U := by
  obtain ⟨h1, h2, h3, h4, h5, h6, h7⟩ := h
  refine ⟨va_K.moved hW.alike h1, fun q hq2 => va_Nw.warmM hW (h2 q hq2), va_AO.moved hW.alike h3, ?_, h5, hz, iv_Th_moved h7 hW hq⟩
  exact va_X.moved hW.alike (h4.kept (hq b h5))
theorem iv_St_calling {L : Nat} {xs : Nat → Int32} {sz b : Nat} {D : va_G} {tc : Nat → ClassId} {U : State} {g : JFrame} {mk : MethodId} {a : Array Value} (h : iv_St L xs sz b D tc U) : iv_St L xs sz b D tc (U.calling g mk a) :=
  iv_St_moved (U := U.calling g mk a) h (State.WarmedH.refl U) (fun _ _ => rfl) h.2.2.2.2.2.1
def iv_Re (sz b : Nat) (D : va_G) (tc : Nat → ClassId) (w : iv_W) (tg : Bool) (U : State) : Prop := va_P D iv_cl (iv_ws sz b tc w) U.heap ∧ (tg = true → U.heap.size = sz + w.length)
def iv_Pc (L : Nat) (xs : Nat → Int32) (sz b : Nat) (D : va_G) (tc : Nat → ClassId) (as : List Value) (w : iv_W) (tg : Bool) : Array Value → State → Prop := va_Pc (as.map (iv_v sz b)) (fun U => iv_St L xs sz b D tc U ∧ iv_Re sz b D tc w tg U)
theorem iv_Pc_blind {L : Nat} {xs : Nat → Int32} {sz b : Nat} {D : va_G} {tc : Nat → ClassId} {as : List Value} {w : iv_W} {tg : Bool} : FrameBlind (iv_Pc L xs sz b D tc as w tg) := fun _ _ _ _ h => ⟨h.1, iv_St_calling h.2.1, h.2.2⟩
/-- the thrown object at x is of the class with the number q -/
def iv_Ex (q : Nat) (x : Addr) (t : State) : Prop := ∃ ce : Cell, t.heap[x]? = some ce ∧ ce.vm = .none ∧ t.vm.findClass (iv_xnm q) = some ce.cls
def iv_Qr (sz b : Nat) (D : va_G) (tc : Nat → ClassId) (v : Option Value) (w : iv_W) : Array Value → State → Outcome → State → Prop := fun _ st oc t => oc = .returned (v.map (iv_v sz b)) ∧ va_P D iv_cl (iv_ws sz b tc w) t.heap ∧ va_F (iv_A sz) st t
def iv_Qt (sz b : Nat) (D : va_G) (tc : Nat → ClassId) (q : Nat) (w : iv_W) : Array Value → State → Outcome → State → Prop := fun _ st oc t => (∃ x, oc = .threw x ∧ iv_Ex q x t) ∧ va_P D iv_cl (iv_ws sz b tc w) t.heap ∧ va_F (iv_A sz) st t
def iv_rm (d k z : Nat) : Room := { frames := d + 8, cells := k, slots := z, locals := 100 * d + 400 }
section
variable {p : Program} {l : Launch} {e : Env} {R : Room} {s : State} {m : MethodId} {args : Array Value} {below : List Frame} {meth : Method} {c : Code} {H : Heap} {locs : List Loc} {cells slots : Nat} {Q : State → Prop} {ls : Array Slot} {sz b L : Nat} {xs : Nat → Int32} {tc : Nat → ClassId} {D : va_G} {μ pc x pc2 : Nat} {i : Instr} {lv lv2 : List (Nat × Value)} {st st2 : List Value} {w w2 : iv_W}
/-- the size of the heap, where every new cell is the world's -/
theorem iv_size {T : State} {tg : Bool} (X : Stand p l e R s m args below meth c T locs cells slots) (hP : va_P D iv_cl (iv_ws sz b tc w) T.heap) (hz : sz ≤ s.heap.size) (hT : tg = true → s.heap.size + cells = sz + w.length) (ht : tg = true) : T.heap.size = sz + w.length := by
  have h1 := X.heapSize
  have h2 := hT ht
  have h3 : s.heap.size ≤ T.heap.size := X.same.2.1
  cases hl : w.length with
  | zero => omega
  | succ k =>
    have hk : k < w.length := by omega
    have h4 := (hP k _ (iv_ws_at (List.getElem?_eq_getElem hk))).lt
    have h5 : sz + k < T.heap.size := h4
    omega
/-- a new cell lies at the heap's end -/
theorem iv_newAt {q : Nat} {x : va_E} {T : State} (X : Stand p l e R s m args below meth c T locs (cells + 1) slots) (hP : va_P D iv_cl (iv_ws sz b tc w ++ [(q, x)]) T.heap) (hD : va_D (iv_A sz) (iv_ws sz b tc w ++ [(q, x)])) (hT : s.heap.size + cells = sz + w.length) : q = sz + w.length := by
  have hlen : (iv_ws sz b tc w).length = w.length := by simp [iv_ws]
  have hlast : (iv_ws sz b tc w ++ [(q, x)])[w.length]? = some (q, x) := by
    rw [List.getElem?_append_right (by omega), hlen, Nat.sub_self]
    rfl
  have h1 : q < T.heap.size := (hP _ _ hlast).lt
  have h2 := X.heapSize
  have h3 : sz ≤ q := hD.2 _ _ hlast
  by_cases h4 : q = sz + w.length
  · exact h4
  · exfalso
    have h5 : q - sz < w.length := by omega
    have h6 : (iv_ws sz b tc w ++ [(q, x)])[q - sz]? = some (sz + (q - sz), iv_e sz b tc w[q - sz]) := by
      rw [List.getElem?_append_left (by omega)]
      exact iv_ws_at (List.getElem?_eq_getElem h5)
    have h7 := hD.1 _ _ _ _ h6 hlast (by show sz + (q - sz) = q; omega)
    omega
set_option maxHeartbeats 2000000 in
theorem iv_ret_ok {v : Option Value} {mc ms : Nat} {Qc : Array Value → State → Outcome → State → Prop} {free : Addr → Prop} (hx : p.tables.exec = Jvm.exec) (hb : c.code = iv_c μ) (hr : meth.sig.returnType = iv_r μ) (hlocks : meth.locks = false) (hd : decode (iv_c μ) pc = .ok (i, iv_ln i x)) (h : iv_ret (iv_r μ) i st = some v)
    (hq : ∀ t : State, t.heap = H → s.WarmedH t.vm → Qc args s (.returned (v.map (iv_v sz b))) t) (hf : ∀ q ∈ locs, free q.base) (h1 : cells ≤ mc) (h2 : slots ≤ ms) :
    W p l e R s m args below meth c H locs cells slots (MQ below Qc args s mc ms free) (F0 m pc ls (st.map (iv_v sz b))) := by
  refine W.widen h1 h2 ?_
  generalize iv_r μ = ret at hr h
  unfold iv_ret at h
  split at h
  · cases h
    exact W.vret hx hb hr hq hf hd hlocks
  · cases h
    exact W.iret hx hb hr hq hf hd hlocks
  · split at h
    · next v0 hv =>
      cases h
      exact W.zret hx hb hr (by rcases hv with rfl | rfl <;> decide) hq hf hd hlocks
    · cases h
  · cases h
    exact W.aret hx hb hr (Or.inl ⟨_, rfl⟩) (Or.inr ⟨_, rfl⟩) hq hf hd hlocks
  · cases h
    exact W.aret hx hb hr (Or.inr ⟨_, rfl⟩) (Or.inr ⟨_, rfl⟩) hq hf hd hlocks
  · cases h
end
/-- what the tables must say where a cell is made -/
def iv_okn (μ : Nat) (i : Instr) (x : Nat) : Prop := match i with
  | .new n => ∃ (C : String) (T : u_T) (N : Nat), iv_cl[x]? = some (C, T, N) ∧ N = iv_N x ∧ (∀ w ∈ u_ws C T N, w ∈ iv_all) ∧ (∀ k, k < N → parseFieldDescriptor (T k).2.2.1 = some (iv_ty x k)) ∧ Cond.classLink (iv_y μ).cls n C ∈ iv_all ∧ Cond.instantiable C N ∈ iv_all ∧ Cond.initialized C ∈ iv_all ∧
      (∀ j, j < N → defaultValue (iv_ty x j) = vp_V (iv_f0 x) j) ∧ ∀ sz b, (iv_f0 x).map (iv_v sz b) = iv_f0 x
  | .newarray t => Cond.arrayClass (newarray.typeOf t) ∈ iv_all
  | .anewarray n => Cond.classLink (iv_y μ).cls n iv_foN ∈ iv_all
  | _ => True
/-- what the tables must say where the library is called -/
def iv_okl (μ : Nat) (i : Instr) (x : Nat) : Prop := match i with
  | .invokespecial n => x = 6000 ∧ Cond.methodLink (iv_y μ).cls n Lib.objectInit ∈ iv_all ∧ Cond.instanceMethod Lib.objectInit ∈ iv_all ∧ Cond.code Lib.objectInit ⟨#[0xb1]⟩ 1 none ∈ iv_all
  | .invokestatic n => (x = 7000 ∧ Cond.methodLink (iv_y μ).cls n Lib.Math.max.name ∈ iv_all ∧ Cond.static Lib.Math.max.name ∈ iv_all ∧ Cond.initialized "java/lang/Math" ∈ iv_all ∧ Cond.code Lib.Math.max.name Lib.Math.max.code 2 (some .int) ∈ iv_all) ∨
      (x = 8000 ∧ Cond.methodLink (iv_y μ).cls n Lib.Math.min.name ∈ iv_all ∧ Cond.static Lib.Math.min.name ∈ iv_all ∧ Cond.initialized "java/lang/Math" ∈ iv_all ∧ Cond.code Lib.Math.min.name Lib.Math.min.code 2 (some .int) ∈ iv_all) ∨
      (x = 9000 ∧ Cond.methodLink (iv_y μ).cls n arraycopyName ∈ iv_all ∧ Cond.native arraycopyName ∈ iv_all ∧ Cond.static arraycopyName ∈ iv_all ∧ Cond.initialized "java/lang/System" ∈ iv_all)
  | _ => False
section
variable {p : Program} {l : Launch} {e : Env} {R : Room} {s : State} {m : MethodId} {args : Array Value} {below : List Frame} {meth : Method} {c : Code} {H : Heap} {locs : List Loc} {cells slots : Nat} {Q : State → Prop} {ls : Array Slot} {sz b L : Nat} {xs : Nat → Int32} {tc : Nat → ClassId} {D : va_G} {μ pc x pc2 : Nat} {i : Instr} {lv lv2 : List (Nat × Value)} {st st2 : List Value} {w w2 : iv_W}
theorem iv_cat_sum (r : List Value) : ((r.map (iv_v sz b)).map fun v => v.category).sum = (r.map fun v => v.category).sum := by
  rw [List.map_map]
  congr 1
  exact List.map_congr_left fun v _ => iv_cat v
set_option maxHeartbeats 2000000 in
theorem iv_new_ok {y : iv_E} {r : List Value} {a len : Nat} (hx : p.tables.exec = Jvm.exec) (hb : c.code = iv_c μ) (hown : s.vm.findClass (iv_y μ).cls = some m.cls) (hts : ∀ w ∈ iv_all, w.before args s = true) (hK : va_K D iv_cl (iv_tys tc) s) (hO : va_AO iv_foN s) (hz0 : sz ≤ s.heap.size)
    (hP : va_P D iv_cl (iv_ws sz b tc w) H) (hS : va_S (iv_A sz) s.heap H locs) (hd : decode (iv_c μ) pc = .ok (i, iv_ln i x)) (ho : iv_okn μ i x) (h : iv_new i x st = some (y, r, a, len)) (hT : s.heap.size + cells = sz + w.length) (hc : cells + 1 ≤ R.cells) (hs : slots + a ≤ R.slots)
    (kk : ∀ H1 : Heap, va_P D iv_cl (iv_ws sz b tc (w ++ [y])) H1 → va_S (iv_A sz) s.heap H1 locs → W p l e R s m args below meth c H1 locs (cells + 1) (slots + a) Q (F0 m (pc + len) ls ((.ref (w.length + 1) :: r).map (iv_v sz b)))) :
    W p l e R s m args below meth c H locs cells slots Q (F0 m pc ls (st.map (iv_v sz b))) := by
  have hA : ∀ q, s.heap.size ≤ q → iv_A sz q := fun q h => Nat.le_trans hz0 h
  cases i
  case new n =>
    simp only [iv_new, Option.some.injEq, Prod.mk.injEq] at h
    obtain ⟨rfl, rfl, rfl, rfl⟩ := h
    obtain ⟨C, T, N, f1, rfl, f3, f4, f5, f6, f7, f8, f9⟩ := ho
    refine va_new (D := D) (cl := iv_cl) (ci := x) (fs := iv_f0 x) hx hb hts f3 (iv_ty x) f4 hown (hts _ f5) (hts _ f6) (hts _ f7) hK hP iv_D hS hA f1 f8 hc hs hd (fun q H1 q1 q2 q3 => ?_)
    intro T1 hT1 X
    have hq := iv_newAt X (by rw [hT1]; exact q1) q2 hT
    subst hq
    refine kk H1 ?_ q3 T1 hT1 X
    rw [← iv_ws_push]
    show va_P D iv_cl (iv_ws sz b tc w ++ [(sz + w.length, .inr (x, (iv_f0 x).map (iv_v sz b)))]) H1
    rw [f9]
    exact q1
  case newarray t =>
    simp only [iv_new] at h
    split at h
    · next n r0 e0 =>
      split at h
      · cases h
      · next hn =>
        have hn1 : ¬ n < 0 := fun z => hn (Or.inl z)
        have hn2 : n.toNatClampNeg ≤ 100000 := Nat.not_lt.mp fun z => hn (Or.inr z)
        rw [iv_p1_eq e0]
        cases t
        case int =>
          simp only [Option.some.injEq, Prod.mk.injEq] at h
          obtain ⟨rfl, rfl, rfl, rfl⟩ := h
          refine va_newa (D := D) (cl := iv_cl) (a0 := (n.toNatClampNeg, .inl (fun _ => 0))) hx hb (hts _ ho) (ty := .int) rfl hK hP iv_D hS hA (fun _ => rfl) hn1 rfl (by show _ * 4 ≤ _; omega) hc hs hd (fun q cA H1 q0 q1 q2 q3 => ?_)
          have hcA : cA = tc 0 := Option.some.inj (((q0.2 4 (cA, .int) rfl).2).symm.trans ((hK.2 0 (tc 0, .int) rfl).2))
          subst hcA
          intro T1 hT1 X
          have hq := iv_newAt X (by rw [hT1]; exact q1) q2 hT
          subst hq
          refine kk H1 ?_ q3 T1 hT1 X
          rw [← iv_ws_push]
          exact q1
        case boolean =>
          simp only [Option.some.injEq, Prod.mk.injEq] at h
          obtain ⟨rfl, rfl, rfl, rfl⟩ := h
          refine va_newa (D := D) (cl := iv_cl) (a0 := (n.toNatClampNeg, .inl (fun _ => 0))) hx hb (hts _ ho) (ty := .boolean) rfl hK hP iv_D hS hA (fun _ => rfl) hn1 rfl (by show _ * 1 ≤ _; omega) hc hs hd (fun q cA H1 q0 q1 q2 q3 => ?_)
          have hcA : cA = tc 1 := Option.some.inj (((q0.2 4 (cA, .boolean) rfl).2).symm.trans ((hK.2 1 (tc 1, .boolean) rfl).2))
          subst hcA
          intro T1 hT1 X
          have hq := iv_newAt X (by rw [hT1]; exact q1) q2 hT
          subst hq
          refine kk H1 ?_ q3 T1 hT1 X
          rw [← iv_ws_push]
          exact q1
        case long =>
          simp only [Option.some.injEq, Prod.mk.injEq] at h
          obtain ⟨rfl, rfl, rfl, rfl⟩ := h
          refine va_newa (D := D) (cl := iv_cl) (a0 := (n.toNatClampNeg, .inr (.inl (fun _ => 0)))) hx hb (hts _ ho) (ty := .long) rfl hK hP iv_D hS hA (fun _ => rfl) hn1 rfl (by show _ * 8 ≤ _; omega) hc hs hd (fun q cA H1 q0 q1 q2 q3 => ?_)
          have hcA : cA = tc 2 := Option.some.inj (((q0.2 4 (cA, .long) rfl).2).symm.trans ((hK.2 2 (tc 2, .long) rfl).2))
          subst hcA
          intro T1 hT1 X
          have hq := iv_newAt X (by rw [hT1]; exact q1) q2 hT
          subst hq
          refine kk H1 ?_ q3 T1 hT1 X
          rw [← iv_ws_push]
          exact q1
        all_goals cases h
    · cases h
  case anewarray n0 =>
    simp only [iv_new] at h
    split at h
    · next n r0 e0 =>
      split at h
      · cases h
      · next hn =>
        have hn1 : ¬ n < 0 := fun z => hn (Or.inl z)
        have hn2 : n.toNatClampNeg ≤ 100000 := Nat.not_lt.mp fun z => hn (Or.inr z)
        rw [iv_p1_eq e0]
        simp only [Option.some.injEq, Prod.mk.injEq] at h
        obtain ⟨rfl, rfl, rfl, rfl⟩ := h
        refine va_newq (D := D) (cl := iv_cl) hx hb hown (hts _ ho) hO hK hP iv_D hS hA hn1 rfl (by omega) hc hs hd (fun q cA H1 q0 q1 q2 q3 => ?_)
        have hcA : cA = tc 3 := by
          obtain ⟨kA, comp, -, -, -, h4⟩ := (q0.2 4 (cA, .object iv_foN) rfl).2
          obtain ⟨kA', comp', -, -, -, h4'⟩ := (hK.2 3 (tc 3, .object iv_foN) rfl).2
          exact Option.some.inj (h4.symm.trans h4')
        subst hcA
        intro T1 hT1 X
        have hq := iv_newAt X (by rw [hT1]; exact q1) q2 hT
        subst hq
        refine kk H1 ?_ q3 T1 hT1 X
        rw [← iv_ws_push]
        exact q1
    · cases h
  all_goals (simp only [iv_new] at h; cases h)
set_option maxHeartbeats 2000000 in
theorem iv_lib_ok (hx : p.tables.exec = Jvm.exec) (hb : c.code = iv_c μ) (hml : c.maxLocals = iv_L μ) (hown : s.vm.findClass (iv_y μ).cls = some m.cls) (hts : ∀ w ∈ iv_all, w.before args s = true) (hK : va_K D iv_cl (iv_tys tc) s)
    (hP : va_P D iv_cl (iv_ws sz b tc w) H) (hS : va_S (iv_A sz) s.heap H locs) (hl : lv_has ls (iv_L μ) (iv_lv sz b lv)) (hd : decode (iv_c μ) pc = .ok (i, iv_ln i x)) (ho : iv_okl μ i x) (h : iv_lib x st w = some (st2, w2)) (hfr : 8 ≤ R.frames) (hlo : 400 ≤ R.locals) (hc : cells ≤ R.cells) (hs : slots ≤ R.slots)
    (kk : ∀ (H1 : Heap) (locs1 : List Loc), va_P D iv_cl (iv_ws sz b tc w2) H1 → va_S (iv_A sz) s.heap H1 locs1 → W p l e R s m args below meth c H1 locs1 cells slots Q (F0 m (pc + 3) ls (st2.map (iv_v sz b)))) :
    W p l e R s m args below meth c H locs cells slots Q (F0 m pc ls (st.map (iv_v sz b))) := by
  have hsz : c.maxLocals = ls.size := by rw [hml, hl.1]
  cases i
  case invokespecial n =>
    obtain ⟨rfl, f1, f2, f3⟩ := ho
    simp only [iv_lib] at h
    split at h
    · next a r e0 =>
      split at h
      · next hr =>
        simp only [Option.some.injEq, Prod.mk.injEq] at h
        obtain ⟨rfl, rfl⟩ := h
        rw [iv_pr_eq e0]
        refine W.objInit (g := F0 m pc ls (.ref (iv_ad sz b a) :: r.map (iv_v sz b))) hx hb hown (hts _ f1) (hts _ f2) (hts _ f3) rfl hsz.symm rfl hd (by omega) ?_ ?_
        · rw [iv_cat_sum]
          show 2 * 0 + _ + 12 ≤ _
          omega
        · exact kk H locs hP hS
      · cases h
    · cases h
  case invokestatic n =>
    rcases ho with ⟨rfl, f1, f2, f3, f4⟩ | ⟨rfl, f1, f2, f3, f4⟩ | ⟨rfl, f1, f2, f3, f4⟩
    · simp only [iv_lib] at h
      split at h
      · next y z r e0 =>
        split at h
        · next hr =>
          simp only [Option.some.injEq, Prod.mk.injEq] at h
          obtain ⟨rfl, rfl⟩ := h
          rw [iv_p2_eq e0]
          exact va_mmax hx hb hsz hown (hts _ f1) (hts _ f2) (hts _ f3) (hts _ f4) (by omega) (by rw [iv_cat_sum]; omega) hc hs hd (kk H locs hP hS)
        · cases h
      · cases h
    · simp only [iv_lib] at h
      split at h
      · next y z r e0 =>
        split at h
        · next hr =>
          simp only [Option.some.injEq, Prod.mk.injEq] at h
          obtain ⟨rfl, rfl⟩ := h
          rw [iv_p2_eq e0]
          exact va_mmin hx hb hsz hown (hts _ f1) (hts _ f2) (hts _ f3) (hts _ f4) (by omega) (by rw [iv_cat_sum]; omega) hc hs hd (kk H locs hP hS)
        · cases h
      · cases h
    · simp only [iv_lib] at h
      split at h
      · next n0 dp a sp a0 r e0 =>
        have est : st = .int n0 :: .int dp :: .ref a :: .int sp :: .ref a0 :: r := by
          unfold iv_cp at e0; split at e0 <;> cases e0; rfl
        split at h
        · next m0 f m1 g e1 e2 =>
          split at h
          · next hh =>
            simp only [Option.some.injEq, Prod.mk.injEq] at h
            obtain ⟨rfl, rfl⟩ := h
            rw [est]
            obtain ⟨k0, rfl, hw0⟩ := iv_ai_eq e1
            obtain ⟨k1, rfl, hw1⟩ := iv_ai_eq e2
            have hnf : nativeFrameWords "java/lang/System" "arraycopy" 5 ≤ 7 := by decide
            refine va_copyi (D := D) (cl := iv_cl) (ty := .int) hx hb hsz hown (hts _ f1) (hts _ f2) (hts _ f3) (hts _ f4) hK hP iv_D hS k0 k1 0 0 (iv_ws_at hw0) (iv_ws_at hw1) rfl rfl rfl hh.2.1 hh.2.2.1 hh.2.2.2.1 hh.2.2.2.2.1 hh.2.2.2.2.2 (fun _ _ => rfl) (by omega) (by rw [iv_cat_sum]; omega) hd (fun H1 locs1 q1 q2 q3 => kk H1 locs1 ?_ q3)
            rw [← iv_ws_set]
            exact q1
          · cases h
        · cases h
      · cases h
  all_goals exact ho.elim
end
/-! calls -/
def iv_okc (μ : Nat) (i : Instr) (x : Nat) : Prop :=
  (iv_y (x % 1000)).cls ≠ "java/lang/invoke/MethodHandle" ∧ (iv_y (x % 1000)).cls ≠ "java/lang/invoke/VarHandle" ∧ (parseMethodDescriptor (iv_y (x % 1000)).desc).map (fun d => d.parameters.length) = some (iv_np (x % 1000)) ∧ plainName (iv_y (x % 1000)).cls = true ∧
  Cond.initialized (iv_y (x % 1000)).cls ∈ iv_all ∧ iv_cw (x % 1000) ∈ iv_all ∧ iv_L (x % 1000) ≤ 60 ∧ x % 1000 < iv_nm ∧ match i with
  | .invokevirtual n => Cond.instanceMethod (iv_y (x % 1000)) ∈ iv_all ∧ Cond.selects (iv_y (x % 1000)).cls (iv_y (x % 1000)) (iv_y (x % 1000)) ∈ iv_all ∧ iv_h (x % 1000) = [] ∧ (∃ q : vw_C, iv_cl[iv_cn (x % 1000)]? = some q ∧ q.1 = (iv_y (x % 1000)).cls) ∧
      ((x / 1000 = 0 ∧ Cond.methodLink (iv_y μ).cls n (iv_y (x % 1000)) ∈ iv_all) ∨ (x / 1000 = 1 ∧ ∃ host, ((iv_y μ).cls, n, iv_y (x % 1000), host) ∈ iv_nest))
  | .invokestatic n => Cond.static (iv_y (x % 1000)) ∈ iv_all ∧ ((x / 1000 = 2 ∧ Cond.methodLink (iv_y μ).cls n (iv_y (x % 1000)) ∈ iv_all) ∨ (x / 1000 = 3 ∧ iv_h (x % 1000) = [] ∧ ∃ host, ((iv_y μ).cls, n, iv_y (x % 1000), host) ∈ iv_nest))
  | .invokespecial n => (iv_y (x % 1000)).name = "<init>" ∧ Cond.instanceMethod (iv_y (x % 1000)) ∈ iv_all ∧ iv_r (x % 1000) = none ∧ iv_h (x % 1000) = [] ∧
      ((x / 1000 = 4 ∧ Cond.methodLink (iv_y μ).cls n (iv_y (x % 1000)) ∈ iv_all) ∨ (x / 1000 = 5 ∧ ∃ host, ((iv_y μ).cls, n, iv_y (x % 1000), host) ∈ iv_nest))
  | _ => False
end
section
/-! a run of the machine is a walk of the model -/
theorem iv_lg (vs : List Value) : (lg_sl vs).length = (vs.map fun v => v.category).sum := by
  induction vs with
  | nil => rfl
  | cons v vs ih =>
    rw [List.map_cons, List.sum_cons, ← ih]
    unfold lg_sl
    rw [List.flatMap_cons, List.length_append]
    rcases lv_cat v with h | h <;> simp [h]
def iv_Hx (μ : Nat) (c : Code) : Prop := c.exceptionTable.toList.map (fun h => (h.startPc, h.endPc, h.handlerPc, h.catchType)) = iv_hh μ
/-- what the tables must say at a throw -/
def iv_okt (μ pc : Nat) (i : Instr) (x : Nat) : Prop := match i with
  | .new n => 1000 ≤ x ∧ x < 1003 ∧ Cond.classLink (iv_y μ).cls n (iv_xnm (x - 1000)) ∈ iv_all ∧ decode (iv_c μ) (pc + 3) = .ok (.dup, 1) ∧ decode (iv_c μ) (pc + 4) = .ok (.invokespecial (iv_ic (x - 1000)), 3) ∧ decode (iv_c μ) (pc + 7) = .ok (.athrow, 1) ∧ iv_hh μ = [] ∧ (iv_y μ).cls = "FatVolume"
  | _ => False
/-- what the tables say at every place of every method -/
def iv_Tab : Prop := ∀ μ pc i x, iv_look (iv_t μ) pc = some (i, x) → μ < iv_nm ∧ iv_ok μ pc i x ∧ (iv_kd i x = 3 → iv_okn μ i x) ∧ (iv_kd i x = 4 → iv_okl μ i x) ∧ (iv_kd i x = 5 → iv_okc μ i x) ∧ (iv_kd i x = 2 → iv_okt μ pc i x)
def iv_Sound (L : Nat) (xs : Nat → Int32) (sz b : Nat) (D : va_G) (tc : Nat → ClassId) (n : Nat) : Prop :=
  ∀ (d μ pc : Nat) (lv : List (Nat × Value)) (st : List Value) (w : iv_W) (tg : Bool) (k z : Nat) (o : Option Value ⊕ Nat) (w2 : iv_W) (tg2 : Bool) (k2 z2 : Nat), iv_run L xs n d μ pc lv st w tg k z = some (o, w2, tg2, k2, z2) →
  ∀ (p : Program) (l : Launch) (e : Env) (R : Room) (s : State) (m : MethodId) (args : Array Value) (below : List Frame) (meth : Method) (c : Code) (H : Heap) (locs : List Loc) (ls : Array Slot) (Q : State → Prop),
    p.tables.exec = Jvm.exec → c.code = iv_c μ → c.maxLocals = iv_L μ → s.vm.findClass (iv_y μ).cls = some m.cls → (∀ w ∈ iv_all, w.before args s = true) → meth.locks = false → meth.name = (iv_y μ).name → iv_Hx μ c → iv_Ln l → iv_St L xs sz b D tc s →
    va_P D iv_cl (iv_ws sz b tc w) H → va_S (iv_A sz) s.heap H locs → lv_has ls (iv_L μ) (iv_lv sz b lv) → (tg = true → s.heap.size + k = sz + w.length) → d + 8 ≤ R.frames → 100 * d + 400 ≤ R.locals → k2 ≤ R.cells → z2 ≤ R.slots →
    (∀ v, o = .inl v → ∀ (pc1 : Nat) (i1 : Instr) (x1 : Nat) (st1 : List Value) (H1 : Heap) (locs1 : List Loc) (ls1 : Array Slot), decode (iv_c μ) pc1 = .ok (i1, iv_ln i1 x1) → iv_ret (iv_r μ) i1 st1 = some v → va_P D iv_cl (iv_ws sz b tc w2) H1 → va_S (iv_A sz) s.heap H1 locs1 →
      W p l e R s m args below meth c H1 locs1 k2 z2 Q (F0 m pc1 ls1 (st1.map (iv_v sz b)))) →
    (∀ q, o = .inr q → ∀ (x : Addr) (U : State) (locs1 : List Loc), U.status = .running → Ended U below (.threw x) → s.WarmedH U.vm → s.sameButNew ({ U with vm := s.vm } : State) locs1 k2 z2 → va_S (iv_A sz) s.heap U.heap locs1 → va_P D iv_cl (iv_ws sz b tc w2) U.heap → iv_Ex q x U → Q U) →
    W p l e R s m args below meth c H locs k z Q (F0 m pc ls (st.map (iv_v sz b)))
section
variable {L : Nat} {xs : Nat → Int32} {sz b : Nat} {D : va_G} {tc : Nat → ClassId} {n : Nat}
/-- the words of a method, in its own order -/
abbrev iv_wsm (μ : Nat) : List Cond := iv_cw μ :: iv_all
/-- a method that comes back, as a contract -/
theorem iv_met (ih : iv_Sound L xs sz b D tc n) (l : Launch) (hLn : iv_Ln l) {d μ : Nat} {as : List Value} {w : iv_W} {tg : Bool} {v : Option Value} {w2 : iv_W} {tg2 : Bool} {k2 z2 : Nat} (h : iv_run L xs n d μ 0 (lv_args 0 as) [] w tg 0 0 = some (.inl v, w2, tg2, k2, z2))
    (hpl : plainName (iv_y μ).cls = true) (hfit : (as.map fun v => v.category).sum ≤ iv_L μ) (hhh : iv_h μ = [] → iv_hh μ = []) :
    Met l (iv_y μ) (iv_wsm μ) (iv_rm d k2 z2) (iv_Pc L xs sz b D tc as w tg) (iv_Qr sz b D tc v w2) k2 z2 (iv_A sz) := by
  have body : ∀ p e s m args below meth c s₁, BodyLoose p l (iv_y μ) (headSpec (iv_wsm μ) (iv_rm d k2 z2)) (iv_c μ) (iv_L μ) (iv_r μ) e s m args below meth c s₁ → c.maxLocals = iv_L μ → iv_Pc L xs sz b D tc as w tg args s → iv_Hx μ c →
      W p l e (headSpec (iv_wsm μ) (iv_rm d k2 z2)).room s m args below meth c s.heap [] 0 0 (MQ below (iv_Qr sz b D tc v w2) args s k2 z2 (iv_A sz)) (entryFrame m args (iv_L μ)) := by
    intro p e s m args below meth c s₁ B hml hv hHx
    obtain ⟨rfl, hSt, hP, hsz⟩ := hv
    have hts := atoms_spec (ws := iv_wsm μ) B.pre
    have hl := lv_entry (as.map (iv_v sz b)) (n := iv_L μ) (by rw [iv_lg, iv_cat_sum]; exact hfit)
    rw [lg_entry_eq]
    rw [iv_args] at hl
    refine ih d μ 0 _ [] w tg 0 0 _ _ _ _ _ h p l e _ s m _ below meth c s.heap [] _ _ B.exec B.bytes hml (findClass_of_methodNamed B.named) (fun w hw => hts w (List.mem_cons_of_mem _ hw)) B.notSynchronized (name_of_methodNamed B.named B.method).1 hHx hLn hSt hP va_S.rf hl
      (fun ht => hsz ht) (Nat.le_refl _) (Nat.le_refl _) (Nat.le_refl _) (Nat.le_refl _) ?_ (fun q hq => by cases hq)
    intro v1 hv1 pc1 i1 x1 st1 H1 locs1 ls1 hd1 hr1 hP1 hS1
    cases hv1
    exact iv_ret_ok B.exec B.bytes B.returns B.notSynchronized hd1 hr1 (fun t ht hW => ⟨rfl, by rw [ht]; exact hP1, hS1.F ht⟩) hS1.2.2 (Nat.le_refl _) (Nat.le_refl _)
  cases hh : iv_h μ with
  | nil =>
    have hcw : iv_cw μ = .code (iv_y μ) (iv_c μ) (iv_L μ) (iv_r μ) := by unfold iv_cw; rw [hh]
    refine Met.ofW (cc := iv_c μ) (maxL := iv_L μ) (ret := iv_r μ) (ws' := iv_all) hpl (by show iv_cw μ :: iv_all = _; rw [hcw]) ?_
    intro p e s m args below meth c s₁ B hml hv
    refine body p e s m args below meth c s₁ B hml hv ?_
    have hts := atoms_spec (ws := iv_wsm μ) B.pre
    have h0 := B.noHandlers (by have := hts _ List.mem_cons_self; rw [hcw] at this; exact this)
    unfold iv_Hx
    rw [hhh hh]
    have h1 : c.exceptionTable.toList = [] := List.eq_nil_of_length_eq_zero (by simpa [Array.isEmpty] using h0)
    rw [h1]
    rfl
  | cons h0 r0 =>
    have hcw : iv_cw μ = .codeWith (iv_y μ) (iv_c μ) (iv_L μ) (iv_r μ) (iv_hh μ) := by unfold iv_cw; rw [hh]
    refine va_MetW (cc := iv_c μ) (maxL := iv_L μ) (ret := iv_r μ) (hh := iv_hh μ) (ws' := iv_all) hpl (by show iv_cw μ :: iv_all = _; rw [hcw]) ?_
    intro p e s m args below meth c s₁ B hml hv
    refine body p e s m args below meth c s₁ B hml hv ?_
    have hts := atoms_spec (ws := iv_wsm μ) B.pre
    have h1 := hts _ List.mem_cons_self
    rw [hcw] at h1
    obtain ⟨m', meth', c', hn', hm', hc', -, -, htab, -, -, -⟩ := Cond.codeWith_spec h1
    cases B.named.symm.trans hn'
    cases B.method.symm.trans hm'
    cases (Stand.of_body B).code.symm.trans hc'
    exact htab
/-- a method that throws, as a contract -/
theorem iv_metT (ih : iv_Sound L xs sz b D tc n) (l : Launch) (hLn : iv_Ln l) {d μ : Nat} {as : List Value} {w : iv_W} {tg : Bool} {q : Nat} {w2 : iv_W} {tg2 : Bool} {k2 z2 : Nat} (h : iv_run L xs n d μ 0 (lv_args 0 as) [] w tg 0 0 = some (.inr q, w2, tg2, k2, z2))
    (hpl : plainName (iv_y μ).cls = true) (hfit : (as.map fun v => v.category).sum ≤ iv_L μ) (hh : iv_h μ = []) (hhh : iv_hh μ = []) :
    iv_MetT l (iv_y μ) (iv_wsm μ) (iv_rm d k2 z2) (iv_Pc L xs sz b D tc as w tg) (iv_Qt sz b D tc q w2) k2 z2 (iv_A sz) := by
  have hcw : iv_cw μ = .code (iv_y μ) (iv_c μ) (iv_L μ) (iv_r μ) := by unfold iv_cw; rw [hh]
  refine iv_MetT_of (cc := iv_c μ) (maxL := iv_L μ) (ret := iv_r μ) (ws' := iv_all) hpl (by show iv_cw μ :: iv_all = _; rw [hcw]) ?_
  intro p e s m args below meth c s₁ B hml hv
  obtain ⟨rfl, hSt, hP, hsz⟩ := hv
  have hts := atoms_spec (ws := iv_wsm μ) B.pre
  have h0 := B.noHandlers (by have := hts _ List.mem_cons_self; rw [hcw] at this; exact this)
  have hHx : iv_Hx μ c := by
    unfold iv_Hx
    rw [hhh]
    have h1 : c.exceptionTable.toList = [] := List.eq_nil_of_length_eq_zero (by simpa [Array.isEmpty] using h0)
    rw [h1]
    rfl
  have hl := lv_entry (as.map (iv_v sz b)) (n := iv_L μ) (by rw [iv_lg, iv_cat_sum]; exact hfit)
  rw [lg_entry_eq]
  rw [iv_args] at hl
  refine ih d μ 0 _ [] w tg 0 0 _ _ _ _ _ h p l e _ s m _ below meth c s.heap [] _ _ B.exec B.bytes hml (findClass_of_methodNamed B.named) (fun w hw => hts w (List.mem_cons_of_mem _ hw)) B.notSynchronized (name_of_methodNamed B.named B.method).1 hHx hLn hSt hP va_S.rf hl
    (fun ht => hsz ht) (Nat.le_refl _) (Nat.le_refl _) (Nat.le_refl _) (Nat.le_refl _) (fun v hv => by cases hv) ?_
  intro q1 hq1 x U locs1 u1 u2 u3 u4 u5 u6 u7
  cases hq1
  exact ⟨x, u1, u2, ⟨⟨x, rfl, u7⟩, u6, u5.F rfl⟩, u3, locs1, u4, u5.2.2⟩
end
section
variable {p : Program} {l : Launch} {e : Env} {R : Room} {s : State} {m : MethodId} {args : Array Value} {below : List Frame} {meth : Method} {c : Code} {H : Heap} {locs : List Loc} {cells slots : Nat} {Q : State → Prop} {ls : Array Slot} {sz b L : Nat} {xs : Nat → Int32} {tc : Nat → ClassId} {D : va_G} {μ pc x : Nat} {i : Instr} {lv : List (Nat × Value)} {w w2 : iv_W}
theorem iv_room_f {d f : Nat} (h : d + 1 + 8 ≤ f) : d + 8 + 1 ≤ f := by omega
set_option maxRecDepth 100000 in
theorem iv_room_l {d q f : Nat} (h7 : q ≤ 60) (h : 100 * (d + 1) + 400 ≤ f) : 8 + (q + 11) + (100 * d + 400) ≤ f := by omega
theorem iv_room_w {k : Nat} (h : k ≤ 8) : 2 * 0 + k ≤ 8 := by omega
theorem iv_good_in (ν : Nat) (h : iv_cw ν ∈ iv_all) : GoodIn iv_all (iv_wsm ν) := by
  intro w hw
  have hw2 : w ∈ iv_all := by
    rcases List.mem_cons.mp hw with rfl | hw
    · exact h
    · exact hw
  exact ⟨hw2, iv_good w hw2⟩
theorem iv_pre {tg : Bool} {as : List Value} (hSt : iv_St L xs sz b D tc s) (hP : va_P D iv_cl (iv_ws sz b tc w) H) (hS : va_S (iv_A sz) s.heap H locs) (hsz : tg = true → H.size = sz + w.length) : PreS s H (iv_Pc L xs sz b D tc as w tg) (as.map (iv_v sz b)) := by
  refine ⟨iv_Pc_blind, fun U hU hW => ⟨rfl, ?_, ?_, ?_⟩⟩
  · have hz := hSt.2.2.2.2.2.1
    refine iv_St_moved hSt hW (fun q hq => ?_) ?_
    · rw [hU]
      exact hS.2.1 q (Nat.lt_of_lt_of_le hq hz) (Nat.not_le.mpr hq)
    · rw [hU]
      exact Nat.le_trans hz hS.1
  · rw [hU]; exact hP
  · rw [hU]; exact hsz
/-- a static call of a method with handlers -/
theorem iv_runSW {y : MethodName} {bytes cc : ByteArray} {maxL nL mc ms n index : Nat} {ret : Option FieldType} {hh : List (Nat × Nat × Nat × Nat)} {ws : List Cond} {rm : Room} {Pc : Array Value → State → Prop} {Qc : Array Value → State → Outcome → State → Prop} {free : Addr → Prop} {Ts : List Cond} {own : String} {As rest : List Value} {g : JFrame}
    (S : CallFix p m c cc nL s args Ts own) (hM : Met l y ws rm Pc Qc mc ms free) (hrc : rm.cells = mc) (hrs : rm.slots = ms) (hfr : rm.frames + 1 ≤ R.frames) (hlo : 8 + (maxL + 11) + rm.locals ≤ R.locals) (hws : ∀ w ∈ ws, ∀ (a' : Array Value) (U : State), s.WarmedH U.vm → w.before a' U = true) (hcw : Cond.codeWith y bytes maxL ret hh ∈ ws)
    (hcode : (Cond.codeWith y bytes maxL ret hh).before args s = true) (hini : (Cond.initialized y.cls).before args s = true) (hy : y.cls ≠ "java/lang/invoke/MethodHandle" ∧ y.cls ≠ "java/lang/invoke/VarHandle") (hlen : (parseMethodDescriptor y.desc).map (fun d => d.parameters.length) = some n) (hl : (Cond.methodLink own index y).before args s = true) (hstt : (Cond.static y).before args s = true) (hp : PreS s H Pc As)
    (hg : g.method = m) (hn : As.length = n) (hsize : g.locals.size = nL) (hstack : g.stack = As.reverse ++ rest) (hW : 2 * g.monitorRoom + (rest.map fun v => v.category).sum ≤ 8) (hdg : decode cc g.pc = .ok (.invokestatic index, 3)) (hf : cells + mc ≤ R.cells ∧ slots + ms ≤ R.slots) :
    va_Run p l e R s m args below meth c H locs cells slots mc ms g rest (Qc As.toArray) (free) := by
  have hK : Back l R p e below s args y 3 8 (PreOf R mc ms Pc) (PostOf Qc mc ms free) := va_backW (hh := hh) (bytes := bytes) (maxL := maxL) (ret := ret) hM hp.1 hrc hrs hfr hlo hws hcw (fun a' U hW => word_at hW (Or.inl (by first | rfl | simp [Cond.onTables, Cond.keeps, Cond.steady])) hini)
  obtain ⟨hx, hb, hml, ho, -⟩ := S
  intro T hT X
  obtain ⟨mk, methM, cM, hnamed, hmethM, -, -, -, -, -, -, hsigM⟩ := Cond.codeWith_spec hcode
  have hstatic : methM.isStatic = true := Cond.static_spec hnamed hmethM hstt
  obtain ⟨kP, hkP, -⟩ := className_of_methodNamed hnamed
  have hinitP : kP.init = .initialized := Cond.initialized_spec (findClass_of_methodNamed hnamed) hkP hini
  have hlen' : As.length = methM.sig.parameters.length := by
    rw [hsigM] at hlen
    exact hn.trans (Option.some.inj hlen).symm
  obtain ⟨vm₁, X₁, hstep₁⟩ := X.invokestatic hx ho hl hnamed hmethM hstatic hkP hinitP hy (g := g) hg (argsL := As) (rest := rest) hlen' hstack (by rw [hb]; exact hdg)
  obtain ⟨v, ⟨U', l2, c2, s2⟩, X', ⟨g', mk', t, L, e1, e2, hq, h1, hL, h2, h3⟩, hsteps⟩ := hK m meth c ⟨T.setVm vm₁, locs, cells, slots⟩ { g with stack := rest } (.invokestatic index) mk As.toArray X₁ hg (hsize.trans hml.symm) (by rw [hb]; exact hdg) hW (X₁.named hnamed) ⟨hf.1, hf.2, hp.2 (T.setVm vm₁) hT X₁.warmed⟩
  dsimp only [Pt.U, Pt.locs, Pt.cells, Pt.slots] at X' e1 e2 h1 h2 h3 hsteps
  subst h1; subst h2; subst h3
  exact ⟨v, (T.setVm vm₁).calling g' mk' As.toArray, t, U', L, hT, X', hL, e1, e2, hq, fun target h => hstep₁ _ fun acts => by rw [doInvoke_state]; exact hsteps.trans h⟩
set_option maxHeartbeats 4000000 in
theorem iv_callR {d k2 z2 : Nat} {tg : Bool} {as rest : List Value} {v : Option Value} (hx : p.tables.exec = Jvm.exec) (hb : c.code = iv_c μ) (hml : c.maxLocals = iv_L μ) (hown : s.vm.findClass (iv_y μ).cls = some m.cls) (hts : ∀ w ∈ iv_all, w.before args s = true) (hSt : iv_St L xs sz b D tc s)
    (hP : va_P D iv_cl (iv_ws sz b tc w) H) (hS : va_S (iv_A sz) s.heap H locs) (hl : lv_has ls (iv_L μ) (iv_lv sz b lv)) (hsz : tg = true → H.size = sz + w.length) (hd : decode (iv_c μ) pc = .ok (i, iv_ln i x)) (ho : iv_okc μ i x)
    (hM : Met l (iv_y (x % 1000)) (iv_wsm (x % 1000)) (iv_rm d k2 z2) (iv_Pc L xs sz b D tc as w tg) (iv_Qr sz b D tc v w2) k2 z2 (iv_A sz)) (hfr : d + 1 + 8 ≤ R.frames) (hlo : 100 * (d + 1) + 400 ≤ R.locals) (hk : cells + k2 ≤ R.cells) (hz : slots + z2 ≤ R.slots)
    (hlen : as.length = iv_cv (iv_np (x % 1000)) (x / 1000)) (hrest : (rest.map fun v => v.category).sum ≤ 8) (hrc : iv_rc w (x / 1000) (x % 1000) as = true) :
    va_Run p l e R s m args below meth c H locs cells slots k2 z2 (F0 m pc ls ((as.reverse ++ rest).map (iv_v sz b))) (rest.map (iv_v sz b)) (iv_Qr sz b D tc v w2 (as.map (iv_v sz b)).toArray) (iv_A sz) := by
  obtain ⟨f1, f2, f3, f4, f5, f6, f7, f0, f8⟩ := ho
  have hG := iv_good_in (x % 1000) f6
  have hS0 : CallFix p m c (iv_c μ) (iv_L μ) s args iv_all (iv_y μ).cls := ⟨hx, hb, hml, hown, hts⟩
  have hpre := iv_pre (as := as) hSt hP hS hsz
  have hR : (iv_rm d k2 z2).frames + 1 ≤ R.frames ∧ 8 + (iv_L (x % 1000) + 11) + (iv_rm d k2 z2).locals ≤ R.locals := ⟨iv_room_f hfr, iv_room_l f7 hlo⟩
  have hW : 2 * (F0 m pc ls ((as.reverse ++ rest).map (iv_v sz b))).monitorRoom + ((rest.map (iv_v sz b)).map fun v => v.category).sum ≤ 8 := by
    rw [iv_cat_sum]
    exact iv_room_w hrest
  have hwn : ∀ (n : Nat) (host : String), ((iv_y μ).cls, n, iv_y (x % 1000), host) ∈ iv_nest → va_Nw (.methodLinkNest (iv_y μ).cls n (iv_y (x % 1000)) host) s := fun n host h => hSt.2.1 _ h
  cases i
  case invokevirtual n =>
    obtain ⟨g1, g2, g3, ⟨q, g4, g5⟩, g6⟩ := f8
    have hcw : iv_wsm (x % 1000) = .code (iv_y (x % 1000)) (iv_c (x % 1000)) (iv_L (x % 1000)) (iv_r (x % 1000)) :: iv_all := by
      show iv_cw (x % 1000) :: iv_all = _
      unfold iv_cw
      rw [g3]
    unfold iv_rc at hrc
    rw [Bool.and_eq_true] at hrc
    obtain ⟨a, as2, fs, rfl, hobj⟩ : ∃ a as2 fs, as = .ref a :: as2 ∧ iv_obj w a (iv_cn (x % 1000)) = some fs := by
      have h2 := hrc.2
      rcases g6 with ⟨h0, -⟩ | ⟨h0, -⟩ <;> rw [h0] at h2 <;> (cases as with
        | nil => cases h2
        | cons v as2 => cases v <;> first | (obtain ⟨fs, hfs⟩ := Option.isSome_iff_exists.mp h2; exact ⟨_, _, fs, rfl, hfs⟩) | cases h2)
    obtain ⟨k, rfl, hw⟩ := iv_obj_eq hobj
    have hrecv := va_recv hSt.1 hP g4 (iv_ws_at hw)
    rw [g5] at hrecv
    have hpv : PreV s H (iv_y (x % 1000)).cls (iv_ad sz b (k + 1)) (iv_Pc L xs sz b D tc (.ref (k + 1) :: as2) w tg) (as2.map (iv_v sz b)) := ⟨hpre.1, hrecv, hpre.2⟩
    have hn2 : (as2.map (iv_v sz b)).length = iv_np (x % 1000) := by
      rw [List.length_map]
      have h2 := hlen
      unfold iv_cv at h2
      rcases g6 with ⟨h0, -⟩ | ⟨h0, -⟩ <;> rw [h0] at h2 <;> simpa using h2
    have hstk : (((.ref (k + 1) :: as2).reverse ++ rest).map (iv_v sz b)) = (as2.map (iv_v sz b)).reverse ++ .ref (iv_ad sz b (k + 1)) :: rest.map (iv_v sz b) := by simp [iv_v]
    rcases g6 with ⟨h0, h1⟩ | ⟨h0, host, h1⟩
    · exact va_runV hS0 hM ⟨callB_of (iv_np (x % 1000)) hts hG hcw rfl rfl (hts _ f5) (hts _ h1) ⟨f1, f2, f3⟩ hR, hts _ g1, hts _ g2⟩ hpv rfl hn2 hl.1 hstk hW hd ⟨hk, hz⟩
    · exact va_runVN hS0 hM ⟨va_cnB (iv_np (x % 1000)) hts hG hcw rfl rfl (hwn n host h1) (hts _ f5) ⟨f1, f2, f3⟩ hR, hts _ g1, hts _ g2⟩ hpv rfl hn2 hl.1 hstk hW hd ⟨hk, hz⟩
  case invokestatic n =>
    obtain ⟨g1, g6⟩ := f8
    have hn2 : (as.map (iv_v sz b)).length = iv_np (x % 1000) := by
      rw [List.length_map]
      have h2 := hlen
      unfold iv_cv at h2
      rcases g6 with ⟨h0, -⟩ | ⟨h0, -⟩ <;> rw [h0] at h2 <;> simpa using h2
    have hstk : ((as.reverse ++ rest).map (iv_v sz b)) = (as.map (iv_v sz b)).reverse ++ rest.map (iv_v sz b) := by simp
    rcases g6 with ⟨h0, h1⟩ | ⟨h0, g3, host, h1⟩
    · cases hh : iv_h (x % 1000) with
      | nil =>
        have hcw : iv_wsm (x % 1000) = .code (iv_y (x % 1000)) (iv_c (x % 1000)) (iv_L (x % 1000)) (iv_r (x % 1000)) :: iv_all := by
          show iv_cw (x % 1000) :: iv_all = _
          unfold iv_cw
          rw [hh]
        exact va_runS hS0 hM ⟨callB_of (iv_np (x % 1000)) hts hG hcw rfl rfl (hts _ f5) (hts _ h1) ⟨f1, f2, f3⟩ hR, hts _ g1⟩ hpre rfl hn2 hl.1 hstk hW hd ⟨hk, hz⟩
      | cons h9 r9 =>
        have hcw : iv_cw (x % 1000) = .codeWith (iv_y (x % 1000)) (iv_c (x % 1000)) (iv_L (x % 1000)) (iv_r (x % 1000)) (iv_hh (x % 1000)) := by
          unfold iv_cw
          rw [hh]
        exact iv_runSW hS0 hM rfl rfl hR.1 hR.2 (pay_in hts hG) (hh := iv_hh (x % 1000)) (by rw [← hcw]; exact List.mem_cons_self) (by rw [← hcw]; exact hts _ f6) (hts _ f5) ⟨f1, f2⟩ f3 (hts _ h1) (hts _ g1) hpre rfl hn2 hl.1 hstk hW hd ⟨hk, hz⟩
    · have hcw : iv_wsm (x % 1000) = .code (iv_y (x % 1000)) (iv_c (x % 1000)) (iv_L (x % 1000)) (iv_r (x % 1000)) :: iv_all := by
        show iv_cw (x % 1000) :: iv_all = _
        unfold iv_cw
        rw [g3]
      exact va_runSN hS0 hM ⟨va_cnB (iv_np (x % 1000)) hts hG hcw rfl rfl (hwn n host h1) (hts _ f5) ⟨f1, f2, f3⟩ hR, hts _ g1, trivial⟩ hpre rfl hn2 hl.1 hstk hW hd ⟨hk, hz⟩
  case invokespecial n =>
    obtain ⟨g1, g2, g3, g4, g6⟩ := f8
    have hcw : iv_wsm (x % 1000) = .code (iv_y (x % 1000)) (iv_c (x % 1000)) (iv_L (x % 1000)) none :: iv_all := by
      show iv_cw (x % 1000) :: iv_all = _
      unfold iv_cw
      rw [g4, g3]
    unfold iv_rc at hrc
    rw [Bool.and_eq_true] at hrc
    obtain ⟨a, as2, rfl⟩ : ∃ a as2, as = .ref a :: as2 := by
      have h2 := hrc.2
      rcases g6 with ⟨h0, -⟩ | ⟨h0, -⟩ <;> rw [h0] at h2 <;> (cases as with
        | nil => cases h2
        | cons v as2 => cases v <;> first | exact ⟨_, _, rfl⟩ | cases h2)
    have hn2 : (as2.map (iv_v sz b)).length = iv_np (x % 1000) := by
      rw [List.length_map]
      have h2 := hlen
      unfold iv_cv at h2
      rcases g6 with ⟨h0, -⟩ | ⟨h0, -⟩ <;> rw [h0] at h2 <;> simpa using h2
    have hstk : (((.ref a :: as2).reverse ++ rest).map (iv_v sz b)) = (as2.map (iv_v sz b)).reverse ++ .ref (iv_ad sz b a) :: rest.map (iv_v sz b) := by simp [iv_v]
    rcases g6 with ⟨h0, h1⟩ | ⟨h0, host, h1⟩
    · exact va_runI hS0 hM ⟨callB_of (iv_np (x % 1000)) hts hG hcw rfl rfl (hts _ f5) (hts _ h1) ⟨f1, f2, f3⟩ hR, g1, hts _ g2⟩ hpre rfl hn2 hl.1 hstk hW hd ⟨hk, hz⟩
    · exact va_runIN hS0 hM ⟨va_cnB (iv_np (x % 1000)) hts hG hcw rfl rfl (hwn n host h1) (hts _ f5) ⟨f1, f2, f3⟩ hR, g1, hts _ g2⟩ hpre rfl hn2 hl.1 hstk hW hd ⟨hk, hz⟩
  all_goals exact f8.elim
end
end
section
/-! throws and calls that throw -/
section
variable {p : Program} {l : Launch} {e : Env} {R : Room} {s : State} {m : MethodId} {args : Array Value} {below : List Frame} {meth : Method} {c : Code} {H : Heap} {locs : List Loc} {cells slots : Nat} {Q : State → Prop} {ls : Array Slot} {sz b L : Nat} {xs : Nat → Int32} {tc : Nat → ClassId} {D : va_G} {μ pc x : Nat} {i : Instr} {lv : List (Nat × Value)} {st : List Value} {w w2 : iv_W}
theorem iv_no_tab (hHx : iv_Hx μ c) (h : iv_hh μ = []) : c.exceptionTable.toList = [] := by
  unfold iv_Hx at hHx
  rw [h] at hHx
  exact List.map_eq_nil_iff.mp hHx
set_option maxHeartbeats 4000000 in
theorem iv_throw_ok {d : Nat} (hx : p.tables.exec = Jvm.exec) (hb : c.code = iv_c μ) (hml : c.maxLocals = iv_L μ) (hown : s.vm.findClass (iv_y μ).cls = some m.cls) (hts : ∀ w ∈ iv_all, w.before args s = true) (hlocks : meth.locks = false) (hHx : iv_Hx μ c) (hLn : iv_Ln l) (hSt : iv_St L xs sz b D tc s)
    (hP : va_P D iv_cl (iv_ws sz b tc w) H) (hS : va_S (iv_A sz) s.heap H locs) (hl : lv_has ls (iv_L μ) (iv_lv sz b lv)) (hd : decode (iv_c μ) pc = .ok (i, iv_ln i x)) (ho : iv_okt μ pc i x) (hc : (st.map fun v => v.category).sum ≤ 8 ∧ x < 1003) (hfr : d + 8 ≤ R.frames) (hlo : 100 * d + 400 ≤ R.locals) (hk : cells + 1 ≤ R.cells) (hz : slots + iv_xN ≤ R.slots)
    (far : ∀ (a : Addr) (U : State) (locs1 : List Loc), U.status = .running → Ended U below (.threw a) → s.WarmedH U.vm → s.sameButNew ({ U with vm := s.vm } : State) locs1 (cells + 1) (slots + iv_xN) → va_S (iv_A sz) s.heap U.heap locs1 → va_P D iv_cl (iv_ws sz b tc w) U.heap → iv_Ex (x - 1000) a U → Q U) :
    W p l e R s m args below meth c H locs cells slots Q (F0 m pc ls (st.map (iv_v sz b))) := by
  cases i
  case new n =>
    obtain ⟨f1, f2, f3, f4, f5, f6, f7, f8⟩ := ho
    have hq : x - 1000 < 3 := by omega
    obtain ⟨g1, g2⟩ := iv_x_words hq
    obtain ⟨cX, kX, hfc, hkX, -⟩ := Cond.instantiable_spec (hts _ g1)
    have hTh := hSt.2.2.2.2.2.2
    have hz0 := hSt.2.2.2.2.2.1
    refine W.newcK (n := 6) hx hb hown (hts _ f3) (hts _ g1) (hts _ g2) rfl hd hk hz hfc rfl fun H1 kC hkC e1 z1 o1 => ?_
    refine W.eq (g2 := F0 m (pc + 3) ls (.ref H.size :: st.map (iv_v sz b))) rfl ?_
    refine lv_dup hx hb f4 rfl ?_
    intro T hT X
    have hsum := iv_cat_sum (sz := sz) (b := b) st
    obtain ⟨U, st1, r1, r2, r3, r4, ⟨ce, c1, c2, c3⟩, r5, r6⟩ := iv_ctor X hx (iv_htr hLn X.admits) (own := "FatVolume") (cls := iv_xnm (x - 1000)) (names := iv_up) (ic := iv_ic (x - 1000)) (by rw [← f8]; exact hown) (iv_fit_x hq) iv_fit_up (iv_own hts hTh hq) (sz := sz) hS.2.2 hTh.1 hfc hkC (by rw [hT]; exact e1) hS.1
      (g := F0 m (pc + 4) ls (.ref H.size :: .ref H.size :: st.map (iv_v sz b))) rfl (by rw [hml]; exact hl.1) rfl rfl rfl (by rw [hb]; exact f5) (by rw [hb]; exact f6) (fun y hy => by rw [iv_no_tab hHx f7] at hy; cases hy)
      (by show 2 + 3 < _; omega) (by
        show 2 * 0 + (1 + ((st.map (iv_v sz b)).map fun v => v.category).sum) + (13 * (2 + 1) + 41) ≤ _
        rw [hsum]
        omega) hlocks
    have hzH : U.heap.size = H.size + 1 := by rw [r5, hT, z1]
    have hkeep : ∀ q, q < H.size → U.heap[q]? = H[q]? := fun q hq => by rw [r6 q (Nat.ne_of_lt hq), hT, o1 q hq]
    refine ⟨U, st1, far H.size U locs r1 r2 r3 r4 ⟨?_, fun q h1 h2 => ?_, hS.2.2⟩ (hP.kept fun k q hk => hkeep q.1 ((hP k q hk).lt)) ⟨ce, c1, c3, ?_⟩⟩
    · rw [hzH]; exact Nat.le_succ_of_le hS.1
    · rw [hkeep q (Nat.lt_of_lt_of_le h1 hS.1)]
      exact hS.2.1 q h1 h2
    · rw [r3.alike.findClass, c2]; exact hfc
  all_goals exact ho.elim
end
section
variable {p : Program} {l : Launch} {e : Env} {R : Room} {s : State} {m : MethodId} {args : Array Value} {below : List Frame} {meth : Method} {c : Code} {H : Heap} {locs : List Loc} {cells slots : Nat} {Q : State → Prop} {ls : Array Slot} {sz b L : Nat} {xs : Nat → Int32} {tc : Nat → ClassId} {D : va_G} {μ pc x n : Nat} {i : Instr} {lv : List (Nat × Value)} {w w2 : iv_W}
set_option maxHeartbeats 4000000 in
/-- a call that throws: what is done with the thrown object is 'far' -/
theorem iv_callT {d k2 z2 q : Nat} {tg tg2 : Bool} {as rest : List Value} (ih : iv_Sound L xs sz b D tc n) (hx : p.tables.exec = Jvm.exec) (hb : c.code = iv_c μ) (hml : c.maxLocals = iv_L μ) (hown : s.vm.findClass (iv_y μ).cls = some m.cls) (hts : ∀ w ∈ iv_all, w.before args s = true) (hLn : iv_Ln l) (hSt : iv_St L xs sz b D tc s)
    (hP : va_P D iv_cl (iv_ws sz b tc w) H) (hS : va_S (iv_A sz) s.heap H locs) (hl : lv_has ls (iv_L μ) (iv_lv sz b lv)) (hsz : tg = true → H.size = sz + w.length) (hd : decode (iv_c μ) pc = .ok (i, iv_ln i x)) (ho : iv_okc μ i x) (hkind : x / 1000 < 2)
    (h : iv_run L xs n d (x % 1000) 0 (lv_args 0 as) [] w tg 0 0 = some (.inr q, w2, tg2, k2, z2)) (hfr : d + 1 + 8 ≤ R.frames) (hlo : 100 * (d + 1) + 400 ≤ R.locals) (hk : cells + k2 ≤ R.cells) (hz : slots + z2 ≤ R.slots)
    (hlen : as.length = iv_cv (iv_np (x % 1000)) (x / 1000)) (hrest : (rest.map fun v => v.category).sum ≤ 8) (hrc : iv_rc w (x / 1000) (x % 1000) as = true) (hfit : (as.map fun v => v.category).sum ≤ iv_L (x % 1000)) (hhh : iv_h (x % 1000) = [] → iv_hh (x % 1000) = [])
    (far : ∀ (a : Addr) (T' : State) (locs1 : List Loc), Stand p l e R s m args below meth c T' locs1 (cells + k2) (slots + z2) → va_S (iv_A sz) s.heap T'.heap locs1 → va_P D iv_cl (iv_ws sz b tc w2) T'.heap → iv_Ex q a T' → ∃ t', Steps p.tables e below ((T'.setTop (F0 m pc ls (rest.map (iv_v sz b)))).pushFrame (.throwing a)) t' ∧ Q t') :
    W p l e R s m args below meth c H locs cells slots Q (F0 m pc ls ((as.reverse ++ rest).map (iv_v sz b))) := by
  obtain ⟨f1, f2, f3, f4, f5, f6, f7, f0, f8⟩ := ho
  have hG := iv_good_in (x % 1000) f6
  have hpre := iv_pre (as := as) hSt hP hS hsz
  have hR : (iv_rm d k2 z2).frames + 1 ≤ R.frames ∧ 8 + (iv_L (x % 1000) + 11) + (iv_rm d k2 z2).locals ≤ R.locals := ⟨iv_room_f hfr, iv_room_l f7 hlo⟩
  cases i
  case invokevirtual j =>
    obtain ⟨g1, g2, g3, ⟨r, g4, g5⟩, g6⟩ := f8
    have hcw : iv_wsm (x % 1000) = .code (iv_y (x % 1000)) (iv_c (x % 1000)) (iv_L (x % 1000)) (iv_r (x % 1000)) :: iv_all := by
      show iv_cw (x % 1000) :: iv_all = _
      unfold iv_cw
      rw [g3]
    have hM := iv_metT ih l hLn h f4 hfit g3 (hhh g3)
    unfold iv_rc at hrc
    rw [Bool.and_eq_true] at hrc
    obtain ⟨a, as2, fs, rfl, hobj⟩ : ∃ a as2 fs, as = .ref a :: as2 ∧ iv_obj w a (iv_cn (x % 1000)) = some fs := by
      have h2 := hrc.2
      rcases g6 with ⟨h0, -⟩ | ⟨h0, -⟩ <;> rw [h0] at h2 <;> (cases as with
        | nil => cases h2
        | cons v as2 => cases v <;> first | (obtain ⟨fs, hfs⟩ := Option.isSome_iff_exists.mp h2; exact ⟨_, _, fs, rfl, hfs⟩) | cases h2)
    obtain ⟨k, rfl, hw⟩ := iv_obj_eq hobj
    have hrecv := va_recv hSt.1 hP g4 (iv_ws_at hw)
    rw [g5] at hrecv
    have hpv : PreV s H (iv_y (x % 1000)).cls (iv_ad sz b (k + 1)) (iv_Pc L xs sz b D tc (.ref (k + 1) :: as2) w tg) (as2.map (iv_v sz b)) := ⟨hpre.1, hrecv, hpre.2⟩
    have hn2 : (as2.map (iv_v sz b)).length = iv_np (x % 1000) := by
      rw [List.length_map]
      have h2 := hlen
      unfold iv_cv at h2
      rcases g6 with ⟨h0, -⟩ | ⟨h0, -⟩ <;> rw [h0] at h2 <;> simpa using h2
    have hstk : (((.ref (k + 1) :: as2).reverse ++ rest).map (iv_v sz b)) = (as2.map (iv_v sz b)).reverse ++ .ref (iv_ad sz b (k + 1)) :: rest.map (iv_v sz b) := by simp [iv_v]
    have hlink : (Cond.methodLink (iv_y μ).cls j (iv_y (x % 1000))).before args s = true ∨ ∃ host, (Cond.methodLinkNest (iv_y μ).cls j (iv_y (x % 1000)) host).before args s = true := by
      rcases g6 with ⟨h0, h1⟩ | ⟨h0, host, h1⟩
      · exact Or.inl (hts _ h1)
      · exact Or.inr ⟨host, va_Nw.use rfl (hSt.2.1 _ h1)⟩
    rw [hstk]
    refine iv_callVT hx hb hml hown hlink (hts _ g1) (hts _ g2) (bytes := iv_c (x % 1000)) (maxL := iv_L (x % 1000)) (ret := iv_r (x % 1000)) (hts _ (by have h9 := f6; unfold iv_cw at h9; rw [g3] at h9; exact h9)) ⟨f1, f2⟩ hM rfl rfl hR.1 hR.2 (pay_in hts hG) (by rw [hcw]; exact List.mem_cons_self)
      (fun a' U hW => word_at hW (Or.inl (by first | rfl | simp [Cond.onTables, Cond.keeps, Cond.steady])) (hts _ f5)) hpv hn2 f3 hl.1 (by rw [iv_cat_sum]; exact hrest) hd ⟨hk, hz⟩ ?_
    intro a t T' st₀ Lc h0 hL e1 e2 hq X'
    obtain ⟨⟨a2, ha2, ce, c1, c2, c3⟩, hP2, hF⟩ := hq
    cases ha2
    refine far a T' (locs ++ Lc) X' ⟨?_, fun q h1 h2 => ?_, fun q hq => ?_⟩ (by rw [e1]; exact hP2) ⟨ce, by rw [e1]; exact c1, c2, by rw [e2]; exact c3⟩
    · rw [e1]; exact Nat.le_trans hS.1 (by rw [← h0]; exact hF.1)
    · rw [e1, hF.2 q (by rw [h0]; exact Nat.lt_of_lt_of_le h1 hS.1) h2, h0]
      exact hS.2.1 q h1 h2
    · rcases List.mem_append.mp hq with h | h
      · exact hS.2.2 q h
      · exact hL q h
  case invokestatic j =>
    obtain ⟨-, g6⟩ := f8
    rcases g6 with ⟨h0, -⟩ | ⟨h0, -⟩ <;> omega
  case invokespecial j =>
    obtain ⟨-, -, -, -, g6⟩ := f8
    rcases g6 with ⟨h0, -⟩ | ⟨h0, -⟩ <;> omega
  all_goals exact f8.elim
end
end
section
/-! handlers -/
def iv_hok (cc : ByteArray) (nL a b : Nat) : List (Nat × Nat × Nat × Nat × Nat) → List (Nat × Nat × Nat × Nat) → Bool
  | [], [] => true
  | h :: hs, g :: gs => (h.1 == a && h.2.1 == b && g.1 == a && g.2.1 == b && g.2.2.2 == 13 + 2 * h.2.2.2.1 && decide (h.2.2.2.1 < 3) && decide (h.2.2.2.2 < nL) &&
      ((decide (decode cc g.2.2.1 = .ok (.astore h.2.2.2.2, 2)) && h.2.2.1 == g.2.2.1 + 2) || (decide (h.2.2.2.2 < 4) && decide (decode cc g.2.2.1 = .ok (.astore_n (Fin.ofNat 4 h.2.2.2.2), 1)) && h.2.2.1 == g.2.2.1 + 1))) && iv_hok cc nL a b hs gs
  | _, _ => false
theorem iv_hok_all : ∀ μ, μ < iv_nm → iv_hok (iv_c μ) (iv_L μ) ((iv_h μ).headD (0, 0, 0, 0, 0)).1 ((iv_h μ).headD (0, 0, 0, 0, 0)).2.1 (iv_h μ) (iv_hh μ) = true ∧ (iv_h μ = [] ∨ (iv_y μ).cls = "FatVolumeLaw") := by decide +kernel
theorem iv_hh_nil' {μ : Nat} (h : μ < iv_nm) (h1 : iv_h μ = []) : iv_hh μ = [] := (iv_m_ok μ h).2.2.2.2 h1
theorem iv_hd_at {cc : ByteArray} {nL a b pc q pc2 j : Nat} : ∀ (hs : List (Nat × Nat × Nat × Nat × Nat)) (gs : List (Nat × Nat × Nat × Nat)) (es : List ExceptionTableEntry), iv_hok cc nL a b hs gs = true → es.map (fun h => (h.startPc, h.endPc, h.handlerPc, h.catchType)) = gs → iv_hd hs pc q = some (pc2, j) →
    ∃ (pre : List ExceptionTableEntry) (h : ExceptionTableEntry) (post : List ExceptionTableEntry), es = pre ++ h :: post ∧ covers h pc = true ∧ h.catchType = 13 + 2 * q ∧ q < 3 ∧ j < nL ∧ a ≤ pc ∧ pc < b ∧
      ((decode cc h.handlerPc = .ok (.astore j, 2) ∧ pc2 = h.handlerPc + 2) ∨ ∃ k : Fin 4, k.val = j ∧ decode cc h.handlerPc = .ok (.astore_n k, 1) ∧ pc2 = h.handlerPc + 1) ∧ ∀ y ∈ pre, covers y pc = true ∧ ∃ r, r < 3 ∧ q ≠ r ∧ y.catchType = 13 + 2 * r
  | [], gs, es, _, _, h => by cases h
  | h :: hs, [], es, h1, _, _ => by cases h1
  | h :: hs, g :: gs, [], _, h2, _ => by cases h2
  | h :: hs, g :: gs, e :: es, h1, h2, h3 => by
    unfold iv_hok at h1
    simp only [Bool.and_eq_true, beq_iff_eq, decide_eq_true_eq, Bool.or_eq_true] at h1
    obtain ⟨⟨⟨⟨⟨⟨⟨⟨a1, a2⟩, a3⟩, a4⟩, a5⟩, a6⟩, a7⟩, a8⟩, a9⟩ := h1
    rw [List.map_cons, List.cons.injEq] at h2
    obtain ⟨h2, h2'⟩ := h2
    subst h2
    dsimp only at a3 a4 a5 a8
    unfold iv_hd at h3
    split at h3
    · next hc =>
      cases h3
      obtain ⟨c1, c2, rfl⟩ := hc
      refine ⟨[], e, es, rfl, ?_, a5, a6, a7, by omega, by omega, ?_, fun y hy => by cases hy⟩
      · simp only [covers, Bool.and_eq_true, decide_eq_true_eq]
        omega
      · rcases a8 with ⟨b1, b2⟩ | ⟨⟨b1, b2⟩, b3⟩
        · exact Or.inl ⟨b1, b2⟩
        · exact Or.inr ⟨Fin.ofNat 4 h.2.2.2.2, by show h.2.2.2.2 % 4 = _; omega, b2, b3⟩
    · next hc =>
      obtain ⟨pre, h', post, i1, i2, i3, i4, i5, i6, i7, i8, i9⟩ := iv_hd_at hs gs es a9 h2' h3
      refine ⟨e :: pre, h', post, by rw [i1]; rfl, i2, i3, i4, i5, i6, i7, i8, fun y hy => ?_⟩
      rcases List.mem_cons.mp hy with rfl | hy
      · refine ⟨by simp only [covers, Bool.and_eq_true, decide_eq_true_eq]; omega, h.2.2.2.1, a6, fun hq => hc ⟨by omega, by omega, hq.symm⟩, a5⟩
      · exact i9 y hy
theorem iv_law_links {q : Nat} (hq : q < 3) : Cond.classLink "FatVolumeLaw" (13 + 2 * q) (iv_xnm q) ∈ iv_all := by
  have : q = 0 ∨ q = 1 ∨ q = 2 := by omega
  rcases this with rfl | rfl | rfl
  · exact iv_is_in iv_xc_ok.1
  · exact iv_is_in iv_xc_ok.2.1
  · exact iv_is_in iv_xc_ok.2.2
section
variable {p : Program} {l : Launch} {e : Env} {R : Room} {s : State} {m : MethodId} {args : Array Value} {below : List Frame} {meth : Method} {c : Code} {T : State} {locs : List Loc} {cells slots : Nat} {Q : State → Prop} {ls : Array Slot} {sz b L : Nat} {xs : Nat → Int32} {tc : Nat → ClassId} {D : va_G} {μ pc pc2 j q : Nat} {lv : List (Nat × Value)} {st : List Value}
set_option maxHeartbeats 1000000 in
/-- the thrown object is caught by the method's own handler -/
theorem iv_caught (X : Stand p l e R s m args below meth c T locs cells slots) (hμ : μ < iv_nm) (hx : p.tables.exec = Jvm.exec) (hb : c.code = iv_c μ) (hown : s.vm.findClass (iv_y μ).cls = some m.cls) (hts : ∀ w ∈ iv_all, w.before args s = true) (hHx : iv_Hx μ c) (hTh : iv_Th sz s) (hl : lv_has ls (iv_L μ) (iv_lv sz b lv)) (hh : iv_hd (iv_h μ) pc q = some (pc2, j)) {a : Addr} (hEx : iv_Ex q a T)
    (kk : ∀ ls2 : Array Slot, lv_has ls2 (iv_L μ) (iv_lv sz b (iv_no lv j)) → W p l e R s m args below meth c T.heap locs cells slots Q (F0 m pc2 ls2 [])) :
    ∃ t', Steps p.tables e below ((T.setTop (F0 m pc ls st)).pushFrame (.throwing a)) t' ∧ Q t' := by
  obtain ⟨hok, hcl⟩ := iv_hok_all μ hμ
  obtain ⟨pre, h, post, i1, i2, i3, i4, i5, i6, i7, i8, i9⟩ := iv_hd_at _ _ _ hok hHx hh
  have hlaw : (iv_y μ).cls = "FatVolumeLaw" := by
    rcases hcl with h0 | h0
    · rw [h0] at hh; cases hh
    · exact h0
  rw [hlaw] at hown
  obtain ⟨ce, c1, c2, c3⟩ := hEx
  obtain ⟨-, -, -, -, -, t6, t7⟩ := hTh
  obtain ⟨vm', X', stp⟩ := iv_catch X (own := "FatVolumeLaw") (X := iv_xnm q) (C := iv_xnm q) hown c1 c2 (by rw [← X.warmed.alike.findClass]; exact c3) (g := F0 m pc ls st) rfl i1 i2 (by omega) (by rw [i3]; exact hts _ (iv_law_links i4)) (t6 q i4)
    (fun y hy => by
      obtain ⟨y1, r, y2, y3, y4⟩ := i9 y hy
      exact ⟨y1, by omega, iv_xnm r, by rw [y4]; exact hts _ (iv_law_links y2), t7 q r i4 y2 y3⟩)
  have hW : W p l e R s m args below meth c T.heap locs cells slots Q (F0 m h.handlerPc ls [.ref a]) := by
    rcases i8 with ⟨d1, rfl⟩ | ⟨k, d0, d1, rfl⟩
    · exact lv_astore hx hb d1 hl i5 rfl (fun ls2 hl2 => kk ls2 (by rw [iv_lv_no]; exact ⟨hl2.1, hl2.2.1, fun r hr => hl2.2.2 r (List.mem_cons_of_mem _ hr)⟩))
    · subst d0
      exact lv_astore_n hx hb d1 rfl hl i5 rfl (fun ls2 hl2 => kk ls2 (by rw [iv_lv_no]; exact ⟨hl2.1, hl2.2.1, fun r hr => hl2.2.2 r (List.mem_cons_of_mem _ hr)⟩))
  obtain ⟨t', a1, b1⟩ := hW (T.setVm vm') rfl X'
  exact ⟨t', stp t' a1, b1⟩
end
theorem iv_kd5 {i : Instr} {x : Nat} (h0 : ¬ iv_kd i x = 0) (h1 : ¬ iv_kd i x = 1) (h2 : ¬ iv_kd i x = 2) (h3 : ¬ iv_kd i x = 3) (h4 : ¬ iv_kd i x = 4) : iv_kd i x = 5 := by
  have h : iv_kd i x ≤ 5 := by
    unfold iv_kd
    split <;> first | omega | (split <;> omega)
  omega
end
section
set_option maxHeartbeats 4000000 in
theorem iv_sound (htab : iv_Tab) (L : Nat) (xs : Nat → Int32) (sz b : Nat) (D : va_G) (tc : Nat → ClassId) : ∀ n, iv_Sound L xs sz b D tc n := by
  intro n
  induction n with
  | zero =>
    intro d μ pc lv st w tg k z o w2 tg2 k2 z2 h
    simp [iv_run] at h
  | succ n ih =>
    intro d μ pc lv st w tg k z o w2 tg2 k2 z2 h p l e R s m args below meth c H locs ls Q hx hb hml hown hts hlocks hname hHx hLn hSt hP hS hl hT hfr hlo hk2 hz2 hret hthr
    have hmono := iv_run_mono _ _ _ _ _ _ _ _ _ _ _ _ _ _ _ h
    have hz0 := hSt.2.2.2.2.2.1
    unfold iv_run at h
    split at h
    · cases h
    next i x e0 =>
    obtain ⟨hμ, hok, hokn, hokl, hokc, hokt⟩ := htab μ pc i x e0
    split at h
    next hkd =>
      split at h
      · cases h
      next pc2 lv2 st2 w3 e1 =>
      refine iv_step_ok hx hb hown hts hname hSt.1 hSt.2.2.2.1 hSt.2.2.2.2.1 hz0 hP hS hl hok e1 (fun H1 locs1 ls1 q1 q2 q3 => ?_)
      exact ih _ _ _ _ _ _ _ _ _ _ _ _ _ _ h p l e R s m args below meth c H1 locs1 ls1 Q hx hb hml hown hts hlocks hname hHx hLn hSt q1 q2 q3 (fun ht => by rw [iv_step_len e1]; exact hT ht) hfr hlo hk2 hz2 hret hthr
    next hkd =>
      split at h
      · cases h
      next v e1 =>
      cases h
      exact hret v rfl pc i x st H locs ls hok.1 e1 hP hS
    next hkd =>
      split at h
      next hc =>
        cases h
        exact iv_throw_ok hx hb hml hown hts hlocks hHx hLn hSt hP hS hl hok.1 (hokt hkd) hc hfr hlo hk2 hz2 (hthr _ rfl)
      · cases h
    next hkd =>
      split at h
      next ht =>
        split at h
        · cases h
        next y r a len e1 =>
        have hm2 := iv_run_mono _ _ _ _ _ _ _ _ _ _ _ _ _ _ _ h
        refine iv_new_ok hx hb hown hts hSt.1 hSt.2.2.1 hz0 hP hS hok.1 (hokn hkd) e1 (hT ht) (by omega) (by omega) (fun H1 q1 q2 => ?_)
        exact ih _ _ _ _ _ _ _ _ _ _ _ _ _ _ h p l e R s m args below meth c H1 locs ls Q hx hb hml hown hts hlocks hname hHx hLn hSt q1 q2 hl (fun _ => by rw [List.length_append]; have := hT ht; simp only [List.length_cons, List.length_nil]; omega) hfr hlo hk2 hz2 hret hthr
      · cases h
    next hkd =>
      split at h
      · cases h
      next st2 w3 e1 =>
      refine iv_lib_ok hx hb hml hown hts hSt.1 hP hS hl hok.1 (hokl hkd) e1 (by omega) (by omega) (by omega) (by omega) (fun H1 locs1 q1 q2 => ?_)
      exact ih _ _ _ _ _ _ _ _ _ _ _ _ _ _ h p l e R s m args below meth c H1 locs1 ls Q hx hb hml hown hts hlocks hname hHx hLn hSt q1 q2 hl (fun ht => by rw [iv_lib_len e1]; exact hT ht) hfr hlo hk2 hz2 hret hthr
    next hkd0 hkd1 hkd2 hkd3 hkd4 =>
      have hkd : iv_kd i x = 5 := iv_kd5 hkd0 hkd1 hkd2 hkd3 hkd4
      have hc := hokc hkd
      split at h
      · cases h
      next d2 =>
      split at h
      next hcond =>
        obtain ⟨hc1, hc2, hc3⟩ := hcond
        have hstk : st = ((st.take (iv_cv (iv_np (x % 1000)) (x / 1000))).reverse).reverse ++ st.drop (iv_cv (iv_np (x % 1000)) (x / 1000)) := by
          rw [List.reverse_reverse, List.take_append_drop]
        generalize has : (st.take (iv_cv (iv_np (x % 1000)) (x / 1000))).reverse = as at h hc3 hstk
        generalize hrs : st.drop (iv_cv (iv_np (x % 1000)) (x / 1000)) = rest at h hc2 hstk
        have hlen : as.length = iv_cv (iv_np (x % 1000)) (x / 1000) := by rw [← has, List.length_reverse]; exact hc1
        have hfit : (as.map fun v => v.category).sum ≤ iv_L (x % 1000) := by
          unfold iv_rc at hc3
          rw [Bool.and_eq_true] at hc3
          exact of_decide_eq_true hc3.1
        rw [hstk]
        intro T hTH X
        have hsz : tg = true → H.size = sz + w.length := fun ht => by rw [← hTH]; exact iv_size X (by rw [hTH]; exact hP) hz0 hT ht
        split at h
        · cases h
        next v w3 tg3 k3 z3 e1 =>
          have hm1 := iv_run_mono _ _ _ _ _ _ _ _ _ _ _ _ _ _ _ e1
          have hm2 := iv_run_mono _ _ _ _ _ _ _ _ _ _ _ _ _ _ _ h
          have hM := iv_met ih l hLn e1 hc.2.2.2.1 hfit (iv_hh_nil' hc.2.2.2.2.2.2.2.1)
          have hrun := iv_callR (p := p) (e := e) (below := below) (meth := meth) (locs := locs) (cells := k) (slots := z) (R := R) hx hb hml hown hts hSt hP hS hl hsz hok.1 hc hM (by omega) (by omega) (by omega) (by omega) hlen hc2 hc3
          obtain ⟨v1, st₀, t, T', Lc, h0, X', hL, e2, e3, ⟨hv, hP2, hF⟩, stp⟩ := hrun T hTH X
          cases hv
          have hS2 : va_S (iv_A sz) s.heap T'.heap (locs ++ Lc) := by
            refine ⟨?_, fun q h1 h2 => ?_, fun q hq => ?_⟩
            · rw [e2]; exact Nat.le_trans hS.1 (by rw [← h0]; exact hF.1)
            · rw [e2, hF.2 q (by rw [h0]; exact Nat.lt_of_lt_of_le h1 hS.1) h2, h0]
              exact hS.2.1 q h1 h2
            · rcases List.mem_append.mp hq with h | h
              · exact hS.2.2 q h
              · exact hL q h
          have hW2 := ih _ _ _ _ _ _ _ _ _ _ _ _ _ _ h p l e R s m args below meth c T'.heap (locs ++ Lc) ls Q hx hb hml hown hts hlocks hname hHx hLn hSt (by rw [e2]; exact hP2) hS2 hl
            (fun ht => by have h1 := hm1.2.2 ht; have h2 := hT h1.1; have h3 := h1.2; omega) hfr hlo hk2 hz2 hret hthr
          obtain ⟨t2, a1, b1⟩ := hW2 T' rfl X'
          refine ⟨t2, stp t2 ?_, b1⟩
          have hl9 : (v.map (iv_v sz b)).toList ++ rest.map (iv_v sz b) = (v.toList ++ rest).map (iv_v sz b) := by cases v <;> rfl
          show Steps p.tables e below (T'.setTop { F0 m pc ls _ with pc := pc + 3, stack := (v.map (iv_v sz b)).toList ++ rest.map (iv_v sz b) }) t2
          rw [hl9]
          exact a1
        next q w3 tg3 k3 z3 e1 =>
          have hm1 := iv_run_mono _ _ _ _ _ _ _ _ _ _ _ _ _ _ _ e1
          split at h
          next hkind =>
            split at h
            next hhd =>
              split at h
              next hemp =>
                cases h
                refine iv_callT ih hx hb hml hown hts hLn hSt hP hS hl hsz hok.1 hc hkind e1 (by omega) (by omega) hk2 hz2 hlen hc2 hc3 hfit (iv_hh_nil' hc.2.2.2.2.2.2.2.1) (fun a T' locs1 X' q1 q2 q3 => ?_) T hTH X
                have hnil : iv_h μ = [] := List.isEmpty_iff.mp hemp
                obtain ⟨l1, l2, l3, l4, l5⟩ := X'.leaveThrown a (g := F0 m pc ls (rest.map (iv_v sz b))) rfl rfl rfl (fun y hy => by rw [iv_no_tab hHx (iv_hh_nil' hμ hnil)] at hy; cases hy) hlocks
                exact ⟨_, l1, hthr q rfl a _ locs1 l2 l3 l4 l5 q1 q2 q3⟩
              · cases h
            next pc2 j hhd =>
              have hm2 := iv_run_mono _ _ _ _ _ _ _ _ _ _ _ _ _ _ _ h
              refine iv_callT ih hx hb hml hown hts hLn hSt hP hS hl hsz hok.1 hc hkind e1 (by omega) (by omega) (by omega) (by omega) hlen hc2 hc3 hfit (iv_hh_nil' hc.2.2.2.2.2.2.2.1) (fun a T' locs1 X' q1 q2 q3 => ?_) T hTH X
              refine iv_caught X' hμ hx hb hown hts hHx hSt.2.2.2.2.2.2 hl hhd q3 (fun ls1 hl1 => ?_)
              exact ih _ _ _ _ _ _ _ _ _ _ _ _ _ _ h p l e R s m args below meth c T'.heap locs1 ls1 Q hx hb hml hown hts hlocks hname hHx hLn hSt q2 q1 hl1
                (fun ht => by have h1 := hm1.2.2 ht; have h2 := hT h1.1; have h3 := h1.2; omega) hfr hlo hk2 hz2 hret hthr
          · cases h
      · cases h
end
section
/-! what the tables say at every place, out of the checked rows -/
theorem iv_xl_shape : ∀ r ∈ iv_xl, r.1 = 0 ∧ r.2.2.1 < 3 ∧ r.2.2.2.1 = iv_ic r.2.2.1 := by decide +kernel
theorem iv_xlm_shape {o n q ic : Nat} (h : iv_xlm o n q ic = true) : o = 0 ∧ q < 3 ∧ ic = iv_ic q := by
  obtain ⟨⟨q1, q2, q3, q4, q5⟩, hq, hh⟩ := List.any_eq_true.mp h
  simp only [Bool.and_eq_true, beq_iff_eq] at hh
  obtain ⟨⟨⟨rfl, rfl⟩, rfl⟩, rfl⟩ := hh
  exact iv_xl_shape _ hq
theorem iv_lb_words : Cond.instanceMethod Lib.objectInit ∈ iv_all ∧ Cond.code Lib.objectInit ⟨#[0xb1]⟩ 1 none ∈ iv_all ∧ Cond.static Lib.Math.max.name ∈ iv_all ∧ Cond.initialized "java/lang/Math" ∈ iv_all ∧ Cond.code Lib.Math.max.name Lib.Math.max.code 2 (some .int) ∈ iv_all ∧
    Cond.static Lib.Math.min.name ∈ iv_all ∧ Cond.code Lib.Math.min.name Lib.Math.min.code 2 (some .int) ∈ iv_all ∧ Cond.native arraycopyName ∈ iv_all ∧ Cond.static arraycopyName ∈ iv_all ∧ Cond.initialized "java/lang/System" ∈ iv_all := by
  obtain ⟨h1, h2, h3, h4, h5, h6, h7, h8, h9, h10⟩ := iv_lib_words
  exact ⟨iv_is_in h1, iv_inw h2 rfl, iv_is_in h3, iv_is_in h4, iv_inw h5 rfl, iv_is_in h6, iv_inw h7 rfl, iv_is_in h8, iv_is_in h9, iv_is_in h10⟩
set_option maxHeartbeats 4000000 in
theorem iv_tab : iv_Tab := by
  intro μ pc i x hl
  obtain ⟨hμ, hc⟩ := iv_tab_chk hl
  have hy := iv_y_ok μ hμ
  unfold iv_chk at hc
  rw [Bool.and_eq_true] at hc
  obtain ⟨hd0, hc⟩ := hc
  have hd := of_decide_eq_true hd0
  refine ⟨hμ, ⟨hd, ?_⟩, fun hk => ?_, fun hk => ?_, fun hk => ?_, fun hk => ?_⟩
  · cases i
    case getfield n =>
      simp only [Bool.and_eq_true, decide_eq_true_eq] at hc
      obtain ⟨⟨h1, h2⟩, h3⟩ := hc
      exact ⟨iv_cnm (x / 100), iv_T (x / 100), iv_N (x / 100), iv_cl_at _ h2, h3, iv_own_ok _ h2 _ h3, (iv_cs_words h2).2.2, by rw [hy]; exact iv_flm_in h1, iv_ty_ok _ h2, iv_nm_ok _ h2, Or.inl rfl⟩
    case putfield n =>
      simp only [Bool.and_eq_true, decide_eq_true_eq, Bool.or_eq_true, beq_iff_eq] at hc
      obtain ⟨⟨⟨h1, h2⟩, h3⟩, h4⟩ := hc
      refine ⟨iv_cnm (x / 100), iv_T (x / 100), iv_N (x / 100), iv_cl_at _ h2, h3, iv_own_ok _ h2 _ h3, (iv_cs_words h2).2.2, by rw [hy]; exact iv_flm_in h1, iv_ty_ok _ h2, iv_nm_ok _ h2, ?_⟩
      rcases h4 with h4 | ⟨h4, h5⟩
      · exact Or.inl h4
      · cases hf : (iv_T (x / 100) (x % 100)).2.2.2 with
        | false => exact Or.inl rfl
        | true => exact Or.inr ⟨rfl, h4, by rw [hy, h5]; exact iv_own_ok _ h2 _ h3⟩
    case ldc n => show Cond.constant _ _ _ ∈ _; rw [hy]; exact iv_kkm_in (t := 0) hc
    case ldc2_w n => show Cond.constantLong _ _ _ ∈ _; rw [hy]; exact iv_kkm_in (t := 1) hc
    case ifCond q o => exact of_decide_eq_true hc
    case if_icmp q o => exact of_decide_eq_true hc
    case goto o => exact of_decide_eq_true hc
    all_goals trivial
  · cases i
    case new n =>
      have hx : ¬ 1000 ≤ x := fun h => by simp [iv_kd, h] at hk
      dsimp only at hc
      rw [if_neg hx] at hc
      simp only [Bool.and_eq_true, decide_eq_true_eq] at hc
      obtain ⟨h1, h2⟩ := hc
      exact ⟨iv_cnm x, iv_T x, iv_N x, iv_cl_at x h2, rfl, (iv_cs_words h2).2.2, iv_ty_ok x h2, by rw [hy]; exact iv_ckm_in h1, (iv_cs_words h2).1, (iv_cs_words h2).2.1, iv_f0_ok x h2, fun sz b => iv_f0_map h2⟩
    case newarray t =>
      obtain ⟨a1, a2, a3⟩ := iv_arr_words
      have hc2 : (t == .int || t == .boolean || t == .long) = true := hc
      clear hc hd hd0 hl
      cases t <;> first | exact iv_is_in a1 | exact iv_is_in a2 | exact iv_is_in a3 | exact absurd hc2 (by decide)
    case anewarray n =>
      show Cond.classLink _ _ _ ∈ _
      rw [hy]
      exact iv_ckm_in (ci := iv_fo) hc
    all_goals trivial
  · obtain ⟨w1, w2, w3, w4, w5, w6, w7, w8, w9, w10⟩ := iv_lb_words
    cases i
    case invokespecial n =>
      have hx : 6000 ≤ x := by
        by_cases h : 6000 ≤ x
        · exact h
        · simp [iv_kd, h] at hk
      dsimp only at hc
      rw [if_pos hx] at hc
      simp only [Bool.and_eq_true, beq_iff_eq] at hc
      obtain ⟨h1, rfl⟩ := hc
      exact ⟨rfl, by rw [hy]; exact iv_lbm_in h1, w1, w2⟩
    case invokestatic n =>
      have hx : 6000 ≤ x := by
        by_cases h : 6000 ≤ x
        · exact h
        · simp [iv_kd, h] at hk
      dsimp only at hc
      rw [if_pos hx] at hc
      simp only [Bool.and_eq_true, beq_iff_eq, Bool.or_eq_true] at hc
      obtain ⟨h1, (rfl | rfl) | rfl⟩ := hc
      · exact Or.inl ⟨rfl, by rw [hy]; exact iv_lbm_in h1, w3, w4, w5⟩
      · exact Or.inr (Or.inl ⟨rfl, by rw [hy]; exact iv_lbm_in h1, w6, w4, w7⟩)
      · exact Or.inr (Or.inr ⟨rfl, by rw [hy]; exact iv_lbm_in h1, w8, w9, w10⟩)
    case invokevirtual n =>
      simp only [Bool.and_eq_true, decide_eq_true_eq] at hc
      have hx := hc.1.1.1.1.1
      simp [iv_kd, show ¬ 6000 ≤ x by omega] at hk
    all_goals (simp [iv_kd] at hk; try (split at hk <;> cases hk))
  · have hν : x % 1000 < iv_nm → ((iv_y (x % 1000)).cls ≠ "java/lang/invoke/MethodHandle" ∧ (iv_y (x % 1000)).cls ≠ "java/lang/invoke/VarHandle" ∧ (parseMethodDescriptor (iv_y (x % 1000)).desc).map (fun d => d.parameters.length) = some (iv_np (x % 1000)) ∧ plainName (iv_y (x % 1000)).cls = true ∧ Cond.initialized (iv_y (x % 1000)).cls ∈ iv_all ∧ iv_L (x % 1000) ≤ 60) := by
      intro h
      obtain ⟨⟨m1, m2⟩, m3, m4, m5, -⟩ := iv_m_ok _ h
      refine ⟨m1, m2, m3, m4, ?_, m5⟩
      rw [iv_y_ok _ h]
      by_cases h10 : iv_cn (x % 1000) < 10
      · exact (iv_cs_words h10).2.1
      · have : iv_cnm (iv_cn (x % 1000)) = iv_cnm 10 := by
          unfold iv_cnm
          split <;> first | omega | rfl
        rw [this]
        exact iv_is_in iv_ilaw_ok
    cases i
    case invokevirtual n =>
      simp only [Bool.and_eq_true, decide_eq_true_eq, Bool.or_eq_true, beq_iff_eq] at hc
      obtain ⟨⟨⟨⟨⟨h1, h2⟩, h3⟩, h4⟩, h5⟩, h6⟩ := hc
      obtain ⟨m1, m2, m3, m4, m5, m6⟩ := hν h2
      obtain ⟨s1, s2, s3⟩ := iv_msm_in h3
      refine ⟨m1, m2, m3, m4, m5, s1, m6, h2, s2, s3 rfl, List.isEmpty_iff.mp h4, ⟨_, iv_cl_at _ h5, (iv_y_ok _ h2).symm⟩, ?_⟩
      rcases h6 with ⟨h6, h7⟩ | ⟨h6, h7⟩
      · exact Or.inl ⟨h6, by rw [hy]; exact iv_mlm_in h7⟩
      · exact Or.inr ⟨h6, "FatVolume", by rw [hy]; exact iv_nlm_in h7⟩
    case invokestatic n =>
      have hx : ¬ 6000 ≤ x := fun h => by simp [iv_kd, h] at hk
      dsimp only at hc
      rw [if_neg hx] at hc
      simp only [Bool.and_eq_true, decide_eq_true_eq, Bool.or_eq_true, beq_iff_eq] at hc
      obtain ⟨⟨h2, h3⟩, h6⟩ := hc
      obtain ⟨m1, m2, m3, m4, m5, m6⟩ := hν h2
      obtain ⟨s1, s2, s3⟩ := iv_msm_in h3
      refine ⟨m1, m2, m3, m4, m5, s1, m6, h2, s2, ?_⟩
      rcases h6 with ⟨h6, h7⟩ | ⟨⟨h6, h8⟩, h7⟩
      · exact Or.inl ⟨h6, by rw [hy]; exact iv_mlm_in h7⟩
      · exact Or.inr ⟨h6, List.isEmpty_iff.mp h8, "FatVolume", by rw [hy]; exact iv_nlm_in h7⟩
    case invokespecial n =>
      have hx : ¬ 6000 ≤ x := fun h => by simp [iv_kd, h] at hk
      dsimp only at hc
      rw [if_neg hx] at hc
      simp only [Bool.and_eq_true, decide_eq_true_eq, Bool.or_eq_true, beq_iff_eq] at hc
      obtain ⟨⟨⟨⟨⟨h2, h3⟩, h4⟩, h5⟩, h9⟩, h6⟩ := hc
      obtain ⟨m1, m2, m3, m4, m5, m6⟩ := hν h2
      obtain ⟨s1, s2, s3⟩ := iv_msm_in h3
      refine ⟨m1, m2, m3, m4, m5, s1, m6, h2, h5, s2, Option.isNone_iff_eq_none.mp h9, List.isEmpty_iff.mp h4, ?_⟩
      rcases h6 with ⟨h6, h7⟩ | ⟨h6, h7⟩
      · exact Or.inl ⟨h6, by rw [hy]; exact iv_mlm_in h7⟩
      · exact Or.inr ⟨h6, "FatVolume", by rw [hy]; exact iv_nlm_in h7⟩
    all_goals (simp [iv_kd] at hk; try (split at hk <;> cases hk))
  · cases i
    case new n =>
      have hx : 1000 ≤ x := by
        by_cases h : 1000 ≤ x
        · exact h
        · simp [iv_kd, h] at hk
      dsimp only at hc
      rw [if_pos hx] at hc
      split at hc
      · next ic hic =>
        simp only [Bool.and_eq_true, decide_eq_true_eq] at hc
        obtain ⟨⟨⟨h1, h2⟩, h3⟩, h4⟩ := hc
        obtain ⟨s1, s2, s3⟩ := iv_xlm_shape h1
        refine ⟨hx, by omega, by rw [hy]; exact iv_xlm_in h1, h2, by rw [← s3]; exact hic, h3, List.isEmpty_iff.mp h4, by rw [hy, s1]; rfl⟩
      · cases hc
    all_goals (simp [iv_kd] at hk; try (split at hk <;> cases hk))
end
section
/-! my machine alone: more fuel does no harm; a run as a relation -/
theorem iv_run_succ {L : Nat} {xs : Nat → Int32} : ∀ (n d μ pc : Nat) (lv : List (Nat × Value)) (st : List Value) (w : iv_W) (tg : Bool) (k z : Nat) (o : iv_O), iv_run L xs n d μ pc lv st w tg k z = some o → iv_run L xs (n + 1) d μ pc lv st w tg k z = some o
  | 0, _, _, _, _, _, _, _, _, _, _, h => by simp [iv_run] at h
  | n + 1, d, μ, pc, lv, st, w, tg, k, z, o, h => by
    rw [iv_run] at h ⊢
    split at h
    · cases h
    next i x e0 =>
    (try rw [e0])
    (try dsimp only)
    split at h
    next hk =>
      (try rw [hk])
      (try dsimp only)
      split at h
      · cases h
      next e1 => (try rw [e1]); exact iv_run_succ n _ _ _ _ _ _ _ _ _ _ h
    next hk =>
      (try rw [hk])
      exact h
    next hk =>
      (try rw [hk])
      exact h
    next hk =>
      (try rw [hk])
      (try dsimp only)
      split at h
      next ht =>
        (try rw [if_pos ht])
        split at h
        · cases h
        next e1 => (try rw [e1]); exact iv_run_succ n _ _ _ _ _ _ _ _ _ _ h
      · cases h
    next hk =>
      (try rw [hk])
      (try dsimp only)
      split at h
      · cases h
      next e1 => (try rw [e1]); exact iv_run_succ n _ _ _ _ _ _ _ _ _ _ h
    next h0 h1 h2 h3 h4 =>
      have hk : iv_kd i x = 5 := iv_kd5 h0 h1 h2 h3 h4
      (try rw [hk])
      (try dsimp only)
      split at h
      · cases h
      next d2 =>
      split at h
      next hc =>
        (try dsimp only)
        (try rw [if_pos hc])
        split at h
        · cases h
        next e1 => (try rw [iv_run_succ n _ _ _ _ _ _ _ _ _ _ e1]); exact iv_run_succ n _ _ _ _ _ _ _ _ _ _ h
        next e1 =>
          rw [iv_run_succ n _ _ _ _ _ _ _ _ _ _ e1]
          (try dsimp only)
          split at h
          next hx =>
            (try rw [if_pos hx])
            split at h
            next e2 => (try rw [e2]); exact h
            next e2 => (try rw [e2]); exact iv_run_succ n _ _ _ _ _ _ _ _ _ _ h
          · cases h
      · cases h
theorem iv_run_add {L : Nat} {xs : Nat → Int32} {n d μ pc : Nat} {lv : List (Nat × Value)} {st : List Value} {w : iv_W} {tg : Bool} {k z : Nat} {o : iv_O} (h : iv_run L xs n d μ pc lv st w tg k z = some o) : ∀ m, iv_run L xs (n + m) d μ pc lv st w tg k z = some o
  | 0 => h
  | m + 1 => iv_run_succ _ _ _ _ _ _ _ _ _ _ _ (iv_run_add h m)
theorem iv_run_le {L : Nat} {xs : Nat → Int32} {n n2 d μ pc : Nat} {lv : List (Nat × Value)} {st : List Value} {w : iv_W} {tg : Bool} {k z : Nat} {o : iv_O} (h : iv_run L xs n d μ pc lv st w tg k z = some o) (hn : n ≤ n2) : iv_run L xs n2 d μ pc lv st w tg k z = some o := by
  have := iv_run_add h (n2 - n)
  rwa [show n + (n2 - n) = n2 by omega] at this
/-- it comes to this end -/
def iv_G (L : Nat) (xs : Nat → Int32) (d μ pc : Nat) (lv : List (Nat × Value)) (st : List Value) (w : iv_W) (tg : Bool) (k z : Nat) (o : iv_O) : Prop := ∃ n, iv_run L xs n d μ pc lv st w tg k z = some o
/-- a step that is no call, no end and no new cell -/
def iv_nx (L : Nat) (xs : Nat → Int32) (μ pc : Nat) (lv : List (Nat × Value)) (st : List Value) (w : iv_W) : Option (Nat × List (Nat × Value) × List Value × iv_W) := match iv_look (iv_t μ) pc with
  | none => none
  | some (i, x) => match iv_kd i x with
    | 0 => iv_step L xs μ i x pc lv st w
    | 4 => match iv_lib x st w with
      | none => none
      | some (st2, w2) => some (pc + 3, lv, st2, w2)
    | _ => none
def iv_nxs (L : Nat) (xs : Nat → Int32) (μ : Nat) : Nat → Nat → List (Nat × Value) → List Value → iv_W → Option (Nat × List (Nat × Value) × List Value × iv_W)
  | 0, pc, lv, st, w => some (pc, lv, st, w)
  | n + 1, pc, lv, st, w => match iv_nx L xs μ pc lv st w with
    | none => none
    | some (pc2, lv2, st2, w2) => iv_nxs L xs μ n pc2 lv2 st2 w2
section
variable {L : Nat} {xs : Nat → Int32} {d μ pc pc2 : Nat} {lv lv2 : List (Nat × Value)} {st st2 : List Value} {w w2 : iv_W} {tg : Bool} {k z : Nat} {o : iv_O}
theorem iv_G1 (h : iv_nx L xs μ pc lv st w = some (pc2, lv2, st2, w2)) (hg : iv_G L xs d μ pc2 lv2 st2 w2 tg k z o) : iv_G L xs d μ pc lv st w tg k z o := by
  obtain ⟨n, hn⟩ := hg
  refine ⟨n + 1, ?_⟩
  rw [iv_run]
  unfold iv_nx at h
  split at h
  · cases h
  next i x e0 =>
  split at h
  next hk => simp only [e0, hk, h]; exact hn
  next hk =>
    split at h
    · cases h
    next e1 =>
      cases h
      simp only [e0, hk, e1]
      exact hn
  · cases h
theorem iv_Gm : ∀ (m : Nat) {pc : Nat} {lv : List (Nat × Value)} {st : List Value} {w : iv_W}, iv_nxs L xs μ m pc lv st w = some (pc2, lv2, st2, w2) → iv_G L xs d μ pc2 lv2 st2 w2 tg k z o → iv_G L xs d μ pc lv st w tg k z o
  | 0, _, _, _, _, h, hg => by
    unfold iv_nxs at h
    cases h
    exact hg
  | m + 1, _, _, _, _, h, hg => by
    unfold iv_nxs at h
    split at h
    · cases h
    next e => exact iv_G1 e (iv_Gm m h hg)
/-- a step under a condition -/
theorem iv_Gif {c : Bool} (h : iv_nx L xs μ pc lv st w = if c = true then some (pc2, lv2, st2, w2) else none) (hc : c = true) (hg : iv_G L xs d μ pc2 lv2 st2 w2 tg k z o) : iv_G L xs d μ pc lv st w tg k z o := iv_G1 (h.trans (if_pos hc)) hg
theorem iv_Gret {i : Instr} {x : Nat} {v : Option Value} (h : iv_look (iv_t μ) pc = some (i, x)) (hk : iv_kd i x = 1) (hr : iv_ret (iv_r μ) i st = some v) : iv_G L xs d μ pc lv st w tg k z (.inl v, w, tg, k, z) := by
  refine ⟨1, ?_⟩
  rw [iv_run]
  simp only [h, hk, hr]
theorem iv_Gthrow {i : Instr} {x : Nat} (h : iv_look (iv_t μ) pc = some (i, x)) (hk : iv_kd i x = 2) (hc : (st.map fun v => v.category).sum ≤ 8 ∧ x < 1003) : iv_G L xs d μ pc lv st w tg k z (.inr (x - 1000), w, false, k + 1, z + iv_xN) := by
  refine ⟨1, ?_⟩
  rw [iv_run]
  simp only [h, hk]
  exact if_pos hc
theorem iv_Gnew {i : Instr} {x : Nat} {y : iv_E} {r : List Value} {a len : Nat} (h : iv_look (iv_t μ) pc = some (i, x)) (hk : iv_kd i x = 3) (hn : iv_new i x st = some (y, r, a, len)) (hg : iv_G L xs d μ (pc + len) lv (.ref (w.length + 1) :: r) (w ++ [y]) true (k + 1) (z + a) o) : iv_G L xs d μ pc lv st w true k z o := by
  obtain ⟨n, hn2⟩ := hg
  refine ⟨n + 1, ?_⟩
  rw [iv_run]
  simp only [h, hk, hn, if_true]
  exact hn2
/-- a call that comes back -/
theorem iv_Gcall {i : Instr} {x ν c : Nat} {as rest : List Value} {v : Option Value} {tg2 : Bool} {k2 z2 : Nat} (h : iv_look (iv_t μ) pc = some (i, x)) (hk : iv_kd i x = 5) (hν : x % 1000 = ν) (hc : iv_cv (iv_np ν) (x / 1000) = c) (ha : (st.take c).reverse = as) (hl : (st.take c).length = c) (hr : st.drop c = rest) (hs : (rest.map fun v => v.category).sum ≤ 8) (hrc : iv_rc w (x / 1000) ν as = true)
    (hcall : iv_G L xs d ν 0 (lv_args 0 as) [] w tg 0 0 (.inl v, w2, tg2, k2, z2)) (hg : iv_G L xs (d + 1) μ (pc + 3) lv (v.toList ++ rest) w2 tg2 (k + k2) (z + z2) o) : iv_G L xs (d + 1) μ pc lv st w tg k z o := by
  obtain ⟨n1, h1⟩ := hcall
  obtain ⟨n2, h2⟩ := hg
  subst hν hc ha hr
  refine ⟨n1 + n2 + 1, ?_⟩
  have hn1 := iv_run_le h1 (Nat.le_add_right n1 n2)
  rw [iv_run]
  simp only [h, hk]
  rw [if_pos ⟨hl, hs, hrc⟩, hn1]
  exact iv_run_le h2 (Nat.le_add_left _ _)
/-- a call that throws, nobody here catches -/
theorem iv_GcallT {i : Instr} {x ν c q : Nat} {as rest : List Value} {tg2 : Bool} {k2 z2 : Nat} (h : iv_look (iv_t μ) pc = some (i, x)) (hk : iv_kd i x = 5) (hx : x / 1000 < 2) (hν : x % 1000 = ν) (hc : iv_cv (iv_np ν) (x / 1000) = c) (ha : (st.take c).reverse = as) (hl : (st.take c).length = c) (hr : st.drop c = rest) (hs : (rest.map fun v => v.category).sum ≤ 8) (hrc : iv_rc w (x / 1000) ν as = true)
    (hh : iv_hd (iv_h μ) pc q = none) (he : (iv_h μ).isEmpty = true) (hcall : iv_G L xs d ν 0 (lv_args 0 as) [] w tg 0 0 (.inr q, w2, tg2, k2, z2)) : iv_G L xs (d + 1) μ pc lv st w tg k z (.inr q, w2, tg2, k + k2, z + z2) := by
  obtain ⟨n1, h1⟩ := hcall
  subst hν hc ha hr
  refine ⟨n1 + 1, ?_⟩
  rw [iv_run]
  simp only [h, hk]
  rw [if_pos ⟨hl, hs, hrc⟩, h1]
  simp only [hh]
  rw [if_pos hx, if_pos he]
/-- a call that throws, caught here -/
theorem iv_GcallH {i : Instr} {x ν c q j : Nat} {as rest : List Value} {tg2 : Bool} {k2 z2 : Nat} (h : iv_look (iv_t μ) pc = some (i, x)) (hk : iv_kd i x = 5) (hx : x / 1000 < 2) (hν : x % 1000 = ν) (hc : iv_cv (iv_np ν) (x / 1000) = c) (ha : (st.take c).reverse = as) (hl : (st.take c).length = c) (hr : st.drop c = rest) (hs : (rest.map fun v => v.category).sum ≤ 8) (hrc : iv_rc w (x / 1000) ν as = true)
    (hh : iv_hd (iv_h μ) pc q = some (pc2, j)) (hcall : iv_G L xs d ν 0 (lv_args 0 as) [] w tg 0 0 (.inr q, w2, tg2, k2, z2)) (hg : iv_G L xs (d + 1) μ pc2 (iv_no lv j) [] w2 tg2 (k + k2) (z + z2) o) : iv_G L xs (d + 1) μ pc lv st w tg k z o := by
  obtain ⟨n1, h1⟩ := hcall
  obtain ⟨n2, h2⟩ := hg
  subst hν hc ha hr
  refine ⟨n1 + n2 + 1, ?_⟩
  have hn1 := iv_run_le h1 (Nat.le_add_right n1 n2)
  rw [iv_run]
  simp only [h, hk]
  rw [if_pos ⟨hl, hs, hrc⟩, hn1]
  simp only [hh]
  rw [if_pos hx]
  exact iv_run_le h2 (Nat.le_add_left _ _)
end
end
section
/-! the world behind the two constructors: arrays by the number of their cell, ints by 100 times the cell and the field -/
def iv_wd (A : Nat → Nat → Int32) (F : Nat → Int32) (B : Nat → Int64) : iv_W := [.inr (0, [.ref 2, .ref 6, .ref 10, .ref 20, .ref 23, .ref 25, .ref 29]),
  .inr (3, [.ref 3, .ref 4, .ref 5, .int (F 203), .int (F 204), .int (F 205), .int (F 206)]),
  .inl (0, 2048, .inl (A 3)),
  .inl (0, 64, .inl (A 4)),
  .inl (1, 32, .inl (A 5)),
  .inr (1, [.ref 7, .ref 8, .ref 9, .int (F 603), .int (F 604)]),
  .inl (0, 40, .inl (A 7)),
  .inl (0, 4, .inl (A 8)),
  .inl (0, 4, .inl (A 9)),
  .inr (7, [.ref 2, .ref 6, .ref 11, .int (F 1003)]),
  .inl (3, 4, .inr (.inr (.inr (.inr (va_up (va_up (va_up (va_up (fun _ => none) 0 (some 12)) 1 (some 14)) 2 (some 16)) 3 (some 18)))))),
  .inr (5, [.ref 13, .int (F 1201), .int (F 1202)]),
  .inl (0, 64, .inl (A 13)),
  .inr (5, [.ref 15, .int (F 1401), .int (F 1402)]),
  .inl (0, 64, .inl (A 15)),
  .inr (5, [.ref 17, .int (F 1601), .int (F 1602)]),
  .inl (0, 64, .inl (A 17)),
  .inr (5, [.ref 19, .int (F 1801), .int (F 1802)]),
  .inl (0, 64, .inl (A 19)),
  .inr (4, [.ref 2, .ref 21, .ref 22, .int (F 2003), .int (F 2004)]),
  .inl (0, 256, .inl (A 21)),
  .inl (0, 4, .inl (A 22)),
  .inr (8, [.ref 24]),
  .inl (0, 3, .inl (A 24)),
  .inr (2, [.ref 2, .ref 10, .ref 26, .ref 27, .ref 28]),
  .inl (0, 32, .inl (A 26)),
  .inl (1, 32, .inl (A 27)),
  .inl (0, 64, .inl (A 28)),
  .inr (6, [.ref 2, .ref 30, .ref 31, .ref 32, .ref 33]),
  .inl (1, 32, .inl (A 30)),
  .inl (0, 2112, .inl (A 31)),
  .inl (0, 3, .inl (A 32)),
  .inl (3, 5, .inr (.inr (.inr (.inr (va_up (va_up (va_up (va_up (va_up (fun _ => none) 0 (some 34)) 1 (some 36)) 2 (some 38)) 3 (some 40)) 4 (some 42)))))),
  .inr (5, [.ref 35, .int (F 3401), .int (F 3402)]),
  .inl (0, 64, .inl (A 35)),
  .inr (5, [.ref 37, .int (F 3601), .int (F 3602)]),
  .inl (0, 64, .inl (A 37)),
  .inr (5, [.ref 39, .int (F 3801), .int (F 3802)]),
  .inl (0, 64, .inl (A 39)),
  .inr (5, [.ref 41, .int (F 4001), .int (F 4002)]),
  .inl (0, 64, .inl (A 41)),
  .inr (5, [.ref 43, .int (F 4201), .int (F 4202)]),
  .inl (0, 64, .inl (A 43)),
  .inr (9, [.int (F 4400), .int (F 4401), .ref 45, .ref 46, .ref 47, .int (F 4405), .int (F 4406), .ref 48, .int (F 4408), .int (F 4409), .int (F 4410), .ref 49, .ref 50, .int (F 4413), .ref 51, .ref 52, .ref 53, .ref 54, .ref 55, .ref 56, .int (F 4420), .ref 57, .ref 58, .ref 59, .ref 60, .ref 61, .ref 62, .ref 63, .ref 64]),
  .inl (0, 40, .inl (A 45)),
  .inl (0, 64, .inl (A 46)),
  .inl (0, 2048, .inl (A 47)),
  .inl (1, 32, .inl (A 48)),
  .inl (0, 4, .inl (A 49)),
  .inl (0, 4, .inl (A 50)),
  .inl (0, 4, .inl (A 51)),
  .inl (0, 4, .inl (A 52)),
  .inl (0, 32, .inl (A 53)),
  .inl (1, 32, .inl (A 54)),
  .inl (0, 256, .inl (A 55)),
  .inl (0, 256, .inl (A 56)),
  .inl (0, 4, .inl (A 57)),
  .inl (0, 64, .inl (A 58)),
  .inl (0, 3, .inl (A 59)),
  .inl (0, 2112, .inl (A 60)),
  .inl (1, 32, .inl (A 61)),
  .inl (0, 5, .inl (A 62)),
  .inl (0, 5, .inl (A 63)),
  .inl (0, 5, .inl (A 64)),
  .inl (2, 1, .inr (.inl B))]
def iv_Az : Nat → Nat → Int32 := fun i => if i = 4 ∨ i = 46 then upd (fun _ => 0) 2 255 else fun _ => 0
def iv_Fz : Nat → Int32 := fun q => if q = 204 ∨ q = 4406 then 2 else 0
def iv_Bz : Nat → Int64 := fun _ => 0
def iv_w2 : iv_W := [.inr (0, [.ref 2, .ref 6, .ref 10, .ref 20, .ref 23, .ref 25, .ref 29]),
  .inr (3, [.ref 3, .ref 4, .ref 5, .int 0, .int 2, .int 0, .int 0]),
  .inl (0, 2048, .inl (fun _ => 0)),
  .inl (0, 64, .inl (upd (fun _ => 0) 2 255)),
  .inl (1, 32, .inl (fun _ => 0)),
  .inr (1, [.ref 7, .ref 8, .ref 9, .int 0, .int 0]),
  .inl (0, 40, .inl (fun _ => 0)),
  .inl (0, 4, .inl (fun _ => 0)),
  .inl (0, 4, .inl (fun _ => 0)),
  .inr (7, [.ref 2, .ref 6, .ref 11, .int 0]),
  .inl (3, 4, .inr (.inr (.inr (.inr (va_up (va_up (va_up (va_up (fun _ => none) 0 (some 12)) 1 (some 14)) 2 (some 16)) 3 (some 18)))))),
  .inr (5, [.ref 13, .int 0, .int 0]),
  .inl (0, 64, .inl (fun _ => 0)),
  .inr (5, [.ref 15, .int 0, .int 0]),
  .inl (0, 64, .inl (fun _ => 0)),
  .inr (5, [.ref 17, .int 0, .int 0]),
  .inl (0, 64, .inl (fun _ => 0)),
  .inr (5, [.ref 19, .int 0, .int 0]),
  .inl (0, 64, .inl (fun _ => 0)),
  .inr (4, [.ref 2, .ref 21, .ref 22, .int 0, .int 0]),
  .inl (0, 256, .inl (fun _ => 0)),
  .inl (0, 4, .inl (fun _ => 0)),
  .inr (8, [.ref 24]),
  .inl (0, 3, .inl (fun _ => 0)),
  .inr (2, [.ref 2, .ref 10, .ref 26, .ref 27, .ref 28]),
  .inl (0, 32, .inl (fun _ => 0)),
  .inl (1, 32, .inl (fun _ => 0)),
  .inl (0, 64, .inl (fun _ => 0)),
  .inr (6, [.ref 2, .ref 30, .ref 31, .ref 32, .ref 33]),
  .inl (1, 32, .inl (fun _ => 0)),
  .inl (0, 2112, .inl (fun _ => 0)),
  .inl (0, 3, .inl (fun _ => 0)),
  .inl (3, 5, .inr (.inr (.inr (.inr (va_up (va_up (va_up (va_up (va_up (fun _ => none) 0 (some 34)) 1 (some 36)) 2 (some 38)) 3 (some 40)) 4 (some 42)))))),
  .inr (5, [.ref 35, .int 0, .int 0]),
  .inl (0, 64, .inl (fun _ => 0)),
  .inr (5, [.ref 37, .int 0, .int 0]),
  .inl (0, 64, .inl (fun _ => 0)),
  .inr (5, [.ref 39, .int 0, .int 0]),
  .inl (0, 64, .inl (fun _ => 0)),
  .inr (5, [.ref 41, .int 0, .int 0]),
  .inl (0, 64, .inl (fun _ => 0)),
  .inr (5, [.ref 43, .int 0, .int 0]),
  .inl (0, 64, .inl (fun _ => 0))]
def iv_w4 : iv_W := [.inr (0, [.ref 2, .ref 6, .ref 10, .ref 20, .ref 23, .ref 25, .ref 29]),
  .inr (3, [.ref 3, .ref 4, .ref 5, .int 0, .int 2, .int 0, .int 0]),
  .inl (0, 2048, .inl (fun _ => 0)),
  .inl (0, 64, .inl (upd (fun _ => 0) 2 255)),
  .inl (1, 32, .inl (fun _ => 0)),
  .inr (1, [.ref 7, .ref 8, .ref 9, .int 0, .int 0]),
  .inl (0, 40, .inl (fun _ => 0)),
  .inl (0, 4, .inl (fun _ => 0)),
  .inl (0, 4, .inl (fun _ => 0)),
  .inr (7, [.ref 2, .ref 6, .ref 11, .int 0]),
  .inl (3, 4, .inr (.inr (.inr (.inr (va_up (va_up (va_up (va_up (fun _ => none) 0 (some 12)) 1 (some 14)) 2 (some 16)) 3 (some 18)))))),
  .inr (5, [.ref 13, .int 0, .int 0]),
  .inl (0, 64, .inl (fun _ => 0)),
  .inr (5, [.ref 15, .int 0, .int 0]),
  .inl (0, 64, .inl (fun _ => 0)),
  .inr (5, [.ref 17, .int 0, .int 0]),
  .inl (0, 64, .inl (fun _ => 0)),
  .inr (5, [.ref 19, .int 0, .int 0]),
  .inl (0, 64, .inl (fun _ => 0)),
  .inr (4, [.ref 2, .ref 21, .ref 22, .int 0, .int 0]),
  .inl (0, 256, .inl (fun _ => 0)),
  .inl (0, 4, .inl (fun _ => 0)),
  .inr (8, [.ref 24]),
  .inl (0, 3, .inl (fun _ => 0)),
  .inr (2, [.ref 2, .ref 10, .ref 26, .ref 27, .ref 28]),
  .inl (0, 32, .inl (fun _ => 0)),
  .inl (1, 32, .inl (fun _ => 0)),
  .inl (0, 64, .inl (fun _ => 0)),
  .inr (6, [.ref 2, .ref 30, .ref 31, .ref 32, .ref 33]),
  .inl (1, 32, .inl (fun _ => 0)),
  .inl (0, 2112, .inl (fun _ => 0)),
  .inl (0, 3, .inl (fun _ => 0)),
  .inl (3, 5, .inr (.inr (.inr (.inr (va_up (va_up (va_up (va_up (va_up (fun _ => none) 0 (some 34)) 1 (some 36)) 2 (some 38)) 3 (some 40)) 4 (some 42)))))),
  .inr (5, [.ref 35, .int 0, .int 0]),
  .inl (0, 64, .inl (fun _ => 0)),
  .inr (5, [.ref 37, .int 0, .int 0]),
  .inl (0, 64, .inl (fun _ => 0)),
  .inr (5, [.ref 39, .int 0, .int 0]),
  .inl (0, 64, .inl (fun _ => 0)),
  .inr (5, [.ref 41, .int 0, .int 0]),
  .inl (0, 64, .inl (fun _ => 0)),
  .inr (5, [.ref 43, .int 0, .int 0]),
  .inl (0, 64, .inl (fun _ => 0)),
  .inr (9, [.int 0, .int 0, .ref 45, .ref 46, .ref 47, .int 0, .int 2, .ref 48, .int 0, .int 0, .int 0, .ref 49, .ref 50, .int 0, .ref 51, .ref 52, .ref 53, .ref 54, .ref 55, .ref 56, .int 0, .ref 57, .ref 58, .ref 59, .ref 60, .ref 61, .ref 62, .ref 63, .ref 64]),
  .inl (0, 40, .inl (fun _ => 0)),
  .inl (0, 64, .inl (upd (fun _ => 0) 2 255)),
  .inl (0, 2048, .inl (fun _ => 0)),
  .inl (1, 32, .inl (fun _ => 0)),
  .inl (0, 4, .inl (fun _ => 0)),
  .inl (0, 4, .inl (fun _ => 0)),
  .inl (0, 4, .inl (fun _ => 0)),
  .inl (0, 4, .inl (fun _ => 0)),
  .inl (0, 32, .inl (fun _ => 0)),
  .inl (1, 32, .inl (fun _ => 0)),
  .inl (0, 256, .inl (fun _ => 0)),
  .inl (0, 256, .inl (fun _ => 0)),
  .inl (0, 4, .inl (fun _ => 0)),
  .inl (0, 64, .inl (fun _ => 0)),
  .inl (0, 3, .inl (fun _ => 0)),
  .inl (0, 2112, .inl (fun _ => 0)),
  .inl (1, 32, .inl (fun _ => 0)),
  .inl (0, 5, .inl (fun _ => 0)),
  .inl (0, 5, .inl (fun _ => 0)),
  .inl (0, 5, .inl (fun _ => 0))]
set_option maxRecDepth 1000000 in
set_option maxHeartbeats 40000000 in
theorem iv_init1 (L : Nat) (xs : Nat → Int32) : iv_G L xs 19 1 0 [(0, .ref 1)] [] [.inr (0, iv_f0 0)] true 0 0 (.inl none, iv_w2, true, 42, 5374) := ⟨400, rfl⟩
set_option maxRecDepth 1000000 in
set_option maxHeartbeats 40000000 in
theorem iv_init2 (L : Nat) (xs : Nat → Int32) : iv_G L xs 19 132 0 [(0, .ref 44)] [] (iv_w2 ++ [.inr (9, iv_f0 9)]) true 0 0 (.inl none, iv_w4, true, 20, 5006) := ⟨400, rfl⟩
end
section
/-! rules for a symbolic walk of my machine -/
section
variable {L : Nat} {xs : Nat → Int32} {d μ pc pc2 p1 p2 : Nat} {lv lv2 : List (Nat × Value)} {st st2 : List Value} {w w2 : iv_W} {tg : Bool} {k z : Nat} {o : iv_O}
theorem iv_Gbt {c : Bool} (h : iv_nx L xs μ pc lv st w = some (if c = true then p1 else p2, lv2, st2, w2)) (hc : c = true) (hg : iv_G L xs d μ p1 lv2 st2 w2 tg k z o) : iv_G L xs d μ pc lv st w tg k z o := by
  rw [if_pos hc] at h
  exact iv_G1 h hg
theorem iv_Gbf {c : Bool} (h : iv_nx L xs μ pc lv st w = some (if c = true then p1 else p2, lv2, st2, w2)) (hc : c = false) (hg : iv_G L xs d μ p2 lv2 st2 w2 tg k z o) : iv_G L xs d μ pc lv st w tg k z o := by
  rw [if_neg (by rw [hc]; decide)] at h
  exact iv_G1 h hg
/-- a switch -/
theorem iv_Gsw {y : Int32} {r : List Value} {t x : Nat} {dflt lo hi : Int} {offs : Array Int} (h : iv_look (iv_t μ) pc = some (.tableswitch dflt lo hi offs, x)) (hst : st = .int y :: r) (hs : iv_sw pc dflt lo hi offs y = some t) (hg : iv_G L xs d μ t lv r w tg k z o) : iv_G L xs d μ pc lv st w tg k z o := by
  refine iv_G1 (pc2 := t) (lv2 := lv) (st2 := r) (w2 := w) ?_ hg
  unfold iv_nx
  simp only [h, hst]
  show iv_step L xs μ (.tableswitch dflt lo hi offs) x pc lv (.int y :: r) w = _
  simp only [iv_step, iv_p1, hs]
end
/-- the law comes to true, with little made -/
def iv_Fin (L : Nat) (xs : Nat → Int32) (d μ pc : Nat) (lv : List (Nat × Value)) (st : List Value) (w : iv_W) (tg : Bool) (k z : Nat) : Prop := ∃ (w2 : iv_W) (tg2 : Bool) (k2 z2 : Nat), iv_G L xs d μ pc lv st w tg k z (.inl (some (.int 1)), w2, tg2, k2, z2) ∧ k2 ≤ 70 ∧ z2 ≤ 20000
section
variable {L : Nat} {xs : Nat → Int32} {d μ pc pc2 p1 p2 : Nat} {lv lv2 : List (Nat × Value)} {st st2 : List Value} {w w2 : iv_W} {tg : Bool} {k z : Nat}
theorem iv_Eof {P : iv_O → Prop} (h : ∀ o, iv_G L xs d μ pc2 lv2 st2 w2 tg k z o → iv_G L xs d μ pc lv st w tg k z o) (hg : iv_Fin L xs d μ pc2 lv2 st2 w2 tg k z) : iv_Fin L xs d μ pc lv st w tg k z := by
  obtain ⟨a, b, c, e, h1, h2⟩ := hg
  exact ⟨a, b, c, e, h _ h1, h2⟩
theorem iv_Em (m : Nat) (h : iv_nxs L xs μ m pc lv st w = some (pc2, lv2, st2, w2)) (hg : iv_Fin L xs d μ pc2 lv2 st2 w2 tg k z) : iv_Fin L xs d μ pc lv st w tg k z := iv_Eof (P := fun _ => True) (fun _ g => iv_Gm m h g) hg
theorem iv_Ebt {c : Bool} (h : iv_nx L xs μ pc lv st w = some (if c = true then p1 else p2, lv2, st2, w2)) (hc : c = true) (hg : iv_Fin L xs d μ p1 lv2 st2 w2 tg k z) : iv_Fin L xs d μ pc lv st w tg k z := iv_Eof (P := fun _ => True) (fun _ g => iv_Gbt h hc g) hg
theorem iv_Ebf {c : Bool} (h : iv_nx L xs μ pc lv st w = some (if c = true then p1 else p2, lv2, st2, w2)) (hc : c = false) (hg : iv_Fin L xs d μ p2 lv2 st2 w2 tg k z) : iv_Fin L xs d μ pc lv st w tg k z := iv_Eof (P := fun _ => True) (fun _ g => iv_Gbf h hc g) hg
theorem iv_Eif {c : Bool} (h : iv_nx L xs μ pc lv st w = if c = true then some (pc2, lv2, st2, w2) else none) (hc : c = true) (hg : iv_Fin L xs d μ pc2 lv2 st2 w2 tg k z) : iv_Fin L xs d μ pc lv st w tg k z := iv_Eof (P := fun _ => True) (fun _ g => iv_Gif h hc g) hg
theorem iv_Esw {y : Int32} {r : List Value} {t x : Nat} {dflt lo hi : Int} {offs : Array Int} (h : iv_look (iv_t μ) pc = some (.tableswitch dflt lo hi offs, x)) (hst : st = .int y :: r) (hs : iv_sw pc dflt lo hi offs y = some t) (hg : iv_Fin L xs d μ t lv r w tg k z) : iv_Fin L xs d μ pc lv st w tg k z := iv_Eof (P := fun _ => True) (fun _ g => iv_Gsw h hst hs g) hg
theorem iv_Ecall {i : Instr} {x ν c : Nat} {as rest : List Value} {v : Option Value} {tg2 : Bool} {k2 z2 : Nat} (h : iv_look (iv_t μ) pc = some (i, x)) (hk : iv_kd i x = 5) (hν : x % 1000 = ν) (hc : iv_cv (iv_np ν) (x / 1000) = c) (ha : (st.take c).reverse = as) (hl : (st.take c).length = c) (hr : st.drop c = rest) (hs : (rest.map fun v => v.category).sum ≤ 8) (hrc : iv_rc w (x / 1000) ν as = true)
    (hcall : iv_G L xs d ν 0 (lv_args 0 as) [] w tg 0 0 (.inl v, w2, tg2, k2, z2)) (hg : iv_Fin L xs (d + 1) μ (pc + 3) lv (v.toList ++ rest) w2 tg2 (k + k2) (z + z2)) : iv_Fin L xs (d + 1) μ pc lv st w tg k z := by
  obtain ⟨a, b, c9, e, h1, h2⟩ := hg
  exact ⟨a, b, c9, e, iv_Gcall h hk hν hc ha hl hr hs hrc hcall h1, h2⟩
theorem iv_Eret {i : Instr} {x : Nat} (h : iv_look (iv_t μ) pc = some (i, x)) (hk : iv_kd i x = 1) (hr : iv_ret (iv_r μ) i st = some (some (.int 1))) (h1 : k ≤ 70) (h2 : z ≤ 20000) : iv_Fin L xs d μ pc lv st w tg k z := ⟨_, _, _, _, iv_Gret h hk hr, h1, h2⟩
end
-- numbers
theorem iv_lu {x a b : Int32} (h : x < a) (hab : a ≤ b) : x < b := Int32.lt_of_lt_of_le h hab
theorem iv_ld2 {x a b : Int32} (h : ¬ x < b) (hab : a ≤ b) : ¬ x < a := fun q => h (iv_lu q hab)
theorem iv_lg2 {x a b : Int32} (hab : a.toInt + 1 = b.toInt) : a < x ↔ ¬ x < b := by
  rw [Int32.lt_iff_toInt_lt, Int32.lt_iff_toInt_lt]
  omega
end
section
set_option maxRecDepth 100000 in
/-- what the Statement gives of the start, in my words -/
theorem iv_begin {s : State} {b L : Nat} {xs : Nat → Int32} (hts : ∀ w ∈ lw_tbl, w.before #[Value.ref b] s = true) (hX : va_X b L xs s s.heap) (hb : b < s.heap.size) (hg : (Jvm.Cond.and given_1 narrow_1).before #[Value.ref b] s = true) : ∃ (D : va_G) (tc : Nat → ClassId), iv_St L xs s.heap.size b D tc s := by
  have hta : ∀ w ∈ iv_all, w.before #[Value.ref b] s = true := fun w hw => hts w (iv_all_in hw)
  have hK : ∀ ci : Nat, ∃ q : ClassId × (Nat → Nat), ci < 10 → u_Kn s (iv_cnm ci) (iv_T ci) (iv_N ci) q.1 q.2 := by
    intro ci
    by_cases h : ci < 10
    · obtain ⟨cC, iS, hk⟩ := u_known hta (iv_cs_words h).2.2 (hta _ (iv_cs_words h).1)
      exact ⟨(cC, iS), fun _ => hk⟩
    · exact ⟨(0, fun _ => 0), fun h2 => absurd h2 h⟩
  obtain ⟨f, hf⟩ := Classical.axiomOfChoice hK
  obtain ⟨w1, w2, w3⟩ := iv_arr_words
  obtain ⟨c0, k0, m0, p01, p02, p03⟩ := Cond.arrayClass_spec (hta _ (iv_is_in w1))
  obtain ⟨c1, k1, m1, p11, p12, p13⟩ := Cond.arrayClass_spec (hta _ (iv_is_in w2))
  obtain ⟨c2, k2, m2, p21, p22, p23⟩ := Cond.arrayClass_spec (hta _ (iv_is_in w3))
  have hover := hts _ (List.mem_of_getElem? iv_over_word)
  obtain ⟨m3, c3, k3, p31, -, p33, p34, p35⟩ := Cond.arrayOver_spec hover
  have hs := flat_of_before _ hg
  refine ⟨(fun c => (f c).1, fun c => (f c).2), fun t => match t with
    | 0 => c0
    | 1 => c1
    | 2 => c2
    | _ => c3, ⟨fun c q hq => ?_, fun k q hk => ?_⟩, fun q hq => ?_, hover, hX, hb, Nat.le_refl _, ?_⟩
  · have hc : c < 10 := (List.getElem?_eq_some_iff.mp hq).1
    cases (iv_cl_at c hc).symm.trans hq
    exact hf c hc
  · have hk4 : k < 4 := (List.getElem?_eq_some_iff.mp hk).1
    have : k = 0 ∨ k = 1 ∨ k = 2 ∨ k = 3 := by omega
    rcases this with rfl | rfl | rfl | rfl <;> cases hk
    · exact ⟨fun n z => ⟨(fun k h => by cases h), k0, p02, m0, p03⟩, p01⟩
    · exact ⟨fun n z => ⟨(fun k h => by cases h), k1, p12, m1, p13⟩, p11⟩
    · exact ⟨fun n z => ⟨(fun k h => by cases h), k2, p22, m2, p23⟩, p21⟩
    · exact ⟨fun n z => ⟨(fun k h => by cases h), k3, p33, m3, p34⟩, k3, m3, p33, p34, p31, p35⟩
  · obtain ⟨r, hr, rfl⟩ := List.mem_map.mp hq
    have h1 := List.all_eq_true.mp iv_nl_ok r hr
    exact va_Nw.of rfl (hts _ (List.mem_of_getElem? (of_decide_eq_true h1)))
  · refine ⟨iv_Zs_of (hts _ (List.mem_of_getElem? (i := 423) rfl)) (hs _ (by decide +kernel)) (Nat.le_refl _), iv_Zs_of (hts _ (List.mem_of_getElem? (i := 425) rfl)) (hs _ (by decide +kernel)) (Nat.le_refl _),
      va_Nw.of rfl (hts _ (List.mem_of_getElem? (i := 399) rfl)), va_Nw.of rfl (hts _ (List.mem_of_getElem? (i := 401) rfl)), va_Nw.of rfl (hts _ (List.mem_of_getElem? (i := 403) rfl)), fun q hq => ?_, fun q r hq hr hne => ?_⟩
    · have : q = 0 ∨ q = 1 ∨ q = 2 := by omega
      rcases this with rfl | rfl | rfl
      · exact va_Nw.of rfl (hts _ (List.mem_of_getElem? (i := 398) rfl))
      · exact va_Nw.of rfl (hts _ (List.mem_of_getElem? (i := 465) rfl))
      · exact va_Nw.of rfl (hts _ (List.mem_of_getElem? (i := 616) rfl))
    · have hq3 : q = 0 ∨ q = 1 ∨ q = 2 := by omega
      have hr3 : r = 0 ∨ r = 1 ∨ r = 2 := by omega
      rcases hq3 with rfl | rfl | rfl <;> rcases hr3 with rfl | rfl | rfl <;> first | exact absurd rfl hne | exact va_Nc.of (hs _ (by decide +kernel))
end
section
/-! THE CLAIM IS FALSE: at the script iw_xs the law comes to its end with 0 (REPORT.md, STATEMENT 1) -/
def iw_xs : List Int32 := [11, 2, 0, 15, 0, 0, 11, 2, 1, 65, 0, 0, 11, 2, 2, 70, 0, 0, 11, 2, 3, 120, 0, 0, 11, 2, 8, 1, 0, 0, 11, 2, 9, 65, 0, 0, 11, 2, 11, 66, 0, 0, 0, 0, 120, 0, 0, 0, 7, 0, 0, 0, 0, 0]
def iw_ok (o : Option iv_O) : Bool := match o with
  | some (.inl (some (.int v)), _, _, k, z) => decide (v = 0) && (decide (k ≤ 601024) && decide (z ≤ 7293034))
  | _ => false
set_option maxRecDepth 1000000 in
theorem iw_chk : iw_ok (iv_run iw_xs.length (fun j => iw_xs.getD j 0) 4000 20 0 0 [(0, .ref 0)] [] [] true 0 0) = true := by decide +kernel
theorem iw_of_ok {o : Option iv_O} (h : iw_ok o = true) : ∃ (w2 : iv_W) (tg2 : Bool) (k2 z2 : Nat), o = some (.inl (some (.int 0)), w2, tg2, k2, z2) ∧ k2 ≤ 601024 ∧ z2 ≤ 7293034 := by
  unfold iw_ok at h
  split at h
  · simp only [Bool.and_eq_true, decide_eq_true_eq] at h
    obtain ⟨rfl, h1, h2⟩ := h
    exact ⟨_, _, _, _, rfl, h1, h2⟩
  · cases h
theorem iw_law_run : ∃ (n : Nat) (w2 : iv_W) (tg2 : Bool) (k2 z2 : Nat), iv_run iw_xs.length (fun j => iw_xs.getD j 0) n 20 0 0 [(0, .ref 0)] [] [] true 0 0 = some (.inl (some (.int 0)), w2, tg2, k2, z2) ∧ k2 ≤ 601024 ∧ z2 ≤ 7293034 := by
  obtain ⟨w2, tg2, k2, z2, h, h1, h2⟩ := iw_of_ok iw_chk
  exact ⟨4000, w2, tg2, k2, z2, h, h1, h2⟩
def R_law : String := "FatVolumeLaw"
def lw_P (b : Addr) (xs : List Int32) (args : Array Value) (s : State) : Prop := args = #[.ref b] ∧ s.IntsAt b xs ∧ xs = iw_xs ∧ (Jvm.Cond.and given_1 narrow_1).before args s = true
def lw_Q (_ : Array Value) (s : State) (o : Outcome) (t : State) : Prop := o = .returned (some (.int 0)) ∧ Framed s o t [] 601024 7293034
def lw_Z (below : List Frame) (a : Array Value) (s : State) : State → Prop := fun t => ∃ o, t.status = .running ∧ Ended t below o ∧ lw_Q a s o t
/-- the law's own end, with 0 on the stack, nothing written that was there before, its room as the claim has it -/
theorem lw_ret {p : Program} {l : Launch} {e : Env} {s : State} {m : MethodId} {below : List Frame} {meth : Method} {c : Code} {b : Nat} (hx : p.tables.exec = Jvm.exec) (hb : c.code = code) (hr : meth.sig.returnType = ret) (hlocks : meth.locks = false) {pc : Nat} {H : Heap} {ls : Array Slot} (hdg : decode code pc = .ok (.ireturn, 1)) : W p l e room_1 s m #[Value.ref b] below meth c H [] 601024 7293034 (lw_Z below #[Value.ref b] s) (F0 m pc ls [.int 0]) := by
  intro T hT X
  obtain ⟨fs, hret, hrun, hended, hW, hframe⟩ := X.leave (v := some (.int 0)) (hlocks := hlocks) (fun h => by rw [hr] at h; cases h)
  have hmeth' : T.vm.method? m = some meth := X.method'
  refine ⟨T.setFrames fs, ?_, .returned (some (.int 0)), hrun, hended, rfl, ⟨_, rfl⟩, hW, hframe⟩
  jvm_step X.here [X.here.top, hx, hb, hdg, hmeth', hr, ret, narrow_b0]
  (try refine ⟨rfl, ?_⟩); (try refine ⟨rfl, ?_⟩)
  first | (intro acts; rw [hret _ acts rfl rfl rfl]) | rw [hret _ _ rfl rfl rfl]
  exact Steps.refl _
/-- what holds at the law's entry: the machine, the code, the tables' words (any of lw_tbl by 'hts w (by decide +kernel)'), the script of L ints xs at the cell b, what the Statement gives of the start (any of its parts by flat_of_before) -/
def lw_At (p : Program) (s : State) (m : MethodId) (meth : Method) (c : Code) (b L : Nat) (xs : Nat → Int32) : Prop :=
  p.tables.exec = Jvm.exec ∧ c.code = code ∧ meth.sig.returnType = ret ∧ c.maxLocals = 7 ∧ s.vm.findClass R_law = some m.cls ∧ (∀ w ∈ lw_tbl, w.before #[Value.ref b] s = true) ∧ va_X b L xs s s.heap ∧ b < s.heap.size ∧ meth.locks = false ∧ (Jvm.Cond.and given_1 narrow_1).before #[Value.ref b] s = true
/-- from the entry, for this script the law comes to its end with false -/
theorem whole_start {p : Program} {e : Env} {s : State} {m : MethodId} {below : List Frame} {meth : Method} {c : Code} (l : Launch) {b : Nat} (hfl : l.flags = flags0) (hname : meth.name = "law") (hnoh : c.exceptionTable.isEmpty = true) (C0 : lw_At p s m meth c b iw_xs.length (fun j => iw_xs.getD j 0)) : W p l e room_1 s m #[Value.ref b] below meth c s.heap [] 0 0 (lw_Z below #[Value.ref b] s) (entryFrame m ([Value.ref b] : List Value).toArray 7) := by
  obtain ⟨hx, hb, hr, hml, hown, hts, hX, hbl, hlocks, hg⟩ := C0
  obtain ⟨D, tc, hSt⟩ := iv_begin hts hX hbl hg
  obtain ⟨n, w2, tg2, k2, z2, hrun, hk, hz⟩ := iw_law_run
  have hl := lv_entry ([.ref b]) (n := 7) (Nat.le_of_ble_eq_true rfl)
  rw [lg_entry_eq]
  have htab : c.exceptionTable.toList = [] := List.eq_nil_of_length_eq_zero (by simpa [Array.isEmpty] using hnoh)
  refine iv_sound iv_tab iw_xs.length (fun j => iw_xs.getD j 0) s.heap.size b D tc n 20 0 0 [(0, .ref 0)] [] [] true 0 0 _ w2 tg2 k2 z2 hrun p l e room_1 s m _ below meth c s.heap [] _ _ hx hb hml hown (fun w hw => hts w (iv_all_in hw)) hlocks hname ?_ hfl hSt ?_ va_S.rf hl (fun _ => rfl) (by decide) (by decide) hk hz ?_ (fun q hq => by cases hq)
  · unfold iv_Hx
    rw [htab]
    rfl
  · intro k q hq
    cases hq
  · intro v hv pc1 i1 x1 st1 H1 locs1 ls1 hd1 hr1 hP1 hS1
    cases hv
    have hret : iv_ret (some .boolean) i1 st1 = some (some (.int 0)) := hr1
    unfold iv_ret at hret
    split at hret
    · cases hret
    · next h => cases h
    · next h9 =>
      split at hret
      · cases hret
        refine va_forget (fun q hq => hS1.2.2 q hq) ?_
        exact W.widen hk hz (lw_ret hx hb hr hlocks hd1)
      · cases hret
    all_goals first | cases hret | (next h => cases h)

set_option maxHeartbeats 4000000 in
theorem lw_walk (l : Launch) (hfl : l.flags = flags0) (b : Addr) (xs : List Int32) : MetFree l x (headSpec (Jvm.Cond.code x code maxLocals ret :: tables_1) room_1) (lw_P b xs) (fun _ _ _ _ _ => True) lw_Q := by
  refine MetFree.of_bodyS (code := code) (maxLocals := maxLocals) (ret := ret) (by decide) ?_ ?_
  · intro args s m h hn
    obtain ⟨meth, c, h1, h2, h3, h4, h5, h6, -, -⟩ := Cond.code_spec hn (atoms_spec (ws := Jvm.Cond.code x code maxLocals ret :: tables_1) h _ List.mem_cons_self)
    exact ⟨meth, c, h1, h2, h3, h4, h5, h6⟩
  · intro p e s m args below meth c s₁ B hml0 hP _
    obtain ⟨rfl, hx, hbd, hgv⟩ := hP
    subst hbd
    obtain ⟨scr, harrAt, hlist, hof, hsmall⟩ := hx
    obtain ⟨hcb, hkn, -, -⟩ := State.arrayAt?_spec harrAt
    have hown : s.vm.findClass R_law = some m.cls := findClass_of_methodNamed B.named
    have hts0 : ∀ c ∈ (Jvm.Cond.code x code maxLocals ret :: tables_1), c.before #[Value.ref b] s = true := atoms_spec (ws := Jvm.Cond.code x code maxLocals ret :: tables_1) B.pre
    have hts : ∀ w ∈ lw_tbl, w.before #[Value.ref b] s = true := k2_hts_sels lw_privs (fun w hw => hts0 w (List.mem_cons_of_mem _ hw)) lw_privs_ok
    have hml : c.maxLocals = 7 := B.maxLocals_eq (hts0 _ List.mem_cons_self)
    have X₀ : Stand p l e room_1 s m #[Value.ref b] below meth c s₁ [] 0 0 := Stand.of_body B
    have hh0 : s₁.heap = s.heap := by rw [B.state]; rfl
    have hsz : scr.slots.size = iw_xs.length := by rw [← Array.length_toList, hlist, List.length_map]
    have hval : ∀ j : Nat, j < iw_xs.length → scr.slots[j]? = some (.int (iw_xs.getD j 0)) := fun j hj => by
      rw [← Array.getElem?_toList, hlist]
      simp [hj]
    have hbl : b < s.heap.size := (Array.getElem?_eq_some_iff.mp hcb).1
    have hX : va_X b iw_xs.length (fun j => iw_xs.getD j 0) s s.heap := ⟨scr, hcb, hof, hkn, hsz, hval⟩
    have K : W p l e room_1 s m #[Value.ref b] below meth c s₁.heap [] 0 0 (lw_Z below #[Value.ref b] s) (entryFrame m ([Value.ref b] : List Value).toArray 7) := by
      rw [hh0]
      exact whole_start l hfl (name_of_methodNamed B.named B.method).1 (B.noHandlers (hts0 _ List.mem_cons_self)) ⟨B.exec, B.bytes, B.returns, hml, hown, hts, hX, hbl, B.notSynchronized, hgv⟩
    obtain ⟨t, a1, o, b1, b2, b3⟩ := K s₁ rfl X₀
    exact ⟨t, o, a1, b1, b2, b3⟩
theorem iw_falls (l : Launch) (hfl : l.flags = flags0) {p : Program} {e : Env} {s : State} {m : MethodId} {args : Array Value} {below : List Frame} (hS : AtStart classFile x code maxLocals ret World_1 tables_1 room_1 Calls_1 rest_1 Pre_1 l p e s m args below) (b : Addr) (ha : args = #[.ref b]) (hx : s.IntsAt b iw_xs) : RefutedClaimed_1_2 := by
  have hS2 := hS
  obtain ⟨hL, hW, had, hle, hcas, hclk, hfr, hfit, hheap, happ, hcalls, hrest, hpre⟩ := hS2
  obtain ⟨k, o, h1, h2, h3, hQ⟩ := lw_walk l hfl b iw_xs p e had hcas hclk s m args below hfr ((Spec.applies_iff_loose hfr).mp happ).1 ⟨ha, hx, rfl, hpre⟩ trivial
  refine ⟨l, p, e, s, m, args, below, hfl, hS, k, o, h1, h2, h3, fun hn => ?_⟩
  have ho : o = .returned (some (.int 0)) := hQ.1
  subst ho
  have h := Cond.after_iff.mp hn.1
  rw [show limb_1_2 = Cond.eq .result (.int 1) from rfl, Cond.eq_ints (x := 0) (y := 1) rfl rfl] at h
  simp at h
theorem iw_not (hF : RefutedClaimed_1_2) : ¬ (Claimed_1_1 ∧ Claimed_1_2) := by
  intro hA
  obtain ⟨l, p, e, s, m, args, below, hfl, ⟨hL, hW, had, hle, hcas, hclk, hfr, hfit, hheap, happ, hcalls, hrest, hpre⟩, n, o, hin, hr, hend, hnot⟩ := hF
  obtain ⟨k, q, hin2, hr2, hend2, hpost⟩ := hA.2 l hfl hL hW p e had hcas hclk s m args below hfr hfit hheap happ ⟨hcalls, hrest, hpre⟩
  have hnk : n = k := Nat.le_antisymm (Nat.le_of_not_lt fun h => absurd (hin k h) hend2.not_within) (Nat.le_of_not_lt fun h => absurd (hin2 n h) hend.not_within)
  subst hnk
  have hoq := hend.outcome_unique hend2
  subst hoq
  exact hnot hpost
end
