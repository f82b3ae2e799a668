/-! contexts of spoil -/
/-- FatVolume.isCluster(I)Z(-2147483648, 1) -/
def ie_m0 : ia_M := ⟨25, 1, [.inl ⟨.negSucc 2147483647, .ofNat 1, [], []⟩], [], [⟨none, some (.inl ⟨.ofNat 0, .ofNat 0, [], []⟩), [], 0⟩], [], [], [8, 9, 49, 50], [], [], []⟩
/-- FatVolume.isCluster(I)Z(32, 2147483647) -/
def ie_m1 : ia_M := ⟨25, 1, [.inl ⟨.ofNat 32, .ofNat 2147483647, [], []⟩], [], [⟨none, some (.inl ⟨.ofNat 0, .ofNat 0, [], []⟩), [], 0⟩], [], [], [8, 9, 49, 50], [], [], []⟩
/-- FatVolume.isCluster(I)Z(2, 2) -/
def ie_m2 : ia_M := ⟨25, 1, [.inl ⟨.ofNat 2, .ofNat 2, [], []⟩], [], [⟨none, some (.inl ⟨.ofNat 1, .ofNat 1, [], []⟩), [], 0⟩], [], [], [8, 9, 49, 50], [], [], []⟩
/-- FatVolume$Disk.isSpoilt(I)Z(2, 2, 0) -/
def ie_m3 : ia_M := ⟨60, 1, [.inr (.inl [2]), .inl ⟨.ofNat 2, .ofNat 2, [], []⟩], [(60002, .ofNat 0, .ofNat 0)], [⟨none, some (.inl ⟨.ofNat 0, .ofNat 0, [(60002, .ofNat 0)], []⟩), [], 0⟩], [], [], [5, 8, 9, 49, 50], [], [], []⟩
/-- FatVolume$Disk.setSpoilt(I)V(2, 2, 0) -/
def ie_m4 : ia_M := ⟨61, 1, [.inr (.inl [2]), .inl ⟨.ofNat 2, .ofNat 2, [], []⟩], [(60002, .ofNat 0, .ofNat 0)], [⟨none, none, [(60002, .ofNat 1, .ofNat 1)], 0⟩], [], [(5, 2, 2)], [5, 8, 9, 49, 50], [], [], []⟩
/-- FatVolume$Disk.isSpoilt(I)Z(2, 2, 1) -/
def ie_m5 : ia_M := ⟨60, 1, [.inr (.inl [2]), .inl ⟨.ofNat 2, .ofNat 2, [], []⟩], [(60002, .ofNat 1, .ofNat 1)], [⟨none, some (.inl ⟨.ofNat 1, .ofNat 1, [(60002, .ofNat 0)], []⟩), [], 0⟩], [], [], [5, 8, 9, 49, 50], [], [], []⟩
/-- FatVolume.isCluster(I)Z(3, 3) -/
def ie_m6 : ia_M := ⟨25, 1, [.inl ⟨.ofNat 3, .ofNat 3, [], []⟩], [], [⟨none, some (.inl ⟨.ofNat 1, .ofNat 1, [], []⟩), [], 0⟩], [], [], [8, 9, 49, 50], [], [], []⟩
/-- FatVolume$Disk.isSpoilt(I)Z(3, 3, 0) -/
def ie_m7 : ia_M := ⟨60, 1, [.inr (.inl [2]), .inl ⟨.ofNat 3, .ofNat 3, [], []⟩], [(60003, .ofNat 0, .ofNat 0)], [⟨none, some (.inl ⟨.ofNat 0, .ofNat 0, [(60003, .ofNat 0)], []⟩), [], 0⟩], [], [], [5, 8, 9, 49, 50], [], [], []⟩
/-- FatVolume$Disk.setSpoilt(I)V(3, 3, 0) -/
def ie_m8 : ia_M := ⟨61, 1, [.inr (.inl [2]), .inl ⟨.ofNat 3, .ofNat 3, [], []⟩], [(60003, .ofNat 0, .ofNat 0)], [⟨none, none, [(60003, .ofNat 1, .ofNat 1)], 0⟩], [], [(5, 3, 3)], [5, 8, 9, 49, 50], [], [], []⟩
/-- FatVolume$Disk.isSpoilt(I)Z(3, 3, 1) -/
def ie_m9 : ia_M := ⟨60, 1, [.inr (.inl [2]), .inl ⟨.ofNat 3, .ofNat 3, [], []⟩], [(60003, .ofNat 1, .ofNat 1)], [⟨none, some (.inl ⟨.ofNat 1, .ofNat 1, [(60003, .ofNat 0)], []⟩), [], 0⟩], [], [], [5, 8, 9, 49, 50], [], [], []⟩
/-- FatVolume.isCluster(I)Z(4, 4) -/
def ie_m10 : ia_M := ⟨25, 1, [.inl ⟨.ofNat 4, .ofNat 4, [], []⟩], [], [⟨none, some (.inl ⟨.ofNat 1, .ofNat 1, [], []⟩), [], 0⟩], [], [], [8, 9, 49, 50], [], [], []⟩
/-- FatVolume$Disk.isSpoilt(I)Z(4, 4, 0) -/
def ie_m11 : ia_M := ⟨60, 1, [.inr (.inl [2]), .inl ⟨.ofNat 4, .ofNat 4, [], []⟩], [(60004, .ofNat 0, .ofNat 0)], [⟨none, some (.inl ⟨.ofNat 0, .ofNat 0, [(60004, .ofNat 0)], []⟩), [], 0⟩], [], [], [5, 8, 9, 49, 50], [], [], []⟩
/-- FatVolume$Disk.setSpoilt(I)V(4, 4, 0) -/
def ie_m12 : ia_M := ⟨61, 1, [.inr (.inl [2]), .inl ⟨.ofNat 4, .ofNat 4, [], []⟩], [(60004, .ofNat 0, .ofNat 0)], [⟨none, none, [(60004, .ofNat 1, .ofNat 1)], 0⟩], [], [(5, 4, 4)], [5, 8, 9, 49, 50], [], [], []⟩
/-- FatVolume$Disk.isSpoilt(I)Z(4, 4, 1) -/
def ie_m13 : ia_M := ⟨60, 1, [.inr (.inl [2]), .inl ⟨.ofNat 4, .ofNat 4, [], []⟩], [(60004, .ofNat 1, .ofNat 1)], [⟨none, some (.inl ⟨.ofNat 1, .ofNat 1, [(60004, .ofNat 0)], []⟩), [], 0⟩], [], [], [5, 8, 9, 49, 50], [], [], []⟩
/-- FatVolume.isCluster(I)Z(5, 5) -/
def ie_m14 : ia_M := ⟨25, 1, [.inl ⟨.ofNat 5, .ofNat 5, [], []⟩], [], [⟨none, some (.inl ⟨.ofNat 1, .ofNat 1, [], []⟩), [], 0⟩], [], [], [8, 9, 49, 50], [], [], []⟩
/-- FatVolume$Disk.isSpoilt(I)Z(5, 5, 0) -/
def ie_m15 : ia_M := ⟨60, 1, [.inr (.inl [2]), .inl ⟨.ofNat 5, .ofNat 5, [], []⟩], [(60005, .ofNat 0, .ofNat 0)], [⟨none, some (.inl ⟨.ofNat 0, .ofNat 0, [(60005, .ofNat 0)], []⟩), [], 0⟩], [], [], [5, 8, 9, 49, 50], [], [], []⟩
/-- FatVolume$Disk.setSpoilt(I)V(5, 5, 0) -/
def ie_m16 : ia_M := ⟨61, 1, [.inr (.inl [2]), .inl ⟨.ofNat 5, .ofNat 5, [], []⟩], [(60005, .ofNat 0, .ofNat 0)], [⟨none, none, [(60005, .ofNat 1, .ofNat 1)], 0⟩], [], [(5, 5, 5)], [5, 8, 9, 49, 50], [], [], []⟩
/-- FatVolume$Disk.isSpoilt(I)Z(5, 5, 1) -/
def ie_m17 : ia_M := ⟨60, 1, [.inr (.inl [2]), .inl ⟨.ofNat 5, .ofNat 5, [], []⟩], [(60005, .ofNat 1, .ofNat 1)], [⟨none, some (.inl ⟨.ofNat 1, .ofNat 1, [(60005, .ofNat 0)], []⟩), [], 0⟩], [], [], [5, 8, 9, 49, 50], [], [], []⟩
/-- FatVolume.isCluster(I)Z(6, 6) -/
def ie_m18 : ia_M := ⟨25, 1, [.inl ⟨.ofNat 6, .ofNat 6, [], []⟩], [], [⟨none, some (.inl ⟨.ofNat 1, .ofNat 1, [], []⟩), [], 0⟩], [], [], [8, 9, 49, 50], [], [], []⟩
/-- FatVolume$Disk.isSpoilt(I)Z(6, 6, 0) -/
def ie_m19 : ia_M := ⟨60, 1, [.inr (.inl [2]), .inl ⟨.ofNat 6, .ofNat 6, [], []⟩], [(60006, .ofNat 0, .ofNat 0)], [⟨none, some (.inl ⟨.ofNat 0, .ofNat 0, [(60006, .ofNat 0)], []⟩), [], 0⟩], [], [], [5, 8, 9, 49, 50], [], [], []⟩
/-- FatVolume$Disk.setSpoilt(I)V(6, 6, 0) -/
def ie_m20 : ia_M := ⟨61, 1, [.inr (.inl [2]), .inl ⟨.ofNat 6, .ofNat 6, [], []⟩], [(60006, .ofNat 0, .ofNat 0)], [⟨none, none, [(60006, .ofNat 1, .ofNat 1)], 0⟩], [], [(5, 6, 6)], [5, 8, 9, 49, 50], [], [], []⟩
/-- FatVolume$Disk.isSpoilt(I)Z(6, 6, 1) -/
def ie_m21 : ia_M := ⟨60, 1, [.inr (.inl [2]), .inl ⟨.ofNat 6, .ofNat 6, [], []⟩], [(60006, .ofNat 1, .ofNat 1)], [⟨none, some (.inl ⟨.ofNat 1, .ofNat 1, [(60006, .ofNat 0)], []⟩), [], 0⟩], [], [], [5, 8, 9, 49, 50], [], [], []⟩
/-- FatVolume.isCluster(I)Z(7, 7) -/
def ie_m22 : ia_M := ⟨25, 1, [.inl ⟨.ofNat 7, .ofNat 7, [], []⟩], [], [⟨none, some (.inl ⟨.ofNat 1, .ofNat 1, [], []⟩), [], 0⟩], [], [], [8, 9, 49, 50], [], [], []⟩
/-- FatVolume$Disk.isSpoilt(I)Z(7, 7, 0) -/
def ie_m23 : ia_M := ⟨60, 1, [.inr (.inl [2]), .inl ⟨.ofNat 7, .ofNat 7, [], []⟩], [(60007, .ofNat 0, .ofNat 0)], [⟨none, some (.inl ⟨.ofNat 0, .ofNat 0, [(60007, .ofNat 0)], []⟩), [], 0⟩], [], [], [5, 8, 9, 49, 50], [], [], []⟩
/-- FatVolume$Disk.setSpoilt(I)V(7, 7, 0) -/
def ie_m24 : ia_M := ⟨61, 1, [.inr (.inl [2]), .inl ⟨.ofNat 7, .ofNat 7, [], []⟩], [(60007, .ofNat 0, .ofNat 0)], [⟨none, none, [(60007, .ofNat 1, .ofNat 1)], 0⟩], [], [(5, 7, 7)], [5, 8, 9, 49, 50], [], [], []⟩
/-- FatVolume$Disk.isSpoilt(I)Z(7, 7, 1) -/
def ie_m25 : ia_M := ⟨60, 1, [.inr (.inl [2]), .inl ⟨.ofNat 7, .ofNat 7, [], []⟩], [(60007, .ofNat 1, .ofNat 1)], [⟨none, some (.inl ⟨.ofNat 1, .ofNat 1, [(60007, .ofNat 0)], []⟩), [], 0⟩], [], [], [5, 8, 9, 49, 50], [], [], []⟩
/-- FatVolume.isCluster(I)Z(8, 8) -/
def ie_m26 : ia_M := ⟨25, 1, [.inl ⟨.ofNat 8, .ofNat 8, [], []⟩], [], [⟨none, some (.inl ⟨.ofNat 1, .ofNat 1, [], []⟩), [], 0⟩], [], [], [8, 9, 49, 50], [], [], []⟩
/-- FatVolume$Disk.isSpoilt(I)Z(8, 8, 0) -/
def ie_m27 : ia_M := ⟨60, 1, [.inr (.inl [2]), .inl ⟨.ofNat 8, .ofNat 8, [], []⟩], [(60008, .ofNat 0, .ofNat 0)], [⟨none, some (.inl ⟨.ofNat 0, .ofNat 0, [(60008, .ofNat 0)], []⟩), [], 0⟩], [], [], [5, 8, 9, 49, 50], [], [], []⟩
/-- FatVolume$Disk.setSpoilt(I)V(8, 8, 0) -/
def ie_m28 : ia_M := ⟨61, 1, [.inr (.inl [2]), .inl ⟨.ofNat 8, .ofNat 8, [], []⟩], [(60008, .ofNat 0, .ofNat 0)], [⟨none, none, [(60008, .ofNat 1, .ofNat 1)], 0⟩], [], [(5, 8, 8)], [5, 8, 9, 49, 50], [], [], []⟩
/-- FatVolume$Disk.isSpoilt(I)Z(8, 8, 1) -/
def ie_m29 : ia_M := ⟨60, 1, [.inr (.inl [2]), .inl ⟨.ofNat 8, .ofNat 8, [], []⟩], [(60008, .ofNat 1, .ofNat 1)], [⟨none, some (.inl ⟨.ofNat 1, .ofNat 1, [(60008, .ofNat 0)], []⟩), [], 0⟩], [], [], [5, 8, 9, 49, 50], [], [], []⟩
/-- FatVolume.isCluster(I)Z(9, 9) -/
def ie_m30 : ia_M := ⟨25, 1, [.inl ⟨.ofNat 9, .ofNat 9, [], []⟩], [], [⟨none, some (.inl ⟨.ofNat 1, .ofNat 1, [], []⟩), [], 0⟩], [], [], [8, 9, 49, 50], [], [], []⟩
/-- FatVolume$Disk.isSpoilt(I)Z(9, 9, 0) -/
def ie_m31 : ia_M := ⟨60, 1, [.inr (.inl [2]), .inl ⟨.ofNat 9, .ofNat 9, [], []⟩], [(60009, .ofNat 0, .ofNat 0)], [⟨none, some (.inl ⟨.ofNat 0, .ofNat 0, [(60009, .ofNat 0)], []⟩), [], 0⟩], [], [], [5, 8, 9, 49, 50], [], [], []⟩
/-- FatVolume$Disk.setSpoilt(I)V(9, 9, 0) -/
def ie_m32 : ia_M := ⟨61, 1, [.inr (.inl [2]), .inl ⟨.ofNat 9, .ofNat 9, [], []⟩], [(60009, .ofNat 0, .ofNat 0)], [⟨none, none, [(60009, .ofNat 1, .ofNat 1)], 0⟩], [], [(5, 9, 9)], [5, 8, 9, 49, 50], [], [], []⟩
/-- FatVolume$Disk.isSpoilt(I)Z(9, 9, 1) -/
def ie_m33 : ia_M := ⟨60, 1, [.inr (.inl [2]), .inl ⟨.ofNat 9, .ofNat 9, [], []⟩], [(60009, .ofNat 1, .ofNat 1)], [⟨none, some (.inl ⟨.ofNat 1, .ofNat 1, [(60009, .ofNat 0)], []⟩), [], 0⟩], [], [], [5, 8, 9, 49, 50], [], [], []⟩
/-- FatVolume.isCluster(I)Z(10, 10) -/
def ie_m34 : ia_M := ⟨25, 1, [.inl ⟨.ofNat 10, .ofNat 10, [], []⟩], [], [⟨none, some (.inl ⟨.ofNat 1, .ofNat 1, [], []⟩), [], 0⟩], [], [], [8, 9, 49, 50], [], [], []⟩
/-- FatVolume$Disk.isSpoilt(I)Z(10, 10, 0) -/
def ie_m35 : ia_M := ⟨60, 1, [.inr (.inl [2]), .inl ⟨.ofNat 10, .ofNat 10, [], []⟩], [(60010, .ofNat 0, .ofNat 0)], [⟨none, some (.inl ⟨.ofNat 0, .ofNat 0, [(60010, .ofNat 0)], []⟩), [], 0⟩], [], [], [5, 8, 9, 49, 50], [], [], []⟩
/-- FatVolume$Disk.setSpoilt(I)V(10, 10, 0) -/
def ie_m36 : ia_M := ⟨61, 1, [.inr (.inl [2]), .inl ⟨.ofNat 10, .ofNat 10, [], []⟩], [(60010, .ofNat 0, .ofNat 0)], [⟨none, none, [(60010, .ofNat 1, .ofNat 1)], 0⟩], [], [(5, 10, 10)], [5, 8, 9, 49, 50], [], [], []⟩
/-- FatVolume$Disk.isSpoilt(I)Z(10, 10, 1) -/
def ie_m37 : ia_M := ⟨60, 1, [.inr (.inl [2]), .inl ⟨.ofNat 10, .ofNat 10, [], []⟩], [(60010, .ofNat 1, .ofNat 1)], [⟨none, some (.inl ⟨.ofNat 1, .ofNat 1, [(60010, .ofNat 0)], []⟩), [], 0⟩], [], [], [5, 8, 9, 49, 50], [], [], []⟩
/-- FatVolume.isCluster(I)Z(11, 11) -/
def ie_m38 : ia_M := ⟨25, 1, [.inl ⟨.ofNat 11, .ofNat 11, [], []⟩], [], [⟨none, some (.inl ⟨.ofNat 1, .ofNat 1, [], []⟩), [], 0⟩], [], [], [8, 9, 49, 50], [], [], []⟩
/-- FatVolume$Disk.isSpoilt(I)Z(11, 11, 0) -/
def ie_m39 : ia_M := ⟨60, 1, [.inr (.inl [2]), .inl ⟨.ofNat 11, .ofNat 11, [], []⟩], [(60011, .ofNat 0, .ofNat 0)], [⟨none, some (.inl ⟨.ofNat 0, .ofNat 0, [(60011, .ofNat 0)], []⟩), [], 0⟩], [], [], [5, 8, 9, 49, 50], [], [], []⟩
/-- FatVolume$Disk.setSpoilt(I)V(11, 11, 0) -/
def ie_m40 : ia_M := ⟨61, 1, [.inr (.inl [2]), .inl ⟨.ofNat 11, .ofNat 11, [], []⟩], [(60011, .ofNat 0, .ofNat 0)], [⟨none, none, [(60011, .ofNat 1, .ofNat 1)], 0⟩], [], [(5, 11, 11)], [5, 8, 9, 49, 50], [], [], []⟩
/-- FatVolume$Disk.isSpoilt(I)Z(11, 11, 1) -/
def ie_m41 : ia_M := ⟨60, 1, [.inr (.inl [2]), .inl ⟨.ofNat 11, .ofNat 11, [], []⟩], [(60011, .ofNat 1, .ofNat 1)], [⟨none, some (.inl ⟨.ofNat 1, .ofNat 1, [(60011, .ofNat 0)], []⟩), [], 0⟩], [], [], [5, 8, 9, 49, 50], [], [], []⟩
/-- FatVolume.isCluster(I)Z(12, 12) -/
def ie_m42 : ia_M := ⟨25, 1, [.inl ⟨.ofNat 12, .ofNat 12, [], []⟩], [], [⟨none, some (.inl ⟨.ofNat 1, .ofNat 1, [], []⟩), [], 0⟩], [], [], [8, 9, 49, 50], [], [], []⟩
/-- FatVolume$Disk.isSpoilt(I)Z(12, 12, 0) -/
def ie_m43 : ia_M := ⟨60, 1, [.inr (.inl [2]), .inl ⟨.ofNat 12, .ofNat 12, [], []⟩], [(60012, .ofNat 0, .ofNat 0)], [⟨none, some (.inl ⟨.ofNat 0, .ofNat 0, [(60012, .ofNat 0)], []⟩), [], 0⟩], [], [], [5, 8, 9, 49, 50], [], [], []⟩
/-- FatVolume$Disk.setSpoilt(I)V(12, 12, 0) -/
def ie_m44 : ia_M := ⟨61, 1, [.inr (.inl [2]), .inl ⟨.ofNat 12, .ofNat 12, [], []⟩], [(60012, .ofNat 0, .ofNat 0)], [⟨none, none, [(60012, .ofNat 1, .ofNat 1)], 0⟩], [], [(5, 12, 12)], [5, 8, 9, 49, 50], [], [], []⟩
/-- FatVolume$Disk.isSpoilt(I)Z(12, 12, 1) -/
def ie_m45 : ia_M := ⟨60, 1, [.inr (.inl [2]), .inl ⟨.ofNat 12, .ofNat 12, [], []⟩], [(60012, .ofNat 1, .ofNat 1)], [⟨none, some (.inl ⟨.ofNat 1, .ofNat 1, [(60012, .ofNat 0)], []⟩), [], 0⟩], [], [], [5, 8, 9, 49, 50], [], [], []⟩
/-- FatVolume.isCluster(I)Z(13, 13) -/
def ie_m46 : ia_M := ⟨25, 1, [.inl ⟨.ofNat 13, .ofNat 13, [], []⟩], [], [⟨none, some (.inl ⟨.ofNat 1, .ofNat 1, [], []⟩), [], 0⟩], [], [], [8, 9, 49, 50], [], [], []⟩
/-- FatVolume$Disk.isSpoilt(I)Z(13, 13, 0) -/
def ie_m47 : ia_M := ⟨60, 1, [.inr (.inl [2]), .inl ⟨.ofNat 13, .ofNat 13, [], []⟩], [(60013, .ofNat 0, .ofNat 0)], [⟨none, some (.inl ⟨.ofNat 0, .ofNat 0, [(60013, .ofNat 0)], []⟩), [], 0⟩], [], [], [5, 8, 9, 49, 50], [], [], []⟩
/-- FatVolume$Disk.setSpoilt(I)V(13, 13, 0) -/
def ie_m48 : ia_M := ⟨61, 1, [.inr (.inl [2]), .inl ⟨.ofNat 13, .ofNat 13, [], []⟩], [(60013, .ofNat 0, .ofNat 0)], [⟨none, none, [(60013, .ofNat 1, .ofNat 1)], 0⟩], [], [(5, 13, 13)], [5, 8, 9, 49, 50], [], [], []⟩
/-- FatVolume$Disk.isSpoilt(I)Z(13, 13, 1) -/
def ie_m49 : ia_M := ⟨60, 1, [.inr (.inl [2]), .inl ⟨.ofNat 13, .ofNat 13, [], []⟩], [(60013, .ofNat 1, .ofNat 1)], [⟨none, some (.inl ⟨.ofNat 1, .ofNat 1, [(60013, .ofNat 0)], []⟩), [], 0⟩], [], [], [5, 8, 9, 49, 50], [], [], []⟩
/-- FatVolume.isCluster(I)Z(14, 14) -/
def ie_m50 : ia_M := ⟨25, 1, [.inl ⟨.ofNat 14, .ofNat 14, [], []⟩], [], [⟨none, some (.inl ⟨.ofNat 1, .ofNat 1, [], []⟩), [], 0⟩], [], [], [8, 9, 49, 50], [], [], []⟩
/-- FatVolume$Disk.isSpoilt(I)Z(14, 14, 0) -/
def ie_m51 : ia_M := ⟨60, 1, [.inr (.inl [2]), .inl ⟨.ofNat 14, .ofNat 14, [], []⟩], [(60014, .ofNat 0, .ofNat 0)], [⟨none, some (.inl ⟨.ofNat 0, .ofNat 0, [(60014, .ofNat 0)], []⟩), [], 0⟩], [], [], [5, 8, 9, 49, 50], [], [], []⟩
/-- FatVolume$Disk.setSpoilt(I)V(14, 14, 0) -/
def ie_m52 : ia_M := ⟨61, 1, [.inr (.inl [2]), .inl ⟨.ofNat 14, .ofNat 14, [], []⟩], [(60014, .ofNat 0, .ofNat 0)], [⟨none, none, [(60014, .ofNat 1, .ofNat 1)], 0⟩], [], [(5, 14, 14)], [5, 8, 9, 49, 50], [], [], []⟩
/-- FatVolume$Disk.isSpoilt(I)Z(14, 14, 1) -/
def ie_m53 : ia_M := ⟨60, 1, [.inr (.inl [2]), .inl ⟨.ofNat 14, .ofNat 14, [], []⟩], [(60014, .ofNat 1, .ofNat 1)], [⟨none, some (.inl ⟨.ofNat 1, .ofNat 1, [(60014, .ofNat 0)], []⟩), [], 0⟩], [], [], [5, 8, 9, 49, 50], [], [], []⟩
/-- FatVolume.isCluster(I)Z(15, 15) -/
def ie_m54 : ia_M := ⟨25, 1, [.inl ⟨.ofNat 15, .ofNat 15, [], []⟩], [], [⟨none, some (.inl ⟨.ofNat 1, .ofNat 1, [], []⟩), [], 0⟩], [], [], [8, 9, 49, 50], [], [], []⟩
/-- FatVolume$Disk.isSpoilt(I)Z(15, 15, 0) -/
def ie_m55 : ia_M := ⟨60, 1, [.inr (.inl [2]), .inl ⟨.ofNat 15, .ofNat 15, [], []⟩], [(60015, .ofNat 0, .ofNat 0)], [⟨none, some (.inl ⟨.ofNat 0, .ofNat 0, [(60015, .ofNat 0)], []⟩), [], 0⟩], [], [], [5, 8, 9, 49, 50], [], [], []⟩
/-- FatVolume$Disk.setSpoilt(I)V(15, 15, 0) -/
def ie_m56 : ia_M := ⟨61, 1, [.inr (.inl [2]), .inl ⟨.ofNat 15, .ofNat 15, [], []⟩], [(60015, .ofNat 0, .ofNat 0)], [⟨none, none, [(60015, .ofNat 1, .ofNat 1)], 0⟩], [], [(5, 15, 15)], [5, 8, 9, 49, 50], [], [], []⟩
/-- FatVolume$Disk.isSpoilt(I)Z(15, 15, 1) -/
def ie_m57 : ia_M := ⟨60, 1, [.inr (.inl [2]), .inl ⟨.ofNat 15, .ofNat 15, [], []⟩], [(60015, .ofNat 1, .ofNat 1)], [⟨none, some (.inl ⟨.ofNat 1, .ofNat 1, [(60015, .ofNat 0)], []⟩), [], 0⟩], [], [], [5, 8, 9, 49, 50], [], [], []⟩
/-- FatVolume.isCluster(I)Z(16, 16) -/
def ie_m58 : ia_M := ⟨25, 1, [.inl ⟨.ofNat 16, .ofNat 16, [], []⟩], [], [⟨none, some (.inl ⟨.ofNat 1, .ofNat 1, [], []⟩), [], 0⟩], [], [], [8, 9, 49, 50], [], [], []⟩
/-- FatVolume$Disk.isSpoilt(I)Z(16, 16, 0) -/
def ie_m59 : ia_M := ⟨60, 1, [.inr (.inl [2]), .inl ⟨.ofNat 16, .ofNat 16, [], []⟩], [(60016, .ofNat 0, .ofNat 0)], [⟨none, some (.inl ⟨.ofNat 0, .ofNat 0, [(60016, .ofNat 0)], []⟩), [], 0⟩], [], [], [5, 8, 9, 49, 50], [], [], []⟩
/-- FatVolume$Disk.setSpoilt(I)V(16, 16, 0) -/
def ie_m60 : ia_M := ⟨61, 1, [.inr (.inl [2]), .inl ⟨.ofNat 16, .ofNat 16, [], []⟩], [(60016, .ofNat 0, .ofNat 0)], [⟨none, none, [(60016, .ofNat 1, .ofNat 1)], 0⟩], [], [(5, 16, 16)], [5, 8, 9, 49, 50], [], [], []⟩
/-- FatVolume$Disk.isSpoilt(I)Z(16, 16, 1) -/
def ie_m61 : ia_M := ⟨60, 1, [.inr (.inl [2]), .inl ⟨.ofNat 16, .ofNat 16, [], []⟩], [(60016, .ofNat 1, .ofNat 1)], [⟨none, some (.inl ⟨.ofNat 1, .ofNat 1, [(60016, .ofNat 0)], []⟩), [], 0⟩], [], [], [5, 8, 9, 49, 50], [], [], []⟩
/-- FatVolume.isCluster(I)Z(17, 17) -/
def ie_m62 : ia_M := ⟨25, 1, [.inl ⟨.ofNat 17, .ofNat 17, [], []⟩], [], [⟨none, some (.inl ⟨.ofNat 1, .ofNat 1, [], []⟩), [], 0⟩], [], [], [8, 9, 49, 50], [], [], []⟩
/-- FatVolume$Disk.isSpoilt(I)Z(17, 17, 0) -/
def ie_m63 : ia_M := ⟨60, 1, [.inr (.inl [2]), .inl ⟨.ofNat 17, .ofNat 17, [], []⟩], [(60017, .ofNat 0, .ofNat 0)], [⟨none, some (.inl ⟨.ofNat 0, .ofNat 0, [(60017, .ofNat 0)], []⟩), [], 0⟩], [], [], [5, 8, 9, 49, 50], [], [], []⟩
/-- FatVolume$Disk.setSpoilt(I)V(17, 17, 0) -/
def ie_m64 : ia_M := ⟨61, 1, [.inr (.inl [2]), .inl ⟨.ofNat 17, .ofNat 17, [], []⟩], [(60017, .ofNat 0, .ofNat 0)], [⟨none, none, [(60017, .ofNat 1, .ofNat 1)], 0⟩], [], [(5, 17, 17)], [5, 8, 9, 49, 50], [], [], []⟩
/-- FatVolume$Disk.isSpoilt(I)Z(17, 17, 1) -/
def ie_m65 : ia_M := ⟨60, 1, [.inr (.inl [2]), .inl ⟨.ofNat 17, .ofNat 17, [], []⟩], [(60017, .ofNat 1, .ofNat 1)], [⟨none, some (.inl ⟨.ofNat 1, .ofNat 1, [(60017, .ofNat 0)], []⟩), [], 0⟩], [], [], [5, 8, 9, 49, 50], [], [], []⟩
/-- FatVolume.isCluster(I)Z(18, 18) -/
def ie_m66 : ia_M := ⟨25, 1, [.inl ⟨.ofNat 18, .ofNat 18, [], []⟩], [], [⟨none, some (.inl ⟨.ofNat 1, .ofNat 1, [], []⟩), [], 0⟩], [], [], [8, 9, 49, 50], [], [], []⟩
/-- FatVolume$Disk.isSpoilt(I)Z(18, 18, 0) -/
def ie_m67 : ia_M := ⟨60, 1, [.inr (.inl [2]), .inl ⟨.ofNat 18, .ofNat 18, [], []⟩], [(60018, .ofNat 0, .ofNat 0)], [⟨none, some (.inl ⟨.ofNat 0, .ofNat 0, [(60018, .ofNat 0)], []⟩), [], 0⟩], [], [], [5, 8, 9, 49, 50], [], [], []⟩
/-- FatVolume$Disk.setSpoilt(I)V(18, 18, 0) -/
def ie_m68 : ia_M := ⟨61, 1, [.inr (.inl [2]), .inl ⟨.ofNat 18, .ofNat 18, [], []⟩], [(60018, .ofNat 0, .ofNat 0)], [⟨none, none, [(60018, .ofNat 1, .ofNat 1)], 0⟩], [], [(5, 18, 18)], [5, 8, 9, 49, 50], [], [], []⟩
/-- FatVolume$Disk.isSpoilt(I)Z(18, 18, 1) -/
def ie_m69 : ia_M := ⟨60, 1, [.inr (.inl [2]), .inl ⟨.ofNat 18, .ofNat 18, [], []⟩], [(60018, .ofNat 1, .ofNat 1)], [⟨none, some (.inl ⟨.ofNat 1, .ofNat 1, [(60018, .ofNat 0)], []⟩), [], 0⟩], [], [], [5, 8, 9, 49, 50], [], [], []⟩
/-- FatVolume.isCluster(I)Z(19, 19) -/
def ie_m70 : ia_M := ⟨25, 1, [.inl ⟨.ofNat 19, .ofNat 19, [], []⟩], [], [⟨none, some (.inl ⟨.ofNat 1, .ofNat 1, [], []⟩), [], 0⟩], [], [], [8, 9, 49, 50], [], [], []⟩
/-- FatVolume$Disk.isSpoilt(I)Z(19, 19, 0) -/
def ie_m71 : ia_M := ⟨60, 1, [.inr (.inl [2]), .inl ⟨.ofNat 19, .ofNat 19, [], []⟩], [(60019, .ofNat 0, .ofNat 0)], [⟨none, some (.inl ⟨.ofNat 0, .ofNat 0, [(60019, .ofNat 0)], []⟩), [], 0⟩], [], [], [5, 8, 9, 49, 50], [], [], []⟩
/-- FatVolume$Disk.setSpoilt(I)V(19, 19, 0) -/
def ie_m72 : ia_M := ⟨61, 1, [.inr (.inl [2]), .inl ⟨.ofNat 19, .ofNat 19, [], []⟩], [(60019, .ofNat 0, .ofNat 0)], [⟨none, none, [(60019, .ofNat 1, .ofNat 1)], 0⟩], [], [(5, 19, 19)], [5, 8, 9, 49, 50], [], [], []⟩
/-- FatVolume$Disk.isSpoilt(I)Z(19, 19, 1) -/
def ie_m73 : ia_M := ⟨60, 1, [.inr (.inl [2]), .inl ⟨.ofNat 19, .ofNat 19, [], []⟩], [(60019, .ofNat 1, .ofNat 1)], [⟨none, some (.inl ⟨.ofNat 1, .ofNat 1, [(60019, .ofNat 0)], []⟩), [], 0⟩], [], [], [5, 8, 9, 49, 50], [], [], []⟩
/-- FatVolume.isCluster(I)Z(20, 20) -/
def ie_m74 : ia_M := ⟨25, 1, [.inl ⟨.ofNat 20, .ofNat 20, [], []⟩], [], [⟨none, some (.inl ⟨.ofNat 1, .ofNat 1, [], []⟩), [], 0⟩], [], [], [8, 9, 49, 50], [], [], []⟩
/-- FatVolume$Disk.isSpoilt(I)Z(20, 20, 0) -/
def ie_m75 : ia_M := ⟨60, 1, [.inr (.inl [2]), .inl ⟨.ofNat 20, .ofNat 20, [], []⟩], [(60020, .ofNat 0, .ofNat 0)], [⟨none, some (.inl ⟨.ofNat 0, .ofNat 0, [(60020, .ofNat 0)], []⟩), [], 0⟩], [], [], [5, 8, 9, 49, 50], [], [], []⟩
/-- FatVolume$Disk.setSpoilt(I)V(20, 20, 0) -/
def ie_m76 : ia_M := ⟨61, 1, [.inr (.inl [2]), .inl ⟨.ofNat 20, .ofNat 20, [], []⟩], [(60020, .ofNat 0, .ofNat 0)], [⟨none, none, [(60020, .ofNat 1, .ofNat 1)], 0⟩], [], [(5, 20, 20)], [5, 8, 9, 49, 50], [], [], []⟩
/-- FatVolume$Disk.isSpoilt(I)Z(20, 20, 1) -/
def ie_m77 : ia_M := ⟨60, 1, [.inr (.inl [2]), .inl ⟨.ofNat 20, .ofNat 20, [], []⟩], [(60020, .ofNat 1, .ofNat 1)], [⟨none, some (.inl ⟨.ofNat 1, .ofNat 1, [(60020, .ofNat 0)], []⟩), [], 0⟩], [], [], [5, 8, 9, 49, 50], [], [], []⟩
/-- FatVolume.isCluster(I)Z(21, 21) -/
def ie_m78 : ia_M := ⟨25, 1, [.inl ⟨.ofNat 21, .ofNat 21, [], []⟩], [], [⟨none, some (.inl ⟨.ofNat 1, .ofNat 1, [], []⟩), [], 0⟩], [], [], [8, 9, 49, 50], [], [], []⟩
/-- FatVolume$Disk.isSpoilt(I)Z(21, 21, 0) -/
def ie_m79 : ia_M := ⟨60, 1, [.inr (.inl [2]), .inl ⟨.ofNat 21, .ofNat 21, [], []⟩], [(60021, .ofNat 0, .ofNat 0)], [⟨none, some (.inl ⟨.ofNat 0, .ofNat 0, [(60021, .ofNat 0)], []⟩), [], 0⟩], [], [], [5, 8, 9, 49, 50], [], [], []⟩
/-- FatVolume$Disk.setSpoilt(I)V(21, 21, 0) -/
def ie_m80 : ia_M := ⟨61, 1, [.inr (.inl [2]), .inl ⟨.ofNat 21, .ofNat 21, [], []⟩], [(60021, .ofNat 0, .ofNat 0)], [⟨none, none, [(60021, .ofNat 1, .ofNat 1)], 0⟩], [], [(5, 21, 21)], [5, 8, 9, 49, 50], [], [], []⟩
/-- FatVolume$Disk.isSpoilt(I)Z(21, 21, 1) -/
def ie_m81 : ia_M := ⟨60, 1, [.inr (.inl [2]), .inl ⟨.ofNat 21, .ofNat 21, [], []⟩], [(60021, .ofNat 1, .ofNat 1)], [⟨none, some (.inl ⟨.ofNat 1, .ofNat 1, [(60021, .ofNat 0)], []⟩), [], 0⟩], [], [], [5, 8, 9, 49, 50], [], [], []⟩
/-- FatVolume.isCluster(I)Z(22, 22) -/
def ie_m82 : ia_M := ⟨25, 1, [.inl ⟨.ofNat 22, .ofNat 22, [], []⟩], [], [⟨none, some (.inl ⟨.ofNat 1, .ofNat 1, [], []⟩), [], 0⟩], [], [], [8, 9, 49, 50], [], [], []⟩
/-- FatVolume$Disk.isSpoilt(I)Z(22, 22, 0) -/
def ie_m83 : ia_M := ⟨60, 1, [.inr (.inl [2]), .inl ⟨.ofNat 22, .ofNat 22, [], []⟩], [(60022, .ofNat 0, .ofNat 0)], [⟨none, some (.inl ⟨.ofNat 0, .ofNat 0, [(60022, .ofNat 0)], []⟩), [], 0⟩], [], [], [5, 8, 9, 49, 50], [], [], []⟩
/-- FatVolume$Disk.setSpoilt(I)V(22, 22, 0) -/
def ie_m84 : ia_M := ⟨61, 1, [.inr (.inl [2]), .inl ⟨.ofNat 22, .ofNat 22, [], []⟩], [(60022, .ofNat 0, .ofNat 0)], [⟨none, none, [(60022, .ofNat 1, .ofNat 1)], 0⟩], [], [(5, 22, 22)], [5, 8, 9, 49, 50], [], [], []⟩
/-- FatVolume$Disk.isSpoilt(I)Z(22, 22, 1) -/
def ie_m85 : ia_M := ⟨60, 1, [.inr (.inl [2]), .inl ⟨.ofNat 22, .ofNat 22, [], []⟩], [(60022, .ofNat 1, .ofNat 1)], [⟨none, some (.inl ⟨.ofNat 1, .ofNat 1, [(60022, .ofNat 0)], []⟩), [], 0⟩], [], [], [5, 8, 9, 49, 50], [], [], []⟩
/-- FatVolume.isCluster(I)Z(23, 23) -/
def ie_m86 : ia_M := ⟨25, 1, [.inl ⟨.ofNat 23, .ofNat 23, [], []⟩], [], [⟨none, some (.inl ⟨.ofNat 1, .ofNat 1, [], []⟩), [], 0⟩], [], [], [8, 9, 49, 50], [], [], []⟩
/-- FatVolume$Disk.isSpoilt(I)Z(23, 23, 0) -/
def ie_m87 : ia_M := ⟨60, 1, [.inr (.inl [2]), .inl ⟨.ofNat 23, .ofNat 23, [], []⟩], [(60023, .ofNat 0, .ofNat 0)], [⟨none, some (.inl ⟨.ofNat 0, .ofNat 0, [(60023, .ofNat 0)], []⟩), [], 0⟩], [], [], [5, 8, 9, 49, 50], [], [], []⟩
/-- FatVolume$Disk.setSpoilt(I)V(23, 23, 0) -/
def ie_m88 : ia_M := ⟨61, 1, [.inr (.inl [2]), .inl ⟨.ofNat 23, .ofNat 23, [], []⟩], [(60023, .ofNat 0, .ofNat 0)], [⟨none, none, [(60023, .ofNat 1, .ofNat 1)], 0⟩], [], [(5, 23, 23)], [5, 8, 9, 49, 50], [], [], []⟩
/-- FatVolume$Disk.isSpoilt(I)Z(23, 23, 1) -/
def ie_m89 : ia_M := ⟨60, 1, [.inr (.inl [2]), .inl ⟨.ofNat 23, .ofNat 23, [], []⟩], [(60023, .ofNat 1, .ofNat 1)], [⟨none, some (.inl ⟨.ofNat 1, .ofNat 1, [(60023, .ofNat 0)], []⟩), [], 0⟩], [], [], [5, 8, 9, 49, 50], [], [], []⟩
/-- FatVolume.isCluster(I)Z(24, 24) -/
def ie_m90 : ia_M := ⟨25, 1, [.inl ⟨.ofNat 24, .ofNat 24, [], []⟩], [], [⟨none, some (.inl ⟨.ofNat 1, .ofNat 1, [], []⟩), [], 0⟩], [], [], [8, 9, 49, 50], [], [], []⟩
/-- FatVolume$Disk.isSpoilt(I)Z(24, 24, 0) -/
def ie_m91 : ia_M := ⟨60, 1, [.inr (.inl [2]), .inl ⟨.ofNat 24, .ofNat 24, [], []⟩], [(60024, .ofNat 0, .ofNat 0)], [⟨none, some (.inl ⟨.ofNat 0, .ofNat 0, [(60024, .ofNat 0)], []⟩), [], 0⟩], [], [], [5, 8, 9, 49, 50], [], [], []⟩
/-- FatVolume$Disk.setSpoilt(I)V(24, 24, 0) -/
def ie_m92 : ia_M := ⟨61, 1, [.inr (.inl [2]), .inl ⟨.ofNat 24, .ofNat 24, [], []⟩], [(60024, .ofNat 0, .ofNat 0)], [⟨none, none, [(60024, .ofNat 1, .ofNat 1)], 0⟩], [], [(5, 24, 24)], [5, 8, 9, 49, 50], [], [], []⟩
/-- FatVolume$Disk.isSpoilt(I)Z(24, 24, 1) -/
def ie_m93 : ia_M := ⟨60, 1, [.inr (.inl [2]), .inl ⟨.ofNat 24, .ofNat 24, [], []⟩], [(60024, .ofNat 1, .ofNat 1)], [⟨none, some (.inl ⟨.ofNat 1, .ofNat 1, [(60024, .ofNat 0)], []⟩), [], 0⟩], [], [], [5, 8, 9, 49, 50], [], [], []⟩
/-- FatVolume.isCluster(I)Z(25, 25) -/
def ie_m94 : ia_M := ⟨25, 1, [.inl ⟨.ofNat 25, .ofNat 25, [], []⟩], [], [⟨none, some (.inl ⟨.ofNat 1, .ofNat 1, [], []⟩), [], 0⟩], [], [], [8, 9, 49, 50], [], [], []⟩
/-- FatVolume$Disk.isSpoilt(I)Z(25, 25, 0) -/
def ie_m95 : ia_M := ⟨60, 1, [.inr (.inl [2]), .inl ⟨.ofNat 25, .ofNat 25, [], []⟩], [(60025, .ofNat 0, .ofNat 0)], [⟨none, some (.inl ⟨.ofNat 0, .ofNat 0, [(60025, .ofNat 0)], []⟩), [], 0⟩], [], [], [5, 8, 9, 49, 50], [], [], []⟩
/-- FatVolume$Disk.setSpoilt(I)V(25, 25, 0) -/
def ie_m96 : ia_M := ⟨61, 1, [.inr (.inl [2]), .inl ⟨.ofNat 25, .ofNat 25, [], []⟩], [(60025, .ofNat 0, .ofNat 0)], [⟨none, none, [(60025, .ofNat 1, .ofNat 1)], 0⟩], [], [(5, 25, 25)], [5, 8, 9, 49, 50], [], [], []⟩
/-- FatVolume$Disk.isSpoilt(I)Z(25, 25, 1) -/
def ie_m97 : ia_M := ⟨60, 1, [.inr (.inl [2]), .inl ⟨.ofNat 25, .ofNat 25, [], []⟩], [(60025, .ofNat 1, .ofNat 1)], [⟨none, some (.inl ⟨.ofNat 1, .ofNat 1, [(60025, .ofNat 0)], []⟩), [], 0⟩], [], [], [5, 8, 9, 49, 50], [], [], []⟩
/-- FatVolume.isCluster(I)Z(26, 26) -/
def ie_m98 : ia_M := ⟨25, 1, [.inl ⟨.ofNat 26, .ofNat 26, [], []⟩], [], [⟨none, some (.inl ⟨.ofNat 1, .ofNat 1, [], []⟩), [], 0⟩], [], [], [8, 9, 49, 50], [], [], []⟩
/-- FatVolume$Disk.isSpoilt(I)Z(26, 26, 0) -/
def ie_m99 : ia_M := ⟨60, 1, [.inr (.inl [2]), .inl ⟨.ofNat 26, .ofNat 26, [], []⟩], [(60026, .ofNat 0, .ofNat 0)], [⟨none, some (.inl ⟨.ofNat 0, .ofNat 0, [(60026, .ofNat 0)], []⟩), [], 0⟩], [], [], [5, 8, 9, 49, 50], [], [], []⟩
/-- FatVolume$Disk.setSpoilt(I)V(26, 26, 0) -/
def ie_m100 : ia_M := ⟨61, 1, [.inr (.inl [2]), .inl ⟨.ofNat 26, .ofNat 26, [], []⟩], [(60026, .ofNat 0, .ofNat 0)], [⟨none, none, [(60026, .ofNat 1, .ofNat 1)], 0⟩], [], [(5, 26, 26)], [5, 8, 9, 49, 50], [], [], []⟩
/-- FatVolume$Disk.isSpoilt(I)Z(26, 26, 1) -/
def ie_m101 : ia_M := ⟨60, 1, [.inr (.inl [2]), .inl ⟨.ofNat 26, .ofNat 26, [], []⟩], [(60026, .ofNat 1, .ofNat 1)], [⟨none, some (.inl ⟨.ofNat 1, .ofNat 1, [(60026, .ofNat 0)], []⟩), [], 0⟩], [], [], [5, 8, 9, 49, 50], [], [], []⟩
/-- FatVolume.isCluster(I)Z(27, 27) -/
def ie_m102 : ia_M := ⟨25, 1, [.inl ⟨.ofNat 27, .ofNat 27, [], []⟩], [], [⟨none, some (.inl ⟨.ofNat 1, .ofNat 1, [], []⟩), [], 0⟩], [], [], [8, 9, 49, 50], [], [], []⟩
/-- FatVolume$Disk.isSpoilt(I)Z(27, 27, 0) -/
def ie_m103 : ia_M := ⟨60, 1, [.inr (.inl [2]), .inl ⟨.ofNat 27, .ofNat 27, [], []⟩], [(60027, .ofNat 0, .ofNat 0)], [⟨none, some (.inl ⟨.ofNat 0, .ofNat 0, [(60027, .ofNat 0)], []⟩), [], 0⟩], [], [], [5, 8, 9, 49, 50], [], [], []⟩
/-- FatVolume$Disk.setSpoilt(I)V(27, 27, 0) -/
def ie_m104 : ia_M := ⟨61, 1, [.inr (.inl [2]), .inl ⟨.ofNat 27, .ofNat 27, [], []⟩], [(60027, .ofNat 0, .ofNat 0)], [⟨none, none, [(60027, .ofNat 1, .ofNat 1)], 0⟩], [], [(5, 27, 27)], [5, 8, 9, 49, 50], [], [], []⟩
/-- FatVolume$Disk.isSpoilt(I)Z(27, 27, 1) -/
def ie_m105 : ia_M := ⟨60, 1, [.inr (.inl [2]), .inl ⟨.ofNat 27, .ofNat 27, [], []⟩], [(60027, .ofNat 1, .ofNat 1)], [⟨none, some (.inl ⟨.ofNat 1, .ofNat 1, [(60027, .ofNat 0)], []⟩), [], 0⟩], [], [], [5, 8, 9, 49, 50], [], [], []⟩
/-- FatVolume.isCluster(I)Z(28, 28) -/
def ie_m106 : ia_M := ⟨25, 1, [.inl ⟨.ofNat 28, .ofNat 28, [], []⟩], [], [⟨none, some (.inl ⟨.ofNat 1, .ofNat 1, [], []⟩), [], 0⟩], [], [], [8, 9, 49, 50], [], [], []⟩
/-- FatVolume$Disk.isSpoilt(I)Z(28, 28, 0) -/
def ie_m107 : ia_M := ⟨60, 1, [.inr (.inl [2]), .inl ⟨.ofNat 28, .ofNat 28, [], []⟩], [(60028, .ofNat 0, .ofNat 0)], [⟨none, some (.inl ⟨.ofNat 0, .ofNat 0, [(60028, .ofNat 0)], []⟩), [], 0⟩], [], [], [5, 8, 9, 49, 50], [], [], []⟩
/-- FatVolume$Disk.setSpoilt(I)V(28, 28, 0) -/
def ie_m108 : ia_M := ⟨61, 1, [.inr (.inl [2]), .inl ⟨.ofNat 28, .ofNat 28, [], []⟩], [(60028, .ofNat 0, .ofNat 0)], [⟨none, none, [(60028, .ofNat 1, .ofNat 1)], 0⟩], [], [(5, 28, 28)], [5, 8, 9, 49, 50], [], [], []⟩
/-- FatVolume$Disk.isSpoilt(I)Z(28, 28, 1) -/
def ie_m109 : ia_M := ⟨60, 1, [.inr (.inl [2]), .inl ⟨.ofNat 28, .ofNat 28, [], []⟩], [(60028, .ofNat 1, .ofNat 1)], [⟨none, some (.inl ⟨.ofNat 1, .ofNat 1, [(60028, .ofNat 0)], []⟩), [], 0⟩], [], [], [5, 8, 9, 49, 50], [], [], []⟩
/-- FatVolume.isCluster(I)Z(29, 29) -/
def ie_m110 : ia_M := ⟨25, 1, [.inl ⟨.ofNat 29, .ofNat 29, [], []⟩], [], [⟨none, some (.inl ⟨.ofNat 1, .ofNat 1, [], []⟩), [], 0⟩], [], [], [8, 9, 49, 50], [], [], []⟩
/-- FatVolume$Disk.isSpoilt(I)Z(29, 29, 0) -/
def ie_m111 : ia_M := ⟨60, 1, [.inr (.inl [2]), .inl ⟨.ofNat 29, .ofNat 29, [], []⟩], [(60029, .ofNat 0, .ofNat 0)], [⟨none, some (.inl ⟨.ofNat 0, .ofNat 0, [(60029, .ofNat 0)], []⟩), [], 0⟩], [], [], [5, 8, 9, 49, 50], [], [], []⟩
/-- FatVolume$Disk.setSpoilt(I)V(29, 29, 0) -/
def ie_m112 : ia_M := ⟨61, 1, [.inr (.inl [2]), .inl ⟨.ofNat 29, .ofNat 29, [], []⟩], [(60029, .ofNat 0, .ofNat 0)], [⟨none, none, [(60029, .ofNat 1, .ofNat 1)], 0⟩], [], [(5, 29, 29)], [5, 8, 9, 49, 50], [], [], []⟩
/-- FatVolume$Disk.isSpoilt(I)Z(29, 29, 1) -/
def ie_m113 : ia_M := ⟨60, 1, [.inr (.inl [2]), .inl ⟨.ofNat 29, .ofNat 29, [], []⟩], [(60029, .ofNat 1, .ofNat 1)], [⟨none, some (.inl ⟨.ofNat 1, .ofNat 1, [(60029, .ofNat 0)], []⟩), [], 0⟩], [], [], [5, 8, 9, 49, 50], [], [], []⟩
/-- FatVolume.isCluster(I)Z(30, 30) -/
def ie_m114 : ia_M := ⟨25, 1, [.inl ⟨.ofNat 30, .ofNat 30, [], []⟩], [], [⟨none, some (.inl ⟨.ofNat 1, .ofNat 1, [], []⟩), [], 0⟩], [], [], [8, 9, 49, 50], [], [], []⟩
/-- FatVolume$Disk.isSpoilt(I)Z(30, 30, 0) -/
def ie_m115 : ia_M := ⟨60, 1, [.inr (.inl [2]), .inl ⟨.ofNat 30, .ofNat 30, [], []⟩], [(60030, .ofNat 0, .ofNat 0)], [⟨none, some (.inl ⟨.ofNat 0, .ofNat 0, [(60030, .ofNat 0)], []⟩), [], 0⟩], [], [], [5, 8, 9, 49, 50], [], [], []⟩
/-- FatVolume$Disk.setSpoilt(I)V(30, 30, 0) -/
def ie_m116 : ia_M := ⟨61, 1, [.inr (.inl [2]), .inl ⟨.ofNat 30, .ofNat 30, [], []⟩], [(60030, .ofNat 0, .ofNat 0)], [⟨none, none, [(60030, .ofNat 1, .ofNat 1)], 0⟩], [], [(5, 30, 30)], [5, 8, 9, 49, 50], [], [], []⟩
/-- FatVolume$Disk.isSpoilt(I)Z(30, 30, 1) -/
def ie_m117 : ia_M := ⟨60, 1, [.inr (.inl [2]), .inl ⟨.ofNat 30, .ofNat 30, [], []⟩], [(60030, .ofNat 1, .ofNat 1)], [⟨none, some (.inl ⟨.ofNat 1, .ofNat 1, [(60030, .ofNat 0)], []⟩), [], 0⟩], [], [], [5, 8, 9, 49, 50], [], [], []⟩
/-- FatVolume.isCluster(I)Z(31, 31) -/
def ie_m118 : ia_M := ⟨25, 1, [.inl ⟨.ofNat 31, .ofNat 31, [], []⟩], [], [⟨none, some (.inl ⟨.ofNat 1, .ofNat 1, [], []⟩), [], 0⟩], [], [], [8, 9, 49, 50], [], [], []⟩
/-- FatVolume$Disk.isSpoilt(I)Z(31, 31, 0) -/
def ie_m119 : ia_M := ⟨60, 1, [.inr (.inl [2]), .inl ⟨.ofNat 31, .ofNat 31, [], []⟩], [(60031, .ofNat 0, .ofNat 0)], [⟨none, some (.inl ⟨.ofNat 0, .ofNat 0, [(60031, .ofNat 0)], []⟩), [], 0⟩], [], [], [5, 8, 9, 49, 50], [], [], []⟩
/-- FatVolume$Disk.setSpoilt(I)V(31, 31, 0) -/
def ie_m120 : ia_M := ⟨61, 1, [.inr (.inl [2]), .inl ⟨.ofNat 31, .ofNat 31, [], []⟩], [(60031, .ofNat 0, .ofNat 0)], [⟨none, none, [(60031, .ofNat 1, .ofNat 1)], 0⟩], [], [(5, 31, 31)], [5, 8, 9, 49, 50], [], [], []⟩
/-- FatVolume$Disk.isSpoilt(I)Z(31, 31, 1) -/
def ie_m121 : ia_M := ⟨60, 1, [.inr (.inl [2]), .inl ⟨.ofNat 31, .ofNat 31, [], []⟩], [(60031, .ofNat 1, .ofNat 1)], [⟨none, some (.inl ⟨.ofNat 1, .ofNat 1, [(60031, .ofNat 0)], []⟩), [], 0⟩], [], [], [5, 8, 9, 49, 50], [], [], []⟩
/-- FatVolumeModel.isCluster(I)Z(-2147483648, 1) -/
def ie_m122 : ia_M := ⟨137, 1, [.inl ⟨.negSucc 2147483647, .ofNat 1, [], []⟩], [], [⟨none, some (.inl ⟨.ofNat 0, .ofNat 0, [], []⟩), [], 0⟩], [], [], [8, 9, 49, 50], [], [], []⟩
/-- FatVolumeModel.isCluster(I)Z(32, 2147483647) -/
def ie_m123 : ia_M := ⟨137, 1, [.inl ⟨.ofNat 32, .ofNat 2147483647, [], []⟩], [], [⟨none, some (.inl ⟨.ofNat 0, .ofNat 0, [], []⟩), [], 0⟩], [], [], [8, 9, 49, 50], [], [], []⟩
/-- FatVolumeModel.isCluster(I)Z(2, 2) -/
def ie_m124 : ia_M := ⟨137, 1, [.inl ⟨.ofNat 2, .ofNat 2, [], []⟩], [], [⟨none, some (.inl ⟨.ofNat 1, .ofNat 1, [], []⟩), [], 0⟩], [], [], [8, 9, 49, 50], [], [], []⟩
/-- FatVolumeModel.isCluster(I)Z(3, 3) -/
def ie_m125 : ia_M := ⟨137, 1, [.inl ⟨.ofNat 3, .ofNat 3, [], []⟩], [], [⟨none, some (.inl ⟨.ofNat 1, .ofNat 1, [], []⟩), [], 0⟩], [], [], [8, 9, 49, 50], [], [], []⟩
/-- FatVolumeModel.isCluster(I)Z(4, 4) -/
def ie_m126 : ia_M := ⟨137, 1, [.inl ⟨.ofNat 4, .ofNat 4, [], []⟩], [], [⟨none, some (.inl ⟨.ofNat 1, .ofNat 1, [], []⟩), [], 0⟩], [], [], [8, 9, 49, 50], [], [], []⟩
/-- FatVolumeModel.isCluster(I)Z(5, 5) -/
def ie_m127 : ia_M := ⟨137, 1, [.inl ⟨.ofNat 5, .ofNat 5, [], []⟩], [], [⟨none, some (.inl ⟨.ofNat 1, .ofNat 1, [], []⟩), [], 0⟩], [], [], [8, 9, 49, 50], [], [], []⟩
/-- FatVolumeModel.isCluster(I)Z(6, 6) -/
def ie_m128 : ia_M := ⟨137, 1, [.inl ⟨.ofNat 6, .ofNat 6, [], []⟩], [], [⟨none, some (.inl ⟨.ofNat 1, .ofNat 1, [], []⟩), [], 0⟩], [], [], [8, 9, 49, 50], [], [], []⟩
/-- FatVolumeModel.isCluster(I)Z(7, 7) -/
def ie_m129 : ia_M := ⟨137, 1, [.inl ⟨.ofNat 7, .ofNat 7, [], []⟩], [], [⟨none, some (.inl ⟨.ofNat 1, .ofNat 1, [], []⟩), [], 0⟩], [], [], [8, 9, 49, 50], [], [], []⟩
/-- FatVolumeModel.isCluster(I)Z(8, 8) -/
def ie_m130 : ia_M := ⟨137, 1, [.inl ⟨.ofNat 8, .ofNat 8, [], []⟩], [], [⟨none, some (.inl ⟨.ofNat 1, .ofNat 1, [], []⟩), [], 0⟩], [], [], [8, 9, 49, 50], [], [], []⟩
/-- FatVolumeModel.isCluster(I)Z(9, 9) -/
def ie_m131 : ia_M := ⟨137, 1, [.inl ⟨.ofNat 9, .ofNat 9, [], []⟩], [], [⟨none, some (.inl ⟨.ofNat 1, .ofNat 1, [], []⟩), [], 0⟩], [], [], [8, 9, 49, 50], [], [], []⟩
/-- FatVolumeModel.isCluster(I)Z(10, 10) -/
def ie_m132 : ia_M := ⟨137, 1, [.inl ⟨.ofNat 10, .ofNat 10, [], []⟩], [], [⟨none, some (.inl ⟨.ofNat 1, .ofNat 1, [], []⟩), [], 0⟩], [], [], [8, 9, 49, 50], [], [], []⟩
/-- FatVolumeModel.isCluster(I)Z(11, 11) -/
def ie_m133 : ia_M := ⟨137, 1, [.inl ⟨.ofNat 11, .ofNat 11, [], []⟩], [], [⟨none, some (.inl ⟨.ofNat 1, .ofNat 1, [], []⟩), [], 0⟩], [], [], [8, 9, 49, 50], [], [], []⟩
/-- FatVolumeModel.isCluster(I)Z(12, 12) -/
def ie_m134 : ia_M := ⟨137, 1, [.inl ⟨.ofNat 12, .ofNat 12, [], []⟩], [], [⟨none, some (.inl ⟨.ofNat 1, .ofNat 1, [], []⟩), [], 0⟩], [], [], [8, 9, 49, 50], [], [], []⟩
/-- FatVolumeModel.isCluster(I)Z(13, 13) -/
def ie_m135 : ia_M := ⟨137, 1, [.inl ⟨.ofNat 13, .ofNat 13, [], []⟩], [], [⟨none, some (.inl ⟨.ofNat 1, .ofNat 1, [], []⟩), [], 0⟩], [], [], [8, 9, 49, 50], [], [], []⟩
/-- FatVolumeModel.isCluster(I)Z(14, 14) -/
def ie_m136 : ia_M := ⟨137, 1, [.inl ⟨.ofNat 14, .ofNat 14, [], []⟩], [], [⟨none, some (.inl ⟨.ofNat 1, .ofNat 1, [], []⟩), [], 0⟩], [], [], [8, 9, 49, 50], [], [], []⟩
/-- FatVolumeModel.isCluster(I)Z(15, 15) -/
def ie_m137 : ia_M := ⟨137, 1, [.inl ⟨.ofNat 15, .ofNat 15, [], []⟩], [], [⟨none, some (.inl ⟨.ofNat 1, .ofNat 1, [], []⟩), [], 0⟩], [], [], [8, 9, 49, 50], [], [], []⟩
/-- FatVolumeModel.isCluster(I)Z(16, 16) -/
def ie_m138 : ia_M := ⟨137, 1, [.inl ⟨.ofNat 16, .ofNat 16, [], []⟩], [], [⟨none, some (.inl ⟨.ofNat 1, .ofNat 1, [], []⟩), [], 0⟩], [], [], [8, 9, 49, 50], [], [], []⟩
/-- FatVolumeModel.isCluster(I)Z(17, 17) -/
def ie_m139 : ia_M := ⟨137, 1, [.inl ⟨.ofNat 17, .ofNat 17, [], []⟩], [], [⟨none, some (.inl ⟨.ofNat 1, .ofNat 1, [], []⟩), [], 0⟩], [], [], [8, 9, 49, 50], [], [], []⟩
/-- FatVolumeModel.isCluster(I)Z(18, 18) -/
def ie_m140 : ia_M := ⟨137, 1, [.inl ⟨.ofNat 18, .ofNat 18, [], []⟩], [], [⟨none, some (.inl ⟨.ofNat 1, .ofNat 1, [], []⟩), [], 0⟩], [], [], [8, 9, 49, 50], [], [], []⟩
/-- FatVolumeModel.isCluster(I)Z(19, 19) -/
def ie_m141 : ia_M := ⟨137, 1, [.inl ⟨.ofNat 19, .ofNat 19, [], []⟩], [], [⟨none, some (.inl ⟨.ofNat 1, .ofNat 1, [], []⟩), [], 0⟩], [], [], [8, 9, 49, 50], [], [], []⟩
/-- FatVolumeModel.isCluster(I)Z(20, 20) -/
def ie_m142 : ia_M := ⟨137, 1, [.inl ⟨.ofNat 20, .ofNat 20, [], []⟩], [], [⟨none, some (.inl ⟨.ofNat 1, .ofNat 1, [], []⟩), [], 0⟩], [], [], [8, 9, 49, 50], [], [], []⟩
/-- FatVolumeModel.isCluster(I)Z(21, 21) -/
def ie_m143 : ia_M := ⟨137, 1, [.inl ⟨.ofNat 21, .ofNat 21, [], []⟩], [], [⟨none, some (.inl ⟨.ofNat 1, .ofNat 1, [], []⟩), [], 0⟩], [], [], [8, 9, 49, 50], [], [], []⟩
/-- FatVolumeModel.isCluster(I)Z(22, 22) -/
def ie_m144 : ia_M := ⟨137, 1, [.inl ⟨.ofNat 22, .ofNat 22, [], []⟩], [], [⟨none, some (.inl ⟨.ofNat 1, .ofNat 1, [], []⟩), [], 0⟩], [], [], [8, 9, 49, 50], [], [], []⟩
/-- FatVolumeModel.isCluster(I)Z(23, 23) -/
def ie_m145 : ia_M := ⟨137, 1, [.inl ⟨.ofNat 23, .ofNat 23, [], []⟩], [], [⟨none, some (.inl ⟨.ofNat 1, .ofNat 1, [], []⟩), [], 0⟩], [], [], [8, 9, 49, 50], [], [], []⟩
/-- FatVolumeModel.isCluster(I)Z(24, 24) -/
def ie_m146 : ia_M := ⟨137, 1, [.inl ⟨.ofNat 24, .ofNat 24, [], []⟩], [], [⟨none, some (.inl ⟨.ofNat 1, .ofNat 1, [], []⟩), [], 0⟩], [], [], [8, 9, 49, 50], [], [], []⟩
/-- FatVolumeModel.isCluster(I)Z(25, 25) -/
def ie_m147 : ia_M := ⟨137, 1, [.inl ⟨.ofNat 25, .ofNat 25, [], []⟩], [], [⟨none, some (.inl ⟨.ofNat 1, .ofNat 1, [], []⟩), [], 0⟩], [], [], [8, 9, 49, 50], [], [], []⟩
/-- FatVolumeModel.isCluster(I)Z(26, 26) -/
def ie_m148 : ia_M := ⟨137, 1, [.inl ⟨.ofNat 26, .ofNat 26, [], []⟩], [], [⟨none, some (.inl ⟨.ofNat 1, .ofNat 1, [], []⟩), [], 0⟩], [], [], [8, 9, 49, 50], [], [], []⟩
/-- FatVolumeModel.isCluster(I)Z(27, 27) -/
def ie_m149 : ia_M := ⟨137, 1, [.inl ⟨.ofNat 27, .ofNat 27, [], []⟩], [], [⟨none, some (.inl ⟨.ofNat 1, .ofNat 1, [], []⟩), [], 0⟩], [], [], [8, 9, 49, 50], [], [], []⟩
/-- FatVolumeModel.isCluster(I)Z(28, 28) -/
def ie_m150 : ia_M := ⟨137, 1, [.inl ⟨.ofNat 28, .ofNat 28, [], []⟩], [], [⟨none, some (.inl ⟨.ofNat 1, .ofNat 1, [], []⟩), [], 0⟩], [], [], [8, 9, 49, 50], [], [], []⟩
/-- FatVolumeModel.isCluster(I)Z(29, 29) -/
def ie_m151 : ia_M := ⟨137, 1, [.inl ⟨.ofNat 29, .ofNat 29, [], []⟩], [], [⟨none, some (.inl ⟨.ofNat 1, .ofNat 1, [], []⟩), [], 0⟩], [], [], [8, 9, 49, 50], [], [], []⟩
/-- FatVolumeModel.isCluster(I)Z(30, 30) -/
def ie_m152 : ia_M := ⟨137, 1, [.inl ⟨.ofNat 30, .ofNat 30, [], []⟩], [], [⟨none, some (.inl ⟨.ofNat 1, .ofNat 1, [], []⟩), [], 0⟩], [], [], [8, 9, 49, 50], [], [], []⟩
/-- FatVolumeModel.isCluster(I)Z(31, 31) -/
def ie_m153 : ia_M := ⟨137, 1, [.inl ⟨.ofNat 31, .ofNat 31, [], []⟩], [], [⟨none, some (.inl ⟨.ofNat 1, .ofNat 1, [], []⟩), [], 0⟩], [], [], [8, 9, 49, 50], [], [], []⟩
/-- FatVolume.spoil(I)Z(-2147483648, 1, None) -/
def ie_m154 : ia_M := ⟨11, 2, [.inr (.inl [1]), .inl ⟨.negSucc 2147483647, .ofNat 1, [], []⟩], [], [⟨none, some (.inl ⟨.ofNat 0, .ofNat 0, [], []⟩), [], 0⟩], [], [], [5, 8, 9, 49, 50], [], [], []⟩
/-- FatVolume.spoil(I)Z(32, 2147483647, None) -/
def ie_m155 : ia_M := ⟨11, 2, [.inr (.inl [1]), .inl ⟨.ofNat 32, .ofNat 2147483647, [], []⟩], [], [⟨none, some (.inl ⟨.ofNat 0, .ofNat 0, [], []⟩), [], 0⟩], [], [], [5, 8, 9, 49, 50], [], [], []⟩
/-- FatVolume.spoil(I)Z(2, 2, 0) -/
def ie_m156 : ia_M := ⟨11, 2, [.inr (.inl [1]), .inl ⟨.ofNat 2, .ofNat 2, [], []⟩], [(60002, .ofNat 0, .ofNat 0)], [⟨none, some (.inl ⟨.ofNat 1, .ofNat 1, [], []⟩), [(60002, .ofNat 1, .ofNat 1)], 0⟩], [], [(5, 2, 2)], [5, 8, 9, 49, 50], [], [], []⟩
/-- FatVolume.spoil(I)Z(2, 2, 1) -/
def ie_m157 : ia_M := ⟨11, 2, [.inr (.inl [1]), .inl ⟨.ofNat 2, .ofNat 2, [], []⟩], [(60002, .ofNat 1, .ofNat 1)], [⟨none, some (.inl ⟨.ofNat 0, .ofNat 0, [], []⟩), [], 0⟩], [], [], [5, 8, 9, 49, 50], [], [], []⟩
/-- FatVolume.spoil(I)Z(3, 3, 0) -/
def ie_m158 : ia_M := ⟨11, 2, [.inr (.inl [1]), .inl ⟨.ofNat 3, .ofNat 3, [], []⟩], [(60003, .ofNat 0, .ofNat 0)], [⟨none, some (.inl ⟨.ofNat 1, .ofNat 1, [], []⟩), [(60003, .ofNat 1, .ofNat 1)], 0⟩], [], [(5, 3, 3)], [5, 8, 9, 49, 50], [], [], []⟩
/-- FatVolume.spoil(I)Z(3, 3, 1) -/
def ie_m159 : ia_M := ⟨11, 2, [.inr (.inl [1]), .inl ⟨.ofNat 3, .ofNat 3, [], []⟩], [(60003, .ofNat 1, .ofNat 1)], [⟨none, some (.inl ⟨.ofNat 0, .ofNat 0, [], []⟩), [], 0⟩], [], [], [5, 8, 9, 49, 50], [], [], []⟩
/-- FatVolume.spoil(I)Z(4, 4, 0) -/
def ie_m160 : ia_M := ⟨11, 2, [.inr (.inl [1]), .inl ⟨.ofNat 4, .ofNat 4, [], []⟩], [(60004, .ofNat 0, .ofNat 0)], [⟨none, some (.inl ⟨.ofNat 1, .ofNat 1, [], []⟩), [(60004, .ofNat 1, .ofNat 1)], 0⟩], [], [(5, 4, 4)], [5, 8, 9, 49, 50], [], [], []⟩
/-- FatVolume.spoil(I)Z(4, 4, 1) -/
def ie_m161 : ia_M := ⟨11, 2, [.inr (.inl [1]), .inl ⟨.ofNat 4, .ofNat 4, [], []⟩], [(60004, .ofNat 1, .ofNat 1)], [⟨none, some (.inl ⟨.ofNat 0, .ofNat 0, [], []⟩), [], 0⟩], [], [], [5, 8, 9, 49, 50], [], [], []⟩
/-- FatVolume.spoil(I)Z(5, 5, 0) -/
def ie_m162 : ia_M := ⟨11, 2, [.inr (.inl [1]), .inl ⟨.ofNat 5, .ofNat 5, [], []⟩], [(60005, .ofNat 0, .ofNat 0)], [⟨none, some (.inl ⟨.ofNat 1, .ofNat 1, [], []⟩), [(60005, .ofNat 1, .ofNat 1)], 0⟩], [], [(5, 5, 5)], [5, 8, 9, 49, 50], [], [], []⟩
/-- FatVolume.spoil(I)Z(5, 5, 1) -/
def ie_m163 : ia_M := ⟨11, 2, [.inr (.inl [1]), .inl ⟨.ofNat 5, .ofNat 5, [], []⟩], [(60005, .ofNat 1, .ofNat 1)], [⟨none, some (.inl ⟨.ofNat 0, .ofNat 0, [], []⟩), [], 0⟩], [], [], [5, 8, 9, 49, 50], [], [], []⟩
/-- FatVolume.spoil(I)Z(6, 6, 0) -/
def ie_m164 : ia_M := ⟨11, 2, [.inr (.inl [1]), .inl ⟨.ofNat 6, .ofNat 6, [], []⟩], [(60006, .ofNat 0, .ofNat 0)], [⟨none, some (.inl ⟨.ofNat 1, .ofNat 1, [], []⟩), [(60006, .ofNat 1, .ofNat 1)], 0⟩], [], [(5, 6, 6)], [5, 8, 9, 49, 50], [], [], []⟩
/-- FatVolume.spoil(I)Z(6, 6, 1) -/
def ie_m165 : ia_M := ⟨11, 2, [.inr (.inl [1]), .inl ⟨.ofNat 6, .ofNat 6, [], []⟩], [(60006, .ofNat 1, .ofNat 1)], [⟨none, some (.inl ⟨.ofNat 0, .ofNat 0, [], []⟩), [], 0⟩], [], [], [5, 8, 9, 49, 50], [], [], []⟩
/-- FatVolume.spoil(I)Z(7, 7, 0) -/
def ie_m166 : ia_M := ⟨11, 2, [.inr (.inl [1]), .inl ⟨.ofNat 7, .ofNat 7, [], []⟩], [(60007, .ofNat 0, .ofNat 0)], [⟨none, some (.inl ⟨.ofNat 1, .ofNat 1, [], []⟩), [(60007, .ofNat 1, .ofNat 1)], 0⟩], [], [(5, 7, 7)], [5, 8, 9, 49, 50], [], [], []⟩
/-- FatVolume.spoil(I)Z(7, 7, 1) -/
def ie_m167 : ia_M := ⟨11, 2, [.inr (.inl [1]), .inl ⟨.ofNat 7, .ofNat 7, [], []⟩], [(60007, .ofNat 1, .ofNat 1)], [⟨none, some (.inl ⟨.ofNat 0, .ofNat 0, [], []⟩), [], 0⟩], [], [], [5, 8, 9, 49, 50], [], [], []⟩
/-- FatVolume.spoil(I)Z(8, 8, 0) -/
def ie_m168 : ia_M := ⟨11, 2, [.inr (.inl [1]), .inl ⟨.ofNat 8, .ofNat 8, [], []⟩], [(60008, .ofNat 0, .ofNat 0)], [⟨none, some (.inl ⟨.ofNat 1, .ofNat 1, [], []⟩), [(60008, .ofNat 1, .ofNat 1)], 0⟩], [], [(5, 8, 8)], [5, 8, 9, 49, 50], [], [], []⟩
/-- FatVolume.spoil(I)Z(8, 8, 1) -/
def ie_m169 : ia_M := ⟨11, 2, [.inr (.inl [1]), .inl ⟨.ofNat 8, .ofNat 8, [], []⟩], [(60008, .ofNat 1, .ofNat 1)], [⟨none, some (.inl ⟨.ofNat 0, .ofNat 0, [], []⟩), [], 0⟩], [], [], [5, 8, 9, 49, 50], [], [], []⟩
/-- FatVolume.spoil(I)Z(9, 9, 0) -/
def ie_m170 : ia_M := ⟨11, 2, [.inr (.inl [1]), .inl ⟨.ofNat 9, .ofNat 9, [], []⟩], [(60009, .ofNat 0, .ofNat 0)], [⟨none, some (.inl ⟨.ofNat 1, .ofNat 1, [], []⟩), [(60009, .ofNat 1, .ofNat 1)], 0⟩], [], [(5, 9, 9)], [5, 8, 9, 49, 50], [], [], []⟩
/-- FatVolume.spoil(I)Z(9, 9, 1) -/
def ie_m171 : ia_M := ⟨11, 2, [.inr (.inl [1]), .inl ⟨.ofNat 9, .ofNat 9, [], []⟩], [(60009, .ofNat 1, .ofNat 1)], [⟨none, some (.inl ⟨.ofNat 0, .ofNat 0, [], []⟩), [], 0⟩], [], [], [5, 8, 9, 49, 50], [], [], []⟩
/-- FatVolume.spoil(I)Z(10, 10, 0) -/
def ie_m172 : ia_M := ⟨11, 2, [.inr (.inl [1]), .inl ⟨.ofNat 10, .ofNat 10, [], []⟩], [(60010, .ofNat 0, .ofNat 0)], [⟨none, some (.inl ⟨.ofNat 1, .ofNat 1, [], []⟩), [(60010, .ofNat 1, .ofNat 1)], 0⟩], [], [(5, 10, 10)], [5, 8, 9, 49, 50], [], [], []⟩
/-- FatVolume.spoil(I)Z(10, 10, 1) -/
def ie_m173 : ia_M := ⟨11, 2, [.inr (.inl [1]), .inl ⟨.ofNat 10, .ofNat 10, [], []⟩], [(60010, .ofNat 1, .ofNat 1)], [⟨none, some (.inl ⟨.ofNat 0, .ofNat 0, [], []⟩), [], 0⟩], [], [], [5, 8, 9, 49, 50], [], [], []⟩
/-- FatVolume.spoil(I)Z(11, 11, 0) -/
def ie_m174 : ia_M := ⟨11, 2, [.inr (.inl [1]), .inl ⟨.ofNat 11, .ofNat 11, [], []⟩], [(60011, .ofNat 0, .ofNat 0)], [⟨none, some (.inl ⟨.ofNat 1, .ofNat 1, [], []⟩), [(60011, .ofNat 1, .ofNat 1)], 0⟩], [], [(5, 11, 11)], [5, 8, 9, 49, 50], [], [], []⟩
/-- FatVolume.spoil(I)Z(11, 11, 1) -/
def ie_m175 : ia_M := ⟨11, 2, [.inr (.inl [1]), .inl ⟨.ofNat 11, .ofNat 11, [], []⟩], [(60011, .ofNat 1, .ofNat 1)], [⟨none, some (.inl ⟨.ofNat 0, .ofNat 0, [], []⟩), [], 0⟩], [], [], [5, 8, 9, 49, 50], [], [], []⟩
/-- FatVolume.spoil(I)Z(12, 12, 0) -/
def ie_m176 : ia_M := ⟨11, 2, [.inr (.inl [1]), .inl ⟨.ofNat 12, .ofNat 12, [], []⟩], [(60012, .ofNat 0, .ofNat 0)], [⟨none, some (.inl ⟨.ofNat 1, .ofNat 1, [], []⟩), [(60012, .ofNat 1, .ofNat 1)], 0⟩], [], [(5, 12, 12)], [5, 8, 9, 49, 50], [], [], []⟩
/-- FatVolume.spoil(I)Z(12, 12, 1) -/
def ie_m177 : ia_M := ⟨11, 2, [.inr (.inl [1]), .inl ⟨.ofNat 12, .ofNat 12, [], []⟩], [(60012, .ofNat 1, .ofNat 1)], [⟨none, some (.inl ⟨.ofNat 0, .ofNat 0, [], []⟩), [], 0⟩], [], [], [5, 8, 9, 49, 50], [], [], []⟩
/-- FatVolume.spoil(I)Z(13, 13, 0) -/
def ie_m178 : ia_M := ⟨11, 2, [.inr (.inl [1]), .inl ⟨.ofNat 13, .ofNat 13, [], []⟩], [(60013, .ofNat 0, .ofNat 0)], [⟨none, some (.inl ⟨.ofNat 1, .ofNat 1, [], []⟩), [(60013, .ofNat 1, .ofNat 1)], 0⟩], [], [(5, 13, 13)], [5, 8, 9, 49, 50], [], [], []⟩
/-- FatVolume.spoil(I)Z(13, 13, 1) -/
def ie_m179 : ia_M := ⟨11, 2, [.inr (.inl [1]), .inl ⟨.ofNat 13, .ofNat 13, [], []⟩], [(60013, .ofNat 1, .ofNat 1)], [⟨none, some (.inl ⟨.ofNat 0, .ofNat 0, [], []⟩), [], 0⟩], [], [], [5, 8, 9, 49, 50], [], [], []⟩
/-- FatVolume.spoil(I)Z(14, 14, 0) -/
def ie_m180 : ia_M := ⟨11, 2, [.inr (.inl [1]), .inl ⟨.ofNat 14, .ofNat 14, [], []⟩], [(60014, .ofNat 0, .ofNat 0)], [⟨none, some (.inl ⟨.ofNat 1, .ofNat 1, [], []⟩), [(60014, .ofNat 1, .ofNat 1)], 0⟩], [], [(5, 14, 14)], [5, 8, 9, 49, 50], [], [], []⟩
/-- FatVolume.spoil(I)Z(14, 14, 1) -/
def ie_m181 : ia_M := ⟨11, 2, [.inr (.inl [1]), .inl ⟨.ofNat 14, .ofNat 14, [], []⟩], [(60014, .ofNat 1, .ofNat 1)], [⟨none, some (.inl ⟨.ofNat 0, .ofNat 0, [], []⟩), [], 0⟩], [], [], [5, 8, 9, 49, 50], [], [], []⟩
/-- FatVolume.spoil(I)Z(15, 15, 0) -/
def ie_m182 : ia_M := ⟨11, 2, [.inr (.inl [1]), .inl ⟨.ofNat 15, .ofNat 15, [], []⟩], [(60015, .ofNat 0, .ofNat 0)], [⟨none, some (.inl ⟨.ofNat 1, .ofNat 1, [], []⟩), [(60015, .ofNat 1, .ofNat 1)], 0⟩], [], [(5, 15, 15)], [5, 8, 9, 49, 50], [], [], []⟩
/-- FatVolume.spoil(I)Z(15, 15, 1) -/
def ie_m183 : ia_M := ⟨11, 2, [.inr (.inl [1]), .inl ⟨.ofNat 15, .ofNat 15, [], []⟩], [(60015, .ofNat 1, .ofNat 1)], [⟨none, some (.inl ⟨.ofNat 0, .ofNat 0, [], []⟩), [], 0⟩], [], [], [5, 8, 9, 49, 50], [], [], []⟩
/-- FatVolume.spoil(I)Z(16, 16, 0) -/
def ie_m184 : ia_M := ⟨11, 2, [.inr (.inl [1]), .inl ⟨.ofNat 16, .ofNat 16, [], []⟩], [(60016, .ofNat 0, .ofNat 0)], [⟨none, some (.inl ⟨.ofNat 1, .ofNat 1, [], []⟩), [(60016, .ofNat 1, .ofNat 1)], 0⟩], [], [(5, 16, 16)], [5, 8, 9, 49, 50], [], [], []⟩
/-- FatVolume.spoil(I)Z(16, 16, 1) -/
def ie_m185 : ia_M := ⟨11, 2, [.inr (.inl [1]), .inl ⟨.ofNat 16, .ofNat 16, [], []⟩], [(60016, .ofNat 1, .ofNat 1)], [⟨none, some (.inl ⟨.ofNat 0, .ofNat 0, [], []⟩), [], 0⟩], [], [], [5, 8, 9, 49, 50], [], [], []⟩
/-- FatVolume.spoil(I)Z(17, 17, 0) -/
def ie_m186 : ia_M := ⟨11, 2, [.inr (.inl [1]), .inl ⟨.ofNat 17, .ofNat 17, [], []⟩], [(60017, .ofNat 0, .ofNat 0)], [⟨none, some (.inl ⟨.ofNat 1, .ofNat 1, [], []⟩), [(60017, .ofNat 1, .ofNat 1)], 0⟩], [], [(5, 17, 17)], [5, 8, 9, 49, 50], [], [], []⟩
/-- FatVolume.spoil(I)Z(17, 17, 1) -/
def ie_m187 : ia_M := ⟨11, 2, [.inr (.inl [1]), .inl ⟨.ofNat 17, .ofNat 17, [], []⟩], [(60017, .ofNat 1, .ofNat 1)], [⟨none, some (.inl ⟨.ofNat 0, .ofNat 0, [], []⟩), [], 0⟩], [], [], [5, 8, 9, 49, 50], [], [], []⟩
/-- FatVolume.spoil(I)Z(18, 18, 0) -/
def ie_m188 : ia_M := ⟨11, 2, [.inr (.inl [1]), .inl ⟨.ofNat 18, .ofNat 18, [], []⟩], [(60018, .ofNat 0, .ofNat 0)], [⟨none, some (.inl ⟨.ofNat 1, .ofNat 1, [], []⟩), [(60018, .ofNat 1, .ofNat 1)], 0⟩], [], [(5, 18, 18)], [5, 8, 9, 49, 50], [], [], []⟩
/-- FatVolume.spoil(I)Z(18, 18, 1) -/
def ie_m189 : ia_M := ⟨11, 2, [.inr (.inl [1]), .inl ⟨.ofNat 18, .ofNat 18, [], []⟩], [(60018, .ofNat 1, .ofNat 1)], [⟨none, some (.inl ⟨.ofNat 0, .ofNat 0, [], []⟩), [], 0⟩], [], [], [5, 8, 9, 49, 50], [], [], []⟩
/-- FatVolume.spoil(I)Z(19, 19, 0) -/
def ie_m190 : ia_M := ⟨11, 2, [.inr (.inl [1]), .inl ⟨.ofNat 19, .ofNat 19, [], []⟩], [(60019, .ofNat 0, .ofNat 0)], [⟨none, some (.inl ⟨.ofNat 1, .ofNat 1, [], []⟩), [(60019, .ofNat 1, .ofNat 1)], 0⟩], [], [(5, 19, 19)], [5, 8, 9, 49, 50], [], [], []⟩
/-- FatVolume.spoil(I)Z(19, 19, 1) -/
def ie_m191 : ia_M := ⟨11, 2, [.inr (.inl [1]), .inl ⟨.ofNat 19, .ofNat 19, [], []⟩], [(60019, .ofNat 1, .ofNat 1)], [⟨none, some (.inl ⟨.ofNat 0, .ofNat 0, [], []⟩), [], 0⟩], [], [], [5, 8, 9, 49, 50], [], [], []⟩
/-- FatVolume.spoil(I)Z(20, 20, 0) -/
def ie_m192 : ia_M := ⟨11, 2, [.inr (.inl [1]), .inl ⟨.ofNat 20, .ofNat 20, [], []⟩], [(60020, .ofNat 0, .ofNat 0)], [⟨none, some (.inl ⟨.ofNat 1, .ofNat 1, [], []⟩), [(60020, .ofNat 1, .ofNat 1)], 0⟩], [], [(5, 20, 20)], [5, 8, 9, 49, 50], [], [], []⟩
/-- FatVolume.spoil(I)Z(20, 20, 1) -/
def ie_m193 : ia_M := ⟨11, 2, [.inr (.inl [1]), .inl ⟨.ofNat 20, .ofNat 20, [], []⟩], [(60020, .ofNat 1, .ofNat 1)], [⟨none, some (.inl ⟨.ofNat 0, .ofNat 0, [], []⟩), [], 0⟩], [], [], [5, 8, 9, 49, 50], [], [], []⟩
/-- FatVolume.spoil(I)Z(21, 21, 0) -/
def ie_m194 : ia_M := ⟨11, 2, [.inr (.inl [1]), .inl ⟨.ofNat 21, .ofNat 21, [], []⟩], [(60021, .ofNat 0, .ofNat 0)], [⟨none, some (.inl ⟨.ofNat 1, .ofNat 1, [], []⟩), [(60021, .ofNat 1, .ofNat 1)], 0⟩], [], [(5, 21, 21)], [5, 8, 9, 49, 50], [], [], []⟩
/-- FatVolume.spoil(I)Z(21, 21, 1) -/
def ie_m195 : ia_M := ⟨11, 2, [.inr (.inl [1]), .inl ⟨.ofNat 21, .ofNat 21, [], []⟩], [(60021, .ofNat 1, .ofNat 1)], [⟨none, some (.inl ⟨.ofNat 0, .ofNat 0, [], []⟩), [], 0⟩], [], [], [5, 8, 9, 49, 50], [], [], []⟩
/-- FatVolume.spoil(I)Z(22, 22, 0) -/
def ie_m196 : ia_M := ⟨11, 2, [.inr (.inl [1]), .inl ⟨.ofNat 22, .ofNat 22, [], []⟩], [(60022, .ofNat 0, .ofNat 0)], [⟨none, some (.inl ⟨.ofNat 1, .ofNat 1, [], []⟩), [(60022, .ofNat 1, .ofNat 1)], 0⟩], [], [(5, 22, 22)], [5, 8, 9, 49, 50], [], [], []⟩
/-- FatVolume.spoil(I)Z(22, 22, 1) -/
def ie_m197 : ia_M := ⟨11, 2, [.inr (.inl [1]), .inl ⟨.ofNat 22, .ofNat 22, [], []⟩], [(60022, .ofNat 1, .ofNat 1)], [⟨none, some (.inl ⟨.ofNat 0, .ofNat 0, [], []⟩), [], 0⟩], [], [], [5, 8, 9, 49, 50], [], [], []⟩
/-- FatVolume.spoil(I)Z(23, 23, 0) -/
def ie_m198 : ia_M := ⟨11, 2, [.inr (.inl [1]), .inl ⟨.ofNat 23, .ofNat 23, [], []⟩], [(60023, .ofNat 0, .ofNat 0)], [⟨none, some (.inl ⟨.ofNat 1, .ofNat 1, [], []⟩), [(60023, .ofNat 1, .ofNat 1)], 0⟩], [], [(5, 23, 23)], [5, 8, 9, 49, 50], [], [], []⟩
/-- FatVolume.spoil(I)Z(23, 23, 1) -/
def ie_m199 : ia_M := ⟨11, 2, [.inr (.inl [1]), .inl ⟨.ofNat 23, .ofNat 23, [], []⟩], [(60023, .ofNat 1, .ofNat 1)], [⟨none, some (.inl ⟨.ofNat 0, .ofNat 0, [], []⟩), [], 0⟩], [], [], [5, 8, 9, 49, 50], [], [], []⟩
/-- FatVolume.spoil(I)Z(24, 24, 0) -/
def ie_m200 : ia_M := ⟨11, 2, [.inr (.inl [1]), .inl ⟨.ofNat 24, .ofNat 24, [], []⟩], [(60024, .ofNat 0, .ofNat 0)], [⟨none, some (.inl ⟨.ofNat 1, .ofNat 1, [], []⟩), [(60024, .ofNat 1, .ofNat 1)], 0⟩], [], [(5, 24, 24)], [5, 8, 9, 49, 50], [], [], []⟩
/-- FatVolume.spoil(I)Z(24, 24, 1) -/
def ie_m201 : ia_M := ⟨11, 2, [.inr (.inl [1]), .inl ⟨.ofNat 24, .ofNat 24, [], []⟩], [(60024, .ofNat 1, .ofNat 1)], [⟨none, some (.inl ⟨.ofNat 0, .ofNat 0, [], []⟩), [], 0⟩], [], [], [5, 8, 9, 49, 50], [], [], []⟩
/-- FatVolume.spoil(I)Z(25, 25, 0) -/
def ie_m202 : ia_M := ⟨11, 2, [.inr (.inl [1]), .inl ⟨.ofNat 25, .ofNat 25, [], []⟩], [(60025, .ofNat 0, .ofNat 0)], [⟨none, some (.inl ⟨.ofNat 1, .ofNat 1, [], []⟩), [(60025, .ofNat 1, .ofNat 1)], 0⟩], [], [(5, 25, 25)], [5, 8, 9, 49, 50], [], [], []⟩
/-- FatVolume.spoil(I)Z(25, 25, 1) -/
def ie_m203 : ia_M := ⟨11, 2, [.inr (.inl [1]), .inl ⟨.ofNat 25, .ofNat 25, [], []⟩], [(60025, .ofNat 1, .ofNat 1)], [⟨none, some (.inl ⟨.ofNat 0, .ofNat 0, [], []⟩), [], 0⟩], [], [], [5, 8, 9, 49, 50], [], [], []⟩
/-- FatVolume.spoil(I)Z(26, 26, 0) -/
def ie_m204 : ia_M := ⟨11, 2, [.inr (.inl [1]), .inl ⟨.ofNat 26, .ofNat 26, [], []⟩], [(60026, .ofNat 0, .ofNat 0)], [⟨none, some (.inl ⟨.ofNat 1, .ofNat 1, [], []⟩), [(60026, .ofNat 1, .ofNat 1)], 0⟩], [], [(5, 26, 26)], [5, 8, 9, 49, 50], [], [], []⟩
/-- FatVolume.spoil(I)Z(26, 26, 1) -/
def ie_m205 : ia_M := ⟨11, 2, [.inr (.inl [1]), .inl ⟨.ofNat 26, .ofNat 26, [], []⟩], [(60026, .ofNat 1, .ofNat 1)], [⟨none, some (.inl ⟨.ofNat 0, .ofNat 0, [], []⟩), [], 0⟩], [], [], [5, 8, 9, 49, 50], [], [], []⟩
/-- FatVolume.spoil(I)Z(27, 27, 0) -/
def ie_m206 : ia_M := ⟨11, 2, [.inr (.inl [1]), .inl ⟨.ofNat 27, .ofNat 27, [], []⟩], [(60027, .ofNat 0, .ofNat 0)], [⟨none, some (.inl ⟨.ofNat 1, .ofNat 1, [], []⟩), [(60027, .ofNat 1, .ofNat 1)], 0⟩], [], [(5, 27, 27)], [5, 8, 9, 49, 50], [], [], []⟩
/-- FatVolume.spoil(I)Z(27, 27, 1) -/
def ie_m207 : ia_M := ⟨11, 2, [.inr (.inl [1]), .inl ⟨.ofNat 27, .ofNat 27, [], []⟩], [(60027, .ofNat 1, .ofNat 1)], [⟨none, some (.inl ⟨.ofNat 0, .ofNat 0, [], []⟩), [], 0⟩], [], [], [5, 8, 9, 49, 50], [], [], []⟩
/-- FatVolume.spoil(I)Z(28, 28, 0) -/
def ie_m208 : ia_M := ⟨11, 2, [.inr (.inl [1]), .inl ⟨.ofNat 28, .ofNat 28, [], []⟩], [(60028, .ofNat 0, .ofNat 0)], [⟨none, some (.inl ⟨.ofNat 1, .ofNat 1, [], []⟩), [(60028, .ofNat 1, .ofNat 1)], 0⟩], [], [(5, 28, 28)], [5, 8, 9, 49, 50], [], [], []⟩
/-- FatVolume.spoil(I)Z(28, 28, 1) -/
def ie_m209 : ia_M := ⟨11, 2, [.inr (.inl [1]), .inl ⟨.ofNat 28, .ofNat 28, [], []⟩], [(60028, .ofNat 1, .ofNat 1)], [⟨none, some (.inl ⟨.ofNat 0, .ofNat 0, [], []⟩), [], 0⟩], [], [], [5, 8, 9, 49, 50], [], [], []⟩
/-- FatVolume.spoil(I)Z(29, 29, 0) -/
def ie_m210 : ia_M := ⟨11, 2, [.inr (.inl [1]), .inl ⟨.ofNat 29, .ofNat 29, [], []⟩], [(60029, .ofNat 0, .ofNat 0)], [⟨none, some (.inl ⟨.ofNat 1, .ofNat 1, [], []⟩), [(60029, .ofNat 1, .ofNat 1)], 0⟩], [], [(5, 29, 29)], [5, 8, 9, 49, 50], [], [], []⟩
/-- FatVolume.spoil(I)Z(29, 29, 1) -/
def ie_m211 : ia_M := ⟨11, 2, [.inr (.inl [1]), .inl ⟨.ofNat 29, .ofNat 29, [], []⟩], [(60029, .ofNat 1, .ofNat 1)], [⟨none, some (.inl ⟨.ofNat 0, .ofNat 0, [], []⟩), [], 0⟩], [], [], [5, 8, 9, 49, 50], [], [], []⟩
/-- FatVolume.spoil(I)Z(30, 30, 0) -/
def ie_m212 : ia_M := ⟨11, 2, [.inr (.inl [1]), .inl ⟨.ofNat 30, .ofNat 30, [], []⟩], [(60030, .ofNat 0, .ofNat 0)], [⟨none, some (.inl ⟨.ofNat 1, .ofNat 1, [], []⟩), [(60030, .ofNat 1, .ofNat 1)], 0⟩], [], [(5, 30, 30)], [5, 8, 9, 49, 50], [], [], []⟩
/-- FatVolume.spoil(I)Z(30, 30, 1) -/
def ie_m213 : ia_M := ⟨11, 2, [.inr (.inl [1]), .inl ⟨.ofNat 30, .ofNat 30, [], []⟩], [(60030, .ofNat 1, .ofNat 1)], [⟨none, some (.inl ⟨.ofNat 0, .ofNat 0, [], []⟩), [], 0⟩], [], [], [5, 8, 9, 49, 50], [], [], []⟩
/-- FatVolume.spoil(I)Z(31, 31, 0) -/
def ie_m214 : ia_M := ⟨11, 2, [.inr (.inl [1]), .inl ⟨.ofNat 31, .ofNat 31, [], []⟩], [(60031, .ofNat 0, .ofNat 0)], [⟨none, some (.inl ⟨.ofNat 1, .ofNat 1, [], []⟩), [(60031, .ofNat 1, .ofNat 1)], 0⟩], [], [(5, 31, 31)], [5, 8, 9, 49, 50], [], [], []⟩
/-- FatVolume.spoil(I)Z(31, 31, 1) -/
def ie_m215 : ia_M := ⟨11, 2, [.inr (.inl [1]), .inl ⟨.ofNat 31, .ofNat 31, [], []⟩], [(60031, .ofNat 1, .ofNat 1)], [⟨none, some (.inl ⟨.ofNat 0, .ofNat 0, [], []⟩), [], 0⟩], [], [], [5, 8, 9, 49, 50], [], [], []⟩
/-- FatVolumeModel.spoil(I)Z(-2147483648, 1, None) -/
def ie_m216 : ia_M := ⟨175, 2, [.inr (.inl [44]), .inl ⟨.negSucc 2147483647, .ofNat 1, [], []⟩], [], [⟨none, some (.inl ⟨.ofNat 0, .ofNat 0, [], []⟩), [(5400, .ofNat 0, .ofNat 0)], 0⟩], [4400], [], [8, 9, 48, 49, 50], [], [], []⟩
/-- FatVolumeModel.spoil(I)Z(32, 2147483647, None) -/
def ie_m217 : ia_M := ⟨175, 2, [.inr (.inl [44]), .inl ⟨.ofNat 32, .ofNat 2147483647, [], []⟩], [], [⟨none, some (.inl ⟨.ofNat 0, .ofNat 0, [], []⟩), [(5400, .ofNat 0, .ofNat 0)], 0⟩], [4400], [], [8, 9, 48, 49, 50], [], [], []⟩
/-- FatVolumeModel.spoil(I)Z(2, 2, 0) -/
def ie_m218 : ia_M := ⟨175, 2, [.inr (.inl [44]), .inl ⟨.ofNat 2, .ofNat 2, [], []⟩], [(490002, .ofNat 0, .ofNat 0)], [⟨none, some (.inl ⟨.ofNat 1, .ofNat 1, [], []⟩), [(5400, .ofNat 0, .ofNat 0), (490002, .ofNat 1, .ofNat 1)], 0⟩], [4400], [(48, 2, 2)], [8, 9, 48, 49, 50], [], [], []⟩
/-- FatVolumeModel.spoil(I)Z(2, 2, 1) -/
def ie_m219 : ia_M := ⟨175, 2, [.inr (.inl [44]), .inl ⟨.ofNat 2, .ofNat 2, [], []⟩], [(490002, .ofNat 1, .ofNat 1)], [⟨none, some (.inl ⟨.ofNat 0, .ofNat 0, [], []⟩), [(5400, .ofNat 0, .ofNat 0)], 0⟩], [4400], [], [8, 9, 48, 49, 50], [], [], []⟩
/-- FatVolumeModel.spoil(I)Z(3, 3, 0) -/
def ie_m220 : ia_M := ⟨175, 2, [.inr (.inl [44]), .inl ⟨.ofNat 3, .ofNat 3, [], []⟩], [(490003, .ofNat 0, .ofNat 0)], [⟨none, some (.inl ⟨.ofNat 1, .ofNat 1, [], []⟩), [(5400, .ofNat 0, .ofNat 0), (490003, .ofNat 1, .ofNat 1)], 0⟩], [4400], [(48, 3, 3)], [8, 9, 48, 49, 50], [], [], []⟩
/-- FatVolumeModel.spoil(I)Z(3, 3, 1) -/
def ie_m221 : ia_M := ⟨175, 2, [.inr (.inl [44]), .inl ⟨.ofNat 3, .ofNat 3, [], []⟩], [(490003, .ofNat 1, .ofNat 1)], [⟨none, some (.inl ⟨.ofNat 0, .ofNat 0, [], []⟩), [(5400, .ofNat 0, .ofNat 0)], 0⟩], [4400], [], [8, 9, 48, 49, 50], [], [], []⟩
/-- FatVolumeModel.spoil(I)Z(4, 4, 0) -/
def ie_m222 : ia_M := ⟨175, 2, [.inr (.inl [44]), .inl ⟨.ofNat 4, .ofNat 4, [], []⟩], [(490004, .ofNat 0, .ofNat 0)], [⟨none, some (.inl ⟨.ofNat 1, .ofNat 1, [], []⟩), [(5400, .ofNat 0, .ofNat 0), (490004, .ofNat 1, .ofNat 1)], 0⟩], [4400], [(48, 4, 4)], [8, 9, 48, 49, 50], [], [], []⟩
/-- FatVolumeModel.spoil(I)Z(4, 4, 1) -/
def ie_m223 : ia_M := ⟨175, 2, [.inr (.inl [44]), .inl ⟨.ofNat 4, .ofNat 4, [], []⟩], [(490004, .ofNat 1, .ofNat 1)], [⟨none, some (.inl ⟨.ofNat 0, .ofNat 0, [], []⟩), [(5400, .ofNat 0, .ofNat 0)], 0⟩], [4400], [], [8, 9, 48, 49, 50], [], [], []⟩
/-- FatVolumeModel.spoil(I)Z(5, 5, 0) -/
def ie_m224 : ia_M := ⟨175, 2, [.inr (.inl [44]), .inl ⟨.ofNat 5, .ofNat 5, [], []⟩], [(490005, .ofNat 0, .ofNat 0)], [⟨none, some (.inl ⟨.ofNat 1, .ofNat 1, [], []⟩), [(5400, .ofNat 0, .ofNat 0), (490005, .ofNat 1, .ofNat 1)], 0⟩], [4400], [(48, 5, 5)], [8, 9, 48, 49, 50], [], [], []⟩
/-- FatVolumeModel.spoil(I)Z(5, 5, 1) -/
def ie_m225 : ia_M := ⟨175, 2, [.inr (.inl [44]), .inl ⟨.ofNat 5, .ofNat 5, [], []⟩], [(490005, .ofNat 1, .ofNat 1)], [⟨none, some (.inl ⟨.ofNat 0, .ofNat 0, [], []⟩), [(5400, .ofNat 0, .ofNat 0)], 0⟩], [4400], [], [8, 9, 48, 49, 50], [], [], []⟩
/-- FatVolumeModel.spoil(I)Z(6, 6, 0) -/
def ie_m226 : ia_M := ⟨175, 2, [.inr (.inl [44]), .inl ⟨.ofNat 6, .ofNat 6, [], []⟩], [(490006, .ofNat 0, .ofNat 0)], [⟨none, some (.inl ⟨.ofNat 1, .ofNat 1, [], []⟩), [(5400, .ofNat 0, .ofNat 0), (490006, .ofNat 1, .ofNat 1)], 0⟩], [4400], [(48, 6, 6)], [8, 9, 48, 49, 50], [], [], []⟩
/-- FatVolumeModel.spoil(I)Z(6, 6, 1) -/
def ie_m227 : ia_M := ⟨175, 2, [.inr (.inl [44]), .inl ⟨.ofNat 6, .ofNat 6, [], []⟩], [(490006, .ofNat 1, .ofNat 1)], [⟨none, some (.inl ⟨.ofNat 0, .ofNat 0, [], []⟩), [(5400, .ofNat 0, .ofNat 0)], 0⟩], [4400], [], [8, 9, 48, 49, 50], [], [], []⟩
/-- FatVolumeModel.spoil(I)Z(7, 7, 0) -/
def ie_m228 : ia_M := ⟨175, 2, [.inr (.inl [44]), .inl ⟨.ofNat 7, .ofNat 7, [], []⟩], [(490007, .ofNat 0, .ofNat 0)], [⟨none, some (.inl ⟨.ofNat 1, .ofNat 1, [], []⟩), [(5400, .ofNat 0, .ofNat 0), (490007, .ofNat 1, .ofNat 1)], 0⟩], [4400], [(48, 7, 7)], [8, 9, 48, 49, 50], [], [], []⟩
/-- FatVolumeModel.spoil(I)Z(7, 7, 1) -/
def ie_m229 : ia_M := ⟨175, 2, [.inr (.inl [44]), .inl ⟨.ofNat 7, .ofNat 7, [], []⟩], [(490007, .ofNat 1, .ofNat 1)], [⟨none, some (.inl ⟨.ofNat 0, .ofNat 0, [], []⟩), [(5400, .ofNat 0, .ofNat 0)], 0⟩], [4400], [], [8, 9, 48, 49, 50], [], [], []⟩
/-- FatVolumeModel.spoil(I)Z(8, 8, 0) -/
def ie_m230 : ia_M := ⟨175, 2, [.inr (.inl [44]), .inl ⟨.ofNat 8, .ofNat 8, [], []⟩], [(490008, .ofNat 0, .ofNat 0)], [⟨none, some (.inl ⟨.ofNat 1, .ofNat 1, [], []⟩), [(5400, .ofNat 0, .ofNat 0), (490008, .ofNat 1, .ofNat 1)], 0⟩], [4400], [(48, 8, 8)], [8, 9, 48, 49, 50], [], [], []⟩
/-- FatVolumeModel.spoil(I)Z(8, 8, 1) -/
def ie_m231 : ia_M := ⟨175, 2, [.inr (.inl [44]), .inl ⟨.ofNat 8, .ofNat 8, [], []⟩], [(490008, .ofNat 1, .ofNat 1)], [⟨none, some (.inl ⟨.ofNat 0, .ofNat 0, [], []⟩), [(5400, .ofNat 0, .ofNat 0)], 0⟩], [4400], [], [8, 9, 48, 49, 50], [], [], []⟩
/-- FatVolumeModel.spoil(I)Z(9, 9, 0) -/
def ie_m232 : ia_M := ⟨175, 2, [.inr (.inl [44]), .inl ⟨.ofNat 9, .ofNat 9, [], []⟩], [(490009, .ofNat 0, .ofNat 0)], [⟨none, some (.inl ⟨.ofNat 1, .ofNat 1, [], []⟩), [(5400, .ofNat 0, .ofNat 0), (490009, .ofNat 1, .ofNat 1)], 0⟩], [4400], [(48, 9, 9)], [8, 9, 48, 49, 50], [], [], []⟩
/-- FatVolumeModel.spoil(I)Z(9, 9, 1) -/
def ie_m233 : ia_M := ⟨175, 2, [.inr (.inl [44]), .inl ⟨.ofNat 9, .ofNat 9, [], []⟩], [(490009, .ofNat 1, .ofNat 1)], [⟨none, some (.inl ⟨.ofNat 0, .ofNat 0, [], []⟩), [(5400, .ofNat 0, .ofNat 0)], 0⟩], [4400], [], [8, 9, 48, 49, 50], [], [], []⟩
/-- FatVolumeModel.spoil(I)Z(10, 10, 0) -/
def ie_m234 : ia_M := ⟨175, 2, [.inr (.inl [44]), .inl ⟨.ofNat 10, .ofNat 10, [], []⟩], [(490010, .ofNat 0, .ofNat 0)], [⟨none, some (.inl ⟨.ofNat 1, .ofNat 1, [], []⟩), [(5400, .ofNat 0, .ofNat 0), (490010, .ofNat 1, .ofNat 1)], 0⟩], [4400], [(48, 10, 10)], [8, 9, 48, 49, 50], [], [], []⟩
/-- FatVolumeModel.spoil(I)Z(10, 10, 1) -/
def ie_m235 : ia_M := ⟨175, 2, [.inr (.inl [44]), .inl ⟨.ofNat 10, .ofNat 10, [], []⟩], [(490010, .ofNat 1, .ofNat 1)], [⟨none, some (.inl ⟨.ofNat 0, .ofNat 0, [], []⟩), [(5400, .ofNat 0, .ofNat 0)], 0⟩], [4400], [], [8, 9, 48, 49, 50], [], [], []⟩
/-- FatVolumeModel.spoil(I)Z(11, 11, 0) -/
def ie_m236 : ia_M := ⟨175, 2, [.inr (.inl [44]), .inl ⟨.ofNat 11, .ofNat 11, [], []⟩], [(490011, .ofNat 0, .ofNat 0)], [⟨none, some (.inl ⟨.ofNat 1, .ofNat 1, [], []⟩), [(5400, .ofNat 0, .ofNat 0), (490011, .ofNat 1, .ofNat 1)], 0⟩], [4400], [(48, 11, 11)], [8, 9, 48, 49, 50], [], [], []⟩
/-- FatVolumeModel.spoil(I)Z(11, 11, 1) -/
def ie_m237 : ia_M := ⟨175, 2, [.inr (.inl [44]), .inl ⟨.ofNat 11, .ofNat 11, [], []⟩], [(490011, .ofNat 1, .ofNat 1)], [⟨none, some (.inl ⟨.ofNat 0, .ofNat 0, [], []⟩), [(5400, .ofNat 0, .ofNat 0)], 0⟩], [4400], [], [8, 9, 48, 49, 50], [], [], []⟩
/-- FatVolumeModel.spoil(I)Z(12, 12, 0) -/
def ie_m238 : ia_M := ⟨175, 2, [.inr (.inl [44]), .inl ⟨.ofNat 12, .ofNat 12, [], []⟩], [(490012, .ofNat 0, .ofNat 0)], [⟨none, some (.inl ⟨.ofNat 1, .ofNat 1, [], []⟩), [(5400, .ofNat 0, .ofNat 0), (490012, .ofNat 1, .ofNat 1)], 0⟩], [4400], [(48, 12, 12)], [8, 9, 48, 49, 50], [], [], []⟩
/-- FatVolumeModel.spoil(I)Z(12, 12, 1) -/
def ie_m239 : ia_M := ⟨175, 2, [.inr (.inl [44]), .inl ⟨.ofNat 12, .ofNat 12, [], []⟩], [(490012, .ofNat 1, .ofNat 1)], [⟨none, some (.inl ⟨.ofNat 0, .ofNat 0, [], []⟩), [(5400, .ofNat 0, .ofNat 0)], 0⟩], [4400], [], [8, 9, 48, 49, 50], [], [], []⟩
/-- FatVolumeModel.spoil(I)Z(13, 13, 0) -/
def ie_m240 : ia_M := ⟨175, 2, [.inr (.inl [44]), .inl ⟨.ofNat 13, .ofNat 13, [], []⟩], [(490013, .ofNat 0, .ofNat 0)], [⟨none, some (.inl ⟨.ofNat 1, .ofNat 1, [], []⟩), [(5400, .ofNat 0, .ofNat 0), (490013, .ofNat 1, .ofNat 1)], 0⟩], [4400], [(48, 13, 13)], [8, 9, 48, 49, 50], [], [], []⟩
/-- FatVolumeModel.spoil(I)Z(13, 13, 1) -/
def ie_m241 : ia_M := ⟨175, 2, [.inr (.inl [44]), .inl ⟨.ofNat 13, .ofNat 13, [], []⟩], [(490013, .ofNat 1, .ofNat 1)], [⟨none, some (.inl ⟨.ofNat 0, .ofNat 0, [], []⟩), [(5400, .ofNat 0, .ofNat 0)], 0⟩], [4400], [], [8, 9, 48, 49, 50], [], [], []⟩
/-- FatVolumeModel.spoil(I)Z(14, 14, 0) -/
def ie_m242 : ia_M := ⟨175, 2, [.inr (.inl [44]), .inl ⟨.ofNat 14, .ofNat 14, [], []⟩], [(490014, .ofNat 0, .ofNat 0)], [⟨none, some (.inl ⟨.ofNat 1, .ofNat 1, [], []⟩), [(5400, .ofNat 0, .ofNat 0), (490014, .ofNat 1, .ofNat 1)], 0⟩], [4400], [(48, 14, 14)], [8, 9, 48, 49, 50], [], [], []⟩
/-- FatVolumeModel.spoil(I)Z(14, 14, 1) -/
def ie_m243 : ia_M := ⟨175, 2, [.inr (.inl [44]), .inl ⟨.ofNat 14, .ofNat 14, [], []⟩], [(490014, .ofNat 1, .ofNat 1)], [⟨none, some (.inl ⟨.ofNat 0, .ofNat 0, [], []⟩), [(5400, .ofNat 0, .ofNat 0)], 0⟩], [4400], [], [8, 9, 48, 49, 50], [], [], []⟩
/-- FatVolumeModel.spoil(I)Z(15, 15, 0) -/
def ie_m244 : ia_M := ⟨175, 2, [.inr (.inl [44]), .inl ⟨.ofNat 15, .ofNat 15, [], []⟩], [(490015, .ofNat 0, .ofNat 0)], [⟨none, some (.inl ⟨.ofNat 1, .ofNat 1, [], []⟩), [(5400, .ofNat 0, .ofNat 0), (490015, .ofNat 1, .ofNat 1)], 0⟩], [4400], [(48, 15, 15)], [8, 9, 48, 49, 50], [], [], []⟩
/-- FatVolumeModel.spoil(I)Z(15, 15, 1) -/
def ie_m245 : ia_M := ⟨175, 2, [.inr (.inl [44]), .inl ⟨.ofNat 15, .ofNat 15, [], []⟩], [(490015, .ofNat 1, .ofNat 1)], [⟨none, some (.inl ⟨.ofNat 0, .ofNat 0, [], []⟩), [(5400, .ofNat 0, .ofNat 0)], 0⟩], [4400], [], [8, 9, 48, 49, 50], [], [], []⟩
/-- FatVolumeModel.spoil(I)Z(16, 16, 0) -/
def ie_m246 : ia_M := ⟨175, 2, [.inr (.inl [44]), .inl ⟨.ofNat 16, .ofNat 16, [], []⟩], [(490016, .ofNat 0, .ofNat 0)], [⟨none, some (.inl ⟨.ofNat 1, .ofNat 1, [], []⟩), [(5400, .ofNat 0, .ofNat 0), (490016, .ofNat 1, .ofNat 1)], 0⟩], [4400], [(48, 16, 16)], [8, 9, 48, 49, 50], [], [], []⟩
/-- FatVolumeModel.spoil(I)Z(16, 16, 1) -/
def ie_m247 : ia_M := ⟨175, 2, [.inr (.inl [44]), .inl ⟨.ofNat 16, .ofNat 16, [], []⟩], [(490016, .ofNat 1, .ofNat 1)], [⟨none, some (.inl ⟨.ofNat 0, .ofNat 0, [], []⟩), [(5400, .ofNat 0, .ofNat 0)], 0⟩], [4400], [], [8, 9, 48, 49, 50], [], [], []⟩
/-- FatVolumeModel.spoil(I)Z(17, 17, 0) -/
def ie_m248 : ia_M := ⟨175, 2, [.inr (.inl [44]), .inl ⟨.ofNat 17, .ofNat 17, [], []⟩], [(490017, .ofNat 0, .ofNat 0)], [⟨none, some (.inl ⟨.ofNat 1, .ofNat 1, [], []⟩), [(5400, .ofNat 0, .ofNat 0), (490017, .ofNat 1, .ofNat 1)], 0⟩], [4400], [(48, 17, 17)], [8, 9, 48, 49, 50], [], [], []⟩
/-- FatVolumeModel.spoil(I)Z(17, 17, 1) -/
def ie_m249 : ia_M := ⟨175, 2, [.inr (.inl [44]), .inl ⟨.ofNat 17, .ofNat 17, [], []⟩], [(490017, .ofNat 1, .ofNat 1)], [⟨none, some (.inl ⟨.ofNat 0, .ofNat 0, [], []⟩), [(5400, .ofNat 0, .ofNat 0)], 0⟩], [4400], [], [8, 9, 48, 49, 50], [], [], []⟩
/-- FatVolumeModel.spoil(I)Z(18, 18, 0) -/
def ie_m250 : ia_M := ⟨175, 2, [.inr (.inl [44]), .inl ⟨.ofNat 18, .ofNat 18, [], []⟩], [(490018, .ofNat 0, .ofNat 0)], [⟨none, some (.inl ⟨.ofNat 1, .ofNat 1, [], []⟩), [(5400, .ofNat 0, .ofNat 0), (490018, .ofNat 1, .ofNat 1)], 0⟩], [4400], [(48, 18, 18)], [8, 9, 48, 49, 50], [], [], []⟩
/-- FatVolumeModel.spoil(I)Z(18, 18, 1) -/
def ie_m251 : ia_M := ⟨175, 2, [.inr (.inl [44]), .inl ⟨.ofNat 18, .ofNat 18, [], []⟩], [(490018, .ofNat 1, .ofNat 1)], [⟨none, some (.inl ⟨.ofNat 0, .ofNat 0, [], []⟩), [(5400, .ofNat 0, .ofNat 0)], 0⟩], [4400], [], [8, 9, 48, 49, 50], [], [], []⟩
/-- FatVolumeModel.spoil(I)Z(19, 19, 0) -/
def ie_m252 : ia_M := ⟨175, 2, [.inr (.inl [44]), .inl ⟨.ofNat 19, .ofNat 19, [], []⟩], [(490019, .ofNat 0, .ofNat 0)], [⟨none, some (.inl ⟨.ofNat 1, .ofNat 1, [], []⟩), [(5400, .ofNat 0, .ofNat 0), (490019, .ofNat 1, .ofNat 1)], 0⟩], [4400], [(48, 19, 19)], [8, 9, 48, 49, 50], [], [], []⟩
/-- FatVolumeModel.spoil(I)Z(19, 19, 1) -/
def ie_m253 : ia_M := ⟨175, 2, [.inr (.inl [44]), .inl ⟨.ofNat 19, .ofNat 19, [], []⟩], [(490019, .ofNat 1, .ofNat 1)], [⟨none, some (.inl ⟨.ofNat 0, .ofNat 0, [], []⟩), [(5400, .ofNat 0, .ofNat 0)], 0⟩], [4400], [], [8, 9, 48, 49, 50], [], [], []⟩
/-- FatVolumeModel.spoil(I)Z(20, 20, 0) -/
def ie_m254 : ia_M := ⟨175, 2, [.inr (.inl [44]), .inl ⟨.ofNat 20, .ofNat 20, [], []⟩], [(490020, .ofNat 0, .ofNat 0)], [⟨none, some (.inl ⟨.ofNat 1, .ofNat 1, [], []⟩), [(5400, .ofNat 0, .ofNat 0), (490020, .ofNat 1, .ofNat 1)], 0⟩], [4400], [(48, 20, 20)], [8, 9, 48, 49, 50], [], [], []⟩
/-- FatVolumeModel.spoil(I)Z(20, 20, 1) -/
def ie_m255 : ia_M := ⟨175, 2, [.inr (.inl [44]), .inl ⟨.ofNat 20, .ofNat 20, [], []⟩], [(490020, .ofNat 1, .ofNat 1)], [⟨none, some (.inl ⟨.ofNat 0, .ofNat 0, [], []⟩), [(5400, .ofNat 0, .ofNat 0)], 0⟩], [4400], [], [8, 9, 48, 49, 50], [], [], []⟩
/-- FatVolumeModel.spoil(I)Z(21, 21, 0) -/
def ie_m256 : ia_M := ⟨175, 2, [.inr (.inl [44]), .inl ⟨.ofNat 21, .ofNat 21, [], []⟩], [(490021, .ofNat 0, .ofNat 0)], [⟨none, some (.inl ⟨.ofNat 1, .ofNat 1, [], []⟩), [(5400, .ofNat 0, .ofNat 0), (490021, .ofNat 1, .ofNat 1)], 0⟩], [4400], [(48, 21, 21)], [8, 9, 48, 49, 50], [], [], []⟩
/-- FatVolumeModel.spoil(I)Z(21, 21, 1) -/
def ie_m257 : ia_M := ⟨175, 2, [.inr (.inl [44]), .inl ⟨.ofNat 21, .ofNat 21, [], []⟩], [(490021, .ofNat 1, .ofNat 1)], [⟨none, some (.inl ⟨.ofNat 0, .ofNat 0, [], []⟩), [(5400, .ofNat 0, .ofNat 0)], 0⟩], [4400], [], [8, 9, 48, 49, 50], [], [], []⟩
/-- FatVolumeModel.spoil(I)Z(22, 22, 0) -/
def ie_m258 : ia_M := ⟨175, 2, [.inr (.inl [44]), .inl ⟨.ofNat 22, .ofNat 22, [], []⟩], [(490022, .ofNat 0, .ofNat 0)], [⟨none, some (.inl ⟨.ofNat 1, .ofNat 1, [], []⟩), [(5400, .ofNat 0, .ofNat 0), (490022, .ofNat 1, .ofNat 1)], 0⟩], [4400], [(48, 22, 22)], [8, 9, 48, 49, 50], [], [], []⟩
/-- FatVolumeModel.spoil(I)Z(22, 22, 1) -/
def ie_m259 : ia_M := ⟨175, 2, [.inr (.inl [44]), .inl ⟨.ofNat 22, .ofNat 22, [], []⟩], [(490022, .ofNat 1, .ofNat 1)], [⟨none, some (.inl ⟨.ofNat 0, .ofNat 0, [], []⟩), [(5400, .ofNat 0, .ofNat 0)], 0⟩], [4400], [], [8, 9, 48, 49, 50], [], [], []⟩
/-- FatVolumeModel.spoil(I)Z(23, 23, 0) -/
def ie_m260 : ia_M := ⟨175, 2, [.inr (.inl [44]), .inl ⟨.ofNat 23, .ofNat 23, [], []⟩], [(490023, .ofNat 0, .ofNat 0)], [⟨none, some (.inl ⟨.ofNat 1, .ofNat 1, [], []⟩), [(5400, .ofNat 0, .ofNat 0), (490023, .ofNat 1, .ofNat 1)], 0⟩], [4400], [(48, 23, 23)], [8, 9, 48, 49, 50], [], [], []⟩
/-- FatVolumeModel.spoil(I)Z(23, 23, 1) -/
def ie_m261 : ia_M := ⟨175, 2, [.inr (.inl [44]), .inl ⟨.ofNat 23, .ofNat 23, [], []⟩], [(490023, .ofNat 1, .ofNat 1)], [⟨none, some (.inl ⟨.ofNat 0, .ofNat 0, [], []⟩), [(5400, .ofNat 0, .ofNat 0)], 0⟩], [4400], [], [8, 9, 48, 49, 50], [], [], []⟩
/-- FatVolumeModel.spoil(I)Z(24, 24, 0) -/
def ie_m262 : ia_M := ⟨175, 2, [.inr (.inl [44]), .inl ⟨.ofNat 24, .ofNat 24, [], []⟩], [(490024, .ofNat 0, .ofNat 0)], [⟨none, some (.inl ⟨.ofNat 1, .ofNat 1, [], []⟩), [(5400, .ofNat 0, .ofNat 0), (490024, .ofNat 1, .ofNat 1)], 0⟩], [4400], [(48, 24, 24)], [8, 9, 48, 49, 50], [], [], []⟩
/-- FatVolumeModel.spoil(I)Z(24, 24, 1) -/
def ie_m263 : ia_M := ⟨175, 2, [.inr (.inl [44]), .inl ⟨.ofNat 24, .ofNat 24, [], []⟩], [(490024, .ofNat 1, .ofNat 1)], [⟨none, some (.inl ⟨.ofNat 0, .ofNat 0, [], []⟩), [(5400, .ofNat 0, .ofNat 0)], 0⟩], [4400], [], [8, 9, 48, 49, 50], [], [], []⟩
/-- FatVolumeModel.spoil(I)Z(25, 25, 0) -/
def ie_m264 : ia_M := ⟨175, 2, [.inr (.inl [44]), .inl ⟨.ofNat 25, .ofNat 25, [], []⟩], [(490025, .ofNat 0, .ofNat 0)], [⟨none, some (.inl ⟨.ofNat 1, .ofNat 1, [], []⟩), [(5400, .ofNat 0, .ofNat 0), (490025, .ofNat 1, .ofNat 1)], 0⟩], [4400], [(48, 25, 25)], [8, 9, 48, 49, 50], [], [], []⟩
/-- FatVolumeModel.spoil(I)Z(25, 25, 1) -/
def ie_m265 : ia_M := ⟨175, 2, [.inr (.inl [44]), .inl ⟨.ofNat 25, .ofNat 25, [], []⟩], [(490025, .ofNat 1, .ofNat 1)], [⟨none, some (.inl ⟨.ofNat 0, .ofNat 0, [], []⟩), [(5400, .ofNat 0, .ofNat 0)], 0⟩], [4400], [], [8, 9, 48, 49, 50], [], [], []⟩
/-- FatVolumeModel.spoil(I)Z(26, 26, 0) -/
def ie_m266 : ia_M := ⟨175, 2, [.inr (.inl [44]), .inl ⟨.ofNat 26, .ofNat 26, [], []⟩], [(490026, .ofNat 0, .ofNat 0)], [⟨none, some (.inl ⟨.ofNat 1, .ofNat 1, [], []⟩), [(5400, .ofNat 0, .ofNat 0), (490026, .ofNat 1, .ofNat 1)], 0⟩], [4400], [(48, 26, 26)], [8, 9, 48, 49, 50], [], [], []⟩
/-- FatVolumeModel.spoil(I)Z(26, 26, 1) -/
def ie_m267 : ia_M := ⟨175, 2, [.inr (.inl [44]), .inl ⟨.ofNat 26, .ofNat 26, [], []⟩], [(490026, .ofNat 1, .ofNat 1)], [⟨none, some (.inl ⟨.ofNat 0, .ofNat 0, [], []⟩), [(5400, .ofNat 0, .ofNat 0)], 0⟩], [4400], [], [8, 9, 48, 49, 50], [], [], []⟩
/-- FatVolumeModel.spoil(I)Z(27, 27, 0) -/
def ie_m268 : ia_M := ⟨175, 2, [.inr (.inl [44]), .inl ⟨.ofNat 27, .ofNat 27, [], []⟩], [(490027, .ofNat 0, .ofNat 0)], [⟨none, some (.inl ⟨.ofNat 1, .ofNat 1, [], []⟩), [(5400, .ofNat 0, .ofNat 0), (490027, .ofNat 1, .ofNat 1)], 0⟩], [4400], [(48, 27, 27)], [8, 9, 48, 49, 50], [], [], []⟩
/-- FatVolumeModel.spoil(I)Z(27, 27, 1) -/
def ie_m269 : ia_M := ⟨175, 2, [.inr (.inl [44]), .inl ⟨.ofNat 27, .ofNat 27, [], []⟩], [(490027, .ofNat 1, .ofNat 1)], [⟨none, some (.inl ⟨.ofNat 0, .ofNat 0, [], []⟩), [(5400, .ofNat 0, .ofNat 0)], 0⟩], [4400], [], [8, 9, 48, 49, 50], [], [], []⟩
/-- FatVolumeModel.spoil(I)Z(28, 28, 0) -/
def ie_m270 : ia_M := ⟨175, 2, [.inr (.inl [44]), .inl ⟨.ofNat 28, .ofNat 28, [], []⟩], [(490028, .ofNat 0, .ofNat 0)], [⟨none, some (.inl ⟨.ofNat 1, .ofNat 1, [], []⟩), [(5400, .ofNat 0, .ofNat 0), (490028, .ofNat 1, .ofNat 1)], 0⟩], [4400], [(48, 28, 28)], [8, 9, 48, 49, 50], [], [], []⟩
/-- FatVolumeModel.spoil(I)Z(28, 28, 1) -/
def ie_m271 : ia_M := ⟨175, 2, [.inr (.inl [44]), .inl ⟨.ofNat 28, .ofNat 28, [], []⟩], [(490028, .ofNat 1, .ofNat 1)], [⟨none, some (.inl ⟨.ofNat 0, .ofNat 0, [], []⟩), [(5400, .ofNat 0, .ofNat 0)], 0⟩], [4400], [], [8, 9, 48, 49, 50], [], [], []⟩
/-- FatVolumeModel.spoil(I)Z(29, 29, 0) -/
def ie_m272 : ia_M := ⟨175, 2, [.inr (.inl [44]), .inl ⟨.ofNat 29, .ofNat 29, [], []⟩], [(490029, .ofNat 0, .ofNat 0)], [⟨none, some (.inl ⟨.ofNat 1, .ofNat 1, [], []⟩), [(5400, .ofNat 0, .ofNat 0), (490029, .ofNat 1, .ofNat 1)], 0⟩], [4400], [(48, 29, 29)], [8, 9, 48, 49, 50], [], [], []⟩
/-- FatVolumeModel.spoil(I)Z(29, 29, 1) -/
def ie_m273 : ia_M := ⟨175, 2, [.inr (.inl [44]), .inl ⟨.ofNat 29, .ofNat 29, [], []⟩], [(490029, .ofNat 1, .ofNat 1)], [⟨none, some (.inl ⟨.ofNat 0, .ofNat 0, [], []⟩), [(5400, .ofNat 0, .ofNat 0)], 0⟩], [4400], [], [8, 9, 48, 49, 50], [], [], []⟩
/-- FatVolumeModel.spoil(I)Z(30, 30, 0) -/
def ie_m274 : ia_M := ⟨175, 2, [.inr (.inl [44]), .inl ⟨.ofNat 30, .ofNat 30, [], []⟩], [(490030, .ofNat 0, .ofNat 0)], [⟨none, some (.inl ⟨.ofNat 1, .ofNat 1, [], []⟩), [(5400, .ofNat 0, .ofNat 0), (490030, .ofNat 1, .ofNat 1)], 0⟩], [4400], [(48, 30, 30)], [8, 9, 48, 49, 50], [], [], []⟩
/-- FatVolumeModel.spoil(I)Z(30, 30, 1) -/
def ie_m275 : ia_M := ⟨175, 2, [.inr (.inl [44]), .inl ⟨.ofNat 30, .ofNat 30, [], []⟩], [(490030, .ofNat 1, .ofNat 1)], [⟨none, some (.inl ⟨.ofNat 0, .ofNat 0, [], []⟩), [(5400, .ofNat 0, .ofNat 0)], 0⟩], [4400], [], [8, 9, 48, 49, 50], [], [], []⟩
/-- FatVolumeModel.spoil(I)Z(31, 31, 0) -/
def ie_m276 : ia_M := ⟨175, 2, [.inr (.inl [44]), .inl ⟨.ofNat 31, .ofNat 31, [], []⟩], [(490031, .ofNat 0, .ofNat 0)], [⟨none, some (.inl ⟨.ofNat 1, .ofNat 1, [], []⟩), [(5400, .ofNat 0, .ofNat 0), (490031, .ofNat 1, .ofNat 1)], 0⟩], [4400], [(48, 31, 31)], [8, 9, 48, 49, 50], [], [], []⟩
/-- FatVolumeModel.spoil(I)Z(31, 31, 1) -/
def ie_m277 : ia_M := ⟨175, 2, [.inr (.inl [44]), .inl ⟨.ofNat 31, .ofNat 31, [], []⟩], [(490031, .ofNat 1, .ofNat 1)], [⟨none, some (.inl ⟨.ofNat 0, .ofNat 0, [], []⟩), [(5400, .ofNat 0, .ofNat 0)], 0⟩], [4400], [], [8, 9, 48, 49, 50], [], [], []⟩
theorem ie_h0 : ia_Holds ie_m0 := ib_hold1 (cal := []) ic_n (ic_inc (by decide +kernel)) (by decide +kernel)
theorem ie_h1 : ia_Holds ie_m1 := ib_hold1 (cal := []) ic_n (ic_inc (by decide +kernel)) (by decide +kernel)
theorem ie_h2 : ia_Holds ie_m2 := ib_hold1 (cal := []) ic_n (ic_inc (by decide +kernel)) (by decide +kernel)
theorem ie_h3 : ia_Holds ie_m3 := ib_hold1 (cal := []) ic_n (ic_inc (by decide +kernel)) (by decide +kernel)
theorem ie_h4 : ia_Holds ie_m4 := ib_hold1 (cal := []) ic_n (ic_inc (by decide +kernel)) (by decide +kernel)
theorem ie_h5 : ia_Holds ie_m5 := ib_hold1 (cal := []) ic_n (ic_inc (by decide +kernel)) (by decide +kernel)
theorem ie_h6 : ia_Holds ie_m6 := ib_hold1 (cal := []) ic_n (ic_inc (by decide +kernel)) (by decide +kernel)
theorem ie_h7 : ia_Holds ie_m7 := ib_hold1 (cal := []) ic_n (ic_inc (by decide +kernel)) (by decide +kernel)
theorem ie_h8 : ia_Holds ie_m8 := ib_hold1 (cal := []) ic_n (ic_inc (by decide +kernel)) (by decide +kernel)
theorem ie_h9 : ia_Holds ie_m9 := ib_hold1 (cal := []) ic_n (ic_inc (by decide +kernel)) (by decide +kernel)
theorem ie_h10 : ia_Holds ie_m10 := ib_hold1 (cal := []) ic_n (ic_inc (by decide +kernel)) (by decide +kernel)
theorem ie_h11 : ia_Holds ie_m11 := ib_hold1 (cal := []) ic_n (ic_inc (by decide +kernel)) (by decide +kernel)
theorem ie_h12 : ia_Holds ie_m12 := ib_hold1 (cal := []) ic_n (ic_inc (by decide +kernel)) (by decide +kernel)
theorem ie_h13 : ia_Holds ie_m13 := ib_hold1 (cal := []) ic_n (ic_inc (by decide +kernel)) (by decide +kernel)
theorem ie_h14 : ia_Holds ie_m14 := ib_hold1 (cal := []) ic_n (ic_inc (by decide +kernel)) (by decide +kernel)
theorem ie_h15 : ia_Holds ie_m15 := ib_hold1 (cal := []) ic_n (ic_inc (by decide +kernel)) (by decide +kernel)
theorem ie_h16 : ia_Holds ie_m16 := ib_hold1 (cal := []) ic_n (ic_inc (by decide +kernel)) (by decide +kernel)
theorem ie_h17 : ia_Holds ie_m17 := ib_hold1 (cal := []) ic_n (ic_inc (by decide +kernel)) (by decide +kernel)
theorem ie_h18 : ia_Holds ie_m18 := ib_hold1 (cal := []) ic_n (ic_inc (by decide +kernel)) (by decide +kernel)
theorem ie_h19 : ia_Holds ie_m19 := ib_hold1 (cal := []) ic_n (ic_inc (by decide +kernel)) (by decide +kernel)
theorem ie_h20 : ia_Holds ie_m20 := ib_hold1 (cal := []) ic_n (ic_inc (by decide +kernel)) (by decide +kernel)
theorem ie_h21 : ia_Holds ie_m21 := ib_hold1 (cal := []) ic_n (ic_inc (by decide +kernel)) (by decide +kernel)
theorem ie_h22 : ia_Holds ie_m22 := ib_hold1 (cal := []) ic_n (ic_inc (by decide +kernel)) (by decide +kernel)
theorem ie_h23 : ia_Holds ie_m23 := ib_hold1 (cal := []) ic_n (ic_inc (by decide +kernel)) (by decide +kernel)
theorem ie_h24 : ia_Holds ie_m24 := ib_hold1 (cal := []) ic_n (ic_inc (by decide +kernel)) (by decide +kernel)
theorem ie_h25 : ia_Holds ie_m25 := ib_hold1 (cal := []) ic_n (ic_inc (by decide +kernel)) (by decide +kernel)
theorem ie_h26 : ia_Holds ie_m26 := ib_hold1 (cal := []) ic_n (ic_inc (by decide +kernel)) (by decide +kernel)
theorem ie_h27 : ia_Holds ie_m27 := ib_hold1 (cal := []) ic_n (ic_inc (by decide +kernel)) (by decide +kernel)
theorem ie_h28 : ia_Holds ie_m28 := ib_hold1 (cal := []) ic_n (ic_inc (by decide +kernel)) (by decide +kernel)
theorem ie_h29 : ia_Holds ie_m29 := ib_hold1 (cal := []) ic_n (ic_inc (by decide +kernel)) (by decide +kernel)
theorem ie_h30 : ia_Holds ie_m30 := ib_hold1 (cal := []) ic_n (ic_inc (by decide +kernel)) (by decide +kernel)
theorem ie_h31 : ia_Holds ie_m31 := ib_hold1 (cal := []) ic_n (ic_inc (by decide +kernel)) (by decide +kernel)
theorem ie_h32 : ia_Holds ie_m32 := ib_hold1 (cal := []) ic_n (ic_inc (by decide +kernel)) (by decide +kernel)
theorem ie_h33 : ia_Holds ie_m33 := ib_hold1 (cal := []) ic_n (ic_inc (by decide +kernel)) (by decide +kernel)
theorem ie_h34 : ia_Holds ie_m34 := ib_hold1 (cal := []) ic_n (ic_inc (by decide +kernel)) (by decide +kernel)
theorem ie_h35 : ia_Holds ie_m35 := ib_hold1 (cal := []) ic_n (ic_inc (by decide +kernel)) (by decide +kernel)
theorem ie_h36 : ia_Holds ie_m36 := ib_hold1 (cal := []) ic_n (ic_inc (by decide +kernel)) (by decide +kernel)
theorem ie_h37 : ia_Holds ie_m37 := ib_hold1 (cal := []) ic_n (ic_inc (by decide +kernel)) (by decide +kernel)
theorem ie_h38 : ia_Holds ie_m38 := ib_hold1 (cal := []) ic_n (ic_inc (by decide +kernel)) (by decide +kernel)
theorem ie_h39 : ia_Holds ie_m39 := ib_hold1 (cal := []) ic_n (ic_inc (by decide +kernel)) (by decide +kernel)
theorem ie_h40 : ia_Holds ie_m40 := ib_hold1 (cal := []) ic_n (ic_inc (by decide +kernel)) (by decide +kernel)
theorem ie_h41 : ia_Holds ie_m41 := ib_hold1 (cal := []) ic_n (ic_inc (by decide +kernel)) (by decide +kernel)
theorem ie_h42 : ia_Holds ie_m42 := ib_hold1 (cal := []) ic_n (ic_inc (by decide +kernel)) (by decide +kernel)
theorem ie_h43 : ia_Holds ie_m43 := ib_hold1 (cal := []) ic_n (ic_inc (by decide +kernel)) (by decide +kernel)
theorem ie_h44 : ia_Holds ie_m44 := ib_hold1 (cal := []) ic_n (ic_inc (by decide +kernel)) (by decide +kernel)
theorem ie_h45 : ia_Holds ie_m45 := ib_hold1 (cal := []) ic_n (ic_inc (by decide +kernel)) (by decide +kernel)
theorem ie_h46 : ia_Holds ie_m46 := ib_hold1 (cal := []) ic_n (ic_inc (by decide +kernel)) (by decide +kernel)
theorem ie_h47 : ia_Holds ie_m47 := ib_hold1 (cal := []) ic_n (ic_inc (by decide +kernel)) (by decide +kernel)
theorem ie_h48 : ia_Holds ie_m48 := ib_hold1 (cal := []) ic_n (ic_inc (by decide +kernel)) (by decide +kernel)
theorem ie_h49 : ia_Holds ie_m49 := ib_hold1 (cal := []) ic_n (ic_inc (by decide +kernel)) (by decide +kernel)
theorem ie_h50 : ia_Holds ie_m50 := ib_hold1 (cal := []) ic_n (ic_inc (by decide +kernel)) (by decide +kernel)
theorem ie_h51 : ia_Holds ie_m51 := ib_hold1 (cal := []) ic_n (ic_inc (by decide +kernel)) (by decide +kernel)
theorem ie_h52 : ia_Holds ie_m52 := ib_hold1 (cal := []) ic_n (ic_inc (by decide +kernel)) (by decide +kernel)
theorem ie_h53 : ia_Holds ie_m53 := ib_hold1 (cal := []) ic_n (ic_inc (by decide +kernel)) (by decide +kernel)
theorem ie_h54 : ia_Holds ie_m54 := ib_hold1 (cal := []) ic_n (ic_inc (by decide +kernel)) (by decide +kernel)
theorem ie_h55 : ia_Holds ie_m55 := ib_hold1 (cal := []) ic_n (ic_inc (by decide +kernel)) (by decide +kernel)
theorem ie_h56 : ia_Holds ie_m56 := ib_hold1 (cal := []) ic_n (ic_inc (by decide +kernel)) (by decide +kernel)
theorem ie_h57 : ia_Holds ie_m57 := ib_hold1 (cal := []) ic_n (ic_inc (by decide +kernel)) (by decide +kernel)
theorem ie_h58 : ia_Holds ie_m58 := ib_hold1 (cal := []) ic_n (ic_inc (by decide +kernel)) (by decide +kernel)
theorem ie_h59 : ia_Holds ie_m59 := ib_hold1 (cal := []) ic_n (ic_inc (by decide +kernel)) (by decide +kernel)
theorem ie_h60 : ia_Holds ie_m60 := ib_hold1 (cal := []) ic_n (ic_inc (by decide +kernel)) (by decide +kernel)
theorem ie_h61 : ia_Holds ie_m61 := ib_hold1 (cal := []) ic_n (ic_inc (by decide +kernel)) (by decide +kernel)
theorem ie_h62 : ia_Holds ie_m62 := ib_hold1 (cal := []) ic_n (ic_inc (by decide +kernel)) (by decide +kernel)
theorem ie_h63 : ia_Holds ie_m63 := ib_hold1 (cal := []) ic_n (ic_inc (by decide +kernel)) (by decide +kernel)
theorem ie_h64 : ia_Holds ie_m64 := ib_hold1 (cal := []) ic_n (ic_inc (by decide +kernel)) (by decide +kernel)
theorem ie_h65 : ia_Holds ie_m65 := ib_hold1 (cal := []) ic_n (ic_inc (by decide +kernel)) (by decide +kernel)
theorem ie_h66 : ia_Holds ie_m66 := ib_hold1 (cal := []) ic_n (ic_inc (by decide +kernel)) (by decide +kernel)
theorem ie_h67 : ia_Holds ie_m67 := ib_hold1 (cal := []) ic_n (ic_inc (by decide +kernel)) (by decide +kernel)
theorem ie_h68 : ia_Holds ie_m68 := ib_hold1 (cal := []) ic_n (ic_inc (by decide +kernel)) (by decide +kernel)
theorem ie_h69 : ia_Holds ie_m69 := ib_hold1 (cal := []) ic_n (ic_inc (by decide +kernel)) (by decide +kernel)
theorem ie_h70 : ia_Holds ie_m70 := ib_hold1 (cal := []) ic_n (ic_inc (by decide +kernel)) (by decide +kernel)
theorem ie_h71 : ia_Holds ie_m71 := ib_hold1 (cal := []) ic_n (ic_inc (by decide +kernel)) (by decide +kernel)
theorem ie_h72 : ia_Holds ie_m72 := ib_hold1 (cal := []) ic_n (ic_inc (by decide +kernel)) (by decide +kernel)
theorem ie_h73 : ia_Holds ie_m73 := ib_hold1 (cal := []) ic_n (ic_inc (by decide +kernel)) (by decide +kernel)
theorem ie_h74 : ia_Holds ie_m74 := ib_hold1 (cal := []) ic_n (ic_inc (by decide +kernel)) (by decide +kernel)
theorem ie_h75 : ia_Holds ie_m75 := ib_hold1 (cal := []) ic_n (ic_inc (by decide +kernel)) (by decide +kernel)
theorem ie_h76 : ia_Holds ie_m76 := ib_hold1 (cal := []) ic_n (ic_inc (by decide +kernel)) (by decide +kernel)
theorem ie_h77 : ia_Holds ie_m77 := ib_hold1 (cal := []) ic_n (ic_inc (by decide +kernel)) (by decide +kernel)
theorem ie_h78 : ia_Holds ie_m78 := ib_hold1 (cal := []) ic_n (ic_inc (by decide +kernel)) (by decide +kernel)
theorem ie_h79 : ia_Holds ie_m79 := ib_hold1 (cal := []) ic_n (ic_inc (by decide +kernel)) (by decide +kernel)
theorem ie_h80 : ia_Holds ie_m80 := ib_hold1 (cal := []) ic_n (ic_inc (by decide +kernel)) (by decide +kernel)
theorem ie_h81 : ia_Holds ie_m81 := ib_hold1 (cal := []) ic_n (ic_inc (by decide +kernel)) (by decide +kernel)
theorem ie_h82 : ia_Holds ie_m82 := ib_hold1 (cal := []) ic_n (ic_inc (by decide +kernel)) (by decide +kernel)
theorem ie_h83 : ia_Holds ie_m83 := ib_hold1 (cal := []) ic_n (ic_inc (by decide +kernel)) (by decide +kernel)
theorem ie_h84 : ia_Holds ie_m84 := ib_hold1 (cal := []) ic_n (ic_inc (by decide +kernel)) (by decide +kernel)
theorem ie_h85 : ia_Holds ie_m85 := ib_hold1 (cal := []) ic_n (ic_inc (by decide +kernel)) (by decide +kernel)
theorem ie_h86 : ia_Holds ie_m86 := ib_hold1 (cal := []) ic_n (ic_inc (by decide +kernel)) (by decide +kernel)
theorem ie_h87 : ia_Holds ie_m87 := ib_hold1 (cal := []) ic_n (ic_inc (by decide +kernel)) (by decide +kernel)
theorem ie_h88 : ia_Holds ie_m88 := ib_hold1 (cal := []) ic_n (ic_inc (by decide +kernel)) (by decide +kernel)
theorem ie_h89 : ia_Holds ie_m89 := ib_hold1 (cal := []) ic_n (ic_inc (by decide +kernel)) (by decide +kernel)
theorem ie_h90 : ia_Holds ie_m90 := ib_hold1 (cal := []) ic_n (ic_inc (by decide +kernel)) (by decide +kernel)
theorem ie_h91 : ia_Holds ie_m91 := ib_hold1 (cal := []) ic_n (ic_inc (by decide +kernel)) (by decide +kernel)
theorem ie_h92 : ia_Holds ie_m92 := ib_hold1 (cal := []) ic_n (ic_inc (by decide +kernel)) (by decide +kernel)
theorem ie_h93 : ia_Holds ie_m93 := ib_hold1 (cal := []) ic_n (ic_inc (by decide +kernel)) (by decide +kernel)
theorem ie_h94 : ia_Holds ie_m94 := ib_hold1 (cal := []) ic_n (ic_inc (by decide +kernel)) (by decide +kernel)
theorem ie_h95 : ia_Holds ie_m95 := ib_hold1 (cal := []) ic_n (ic_inc (by decide +kernel)) (by decide +kernel)
theorem ie_h96 : ia_Holds ie_m96 := ib_hold1 (cal := []) ic_n (ic_inc (by decide +kernel)) (by decide +kernel)
theorem ie_h97 : ia_Holds ie_m97 := ib_hold1 (cal := []) ic_n (ic_inc (by decide +kernel)) (by decide +kernel)
theorem ie_h98 : ia_Holds ie_m98 := ib_hold1 (cal := []) ic_n (ic_inc (by decide +kernel)) (by decide +kernel)
theorem ie_h99 : ia_Holds ie_m99 := ib_hold1 (cal := []) ic_n (ic_inc (by decide +kernel)) (by decide +kernel)
theorem ie_h100 : ia_Holds ie_m100 := ib_hold1 (cal := []) ic_n (ic_inc (by decide +kernel)) (by decide +kernel)
theorem ie_h101 : ia_Holds ie_m101 := ib_hold1 (cal := []) ic_n (ic_inc (by decide +kernel)) (by decide +kernel)
theorem ie_h102 : ia_Holds ie_m102 := ib_hold1 (cal := []) ic_n (ic_inc (by decide +kernel)) (by decide +kernel)
theorem ie_h103 : ia_Holds ie_m103 := ib_hold1 (cal := []) ic_n (ic_inc (by decide +kernel)) (by decide +kernel)
theorem ie_h104 : ia_Holds ie_m104 := ib_hold1 (cal := []) ic_n (ic_inc (by decide +kernel)) (by decide +kernel)
theorem ie_h105 : ia_Holds ie_m105 := ib_hold1 (cal := []) ic_n (ic_inc (by decide +kernel)) (by decide +kernel)
theorem ie_h106 : ia_Holds ie_m106 := ib_hold1 (cal := []) ic_n (ic_inc (by decide +kernel)) (by decide +kernel)
theorem ie_h107 : ia_Holds ie_m107 := ib_hold1 (cal := []) ic_n (ic_inc (by decide +kernel)) (by decide +kernel)
theorem ie_h108 : ia_Holds ie_m108 := ib_hold1 (cal := []) ic_n (ic_inc (by decide +kernel)) (by decide +kernel)
theorem ie_h109 : ia_Holds ie_m109 := ib_hold1 (cal := []) ic_n (ic_inc (by decide +kernel)) (by decide +kernel)
theorem ie_h110 : ia_Holds ie_m110 := ib_hold1 (cal := []) ic_n (ic_inc (by decide +kernel)) (by decide +kernel)
theorem ie_h111 : ia_Holds ie_m111 := ib_hold1 (cal := []) ic_n (ic_inc (by decide +kernel)) (by decide +kernel)
theorem ie_h112 : ia_Holds ie_m112 := ib_hold1 (cal := []) ic_n (ic_inc (by decide +kernel)) (by decide +kernel)
theorem ie_h113 : ia_Holds ie_m113 := ib_hold1 (cal := []) ic_n (ic_inc (by decide +kernel)) (by decide +kernel)
theorem ie_h114 : ia_Holds ie_m114 := ib_hold1 (cal := []) ic_n (ic_inc (by decide +kernel)) (by decide +kernel)
theorem ie_h115 : ia_Holds ie_m115 := ib_hold1 (cal := []) ic_n (ic_inc (by decide +kernel)) (by decide +kernel)
theorem ie_h116 : ia_Holds ie_m116 := ib_hold1 (cal := []) ic_n (ic_inc (by decide +kernel)) (by decide +kernel)
theorem ie_h117 : ia_Holds ie_m117 := ib_hold1 (cal := []) ic_n (ic_inc (by decide +kernel)) (by decide +kernel)
theorem ie_h118 : ia_Holds ie_m118 := ib_hold1 (cal := []) ic_n (ic_inc (by decide +kernel)) (by decide +kernel)
theorem ie_h119 : ia_Holds ie_m119 := ib_hold1 (cal := []) ic_n (ic_inc (by decide +kernel)) (by decide +kernel)
theorem ie_h120 : ia_Holds ie_m120 := ib_hold1 (cal := []) ic_n (ic_inc (by decide +kernel)) (by decide +kernel)
theorem ie_h121 : ia_Holds ie_m121 := ib_hold1 (cal := []) ic_n (ic_inc (by decide +kernel)) (by decide +kernel)
theorem ie_h122 : ia_Holds ie_m122 := ib_hold1 (cal := []) ic_n (ic_inc (by decide +kernel)) (by decide +kernel)
theorem ie_h123 : ia_Holds ie_m123 := ib_hold1 (cal := []) ic_n (ic_inc (by decide +kernel)) (by decide +kernel)
theorem ie_h124 : ia_Holds ie_m124 := ib_hold1 (cal := []) ic_n (ic_inc (by decide +kernel)) (by decide +kernel)
theorem ie_h125 : ia_Holds ie_m125 := ib_hold1 (cal := []) ic_n (ic_inc (by decide +kernel)) (by decide +kernel)
theorem ie_h126 : ia_Holds ie_m126 := ib_hold1 (cal := []) ic_n (ic_inc (by decide +kernel)) (by decide +kernel)
theorem ie_h127 : ia_Holds ie_m127 := ib_hold1 (cal := []) ic_n (ic_inc (by decide +kernel)) (by decide +kernel)
theorem ie_h128 : ia_Holds ie_m128 := ib_hold1 (cal := []) ic_n (ic_inc (by decide +kernel)) (by decide +kernel)
theorem ie_h129 : ia_Holds ie_m129 := ib_hold1 (cal := []) ic_n (ic_inc (by decide +kernel)) (by decide +kernel)
theorem ie_h130 : ia_Holds ie_m130 := ib_hold1 (cal := []) ic_n (ic_inc (by decide +kernel)) (by decide +kernel)
theorem ie_h131 : ia_Holds ie_m131 := ib_hold1 (cal := []) ic_n (ic_inc (by decide +kernel)) (by decide +kernel)
theorem ie_h132 : ia_Holds ie_m132 := ib_hold1 (cal := []) ic_n (ic_inc (by decide +kernel)) (by decide +kernel)
theorem ie_h133 : ia_Holds ie_m133 := ib_hold1 (cal := []) ic_n (ic_inc (by decide +kernel)) (by decide +kernel)
theorem ie_h134 : ia_Holds ie_m134 := ib_hold1 (cal := []) ic_n (ic_inc (by decide +kernel)) (by decide +kernel)
theorem ie_h135 : ia_Holds ie_m135 := ib_hold1 (cal := []) ic_n (ic_inc (by decide +kernel)) (by decide +kernel)
theorem ie_h136 : ia_Holds ie_m136 := ib_hold1 (cal := []) ic_n (ic_inc (by decide +kernel)) (by decide +kernel)
theorem ie_h137 : ia_Holds ie_m137 := ib_hold1 (cal := []) ic_n (ic_inc (by decide +kernel)) (by decide +kernel)
theorem ie_h138 : ia_Holds ie_m138 := ib_hold1 (cal := []) ic_n (ic_inc (by decide +kernel)) (by decide +kernel)
theorem ie_h139 : ia_Holds ie_m139 := ib_hold1 (cal := []) ic_n (ic_inc (by decide +kernel)) (by decide +kernel)
theorem ie_h140 : ia_Holds ie_m140 := ib_hold1 (cal := []) ic_n (ic_inc (by decide +kernel)) (by decide +kernel)
theorem ie_h141 : ia_Holds ie_m141 := ib_hold1 (cal := []) ic_n (ic_inc (by decide +kernel)) (by decide +kernel)
theorem ie_h142 : ia_Holds ie_m142 := ib_hold1 (cal := []) ic_n (ic_inc (by decide +kernel)) (by decide +kernel)
theorem ie_h143 : ia_Holds ie_m143 := ib_hold1 (cal := []) ic_n (ic_inc (by decide +kernel)) (by decide +kernel)
theorem ie_h144 : ia_Holds ie_m144 := ib_hold1 (cal := []) ic_n (ic_inc (by decide +kernel)) (by decide +kernel)
theorem ie_h145 : ia_Holds ie_m145 := ib_hold1 (cal := []) ic_n (ic_inc (by decide +kernel)) (by decide +kernel)
theorem ie_h146 : ia_Holds ie_m146 := ib_hold1 (cal := []) ic_n (ic_inc (by decide +kernel)) (by decide +kernel)
theorem ie_h147 : ia_Holds ie_m147 := ib_hold1 (cal := []) ic_n (ic_inc (by decide +kernel)) (by decide +kernel)
theorem ie_h148 : ia_Holds ie_m148 := ib_hold1 (cal := []) ic_n (ic_inc (by decide +kernel)) (by decide +kernel)
theorem ie_h149 : ia_Holds ie_m149 := ib_hold1 (cal := []) ic_n (ic_inc (by decide +kernel)) (by decide +kernel)
theorem ie_h150 : ia_Holds ie_m150 := ib_hold1 (cal := []) ic_n (ic_inc (by decide +kernel)) (by decide +kernel)
theorem ie_h151 : ia_Holds ie_m151 := ib_hold1 (cal := []) ic_n (ic_inc (by decide +kernel)) (by decide +kernel)
theorem ie_h152 : ia_Holds ie_m152 := ib_hold1 (cal := []) ic_n (ic_inc (by decide +kernel)) (by decide +kernel)
theorem ie_h153 : ia_Holds ie_m153 := ib_hold1 (cal := []) ic_n (ic_inc (by decide +kernel)) (by decide +kernel)
theorem ie_h154 : ia_Holds ie_m154 := ib_hold1 (cal := [ie_m0]) (ic_c ie_h0 ic_n) (ic_inc (by decide +kernel)) (by decide +kernel)
theorem ie_h155 : ia_Holds ie_m155 := ib_hold1 (cal := [ie_m1]) (ic_c ie_h1 ic_n) (ic_inc (by decide +kernel)) (by decide +kernel)
theorem ie_h156 : ia_Holds ie_m156 := ib_hold1 (cal := [ie_m2, ie_m3, ie_m4]) (ic_c ie_h2 (ic_c ie_h3 (ic_c ie_h4 ic_n))) (ic_inc (by decide +kernel)) (by decide +kernel)
theorem ie_h157 : ia_Holds ie_m157 := ib_hold1 (cal := [ie_m2, ie_m5]) (ic_c ie_h2 (ic_c ie_h5 ic_n)) (ic_inc (by decide +kernel)) (by decide +kernel)
theorem ie_h158 : ia_Holds ie_m158 := ib_hold1 (cal := [ie_m6, ie_m7, ie_m8]) (ic_c ie_h6 (ic_c ie_h7 (ic_c ie_h8 ic_n))) (ic_inc (by decide +kernel)) (by decide +kernel)
theorem ie_h159 : ia_Holds ie_m159 := ib_hold1 (cal := [ie_m6, ie_m9]) (ic_c ie_h6 (ic_c ie_h9 ic_n)) (ic_inc (by decide +kernel)) (by decide +kernel)
theorem ie_h160 : ia_Holds ie_m160 := ib_hold1 (cal := [ie_m10, ie_m11, ie_m12]) (ic_c ie_h10 (ic_c ie_h11 (ic_c ie_h12 ic_n))) (ic_inc (by decide +kernel)) (by decide +kernel)
theorem ie_h161 : ia_Holds ie_m161 := ib_hold1 (cal := [ie_m10, ie_m13]) (ic_c ie_h10 (ic_c ie_h13 ic_n)) (ic_inc (by decide +kernel)) (by decide +kernel)
theorem ie_h162 : ia_Holds ie_m162 := ib_hold1 (cal := [ie_m14, ie_m15, ie_m16]) (ic_c ie_h14 (ic_c ie_h15 (ic_c ie_h16 ic_n))) (ic_inc (by decide +kernel)) (by decide +kernel)
theorem ie_h163 : ia_Holds ie_m163 := ib_hold1 (cal := [ie_m14, ie_m17]) (ic_c ie_h14 (ic_c ie_h17 ic_n)) (ic_inc (by decide +kernel)) (by decide +kernel)
theorem ie_h164 : ia_Holds ie_m164 := ib_hold1 (cal := [ie_m18, ie_m19, ie_m20]) (ic_c ie_h18 (ic_c ie_h19 (ic_c ie_h20 ic_n))) (ic_inc (by decide +kernel)) (by decide +kernel)
theorem ie_h165 : ia_Holds ie_m165 := ib_hold1 (cal := [ie_m18, ie_m21]) (ic_c ie_h18 (ic_c ie_h21 ic_n)) (ic_inc (by decide +kernel)) (by decide +kernel)
theorem ie_h166 : ia_Holds ie_m166 := ib_hold1 (cal := [ie_m22, ie_m23, ie_m24]) (ic_c ie_h22 (ic_c ie_h23 (ic_c ie_h24 ic_n))) (ic_inc (by decide +kernel)) (by decide +kernel)
theorem ie_h167 : ia_Holds ie_m167 := ib_hold1 (cal := [ie_m22, ie_m25]) (ic_c ie_h22 (ic_c ie_h25 ic_n)) (ic_inc (by decide +kernel)) (by decide +kernel)
theorem ie_h168 : ia_Holds ie_m168 := ib_hold1 (cal := [ie_m26, ie_m27, ie_m28]) (ic_c ie_h26 (ic_c ie_h27 (ic_c ie_h28 ic_n))) (ic_inc (by decide +kernel)) (by decide +kernel)
theorem ie_h169 : ia_Holds ie_m169 := ib_hold1 (cal := [ie_m26, ie_m29]) (ic_c ie_h26 (ic_c ie_h29 ic_n)) (ic_inc (by decide +kernel)) (by decide +kernel)
theorem ie_h170 : ia_Holds ie_m170 := ib_hold1 (cal := [ie_m30, ie_m31, ie_m32]) (ic_c ie_h30 (ic_c ie_h31 (ic_c ie_h32 ic_n))) (ic_inc (by decide +kernel)) (by decide +kernel)
theorem ie_h171 : ia_Holds ie_m171 := ib_hold1 (cal := [ie_m30, ie_m33]) (ic_c ie_h30 (ic_c ie_h33 ic_n)) (ic_inc (by decide +kernel)) (by decide +kernel)
theorem ie_h172 : ia_Holds ie_m172 := ib_hold1 (cal := [ie_m34, ie_m35, ie_m36]) (ic_c ie_h34 (ic_c ie_h35 (ic_c ie_h36 ic_n))) (ic_inc (by decide +kernel)) (by decide +kernel)
theorem ie_h173 : ia_Holds ie_m173 := ib_hold1 (cal := [ie_m34, ie_m37]) (ic_c ie_h34 (ic_c ie_h37 ic_n)) (ic_inc (by decide +kernel)) (by decide +kernel)
theorem ie_h174 : ia_Holds ie_m174 := ib_hold1 (cal := [ie_m38, ie_m39, ie_m40]) (ic_c ie_h38 (ic_c ie_h39 (ic_c ie_h40 ic_n))) (ic_inc (by decide +kernel)) (by decide +kernel)
theorem ie_h175 : ia_Holds ie_m175 := ib_hold1 (cal := [ie_m38, ie_m41]) (ic_c ie_h38 (ic_c ie_h41 ic_n)) (ic_inc (by decide +kernel)) (by decide +kernel)
theorem ie_h176 : ia_Holds ie_m176 := ib_hold1 (cal := [ie_m42, ie_m43, ie_m44]) (ic_c ie_h42 (ic_c ie_h43 (ic_c ie_h44 ic_n))) (ic_inc (by decide +kernel)) (by decide +kernel)
theorem ie_h177 : ia_Holds ie_m177 := ib_hold1 (cal := [ie_m42, ie_m45]) (ic_c ie_h42 (ic_c ie_h45 ic_n)) (ic_inc (by decide +kernel)) (by decide +kernel)
theorem ie_h178 : ia_Holds ie_m178 := ib_hold1 (cal := [ie_m46, ie_m47, ie_m48]) (ic_c ie_h46 (ic_c ie_h47 (ic_c ie_h48 ic_n))) (ic_inc (by decide +kernel)) (by decide +kernel)
theorem ie_h179 : ia_Holds ie_m179 := ib_hold1 (cal := [ie_m46, ie_m49]) (ic_c ie_h46 (ic_c ie_h49 ic_n)) (ic_inc (by decide +kernel)) (by decide +kernel)
theorem ie_h180 : ia_Holds ie_m180 := ib_hold1 (cal := [ie_m50, ie_m51, ie_m52]) (ic_c ie_h50 (ic_c ie_h51 (ic_c ie_h52 ic_n))) (ic_inc (by decide +kernel)) (by decide +kernel)
theorem ie_h181 : ia_Holds ie_m181 := ib_hold1 (cal := [ie_m50, ie_m53]) (ic_c ie_h50 (ic_c ie_h53 ic_n)) (ic_inc (by decide +kernel)) (by decide +kernel)
theorem ie_h182 : ia_Holds ie_m182 := ib_hold1 (cal := [ie_m54, ie_m55, ie_m56]) (ic_c ie_h54 (ic_c ie_h55 (ic_c ie_h56 ic_n))) (ic_inc (by decide +kernel)) (by decide +kernel)
theorem ie_h183 : ia_Holds ie_m183 := ib_hold1 (cal := [ie_m54, ie_m57]) (ic_c ie_h54 (ic_c ie_h57 ic_n)) (ic_inc (by decide +kernel)) (by decide +kernel)
theorem ie_h184 : ia_Holds ie_m184 := ib_hold1 (cal := [ie_m58, ie_m59, ie_m60]) (ic_c ie_h58 (ic_c ie_h59 (ic_c ie_h60 ic_n))) (ic_inc (by decide +kernel)) (by decide +kernel)
theorem ie_h185 : ia_Holds ie_m185 := ib_hold1 (cal := [ie_m58, ie_m61]) (ic_c ie_h58 (ic_c ie_h61 ic_n)) (ic_inc (by decide +kernel)) (by decide +kernel)
theorem ie_h186 : ia_Holds ie_m186 := ib_hold1 (cal := [ie_m62, ie_m63, ie_m64]) (ic_c ie_h62 (ic_c ie_h63 (ic_c ie_h64 ic_n))) (ic_inc (by decide +kernel)) (by decide +kernel)
theorem ie_h187 : ia_Holds ie_m187 := ib_hold1 (cal := [ie_m62, ie_m65]) (ic_c ie_h62 (ic_c ie_h65 ic_n)) (ic_inc (by decide +kernel)) (by decide +kernel)
theorem ie_h188 : ia_Holds ie_m188 := ib_hold1 (cal := [ie_m66, ie_m67, ie_m68]) (ic_c ie_h66 (ic_c ie_h67 (ic_c ie_h68 ic_n))) (ic_inc (by decide +kernel)) (by decide +kernel)
theorem ie_h189 : ia_Holds ie_m189 := ib_hold1 (cal := [ie_m66, ie_m69]) (ic_c ie_h66 (ic_c ie_h69 ic_n)) (ic_inc (by decide +kernel)) (by decide +kernel)
theorem ie_h190 : ia_Holds ie_m190 := ib_hold1 (cal := [ie_m70, ie_m71, ie_m72]) (ic_c ie_h70 (ic_c ie_h71 (ic_c ie_h72 ic_n))) (ic_inc (by decide +kernel)) (by decide +kernel)
theorem ie_h191 : ia_Holds ie_m191 := ib_hold1 (cal := [ie_m70, ie_m73]) (ic_c ie_h70 (ic_c ie_h73 ic_n)) (ic_inc (by decide +kernel)) (by decide +kernel)
theorem ie_h192 : ia_Holds ie_m192 := ib_hold1 (cal := [ie_m74, ie_m75, ie_m76]) (ic_c ie_h74 (ic_c ie_h75 (ic_c ie_h76 ic_n))) (ic_inc (by decide +kernel)) (by decide +kernel)
theorem ie_h193 : ia_Holds ie_m193 := ib_hold1 (cal := [ie_m74, ie_m77]) (ic_c ie_h74 (ic_c ie_h77 ic_n)) (ic_inc (by decide +kernel)) (by decide +kernel)
theorem ie_h194 : ia_Holds ie_m194 := ib_hold1 (cal := [ie_m78, ie_m79, ie_m80]) (ic_c ie_h78 (ic_c ie_h79 (ic_c ie_h80 ic_n))) (ic_inc (by decide +kernel)) (by decide +kernel)
theorem ie_h195 : ia_Holds ie_m195 := ib_hold1 (cal := [ie_m78, ie_m81]) (ic_c ie_h78 (ic_c ie_h81 ic_n)) (ic_inc (by decide +kernel)) (by decide +kernel)
theorem ie_h196 : ia_Holds ie_m196 := ib_hold1 (cal := [ie_m82, ie_m83, ie_m84]) (ic_c ie_h82 (ic_c ie_h83 (ic_c ie_h84 ic_n))) (ic_inc (by decide +kernel)) (by decide +kernel)
theorem ie_h197 : ia_Holds ie_m197 := ib_hold1 (cal := [ie_m82, ie_m85]) (ic_c ie_h82 (ic_c ie_h85 ic_n)) (ic_inc (by decide +kernel)) (by decide +kernel)
theorem ie_h198 : ia_Holds ie_m198 := ib_hold1 (cal := [ie_m86, ie_m87, ie_m88]) (ic_c ie_h86 (ic_c ie_h87 (ic_c ie_h88 ic_n))) (ic_inc (by decide +kernel)) (by decide +kernel)
theorem ie_h199 : ia_Holds ie_m199 := ib_hold1 (cal := [ie_m86, ie_m89]) (ic_c ie_h86 (ic_c ie_h89 ic_n)) (ic_inc (by decide +kernel)) (by decide +kernel)
theorem ie_h200 : ia_Holds ie_m200 := ib_hold1 (cal := [ie_m90, ie_m91, ie_m92]) (ic_c ie_h90 (ic_c ie_h91 (ic_c ie_h92 ic_n))) (ic_inc (by decide +kernel)) (by decide +kernel)
theorem ie_h201 : ia_Holds ie_m201 := ib_hold1 (cal := [ie_m90, ie_m93]) (ic_c ie_h90 (ic_c ie_h93 ic_n)) (ic_inc (by decide +kernel)) (by decide +kernel)
theorem ie_h202 : ia_Holds ie_m202 := ib_hold1 (cal := [ie_m94, ie_m95, ie_m96]) (ic_c ie_h94 (ic_c ie_h95 (ic_c ie_h96 ic_n))) (ic_inc (by decide +kernel)) (by decide +kernel)
theorem ie_h203 : ia_Holds ie_m203 := ib_hold1 (cal := [ie_m94, ie_m97]) (ic_c ie_h94 (ic_c ie_h97 ic_n)) (ic_inc (by decide +kernel)) (by decide +kernel)
theorem ie_h204 : ia_Holds ie_m204 := ib_hold1 (cal := [ie_m98, ie_m99, ie_m100]) (ic_c ie_h98 (ic_c ie_h99 (ic_c ie_h100 ic_n))) (ic_inc (by decide +kernel)) (by decide +kernel)
theorem ie_h205 : ia_Holds ie_m205 := ib_hold1 (cal := [ie_m98, ie_m101]) (ic_c ie_h98 (ic_c ie_h101 ic_n)) (ic_inc (by decide +kernel)) (by decide +kernel)
theorem ie_h206 : ia_Holds ie_m206 := ib_hold1 (cal := [ie_m102, ie_m103, ie_m104]) (ic_c ie_h102 (ic_c ie_h103 (ic_c ie_h104 ic_n))) (ic_inc (by decide +kernel)) (by decide +kernel)
theorem ie_h207 : ia_Holds ie_m207 := ib_hold1 (cal := [ie_m102, ie_m105]) (ic_c ie_h102 (ic_c ie_h105 ic_n)) (ic_inc (by decide +kernel)) (by decide +kernel)
theorem ie_h208 : ia_Holds ie_m208 := ib_hold1 (cal := [ie_m106, ie_m107, ie_m108]) (ic_c ie_h106 (ic_c ie_h107 (ic_c ie_h108 ic_n))) (ic_inc (by decide +kernel)) (by decide +kernel)
theorem ie_h209 : ia_Holds ie_m209 := ib_hold1 (cal := [ie_m106, ie_m109]) (ic_c ie_h106 (ic_c ie_h109 ic_n)) (ic_inc (by decide +kernel)) (by decide +kernel)
theorem ie_h210 : ia_Holds ie_m210 := ib_hold1 (cal := [ie_m110, ie_m111, ie_m112]) (ic_c ie_h110 (ic_c ie_h111 (ic_c ie_h112 ic_n))) (ic_inc (by decide +kernel)) (by decide +kernel)
theorem ie_h211 : ia_Holds ie_m211 := ib_hold1 (cal := [ie_m110, ie_m113]) (ic_c ie_h110 (ic_c ie_h113 ic_n)) (ic_inc (by decide +kernel)) (by decide +kernel)
theorem ie_h212 : ia_Holds ie_m212 := ib_hold1 (cal := [ie_m114, ie_m115, ie_m116]) (ic_c ie_h114 (ic_c ie_h115 (ic_c ie_h116 ic_n))) (ic_inc (by decide +kernel)) (by decide +kernel)
theorem ie_h213 : ia_Holds ie_m213 := ib_hold1 (cal := [ie_m114, ie_m117]) (ic_c ie_h114 (ic_c ie_h117 ic_n)) (ic_inc (by decide +kernel)) (by decide +kernel)
theorem ie_h214 : ia_Holds ie_m214 := ib_hold1 (cal := [ie_m118, ie_m119, ie_m120]) (ic_c ie_h118 (ic_c ie_h119 (ic_c ie_h120 ic_n))) (ic_inc (by decide +kernel)) (by decide +kernel)
theorem ie_h215 : ia_Holds ie_m215 := ib_hold1 (cal := [ie_m118, ie_m121]) (ic_c ie_h118 (ic_c ie_h121 ic_n)) (ic_inc (by decide +kernel)) (by decide +kernel)
theorem ie_h216 : ia_Holds ie_m216 := ib_hold1 (cal := [ie_m122]) (ic_c ie_h122 ic_n) (ic_inc (by decide +kernel)) (by decide +kernel)
theorem ie_h217 : ia_Holds ie_m217 := ib_hold1 (cal := [ie_m123]) (ic_c ie_h123 ic_n) (ic_inc (by decide +kernel)) (by decide +kernel)
theorem ie_h218 : ia_Holds ie_m218 := ib_hold1 (cal := [ie_m124]) (ic_c ie_h124 ic_n) (ic_inc (by decide +kernel)) (by decide +kernel)
theorem ie_h219 : ia_Holds ie_m219 := ib_hold1 (cal := [ie_m124]) (ic_c ie_h124 ic_n) (ic_inc (by decide +kernel)) (by decide +kernel)
theorem ie_h220 : ia_Holds ie_m220 := ib_hold1 (cal := [ie_m125]) (ic_c ie_h125 ic_n) (ic_inc (by decide +kernel)) (by decide +kernel)
theorem ie_h221 : ia_Holds ie_m221 := ib_hold1 (cal := [ie_m125]) (ic_c ie_h125 ic_n) (ic_inc (by decide +kernel)) (by decide +kernel)
theorem ie_h222 : ia_Holds ie_m222 := ib_hold1 (cal := [ie_m126]) (ic_c ie_h126 ic_n) (ic_inc (by decide +kernel)) (by decide +kernel)
theorem ie_h223 : ia_Holds ie_m223 := ib_hold1 (cal := [ie_m126]) (ic_c ie_h126 ic_n) (ic_inc (by decide +kernel)) (by decide +kernel)
theorem ie_h224 : ia_Holds ie_m224 := ib_hold1 (cal := [ie_m127]) (ic_c ie_h127 ic_n) (ic_inc (by decide +kernel)) (by decide +kernel)
theorem ie_h225 : ia_Holds ie_m225 := ib_hold1 (cal := [ie_m127]) (ic_c ie_h127 ic_n) (ic_inc (by decide +kernel)) (by decide +kernel)
theorem ie_h226 : ia_Holds ie_m226 := ib_hold1 (cal := [ie_m128]) (ic_c ie_h128 ic_n) (ic_inc (by decide +kernel)) (by decide +kernel)
theorem ie_h227 : ia_Holds ie_m227 := ib_hold1 (cal := [ie_m128]) (ic_c ie_h128 ic_n) (ic_inc (by decide +kernel)) (by decide +kernel)
theorem ie_h228 : ia_Holds ie_m228 := ib_hold1 (cal := [ie_m129]) (ic_c ie_h129 ic_n) (ic_inc (by decide +kernel)) (by decide +kernel)
theorem ie_h229 : ia_Holds ie_m229 := ib_hold1 (cal := [ie_m129]) (ic_c ie_h129 ic_n) (ic_inc (by decide +kernel)) (by decide +kernel)
theorem ie_h230 : ia_Holds ie_m230 := ib_hold1 (cal := [ie_m130]) (ic_c ie_h130 ic_n) (ic_inc (by decide +kernel)) (by decide +kernel)
theorem ie_h231 : ia_Holds ie_m231 := ib_hold1 (cal := [ie_m130]) (ic_c ie_h130 ic_n) (ic_inc (by decide +kernel)) (by decide +kernel)
theorem ie_h232 : ia_Holds ie_m232 := ib_hold1 (cal := [ie_m131]) (ic_c ie_h131 ic_n) (ic_inc (by decide +kernel)) (by decide +kernel)
theorem ie_h233 : ia_Holds ie_m233 := ib_hold1 (cal := [ie_m131]) (ic_c ie_h131 ic_n) (ic_inc (by decide +kernel)) (by decide +kernel)
theorem ie_h234 : ia_Holds ie_m234 := ib_hold1 (cal := [ie_m132]) (ic_c ie_h132 ic_n) (ic_inc (by decide +kernel)) (by decide +kernel)
theorem ie_h235 : ia_Holds ie_m235 := ib_hold1 (cal := [ie_m132]) (ic_c ie_h132 ic_n) (ic_inc (by decide +kernel)) (by decide +kernel)
theorem ie_h236 : ia_Holds ie_m236 := ib_hold1 (cal := [ie_m133]) (ic_c ie_h133 ic_n) (ic_inc (by decide +kernel)) (by decide +kernel)
theorem ie_h237 : ia_Holds ie_m237 := ib_hold1 (cal := [ie_m133]) (ic_c ie_h133 ic_n) (ic_inc (by decide +kernel)) (by decide +kernel)
theorem ie_h238 : ia_Holds ie_m238 := ib_hold1 (cal := [ie_m134]) (ic_c ie_h134 ic_n) (ic_inc (by decide +kernel)) (by decide +kernel)
theorem ie_h239 : ia_Holds ie_m239 := ib_hold1 (cal := [ie_m134]) (ic_c ie_h134 ic_n) (ic_inc (by decide +kernel)) (by decide +kernel)
theorem ie_h240 : ia_Holds ie_m240 := ib_hold1 (cal := [ie_m135]) (ic_c ie_h135 ic_n) (ic_inc (by decide +kernel)) (by decide +kernel)
theorem ie_h241 : ia_Holds ie_m241 := ib_hold1 (cal := [ie_m135]) (ic_c ie_h135 ic_n) (ic_inc (by decide +kernel)) (by decide +kernel)
theorem ie_h242 : ia_Holds ie_m242 := ib_hold1 (cal := [ie_m136]) (ic_c ie_h136 ic_n) (ic_inc (by decide +kernel)) (by decide +kernel)
theorem ie_h243 : ia_Holds ie_m243 := ib_hold1 (cal := [ie_m136]) (ic_c ie_h136 ic_n) (ic_inc (by decide +kernel)) (by decide +kernel)
theorem ie_h244 : ia_Holds ie_m244 := ib_hold1 (cal := [ie_m137]) (ic_c ie_h137 ic_n) (ic_inc (by decide +kernel)) (by decide +kernel)
theorem ie_h245 : ia_Holds ie_m245 := ib_hold1 (cal := [ie_m137]) (ic_c ie_h137 ic_n) (ic_inc (by decide +kernel)) (by decide +kernel)
theorem ie_h246 : ia_Holds ie_m246 := ib_hold1 (cal := [ie_m138]) (ic_c ie_h138 ic_n) (ic_inc (by decide +kernel)) (by decide +kernel)
theorem ie_h247 : ia_Holds ie_m247 := ib_hold1 (cal := [ie_m138]) (ic_c ie_h138 ic_n) (ic_inc (by decide +kernel)) (by decide +kernel)
theorem ie_h248 : ia_Holds ie_m248 := ib_hold1 (cal := [ie_m139]) (ic_c ie_h139 ic_n) (ic_inc (by decide +kernel)) (by decide +kernel)
theorem ie_h249 : ia_Holds ie_m249 := ib_hold1 (cal := [ie_m139]) (ic_c ie_h139 ic_n) (ic_inc (by decide +kernel)) (by decide +kernel)
theorem ie_h250 : ia_Holds ie_m250 := ib_hold1 (cal := [ie_m140]) (ic_c ie_h140 ic_n) (ic_inc (by decide +kernel)) (by decide +kernel)
theorem ie_h251 : ia_Holds ie_m251 := ib_hold1 (cal := [ie_m140]) (ic_c ie_h140 ic_n) (ic_inc (by decide +kernel)) (by decide +kernel)
theorem ie_h252 : ia_Holds ie_m252 := ib_hold1 (cal := [ie_m141]) (ic_c ie_h141 ic_n) (ic_inc (by decide +kernel)) (by decide +kernel)
theorem ie_h253 : ia_Holds ie_m253 := ib_hold1 (cal := [ie_m141]) (ic_c ie_h141 ic_n) (ic_inc (by decide +kernel)) (by decide +kernel)
theorem ie_h254 : ia_Holds ie_m254 := ib_hold1 (cal := [ie_m142]) (ic_c ie_h142 ic_n) (ic_inc (by decide +kernel)) (by decide +kernel)
theorem ie_h255 : ia_Holds ie_m255 := ib_hold1 (cal := [ie_m142]) (ic_c ie_h142 ic_n) (ic_inc (by decide +kernel)) (by decide +kernel)
theorem ie_h256 : ia_Holds ie_m256 := ib_hold1 (cal := [ie_m143]) (ic_c ie_h143 ic_n) (ic_inc (by decide +kernel)) (by decide +kernel)
theorem ie_h257 : ia_Holds ie_m257 := ib_hold1 (cal := [ie_m143]) (ic_c ie_h143 ic_n) (ic_inc (by decide +kernel)) (by decide +kernel)
theorem ie_h258 : ia_Holds ie_m258 := ib_hold1 (cal := [ie_m144]) (ic_c ie_h144 ic_n) (ic_inc (by decide +kernel)) (by decide +kernel)
theorem ie_h259 : ia_Holds ie_m259 := ib_hold1 (cal := [ie_m144]) (ic_c ie_h144 ic_n) (ic_inc (by decide +kernel)) (by decide +kernel)
theorem ie_h260 : ia_Holds ie_m260 := ib_hold1 (cal := [ie_m145]) (ic_c ie_h145 ic_n) (ic_inc (by decide +kernel)) (by decide +kernel)
theorem ie_h261 : ia_Holds ie_m261 := ib_hold1 (cal := [ie_m145]) (ic_c ie_h145 ic_n) (ic_inc (by decide +kernel)) (by decide +kernel)
theorem ie_h262 : ia_Holds ie_m262 := ib_hold1 (cal := [ie_m146]) (ic_c ie_h146 ic_n) (ic_inc (by decide +kernel)) (by decide +kernel)
theorem ie_h263 : ia_Holds ie_m263 := ib_hold1 (cal := [ie_m146]) (ic_c ie_h146 ic_n) (ic_inc (by decide +kernel)) (by decide +kernel)
theorem ie_h264 : ia_Holds ie_m264 := ib_hold1 (cal := [ie_m147]) (ic_c ie_h147 ic_n) (ic_inc (by decide +kernel)) (by decide +kernel)
theorem ie_h265 : ia_Holds ie_m265 := ib_hold1 (cal := [ie_m147]) (ic_c ie_h147 ic_n) (ic_inc (by decide +kernel)) (by decide +kernel)
theorem ie_h266 : ia_Holds ie_m266 := ib_hold1 (cal := [ie_m148]) (ic_c ie_h148 ic_n) (ic_inc (by decide +kernel)) (by decide +kernel)
theorem ie_h267 : ia_Holds ie_m267 := ib_hold1 (cal := [ie_m148]) (ic_c ie_h148 ic_n) (ic_inc (by decide +kernel)) (by decide +kernel)
theorem ie_h268 : ia_Holds ie_m268 := ib_hold1 (cal := [ie_m149]) (ic_c ie_h149 ic_n) (ic_inc (by decide +kernel)) (by decide +kernel)
theorem ie_h269 : ia_Holds ie_m269 := ib_hold1 (cal := [ie_m149]) (ic_c ie_h149 ic_n) (ic_inc (by decide +kernel)) (by decide +kernel)
theorem ie_h270 : ia_Holds ie_m270 := ib_hold1 (cal := [ie_m150]) (ic_c ie_h150 ic_n) (ic_inc (by decide +kernel)) (by decide +kernel)
theorem ie_h271 : ia_Holds ie_m271 := ib_hold1 (cal := [ie_m150]) (ic_c ie_h150 ic_n) (ic_inc (by decide +kernel)) (by decide +kernel)
theorem ie_h272 : ia_Holds ie_m272 := ib_hold1 (cal := [ie_m151]) (ic_c ie_h151 ic_n) (ic_inc (by decide +kernel)) (by decide +kernel)
theorem ie_h273 : ia_Holds ie_m273 := ib_hold1 (cal := [ie_m151]) (ic_c ie_h151 ic_n) (ic_inc (by decide +kernel)) (by decide +kernel)
theorem ie_h274 : ia_Holds ie_m274 := ib_hold1 (cal := [ie_m152]) (ic_c ie_h152 ic_n) (ic_inc (by decide +kernel)) (by decide +kernel)
theorem ie_h275 : ia_Holds ie_m275 := ib_hold1 (cal := [ie_m152]) (ic_c ie_h152 ic_n) (ic_inc (by decide +kernel)) (by decide +kernel)
theorem ie_h276 : ia_Holds ie_m276 := ib_hold1 (cal := [ie_m153]) (ic_c ie_h153 ic_n) (ic_inc (by decide +kernel)) (by decide +kernel)
theorem ie_h277 : ia_Holds ie_m277 := ib_hold1 (cal := [ie_m153]) (ic_c ie_h153 ic_n) (ic_inc (by decide +kernel)) (by decide +kernel)
