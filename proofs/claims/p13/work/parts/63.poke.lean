/-! contexts of poke -/
/-- FatVolume.isByte(I)Z() -/
def ie_m0 : ia_M := ⟨24, 1, [.inl ⟨.negSucc 2147483647, .ofNat 2147483647, [], []⟩], [], [⟨none, some (.inl ⟨.ofNat 0, .ofNat 0, [], []⟩), [(100, .negSucc 2147483647, .negSucc 0)], 0⟩, ⟨none, some (.inl ⟨.ofNat 0, .ofNat 0, [], []⟩), [(100, .ofNat 256, .ofNat 2147483647)], 0⟩, ⟨none, some (.inl ⟨.ofNat 1, .ofNat 1, [], []⟩), [(100, .ofNat 0, .ofNat 255)], 0⟩], [], [], [8, 9, 49, 50], [], [], []⟩
/-- FatVolume.isTablePlace(II)Z(-2147483648, -1) -/
def ie_m1 : ia_M := ⟨26, 1, [.inl ⟨.negSucc 2147483647, .negSucc 0, [], []⟩, .inl ⟨.negSucc 2147483647, .ofNat 2147483647, [], []⟩], [], [⟨none, some (.inl ⟨.ofNat 0, .ofNat 0, [], []⟩), [], 0⟩], [], [], [8, 9, 49, 50], [], [], []⟩
/-- FatVolume.isCluster(I)Z(-2147483648, -1) -/
def ie_m2 : ia_M := ⟨25, 1, [.inl ⟨.negSucc 2147483647, .negSucc 0, [], []⟩], [], [⟨none, some (.inl ⟨.ofNat 0, .ofNat 0, [], []⟩), [], 0⟩], [], [], [8, 9, 49, 50], [], [], []⟩
/-- FatVolume.isTablePlace(II)Z(0, 0) -/
def ie_m3 : ia_M := ⟨26, 1, [.inl ⟨.ofNat 0, .ofNat 0, [], []⟩, .inl ⟨.negSucc 2147483647, .ofNat 2147483647, [], []⟩], [], [⟨none, some (.inl ⟨.ofNat 0, .ofNat 0, [], []⟩), [(101, .negSucc 2147483647, .negSucc 0)], 0⟩, ⟨none, some (.inl ⟨.ofNat 0, .ofNat 0, [], []⟩), [(101, .ofNat 32, .ofNat 2147483647)], 0⟩, ⟨none, some (.inl ⟨.ofNat 1, .ofNat 1, [], []⟩), [(101, .ofNat 0, .ofNat 31)], 0⟩], [], [], [8, 9, 49, 50], [], [], []⟩
/-- FatVolume$Disk.setTableByte(III)V() -/
def ie_m4 : ia_M := ⟨63, 1, [.inr (.inl [2]), .inl ⟨.ofNat 0, .ofNat 1, [], []⟩, .inl ⟨.ofNat 0, .ofNat 31, [], []⟩, .inl ⟨.ofNat 0, .ofNat 255, [], []⟩], [], [⟨none, none, [], 0⟩], [], [], [8, 9, 49, 50], [], [], []⟩
/-- FatVolume.isCluster(I)Z(0, 0) -/
def ie_m5 : ia_M := ⟨25, 1, [.inl ⟨.ofNat 0, .ofNat 0, [], []⟩], [], [⟨none, some (.inl ⟨.ofNat 0, .ofNat 0, [], []⟩), [], 0⟩], [], [], [8, 9, 49, 50], [], [], []⟩
/-- FatVolume.isTablePlace(II)Z(1, 1) -/
def ie_m6 : ia_M := ⟨26, 1, [.inl ⟨.ofNat 1, .ofNat 1, [], []⟩, .inl ⟨.negSucc 2147483647, .ofNat 2147483647, [], []⟩], [], [⟨none, some (.inl ⟨.ofNat 0, .ofNat 0, [], []⟩), [(101, .negSucc 2147483647, .negSucc 0)], 0⟩, ⟨none, some (.inl ⟨.ofNat 0, .ofNat 0, [], []⟩), [(101, .ofNat 32, .ofNat 2147483647)], 0⟩, ⟨none, some (.inl ⟨.ofNat 1, .ofNat 1, [], []⟩), [(101, .ofNat 0, .ofNat 31)], 0⟩], [], [], [8, 9, 49, 50], [], [], []⟩
/-- FatVolume.isCluster(I)Z(1, 1) -/
def ie_m7 : ia_M := ⟨25, 1, [.inl ⟨.ofNat 1, .ofNat 1, [], []⟩], [], [⟨none, some (.inl ⟨.ofNat 0, .ofNat 0, [], []⟩), [], 0⟩], [], [], [8, 9, 49, 50], [], [], []⟩
/-- FatVolume.isTablePlace(II)Z(2, 31) -/
def ie_m8 : ia_M := ⟨26, 1, [.inl ⟨.ofNat 2, .ofNat 31, [], []⟩, .inl ⟨.negSucc 2147483647, .ofNat 2147483647, [], []⟩], [], [⟨none, some (.inl ⟨.ofNat 0, .ofNat 0, [], []⟩), [], 0⟩], [], [], [8, 9, 49, 50], [], [], []⟩
/-- FatVolume.isCluster(I)Z(2, 31) -/
def ie_m9 : ia_M := ⟨25, 1, [.inl ⟨.ofNat 2, .ofNat 31, [], []⟩], [], [⟨none, some (.inl ⟨.ofNat 1, .ofNat 1, [], []⟩), [], 0⟩], [], [], [8, 9, 49, 50], [], [], []⟩
/-- FatVolume$Disk.setClusterByte(III)V() -/
def ie_m10 : ia_M := ⟨65, 1, [.inr (.inl [2]), .inl ⟨.ofNat 2, .ofNat 31, [], []⟩, .inl ⟨.ofNat 0, .ofNat 63, [], []⟩, .inl ⟨.ofNat 0, .ofNat 255, [], []⟩], [], [⟨none, none, [], 0⟩], [], [], [8, 9, 49, 50], [], [], []⟩
/-- FatVolume.isTablePlace(II)Z(32, 2147483647) -/
def ie_m11 : ia_M := ⟨26, 1, [.inl ⟨.ofNat 32, .ofNat 2147483647, [], []⟩, .inl ⟨.negSucc 2147483647, .ofNat 2147483647, [], []⟩], [], [⟨none, some (.inl ⟨.ofNat 0, .ofNat 0, [], []⟩), [], 0⟩], [], [], [8, 9, 49, 50], [], [], []⟩
/-- FatVolume.isCluster(I)Z(32, 2147483647) -/
def ie_m12 : ia_M := ⟨25, 1, [.inl ⟨.ofNat 32, .ofNat 2147483647, [], []⟩], [], [⟨none, some (.inl ⟨.ofNat 0, .ofNat 0, [], []⟩), [], 0⟩], [], [], [8, 9, 49, 50], [], [], []⟩
/-- FatVolume.isClusterPlace(II)Z(-2147483648, -1) -/
def ie_m13 : ia_M := ⟨27, 2, [.inl ⟨.negSucc 2147483647, .negSucc 0, [], []⟩, .inl ⟨.negSucc 2147483647, .ofNat 2147483647, [], []⟩], [], [⟨none, some (.inl ⟨.ofNat 0, .ofNat 0, [], []⟩), [], 0⟩], [], [], [8, 9, 49, 50], [], [], []⟩
/-- FatVolume.isClusterPlace(II)Z(0, 0) -/
def ie_m14 : ia_M := ⟨27, 2, [.inl ⟨.ofNat 0, .ofNat 0, [], []⟩, .inl ⟨.negSucc 2147483647, .ofNat 2147483647, [], []⟩], [], [⟨none, some (.inl ⟨.ofNat 0, .ofNat 0, [], []⟩), [], 0⟩], [], [], [8, 9, 49, 50], [], [], []⟩
/-- FatVolume.isClusterPlace(II)Z(1, 1) -/
def ie_m15 : ia_M := ⟨27, 2, [.inl ⟨.ofNat 1, .ofNat 1, [], []⟩, .inl ⟨.negSucc 2147483647, .ofNat 2147483647, [], []⟩], [], [⟨none, some (.inl ⟨.ofNat 0, .ofNat 0, [], []⟩), [], 0⟩], [], [], [8, 9, 49, 50], [], [], []⟩
/-- FatVolume.isClusterPlace(II)Z(2, 31) -/
def ie_m16 : ia_M := ⟨27, 2, [.inl ⟨.ofNat 2, .ofNat 31, [], []⟩, .inl ⟨.negSucc 2147483647, .ofNat 2147483647, [], []⟩], [], [⟨none, some (.inl ⟨.ofNat 0, .ofNat 0, [], []⟩), [(101, .negSucc 2147483647, .negSucc 0)], 0⟩, ⟨none, some (.inl ⟨.ofNat 0, .ofNat 0, [], []⟩), [(101, .ofNat 64, .ofNat 2147483647)], 0⟩, ⟨none, some (.inl ⟨.ofNat 1, .ofNat 1, [], []⟩), [(101, .ofNat 0, .ofNat 63)], 0⟩], [], [], [8, 9, 49, 50], [], [], []⟩
/-- FatVolume.isClusterPlace(II)Z(32, 2147483647) -/
def ie_m17 : ia_M := ⟨27, 2, [.inl ⟨.ofNat 32, .ofNat 2147483647, [], []⟩, .inl ⟨.negSucc 2147483647, .ofNat 2147483647, [], []⟩], [], [⟨none, some (.inl ⟨.ofNat 0, .ofNat 0, [], []⟩), [], 0⟩], [], [], [8, 9, 49, 50], [], [], []⟩
/-- FatVolume.poke(III)Z(-2147483648, -1) -/
def ie_m18 : ia_M := ⟨13, 3, [.inr (.inl [1]), .inl ⟨.negSucc 2147483647, .negSucc 0, [], []⟩, .inl ⟨.negSucc 2147483647, .ofNat 2147483647, [], []⟩, .inl ⟨.negSucc 2147483647, .ofNat 2147483647, [], []⟩], [], [⟨none, some (.inl ⟨.ofNat 0, .ofNat 0, [], []⟩), [(103, .negSucc 2147483647, .negSucc 0)], 0⟩, ⟨none, some (.inl ⟨.ofNat 0, .ofNat 0, [], []⟩), [(103, .ofNat 0, .ofNat 255)], 0⟩, ⟨none, some (.inl ⟨.ofNat 0, .ofNat 0, [], []⟩), [(103, .ofNat 256, .ofNat 2147483647)], 0⟩], [], [], [8, 9, 49, 50], [], [], []⟩
/-- FatVolume.poke(III)Z(0, 0) -/
def ie_m19 : ia_M := ⟨13, 3, [.inr (.inl [1]), .inl ⟨.ofNat 0, .ofNat 0, [], []⟩, .inl ⟨.negSucc 2147483647, .ofNat 2147483647, [], []⟩, .inl ⟨.negSucc 2147483647, .ofNat 2147483647, [], []⟩], [], [⟨none, some (.inl ⟨.ofNat 0, .ofNat 0, [], []⟩), [(102, .negSucc 2147483647, .negSucc 0), (103, .ofNat 0, .ofNat 255)], 0⟩, ⟨none, some (.inl ⟨.ofNat 0, .ofNat 0, [], []⟩), [(103, .negSucc 2147483647, .negSucc 0)], 0⟩, ⟨none, some (.inl ⟨.ofNat 0, .ofNat 0, [], []⟩), [(103, .ofNat 256, .ofNat 2147483647)], 0⟩, ⟨none, some (.inl ⟨.ofNat 0, .ofNat 0, [], []⟩), [(102, .ofNat 32, .ofNat 2147483647), (103, .ofNat 0, .ofNat 255)], 0⟩, ⟨none, some (.inl ⟨.ofNat 1, .ofNat 1, [], []⟩), [(102, .ofNat 0, .ofNat 31), (103, .ofNat 0, .ofNat 255)], 0⟩], [], [], [8, 9, 49, 50], [], [], []⟩
/-- FatVolume.poke(III)Z(1, 1) -/
def ie_m20 : ia_M := ⟨13, 3, [.inr (.inl [1]), .inl ⟨.ofNat 1, .ofNat 1, [], []⟩, .inl ⟨.negSucc 2147483647, .ofNat 2147483647, [], []⟩, .inl ⟨.negSucc 2147483647, .ofNat 2147483647, [], []⟩], [], [⟨none, some (.inl ⟨.ofNat 0, .ofNat 0, [], []⟩), [(102, .negSucc 2147483647, .negSucc 0), (103, .ofNat 0, .ofNat 255)], 0⟩, ⟨none, some (.inl ⟨.ofNat 0, .ofNat 0, [], []⟩), [(103, .negSucc 2147483647, .negSucc 0)], 0⟩, ⟨none, some (.inl ⟨.ofNat 0, .ofNat 0, [], []⟩), [(103, .ofNat 256, .ofNat 2147483647)], 0⟩, ⟨none, some (.inl ⟨.ofNat 0, .ofNat 0, [], []⟩), [(102, .ofNat 32, .ofNat 2147483647), (103, .ofNat 0, .ofNat 255)], 0⟩, ⟨none, some (.inl ⟨.ofNat 1, .ofNat 1, [], []⟩), [(102, .ofNat 0, .ofNat 31), (103, .ofNat 0, .ofNat 255)], 0⟩], [], [], [8, 9, 49, 50], [], [], []⟩
/-- FatVolume.poke(III)Z(2, 31) -/
def ie_m21 : ia_M := ⟨13, 3, [.inr (.inl [1]), .inl ⟨.ofNat 2, .ofNat 31, [], []⟩, .inl ⟨.negSucc 2147483647, .ofNat 2147483647, [], []⟩, .inl ⟨.negSucc 2147483647, .ofNat 2147483647, [], []⟩], [], [⟨none, some (.inl ⟨.ofNat 0, .ofNat 0, [], []⟩), [(102, .negSucc 2147483647, .negSucc 0), (103, .ofNat 0, .ofNat 255)], 0⟩, ⟨none, some (.inl ⟨.ofNat 0, .ofNat 0, [], []⟩), [(103, .negSucc 2147483647, .negSucc 0)], 0⟩, ⟨none, some (.inl ⟨.ofNat 0, .ofNat 0, [], []⟩), [(103, .ofNat 256, .ofNat 2147483647)], 0⟩, ⟨none, some (.inl ⟨.ofNat 0, .ofNat 0, [], []⟩), [(102, .ofNat 64, .ofNat 2147483647), (103, .ofNat 0, .ofNat 255)], 0⟩, ⟨none, some (.inl ⟨.ofNat 1, .ofNat 1, [], []⟩), [(102, .ofNat 0, .ofNat 63), (103, .ofNat 0, .ofNat 255)], 0⟩], [], [], [8, 9, 49, 50], [], [], []⟩
/-- FatVolume.poke(III)Z(32, 2147483647) -/
def ie_m22 : ia_M := ⟨13, 3, [.inr (.inl [1]), .inl ⟨.ofNat 32, .ofNat 2147483647, [], []⟩, .inl ⟨.negSucc 2147483647, .ofNat 2147483647, [], []⟩, .inl ⟨.negSucc 2147483647, .ofNat 2147483647, [], []⟩], [], [⟨none, some (.inl ⟨.ofNat 0, .ofNat 0, [], []⟩), [(103, .negSucc 2147483647, .negSucc 0)], 0⟩, ⟨none, some (.inl ⟨.ofNat 0, .ofNat 0, [], []⟩), [(103, .ofNat 0, .ofNat 255)], 0⟩, ⟨none, some (.inl ⟨.ofNat 0, .ofNat 0, [], []⟩), [(103, .ofNat 256, .ofNat 2147483647)], 0⟩], [], [], [8, 9, 49, 50], [], [], []⟩
theorem ie_h0 : ia_Holds ie_m0 := ib_hold1 (cal := []) ic_n (ic_inc (by decide +kernel)) (by decide +kernel)
theorem ie_h1 : ia_Holds ie_m1 := ib_hold1 (cal := []) ic_n (ic_inc (by decide +kernel)) (by decide +kernel)
theorem ie_h2 : ia_Holds ie_m2 := ib_hold1 (cal := []) ic_n (ic_inc (by decide +kernel)) (by decide +kernel)
theorem ie_h3 : ia_Holds ie_m3 := ib_hold1 (cal := []) ic_n (ic_inc (by decide +kernel)) (by decide +kernel)
theorem ie_h4 : ia_Holds ie_m4 := ib_hold1 (cal := []) ic_n (ic_inc (by decide +kernel)) (by decide +kernel)
theorem ie_h5 : ia_Holds ie_m5 := ib_hold1 (cal := []) ic_n (ic_inc (by decide +kernel)) (by decide +kernel)
theorem ie_h6 : ia_Holds ie_m6 := ib_hold1 (cal := []) ic_n (ic_inc (by decide +kernel)) (by decide +kernel)
theorem ie_h7 : ia_Holds ie_m7 := ib_hold1 (cal := []) ic_n (ic_inc (by decide +kernel)) (by decide +kernel)
theorem ie_h8 : ia_Holds ie_m8 := ib_hold1 (cal := []) ic_n (ic_inc (by decide +kernel)) (by decide +kernel)
theorem ie_h9 : ia_Holds ie_m9 := ib_hold1 (cal := []) ic_n (ic_inc (by decide +kernel)) (by decide +kernel)
theorem ie_h10 : ia_Holds ie_m10 := ib_hold1 (cal := []) ic_n (ic_inc (by decide +kernel)) (by decide +kernel)
theorem ie_h11 : ia_Holds ie_m11 := ib_hold1 (cal := []) ic_n (ic_inc (by decide +kernel)) (by decide +kernel)
theorem ie_h12 : ia_Holds ie_m12 := ib_hold1 (cal := []) ic_n (ic_inc (by decide +kernel)) (by decide +kernel)
theorem ie_h13 : ia_Holds ie_m13 := ib_hold1 (cal := [ie_m2]) (ic_c ie_h2 ic_n) (ic_inc (by decide +kernel)) (by decide +kernel)
theorem ie_h14 : ia_Holds ie_m14 := ib_hold1 (cal := [ie_m5]) (ic_c ie_h5 ic_n) (ic_inc (by decide +kernel)) (by decide +kernel)
theorem ie_h15 : ia_Holds ie_m15 := ib_hold1 (cal := [ie_m7]) (ic_c ie_h7 ic_n) (ic_inc (by decide +kernel)) (by decide +kernel)
theorem ie_h16 : ia_Holds ie_m16 := ib_hold1 (cal := [ie_m9]) (ic_c ie_h9 ic_n) (ic_inc (by decide +kernel)) (by decide +kernel)
theorem ie_h17 : ia_Holds ie_m17 := ib_hold1 (cal := [ie_m12]) (ic_c ie_h12 ic_n) (ic_inc (by decide +kernel)) (by decide +kernel)
theorem ie_h18 : ia_Holds ie_m18 := ib_hold1 (cal := [ie_m0, ie_m1, ie_m13]) (ic_c ie_h0 (ic_c ie_h1 (ic_c ie_h13 ic_n))) (ic_inc (by decide +kernel)) (by decide +kernel)
theorem ie_h19 : ia_Holds ie_m19 := ib_hold1 (cal := [ie_m4, ie_m0, ie_m3, ie_m14]) (ic_c ie_h4 (ic_c ie_h0 (ic_c ie_h3 (ic_c ie_h14 ic_n)))) (ic_inc (by decide +kernel)) (by decide +kernel)
theorem ie_h20 : ia_Holds ie_m20 := ib_hold1 (cal := [ie_m4, ie_m0, ie_m6, ie_m15]) (ic_c ie_h4 (ic_c ie_h0 (ic_c ie_h6 (ic_c ie_h15 ic_n)))) (ic_inc (by decide +kernel)) (by decide +kernel)
theorem ie_h21 : ia_Holds ie_m21 := ib_hold1 (cal := [ie_m10, ie_m0, ie_m8, ie_m16]) (ic_c ie_h10 (ic_c ie_h0 (ic_c ie_h8 (ic_c ie_h16 ic_n)))) (ic_inc (by decide +kernel)) (by decide +kernel)
theorem ie_h22 : ia_Holds ie_m22 := ib_hold1 (cal := [ie_m0, ie_m11, ie_m17]) (ic_c ie_h0 (ic_c ie_h11 (ic_c ie_h17 ic_n))) (ic_inc (by decide +kernel)) (by decide +kernel)
