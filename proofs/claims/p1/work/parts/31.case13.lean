set_option maxRecDepth 1000000 in
set_option maxHeartbeats 40000000 in
theorem iv_z1_16 {xs : Nat → Int32} : iv_G 6 xs 17 16 0 [(0, .ref 1)] [] (iv_wd iv_Az iv_Fz iv_Bz) true 0 0 (.inl (none), (iv_wd iv_Az iv_Fz iv_Bz), true, 0, 0) := by
  exact ⟨10, rfl⟩
set_option maxRecDepth 1000000 in
set_option maxHeartbeats 40000000 in
theorem iv_z2_75 {xs : Nat → Int32} : iv_G 6 xs 16 75 0 [(0, .ref 2), (1, .ref 31)] [] (iv_wd iv_Az iv_Fz iv_Bz) true 0 0 (.inl (none), (iv_wd (iv_cA iv_Az 4 31 0 2048 64) iv_Fz iv_Bz), true, 0, 0) := by
  refine iv_Gm 9 (pc2 := 15) (lv2 := [(0, .ref 2), (1, .ref 31)]) (st2 := []) (w2 := (iv_wd (iv_cA iv_Az 3 31 0 0 2048) iv_Fz iv_Bz)) rfl ?_
  rw [iv_cA_id (A := iv_Az) (r0 := 3) (r := 31) (sp := 0) (dp := 0) (n := 2048) rfl rfl]
  refine iv_Gm 11 (pc2 := 34) (lv2 := [(0, .ref 2), (1, .ref 31)]) (st2 := []) (w2 := (iv_wd (iv_cA iv_Az 4 31 0 2048 64) iv_Fz iv_Bz)) rfl ?_
  exact iv_Gret rfl rfl rfl
set_option maxRecDepth 1000000 in
set_option maxHeartbeats 40000000 in
theorem iv_z3_67 {xs : Nat → Int32} : iv_G 6 xs 15 67 0 [(0, .ref 2), (1, .int 2), (2, .int 255)] [] (iv_wd (iv_uA (iv_cA iv_Az 4 31 0 2048 64) 30 2 1) iv_Fz iv_Bz) true 0 0 (.inl (none), (iv_wd (iv_uA (iv_cA iv_Az 4 31 0 2048 64) 30 2 1) iv_Fz iv_Bz), true, 0, 0) := by
  refine iv_Gm 10 (pc2 := 15) (lv2 := [(0, .ref 2), (1, .int 2), (2, .int 255)]) (st2 := []) (w2 := (iv_wd (iv_uA (iv_uA (iv_cA iv_Az 4 31 0 2048 64) 30 2 1) 4 2 255) iv_Fz iv_Bz)) rfl ?_
  rw [iv_uA_id (A := (iv_uA (iv_cA iv_Az 4 31 0 2048 64) 30 2 1)) (r := 4) (j := 2) (v := 255) rfl]
  exact iv_Gret rfl rfl rfl
set_option maxRecDepth 1000000 in
set_option maxHeartbeats 40000000 in
theorem iv_z4_109 {xs : Nat → Int32} : iv_G 6 xs 16 109 0 [(0, .ref 29), (1, .int 2)] [] (iv_wd (iv_cA iv_Az 4 31 0 2048 64) iv_Fz iv_Bz) true 0 0 (.inl (none), (iv_wd (iv_uA (iv_cA iv_Az 4 31 0 2048 64) 30 2 1) iv_Fz iv_Bz), true, 0, 0) := by
  refine iv_Gm 9 (pc2 := 15) (lv2 := [(0, .ref 29), (1, .int 2)]) (st2 := [.int 255, .int 2, .ref 2]) (w2 := (iv_wd (iv_uA (iv_cA iv_Az 4 31 0 2048 64) 30 2 1) iv_Fz iv_Bz)) rfl ?_
  refine iv_Gcall (ν := 67) (c := 3) (as := [.ref 2, .int 2, .int 255]) (rest := []) (w2 := (iv_wd (iv_uA (iv_cA iv_Az 4 31 0 2048 64) 30 2 1) iv_Fz iv_Bz)) (tg2 := true) (k2 := 0) (z2 := 0) (v := none) rfl rfl rfl rfl rfl rfl rfl (Nat.le_of_ble_eq_true rfl) rfl ?_ ?_
  · exact iv_z3_67
  show iv_G _ _ _ _ 18 [(0, .ref 29), (1, .int 2)] [] (iv_wd (iv_uA (iv_cA iv_Az 4 31 0 2048 64) 30 2 1) iv_Fz iv_Bz) true _ _ _
  exact iv_Gret rfl rfl rfl
set_option maxRecDepth 1000000 in
set_option maxHeartbeats 40000000 in
theorem iv_z5_70 {xs : Nat → Int32} : iv_G 6 xs 14 70 0 [(0, .ref 2), (1, .int 2), (2, .ref 35), (3, .int 0)] [] (iv_wd (iv_uA (iv_cA iv_Az 4 31 0 2048 64) 30 2 1) iv_Fz iv_Bz) true 0 0 (.inl (none), (iv_wd (iv_uA (iv_cA iv_Az 4 31 0 2048 64) 30 2 1) iv_Fz iv_Bz), true, 0, 0) := by
  refine iv_Gm 9 (pc2 := 15) (lv2 := [(0, .ref 2), (1, .int 2), (2, .ref 35), (3, .int 0)]) (st2 := []) (w2 := (iv_wd (iv_cA (iv_uA (iv_cA iv_Az 4 31 0 2048 64) 30 2 1) 3 35 128 0 64) iv_Fz iv_Bz)) rfl ?_
  rw [iv_cA_id (A := (iv_uA (iv_cA iv_Az 4 31 0 2048 64) 30 2 1)) (r0 := 3) (r := 35) (sp := 128) (dp := 0) (n := 64) rfl rfl]
  exact iv_Gret rfl rfl rfl
set_option maxRecDepth 1000000 in
set_option maxHeartbeats 40000000 in
theorem iv_z6_87 {xs : Nat → Int32} : iv_G 6 xs 15 87 0 [(0, .ref 34), (1, .ref 2), (2, .int 2)] [] (iv_wd (iv_uA (iv_cA iv_Az 4 31 0 2048 64) 30 2 1) iv_Fz iv_Bz) true 0 0 (.inl (none), (iv_wd (iv_uA (iv_cA iv_Az 4 31 0 2048 64) 30 2 1) (iv_uF iv_Fz 3401 2) iv_Bz), true, 0, 0) := by
  refine iv_Gm 5 (pc2 := 7) (lv2 := [(0, .ref 34), (1, .ref 2), (2, .int 2)]) (st2 := [.int 0, .ref 35, .int 2, .ref 2]) (w2 := (iv_wd (iv_uA (iv_cA iv_Az 4 31 0 2048 64) 30 2 1) iv_Fz iv_Bz)) rfl ?_
  refine iv_Gcall (ν := 70) (c := 4) (as := [.ref 2, .int 2, .ref 35, .int 0]) (rest := []) (w2 := (iv_wd (iv_uA (iv_cA iv_Az 4 31 0 2048 64) 30 2 1) iv_Fz iv_Bz)) (tg2 := true) (k2 := 0) (z2 := 0) (v := none) rfl rfl rfl rfl rfl rfl rfl (Nat.le_of_ble_eq_true rfl) rfl ?_ ?_
  · exact iv_z5_70
  show iv_G _ _ _ _ 10 [(0, .ref 34), (1, .ref 2), (2, .int 2)] [] (iv_wd (iv_uA (iv_cA iv_Az 4 31 0 2048 64) 30 2 1) iv_Fz iv_Bz) true _ _ _
  refine iv_Gm 3 (pc2 := 15) (lv2 := [(0, .ref 34), (1, .ref 2), (2, .int 2)]) (st2 := []) (w2 := (iv_wd (iv_uA (iv_cA iv_Az 4 31 0 2048 64) 30 2 1) (iv_uF iv_Fz 3401 2) iv_Bz)) rfl ?_
  exact iv_Gret rfl rfl rfl
set_option maxRecDepth 1000000 in
set_option maxHeartbeats 40000000 in
theorem iv_z7_92 {xs : Nat → Int32} : iv_G 6 xs 15 92 0 [(0, .ref 34), (1, .int 0), (2, .int 0)] [] (iv_wd (iv_uA (iv_cA iv_Az 4 31 0 2048 64) 30 2 1) (iv_uF iv_Fz 3401 2) iv_Bz) true 0 0 (.inl (some (.int 0)), (iv_wd (iv_uA (iv_cA iv_Az 4 31 0 2048 64) 30 2 1) (iv_uF iv_Fz 3401 2) iv_Bz), true, 0, 0) := by
  exact ⟨11, rfl⟩
set_option maxRecDepth 1000000 in
set_option maxHeartbeats 40000000 in
theorem iv_z8_92 {xs : Nat → Int32} : iv_G 6 xs 14 92 0 [(0, .ref 34), (1, .int 0), (2, .int 0)] [] (iv_wd (iv_uA (iv_cA iv_Az 4 31 0 2048 64) 30 2 1) (iv_uF iv_Fz 3401 2) iv_Bz) true 0 0 (.inl (some (.int 0)), (iv_wd (iv_uA (iv_cA iv_Az 4 31 0 2048 64) 30 2 1) (iv_uF iv_Fz 3401 2) iv_Bz), true, 0, 0) := by
  exact ⟨11, rfl⟩
set_option maxRecDepth 1000000 in
set_option maxHeartbeats 40000000 in
theorem iv_z9_92 {xs : Nat → Int32} : iv_G 6 xs 14 92 0 [(0, .ref 34), (1, .int 0), (2, .int 0)] [] (iv_wd (iv_uA (iv_cA iv_Az 4 31 0 2048 64) 30 2 1) (iv_uF iv_Fz 3401 2) iv_Bz) true 0 0 (.inl (some (.int 0)), (iv_wd (iv_uA (iv_cA iv_Az 4 31 0 2048 64) 30 2 1) (iv_uF iv_Fz 3401 2) iv_Bz), true, 0, 0) := by
  exact ⟨11, rfl⟩
set_option maxRecDepth 1000000 in
set_option maxHeartbeats 40000000 in
theorem iv_z10_112 {xs : Nat → Int32} : iv_G 6 xs 15 112 0 [(0, .ref 29), (1, .ref 34), (2, .int 0), (3, .int 1)] [] (iv_wd (iv_uA (iv_cA iv_Az 4 31 0 2048 64) 30 2 1) (iv_uF iv_Fz 3401 2) iv_Bz) true 0 0 (.inl (some (.int 0)), (iv_wd (iv_uA (iv_cA iv_Az 4 31 0 2048 64) 30 2 1) (iv_uF iv_Fz 3401 2) iv_Bz), true, 0, 0) := by
  refine iv_Gm 3 (pc2 := 3) (lv2 := [(0, .ref 29), (1, .ref 34), (2, .int 0), (3, .int 1)]) (st2 := [.int 0, .int 0, .ref 34]) (w2 := (iv_wd (iv_uA (iv_cA iv_Az 4 31 0 2048 64) 30 2 1) (iv_uF iv_Fz 3401 2) iv_Bz)) rfl ?_
  refine iv_Gcall (ν := 92) (c := 3) (as := [.ref 34, .int 0, .int 0]) (rest := []) (w2 := (iv_wd (iv_uA (iv_cA iv_Az 4 31 0 2048 64) 30 2 1) (iv_uF iv_Fz 3401 2) iv_Bz)) (tg2 := true) (k2 := 0) (z2 := 0) (v := (some (.int 0))) rfl rfl rfl rfl rfl rfl rfl (Nat.le_of_ble_eq_true rfl) rfl ?_ ?_
  · exact iv_z8_92
  show iv_G _ _ _ _ 6 [(0, .ref 29), (1, .ref 34), (2, .int 0), (3, .int 1)] [.int 0] (iv_wd (iv_uA (iv_cA iv_Az 4 31 0 2048 64) 30 2 1) (iv_uF iv_Fz 3401 2) iv_Bz) true _ _ _
  refine iv_Gm 5 (pc2 := 37) (lv2 := [(0, .ref 29), (1, .ref 34), (2, .int 0), (3, .int 1)]) (st2 := [.int 0, .int 0, .ref 34]) (w2 := (iv_wd (iv_uA (iv_cA iv_Az 4 31 0 2048 64) 30 2 1) (iv_uF iv_Fz 3401 2) iv_Bz)) rfl ?_
  refine iv_Gcall (ν := 92) (c := 3) (as := [.ref 34, .int 0, .int 0]) (rest := []) (w2 := (iv_wd (iv_uA (iv_cA iv_Az 4 31 0 2048 64) 30 2 1) (iv_uF iv_Fz 3401 2) iv_Bz)) (tg2 := true) (k2 := 0) (z2 := 0) (v := (some (.int 0))) rfl rfl rfl rfl rfl rfl rfl (Nat.le_of_ble_eq_true rfl) rfl ?_ ?_
  · exact iv_z9_92
  show iv_G _ _ _ _ 40 [(0, .ref 29), (1, .ref 34), (2, .int 0), (3, .int 1)] [.int 0] (iv_wd (iv_uA (iv_cA iv_Az 4 31 0 2048 64) 30 2 1) (iv_uF iv_Fz 3401 2) iv_Bz) true _ _ _
  refine iv_Gm 3 (pc2 := 49) (lv2 := [(0, .ref 29), (1, .ref 34), (2, .int 0), (3, .int 1)]) (st2 := [.int 0]) (w2 := (iv_wd (iv_uA (iv_cA iv_Az 4 31 0 2048 64) 30 2 1) (iv_uF iv_Fz 3401 2) iv_Bz)) rfl ?_
  exact iv_Gret rfl rfl rfl
set_option maxRecDepth 1000000 in
set_option maxHeartbeats 40000000 in
theorem iv_z11_94 {xs : Nat → Int32} : iv_G 6 xs 15 94 0 [(0, .ref 34), (1, .int 0), (2, .int 0)] [] (iv_wd (iv_uA (iv_cA iv_Az 4 31 0 2048 64) 30 2 1) (iv_uF iv_Fz 3401 2) iv_Bz) true 0 0 (.inl (none), (iv_wd (iv_uA (iv_cA iv_Az 4 31 0 2048 64) 30 2 1) (iv_uF iv_Fz 3401 2) iv_Bz), true, 0, 0) := by
  exact ⟨12, rfl⟩
set_option maxRecDepth 1000000 in
set_option maxHeartbeats 40000000 in
theorem iv_z12_92 {xs : Nat → Int32} : iv_G 6 xs 14 92 0 [(0, .ref 34), (1, .int 0), (2, .int 0)] [] (iv_wd (iv_uA (iv_cA iv_Az 4 31 0 2048 64) 30 2 1) (iv_uF iv_Fz 3401 2) iv_Bz) true 0 0 (.inl (some (.int 0)), (iv_wd (iv_uA (iv_cA iv_Az 4 31 0 2048 64) 30 2 1) (iv_uF iv_Fz 3401 2) iv_Bz), true, 0, 0) := by
  exact ⟨11, rfl⟩
set_option maxRecDepth 1000000 in
set_option maxHeartbeats 40000000 in
theorem iv_z13_114 {xs : Nat → Int32} : iv_G 6 xs 15 114 0 [(0, .ref 29), (1, .ref 34), (2, .int 0), (3, .int 0), (4, .int 1)] [] (iv_wd (iv_uA (iv_cA iv_Az 4 31 0 2048 64) 30 2 1) (iv_uF iv_Fz 3401 2) iv_Bz) true 0 0 (.inl (none), (iv_wd (iv_uA (iv_cA iv_Az 4 31 0 2048 64) 30 2 1) (iv_uF iv_Fz 3401 2) iv_Bz), true, 0, 0) := by
  refine iv_Gm 3 (pc2 := 3) (lv2 := [(0, .ref 29), (1, .ref 34), (2, .int 0), (3, .int 0), (4, .int 1)]) (st2 := [.int 0, .int 0, .ref 34]) (w2 := (iv_wd (iv_uA (iv_cA iv_Az 4 31 0 2048 64) 30 2 1) (iv_uF iv_Fz 3401 2) iv_Bz)) rfl ?_
  refine iv_Gcall (ν := 92) (c := 3) (as := [.ref 34, .int 0, .int 0]) (rest := []) (w2 := (iv_wd (iv_uA (iv_cA iv_Az 4 31 0 2048 64) 30 2 1) (iv_uF iv_Fz 3401 2) iv_Bz)) (tg2 := true) (k2 := 0) (z2 := 0) (v := (some (.int 0))) rfl rfl rfl rfl rfl rfl rfl (Nat.le_of_ble_eq_true rfl) rfl ?_ ?_
  · exact iv_z12_92
  show iv_G _ _ _ _ 6 [(0, .ref 29), (1, .ref 34), (2, .int 0), (3, .int 0), (4, .int 1)] [.int 0] (iv_wd (iv_uA (iv_cA iv_Az 4 31 0 2048 64) 30 2 1) (iv_uF iv_Fz 3401 2) iv_Bz) true _ _ _
  refine iv_Gm 5 (pc2 := 74) (lv2 := [(5, .int 0), (0, .ref 29), (1, .ref 34), (2, .int 0), (3, .int 0), (4, .int 1)]) (st2 := []) (w2 := (iv_wd (iv_uA (iv_cA iv_Az 4 31 0 2048 64) 30 2 1) (iv_uF iv_Fz 3401 2) iv_Bz)) rfl ?_
  exact iv_Gret rfl rfl rfl
set_option maxRecDepth 1000000 in
set_option maxHeartbeats 40000000 in
theorem iv_z14_92 {xs : Nat → Int32} : iv_G 6 xs 15 92 0 [(0, .ref 34), (1, .int 1), (2, .int 0)] [] (iv_wd (iv_uA (iv_cA iv_Az 4 31 0 2048 64) 30 2 1) (iv_uF iv_Fz 3401 2) iv_Bz) true 0 0 (.inl (some (.int 0)), (iv_wd (iv_uA (iv_cA iv_Az 4 31 0 2048 64) 30 2 1) (iv_uF iv_Fz 3401 2) iv_Bz), true, 0, 0) := by
  exact ⟨11, rfl⟩
set_option maxRecDepth 1000000 in
set_option maxHeartbeats 40000000 in
theorem iv_z15_92 {xs : Nat → Int32} : iv_G 6 xs 14 92 0 [(0, .ref 34), (1, .int 1), (2, .int 0)] [] (iv_wd (iv_uA (iv_cA iv_Az 4 31 0 2048 64) 30 2 1) (iv_uF iv_Fz 3401 2) iv_Bz) true 0 0 (.inl (some (.int 0)), (iv_wd (iv_uA (iv_cA iv_Az 4 31 0 2048 64) 30 2 1) (iv_uF iv_Fz 3401 2) iv_Bz), true, 0, 0) := by
  exact ⟨11, rfl⟩
set_option maxRecDepth 1000000 in
set_option maxHeartbeats 40000000 in
theorem iv_z16_92 {xs : Nat → Int32} : iv_G 6 xs 14 92 0 [(0, .ref 34), (1, .int 1), (2, .int 0)] [] (iv_wd (iv_uA (iv_cA iv_Az 4 31 0 2048 64) 30 2 1) (iv_uF iv_Fz 3401 2) iv_Bz) true 0 0 (.inl (some (.int 0)), (iv_wd (iv_uA (iv_cA iv_Az 4 31 0 2048 64) 30 2 1) (iv_uF iv_Fz 3401 2) iv_Bz), true, 0, 0) := by
  exact ⟨11, rfl⟩
set_option maxRecDepth 1000000 in
set_option maxHeartbeats 40000000 in
theorem iv_z17_112 {xs : Nat → Int32} : iv_G 6 xs 15 112 0 [(0, .ref 29), (1, .ref 34), (2, .int 1), (3, .int 1)] [] (iv_wd (iv_uA (iv_cA iv_Az 4 31 0 2048 64) 30 2 1) (iv_uF iv_Fz 3401 2) iv_Bz) true 0 0 (.inl (some (.int 0)), (iv_wd (iv_uA (iv_cA iv_Az 4 31 0 2048 64) 30 2 1) (iv_uF iv_Fz 3401 2) iv_Bz), true, 0, 0) := by
  refine iv_Gm 3 (pc2 := 3) (lv2 := [(0, .ref 29), (1, .ref 34), (2, .int 1), (3, .int 1)]) (st2 := [.int 0, .int 1, .ref 34]) (w2 := (iv_wd (iv_uA (iv_cA iv_Az 4 31 0 2048 64) 30 2 1) (iv_uF iv_Fz 3401 2) iv_Bz)) rfl ?_
  refine iv_Gcall (ν := 92) (c := 3) (as := [.ref 34, .int 1, .int 0]) (rest := []) (w2 := (iv_wd (iv_uA (iv_cA iv_Az 4 31 0 2048 64) 30 2 1) (iv_uF iv_Fz 3401 2) iv_Bz)) (tg2 := true) (k2 := 0) (z2 := 0) (v := (some (.int 0))) rfl rfl rfl rfl rfl rfl rfl (Nat.le_of_ble_eq_true rfl) rfl ?_ ?_
  · exact iv_z15_92
  show iv_G _ _ _ _ 6 [(0, .ref 29), (1, .ref 34), (2, .int 1), (3, .int 1)] [.int 0] (iv_wd (iv_uA (iv_cA iv_Az 4 31 0 2048 64) 30 2 1) (iv_uF iv_Fz 3401 2) iv_Bz) true _ _ _
  refine iv_Gm 5 (pc2 := 37) (lv2 := [(0, .ref 29), (1, .ref 34), (2, .int 1), (3, .int 1)]) (st2 := [.int 0, .int 1, .ref 34]) (w2 := (iv_wd (iv_uA (iv_cA iv_Az 4 31 0 2048 64) 30 2 1) (iv_uF iv_Fz 3401 2) iv_Bz)) rfl ?_
  refine iv_Gcall (ν := 92) (c := 3) (as := [.ref 34, .int 1, .int 0]) (rest := []) (w2 := (iv_wd (iv_uA (iv_cA iv_Az 4 31 0 2048 64) 30 2 1) (iv_uF iv_Fz 3401 2) iv_Bz)) (tg2 := true) (k2 := 0) (z2 := 0) (v := (some (.int 0))) rfl rfl rfl rfl rfl rfl rfl (Nat.le_of_ble_eq_true rfl) rfl ?_ ?_
  · exact iv_z16_92
  show iv_G _ _ _ _ 40 [(0, .ref 29), (1, .ref 34), (2, .int 1), (3, .int 1)] [.int 0] (iv_wd (iv_uA (iv_cA iv_Az 4 31 0 2048 64) 30 2 1) (iv_uF iv_Fz 3401 2) iv_Bz) true _ _ _
  refine iv_Gm 3 (pc2 := 49) (lv2 := [(0, .ref 29), (1, .ref 34), (2, .int 1), (3, .int 1)]) (st2 := [.int 0]) (w2 := (iv_wd (iv_uA (iv_cA iv_Az 4 31 0 2048 64) 30 2 1) (iv_uF iv_Fz 3401 2) iv_Bz)) rfl ?_
  exact iv_Gret rfl rfl rfl
set_option maxRecDepth 1000000 in
set_option maxHeartbeats 40000000 in
theorem iv_z18_94 {xs : Nat → Int32} : iv_G 6 xs 15 94 0 [(0, .ref 34), (1, .int 1), (2, .int 1)] [] (iv_wd (iv_uA (iv_cA iv_Az 4 31 0 2048 64) 30 2 1) (iv_uF iv_Fz 3401 2) iv_Bz) true 0 0 (.inl (none), (iv_wd (iv_uA (iv_cA iv_Az 4 31 0 2048 64) 30 2 1) (iv_uF iv_Fz 3401 2) iv_Bz), true, 0, 0) := by
  exact ⟨12, rfl⟩
set_option maxRecDepth 1000000 in
set_option maxHeartbeats 40000000 in
theorem iv_z19_92 {xs : Nat → Int32} : iv_G 6 xs 14 92 0 [(0, .ref 34), (1, .int 1), (2, .int 0)] [] (iv_wd (iv_uA (iv_cA iv_Az 4 31 0 2048 64) 30 2 1) (iv_uF iv_Fz 3401 2) iv_Bz) true 0 0 (.inl (some (.int 0)), (iv_wd (iv_uA (iv_cA iv_Az 4 31 0 2048 64) 30 2 1) (iv_uF iv_Fz 3401 2) iv_Bz), true, 0, 0) := by
  exact ⟨11, rfl⟩
set_option maxRecDepth 1000000 in
set_option maxHeartbeats 40000000 in
theorem iv_z20_114 {xs : Nat → Int32} : iv_G 6 xs 15 114 0 [(0, .ref 29), (1, .ref 34), (2, .int 1), (3, .int 0), (4, .int 1)] [] (iv_wd (iv_uA (iv_cA iv_Az 4 31 0 2048 64) 30 2 1) (iv_uF iv_Fz 3401 2) iv_Bz) true 0 0 (.inl (none), (iv_wd (iv_uA (iv_cA iv_Az 4 31 0 2048 64) 30 2 1) (iv_uF iv_Fz 3401 2) iv_Bz), true, 0, 0) := by
  refine iv_Gm 3 (pc2 := 3) (lv2 := [(0, .ref 29), (1, .ref 34), (2, .int 1), (3, .int 0), (4, .int 1)]) (st2 := [.int 0, .int 1, .ref 34]) (w2 := (iv_wd (iv_uA (iv_cA iv_Az 4 31 0 2048 64) 30 2 1) (iv_uF iv_Fz 3401 2) iv_Bz)) rfl ?_
  refine iv_Gcall (ν := 92) (c := 3) (as := [.ref 34, .int 1, .int 0]) (rest := []) (w2 := (iv_wd (iv_uA (iv_cA iv_Az 4 31 0 2048 64) 30 2 1) (iv_uF iv_Fz 3401 2) iv_Bz)) (tg2 := true) (k2 := 0) (z2 := 0) (v := (some (.int 0))) rfl rfl rfl rfl rfl rfl rfl (Nat.le_of_ble_eq_true rfl) rfl ?_ ?_
  · exact iv_z19_92
  show iv_G _ _ _ _ 6 [(0, .ref 29), (1, .ref 34), (2, .int 1), (3, .int 0), (4, .int 1)] [.int 0] (iv_wd (iv_uA (iv_cA iv_Az 4 31 0 2048 64) 30 2 1) (iv_uF iv_Fz 3401 2) iv_Bz) true _ _ _
  refine iv_Gm 5 (pc2 := 74) (lv2 := [(5, .int 0), (0, .ref 29), (1, .ref 34), (2, .int 1), (3, .int 0), (4, .int 1)]) (st2 := []) (w2 := (iv_wd (iv_uA (iv_cA iv_Az 4 31 0 2048 64) 30 2 1) (iv_uF iv_Fz 3401 2) iv_Bz)) rfl ?_
  exact iv_Gret rfl rfl rfl
set_option maxRecDepth 1000000 in
set_option maxHeartbeats 40000000 in
theorem iv_z21_92 {xs : Nat → Int32} : iv_G 6 xs 15 92 0 [(0, .ref 34), (1, .int 2), (2, .int 0)] [] (iv_wd (iv_uA (iv_cA iv_Az 4 31 0 2048 64) 30 2 1) (iv_uF iv_Fz 3401 2) iv_Bz) true 0 0 (.inl (some (.int 0)), (iv_wd (iv_uA (iv_cA iv_Az 4 31 0 2048 64) 30 2 1) (iv_uF iv_Fz 3401 2) iv_Bz), true, 0, 0) := by
  exact ⟨11, rfl⟩
set_option maxRecDepth 1000000 in
set_option maxHeartbeats 40000000 in
theorem iv_z22_92 {xs : Nat → Int32} : iv_G 6 xs 14 92 0 [(0, .ref 34), (1, .int 2), (2, .int 0)] [] (iv_wd (iv_uA (iv_cA iv_Az 4 31 0 2048 64) 30 2 1) (iv_uF iv_Fz 3401 2) iv_Bz) true 0 0 (.inl (some (.int 0)), (iv_wd (iv_uA (iv_cA iv_Az 4 31 0 2048 64) 30 2 1) (iv_uF iv_Fz 3401 2) iv_Bz), true, 0, 0) := by
  exact ⟨11, rfl⟩
set_option maxRecDepth 1000000 in
set_option maxHeartbeats 40000000 in
theorem iv_z23_92 {xs : Nat → Int32} : iv_G 6 xs 14 92 0 [(0, .ref 34), (1, .int 2), (2, .int 0)] [] (iv_wd (iv_uA (iv_cA iv_Az 4 31 0 2048 64) 30 2 1) (iv_uF iv_Fz 3401 2) iv_Bz) true 0 0 (.inl (some (.int 0)), (iv_wd (iv_uA (iv_cA iv_Az 4 31 0 2048 64) 30 2 1) (iv_uF iv_Fz 3401 2) iv_Bz), true, 0, 0) := by
  exact ⟨11, rfl⟩
set_option maxRecDepth 1000000 in
set_option maxHeartbeats 40000000 in
theorem iv_z24_112 {xs : Nat → Int32} : iv_G 6 xs 15 112 0 [(0, .ref 29), (1, .ref 34), (2, .int 2), (3, .int 1)] [] (iv_wd (iv_uA (iv_cA iv_Az 4 31 0 2048 64) 30 2 1) (iv_uF iv_Fz 3401 2) iv_Bz) true 0 0 (.inl (some (.int 0)), (iv_wd (iv_uA (iv_cA iv_Az 4 31 0 2048 64) 30 2 1) (iv_uF iv_Fz 3401 2) iv_Bz), true, 0, 0) := by
  refine iv_Gm 3 (pc2 := 3) (lv2 := [(0, .ref 29), (1, .ref 34), (2, .int 2), (3, .int 1)]) (st2 := [.int 0, .int 2, .ref 34]) (w2 := (iv_wd (iv_uA (iv_cA iv_Az 4 31 0 2048 64) 30 2 1) (iv_uF iv_Fz 3401 2) iv_Bz)) rfl ?_
  refine iv_Gcall (ν := 92) (c := 3) (as := [.ref 34, .int 2, .int 0]) (rest := []) (w2 := (iv_wd (iv_uA (iv_cA iv_Az 4 31 0 2048 64) 30 2 1) (iv_uF iv_Fz 3401 2) iv_Bz)) (tg2 := true) (k2 := 0) (z2 := 0) (v := (some (.int 0))) rfl rfl rfl rfl rfl rfl rfl (Nat.le_of_ble_eq_true rfl) rfl ?_ ?_
  · exact iv_z22_92
  show iv_G _ _ _ _ 6 [(0, .ref 29), (1, .ref 34), (2, .int 2), (3, .int 1)] [.int 0] (iv_wd (iv_uA (iv_cA iv_Az 4 31 0 2048 64) 30 2 1) (iv_uF iv_Fz 3401 2) iv_Bz) true _ _ _
  refine iv_Gm 5 (pc2 := 37) (lv2 := [(0, .ref 29), (1, .ref 34), (2, .int 2), (3, .int 1)]) (st2 := [.int 0, .int 2, .ref 34]) (w2 := (iv_wd (iv_uA (iv_cA iv_Az 4 31 0 2048 64) 30 2 1) (iv_uF iv_Fz 3401 2) iv_Bz)) rfl ?_
  refine iv_Gcall (ν := 92) (c := 3) (as := [.ref 34, .int 2, .int 0]) (rest := []) (w2 := (iv_wd (iv_uA (iv_cA iv_Az 4 31 0 2048 64) 30 2 1) (iv_uF iv_Fz 3401 2) iv_Bz)) (tg2 := true) (k2 := 0) (z2 := 0) (v := (some (.int 0))) rfl rfl rfl rfl rfl rfl rfl (Nat.le_of_ble_eq_true rfl) rfl ?_ ?_
  · exact iv_z23_92
  show iv_G _ _ _ _ 40 [(0, .ref 29), (1, .ref 34), (2, .int 2), (3, .int 1)] [.int 0] (iv_wd (iv_uA (iv_cA iv_Az 4 31 0 2048 64) 30 2 1) (iv_uF iv_Fz 3401 2) iv_Bz) true _ _ _
  refine iv_Gm 3 (pc2 := 49) (lv2 := [(0, .ref 29), (1, .ref 34), (2, .int 2), (3, .int 1)]) (st2 := [.int 0]) (w2 := (iv_wd (iv_uA (iv_cA iv_Az 4 31 0 2048 64) 30 2 1) (iv_uF iv_Fz 3401 2) iv_Bz)) rfl ?_
  exact iv_Gret rfl rfl rfl
set_option maxRecDepth 1000000 in
set_option maxHeartbeats 40000000 in
theorem iv_z25_94 {xs : Nat → Int32} : iv_G 6 xs 15 94 0 [(0, .ref 34), (1, .int 2), (2, .int 2)] [] (iv_wd (iv_uA (iv_cA iv_Az 4 31 0 2048 64) 30 2 1) (iv_uF iv_Fz 3401 2) iv_Bz) true 0 0 (.inl (none), (iv_wd (iv_uA (iv_cA iv_Az 4 31 0 2048 64) 30 2 1) (iv_uF iv_Fz 3401 2) iv_Bz), true, 0, 0) := by
  exact ⟨12, rfl⟩
set_option maxRecDepth 1000000 in
set_option maxHeartbeats 40000000 in
theorem iv_z26_92 {xs : Nat → Int32} : iv_G 6 xs 14 92 0 [(0, .ref 34), (1, .int 2), (2, .int 0)] [] (iv_wd (iv_uA (iv_cA iv_Az 4 31 0 2048 64) 30 2 1) (iv_uF iv_Fz 3401 2) iv_Bz) true 0 0 (.inl (some (.int 0)), (iv_wd (iv_uA (iv_cA iv_Az 4 31 0 2048 64) 30 2 1) (iv_uF iv_Fz 3401 2) iv_Bz), true, 0, 0) := by
  exact ⟨11, rfl⟩
set_option maxRecDepth 1000000 in
set_option maxHeartbeats 40000000 in
theorem iv_z27_114 {xs : Nat → Int32} : iv_G 6 xs 15 114 0 [(0, .ref 29), (1, .ref 34), (2, .int 2), (3, .int 0), (4, .int 1)] [] (iv_wd (iv_uA (iv_cA iv_Az 4 31 0 2048 64) 30 2 1) (iv_uF iv_Fz 3401 2) iv_Bz) true 0 0 (.inl (none), (iv_wd (iv_uA (iv_cA iv_Az 4 31 0 2048 64) 30 2 1) (iv_uF iv_Fz 3401 2) iv_Bz), true, 0, 0) := by
  refine iv_Gm 3 (pc2 := 3) (lv2 := [(0, .ref 29), (1, .ref 34), (2, .int 2), (3, .int 0), (4, .int 1)]) (st2 := [.int 0, .int 2, .ref 34]) (w2 := (iv_wd (iv_uA (iv_cA iv_Az 4 31 0 2048 64) 30 2 1) (iv_uF iv_Fz 3401 2) iv_Bz)) rfl ?_
  refine iv_Gcall (ν := 92) (c := 3) (as := [.ref 34, .int 2, .int 0]) (rest := []) (w2 := (iv_wd (iv_uA (iv_cA iv_Az 4 31 0 2048 64) 30 2 1) (iv_uF iv_Fz 3401 2) iv_Bz)) (tg2 := true) (k2 := 0) (z2 := 0) (v := (some (.int 0))) rfl rfl rfl rfl rfl rfl rfl (Nat.le_of_ble_eq_true rfl) rfl ?_ ?_
  · exact iv_z26_92
  show iv_G _ _ _ _ 6 [(0, .ref 29), (1, .ref 34), (2, .int 2), (3, .int 0), (4, .int 1)] [.int 0] (iv_wd (iv_uA (iv_cA iv_Az 4 31 0 2048 64) 30 2 1) (iv_uF iv_Fz 3401 2) iv_Bz) true _ _ _
  refine iv_Gm 5 (pc2 := 74) (lv2 := [(5, .int 0), (0, .ref 29), (1, .ref 34), (2, .int 2), (3, .int 0), (4, .int 1)]) (st2 := []) (w2 := (iv_wd (iv_uA (iv_cA iv_Az 4 31 0 2048 64) 30 2 1) (iv_uF iv_Fz 3401 2) iv_Bz)) rfl ?_
  exact iv_Gret rfl rfl rfl
set_option maxRecDepth 1000000 in
set_option maxHeartbeats 40000000 in
theorem iv_z28_92 {xs : Nat → Int32} : iv_G 6 xs 15 92 0 [(0, .ref 34), (1, .int 3), (2, .int 0)] [] (iv_wd (iv_uA (iv_cA iv_Az 4 31 0 2048 64) 30 2 1) (iv_uF iv_Fz 3401 2) iv_Bz) true 0 0 (.inl (some (.int 0)), (iv_wd (iv_uA (iv_cA iv_Az 4 31 0 2048 64) 30 2 1) (iv_uF iv_Fz 3401 2) iv_Bz), true, 0, 0) := by
  exact ⟨11, rfl⟩
set_option maxRecDepth 1000000 in
set_option maxHeartbeats 40000000 in
theorem iv_z29_92 {xs : Nat → Int32} : iv_G 6 xs 14 92 0 [(0, .ref 34), (1, .int 3), (2, .int 0)] [] (iv_wd (iv_uA (iv_cA iv_Az 4 31 0 2048 64) 30 2 1) (iv_uF iv_Fz 3401 2) iv_Bz) true 0 0 (.inl (some (.int 0)), (iv_wd (iv_uA (iv_cA iv_Az 4 31 0 2048 64) 30 2 1) (iv_uF iv_Fz 3401 2) iv_Bz), true, 0, 0) := by
  exact ⟨11, rfl⟩
set_option maxRecDepth 1000000 in
set_option maxHeartbeats 40000000 in
theorem iv_z30_92 {xs : Nat → Int32} : iv_G 6 xs 14 92 0 [(0, .ref 34), (1, .int 3), (2, .int 0)] [] (iv_wd (iv_uA (iv_cA iv_Az 4 31 0 2048 64) 30 2 1) (iv_uF iv_Fz 3401 2) iv_Bz) true 0 0 (.inl (some (.int 0)), (iv_wd (iv_uA (iv_cA iv_Az 4 31 0 2048 64) 30 2 1) (iv_uF iv_Fz 3401 2) iv_Bz), true, 0, 0) := by
  exact ⟨11, rfl⟩
set_option maxRecDepth 1000000 in
set_option maxHeartbeats 40000000 in
theorem iv_z31_112 {xs : Nat → Int32} : iv_G 6 xs 15 112 0 [(0, .ref 29), (1, .ref 34), (2, .int 3), (3, .int 1)] [] (iv_wd (iv_uA (iv_cA iv_Az 4 31 0 2048 64) 30 2 1) (iv_uF iv_Fz 3401 2) iv_Bz) true 0 0 (.inl (some (.int 0)), (iv_wd (iv_uA (iv_cA iv_Az 4 31 0 2048 64) 30 2 1) (iv_uF iv_Fz 3401 2) iv_Bz), true, 0, 0) := by
  refine iv_Gm 3 (pc2 := 3) (lv2 := [(0, .ref 29), (1, .ref 34), (2, .int 3), (3, .int 1)]) (st2 := [.int 0, .int 3, .ref 34]) (w2 := (iv_wd (iv_uA (iv_cA iv_Az 4 31 0 2048 64) 30 2 1) (iv_uF iv_Fz 3401 2) iv_Bz)) rfl ?_
  refine iv_Gcall (ν := 92) (c := 3) (as := [.ref 34, .int 3, .int 0]) (rest := []) (w2 := (iv_wd (iv_uA (iv_cA iv_Az 4 31 0 2048 64) 30 2 1) (iv_uF iv_Fz 3401 2) iv_Bz)) (tg2 := true) (k2 := 0) (z2 := 0) (v := (some (.int 0))) rfl rfl rfl rfl rfl rfl rfl (Nat.le_of_ble_eq_true rfl) rfl ?_ ?_
  · exact iv_z29_92
  show iv_G _ _ _ _ 6 [(0, .ref 29), (1, .ref 34), (2, .int 3), (3, .int 1)] [.int 0] (iv_wd (iv_uA (iv_cA iv_Az 4 31 0 2048 64) 30 2 1) (iv_uF iv_Fz 3401 2) iv_Bz) true _ _ _
  refine iv_Gm 5 (pc2 := 37) (lv2 := [(0, .ref 29), (1, .ref 34), (2, .int 3), (3, .int 1)]) (st2 := [.int 0, .int 3, .ref 34]) (w2 := (iv_wd (iv_uA (iv_cA iv_Az 4 31 0 2048 64) 30 2 1) (iv_uF iv_Fz 3401 2) iv_Bz)) rfl ?_
  refine iv_Gcall (ν := 92) (c := 3) (as := [.ref 34, .int 3, .int 0]) (rest := []) (w2 := (iv_wd (iv_uA (iv_cA iv_Az 4 31 0 2048 64) 30 2 1) (iv_uF iv_Fz 3401 2) iv_Bz)) (tg2 := true) (k2 := 0) (z2 := 0) (v := (some (.int 0))) rfl rfl rfl rfl rfl rfl rfl (Nat.le_of_ble_eq_true rfl) rfl ?_ ?_
  · exact iv_z30_92
  show iv_G _ _ _ _ 40 [(0, .ref 29), (1, .ref 34), (2, .int 3), (3, .int 1)] [.int 0] (iv_wd (iv_uA (iv_cA iv_Az 4 31 0 2048 64) 30 2 1) (iv_uF iv_Fz 3401 2) iv_Bz) true _ _ _
  refine iv_Gm 3 (pc2 := 49) (lv2 := [(0, .ref 29), (1, .ref 34), (2, .int 3), (3, .int 1)]) (st2 := [.int 0]) (w2 := (iv_wd (iv_uA (iv_cA iv_Az 4 31 0 2048 64) 30 2 1) (iv_uF iv_Fz 3401 2) iv_Bz)) rfl ?_
  exact iv_Gret rfl rfl rfl
set_option maxRecDepth 1000000 in
set_option maxHeartbeats 40000000 in
theorem iv_z32_94 {xs : Nat → Int32} : iv_G 6 xs 15 94 0 [(0, .ref 34), (1, .int 3), (2, .int 3)] [] (iv_wd (iv_uA (iv_cA iv_Az 4 31 0 2048 64) 30 2 1) (iv_uF iv_Fz 3401 2) iv_Bz) true 0 0 (.inl (none), (iv_wd (iv_uA (iv_cA iv_Az 4 31 0 2048 64) 30 2 1) (iv_uF iv_Fz 3401 2) iv_Bz), true, 0, 0) := by
  exact ⟨12, rfl⟩
set_option maxRecDepth 1000000 in
set_option maxHeartbeats 40000000 in
theorem iv_z33_92 {xs : Nat → Int32} : iv_G 6 xs 14 92 0 [(0, .ref 34), (1, .int 3), (2, .int 0)] [] (iv_wd (iv_uA (iv_cA iv_Az 4 31 0 2048 64) 30 2 1) (iv_uF iv_Fz 3401 2) iv_Bz) true 0 0 (.inl (some (.int 0)), (iv_wd (iv_uA (iv_cA iv_Az 4 31 0 2048 64) 30 2 1) (iv_uF iv_Fz 3401 2) iv_Bz), true, 0, 0) := by
  exact ⟨11, rfl⟩
set_option maxRecDepth 1000000 in
set_option maxHeartbeats 40000000 in
theorem iv_z34_114 {xs : Nat → Int32} : iv_G 6 xs 15 114 0 [(0, .ref 29), (1, .ref 34), (2, .int 3), (3, .int 0), (4, .int 1)] [] (iv_wd (iv_uA (iv_cA iv_Az 4 31 0 2048 64) 30 2 1) (iv_uF iv_Fz 3401 2) iv_Bz) true 0 0 (.inl (none), (iv_wd (iv_uA (iv_cA iv_Az 4 31 0 2048 64) 30 2 1) (iv_uF iv_Fz 3401 2) iv_Bz), true, 0, 0) := by
  refine iv_Gm 3 (pc2 := 3) (lv2 := [(0, .ref 29), (1, .ref 34), (2, .int 3), (3, .int 0), (4, .int 1)]) (st2 := [.int 0, .int 3, .ref 34]) (w2 := (iv_wd (iv_uA (iv_cA iv_Az 4 31 0 2048 64) 30 2 1) (iv_uF iv_Fz 3401 2) iv_Bz)) rfl ?_
  refine iv_Gcall (ν := 92) (c := 3) (as := [.ref 34, .int 3, .int 0]) (rest := []) (w2 := (iv_wd (iv_uA (iv_cA iv_Az 4 31 0 2048 64) 30 2 1) (iv_uF iv_Fz 3401 2) iv_Bz)) (tg2 := true) (k2 := 0) (z2 := 0) (v := (some (.int 0))) rfl rfl rfl rfl rfl rfl rfl (Nat.le_of_ble_eq_true rfl) rfl ?_ ?_
  · exact iv_z33_92
  show iv_G _ _ _ _ 6 [(0, .ref 29), (1, .ref 34), (2, .int 3), (3, .int 0), (4, .int 1)] [.int 0] (iv_wd (iv_uA (iv_cA iv_Az 4 31 0 2048 64) 30 2 1) (iv_uF iv_Fz 3401 2) iv_Bz) true _ _ _
  refine iv_Gm 5 (pc2 := 74) (lv2 := [(5, .int 0), (0, .ref 29), (1, .ref 34), (2, .int 3), (3, .int 0), (4, .int 1)]) (st2 := []) (w2 := (iv_wd (iv_uA (iv_cA iv_Az 4 31 0 2048 64) 30 2 1) (iv_uF iv_Fz 3401 2) iv_Bz)) rfl ?_
  exact iv_Gret rfl rfl rfl
set_option maxRecDepth 1000000 in
set_option maxHeartbeats 40000000 in
theorem iv_z35_92 {xs : Nat → Int32} : iv_G 6 xs 15 92 0 [(0, .ref 34), (1, .int 4), (2, .int 0)] [] (iv_wd (iv_uA (iv_cA iv_Az 4 31 0 2048 64) 30 2 1) (iv_uF iv_Fz 3401 2) iv_Bz) true 0 0 (.inl (some (.int 0)), (iv_wd (iv_uA (iv_cA iv_Az 4 31 0 2048 64) 30 2 1) (iv_uF iv_Fz 3401 2) iv_Bz), true, 0, 0) := by
  exact ⟨11, rfl⟩
set_option maxRecDepth 1000000 in
set_option maxHeartbeats 40000000 in
theorem iv_z36_92 {xs : Nat → Int32} : iv_G 6 xs 14 92 0 [(0, .ref 34), (1, .int 4), (2, .int 0)] [] (iv_wd (iv_uA (iv_cA iv_Az 4 31 0 2048 64) 30 2 1) (iv_uF iv_Fz 3401 2) iv_Bz) true 0 0 (.inl (some (.int 0)), (iv_wd (iv_uA (iv_cA iv_Az 4 31 0 2048 64) 30 2 1) (iv_uF iv_Fz 3401 2) iv_Bz), true, 0, 0) := by
  exact ⟨11, rfl⟩
set_option maxRecDepth 1000000 in
set_option maxHeartbeats 40000000 in
theorem iv_z37_92 {xs : Nat → Int32} : iv_G 6 xs 14 92 0 [(0, .ref 34), (1, .int 4), (2, .int 0)] [] (iv_wd (iv_uA (iv_cA iv_Az 4 31 0 2048 64) 30 2 1) (iv_uF iv_Fz 3401 2) iv_Bz) true 0 0 (.inl (some (.int 0)), (iv_wd (iv_uA (iv_cA iv_Az 4 31 0 2048 64) 30 2 1) (iv_uF iv_Fz 3401 2) iv_Bz), true, 0, 0) := by
  exact ⟨11, rfl⟩
set_option maxRecDepth 1000000 in
set_option maxHeartbeats 40000000 in
theorem iv_z38_112 {xs : Nat → Int32} : iv_G 6 xs 15 112 0 [(0, .ref 29), (1, .ref 34), (2, .int 4), (3, .int 1)] [] (iv_wd (iv_uA (iv_cA iv_Az 4 31 0 2048 64) 30 2 1) (iv_uF iv_Fz 3401 2) iv_Bz) true 0 0 (.inl (some (.int 0)), (iv_wd (iv_uA (iv_cA iv_Az 4 31 0 2048 64) 30 2 1) (iv_uF iv_Fz 3401 2) iv_Bz), true, 0, 0) := by
  refine iv_Gm 3 (pc2 := 3) (lv2 := [(0, .ref 29), (1, .ref 34), (2, .int 4), (3, .int 1)]) (st2 := [.int 0, .int 4, .ref 34]) (w2 := (iv_wd (iv_uA (iv_cA iv_Az 4 31 0 2048 64) 30 2 1) (iv_uF iv_Fz 3401 2) iv_Bz)) rfl ?_
  refine iv_Gcall (ν := 92) (c := 3) (as := [.ref 34, .int 4, .int 0]) (rest := []) (w2 := (iv_wd (iv_uA (iv_cA iv_Az 4 31 0 2048 64) 30 2 1) (iv_uF iv_Fz 3401 2) iv_Bz)) (tg2 := true) (k2 := 0) (z2 := 0) (v := (some (.int 0))) rfl rfl rfl rfl rfl rfl rfl (Nat.le_of_ble_eq_true rfl) rfl ?_ ?_
  · exact iv_z36_92
  show iv_G _ _ _ _ 6 [(0, .ref 29), (1, .ref 34), (2, .int 4), (3, .int 1)] [.int 0] (iv_wd (iv_uA (iv_cA iv_Az 4 31 0 2048 64) 30 2 1) (iv_uF iv_Fz 3401 2) iv_Bz) true _ _ _
  refine iv_Gm 5 (pc2 := 37) (lv2 := [(0, .ref 29), (1, .ref 34), (2, .int 4), (3, .int 1)]) (st2 := [.int 0, .int 4, .ref 34]) (w2 := (iv_wd (iv_uA (iv_cA iv_Az 4 31 0 2048 64) 30 2 1) (iv_uF iv_Fz 3401 2) iv_Bz)) rfl ?_
  refine iv_Gcall (ν := 92) (c := 3) (as := [.ref 34, .int 4, .int 0]) (rest := []) (w2 := (iv_wd (iv_uA (iv_cA iv_Az 4 31 0 2048 64) 30 2 1) (iv_uF iv_Fz 3401 2) iv_Bz)) (tg2 := true) (k2 := 0) (z2 := 0) (v := (some (.int 0))) rfl rfl rfl rfl rfl rfl rfl (Nat.le_of_ble_eq_true rfl) rfl ?_ ?_
  · exact iv_z37_92
  show iv_G _ _ _ _ 40 [(0, .ref 29), (1, .ref 34), (2, .int 4), (3, .int 1)] [.int 0] (iv_wd (iv_uA (iv_cA iv_Az 4 31 0 2048 64) 30 2 1) (iv_uF iv_Fz 3401 2) iv_Bz) true _ _ _
  refine iv_Gm 3 (pc2 := 49) (lv2 := [(0, .ref 29), (1, .ref 34), (2, .int 4), (3, .int 1)]) (st2 := [.int 0]) (w2 := (iv_wd (iv_uA (iv_cA iv_Az 4 31 0 2048 64) 30 2 1) (iv_uF iv_Fz 3401 2) iv_Bz)) rfl ?_
  exact iv_Gret rfl rfl rfl
set_option maxRecDepth 1000000 in
set_option maxHeartbeats 40000000 in
theorem iv_z39_94 {xs : Nat → Int32} : iv_G 6 xs 15 94 0 [(0, .ref 34), (1, .int 4), (2, .int 4)] [] (iv_wd (iv_uA (iv_cA iv_Az 4 31 0 2048 64) 30 2 1) (iv_uF iv_Fz 3401 2) iv_Bz) true 0 0 (.inl (none), (iv_wd (iv_uA (iv_cA iv_Az 4 31 0 2048 64) 30 2 1) (iv_uF iv_Fz 3401 2) iv_Bz), true, 0, 0) := by
  exact ⟨12, rfl⟩
set_option maxRecDepth 1000000 in
set_option maxHeartbeats 40000000 in
theorem iv_z40_92 {xs : Nat → Int32} : iv_G 6 xs 14 92 0 [(0, .ref 34), (1, .int 4), (2, .int 0)] [] (iv_wd (iv_uA (iv_cA iv_Az 4 31 0 2048 64) 30 2 1) (iv_uF iv_Fz 3401 2) iv_Bz) true 0 0 (.inl (some (.int 0)), (iv_wd (iv_uA (iv_cA iv_Az 4 31 0 2048 64) 30 2 1) (iv_uF iv_Fz 3401 2) iv_Bz), true, 0, 0) := by
  exact ⟨11, rfl⟩
set_option maxRecDepth 1000000 in
set_option maxHeartbeats 40000000 in
theorem iv_z41_114 {xs : Nat → Int32} : iv_G 6 xs 15 114 0 [(0, .ref 29), (1, .ref 34), (2, .int 4), (3, .int 0), (4, .int 1)] [] (iv_wd (iv_uA (iv_cA iv_Az 4 31 0 2048 64) 30 2 1) (iv_uF iv_Fz 3401 2) iv_Bz) true 0 0 (.inl (none), (iv_wd (iv_uA (iv_cA iv_Az 4 31 0 2048 64) 30 2 1) (iv_uF iv_Fz 3401 2) iv_Bz), true, 0, 0) := by
  refine iv_Gm 3 (pc2 := 3) (lv2 := [(0, .ref 29), (1, .ref 34), (2, .int 4), (3, .int 0), (4, .int 1)]) (st2 := [.int 0, .int 4, .ref 34]) (w2 := (iv_wd (iv_uA (iv_cA iv_Az 4 31 0 2048 64) 30 2 1) (iv_uF iv_Fz 3401 2) iv_Bz)) rfl ?_
  refine iv_Gcall (ν := 92) (c := 3) (as := [.ref 34, .int 4, .int 0]) (rest := []) (w2 := (iv_wd (iv_uA (iv_cA iv_Az 4 31 0 2048 64) 30 2 1) (iv_uF iv_Fz 3401 2) iv_Bz)) (tg2 := true) (k2 := 0) (z2 := 0) (v := (some (.int 0))) rfl rfl rfl rfl rfl rfl rfl (Nat.le_of_ble_eq_true rfl) rfl ?_ ?_
  · exact iv_z40_92
  show iv_G _ _ _ _ 6 [(0, .ref 29), (1, .ref 34), (2, .int 4), (3, .int 0), (4, .int 1)] [.int 0] (iv_wd (iv_uA (iv_cA iv_Az 4 31 0 2048 64) 30 2 1) (iv_uF iv_Fz 3401 2) iv_Bz) true _ _ _
  refine iv_Gm 5 (pc2 := 74) (lv2 := [(5, .int 0), (0, .ref 29), (1, .ref 34), (2, .int 4), (3, .int 0), (4, .int 1)]) (st2 := []) (w2 := (iv_wd (iv_uA (iv_cA iv_Az 4 31 0 2048 64) 30 2 1) (iv_uF iv_Fz 3401 2) iv_Bz)) rfl ?_
  exact iv_Gret rfl rfl rfl
set_option maxRecDepth 1000000 in
set_option maxHeartbeats 40000000 in
theorem iv_z42_92 {xs : Nat → Int32} : iv_G 6 xs 15 92 0 [(0, .ref 34), (1, .int 5), (2, .int 0)] [] (iv_wd (iv_uA (iv_cA iv_Az 4 31 0 2048 64) 30 2 1) (iv_uF iv_Fz 3401 2) iv_Bz) true 0 0 (.inl (some (.int 0)), (iv_wd (iv_uA (iv_cA iv_Az 4 31 0 2048 64) 30 2 1) (iv_uF iv_Fz 3401 2) iv_Bz), true, 0, 0) := by
  exact ⟨11, rfl⟩
set_option maxRecDepth 1000000 in
set_option maxHeartbeats 40000000 in
theorem iv_z43_92 {xs : Nat → Int32} : iv_G 6 xs 14 92 0 [(0, .ref 34), (1, .int 5), (2, .int 0)] [] (iv_wd (iv_uA (iv_cA iv_Az 4 31 0 2048 64) 30 2 1) (iv_uF iv_Fz 3401 2) iv_Bz) true 0 0 (.inl (some (.int 0)), (iv_wd (iv_uA (iv_cA iv_Az 4 31 0 2048 64) 30 2 1) (iv_uF iv_Fz 3401 2) iv_Bz), true, 0, 0) := by
  exact ⟨11, rfl⟩
set_option maxRecDepth 1000000 in
set_option maxHeartbeats 40000000 in
theorem iv_z44_92 {xs : Nat → Int32} : iv_G 6 xs 14 92 0 [(0, .ref 34), (1, .int 5), (2, .int 0)] [] (iv_wd (iv_uA (iv_cA iv_Az 4 31 0 2048 64) 30 2 1) (iv_uF iv_Fz 3401 2) iv_Bz) true 0 0 (.inl (some (.int 0)), (iv_wd (iv_uA (iv_cA iv_Az 4 31 0 2048 64) 30 2 1) (iv_uF iv_Fz 3401 2) iv_Bz), true, 0, 0) := by
  exact ⟨11, rfl⟩
set_option maxRecDepth 1000000 in
set_option maxHeartbeats 40000000 in
theorem iv_z45_112 {xs : Nat → Int32} : iv_G 6 xs 15 112 0 [(0, .ref 29), (1, .ref 34), (2, .int 5), (3, .int 1)] [] (iv_wd (iv_uA (iv_cA iv_Az 4 31 0 2048 64) 30 2 1) (iv_uF iv_Fz 3401 2) iv_Bz) true 0 0 (.inl (some (.int 0)), (iv_wd (iv_uA (iv_cA iv_Az 4 31 0 2048 64) 30 2 1) (iv_uF iv_Fz 3401 2) iv_Bz), true, 0, 0) := by
  refine iv_Gm 3 (pc2 := 3) (lv2 := [(0, .ref 29), (1, .ref 34), (2, .int 5), (3, .int 1)]) (st2 := [.int 0, .int 5, .ref 34]) (w2 := (iv_wd (iv_uA (iv_cA iv_Az 4 31 0 2048 64) 30 2 1) (iv_uF iv_Fz 3401 2) iv_Bz)) rfl ?_
  refine iv_Gcall (ν := 92) (c := 3) (as := [.ref 34, .int 5, .int 0]) (rest := []) (w2 := (iv_wd (iv_uA (iv_cA iv_Az 4 31 0 2048 64) 30 2 1) (iv_uF iv_Fz 3401 2) iv_Bz)) (tg2 := true) (k2 := 0) (z2 := 0) (v := (some (.int 0))) rfl rfl rfl rfl rfl rfl rfl (Nat.le_of_ble_eq_true rfl) rfl ?_ ?_
  · exact iv_z43_92
  show iv_G _ _ _ _ 6 [(0, .ref 29), (1, .ref 34), (2, .int 5), (3, .int 1)] [.int 0] (iv_wd (iv_uA (iv_cA iv_Az 4 31 0 2048 64) 30 2 1) (iv_uF iv_Fz 3401 2) iv_Bz) true _ _ _
  refine iv_Gm 5 (pc2 := 37) (lv2 := [(0, .ref 29), (1, .ref 34), (2, .int 5), (3, .int 1)]) (st2 := [.int 0, .int 5, .ref 34]) (w2 := (iv_wd (iv_uA (iv_cA iv_Az 4 31 0 2048 64) 30 2 1) (iv_uF iv_Fz 3401 2) iv_Bz)) rfl ?_
  refine iv_Gcall (ν := 92) (c := 3) (as := [.ref 34, .int 5, .int 0]) (rest := []) (w2 := (iv_wd (iv_uA (iv_cA iv_Az 4 31 0 2048 64) 30 2 1) (iv_uF iv_Fz 3401 2) iv_Bz)) (tg2 := true) (k2 := 0) (z2 := 0) (v := (some (.int 0))) rfl rfl rfl rfl rfl rfl rfl (Nat.le_of_ble_eq_true rfl) rfl ?_ ?_
  · exact iv_z44_92
  show iv_G _ _ _ _ 40 [(0, .ref 29), (1, .ref 34), (2, .int 5), (3, .int 1)] [.int 0] (iv_wd (iv_uA (iv_cA iv_Az 4 31 0 2048 64) 30 2 1) (iv_uF iv_Fz 3401 2) iv_Bz) true _ _ _
  refine iv_Gm 3 (pc2 := 49) (lv2 := [(0, .ref 29), (1, .ref 34), (2, .int 5), (3, .int 1)]) (st2 := [.int 0]) (w2 := (iv_wd (iv_uA (iv_cA iv_Az 4 31 0 2048 64) 30 2 1) (iv_uF iv_Fz 3401 2) iv_Bz)) rfl ?_
  exact iv_Gret rfl rfl rfl
set_option maxRecDepth 1000000 in
set_option maxHeartbeats 40000000 in
theorem iv_z46_94 {xs : Nat → Int32} : iv_G 6 xs 15 94 0 [(0, .ref 34), (1, .int 5), (2, .int 5)] [] (iv_wd (iv_uA (iv_cA iv_Az 4 31 0 2048 64) 30 2 1) (iv_uF iv_Fz 3401 2) iv_Bz) true 0 0 (.inl (none), (iv_wd (iv_uA (iv_cA iv_Az 4 31 0 2048 64) 30 2 1) (iv_uF iv_Fz 3401 2) iv_Bz), true, 0, 0) := by
  exact ⟨12, rfl⟩
set_option maxRecDepth 1000000 in
set_option maxHeartbeats 40000000 in
theorem iv_z47_92 {xs : Nat → Int32} : iv_G 6 xs 14 92 0 [(0, .ref 34), (1, .int 5), (2, .int 0)] [] (iv_wd (iv_uA (iv_cA iv_Az 4 31 0 2048 64) 30 2 1) (iv_uF iv_Fz 3401 2) iv_Bz) true 0 0 (.inl (some (.int 0)), (iv_wd (iv_uA (iv_cA iv_Az 4 31 0 2048 64) 30 2 1) (iv_uF iv_Fz 3401 2) iv_Bz), true, 0, 0) := by
  exact ⟨11, rfl⟩
set_option maxRecDepth 1000000 in
set_option maxHeartbeats 40000000 in
theorem iv_z48_114 {xs : Nat → Int32} : iv_G 6 xs 15 114 0 [(0, .ref 29), (1, .ref 34), (2, .int 5), (3, .int 0), (4, .int 1)] [] (iv_wd (iv_uA (iv_cA iv_Az 4 31 0 2048 64) 30 2 1) (iv_uF iv_Fz 3401 2) iv_Bz) true 0 0 (.inl (none), (iv_wd (iv_uA (iv_cA iv_Az 4 31 0 2048 64) 30 2 1) (iv_uF iv_Fz 3401 2) iv_Bz), true, 0, 0) := by
  refine iv_Gm 3 (pc2 := 3) (lv2 := [(0, .ref 29), (1, .ref 34), (2, .int 5), (3, .int 0), (4, .int 1)]) (st2 := [.int 0, .int 5, .ref 34]) (w2 := (iv_wd (iv_uA (iv_cA iv_Az 4 31 0 2048 64) 30 2 1) (iv_uF iv_Fz 3401 2) iv_Bz)) rfl ?_
  refine iv_Gcall (ν := 92) (c := 3) (as := [.ref 34, .int 5, .int 0]) (rest := []) (w2 := (iv_wd (iv_uA (iv_cA iv_Az 4 31 0 2048 64) 30 2 1) (iv_uF iv_Fz 3401 2) iv_Bz)) (tg2 := true) (k2 := 0) (z2 := 0) (v := (some (.int 0))) rfl rfl rfl rfl rfl rfl rfl (Nat.le_of_ble_eq_true rfl) rfl ?_ ?_
  · exact iv_z47_92
  show iv_G _ _ _ _ 6 [(0, .ref 29), (1, .ref 34), (2, .int 5), (3, .int 0), (4, .int 1)] [.int 0] (iv_wd (iv_uA (iv_cA iv_Az 4 31 0 2048 64) 30 2 1) (iv_uF iv_Fz 3401 2) iv_Bz) true _ _ _
  refine iv_Gm 5 (pc2 := 74) (lv2 := [(5, .int 0), (0, .ref 29), (1, .ref 34), (2, .int 5), (3, .int 0), (4, .int 1)]) (st2 := []) (w2 := (iv_wd (iv_uA (iv_cA iv_Az 4 31 0 2048 64) 30 2 1) (iv_uF iv_Fz 3401 2) iv_Bz)) rfl ?_
  exact iv_Gret rfl rfl rfl
set_option maxRecDepth 1000000 in
set_option maxHeartbeats 40000000 in
theorem iv_z49_92 {xs : Nat → Int32} : iv_G 6 xs 15 92 0 [(0, .ref 34), (1, .int 6), (2, .int 0)] [] (iv_wd (iv_uA (iv_cA iv_Az 4 31 0 2048 64) 30 2 1) (iv_uF iv_Fz 3401 2) iv_Bz) true 0 0 (.inl (some (.int 0)), (iv_wd (iv_uA (iv_cA iv_Az 4 31 0 2048 64) 30 2 1) (iv_uF iv_Fz 3401 2) iv_Bz), true, 0, 0) := by
  exact ⟨11, rfl⟩
set_option maxRecDepth 1000000 in
set_option maxHeartbeats 40000000 in
theorem iv_z50_92 {xs : Nat → Int32} : iv_G 6 xs 14 92 0 [(0, .ref 34), (1, .int 6), (2, .int 0)] [] (iv_wd (iv_uA (iv_cA iv_Az 4 31 0 2048 64) 30 2 1) (iv_uF iv_Fz 3401 2) iv_Bz) true 0 0 (.inl (some (.int 0)), (iv_wd (iv_uA (iv_cA iv_Az 4 31 0 2048 64) 30 2 1) (iv_uF iv_Fz 3401 2) iv_Bz), true, 0, 0) := by
  exact ⟨11, rfl⟩
set_option maxRecDepth 1000000 in
set_option maxHeartbeats 40000000 in
theorem iv_z51_92 {xs : Nat → Int32} : iv_G 6 xs 14 92 0 [(0, .ref 34), (1, .int 6), (2, .int 0)] [] (iv_wd (iv_uA (iv_cA iv_Az 4 31 0 2048 64) 30 2 1) (iv_uF iv_Fz 3401 2) iv_Bz) true 0 0 (.inl (some (.int 0)), (iv_wd (iv_uA (iv_cA iv_Az 4 31 0 2048 64) 30 2 1) (iv_uF iv_Fz 3401 2) iv_Bz), true, 0, 0) := by
  exact ⟨11, rfl⟩
set_option maxRecDepth 1000000 in
set_option maxHeartbeats 40000000 in
theorem iv_z52_112 {xs : Nat → Int32} : iv_G 6 xs 15 112 0 [(0, .ref 29), (1, .ref 34), (2, .int 6), (3, .int 1)] [] (iv_wd (iv_uA (iv_cA iv_Az 4 31 0 2048 64) 30 2 1) (iv_uF iv_Fz 3401 2) iv_Bz) true 0 0 (.inl (some (.int 0)), (iv_wd (iv_uA (iv_cA iv_Az 4 31 0 2048 64) 30 2 1) (iv_uF iv_Fz 3401 2) iv_Bz), true, 0, 0) := by
  refine iv_Gm 3 (pc2 := 3) (lv2 := [(0, .ref 29), (1, .ref 34), (2, .int 6), (3, .int 1)]) (st2 := [.int 0, .int 6, .ref 34]) (w2 := (iv_wd (iv_uA (iv_cA iv_Az 4 31 0 2048 64) 30 2 1) (iv_uF iv_Fz 3401 2) iv_Bz)) rfl ?_
  refine iv_Gcall (ν := 92) (c := 3) (as := [.ref 34, .int 6, .int 0]) (rest := []) (w2 := (iv_wd (iv_uA (iv_cA iv_Az 4 31 0 2048 64) 30 2 1) (iv_uF iv_Fz 3401 2) iv_Bz)) (tg2 := true) (k2 := 0) (z2 := 0) (v := (some (.int 0))) rfl rfl rfl rfl rfl rfl rfl (Nat.le_of_ble_eq_true rfl) rfl ?_ ?_
  · exact iv_z50_92
  show iv_G _ _ _ _ 6 [(0, .ref 29), (1, .ref 34), (2, .int 6), (3, .int 1)] [.int 0] (iv_wd (iv_uA (iv_cA iv_Az 4 31 0 2048 64) 30 2 1) (iv_uF iv_Fz 3401 2) iv_Bz) true _ _ _
  refine iv_Gm 5 (pc2 := 37) (lv2 := [(0, .ref 29), (1, .ref 34), (2, .int 6), (3, .int 1)]) (st2 := [.int 0, .int 6, .ref 34]) (w2 := (iv_wd (iv_uA (iv_cA iv_Az 4 31 0 2048 64) 30 2 1) (iv_uF iv_Fz 3401 2) iv_Bz)) rfl ?_
  refine iv_Gcall (ν := 92) (c := 3) (as := [.ref 34, .int 6, .int 0]) (rest := []) (w2 := (iv_wd (iv_uA (iv_cA iv_Az 4 31 0 2048 64) 30 2 1) (iv_uF iv_Fz 3401 2) iv_Bz)) (tg2 := true) (k2 := 0) (z2 := 0) (v := (some (.int 0))) rfl rfl rfl rfl rfl rfl rfl (Nat.le_of_ble_eq_true rfl) rfl ?_ ?_
  · exact iv_z51_92
  show iv_G _ _ _ _ 40 [(0, .ref 29), (1, .ref 34), (2, .int 6), (3, .int 1)] [.int 0] (iv_wd (iv_uA (iv_cA iv_Az 4 31 0 2048 64) 30 2 1) (iv_uF iv_Fz 3401 2) iv_Bz) true _ _ _
  refine iv_Gm 3 (pc2 := 49) (lv2 := [(0, .ref 29), (1, .ref 34), (2, .int 6), (3, .int 1)]) (st2 := [.int 0]) (w2 := (iv_wd (iv_uA (iv_cA iv_Az 4 31 0 2048 64) 30 2 1) (iv_uF iv_Fz 3401 2) iv_Bz)) rfl ?_
  exact iv_Gret rfl rfl rfl
set_option maxRecDepth 1000000 in
set_option maxHeartbeats 40000000 in
theorem iv_z53_94 {xs : Nat → Int32} : iv_G 6 xs 15 94 0 [(0, .ref 34), (1, .int 6), (2, .int 6)] [] (iv_wd (iv_uA (iv_cA iv_Az 4 31 0 2048 64) 30 2 1) (iv_uF iv_Fz 3401 2) iv_Bz) true 0 0 (.inl (none), (iv_wd (iv_uA (iv_cA iv_Az 4 31 0 2048 64) 30 2 1) (iv_uF iv_Fz 3401 2) iv_Bz), true, 0, 0) := by
  exact ⟨12, rfl⟩
set_option maxRecDepth 1000000 in
set_option maxHeartbeats 40000000 in
theorem iv_z54_92 {xs : Nat → Int32} : iv_G 6 xs 14 92 0 [(0, .ref 34), (1, .int 6), (2, .int 0)] [] (iv_wd (iv_uA (iv_cA iv_Az 4 31 0 2048 64) 30 2 1) (iv_uF iv_Fz 3401 2) iv_Bz) true 0 0 (.inl (some (.int 0)), (iv_wd (iv_uA (iv_cA iv_Az 4 31 0 2048 64) 30 2 1) (iv_uF iv_Fz 3401 2) iv_Bz), true, 0, 0) := by
  exact ⟨11, rfl⟩
set_option maxRecDepth 1000000 in
set_option maxHeartbeats 40000000 in
theorem iv_z55_114 {xs : Nat → Int32} : iv_G 6 xs 15 114 0 [(0, .ref 29), (1, .ref 34), (2, .int 6), (3, .int 0), (4, .int 1)] [] (iv_wd (iv_uA (iv_cA iv_Az 4 31 0 2048 64) 30 2 1) (iv_uF iv_Fz 3401 2) iv_Bz) true 0 0 (.inl (none), (iv_wd (iv_uA (iv_cA iv_Az 4 31 0 2048 64) 30 2 1) (iv_uF iv_Fz 3401 2) iv_Bz), true, 0, 0) := by
  refine iv_Gm 3 (pc2 := 3) (lv2 := [(0, .ref 29), (1, .ref 34), (2, .int 6), (3, .int 0), (4, .int 1)]) (st2 := [.int 0, .int 6, .ref 34]) (w2 := (iv_wd (iv_uA (iv_cA iv_Az 4 31 0 2048 64) 30 2 1) (iv_uF iv_Fz 3401 2) iv_Bz)) rfl ?_
  refine iv_Gcall (ν := 92) (c := 3) (as := [.ref 34, .int 6, .int 0]) (rest := []) (w2 := (iv_wd (iv_uA (iv_cA iv_Az 4 31 0 2048 64) 30 2 1) (iv_uF iv_Fz 3401 2) iv_Bz)) (tg2 := true) (k2 := 0) (z2 := 0) (v := (some (.int 0))) rfl rfl rfl rfl rfl rfl rfl (Nat.le_of_ble_eq_true rfl) rfl ?_ ?_
  · exact iv_z54_92
  show iv_G _ _ _ _ 6 [(0, .ref 29), (1, .ref 34), (2, .int 6), (3, .int 0), (4, .int 1)] [.int 0] (iv_wd (iv_uA (iv_cA iv_Az 4 31 0 2048 64) 30 2 1) (iv_uF iv_Fz 3401 2) iv_Bz) true _ _ _
  refine iv_Gm 5 (pc2 := 74) (lv2 := [(5, .int 0), (0, .ref 29), (1, .ref 34), (2, .int 6), (3, .int 0), (4, .int 1)]) (st2 := []) (w2 := (iv_wd (iv_uA (iv_cA iv_Az 4 31 0 2048 64) 30 2 1) (iv_uF iv_Fz 3401 2) iv_Bz)) rfl ?_
  exact iv_Gret rfl rfl rfl
set_option maxRecDepth 1000000 in
set_option maxHeartbeats 40000000 in
theorem iv_z56_92 {xs : Nat → Int32} : iv_G 6 xs 15 92 0 [(0, .ref 34), (1, .int 7), (2, .int 0)] [] (iv_wd (iv_uA (iv_cA iv_Az 4 31 0 2048 64) 30 2 1) (iv_uF iv_Fz 3401 2) iv_Bz) true 0 0 (.inl (some (.int 0)), (iv_wd (iv_uA (iv_cA iv_Az 4 31 0 2048 64) 30 2 1) (iv_uF iv_Fz 3401 2) iv_Bz), true, 0, 0) := by
  exact ⟨11, rfl⟩
set_option maxRecDepth 1000000 in
set_option maxHeartbeats 40000000 in
theorem iv_z57_92 {xs : Nat → Int32} : iv_G 6 xs 14 92 0 [(0, .ref 34), (1, .int 7), (2, .int 0)] [] (iv_wd (iv_uA (iv_cA iv_Az 4 31 0 2048 64) 30 2 1) (iv_uF iv_Fz 3401 2) iv_Bz) true 0 0 (.inl (some (.int 0)), (iv_wd (iv_uA (iv_cA iv_Az 4 31 0 2048 64) 30 2 1) (iv_uF iv_Fz 3401 2) iv_Bz), true, 0, 0) := by
  exact ⟨11, rfl⟩
set_option maxRecDepth 1000000 in
set_option maxHeartbeats 40000000 in
theorem iv_z58_92 {xs : Nat → Int32} : iv_G 6 xs 14 92 0 [(0, .ref 34), (1, .int 7), (2, .int 0)] [] (iv_wd (iv_uA (iv_cA iv_Az 4 31 0 2048 64) 30 2 1) (iv_uF iv_Fz 3401 2) iv_Bz) true 0 0 (.inl (some (.int 0)), (iv_wd (iv_uA (iv_cA iv_Az 4 31 0 2048 64) 30 2 1) (iv_uF iv_Fz 3401 2) iv_Bz), true, 0, 0) := by
  exact ⟨11, rfl⟩
set_option maxRecDepth 1000000 in
set_option maxHeartbeats 40000000 in
theorem iv_z59_112 {xs : Nat → Int32} : iv_G 6 xs 15 112 0 [(0, .ref 29), (1, .ref 34), (2, .int 7), (3, .int 1)] [] (iv_wd (iv_uA (iv_cA iv_Az 4 31 0 2048 64) 30 2 1) (iv_uF iv_Fz 3401 2) iv_Bz) true 0 0 (.inl (some (.int 0)), (iv_wd (iv_uA (iv_cA iv_Az 4 31 0 2048 64) 30 2 1) (iv_uF iv_Fz 3401 2) iv_Bz), true, 0, 0) := by
  refine iv_Gm 3 (pc2 := 3) (lv2 := [(0, .ref 29), (1, .ref 34), (2, .int 7), (3, .int 1)]) (st2 := [.int 0, .int 7, .ref 34]) (w2 := (iv_wd (iv_uA (iv_cA iv_Az 4 31 0 2048 64) 30 2 1) (iv_uF iv_Fz 3401 2) iv_Bz)) rfl ?_
  refine iv_Gcall (ν := 92) (c := 3) (as := [.ref 34, .int 7, .int 0]) (rest := []) (w2 := (iv_wd (iv_uA (iv_cA iv_Az 4 31 0 2048 64) 30 2 1) (iv_uF iv_Fz 3401 2) iv_Bz)) (tg2 := true) (k2 := 0) (z2 := 0) (v := (some (.int 0))) rfl rfl rfl rfl rfl rfl rfl (Nat.le_of_ble_eq_true rfl) rfl ?_ ?_
  · exact iv_z57_92
  show iv_G _ _ _ _ 6 [(0, .ref 29), (1, .ref 34), (2, .int 7), (3, .int 1)] [.int 0] (iv_wd (iv_uA (iv_cA iv_Az 4 31 0 2048 64) 30 2 1) (iv_uF iv_Fz 3401 2) iv_Bz) true _ _ _
  refine iv_Gm 5 (pc2 := 37) (lv2 := [(0, .ref 29), (1, .ref 34), (2, .int 7), (3, .int 1)]) (st2 := [.int 0, .int 7, .ref 34]) (w2 := (iv_wd (iv_uA (iv_cA iv_Az 4 31 0 2048 64) 30 2 1) (iv_uF iv_Fz 3401 2) iv_Bz)) rfl ?_
  refine iv_Gcall (ν := 92) (c := 3) (as := [.ref 34, .int 7, .int 0]) (rest := []) (w2 := (iv_wd (iv_uA (iv_cA iv_Az 4 31 0 2048 64) 30 2 1) (iv_uF iv_Fz 3401 2) iv_Bz)) (tg2 := true) (k2 := 0) (z2 := 0) (v := (some (.int 0))) rfl rfl rfl rfl rfl rfl rfl (Nat.le_of_ble_eq_true rfl) rfl ?_ ?_
  · exact iv_z58_92
  show iv_G _ _ _ _ 40 [(0, .ref 29), (1, .ref 34), (2, .int 7), (3, .int 1)] [.int 0] (iv_wd (iv_uA (iv_cA iv_Az 4 31 0 2048 64) 30 2 1) (iv_uF iv_Fz 3401 2) iv_Bz) true _ _ _
  refine iv_Gm 3 (pc2 := 49) (lv2 := [(0, .ref 29), (1, .ref 34), (2, .int 7), (3, .int 1)]) (st2 := [.int 0]) (w2 := (iv_wd (iv_uA (iv_cA iv_Az 4 31 0 2048 64) 30 2 1) (iv_uF iv_Fz 3401 2) iv_Bz)) rfl ?_
  exact iv_Gret rfl rfl rfl
set_option maxRecDepth 1000000 in
set_option maxHeartbeats 40000000 in
theorem iv_z60_94 {xs : Nat → Int32} : iv_G 6 xs 15 94 0 [(0, .ref 34), (1, .int 7), (2, .int 7)] [] (iv_wd (iv_uA (iv_cA iv_Az 4 31 0 2048 64) 30 2 1) (iv_uF iv_Fz 3401 2) iv_Bz) true 0 0 (.inl (none), (iv_wd (iv_uA (iv_cA iv_Az 4 31 0 2048 64) 30 2 1) (iv_uF iv_Fz 3401 2) iv_Bz), true, 0, 0) := by
  exact ⟨12, rfl⟩
set_option maxRecDepth 1000000 in
set_option maxHeartbeats 40000000 in
theorem iv_z61_92 {xs : Nat → Int32} : iv_G 6 xs 14 92 0 [(0, .ref 34), (1, .int 7), (2, .int 0)] [] (iv_wd (iv_uA (iv_cA iv_Az 4 31 0 2048 64) 30 2 1) (iv_uF iv_Fz 3401 2) iv_Bz) true 0 0 (.inl (some (.int 0)), (iv_wd (iv_uA (iv_cA iv_Az 4 31 0 2048 64) 30 2 1) (iv_uF iv_Fz 3401 2) iv_Bz), true, 0, 0) := by
  exact ⟨11, rfl⟩
set_option maxRecDepth 1000000 in
set_option maxHeartbeats 40000000 in
theorem iv_z62_114 {xs : Nat → Int32} : iv_G 6 xs 15 114 0 [(0, .ref 29), (1, .ref 34), (2, .int 7), (3, .int 0), (4, .int 1)] [] (iv_wd (iv_uA (iv_cA iv_Az 4 31 0 2048 64) 30 2 1) (iv_uF iv_Fz 3401 2) iv_Bz) true 0 0 (.inl (none), (iv_wd (iv_uA (iv_cA iv_Az 4 31 0 2048 64) 30 2 1) (iv_uF iv_Fz 3401 2) iv_Bz), true, 0, 0) := by
  refine iv_Gm 3 (pc2 := 3) (lv2 := [(0, .ref 29), (1, .ref 34), (2, .int 7), (3, .int 0), (4, .int 1)]) (st2 := [.int 0, .int 7, .ref 34]) (w2 := (iv_wd (iv_uA (iv_cA iv_Az 4 31 0 2048 64) 30 2 1) (iv_uF iv_Fz 3401 2) iv_Bz)) rfl ?_
  refine iv_Gcall (ν := 92) (c := 3) (as := [.ref 34, .int 7, .int 0]) (rest := []) (w2 := (iv_wd (iv_uA (iv_cA iv_Az 4 31 0 2048 64) 30 2 1) (iv_uF iv_Fz 3401 2) iv_Bz)) (tg2 := true) (k2 := 0) (z2 := 0) (v := (some (.int 0))) rfl rfl rfl rfl rfl rfl rfl (Nat.le_of_ble_eq_true rfl) rfl ?_ ?_
  · exact iv_z61_92
  show iv_G _ _ _ _ 6 [(0, .ref 29), (1, .ref 34), (2, .int 7), (3, .int 0), (4, .int 1)] [.int 0] (iv_wd (iv_uA (iv_cA iv_Az 4 31 0 2048 64) 30 2 1) (iv_uF iv_Fz 3401 2) iv_Bz) true _ _ _
  refine iv_Gm 5 (pc2 := 74) (lv2 := [(5, .int 0), (0, .ref 29), (1, .ref 34), (2, .int 7), (3, .int 0), (4, .int 1)]) (st2 := []) (w2 := (iv_wd (iv_uA (iv_cA iv_Az 4 31 0 2048 64) 30 2 1) (iv_uF iv_Fz 3401 2) iv_Bz)) rfl ?_
  exact iv_Gret rfl rfl rfl
set_option maxRecDepth 1000000 in
set_option maxHeartbeats 40000000 in
theorem iv_z63_94 {xs : Nat → Int32} : iv_G 6 xs 15 94 0 [(0, .ref 34), (1, .int 8), (2, .int 8)] [] (iv_wd (iv_uA (iv_cA iv_Az 4 31 0 2048 64) 30 2 1) (iv_uF iv_Fz 3401 2) iv_Bz) true 0 0 (.inl (none), (iv_wd (iv_uA (iv_cA iv_Az 4 31 0 2048 64) 30 2 1) (iv_uF iv_Fz 3401 2) iv_Bz), true, 0, 0) := by
  exact ⟨12, rfl⟩
set_option maxRecDepth 1000000 in
set_option maxHeartbeats 40000000 in
theorem iv_z64_71 {xs : Nat → Int32} : iv_G 6 xs 15 71 0 [(0, .ref 2), (1, .int 2), (2, .ref 35), (3, .int 0)] [] (iv_wd (iv_uA (iv_cA iv_Az 4 31 0 2048 64) 30 2 1) (iv_uF iv_Fz 3401 2) iv_Bz) true 0 0 (.inl (none), (iv_wd (iv_uA (iv_cA iv_Az 4 31 0 2048 64) 30 2 1) (iv_uF iv_Fz 3401 2) iv_Bz), true, 0, 0) := by
  refine iv_Gm 9 (pc2 := 15) (lv2 := [(0, .ref 2), (1, .int 2), (2, .ref 35), (3, .int 0)]) (st2 := []) (w2 := (iv_wd (iv_cA (iv_uA (iv_cA iv_Az 4 31 0 2048 64) 30 2 1) 35 3 0 128 64) (iv_uF iv_Fz 3401 2) iv_Bz)) rfl ?_
  rw [iv_cA_id (A := (iv_uA (iv_cA iv_Az 4 31 0 2048 64) 30 2 1)) (r0 := 35) (r := 3) (sp := 0) (dp := 128) (n := 64) rfl rfl]
  exact iv_Gret rfl rfl rfl
set_option maxRecDepth 1000000 in
set_option maxHeartbeats 40000000 in
theorem iv_z65_111 {xs : Nat → Int32} : iv_G 6 xs 16 111 0 [(0, .ref 29), (1, .int 2), (2, .int 1)] [] (iv_wd (iv_uA (iv_cA iv_Az 4 31 0 2048 64) 30 2 1) iv_Fz iv_Bz) true 0 0 (.inl (none), (iv_wd (iv_uA (iv_cA iv_Az 4 31 0 2048 64) 30 2 1) (iv_uF iv_Fz 3401 2) iv_Bz), true, 0, 0) := by
  refine iv_Gm 16 (pc2 := 25) (lv2 := [(3, .ref 34), (0, .ref 29), (1, .int 2), (2, .int 1)]) (st2 := [.int 2, .ref 2, .ref 34]) (w2 := (iv_wd (iv_uA (iv_cA iv_Az 4 31 0 2048 64) 30 2 1) iv_Fz iv_Bz)) rfl ?_
  refine iv_Gcall (ν := 87) (c := 3) (as := [.ref 34, .ref 2, .int 2]) (rest := []) (w2 := (iv_wd (iv_uA (iv_cA iv_Az 4 31 0 2048 64) 30 2 1) (iv_uF iv_Fz 3401 2) iv_Bz)) (tg2 := true) (k2 := 0) (z2 := 0) (v := none) rfl rfl rfl rfl rfl rfl rfl (Nat.le_of_ble_eq_true rfl) rfl ?_ ?_
  · exact iv_z6_87
  show iv_G _ _ _ _ 28 [(3, .ref 34), (0, .ref 29), (1, .int 2), (2, .int 1)] [] (iv_wd (iv_uA (iv_cA iv_Az 4 31 0 2048 64) 30 2 1) (iv_uF iv_Fz 3401 2) iv_Bz) true _ _ _
  refine iv_Gm 10 (pc2 := 45) (lv2 := [(5, .int 0), (4, .int 0), (3, .ref 34), (0, .ref 29), (1, .int 2), (2, .int 1)]) (st2 := [.int 0, .int 0, .ref 34]) (w2 := (iv_wd (iv_uA (iv_cA iv_Az 4 31 0 2048 64) 30 2 1) (iv_uF iv_Fz 3401 2) iv_Bz)) rfl ?_
  refine iv_Gcall (ν := 92) (c := 3) (as := [.ref 34, .int 0, .int 0]) (rest := []) (w2 := (iv_wd (iv_uA (iv_cA iv_Az 4 31 0 2048 64) 30 2 1) (iv_uF iv_Fz 3401 2) iv_Bz)) (tg2 := true) (k2 := 0) (z2 := 0) (v := (some (.int 0))) rfl rfl rfl rfl rfl rfl rfl (Nat.le_of_ble_eq_true rfl) rfl ?_ ?_
  · exact iv_z7_92
  show iv_G _ _ _ _ 48 [(5, .int 0), (4, .int 0), (3, .ref 34), (0, .ref 29), (1, .int 2), (2, .int 1)] [.int 0] (iv_wd (iv_uA (iv_cA iv_Az 4 31 0 2048 64) 30 2 1) (iv_uF iv_Fz 3401 2) iv_Bz) true _ _ _
  refine iv_Gm 6 (pc2 := 58) (lv2 := [(5, .int 0), (4, .int 0), (3, .ref 34), (0, .ref 29), (1, .int 2), (2, .int 1)]) (st2 := [.int 1, .int 0, .ref 34, .ref 29]) (w2 := (iv_wd (iv_uA (iv_cA iv_Az 4 31 0 2048 64) 30 2 1) (iv_uF iv_Fz 3401 2) iv_Bz)) rfl ?_
  refine iv_Gcall (ν := 112) (c := 4) (as := [.ref 29, .ref 34, .int 0, .int 1]) (rest := []) (w2 := (iv_wd (iv_uA (iv_cA iv_Az 4 31 0 2048 64) 30 2 1) (iv_uF iv_Fz 3401 2) iv_Bz)) (tg2 := true) (k2 := 0) (z2 := 0) (v := (some (.int 0))) rfl rfl rfl rfl rfl rfl rfl (Nat.le_of_ble_eq_true rfl) rfl ?_ ?_
  · exact iv_z10_112
  show iv_G _ _ _ _ 61 [(5, .int 0), (4, .int 0), (3, .ref 34), (0, .ref 29), (1, .int 2), (2, .int 1)] [.int 0] (iv_wd (iv_uA (iv_cA iv_Az 4 31 0 2048 64) 30 2 1) (iv_uF iv_Fz 3401 2) iv_Bz) true _ _ _
  refine iv_Gm 8 (pc2 := 84) (lv2 := [(6, .int 0), (5, .int 0), (4, .int 0), (3, .ref 34), (0, .ref 29), (1, .int 2), (2, .int 1)]) (st2 := [.int 0, .int 0, .ref 34]) (w2 := (iv_wd (iv_uA (iv_cA iv_Az 4 31 0 2048 64) 30 2 1) (iv_uF iv_Fz 3401 2) iv_Bz)) rfl ?_
  refine iv_Gcall (ν := 94) (c := 3) (as := [.ref 34, .int 0, .int 0]) (rest := []) (w2 := (iv_wd (iv_uA (iv_cA iv_Az 4 31 0 2048 64) 30 2 1) (iv_uF iv_Fz 3401 2) iv_Bz)) (tg2 := true) (k2 := 0) (z2 := 0) (v := none) rfl rfl rfl rfl rfl rfl rfl (Nat.le_of_ble_eq_true rfl) rfl ?_ ?_
  · exact iv_z11_94
  show iv_G _ _ _ _ 87 [(6, .int 0), (5, .int 0), (4, .int 0), (3, .ref 34), (0, .ref 29), (1, .int 2), (2, .int 1)] [] (iv_wd (iv_uA (iv_cA iv_Az 4 31 0 2048 64) 30 2 1) (iv_uF iv_Fz 3401 2) iv_Bz) true _ _ _
  refine iv_Gm 9 (pc2 := 100) (lv2 := [(4, .int 1), (6, .int 0), (5, .int 0), (3, .ref 34), (0, .ref 29), (1, .int 2), (2, .int 1)]) (st2 := [.int 1, .int 0, .int 0, .ref 34, .ref 29]) (w2 := (iv_wd (iv_uA (iv_cA iv_Az 4 31 0 2048 64) 30 2 1) (iv_uF iv_Fz 3401 2) iv_Bz)) rfl ?_
  refine iv_Gcall (ν := 114) (c := 5) (as := [.ref 29, .ref 34, .int 0, .int 0, .int 1]) (rest := []) (w2 := (iv_wd (iv_uA (iv_cA iv_Az 4 31 0 2048 64) 30 2 1) (iv_uF iv_Fz 3401 2) iv_Bz)) (tg2 := true) (k2 := 0) (z2 := 0) (v := none) rfl rfl rfl rfl rfl rfl rfl (Nat.le_of_ble_eq_true rfl) rfl ?_ ?_
  · exact iv_z13_114
  show iv_G _ _ _ _ 103 [(4, .int 1), (6, .int 0), (5, .int 0), (3, .ref 34), (0, .ref 29), (1, .int 2), (2, .int 1)] [] (iv_wd (iv_uA (iv_cA iv_Az 4 31 0 2048 64) 30 2 1) (iv_uF iv_Fz 3401 2) iv_Bz) true _ _ _
  refine iv_Gm 8 (pc2 := 45) (lv2 := [(5, .int 1), (4, .int 1), (6, .int 0), (3, .ref 34), (0, .ref 29), (1, .int 2), (2, .int 1)]) (st2 := [.int 0, .int 1, .ref 34]) (w2 := (iv_wd (iv_uA (iv_cA iv_Az 4 31 0 2048 64) 30 2 1) (iv_uF iv_Fz 3401 2) iv_Bz)) rfl ?_
  refine iv_Gcall (ν := 92) (c := 3) (as := [.ref 34, .int 1, .int 0]) (rest := []) (w2 := (iv_wd (iv_uA (iv_cA iv_Az 4 31 0 2048 64) 30 2 1) (iv_uF iv_Fz 3401 2) iv_Bz)) (tg2 := true) (k2 := 0) (z2 := 0) (v := (some (.int 0))) rfl rfl rfl rfl rfl rfl rfl (Nat.le_of_ble_eq_true rfl) rfl ?_ ?_
  · exact iv_z14_92
  show iv_G _ _ _ _ 48 [(5, .int 1), (4, .int 1), (6, .int 0), (3, .ref 34), (0, .ref 29), (1, .int 2), (2, .int 1)] [.int 0] (iv_wd (iv_uA (iv_cA iv_Az 4 31 0 2048 64) 30 2 1) (iv_uF iv_Fz 3401 2) iv_Bz) true _ _ _
  refine iv_Gm 6 (pc2 := 58) (lv2 := [(5, .int 1), (4, .int 1), (6, .int 0), (3, .ref 34), (0, .ref 29), (1, .int 2), (2, .int 1)]) (st2 := [.int 1, .int 1, .ref 34, .ref 29]) (w2 := (iv_wd (iv_uA (iv_cA iv_Az 4 31 0 2048 64) 30 2 1) (iv_uF iv_Fz 3401 2) iv_Bz)) rfl ?_
  refine iv_Gcall (ν := 112) (c := 4) (as := [.ref 29, .ref 34, .int 1, .int 1]) (rest := []) (w2 := (iv_wd (iv_uA (iv_cA iv_Az 4 31 0 2048 64) 30 2 1) (iv_uF iv_Fz 3401 2) iv_Bz)) (tg2 := true) (k2 := 0) (z2 := 0) (v := (some (.int 0))) rfl rfl rfl rfl rfl rfl rfl (Nat.le_of_ble_eq_true rfl) rfl ?_ ?_
  · exact iv_z17_112
  show iv_G _ _ _ _ 61 [(5, .int 1), (4, .int 1), (6, .int 0), (3, .ref 34), (0, .ref 29), (1, .int 2), (2, .int 1)] [.int 0] (iv_wd (iv_uA (iv_cA iv_Az 4 31 0 2048 64) 30 2 1) (iv_uF iv_Fz 3401 2) iv_Bz) true _ _ _
  refine iv_Gm 8 (pc2 := 84) (lv2 := [(6, .int 0), (5, .int 1), (4, .int 1), (3, .ref 34), (0, .ref 29), (1, .int 2), (2, .int 1)]) (st2 := [.int 1, .int 1, .ref 34]) (w2 := (iv_wd (iv_uA (iv_cA iv_Az 4 31 0 2048 64) 30 2 1) (iv_uF iv_Fz 3401 2) iv_Bz)) rfl ?_
  refine iv_Gcall (ν := 94) (c := 3) (as := [.ref 34, .int 1, .int 1]) (rest := []) (w2 := (iv_wd (iv_uA (iv_cA iv_Az 4 31 0 2048 64) 30 2 1) (iv_uF iv_Fz 3401 2) iv_Bz)) (tg2 := true) (k2 := 0) (z2 := 0) (v := none) rfl rfl rfl rfl rfl rfl rfl (Nat.le_of_ble_eq_true rfl) rfl ?_ ?_
  · exact iv_z18_94
  show iv_G _ _ _ _ 87 [(6, .int 0), (5, .int 1), (4, .int 1), (3, .ref 34), (0, .ref 29), (1, .int 2), (2, .int 1)] [] (iv_wd (iv_uA (iv_cA iv_Az 4 31 0 2048 64) 30 2 1) (iv_uF iv_Fz 3401 2) iv_Bz) true _ _ _
  refine iv_Gm 9 (pc2 := 100) (lv2 := [(4, .int 2), (6, .int 0), (5, .int 1), (3, .ref 34), (0, .ref 29), (1, .int 2), (2, .int 1)]) (st2 := [.int 1, .int 0, .int 1, .ref 34, .ref 29]) (w2 := (iv_wd (iv_uA (iv_cA iv_Az 4 31 0 2048 64) 30 2 1) (iv_uF iv_Fz 3401 2) iv_Bz)) rfl ?_
  refine iv_Gcall (ν := 114) (c := 5) (as := [.ref 29, .ref 34, .int 1, .int 0, .int 1]) (rest := []) (w2 := (iv_wd (iv_uA (iv_cA iv_Az 4 31 0 2048 64) 30 2 1) (iv_uF iv_Fz 3401 2) iv_Bz)) (tg2 := true) (k2 := 0) (z2 := 0) (v := none) rfl rfl rfl rfl rfl rfl rfl (Nat.le_of_ble_eq_true rfl) rfl ?_ ?_
  · exact iv_z20_114
  show iv_G _ _ _ _ 103 [(4, .int 2), (6, .int 0), (5, .int 1), (3, .ref 34), (0, .ref 29), (1, .int 2), (2, .int 1)] [] (iv_wd (iv_uA (iv_cA iv_Az 4 31 0 2048 64) 30 2 1) (iv_uF iv_Fz 3401 2) iv_Bz) true _ _ _
  refine iv_Gm 8 (pc2 := 45) (lv2 := [(5, .int 2), (4, .int 2), (6, .int 0), (3, .ref 34), (0, .ref 29), (1, .int 2), (2, .int 1)]) (st2 := [.int 0, .int 2, .ref 34]) (w2 := (iv_wd (iv_uA (iv_cA iv_Az 4 31 0 2048 64) 30 2 1) (iv_uF iv_Fz 3401 2) iv_Bz)) rfl ?_
  refine iv_Gcall (ν := 92) (c := 3) (as := [.ref 34, .int 2, .int 0]) (rest := []) (w2 := (iv_wd (iv_uA (iv_cA iv_Az 4 31 0 2048 64) 30 2 1) (iv_uF iv_Fz 3401 2) iv_Bz)) (tg2 := true) (k2 := 0) (z2 := 0) (v := (some (.int 0))) rfl rfl rfl rfl rfl rfl rfl (Nat.le_of_ble_eq_true rfl) rfl ?_ ?_
  · exact iv_z21_92
  show iv_G _ _ _ _ 48 [(5, .int 2), (4, .int 2), (6, .int 0), (3, .ref 34), (0, .ref 29), (1, .int 2), (2, .int 1)] [.int 0] (iv_wd (iv_uA (iv_cA iv_Az 4 31 0 2048 64) 30 2 1) (iv_uF iv_Fz 3401 2) iv_Bz) true _ _ _
  refine iv_Gm 6 (pc2 := 58) (lv2 := [(5, .int 2), (4, .int 2), (6, .int 0), (3, .ref 34), (0, .ref 29), (1, .int 2), (2, .int 1)]) (st2 := [.int 1, .int 2, .ref 34, .ref 29]) (w2 := (iv_wd (iv_uA (iv_cA iv_Az 4 31 0 2048 64) 30 2 1) (iv_uF iv_Fz 3401 2) iv_Bz)) rfl ?_
  refine iv_Gcall (ν := 112) (c := 4) (as := [.ref 29, .ref 34, .int 2, .int 1]) (rest := []) (w2 := (iv_wd (iv_uA (iv_cA iv_Az 4 31 0 2048 64) 30 2 1) (iv_uF iv_Fz 3401 2) iv_Bz)) (tg2 := true) (k2 := 0) (z2 := 0) (v := (some (.int 0))) rfl rfl rfl rfl rfl rfl rfl (Nat.le_of_ble_eq_true rfl) rfl ?_ ?_
  · exact iv_z24_112
  show iv_G _ _ _ _ 61 [(5, .int 2), (4, .int 2), (6, .int 0), (3, .ref 34), (0, .ref 29), (1, .int 2), (2, .int 1)] [.int 0] (iv_wd (iv_uA (iv_cA iv_Az 4 31 0 2048 64) 30 2 1) (iv_uF iv_Fz 3401 2) iv_Bz) true _ _ _
  refine iv_Gm 8 (pc2 := 84) (lv2 := [(6, .int 0), (5, .int 2), (4, .int 2), (3, .ref 34), (0, .ref 29), (1, .int 2), (2, .int 1)]) (st2 := [.int 2, .int 2, .ref 34]) (w2 := (iv_wd (iv_uA (iv_cA iv_Az 4 31 0 2048 64) 30 2 1) (iv_uF iv_Fz 3401 2) iv_Bz)) rfl ?_
  refine iv_Gcall (ν := 94) (c := 3) (as := [.ref 34, .int 2, .int 2]) (rest := []) (w2 := (iv_wd (iv_uA (iv_cA iv_Az 4 31 0 2048 64) 30 2 1) (iv_uF iv_Fz 3401 2) iv_Bz)) (tg2 := true) (k2 := 0) (z2 := 0) (v := none) rfl rfl rfl rfl rfl rfl rfl (Nat.le_of_ble_eq_true rfl) rfl ?_ ?_
  · exact iv_z25_94
  show iv_G _ _ _ _ 87 [(6, .int 0), (5, .int 2), (4, .int 2), (3, .ref 34), (0, .ref 29), (1, .int 2), (2, .int 1)] [] (iv_wd (iv_uA (iv_cA iv_Az 4 31 0 2048 64) 30 2 1) (iv_uF iv_Fz 3401 2) iv_Bz) true _ _ _
  refine iv_Gm 9 (pc2 := 100) (lv2 := [(4, .int 3), (6, .int 0), (5, .int 2), (3, .ref 34), (0, .ref 29), (1, .int 2), (2, .int 1)]) (st2 := [.int 1, .int 0, .int 2, .ref 34, .ref 29]) (w2 := (iv_wd (iv_uA (iv_cA iv_Az 4 31 0 2048 64) 30 2 1) (iv_uF iv_Fz 3401 2) iv_Bz)) rfl ?_
  refine iv_Gcall (ν := 114) (c := 5) (as := [.ref 29, .ref 34, .int 2, .int 0, .int 1]) (rest := []) (w2 := (iv_wd (iv_uA (iv_cA iv_Az 4 31 0 2048 64) 30 2 1) (iv_uF iv_Fz 3401 2) iv_Bz)) (tg2 := true) (k2 := 0) (z2 := 0) (v := none) rfl rfl rfl rfl rfl rfl rfl (Nat.le_of_ble_eq_true rfl) rfl ?_ ?_
  · exact iv_z27_114
  show iv_G _ _ _ _ 103 [(4, .int 3), (6, .int 0), (5, .int 2), (3, .ref 34), (0, .ref 29), (1, .int 2), (2, .int 1)] [] (iv_wd (iv_uA (iv_cA iv_Az 4 31 0 2048 64) 30 2 1) (iv_uF iv_Fz 3401 2) iv_Bz) true _ _ _
  refine iv_Gm 8 (pc2 := 45) (lv2 := [(5, .int 3), (4, .int 3), (6, .int 0), (3, .ref 34), (0, .ref 29), (1, .int 2), (2, .int 1)]) (st2 := [.int 0, .int 3, .ref 34]) (w2 := (iv_wd (iv_uA (iv_cA iv_Az 4 31 0 2048 64) 30 2 1) (iv_uF iv_Fz 3401 2) iv_Bz)) rfl ?_
  refine iv_Gcall (ν := 92) (c := 3) (as := [.ref 34, .int 3, .int 0]) (rest := []) (w2 := (iv_wd (iv_uA (iv_cA iv_Az 4 31 0 2048 64) 30 2 1) (iv_uF iv_Fz 3401 2) iv_Bz)) (tg2 := true) (k2 := 0) (z2 := 0) (v := (some (.int 0))) rfl rfl rfl rfl rfl rfl rfl (Nat.le_of_ble_eq_true rfl) rfl ?_ ?_
  · exact iv_z28_92
  show iv_G _ _ _ _ 48 [(5, .int 3), (4, .int 3), (6, .int 0), (3, .ref 34), (0, .ref 29), (1, .int 2), (2, .int 1)] [.int 0] (iv_wd (iv_uA (iv_cA iv_Az 4 31 0 2048 64) 30 2 1) (iv_uF iv_Fz 3401 2) iv_Bz) true _ _ _
  refine iv_Gm 6 (pc2 := 58) (lv2 := [(5, .int 3), (4, .int 3), (6, .int 0), (3, .ref 34), (0, .ref 29), (1, .int 2), (2, .int 1)]) (st2 := [.int 1, .int 3, .ref 34, .ref 29]) (w2 := (iv_wd (iv_uA (iv_cA iv_Az 4 31 0 2048 64) 30 2 1) (iv_uF iv_Fz 3401 2) iv_Bz)) rfl ?_
  refine iv_Gcall (ν := 112) (c := 4) (as := [.ref 29, .ref 34, .int 3, .int 1]) (rest := []) (w2 := (iv_wd (iv_uA (iv_cA iv_Az 4 31 0 2048 64) 30 2 1) (iv_uF iv_Fz 3401 2) iv_Bz)) (tg2 := true) (k2 := 0) (z2 := 0) (v := (some (.int 0))) rfl rfl rfl rfl rfl rfl rfl (Nat.le_of_ble_eq_true rfl) rfl ?_ ?_
  · exact iv_z31_112
  show iv_G _ _ _ _ 61 [(5, .int 3), (4, .int 3), (6, .int 0), (3, .ref 34), (0, .ref 29), (1, .int 2), (2, .int 1)] [.int 0] (iv_wd (iv_uA (iv_cA iv_Az 4 31 0 2048 64) 30 2 1) (iv_uF iv_Fz 3401 2) iv_Bz) true _ _ _
  refine iv_Gm 8 (pc2 := 84) (lv2 := [(6, .int 0), (5, .int 3), (4, .int 3), (3, .ref 34), (0, .ref 29), (1, .int 2), (2, .int 1)]) (st2 := [.int 3, .int 3, .ref 34]) (w2 := (iv_wd (iv_uA (iv_cA iv_Az 4 31 0 2048 64) 30 2 1) (iv_uF iv_Fz 3401 2) iv_Bz)) rfl ?_
  refine iv_Gcall (ν := 94) (c := 3) (as := [.ref 34, .int 3, .int 3]) (rest := []) (w2 := (iv_wd (iv_uA (iv_cA iv_Az 4 31 0 2048 64) 30 2 1) (iv_uF iv_Fz 3401 2) iv_Bz)) (tg2 := true) (k2 := 0) (z2 := 0) (v := none) rfl rfl rfl rfl rfl rfl rfl (Nat.le_of_ble_eq_true rfl) rfl ?_ ?_
  · exact iv_z32_94
  show iv_G _ _ _ _ 87 [(6, .int 0), (5, .int 3), (4, .int 3), (3, .ref 34), (0, .ref 29), (1, .int 2), (2, .int 1)] [] (iv_wd (iv_uA (iv_cA iv_Az 4 31 0 2048 64) 30 2 1) (iv_uF iv_Fz 3401 2) iv_Bz) true _ _ _
  refine iv_Gm 9 (pc2 := 100) (lv2 := [(4, .int 4), (6, .int 0), (5, .int 3), (3, .ref 34), (0, .ref 29), (1, .int 2), (2, .int 1)]) (st2 := [.int 1, .int 0, .int 3, .ref 34, .ref 29]) (w2 := (iv_wd (iv_uA (iv_cA iv_Az 4 31 0 2048 64) 30 2 1) (iv_uF iv_Fz 3401 2) iv_Bz)) rfl ?_
  refine iv_Gcall (ν := 114) (c := 5) (as := [.ref 29, .ref 34, .int 3, .int 0, .int 1]) (rest := []) (w2 := (iv_wd (iv_uA (iv_cA iv_Az 4 31 0 2048 64) 30 2 1) (iv_uF iv_Fz 3401 2) iv_Bz)) (tg2 := true) (k2 := 0) (z2 := 0) (v := none) rfl rfl rfl rfl rfl rfl rfl (Nat.le_of_ble_eq_true rfl) rfl ?_ ?_
  · exact iv_z34_114
  show iv_G _ _ _ _ 103 [(4, .int 4), (6, .int 0), (5, .int 3), (3, .ref 34), (0, .ref 29), (1, .int 2), (2, .int 1)] [] (iv_wd (iv_uA (iv_cA iv_Az 4 31 0 2048 64) 30 2 1) (iv_uF iv_Fz 3401 2) iv_Bz) true _ _ _
  refine iv_Gm 8 (pc2 := 45) (lv2 := [(5, .int 4), (4, .int 4), (6, .int 0), (3, .ref 34), (0, .ref 29), (1, .int 2), (2, .int 1)]) (st2 := [.int 0, .int 4, .ref 34]) (w2 := (iv_wd (iv_uA (iv_cA iv_Az 4 31 0 2048 64) 30 2 1) (iv_uF iv_Fz 3401 2) iv_Bz)) rfl ?_
  refine iv_Gcall (ν := 92) (c := 3) (as := [.ref 34, .int 4, .int 0]) (rest := []) (w2 := (iv_wd (iv_uA (iv_cA iv_Az 4 31 0 2048 64) 30 2 1) (iv_uF iv_Fz 3401 2) iv_Bz)) (tg2 := true) (k2 := 0) (z2 := 0) (v := (some (.int 0))) rfl rfl rfl rfl rfl rfl rfl (Nat.le_of_ble_eq_true rfl) rfl ?_ ?_
  · exact iv_z35_92
  show iv_G _ _ _ _ 48 [(5, .int 4), (4, .int 4), (6, .int 0), (3, .ref 34), (0, .ref 29), (1, .int 2), (2, .int 1)] [.int 0] (iv_wd (iv_uA (iv_cA iv_Az 4 31 0 2048 64) 30 2 1) (iv_uF iv_Fz 3401 2) iv_Bz) true _ _ _
  refine iv_Gm 6 (pc2 := 58) (lv2 := [(5, .int 4), (4, .int 4), (6, .int 0), (3, .ref 34), (0, .ref 29), (1, .int 2), (2, .int 1)]) (st2 := [.int 1, .int 4, .ref 34, .ref 29]) (w2 := (iv_wd (iv_uA (iv_cA iv_Az 4 31 0 2048 64) 30 2 1) (iv_uF iv_Fz 3401 2) iv_Bz)) rfl ?_
  refine iv_Gcall (ν := 112) (c := 4) (as := [.ref 29, .ref 34, .int 4, .int 1]) (rest := []) (w2 := (iv_wd (iv_uA (iv_cA iv_Az 4 31 0 2048 64) 30 2 1) (iv_uF iv_Fz 3401 2) iv_Bz)) (tg2 := true) (k2 := 0) (z2 := 0) (v := (some (.int 0))) rfl rfl rfl rfl rfl rfl rfl (Nat.le_of_ble_eq_true rfl) rfl ?_ ?_
  · exact iv_z38_112
  show iv_G _ _ _ _ 61 [(5, .int 4), (4, .int 4), (6, .int 0), (3, .ref 34), (0, .ref 29), (1, .int 2), (2, .int 1)] [.int 0] (iv_wd (iv_uA (iv_cA iv_Az 4 31 0 2048 64) 30 2 1) (iv_uF iv_Fz 3401 2) iv_Bz) true _ _ _
  refine iv_Gm 8 (pc2 := 84) (lv2 := [(6, .int 0), (5, .int 4), (4, .int 4), (3, .ref 34), (0, .ref 29), (1, .int 2), (2, .int 1)]) (st2 := [.int 4, .int 4, .ref 34]) (w2 := (iv_wd (iv_uA (iv_cA iv_Az 4 31 0 2048 64) 30 2 1) (iv_uF iv_Fz 3401 2) iv_Bz)) rfl ?_
  refine iv_Gcall (ν := 94) (c := 3) (as := [.ref 34, .int 4, .int 4]) (rest := []) (w2 := (iv_wd (iv_uA (iv_cA iv_Az 4 31 0 2048 64) 30 2 1) (iv_uF iv_Fz 3401 2) iv_Bz)) (tg2 := true) (k2 := 0) (z2 := 0) (v := none) rfl rfl rfl rfl rfl rfl rfl (Nat.le_of_ble_eq_true rfl) rfl ?_ ?_
  · exact iv_z39_94
  show iv_G _ _ _ _ 87 [(6, .int 0), (5, .int 4), (4, .int 4), (3, .ref 34), (0, .ref 29), (1, .int 2), (2, .int 1)] [] (iv_wd (iv_uA (iv_cA iv_Az 4 31 0 2048 64) 30 2 1) (iv_uF iv_Fz 3401 2) iv_Bz) true _ _ _
  refine iv_Gm 9 (pc2 := 100) (lv2 := [(4, .int 5), (6, .int 0), (5, .int 4), (3, .ref 34), (0, .ref 29), (1, .int 2), (2, .int 1)]) (st2 := [.int 1, .int 0, .int 4, .ref 34, .ref 29]) (w2 := (iv_wd (iv_uA (iv_cA iv_Az 4 31 0 2048 64) 30 2 1) (iv_uF iv_Fz 3401 2) iv_Bz)) rfl ?_
  refine iv_Gcall (ν := 114) (c := 5) (as := [.ref 29, .ref 34, .int 4, .int 0, .int 1]) (rest := []) (w2 := (iv_wd (iv_uA (iv_cA iv_Az 4 31 0 2048 64) 30 2 1) (iv_uF iv_Fz 3401 2) iv_Bz)) (tg2 := true) (k2 := 0) (z2 := 0) (v := none) rfl rfl rfl rfl rfl rfl rfl (Nat.le_of_ble_eq_true rfl) rfl ?_ ?_
  · exact iv_z41_114
  show iv_G _ _ _ _ 103 [(4, .int 5), (6, .int 0), (5, .int 4), (3, .ref 34), (0, .ref 29), (1, .int 2), (2, .int 1)] [] (iv_wd (iv_uA (iv_cA iv_Az 4 31 0 2048 64) 30 2 1) (iv_uF iv_Fz 3401 2) iv_Bz) true _ _ _
  refine iv_Gm 8 (pc2 := 45) (lv2 := [(5, .int 5), (4, .int 5), (6, .int 0), (3, .ref 34), (0, .ref 29), (1, .int 2), (2, .int 1)]) (st2 := [.int 0, .int 5, .ref 34]) (w2 := (iv_wd (iv_uA (iv_cA iv_Az 4 31 0 2048 64) 30 2 1) (iv_uF iv_Fz 3401 2) iv_Bz)) rfl ?_
  refine iv_Gcall (ν := 92) (c := 3) (as := [.ref 34, .int 5, .int 0]) (rest := []) (w2 := (iv_wd (iv_uA (iv_cA iv_Az 4 31 0 2048 64) 30 2 1) (iv_uF iv_Fz 3401 2) iv_Bz)) (tg2 := true) (k2 := 0) (z2 := 0) (v := (some (.int 0))) rfl rfl rfl rfl rfl rfl rfl (Nat.le_of_ble_eq_true rfl) rfl ?_ ?_
  · exact iv_z42_92
  show iv_G _ _ _ _ 48 [(5, .int 5), (4, .int 5), (6, .int 0), (3, .ref 34), (0, .ref 29), (1, .int 2), (2, .int 1)] [.int 0] (iv_wd (iv_uA (iv_cA iv_Az 4 31 0 2048 64) 30 2 1) (iv_uF iv_Fz 3401 2) iv_Bz) true _ _ _
  refine iv_Gm 6 (pc2 := 58) (lv2 := [(5, .int 5), (4, .int 5), (6, .int 0), (3, .ref 34), (0, .ref 29), (1, .int 2), (2, .int 1)]) (st2 := [.int 1, .int 5, .ref 34, .ref 29]) (w2 := (iv_wd (iv_uA (iv_cA iv_Az 4 31 0 2048 64) 30 2 1) (iv_uF iv_Fz 3401 2) iv_Bz)) rfl ?_
  refine iv_Gcall (ν := 112) (c := 4) (as := [.ref 29, .ref 34, .int 5, .int 1]) (rest := []) (w2 := (iv_wd (iv_uA (iv_cA iv_Az 4 31 0 2048 64) 30 2 1) (iv_uF iv_Fz 3401 2) iv_Bz)) (tg2 := true) (k2 := 0) (z2 := 0) (v := (some (.int 0))) rfl rfl rfl rfl rfl rfl rfl (Nat.le_of_ble_eq_true rfl) rfl ?_ ?_
  · exact iv_z45_112
  show iv_G _ _ _ _ 61 [(5, .int 5), (4, .int 5), (6, .int 0), (3, .ref 34), (0, .ref 29), (1, .int 2), (2, .int 1)] [.int 0] (iv_wd (iv_uA (iv_cA iv_Az 4 31 0 2048 64) 30 2 1) (iv_uF iv_Fz 3401 2) iv_Bz) true _ _ _
  refine iv_Gm 8 (pc2 := 84) (lv2 := [(6, .int 0), (5, .int 5), (4, .int 5), (3, .ref 34), (0, .ref 29), (1, .int 2), (2, .int 1)]) (st2 := [.int 5, .int 5, .ref 34]) (w2 := (iv_wd (iv_uA (iv_cA iv_Az 4 31 0 2048 64) 30 2 1) (iv_uF iv_Fz 3401 2) iv_Bz)) rfl ?_
  refine iv_Gcall (ν := 94) (c := 3) (as := [.ref 34, .int 5, .int 5]) (rest := []) (w2 := (iv_wd (iv_uA (iv_cA iv_Az 4 31 0 2048 64) 30 2 1) (iv_uF iv_Fz 3401 2) iv_Bz)) (tg2 := true) (k2 := 0) (z2 := 0) (v := none) rfl rfl rfl rfl rfl rfl rfl (Nat.le_of_ble_eq_true rfl) rfl ?_ ?_
  · exact iv_z46_94
  show iv_G _ _ _ _ 87 [(6, .int 0), (5, .int 5), (4, .int 5), (3, .ref 34), (0, .ref 29), (1, .int 2), (2, .int 1)] [] (iv_wd (iv_uA (iv_cA iv_Az 4 31 0 2048 64) 30 2 1) (iv_uF iv_Fz 3401 2) iv_Bz) true _ _ _
  refine iv_Gm 9 (pc2 := 100) (lv2 := [(4, .int 6), (6, .int 0), (5, .int 5), (3, .ref 34), (0, .ref 29), (1, .int 2), (2, .int 1)]) (st2 := [.int 1, .int 0, .int 5, .ref 34, .ref 29]) (w2 := (iv_wd (iv_uA (iv_cA iv_Az 4 31 0 2048 64) 30 2 1) (iv_uF iv_Fz 3401 2) iv_Bz)) rfl ?_
  refine iv_Gcall (ν := 114) (c := 5) (as := [.ref 29, .ref 34, .int 5, .int 0, .int 1]) (rest := []) (w2 := (iv_wd (iv_uA (iv_cA iv_Az 4 31 0 2048 64) 30 2 1) (iv_uF iv_Fz 3401 2) iv_Bz)) (tg2 := true) (k2 := 0) (z2 := 0) (v := none) rfl rfl rfl rfl rfl rfl rfl (Nat.le_of_ble_eq_true rfl) rfl ?_ ?_
  · exact iv_z48_114
  show iv_G _ _ _ _ 103 [(4, .int 6), (6, .int 0), (5, .int 5), (3, .ref 34), (0, .ref 29), (1, .int 2), (2, .int 1)] [] (iv_wd (iv_uA (iv_cA iv_Az 4 31 0 2048 64) 30 2 1) (iv_uF iv_Fz 3401 2) iv_Bz) true _ _ _
  refine iv_Gm 8 (pc2 := 45) (lv2 := [(5, .int 6), (4, .int 6), (6, .int 0), (3, .ref 34), (0, .ref 29), (1, .int 2), (2, .int 1)]) (st2 := [.int 0, .int 6, .ref 34]) (w2 := (iv_wd (iv_uA (iv_cA iv_Az 4 31 0 2048 64) 30 2 1) (iv_uF iv_Fz 3401 2) iv_Bz)) rfl ?_
  refine iv_Gcall (ν := 92) (c := 3) (as := [.ref 34, .int 6, .int 0]) (rest := []) (w2 := (iv_wd (iv_uA (iv_cA iv_Az 4 31 0 2048 64) 30 2 1) (iv_uF iv_Fz 3401 2) iv_Bz)) (tg2 := true) (k2 := 0) (z2 := 0) (v := (some (.int 0))) rfl rfl rfl rfl rfl rfl rfl (Nat.le_of_ble_eq_true rfl) rfl ?_ ?_
  · exact iv_z49_92
  show iv_G _ _ _ _ 48 [(5, .int 6), (4, .int 6), (6, .int 0), (3, .ref 34), (0, .ref 29), (1, .int 2), (2, .int 1)] [.int 0] (iv_wd (iv_uA (iv_cA iv_Az 4 31 0 2048 64) 30 2 1) (iv_uF iv_Fz 3401 2) iv_Bz) true _ _ _
  refine iv_Gm 6 (pc2 := 58) (lv2 := [(5, .int 6), (4, .int 6), (6, .int 0), (3, .ref 34), (0, .ref 29), (1, .int 2), (2, .int 1)]) (st2 := [.int 1, .int 6, .ref 34, .ref 29]) (w2 := (iv_wd (iv_uA (iv_cA iv_Az 4 31 0 2048 64) 30 2 1) (iv_uF iv_Fz 3401 2) iv_Bz)) rfl ?_
  refine iv_Gcall (ν := 112) (c := 4) (as := [.ref 29, .ref 34, .int 6, .int 1]) (rest := []) (w2 := (iv_wd (iv_uA (iv_cA iv_Az 4 31 0 2048 64) 30 2 1) (iv_uF iv_Fz 3401 2) iv_Bz)) (tg2 := true) (k2 := 0) (z2 := 0) (v := (some (.int 0))) rfl rfl rfl rfl rfl rfl rfl (Nat.le_of_ble_eq_true rfl) rfl ?_ ?_
  · exact iv_z52_112
  show iv_G _ _ _ _ 61 [(5, .int 6), (4, .int 6), (6, .int 0), (3, .ref 34), (0, .ref 29), (1, .int 2), (2, .int 1)] [.int 0] (iv_wd (iv_uA (iv_cA iv_Az 4 31 0 2048 64) 30 2 1) (iv_uF iv_Fz 3401 2) iv_Bz) true _ _ _
  refine iv_Gm 8 (pc2 := 84) (lv2 := [(6, .int 0), (5, .int 6), (4, .int 6), (3, .ref 34), (0, .ref 29), (1, .int 2), (2, .int 1)]) (st2 := [.int 6, .int 6, .ref 34]) (w2 := (iv_wd (iv_uA (iv_cA iv_Az 4 31 0 2048 64) 30 2 1) (iv_uF iv_Fz 3401 2) iv_Bz)) rfl ?_
  refine iv_Gcall (ν := 94) (c := 3) (as := [.ref 34, .int 6, .int 6]) (rest := []) (w2 := (iv_wd (iv_uA (iv_cA iv_Az 4 31 0 2048 64) 30 2 1) (iv_uF iv_Fz 3401 2) iv_Bz)) (tg2 := true) (k2 := 0) (z2 := 0) (v := none) rfl rfl rfl rfl rfl rfl rfl (Nat.le_of_ble_eq_true rfl) rfl ?_ ?_
  · exact iv_z53_94
  show iv_G _ _ _ _ 87 [(6, .int 0), (5, .int 6), (4, .int 6), (3, .ref 34), (0, .ref 29), (1, .int 2), (2, .int 1)] [] (iv_wd (iv_uA (iv_cA iv_Az 4 31 0 2048 64) 30 2 1) (iv_uF iv_Fz 3401 2) iv_Bz) true _ _ _
  refine iv_Gm 9 (pc2 := 100) (lv2 := [(4, .int 7), (6, .int 0), (5, .int 6), (3, .ref 34), (0, .ref 29), (1, .int 2), (2, .int 1)]) (st2 := [.int 1, .int 0, .int 6, .ref 34, .ref 29]) (w2 := (iv_wd (iv_uA (iv_cA iv_Az 4 31 0 2048 64) 30 2 1) (iv_uF iv_Fz 3401 2) iv_Bz)) rfl ?_
  refine iv_Gcall (ν := 114) (c := 5) (as := [.ref 29, .ref 34, .int 6, .int 0, .int 1]) (rest := []) (w2 := (iv_wd (iv_uA (iv_cA iv_Az 4 31 0 2048 64) 30 2 1) (iv_uF iv_Fz 3401 2) iv_Bz)) (tg2 := true) (k2 := 0) (z2 := 0) (v := none) rfl rfl rfl rfl rfl rfl rfl (Nat.le_of_ble_eq_true rfl) rfl ?_ ?_
  · exact iv_z55_114
  show iv_G _ _ _ _ 103 [(4, .int 7), (6, .int 0), (5, .int 6), (3, .ref 34), (0, .ref 29), (1, .int 2), (2, .int 1)] [] (iv_wd (iv_uA (iv_cA iv_Az 4 31 0 2048 64) 30 2 1) (iv_uF iv_Fz 3401 2) iv_Bz) true _ _ _
  refine iv_Gm 8 (pc2 := 45) (lv2 := [(5, .int 7), (4, .int 7), (6, .int 0), (3, .ref 34), (0, .ref 29), (1, .int 2), (2, .int 1)]) (st2 := [.int 0, .int 7, .ref 34]) (w2 := (iv_wd (iv_uA (iv_cA iv_Az 4 31 0 2048 64) 30 2 1) (iv_uF iv_Fz 3401 2) iv_Bz)) rfl ?_
  refine iv_Gcall (ν := 92) (c := 3) (as := [.ref 34, .int 7, .int 0]) (rest := []) (w2 := (iv_wd (iv_uA (iv_cA iv_Az 4 31 0 2048 64) 30 2 1) (iv_uF iv_Fz 3401 2) iv_Bz)) (tg2 := true) (k2 := 0) (z2 := 0) (v := (some (.int 0))) rfl rfl rfl rfl rfl rfl rfl (Nat.le_of_ble_eq_true rfl) rfl ?_ ?_
  · exact iv_z56_92
  show iv_G _ _ _ _ 48 [(5, .int 7), (4, .int 7), (6, .int 0), (3, .ref 34), (0, .ref 29), (1, .int 2), (2, .int 1)] [.int 0] (iv_wd (iv_uA (iv_cA iv_Az 4 31 0 2048 64) 30 2 1) (iv_uF iv_Fz 3401 2) iv_Bz) true _ _ _
  refine iv_Gm 6 (pc2 := 58) (lv2 := [(5, .int 7), (4, .int 7), (6, .int 0), (3, .ref 34), (0, .ref 29), (1, .int 2), (2, .int 1)]) (st2 := [.int 1, .int 7, .ref 34, .ref 29]) (w2 := (iv_wd (iv_uA (iv_cA iv_Az 4 31 0 2048 64) 30 2 1) (iv_uF iv_Fz 3401 2) iv_Bz)) rfl ?_
  refine iv_Gcall (ν := 112) (c := 4) (as := [.ref 29, .ref 34, .int 7, .int 1]) (rest := []) (w2 := (iv_wd (iv_uA (iv_cA iv_Az 4 31 0 2048 64) 30 2 1) (iv_uF iv_Fz 3401 2) iv_Bz)) (tg2 := true) (k2 := 0) (z2 := 0) (v := (some (.int 0))) rfl rfl rfl rfl rfl rfl rfl (Nat.le_of_ble_eq_true rfl) rfl ?_ ?_
  · exact iv_z59_112
  show iv_G _ _ _ _ 61 [(5, .int 7), (4, .int 7), (6, .int 0), (3, .ref 34), (0, .ref 29), (1, .int 2), (2, .int 1)] [.int 0] (iv_wd (iv_uA (iv_cA iv_Az 4 31 0 2048 64) 30 2 1) (iv_uF iv_Fz 3401 2) iv_Bz) true _ _ _
  refine iv_Gm 8 (pc2 := 84) (lv2 := [(6, .int 0), (5, .int 7), (4, .int 7), (3, .ref 34), (0, .ref 29), (1, .int 2), (2, .int 1)]) (st2 := [.int 7, .int 7, .ref 34]) (w2 := (iv_wd (iv_uA (iv_cA iv_Az 4 31 0 2048 64) 30 2 1) (iv_uF iv_Fz 3401 2) iv_Bz)) rfl ?_
  refine iv_Gcall (ν := 94) (c := 3) (as := [.ref 34, .int 7, .int 7]) (rest := []) (w2 := (iv_wd (iv_uA (iv_cA iv_Az 4 31 0 2048 64) 30 2 1) (iv_uF iv_Fz 3401 2) iv_Bz)) (tg2 := true) (k2 := 0) (z2 := 0) (v := none) rfl rfl rfl rfl rfl rfl rfl (Nat.le_of_ble_eq_true rfl) rfl ?_ ?_
  · exact iv_z60_94
  show iv_G _ _ _ _ 87 [(6, .int 0), (5, .int 7), (4, .int 7), (3, .ref 34), (0, .ref 29), (1, .int 2), (2, .int 1)] [] (iv_wd (iv_uA (iv_cA iv_Az 4 31 0 2048 64) 30 2 1) (iv_uF iv_Fz 3401 2) iv_Bz) true _ _ _
  refine iv_Gm 9 (pc2 := 100) (lv2 := [(4, .int 8), (6, .int 0), (5, .int 7), (3, .ref 34), (0, .ref 29), (1, .int 2), (2, .int 1)]) (st2 := [.int 1, .int 0, .int 7, .ref 34, .ref 29]) (w2 := (iv_wd (iv_uA (iv_cA iv_Az 4 31 0 2048 64) 30 2 1) (iv_uF iv_Fz 3401 2) iv_Bz)) rfl ?_
  refine iv_Gcall (ν := 114) (c := 5) (as := [.ref 29, .ref 34, .int 7, .int 0, .int 1]) (rest := []) (w2 := (iv_wd (iv_uA (iv_cA iv_Az 4 31 0 2048 64) 30 2 1) (iv_uF iv_Fz 3401 2) iv_Bz)) (tg2 := true) (k2 := 0) (z2 := 0) (v := none) rfl rfl rfl rfl rfl rfl rfl (Nat.le_of_ble_eq_true rfl) rfl ?_ ?_
  · exact iv_z62_114
  show iv_G _ _ _ _ 103 [(4, .int 8), (6, .int 0), (5, .int 7), (3, .ref 34), (0, .ref 29), (1, .int 2), (2, .int 1)] [] (iv_wd (iv_uA (iv_cA iv_Az 4 31 0 2048 64) 30 2 1) (iv_uF iv_Fz 3401 2) iv_Bz) true _ _ _
  refine iv_Gm 8 (pc2 := 114) (lv2 := [(5, .int 8), (4, .int 8), (6, .int 0), (3, .ref 34), (0, .ref 29), (1, .int 2), (2, .int 1)]) (st2 := [.int 8, .int 8, .ref 34]) (w2 := (iv_wd (iv_uA (iv_cA iv_Az 4 31 0 2048 64) 30 2 1) (iv_uF iv_Fz 3401 2) iv_Bz)) rfl ?_
  refine iv_Gcall (ν := 94) (c := 3) (as := [.ref 34, .int 8, .int 8]) (rest := []) (w2 := (iv_wd (iv_uA (iv_cA iv_Az 4 31 0 2048 64) 30 2 1) (iv_uF iv_Fz 3401 2) iv_Bz)) (tg2 := true) (k2 := 0) (z2 := 0) (v := none) rfl rfl rfl rfl rfl rfl rfl (Nat.le_of_ble_eq_true rfl) rfl ?_ ?_
  · exact iv_z63_94
  show iv_G _ _ _ _ 117 [(5, .int 8), (4, .int 8), (6, .int 0), (3, .ref 34), (0, .ref 29), (1, .int 2), (2, .int 1)] [] (iv_wd (iv_uA (iv_cA iv_Az 4 31 0 2048 64) 30 2 1) (iv_uF iv_Fz 3401 2) iv_Bz) true _ _ _
  refine iv_Gm 4 (pc2 := 123) (lv2 := [(5, .int 8), (4, .int 8), (6, .int 0), (3, .ref 34), (0, .ref 29), (1, .int 2), (2, .int 1)]) (st2 := [.ref 34, .int 2, .ref 2]) (w2 := (iv_wd (iv_uA (iv_cA iv_Az 4 31 0 2048 64) 30 2 1) (iv_uF iv_Fz 3401 2) iv_Bz)) rfl ?_
  refine iv_Gcall (ν := 88) (c := 1) (as := [.ref 34]) (rest := [.int 2, .ref 2]) (w2 := (iv_wd (iv_uA (iv_cA iv_Az 4 31 0 2048 64) 30 2 1) (iv_uF iv_Fz 3401 2) iv_Bz)) (tg2 := true) (k2 := 0) (z2 := 0) (v := (some (.ref 35))) rfl rfl rfl rfl rfl rfl rfl (Nat.le_of_ble_eq_true rfl) rfl ?_ ?_
  · exact ⟨5, rfl⟩
  show iv_G _ _ _ _ 126 [(5, .int 8), (4, .int 8), (6, .int 0), (3, .ref 34), (0, .ref 29), (1, .int 2), (2, .int 1)] [.ref 35, .int 2, .ref 2] (iv_wd (iv_uA (iv_cA iv_Az 4 31 0 2048 64) 30 2 1) (iv_uF iv_Fz 3401 2) iv_Bz) true _ _ _
  refine iv_Gm 1 (pc2 := 127) (lv2 := [(5, .int 8), (4, .int 8), (6, .int 0), (3, .ref 34), (0, .ref 29), (1, .int 2), (2, .int 1)]) (st2 := [.int 0, .ref 35, .int 2, .ref 2]) (w2 := (iv_wd (iv_uA (iv_cA iv_Az 4 31 0 2048 64) 30 2 1) (iv_uF iv_Fz 3401 2) iv_Bz)) rfl ?_
  refine iv_Gcall (ν := 71) (c := 4) (as := [.ref 2, .int 2, .ref 35, .int 0]) (rest := []) (w2 := (iv_wd (iv_uA (iv_cA iv_Az 4 31 0 2048 64) 30 2 1) (iv_uF iv_Fz 3401 2) iv_Bz)) (tg2 := true) (k2 := 0) (z2 := 0) (v := none) rfl rfl rfl rfl rfl rfl rfl (Nat.le_of_ble_eq_true rfl) rfl ?_ ?_
  · exact iv_z64_71
  show iv_G _ _ _ _ 130 [(5, .int 8), (4, .int 8), (6, .int 0), (3, .ref 34), (0, .ref 29), (1, .int 2), (2, .int 1)] [] (iv_wd (iv_uA (iv_cA iv_Az 4 31 0 2048 64) 30 2 1) (iv_uF iv_Fz 3401 2) iv_Bz) true _ _ _
  exact iv_Gret rfl rfl rfl
