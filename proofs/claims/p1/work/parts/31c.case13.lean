set_option maxRecDepth 1000000 in
set_option maxHeartbeats 40000000 in
theorem iv_z66_108 {xs : Nat → Int32} : iv_G 6 xs 17 108 0 [(0, .ref 29)] [] (iv_wd iv_Az iv_Fz iv_Bz) true 0 0 (.inl (some (.int 0)), (iv_wd iv_A13 iv_F13 iv_Bz), true, 0, 0) := by
  refine iv_Gm 4 (pc2 := 8) (lv2 := [(0, .ref 29)]) (st2 := [.ref 31, .ref 2]) (w2 := (iv_wd iv_Az iv_Fz iv_Bz)) rfl ?_
  refine iv_Gcall (ν := 75) (c := 2) (as := [.ref 2, .ref 31]) (rest := []) (w2 := (iv_wd (iv_cA iv_Az 4 31 0 2048 64) iv_Fz iv_Bz)) (tg2 := true) (k2 := 0) (z2 := 0) (v := none) rfl rfl rfl rfl rfl rfl rfl (Nat.le_of_ble_eq_true rfl) rfl ?_ ?_
  · exact iv_z2_75
  show iv_G _ _ _ _ 11 [(0, .ref 29)] [] (iv_wd (iv_cA iv_Az 4 31 0 2048 64) iv_Fz iv_Bz) true _ _ _
  refine iv_Gm 2 (pc2 := 13) (lv2 := [(1, .int 0), (0, .ref 29)]) (st2 := []) (w2 := (iv_wd (iv_cA iv_Az 4 31 0 2048 64) iv_Fz iv_Bz)) rfl ?_
  refine iv_usL (fun _ => rfl) ?_ 32 0 rfl
  refine iv_Gm 6 (pc2 := 37) (lv2 := [(1, .int 32), (0, .ref 29)]) (st2 := [.ref 2, .ref 29]) (w2 := (iv_wd (iv_cA iv_Az 4 31 0 2048 64) iv_Fz iv_Bz)) rfl ?_
  refine iv_Gcall (ν := 55) (c := 1) (as := [.ref 2]) (rest := [.ref 29]) (w2 := (iv_wd (iv_cA iv_Az 4 31 0 2048 64) iv_Fz iv_Bz)) (tg2 := true) (k2 := 0) (z2 := 0) (v := (some (.int 2))) rfl rfl rfl rfl rfl rfl rfl (Nat.le_of_ble_eq_true rfl) rfl ?_ ?_
  · exact ⟨5, rfl⟩
  show iv_G _ _ _ _ 40 [(1, .int 32), (0, .ref 29)] [.int 2, .ref 29] (iv_wd (iv_cA iv_Az 4 31 0 2048 64) iv_Fz iv_Bz) true _ _ _
  refine iv_Gcall (ν := 109) (c := 2) (as := [.ref 29, .int 2]) (rest := []) (w2 := (iv_wd (iv_uA (iv_cA iv_Az 4 31 0 2048 64) 30 2 1) iv_Fz iv_Bz)) (tg2 := true) (k2 := 0) (z2 := 0) (v := none) rfl rfl rfl rfl rfl rfl rfl (Nat.le_of_ble_eq_true rfl) rfl ?_ ?_
  · exact iv_z4_109
  show iv_G _ _ _ _ 43 [(1, .int 32), (0, .ref 29)] [] (iv_wd (iv_uA (iv_cA iv_Az 4 31 0 2048 64) 30 2 1) iv_Fz iv_Bz) true _ _ _
  refine iv_Gm 3 (pc2 := 48) (lv2 := [(1, .int 32), (0, .ref 29)]) (st2 := [.ref 2, .ref 29]) (w2 := (iv_wd (iv_uA (iv_cA iv_Az 4 31 0 2048 64) 30 2 1) iv_Fz iv_Bz)) rfl ?_
  refine iv_Gcall (ν := 55) (c := 1) (as := [.ref 2]) (rest := [.ref 29]) (w2 := (iv_wd (iv_uA (iv_cA iv_Az 4 31 0 2048 64) 30 2 1) iv_Fz iv_Bz)) (tg2 := true) (k2 := 0) (z2 := 0) (v := (some (.int 2))) rfl rfl rfl rfl rfl rfl rfl (Nat.le_of_ble_eq_true rfl) rfl ?_ ?_
  · exact ⟨5, rfl⟩
  show iv_G _ _ _ _ 51 [(1, .int 32), (0, .ref 29)] [.int 2, .ref 29] (iv_wd (iv_uA (iv_cA iv_Az 4 31 0 2048 64) 30 2 1) iv_Fz iv_Bz) true _ _ _
  refine iv_Gm 1 (pc2 := 52) (lv2 := [(1, .int 32), (0, .ref 29)]) (st2 := [.int 1, .int 2, .ref 29]) (w2 := (iv_wd (iv_uA (iv_cA iv_Az 4 31 0 2048 64) 30 2 1) iv_Fz iv_Bz)) rfl ?_
  refine iv_Gcall (ν := 111) (c := 3) (as := [.ref 29, .int 2, .int 1]) (rest := []) (w2 := (iv_wd (iv_uA (iv_cA iv_Az 4 31 0 2048 64) 30 2 1) (iv_uF iv_Fz 3401 2) iv_Bz)) (tg2 := true) (k2 := 0) (z2 := 0) (v := none) rfl rfl rfl rfl rfl rfl rfl (Nat.le_of_ble_eq_true rfl) rfl ?_ ?_
  · exact iv_z65_111
  show iv_G _ _ _ _ 55 [(1, .int 32), (0, .ref 29)] [] (iv_wd (iv_uA (iv_cA iv_Az 4 31 0 2048 64) 30 2 1) (iv_uF iv_Fz 3401 2) iv_Bz) true _ _ _
  refine iv_Gm 1 (pc2 := 56) (lv2 := [(1, .int 32), (0, .ref 29)]) (st2 := [.ref 29]) (w2 := (iv_wd (iv_uA (iv_cA iv_Az 4 31 0 2048 64) 30 2 1) (iv_uF iv_Fz 3401 2) iv_Bz)) rfl ?_
  refine iv_Gcall (ν := 110) (c := 1) (as := [.ref 29]) (rest := []) (w2 := (iv_wd (iv_uA (iv_cA iv_Az 4 31 0 2048 64) 30 2 1) (iv_uF iv_Fz 3401 2) iv_Bz)) (tg2 := true) (k2 := 0) (z2 := 0) (v := none) rfl rfl rfl rfl rfl rfl rfl (Nat.le_of_ble_eq_true rfl) rfl ?_ ?_
  · exact iv_fuX
  show iv_G _ _ _ _ 59 [(1, .int 32), (0, .ref 29)] [] (iv_wd (iv_uA (iv_cA iv_Az 4 31 0 2048 64) 30 2 1) (iv_uF iv_Fz 3401 2) iv_Bz) true _ _ _
  refine iv_Gm 4 (pc2 := 67) (lv2 := [(1, .int 32), (0, .ref 29)]) (st2 := [.ref 31, .ref 2]) (w2 := (iv_wd (iv_uA (iv_cA iv_Az 4 31 0 2048 64) 30 2 1) (iv_uF iv_Fz 3401 2) iv_Bz)) rfl ?_
  refine iv_Gcall (ν := 76) (c := 2) (as := [.ref 2, .ref 31]) (rest := []) (w2 := (iv_wd iv_A13 iv_F13 iv_Bz)) (tg2 := true) (k2 := 0) (z2 := 0) (v := (some (.int 0))) rfl rfl rfl rfl rfl rfl rfl (Nat.le_of_ble_eq_true rfl) rfl ?_ ?_
  · exact iv_co13
  show iv_G _ _ _ _ 70 [(1, .int 32), (0, .ref 29)] [.int 0] (iv_wd iv_A13 iv_F13 iv_Bz) true _ _ _
  exact iv_Gret rfl rfl rfl
set_option maxRecDepth 1000000 in
set_option maxHeartbeats 40000000 in
theorem iv_z67_15 {xs : Nat → Int32} : iv_G 6 xs 18 15 0 [(0, .ref 1)] [] (iv_wd iv_Az iv_Fz iv_Bz) true 0 0 (.inl (some (.int 0)), (iv_wd iv_A13 iv_F13 iv_Bz), true, 0, 0) := by
  refine iv_Gm 1 (pc2 := 1) (lv2 := [(0, .ref 1)]) (st2 := [.ref 1]) (w2 := (iv_wd iv_Az iv_Fz iv_Bz)) rfl ?_
  refine iv_Gcall (ν := 16) (c := 1) (as := [.ref 1]) (rest := []) (w2 := (iv_wd iv_Az iv_Fz iv_Bz)) (tg2 := true) (k2 := 0) (z2 := 0) (v := none) rfl rfl rfl rfl rfl rfl rfl (Nat.le_of_ble_eq_true rfl) rfl ?_ ?_
  · exact iv_z1_16
  show iv_G _ _ _ _ 4 [(0, .ref 1)] [] (iv_wd iv_Az iv_Fz iv_Bz) true _ _ _
  refine iv_Gm 2 (pc2 := 8) (lv2 := [(0, .ref 1)]) (st2 := [.ref 29]) (w2 := (iv_wd iv_Az iv_Fz iv_Bz)) rfl ?_
  refine iv_Gcall (ν := 108) (c := 1) (as := [.ref 29]) (rest := []) (w2 := (iv_wd iv_A13 iv_F13 iv_Bz)) (tg2 := true) (k2 := 0) (z2 := 0) (v := (some (.int 0))) rfl rfl rfl rfl rfl rfl rfl (Nat.le_of_ble_eq_true rfl) rfl ?_ ?_
  · exact iv_z66_108
  show iv_G _ _ _ _ 11 [(0, .ref 1)] [.int 0] (iv_wd iv_A13 iv_F13 iv_Bz) true _ _ _
  exact iv_Gret rfl rfl rfl
set_option maxRecDepth 1000000 in
set_option maxHeartbeats 40000000 in
theorem iv_z68_193 {xs : Nat → Int32} : iv_G 6 xs 19 193 0 [(0, .ref 1), (1, .ref 65)] [] (iv_wd iv_Az iv_Fz iv_Bz) true 0 0 (.inl (some (.int 0)), (iv_wd iv_A13 iv_F13 (vp_updL iv_Bz 0 0)), true, 0, 0) := by
  refine iv_Gm 3 (pc2 := 3) (lv2 := [(0, .ref 1), (1, .ref 65)]) (st2 := [.ref 1, .int 0, .ref 65]) (w2 := (iv_wd iv_Az iv_Fz iv_Bz)) rfl ?_
  refine iv_Gcall (ν := 15) (c := 1) (as := [.ref 1]) (rest := [.int 0, .ref 65]) (w2 := (iv_wd iv_A13 iv_F13 iv_Bz)) (tg2 := true) (k2 := 0) (z2 := 0) (v := (some (.int 0))) rfl rfl rfl rfl rfl rfl rfl (Nat.le_of_ble_eq_true rfl) rfl ?_ ?_
  · exact iv_z67_15
  show iv_G _ _ _ _ 6 [(0, .ref 1), (1, .ref 65)] [.int 0, .int 0, .ref 65] (iv_wd iv_A13 iv_F13 iv_Bz) true _ _ _
  refine iv_Gm 4 (pc2 := 15) (lv2 := [(0, .ref 1), (1, .ref 65)]) (st2 := [.int 0]) (w2 := (iv_wd iv_A13 iv_F13 (vp_updL iv_Bz 0 0))) rfl ?_
  exact iv_Gret rfl rfl rfl
set_option maxRecDepth 1000000 in
set_option maxHeartbeats 40000000 in
theorem iv_case_13 (xs : Nat → Int32) (h0 : xs 0 &&& 15 = 13) : iv_Fin 6 xs 20 0 23 [(4, .int 0), (3, .ref 65), (2, .ref 44), (1, .ref 1), (0, .ref 0)] [] (iv_wd iv_Az iv_Fz iv_Bz) true 65 10417 := by
  refine iv_Em 11 (pc2 := 40) (lv2 := [(4, .int 0), (3, .ref 65), (2, .ref 44), (1, .ref 1), (0, .ref 0)]) (st2 := [.int ((xs 0) &&& 15)]) (w2 := (iv_wd iv_Az iv_Fz iv_Bz)) rfl ?_
  refine iv_Esw rfl rfl (show iv_sw 40 _ _ _ _ _ = some 737 by rw [h0]; rfl) ?_
  refine iv_Em 2 (pc2 := 739) (lv2 := [(4, .int 0), (3, .ref 65), (2, .ref 44), (1, .ref 1), (0, .ref 0)]) (st2 := [.ref 65, .ref 1]) (w2 := (iv_wd iv_Az iv_Fz iv_Bz)) rfl ?_
  refine iv_Ecall (ν := 193) (c := 2) (as := [.ref 1, .ref 65]) (rest := []) (w2 := (iv_wd iv_A13 iv_F13 (vp_updL iv_Bz 0 0))) (tg2 := true) (k2 := 0) (z2 := 0) (v := (some (.int 0))) rfl rfl rfl rfl rfl rfl rfl (Nat.le_of_ble_eq_true rfl) rfl ?_ ?_
  · exact iv_z68_193
  show iv_Fin _ _ _ _ 742 [(4, .int 0), (3, .ref 65), (2, .ref 44), (1, .ref 1), (0, .ref 0)] [.int 0] (iv_wd iv_A13 iv_F13 (vp_updL iv_Bz 0 0)) true _ _
  refine iv_Em 2 (pc2 := 745) (lv2 := [(5, .int 0), (4, .int 0), (3, .ref 65), (2, .ref 44), (1, .ref 1), (0, .ref 0)]) (st2 := [.ref 44]) (w2 := (iv_wd iv_A13 iv_F13 (vp_updL iv_Bz 0 0))) rfl ?_
  refine iv_Ecall (ν := 186) (c := 1) (as := [.ref 44]) (rest := []) (w2 := (iv_wd iv_A14 iv_F14 (vp_updL iv_Bz 0 0))) (tg2 := true) (k2 := 0) (z2 := 0) (v := (some (.int 0))) rfl rfl rfl rfl rfl rfl rfl (Nat.le_of_ble_eq_true rfl) rfl ?_ ?_
  · exact iv_re13
  show iv_Fin _ _ _ _ 748 [(5, .int 0), (4, .int 0), (3, .ref 65), (2, .ref 44), (1, .ref 1), (0, .ref 0)] [.int 0] (iv_wd iv_A14 iv_F14 (vp_updL iv_Bz 0 0)) true _ _
  refine iv_Em 2 (pc2 := 751) (lv2 := [(6, .int 0), (5, .int 0), (4, .int 0), (3, .ref 65), (2, .ref 44), (1, .ref 1), (0, .ref 0)]) (st2 := [.ref 44]) (w2 := (iv_wd iv_A14 iv_F14 (vp_updL iv_Bz 0 0))) rfl ?_
  refine iv_Ecall (ν := 133) (c := 1) (as := [.ref 44]) (rest := []) (w2 := (iv_wd iv_A14 iv_F14 (vp_updL iv_Bz 0 0))) (tg2 := true) (k2 := 0) (z2 := 0) (v := (some (.int 0))) rfl rfl rfl rfl rfl rfl rfl (Nat.le_of_ble_eq_true rfl) rfl ?_ ?_
  · exact ⟨5, rfl⟩
  show iv_Fin _ _ _ _ 754 [(6, .int 0), (5, .int 0), (4, .int 0), (3, .ref 65), (2, .ref 44), (1, .ref 1), (0, .ref 0)] [.int 0] (iv_wd iv_A14 iv_F14 (vp_updL iv_Bz 0 0)) true _ _
  refine iv_Em 21 (pc2 := 788) (lv2 := [(4, .int 6), (6, .int 0), (5, .int 0), (3, .ref 65), (2, .ref 44), (1, .ref 1), (0, .ref 0)]) (st2 := [.int 1]) (w2 := (iv_wd iv_A14 iv_F14 (vp_updL iv_Bz 0 0))) rfl ?_
  exact iv_Eret rfl rfl rfl (by decide) (by decide)
