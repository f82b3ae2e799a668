set_option maxRecDepth 1000000 in
set_option maxHeartbeats 40000000 in
theorem iv_case_13 (xs : Nat → Int32) (h0 : xs 0 &&& 15 = 13) : iv_Fin 6 xs 20 0 23 [(4, .int 0), (3, .ref 65), (2, .ref 44), (1, .ref 1), (0, .ref 0)] [] (iv_wd iv_Az iv_Fz iv_Bz) true 65 10417 := by
  refine iv_Em 11 (pc2 := 40) (lv2 := [(4, .int 0), (3, .ref 65), (2, .ref 44), (1, .ref 1), (0, .ref 0)]) (st2 := [.int ((xs 0) &&& 15)]) (w2 := (iv_wd iv_Az iv_Fz iv_Bz)) rfl ?_
  refine iv_Esw rfl rfl (show iv_sw 40 _ _ _ _ _ = some 737 by rw [h0]; rfl) ?_
  refine iv_Em 2 (pc2 := 739) (lv2 := [(4, .int 0), (3, .ref 65), (2, .ref 44), (1, .ref 1), (0, .ref 0)]) (st2 := [.ref 65, .ref 1]) (w2 := (iv_wd iv_Az iv_Fz iv_Bz)) rfl ?_
  refine iv_Ecall (ν := 193) (c := 2) (as := [.ref 1, .ref 65]) (rest := []) (w2 := (iv_wd iv_A13 iv_F13 (vp_updL iv_Bz 0 0))) (tg2 := true) (k2 := 0) (z2 := 0) (v := (some (.int 0))) rfl rfl rfl rfl rfl rfl rfl (Nat.le_of_ble_eq_true rfl) rfl ?_ ?_
  · refine iv_Gm 3 (pc2 := 3) (lv2 := [(0, .ref 1), (1, .ref 65)]) (st2 := [.ref 1, .int 0, .ref 65]) (w2 := (iv_wd iv_Az iv_Fz iv_Bz)) rfl ?_
    refine iv_Gcall (ν := 15) (c := 1) (as := [.ref 1]) (rest := [.int 0, .ref 65]) (w2 := (iv_wd iv_A13 iv_F13 iv_Bz)) (tg2 := true) (k2 := 0) (z2 := 0) (v := (some (.int 0))) rfl rfl rfl rfl rfl rfl rfl (Nat.le_of_ble_eq_true rfl) rfl ?_ ?_
    · refine iv_Gm 1 (pc2 := 1) (lv2 := [(0, .ref 1)]) (st2 := [.ref 1]) (w2 := (iv_wd iv_Az iv_Fz iv_Bz)) rfl ?_
      refine iv_Gcall (ν := 16) (c := 1) (as := [.ref 1]) (rest := []) (w2 := (iv_wd iv_Az iv_Fz iv_Bz)) (tg2 := true) (k2 := 0) (z2 := 0) (v := none) rfl rfl rfl rfl rfl rfl rfl (Nat.le_of_ble_eq_true rfl) rfl ?_ ?_
      · exact ⟨10, rfl⟩
      show iv_G _ _ _ _ 4 [(0, .ref 1)] [] (iv_wd iv_Az iv_Fz iv_Bz) true _ _ _
      refine iv_Gm 2 (pc2 := 8) (lv2 := [(0, .ref 1)]) (st2 := [.ref 29]) (w2 := (iv_wd iv_Az iv_Fz iv_Bz)) rfl ?_
      refine iv_Gcall (ν := 108) (c := 1) (as := [.ref 29]) (rest := []) (w2 := (iv_wd iv_A13 iv_F13 iv_Bz)) (tg2 := true) (k2 := 0) (z2 := 0) (v := (some (.int 0))) rfl rfl rfl rfl rfl rfl rfl (Nat.le_of_ble_eq_true rfl) rfl ?_ ?_
      · refine iv_Gm 4 (pc2 := 8) (lv2 := [(0, .ref 29)]) (st2 := [.ref 31, .ref 2]) (w2 := (iv_wd iv_Az iv_Fz iv_Bz)) rfl ?_
        refine iv_Gcall (ν := 75) (c := 2) (as := [.ref 2, .ref 31]) (rest := []) (w2 := (iv_wd (iv_cA iv_Az 4 31 0 2048 64) iv_Fz iv_Bz)) (tg2 := true) (k2 := 0) (z2 := 0) (v := none) rfl rfl rfl rfl rfl rfl rfl (Nat.le_of_ble_eq_true rfl) rfl ?_ ?_
        · refine iv_Gm 9 (pc2 := 15) (lv2 := [(0, .ref 2), (1, .ref 31)]) (st2 := []) (w2 := (iv_wd (iv_cA iv_Az 3 31 0 0 2048) iv_Fz iv_Bz)) rfl ?_
          rw [iv_cA_id (A := iv_Az) (r0 := 3) (r := 31) (sp := 0) (dp := 0) (n := 2048) rfl rfl]
          refine iv_Gm 11 (pc2 := 34) (lv2 := [(0, .ref 2), (1, .ref 31)]) (st2 := []) (w2 := (iv_wd (iv_cA iv_Az 4 31 0 2048 64) iv_Fz iv_Bz)) rfl ?_
          exact iv_Gret rfl rfl rfl
        show iv_G _ _ _ _ 11 [(0, .ref 29)] [] (iv_wd (iv_cA iv_Az 4 31 0 2048 64) iv_Fz iv_Bz) true _ _ _
        refine iv_Gm 10 (pc2 := 26) (lv2 := [(1, .int 0), (0, .ref 29)]) (st2 := []) (w2 := (iv_wd (iv_uA (iv_cA iv_Az 4 31 0 2048 64) 30 0 0) iv_Fz iv_Bz)) rfl ?_
        rw [iv_uA_id (A := (iv_cA iv_Az 4 31 0 2048 64)) (r := 30) (j := 0) (v := 0) rfl]
        refine iv_Gm 10 (pc2 := 26) (lv2 := [(1, .int 1), (0, .ref 29)]) (st2 := []) (w2 := (iv_wd (iv_uA (iv_cA iv_Az 4 31 0 2048 64) 30 1 0) iv_Fz iv_Bz)) rfl ?_
        rw [iv_uA_id (A := (iv_cA iv_Az 4 31 0 2048 64)) (r := 30) (j := 1) (v := 0) rfl]
        refine iv_Gm 10 (pc2 := 26) (lv2 := [(1, .int 2), (0, .ref 29)]) (st2 := []) (w2 := (iv_wd (iv_uA (iv_cA iv_Az 4 31 0 2048 64) 30 2 0) iv_Fz iv_Bz)) rfl ?_
        rw [iv_uA_id (A := (iv_cA iv_Az 4 31 0 2048 64)) (r := 30) (j := 2) (v := 0) rfl]
        refine iv_Gm 10 (pc2 := 26) (lv2 := [(1, .int 3), (0, .ref 29)]) (st2 := []) (w2 := (iv_wd (iv_uA (iv_cA iv_Az 4 31 0 2048 64) 30 3 0) iv_Fz iv_Bz)) rfl ?_
        rw [iv_uA_id (A := (iv_cA iv_Az 4 31 0 2048 64)) (r := 30) (j := 3) (v := 0) rfl]
        refine iv_Gm 10 (pc2 := 26) (lv2 := [(1, .int 4), (0, .ref 29)]) (st2 := []) (w2 := (iv_wd (iv_uA (iv_cA iv_Az 4 31 0 2048 64) 30 4 0) iv_Fz iv_Bz)) rfl ?_
        rw [iv_uA_id (A := (iv_cA iv_Az 4 31 0 2048 64)) (r := 30) (j := 4) (v := 0) rfl]
        refine iv_Gm 10 (pc2 := 26) (lv2 := [(1, .int 5), (0, .ref 29)]) (st2 := []) (w2 := (iv_wd (iv_uA (iv_cA iv_Az 4 31 0 2048 64) 30 5 0) iv_Fz iv_Bz)) rfl ?_
        rw [iv_uA_id (A := (iv_cA iv_Az 4 31 0 2048 64)) (r := 30) (j := 5) (v := 0) rfl]
        refine iv_Gm 10 (pc2 := 26) (lv2 := [(1, .int 6), (0, .ref 29)]) (st2 := []) (w2 := (iv_wd (iv_uA (iv_cA iv_Az 4 31 0 2048 64) 30 6 0) iv_Fz iv_Bz)) rfl ?_
        rw [iv_uA_id (A := (iv_cA iv_Az 4 31 0 2048 64)) (r := 30) (j := 6) (v := 0) rfl]
        refine iv_Gm 10 (pc2 := 26) (lv2 := [(1, .int 7), (0, .ref 29)]) (st2 := []) (w2 := (iv_wd (iv_uA (iv_cA iv_Az 4 31 0 2048 64) 30 7 0) iv_Fz iv_Bz)) rfl ?_
        rw [iv_uA_id (A := (iv_cA iv_Az 4 31 0 2048 64)) (r := 30) (j := 7) (v := 0) rfl]
        refine iv_Gm 10 (pc2 := 26) (lv2 := [(1, .int 8), (0, .ref 29)]) (st2 := []) (w2 := (iv_wd (iv_uA (iv_cA iv_Az 4 31 0 2048 64) 30 8 0) iv_Fz iv_Bz)) rfl ?_
        rw [iv_uA_id (A := (iv_cA iv_Az 4 31 0 2048 64)) (r := 30) (j := 8) (v := 0) rfl]
        refine iv_Gm 10 (pc2 := 26) (lv2 := [(1, .int 9), (0, .ref 29)]) (st2 := []) (w2 := (iv_wd (iv_uA (iv_cA iv_Az 4 31 0 2048 64) 30 9 0) iv_Fz iv_Bz)) rfl ?_
        rw [iv_uA_id (A := (iv_cA iv_Az 4 31 0 2048 64)) (r := 30) (j := 9) (v := 0) rfl]
        refine iv_Gm 10 (pc2 := 26) (lv2 := [(1, .int 10), (0, .ref 29)]) (st2 := []) (w2 := (iv_wd (iv_uA (iv_cA iv_Az 4 31 0 2048 64) 30 10 0) iv_Fz iv_Bz)) rfl ?_
        rw [iv_uA_id (A := (iv_cA iv_Az 4 31 0 2048 64)) (r := 30) (j := 10) (v := 0) rfl]
        refine iv_Gm 10 (pc2 := 26) (lv2 := [(1, .int 11), (0, .ref 29)]) (st2 := []) (w2 := (iv_wd (iv_uA (iv_cA iv_Az 4 31 0 2048 64) 30 11 0) iv_Fz iv_Bz)) rfl ?_
        rw [iv_uA_id (A := (iv_cA iv_Az 4 31 0 2048 64)) (r := 30) (j := 11) (v := 0) rfl]
        refine iv_Gm 10 (pc2 := 26) (lv2 := [(1, .int 12), (0, .ref 29)]) (st2 := []) (w2 := (iv_wd (iv_uA (iv_cA iv_Az 4 31 0 2048 64) 30 12 0) iv_Fz iv_Bz)) rfl ?_
        rw [iv_uA_id (A := (iv_cA iv_Az 4 31 0 2048 64)) (r := 30) (j := 12) (v := 0) rfl]
        refine iv_Gm 10 (pc2 := 26) (lv2 := [(1, .int 13), (0, .ref 29)]) (st2 := []) (w2 := (iv_wd (iv_uA (iv_cA iv_Az 4 31 0 2048 64) 30 13 0) iv_Fz iv_Bz)) rfl ?_
        rw [iv_uA_id (A := (iv_cA iv_Az 4 31 0 2048 64)) (r := 30) (j := 13) (v := 0) rfl]
        refine iv_Gm 10 (pc2 := 26) (lv2 := [(1, .int 14), (0, .ref 29)]) (st2 := []) (w2 := (iv_wd (iv_uA (iv_cA iv_Az 4 31 0 2048 64) 30 14 0) iv_Fz iv_Bz)) rfl ?_
        rw [iv_uA_id (A := (iv_cA iv_Az 4 31 0 2048 64)) (r := 30) (j := 14) (v := 0) rfl]
        refine iv_Gm 10 (pc2 := 26) (lv2 := [(1, .int 15), (0, .ref 29)]) (st2 := []) (w2 := (iv_wd (iv_uA (iv_cA iv_Az 4 31 0 2048 64) 30 15 0) iv_Fz iv_Bz)) rfl ?_
        rw [iv_uA_id (A := (iv_cA iv_Az 4 31 0 2048 64)) (r := 30) (j := 15) (v := 0) rfl]
        refine iv_Gm 10 (pc2 := 26) (lv2 := [(1, .int 16), (0, .ref 29)]) (st2 := []) (w2 := (iv_wd (iv_uA (iv_cA iv_Az 4 31 0 2048 64) 30 16 0) iv_Fz iv_Bz)) rfl ?_
        rw [iv_uA_id (A := (iv_cA iv_Az 4 31 0 2048 64)) (r := 30) (j := 16) (v := 0) rfl]
        refine iv_Gm 10 (pc2 := 26) (lv2 := [(1, .int 17), (0, .ref 29)]) (st2 := []) (w2 := (iv_wd (iv_uA (iv_cA iv_Az 4 31 0 2048 64) 30 17 0) iv_Fz iv_Bz)) rfl ?_
        rw [iv_uA_id (A := (iv_cA iv_Az 4 31 0 2048 64)) (r := 30) (j := 17) (v := 0) rfl]
        refine iv_Gm 10 (pc2 := 26) (lv2 := [(1, .int 18), (0, .ref 29)]) (st2 := []) (w2 := (iv_wd (iv_uA (iv_cA iv_Az 4 31 0 2048 64) 30 18 0) iv_Fz iv_Bz)) rfl ?_
        rw [iv_uA_id (A := (iv_cA iv_Az 4 31 0 2048 64)) (r := 30) (j := 18) (v := 0) rfl]
        refine iv_Gm 10 (pc2 := 26) (lv2 := [(1, .int 19), (0, .ref 29)]) (st2 := []) (w2 := (iv_wd (iv_uA (iv_cA iv_Az 4 31 0 2048 64) 30 19 0) iv_Fz iv_Bz)) rfl ?_
        rw [iv_uA_id (A := (iv_cA iv_Az 4 31 0 2048 64)) (r := 30) (j := 19) (v := 0) rfl]
        refine iv_Gm 10 (pc2 := 26) (lv2 := [(1, .int 20), (0, .ref 29)]) (st2 := []) (w2 := (iv_wd (iv_uA (iv_cA iv_Az 4 31 0 2048 64) 30 20 0) iv_Fz iv_Bz)) rfl ?_
        rw [iv_uA_id (A := (iv_cA iv_Az 4 31 0 2048 64)) (r := 30) (j := 20) (v := 0) rfl]
        refine iv_Gm 10 (pc2 := 26) (lv2 := [(1, .int 21), (0, .ref 29)]) (st2 := []) (w2 := (iv_wd (iv_uA (iv_cA iv_Az 4 31 0 2048 64) 30 21 0) iv_Fz iv_Bz)) rfl ?_
        rw [iv_uA_id (A := (iv_cA iv_Az 4 31 0 2048 64)) (r := 30) (j := 21) (v := 0) rfl]
        refine iv_Gm 10 (pc2 := 26) (lv2 := [(1, .int 22), (0, .ref 29)]) (st2 := []) (w2 := (iv_wd (iv_uA (iv_cA iv_Az 4 31 0 2048 64) 30 22 0) iv_Fz iv_Bz)) rfl ?_
        rw [iv_uA_id (A := (iv_cA iv_Az 4 31 0 2048 64)) (r := 30) (j := 22) (v := 0) rfl]
        refine iv_Gm 10 (pc2 := 26) (lv2 := [(1, .int 23), (0, .ref 29)]) (st2 := []) (w2 := (iv_wd (iv_uA (iv_cA iv_Az 4 31 0 2048 64) 30 23 0) iv_Fz iv_Bz)) rfl ?_
        rw [iv_uA_id (A := (iv_cA iv_Az 4 31 0 2048 64)) (r := 30) (j := 23) (v := 0) rfl]
        refine iv_Gm 10 (pc2 := 26) (lv2 := [(1, .int 24), (0, .ref 29)]) (st2 := []) (w2 := (iv_wd (iv_uA (iv_cA iv_Az 4 31 0 2048 64) 30 24 0) iv_Fz iv_Bz)) rfl ?_
        rw [iv_uA_id (A := (iv_cA iv_Az 4 31 0 2048 64)) (r := 30) (j := 24) (v := 0) rfl]
        refine iv_Gm 10 (pc2 := 26) (lv2 := [(1, .int 25), (0, .ref 29)]) (st2 := []) (w2 := (iv_wd (iv_uA (iv_cA iv_Az 4 31 0 2048 64) 30 25 0) iv_Fz iv_Bz)) rfl ?_
        rw [iv_uA_id (A := (iv_cA iv_Az 4 31 0 2048 64)) (r := 30) (j := 25) (v := 0) rfl]
        refine iv_Gm 10 (pc2 := 26) (lv2 := [(1, .int 26), (0, .ref 29)]) (st2 := []) (w2 := (iv_wd (iv_uA (iv_cA iv_Az 4 31 0 2048 64) 30 26 0) iv_Fz iv_Bz)) rfl ?_
        rw [iv_uA_id (A := (iv_cA iv_Az 4 31 0 2048 64)) (r := 30) (j := 26) (v := 0) rfl]
        refine iv_Gm 10 (pc2 := 26) (lv2 := [(1, .int 27), (0, .ref 29)]) (st2 := []) (w2 := (iv_wd (iv_uA (iv_cA iv_Az 4 31 0 2048 64) 30 27 0) iv_Fz iv_Bz)) rfl ?_
        rw [iv_uA_id (A := (iv_cA iv_Az 4 31 0 2048 64)) (r := 30) (j := 27) (v := 0) rfl]
        refine iv_Gm 10 (pc2 := 26) (lv2 := [(1, .int 28), (0, .ref 29)]) (st2 := []) (w2 := (iv_wd (iv_uA (iv_cA iv_Az 4 31 0 2048 64) 30 28 0) iv_Fz iv_Bz)) rfl ?_
        rw [iv_uA_id (A := (iv_cA iv_Az 4 31 0 2048 64)) (r := 30) (j := 28) (v := 0) rfl]
        refine iv_Gm 10 (pc2 := 26) (lv2 := [(1, .int 29), (0, .ref 29)]) (st2 := []) (w2 := (iv_wd (iv_uA (iv_cA iv_Az 4 31 0 2048 64) 30 29 0) iv_Fz iv_Bz)) rfl ?_
        rw [iv_uA_id (A := (iv_cA iv_Az 4 31 0 2048 64)) (r := 30) (j := 29) (v := 0) rfl]
        refine iv_Gm 10 (pc2 := 26) (lv2 := [(1, .int 30), (0, .ref 29)]) (st2 := []) (w2 := (iv_wd (iv_uA (iv_cA iv_Az 4 31 0 2048 64) 30 30 0) iv_Fz iv_Bz)) rfl ?_
        rw [iv_uA_id (A := (iv_cA iv_Az 4 31 0 2048 64)) (r := 30) (j := 30) (v := 0) rfl]
        refine iv_Gm 10 (pc2 := 26) (lv2 := [(1, .int 31), (0, .ref 29)]) (st2 := []) (w2 := (iv_wd (iv_uA (iv_cA iv_Az 4 31 0 2048 64) 30 31 0) iv_Fz iv_Bz)) rfl ?_
        rw [iv_uA_id (A := (iv_cA iv_Az 4 31 0 2048 64)) (r := 30) (j := 31) (v := 0) rfl]
        refine iv_Gm 8 (pc2 := 37) (lv2 := [(1, .int 32), (0, .ref 29)]) (st2 := [.ref 2, .ref 29]) (w2 := (iv_wd (iv_cA iv_Az 4 31 0 2048 64) iv_Fz iv_Bz)) rfl ?_
        refine iv_Gcall (ν := 55) (c := 1) (as := [.ref 2]) (rest := [.ref 29]) (w2 := (iv_wd (iv_cA iv_Az 4 31 0 2048 64) iv_Fz iv_Bz)) (tg2 := true) (k2 := 0) (z2 := 0) (v := (some (.int 2))) rfl rfl rfl rfl rfl rfl rfl (Nat.le_of_ble_eq_true rfl) rfl ?_ ?_
        · exact ⟨5, rfl⟩
        show iv_G _ _ _ _ 40 [(1, .int 32), (0, .ref 29)] [.int 2, .ref 29] (iv_wd (iv_cA iv_Az 4 31 0 2048 64) iv_Fz iv_Bz) true _ _ _
        refine iv_Gcall (ν := 109) (c := 2) (as := [.ref 29, .int 2]) (rest := []) (w2 := (iv_wd (iv_uA (iv_cA iv_Az 4 31 0 2048 64) 30 2 1) iv_Fz iv_Bz)) (tg2 := true) (k2 := 0) (z2 := 0) (v := none) rfl rfl rfl rfl rfl rfl rfl (Nat.le_of_ble_eq_true rfl) rfl ?_ ?_
        · refine iv_Gm 9 (pc2 := 15) (lv2 := [(0, .ref 29), (1, .int 2)]) (st2 := [.int 255, .int 2, .ref 2]) (w2 := (iv_wd (iv_uA (iv_cA iv_Az 4 31 0 2048 64) 30 2 1) iv_Fz iv_Bz)) rfl ?_
          refine iv_Gcall (ν := 67) (c := 3) (as := [.ref 2, .int 2, .int 255]) (rest := []) (w2 := (iv_wd (iv_uA (iv_cA iv_Az 4 31 0 2048 64) 30 2 1) iv_Fz iv_Bz)) (tg2 := true) (k2 := 0) (z2 := 0) (v := none) rfl rfl rfl rfl rfl rfl rfl (Nat.le_of_ble_eq_true rfl) rfl ?_ ?_
          · refine iv_Gm 10 (pc2 := 15) (lv2 := [(0, .ref 2), (1, .int 2), (2, .int 255)]) (st2 := []) (w2 := (iv_wd (iv_uA (iv_uA (iv_cA iv_Az 4 31 0 2048 64) 30 2 1) 4 2 255) iv_Fz iv_Bz)) rfl ?_
            rw [iv_uA_id (A := (iv_uA (iv_cA iv_Az 4 31 0 2048 64) 30 2 1)) (r := 4) (j := 2) (v := 255) rfl]
            exact iv_Gret rfl rfl rfl
          show iv_G _ _ _ _ 18 [(0, .ref 29), (1, .int 2)] [] (iv_wd (iv_uA (iv_cA iv_Az 4 31 0 2048 64) 30 2 1) iv_Fz iv_Bz) true _ _ _
          exact iv_Gret rfl rfl rfl
        show iv_G _ _ _ _ 43 [(1, .int 32), (0, .ref 29)] [] (iv_wd (iv_uA (iv_cA iv_Az 4 31 0 2048 64) 30 2 1) iv_Fz iv_Bz) true _ _ _
        refine iv_Gm 3 (pc2 := 48) (lv2 := [(1, .int 32), (0, .ref 29)]) (st2 := [.ref 2, .ref 29]) (w2 := (iv_wd (iv_uA (iv_cA iv_Az 4 31 0 2048 64) 30 2 1) iv_Fz iv_Bz)) rfl ?_
        refine iv_Gcall (ν := 55) (c := 1) (as := [.ref 2]) (rest := [.ref 29]) (w2 := (iv_wd (iv_uA (iv_cA iv_Az 4 31 0 2048 64) 30 2 1) iv_Fz iv_Bz)) (tg2 := true) (k2 := 0) (z2 := 0) (v := (some (.int 2))) rfl rfl rfl rfl rfl rfl rfl (Nat.le_of_ble_eq_true rfl) rfl ?_ ?_
        · exact ⟨5, rfl⟩
        show iv_G _ _ _ _ 51 [(1, .int 32), (0, .ref 29)] [.int 2, .ref 29] (iv_wd (iv_uA (iv_cA iv_Az 4 31 0 2048 64) 30 2 1) iv_Fz iv_Bz) true _ _ _
        refine iv_Gm 1 (pc2 := 52) (lv2 := [(1, .int 32), (0, .ref 29)]) (st2 := [.int 1, .int 2, .ref 29]) (w2 := (iv_wd (iv_uA (iv_cA iv_Az 4 31 0 2048 64) 30 2 1) iv_Fz iv_Bz)) rfl ?_
        refine iv_Gcall (ν := 111) (c := 3) (as := [.ref 29, .int 2, .int 1]) (rest := []) (w2 := (iv_wd (iv_uA (iv_cA iv_Az 4 31 0 2048 64) 30 2 1) (iv_uF iv_Fz 3401 2) iv_Bz)) (tg2 := true) (k2 := 0) (z2 := 0) (v := none) rfl rfl rfl rfl rfl rfl rfl (Nat.le_of_ble_eq_true rfl) rfl ?_ ?_
        · refine iv_Gm 16 (pc2 := 25) (lv2 := [(3, .ref 34), (0, .ref 29), (1, .int 2), (2, .int 1)]) (st2 := [.int 2, .ref 2, .ref 34]) (w2 := (iv_wd (iv_uA (iv_cA iv_Az 4 31 0 2048 64) 30 2 1) iv_Fz iv_Bz)) rfl ?_
          refine iv_Gcall (ν := 87) (c := 3) (as := [.ref 34, .ref 2, .int 2]) (rest := []) (w2 := (iv_wd (iv_uA (iv_cA iv_Az 4 31 0 2048 64) 30 2 1) (iv_uF iv_Fz 3401 2) iv_Bz)) (tg2 := true) (k2 := 0) (z2 := 0) (v := none) rfl rfl rfl rfl rfl rfl rfl (Nat.le_of_ble_eq_true rfl) rfl ?_ ?_
          · refine iv_Gm 5 (pc2 := 7) (lv2 := [(0, .ref 34), (1, .ref 2), (2, .int 2)]) (st2 := [.int 0, .ref 35, .int 2, .ref 2]) (w2 := (iv_wd (iv_uA (iv_cA iv_Az 4 31 0 2048 64) 30 2 1) iv_Fz iv_Bz)) rfl ?_
            refine iv_Gcall (ν := 70) (c := 4) (as := [.ref 2, .int 2, .ref 35, .int 0]) (rest := []) (w2 := (iv_wd (iv_uA (iv_cA iv_Az 4 31 0 2048 64) 30 2 1) iv_Fz iv_Bz)) (tg2 := true) (k2 := 0) (z2 := 0) (v := none) rfl rfl rfl rfl rfl rfl rfl (Nat.le_of_ble_eq_true rfl) rfl ?_ ?_
            · refine iv_Gm 9 (pc2 := 15) (lv2 := [(0, .ref 2), (1, .int 2), (2, .ref 35), (3, .int 0)]) (st2 := []) (w2 := (iv_wd (iv_cA (iv_uA (iv_cA iv_Az 4 31 0 2048 64) 30 2 1) 3 35 128 0 64) iv_Fz iv_Bz)) rfl ?_
              rw [iv_cA_id (A := (iv_uA (iv_cA iv_Az 4 31 0 2048 64) 30 2 1)) (r0 := 3) (r := 35) (sp := 128) (dp := 0) (n := 64) rfl rfl]
              exact iv_Gret rfl rfl rfl
            show iv_G _ _ _ _ 10 [(0, .ref 34), (1, .ref 2), (2, .int 2)] [] (iv_wd (iv_uA (iv_cA iv_Az 4 31 0 2048 64) 30 2 1) iv_Fz iv_Bz) true _ _ _
            refine iv_Gm 3 (pc2 := 15) (lv2 := [(0, .ref 34), (1, .ref 2), (2, .int 2)]) (st2 := []) (w2 := (iv_wd (iv_uA (iv_cA iv_Az 4 31 0 2048 64) 30 2 1) (iv_uF iv_Fz 3401 2) iv_Bz)) rfl ?_
            exact iv_Gret rfl rfl rfl
          show iv_G _ _ _ _ 28 [(3, .ref 34), (0, .ref 29), (1, .int 2), (2, .int 1)] [] (iv_wd (iv_uA (iv_cA iv_Az 4 31 0 2048 64) 30 2 1) (iv_uF iv_Fz 3401 2) iv_Bz) true _ _ _
          refine iv_Gm 10 (pc2 := 45) (lv2 := [(5, .int 0), (4, .int 0), (3, .ref 34), (0, .ref 29), (1, .int 2), (2, .int 1)]) (st2 := [.int 0, .int 0, .ref 34]) (w2 := (iv_wd (iv_uA (iv_cA iv_Az 4 31 0 2048 64) 30 2 1) (iv_uF iv_Fz 3401 2) iv_Bz)) rfl ?_
          refine iv_Gcall (ν := 92) (c := 3) (as := [.ref 34, .int 0, .int 0]) (rest := []) (w2 := (iv_wd (iv_uA (iv_cA iv_Az 4 31 0 2048 64) 30 2 1) (iv_uF iv_Fz 3401 2) iv_Bz)) (tg2 := true) (k2 := 0) (z2 := 0) (v := (some (.int 0))) rfl rfl rfl rfl rfl rfl rfl (Nat.le_of_ble_eq_true rfl) rfl ?_ ?_
          · exact ⟨11, rfl⟩
          show iv_G _ _ _ _ 48 [(5, .int 0), (4, .int 0), (3, .ref 34), (0, .ref 29), (1, .int 2), (2, .int 1)] [.int 0] (iv_wd (iv_uA (iv_cA iv_Az 4 31 0 2048 64) 30 2 1) (iv_uF iv_Fz 3401 2) iv_Bz) true _ _ _
          refine iv_Gm 6 (pc2 := 58) (lv2 := [(5, .int 0), (4, .int 0), (3, .ref 34), (0, .ref 29), (1, .int 2), (2, .int 1)]) (st2 := [.int 1, .int 0, .ref 34, .ref 29]) (w2 := (iv_wd (iv_uA (iv_cA iv_Az 4 31 0 2048 64) 30 2 1) (iv_uF iv_Fz 3401 2) iv_Bz)) rfl ?_
          refine iv_Gcall (ν := 112) (c := 4) (as := [.ref 29, .ref 34, .int 0, .int 1]) (rest := []) (w2 := (iv_wd (iv_uA (iv_cA iv_Az 4 31 0 2048 64) 30 2 1) (iv_uF iv_Fz 3401 2) iv_Bz)) (tg2 := true) (k2 := 0) (z2 := 0) (v := (some (.int 0))) rfl rfl rfl rfl rfl rfl rfl (Nat.le_of_ble_eq_true rfl) rfl ?_ ?_
          · exact ⟨34, rfl⟩
          show iv_G _ _ _ _ 61 [(5, .int 0), (4, .int 0), (3, .ref 34), (0, .ref 29), (1, .int 2), (2, .int 1)] [.int 0] (iv_wd (iv_uA (iv_cA iv_Az 4 31 0 2048 64) 30 2 1) (iv_uF iv_Fz 3401 2) iv_Bz) true _ _ _
          refine iv_Gm 8 (pc2 := 84) (lv2 := [(6, .int 0), (5, .int 0), (4, .int 0), (3, .ref 34), (0, .ref 29), (1, .int 2), (2, .int 1)]) (st2 := [.int 0, .int 0, .ref 34]) (w2 := (iv_wd (iv_uA (iv_cA iv_Az 4 31 0 2048 64) 30 2 1) (iv_uF iv_Fz 3401 2) iv_Bz)) rfl ?_
          refine iv_Gcall (ν := 94) (c := 3) (as := [.ref 34, .int 0, .int 0]) (rest := []) (w2 := (iv_wd (iv_uA (iv_cA iv_Az 4 31 0 2048 64) 30 2 1) (iv_uF iv_Fz 3401 2) iv_Bz)) (tg2 := true) (k2 := 0) (z2 := 0) (v := none) rfl rfl rfl rfl rfl rfl rfl (Nat.le_of_ble_eq_true rfl) rfl ?_ ?_
          · exact ⟨12, rfl⟩
          show iv_G _ _ _ _ 87 [(6, .int 0), (5, .int 0), (4, .int 0), (3, .ref 34), (0, .ref 29), (1, .int 2), (2, .int 1)] [] (iv_wd (iv_uA (iv_cA iv_Az 4 31 0 2048 64) 30 2 1) (iv_uF iv_Fz 3401 2) iv_Bz) true _ _ _
          refine iv_Gm 9 (pc2 := 100) (lv2 := [(4, .int 1), (6, .int 0), (5, .int 0), (3, .ref 34), (0, .ref 29), (1, .int 2), (2, .int 1)]) (st2 := [.int 1, .int 0, .int 0, .ref 34, .ref 29]) (w2 := (iv_wd (iv_uA (iv_cA iv_Az 4 31 0 2048 64) 30 2 1) (iv_uF iv_Fz 3401 2) iv_Bz)) rfl ?_
          refine iv_Gcall (ν := 114) (c := 5) (as := [.ref 29, .ref 34, .int 0, .int 0, .int 1]) (rest := []) (w2 := (iv_wd (iv_uA (iv_cA iv_Az 4 31 0 2048 64) 30 2 1) (iv_uF iv_Fz 3401 2) iv_Bz)) (tg2 := true) (k2 := 0) (z2 := 0) (v := none) rfl rfl rfl rfl rfl rfl rfl (Nat.le_of_ble_eq_true rfl) rfl ?_ ?_
          · exact ⟨21, rfl⟩
          show iv_G _ _ _ _ 103 [(4, .int 1), (6, .int 0), (5, .int 0), (3, .ref 34), (0, .ref 29), (1, .int 2), (2, .int 1)] [] (iv_wd (iv_uA (iv_cA iv_Az 4 31 0 2048 64) 30 2 1) (iv_uF iv_Fz 3401 2) iv_Bz) true _ _ _
          refine iv_Gm 8 (pc2 := 45) (lv2 := [(5, .int 1), (4, .int 1), (6, .int 0), (3, .ref 34), (0, .ref 29), (1, .int 2), (2, .int 1)]) (st2 := [.int 0, .int 1, .ref 34]) (w2 := (iv_wd (iv_uA (iv_cA iv_Az 4 31 0 2048 64) 30 2 1) (iv_uF iv_Fz 3401 2) iv_Bz)) rfl ?_
          refine iv_Gcall (ν := 92) (c := 3) (as := [.ref 34, .int 1, .int 0]) (rest := []) (w2 := (iv_wd (iv_uA (iv_cA iv_Az 4 31 0 2048 64) 30 2 1) (iv_uF iv_Fz 3401 2) iv_Bz)) (tg2 := true) (k2 := 0) (z2 := 0) (v := (some (.int 0))) rfl rfl rfl rfl rfl rfl rfl (Nat.le_of_ble_eq_true rfl) rfl ?_ ?_
          · exact ⟨11, rfl⟩
          show iv_G _ _ _ _ 48 [(5, .int 1), (4, .int 1), (6, .int 0), (3, .ref 34), (0, .ref 29), (1, .int 2), (2, .int 1)] [.int 0] (iv_wd (iv_uA (iv_cA iv_Az 4 31 0 2048 64) 30 2 1) (iv_uF iv_Fz 3401 2) iv_Bz) true _ _ _
          refine iv_Gm 6 (pc2 := 58) (lv2 := [(5, .int 1), (4, .int 1), (6, .int 0), (3, .ref 34), (0, .ref 29), (1, .int 2), (2, .int 1)]) (st2 := [.int 1, .int 1, .ref 34, .ref 29]) (w2 := (iv_wd (iv_uA (iv_cA iv_Az 4 31 0 2048 64) 30 2 1) (iv_uF iv_Fz 3401 2) iv_Bz)) rfl ?_
          refine iv_Gcall (ν := 112) (c := 4) (as := [.ref 29, .ref 34, .int 1, .int 1]) (rest := []) (w2 := (iv_wd (iv_uA (iv_cA iv_Az 4 31 0 2048 64) 30 2 1) (iv_uF iv_Fz 3401 2) iv_Bz)) (tg2 := true) (k2 := 0) (z2 := 0) (v := (some (.int 0))) rfl rfl rfl rfl rfl rfl rfl (Nat.le_of_ble_eq_true rfl) rfl ?_ ?_
          · exact ⟨34, rfl⟩
          show iv_G _ _ _ _ 61 [(5, .int 1), (4, .int 1), (6, .int 0), (3, .ref 34), (0, .ref 29), (1, .int 2), (2, .int 1)] [.int 0] (iv_wd (iv_uA (iv_cA iv_Az 4 31 0 2048 64) 30 2 1) (iv_uF iv_Fz 3401 2) iv_Bz) true _ _ _
          refine iv_Gm 8 (pc2 := 84) (lv2 := [(6, .int 0), (5, .int 1), (4, .int 1), (3, .ref 34), (0, .ref 29), (1, .int 2), (2, .int 1)]) (st2 := [.int 1, .int 1, .ref 34]) (w2 := (iv_wd (iv_uA (iv_cA iv_Az 4 31 0 2048 64) 30 2 1) (iv_uF iv_Fz 3401 2) iv_Bz)) rfl ?_
          refine iv_Gcall (ν := 94) (c := 3) (as := [.ref 34, .int 1, .int 1]) (rest := []) (w2 := (iv_wd (iv_uA (iv_cA iv_Az 4 31 0 2048 64) 30 2 1) (iv_uF iv_Fz 3401 2) iv_Bz)) (tg2 := true) (k2 := 0) (z2 := 0) (v := none) rfl rfl rfl rfl rfl rfl rfl (Nat.le_of_ble_eq_true rfl) rfl ?_ ?_
          · exact ⟨12, rfl⟩
          show iv_G _ _ _ _ 87 [(6, .int 0), (5, .int 1), (4, .int 1), (3, .ref 34), (0, .ref 29), (1, .int 2), (2, .int 1)] [] (iv_wd (iv_uA (iv_cA iv_Az 4 31 0 2048 64) 30 2 1) (iv_uF iv_Fz 3401 2) iv_Bz) true _ _ _
          refine iv_Gm 9 (pc2 := 100) (lv2 := [(4, .int 2), (6, .int 0), (5, .int 1), (3, .ref 34), (0, .ref 29), (1, .int 2), (2, .int 1)]) (st2 := [.int 1, .int 0, .int 1, .ref 34, .ref 29]) (w2 := (iv_wd (iv_uA (iv_cA iv_Az 4 31 0 2048 64) 30 2 1) (iv_uF iv_Fz 3401 2) iv_Bz)) rfl ?_
          refine iv_Gcall (ν := 114) (c := 5) (as := [.ref 29, .ref 34, .int 1, .int 0, .int 1]) (rest := []) (w2 := (iv_wd (iv_uA (iv_cA iv_Az 4 31 0 2048 64) 30 2 1) (iv_uF iv_Fz 3401 2) iv_Bz)) (tg2 := true) (k2 := 0) (z2 := 0) (v := none) rfl rfl rfl rfl rfl rfl rfl (Nat.le_of_ble_eq_true rfl) rfl ?_ ?_
          · exact ⟨21, rfl⟩
          show iv_G _ _ _ _ 103 [(4, .int 2), (6, .int 0), (5, .int 1), (3, .ref 34), (0, .ref 29), (1, .int 2), (2, .int 1)] [] (iv_wd (iv_uA (iv_cA iv_Az 4 31 0 2048 64) 30 2 1) (iv_uF iv_Fz 3401 2) iv_Bz) true _ _ _
          refine iv_Gm 8 (pc2 := 45) (lv2 := [(5, .int 2), (4, .int 2), (6, .int 0), (3, .ref 34), (0, .ref 29), (1, .int 2), (2, .int 1)]) (st2 := [.int 0, .int 2, .ref 34]) (w2 := (iv_wd (iv_uA (iv_cA iv_Az 4 31 0 2048 64) 30 2 1) (iv_uF iv_Fz 3401 2) iv_Bz)) rfl ?_
          refine iv_Gcall (ν := 92) (c := 3) (as := [.ref 34, .int 2, .int 0]) (rest := []) (w2 := (iv_wd (iv_uA (iv_cA iv_Az 4 31 0 2048 64) 30 2 1) (iv_uF iv_Fz 3401 2) iv_Bz)) (tg2 := true) (k2 := 0) (z2 := 0) (v := (some (.int 0))) rfl rfl rfl rfl rfl rfl rfl (Nat.le_of_ble_eq_true rfl) rfl ?_ ?_
          · exact ⟨11, rfl⟩
          show iv_G _ _ _ _ 48 [(5, .int 2), (4, .int 2), (6, .int 0), (3, .ref 34), (0, .ref 29), (1, .int 2), (2, .int 1)] [.int 0] (iv_wd (iv_uA (iv_cA iv_Az 4 31 0 2048 64) 30 2 1) (iv_uF iv_Fz 3401 2) iv_Bz) true _ _ _
          refine iv_Gm 6 (pc2 := 58) (lv2 := [(5, .int 2), (4, .int 2), (6, .int 0), (3, .ref 34), (0, .ref 29), (1, .int 2), (2, .int 1)]) (st2 := [.int 1, .int 2, .ref 34, .ref 29]) (w2 := (iv_wd (iv_uA (iv_cA iv_Az 4 31 0 2048 64) 30 2 1) (iv_uF iv_Fz 3401 2) iv_Bz)) rfl ?_
          refine iv_Gcall (ν := 112) (c := 4) (as := [.ref 29, .ref 34, .int 2, .int 1]) (rest := []) (w2 := (iv_wd (iv_uA (iv_cA iv_Az 4 31 0 2048 64) 30 2 1) (iv_uF iv_Fz 3401 2) iv_Bz)) (tg2 := true) (k2 := 0) (z2 := 0) (v := (some (.int 0))) rfl rfl rfl rfl rfl rfl rfl (Nat.le_of_ble_eq_true rfl) rfl ?_ ?_
          · exact ⟨34, rfl⟩
          show iv_G _ _ _ _ 61 [(5, .int 2), (4, .int 2), (6, .int 0), (3, .ref 34), (0, .ref 29), (1, .int 2), (2, .int 1)] [.int 0] (iv_wd (iv_uA (iv_cA iv_Az 4 31 0 2048 64) 30 2 1) (iv_uF iv_Fz 3401 2) iv_Bz) true _ _ _
          refine iv_Gm 8 (pc2 := 84) (lv2 := [(6, .int 0), (5, .int 2), (4, .int 2), (3, .ref 34), (0, .ref 29), (1, .int 2), (2, .int 1)]) (st2 := [.int 2, .int 2, .ref 34]) (w2 := (iv_wd (iv_uA (iv_cA iv_Az 4 31 0 2048 64) 30 2 1) (iv_uF iv_Fz 3401 2) iv_Bz)) rfl ?_
          refine iv_Gcall (ν := 94) (c := 3) (as := [.ref 34, .int 2, .int 2]) (rest := []) (w2 := (iv_wd (iv_uA (iv_cA iv_Az 4 31 0 2048 64) 30 2 1) (iv_uF iv_Fz 3401 2) iv_Bz)) (tg2 := true) (k2 := 0) (z2 := 0) (v := none) rfl rfl rfl rfl rfl rfl rfl (Nat.le_of_ble_eq_true rfl) rfl ?_ ?_
          · exact ⟨12, rfl⟩
          show iv_G _ _ _ _ 87 [(6, .int 0), (5, .int 2), (4, .int 2), (3, .ref 34), (0, .ref 29), (1, .int 2), (2, .int 1)] [] (iv_wd (iv_uA (iv_cA iv_Az 4 31 0 2048 64) 30 2 1) (iv_uF iv_Fz 3401 2) iv_Bz) true _ _ _
          refine iv_Gm 9 (pc2 := 100) (lv2 := [(4, .int 3), (6, .int 0), (5, .int 2), (3, .ref 34), (0, .ref 29), (1, .int 2), (2, .int 1)]) (st2 := [.int 1, .int 0, .int 2, .ref 34, .ref 29]) (w2 := (iv_wd (iv_uA (iv_cA iv_Az 4 31 0 2048 64) 30 2 1) (iv_uF iv_Fz 3401 2) iv_Bz)) rfl ?_
          refine iv_Gcall (ν := 114) (c := 5) (as := [.ref 29, .ref 34, .int 2, .int 0, .int 1]) (rest := []) (w2 := (iv_wd (iv_uA (iv_cA iv_Az 4 31 0 2048 64) 30 2 1) (iv_uF iv_Fz 3401 2) iv_Bz)) (tg2 := true) (k2 := 0) (z2 := 0) (v := none) rfl rfl rfl rfl rfl rfl rfl (Nat.le_of_ble_eq_true rfl) rfl ?_ ?_
          · exact ⟨21, rfl⟩
          show iv_G _ _ _ _ 103 [(4, .int 3), (6, .int 0), (5, .int 2), (3, .ref 34), (0, .ref 29), (1, .int 2), (2, .int 1)] [] (iv_wd (iv_uA (iv_cA iv_Az 4 31 0 2048 64) 30 2 1) (iv_uF iv_Fz 3401 2) iv_Bz) true _ _ _
          refine iv_Gm 8 (pc2 := 45) (lv2 := [(5, .int 3), (4, .int 3), (6, .int 0), (3, .ref 34), (0, .ref 29), (1, .int 2), (2, .int 1)]) (st2 := [.int 0, .int 3, .ref 34]) (w2 := (iv_wd (iv_uA (iv_cA iv_Az 4 31 0 2048 64) 30 2 1) (iv_uF iv_Fz 3401 2) iv_Bz)) rfl ?_
          refine iv_Gcall (ν := 92) (c := 3) (as := [.ref 34, .int 3, .int 0]) (rest := []) (w2 := (iv_wd (iv_uA (iv_cA iv_Az 4 31 0 2048 64) 30 2 1) (iv_uF iv_Fz 3401 2) iv_Bz)) (tg2 := true) (k2 := 0) (z2 := 0) (v := (some (.int 0))) rfl rfl rfl rfl rfl rfl rfl (Nat.le_of_ble_eq_true rfl) rfl ?_ ?_
          · exact ⟨11, rfl⟩
          show iv_G _ _ _ _ 48 [(5, .int 3), (4, .int 3), (6, .int 0), (3, .ref 34), (0, .ref 29), (1, .int 2), (2, .int 1)] [.int 0] (iv_wd (iv_uA (iv_cA iv_Az 4 31 0 2048 64) 30 2 1) (iv_uF iv_Fz 3401 2) iv_Bz) true _ _ _
          refine iv_Gm 6 (pc2 := 58) (lv2 := [(5, .int 3), (4, .int 3), (6, .int 0), (3, .ref 34), (0, .ref 29), (1, .int 2), (2, .int 1)]) (st2 := [.int 1, .int 3, .ref 34, .ref 29]) (w2 := (iv_wd (iv_uA (iv_cA iv_Az 4 31 0 2048 64) 30 2 1) (iv_uF iv_Fz 3401 2) iv_Bz)) rfl ?_
          refine iv_Gcall (ν := 112) (c := 4) (as := [.ref 29, .ref 34, .int 3, .int 1]) (rest := []) (w2 := (iv_wd (iv_uA (iv_cA iv_Az 4 31 0 2048 64) 30 2 1) (iv_uF iv_Fz 3401 2) iv_Bz)) (tg2 := true) (k2 := 0) (z2 := 0) (v := (some (.int 0))) rfl rfl rfl rfl rfl rfl rfl (Nat.le_of_ble_eq_true rfl) rfl ?_ ?_
          · exact ⟨34, rfl⟩
          show iv_G _ _ _ _ 61 [(5, .int 3), (4, .int 3), (6, .int 0), (3, .ref 34), (0, .ref 29), (1, .int 2), (2, .int 1)] [.int 0] (iv_wd (iv_uA (iv_cA iv_Az 4 31 0 2048 64) 30 2 1) (iv_uF iv_Fz 3401 2) iv_Bz) true _ _ _
          refine iv_Gm 8 (pc2 := 84) (lv2 := [(6, .int 0), (5, .int 3), (4, .int 3), (3, .ref 34), (0, .ref 29), (1, .int 2), (2, .int 1)]) (st2 := [.int 3, .int 3, .ref 34]) (w2 := (iv_wd (iv_uA (iv_cA iv_Az 4 31 0 2048 64) 30 2 1) (iv_uF iv_Fz 3401 2) iv_Bz)) rfl ?_
          refine iv_Gcall (ν := 94) (c := 3) (as := [.ref 34, .int 3, .int 3]) (rest := []) (w2 := (iv_wd (iv_uA (iv_cA iv_Az 4 31 0 2048 64) 30 2 1) (iv_uF iv_Fz 3401 2) iv_Bz)) (tg2 := true) (k2 := 0) (z2 := 0) (v := none) rfl rfl rfl rfl rfl rfl rfl (Nat.le_of_ble_eq_true rfl) rfl ?_ ?_
          · exact ⟨12, rfl⟩
          show iv_G _ _ _ _ 87 [(6, .int 0), (5, .int 3), (4, .int 3), (3, .ref 34), (0, .ref 29), (1, .int 2), (2, .int 1)] [] (iv_wd (iv_uA (iv_cA iv_Az 4 31 0 2048 64) 30 2 1) (iv_uF iv_Fz 3401 2) iv_Bz) true _ _ _
          refine iv_Gm 9 (pc2 := 100) (lv2 := [(4, .int 4), (6, .int 0), (5, .int 3), (3, .ref 34), (0, .ref 29), (1, .int 2), (2, .int 1)]) (st2 := [.int 1, .int 0, .int 3, .ref 34, .ref 29]) (w2 := (iv_wd (iv_uA (iv_cA iv_Az 4 31 0 2048 64) 30 2 1) (iv_uF iv_Fz 3401 2) iv_Bz)) rfl ?_
          refine iv_Gcall (ν := 114) (c := 5) (as := [.ref 29, .ref 34, .int 3, .int 0, .int 1]) (rest := []) (w2 := (iv_wd (iv_uA (iv_cA iv_Az 4 31 0 2048 64) 30 2 1) (iv_uF iv_Fz 3401 2) iv_Bz)) (tg2 := true) (k2 := 0) (z2 := 0) (v := none) rfl rfl rfl rfl rfl rfl rfl (Nat.le_of_ble_eq_true rfl) rfl ?_ ?_
          · exact ⟨21, rfl⟩
          show iv_G _ _ _ _ 103 [(4, .int 4), (6, .int 0), (5, .int 3), (3, .ref 34), (0, .ref 29), (1, .int 2), (2, .int 1)] [] (iv_wd (iv_uA (iv_cA iv_Az 4 31 0 2048 64) 30 2 1) (iv_uF iv_Fz 3401 2) iv_Bz) true _ _ _
          refine iv_Gm 8 (pc2 := 45) (lv2 := [(5, .int 4), (4, .int 4), (6, .int 0), (3, .ref 34), (0, .ref 29), (1, .int 2), (2, .int 1)]) (st2 := [.int 0, .int 4, .ref 34]) (w2 := (iv_wd (iv_uA (iv_cA iv_Az 4 31 0 2048 64) 30 2 1) (iv_uF iv_Fz 3401 2) iv_Bz)) rfl ?_
          refine iv_Gcall (ν := 92) (c := 3) (as := [.ref 34, .int 4, .int 0]) (rest := []) (w2 := (iv_wd (iv_uA (iv_cA iv_Az 4 31 0 2048 64) 30 2 1) (iv_uF iv_Fz 3401 2) iv_Bz)) (tg2 := true) (k2 := 0) (z2 := 0) (v := (some (.int 0))) rfl rfl rfl rfl rfl rfl rfl (Nat.le_of_ble_eq_true rfl) rfl ?_ ?_
          · exact ⟨11, rfl⟩
          show iv_G _ _ _ _ 48 [(5, .int 4), (4, .int 4), (6, .int 0), (3, .ref 34), (0, .ref 29), (1, .int 2), (2, .int 1)] [.int 0] (iv_wd (iv_uA (iv_cA iv_Az 4 31 0 2048 64) 30 2 1) (iv_uF iv_Fz 3401 2) iv_Bz) true _ _ _
          refine iv_Gm 6 (pc2 := 58) (lv2 := [(5, .int 4), (4, .int 4), (6, .int 0), (3, .ref 34), (0, .ref 29), (1, .int 2), (2, .int 1)]) (st2 := [.int 1, .int 4, .ref 34, .ref 29]) (w2 := (iv_wd (iv_uA (iv_cA iv_Az 4 31 0 2048 64) 30 2 1) (iv_uF iv_Fz 3401 2) iv_Bz)) rfl ?_
          refine iv_Gcall (ν := 112) (c := 4) (as := [.ref 29, .ref 34, .int 4, .int 1]) (rest := []) (w2 := (iv_wd (iv_uA (iv_cA iv_Az 4 31 0 2048 64) 30 2 1) (iv_uF iv_Fz 3401 2) iv_Bz)) (tg2 := true) (k2 := 0) (z2 := 0) (v := (some (.int 0))) rfl rfl rfl rfl rfl rfl rfl (Nat.le_of_ble_eq_true rfl) rfl ?_ ?_
          · exact ⟨34, rfl⟩
          show iv_G _ _ _ _ 61 [(5, .int 4), (4, .int 4), (6, .int 0), (3, .ref 34), (0, .ref 29), (1, .int 2), (2, .int 1)] [.int 0] (iv_wd (iv_uA (iv_cA iv_Az 4 31 0 2048 64) 30 2 1) (iv_uF iv_Fz 3401 2) iv_Bz) true _ _ _
          refine iv_Gm 8 (pc2 := 84) (lv2 := [(6, .int 0), (5, .int 4), (4, .int 4), (3, .ref 34), (0, .ref 29), (1, .int 2), (2, .int 1)]) (st2 := [.int 4, .int 4, .ref 34]) (w2 := (iv_wd (iv_uA (iv_cA iv_Az 4 31 0 2048 64) 30 2 1) (iv_uF iv_Fz 3401 2) iv_Bz)) rfl ?_
          refine iv_Gcall (ν := 94) (c := 3) (as := [.ref 34, .int 4, .int 4]) (rest := []) (w2 := (iv_wd (iv_uA (iv_cA iv_Az 4 31 0 2048 64) 30 2 1) (iv_uF iv_Fz 3401 2) iv_Bz)) (tg2 := true) (k2 := 0) (z2 := 0) (v := none) rfl rfl rfl rfl rfl rfl rfl (Nat.le_of_ble_eq_true rfl) rfl ?_ ?_
          · exact ⟨12, rfl⟩
          show iv_G _ _ _ _ 87 [(6, .int 0), (5, .int 4), (4, .int 4), (3, .ref 34), (0, .ref 29), (1, .int 2), (2, .int 1)] [] (iv_wd (iv_uA (iv_cA iv_Az 4 31 0 2048 64) 30 2 1) (iv_uF iv_Fz 3401 2) iv_Bz) true _ _ _
          refine iv_Gm 9 (pc2 := 100) (lv2 := [(4, .int 5), (6, .int 0), (5, .int 4), (3, .ref 34), (0, .ref 29), (1, .int 2), (2, .int 1)]) (st2 := [.int 1, .int 0, .int 4, .ref 34, .ref 29]) (w2 := (iv_wd (iv_uA (iv_cA iv_Az 4 31 0 2048 64) 30 2 1) (iv_uF iv_Fz 3401 2) iv_Bz)) rfl ?_
          refine iv_Gcall (ν := 114) (c := 5) (as := [.ref 29, .ref 34, .int 4, .int 0, .int 1]) (rest := []) (w2 := (iv_wd (iv_uA (iv_cA iv_Az 4 31 0 2048 64) 30 2 1) (iv_uF iv_Fz 3401 2) iv_Bz)) (tg2 := true) (k2 := 0) (z2 := 0) (v := none) rfl rfl rfl rfl rfl rfl rfl (Nat.le_of_ble_eq_true rfl) rfl ?_ ?_
          · exact ⟨21, rfl⟩
          show iv_G _ _ _ _ 103 [(4, .int 5), (6, .int 0), (5, .int 4), (3, .ref 34), (0, .ref 29), (1, .int 2), (2, .int 1)] [] (iv_wd (iv_uA (iv_cA iv_Az 4 31 0 2048 64) 30 2 1) (iv_uF iv_Fz 3401 2) iv_Bz) true _ _ _
          refine iv_Gm 8 (pc2 := 45) (lv2 := [(5, .int 5), (4, .int 5), (6, .int 0), (3, .ref 34), (0, .ref 29), (1, .int 2), (2, .int 1)]) (st2 := [.int 0, .int 5, .ref 34]) (w2 := (iv_wd (iv_uA (iv_cA iv_Az 4 31 0 2048 64) 30 2 1) (iv_uF iv_Fz 3401 2) iv_Bz)) rfl ?_
          refine iv_Gcall (ν := 92) (c := 3) (as := [.ref 34, .int 5, .int 0]) (rest := []) (w2 := (iv_wd (iv_uA (iv_cA iv_Az 4 31 0 2048 64) 30 2 1) (iv_uF iv_Fz 3401 2) iv_Bz)) (tg2 := true) (k2 := 0) (z2 := 0) (v := (some (.int 0))) rfl rfl rfl rfl rfl rfl rfl (Nat.le_of_ble_eq_true rfl) rfl ?_ ?_
          · exact ⟨11, rfl⟩
          show iv_G _ _ _ _ 48 [(5, .int 5), (4, .int 5), (6, .int 0), (3, .ref 34), (0, .ref 29), (1, .int 2), (2, .int 1)] [.int 0] (iv_wd (iv_uA (iv_cA iv_Az 4 31 0 2048 64) 30 2 1) (iv_uF iv_Fz 3401 2) iv_Bz) true _ _ _
          refine iv_Gm 6 (pc2 := 58) (lv2 := [(5, .int 5), (4, .int 5), (6, .int 0), (3, .ref 34), (0, .ref 29), (1, .int 2), (2, .int 1)]) (st2 := [.int 1, .int 5, .ref 34, .ref 29]) (w2 := (iv_wd (iv_uA (iv_cA iv_Az 4 31 0 2048 64) 30 2 1) (iv_uF iv_Fz 3401 2) iv_Bz)) rfl ?_
          refine iv_Gcall (ν := 112) (c := 4) (as := [.ref 29, .ref 34, .int 5, .int 1]) (rest := []) (w2 := (iv_wd (iv_uA (iv_cA iv_Az 4 31 0 2048 64) 30 2 1) (iv_uF iv_Fz 3401 2) iv_Bz)) (tg2 := true) (k2 := 0) (z2 := 0) (v := (some (.int 0))) rfl rfl rfl rfl rfl rfl rfl (Nat.le_of_ble_eq_true rfl) rfl ?_ ?_
          · exact ⟨34, rfl⟩
          show iv_G _ _ _ _ 61 [(5, .int 5), (4, .int 5), (6, .int 0), (3, .ref 34), (0, .ref 29), (1, .int 2), (2, .int 1)] [.int 0] (iv_wd (iv_uA (iv_cA iv_Az 4 31 0 2048 64) 30 2 1) (iv_uF iv_Fz 3401 2) iv_Bz) true _ _ _
          refine iv_Gm 8 (pc2 := 84) (lv2 := [(6, .int 0), (5, .int 5), (4, .int 5), (3, .ref 34), (0, .ref 29), (1, .int 2), (2, .int 1)]) (st2 := [.int 5, .int 5, .ref 34]) (w2 := (iv_wd (iv_uA (iv_cA iv_Az 4 31 0 2048 64) 30 2 1) (iv_uF iv_Fz 3401 2) iv_Bz)) rfl ?_
          refine iv_Gcall (ν := 94) (c := 3) (as := [.ref 34, .int 5, .int 5]) (rest := []) (w2 := (iv_wd (iv_uA (iv_cA iv_Az 4 31 0 2048 64) 30 2 1) (iv_uF iv_Fz 3401 2) iv_Bz)) (tg2 := true) (k2 := 0) (z2 := 0) (v := none) rfl rfl rfl rfl rfl rfl rfl (Nat.le_of_ble_eq_true rfl) rfl ?_ ?_
          · exact ⟨12, rfl⟩
          show iv_G _ _ _ _ 87 [(6, .int 0), (5, .int 5), (4, .int 5), (3, .ref 34), (0, .ref 29), (1, .int 2), (2, .int 1)] [] (iv_wd (iv_uA (iv_cA iv_Az 4 31 0 2048 64) 30 2 1) (iv_uF iv_Fz 3401 2) iv_Bz) true _ _ _
          refine iv_Gm 9 (pc2 := 100) (lv2 := [(4, .int 6), (6, .int 0), (5, .int 5), (3, .ref 34), (0, .ref 29), (1, .int 2), (2, .int 1)]) (st2 := [.int 1, .int 0, .int 5, .ref 34, .ref 29]) (w2 := (iv_wd (iv_uA (iv_cA iv_Az 4 31 0 2048 64) 30 2 1) (iv_uF iv_Fz 3401 2) iv_Bz)) rfl ?_
          refine iv_Gcall (ν := 114) (c := 5) (as := [.ref 29, .ref 34, .int 5, .int 0, .int 1]) (rest := []) (w2 := (iv_wd (iv_uA (iv_cA iv_Az 4 31 0 2048 64) 30 2 1) (iv_uF iv_Fz 3401 2) iv_Bz)) (tg2 := true) (k2 := 0) (z2 := 0) (v := none) rfl rfl rfl rfl rfl rfl rfl (Nat.le_of_ble_eq_true rfl) rfl ?_ ?_
          · exact ⟨21, rfl⟩
          show iv_G _ _ _ _ 103 [(4, .int 6), (6, .int 0), (5, .int 5), (3, .ref 34), (0, .ref 29), (1, .int 2), (2, .int 1)] [] (iv_wd (iv_uA (iv_cA iv_Az 4 31 0 2048 64) 30 2 1) (iv_uF iv_Fz 3401 2) iv_Bz) true _ _ _
          refine iv_Gm 8 (pc2 := 45) (lv2 := [(5, .int 6), (4, .int 6), (6, .int 0), (3, .ref 34), (0, .ref 29), (1, .int 2), (2, .int 1)]) (st2 := [.int 0, .int 6, .ref 34]) (w2 := (iv_wd (iv_uA (iv_cA iv_Az 4 31 0 2048 64) 30 2 1) (iv_uF iv_Fz 3401 2) iv_Bz)) rfl ?_
          refine iv_Gcall (ν := 92) (c := 3) (as := [.ref 34, .int 6, .int 0]) (rest := []) (w2 := (iv_wd (iv_uA (iv_cA iv_Az 4 31 0 2048 64) 30 2 1) (iv_uF iv_Fz 3401 2) iv_Bz)) (tg2 := true) (k2 := 0) (z2 := 0) (v := (some (.int 0))) rfl rfl rfl rfl rfl rfl rfl (Nat.le_of_ble_eq_true rfl) rfl ?_ ?_
          · exact ⟨11, rfl⟩
          show iv_G _ _ _ _ 48 [(5, .int 6), (4, .int 6), (6, .int 0), (3, .ref 34), (0, .ref 29), (1, .int 2), (2, .int 1)] [.int 0] (iv_wd (iv_uA (iv_cA iv_Az 4 31 0 2048 64) 30 2 1) (iv_uF iv_Fz 3401 2) iv_Bz) true _ _ _
          refine iv_Gm 6 (pc2 := 58) (lv2 := [(5, .int 6), (4, .int 6), (6, .int 0), (3, .ref 34), (0, .ref 29), (1, .int 2), (2, .int 1)]) (st2 := [.int 1, .int 6, .ref 34, .ref 29]) (w2 := (iv_wd (iv_uA (iv_cA iv_Az 4 31 0 2048 64) 30 2 1) (iv_uF iv_Fz 3401 2) iv_Bz)) rfl ?_
          refine iv_Gcall (ν := 112) (c := 4) (as := [.ref 29, .ref 34, .int 6, .int 1]) (rest := []) (w2 := (iv_wd (iv_uA (iv_cA iv_Az 4 31 0 2048 64) 30 2 1) (iv_uF iv_Fz 3401 2) iv_Bz)) (tg2 := true) (k2 := 0) (z2 := 0) (v := (some (.int 0))) rfl rfl rfl rfl rfl rfl rfl (Nat.le_of_ble_eq_true rfl) rfl ?_ ?_
          · exact ⟨34, rfl⟩
          show iv_G _ _ _ _ 61 [(5, .int 6), (4, .int 6), (6, .int 0), (3, .ref 34), (0, .ref 29), (1, .int 2), (2, .int 1)] [.int 0] (iv_wd (iv_uA (iv_cA iv_Az 4 31 0 2048 64) 30 2 1) (iv_uF iv_Fz 3401 2) iv_Bz) true _ _ _
          refine iv_Gm 8 (pc2 := 84) (lv2 := [(6, .int 0), (5, .int 6), (4, .int 6), (3, .ref 34), (0, .ref 29), (1, .int 2), (2, .int 1)]) (st2 := [.int 6, .int 6, .ref 34]) (w2 := (iv_wd (iv_uA (iv_cA iv_Az 4 31 0 2048 64) 30 2 1) (iv_uF iv_Fz 3401 2) iv_Bz)) rfl ?_
          refine iv_Gcall (ν := 94) (c := 3) (as := [.ref 34, .int 6, .int 6]) (rest := []) (w2 := (iv_wd (iv_uA (iv_cA iv_Az 4 31 0 2048 64) 30 2 1) (iv_uF iv_Fz 3401 2) iv_Bz)) (tg2 := true) (k2 := 0) (z2 := 0) (v := none) rfl rfl rfl rfl rfl rfl rfl (Nat.le_of_ble_eq_true rfl) rfl ?_ ?_
          · exact ⟨12, rfl⟩
          show iv_G _ _ _ _ 87 [(6, .int 0), (5, .int 6), (4, .int 6), (3, .ref 34), (0, .ref 29), (1, .int 2), (2, .int 1)] [] (iv_wd (iv_uA (iv_cA iv_Az 4 31 0 2048 64) 30 2 1) (iv_uF iv_Fz 3401 2) iv_Bz) true _ _ _
          refine iv_Gm 9 (pc2 := 100) (lv2 := [(4, .int 7), (6, .int 0), (5, .int 6), (3, .ref 34), (0, .ref 29), (1, .int 2), (2, .int 1)]) (st2 := [.int 1, .int 0, .int 6, .ref 34, .ref 29]) (w2 := (iv_wd (iv_uA (iv_cA iv_Az 4 31 0 2048 64) 30 2 1) (iv_uF iv_Fz 3401 2) iv_Bz)) rfl ?_
          refine iv_Gcall (ν := 114) (c := 5) (as := [.ref 29, .ref 34, .int 6, .int 0, .int 1]) (rest := []) (w2 := (iv_wd (iv_uA (iv_cA iv_Az 4 31 0 2048 64) 30 2 1) (iv_uF iv_Fz 3401 2) iv_Bz)) (tg2 := true) (k2 := 0) (z2 := 0) (v := none) rfl rfl rfl rfl rfl rfl rfl (Nat.le_of_ble_eq_true rfl) rfl ?_ ?_
          · exact ⟨21, rfl⟩
          show iv_G _ _ _ _ 103 [(4, .int 7), (6, .int 0), (5, .int 6), (3, .ref 34), (0, .ref 29), (1, .int 2), (2, .int 1)] [] (iv_wd (iv_uA (iv_cA iv_Az 4 31 0 2048 64) 30 2 1) (iv_uF iv_Fz 3401 2) iv_Bz) true _ _ _
          refine iv_Gm 8 (pc2 := 45) (lv2 := [(5, .int 7), (4, .int 7), (6, .int 0), (3, .ref 34), (0, .ref 29), (1, .int 2), (2, .int 1)]) (st2 := [.int 0, .int 7, .ref 34]) (w2 := (iv_wd (iv_uA (iv_cA iv_Az 4 31 0 2048 64) 30 2 1) (iv_uF iv_Fz 3401 2) iv_Bz)) rfl ?_
          refine iv_Gcall (ν := 92) (c := 3) (as := [.ref 34, .int 7, .int 0]) (rest := []) (w2 := (iv_wd (iv_uA (iv_cA iv_Az 4 31 0 2048 64) 30 2 1) (iv_uF iv_Fz 3401 2) iv_Bz)) (tg2 := true) (k2 := 0) (z2 := 0) (v := (some (.int 0))) rfl rfl rfl rfl rfl rfl rfl (Nat.le_of_ble_eq_true rfl) rfl ?_ ?_
          · exact ⟨11, rfl⟩
          show iv_G _ _ _ _ 48 [(5, .int 7), (4, .int 7), (6, .int 0), (3, .ref 34), (0, .ref 29), (1, .int 2), (2, .int 1)] [.int 0] (iv_wd (iv_uA (iv_cA iv_Az 4 31 0 2048 64) 30 2 1) (iv_uF iv_Fz 3401 2) iv_Bz) true _ _ _
          refine iv_Gm 6 (pc2 := 58) (lv2 := [(5, .int 7), (4, .int 7), (6, .int 0), (3, .ref 34), (0, .ref 29), (1, .int 2), (2, .int 1)]) (st2 := [.int 1, .int 7, .ref 34, .ref 29]) (w2 := (iv_wd (iv_uA (iv_cA iv_Az 4 31 0 2048 64) 30 2 1) (iv_uF iv_Fz 3401 2) iv_Bz)) rfl ?_
          refine iv_Gcall (ν := 112) (c := 4) (as := [.ref 29, .ref 34, .int 7, .int 1]) (rest := []) (w2 := (iv_wd (iv_uA (iv_cA iv_Az 4 31 0 2048 64) 30 2 1) (iv_uF iv_Fz 3401 2) iv_Bz)) (tg2 := true) (k2 := 0) (z2 := 0) (v := (some (.int 0))) rfl rfl rfl rfl rfl rfl rfl (Nat.le_of_ble_eq_true rfl) rfl ?_ ?_
          · exact ⟨34, rfl⟩
          show iv_G _ _ _ _ 61 [(5, .int 7), (4, .int 7), (6, .int 0), (3, .ref 34), (0, .ref 29), (1, .int 2), (2, .int 1)] [.int 0] (iv_wd (iv_uA (iv_cA iv_Az 4 31 0 2048 64) 30 2 1) (iv_uF iv_Fz 3401 2) iv_Bz) true _ _ _
          refine iv_Gm 8 (pc2 := 84) (lv2 := [(6, .int 0), (5, .int 7), (4, .int 7), (3, .ref 34), (0, .ref 29), (1, .int 2), (2, .int 1)]) (st2 := [.int 7, .int 7, .ref 34]) (w2 := (iv_wd (iv_uA (iv_cA iv_Az 4 31 0 2048 64) 30 2 1) (iv_uF iv_Fz 3401 2) iv_Bz)) rfl ?_
          refine iv_Gcall (ν := 94) (c := 3) (as := [.ref 34, .int 7, .int 7]) (rest := []) (w2 := (iv_wd (iv_uA (iv_cA iv_Az 4 31 0 2048 64) 30 2 1) (iv_uF iv_Fz 3401 2) iv_Bz)) (tg2 := true) (k2 := 0) (z2 := 0) (v := none) rfl rfl rfl rfl rfl rfl rfl (Nat.le_of_ble_eq_true rfl) rfl ?_ ?_
          · exact ⟨12, rfl⟩
          show iv_G _ _ _ _ 87 [(6, .int 0), (5, .int 7), (4, .int 7), (3, .ref 34), (0, .ref 29), (1, .int 2), (2, .int 1)] [] (iv_wd (iv_uA (iv_cA iv_Az 4 31 0 2048 64) 30 2 1) (iv_uF iv_Fz 3401 2) iv_Bz) true _ _ _
          refine iv_Gm 9 (pc2 := 100) (lv2 := [(4, .int 8), (6, .int 0), (5, .int 7), (3, .ref 34), (0, .ref 29), (1, .int 2), (2, .int 1)]) (st2 := [.int 1, .int 0, .int 7, .ref 34, .ref 29]) (w2 := (iv_wd (iv_uA (iv_cA iv_Az 4 31 0 2048 64) 30 2 1) (iv_uF iv_Fz 3401 2) iv_Bz)) rfl ?_
          refine iv_Gcall (ν := 114) (c := 5) (as := [.ref 29, .ref 34, .int 7, .int 0, .int 1]) (rest := []) (w2 := (iv_wd (iv_uA (iv_cA iv_Az 4 31 0 2048 64) 30 2 1) (iv_uF iv_Fz 3401 2) iv_Bz)) (tg2 := true) (k2 := 0) (z2 := 0) (v := none) rfl rfl rfl rfl rfl rfl rfl (Nat.le_of_ble_eq_true rfl) rfl ?_ ?_
          · exact ⟨21, rfl⟩
          show iv_G _ _ _ _ 103 [(4, .int 8), (6, .int 0), (5, .int 7), (3, .ref 34), (0, .ref 29), (1, .int 2), (2, .int 1)] [] (iv_wd (iv_uA (iv_cA iv_Az 4 31 0 2048 64) 30 2 1) (iv_uF iv_Fz 3401 2) iv_Bz) true _ _ _
          refine iv_Gm 8 (pc2 := 114) (lv2 := [(5, .int 8), (4, .int 8), (6, .int 0), (3, .ref 34), (0, .ref 29), (1, .int 2), (2, .int 1)]) (st2 := [.int 8, .int 8, .ref 34]) (w2 := (iv_wd (iv_uA (iv_cA iv_Az 4 31 0 2048 64) 30 2 1) (iv_uF iv_Fz 3401 2) iv_Bz)) rfl ?_
          refine iv_Gcall (ν := 94) (c := 3) (as := [.ref 34, .int 8, .int 8]) (rest := []) (w2 := (iv_wd (iv_uA (iv_cA iv_Az 4 31 0 2048 64) 30 2 1) (iv_uF iv_Fz 3401 2) iv_Bz)) (tg2 := true) (k2 := 0) (z2 := 0) (v := none) rfl rfl rfl rfl rfl rfl rfl (Nat.le_of_ble_eq_true rfl) rfl ?_ ?_
          · exact ⟨12, rfl⟩
          show iv_G _ _ _ _ 117 [(5, .int 8), (4, .int 8), (6, .int 0), (3, .ref 34), (0, .ref 29), (1, .int 2), (2, .int 1)] [] (iv_wd (iv_uA (iv_cA iv_Az 4 31 0 2048 64) 30 2 1) (iv_uF iv_Fz 3401 2) iv_Bz) true _ _ _
          refine iv_Gm 4 (pc2 := 123) (lv2 := [(5, .int 8), (4, .int 8), (6, .int 0), (3, .ref 34), (0, .ref 29), (1, .int 2), (2, .int 1)]) (st2 := [.ref 34, .int 2, .ref 2]) (w2 := (iv_wd (iv_uA (iv_cA iv_Az 4 31 0 2048 64) 30 2 1) (iv_uF iv_Fz 3401 2) iv_Bz)) rfl ?_
          refine iv_Gcall (ν := 88) (c := 1) (as := [.ref 34]) (rest := [.int 2, .ref 2]) (w2 := (iv_wd (iv_uA (iv_cA iv_Az 4 31 0 2048 64) 30 2 1) (iv_uF iv_Fz 3401 2) iv_Bz)) (tg2 := true) (k2 := 0) (z2 := 0) (v := (some (.ref 35))) rfl rfl rfl rfl rfl rfl rfl (Nat.le_of_ble_eq_true rfl) rfl ?_ ?_
          · exact ⟨5, rfl⟩
          show iv_G _ _ _ _ 126 [(5, .int 8), (4, .int 8), (6, .int 0), (3, .ref 34), (0, .ref 29), (1, .int 2), (2, .int 1)] [.ref 35, .int 2, .ref 2] (iv_wd (iv_uA (iv_cA iv_Az 4 31 0 2048 64) 30 2 1) (iv_uF iv_Fz 3401 2) iv_Bz) true _ _ _
          refine iv_Gm 1 (pc2 := 127) (lv2 := [(5, .int 8), (4, .int 8), (6, .int 0), (3, .ref 34), (0, .ref 29), (1, .int 2), (2, .int 1)]) (st2 := [.int 0, .ref 35, .int 2, .ref 2]) (w2 := (iv_wd (iv_uA (iv_cA iv_Az 4 31 0 2048 64) 30 2 1) (iv_uF iv_Fz 3401 2) iv_Bz)) rfl ?_
          refine iv_Gcall (ν := 71) (c := 4) (as := [.ref 2, .int 2, .ref 35, .int 0]) (rest := []) (w2 := (iv_wd (iv_uA (iv_cA iv_Az 4 31 0 2048 64) 30 2 1) (iv_uF iv_Fz 3401 2) iv_Bz)) (tg2 := true) (k2 := 0) (z2 := 0) (v := none) rfl rfl rfl rfl rfl rfl rfl (Nat.le_of_ble_eq_true rfl) rfl ?_ ?_
          · refine iv_Gm 9 (pc2 := 15) (lv2 := [(0, .ref 2), (1, .int 2), (2, .ref 35), (3, .int 0)]) (st2 := []) (w2 := (iv_wd (iv_cA (iv_uA (iv_cA iv_Az 4 31 0 2048 64) 30 2 1) 35 3 0 128 64) (iv_uF iv_Fz 3401 2) iv_Bz)) rfl ?_
            rw [iv_cA_id (A := (iv_uA (iv_cA iv_Az 4 31 0 2048 64) 30 2 1)) (r0 := 35) (r := 3) (sp := 0) (dp := 128) (n := 64) rfl rfl]
            exact iv_Gret rfl rfl rfl
          show iv_G _ _ _ _ 130 [(5, .int 8), (4, .int 8), (6, .int 0), (3, .ref 34), (0, .ref 29), (1, .int 2), (2, .int 1)] [] (iv_wd (iv_uA (iv_cA iv_Az 4 31 0 2048 64) 30 2 1) (iv_uF iv_Fz 3401 2) iv_Bz) true _ _ _
          exact iv_Gret rfl rfl rfl
        show iv_G _ _ _ _ 55 [(1, .int 32), (0, .ref 29)] [] (iv_wd (iv_uA (iv_cA iv_Az 4 31 0 2048 64) 30 2 1) (iv_uF iv_Fz 3401 2) iv_Bz) true _ _ _
        refine iv_Gm 1 (pc2 := 56) (lv2 := [(1, .int 32), (0, .ref 29)]) (st2 := [.ref 29]) (w2 := (iv_wd (iv_uA (iv_cA iv_Az 4 31 0 2048 64) 30 2 1) (iv_uF iv_Fz 3401 2) iv_Bz)) rfl ?_
        refine iv_Gcall (ν := 110) (c := 1) (as := [.ref 29]) (rest := []) (w2 := (iv_wd (iv_uA (iv_cA iv_Az 4 31 0 2048 64) 30 2 1) (iv_uF iv_Fz 3401 2) iv_Bz)) (tg2 := true) (k2 := 0) (z2 := 0) (v := none) rfl rfl rfl rfl rfl rfl rfl (Nat.le_of_ble_eq_true rfl) rfl ?_ ?_
        · refine iv_Gm 23 (pc2 := 22) (lv2 := [(1, .int 3), (0, .ref 29)]) (st2 := [.int 3, .ref 2]) (w2 := (iv_wd (iv_uA (iv_cA iv_Az 4 31 0 2048 64) 30 2 1) (iv_uF iv_Fz 3401 2) iv_Bz)) rfl ?_
          refine iv_Gcall (ν := 66) (c := 2) (as := [.ref 2, .int 3]) (rest := []) (w2 := (iv_wd (iv_uA (iv_cA iv_Az 4 31 0 2048 64) 30 2 1) (iv_uF iv_Fz 3401 2) iv_Bz)) (tg2 := true) (k2 := 0) (z2 := 0) (v := (some (.int 0))) rfl rfl rfl rfl rfl rfl rfl (Nat.le_of_ble_eq_true rfl) rfl ?_ ?_
          · exact ⟨12, rfl⟩
          show iv_G _ _ _ _ 25 [(1, .int 3), (0, .ref 29)] [.int 0] (iv_wd (iv_uA (iv_cA iv_Az 4 31 0 2048 64) 30 2 1) (iv_uF iv_Fz 3401 2) iv_Bz) true _ _ _
          refine iv_Gm 6 (pc2 := 37) (lv2 := [(1, .int 3), (0, .ref 29)]) (st2 := [.int 0, .int 3, .ref 2]) (w2 := (iv_wd (iv_uA (iv_cA iv_Az 4 31 0 2048 64) 30 2 1) (iv_uF iv_Fz 3401 2) iv_Bz)) rfl ?_
          refine iv_Gcall (ν := 67) (c := 3) (as := [.ref 2, .int 3, .int 0]) (rest := []) (w2 := (iv_wd (iv_uA (iv_cA iv_Az 4 31 0 2048 64) 30 2 1) (iv_uF iv_Fz 3401 2) iv_Bz)) (tg2 := true) (k2 := 0) (z2 := 0) (v := none) rfl rfl rfl rfl rfl rfl rfl (Nat.le_of_ble_eq_true rfl) rfl ?_ ?_
          · refine iv_Gm 10 (pc2 := 15) (lv2 := [(0, .ref 2), (1, .int 3), (2, .int 0)]) (st2 := []) (w2 := (iv_wd (iv_uA (iv_uA (iv_cA iv_Az 4 31 0 2048 64) 30 2 1) 4 3 0) (iv_uF iv_Fz 3401 2) iv_Bz)) rfl ?_
            rw [iv_uA_id (A := (iv_uA (iv_cA iv_Az 4 31 0 2048 64) 30 2 1)) (r := 4) (j := 3) (v := 0) rfl]
            exact iv_Gret rfl rfl rfl
          show iv_G _ _ _ _ 40 [(1, .int 3), (0, .ref 29)] [] (iv_wd (iv_uA (iv_cA iv_Az 4 31 0 2048 64) 30 2 1) (iv_uF iv_Fz 3401 2) iv_Bz) true _ _ _
          refine iv_Gm 13 (pc2 := 22) (lv2 := [(1, .int 4), (0, .ref 29)]) (st2 := [.int 4, .ref 2]) (w2 := (iv_wd (iv_uA (iv_cA iv_Az 4 31 0 2048 64) 30 2 1) (iv_uF iv_Fz 3401 2) iv_Bz)) rfl ?_
          refine iv_Gcall (ν := 66) (c := 2) (as := [.ref 2, .int 4]) (rest := []) (w2 := (iv_wd (iv_uA (iv_cA iv_Az 4 31 0 2048 64) 30 2 1) (iv_uF iv_Fz 3401 2) iv_Bz)) (tg2 := true) (k2 := 0) (z2 := 0) (v := (some (.int 0))) rfl rfl rfl rfl rfl rfl rfl (Nat.le_of_ble_eq_true rfl) rfl ?_ ?_
          · exact ⟨12, rfl⟩
          show iv_G _ _ _ _ 25 [(1, .int 4), (0, .ref 29)] [.int 0] (iv_wd (iv_uA (iv_cA iv_Az 4 31 0 2048 64) 30 2 1) (iv_uF iv_Fz 3401 2) iv_Bz) true _ _ _
          refine iv_Gm 6 (pc2 := 37) (lv2 := [(1, .int 4), (0, .ref 29)]) (st2 := [.int 0, .int 4, .ref 2]) (w2 := (iv_wd (iv_uA (iv_cA iv_Az 4 31 0 2048 64) 30 2 1) (iv_uF iv_Fz 3401 2) iv_Bz)) rfl ?_
          refine iv_Gcall (ν := 67) (c := 3) (as := [.ref 2, .int 4, .int 0]) (rest := []) (w2 := (iv_wd (iv_uA (iv_cA iv_Az 4 31 0 2048 64) 30 2 1) (iv_uF iv_Fz 3401 2) iv_Bz)) (tg2 := true) (k2 := 0) (z2 := 0) (v := none) rfl rfl rfl rfl rfl rfl rfl (Nat.le_of_ble_eq_true rfl) rfl ?_ ?_
          · refine iv_Gm 10 (pc2 := 15) (lv2 := [(0, .ref 2), (1, .int 4), (2, .int 0)]) (st2 := []) (w2 := (iv_wd (iv_uA (iv_uA (iv_cA iv_Az 4 31 0 2048 64) 30 2 1) 4 4 0) (iv_uF iv_Fz 3401 2) iv_Bz)) rfl ?_
            rw [iv_uA_id (A := (iv_uA (iv_cA iv_Az 4 31 0 2048 64) 30 2 1)) (r := 4) (j := 4) (v := 0) rfl]
            exact iv_Gret rfl rfl rfl
          show iv_G _ _ _ _ 40 [(1, .int 4), (0, .ref 29)] [] (iv_wd (iv_uA (iv_cA iv_Az 4 31 0 2048 64) 30 2 1) (iv_uF iv_Fz 3401 2) iv_Bz) true _ _ _
          refine iv_Gm 13 (pc2 := 22) (lv2 := [(1, .int 5), (0, .ref 29)]) (st2 := [.int 5, .ref 2]) (w2 := (iv_wd (iv_uA (iv_cA iv_Az 4 31 0 2048 64) 30 2 1) (iv_uF iv_Fz 3401 2) iv_Bz)) rfl ?_
          refine iv_Gcall (ν := 66) (c := 2) (as := [.ref 2, .int 5]) (rest := []) (w2 := (iv_wd (iv_uA (iv_cA iv_Az 4 31 0 2048 64) 30 2 1) (iv_uF iv_Fz 3401 2) iv_Bz)) (tg2 := true) (k2 := 0) (z2 := 0) (v := (some (.int 0))) rfl rfl rfl rfl rfl rfl rfl (Nat.le_of_ble_eq_true rfl) rfl ?_ ?_
          · exact ⟨12, rfl⟩
          show iv_G _ _ _ _ 25 [(1, .int 5), (0, .ref 29)] [.int 0] (iv_wd (iv_uA (iv_cA iv_Az 4 31 0 2048 64) 30 2 1) (iv_uF iv_Fz 3401 2) iv_Bz) true _ _ _
          refine iv_Gm 6 (pc2 := 37) (lv2 := [(1, .int 5), (0, .ref 29)]) (st2 := [.int 0, .int 5, .ref 2]) (w2 := (iv_wd (iv_uA (iv_cA iv_Az 4 31 0 2048 64) 30 2 1) (iv_uF iv_Fz 3401 2) iv_Bz)) rfl ?_
          refine iv_Gcall (ν := 67) (c := 3) (as := [.ref 2, .int 5, .int 0]) (rest := []) (w2 := (iv_wd (iv_uA (iv_cA iv_Az 4 31 0 2048 64) 30 2 1) (iv_uF iv_Fz 3401 2) iv_Bz)) (tg2 := true) (k2 := 0) (z2 := 0) (v := none) rfl rfl rfl rfl rfl rfl rfl (Nat.le_of_ble_eq_true rfl) rfl ?_ ?_
          · refine iv_Gm 10 (pc2 := 15) (lv2 := [(0, .ref 2), (1, .int 5), (2, .int 0)]) (st2 := []) (w2 := (iv_wd (iv_uA (iv_uA (iv_cA iv_Az 4 31 0 2048 64) 30 2 1) 4 5 0) (iv_uF iv_Fz 3401 2) iv_Bz)) rfl ?_
            rw [iv_uA_id (A := (iv_uA (iv_cA iv_Az 4 31 0 2048 64) 30 2 1)) (r := 4) (j := 5) (v := 0) rfl]
            exact iv_Gret rfl rfl rfl
          show iv_G _ _ _ _ 40 [(1, .int 5), (0, .ref 29)] [] (iv_wd (iv_uA (iv_cA iv_Az 4 31 0 2048 64) 30 2 1) (iv_uF iv_Fz 3401 2) iv_Bz) true _ _ _
          refine iv_Gm 13 (pc2 := 22) (lv2 := [(1, .int 6), (0, .ref 29)]) (st2 := [.int 6, .ref 2]) (w2 := (iv_wd (iv_uA (iv_cA iv_Az 4 31 0 2048 64) 30 2 1) (iv_uF iv_Fz 3401 2) iv_Bz)) rfl ?_
          refine iv_Gcall (ν := 66) (c := 2) (as := [.ref 2, .int 6]) (rest := []) (w2 := (iv_wd (iv_uA (iv_cA iv_Az 4 31 0 2048 64) 30 2 1) (iv_uF iv_Fz 3401 2) iv_Bz)) (tg2 := true) (k2 := 0) (z2 := 0) (v := (some (.int 0))) rfl rfl rfl rfl rfl rfl rfl (Nat.le_of_ble_eq_true rfl) rfl ?_ ?_
          · exact ⟨12, rfl⟩
          show iv_G _ _ _ _ 25 [(1, .int 6), (0, .ref 29)] [.int 0] (iv_wd (iv_uA (iv_cA iv_Az 4 31 0 2048 64) 30 2 1) (iv_uF iv_Fz 3401 2) iv_Bz) true _ _ _
          refine iv_Gm 6 (pc2 := 37) (lv2 := [(1, .int 6), (0, .ref 29)]) (st2 := [.int 0, .int 6, .ref 2]) (w2 := (iv_wd (iv_uA (iv_cA iv_Az 4 31 0 2048 64) 30 2 1) (iv_uF iv_Fz 3401 2) iv_Bz)) rfl ?_
          refine iv_Gcall (ν := 67) (c := 3) (as := [.ref 2, .int 6, .int 0]) (rest := []) (w2 := (iv_wd (iv_uA (iv_cA iv_Az 4 31 0 2048 64) 30 2 1) (iv_uF iv_Fz 3401 2) iv_Bz)) (tg2 := true) (k2 := 0) (z2 := 0) (v := none) rfl rfl rfl rfl rfl rfl rfl (Nat.le_of_ble_eq_true rfl) rfl ?_ ?_
          · refine iv_Gm 10 (pc2 := 15) (lv2 := [(0, .ref 2), (1, .int 6), (2, .int 0)]) (st2 := []) (w2 := (iv_wd (iv_uA (iv_uA (iv_cA iv_Az 4 31 0 2048 64) 30 2 1) 4 6 0) (iv_uF iv_Fz 3401 2) iv_Bz)) rfl ?_
            rw [iv_uA_id (A := (iv_uA (iv_cA iv_Az 4 31 0 2048 64) 30 2 1)) (r := 4) (j := 6) (v := 0) rfl]
            exact iv_Gret rfl rfl rfl
          show iv_G _ _ _ _ 40 [(1, .int 6), (0, .ref 29)] [] (iv_wd (iv_uA (iv_cA iv_Az 4 31 0 2048 64) 30 2 1) (iv_uF iv_Fz 3401 2) iv_Bz) true _ _ _
          refine iv_Gm 13 (pc2 := 22) (lv2 := [(1, .int 7), (0, .ref 29)]) (st2 := [.int 7, .ref 2]) (w2 := (iv_wd (iv_uA (iv_cA iv_Az 4 31 0 2048 64) 30 2 1) (iv_uF iv_Fz 3401 2) iv_Bz)) rfl ?_
          refine iv_Gcall (ν := 66) (c := 2) (as := [.ref 2, .int 7]) (rest := []) (w2 := (iv_wd (iv_uA (iv_cA iv_Az 4 31 0 2048 64) 30 2 1) (iv_uF iv_Fz 3401 2) iv_Bz)) (tg2 := true) (k2 := 0) (z2 := 0) (v := (some (.int 0))) rfl rfl rfl rfl rfl rfl rfl (Nat.le_of_ble_eq_true rfl) rfl ?_ ?_
          · exact ⟨12, rfl⟩
          show iv_G _ _ _ _ 25 [(1, .int 7), (0, .ref 29)] [.int 0] (iv_wd (iv_uA (iv_cA iv_Az 4 31 0 2048 64) 30 2 1) (iv_uF iv_Fz 3401 2) iv_Bz) true _ _ _
          refine iv_Gm 6 (pc2 := 37) (lv2 := [(1, .int 7), (0, .ref 29)]) (st2 := [.int 0, .int 7, .ref 2]) (w2 := (iv_wd (iv_uA (iv_cA iv_Az 4 31 0 2048 64) 30 2 1) (iv_uF iv_Fz 3401 2) iv_Bz)) rfl ?_
          refine iv_Gcall (ν := 67) (c := 3) (as := [.ref 2, .int 7, .int 0]) (rest := []) (w2 := (iv_wd (iv_uA (iv_cA iv_Az 4 31 0 2048 64) 30 2 1) (iv_uF iv_Fz 3401 2) iv_Bz)) (tg2 := true) (k2 := 0) (z2 := 0) (v := none) rfl rfl rfl rfl rfl rfl rfl (Nat.le_of_ble_eq_true rfl) rfl ?_ ?_
          · refine iv_Gm 10 (pc2 := 15) (lv2 := [(0, .ref 2), (1, .int 7), (2, .int 0)]) (st2 := []) (w2 := (iv_wd (iv_uA (iv_uA (iv_cA iv_Az 4 31 0 2048 64) 30 2 1) 4 7 0) (iv_uF iv_Fz 3401 2) iv_Bz)) rfl ?_
            rw [iv_uA_id (A := (iv_uA (iv_cA iv_Az 4 31 0 2048 64) 30 2 1)) (r := 4) (j := 7) (v := 0) rfl]
            exact iv_Gret rfl rfl rfl
          show iv_G _ _ _ _ 40 [(1, .int 7), (0, .ref 29)] [] (iv_wd (iv_uA (iv_cA iv_Az 4 31 0 2048 64) 30 2 1) (iv_uF iv_Fz 3401 2) iv_Bz) true _ _ _
          refine iv_Gm 13 (pc2 := 22) (lv2 := [(1, .int 8), (0, .ref 29)]) (st2 := [.int 8, .ref 2]) (w2 := (iv_wd (iv_uA (iv_cA iv_Az 4 31 0 2048 64) 30 2 1) (iv_uF iv_Fz 3401 2) iv_Bz)) rfl ?_
          refine iv_Gcall (ν := 66) (c := 2) (as := [.ref 2, .int 8]) (rest := []) (w2 := (iv_wd (iv_uA (iv_cA iv_Az 4 31 0 2048 64) 30 2 1) (iv_uF iv_Fz 3401 2) iv_Bz)) (tg2 := true) (k2 := 0) (z2 := 0) (v := (some (.int 0))) rfl rfl rfl rfl rfl rfl rfl (Nat.le_of_ble_eq_true rfl) rfl ?_ ?_
          · exact ⟨12, rfl⟩
          show iv_G _ _ _ _ 25 [(1, .int 8), (0, .ref 29)] [.int 0] (iv_wd (iv_uA (iv_cA iv_Az 4 31 0 2048 64) 30 2 1) (iv_uF iv_Fz 3401 2) iv_Bz) true _ _ _
          refine iv_Gm 6 (pc2 := 37) (lv2 := [(1, .int 8), (0, .ref 29)]) (st2 := [.int 0, .int 8, .ref 2]) (w2 := (iv_wd (iv_uA (iv_cA iv_Az 4 31 0 2048 64) 30 2 1) (iv_uF iv_Fz 3401 2) iv_Bz)) rfl ?_
          refine iv_Gcall (ν := 67) (c := 3) (as := [.ref 2, .int 8, .int 0]) (rest := []) (w2 := (iv_wd (iv_uA (iv_cA iv_Az 4 31 0 2048 64) 30 2 1) (iv_uF iv_Fz 3401 2) iv_Bz)) (tg2 := true) (k2 := 0) (z2 := 0) (v := none) rfl rfl rfl rfl rfl rfl rfl (Nat.le_of_ble_eq_true rfl) rfl ?_ ?_
          · refine iv_Gm 10 (pc2 := 15) (lv2 := [(0, .ref 2), (1, .int 8), (2, .int 0)]) (st2 := []) (w2 := (iv_wd (iv_uA (iv_uA (iv_cA iv_Az 4 31 0 2048 64) 30 2 1) 4 8 0) (iv_uF iv_Fz 3401 2) iv_Bz)) rfl ?_
            rw [iv_uA_id (A := (iv_uA (iv_cA iv_Az 4 31 0 2048 64) 30 2 1)) (r := 4) (j := 8) (v := 0) rfl]
            exact iv_Gret rfl rfl rfl
          show iv_G _ _ _ _ 40 [(1, .int 8), (0, .ref 29)] [] (iv_wd (iv_uA (iv_cA iv_Az 4 31 0 2048 64) 30 2 1) (iv_uF iv_Fz 3401 2) iv_Bz) true _ _ _
          refine iv_Gm 13 (pc2 := 22) (lv2 := [(1, .int 9), (0, .ref 29)]) (st2 := [.int 9, .ref 2]) (w2 := (iv_wd (iv_uA (iv_cA iv_Az 4 31 0 2048 64) 30 2 1) (iv_uF iv_Fz 3401 2) iv_Bz)) rfl ?_
          refine iv_Gcall (ν := 66) (c := 2) (as := [.ref 2, .int 9]) (rest := []) (w2 := (iv_wd (iv_uA (iv_cA iv_Az 4 31 0 2048 64) 30 2 1) (iv_uF iv_Fz 3401 2) iv_Bz)) (tg2 := true) (k2 := 0) (z2 := 0) (v := (some (.int 0))) rfl rfl rfl rfl rfl rfl rfl (Nat.le_of_ble_eq_true rfl) rfl ?_ ?_
          · exact ⟨12, rfl⟩
          show iv_G _ _ _ _ 25 [(1, .int 9), (0, .ref 29)] [.int 0] (iv_wd (iv_uA (iv_cA iv_Az 4 31 0 2048 64) 30 2 1) (iv_uF iv_Fz 3401 2) iv_Bz) true _ _ _
          refine iv_Gm 6 (pc2 := 37) (lv2 := [(1, .int 9), (0, .ref 29)]) (st2 := [.int 0, .int 9, .ref 2]) (w2 := (iv_wd (iv_uA (iv_cA iv_Az 4 31 0 2048 64) 30 2 1) (iv_uF iv_Fz 3401 2) iv_Bz)) rfl ?_
          refine iv_Gcall (ν := 67) (c := 3) (as := [.ref 2, .int 9, .int 0]) (rest := []) (w2 := (iv_wd (iv_uA (iv_cA iv_Az 4 31 0 2048 64) 30 2 1) (iv_uF iv_Fz 3401 2) iv_Bz)) (tg2 := true) (k2 := 0) (z2 := 0) (v := none) rfl rfl rfl rfl rfl rfl rfl (Nat.le_of_ble_eq_true rfl) rfl ?_ ?_
          · refine iv_Gm 10 (pc2 := 15) (lv2 := [(0, .ref 2), (1, .int 9), (2, .int 0)]) (st2 := []) (w2 := (iv_wd (iv_uA (iv_uA (iv_cA iv_Az 4 31 0 2048 64) 30 2 1) 4 9 0) (iv_uF iv_Fz 3401 2) iv_Bz)) rfl ?_
            rw [iv_uA_id (A := (iv_uA (iv_cA iv_Az 4 31 0 2048 64) 30 2 1)) (r := 4) (j := 9) (v := 0) rfl]
            exact iv_Gret rfl rfl rfl
          show iv_G _ _ _ _ 40 [(1, .int 9), (0, .ref 29)] [] (iv_wd (iv_uA (iv_cA iv_Az 4 31 0 2048 64) 30 2 1) (iv_uF iv_Fz 3401 2) iv_Bz) true _ _ _
          refine iv_Gm 13 (pc2 := 22) (lv2 := [(1, .int 10), (0, .ref 29)]) (st2 := [.int 10, .ref 2]) (w2 := (iv_wd (iv_uA (iv_cA iv_Az 4 31 0 2048 64) 30 2 1) (iv_uF iv_Fz 3401 2) iv_Bz)) rfl ?_
          refine iv_Gcall (ν := 66) (c := 2) (as := [.ref 2, .int 10]) (rest := []) (w2 := (iv_wd (iv_uA (iv_cA iv_Az 4 31 0 2048 64) 30 2 1) (iv_uF iv_Fz 3401 2) iv_Bz)) (tg2 := true) (k2 := 0) (z2 := 0) (v := (some (.int 0))) rfl rfl rfl rfl rfl rfl rfl (Nat.le_of_ble_eq_true rfl) rfl ?_ ?_
          · exact ⟨12, rfl⟩
          show iv_G _ _ _ _ 25 [(1, .int 10), (0, .ref 29)] [.int 0] (iv_wd (iv_uA (iv_cA iv_Az 4 31 0 2048 64) 30 2 1) (iv_uF iv_Fz 3401 2) iv_Bz) true _ _ _
          refine iv_Gm 6 (pc2 := 37) (lv2 := [(1, .int 10), (0, .ref 29)]) (st2 := [.int 0, .int 10, .ref 2]) (w2 := (iv_wd (iv_uA (iv_cA iv_Az 4 31 0 2048 64) 30 2 1) (iv_uF iv_Fz 3401 2) iv_Bz)) rfl ?_
          refine iv_Gcall (ν := 67) (c := 3) (as := [.ref 2, .int 10, .int 0]) (rest := []) (w2 := (iv_wd (iv_uA (iv_cA iv_Az 4 31 0 2048 64) 30 2 1) (iv_uF iv_Fz 3401 2) iv_Bz)) (tg2 := true) (k2 := 0) (z2 := 0) (v := none) rfl rfl rfl rfl rfl rfl rfl (Nat.le_of_ble_eq_true rfl) rfl ?_ ?_
          · refine iv_Gm 10 (pc2 := 15) (lv2 := [(0, .ref 2), (1, .int 10), (2, .int 0)]) (st2 := []) (w2 := (iv_wd (iv_uA (iv_uA (iv_cA iv_Az 4 31 0 2048 64) 30 2 1) 4 10 0) (iv_uF iv_Fz 3401 2) iv_Bz)) rfl ?_
            rw [iv_uA_id (A := (iv_uA (iv_cA iv_Az 4 31 0 2048 64) 30 2 1)) (r := 4) (j := 10) (v := 0) rfl]
            exact iv_Gret rfl rfl rfl
          show iv_G _ _ _ _ 40 [(1, .int 10), (0, .ref 29)] [] (iv_wd (iv_uA (iv_cA iv_Az 4 31 0 2048 64) 30 2 1) (iv_uF iv_Fz 3401 2) iv_Bz) true _ _ _
          refine iv_Gm 13 (pc2 := 22) (lv2 := [(1, .int 11), (0, .ref 29)]) (st2 := [.int 11, .ref 2]) (w2 := (iv_wd (iv_uA (iv_cA iv_Az 4 31 0 2048 64) 30 2 1) (iv_uF iv_Fz 3401 2) iv_Bz)) rfl ?_
          refine iv_Gcall (ν := 66) (c := 2) (as := [.ref 2, .int 11]) (rest := []) (w2 := (iv_wd (iv_uA (iv_cA iv_Az 4 31 0 2048 64) 30 2 1) (iv_uF iv_Fz 3401 2) iv_Bz)) (tg2 := true) (k2 := 0) (z2 := 0) (v := (some (.int 0))) rfl rfl rfl rfl rfl rfl rfl (Nat.le_of_ble_eq_true rfl) rfl ?_ ?_
          · exact ⟨12, rfl⟩
          show iv_G _ _ _ _ 25 [(1, .int 11), (0, .ref 29)] [.int 0] (iv_wd (iv_uA (iv_cA iv_Az 4 31 0 2048 64) 30 2 1) (iv_uF iv_Fz 3401 2) iv_Bz) true _ _ _
          refine iv_Gm 6 (pc2 := 37) (lv2 := [(1, .int 11), (0, .ref 29)]) (st2 := [.int 0, .int 11, .ref 2]) (w2 := (iv_wd (iv_uA (iv_cA iv_Az 4 31 0 2048 64) 30 2 1) (iv_uF iv_Fz 3401 2) iv_Bz)) rfl ?_
          refine iv_Gcall (ν := 67) (c := 3) (as := [.ref 2, .int 11, .int 0]) (rest := []) (w2 := (iv_wd (iv_uA (iv_cA iv_Az 4 31 0 2048 64) 30 2 1) (iv_uF iv_Fz 3401 2) iv_Bz)) (tg2 := true) (k2 := 0) (z2 := 0) (v := none) rfl rfl rfl rfl rfl rfl rfl (Nat.le_of_ble_eq_true rfl) rfl ?_ ?_
          · refine iv_Gm 10 (pc2 := 15) (lv2 := [(0, .ref 2), (1, .int 11), (2, .int 0)]) (st2 := []) (w2 := (iv_wd (iv_uA (iv_uA (iv_cA iv_Az 4 31 0 2048 64) 30 2 1) 4 11 0) (iv_uF iv_Fz 3401 2) iv_Bz)) rfl ?_
            rw [iv_uA_id (A := (iv_uA (iv_cA iv_Az 4 31 0 2048 64) 30 2 1)) (r := 4) (j := 11) (v := 0) rfl]
            exact iv_Gret rfl rfl rfl
          show iv_G _ _ _ _ 40 [(1, .int 11), (0, .ref 29)] [] (iv_wd (iv_uA (iv_cA iv_Az 4 31 0 2048 64) 30 2 1) (iv_uF iv_Fz 3401 2) iv_Bz) true _ _ _
          refine iv_Gm 13 (pc2 := 22) (lv2 := [(1, .int 12), (0, .ref 29)]) (st2 := [.int 12, .ref 2]) (w2 := (iv_wd (iv_uA (iv_cA iv_Az 4 31 0 2048 64) 30 2 1) (iv_uF iv_Fz 3401 2) iv_Bz)) rfl ?_
          refine iv_Gcall (ν := 66) (c := 2) (as := [.ref 2, .int 12]) (rest := []) (w2 := (iv_wd (iv_uA (iv_cA iv_Az 4 31 0 2048 64) 30 2 1) (iv_uF iv_Fz 3401 2) iv_Bz)) (tg2 := true) (k2 := 0) (z2 := 0) (v := (some (.int 0))) rfl rfl rfl rfl rfl rfl rfl (Nat.le_of_ble_eq_true rfl) rfl ?_ ?_
          · exact ⟨12, rfl⟩
          show iv_G _ _ _ _ 25 [(1, .int 12), (0, .ref 29)] [.int 0] (iv_wd (iv_uA (iv_cA iv_Az 4 31 0 2048 64) 30 2 1) (iv_uF iv_Fz 3401 2) iv_Bz) true _ _ _
          refine iv_Gm 6 (pc2 := 37) (lv2 := [(1, .int 12), (0, .ref 29)]) (st2 := [.int 0, .int 12, .ref 2]) (w2 := (iv_wd (iv_uA (iv_cA iv_Az 4 31 0 2048 64) 30 2 1) (iv_uF iv_Fz 3401 2) iv_Bz)) rfl ?_
          refine iv_Gcall (ν := 67) (c := 3) (as := [.ref 2, .int 12, .int 0]) (rest := []) (w2 := (iv_wd (iv_uA (iv_cA iv_Az 4 31 0 2048 64) 30 2 1) (iv_uF iv_Fz 3401 2) iv_Bz)) (tg2 := true) (k2 := 0) (z2 := 0) (v := none) rfl rfl rfl rfl rfl rfl rfl (Nat.le_of_ble_eq_true rfl) rfl ?_ ?_
          · refine iv_Gm 10 (pc2 := 15) (lv2 := [(0, .ref 2), (1, .int 12), (2, .int 0)]) (st2 := []) (w2 := (iv_wd (iv_uA (iv_uA (iv_cA iv_Az 4 31 0 2048 64) 30 2 1) 4 12 0) (iv_uF iv_Fz 3401 2) iv_Bz)) rfl ?_
            rw [iv_uA_id (A := (iv_uA (iv_cA iv_Az 4 31 0 2048 64) 30 2 1)) (r := 4) (j := 12) (v := 0) rfl]
            exact iv_Gret rfl rfl rfl
          show iv_G _ _ _ _ 40 [(1, .int 12), (0, .ref 29)] [] (iv_wd (iv_uA (iv_cA iv_Az 4 31 0 2048 64) 30 2 1) (iv_uF iv_Fz 3401 2) iv_Bz) true _ _ _
          refine iv_Gm 13 (pc2 := 22) (lv2 := [(1, .int 13), (0, .ref 29)]) (st2 := [.int 13, .ref 2]) (w2 := (iv_wd (iv_uA (iv_cA iv_Az 4 31 0 2048 64) 30 2 1) (iv_uF iv_Fz 3401 2) iv_Bz)) rfl ?_
          refine iv_Gcall (ν := 66) (c := 2) (as := [.ref 2, .int 13]) (rest := []) (w2 := (iv_wd (iv_uA (iv_cA iv_Az 4 31 0 2048 64) 30 2 1) (iv_uF iv_Fz 3401 2) iv_Bz)) (tg2 := true) (k2 := 0) (z2 := 0) (v := (some (.int 0))) rfl rfl rfl rfl rfl rfl rfl (Nat.le_of_ble_eq_true rfl) rfl ?_ ?_
          · exact ⟨12, rfl⟩
          show iv_G _ _ _ _ 25 [(1, .int 13), (0, .ref 29)] [.int 0] (iv_wd (iv_uA (iv_cA iv_Az 4 31 0 2048 64) 30 2 1) (iv_uF iv_Fz 3401 2) iv_Bz) true _ _ _
          refine iv_Gm 6 (pc2 := 37) (lv2 := [(1, .int 13), (0, .ref 29)]) (st2 := [.int 0, .int 13, .ref 2]) (w2 := (iv_wd (iv_uA (iv_cA iv_Az 4 31 0 2048 64) 30 2 1) (iv_uF iv_Fz 3401 2) iv_Bz)) rfl ?_
          refine iv_Gcall (ν := 67) (c := 3) (as := [.ref 2, .int 13, .int 0]) (rest := []) (w2 := (iv_wd (iv_uA (iv_cA iv_Az 4 31 0 2048 64) 30 2 1) (iv_uF iv_Fz 3401 2) iv_Bz)) (tg2 := true) (k2 := 0) (z2 := 0) (v := none) rfl rfl rfl rfl rfl rfl rfl (Nat.le_of_ble_eq_true rfl) rfl ?_ ?_
          · refine iv_Gm 10 (pc2 := 15) (lv2 := [(0, .ref 2), (1, .int 13), (2, .int 0)]) (st2 := []) (w2 := (iv_wd (iv_uA (iv_uA (iv_cA iv_Az 4 31 0 2048 64) 30 2 1) 4 13 0) (iv_uF iv_Fz 3401 2) iv_Bz)) rfl ?_
            rw [iv_uA_id (A := (iv_uA (iv_cA iv_Az 4 31 0 2048 64) 30 2 1)) (r := 4) (j := 13) (v := 0) rfl]
            exact iv_Gret rfl rfl rfl
          show iv_G _ _ _ _ 40 [(1, .int 13), (0, .ref 29)] [] (iv_wd (iv_uA (iv_cA iv_Az 4 31 0 2048 64) 30 2 1) (iv_uF iv_Fz 3401 2) iv_Bz) true _ _ _
          refine iv_Gm 13 (pc2 := 22) (lv2 := [(1, .int 14), (0, .ref 29)]) (st2 := [.int 14, .ref 2]) (w2 := (iv_wd (iv_uA (iv_cA iv_Az 4 31 0 2048 64) 30 2 1) (iv_uF iv_Fz 3401 2) iv_Bz)) rfl ?_
          refine iv_Gcall (ν := 66) (c := 2) (as := [.ref 2, .int 14]) (rest := []) (w2 := (iv_wd (iv_uA (iv_cA iv_Az 4 31 0 2048 64) 30 2 1) (iv_uF iv_Fz 3401 2) iv_Bz)) (tg2 := true) (k2 := 0) (z2 := 0) (v := (some (.int 0))) rfl rfl rfl rfl rfl rfl rfl (Nat.le_of_ble_eq_true rfl) rfl ?_ ?_
          · exact ⟨12, rfl⟩
          show iv_G _ _ _ _ 25 [(1, .int 14), (0, .ref 29)] [.int 0] (iv_wd (iv_uA (iv_cA iv_Az 4 31 0 2048 64) 30 2 1) (iv_uF iv_Fz 3401 2) iv_Bz) true _ _ _
          refine iv_Gm 6 (pc2 := 37) (lv2 := [(1, .int 14), (0, .ref 29)]) (st2 := [.int 0, .int 14, .ref 2]) (w2 := (iv_wd (iv_uA (iv_cA iv_Az 4 31 0 2048 64) 30 2 1) (iv_uF iv_Fz 3401 2) iv_Bz)) rfl ?_
          refine iv_Gcall (ν := 67) (c := 3) (as := [.ref 2, .int 14, .int 0]) (rest := []) (w2 := (iv_wd (iv_uA (iv_cA iv_Az 4 31 0 2048 64) 30 2 1) (iv_uF iv_Fz 3401 2) iv_Bz)) (tg2 := true) (k2 := 0) (z2 := 0) (v := none) rfl rfl rfl rfl rfl rfl rfl (Nat.le_of_ble_eq_true rfl) rfl ?_ ?_
          · refine iv_Gm 10 (pc2 := 15) (lv2 := [(0, .ref 2), (1, .int 14), (2, .int 0)]) (st2 := []) (w2 := (iv_wd (iv_uA (iv_uA (iv_cA iv_Az 4 31 0 2048 64) 30 2 1) 4 14 0) (iv_uF iv_Fz 3401 2) iv_Bz)) rfl ?_
            rw [iv_uA_id (A := (iv_uA (iv_cA iv_Az 4 31 0 2048 64) 30 2 1)) (r := 4) (j := 14) (v := 0) rfl]
            exact iv_Gret rfl rfl rfl
          show iv_G _ _ _ _ 40 [(1, .int 14), (0, .ref 29)] [] (iv_wd (iv_uA (iv_cA iv_Az 4 31 0 2048 64) 30 2 1) (iv_uF iv_Fz 3401 2) iv_Bz) true _ _ _
          refine iv_Gm 13 (pc2 := 22) (lv2 := [(1, .int 15), (0, .ref 29)]) (st2 := [.int 15, .ref 2]) (w2 := (iv_wd (iv_uA (iv_cA iv_Az 4 31 0 2048 64) 30 2 1) (iv_uF iv_Fz 3401 2) iv_Bz)) rfl ?_
          refine iv_Gcall (ν := 66) (c := 2) (as := [.ref 2, .int 15]) (rest := []) (w2 := (iv_wd (iv_uA (iv_cA iv_Az 4 31 0 2048 64) 30 2 1) (iv_uF iv_Fz 3401 2) iv_Bz)) (tg2 := true) (k2 := 0) (z2 := 0) (v := (some (.int 0))) rfl rfl rfl rfl rfl rfl rfl (Nat.le_of_ble_eq_true rfl) rfl ?_ ?_
          · exact ⟨12, rfl⟩
          show iv_G _ _ _ _ 25 [(1, .int 15), (0, .ref 29)] [.int 0] (iv_wd (iv_uA (iv_cA iv_Az 4 31 0 2048 64) 30 2 1) (iv_uF iv_Fz 3401 2) iv_Bz) true _ _ _
          refine iv_Gm 6 (pc2 := 37) (lv2 := [(1, .int 15), (0, .ref 29)]) (st2 := [.int 0, .int 15, .ref 2]) (w2 := (iv_wd (iv_uA (iv_cA iv_Az 4 31 0 2048 64) 30 2 1) (iv_uF iv_Fz 3401 2) iv_Bz)) rfl ?_
          refine iv_Gcall (ν := 67) (c := 3) (as := [.ref 2, .int 15, .int 0]) (rest := []) (w2 := (iv_wd (iv_uA (iv_cA iv_Az 4 31 0 2048 64) 30 2 1) (iv_uF iv_Fz 3401 2) iv_Bz)) (tg2 := true) (k2 := 0) (z2 := 0) (v := none) rfl rfl rfl rfl rfl rfl rfl (Nat.le_of_ble_eq_true rfl) rfl ?_ ?_
          · refine iv_Gm 10 (pc2 := 15) (lv2 := [(0, .ref 2), (1, .int 15), (2, .int 0)]) (st2 := []) (w2 := (iv_wd (iv_uA (iv_uA (iv_cA iv_Az 4 31 0 2048 64) 30 2 1) 4 15 0) (iv_uF iv_Fz 3401 2) iv_Bz)) rfl ?_
            rw [iv_uA_id (A := (iv_uA (iv_cA iv_Az 4 31 0 2048 64) 30 2 1)) (r := 4) (j := 15) (v := 0) rfl]
            exact iv_Gret rfl rfl rfl
          show iv_G _ _ _ _ 40 [(1, .int 15), (0, .ref 29)] [] (iv_wd (iv_uA (iv_cA iv_Az 4 31 0 2048 64) 30 2 1) (iv_uF iv_Fz 3401 2) iv_Bz) true _ _ _
          refine iv_Gm 13 (pc2 := 22) (lv2 := [(1, .int 16), (0, .ref 29)]) (st2 := [.int 16, .ref 2]) (w2 := (iv_wd (iv_uA (iv_cA iv_Az 4 31 0 2048 64) 30 2 1) (iv_uF iv_Fz 3401 2) iv_Bz)) rfl ?_
          refine iv_Gcall (ν := 66) (c := 2) (as := [.ref 2, .int 16]) (rest := []) (w2 := (iv_wd (iv_uA (iv_cA iv_Az 4 31 0 2048 64) 30 2 1) (iv_uF iv_Fz 3401 2) iv_Bz)) (tg2 := true) (k2 := 0) (z2 := 0) (v := (some (.int 0))) rfl rfl rfl rfl rfl rfl rfl (Nat.le_of_ble_eq_true rfl) rfl ?_ ?_
          · exact ⟨12, rfl⟩
          show iv_G _ _ _ _ 25 [(1, .int 16), (0, .ref 29)] [.int 0] (iv_wd (iv_uA (iv_cA iv_Az 4 31 0 2048 64) 30 2 1) (iv_uF iv_Fz 3401 2) iv_Bz) true _ _ _
          refine iv_Gm 6 (pc2 := 37) (lv2 := [(1, .int 16), (0, .ref 29)]) (st2 := [.int 0, .int 16, .ref 2]) (w2 := (iv_wd (iv_uA (iv_cA iv_Az 4 31 0 2048 64) 30 2 1) (iv_uF iv_Fz 3401 2) iv_Bz)) rfl ?_
          refine iv_Gcall (ν := 67) (c := 3) (as := [.ref 2, .int 16, .int 0]) (rest := []) (w2 := (iv_wd (iv_uA (iv_cA iv_Az 4 31 0 2048 64) 30 2 1) (iv_uF iv_Fz 3401 2) iv_Bz)) (tg2 := true) (k2 := 0) (z2 := 0) (v := none) rfl rfl rfl rfl rfl rfl rfl (Nat.le_of_ble_eq_true rfl) rfl ?_ ?_
          · refine iv_Gm 10 (pc2 := 15) (lv2 := [(0, .ref 2), (1, .int 16), (2, .int 0)]) (st2 := []) (w2 := (iv_wd (iv_uA (iv_uA (iv_cA iv_Az 4 31 0 2048 64) 30 2 1) 4 16 0) (iv_uF iv_Fz 3401 2) iv_Bz)) rfl ?_
            rw [iv_uA_id (A := (iv_uA (iv_cA iv_Az 4 31 0 2048 64) 30 2 1)) (r := 4) (j := 16) (v := 0) rfl]
            exact iv_Gret rfl rfl rfl
          show iv_G _ _ _ _ 40 [(1, .int 16), (0, .ref 29)] [] (iv_wd (iv_uA (iv_cA iv_Az 4 31 0 2048 64) 30 2 1) (iv_uF iv_Fz 3401 2) iv_Bz) true _ _ _
          refine iv_Gm 13 (pc2 := 22) (lv2 := [(1, .int 17), (0, .ref 29)]) (st2 := [.int 17, .ref 2]) (w2 := (iv_wd (iv_uA (iv_cA iv_Az 4 31 0 2048 64) 30 2 1) (iv_uF iv_Fz 3401 2) iv_Bz)) rfl ?_
          refine iv_Gcall (ν := 66) (c := 2) (as := [.ref 2, .int 17]) (rest := []) (w2 := (iv_wd (iv_uA (iv_cA iv_Az 4 31 0 2048 64) 30 2 1) (iv_uF iv_Fz 3401 2) iv_Bz)) (tg2 := true) (k2 := 0) (z2 := 0) (v := (some (.int 0))) rfl rfl rfl rfl rfl rfl rfl (Nat.le_of_ble_eq_true rfl) rfl ?_ ?_
          · exact ⟨12, rfl⟩
          show iv_G _ _ _ _ 25 [(1, .int 17), (0, .ref 29)] [.int 0] (iv_wd (iv_uA (iv_cA iv_Az 4 31 0 2048 64) 30 2 1) (iv_uF iv_Fz 3401 2) iv_Bz) true _ _ _
          refine iv_Gm 6 (pc2 := 37) (lv2 := [(1, .int 17), (0, .ref 29)]) (st2 := [.int 0, .int 17, .ref 2]) (w2 := (iv_wd (iv_uA (iv_cA iv_Az 4 31 0 2048 64) 30 2 1) (iv_uF iv_Fz 3401 2) iv_Bz)) rfl ?_
          refine iv_Gcall (ν := 67) (c := 3) (as := [.ref 2, .int 17, .int 0]) (rest := []) (w2 := (iv_wd (iv_uA (iv_cA iv_Az 4 31 0 2048 64) 30 2 1) (iv_uF iv_Fz 3401 2) iv_Bz)) (tg2 := true) (k2 := 0) (z2 := 0) (v := none) rfl rfl rfl rfl rfl rfl rfl (Nat.le_of_ble_eq_true rfl) rfl ?_ ?_
          · refine iv_Gm 10 (pc2 := 15) (lv2 := [(0, .ref 2), (1, .int 17), (2, .int 0)]) (st2 := []) (w2 := (iv_wd (iv_uA (iv_uA (iv_cA iv_Az 4 31 0 2048 64) 30 2 1) 4 17 0) (iv_uF iv_Fz 3401 2) iv_Bz)) rfl ?_
            rw [iv_uA_id (A := (iv_uA (iv_cA iv_Az 4 31 0 2048 64) 30 2 1)) (r := 4) (j := 17) (v := 0) rfl]
            exact iv_Gret rfl rfl rfl
          show iv_G _ _ _ _ 40 [(1, .int 17), (0, .ref 29)] [] (iv_wd (iv_uA (iv_cA iv_Az 4 31 0 2048 64) 30 2 1) (iv_uF iv_Fz 3401 2) iv_Bz) true _ _ _
          refine iv_Gm 13 (pc2 := 22) (lv2 := [(1, .int 18), (0, .ref 29)]) (st2 := [.int 18, .ref 2]) (w2 := (iv_wd (iv_uA (iv_cA iv_Az 4 31 0 2048 64) 30 2 1) (iv_uF iv_Fz 3401 2) iv_Bz)) rfl ?_
          refine iv_Gcall (ν := 66) (c := 2) (as := [.ref 2, .int 18]) (rest := []) (w2 := (iv_wd (iv_uA (iv_cA iv_Az 4 31 0 2048 64) 30 2 1) (iv_uF iv_Fz 3401 2) iv_Bz)) (tg2 := true) (k2 := 0) (z2 := 0) (v := (some (.int 0))) rfl rfl rfl rfl rfl rfl rfl (Nat.le_of_ble_eq_true rfl) rfl ?_ ?_
          · exact ⟨12, rfl⟩
          show iv_G _ _ _ _ 25 [(1, .int 18), (0, .ref 29)] [.int 0] (iv_wd (iv_uA (iv_cA iv_Az 4 31 0 2048 64) 30 2 1) (iv_uF iv_Fz 3401 2) iv_Bz) true _ _ _
          refine iv_Gm 6 (pc2 := 37) (lv2 := [(1, .int 18), (0, .ref 29)]) (st2 := [.int 0, .int 18, .ref 2]) (w2 := (iv_wd (iv_uA (iv_cA iv_Az 4 31 0 2048 64) 30 2 1) (iv_uF iv_Fz 3401 2) iv_Bz)) rfl ?_
          refine iv_Gcall (ν := 67) (c := 3) (as := [.ref 2, .int 18, .int 0]) (rest := []) (w2 := (iv_wd (iv_uA (iv_cA iv_Az 4 31 0 2048 64) 30 2 1) (iv_uF iv_Fz 3401 2) iv_Bz)) (tg2 := true) (k2 := 0) (z2 := 0) (v := none) rfl rfl rfl rfl rfl rfl rfl (Nat.le_of_ble_eq_true rfl) rfl ?_ ?_
          · refine iv_Gm 10 (pc2 := 15) (lv2 := [(0, .ref 2), (1, .int 18), (2, .int 0)]) (st2 := []) (w2 := (iv_wd (iv_uA (iv_uA (iv_cA iv_Az 4 31 0 2048 64) 30 2 1) 4 18 0) (iv_uF iv_Fz 3401 2) iv_Bz)) rfl ?_
            rw [iv_uA_id (A := (iv_uA (iv_cA iv_Az 4 31 0 2048 64) 30 2 1)) (r := 4) (j := 18) (v := 0) rfl]
            exact iv_Gret rfl rfl rfl
          show iv_G _ _ _ _ 40 [(1, .int 18), (0, .ref 29)] [] (iv_wd (iv_uA (iv_cA iv_Az 4 31 0 2048 64) 30 2 1) (iv_uF iv_Fz 3401 2) iv_Bz) true _ _ _
          refine iv_Gm 13 (pc2 := 22) (lv2 := [(1, .int 19), (0, .ref 29)]) (st2 := [.int 19, .ref 2]) (w2 := (iv_wd (iv_uA (iv_cA iv_Az 4 31 0 2048 64) 30 2 1) (iv_uF iv_Fz 3401 2) iv_Bz)) rfl ?_
          refine iv_Gcall (ν := 66) (c := 2) (as := [.ref 2, .int 19]) (rest := []) (w2 := (iv_wd (iv_uA (iv_cA iv_Az 4 31 0 2048 64) 30 2 1) (iv_uF iv_Fz 3401 2) iv_Bz)) (tg2 := true) (k2 := 0) (z2 := 0) (v := (some (.int 0))) rfl rfl rfl rfl rfl rfl rfl (Nat.le_of_ble_eq_true rfl) rfl ?_ ?_
          · exact ⟨12, rfl⟩
          show iv_G _ _ _ _ 25 [(1, .int 19), (0, .ref 29)] [.int 0] (iv_wd (iv_uA (iv_cA iv_Az 4 31 0 2048 64) 30 2 1) (iv_uF iv_Fz 3401 2) iv_Bz) true _ _ _
          refine iv_Gm 6 (pc2 := 37) (lv2 := [(1, .int 19), (0, .ref 29)]) (st2 := [.int 0, .int 19, .ref 2]) (w2 := (iv_wd (iv_uA (iv_cA iv_Az 4 31 0 2048 64) 30 2 1) (iv_uF iv_Fz 3401 2) iv_Bz)) rfl ?_
          refine iv_Gcall (ν := 67) (c := 3) (as := [.ref 2, .int 19, .int 0]) (rest := []) (w2 := (iv_wd (iv_uA (iv_cA iv_Az 4 31 0 2048 64) 30 2 1) (iv_uF iv_Fz 3401 2) iv_Bz)) (tg2 := true) (k2 := 0) (z2 := 0) (v := none) rfl rfl rfl rfl rfl rfl rfl (Nat.le_of_ble_eq_true rfl) rfl ?_ ?_
          · refine iv_Gm 10 (pc2 := 15) (lv2 := [(0, .ref 2), (1, .int 19), (2, .int 0)]) (st2 := []) (w2 := (iv_wd (iv_uA (iv_uA (iv_cA iv_Az 4 31 0 2048 64) 30 2 1) 4 19 0) (iv_uF iv_Fz 3401 2) iv_Bz)) rfl ?_
            rw [iv_uA_id (A := (iv_uA (iv_cA iv_Az 4 31 0 2048 64) 30 2 1)) (r := 4) (j := 19) (v := 0) rfl]
            exact iv_Gret rfl rfl rfl
          show iv_G _ _ _ _ 40 [(1, .int 19), (0, .ref 29)] [] (iv_wd (iv_uA (iv_cA iv_Az 4 31 0 2048 64) 30 2 1) (iv_uF iv_Fz 3401 2) iv_Bz) true _ _ _
          refine iv_Gm 13 (pc2 := 22) (lv2 := [(1, .int 20), (0, .ref 29)]) (st2 := [.int 20, .ref 2]) (w2 := (iv_wd (iv_uA (iv_cA iv_Az 4 31 0 2048 64) 30 2 1) (iv_uF iv_Fz 3401 2) iv_Bz)) rfl ?_
          refine iv_Gcall (ν := 66) (c := 2) (as := [.ref 2, .int 20]) (rest := []) (w2 := (iv_wd (iv_uA (iv_cA iv_Az 4 31 0 2048 64) 30 2 1) (iv_uF iv_Fz 3401 2) iv_Bz)) (tg2 := true) (k2 := 0) (z2 := 0) (v := (some (.int 0))) rfl rfl rfl rfl rfl rfl rfl (Nat.le_of_ble_eq_true rfl) rfl ?_ ?_
          · exact ⟨12, rfl⟩
          show iv_G _ _ _ _ 25 [(1, .int 20), (0, .ref 29)] [.int 0] (iv_wd (iv_uA (iv_cA iv_Az 4 31 0 2048 64) 30 2 1) (iv_uF iv_Fz 3401 2) iv_Bz) true _ _ _
          refine iv_Gm 6 (pc2 := 37) (lv2 := [(1, .int 20), (0, .ref 29)]) (st2 := [.int 0, .int 20, .ref 2]) (w2 := (iv_wd (iv_uA (iv_cA iv_Az 4 31 0 2048 64) 30 2 1) (iv_uF iv_Fz 3401 2) iv_Bz)) rfl ?_
          refine iv_Gcall (ν := 67) (c := 3) (as := [.ref 2, .int 20, .int 0]) (rest := []) (w2 := (iv_wd (iv_uA (iv_cA iv_Az 4 31 0 2048 64) 30 2 1) (iv_uF iv_Fz 3401 2) iv_Bz)) (tg2 := true) (k2 := 0) (z2 := 0) (v := none) rfl rfl rfl rfl rfl rfl rfl (Nat.le_of_ble_eq_true rfl) rfl ?_ ?_
          · refine iv_Gm 10 (pc2 := 15) (lv2 := [(0, .ref 2), (1, .int 20), (2, .int 0)]) (st2 := []) (w2 := (iv_wd (iv_uA (iv_uA (iv_cA iv_Az 4 31 0 2048 64) 30 2 1) 4 20 0) (iv_uF iv_Fz 3401 2) iv_Bz)) rfl ?_
            rw [iv_uA_id (A := (iv_uA (iv_cA iv_Az 4 31 0 2048 64) 30 2 1)) (r := 4) (j := 20) (v := 0) rfl]
            exact iv_Gret rfl rfl rfl
          show iv_G _ _ _ _ 40 [(1, .int 20), (0, .ref 29)] [] (iv_wd (iv_uA (iv_cA iv_Az 4 31 0 2048 64) 30 2 1) (iv_uF iv_Fz 3401 2) iv_Bz) true _ _ _
          refine iv_Gm 13 (pc2 := 22) (lv2 := [(1, .int 21), (0, .ref 29)]) (st2 := [.int 21, .ref 2]) (w2 := (iv_wd (iv_uA (iv_cA iv_Az 4 31 0 2048 64) 30 2 1) (iv_uF iv_Fz 3401 2) iv_Bz)) rfl ?_
          refine iv_Gcall (ν := 66) (c := 2) (as := [.ref 2, .int 21]) (rest := []) (w2 := (iv_wd (iv_uA (iv_cA iv_Az 4 31 0 2048 64) 30 2 1) (iv_uF iv_Fz 3401 2) iv_Bz)) (tg2 := true) (k2 := 0) (z2 := 0) (v := (some (.int 0))) rfl rfl rfl rfl rfl rfl rfl (Nat.le_of_ble_eq_true rfl) rfl ?_ ?_
          · exact ⟨12, rfl⟩
          show iv_G _ _ _ _ 25 [(1, .int 21), (0, .ref 29)] [.int 0] (iv_wd (iv_uA (iv_cA iv_Az 4 31 0 2048 64) 30 2 1) (iv_uF iv_Fz 3401 2) iv_Bz) true _ _ _
          refine iv_Gm 6 (pc2 := 37) (lv2 := [(1, .int 21), (0, .ref 29)]) (st2 := [.int 0, .int 21, .ref 2]) (w2 := (iv_wd (iv_uA (iv_cA iv_Az 4 31 0 2048 64) 30 2 1) (iv_uF iv_Fz 3401 2) iv_Bz)) rfl ?_
          refine iv_Gcall (ν := 67) (c := 3) (as := [.ref 2, .int 21, .int 0]) (rest := []) (w2 := (iv_wd (iv_uA (iv_cA iv_Az 4 31 0 2048 64) 30 2 1) (iv_uF iv_Fz 3401 2) iv_Bz)) (tg2 := true) (k2 := 0) (z2 := 0) (v := none) rfl rfl rfl rfl rfl rfl rfl (Nat.le_of_ble_eq_true rfl) rfl ?_ ?_
          · refine iv_Gm 10 (pc2 := 15) (lv2 := [(0, .ref 2), (1, .int 21), (2, .int 0)]) (st2 := []) (w2 := (iv_wd (iv_uA (iv_uA (iv_cA iv_Az 4 31 0 2048 64) 30 2 1) 4 21 0) (iv_uF iv_Fz 3401 2) iv_Bz)) rfl ?_
            rw [iv_uA_id (A := (iv_uA (iv_cA iv_Az 4 31 0 2048 64) 30 2 1)) (r := 4) (j := 21) (v := 0) rfl]
            exact iv_Gret rfl rfl rfl
          show iv_G _ _ _ _ 40 [(1, .int 21), (0, .ref 29)] [] (iv_wd (iv_uA (iv_cA iv_Az 4 31 0 2048 64) 30 2 1) (iv_uF iv_Fz 3401 2) iv_Bz) true _ _ _
          refine iv_Gm 13 (pc2 := 22) (lv2 := [(1, .int 22), (0, .ref 29)]) (st2 := [.int 22, .ref 2]) (w2 := (iv_wd (iv_uA (iv_cA iv_Az 4 31 0 2048 64) 30 2 1) (iv_uF iv_Fz 3401 2) iv_Bz)) rfl ?_
          refine iv_Gcall (ν := 66) (c := 2) (as := [.ref 2, .int 22]) (rest := []) (w2 := (iv_wd (iv_uA (iv_cA iv_Az 4 31 0 2048 64) 30 2 1) (iv_uF iv_Fz 3401 2) iv_Bz)) (tg2 := true) (k2 := 0) (z2 := 0) (v := (some (.int 0))) rfl rfl rfl rfl rfl rfl rfl (Nat.le_of_ble_eq_true rfl) rfl ?_ ?_
          · exact ⟨12, rfl⟩
          show iv_G _ _ _ _ 25 [(1, .int 22), (0, .ref 29)] [.int 0] (iv_wd (iv_uA (iv_cA iv_Az 4 31 0 2048 64) 30 2 1) (iv_uF iv_Fz 3401 2) iv_Bz) true _ _ _
          refine iv_Gm 6 (pc2 := 37) (lv2 := [(1, .int 22), (0, .ref 29)]) (st2 := [.int 0, .int 22, .ref 2]) (w2 := (iv_wd (iv_uA (iv_cA iv_Az 4 31 0 2048 64) 30 2 1) (iv_uF iv_Fz 3401 2) iv_Bz)) rfl ?_
          refine iv_Gcall (ν := 67) (c := 3) (as := [.ref 2, .int 22, .int 0]) (rest := []) (w2 := (iv_wd (iv_uA (iv_cA iv_Az 4 31 0 2048 64) 30 2 1) (iv_uF iv_Fz 3401 2) iv_Bz)) (tg2 := true) (k2 := 0) (z2 := 0) (v := none) rfl rfl rfl rfl rfl rfl rfl (Nat.le_of_ble_eq_true rfl) rfl ?_ ?_
          · refine iv_Gm 10 (pc2 := 15) (lv2 := [(0, .ref 2), (1, .int 22), (2, .int 0)]) (st2 := []) (w2 := (iv_wd (iv_uA (iv_uA (iv_cA iv_Az 4 31 0 2048 64) 30 2 1) 4 22 0) (iv_uF iv_Fz 3401 2) iv_Bz)) rfl ?_
            rw [iv_uA_id (A := (iv_uA (iv_cA iv_Az 4 31 0 2048 64) 30 2 1)) (r := 4) (j := 22) (v := 0) rfl]
            exact iv_Gret rfl rfl rfl
          show iv_G _ _ _ _ 40 [(1, .int 22), (0, .ref 29)] [] (iv_wd (iv_uA (iv_cA iv_Az 4 31 0 2048 64) 30 2 1) (iv_uF iv_Fz 3401 2) iv_Bz) true _ _ _
          refine iv_Gm 13 (pc2 := 22) (lv2 := [(1, .int 23), (0, .ref 29)]) (st2 := [.int 23, .ref 2]) (w2 := (iv_wd (iv_uA (iv_cA iv_Az 4 31 0 2048 64) 30 2 1) (iv_uF iv_Fz 3401 2) iv_Bz)) rfl ?_
          refine iv_Gcall (ν := 66) (c := 2) (as := [.ref 2, .int 23]) (rest := []) (w2 := (iv_wd (iv_uA (iv_cA iv_Az 4 31 0 2048 64) 30 2 1) (iv_uF iv_Fz 3401 2) iv_Bz)) (tg2 := true) (k2 := 0) (z2 := 0) (v := (some (.int 0))) rfl rfl rfl rfl rfl rfl rfl (Nat.le_of_ble_eq_true rfl) rfl ?_ ?_
          · exact ⟨12, rfl⟩
          show iv_G _ _ _ _ 25 [(1, .int 23), (0, .ref 29)] [.int 0] (iv_wd (iv_uA (iv_cA iv_Az 4 31 0 2048 64) 30 2 1) (iv_uF iv_Fz 3401 2) iv_Bz) true _ _ _
          refine iv_Gm 6 (pc2 := 37) (lv2 := [(1, .int 23), (0, .ref 29)]) (st2 := [.int 0, .int 23, .ref 2]) (w2 := (iv_wd (iv_uA (iv_cA iv_Az 4 31 0 2048 64) 30 2 1) (iv_uF iv_Fz 3401 2) iv_Bz)) rfl ?_
          refine iv_Gcall (ν := 67) (c := 3) (as := [.ref 2, .int 23, .int 0]) (rest := []) (w2 := (iv_wd (iv_uA (iv_cA iv_Az 4 31 0 2048 64) 30 2 1) (iv_uF iv_Fz 3401 2) iv_Bz)) (tg2 := true) (k2 := 0) (z2 := 0) (v := none) rfl rfl rfl rfl rfl rfl rfl (Nat.le_of_ble_eq_true rfl) rfl ?_ ?_
          · refine iv_Gm 10 (pc2 := 15) (lv2 := [(0, .ref 2), (1, .int 23), (2, .int 0)]) (st2 := []) (w2 := (iv_wd (iv_uA (iv_uA (iv_cA iv_Az 4 31 0 2048 64) 30 2 1) 4 23 0) (iv_uF iv_Fz 3401 2) iv_Bz)) rfl ?_
            rw [iv_uA_id (A := (iv_uA (iv_cA iv_Az 4 31 0 2048 64) 30 2 1)) (r := 4) (j := 23) (v := 0) rfl]
            exact iv_Gret rfl rfl rfl
          show iv_G _ _ _ _ 40 [(1, .int 23), (0, .ref 29)] [] (iv_wd (iv_uA (iv_cA iv_Az 4 31 0 2048 64) 30 2 1) (iv_uF iv_Fz 3401 2) iv_Bz) true _ _ _
          refine iv_Gm 13 (pc2 := 22) (lv2 := [(1, .int 24), (0, .ref 29)]) (st2 := [.int 24, .ref 2]) (w2 := (iv_wd (iv_uA (iv_cA iv_Az 4 31 0 2048 64) 30 2 1) (iv_uF iv_Fz 3401 2) iv_Bz)) rfl ?_
          refine iv_Gcall (ν := 66) (c := 2) (as := [.ref 2, .int 24]) (rest := []) (w2 := (iv_wd (iv_uA (iv_cA iv_Az 4 31 0 2048 64) 30 2 1) (iv_uF iv_Fz 3401 2) iv_Bz)) (tg2 := true) (k2 := 0) (z2 := 0) (v := (some (.int 0))) rfl rfl rfl rfl rfl rfl rfl (Nat.le_of_ble_eq_true rfl) rfl ?_ ?_
          · exact ⟨12, rfl⟩
          show iv_G _ _ _ _ 25 [(1, .int 24), (0, .ref 29)] [.int 0] (iv_wd (iv_uA (iv_cA iv_Az 4 31 0 2048 64) 30 2 1) (iv_uF iv_Fz 3401 2) iv_Bz) true _ _ _
          refine iv_Gm 6 (pc2 := 37) (lv2 := [(1, .int 24), (0, .ref 29)]) (st2 := [.int 0, .int 24, .ref 2]) (w2 := (iv_wd (iv_uA (iv_cA iv_Az 4 31 0 2048 64) 30 2 1) (iv_uF iv_Fz 3401 2) iv_Bz)) rfl ?_
          refine iv_Gcall (ν := 67) (c := 3) (as := [.ref 2, .int 24, .int 0]) (rest := []) (w2 := (iv_wd (iv_uA (iv_cA iv_Az 4 31 0 2048 64) 30 2 1) (iv_uF iv_Fz 3401 2) iv_Bz)) (tg2 := true) (k2 := 0) (z2 := 0) (v := none) rfl rfl rfl rfl rfl rfl rfl (Nat.le_of_ble_eq_true rfl) rfl ?_ ?_
          · refine iv_Gm 10 (pc2 := 15) (lv2 := [(0, .ref 2), (1, .int 24), (2, .int 0)]) (st2 := []) (w2 := (iv_wd (iv_uA (iv_uA (iv_cA iv_Az 4 31 0 2048 64) 30 2 1) 4 24 0) (iv_uF iv_Fz 3401 2) iv_Bz)) rfl ?_
            rw [iv_uA_id (A := (iv_uA (iv_cA iv_Az 4 31 0 2048 64) 30 2 1)) (r := 4) (j := 24) (v := 0) rfl]
            exact iv_Gret rfl rfl rfl
          show iv_G _ _ _ _ 40 [(1, .int 24), (0, .ref 29)] [] (iv_wd (iv_uA (iv_cA iv_Az 4 31 0 2048 64) 30 2 1) (iv_uF iv_Fz 3401 2) iv_Bz) true _ _ _
          refine iv_Gm 13 (pc2 := 22) (lv2 := [(1, .int 25), (0, .ref 29)]) (st2 := [.int 25, .ref 2]) (w2 := (iv_wd (iv_uA (iv_cA iv_Az 4 31 0 2048 64) 30 2 1) (iv_uF iv_Fz 3401 2) iv_Bz)) rfl ?_
          refine iv_Gcall (ν := 66) (c := 2) (as := [.ref 2, .int 25]) (rest := []) (w2 := (iv_wd (iv_uA (iv_cA iv_Az 4 31 0 2048 64) 30 2 1) (iv_uF iv_Fz 3401 2) iv_Bz)) (tg2 := true) (k2 := 0) (z2 := 0) (v := (some (.int 0))) rfl rfl rfl rfl rfl rfl rfl (Nat.le_of_ble_eq_true rfl) rfl ?_ ?_
          · exact ⟨12, rfl⟩
          show iv_G _ _ _ _ 25 [(1, .int 25), (0, .ref 29)] [.int 0] (iv_wd (iv_uA (iv_cA iv_Az 4 31 0 2048 64) 30 2 1) (iv_uF iv_Fz 3401 2) iv_Bz) true _ _ _
          refine iv_Gm 6 (pc2 := 37) (lv2 := [(1, .int 25), (0, .ref 29)]) (st2 := [.int 0, .int 25, .ref 2]) (w2 := (iv_wd (iv_uA (iv_cA iv_Az 4 31 0 2048 64) 30 2 1) (iv_uF iv_Fz 3401 2) iv_Bz)) rfl ?_
          refine iv_Gcall (ν := 67) (c := 3) (as := [.ref 2, .int 25, .int 0]) (rest := []) (w2 := (iv_wd (iv_uA (iv_cA iv_Az 4 31 0 2048 64) 30 2 1) (iv_uF iv_Fz 3401 2) iv_Bz)) (tg2 := true) (k2 := 0) (z2 := 0) (v := none) rfl rfl rfl rfl rfl rfl rfl (Nat.le_of_ble_eq_true rfl) rfl ?_ ?_
          · refine iv_Gm 10 (pc2 := 15) (lv2 := [(0, .ref 2), (1, .int 25), (2, .int 0)]) (st2 := []) (w2 := (iv_wd (iv_uA (iv_uA (iv_cA iv_Az 4 31 0 2048 64) 30 2 1) 4 25 0) (iv_uF iv_Fz 3401 2) iv_Bz)) rfl ?_
            rw [iv_uA_id (A := (iv_uA (iv_cA iv_Az 4 31 0 2048 64) 30 2 1)) (r := 4) (j := 25) (v := 0) rfl]
            exact iv_Gret rfl rfl rfl
          show iv_G _ _ _ _ 40 [(1, .int 25), (0, .ref 29)] [] (iv_wd (iv_uA (iv_cA iv_Az 4 31 0 2048 64) 30 2 1) (iv_uF iv_Fz 3401 2) iv_Bz) true _ _ _
          refine iv_Gm 13 (pc2 := 22) (lv2 := [(1, .int 26), (0, .ref 29)]) (st2 := [.int 26, .ref 2]) (w2 := (iv_wd (iv_uA (iv_cA iv_Az 4 31 0 2048 64) 30 2 1) (iv_uF iv_Fz 3401 2) iv_Bz)) rfl ?_
          refine iv_Gcall (ν := 66) (c := 2) (as := [.ref 2, .int 26]) (rest := []) (w2 := (iv_wd (iv_uA (iv_cA iv_Az 4 31 0 2048 64) 30 2 1) (iv_uF iv_Fz 3401 2) iv_Bz)) (tg2 := true) (k2 := 0) (z2 := 0) (v := (some (.int 0))) rfl rfl rfl rfl rfl rfl rfl (Nat.le_of_ble_eq_true rfl) rfl ?_ ?_
          · exact ⟨12, rfl⟩
          show iv_G _ _ _ _ 25 [(1, .int 26), (0, .ref 29)] [.int 0] (iv_wd (iv_uA (iv_cA iv_Az 4 31 0 2048 64) 30 2 1) (iv_uF iv_Fz 3401 2) iv_Bz) true _ _ _
          refine iv_Gm 6 (pc2 := 37) (lv2 := [(1, .int 26), (0, .ref 29)]) (st2 := [.int 0, .int 26, .ref 2]) (w2 := (iv_wd (iv_uA (iv_cA iv_Az 4 31 0 2048 64) 30 2 1) (iv_uF iv_Fz 3401 2) iv_Bz)) rfl ?_
          refine iv_Gcall (ν := 67) (c := 3) (as := [.ref 2, .int 26, .int 0]) (rest := []) (w2 := (iv_wd (iv_uA (iv_cA iv_Az 4 31 0 2048 64) 30 2 1) (iv_uF iv_Fz 3401 2) iv_Bz)) (tg2 := true) (k2 := 0) (z2 := 0) (v := none) rfl rfl rfl rfl rfl rfl rfl (Nat.le_of_ble_eq_true rfl) rfl ?_ ?_
          · refine iv_Gm 10 (pc2 := 15) (lv2 := [(0, .ref 2), (1, .int 26), (2, .int 0)]) (st2 := []) (w2 := (iv_wd (iv_uA (iv_uA (iv_cA iv_Az 4 31 0 2048 64) 30 2 1) 4 26 0) (iv_uF iv_Fz 3401 2) iv_Bz)) rfl ?_
            rw [iv_uA_id (A := (iv_uA (iv_cA iv_Az 4 31 0 2048 64) 30 2 1)) (r := 4) (j := 26) (v := 0) rfl]
            exact iv_Gret rfl rfl rfl
          show iv_G _ _ _ _ 40 [(1, .int 26), (0, .ref 29)] [] (iv_wd (iv_uA (iv_cA iv_Az 4 31 0 2048 64) 30 2 1) (iv_uF iv_Fz 3401 2) iv_Bz) true _ _ _
          refine iv_Gm 13 (pc2 := 22) (lv2 := [(1, .int 27), (0, .ref 29)]) (st2 := [.int 27, .ref 2]) (w2 := (iv_wd (iv_uA (iv_cA iv_Az 4 31 0 2048 64) 30 2 1) (iv_uF iv_Fz 3401 2) iv_Bz)) rfl ?_
          refine iv_Gcall (ν := 66) (c := 2) (as := [.ref 2, .int 27]) (rest := []) (w2 := (iv_wd (iv_uA (iv_cA iv_Az 4 31 0 2048 64) 30 2 1) (iv_uF iv_Fz 3401 2) iv_Bz)) (tg2 := true) (k2 := 0) (z2 := 0) (v := (some (.int 0))) rfl rfl rfl rfl rfl rfl rfl (Nat.le_of_ble_eq_true rfl) rfl ?_ ?_
          · exact ⟨12, rfl⟩
          show iv_G _ _ _ _ 25 [(1, .int 27), (0, .ref 29)] [.int 0] (iv_wd (iv_uA (iv_cA iv_Az 4 31 0 2048 64) 30 2 1) (iv_uF iv_Fz 3401 2) iv_Bz) true _ _ _
          refine iv_Gm 6 (pc2 := 37) (lv2 := [(1, .int 27), (0, .ref 29)]) (st2 := [.int 0, .int 27, .ref 2]) (w2 := (iv_wd (iv_uA (iv_cA iv_Az 4 31 0 2048 64) 30 2 1) (iv_uF iv_Fz 3401 2) iv_Bz)) rfl ?_
          refine iv_Gcall (ν := 67) (c := 3) (as := [.ref 2, .int 27, .int 0]) (rest := []) (w2 := (iv_wd (iv_uA (iv_cA iv_Az 4 31 0 2048 64) 30 2 1) (iv_uF iv_Fz 3401 2) iv_Bz)) (tg2 := true) (k2 := 0) (z2 := 0) (v := none) rfl rfl rfl rfl rfl rfl rfl (Nat.le_of_ble_eq_true rfl) rfl ?_ ?_
          · refine iv_Gm 10 (pc2 := 15) (lv2 := [(0, .ref 2), (1, .int 27), (2, .int 0)]) (st2 := []) (w2 := (iv_wd (iv_uA (iv_uA (iv_cA iv_Az 4 31 0 2048 64) 30 2 1) 4 27 0) (iv_uF iv_Fz 3401 2) iv_Bz)) rfl ?_
            rw [iv_uA_id (A := (iv_uA (iv_cA iv_Az 4 31 0 2048 64) 30 2 1)) (r := 4) (j := 27) (v := 0) rfl]
            exact iv_Gret rfl rfl rfl
          show iv_G _ _ _ _ 40 [(1, .int 27), (0, .ref 29)] [] (iv_wd (iv_uA (iv_cA iv_Az 4 31 0 2048 64) 30 2 1) (iv_uF iv_Fz 3401 2) iv_Bz) true _ _ _
          refine iv_Gm 13 (pc2 := 22) (lv2 := [(1, .int 28), (0, .ref 29)]) (st2 := [.int 28, .ref 2]) (w2 := (iv_wd (iv_uA (iv_cA iv_Az 4 31 0 2048 64) 30 2 1) (iv_uF iv_Fz 3401 2) iv_Bz)) rfl ?_
          refine iv_Gcall (ν := 66) (c := 2) (as := [.ref 2, .int 28]) (rest := []) (w2 := (iv_wd (iv_uA (iv_cA iv_Az 4 31 0 2048 64) 30 2 1) (iv_uF iv_Fz 3401 2) iv_Bz)) (tg2 := true) (k2 := 0) (z2 := 0) (v := (some (.int 0))) rfl rfl rfl rfl rfl rfl rfl (Nat.le_of_ble_eq_true rfl) rfl ?_ ?_
          · exact ⟨12, rfl⟩
          show iv_G _ _ _ _ 25 [(1, .int 28), (0, .ref 29)] [.int 0] (iv_wd (iv_uA (iv_cA iv_Az 4 31 0 2048 64) 30 2 1) (iv_uF iv_Fz 3401 2) iv_Bz) true _ _ _
          refine iv_Gm 6 (pc2 := 37) (lv2 := [(1, .int 28), (0, .ref 29)]) (st2 := [.int 0, .int 28, .ref 2]) (w2 := (iv_wd (iv_uA (iv_cA iv_Az 4 31 0 2048 64) 30 2 1) (iv_uF iv_Fz 3401 2) iv_Bz)) rfl ?_
          refine iv_Gcall (ν := 67) (c := 3) (as := [.ref 2, .int 28, .int 0]) (rest := []) (w2 := (iv_wd (iv_uA (iv_cA iv_Az 4 31 0 2048 64) 30 2 1) (iv_uF iv_Fz 3401 2) iv_Bz)) (tg2 := true) (k2 := 0) (z2 := 0) (v := none) rfl rfl rfl rfl rfl rfl rfl (Nat.le_of_ble_eq_true rfl) rfl ?_ ?_
          · refine iv_Gm 10 (pc2 := 15) (lv2 := [(0, .ref 2), (1, .int 28), (2, .int 0)]) (st2 := []) (w2 := (iv_wd (iv_uA (iv_uA (iv_cA iv_Az 4 31 0 2048 64) 30 2 1) 4 28 0) (iv_uF iv_Fz 3401 2) iv_Bz)) rfl ?_
            rw [iv_uA_id (A := (iv_uA (iv_cA iv_Az 4 31 0 2048 64) 30 2 1)) (r := 4) (j := 28) (v := 0) rfl]
            exact iv_Gret rfl rfl rfl
          show iv_G _ _ _ _ 40 [(1, .int 28), (0, .ref 29)] [] (iv_wd (iv_uA (iv_cA iv_Az 4 31 0 2048 64) 30 2 1) (iv_uF iv_Fz 3401 2) iv_Bz) true _ _ _
          refine iv_Gm 13 (pc2 := 22) (lv2 := [(1, .int 29), (0, .ref 29)]) (st2 := [.int 29, .ref 2]) (w2 := (iv_wd (iv_uA (iv_cA iv_Az 4 31 0 2048 64) 30 2 1) (iv_uF iv_Fz 3401 2) iv_Bz)) rfl ?_
          refine iv_Gcall (ν := 66) (c := 2) (as := [.ref 2, .int 29]) (rest := []) (w2 := (iv_wd (iv_uA (iv_cA iv_Az 4 31 0 2048 64) 30 2 1) (iv_uF iv_Fz 3401 2) iv_Bz)) (tg2 := true) (k2 := 0) (z2 := 0) (v := (some (.int 0))) rfl rfl rfl rfl rfl rfl rfl (Nat.le_of_ble_eq_true rfl) rfl ?_ ?_
          · exact ⟨12, rfl⟩
          show iv_G _ _ _ _ 25 [(1, .int 29), (0, .ref 29)] [.int 0] (iv_wd (iv_uA (iv_cA iv_Az 4 31 0 2048 64) 30 2 1) (iv_uF iv_Fz 3401 2) iv_Bz) true _ _ _
          refine iv_Gm 6 (pc2 := 37) (lv2 := [(1, .int 29), (0, .ref 29)]) (st2 := [.int 0, .int 29, .ref 2]) (w2 := (iv_wd (iv_uA (iv_cA iv_Az 4 31 0 2048 64) 30 2 1) (iv_uF iv_Fz 3401 2) iv_Bz)) rfl ?_
          refine iv_Gcall (ν := 67) (c := 3) (as := [.ref 2, .int 29, .int 0]) (rest := []) (w2 := (iv_wd (iv_uA (iv_cA iv_Az 4 31 0 2048 64) 30 2 1) (iv_uF iv_Fz 3401 2) iv_Bz)) (tg2 := true) (k2 := 0) (z2 := 0) (v := none) rfl rfl rfl rfl rfl rfl rfl (Nat.le_of_ble_eq_true rfl) rfl ?_ ?_
          · refine iv_Gm 10 (pc2 := 15) (lv2 := [(0, .ref 2), (1, .int 29), (2, .int 0)]) (st2 := []) (w2 := (iv_wd (iv_uA (iv_uA (iv_cA iv_Az 4 31 0 2048 64) 30 2 1) 4 29 0) (iv_uF iv_Fz 3401 2) iv_Bz)) rfl ?_
            rw [iv_uA_id (A := (iv_uA (iv_cA iv_Az 4 31 0 2048 64) 30 2 1)) (r := 4) (j := 29) (v := 0) rfl]
            exact iv_Gret rfl rfl rfl
          show iv_G _ _ _ _ 40 [(1, .int 29), (0, .ref 29)] [] (iv_wd (iv_uA (iv_cA iv_Az 4 31 0 2048 64) 30 2 1) (iv_uF iv_Fz 3401 2) iv_Bz) true _ _ _
          refine iv_Gm 13 (pc2 := 22) (lv2 := [(1, .int 30), (0, .ref 29)]) (st2 := [.int 30, .ref 2]) (w2 := (iv_wd (iv_uA (iv_cA iv_Az 4 31 0 2048 64) 30 2 1) (iv_uF iv_Fz 3401 2) iv_Bz)) rfl ?_
          refine iv_Gcall (ν := 66) (c := 2) (as := [.ref 2, .int 30]) (rest := []) (w2 := (iv_wd (iv_uA (iv_cA iv_Az 4 31 0 2048 64) 30 2 1) (iv_uF iv_Fz 3401 2) iv_Bz)) (tg2 := true) (k2 := 0) (z2 := 0) (v := (some (.int 0))) rfl rfl rfl rfl rfl rfl rfl (Nat.le_of_ble_eq_true rfl) rfl ?_ ?_
          · exact ⟨12, rfl⟩
          show iv_G _ _ _ _ 25 [(1, .int 30), (0, .ref 29)] [.int 0] (iv_wd (iv_uA (iv_cA iv_Az 4 31 0 2048 64) 30 2 1) (iv_uF iv_Fz 3401 2) iv_Bz) true _ _ _
          refine iv_Gm 6 (pc2 := 37) (lv2 := [(1, .int 30), (0, .ref 29)]) (st2 := [.int 0, .int 30, .ref 2]) (w2 := (iv_wd (iv_uA (iv_cA iv_Az 4 31 0 2048 64) 30 2 1) (iv_uF iv_Fz 3401 2) iv_Bz)) rfl ?_
          refine iv_Gcall (ν := 67) (c := 3) (as := [.ref 2, .int 30, .int 0]) (rest := []) (w2 := (iv_wd (iv_uA (iv_cA iv_Az 4 31 0 2048 64) 30 2 1) (iv_uF iv_Fz 3401 2) iv_Bz)) (tg2 := true) (k2 := 0) (z2 := 0) (v := none) rfl rfl rfl rfl rfl rfl rfl (Nat.le_of_ble_eq_true rfl) rfl ?_ ?_
          · refine iv_Gm 10 (pc2 := 15) (lv2 := [(0, .ref 2), (1, .int 30), (2, .int 0)]) (st2 := []) (w2 := (iv_wd (iv_uA (iv_uA (iv_cA iv_Az 4 31 0 2048 64) 30 2 1) 4 30 0) (iv_uF iv_Fz 3401 2) iv_Bz)) rfl ?_
            rw [iv_uA_id (A := (iv_uA (iv_cA iv_Az 4 31 0 2048 64) 30 2 1)) (r := 4) (j := 30) (v := 0) rfl]
            exact iv_Gret rfl rfl rfl
          show iv_G _ _ _ _ 40 [(1, .int 30), (0, .ref 29)] [] (iv_wd (iv_uA (iv_cA iv_Az 4 31 0 2048 64) 30 2 1) (iv_uF iv_Fz 3401 2) iv_Bz) true _ _ _
          refine iv_Gm 13 (pc2 := 22) (lv2 := [(1, .int 31), (0, .ref 29)]) (st2 := [.int 31, .ref 2]) (w2 := (iv_wd (iv_uA (iv_cA iv_Az 4 31 0 2048 64) 30 2 1) (iv_uF iv_Fz 3401 2) iv_Bz)) rfl ?_
          refine iv_Gcall (ν := 66) (c := 2) (as := [.ref 2, .int 31]) (rest := []) (w2 := (iv_wd (iv_uA (iv_cA iv_Az 4 31 0 2048 64) 30 2 1) (iv_uF iv_Fz 3401 2) iv_Bz)) (tg2 := true) (k2 := 0) (z2 := 0) (v := (some (.int 0))) rfl rfl rfl rfl rfl rfl rfl (Nat.le_of_ble_eq_true rfl) rfl ?_ ?_
          · exact ⟨12, rfl⟩
          show iv_G _ _ _ _ 25 [(1, .int 31), (0, .ref 29)] [.int 0] (iv_wd (iv_uA (iv_cA iv_Az 4 31 0 2048 64) 30 2 1) (iv_uF iv_Fz 3401 2) iv_Bz) true _ _ _
          refine iv_Gm 6 (pc2 := 37) (lv2 := [(1, .int 31), (0, .ref 29)]) (st2 := [.int 0, .int 31, .ref 2]) (w2 := (iv_wd (iv_uA (iv_cA iv_Az 4 31 0 2048 64) 30 2 1) (iv_uF iv_Fz 3401 2) iv_Bz)) rfl ?_
          refine iv_Gcall (ν := 67) (c := 3) (as := [.ref 2, .int 31, .int 0]) (rest := []) (w2 := (iv_wd (iv_uA (iv_cA iv_Az 4 31 0 2048 64) 30 2 1) (iv_uF iv_Fz 3401 2) iv_Bz)) (tg2 := true) (k2 := 0) (z2 := 0) (v := none) rfl rfl rfl rfl rfl rfl rfl (Nat.le_of_ble_eq_true rfl) rfl ?_ ?_
          · refine iv_Gm 10 (pc2 := 15) (lv2 := [(0, .ref 2), (1, .int 31), (2, .int 0)]) (st2 := []) (w2 := (iv_wd (iv_uA (iv_uA (iv_cA iv_Az 4 31 0 2048 64) 30 2 1) 4 31 0) (iv_uF iv_Fz 3401 2) iv_Bz)) rfl ?_
            rw [iv_uA_id (A := (iv_uA (iv_cA iv_Az 4 31 0 2048 64) 30 2 1)) (r := 4) (j := 31) (v := 0) rfl]
            exact iv_Gret rfl rfl rfl
          show iv_G _ _ _ _ 40 [(1, .int 31), (0, .ref 29)] [] (iv_wd (iv_uA (iv_cA iv_Az 4 31 0 2048 64) 30 2 1) (iv_uF iv_Fz 3401 2) iv_Bz) true _ _ _
          refine iv_Gm 5 (pc2 := 46) (lv2 := [(1, .int 32), (0, .ref 29)]) (st2 := []) (w2 := (iv_wd (iv_uA (iv_cA iv_Az 4 31 0 2048 64) 30 2 1) (iv_uF iv_Fz 3401 2) iv_Bz)) rfl ?_
          exact iv_Gret rfl rfl rfl
        show iv_G _ _ _ _ 59 [(1, .int 32), (0, .ref 29)] [] (iv_wd (iv_uA (iv_cA iv_Az 4 31 0 2048 64) 30 2 1) (iv_uF iv_Fz 3401 2) iv_Bz) true _ _ _
        refine iv_Gm 4 (pc2 := 67) (lv2 := [(1, .int 32), (0, .ref 29)]) (st2 := [.ref 31, .ref 2]) (w2 := (iv_wd (iv_uA (iv_cA iv_Az 4 31 0 2048 64) 30 2 1) (iv_uF iv_Fz 3401 2) iv_Bz)) rfl ?_
        refine iv_Gcall (ν := 76) (c := 2) (as := [.ref 2, .ref 31]) (rest := []) (w2 := (iv_wd iv_A13 iv_F13 iv_Bz)) (tg2 := true) (k2 := 0) (z2 := 0) (v := (some (.int 0))) rfl rfl rfl rfl rfl rfl rfl (Nat.le_of_ble_eq_true rfl) rfl ?_ ?_
        · exact iv_co13
        show iv_G _ _ _ _ 70 [(1, .int 32), (0, .ref 29)] [.int 0] (iv_wd iv_A13 iv_F13 iv_Bz) true _ _ _
        exact iv_Gret rfl rfl rfl
      show iv_G _ _ _ _ 11 [(0, .ref 1)] [.int 0] (iv_wd iv_A13 iv_F13 iv_Bz) true _ _ _
      exact iv_Gret rfl rfl rfl
    show iv_G _ _ _ _ 6 [(0, .ref 1), (1, .ref 65)] [.int 0, .int 0, .ref 65] (iv_wd iv_A13 iv_F13 iv_Bz) true _ _ _
    refine iv_Gm 4 (pc2 := 15) (lv2 := [(0, .ref 1), (1, .ref 65)]) (st2 := [.int 0]) (w2 := (iv_wd iv_A13 iv_F13 (vp_updL iv_Bz 0 0))) rfl ?_
    exact iv_Gret rfl rfl rfl
  show iv_Fin _ _ _ _ 742 [(4, .int 0), (3, .ref 65), (2, .ref 44), (1, .ref 1), (0, .ref 0)] [.int 0] (iv_wd iv_A13 iv_F13 (vp_updL iv_Bz 0 0)) true _ _
  refine iv_Em 2 (pc2 := 745) (lv2 := [(5, .int 0), (4, .int 0), (3, .ref 65), (2, .ref 44), (1, .ref 1), (0, .ref 0)]) (st2 := [.ref 44]) (w2 := (iv_wd iv_A13 iv_F13 (vp_updL iv_Bz 0 0))) rfl ?_
  refine iv_Ecall (ν := 186) (c := 1) (as := [.ref 44]) (rest := []) (w2 := (iv_wd iv_A14 iv_F14 (vp_updL iv_Bz 0 0))) (tg2 := true) (k2 := 0) (z2 := 0) (v := (some (.int 0))) rfl rfl rfl rfl rfl rfl rfl (Nat.le_of_ble_eq_true rfl) rfl ?_ ?_
  · exact iv_re13
  show iv_Fin _ _ _ _ 748 [(5, .int 0), (4, .int 0), (3, .ref 65), (2, .ref 44), (1, .ref 1), (0, .ref 0)] [.int 0] (iv_wd iv_A14 iv_F14 (vp_updL iv_Bz 0 0)) true _ _
  refine iv_Em 2 (pc2 := 751) (lv2 := [(6, .int 0), (5, .int 0), (4, .int 0), (3, .ref 65), (2, .ref 44), (1, .ref 1), (0, .ref 0)]) (st2 := [.ref 44]) (w2 := (iv_wd iv_A14 iv_F14 (vp_updL iv_Bz 0 0))) rfl ?_
  refine iv_Ecall (ν := 133) (c := 1) (as := [.ref 44]) (rest := []) (w2 := (iv_wd iv_A14 iv_F14 (vp_updL iv_Bz 0 0))) (tg2 := true) (k2 := 0) (z2 := 0) (v := (some (.int 0))) rfl rfl rfl rfl rfl rfl rfl (Nat.le_of_ble_eq_true rfl) rfl ?_ ?_
  · exact ⟨5, rfl⟩
  show iv_Fin _ _ _ _ 754 [(6, .int 0), (5, .int 0), (4, .int 0), (3, .ref 65), (2, .ref 44), (1, .ref 1), (0, .ref 0)] [.int 0] (iv_wd iv_A14 iv_F14 (vp_updL iv_Bz 0 0)) true _ _
  refine iv_Em 21 (pc2 := 788) (lv2 := [(4, .int 6), (6, .int 0), (5, .int 0), (3, .ref 65), (2, .ref 44), (1, .ref 1), (0, .ref 0)]) (st2 := [.int 1]) (w2 := (iv_wd iv_A14 iv_F14 (vp_updL iv_Bz 0 0))) rfl ?_
  exact iv_Eret rfl rfl rfl (by decide) (by decide)
