set_option maxRecDepth 1000000 in
set_option maxHeartbeats 40000000 in
theorem iv_case_11 (xs : Nat → Int32) (h0 : xs 0 &&& 15 = 11) : iv_Fin 6 xs 20 0 23 [(4, .int 0), (3, .ref 65), (2, .ref 44), (1, .ref 1), (0, .ref 0)] [] (iv_wd iv_Az iv_Fz iv_Bz) true 65 10417 := by
  by_cases h1 : (xs 3) < 0
  · by_cases h2 : (xs 1) < 0
    · refine iv_Em 11 (pc2 := 40) (lv2 := [(4, .int 0), (3, .ref 65), (2, .ref 44), (1, .ref 1), (0, .ref 0)]) (st2 := [.int ((xs 0) &&& 15)]) (w2 := (iv_wd iv_Az iv_Fz iv_Bz)) rfl ?_
      refine iv_Esw rfl rfl (show iv_sw 40 _ _ _ _ _ = some 651 by rw [h0]; rfl) ?_
      refine iv_Em 16 (pc2 := 670) (lv2 := [(4, .int 0), (3, .ref 65), (2, .ref 44), (1, .ref 1), (0, .ref 0)]) (st2 := [.int (xs 3), .int (xs 2), .int (xs 1), .ref 1]) (w2 := (iv_wd iv_Az iv_Fz iv_Bz)) rfl ?_
      refine iv_Ecall (ν := 13) (c := 4) (as := [.ref 1, .int (xs 1), .int (xs 2), .int (xs 3)]) (rest := []) (w2 := (iv_wd iv_Az iv_Fz iv_Bz)) (tg2 := true) (k2 := 0) (z2 := 0) (v := (some (.int 0))) rfl rfl rfl rfl rfl rfl rfl (Nat.le_of_ble_eq_true rfl) rfl ?_ ?_
      · refine iv_Gm 1 (pc2 := 1) (lv2 := [(0, .ref 1), (1, .int (xs 1)), (2, .int (xs 2)), (3, .int (xs 3))]) (st2 := [.int (xs 3)]) (w2 := (iv_wd iv_Az iv_Fz iv_Bz)) rfl ?_
        refine iv_Gcall (ν := 24) (c := 1) (as := [.int (xs 3)]) (rest := []) (w2 := (iv_wd iv_Az iv_Fz iv_Bz)) (tg2 := true) (k2 := 0) (z2 := 0) (v := (some (.int 0))) rfl rfl rfl rfl rfl rfl rfl (Nat.le_of_ble_eq_true rfl) rfl ?_ ?_
        · refine iv_Gm 1 (pc2 := 1) (lv2 := [(0, .int (xs 3))]) (st2 := [.int (xs 3)]) (w2 := (iv_wd iv_Az iv_Fz iv_Bz)) rfl ?_
          refine iv_Gbt (c := decide ((xs 3) < 0)) (p1 := 15) (p2 := 4) (lv2 := [(0, .int (xs 3))]) (st2 := []) (w2 := (iv_wd iv_Az iv_Fz iv_Bz)) rfl (decide_eq_true h1) ?_
          refine iv_Gm 1 (pc2 := 16) (lv2 := [(0, .int (xs 3))]) (st2 := [.int 0]) (w2 := (iv_wd iv_Az iv_Fz iv_Bz)) rfl ?_
          exact iv_Gret rfl rfl rfl
        show iv_G _ _ _ _ 4 [(0, .ref 1), (1, .int (xs 1)), (2, .int (xs 2)), (3, .int (xs 3))] [.int 0] (iv_wd iv_Az iv_Fz iv_Bz) true _ _ _
        refine iv_Gm 2 (pc2 := 8) (lv2 := [(0, .ref 1), (1, .int (xs 1)), (2, .int (xs 2)), (3, .int (xs 3))]) (st2 := [.int 0]) (w2 := (iv_wd iv_Az iv_Fz iv_Bz)) rfl ?_
        exact iv_Gret rfl rfl rfl
      show iv_Fin _ _ _ _ 673 [(4, .int 0), (3, .ref 65), (2, .ref 44), (1, .ref 1), (0, .ref 0)] [.int 0] (iv_wd iv_Az iv_Fz iv_Bz) true _ _
      refine iv_Em 16 (pc2 := 692) (lv2 := [(4, .int 0), (3, .ref 65), (2, .ref 44), (1, .ref 1), (0, .ref 0)]) (st2 := [.int (xs 3), .int (xs 2), .int (xs 1), .ref 44, .int 0]) (w2 := (iv_wd iv_Az iv_Fz iv_Bz)) rfl ?_
      refine iv_Ecall (ν := 179) (c := 4) (as := [.ref 44, .int (xs 1), .int (xs 2), .int (xs 3)]) (rest := [.int 0]) (w2 := (iv_wd iv_Az (iv_uF iv_Fz 4400 0) iv_Bz)) (tg2 := true) (k2 := 0) (z2 := 0) (v := (some (.int 0))) rfl rfl rfl rfl rfl rfl rfl (Nat.le_of_ble_eq_true rfl) rfl ?_ ?_
      · refine iv_Gm 5 (pc2 := 7) (lv2 := [(0, .ref 44), (1, .int (xs 1)), (2, .int (xs 2)), (3, .int (xs 3))]) (st2 := [.int (xs 2), .int (xs 1)]) (w2 := (iv_wd iv_Az (iv_uF iv_Fz 4400 0) iv_Bz)) rfl ?_
        refine iv_Gcall (ν := 178) (c := 2) (as := [.int (xs 1), .int (xs 2)]) (rest := []) (w2 := (iv_wd iv_Az (iv_uF iv_Fz 4400 0) iv_Bz)) (tg2 := true) (k2 := 0) (z2 := 0) (v := (some (.int 0))) rfl rfl rfl rfl rfl rfl rfl (Nat.le_of_ble_eq_true rfl) rfl ?_ ?_
        · refine iv_Gm 1 (pc2 := 1) (lv2 := [(0, .int (xs 1)), (1, .int (xs 2))]) (st2 := [.int (xs 1)]) (w2 := (iv_wd iv_Az (iv_uF iv_Fz 4400 0) iv_Bz)) rfl ?_
          refine iv_Gbt (c := decide ((xs 1) < 0)) (p1 := 34) (p2 := 4) (lv2 := [(0, .int (xs 1)), (1, .int (xs 2))]) (st2 := []) (w2 := (iv_wd iv_Az (iv_uF iv_Fz 4400 0) iv_Bz)) rfl (decide_eq_true h2) ?_
          refine iv_Gm 1 (pc2 := 35) (lv2 := [(0, .int (xs 1)), (1, .int (xs 2))]) (st2 := [.int 0]) (w2 := (iv_wd iv_Az (iv_uF iv_Fz 4400 0) iv_Bz)) rfl ?_
          exact iv_Gret rfl rfl rfl
        show iv_G _ _ _ _ 10 [(0, .ref 44), (1, .int (xs 1)), (2, .int (xs 2)), (3, .int (xs 3))] [.int 0] (iv_wd iv_Az (iv_uF iv_Fz 4400 0) iv_Bz) true _ _ _
        refine iv_Gm 2 (pc2 := 25) (lv2 := [(0, .ref 44), (1, .int (xs 1)), (2, .int (xs 2)), (3, .int (xs 3))]) (st2 := [.int 0]) (w2 := (iv_wd iv_Az (iv_uF iv_Fz 4400 0) iv_Bz)) rfl ?_
        exact iv_Gret rfl rfl rfl
      show iv_Fin _ _ _ _ 695 [(4, .int 0), (3, .ref 65), (2, .ref 44), (1, .ref 1), (0, .ref 0)] [.int 0, .int 0] (iv_wd iv_Az (iv_uF iv_Fz 4400 0) iv_Bz) true _ _
      refine iv_Em 10 (pc2 := 788) (lv2 := [(4, .int 6), (3, .ref 65), (2, .ref 44), (1, .ref 1), (0, .ref 0)]) (st2 := [.int 1]) (w2 := (iv_wd iv_Az (iv_uF iv_Fz 4400 0) iv_Bz)) rfl ?_
      exact iv_Eret rfl rfl rfl (by decide) (by decide)
    · by_cases h3 : (xs 1) < 32
      · by_cases h4 : (xs 2) < 0
        · refine iv_Em 11 (pc2 := 40) (lv2 := [(4, .int 0), (3, .ref 65), (2, .ref 44), (1, .ref 1), (0, .ref 0)]) (st2 := [.int ((xs 0) &&& 15)]) (w2 := (iv_wd iv_Az iv_Fz iv_Bz)) rfl ?_
          refine iv_Esw rfl rfl (show iv_sw 40 _ _ _ _ _ = some 651 by rw [h0]; rfl) ?_
          refine iv_Em 16 (pc2 := 670) (lv2 := [(4, .int 0), (3, .ref 65), (2, .ref 44), (1, .ref 1), (0, .ref 0)]) (st2 := [.int (xs 3), .int (xs 2), .int (xs 1), .ref 1]) (w2 := (iv_wd iv_Az iv_Fz iv_Bz)) rfl ?_
          refine iv_Ecall (ν := 13) (c := 4) (as := [.ref 1, .int (xs 1), .int (xs 2), .int (xs 3)]) (rest := []) (w2 := (iv_wd iv_Az iv_Fz iv_Bz)) (tg2 := true) (k2 := 0) (z2 := 0) (v := (some (.int 0))) rfl rfl rfl rfl rfl rfl rfl (Nat.le_of_ble_eq_true rfl) rfl ?_ ?_
          · refine iv_Gm 1 (pc2 := 1) (lv2 := [(0, .ref 1), (1, .int (xs 1)), (2, .int (xs 2)), (3, .int (xs 3))]) (st2 := [.int (xs 3)]) (w2 := (iv_wd iv_Az iv_Fz iv_Bz)) rfl ?_
            refine iv_Gcall (ν := 24) (c := 1) (as := [.int (xs 3)]) (rest := []) (w2 := (iv_wd iv_Az iv_Fz iv_Bz)) (tg2 := true) (k2 := 0) (z2 := 0) (v := (some (.int 0))) rfl rfl rfl rfl rfl rfl rfl (Nat.le_of_ble_eq_true rfl) rfl ?_ ?_
            · refine iv_Gm 1 (pc2 := 1) (lv2 := [(0, .int (xs 3))]) (st2 := [.int (xs 3)]) (w2 := (iv_wd iv_Az iv_Fz iv_Bz)) rfl ?_
              refine iv_Gbt (c := decide ((xs 3) < 0)) (p1 := 15) (p2 := 4) (lv2 := [(0, .int (xs 3))]) (st2 := []) (w2 := (iv_wd iv_Az iv_Fz iv_Bz)) rfl (decide_eq_true h1) ?_
              refine iv_Gm 1 (pc2 := 16) (lv2 := [(0, .int (xs 3))]) (st2 := [.int 0]) (w2 := (iv_wd iv_Az iv_Fz iv_Bz)) rfl ?_
              exact iv_Gret rfl rfl rfl
            show iv_G _ _ _ _ 4 [(0, .ref 1), (1, .int (xs 1)), (2, .int (xs 2)), (3, .int (xs 3))] [.int 0] (iv_wd iv_Az iv_Fz iv_Bz) true _ _ _
            refine iv_Gm 2 (pc2 := 8) (lv2 := [(0, .ref 1), (1, .int (xs 1)), (2, .int (xs 2)), (3, .int (xs 3))]) (st2 := [.int 0]) (w2 := (iv_wd iv_Az iv_Fz iv_Bz)) rfl ?_
            exact iv_Gret rfl rfl rfl
          show iv_Fin _ _ _ _ 673 [(4, .int 0), (3, .ref 65), (2, .ref 44), (1, .ref 1), (0, .ref 0)] [.int 0] (iv_wd iv_Az iv_Fz iv_Bz) true _ _
          refine iv_Em 16 (pc2 := 692) (lv2 := [(4, .int 0), (3, .ref 65), (2, .ref 44), (1, .ref 1), (0, .ref 0)]) (st2 := [.int (xs 3), .int (xs 2), .int (xs 1), .ref 44, .int 0]) (w2 := (iv_wd iv_Az iv_Fz iv_Bz)) rfl ?_
          refine iv_Ecall (ν := 179) (c := 4) (as := [.ref 44, .int (xs 1), .int (xs 2), .int (xs 3)]) (rest := [.int 0]) (w2 := (iv_wd iv_Az (iv_uF iv_Fz 4400 0) iv_Bz)) (tg2 := true) (k2 := 0) (z2 := 0) (v := (some (.int 0))) rfl rfl rfl rfl rfl rfl rfl (Nat.le_of_ble_eq_true rfl) rfl ?_ ?_
          · refine iv_Gm 5 (pc2 := 7) (lv2 := [(0, .ref 44), (1, .int (xs 1)), (2, .int (xs 2)), (3, .int (xs 3))]) (st2 := [.int (xs 2), .int (xs 1)]) (w2 := (iv_wd iv_Az (iv_uF iv_Fz 4400 0) iv_Bz)) rfl ?_
            refine iv_Gcall (ν := 178) (c := 2) (as := [.int (xs 1), .int (xs 2)]) (rest := []) (w2 := (iv_wd iv_Az (iv_uF iv_Fz 4400 0) iv_Bz)) (tg2 := true) (k2 := 0) (z2 := 0) (v := (some (.int 0))) rfl rfl rfl rfl rfl rfl rfl (Nat.le_of_ble_eq_true rfl) rfl ?_ ?_
            · refine iv_Gm 1 (pc2 := 1) (lv2 := [(0, .int (xs 1)), (1, .int (xs 2))]) (st2 := [.int (xs 1)]) (w2 := (iv_wd iv_Az (iv_uF iv_Fz 4400 0) iv_Bz)) rfl ?_
              refine iv_Gbf (c := decide ((xs 1) < 0)) (p1 := 34) (p2 := 4) (lv2 := [(0, .int (xs 1)), (1, .int (xs 2))]) (st2 := []) (w2 := (iv_wd iv_Az (iv_uF iv_Fz 4400 0) iv_Bz)) rfl (decide_eq_false h2) ?_
              refine iv_Gm 2 (pc2 := 7) (lv2 := [(0, .int (xs 1)), (1, .int (xs 2))]) (st2 := [.int 31, .int (xs 1)]) (w2 := (iv_wd iv_Az (iv_uF iv_Fz 4400 0) iv_Bz)) rfl ?_
              refine iv_Gbf (c := decide (31 < (xs 1))) (p1 := 34) (p2 := 10) (lv2 := [(0, .int (xs 1)), (1, .int (xs 2))]) (st2 := []) (w2 := (iv_wd iv_Az (iv_uF iv_Fz 4400 0) iv_Bz)) rfl (decide_eq_false (fun q => (iv_lg2 (by decide)).mp q h3)) ?_
              refine iv_Gm 1 (pc2 := 11) (lv2 := [(0, .int (xs 1)), (1, .int (xs 2))]) (st2 := [.int (xs 2)]) (w2 := (iv_wd iv_Az (iv_uF iv_Fz 4400 0) iv_Bz)) rfl ?_
              refine iv_Gbt (c := decide ((xs 2) < 0)) (p1 := 34) (p2 := 14) (lv2 := [(0, .int (xs 1)), (1, .int (xs 2))]) (st2 := []) (w2 := (iv_wd iv_Az (iv_uF iv_Fz 4400 0) iv_Bz)) rfl (decide_eq_true h4) ?_
              refine iv_Gm 1 (pc2 := 35) (lv2 := [(0, .int (xs 1)), (1, .int (xs 2))]) (st2 := [.int 0]) (w2 := (iv_wd iv_Az (iv_uF iv_Fz 4400 0) iv_Bz)) rfl ?_
              exact iv_Gret rfl rfl rfl
            show iv_G _ _ _ _ 10 [(0, .ref 44), (1, .int (xs 1)), (2, .int (xs 2)), (3, .int (xs 3))] [.int 0] (iv_wd iv_Az (iv_uF iv_Fz 4400 0) iv_Bz) true _ _ _
            refine iv_Gm 2 (pc2 := 25) (lv2 := [(0, .ref 44), (1, .int (xs 1)), (2, .int (xs 2)), (3, .int (xs 3))]) (st2 := [.int 0]) (w2 := (iv_wd iv_Az (iv_uF iv_Fz 4400 0) iv_Bz)) rfl ?_
            exact iv_Gret rfl rfl rfl
          show iv_Fin _ _ _ _ 695 [(4, .int 0), (3, .ref 65), (2, .ref 44), (1, .ref 1), (0, .ref 0)] [.int 0, .int 0] (iv_wd iv_Az (iv_uF iv_Fz 4400 0) iv_Bz) true _ _
          refine iv_Em 10 (pc2 := 788) (lv2 := [(4, .int 6), (3, .ref 65), (2, .ref 44), (1, .ref 1), (0, .ref 0)]) (st2 := [.int 1]) (w2 := (iv_wd iv_Az (iv_uF iv_Fz 4400 0) iv_Bz)) rfl ?_
          exact iv_Eret rfl rfl rfl (by decide) (by decide)
        · by_cases h5 : (xs 1) < 2
          · by_cases h6 : (xs 2) < 32
            · refine iv_Em 11 (pc2 := 40) (lv2 := [(4, .int 0), (3, .ref 65), (2, .ref 44), (1, .ref 1), (0, .ref 0)]) (st2 := [.int ((xs 0) &&& 15)]) (w2 := (iv_wd iv_Az iv_Fz iv_Bz)) rfl ?_
              refine iv_Esw rfl rfl (show iv_sw 40 _ _ _ _ _ = some 651 by rw [h0]; rfl) ?_
              refine iv_Em 16 (pc2 := 670) (lv2 := [(4, .int 0), (3, .ref 65), (2, .ref 44), (1, .ref 1), (0, .ref 0)]) (st2 := [.int (xs 3), .int (xs 2), .int (xs 1), .ref 1]) (w2 := (iv_wd iv_Az iv_Fz iv_Bz)) rfl ?_
              refine iv_Ecall (ν := 13) (c := 4) (as := [.ref 1, .int (xs 1), .int (xs 2), .int (xs 3)]) (rest := []) (w2 := (iv_wd iv_Az iv_Fz iv_Bz)) (tg2 := true) (k2 := 0) (z2 := 0) (v := (some (.int 0))) rfl rfl rfl rfl rfl rfl rfl (Nat.le_of_ble_eq_true rfl) rfl ?_ ?_
              · refine iv_Gm 1 (pc2 := 1) (lv2 := [(0, .ref 1), (1, .int (xs 1)), (2, .int (xs 2)), (3, .int (xs 3))]) (st2 := [.int (xs 3)]) (w2 := (iv_wd iv_Az iv_Fz iv_Bz)) rfl ?_
                refine iv_Gcall (ν := 24) (c := 1) (as := [.int (xs 3)]) (rest := []) (w2 := (iv_wd iv_Az iv_Fz iv_Bz)) (tg2 := true) (k2 := 0) (z2 := 0) (v := (some (.int 0))) rfl rfl rfl rfl rfl rfl rfl (Nat.le_of_ble_eq_true rfl) rfl ?_ ?_
                · refine iv_Gm 1 (pc2 := 1) (lv2 := [(0, .int (xs 3))]) (st2 := [.int (xs 3)]) (w2 := (iv_wd iv_Az iv_Fz iv_Bz)) rfl ?_
                  refine iv_Gbt (c := decide ((xs 3) < 0)) (p1 := 15) (p2 := 4) (lv2 := [(0, .int (xs 3))]) (st2 := []) (w2 := (iv_wd iv_Az iv_Fz iv_Bz)) rfl (decide_eq_true h1) ?_
                  refine iv_Gm 1 (pc2 := 16) (lv2 := [(0, .int (xs 3))]) (st2 := [.int 0]) (w2 := (iv_wd iv_Az iv_Fz iv_Bz)) rfl ?_
                  exact iv_Gret rfl rfl rfl
                show iv_G _ _ _ _ 4 [(0, .ref 1), (1, .int (xs 1)), (2, .int (xs 2)), (3, .int (xs 3))] [.int 0] (iv_wd iv_Az iv_Fz iv_Bz) true _ _ _
                refine iv_Gm 2 (pc2 := 8) (lv2 := [(0, .ref 1), (1, .int (xs 1)), (2, .int (xs 2)), (3, .int (xs 3))]) (st2 := [.int 0]) (w2 := (iv_wd iv_Az iv_Fz iv_Bz)) rfl ?_
                exact iv_Gret rfl rfl rfl
              show iv_Fin _ _ _ _ 673 [(4, .int 0), (3, .ref 65), (2, .ref 44), (1, .ref 1), (0, .ref 0)] [.int 0] (iv_wd iv_Az iv_Fz iv_Bz) true _ _
              refine iv_Em 16 (pc2 := 692) (lv2 := [(4, .int 0), (3, .ref 65), (2, .ref 44), (1, .ref 1), (0, .ref 0)]) (st2 := [.int (xs 3), .int (xs 2), .int (xs 1), .ref 44, .int 0]) (w2 := (iv_wd iv_Az iv_Fz iv_Bz)) rfl ?_
              refine iv_Ecall (ν := 179) (c := 4) (as := [.ref 44, .int (xs 1), .int (xs 2), .int (xs 3)]) (rest := [.int 0]) (w2 := (iv_wd iv_Az (iv_uF iv_Fz 4400 0) iv_Bz)) (tg2 := true) (k2 := 0) (z2 := 0) (v := (some (.int 0))) rfl rfl rfl rfl rfl rfl rfl (Nat.le_of_ble_eq_true rfl) rfl ?_ ?_
              · refine iv_Gm 5 (pc2 := 7) (lv2 := [(0, .ref 44), (1, .int (xs 1)), (2, .int (xs 2)), (3, .int (xs 3))]) (st2 := [.int (xs 2), .int (xs 1)]) (w2 := (iv_wd iv_Az (iv_uF iv_Fz 4400 0) iv_Bz)) rfl ?_
                refine iv_Gcall (ν := 178) (c := 2) (as := [.int (xs 1), .int (xs 2)]) (rest := []) (w2 := (iv_wd iv_Az (iv_uF iv_Fz 4400 0) iv_Bz)) (tg2 := true) (k2 := 0) (z2 := 0) (v := (some (.int 1))) rfl rfl rfl rfl rfl rfl rfl (Nat.le_of_ble_eq_true rfl) rfl ?_ ?_
                · refine iv_Gm 1 (pc2 := 1) (lv2 := [(0, .int (xs 1)), (1, .int (xs 2))]) (st2 := [.int (xs 1)]) (w2 := (iv_wd iv_Az (iv_uF iv_Fz 4400 0) iv_Bz)) rfl ?_
                  refine iv_Gbf (c := decide ((xs 1) < 0)) (p1 := 34) (p2 := 4) (lv2 := [(0, .int (xs 1)), (1, .int (xs 2))]) (st2 := []) (w2 := (iv_wd iv_Az (iv_uF iv_Fz 4400 0) iv_Bz)) rfl (decide_eq_false h2) ?_
                  refine iv_Gm 2 (pc2 := 7) (lv2 := [(0, .int (xs 1)), (1, .int (xs 2))]) (st2 := [.int 31, .int (xs 1)]) (w2 := (iv_wd iv_Az (iv_uF iv_Fz 4400 0) iv_Bz)) rfl ?_
                  refine iv_Gbf (c := decide (31 < (xs 1))) (p1 := 34) (p2 := 10) (lv2 := [(0, .int (xs 1)), (1, .int (xs 2))]) (st2 := []) (w2 := (iv_wd iv_Az (iv_uF iv_Fz 4400 0) iv_Bz)) rfl (decide_eq_false (fun q => (iv_lg2 (by decide)).mp q h3)) ?_
                  refine iv_Gm 1 (pc2 := 11) (lv2 := [(0, .int (xs 1)), (1, .int (xs 2))]) (st2 := [.int (xs 2)]) (w2 := (iv_wd iv_Az (iv_uF iv_Fz 4400 0) iv_Bz)) rfl ?_
                  refine iv_Gbf (c := decide ((xs 2) < 0)) (p1 := 34) (p2 := 14) (lv2 := [(0, .int (xs 1)), (1, .int (xs 2))]) (st2 := []) (w2 := (iv_wd iv_Az (iv_uF iv_Fz 4400 0) iv_Bz)) rfl (decide_eq_false h4) ?_
                  refine iv_Gm 3 (pc2 := 17) (lv2 := [(0, .int (xs 1)), (1, .int (xs 2))]) (st2 := [.int 2, .int (xs 1), .int (xs 2)]) (w2 := (iv_wd iv_Az (iv_uF iv_Fz 4400 0) iv_Bz)) rfl ?_
                  refine iv_Gbf (c := decide (2 ≤ (xs 1))) (p1 := 25) (p2 := 20) (lv2 := [(0, .int (xs 1)), (1, .int (xs 2))]) (st2 := [.int (xs 2)]) (w2 := (iv_wd iv_Az (iv_uF iv_Fz 4400 0) iv_Bz)) rfl (decide_eq_false (Int32.not_le.mpr h5)) ?_
                  refine iv_Gm 2 (pc2 := 27) (lv2 := [(0, .int (xs 1)), (1, .int (xs 2))]) (st2 := [.int 32, .int (xs 2)]) (w2 := (iv_wd iv_Az (iv_uF iv_Fz 4400 0) iv_Bz)) rfl ?_
                  refine iv_Gbf (c := decide (32 ≤ (xs 2))) (p1 := 34) (p2 := 30) (lv2 := [(0, .int (xs 1)), (1, .int (xs 2))]) (st2 := []) (w2 := (iv_wd iv_Az (iv_uF iv_Fz 4400 0) iv_Bz)) rfl (decide_eq_false (Int32.not_le.mpr h6)) ?_
                  refine iv_Gm 2 (pc2 := 35) (lv2 := [(0, .int (xs 1)), (1, .int (xs 2))]) (st2 := [.int 1]) (w2 := (iv_wd iv_Az (iv_uF iv_Fz 4400 0) iv_Bz)) rfl ?_
                  exact iv_Gret rfl rfl rfl
                show iv_G _ _ _ _ 10 [(0, .ref 44), (1, .int (xs 1)), (2, .int (xs 2)), (3, .int (xs 3))] [.int 1] (iv_wd iv_Az (iv_uF iv_Fz 4400 0) iv_Bz) true _ _ _
                refine iv_Gm 2 (pc2 := 14) (lv2 := [(0, .ref 44), (1, .int (xs 1)), (2, .int (xs 2)), (3, .int (xs 3))]) (st2 := [.int (xs 3)]) (w2 := (iv_wd iv_Az (iv_uF iv_Fz 4400 0) iv_Bz)) rfl ?_
                refine iv_Gbt (c := decide ((xs 3) < 0)) (p1 := 24) (p2 := 17) (lv2 := [(0, .ref 44), (1, .int (xs 1)), (2, .int (xs 2)), (3, .int (xs 3))]) (st2 := []) (w2 := (iv_wd iv_Az (iv_uF iv_Fz 4400 0) iv_Bz)) rfl (decide_eq_true h1) ?_
                refine iv_Gm 1 (pc2 := 25) (lv2 := [(0, .ref 44), (1, .int (xs 1)), (2, .int (xs 2)), (3, .int (xs 3))]) (st2 := [.int 0]) (w2 := (iv_wd iv_Az (iv_uF iv_Fz 4400 0) iv_Bz)) rfl ?_
                exact iv_Gret rfl rfl rfl
              show iv_Fin _ _ _ _ 695 [(4, .int 0), (3, .ref 65), (2, .ref 44), (1, .ref 1), (0, .ref 0)] [.int 0, .int 0] (iv_wd iv_Az (iv_uF iv_Fz 4400 0) iv_Bz) true _ _
              refine iv_Em 10 (pc2 := 788) (lv2 := [(4, .int 6), (3, .ref 65), (2, .ref 44), (1, .ref 1), (0, .ref 0)]) (st2 := [.int 1]) (w2 := (iv_wd iv_Az (iv_uF iv_Fz 4400 0) iv_Bz)) rfl ?_
              exact iv_Eret rfl rfl rfl (by decide) (by decide)
            · refine iv_Em 11 (pc2 := 40) (lv2 := [(4, .int 0), (3, .ref 65), (2, .ref 44), (1, .ref 1), (0, .ref 0)]) (st2 := [.int ((xs 0) &&& 15)]) (w2 := (iv_wd iv_Az iv_Fz iv_Bz)) rfl ?_
              refine iv_Esw rfl rfl (show iv_sw 40 _ _ _ _ _ = some 651 by rw [h0]; rfl) ?_
              refine iv_Em 16 (pc2 := 670) (lv2 := [(4, .int 0), (3, .ref 65), (2, .ref 44), (1, .ref 1), (0, .ref 0)]) (st2 := [.int (xs 3), .int (xs 2), .int (xs 1), .ref 1]) (w2 := (iv_wd iv_Az iv_Fz iv_Bz)) rfl ?_
              refine iv_Ecall (ν := 13) (c := 4) (as := [.ref 1, .int (xs 1), .int (xs 2), .int (xs 3)]) (rest := []) (w2 := (iv_wd iv_Az iv_Fz iv_Bz)) (tg2 := true) (k2 := 0) (z2 := 0) (v := (some (.int 0))) rfl rfl rfl rfl rfl rfl rfl (Nat.le_of_ble_eq_true rfl) rfl ?_ ?_
              · refine iv_Gm 1 (pc2 := 1) (lv2 := [(0, .ref 1), (1, .int (xs 1)), (2, .int (xs 2)), (3, .int (xs 3))]) (st2 := [.int (xs 3)]) (w2 := (iv_wd iv_Az iv_Fz iv_Bz)) rfl ?_
                refine iv_Gcall (ν := 24) (c := 1) (as := [.int (xs 3)]) (rest := []) (w2 := (iv_wd iv_Az iv_Fz iv_Bz)) (tg2 := true) (k2 := 0) (z2 := 0) (v := (some (.int 0))) rfl rfl rfl rfl rfl rfl rfl (Nat.le_of_ble_eq_true rfl) rfl ?_ ?_
                · refine iv_Gm 1 (pc2 := 1) (lv2 := [(0, .int (xs 3))]) (st2 := [.int (xs 3)]) (w2 := (iv_wd iv_Az iv_Fz iv_Bz)) rfl ?_
                  refine iv_Gbt (c := decide ((xs 3) < 0)) (p1 := 15) (p2 := 4) (lv2 := [(0, .int (xs 3))]) (st2 := []) (w2 := (iv_wd iv_Az iv_Fz iv_Bz)) rfl (decide_eq_true h1) ?_
                  refine iv_Gm 1 (pc2 := 16) (lv2 := [(0, .int (xs 3))]) (st2 := [.int 0]) (w2 := (iv_wd iv_Az iv_Fz iv_Bz)) rfl ?_
                  exact iv_Gret rfl rfl rfl
                show iv_G _ _ _ _ 4 [(0, .ref 1), (1, .int (xs 1)), (2, .int (xs 2)), (3, .int (xs 3))] [.int 0] (iv_wd iv_Az iv_Fz iv_Bz) true _ _ _
                refine iv_Gm 2 (pc2 := 8) (lv2 := [(0, .ref 1), (1, .int (xs 1)), (2, .int (xs 2)), (3, .int (xs 3))]) (st2 := [.int 0]) (w2 := (iv_wd iv_Az iv_Fz iv_Bz)) rfl ?_
                exact iv_Gret rfl rfl rfl
              show iv_Fin _ _ _ _ 673 [(4, .int 0), (3, .ref 65), (2, .ref 44), (1, .ref 1), (0, .ref 0)] [.int 0] (iv_wd iv_Az iv_Fz iv_Bz) true _ _
              refine iv_Em 16 (pc2 := 692) (lv2 := [(4, .int 0), (3, .ref 65), (2, .ref 44), (1, .ref 1), (0, .ref 0)]) (st2 := [.int (xs 3), .int (xs 2), .int (xs 1), .ref 44, .int 0]) (w2 := (iv_wd iv_Az iv_Fz iv_Bz)) rfl ?_
              refine iv_Ecall (ν := 179) (c := 4) (as := [.ref 44, .int (xs 1), .int (xs 2), .int (xs 3)]) (rest := [.int 0]) (w2 := (iv_wd iv_Az (iv_uF iv_Fz 4400 0) iv_Bz)) (tg2 := true) (k2 := 0) (z2 := 0) (v := (some (.int 0))) rfl rfl rfl rfl rfl rfl rfl (Nat.le_of_ble_eq_true rfl) rfl ?_ ?_
              · refine iv_Gm 5 (pc2 := 7) (lv2 := [(0, .ref 44), (1, .int (xs 1)), (2, .int (xs 2)), (3, .int (xs 3))]) (st2 := [.int (xs 2), .int (xs 1)]) (w2 := (iv_wd iv_Az (iv_uF iv_Fz 4400 0) iv_Bz)) rfl ?_
                refine iv_Gcall (ν := 178) (c := 2) (as := [.int (xs 1), .int (xs 2)]) (rest := []) (w2 := (iv_wd iv_Az (iv_uF iv_Fz 4400 0) iv_Bz)) (tg2 := true) (k2 := 0) (z2 := 0) (v := (some (.int 0))) rfl rfl rfl rfl rfl rfl rfl (Nat.le_of_ble_eq_true rfl) rfl ?_ ?_
                · refine iv_Gm 1 (pc2 := 1) (lv2 := [(0, .int (xs 1)), (1, .int (xs 2))]) (st2 := [.int (xs 1)]) (w2 := (iv_wd iv_Az (iv_uF iv_Fz 4400 0) iv_Bz)) rfl ?_
                  refine iv_Gbf (c := decide ((xs 1) < 0)) (p1 := 34) (p2 := 4) (lv2 := [(0, .int (xs 1)), (1, .int (xs 2))]) (st2 := []) (w2 := (iv_wd iv_Az (iv_uF iv_Fz 4400 0) iv_Bz)) rfl (decide_eq_false h2) ?_
                  refine iv_Gm 2 (pc2 := 7) (lv2 := [(0, .int (xs 1)), (1, .int (xs 2))]) (st2 := [.int 31, .int (xs 1)]) (w2 := (iv_wd iv_Az (iv_uF iv_Fz 4400 0) iv_Bz)) rfl ?_
                  refine iv_Gbf (c := decide (31 < (xs 1))) (p1 := 34) (p2 := 10) (lv2 := [(0, .int (xs 1)), (1, .int (xs 2))]) (st2 := []) (w2 := (iv_wd iv_Az (iv_uF iv_Fz 4400 0) iv_Bz)) rfl (decide_eq_false (fun q => (iv_lg2 (by decide)).mp q h3)) ?_
                  refine iv_Gm 1 (pc2 := 11) (lv2 := [(0, .int (xs 1)), (1, .int (xs 2))]) (st2 := [.int (xs 2)]) (w2 := (iv_wd iv_Az (iv_uF iv_Fz 4400 0) iv_Bz)) rfl ?_
                  refine iv_Gbf (c := decide ((xs 2) < 0)) (p1 := 34) (p2 := 14) (lv2 := [(0, .int (xs 1)), (1, .int (xs 2))]) (st2 := []) (w2 := (iv_wd iv_Az (iv_uF iv_Fz 4400 0) iv_Bz)) rfl (decide_eq_false h4) ?_
                  refine iv_Gm 3 (pc2 := 17) (lv2 := [(0, .int (xs 1)), (1, .int (xs 2))]) (st2 := [.int 2, .int (xs 1), .int (xs 2)]) (w2 := (iv_wd iv_Az (iv_uF iv_Fz 4400 0) iv_Bz)) rfl ?_
                  refine iv_Gbf (c := decide (2 ≤ (xs 1))) (p1 := 25) (p2 := 20) (lv2 := [(0, .int (xs 1)), (1, .int (xs 2))]) (st2 := [.int (xs 2)]) (w2 := (iv_wd iv_Az (iv_uF iv_Fz 4400 0) iv_Bz)) rfl (decide_eq_false (Int32.not_le.mpr h5)) ?_
                  refine iv_Gm 2 (pc2 := 27) (lv2 := [(0, .int (xs 1)), (1, .int (xs 2))]) (st2 := [.int 32, .int (xs 2)]) (w2 := (iv_wd iv_Az (iv_uF iv_Fz 4400 0) iv_Bz)) rfl ?_
                  refine iv_Gbt (c := decide (32 ≤ (xs 2))) (p1 := 34) (p2 := 30) (lv2 := [(0, .int (xs 1)), (1, .int (xs 2))]) (st2 := []) (w2 := (iv_wd iv_Az (iv_uF iv_Fz 4400 0) iv_Bz)) rfl (decide_eq_true (Int32.not_lt.mp h6)) ?_
                  refine iv_Gm 1 (pc2 := 35) (lv2 := [(0, .int (xs 1)), (1, .int (xs 2))]) (st2 := [.int 0]) (w2 := (iv_wd iv_Az (iv_uF iv_Fz 4400 0) iv_Bz)) rfl ?_
                  exact iv_Gret rfl rfl rfl
                show iv_G _ _ _ _ 10 [(0, .ref 44), (1, .int (xs 1)), (2, .int (xs 2)), (3, .int (xs 3))] [.int 0] (iv_wd iv_Az (iv_uF iv_Fz 4400 0) iv_Bz) true _ _ _
                refine iv_Gm 2 (pc2 := 25) (lv2 := [(0, .ref 44), (1, .int (xs 1)), (2, .int (xs 2)), (3, .int (xs 3))]) (st2 := [.int 0]) (w2 := (iv_wd iv_Az (iv_uF iv_Fz 4400 0) iv_Bz)) rfl ?_
                exact iv_Gret rfl rfl rfl
              show iv_Fin _ _ _ _ 695 [(4, .int 0), (3, .ref 65), (2, .ref 44), (1, .ref 1), (0, .ref 0)] [.int 0, .int 0] (iv_wd iv_Az (iv_uF iv_Fz 4400 0) iv_Bz) true _ _
              refine iv_Em 10 (pc2 := 788) (lv2 := [(4, .int 6), (3, .ref 65), (2, .ref 44), (1, .ref 1), (0, .ref 0)]) (st2 := [.int 1]) (w2 := (iv_wd iv_Az (iv_uF iv_Fz 4400 0) iv_Bz)) rfl ?_
              exact iv_Eret rfl rfl rfl (by decide) (by decide)
          · by_cases h7 : (xs 2) < 64
            · refine iv_Em 11 (pc2 := 40) (lv2 := [(4, .int 0), (3, .ref 65), (2, .ref 44), (1, .ref 1), (0, .ref 0)]) (st2 := [.int ((xs 0) &&& 15)]) (w2 := (iv_wd iv_Az iv_Fz iv_Bz)) rfl ?_
              refine iv_Esw rfl rfl (show iv_sw 40 _ _ _ _ _ = some 651 by rw [h0]; rfl) ?_
              refine iv_Em 16 (pc2 := 670) (lv2 := [(4, .int 0), (3, .ref 65), (2, .ref 44), (1, .ref 1), (0, .ref 0)]) (st2 := [.int (xs 3), .int (xs 2), .int (xs 1), .ref 1]) (w2 := (iv_wd iv_Az iv_Fz iv_Bz)) rfl ?_
              refine iv_Ecall (ν := 13) (c := 4) (as := [.ref 1, .int (xs 1), .int (xs 2), .int (xs 3)]) (rest := []) (w2 := (iv_wd iv_Az iv_Fz iv_Bz)) (tg2 := true) (k2 := 0) (z2 := 0) (v := (some (.int 0))) rfl rfl rfl rfl rfl rfl rfl (Nat.le_of_ble_eq_true rfl) rfl ?_ ?_
              · refine iv_Gm 1 (pc2 := 1) (lv2 := [(0, .ref 1), (1, .int (xs 1)), (2, .int (xs 2)), (3, .int (xs 3))]) (st2 := [.int (xs 3)]) (w2 := (iv_wd iv_Az iv_Fz iv_Bz)) rfl ?_
                refine iv_Gcall (ν := 24) (c := 1) (as := [.int (xs 3)]) (rest := []) (w2 := (iv_wd iv_Az iv_Fz iv_Bz)) (tg2 := true) (k2 := 0) (z2 := 0) (v := (some (.int 0))) rfl rfl rfl rfl rfl rfl rfl (Nat.le_of_ble_eq_true rfl) rfl ?_ ?_
                · refine iv_Gm 1 (pc2 := 1) (lv2 := [(0, .int (xs 3))]) (st2 := [.int (xs 3)]) (w2 := (iv_wd iv_Az iv_Fz iv_Bz)) rfl ?_
                  refine iv_Gbt (c := decide ((xs 3) < 0)) (p1 := 15) (p2 := 4) (lv2 := [(0, .int (xs 3))]) (st2 := []) (w2 := (iv_wd iv_Az iv_Fz iv_Bz)) rfl (decide_eq_true h1) ?_
                  refine iv_Gm 1 (pc2 := 16) (lv2 := [(0, .int (xs 3))]) (st2 := [.int 0]) (w2 := (iv_wd iv_Az iv_Fz iv_Bz)) rfl ?_
                  exact iv_Gret rfl rfl rfl
                show iv_G _ _ _ _ 4 [(0, .ref 1), (1, .int (xs 1)), (2, .int (xs 2)), (3, .int (xs 3))] [.int 0] (iv_wd iv_Az iv_Fz iv_Bz) true _ _ _
                refine iv_Gm 2 (pc2 := 8) (lv2 := [(0, .ref 1), (1, .int (xs 1)), (2, .int (xs 2)), (3, .int (xs 3))]) (st2 := [.int 0]) (w2 := (iv_wd iv_Az iv_Fz iv_Bz)) rfl ?_
                exact iv_Gret rfl rfl rfl
              show iv_Fin _ _ _ _ 673 [(4, .int 0), (3, .ref 65), (2, .ref 44), (1, .ref 1), (0, .ref 0)] [.int 0] (iv_wd iv_Az iv_Fz iv_Bz) true _ _
              refine iv_Em 16 (pc2 := 692) (lv2 := [(4, .int 0), (3, .ref 65), (2, .ref 44), (1, .ref 1), (0, .ref 0)]) (st2 := [.int (xs 3), .int (xs 2), .int (xs 1), .ref 44, .int 0]) (w2 := (iv_wd iv_Az iv_Fz iv_Bz)) rfl ?_
              refine iv_Ecall (ν := 179) (c := 4) (as := [.ref 44, .int (xs 1), .int (xs 2), .int (xs 3)]) (rest := [.int 0]) (w2 := (iv_wd iv_Az (iv_uF iv_Fz 4400 0) iv_Bz)) (tg2 := true) (k2 := 0) (z2 := 0) (v := (some (.int 0))) rfl rfl rfl rfl rfl rfl rfl (Nat.le_of_ble_eq_true rfl) rfl ?_ ?_
              · refine iv_Gm 5 (pc2 := 7) (lv2 := [(0, .ref 44), (1, .int (xs 1)), (2, .int (xs 2)), (3, .int (xs 3))]) (st2 := [.int (xs 2), .int (xs 1)]) (w2 := (iv_wd iv_Az (iv_uF iv_Fz 4400 0) iv_Bz)) rfl ?_
                refine iv_Gcall (ν := 178) (c := 2) (as := [.int (xs 1), .int (xs 2)]) (rest := []) (w2 := (iv_wd iv_Az (iv_uF iv_Fz 4400 0) iv_Bz)) (tg2 := true) (k2 := 0) (z2 := 0) (v := (some (.int 1))) rfl rfl rfl rfl rfl rfl rfl (Nat.le_of_ble_eq_true rfl) rfl ?_ ?_
                · refine iv_Gm 1 (pc2 := 1) (lv2 := [(0, .int (xs 1)), (1, .int (xs 2))]) (st2 := [.int (xs 1)]) (w2 := (iv_wd iv_Az (iv_uF iv_Fz 4400 0) iv_Bz)) rfl ?_
                  refine iv_Gbf (c := decide ((xs 1) < 0)) (p1 := 34) (p2 := 4) (lv2 := [(0, .int (xs 1)), (1, .int (xs 2))]) (st2 := []) (w2 := (iv_wd iv_Az (iv_uF iv_Fz 4400 0) iv_Bz)) rfl (decide_eq_false h2) ?_
                  refine iv_Gm 2 (pc2 := 7) (lv2 := [(0, .int (xs 1)), (1, .int (xs 2))]) (st2 := [.int 31, .int (xs 1)]) (w2 := (iv_wd iv_Az (iv_uF iv_Fz 4400 0) iv_Bz)) rfl ?_
                  refine iv_Gbf (c := decide (31 < (xs 1))) (p1 := 34) (p2 := 10) (lv2 := [(0, .int (xs 1)), (1, .int (xs 2))]) (st2 := []) (w2 := (iv_wd iv_Az (iv_uF iv_Fz 4400 0) iv_Bz)) rfl (decide_eq_false (fun q => (iv_lg2 (by decide)).mp q h3)) ?_
                  refine iv_Gm 1 (pc2 := 11) (lv2 := [(0, .int (xs 1)), (1, .int (xs 2))]) (st2 := [.int (xs 2)]) (w2 := (iv_wd iv_Az (iv_uF iv_Fz 4400 0) iv_Bz)) rfl ?_
                  refine iv_Gbf (c := decide ((xs 2) < 0)) (p1 := 34) (p2 := 14) (lv2 := [(0, .int (xs 1)), (1, .int (xs 2))]) (st2 := []) (w2 := (iv_wd iv_Az (iv_uF iv_Fz 4400 0) iv_Bz)) rfl (decide_eq_false h4) ?_
                  refine iv_Gm 3 (pc2 := 17) (lv2 := [(0, .int (xs 1)), (1, .int (xs 2))]) (st2 := [.int 2, .int (xs 1), .int (xs 2)]) (w2 := (iv_wd iv_Az (iv_uF iv_Fz 4400 0) iv_Bz)) rfl ?_
                  refine iv_Gbt (c := decide (2 ≤ (xs 1))) (p1 := 25) (p2 := 20) (lv2 := [(0, .int (xs 1)), (1, .int (xs 2))]) (st2 := [.int (xs 2)]) (w2 := (iv_wd iv_Az (iv_uF iv_Fz 4400 0) iv_Bz)) rfl (decide_eq_true (Int32.not_lt.mp h5)) ?_
                  refine iv_Gm 1 (pc2 := 27) (lv2 := [(0, .int (xs 1)), (1, .int (xs 2))]) (st2 := [.int 64, .int (xs 2)]) (w2 := (iv_wd iv_Az (iv_uF iv_Fz 4400 0) iv_Bz)) rfl ?_
                  refine iv_Gbf (c := decide (64 ≤ (xs 2))) (p1 := 34) (p2 := 30) (lv2 := [(0, .int (xs 1)), (1, .int (xs 2))]) (st2 := []) (w2 := (iv_wd iv_Az (iv_uF iv_Fz 4400 0) iv_Bz)) rfl (decide_eq_false (Int32.not_le.mpr h7)) ?_
                  refine iv_Gm 2 (pc2 := 35) (lv2 := [(0, .int (xs 1)), (1, .int (xs 2))]) (st2 := [.int 1]) (w2 := (iv_wd iv_Az (iv_uF iv_Fz 4400 0) iv_Bz)) rfl ?_
                  exact iv_Gret rfl rfl rfl
                show iv_G _ _ _ _ 10 [(0, .ref 44), (1, .int (xs 1)), (2, .int (xs 2)), (3, .int (xs 3))] [.int 1] (iv_wd iv_Az (iv_uF iv_Fz 4400 0) iv_Bz) true _ _ _
                refine iv_Gm 2 (pc2 := 14) (lv2 := [(0, .ref 44), (1, .int (xs 1)), (2, .int (xs 2)), (3, .int (xs 3))]) (st2 := [.int (xs 3)]) (w2 := (iv_wd iv_Az (iv_uF iv_Fz 4400 0) iv_Bz)) rfl ?_
                refine iv_Gbt (c := decide ((xs 3) < 0)) (p1 := 24) (p2 := 17) (lv2 := [(0, .ref 44), (1, .int (xs 1)), (2, .int (xs 2)), (3, .int (xs 3))]) (st2 := []) (w2 := (iv_wd iv_Az (iv_uF iv_Fz 4400 0) iv_Bz)) rfl (decide_eq_true h1) ?_
                refine iv_Gm 1 (pc2 := 25) (lv2 := [(0, .ref 44), (1, .int (xs 1)), (2, .int (xs 2)), (3, .int (xs 3))]) (st2 := [.int 0]) (w2 := (iv_wd iv_Az (iv_uF iv_Fz 4400 0) iv_Bz)) rfl ?_
                exact iv_Gret rfl rfl rfl
              show iv_Fin _ _ _ _ 695 [(4, .int 0), (3, .ref 65), (2, .ref 44), (1, .ref 1), (0, .ref 0)] [.int 0, .int 0] (iv_wd iv_Az (iv_uF iv_Fz 4400 0) iv_Bz) true _ _
              refine iv_Em 10 (pc2 := 788) (lv2 := [(4, .int 6), (3, .ref 65), (2, .ref 44), (1, .ref 1), (0, .ref 0)]) (st2 := [.int 1]) (w2 := (iv_wd iv_Az (iv_uF iv_Fz 4400 0) iv_Bz)) rfl ?_
              exact iv_Eret rfl rfl rfl (by decide) (by decide)
            · refine iv_Em 11 (pc2 := 40) (lv2 := [(4, .int 0), (3, .ref 65), (2, .ref 44), (1, .ref 1), (0, .ref 0)]) (st2 := [.int ((xs 0) &&& 15)]) (w2 := (iv_wd iv_Az iv_Fz iv_Bz)) rfl ?_
              refine iv_Esw rfl rfl (show iv_sw 40 _ _ _ _ _ = some 651 by rw [h0]; rfl) ?_
              refine iv_Em 16 (pc2 := 670) (lv2 := [(4, .int 0), (3, .ref 65), (2, .ref 44), (1, .ref 1), (0, .ref 0)]) (st2 := [.int (xs 3), .int (xs 2), .int (xs 1), .ref 1]) (w2 := (iv_wd iv_Az iv_Fz iv_Bz)) rfl ?_
              refine iv_Ecall (ν := 13) (c := 4) (as := [.ref 1, .int (xs 1), .int (xs 2), .int (xs 3)]) (rest := []) (w2 := (iv_wd iv_Az iv_Fz iv_Bz)) (tg2 := true) (k2 := 0) (z2 := 0) (v := (some (.int 0))) rfl rfl rfl rfl rfl rfl rfl (Nat.le_of_ble_eq_true rfl) rfl ?_ ?_
              · refine iv_Gm 1 (pc2 := 1) (lv2 := [(0, .ref 1), (1, .int (xs 1)), (2, .int (xs 2)), (3, .int (xs 3))]) (st2 := [.int (xs 3)]) (w2 := (iv_wd iv_Az iv_Fz iv_Bz)) rfl ?_
                refine iv_Gcall (ν := 24) (c := 1) (as := [.int (xs 3)]) (rest := []) (w2 := (iv_wd iv_Az iv_Fz iv_Bz)) (tg2 := true) (k2 := 0) (z2 := 0) (v := (some (.int 0))) rfl rfl rfl rfl rfl rfl rfl (Nat.le_of_ble_eq_true rfl) rfl ?_ ?_
                · refine iv_Gm 1 (pc2 := 1) (lv2 := [(0, .int (xs 3))]) (st2 := [.int (xs 3)]) (w2 := (iv_wd iv_Az iv_Fz iv_Bz)) rfl ?_
                  refine iv_Gbt (c := decide ((xs 3) < 0)) (p1 := 15) (p2 := 4) (lv2 := [(0, .int (xs 3))]) (st2 := []) (w2 := (iv_wd iv_Az iv_Fz iv_Bz)) rfl (decide_eq_true h1) ?_
                  refine iv_Gm 1 (pc2 := 16) (lv2 := [(0, .int (xs 3))]) (st2 := [.int 0]) (w2 := (iv_wd iv_Az iv_Fz iv_Bz)) rfl ?_
                  exact iv_Gret rfl rfl rfl
                show iv_G _ _ _ _ 4 [(0, .ref 1), (1, .int (xs 1)), (2, .int (xs 2)), (3, .int (xs 3))] [.int 0] (iv_wd iv_Az iv_Fz iv_Bz) true _ _ _
                refine iv_Gm 2 (pc2 := 8) (lv2 := [(0, .ref 1), (1, .int (xs 1)), (2, .int (xs 2)), (3, .int (xs 3))]) (st2 := [.int 0]) (w2 := (iv_wd iv_Az iv_Fz iv_Bz)) rfl ?_
                exact iv_Gret rfl rfl rfl
              show iv_Fin _ _ _ _ 673 [(4, .int 0), (3, .ref 65), (2, .ref 44), (1, .ref 1), (0, .ref 0)] [.int 0] (iv_wd iv_Az iv_Fz iv_Bz) true _ _
              refine iv_Em 16 (pc2 := 692) (lv2 := [(4, .int 0), (3, .ref 65), (2, .ref 44), (1, .ref 1), (0, .ref 0)]) (st2 := [.int (xs 3), .int (xs 2), .int (xs 1), .ref 44, .int 0]) (w2 := (iv_wd iv_Az iv_Fz iv_Bz)) rfl ?_
              refine iv_Ecall (ν := 179) (c := 4) (as := [.ref 44, .int (xs 1), .int (xs 2), .int (xs 3)]) (rest := [.int 0]) (w2 := (iv_wd iv_Az (iv_uF iv_Fz 4400 0) iv_Bz)) (tg2 := true) (k2 := 0) (z2 := 0) (v := (some (.int 0))) rfl rfl rfl rfl rfl rfl rfl (Nat.le_of_ble_eq_true rfl) rfl ?_ ?_
              · refine iv_Gm 5 (pc2 := 7) (lv2 := [(0, .ref 44), (1, .int (xs 1)), (2, .int (xs 2)), (3, .int (xs 3))]) (st2 := [.int (xs 2), .int (xs 1)]) (w2 := (iv_wd iv_Az (iv_uF iv_Fz 4400 0) iv_Bz)) rfl ?_
                refine iv_Gcall (ν := 178) (c := 2) (as := [.int (xs 1), .int (xs 2)]) (rest := []) (w2 := (iv_wd iv_Az (iv_uF iv_Fz 4400 0) iv_Bz)) (tg2 := true) (k2 := 0) (z2 := 0) (v := (some (.int 0))) rfl rfl rfl rfl rfl rfl rfl (Nat.le_of_ble_eq_true rfl) rfl ?_ ?_
                · refine iv_Gm 1 (pc2 := 1) (lv2 := [(0, .int (xs 1)), (1, .int (xs 2))]) (st2 := [.int (xs 1)]) (w2 := (iv_wd iv_Az (iv_uF iv_Fz 4400 0) iv_Bz)) rfl ?_
                  refine iv_Gbf (c := decide ((xs 1) < 0)) (p1 := 34) (p2 := 4) (lv2 := [(0, .int (xs 1)), (1, .int (xs 2))]) (st2 := []) (w2 := (iv_wd iv_Az (iv_uF iv_Fz 4400 0) iv_Bz)) rfl (decide_eq_false h2) ?_
                  refine iv_Gm 2 (pc2 := 7) (lv2 := [(0, .int (xs 1)), (1, .int (xs 2))]) (st2 := [.int 31, .int (xs 1)]) (w2 := (iv_wd iv_Az (iv_uF iv_Fz 4400 0) iv_Bz)) rfl ?_
                  refine iv_Gbf (c := decide (31 < (xs 1))) (p1 := 34) (p2 := 10) (lv2 := [(0, .int (xs 1)), (1, .int (xs 2))]) (st2 := []) (w2 := (iv_wd iv_Az (iv_uF iv_Fz 4400 0) iv_Bz)) rfl (decide_eq_false (fun q => (iv_lg2 (by decide)).mp q h3)) ?_
                  refine iv_Gm 1 (pc2 := 11) (lv2 := [(0, .int (xs 1)), (1, .int (xs 2))]) (st2 := [.int (xs 2)]) (w2 := (iv_wd iv_Az (iv_uF iv_Fz 4400 0) iv_Bz)) rfl ?_
                  refine iv_Gbf (c := decide ((xs 2) < 0)) (p1 := 34) (p2 := 14) (lv2 := [(0, .int (xs 1)), (1, .int (xs 2))]) (st2 := []) (w2 := (iv_wd iv_Az (iv_uF iv_Fz 4400 0) iv_Bz)) rfl (decide_eq_false h4) ?_
                  refine iv_Gm 3 (pc2 := 17) (lv2 := [(0, .int (xs 1)), (1, .int (xs 2))]) (st2 := [.int 2, .int (xs 1), .int (xs 2)]) (w2 := (iv_wd iv_Az (iv_uF iv_Fz 4400 0) iv_Bz)) rfl ?_
                  refine iv_Gbt (c := decide (2 ≤ (xs 1))) (p1 := 25) (p2 := 20) (lv2 := [(0, .int (xs 1)), (1, .int (xs 2))]) (st2 := [.int (xs 2)]) (w2 := (iv_wd iv_Az (iv_uF iv_Fz 4400 0) iv_Bz)) rfl (decide_eq_true (Int32.not_lt.mp h5)) ?_
                  refine iv_Gm 1 (pc2 := 27) (lv2 := [(0, .int (xs 1)), (1, .int (xs 2))]) (st2 := [.int 64, .int (xs 2)]) (w2 := (iv_wd iv_Az (iv_uF iv_Fz 4400 0) iv_Bz)) rfl ?_
                  refine iv_Gbt (c := decide (64 ≤ (xs 2))) (p1 := 34) (p2 := 30) (lv2 := [(0, .int (xs 1)), (1, .int (xs 2))]) (st2 := []) (w2 := (iv_wd iv_Az (iv_uF iv_Fz 4400 0) iv_Bz)) rfl (decide_eq_true (Int32.not_lt.mp h7)) ?_
                  refine iv_Gm 1 (pc2 := 35) (lv2 := [(0, .int (xs 1)), (1, .int (xs 2))]) (st2 := [.int 0]) (w2 := (iv_wd iv_Az (iv_uF iv_Fz 4400 0) iv_Bz)) rfl ?_
                  exact iv_Gret rfl rfl rfl
                show iv_G _ _ _ _ 10 [(0, .ref 44), (1, .int (xs 1)), (2, .int (xs 2)), (3, .int (xs 3))] [.int 0] (iv_wd iv_Az (iv_uF iv_Fz 4400 0) iv_Bz) true _ _ _
                refine iv_Gm 2 (pc2 := 25) (lv2 := [(0, .ref 44), (1, .int (xs 1)), (2, .int (xs 2)), (3, .int (xs 3))]) (st2 := [.int 0]) (w2 := (iv_wd iv_Az (iv_uF iv_Fz 4400 0) iv_Bz)) rfl ?_
                exact iv_Gret rfl rfl rfl
              show iv_Fin _ _ _ _ 695 [(4, .int 0), (3, .ref 65), (2, .ref 44), (1, .ref 1), (0, .ref 0)] [.int 0, .int 0] (iv_wd iv_Az (iv_uF iv_Fz 4400 0) iv_Bz) true _ _
              refine iv_Em 10 (pc2 := 788) (lv2 := [(4, .int 6), (3, .ref 65), (2, .ref 44), (1, .ref 1), (0, .ref 0)]) (st2 := [.int 1]) (w2 := (iv_wd iv_Az (iv_uF iv_Fz 4400 0) iv_Bz)) rfl ?_
              exact iv_Eret rfl rfl rfl (by decide) (by decide)
      · refine iv_Em 11 (pc2 := 40) (lv2 := [(4, .int 0), (3, .ref 65), (2, .ref 44), (1, .ref 1), (0, .ref 0)]) (st2 := [.int ((xs 0) &&& 15)]) (w2 := (iv_wd iv_Az iv_Fz iv_Bz)) rfl ?_
        refine iv_Esw rfl rfl (show iv_sw 40 _ _ _ _ _ = some 651 by rw [h0]; rfl) ?_
        refine iv_Em 16 (pc2 := 670) (lv2 := [(4, .int 0), (3, .ref 65), (2, .ref 44), (1, .ref 1), (0, .ref 0)]) (st2 := [.int (xs 3), .int (xs 2), .int (xs 1), .ref 1]) (w2 := (iv_wd iv_Az iv_Fz iv_Bz)) rfl ?_
        refine iv_Ecall (ν := 13) (c := 4) (as := [.ref 1, .int (xs 1), .int (xs 2), .int (xs 3)]) (rest := []) (w2 := (iv_wd iv_Az iv_Fz iv_Bz)) (tg2 := true) (k2 := 0) (z2 := 0) (v := (some (.int 0))) rfl rfl rfl rfl rfl rfl rfl (Nat.le_of_ble_eq_true rfl) rfl ?_ ?_
        · refine iv_Gm 1 (pc2 := 1) (lv2 := [(0, .ref 1), (1, .int (xs 1)), (2, .int (xs 2)), (3, .int (xs 3))]) (st2 := [.int (xs 3)]) (w2 := (iv_wd iv_Az iv_Fz iv_Bz)) rfl ?_
          refine iv_Gcall (ν := 24) (c := 1) (as := [.int (xs 3)]) (rest := []) (w2 := (iv_wd iv_Az iv_Fz iv_Bz)) (tg2 := true) (k2 := 0) (z2 := 0) (v := (some (.int 0))) rfl rfl rfl rfl rfl rfl rfl (Nat.le_of_ble_eq_true rfl) rfl ?_ ?_
          · refine iv_Gm 1 (pc2 := 1) (lv2 := [(0, .int (xs 3))]) (st2 := [.int (xs 3)]) (w2 := (iv_wd iv_Az iv_Fz iv_Bz)) rfl ?_
            refine iv_Gbt (c := decide ((xs 3) < 0)) (p1 := 15) (p2 := 4) (lv2 := [(0, .int (xs 3))]) (st2 := []) (w2 := (iv_wd iv_Az iv_Fz iv_Bz)) rfl (decide_eq_true h1) ?_
            refine iv_Gm 1 (pc2 := 16) (lv2 := [(0, .int (xs 3))]) (st2 := [.int 0]) (w2 := (iv_wd iv_Az iv_Fz iv_Bz)) rfl ?_
            exact iv_Gret rfl rfl rfl
          show iv_G _ _ _ _ 4 [(0, .ref 1), (1, .int (xs 1)), (2, .int (xs 2)), (3, .int (xs 3))] [.int 0] (iv_wd iv_Az iv_Fz iv_Bz) true _ _ _
          refine iv_Gm 2 (pc2 := 8) (lv2 := [(0, .ref 1), (1, .int (xs 1)), (2, .int (xs 2)), (3, .int (xs 3))]) (st2 := [.int 0]) (w2 := (iv_wd iv_Az iv_Fz iv_Bz)) rfl ?_
          exact iv_Gret rfl rfl rfl
        show iv_Fin _ _ _ _ 673 [(4, .int 0), (3, .ref 65), (2, .ref 44), (1, .ref 1), (0, .ref 0)] [.int 0] (iv_wd iv_Az iv_Fz iv_Bz) true _ _
        refine iv_Em 16 (pc2 := 692) (lv2 := [(4, .int 0), (3, .ref 65), (2, .ref 44), (1, .ref 1), (0, .ref 0)]) (st2 := [.int (xs 3), .int (xs 2), .int (xs 1), .ref 44, .int 0]) (w2 := (iv_wd iv_Az iv_Fz iv_Bz)) rfl ?_
        refine iv_Ecall (ν := 179) (c := 4) (as := [.ref 44, .int (xs 1), .int (xs 2), .int (xs 3)]) (rest := [.int 0]) (w2 := (iv_wd iv_Az (iv_uF iv_Fz 4400 0) iv_Bz)) (tg2 := true) (k2 := 0) (z2 := 0) (v := (some (.int 0))) rfl rfl rfl rfl rfl rfl rfl (Nat.le_of_ble_eq_true rfl) rfl ?_ ?_
        · refine iv_Gm 5 (pc2 := 7) (lv2 := [(0, .ref 44), (1, .int (xs 1)), (2, .int (xs 2)), (3, .int (xs 3))]) (st2 := [.int (xs 2), .int (xs 1)]) (w2 := (iv_wd iv_Az (iv_uF iv_Fz 4400 0) iv_Bz)) rfl ?_
          refine iv_Gcall (ν := 178) (c := 2) (as := [.int (xs 1), .int (xs 2)]) (rest := []) (w2 := (iv_wd iv_Az (iv_uF iv_Fz 4400 0) iv_Bz)) (tg2 := true) (k2 := 0) (z2 := 0) (v := (some (.int 0))) rfl rfl rfl rfl rfl rfl rfl (Nat.le_of_ble_eq_true rfl) rfl ?_ ?_
          · refine iv_Gm 1 (pc2 := 1) (lv2 := [(0, .int (xs 1)), (1, .int (xs 2))]) (st2 := [.int (xs 1)]) (w2 := (iv_wd iv_Az (iv_uF iv_Fz 4400 0) iv_Bz)) rfl ?_
            refine iv_Gbf (c := decide ((xs 1) < 0)) (p1 := 34) (p2 := 4) (lv2 := [(0, .int (xs 1)), (1, .int (xs 2))]) (st2 := []) (w2 := (iv_wd iv_Az (iv_uF iv_Fz 4400 0) iv_Bz)) rfl (decide_eq_false h2) ?_
            refine iv_Gm 2 (pc2 := 7) (lv2 := [(0, .int (xs 1)), (1, .int (xs 2))]) (st2 := [.int 31, .int (xs 1)]) (w2 := (iv_wd iv_Az (iv_uF iv_Fz 4400 0) iv_Bz)) rfl ?_
            refine iv_Gbt (c := decide (31 < (xs 1))) (p1 := 34) (p2 := 10) (lv2 := [(0, .int (xs 1)), (1, .int (xs 2))]) (st2 := []) (w2 := (iv_wd iv_Az (iv_uF iv_Fz 4400 0) iv_Bz)) rfl (decide_eq_true ((iv_lg2 (by decide)).mpr h3)) ?_
            refine iv_Gm 1 (pc2 := 35) (lv2 := [(0, .int (xs 1)), (1, .int (xs 2))]) (st2 := [.int 0]) (w2 := (iv_wd iv_Az (iv_uF iv_Fz 4400 0) iv_Bz)) rfl ?_
            exact iv_Gret rfl rfl rfl
          show iv_G _ _ _ _ 10 [(0, .ref 44), (1, .int (xs 1)), (2, .int (xs 2)), (3, .int (xs 3))] [.int 0] (iv_wd iv_Az (iv_uF iv_Fz 4400 0) iv_Bz) true _ _ _
          refine iv_Gm 2 (pc2 := 25) (lv2 := [(0, .ref 44), (1, .int (xs 1)), (2, .int (xs 2)), (3, .int (xs 3))]) (st2 := [.int 0]) (w2 := (iv_wd iv_Az (iv_uF iv_Fz 4400 0) iv_Bz)) rfl ?_
          exact iv_Gret rfl rfl rfl
        show iv_Fin _ _ _ _ 695 [(4, .int 0), (3, .ref 65), (2, .ref 44), (1, .ref 1), (0, .ref 0)] [.int 0, .int 0] (iv_wd iv_Az (iv_uF iv_Fz 4400 0) iv_Bz) true _ _
        refine iv_Em 10 (pc2 := 788) (lv2 := [(4, .int 6), (3, .ref 65), (2, .ref 44), (1, .ref 1), (0, .ref 0)]) (st2 := [.int 1]) (w2 := (iv_wd iv_Az (iv_uF iv_Fz 4400 0) iv_Bz)) rfl ?_
        exact iv_Eret rfl rfl rfl (by decide) (by decide)
  · by_cases h8 : (xs 3) < 256
    · by_cases h9 : (xs 1) = 0
      · by_cases h10 : (xs 2) < 0
        · refine iv_Em 11 (pc2 := 40) (lv2 := [(4, .int 0), (3, .ref 65), (2, .ref 44), (1, .ref 1), (0, .ref 0)]) (st2 := [.int ((xs 0) &&& 15)]) (w2 := (iv_wd iv_Az iv_Fz iv_Bz)) rfl ?_
          refine iv_Esw rfl rfl (show iv_sw 40 _ _ _ _ _ = some 651 by rw [h0]; rfl) ?_
          refine iv_Em 6 (pc2 := 658) (lv2 := [(4, .int 0), (3, .ref 65), (2, .ref 44), (1, .ref 1), (0, .ref 0)]) (st2 := [.int (xs 1), .ref 1]) (w2 := (iv_wd iv_Az iv_Fz iv_Bz)) rfl ?_
          rw [h9]
          refine iv_Em 10 (pc2 := 670) (lv2 := [(4, .int 0), (3, .ref 65), (2, .ref 44), (1, .ref 1), (0, .ref 0)]) (st2 := [.int (xs 3), .int (xs 2), .int 0, .ref 1]) (w2 := (iv_wd iv_Az iv_Fz iv_Bz)) rfl ?_
          refine iv_Ecall (ν := 13) (c := 4) (as := [.ref 1, .int 0, .int (xs 2), .int (xs 3)]) (rest := []) (w2 := (iv_wd iv_Az iv_Fz iv_Bz)) (tg2 := true) (k2 := 0) (z2 := 0) (v := (some (.int 0))) rfl rfl rfl rfl rfl rfl rfl (Nat.le_of_ble_eq_true rfl) rfl ?_ ?_
          · refine iv_Gm 1 (pc2 := 1) (lv2 := [(0, .ref 1), (1, .int 0), (2, .int (xs 2)), (3, .int (xs 3))]) (st2 := [.int (xs 3)]) (w2 := (iv_wd iv_Az iv_Fz iv_Bz)) rfl ?_
            refine iv_Gcall (ν := 24) (c := 1) (as := [.int (xs 3)]) (rest := []) (w2 := (iv_wd iv_Az iv_Fz iv_Bz)) (tg2 := true) (k2 := 0) (z2 := 0) (v := (some (.int 1))) rfl rfl rfl rfl rfl rfl rfl (Nat.le_of_ble_eq_true rfl) rfl ?_ ?_
            · refine iv_Gm 1 (pc2 := 1) (lv2 := [(0, .int (xs 3))]) (st2 := [.int (xs 3)]) (w2 := (iv_wd iv_Az iv_Fz iv_Bz)) rfl ?_
              refine iv_Gbf (c := decide ((xs 3) < 0)) (p1 := 15) (p2 := 4) (lv2 := [(0, .int (xs 3))]) (st2 := []) (w2 := (iv_wd iv_Az iv_Fz iv_Bz)) rfl (decide_eq_false h1) ?_
              refine iv_Gm 2 (pc2 := 8) (lv2 := [(0, .int (xs 3))]) (st2 := [.int 255, .int (xs 3)]) (w2 := (iv_wd iv_Az iv_Fz iv_Bz)) rfl ?_
              refine iv_Gbf (c := decide (255 < (xs 3))) (p1 := 15) (p2 := 11) (lv2 := [(0, .int (xs 3))]) (st2 := []) (w2 := (iv_wd iv_Az iv_Fz iv_Bz)) rfl (decide_eq_false (fun q => (iv_lg2 (by decide)).mp q h8)) ?_
              refine iv_Gm 2 (pc2 := 16) (lv2 := [(0, .int (xs 3))]) (st2 := [.int 1]) (w2 := (iv_wd iv_Az iv_Fz iv_Bz)) rfl ?_
              exact iv_Gret rfl rfl rfl
            show iv_G _ _ _ _ 4 [(0, .ref 1), (1, .int 0), (2, .int (xs 2)), (3, .int (xs 3))] [.int 1] (iv_wd iv_Az iv_Fz iv_Bz) true _ _ _
            refine iv_Gm 3 (pc2 := 11) (lv2 := [(0, .ref 1), (1, .int 0), (2, .int (xs 2)), (3, .int (xs 3))]) (st2 := [.int (xs 2), .int 0]) (w2 := (iv_wd iv_Az iv_Fz iv_Bz)) rfl ?_
            refine iv_Gcall (ν := 26) (c := 2) (as := [.int 0, .int (xs 2)]) (rest := []) (w2 := (iv_wd iv_Az iv_Fz iv_Bz)) (tg2 := true) (k2 := 0) (z2 := 0) (v := (some (.int 0))) rfl rfl rfl rfl rfl rfl rfl (Nat.le_of_ble_eq_true rfl) rfl ?_ ?_
            · refine iv_Gm 3 (pc2 := 10) (lv2 := [(0, .int 0), (1, .int (xs 2))]) (st2 := [.int (xs 2)]) (w2 := (iv_wd iv_Az iv_Fz iv_Bz)) rfl ?_
              refine iv_Gbt (c := decide ((xs 2) < 0)) (p1 := 23) (p2 := 13) (lv2 := [(0, .int 0), (1, .int (xs 2))]) (st2 := []) (w2 := (iv_wd iv_Az iv_Fz iv_Bz)) rfl (decide_eq_true h10) ?_
              refine iv_Gm 1 (pc2 := 24) (lv2 := [(0, .int 0), (1, .int (xs 2))]) (st2 := [.int 0]) (w2 := (iv_wd iv_Az iv_Fz iv_Bz)) rfl ?_
              exact iv_Gret rfl rfl rfl
            show iv_G _ _ _ _ 14 [(0, .ref 1), (1, .int 0), (2, .int (xs 2)), (3, .int (xs 3))] [.int 0] (iv_wd iv_Az iv_Fz iv_Bz) true _ _ _
            refine iv_Gm 3 (pc2 := 31) (lv2 := [(0, .ref 1), (1, .int 0), (2, .int (xs 2)), (3, .int (xs 3))]) (st2 := [.int (xs 2), .int 0]) (w2 := (iv_wd iv_Az iv_Fz iv_Bz)) rfl ?_
            refine iv_Gcall (ν := 27) (c := 2) (as := [.int 0, .int (xs 2)]) (rest := []) (w2 := (iv_wd iv_Az iv_Fz iv_Bz)) (tg2 := true) (k2 := 0) (z2 := 0) (v := (some (.int 0))) rfl rfl rfl rfl rfl rfl rfl (Nat.le_of_ble_eq_true rfl) rfl ?_ ?_
            · exact ⟨12, rfl⟩
            show iv_G _ _ _ _ 34 [(0, .ref 1), (1, .int 0), (2, .int (xs 2)), (3, .int (xs 3))] [.int 0] (iv_wd iv_Az iv_Fz iv_Bz) true _ _ _
            refine iv_Gm 2 (pc2 := 50) (lv2 := [(0, .ref 1), (1, .int 0), (2, .int (xs 2)), (3, .int (xs 3))]) (st2 := [.int 0]) (w2 := (iv_wd iv_Az iv_Fz iv_Bz)) rfl ?_
            exact iv_Gret rfl rfl rfl
          show iv_Fin _ _ _ _ 673 [(4, .int 0), (3, .ref 65), (2, .ref 44), (1, .ref 1), (0, .ref 0)] [.int 0] (iv_wd iv_Az iv_Fz iv_Bz) true _ _
          refine iv_Em 6 (pc2 := 680) (lv2 := [(4, .int 0), (3, .ref 65), (2, .ref 44), (1, .ref 1), (0, .ref 0)]) (st2 := [.int (xs 1), .ref 44, .int 0]) (w2 := (iv_wd iv_Az iv_Fz iv_Bz)) rfl ?_
          rw [h9]
          refine iv_Em 10 (pc2 := 692) (lv2 := [(4, .int 0), (3, .ref 65), (2, .ref 44), (1, .ref 1), (0, .ref 0)]) (st2 := [.int (xs 3), .int (xs 2), .int 0, .ref 44, .int 0]) (w2 := (iv_wd iv_Az iv_Fz iv_Bz)) rfl ?_
          refine iv_Ecall (ν := 179) (c := 4) (as := [.ref 44, .int 0, .int (xs 2), .int (xs 3)]) (rest := [.int 0]) (w2 := (iv_wd iv_Az (iv_uF iv_Fz 4400 0) iv_Bz)) (tg2 := true) (k2 := 0) (z2 := 0) (v := (some (.int 0))) rfl rfl rfl rfl rfl rfl rfl (Nat.le_of_ble_eq_true rfl) rfl ?_ ?_
          · refine iv_Gm 5 (pc2 := 7) (lv2 := [(0, .ref 44), (1, .int 0), (2, .int (xs 2)), (3, .int (xs 3))]) (st2 := [.int (xs 2), .int 0]) (w2 := (iv_wd iv_Az (iv_uF iv_Fz 4400 0) iv_Bz)) rfl ?_
            refine iv_Gcall (ν := 178) (c := 2) (as := [.int 0, .int (xs 2)]) (rest := []) (w2 := (iv_wd iv_Az (iv_uF iv_Fz 4400 0) iv_Bz)) (tg2 := true) (k2 := 0) (z2 := 0) (v := (some (.int 0))) rfl rfl rfl rfl rfl rfl rfl (Nat.le_of_ble_eq_true rfl) rfl ?_ ?_
            · refine iv_Gm 6 (pc2 := 11) (lv2 := [(0, .int 0), (1, .int (xs 2))]) (st2 := [.int (xs 2)]) (w2 := (iv_wd iv_Az (iv_uF iv_Fz 4400 0) iv_Bz)) rfl ?_
              refine iv_Gbt (c := decide ((xs 2) < 0)) (p1 := 34) (p2 := 14) (lv2 := [(0, .int 0), (1, .int (xs 2))]) (st2 := []) (w2 := (iv_wd iv_Az (iv_uF iv_Fz 4400 0) iv_Bz)) rfl (decide_eq_true h10) ?_
              refine iv_Gm 1 (pc2 := 35) (lv2 := [(0, .int 0), (1, .int (xs 2))]) (st2 := [.int 0]) (w2 := (iv_wd iv_Az (iv_uF iv_Fz 4400 0) iv_Bz)) rfl ?_
              exact iv_Gret rfl rfl rfl
            show iv_G _ _ _ _ 10 [(0, .ref 44), (1, .int 0), (2, .int (xs 2)), (3, .int (xs 3))] [.int 0] (iv_wd iv_Az (iv_uF iv_Fz 4400 0) iv_Bz) true _ _ _
            refine iv_Gm 2 (pc2 := 25) (lv2 := [(0, .ref 44), (1, .int 0), (2, .int (xs 2)), (3, .int (xs 3))]) (st2 := [.int 0]) (w2 := (iv_wd iv_Az (iv_uF iv_Fz 4400 0) iv_Bz)) rfl ?_
            exact iv_Gret rfl rfl rfl
          show iv_Fin _ _ _ _ 695 [(4, .int 0), (3, .ref 65), (2, .ref 44), (1, .ref 1), (0, .ref 0)] [.int 0, .int 0] (iv_wd iv_Az (iv_uF iv_Fz 4400 0) iv_Bz) true _ _
          refine iv_Em 10 (pc2 := 788) (lv2 := [(4, .int 6), (3, .ref 65), (2, .ref 44), (1, .ref 1), (0, .ref 0)]) (st2 := [.int 1]) (w2 := (iv_wd iv_Az (iv_uF iv_Fz 4400 0) iv_Bz)) rfl ?_
          exact iv_Eret rfl rfl rfl (by decide) (by decide)
        · by_cases h11 : (xs 2) < 32
          · refine iv_Em 11 (pc2 := 40) (lv2 := [(4, .int 0), (3, .ref 65), (2, .ref 44), (1, .ref 1), (0, .ref 0)]) (st2 := [.int ((xs 0) &&& 15)]) (w2 := (iv_wd iv_Az iv_Fz iv_Bz)) rfl ?_
            refine iv_Esw rfl rfl (show iv_sw 40 _ _ _ _ _ = some 651 by rw [h0]; rfl) ?_
            refine iv_Em 6 (pc2 := 658) (lv2 := [(4, .int 0), (3, .ref 65), (2, .ref 44), (1, .ref 1), (0, .ref 0)]) (st2 := [.int (xs 1), .ref 1]) (w2 := (iv_wd iv_Az iv_Fz iv_Bz)) rfl ?_
            rw [h9]
            refine iv_Em 10 (pc2 := 670) (lv2 := [(4, .int 0), (3, .ref 65), (2, .ref 44), (1, .ref 1), (0, .ref 0)]) (st2 := [.int (xs 3), .int (xs 2), .int 0, .ref 1]) (w2 := (iv_wd iv_Az iv_Fz iv_Bz)) rfl ?_
            refine iv_Ecall (ν := 13) (c := 4) (as := [.ref 1, .int 0, .int (xs 2), .int (xs 3)]) (rest := []) (w2 := (iv_wd (iv_uA iv_Az 4 (Int32.toNatClampNeg (0 + (xs 2))) (xs 3)) iv_Fz iv_Bz)) (tg2 := true) (k2 := 0) (z2 := 0) (v := (some (.int 1))) rfl rfl rfl rfl rfl rfl rfl (Nat.le_of_ble_eq_true rfl) rfl ?_ ?_
            · refine iv_Gm 1 (pc2 := 1) (lv2 := [(0, .ref 1), (1, .int 0), (2, .int (xs 2)), (3, .int (xs 3))]) (st2 := [.int (xs 3)]) (w2 := (iv_wd iv_Az iv_Fz iv_Bz)) rfl ?_
              refine iv_Gcall (ν := 24) (c := 1) (as := [.int (xs 3)]) (rest := []) (w2 := (iv_wd iv_Az iv_Fz iv_Bz)) (tg2 := true) (k2 := 0) (z2 := 0) (v := (some (.int 1))) rfl rfl rfl rfl rfl rfl rfl (Nat.le_of_ble_eq_true rfl) rfl ?_ ?_
              · refine iv_Gm 1 (pc2 := 1) (lv2 := [(0, .int (xs 3))]) (st2 := [.int (xs 3)]) (w2 := (iv_wd iv_Az iv_Fz iv_Bz)) rfl ?_
                refine iv_Gbf (c := decide ((xs 3) < 0)) (p1 := 15) (p2 := 4) (lv2 := [(0, .int (xs 3))]) (st2 := []) (w2 := (iv_wd iv_Az iv_Fz iv_Bz)) rfl (decide_eq_false h1) ?_
                refine iv_Gm 2 (pc2 := 8) (lv2 := [(0, .int (xs 3))]) (st2 := [.int 255, .int (xs 3)]) (w2 := (iv_wd iv_Az iv_Fz iv_Bz)) rfl ?_
                refine iv_Gbf (c := decide (255 < (xs 3))) (p1 := 15) (p2 := 11) (lv2 := [(0, .int (xs 3))]) (st2 := []) (w2 := (iv_wd iv_Az iv_Fz iv_Bz)) rfl (decide_eq_false (fun q => (iv_lg2 (by decide)).mp q h8)) ?_
                refine iv_Gm 2 (pc2 := 16) (lv2 := [(0, .int (xs 3))]) (st2 := [.int 1]) (w2 := (iv_wd iv_Az iv_Fz iv_Bz)) rfl ?_
                exact iv_Gret rfl rfl rfl
              show iv_G _ _ _ _ 4 [(0, .ref 1), (1, .int 0), (2, .int (xs 2)), (3, .int (xs 3))] [.int 1] (iv_wd iv_Az iv_Fz iv_Bz) true _ _ _
              refine iv_Gm 3 (pc2 := 11) (lv2 := [(0, .ref 1), (1, .int 0), (2, .int (xs 2)), (3, .int (xs 3))]) (st2 := [.int (xs 2), .int 0]) (w2 := (iv_wd iv_Az iv_Fz iv_Bz)) rfl ?_
              refine iv_Gcall (ν := 26) (c := 2) (as := [.int 0, .int (xs 2)]) (rest := []) (w2 := (iv_wd iv_Az iv_Fz iv_Bz)) (tg2 := true) (k2 := 0) (z2 := 0) (v := (some (.int 1))) rfl rfl rfl rfl rfl rfl rfl (Nat.le_of_ble_eq_true rfl) rfl ?_ ?_
              · refine iv_Gm 3 (pc2 := 10) (lv2 := [(0, .int 0), (1, .int (xs 2))]) (st2 := [.int (xs 2)]) (w2 := (iv_wd iv_Az iv_Fz iv_Bz)) rfl ?_
                refine iv_Gbf (c := decide ((xs 2) < 0)) (p1 := 23) (p2 := 13) (lv2 := [(0, .int 0), (1, .int (xs 2))]) (st2 := []) (w2 := (iv_wd iv_Az iv_Fz iv_Bz)) rfl (decide_eq_false h10) ?_
                refine iv_Gm 2 (pc2 := 16) (lv2 := [(0, .int 0), (1, .int (xs 2))]) (st2 := [.int 32, .int (xs 2)]) (w2 := (iv_wd iv_Az iv_Fz iv_Bz)) rfl ?_
                refine iv_Gbf (c := decide (32 ≤ (xs 2))) (p1 := 23) (p2 := 19) (lv2 := [(0, .int 0), (1, .int (xs 2))]) (st2 := []) (w2 := (iv_wd iv_Az iv_Fz iv_Bz)) rfl (decide_eq_false (Int32.not_le.mpr h11)) ?_
                refine iv_Gm 2 (pc2 := 24) (lv2 := [(0, .int 0), (1, .int (xs 2))]) (st2 := [.int 1]) (w2 := (iv_wd iv_Az iv_Fz iv_Bz)) rfl ?_
                exact iv_Gret rfl rfl rfl
              show iv_G _ _ _ _ 14 [(0, .ref 1), (1, .int 0), (2, .int (xs 2)), (3, .int (xs 3))] [.int 1] (iv_wd iv_Az iv_Fz iv_Bz) true _ _ _
              refine iv_Gm 6 (pc2 := 24) (lv2 := [(0, .ref 1), (1, .int 0), (2, .int (xs 2)), (3, .int (xs 3))]) (st2 := [.int (xs 3), .int (xs 2), .int 0, .ref 2]) (w2 := (iv_wd iv_Az iv_Fz iv_Bz)) rfl ?_
              refine iv_Gcall (ν := 63) (c := 4) (as := [.ref 2, .int 0, .int (xs 2), .int (xs 3)]) (rest := []) (w2 := (iv_wd (iv_uA iv_Az 4 (Int32.toNatClampNeg (0 + (xs 2))) (xs 3)) iv_Fz iv_Bz)) (tg2 := true) (k2 := 0) (z2 := 0) (v := none) rfl rfl rfl rfl rfl rfl rfl (Nat.le_of_ble_eq_true rfl) rfl ?_ ?_
              · refine iv_Gm 8 (pc2 := 11) (lv2 := [(0, .ref 2), (1, .int 0), (2, .int (xs 2)), (3, .int (xs 3))]) (st2 := [.int (xs 3), .int (0 + (xs 2)), .ref 4]) (w2 := (iv_wd iv_Az iv_Fz iv_Bz)) rfl ?_
                refine iv_Gif (pc2 := 12) (lv2 := [(0, .ref 2), (1, .int 0), (2, .int (xs 2)), (3, .int (xs 3))]) (st2 := []) (w2 := (iv_wd (iv_uA iv_Az 4 (Int32.toNatClampNeg (0 + (xs 2))) (xs 3)) iv_Fz iv_Bz)) rfl (iv_in_0 (iv_in_a h10 h11 (by decide) (by decide))) ?_
                exact iv_Gret rfl rfl rfl
              show iv_G _ _ _ _ 27 [(0, .ref 1), (1, .int 0), (2, .int (xs 2)), (3, .int (xs 3))] [] (iv_wd (iv_uA iv_Az 4 (Int32.toNatClampNeg (0 + (xs 2))) (xs 3)) iv_Fz iv_Bz) true _ _ _
              refine iv_Gm 1 (pc2 := 28) (lv2 := [(0, .ref 1), (1, .int 0), (2, .int (xs 2)), (3, .int (xs 3))]) (st2 := [.int 1]) (w2 := (iv_wd (iv_uA iv_Az 4 (Int32.toNatClampNeg (0 + (xs 2))) (xs 3)) iv_Fz iv_Bz)) rfl ?_
              exact iv_Gret rfl rfl rfl
            show iv_Fin _ _ _ _ 673 [(4, .int 0), (3, .ref 65), (2, .ref 44), (1, .ref 1), (0, .ref 0)] [.int 1] (iv_wd (iv_uA iv_Az 4 (Int32.toNatClampNeg (0 + (xs 2))) (xs 3)) iv_Fz iv_Bz) true _ _
            refine iv_Em 6 (pc2 := 680) (lv2 := [(4, .int 0), (3, .ref 65), (2, .ref 44), (1, .ref 1), (0, .ref 0)]) (st2 := [.int (xs 1), .ref 44, .int 1]) (w2 := (iv_wd (iv_uA iv_Az 4 (Int32.toNatClampNeg (0 + (xs 2))) (xs 3)) iv_Fz iv_Bz)) rfl ?_
            rw [h9]
            refine iv_Em 10 (pc2 := 692) (lv2 := [(4, .int 0), (3, .ref 65), (2, .ref 44), (1, .ref 1), (0, .ref 0)]) (st2 := [.int (xs 3), .int (xs 2), .int 0, .ref 44, .int 1]) (w2 := (iv_wd (iv_uA iv_Az 4 (Int32.toNatClampNeg (0 + (xs 2))) (xs 3)) iv_Fz iv_Bz)) rfl ?_
            refine iv_Ecall (ν := 179) (c := 4) (as := [.ref 44, .int 0, .int (xs 2), .int (xs 3)]) (rest := [.int 1]) (w2 := (iv_wd (iv_uA (iv_uA iv_Az 4 (Int32.toNatClampNeg (0 + (xs 2))) (xs 3)) 46 (Int32.toNatClampNeg (0 + (xs 2))) (xs 3)) (iv_uF iv_Fz 4400 0) iv_Bz)) (tg2 := true) (k2 := 0) (z2 := 0) (v := (some (.int 1))) rfl rfl rfl rfl rfl rfl rfl (Nat.le_of_ble_eq_true rfl) rfl ?_ ?_
            · refine iv_Gm 5 (pc2 := 7) (lv2 := [(0, .ref 44), (1, .int 0), (2, .int (xs 2)), (3, .int (xs 3))]) (st2 := [.int (xs 2), .int 0]) (w2 := (iv_wd (iv_uA iv_Az 4 (Int32.toNatClampNeg (0 + (xs 2))) (xs 3)) (iv_uF iv_Fz 4400 0) iv_Bz)) rfl ?_
              refine iv_Gcall (ν := 178) (c := 2) (as := [.int 0, .int (xs 2)]) (rest := []) (w2 := (iv_wd (iv_uA iv_Az 4 (Int32.toNatClampNeg (0 + (xs 2))) (xs 3)) (iv_uF iv_Fz 4400 0) iv_Bz)) (tg2 := true) (k2 := 0) (z2 := 0) (v := (some (.int 1))) rfl rfl rfl rfl rfl rfl rfl (Nat.le_of_ble_eq_true rfl) rfl ?_ ?_
              · refine iv_Gm 6 (pc2 := 11) (lv2 := [(0, .int 0), (1, .int (xs 2))]) (st2 := [.int (xs 2)]) (w2 := (iv_wd (iv_uA iv_Az 4 (Int32.toNatClampNeg (0 + (xs 2))) (xs 3)) (iv_uF iv_Fz 4400 0) iv_Bz)) rfl ?_
                refine iv_Gbf (c := decide ((xs 2) < 0)) (p1 := 34) (p2 := 14) (lv2 := [(0, .int 0), (1, .int (xs 2))]) (st2 := []) (w2 := (iv_wd (iv_uA iv_Az 4 (Int32.toNatClampNeg (0 + (xs 2))) (xs 3)) (iv_uF iv_Fz 4400 0) iv_Bz)) rfl (decide_eq_false h10) ?_
                refine iv_Gm 6 (pc2 := 27) (lv2 := [(0, .int 0), (1, .int (xs 2))]) (st2 := [.int 32, .int (xs 2)]) (w2 := (iv_wd (iv_uA iv_Az 4 (Int32.toNatClampNeg (0 + (xs 2))) (xs 3)) (iv_uF iv_Fz 4400 0) iv_Bz)) rfl ?_
                refine iv_Gbf (c := decide (32 ≤ (xs 2))) (p1 := 34) (p2 := 30) (lv2 := [(0, .int 0), (1, .int (xs 2))]) (st2 := []) (w2 := (iv_wd (iv_uA iv_Az 4 (Int32.toNatClampNeg (0 + (xs 2))) (xs 3)) (iv_uF iv_Fz 4400 0) iv_Bz)) rfl (decide_eq_false (Int32.not_le.mpr h11)) ?_
                refine iv_Gm 2 (pc2 := 35) (lv2 := [(0, .int 0), (1, .int (xs 2))]) (st2 := [.int 1]) (w2 := (iv_wd (iv_uA iv_Az 4 (Int32.toNatClampNeg (0 + (xs 2))) (xs 3)) (iv_uF iv_Fz 4400 0) iv_Bz)) rfl ?_
                exact iv_Gret rfl rfl rfl
              show iv_G _ _ _ _ 10 [(0, .ref 44), (1, .int 0), (2, .int (xs 2)), (3, .int (xs 3))] [.int 1] (iv_wd (iv_uA iv_Az 4 (Int32.toNatClampNeg (0 + (xs 2))) (xs 3)) (iv_uF iv_Fz 4400 0) iv_Bz) true _ _ _
              refine iv_Gm 2 (pc2 := 14) (lv2 := [(0, .ref 44), (1, .int 0), (2, .int (xs 2)), (3, .int (xs 3))]) (st2 := [.int (xs 3)]) (w2 := (iv_wd (iv_uA iv_Az 4 (Int32.toNatClampNeg (0 + (xs 2))) (xs 3)) (iv_uF iv_Fz 4400 0) iv_Bz)) rfl ?_
              refine iv_Gbf (c := decide ((xs 3) < 0)) (p1 := 24) (p2 := 17) (lv2 := [(0, .ref 44), (1, .int 0), (2, .int (xs 2)), (3, .int (xs 3))]) (st2 := []) (w2 := (iv_wd (iv_uA iv_Az 4 (Int32.toNatClampNeg (0 + (xs 2))) (xs 3)) (iv_uF iv_Fz 4400 0) iv_Bz)) rfl (decide_eq_false h1) ?_
              refine iv_Gm 2 (pc2 := 21) (lv2 := [(0, .ref 44), (1, .int 0), (2, .int (xs 2)), (3, .int (xs 3))]) (st2 := [.int 255, .int (xs 3)]) (w2 := (iv_wd (iv_uA iv_Az 4 (Int32.toNatClampNeg (0 + (xs 2))) (xs 3)) (iv_uF iv_Fz 4400 0) iv_Bz)) rfl ?_
              refine iv_Gbt (c := decide ((xs 3) ≤ 255)) (p1 := 26) (p2 := 24) (lv2 := [(0, .ref 44), (1, .int 0), (2, .int (xs 2)), (3, .int (xs 3))]) (st2 := []) (w2 := (iv_wd (iv_uA iv_Az 4 (Int32.toNatClampNeg (0 + (xs 2))) (xs 3)) (iv_uF iv_Fz 4400 0) iv_Bz)) rfl (decide_eq_true (Int32.not_lt.mp (fun q => (iv_lg2 (by decide)).mp q h8))) ?_
              refine iv_Gm 11 (pc2 := 42) (lv2 := [(0, .ref 44), (1, .int 0), (2, .int (xs 2)), (3, .int (xs 3))]) (st2 := [.int (xs 3), .int (0 + (xs 2)), .ref 46]) (w2 := (iv_wd (iv_uA iv_Az 4 (Int32.toNatClampNeg (0 + (xs 2))) (xs 3)) (iv_uF iv_Fz 4400 0) iv_Bz)) rfl ?_
              refine iv_Gif (pc2 := 43) (lv2 := [(0, .ref 44), (1, .int 0), (2, .int (xs 2)), (3, .int (xs 3))]) (st2 := []) (w2 := (iv_wd (iv_uA (iv_uA iv_Az 4 (Int32.toNatClampNeg (0 + (xs 2))) (xs 3)) 46 (Int32.toNatClampNeg (0 + (xs 2))) (xs 3)) (iv_uF iv_Fz 4400 0) iv_Bz)) rfl (iv_in_0 (iv_in_a h10 h11 (by decide) (by decide))) ?_
              refine iv_Gm 2 (pc2 := 59) (lv2 := [(0, .ref 44), (1, .int 0), (2, .int (xs 2)), (3, .int (xs 3))]) (st2 := [.int 1]) (w2 := (iv_wd (iv_uA (iv_uA iv_Az 4 (Int32.toNatClampNeg (0 + (xs 2))) (xs 3)) 46 (Int32.toNatClampNeg (0 + (xs 2))) (xs 3)) (iv_uF iv_Fz 4400 0) iv_Bz)) rfl ?_
              exact iv_Gret rfl rfl rfl
            show iv_Fin _ _ _ _ 695 [(4, .int 0), (3, .ref 65), (2, .ref 44), (1, .ref 1), (0, .ref 0)] [.int 1, .int 1] (iv_wd (iv_uA (iv_uA iv_Az 4 (Int32.toNatClampNeg (0 + (xs 2))) (xs 3)) 46 (Int32.toNatClampNeg (0 + (xs 2))) (xs 3)) (iv_uF iv_Fz 4400 0) iv_Bz) true _ _
            refine iv_Em 10 (pc2 := 788) (lv2 := [(4, .int 6), (3, .ref 65), (2, .ref 44), (1, .ref 1), (0, .ref 0)]) (st2 := [.int 1]) (w2 := (iv_wd (iv_uA (iv_uA iv_Az 4 (Int32.toNatClampNeg (0 + (xs 2))) (xs 3)) 46 (Int32.toNatClampNeg (0 + (xs 2))) (xs 3)) (iv_uF iv_Fz 4400 0) iv_Bz)) rfl ?_
            exact iv_Eret rfl rfl rfl (by decide) (by decide)
          · refine iv_Em 11 (pc2 := 40) (lv2 := [(4, .int 0), (3, .ref 65), (2, .ref 44), (1, .ref 1), (0, .ref 0)]) (st2 := [.int ((xs 0) &&& 15)]) (w2 := (iv_wd iv_Az iv_Fz iv_Bz)) rfl ?_
            refine iv_Esw rfl rfl (show iv_sw 40 _ _ _ _ _ = some 651 by rw [h0]; rfl) ?_
            refine iv_Em 6 (pc2 := 658) (lv2 := [(4, .int 0), (3, .ref 65), (2, .ref 44), (1, .ref 1), (0, .ref 0)]) (st2 := [.int (xs 1), .ref 1]) (w2 := (iv_wd iv_Az iv_Fz iv_Bz)) rfl ?_
            rw [h9]
            refine iv_Em 10 (pc2 := 670) (lv2 := [(4, .int 0), (3, .ref 65), (2, .ref 44), (1, .ref 1), (0, .ref 0)]) (st2 := [.int (xs 3), .int (xs 2), .int 0, .ref 1]) (w2 := (iv_wd iv_Az iv_Fz iv_Bz)) rfl ?_
            refine iv_Ecall (ν := 13) (c := 4) (as := [.ref 1, .int 0, .int (xs 2), .int (xs 3)]) (rest := []) (w2 := (iv_wd iv_Az iv_Fz iv_Bz)) (tg2 := true) (k2 := 0) (z2 := 0) (v := (some (.int 0))) rfl rfl rfl rfl rfl rfl rfl (Nat.le_of_ble_eq_true rfl) rfl ?_ ?_
            · refine iv_Gm 1 (pc2 := 1) (lv2 := [(0, .ref 1), (1, .int 0), (2, .int (xs 2)), (3, .int (xs 3))]) (st2 := [.int (xs 3)]) (w2 := (iv_wd iv_Az iv_Fz iv_Bz)) rfl ?_
              refine iv_Gcall (ν := 24) (c := 1) (as := [.int (xs 3)]) (rest := []) (w2 := (iv_wd iv_Az iv_Fz iv_Bz)) (tg2 := true) (k2 := 0) (z2 := 0) (v := (some (.int 1))) rfl rfl rfl rfl rfl rfl rfl (Nat.le_of_ble_eq_true rfl) rfl ?_ ?_
              · refine iv_Gm 1 (pc2 := 1) (lv2 := [(0, .int (xs 3))]) (st2 := [.int (xs 3)]) (w2 := (iv_wd iv_Az iv_Fz iv_Bz)) rfl ?_
                refine iv_Gbf (c := decide ((xs 3) < 0)) (p1 := 15) (p2 := 4) (lv2 := [(0, .int (xs 3))]) (st2 := []) (w2 := (iv_wd iv_Az iv_Fz iv_Bz)) rfl (decide_eq_false h1) ?_
                refine iv_Gm 2 (pc2 := 8) (lv2 := [(0, .int (xs 3))]) (st2 := [.int 255, .int (xs 3)]) (w2 := (iv_wd iv_Az iv_Fz iv_Bz)) rfl ?_
                refine iv_Gbf (c := decide (255 < (xs 3))) (p1 := 15) (p2 := 11) (lv2 := [(0, .int (xs 3))]) (st2 := []) (w2 := (iv_wd iv_Az iv_Fz iv_Bz)) rfl (decide_eq_false (fun q => (iv_lg2 (by decide)).mp q h8)) ?_
                refine iv_Gm 2 (pc2 := 16) (lv2 := [(0, .int (xs 3))]) (st2 := [.int 1]) (w2 := (iv_wd iv_Az iv_Fz iv_Bz)) rfl ?_
                exact iv_Gret rfl rfl rfl
              show iv_G _ _ _ _ 4 [(0, .ref 1), (1, .int 0), (2, .int (xs 2)), (3, .int (xs 3))] [.int 1] (iv_wd iv_Az iv_Fz iv_Bz) true _ _ _
              refine iv_Gm 3 (pc2 := 11) (lv2 := [(0, .ref 1), (1, .int 0), (2, .int (xs 2)), (3, .int (xs 3))]) (st2 := [.int (xs 2), .int 0]) (w2 := (iv_wd iv_Az iv_Fz iv_Bz)) rfl ?_
              refine iv_Gcall (ν := 26) (c := 2) (as := [.int 0, .int (xs 2)]) (rest := []) (w2 := (iv_wd iv_Az iv_Fz iv_Bz)) (tg2 := true) (k2 := 0) (z2 := 0) (v := (some (.int 0))) rfl rfl rfl rfl rfl rfl rfl (Nat.le_of_ble_eq_true rfl) rfl ?_ ?_
              · refine iv_Gm 3 (pc2 := 10) (lv2 := [(0, .int 0), (1, .int (xs 2))]) (st2 := [.int (xs 2)]) (w2 := (iv_wd iv_Az iv_Fz iv_Bz)) rfl ?_
                refine iv_Gbf (c := decide ((xs 2) < 0)) (p1 := 23) (p2 := 13) (lv2 := [(0, .int 0), (1, .int (xs 2))]) (st2 := []) (w2 := (iv_wd iv_Az iv_Fz iv_Bz)) rfl (decide_eq_false h10) ?_
                refine iv_Gm 2 (pc2 := 16) (lv2 := [(0, .int 0), (1, .int (xs 2))]) (st2 := [.int 32, .int (xs 2)]) (w2 := (iv_wd iv_Az iv_Fz iv_Bz)) rfl ?_
                refine iv_Gbt (c := decide (32 ≤ (xs 2))) (p1 := 23) (p2 := 19) (lv2 := [(0, .int 0), (1, .int (xs 2))]) (st2 := []) (w2 := (iv_wd iv_Az iv_Fz iv_Bz)) rfl (decide_eq_true (Int32.not_lt.mp h11)) ?_
                refine iv_Gm 1 (pc2 := 24) (lv2 := [(0, .int 0), (1, .int (xs 2))]) (st2 := [.int 0]) (w2 := (iv_wd iv_Az iv_Fz iv_Bz)) rfl ?_
                exact iv_Gret rfl rfl rfl
              show iv_G _ _ _ _ 14 [(0, .ref 1), (1, .int 0), (2, .int (xs 2)), (3, .int (xs 3))] [.int 0] (iv_wd iv_Az iv_Fz iv_Bz) true _ _ _
              refine iv_Gm 3 (pc2 := 31) (lv2 := [(0, .ref 1), (1, .int 0), (2, .int (xs 2)), (3, .int (xs 3))]) (st2 := [.int (xs 2), .int 0]) (w2 := (iv_wd iv_Az iv_Fz iv_Bz)) rfl ?_
              refine iv_Gcall (ν := 27) (c := 2) (as := [.int 0, .int (xs 2)]) (rest := []) (w2 := (iv_wd iv_Az iv_Fz iv_Bz)) (tg2 := true) (k2 := 0) (z2 := 0) (v := (some (.int 0))) rfl rfl rfl rfl rfl rfl rfl (Nat.le_of_ble_eq_true rfl) rfl ?_ ?_
              · exact ⟨12, rfl⟩
              show iv_G _ _ _ _ 34 [(0, .ref 1), (1, .int 0), (2, .int (xs 2)), (3, .int (xs 3))] [.int 0] (iv_wd iv_Az iv_Fz iv_Bz) true _ _ _
              refine iv_Gm 2 (pc2 := 50) (lv2 := [(0, .ref 1), (1, .int 0), (2, .int (xs 2)), (3, .int (xs 3))]) (st2 := [.int 0]) (w2 := (iv_wd iv_Az iv_Fz iv_Bz)) rfl ?_
              exact iv_Gret rfl rfl rfl
            show iv_Fin _ _ _ _ 673 [(4, .int 0), (3, .ref 65), (2, .ref 44), (1, .ref 1), (0, .ref 0)] [.int 0] (iv_wd iv_Az iv_Fz iv_Bz) true _ _
            refine iv_Em 6 (pc2 := 680) (lv2 := [(4, .int 0), (3, .ref 65), (2, .ref 44), (1, .ref 1), (0, .ref 0)]) (st2 := [.int (xs 1), .ref 44, .int 0]) (w2 := (iv_wd iv_Az iv_Fz iv_Bz)) rfl ?_
            rw [h9]
            refine iv_Em 10 (pc2 := 692) (lv2 := [(4, .int 0), (3, .ref 65), (2, .ref 44), (1, .ref 1), (0, .ref 0)]) (st2 := [.int (xs 3), .int (xs 2), .int 0, .ref 44, .int 0]) (w2 := (iv_wd iv_Az iv_Fz iv_Bz)) rfl ?_
            refine iv_Ecall (ν := 179) (c := 4) (as := [.ref 44, .int 0, .int (xs 2), .int (xs 3)]) (rest := [.int 0]) (w2 := (iv_wd iv_Az (iv_uF iv_Fz 4400 0) iv_Bz)) (tg2 := true) (k2 := 0) (z2 := 0) (v := (some (.int 0))) rfl rfl rfl rfl rfl rfl rfl (Nat.le_of_ble_eq_true rfl) rfl ?_ ?_
            · refine iv_Gm 5 (pc2 := 7) (lv2 := [(0, .ref 44), (1, .int 0), (2, .int (xs 2)), (3, .int (xs 3))]) (st2 := [.int (xs 2), .int 0]) (w2 := (iv_wd iv_Az (iv_uF iv_Fz 4400 0) iv_Bz)) rfl ?_
              refine iv_Gcall (ν := 178) (c := 2) (as := [.int 0, .int (xs 2)]) (rest := []) (w2 := (iv_wd iv_Az (iv_uF iv_Fz 4400 0) iv_Bz)) (tg2 := true) (k2 := 0) (z2 := 0) (v := (some (.int 0))) rfl rfl rfl rfl rfl rfl rfl (Nat.le_of_ble_eq_true rfl) rfl ?_ ?_
              · refine iv_Gm 6 (pc2 := 11) (lv2 := [(0, .int 0), (1, .int (xs 2))]) (st2 := [.int (xs 2)]) (w2 := (iv_wd iv_Az (iv_uF iv_Fz 4400 0) iv_Bz)) rfl ?_
                refine iv_Gbf (c := decide ((xs 2) < 0)) (p1 := 34) (p2 := 14) (lv2 := [(0, .int 0), (1, .int (xs 2))]) (st2 := []) (w2 := (iv_wd iv_Az (iv_uF iv_Fz 4400 0) iv_Bz)) rfl (decide_eq_false h10) ?_
                refine iv_Gm 6 (pc2 := 27) (lv2 := [(0, .int 0), (1, .int (xs 2))]) (st2 := [.int 32, .int (xs 2)]) (w2 := (iv_wd iv_Az (iv_uF iv_Fz 4400 0) iv_Bz)) rfl ?_
                refine iv_Gbt (c := decide (32 ≤ (xs 2))) (p1 := 34) (p2 := 30) (lv2 := [(0, .int 0), (1, .int (xs 2))]) (st2 := []) (w2 := (iv_wd iv_Az (iv_uF iv_Fz 4400 0) iv_Bz)) rfl (decide_eq_true (Int32.not_lt.mp h11)) ?_
                refine iv_Gm 1 (pc2 := 35) (lv2 := [(0, .int 0), (1, .int (xs 2))]) (st2 := [.int 0]) (w2 := (iv_wd iv_Az (iv_uF iv_Fz 4400 0) iv_Bz)) rfl ?_
                exact iv_Gret rfl rfl rfl
              show iv_G _ _ _ _ 10 [(0, .ref 44), (1, .int 0), (2, .int (xs 2)), (3, .int (xs 3))] [.int 0] (iv_wd iv_Az (iv_uF iv_Fz 4400 0) iv_Bz) true _ _ _
              refine iv_Gm 2 (pc2 := 25) (lv2 := [(0, .ref 44), (1, .int 0), (2, .int (xs 2)), (3, .int (xs 3))]) (st2 := [.int 0]) (w2 := (iv_wd iv_Az (iv_uF iv_Fz 4400 0) iv_Bz)) rfl ?_
              exact iv_Gret rfl rfl rfl
            show iv_Fin _ _ _ _ 695 [(4, .int 0), (3, .ref 65), (2, .ref 44), (1, .ref 1), (0, .ref 0)] [.int 0, .int 0] (iv_wd iv_Az (iv_uF iv_Fz 4400 0) iv_Bz) true _ _
            refine iv_Em 10 (pc2 := 788) (lv2 := [(4, .int 6), (3, .ref 65), (2, .ref 44), (1, .ref 1), (0, .ref 0)]) (st2 := [.int 1]) (w2 := (iv_wd iv_Az (iv_uF iv_Fz 4400 0) iv_Bz)) rfl ?_
            exact iv_Eret rfl rfl rfl (by decide) (by decide)
      · by_cases h12 : (xs 1) = 1
        · by_cases h13 : (xs 2) < 0
          · refine iv_Em 11 (pc2 := 40) (lv2 := [(4, .int 0), (3, .ref 65), (2, .ref 44), (1, .ref 1), (0, .ref 0)]) (st2 := [.int ((xs 0) &&& 15)]) (w2 := (iv_wd iv_Az iv_Fz iv_Bz)) rfl ?_
            refine iv_Esw rfl rfl (show iv_sw 40 _ _ _ _ _ = some 651 by rw [h0]; rfl) ?_
            refine iv_Em 6 (pc2 := 658) (lv2 := [(4, .int 0), (3, .ref 65), (2, .ref 44), (1, .ref 1), (0, .ref 0)]) (st2 := [.int (xs 1), .ref 1]) (w2 := (iv_wd iv_Az iv_Fz iv_Bz)) rfl ?_
            rw [h12]
            refine iv_Em 10 (pc2 := 670) (lv2 := [(4, .int 0), (3, .ref 65), (2, .ref 44), (1, .ref 1), (0, .ref 0)]) (st2 := [.int (xs 3), .int (xs 2), .int 1, .ref 1]) (w2 := (iv_wd iv_Az iv_Fz iv_Bz)) rfl ?_
            refine iv_Ecall (ν := 13) (c := 4) (as := [.ref 1, .int 1, .int (xs 2), .int (xs 3)]) (rest := []) (w2 := (iv_wd iv_Az iv_Fz iv_Bz)) (tg2 := true) (k2 := 0) (z2 := 0) (v := (some (.int 0))) rfl rfl rfl rfl rfl rfl rfl (Nat.le_of_ble_eq_true rfl) rfl ?_ ?_
            · refine iv_Gm 1 (pc2 := 1) (lv2 := [(0, .ref 1), (1, .int 1), (2, .int (xs 2)), (3, .int (xs 3))]) (st2 := [.int (xs 3)]) (w2 := (iv_wd iv_Az iv_Fz iv_Bz)) rfl ?_
              refine iv_Gcall (ν := 24) (c := 1) (as := [.int (xs 3)]) (rest := []) (w2 := (iv_wd iv_Az iv_Fz iv_Bz)) (tg2 := true) (k2 := 0) (z2 := 0) (v := (some (.int 1))) rfl rfl rfl rfl rfl rfl rfl (Nat.le_of_ble_eq_true rfl) rfl ?_ ?_
              · refine iv_Gm 1 (pc2 := 1) (lv2 := [(0, .int (xs 3))]) (st2 := [.int (xs 3)]) (w2 := (iv_wd iv_Az iv_Fz iv_Bz)) rfl ?_
                refine iv_Gbf (c := decide ((xs 3) < 0)) (p1 := 15) (p2 := 4) (lv2 := [(0, .int (xs 3))]) (st2 := []) (w2 := (iv_wd iv_Az iv_Fz iv_Bz)) rfl (decide_eq_false h1) ?_
                refine iv_Gm 2 (pc2 := 8) (lv2 := [(0, .int (xs 3))]) (st2 := [.int 255, .int (xs 3)]) (w2 := (iv_wd iv_Az iv_Fz iv_Bz)) rfl ?_
                refine iv_Gbf (c := decide (255 < (xs 3))) (p1 := 15) (p2 := 11) (lv2 := [(0, .int (xs 3))]) (st2 := []) (w2 := (iv_wd iv_Az iv_Fz iv_Bz)) rfl (decide_eq_false (fun q => (iv_lg2 (by decide)).mp q h8)) ?_
                refine iv_Gm 2 (pc2 := 16) (lv2 := [(0, .int (xs 3))]) (st2 := [.int 1]) (w2 := (iv_wd iv_Az iv_Fz iv_Bz)) rfl ?_
                exact iv_Gret rfl rfl rfl
              show iv_G _ _ _ _ 4 [(0, .ref 1), (1, .int 1), (2, .int (xs 2)), (3, .int (xs 3))] [.int 1] (iv_wd iv_Az iv_Fz iv_Bz) true _ _ _
              refine iv_Gm 3 (pc2 := 11) (lv2 := [(0, .ref 1), (1, .int 1), (2, .int (xs 2)), (3, .int (xs 3))]) (st2 := [.int (xs 2), .int 1]) (w2 := (iv_wd iv_Az iv_Fz iv_Bz)) rfl ?_
              refine iv_Gcall (ν := 26) (c := 2) (as := [.int 1, .int (xs 2)]) (rest := []) (w2 := (iv_wd iv_Az iv_Fz iv_Bz)) (tg2 := true) (k2 := 0) (z2 := 0) (v := (some (.int 0))) rfl rfl rfl rfl rfl rfl rfl (Nat.le_of_ble_eq_true rfl) rfl ?_ ?_
              · refine iv_Gm 6 (pc2 := 10) (lv2 := [(0, .int 1), (1, .int (xs 2))]) (st2 := [.int (xs 2)]) (w2 := (iv_wd iv_Az iv_Fz iv_Bz)) rfl ?_
                refine iv_Gbt (c := decide ((xs 2) < 0)) (p1 := 23) (p2 := 13) (lv2 := [(0, .int 1), (1, .int (xs 2))]) (st2 := []) (w2 := (iv_wd iv_Az iv_Fz iv_Bz)) rfl (decide_eq_true h13) ?_
                refine iv_Gm 1 (pc2 := 24) (lv2 := [(0, .int 1), (1, .int (xs 2))]) (st2 := [.int 0]) (w2 := (iv_wd iv_Az iv_Fz iv_Bz)) rfl ?_
                exact iv_Gret rfl rfl rfl
              show iv_G _ _ _ _ 14 [(0, .ref 1), (1, .int 1), (2, .int (xs 2)), (3, .int (xs 3))] [.int 0] (iv_wd iv_Az iv_Fz iv_Bz) true _ _ _
              refine iv_Gm 3 (pc2 := 31) (lv2 := [(0, .ref 1), (1, .int 1), (2, .int (xs 2)), (3, .int (xs 3))]) (st2 := [.int (xs 2), .int 1]) (w2 := (iv_wd iv_Az iv_Fz iv_Bz)) rfl ?_
              refine iv_Gcall (ν := 27) (c := 2) (as := [.int 1, .int (xs 2)]) (rest := []) (w2 := (iv_wd iv_Az iv_Fz iv_Bz)) (tg2 := true) (k2 := 0) (z2 := 0) (v := (some (.int 0))) rfl rfl rfl rfl rfl rfl rfl (Nat.le_of_ble_eq_true rfl) rfl ?_ ?_
              · exact ⟨12, rfl⟩
              show iv_G _ _ _ _ 34 [(0, .ref 1), (1, .int 1), (2, .int (xs 2)), (3, .int (xs 3))] [.int 0] (iv_wd iv_Az iv_Fz iv_Bz) true _ _ _
              refine iv_Gm 2 (pc2 := 50) (lv2 := [(0, .ref 1), (1, .int 1), (2, .int (xs 2)), (3, .int (xs 3))]) (st2 := [.int 0]) (w2 := (iv_wd iv_Az iv_Fz iv_Bz)) rfl ?_
              exact iv_Gret rfl rfl rfl
            show iv_Fin _ _ _ _ 673 [(4, .int 0), (3, .ref 65), (2, .ref 44), (1, .ref 1), (0, .ref 0)] [.int 0] (iv_wd iv_Az iv_Fz iv_Bz) true _ _
            refine iv_Em 6 (pc2 := 680) (lv2 := [(4, .int 0), (3, .ref 65), (2, .ref 44), (1, .ref 1), (0, .ref 0)]) (st2 := [.int (xs 1), .ref 44, .int 0]) (w2 := (iv_wd iv_Az iv_Fz iv_Bz)) rfl ?_
            rw [h12]
            refine iv_Em 10 (pc2 := 692) (lv2 := [(4, .int 0), (3, .ref 65), (2, .ref 44), (1, .ref 1), (0, .ref 0)]) (st2 := [.int (xs 3), .int (xs 2), .int 1, .ref 44, .int 0]) (w2 := (iv_wd iv_Az iv_Fz iv_Bz)) rfl ?_
            refine iv_Ecall (ν := 179) (c := 4) (as := [.ref 44, .int 1, .int (xs 2), .int (xs 3)]) (rest := [.int 0]) (w2 := (iv_wd iv_Az (iv_uF iv_Fz 4400 0) iv_Bz)) (tg2 := true) (k2 := 0) (z2 := 0) (v := (some (.int 0))) rfl rfl rfl rfl rfl rfl rfl (Nat.le_of_ble_eq_true rfl) rfl ?_ ?_
            · refine iv_Gm 5 (pc2 := 7) (lv2 := [(0, .ref 44), (1, .int 1), (2, .int (xs 2)), (3, .int (xs 3))]) (st2 := [.int (xs 2), .int 1]) (w2 := (iv_wd iv_Az (iv_uF iv_Fz 4400 0) iv_Bz)) rfl ?_
              refine iv_Gcall (ν := 178) (c := 2) (as := [.int 1, .int (xs 2)]) (rest := []) (w2 := (iv_wd iv_Az (iv_uF iv_Fz 4400 0) iv_Bz)) (tg2 := true) (k2 := 0) (z2 := 0) (v := (some (.int 0))) rfl rfl rfl rfl rfl rfl rfl (Nat.le_of_ble_eq_true rfl) rfl ?_ ?_
              · refine iv_Gm 6 (pc2 := 11) (lv2 := [(0, .int 1), (1, .int (xs 2))]) (st2 := [.int (xs 2)]) (w2 := (iv_wd iv_Az (iv_uF iv_Fz 4400 0) iv_Bz)) rfl ?_
                refine iv_Gbt (c := decide ((xs 2) < 0)) (p1 := 34) (p2 := 14) (lv2 := [(0, .int 1), (1, .int (xs 2))]) (st2 := []) (w2 := (iv_wd iv_Az (iv_uF iv_Fz 4400 0) iv_Bz)) rfl (decide_eq_true h13) ?_
                refine iv_Gm 1 (pc2 := 35) (lv2 := [(0, .int 1), (1, .int (xs 2))]) (st2 := [.int 0]) (w2 := (iv_wd iv_Az (iv_uF iv_Fz 4400 0) iv_Bz)) rfl ?_
                exact iv_Gret rfl rfl rfl
              show iv_G _ _ _ _ 10 [(0, .ref 44), (1, .int 1), (2, .int (xs 2)), (3, .int (xs 3))] [.int 0] (iv_wd iv_Az (iv_uF iv_Fz 4400 0) iv_Bz) true _ _ _
              refine iv_Gm 2 (pc2 := 25) (lv2 := [(0, .ref 44), (1, .int 1), (2, .int (xs 2)), (3, .int (xs 3))]) (st2 := [.int 0]) (w2 := (iv_wd iv_Az (iv_uF iv_Fz 4400 0) iv_Bz)) rfl ?_
              exact iv_Gret rfl rfl rfl
            show iv_Fin _ _ _ _ 695 [(4, .int 0), (3, .ref 65), (2, .ref 44), (1, .ref 1), (0, .ref 0)] [.int 0, .int 0] (iv_wd iv_Az (iv_uF iv_Fz 4400 0) iv_Bz) true _ _
            refine iv_Em 10 (pc2 := 788) (lv2 := [(4, .int 6), (3, .ref 65), (2, .ref 44), (1, .ref 1), (0, .ref 0)]) (st2 := [.int 1]) (w2 := (iv_wd iv_Az (iv_uF iv_Fz 4400 0) iv_Bz)) rfl ?_
            exact iv_Eret rfl rfl rfl (by decide) (by decide)
          · by_cases h14 : (xs 2) < 32
            · refine iv_Em 11 (pc2 := 40) (lv2 := [(4, .int 0), (3, .ref 65), (2, .ref 44), (1, .ref 1), (0, .ref 0)]) (st2 := [.int ((xs 0) &&& 15)]) (w2 := (iv_wd iv_Az iv_Fz iv_Bz)) rfl ?_
              refine iv_Esw rfl rfl (show iv_sw 40 _ _ _ _ _ = some 651 by rw [h0]; rfl) ?_
              refine iv_Em 6 (pc2 := 658) (lv2 := [(4, .int 0), (3, .ref 65), (2, .ref 44), (1, .ref 1), (0, .ref 0)]) (st2 := [.int (xs 1), .ref 1]) (w2 := (iv_wd iv_Az iv_Fz iv_Bz)) rfl ?_
              rw [h12]
              refine iv_Em 10 (pc2 := 670) (lv2 := [(4, .int 0), (3, .ref 65), (2, .ref 44), (1, .ref 1), (0, .ref 0)]) (st2 := [.int (xs 3), .int (xs 2), .int 1, .ref 1]) (w2 := (iv_wd iv_Az iv_Fz iv_Bz)) rfl ?_
              refine iv_Ecall (ν := 13) (c := 4) (as := [.ref 1, .int 1, .int (xs 2), .int (xs 3)]) (rest := []) (w2 := (iv_wd (iv_uA iv_Az 4 (Int32.toNatClampNeg (32 + (xs 2))) (xs 3)) iv_Fz iv_Bz)) (tg2 := true) (k2 := 0) (z2 := 0) (v := (some (.int 1))) rfl rfl rfl rfl rfl rfl rfl (Nat.le_of_ble_eq_true rfl) rfl ?_ ?_
              · refine iv_Gm 1 (pc2 := 1) (lv2 := [(0, .ref 1), (1, .int 1), (2, .int (xs 2)), (3, .int (xs 3))]) (st2 := [.int (xs 3)]) (w2 := (iv_wd iv_Az iv_Fz iv_Bz)) rfl ?_
                refine iv_Gcall (ν := 24) (c := 1) (as := [.int (xs 3)]) (rest := []) (w2 := (iv_wd iv_Az iv_Fz iv_Bz)) (tg2 := true) (k2 := 0) (z2 := 0) (v := (some (.int 1))) rfl rfl rfl rfl rfl rfl rfl (Nat.le_of_ble_eq_true rfl) rfl ?_ ?_
                · refine iv_Gm 1 (pc2 := 1) (lv2 := [(0, .int (xs 3))]) (st2 := [.int (xs 3)]) (w2 := (iv_wd iv_Az iv_Fz iv_Bz)) rfl ?_
                  refine iv_Gbf (c := decide ((xs 3) < 0)) (p1 := 15) (p2 := 4) (lv2 := [(0, .int (xs 3))]) (st2 := []) (w2 := (iv_wd iv_Az iv_Fz iv_Bz)) rfl (decide_eq_false h1) ?_
                  refine iv_Gm 2 (pc2 := 8) (lv2 := [(0, .int (xs 3))]) (st2 := [.int 255, .int (xs 3)]) (w2 := (iv_wd iv_Az iv_Fz iv_Bz)) rfl ?_
                  refine iv_Gbf (c := decide (255 < (xs 3))) (p1 := 15) (p2 := 11) (lv2 := [(0, .int (xs 3))]) (st2 := []) (w2 := (iv_wd iv_Az iv_Fz iv_Bz)) rfl (decide_eq_false (fun q => (iv_lg2 (by decide)).mp q h8)) ?_
                  refine iv_Gm 2 (pc2 := 16) (lv2 := [(0, .int (xs 3))]) (st2 := [.int 1]) (w2 := (iv_wd iv_Az iv_Fz iv_Bz)) rfl ?_
                  exact iv_Gret rfl rfl rfl
                show iv_G _ _ _ _ 4 [(0, .ref 1), (1, .int 1), (2, .int (xs 2)), (3, .int (xs 3))] [.int 1] (iv_wd iv_Az iv_Fz iv_Bz) true _ _ _
                refine iv_Gm 3 (pc2 := 11) (lv2 := [(0, .ref 1), (1, .int 1), (2, .int (xs 2)), (3, .int (xs 3))]) (st2 := [.int (xs 2), .int 1]) (w2 := (iv_wd iv_Az iv_Fz iv_Bz)) rfl ?_
                refine iv_Gcall (ν := 26) (c := 2) (as := [.int 1, .int (xs 2)]) (rest := []) (w2 := (iv_wd iv_Az iv_Fz iv_Bz)) (tg2 := true) (k2 := 0) (z2 := 0) (v := (some (.int 1))) rfl rfl rfl rfl rfl rfl rfl (Nat.le_of_ble_eq_true rfl) rfl ?_ ?_
                · refine iv_Gm 6 (pc2 := 10) (lv2 := [(0, .int 1), (1, .int (xs 2))]) (st2 := [.int (xs 2)]) (w2 := (iv_wd iv_Az iv_Fz iv_Bz)) rfl ?_
                  refine iv_Gbf (c := decide ((xs 2) < 0)) (p1 := 23) (p2 := 13) (lv2 := [(0, .int 1), (1, .int (xs 2))]) (st2 := []) (w2 := (iv_wd iv_Az iv_Fz iv_Bz)) rfl (decide_eq_false h13) ?_
                  refine iv_Gm 2 (pc2 := 16) (lv2 := [(0, .int 1), (1, .int (xs 2))]) (st2 := [.int 32, .int (xs 2)]) (w2 := (iv_wd iv_Az iv_Fz iv_Bz)) rfl ?_
                  refine iv_Gbf (c := decide (32 ≤ (xs 2))) (p1 := 23) (p2 := 19) (lv2 := [(0, .int 1), (1, .int (xs 2))]) (st2 := []) (w2 := (iv_wd iv_Az iv_Fz iv_Bz)) rfl (decide_eq_false (Int32.not_le.mpr h14)) ?_
                  refine iv_Gm 2 (pc2 := 24) (lv2 := [(0, .int 1), (1, .int (xs 2))]) (st2 := [.int 1]) (w2 := (iv_wd iv_Az iv_Fz iv_Bz)) rfl ?_
                  exact iv_Gret rfl rfl rfl
                show iv_G _ _ _ _ 14 [(0, .ref 1), (1, .int 1), (2, .int (xs 2)), (3, .int (xs 3))] [.int 1] (iv_wd iv_Az iv_Fz iv_Bz) true _ _ _
                refine iv_Gm 6 (pc2 := 24) (lv2 := [(0, .ref 1), (1, .int 1), (2, .int (xs 2)), (3, .int (xs 3))]) (st2 := [.int (xs 3), .int (xs 2), .int 1, .ref 2]) (w2 := (iv_wd iv_Az iv_Fz iv_Bz)) rfl ?_
                refine iv_Gcall (ν := 63) (c := 4) (as := [.ref 2, .int 1, .int (xs 2), .int (xs 3)]) (rest := []) (w2 := (iv_wd (iv_uA iv_Az 4 (Int32.toNatClampNeg (32 + (xs 2))) (xs 3)) iv_Fz iv_Bz)) (tg2 := true) (k2 := 0) (z2 := 0) (v := none) rfl rfl rfl rfl rfl rfl rfl (Nat.le_of_ble_eq_true rfl) rfl ?_ ?_
                · refine iv_Gm 8 (pc2 := 11) (lv2 := [(0, .ref 2), (1, .int 1), (2, .int (xs 2)), (3, .int (xs 3))]) (st2 := [.int (xs 3), .int (32 + (xs 2)), .ref 4]) (w2 := (iv_wd iv_Az iv_Fz iv_Bz)) rfl ?_
                  refine iv_Gif (pc2 := 12) (lv2 := [(0, .ref 2), (1, .int 1), (2, .int (xs 2)), (3, .int (xs 3))]) (st2 := []) (w2 := (iv_wd (iv_uA iv_Az 4 (Int32.toNatClampNeg (32 + (xs 2))) (xs 3)) iv_Fz iv_Bz)) rfl (iv_in_32 h13 h14) ?_
                  exact iv_Gret rfl rfl rfl
                show iv_G _ _ _ _ 27 [(0, .ref 1), (1, .int 1), (2, .int (xs 2)), (3, .int (xs 3))] [] (iv_wd (iv_uA iv_Az 4 (Int32.toNatClampNeg (32 + (xs 2))) (xs 3)) iv_Fz iv_Bz) true _ _ _
                refine iv_Gm 1 (pc2 := 28) (lv2 := [(0, .ref 1), (1, .int 1), (2, .int (xs 2)), (3, .int (xs 3))]) (st2 := [.int 1]) (w2 := (iv_wd (iv_uA iv_Az 4 (Int32.toNatClampNeg (32 + (xs 2))) (xs 3)) iv_Fz iv_Bz)) rfl ?_
                exact iv_Gret rfl rfl rfl
              show iv_Fin _ _ _ _ 673 [(4, .int 0), (3, .ref 65), (2, .ref 44), (1, .ref 1), (0, .ref 0)] [.int 1] (iv_wd (iv_uA iv_Az 4 (Int32.toNatClampNeg (32 + (xs 2))) (xs 3)) iv_Fz iv_Bz) true _ _
              refine iv_Em 6 (pc2 := 680) (lv2 := [(4, .int 0), (3, .ref 65), (2, .ref 44), (1, .ref 1), (0, .ref 0)]) (st2 := [.int (xs 1), .ref 44, .int 1]) (w2 := (iv_wd (iv_uA iv_Az 4 (Int32.toNatClampNeg (32 + (xs 2))) (xs 3)) iv_Fz iv_Bz)) rfl ?_
              rw [h12]
              refine iv_Em 10 (pc2 := 692) (lv2 := [(4, .int 0), (3, .ref 65), (2, .ref 44), (1, .ref 1), (0, .ref 0)]) (st2 := [.int (xs 3), .int (xs 2), .int 1, .ref 44, .int 1]) (w2 := (iv_wd (iv_uA iv_Az 4 (Int32.toNatClampNeg (32 + (xs 2))) (xs 3)) iv_Fz iv_Bz)) rfl ?_
              refine iv_Ecall (ν := 179) (c := 4) (as := [.ref 44, .int 1, .int (xs 2), .int (xs 3)]) (rest := [.int 1]) (w2 := (iv_wd (iv_uA (iv_uA iv_Az 4 (Int32.toNatClampNeg (32 + (xs 2))) (xs 3)) 46 (Int32.toNatClampNeg (32 + (xs 2))) (xs 3)) (iv_uF iv_Fz 4400 0) iv_Bz)) (tg2 := true) (k2 := 0) (z2 := 0) (v := (some (.int 1))) rfl rfl rfl rfl rfl rfl rfl (Nat.le_of_ble_eq_true rfl) rfl ?_ ?_
              · refine iv_Gm 5 (pc2 := 7) (lv2 := [(0, .ref 44), (1, .int 1), (2, .int (xs 2)), (3, .int (xs 3))]) (st2 := [.int (xs 2), .int 1]) (w2 := (iv_wd (iv_uA iv_Az 4 (Int32.toNatClampNeg (32 + (xs 2))) (xs 3)) (iv_uF iv_Fz 4400 0) iv_Bz)) rfl ?_
                refine iv_Gcall (ν := 178) (c := 2) (as := [.int 1, .int (xs 2)]) (rest := []) (w2 := (iv_wd (iv_uA iv_Az 4 (Int32.toNatClampNeg (32 + (xs 2))) (xs 3)) (iv_uF iv_Fz 4400 0) iv_Bz)) (tg2 := true) (k2 := 0) (z2 := 0) (v := (some (.int 1))) rfl rfl rfl rfl rfl rfl rfl (Nat.le_of_ble_eq_true rfl) rfl ?_ ?_
                · refine iv_Gm 6 (pc2 := 11) (lv2 := [(0, .int 1), (1, .int (xs 2))]) (st2 := [.int (xs 2)]) (w2 := (iv_wd (iv_uA iv_Az 4 (Int32.toNatClampNeg (32 + (xs 2))) (xs 3)) (iv_uF iv_Fz 4400 0) iv_Bz)) rfl ?_
                  refine iv_Gbf (c := decide ((xs 2) < 0)) (p1 := 34) (p2 := 14) (lv2 := [(0, .int 1), (1, .int (xs 2))]) (st2 := []) (w2 := (iv_wd (iv_uA iv_Az 4 (Int32.toNatClampNeg (32 + (xs 2))) (xs 3)) (iv_uF iv_Fz 4400 0) iv_Bz)) rfl (decide_eq_false h13) ?_
                  refine iv_Gm 6 (pc2 := 27) (lv2 := [(0, .int 1), (1, .int (xs 2))]) (st2 := [.int 32, .int (xs 2)]) (w2 := (iv_wd (iv_uA iv_Az 4 (Int32.toNatClampNeg (32 + (xs 2))) (xs 3)) (iv_uF iv_Fz 4400 0) iv_Bz)) rfl ?_
                  refine iv_Gbf (c := decide (32 ≤ (xs 2))) (p1 := 34) (p2 := 30) (lv2 := [(0, .int 1), (1, .int (xs 2))]) (st2 := []) (w2 := (iv_wd (iv_uA iv_Az 4 (Int32.toNatClampNeg (32 + (xs 2))) (xs 3)) (iv_uF iv_Fz 4400 0) iv_Bz)) rfl (decide_eq_false (Int32.not_le.mpr h14)) ?_
                  refine iv_Gm 2 (pc2 := 35) (lv2 := [(0, .int 1), (1, .int (xs 2))]) (st2 := [.int 1]) (w2 := (iv_wd (iv_uA iv_Az 4 (Int32.toNatClampNeg (32 + (xs 2))) (xs 3)) (iv_uF iv_Fz 4400 0) iv_Bz)) rfl ?_
                  exact iv_Gret rfl rfl rfl
                show iv_G _ _ _ _ 10 [(0, .ref 44), (1, .int 1), (2, .int (xs 2)), (3, .int (xs 3))] [.int 1] (iv_wd (iv_uA iv_Az 4 (Int32.toNatClampNeg (32 + (xs 2))) (xs 3)) (iv_uF iv_Fz 4400 0) iv_Bz) true _ _ _
                refine iv_Gm 2 (pc2 := 14) (lv2 := [(0, .ref 44), (1, .int 1), (2, .int (xs 2)), (3, .int (xs 3))]) (st2 := [.int (xs 3)]) (w2 := (iv_wd (iv_uA iv_Az 4 (Int32.toNatClampNeg (32 + (xs 2))) (xs 3)) (iv_uF iv_Fz 4400 0) iv_Bz)) rfl ?_
                refine iv_Gbf (c := decide ((xs 3) < 0)) (p1 := 24) (p2 := 17) (lv2 := [(0, .ref 44), (1, .int 1), (2, .int (xs 2)), (3, .int (xs 3))]) (st2 := []) (w2 := (iv_wd (iv_uA iv_Az 4 (Int32.toNatClampNeg (32 + (xs 2))) (xs 3)) (iv_uF iv_Fz 4400 0) iv_Bz)) rfl (decide_eq_false h1) ?_
                refine iv_Gm 2 (pc2 := 21) (lv2 := [(0, .ref 44), (1, .int 1), (2, .int (xs 2)), (3, .int (xs 3))]) (st2 := [.int 255, .int (xs 3)]) (w2 := (iv_wd (iv_uA iv_Az 4 (Int32.toNatClampNeg (32 + (xs 2))) (xs 3)) (iv_uF iv_Fz 4400 0) iv_Bz)) rfl ?_
                refine iv_Gbt (c := decide ((xs 3) ≤ 255)) (p1 := 26) (p2 := 24) (lv2 := [(0, .ref 44), (1, .int 1), (2, .int (xs 2)), (3, .int (xs 3))]) (st2 := []) (w2 := (iv_wd (iv_uA iv_Az 4 (Int32.toNatClampNeg (32 + (xs 2))) (xs 3)) (iv_uF iv_Fz 4400 0) iv_Bz)) rfl (decide_eq_true (Int32.not_lt.mp (fun q => (iv_lg2 (by decide)).mp q h8))) ?_
                refine iv_Gm 11 (pc2 := 42) (lv2 := [(0, .ref 44), (1, .int 1), (2, .int (xs 2)), (3, .int (xs 3))]) (st2 := [.int (xs 3), .int (32 + (xs 2)), .ref 46]) (w2 := (iv_wd (iv_uA iv_Az 4 (Int32.toNatClampNeg (32 + (xs 2))) (xs 3)) (iv_uF iv_Fz 4400 0) iv_Bz)) rfl ?_
                refine iv_Gif (pc2 := 43) (lv2 := [(0, .ref 44), (1, .int 1), (2, .int (xs 2)), (3, .int (xs 3))]) (st2 := []) (w2 := (iv_wd (iv_uA (iv_uA iv_Az 4 (Int32.toNatClampNeg (32 + (xs 2))) (xs 3)) 46 (Int32.toNatClampNeg (32 + (xs 2))) (xs 3)) (iv_uF iv_Fz 4400 0) iv_Bz)) rfl (iv_in_32 h13 h14) ?_
                refine iv_Gm 2 (pc2 := 59) (lv2 := [(0, .ref 44), (1, .int 1), (2, .int (xs 2)), (3, .int (xs 3))]) (st2 := [.int 1]) (w2 := (iv_wd (iv_uA (iv_uA iv_Az 4 (Int32.toNatClampNeg (32 + (xs 2))) (xs 3)) 46 (Int32.toNatClampNeg (32 + (xs 2))) (xs 3)) (iv_uF iv_Fz 4400 0) iv_Bz)) rfl ?_
                exact iv_Gret rfl rfl rfl
              show iv_Fin _ _ _ _ 695 [(4, .int 0), (3, .ref 65), (2, .ref 44), (1, .ref 1), (0, .ref 0)] [.int 1, .int 1] (iv_wd (iv_uA (iv_uA iv_Az 4 (Int32.toNatClampNeg (32 + (xs 2))) (xs 3)) 46 (Int32.toNatClampNeg (32 + (xs 2))) (xs 3)) (iv_uF iv_Fz 4400 0) iv_Bz) true _ _
              refine iv_Em 10 (pc2 := 788) (lv2 := [(4, .int 6), (3, .ref 65), (2, .ref 44), (1, .ref 1), (0, .ref 0)]) (st2 := [.int 1]) (w2 := (iv_wd (iv_uA (iv_uA iv_Az 4 (Int32.toNatClampNeg (32 + (xs 2))) (xs 3)) 46 (Int32.toNatClampNeg (32 + (xs 2))) (xs 3)) (iv_uF iv_Fz 4400 0) iv_Bz)) rfl ?_
              exact iv_Eret rfl rfl rfl (by decide) (by decide)
            · refine iv_Em 11 (pc2 := 40) (lv2 := [(4, .int 0), (3, .ref 65), (2, .ref 44), (1, .ref 1), (0, .ref 0)]) (st2 := [.int ((xs 0) &&& 15)]) (w2 := (iv_wd iv_Az iv_Fz iv_Bz)) rfl ?_
              refine iv_Esw rfl rfl (show iv_sw 40 _ _ _ _ _ = some 651 by rw [h0]; rfl) ?_
              refine iv_Em 6 (pc2 := 658) (lv2 := [(4, .int 0), (3, .ref 65), (2, .ref 44), (1, .ref 1), (0, .ref 0)]) (st2 := [.int (xs 1), .ref 1]) (w2 := (iv_wd iv_Az iv_Fz iv_Bz)) rfl ?_
              rw [h12]
              refine iv_Em 10 (pc2 := 670) (lv2 := [(4, .int 0), (3, .ref 65), (2, .ref 44), (1, .ref 1), (0, .ref 0)]) (st2 := [.int (xs 3), .int (xs 2), .int 1, .ref 1]) (w2 := (iv_wd iv_Az iv_Fz iv_Bz)) rfl ?_
              refine iv_Ecall (ν := 13) (c := 4) (as := [.ref 1, .int 1, .int (xs 2), .int (xs 3)]) (rest := []) (w2 := (iv_wd iv_Az iv_Fz iv_Bz)) (tg2 := true) (k2 := 0) (z2 := 0) (v := (some (.int 0))) rfl rfl rfl rfl rfl rfl rfl (Nat.le_of_ble_eq_true rfl) rfl ?_ ?_
              · refine iv_Gm 1 (pc2 := 1) (lv2 := [(0, .ref 1), (1, .int 1), (2, .int (xs 2)), (3, .int (xs 3))]) (st2 := [.int (xs 3)]) (w2 := (iv_wd iv_Az iv_Fz iv_Bz)) rfl ?_
                refine iv_Gcall (ν := 24) (c := 1) (as := [.int (xs 3)]) (rest := []) (w2 := (iv_wd iv_Az iv_Fz iv_Bz)) (tg2 := true) (k2 := 0) (z2 := 0) (v := (some (.int 1))) rfl rfl rfl rfl rfl rfl rfl (Nat.le_of_ble_eq_true rfl) rfl ?_ ?_
                · refine iv_Gm 1 (pc2 := 1) (lv2 := [(0, .int (xs 3))]) (st2 := [.int (xs 3)]) (w2 := (iv_wd iv_Az iv_Fz iv_Bz)) rfl ?_
                  refine iv_Gbf (c := decide ((xs 3) < 0)) (p1 := 15) (p2 := 4) (lv2 := [(0, .int (xs 3))]) (st2 := []) (w2 := (iv_wd iv_Az iv_Fz iv_Bz)) rfl (decide_eq_false h1) ?_
                  refine iv_Gm 2 (pc2 := 8) (lv2 := [(0, .int (xs 3))]) (st2 := [.int 255, .int (xs 3)]) (w2 := (iv_wd iv_Az iv_Fz iv_Bz)) rfl ?_
                  refine iv_Gbf (c := decide (255 < (xs 3))) (p1 := 15) (p2 := 11) (lv2 := [(0, .int (xs 3))]) (st2 := []) (w2 := (iv_wd iv_Az iv_Fz iv_Bz)) rfl (decide_eq_false (fun q => (iv_lg2 (by decide)).mp q h8)) ?_
                  refine iv_Gm 2 (pc2 := 16) (lv2 := [(0, .int (xs 3))]) (st2 := [.int 1]) (w2 := (iv_wd iv_Az iv_Fz iv_Bz)) rfl ?_
                  exact iv_Gret rfl rfl rfl
                show iv_G _ _ _ _ 4 [(0, .ref 1), (1, .int 1), (2, .int (xs 2)), (3, .int (xs 3))] [.int 1] (iv_wd iv_Az iv_Fz iv_Bz) true _ _ _
                refine iv_Gm 3 (pc2 := 11) (lv2 := [(0, .ref 1), (1, .int 1), (2, .int (xs 2)), (3, .int (xs 3))]) (st2 := [.int (xs 2), .int 1]) (w2 := (iv_wd iv_Az iv_Fz iv_Bz)) rfl ?_
                refine iv_Gcall (ν := 26) (c := 2) (as := [.int 1, .int (xs 2)]) (rest := []) (w2 := (iv_wd iv_Az iv_Fz iv_Bz)) (tg2 := true) (k2 := 0) (z2 := 0) (v := (some (.int 0))) rfl rfl rfl rfl rfl rfl rfl (Nat.le_of_ble_eq_true rfl) rfl ?_ ?_
                · refine iv_Gm 6 (pc2 := 10) (lv2 := [(0, .int 1), (1, .int (xs 2))]) (st2 := [.int (xs 2)]) (w2 := (iv_wd iv_Az iv_Fz iv_Bz)) rfl ?_
                  refine iv_Gbf (c := decide ((xs 2) < 0)) (p1 := 23) (p2 := 13) (lv2 := [(0, .int 1), (1, .int (xs 2))]) (st2 := []) (w2 := (iv_wd iv_Az iv_Fz iv_Bz)) rfl (decide_eq_false h13) ?_
                  refine iv_Gm 2 (pc2 := 16) (lv2 := [(0, .int 1), (1, .int (xs 2))]) (st2 := [.int 32, .int (xs 2)]) (w2 := (iv_wd iv_Az iv_Fz iv_Bz)) rfl ?_
                  refine iv_Gbt (c := decide (32 ≤ (xs 2))) (p1 := 23) (p2 := 19) (lv2 := [(0, .int 1), (1, .int (xs 2))]) (st2 := []) (w2 := (iv_wd iv_Az iv_Fz iv_Bz)) rfl (decide_eq_true (Int32.not_lt.mp h14)) ?_
                  refine iv_Gm 1 (pc2 := 24) (lv2 := [(0, .int 1), (1, .int (xs 2))]) (st2 := [.int 0]) (w2 := (iv_wd iv_Az iv_Fz iv_Bz)) rfl ?_
                  exact iv_Gret rfl rfl rfl
                show iv_G _ _ _ _ 14 [(0, .ref 1), (1, .int 1), (2, .int (xs 2)), (3, .int (xs 3))] [.int 0] (iv_wd iv_Az iv_Fz iv_Bz) true _ _ _
                refine iv_Gm 3 (pc2 := 31) (lv2 := [(0, .ref 1), (1, .int 1), (2, .int (xs 2)), (3, .int (xs 3))]) (st2 := [.int (xs 2), .int 1]) (w2 := (iv_wd iv_Az iv_Fz iv_Bz)) rfl ?_
                refine iv_Gcall (ν := 27) (c := 2) (as := [.int 1, .int (xs 2)]) (rest := []) (w2 := (iv_wd iv_Az iv_Fz iv_Bz)) (tg2 := true) (k2 := 0) (z2 := 0) (v := (some (.int 0))) rfl rfl rfl rfl rfl rfl rfl (Nat.le_of_ble_eq_true rfl) rfl ?_ ?_
                · exact ⟨12, rfl⟩
                show iv_G _ _ _ _ 34 [(0, .ref 1), (1, .int 1), (2, .int (xs 2)), (3, .int (xs 3))] [.int 0] (iv_wd iv_Az iv_Fz iv_Bz) true _ _ _
                refine iv_Gm 2 (pc2 := 50) (lv2 := [(0, .ref 1), (1, .int 1), (2, .int (xs 2)), (3, .int (xs 3))]) (st2 := [.int 0]) (w2 := (iv_wd iv_Az iv_Fz iv_Bz)) rfl ?_
                exact iv_Gret rfl rfl rfl
              show iv_Fin _ _ _ _ 673 [(4, .int 0), (3, .ref 65), (2, .ref 44), (1, .ref 1), (0, .ref 0)] [.int 0] (iv_wd iv_Az iv_Fz iv_Bz) true _ _
              refine iv_Em 6 (pc2 := 680) (lv2 := [(4, .int 0), (3, .ref 65), (2, .ref 44), (1, .ref 1), (0, .ref 0)]) (st2 := [.int (xs 1), .ref 44, .int 0]) (w2 := (iv_wd iv_Az iv_Fz iv_Bz)) rfl ?_
              rw [h12]
              refine iv_Em 10 (pc2 := 692) (lv2 := [(4, .int 0), (3, .ref 65), (2, .ref 44), (1, .ref 1), (0, .ref 0)]) (st2 := [.int (xs 3), .int (xs 2), .int 1, .ref 44, .int 0]) (w2 := (iv_wd iv_Az iv_Fz iv_Bz)) rfl ?_
              refine iv_Ecall (ν := 179) (c := 4) (as := [.ref 44, .int 1, .int (xs 2), .int (xs 3)]) (rest := [.int 0]) (w2 := (iv_wd iv_Az (iv_uF iv_Fz 4400 0) iv_Bz)) (tg2 := true) (k2 := 0) (z2 := 0) (v := (some (.int 0))) rfl rfl rfl rfl rfl rfl rfl (Nat.le_of_ble_eq_true rfl) rfl ?_ ?_
              · refine iv_Gm 5 (pc2 := 7) (lv2 := [(0, .ref 44), (1, .int 1), (2, .int (xs 2)), (3, .int (xs 3))]) (st2 := [.int (xs 2), .int 1]) (w2 := (iv_wd iv_Az (iv_uF iv_Fz 4400 0) iv_Bz)) rfl ?_
                refine iv_Gcall (ν := 178) (c := 2) (as := [.int 1, .int (xs 2)]) (rest := []) (w2 := (iv_wd iv_Az (iv_uF iv_Fz 4400 0) iv_Bz)) (tg2 := true) (k2 := 0) (z2 := 0) (v := (some (.int 0))) rfl rfl rfl rfl rfl rfl rfl (Nat.le_of_ble_eq_true rfl) rfl ?_ ?_
                · refine iv_Gm 6 (pc2 := 11) (lv2 := [(0, .int 1), (1, .int (xs 2))]) (st2 := [.int (xs 2)]) (w2 := (iv_wd iv_Az (iv_uF iv_Fz 4400 0) iv_Bz)) rfl ?_
                  refine iv_Gbf (c := decide ((xs 2) < 0)) (p1 := 34) (p2 := 14) (lv2 := [(0, .int 1), (1, .int (xs 2))]) (st2 := []) (w2 := (iv_wd iv_Az (iv_uF iv_Fz 4400 0) iv_Bz)) rfl (decide_eq_false h13) ?_
                  refine iv_Gm 6 (pc2 := 27) (lv2 := [(0, .int 1), (1, .int (xs 2))]) (st2 := [.int 32, .int (xs 2)]) (w2 := (iv_wd iv_Az (iv_uF iv_Fz 4400 0) iv_Bz)) rfl ?_
                  refine iv_Gbt (c := decide (32 ≤ (xs 2))) (p1 := 34) (p2 := 30) (lv2 := [(0, .int 1), (1, .int (xs 2))]) (st2 := []) (w2 := (iv_wd iv_Az (iv_uF iv_Fz 4400 0) iv_Bz)) rfl (decide_eq_true (Int32.not_lt.mp h14)) ?_
                  refine iv_Gm 1 (pc2 := 35) (lv2 := [(0, .int 1), (1, .int (xs 2))]) (st2 := [.int 0]) (w2 := (iv_wd iv_Az (iv_uF iv_Fz 4400 0) iv_Bz)) rfl ?_
                  exact iv_Gret rfl rfl rfl
                show iv_G _ _ _ _ 10 [(0, .ref 44), (1, .int 1), (2, .int (xs 2)), (3, .int (xs 3))] [.int 0] (iv_wd iv_Az (iv_uF iv_Fz 4400 0) iv_Bz) true _ _ _
                refine iv_Gm 2 (pc2 := 25) (lv2 := [(0, .ref 44), (1, .int 1), (2, .int (xs 2)), (3, .int (xs 3))]) (st2 := [.int 0]) (w2 := (iv_wd iv_Az (iv_uF iv_Fz 4400 0) iv_Bz)) rfl ?_
                exact iv_Gret rfl rfl rfl
              show iv_Fin _ _ _ _ 695 [(4, .int 0), (3, .ref 65), (2, .ref 44), (1, .ref 1), (0, .ref 0)] [.int 0, .int 0] (iv_wd iv_Az (iv_uF iv_Fz 4400 0) iv_Bz) true _ _
              refine iv_Em 10 (pc2 := 788) (lv2 := [(4, .int 6), (3, .ref 65), (2, .ref 44), (1, .ref 1), (0, .ref 0)]) (st2 := [.int 1]) (w2 := (iv_wd iv_Az (iv_uF iv_Fz 4400 0) iv_Bz)) rfl ?_
              exact iv_Eret rfl rfl rfl (by decide) (by decide)
        · by_cases h15 : (xs 1) < 2
          · by_cases h16 : (xs 1) < 0
            · refine iv_Em 11 (pc2 := 40) (lv2 := [(4, .int 0), (3, .ref 65), (2, .ref 44), (1, .ref 1), (0, .ref 0)]) (st2 := [.int ((xs 0) &&& 15)]) (w2 := (iv_wd iv_Az iv_Fz iv_Bz)) rfl ?_
              refine iv_Esw rfl rfl (show iv_sw 40 _ _ _ _ _ = some 651 by rw [h0]; rfl) ?_
              refine iv_Em 16 (pc2 := 670) (lv2 := [(4, .int 0), (3, .ref 65), (2, .ref 44), (1, .ref 1), (0, .ref 0)]) (st2 := [.int (xs 3), .int (xs 2), .int (xs 1), .ref 1]) (w2 := (iv_wd iv_Az iv_Fz iv_Bz)) rfl ?_
              refine iv_Ecall (ν := 13) (c := 4) (as := [.ref 1, .int (xs 1), .int (xs 2), .int (xs 3)]) (rest := []) (w2 := (iv_wd iv_Az iv_Fz iv_Bz)) (tg2 := true) (k2 := 0) (z2 := 0) (v := (some (.int 0))) rfl rfl rfl rfl rfl rfl rfl (Nat.le_of_ble_eq_true rfl) rfl ?_ ?_
              · refine iv_Gm 1 (pc2 := 1) (lv2 := [(0, .ref 1), (1, .int (xs 1)), (2, .int (xs 2)), (3, .int (xs 3))]) (st2 := [.int (xs 3)]) (w2 := (iv_wd iv_Az iv_Fz iv_Bz)) rfl ?_
                refine iv_Gcall (ν := 24) (c := 1) (as := [.int (xs 3)]) (rest := []) (w2 := (iv_wd iv_Az iv_Fz iv_Bz)) (tg2 := true) (k2 := 0) (z2 := 0) (v := (some (.int 1))) rfl rfl rfl rfl rfl rfl rfl (Nat.le_of_ble_eq_true rfl) rfl ?_ ?_
                · refine iv_Gm 1 (pc2 := 1) (lv2 := [(0, .int (xs 3))]) (st2 := [.int (xs 3)]) (w2 := (iv_wd iv_Az iv_Fz iv_Bz)) rfl ?_
                  refine iv_Gbf (c := decide ((xs 3) < 0)) (p1 := 15) (p2 := 4) (lv2 := [(0, .int (xs 3))]) (st2 := []) (w2 := (iv_wd iv_Az iv_Fz iv_Bz)) rfl (decide_eq_false h1) ?_
                  refine iv_Gm 2 (pc2 := 8) (lv2 := [(0, .int (xs 3))]) (st2 := [.int 255, .int (xs 3)]) (w2 := (iv_wd iv_Az iv_Fz iv_Bz)) rfl ?_
                  refine iv_Gbf (c := decide (255 < (xs 3))) (p1 := 15) (p2 := 11) (lv2 := [(0, .int (xs 3))]) (st2 := []) (w2 := (iv_wd iv_Az iv_Fz iv_Bz)) rfl (decide_eq_false (fun q => (iv_lg2 (by decide)).mp q h8)) ?_
                  refine iv_Gm 2 (pc2 := 16) (lv2 := [(0, .int (xs 3))]) (st2 := [.int 1]) (w2 := (iv_wd iv_Az iv_Fz iv_Bz)) rfl ?_
                  exact iv_Gret rfl rfl rfl
                show iv_G _ _ _ _ 4 [(0, .ref 1), (1, .int (xs 1)), (2, .int (xs 2)), (3, .int (xs 3))] [.int 1] (iv_wd iv_Az iv_Fz iv_Bz) true _ _ _
                refine iv_Gm 3 (pc2 := 11) (lv2 := [(0, .ref 1), (1, .int (xs 1)), (2, .int (xs 2)), (3, .int (xs 3))]) (st2 := [.int (xs 2), .int (xs 1)]) (w2 := (iv_wd iv_Az iv_Fz iv_Bz)) rfl ?_
                refine iv_Gcall (ν := 26) (c := 2) (as := [.int (xs 1), .int (xs 2)]) (rest := []) (w2 := (iv_wd iv_Az iv_Fz iv_Bz)) (tg2 := true) (k2 := 0) (z2 := 0) (v := (some (.int 0))) rfl rfl rfl rfl rfl rfl rfl (Nat.le_of_ble_eq_true rfl) rfl ?_ ?_
                · refine iv_Gm 1 (pc2 := 1) (lv2 := [(0, .int (xs 1)), (1, .int (xs 2))]) (st2 := [.int (xs 1)]) (w2 := (iv_wd iv_Az iv_Fz iv_Bz)) rfl ?_
                  refine iv_Gbf (c := decide ((xs 1) = 0)) (p1 := 9) (p2 := 4) (lv2 := [(0, .int (xs 1)), (1, .int (xs 2))]) (st2 := []) (w2 := (iv_wd iv_Az iv_Fz iv_Bz)) rfl (decide_eq_false h9) ?_
                  refine iv_Gm 2 (pc2 := 6) (lv2 := [(0, .int (xs 1)), (1, .int (xs 2))]) (st2 := [.int 1, .int (xs 1)]) (w2 := (iv_wd iv_Az iv_Fz iv_Bz)) rfl ?_
                  refine iv_Gbt (c := decide (¬ (xs 1) = 1)) (p1 := 23) (p2 := 9) (lv2 := [(0, .int (xs 1)), (1, .int (xs 2))]) (st2 := []) (w2 := (iv_wd iv_Az iv_Fz iv_Bz)) rfl (decide_eq_true h12) ?_
                  refine iv_Gm 1 (pc2 := 24) (lv2 := [(0, .int (xs 1)), (1, .int (xs 2))]) (st2 := [.int 0]) (w2 := (iv_wd iv_Az iv_Fz iv_Bz)) rfl ?_
                  exact iv_Gret rfl rfl rfl
                show iv_G _ _ _ _ 14 [(0, .ref 1), (1, .int (xs 1)), (2, .int (xs 2)), (3, .int (xs 3))] [.int 0] (iv_wd iv_Az iv_Fz iv_Bz) true _ _ _
                refine iv_Gm 3 (pc2 := 31) (lv2 := [(0, .ref 1), (1, .int (xs 1)), (2, .int (xs 2)), (3, .int (xs 3))]) (st2 := [.int (xs 2), .int (xs 1)]) (w2 := (iv_wd iv_Az iv_Fz iv_Bz)) rfl ?_
                refine iv_Gcall (ν := 27) (c := 2) (as := [.int (xs 1), .int (xs 2)]) (rest := []) (w2 := (iv_wd iv_Az iv_Fz iv_Bz)) (tg2 := true) (k2 := 0) (z2 := 0) (v := (some (.int 0))) rfl rfl rfl rfl rfl rfl rfl (Nat.le_of_ble_eq_true rfl) rfl ?_ ?_
                · refine iv_Gm 1 (pc2 := 1) (lv2 := [(0, .int (xs 1)), (1, .int (xs 2))]) (st2 := [.int (xs 1)]) (w2 := (iv_wd iv_Az iv_Fz iv_Bz)) rfl ?_
                  refine iv_Gcall (ν := 25) (c := 1) (as := [.int (xs 1)]) (rest := []) (w2 := (iv_wd iv_Az iv_Fz iv_Bz)) (tg2 := true) (k2 := 0) (z2 := 0) (v := (some (.int 0))) rfl rfl rfl rfl rfl rfl rfl (Nat.le_of_ble_eq_true rfl) rfl ?_ ?_
                  · refine iv_Gm 2 (pc2 := 2) (lv2 := [(0, .int (xs 1))]) (st2 := [.int 2, .int (xs 1)]) (w2 := (iv_wd iv_Az iv_Fz iv_Bz)) rfl ?_
                    refine iv_Gbt (c := decide ((xs 1) < 2)) (p1 := 15) (p2 := 5) (lv2 := [(0, .int (xs 1))]) (st2 := []) (w2 := (iv_wd iv_Az iv_Fz iv_Bz)) rfl (decide_eq_true h15) ?_
                    refine iv_Gm 1 (pc2 := 16) (lv2 := [(0, .int (xs 1))]) (st2 := [.int 0]) (w2 := (iv_wd iv_Az iv_Fz iv_Bz)) rfl ?_
                    exact iv_Gret rfl rfl rfl
                  show iv_G _ _ _ _ 4 [(0, .int (xs 1)), (1, .int (xs 2))] [.int 0] (iv_wd iv_Az iv_Fz iv_Bz) true _ _ _
                  refine iv_Gm 2 (pc2 := 22) (lv2 := [(0, .int (xs 1)), (1, .int (xs 2))]) (st2 := [.int 0]) (w2 := (iv_wd iv_Az iv_Fz iv_Bz)) rfl ?_
                  exact iv_Gret rfl rfl rfl
                show iv_G _ _ _ _ 34 [(0, .ref 1), (1, .int (xs 1)), (2, .int (xs 2)), (3, .int (xs 3))] [.int 0] (iv_wd iv_Az iv_Fz iv_Bz) true _ _ _
                refine iv_Gm 2 (pc2 := 50) (lv2 := [(0, .ref 1), (1, .int (xs 1)), (2, .int (xs 2)), (3, .int (xs 3))]) (st2 := [.int 0]) (w2 := (iv_wd iv_Az iv_Fz iv_Bz)) rfl ?_
                exact iv_Gret rfl rfl rfl
              show iv_Fin _ _ _ _ 673 [(4, .int 0), (3, .ref 65), (2, .ref 44), (1, .ref 1), (0, .ref 0)] [.int 0] (iv_wd iv_Az iv_Fz iv_Bz) true _ _
              refine iv_Em 16 (pc2 := 692) (lv2 := [(4, .int 0), (3, .ref 65), (2, .ref 44), (1, .ref 1), (0, .ref 0)]) (st2 := [.int (xs 3), .int (xs 2), .int (xs 1), .ref 44, .int 0]) (w2 := (iv_wd iv_Az iv_Fz iv_Bz)) rfl ?_
              refine iv_Ecall (ν := 179) (c := 4) (as := [.ref 44, .int (xs 1), .int (xs 2), .int (xs 3)]) (rest := [.int 0]) (w2 := (iv_wd iv_Az (iv_uF iv_Fz 4400 0) iv_Bz)) (tg2 := true) (k2 := 0) (z2 := 0) (v := (some (.int 0))) rfl rfl rfl rfl rfl rfl rfl (Nat.le_of_ble_eq_true rfl) rfl ?_ ?_
              · refine iv_Gm 5 (pc2 := 7) (lv2 := [(0, .ref 44), (1, .int (xs 1)), (2, .int (xs 2)), (3, .int (xs 3))]) (st2 := [.int (xs 2), .int (xs 1)]) (w2 := (iv_wd iv_Az (iv_uF iv_Fz 4400 0) iv_Bz)) rfl ?_
                refine iv_Gcall (ν := 178) (c := 2) (as := [.int (xs 1), .int (xs 2)]) (rest := []) (w2 := (iv_wd iv_Az (iv_uF iv_Fz 4400 0) iv_Bz)) (tg2 := true) (k2 := 0) (z2 := 0) (v := (some (.int 0))) rfl rfl rfl rfl rfl rfl rfl (Nat.le_of_ble_eq_true rfl) rfl ?_ ?_
                · refine iv_Gm 1 (pc2 := 1) (lv2 := [(0, .int (xs 1)), (1, .int (xs 2))]) (st2 := [.int (xs 1)]) (w2 := (iv_wd iv_Az (iv_uF iv_Fz 4400 0) iv_Bz)) rfl ?_
                  refine iv_Gbt (c := decide ((xs 1) < 0)) (p1 := 34) (p2 := 4) (lv2 := [(0, .int (xs 1)), (1, .int (xs 2))]) (st2 := []) (w2 := (iv_wd iv_Az (iv_uF iv_Fz 4400 0) iv_Bz)) rfl (decide_eq_true h16) ?_
                  refine iv_Gm 1 (pc2 := 35) (lv2 := [(0, .int (xs 1)), (1, .int (xs 2))]) (st2 := [.int 0]) (w2 := (iv_wd iv_Az (iv_uF iv_Fz 4400 0) iv_Bz)) rfl ?_
                  exact iv_Gret rfl rfl rfl
                show iv_G _ _ _ _ 10 [(0, .ref 44), (1, .int (xs 1)), (2, .int (xs 2)), (3, .int (xs 3))] [.int 0] (iv_wd iv_Az (iv_uF iv_Fz 4400 0) iv_Bz) true _ _ _
                refine iv_Gm 2 (pc2 := 25) (lv2 := [(0, .ref 44), (1, .int (xs 1)), (2, .int (xs 2)), (3, .int (xs 3))]) (st2 := [.int 0]) (w2 := (iv_wd iv_Az (iv_uF iv_Fz 4400 0) iv_Bz)) rfl ?_
                exact iv_Gret rfl rfl rfl
              show iv_Fin _ _ _ _ 695 [(4, .int 0), (3, .ref 65), (2, .ref 44), (1, .ref 1), (0, .ref 0)] [.int 0, .int 0] (iv_wd iv_Az (iv_uF iv_Fz 4400 0) iv_Bz) true _ _
              refine iv_Em 10 (pc2 := 788) (lv2 := [(4, .int 6), (3, .ref 65), (2, .ref 44), (1, .ref 1), (0, .ref 0)]) (st2 := [.int 1]) (w2 := (iv_wd iv_Az (iv_uF iv_Fz 4400 0) iv_Bz)) rfl ?_
              exact iv_Eret rfl rfl rfl (by decide) (by decide)
            · exact (iv_no2 h16 h15 h9 h12 (by decide) (by decide)).elim
          · by_cases h17 : (xs 1) < 32
            · by_cases h18 : (xs 2) < 0
              · refine iv_Em 11 (pc2 := 40) (lv2 := [(4, .int 0), (3, .ref 65), (2, .ref 44), (1, .ref 1), (0, .ref 0)]) (st2 := [.int ((xs 0) &&& 15)]) (w2 := (iv_wd iv_Az iv_Fz iv_Bz)) rfl ?_
                refine iv_Esw rfl rfl (show iv_sw 40 _ _ _ _ _ = some 651 by rw [h0]; rfl) ?_
                refine iv_Em 16 (pc2 := 670) (lv2 := [(4, .int 0), (3, .ref 65), (2, .ref 44), (1, .ref 1), (0, .ref 0)]) (st2 := [.int (xs 3), .int (xs 2), .int (xs 1), .ref 1]) (w2 := (iv_wd iv_Az iv_Fz iv_Bz)) rfl ?_
                refine iv_Ecall (ν := 13) (c := 4) (as := [.ref 1, .int (xs 1), .int (xs 2), .int (xs 3)]) (rest := []) (w2 := (iv_wd iv_Az iv_Fz iv_Bz)) (tg2 := true) (k2 := 0) (z2 := 0) (v := (some (.int 0))) rfl rfl rfl rfl rfl rfl rfl (Nat.le_of_ble_eq_true rfl) rfl ?_ ?_
                · refine iv_Gm 1 (pc2 := 1) (lv2 := [(0, .ref 1), (1, .int (xs 1)), (2, .int (xs 2)), (3, .int (xs 3))]) (st2 := [.int (xs 3)]) (w2 := (iv_wd iv_Az iv_Fz iv_Bz)) rfl ?_
                  refine iv_Gcall (ν := 24) (c := 1) (as := [.int (xs 3)]) (rest := []) (w2 := (iv_wd iv_Az iv_Fz iv_Bz)) (tg2 := true) (k2 := 0) (z2 := 0) (v := (some (.int 1))) rfl rfl rfl rfl rfl rfl rfl (Nat.le_of_ble_eq_true rfl) rfl ?_ ?_
                  · refine iv_Gm 1 (pc2 := 1) (lv2 := [(0, .int (xs 3))]) (st2 := [.int (xs 3)]) (w2 := (iv_wd iv_Az iv_Fz iv_Bz)) rfl ?_
                    refine iv_Gbf (c := decide ((xs 3) < 0)) (p1 := 15) (p2 := 4) (lv2 := [(0, .int (xs 3))]) (st2 := []) (w2 := (iv_wd iv_Az iv_Fz iv_Bz)) rfl (decide_eq_false h1) ?_
                    refine iv_Gm 2 (pc2 := 8) (lv2 := [(0, .int (xs 3))]) (st2 := [.int 255, .int (xs 3)]) (w2 := (iv_wd iv_Az iv_Fz iv_Bz)) rfl ?_
                    refine iv_Gbf (c := decide (255 < (xs 3))) (p1 := 15) (p2 := 11) (lv2 := [(0, .int (xs 3))]) (st2 := []) (w2 := (iv_wd iv_Az iv_Fz iv_Bz)) rfl (decide_eq_false (fun q => (iv_lg2 (by decide)).mp q h8)) ?_
                    refine iv_Gm 2 (pc2 := 16) (lv2 := [(0, .int (xs 3))]) (st2 := [.int 1]) (w2 := (iv_wd iv_Az iv_Fz iv_Bz)) rfl ?_
                    exact iv_Gret rfl rfl rfl
                  show iv_G _ _ _ _ 4 [(0, .ref 1), (1, .int (xs 1)), (2, .int (xs 2)), (3, .int (xs 3))] [.int 1] (iv_wd iv_Az iv_Fz iv_Bz) true _ _ _
                  refine iv_Gm 3 (pc2 := 11) (lv2 := [(0, .ref 1), (1, .int (xs 1)), (2, .int (xs 2)), (3, .int (xs 3))]) (st2 := [.int (xs 2), .int (xs 1)]) (w2 := (iv_wd iv_Az iv_Fz iv_Bz)) rfl ?_
                  refine iv_Gcall (ν := 26) (c := 2) (as := [.int (xs 1), .int (xs 2)]) (rest := []) (w2 := (iv_wd iv_Az iv_Fz iv_Bz)) (tg2 := true) (k2 := 0) (z2 := 0) (v := (some (.int 0))) rfl rfl rfl rfl rfl rfl rfl (Nat.le_of_ble_eq_true rfl) rfl ?_ ?_
                  · refine iv_Gm 1 (pc2 := 1) (lv2 := [(0, .int (xs 1)), (1, .int (xs 2))]) (st2 := [.int (xs 1)]) (w2 := (iv_wd iv_Az iv_Fz iv_Bz)) rfl ?_
                    refine iv_Gbf (c := decide ((xs 1) = 0)) (p1 := 9) (p2 := 4) (lv2 := [(0, .int (xs 1)), (1, .int (xs 2))]) (st2 := []) (w2 := (iv_wd iv_Az iv_Fz iv_Bz)) rfl (decide_eq_false h9) ?_
                    refine iv_Gm 2 (pc2 := 6) (lv2 := [(0, .int (xs 1)), (1, .int (xs 2))]) (st2 := [.int 1, .int (xs 1)]) (w2 := (iv_wd iv_Az iv_Fz iv_Bz)) rfl ?_
                    refine iv_Gbt (c := decide (¬ (xs 1) = 1)) (p1 := 23) (p2 := 9) (lv2 := [(0, .int (xs 1)), (1, .int (xs 2))]) (st2 := []) (w2 := (iv_wd iv_Az iv_Fz iv_Bz)) rfl (decide_eq_true h12) ?_
                    refine iv_Gm 1 (pc2 := 24) (lv2 := [(0, .int (xs 1)), (1, .int (xs 2))]) (st2 := [.int 0]) (w2 := (iv_wd iv_Az iv_Fz iv_Bz)) rfl ?_
                    exact iv_Gret rfl rfl rfl
                  show iv_G _ _ _ _ 14 [(0, .ref 1), (1, .int (xs 1)), (2, .int (xs 2)), (3, .int (xs 3))] [.int 0] (iv_wd iv_Az iv_Fz iv_Bz) true _ _ _
                  refine iv_Gm 3 (pc2 := 31) (lv2 := [(0, .ref 1), (1, .int (xs 1)), (2, .int (xs 2)), (3, .int (xs 3))]) (st2 := [.int (xs 2), .int (xs 1)]) (w2 := (iv_wd iv_Az iv_Fz iv_Bz)) rfl ?_
                  refine iv_Gcall (ν := 27) (c := 2) (as := [.int (xs 1), .int (xs 2)]) (rest := []) (w2 := (iv_wd iv_Az iv_Fz iv_Bz)) (tg2 := true) (k2 := 0) (z2 := 0) (v := (some (.int 0))) rfl rfl rfl rfl rfl rfl rfl (Nat.le_of_ble_eq_true rfl) rfl ?_ ?_
                  · refine iv_Gm 1 (pc2 := 1) (lv2 := [(0, .int (xs 1)), (1, .int (xs 2))]) (st2 := [.int (xs 1)]) (w2 := (iv_wd iv_Az iv_Fz iv_Bz)) rfl ?_
                    refine iv_Gcall (ν := 25) (c := 1) (as := [.int (xs 1)]) (rest := []) (w2 := (iv_wd iv_Az iv_Fz iv_Bz)) (tg2 := true) (k2 := 0) (z2 := 0) (v := (some (.int 1))) rfl rfl rfl rfl rfl rfl rfl (Nat.le_of_ble_eq_true rfl) rfl ?_ ?_
                    · refine iv_Gm 2 (pc2 := 2) (lv2 := [(0, .int (xs 1))]) (st2 := [.int 2, .int (xs 1)]) (w2 := (iv_wd iv_Az iv_Fz iv_Bz)) rfl ?_
                      refine iv_Gbf (c := decide ((xs 1) < 2)) (p1 := 15) (p2 := 5) (lv2 := [(0, .int (xs 1))]) (st2 := []) (w2 := (iv_wd iv_Az iv_Fz iv_Bz)) rfl (decide_eq_false h15) ?_
                      refine iv_Gm 2 (pc2 := 8) (lv2 := [(0, .int (xs 1))]) (st2 := [.int 32, .int (xs 1)]) (w2 := (iv_wd iv_Az iv_Fz iv_Bz)) rfl ?_
                      refine iv_Gbf (c := decide (32 ≤ (xs 1))) (p1 := 15) (p2 := 11) (lv2 := [(0, .int (xs 1))]) (st2 := []) (w2 := (iv_wd iv_Az iv_Fz iv_Bz)) rfl (decide_eq_false (Int32.not_le.mpr h17)) ?_
                      refine iv_Gm 2 (pc2 := 16) (lv2 := [(0, .int (xs 1))]) (st2 := [.int 1]) (w2 := (iv_wd iv_Az iv_Fz iv_Bz)) rfl ?_
                      exact iv_Gret rfl rfl rfl
                    show iv_G _ _ _ _ 4 [(0, .int (xs 1)), (1, .int (xs 2))] [.int 1] (iv_wd iv_Az iv_Fz iv_Bz) true _ _ _
                    refine iv_Gm 2 (pc2 := 8) (lv2 := [(0, .int (xs 1)), (1, .int (xs 2))]) (st2 := [.int (xs 2)]) (w2 := (iv_wd iv_Az iv_Fz iv_Bz)) rfl ?_
                    refine iv_Gbt (c := decide ((xs 2) < 0)) (p1 := 21) (p2 := 11) (lv2 := [(0, .int (xs 1)), (1, .int (xs 2))]) (st2 := []) (w2 := (iv_wd iv_Az iv_Fz iv_Bz)) rfl (decide_eq_true h18) ?_
                    refine iv_Gm 1 (pc2 := 22) (lv2 := [(0, .int (xs 1)), (1, .int (xs 2))]) (st2 := [.int 0]) (w2 := (iv_wd iv_Az iv_Fz iv_Bz)) rfl ?_
                    exact iv_Gret rfl rfl rfl
                  show iv_G _ _ _ _ 34 [(0, .ref 1), (1, .int (xs 1)), (2, .int (xs 2)), (3, .int (xs 3))] [.int 0] (iv_wd iv_Az iv_Fz iv_Bz) true _ _ _
                  refine iv_Gm 2 (pc2 := 50) (lv2 := [(0, .ref 1), (1, .int (xs 1)), (2, .int (xs 2)), (3, .int (xs 3))]) (st2 := [.int 0]) (w2 := (iv_wd iv_Az iv_Fz iv_Bz)) rfl ?_
                  exact iv_Gret rfl rfl rfl
                show iv_Fin _ _ _ _ 673 [(4, .int 0), (3, .ref 65), (2, .ref 44), (1, .ref 1), (0, .ref 0)] [.int 0] (iv_wd iv_Az iv_Fz iv_Bz) true _ _
                refine iv_Em 16 (pc2 := 692) (lv2 := [(4, .int 0), (3, .ref 65), (2, .ref 44), (1, .ref 1), (0, .ref 0)]) (st2 := [.int (xs 3), .int (xs 2), .int (xs 1), .ref 44, .int 0]) (w2 := (iv_wd iv_Az iv_Fz iv_Bz)) rfl ?_
                refine iv_Ecall (ν := 179) (c := 4) (as := [.ref 44, .int (xs 1), .int (xs 2), .int (xs 3)]) (rest := [.int 0]) (w2 := (iv_wd iv_Az (iv_uF iv_Fz 4400 0) iv_Bz)) (tg2 := true) (k2 := 0) (z2 := 0) (v := (some (.int 0))) rfl rfl rfl rfl rfl rfl rfl (Nat.le_of_ble_eq_true rfl) rfl ?_ ?_
                · refine iv_Gm 5 (pc2 := 7) (lv2 := [(0, .ref 44), (1, .int (xs 1)), (2, .int (xs 2)), (3, .int (xs 3))]) (st2 := [.int (xs 2), .int (xs 1)]) (w2 := (iv_wd iv_Az (iv_uF iv_Fz 4400 0) iv_Bz)) rfl ?_
                  refine iv_Gcall (ν := 178) (c := 2) (as := [.int (xs 1), .int (xs 2)]) (rest := []) (w2 := (iv_wd iv_Az (iv_uF iv_Fz 4400 0) iv_Bz)) (tg2 := true) (k2 := 0) (z2 := 0) (v := (some (.int 0))) rfl rfl rfl rfl rfl rfl rfl (Nat.le_of_ble_eq_true rfl) rfl ?_ ?_
                  · refine iv_Gm 1 (pc2 := 1) (lv2 := [(0, .int (xs 1)), (1, .int (xs 2))]) (st2 := [.int (xs 1)]) (w2 := (iv_wd iv_Az (iv_uF iv_Fz 4400 0) iv_Bz)) rfl ?_
                    refine iv_Gbf (c := decide ((xs 1) < 0)) (p1 := 34) (p2 := 4) (lv2 := [(0, .int (xs 1)), (1, .int (xs 2))]) (st2 := []) (w2 := (iv_wd iv_Az (iv_uF iv_Fz 4400 0) iv_Bz)) rfl (decide_eq_false (iv_ld2 h15 (by decide))) ?_
                    refine iv_Gm 2 (pc2 := 7) (lv2 := [(0, .int (xs 1)), (1, .int (xs 2))]) (st2 := [.int 31, .int (xs 1)]) (w2 := (iv_wd iv_Az (iv_uF iv_Fz 4400 0) iv_Bz)) rfl ?_
                    refine iv_Gbf (c := decide (31 < (xs 1))) (p1 := 34) (p2 := 10) (lv2 := [(0, .int (xs 1)), (1, .int (xs 2))]) (st2 := []) (w2 := (iv_wd iv_Az (iv_uF iv_Fz 4400 0) iv_Bz)) rfl (decide_eq_false (fun q => (iv_lg2 (by decide)).mp q h17)) ?_
                    refine iv_Gm 1 (pc2 := 11) (lv2 := [(0, .int (xs 1)), (1, .int (xs 2))]) (st2 := [.int (xs 2)]) (w2 := (iv_wd iv_Az (iv_uF iv_Fz 4400 0) iv_Bz)) rfl ?_
                    refine iv_Gbt (c := decide ((xs 2) < 0)) (p1 := 34) (p2 := 14) (lv2 := [(0, .int (xs 1)), (1, .int (xs 2))]) (st2 := []) (w2 := (iv_wd iv_Az (iv_uF iv_Fz 4400 0) iv_Bz)) rfl (decide_eq_true h18) ?_
                    refine iv_Gm 1 (pc2 := 35) (lv2 := [(0, .int (xs 1)), (1, .int (xs 2))]) (st2 := [.int 0]) (w2 := (iv_wd iv_Az (iv_uF iv_Fz 4400 0) iv_Bz)) rfl ?_
                    exact iv_Gret rfl rfl rfl
                  show iv_G _ _ _ _ 10 [(0, .ref 44), (1, .int (xs 1)), (2, .int (xs 2)), (3, .int (xs 3))] [.int 0] (iv_wd iv_Az (iv_uF iv_Fz 4400 0) iv_Bz) true _ _ _
                  refine iv_Gm 2 (pc2 := 25) (lv2 := [(0, .ref 44), (1, .int (xs 1)), (2, .int (xs 2)), (3, .int (xs 3))]) (st2 := [.int 0]) (w2 := (iv_wd iv_Az (iv_uF iv_Fz 4400 0) iv_Bz)) rfl ?_
                  exact iv_Gret rfl rfl rfl
                show iv_Fin _ _ _ _ 695 [(4, .int 0), (3, .ref 65), (2, .ref 44), (1, .ref 1), (0, .ref 0)] [.int 0, .int 0] (iv_wd iv_Az (iv_uF iv_Fz 4400 0) iv_Bz) true _ _
                refine iv_Em 10 (pc2 := 788) (lv2 := [(4, .int 6), (3, .ref 65), (2, .ref 44), (1, .ref 1), (0, .ref 0)]) (st2 := [.int 1]) (w2 := (iv_wd iv_Az (iv_uF iv_Fz 4400 0) iv_Bz)) rfl ?_
                exact iv_Eret rfl rfl rfl (by decide) (by decide)
              · by_cases h19 : (xs 2) < 64
                · refine iv_Em 11 (pc2 := 40) (lv2 := [(4, .int 0), (3, .ref 65), (2, .ref 44), (1, .ref 1), (0, .ref 0)]) (st2 := [.int ((xs 0) &&& 15)]) (w2 := (iv_wd iv_Az iv_Fz iv_Bz)) rfl ?_
                  refine iv_Esw rfl rfl (show iv_sw 40 _ _ _ _ _ = some 651 by rw [h0]; rfl) ?_
                  refine iv_Em 16 (pc2 := 670) (lv2 := [(4, .int 0), (3, .ref 65), (2, .ref 44), (1, .ref 1), (0, .ref 0)]) (st2 := [.int (xs 3), .int (xs 2), .int (xs 1), .ref 1]) (w2 := (iv_wd iv_Az iv_Fz iv_Bz)) rfl ?_
                  refine iv_Ecall (ν := 13) (c := 4) (as := [.ref 1, .int (xs 1), .int (xs 2), .int (xs 3)]) (rest := []) (w2 := (iv_wd (iv_uA iv_Az 3 (Int32.toNatClampNeg ((64 * (xs 1)) + (xs 2))) (xs 3)) iv_Fz iv_Bz)) (tg2 := true) (k2 := 0) (z2 := 0) (v := (some (.int 1))) rfl rfl rfl rfl rfl rfl rfl (Nat.le_of_ble_eq_true rfl) rfl ?_ ?_
                  · refine iv_Gm 1 (pc2 := 1) (lv2 := [(0, .ref 1), (1, .int (xs 1)), (2, .int (xs 2)), (3, .int (xs 3))]) (st2 := [.int (xs 3)]) (w2 := (iv_wd iv_Az iv_Fz iv_Bz)) rfl ?_
                    refine iv_Gcall (ν := 24) (c := 1) (as := [.int (xs 3)]) (rest := []) (w2 := (iv_wd iv_Az iv_Fz iv_Bz)) (tg2 := true) (k2 := 0) (z2 := 0) (v := (some (.int 1))) rfl rfl rfl rfl rfl rfl rfl (Nat.le_of_ble_eq_true rfl) rfl ?_ ?_
                    · refine iv_Gm 1 (pc2 := 1) (lv2 := [(0, .int (xs 3))]) (st2 := [.int (xs 3)]) (w2 := (iv_wd iv_Az iv_Fz iv_Bz)) rfl ?_
                      refine iv_Gbf (c := decide ((xs 3) < 0)) (p1 := 15) (p2 := 4) (lv2 := [(0, .int (xs 3))]) (st2 := []) (w2 := (iv_wd iv_Az iv_Fz iv_Bz)) rfl (decide_eq_false h1) ?_
                      refine iv_Gm 2 (pc2 := 8) (lv2 := [(0, .int (xs 3))]) (st2 := [.int 255, .int (xs 3)]) (w2 := (iv_wd iv_Az iv_Fz iv_Bz)) rfl ?_
                      refine iv_Gbf (c := decide (255 < (xs 3))) (p1 := 15) (p2 := 11) (lv2 := [(0, .int (xs 3))]) (st2 := []) (w2 := (iv_wd iv_Az iv_Fz iv_Bz)) rfl (decide_eq_false (fun q => (iv_lg2 (by decide)).mp q h8)) ?_
                      refine iv_Gm 2 (pc2 := 16) (lv2 := [(0, .int (xs 3))]) (st2 := [.int 1]) (w2 := (iv_wd iv_Az iv_Fz iv_Bz)) rfl ?_
                      exact iv_Gret rfl rfl rfl
                    show iv_G _ _ _ _ 4 [(0, .ref 1), (1, .int (xs 1)), (2, .int (xs 2)), (3, .int (xs 3))] [.int 1] (iv_wd iv_Az iv_Fz iv_Bz) true _ _ _
                    refine iv_Gm 3 (pc2 := 11) (lv2 := [(0, .ref 1), (1, .int (xs 1)), (2, .int (xs 2)), (3, .int (xs 3))]) (st2 := [.int (xs 2), .int (xs 1)]) (w2 := (iv_wd iv_Az iv_Fz iv_Bz)) rfl ?_
                    refine iv_Gcall (ν := 26) (c := 2) (as := [.int (xs 1), .int (xs 2)]) (rest := []) (w2 := (iv_wd iv_Az iv_Fz iv_Bz)) (tg2 := true) (k2 := 0) (z2 := 0) (v := (some (.int 0))) rfl rfl rfl rfl rfl rfl rfl (Nat.le_of_ble_eq_true rfl) rfl ?_ ?_
                    · refine iv_Gm 1 (pc2 := 1) (lv2 := [(0, .int (xs 1)), (1, .int (xs 2))]) (st2 := [.int (xs 1)]) (w2 := (iv_wd iv_Az iv_Fz iv_Bz)) rfl ?_
                      refine iv_Gbf (c := decide ((xs 1) = 0)) (p1 := 9) (p2 := 4) (lv2 := [(0, .int (xs 1)), (1, .int (xs 2))]) (st2 := []) (w2 := (iv_wd iv_Az iv_Fz iv_Bz)) rfl (decide_eq_false h9) ?_
                      refine iv_Gm 2 (pc2 := 6) (lv2 := [(0, .int (xs 1)), (1, .int (xs 2))]) (st2 := [.int 1, .int (xs 1)]) (w2 := (iv_wd iv_Az iv_Fz iv_Bz)) rfl ?_
                      refine iv_Gbt (c := decide (¬ (xs 1) = 1)) (p1 := 23) (p2 := 9) (lv2 := [(0, .int (xs 1)), (1, .int (xs 2))]) (st2 := []) (w2 := (iv_wd iv_Az iv_Fz iv_Bz)) rfl (decide_eq_true h12) ?_
                      refine iv_Gm 1 (pc2 := 24) (lv2 := [(0, .int (xs 1)), (1, .int (xs 2))]) (st2 := [.int 0]) (w2 := (iv_wd iv_Az iv_Fz iv_Bz)) rfl ?_
                      exact iv_Gret rfl rfl rfl
                    show iv_G _ _ _ _ 14 [(0, .ref 1), (1, .int (xs 1)), (2, .int (xs 2)), (3, .int (xs 3))] [.int 0] (iv_wd iv_Az iv_Fz iv_Bz) true _ _ _
                    refine iv_Gm 3 (pc2 := 31) (lv2 := [(0, .ref 1), (1, .int (xs 1)), (2, .int (xs 2)), (3, .int (xs 3))]) (st2 := [.int (xs 2), .int (xs 1)]) (w2 := (iv_wd iv_Az iv_Fz iv_Bz)) rfl ?_
                    refine iv_Gcall (ν := 27) (c := 2) (as := [.int (xs 1), .int (xs 2)]) (rest := []) (w2 := (iv_wd iv_Az iv_Fz iv_Bz)) (tg2 := true) (k2 := 0) (z2 := 0) (v := (some (.int 1))) rfl rfl rfl rfl rfl rfl rfl (Nat.le_of_ble_eq_true rfl) rfl ?_ ?_
                    · refine iv_Gm 1 (pc2 := 1) (lv2 := [(0, .int (xs 1)), (1, .int (xs 2))]) (st2 := [.int (xs 1)]) (w2 := (iv_wd iv_Az iv_Fz iv_Bz)) rfl ?_
                      refine iv_Gcall (ν := 25) (c := 1) (as := [.int (xs 1)]) (rest := []) (w2 := (iv_wd iv_Az iv_Fz iv_Bz)) (tg2 := true) (k2 := 0) (z2 := 0) (v := (some (.int 1))) rfl rfl rfl rfl rfl rfl rfl (Nat.le_of_ble_eq_true rfl) rfl ?_ ?_
                      · refine iv_Gm 2 (pc2 := 2) (lv2 := [(0, .int (xs 1))]) (st2 := [.int 2, .int (xs 1)]) (w2 := (iv_wd iv_Az iv_Fz iv_Bz)) rfl ?_
                        refine iv_Gbf (c := decide ((xs 1) < 2)) (p1 := 15) (p2 := 5) (lv2 := [(0, .int (xs 1))]) (st2 := []) (w2 := (iv_wd iv_Az iv_Fz iv_Bz)) rfl (decide_eq_false h15) ?_
                        refine iv_Gm 2 (pc2 := 8) (lv2 := [(0, .int (xs 1))]) (st2 := [.int 32, .int (xs 1)]) (w2 := (iv_wd iv_Az iv_Fz iv_Bz)) rfl ?_
                        refine iv_Gbf (c := decide (32 ≤ (xs 1))) (p1 := 15) (p2 := 11) (lv2 := [(0, .int (xs 1))]) (st2 := []) (w2 := (iv_wd iv_Az iv_Fz iv_Bz)) rfl (decide_eq_false (Int32.not_le.mpr h17)) ?_
                        refine iv_Gm 2 (pc2 := 16) (lv2 := [(0, .int (xs 1))]) (st2 := [.int 1]) (w2 := (iv_wd iv_Az iv_Fz iv_Bz)) rfl ?_
                        exact iv_Gret rfl rfl rfl
                      show iv_G _ _ _ _ 4 [(0, .int (xs 1)), (1, .int (xs 2))] [.int 1] (iv_wd iv_Az iv_Fz iv_Bz) true _ _ _
                      refine iv_Gm 2 (pc2 := 8) (lv2 := [(0, .int (xs 1)), (1, .int (xs 2))]) (st2 := [.int (xs 2)]) (w2 := (iv_wd iv_Az iv_Fz iv_Bz)) rfl ?_
                      refine iv_Gbf (c := decide ((xs 2) < 0)) (p1 := 21) (p2 := 11) (lv2 := [(0, .int (xs 1)), (1, .int (xs 2))]) (st2 := []) (w2 := (iv_wd iv_Az iv_Fz iv_Bz)) rfl (decide_eq_false h18) ?_
                      refine iv_Gm 2 (pc2 := 14) (lv2 := [(0, .int (xs 1)), (1, .int (xs 2))]) (st2 := [.int 64, .int (xs 2)]) (w2 := (iv_wd iv_Az iv_Fz iv_Bz)) rfl ?_
                      refine iv_Gbf (c := decide (64 ≤ (xs 2))) (p1 := 21) (p2 := 17) (lv2 := [(0, .int (xs 1)), (1, .int (xs 2))]) (st2 := []) (w2 := (iv_wd iv_Az iv_Fz iv_Bz)) rfl (decide_eq_false (Int32.not_le.mpr h19)) ?_
                      refine iv_Gm 2 (pc2 := 22) (lv2 := [(0, .int (xs 1)), (1, .int (xs 2))]) (st2 := [.int 1]) (w2 := (iv_wd iv_Az iv_Fz iv_Bz)) rfl ?_
                      exact iv_Gret rfl rfl rfl
                    show iv_G _ _ _ _ 34 [(0, .ref 1), (1, .int (xs 1)), (2, .int (xs 2)), (3, .int (xs 3))] [.int 1] (iv_wd iv_Az iv_Fz iv_Bz) true _ _ _
                    refine iv_Gm 6 (pc2 := 44) (lv2 := [(0, .ref 1), (1, .int (xs 1)), (2, .int (xs 2)), (3, .int (xs 3))]) (st2 := [.int (xs 3), .int (xs 2), .int (xs 1), .ref 2]) (w2 := (iv_wd iv_Az iv_Fz iv_Bz)) rfl ?_
                    refine iv_Gcall (ν := 65) (c := 4) (as := [.ref 2, .int (xs 1), .int (xs 2), .int (xs 3)]) (rest := []) (w2 := (iv_wd (iv_uA iv_Az 3 (Int32.toNatClampNeg ((64 * (xs 1)) + (xs 2))) (xs 3)) iv_Fz iv_Bz)) (tg2 := true) (k2 := 0) (z2 := 0) (v := none) rfl rfl rfl rfl rfl rfl rfl (Nat.le_of_ble_eq_true rfl) rfl ?_ ?_
                    · refine iv_Gm 8 (pc2 := 11) (lv2 := [(0, .ref 2), (1, .int (xs 1)), (2, .int (xs 2)), (3, .int (xs 3))]) (st2 := [.int (xs 3), .int ((64 * (xs 1)) + (xs 2)), .ref 3]) (w2 := (iv_wd iv_Az iv_Fz iv_Bz)) rfl ?_
                      refine iv_Gif (pc2 := 12) (lv2 := [(0, .ref 2), (1, .int (xs 1)), (2, .int (xs 2)), (3, .int (xs 3))]) (st2 := []) (w2 := (iv_wd (iv_uA iv_Az 3 (Int32.toNatClampNeg ((64 * (xs 1)) + (xs 2))) (xs 3)) iv_Fz iv_Bz)) rfl (iv_in_c (iv_ld2 h15 (by decide)) h17 (iv_ld2 h18 (by decide)) h19) ?_
                      exact iv_Gret rfl rfl rfl
                    show iv_G _ _ _ _ 47 [(0, .ref 1), (1, .int (xs 1)), (2, .int (xs 2)), (3, .int (xs 3))] [] (iv_wd (iv_uA iv_Az 3 (Int32.toNatClampNeg ((64 * (xs 1)) + (xs 2))) (xs 3)) iv_Fz iv_Bz) true _ _ _
                    refine iv_Gm 1 (pc2 := 48) (lv2 := [(0, .ref 1), (1, .int (xs 1)), (2, .int (xs 2)), (3, .int (xs 3))]) (st2 := [.int 1]) (w2 := (iv_wd (iv_uA iv_Az 3 (Int32.toNatClampNeg ((64 * (xs 1)) + (xs 2))) (xs 3)) iv_Fz iv_Bz)) rfl ?_
                    exact iv_Gret rfl rfl rfl
                  show iv_Fin _ _ _ _ 673 [(4, .int 0), (3, .ref 65), (2, .ref 44), (1, .ref 1), (0, .ref 0)] [.int 1] (iv_wd (iv_uA iv_Az 3 (Int32.toNatClampNeg ((64 * (xs 1)) + (xs 2))) (xs 3)) iv_Fz iv_Bz) true _ _
                  refine iv_Em 16 (pc2 := 692) (lv2 := [(4, .int 0), (3, .ref 65), (2, .ref 44), (1, .ref 1), (0, .ref 0)]) (st2 := [.int (xs 3), .int (xs 2), .int (xs 1), .ref 44, .int 1]) (w2 := (iv_wd (iv_uA iv_Az 3 (Int32.toNatClampNeg ((64 * (xs 1)) + (xs 2))) (xs 3)) iv_Fz iv_Bz)) rfl ?_
                  refine iv_Ecall (ν := 179) (c := 4) (as := [.ref 44, .int (xs 1), .int (xs 2), .int (xs 3)]) (rest := [.int 1]) (w2 := (iv_wd (iv_uA (iv_uA iv_Az 3 (Int32.toNatClampNeg ((64 * (xs 1)) + (xs 2))) (xs 3)) 47 (Int32.toNatClampNeg ((64 * (xs 1)) + (xs 2))) (xs 3)) (iv_uF iv_Fz 4400 0) iv_Bz)) (tg2 := true) (k2 := 0) (z2 := 0) (v := (some (.int 1))) rfl rfl rfl rfl rfl rfl rfl (Nat.le_of_ble_eq_true rfl) rfl ?_ ?_
                  · refine iv_Gm 5 (pc2 := 7) (lv2 := [(0, .ref 44), (1, .int (xs 1)), (2, .int (xs 2)), (3, .int (xs 3))]) (st2 := [.int (xs 2), .int (xs 1)]) (w2 := (iv_wd (iv_uA iv_Az 3 (Int32.toNatClampNeg ((64 * (xs 1)) + (xs 2))) (xs 3)) (iv_uF iv_Fz 4400 0) iv_Bz)) rfl ?_
                    refine iv_Gcall (ν := 178) (c := 2) (as := [.int (xs 1), .int (xs 2)]) (rest := []) (w2 := (iv_wd (iv_uA iv_Az 3 (Int32.toNatClampNeg ((64 * (xs 1)) + (xs 2))) (xs 3)) (iv_uF iv_Fz 4400 0) iv_Bz)) (tg2 := true) (k2 := 0) (z2 := 0) (v := (some (.int 1))) rfl rfl rfl rfl rfl rfl rfl (Nat.le_of_ble_eq_true rfl) rfl ?_ ?_
                    · refine iv_Gm 1 (pc2 := 1) (lv2 := [(0, .int (xs 1)), (1, .int (xs 2))]) (st2 := [.int (xs 1)]) (w2 := (iv_wd (iv_uA iv_Az 3 (Int32.toNatClampNeg ((64 * (xs 1)) + (xs 2))) (xs 3)) (iv_uF iv_Fz 4400 0) iv_Bz)) rfl ?_
                      refine iv_Gbf (c := decide ((xs 1) < 0)) (p1 := 34) (p2 := 4) (lv2 := [(0, .int (xs 1)), (1, .int (xs 2))]) (st2 := []) (w2 := (iv_wd (iv_uA iv_Az 3 (Int32.toNatClampNeg ((64 * (xs 1)) + (xs 2))) (xs 3)) (iv_uF iv_Fz 4400 0) iv_Bz)) rfl (decide_eq_false (iv_ld2 h15 (by decide))) ?_
                      refine iv_Gm 2 (pc2 := 7) (lv2 := [(0, .int (xs 1)), (1, .int (xs 2))]) (st2 := [.int 31, .int (xs 1)]) (w2 := (iv_wd (iv_uA iv_Az 3 (Int32.toNatClampNeg ((64 * (xs 1)) + (xs 2))) (xs 3)) (iv_uF iv_Fz 4400 0) iv_Bz)) rfl ?_
                      refine iv_Gbf (c := decide (31 < (xs 1))) (p1 := 34) (p2 := 10) (lv2 := [(0, .int (xs 1)), (1, .int (xs 2))]) (st2 := []) (w2 := (iv_wd (iv_uA iv_Az 3 (Int32.toNatClampNeg ((64 * (xs 1)) + (xs 2))) (xs 3)) (iv_uF iv_Fz 4400 0) iv_Bz)) rfl (decide_eq_false (fun q => (iv_lg2 (by decide)).mp q h17)) ?_
                      refine iv_Gm 1 (pc2 := 11) (lv2 := [(0, .int (xs 1)), (1, .int (xs 2))]) (st2 := [.int (xs 2)]) (w2 := (iv_wd (iv_uA iv_Az 3 (Int32.toNatClampNeg ((64 * (xs 1)) + (xs 2))) (xs 3)) (iv_uF iv_Fz 4400 0) iv_Bz)) rfl ?_
                      refine iv_Gbf (c := decide ((xs 2) < 0)) (p1 := 34) (p2 := 14) (lv2 := [(0, .int (xs 1)), (1, .int (xs 2))]) (st2 := []) (w2 := (iv_wd (iv_uA iv_Az 3 (Int32.toNatClampNeg ((64 * (xs 1)) + (xs 2))) (xs 3)) (iv_uF iv_Fz 4400 0) iv_Bz)) rfl (decide_eq_false h18) ?_
                      refine iv_Gm 3 (pc2 := 17) (lv2 := [(0, .int (xs 1)), (1, .int (xs 2))]) (st2 := [.int 2, .int (xs 1), .int (xs 2)]) (w2 := (iv_wd (iv_uA iv_Az 3 (Int32.toNatClampNeg ((64 * (xs 1)) + (xs 2))) (xs 3)) (iv_uF iv_Fz 4400 0) iv_Bz)) rfl ?_
                      refine iv_Gbt (c := decide (2 ≤ (xs 1))) (p1 := 25) (p2 := 20) (lv2 := [(0, .int (xs 1)), (1, .int (xs 2))]) (st2 := [.int (xs 2)]) (w2 := (iv_wd (iv_uA iv_Az 3 (Int32.toNatClampNeg ((64 * (xs 1)) + (xs 2))) (xs 3)) (iv_uF iv_Fz 4400 0) iv_Bz)) rfl (decide_eq_true (Int32.not_lt.mp h15)) ?_
                      refine iv_Gm 1 (pc2 := 27) (lv2 := [(0, .int (xs 1)), (1, .int (xs 2))]) (st2 := [.int 64, .int (xs 2)]) (w2 := (iv_wd (iv_uA iv_Az 3 (Int32.toNatClampNeg ((64 * (xs 1)) + (xs 2))) (xs 3)) (iv_uF iv_Fz 4400 0) iv_Bz)) rfl ?_
                      refine iv_Gbf (c := decide (64 ≤ (xs 2))) (p1 := 34) (p2 := 30) (lv2 := [(0, .int (xs 1)), (1, .int (xs 2))]) (st2 := []) (w2 := (iv_wd (iv_uA iv_Az 3 (Int32.toNatClampNeg ((64 * (xs 1)) + (xs 2))) (xs 3)) (iv_uF iv_Fz 4400 0) iv_Bz)) rfl (decide_eq_false (Int32.not_le.mpr h19)) ?_
                      refine iv_Gm 2 (pc2 := 35) (lv2 := [(0, .int (xs 1)), (1, .int (xs 2))]) (st2 := [.int 1]) (w2 := (iv_wd (iv_uA iv_Az 3 (Int32.toNatClampNeg ((64 * (xs 1)) + (xs 2))) (xs 3)) (iv_uF iv_Fz 4400 0) iv_Bz)) rfl ?_
                      exact iv_Gret rfl rfl rfl
                    show iv_G _ _ _ _ 10 [(0, .ref 44), (1, .int (xs 1)), (2, .int (xs 2)), (3, .int (xs 3))] [.int 1] (iv_wd (iv_uA iv_Az 3 (Int32.toNatClampNeg ((64 * (xs 1)) + (xs 2))) (xs 3)) (iv_uF iv_Fz 4400 0) iv_Bz) true _ _ _
                    refine iv_Gm 2 (pc2 := 14) (lv2 := [(0, .ref 44), (1, .int (xs 1)), (2, .int (xs 2)), (3, .int (xs 3))]) (st2 := [.int (xs 3)]) (w2 := (iv_wd (iv_uA iv_Az 3 (Int32.toNatClampNeg ((64 * (xs 1)) + (xs 2))) (xs 3)) (iv_uF iv_Fz 4400 0) iv_Bz)) rfl ?_
                    refine iv_Gbf (c := decide ((xs 3) < 0)) (p1 := 24) (p2 := 17) (lv2 := [(0, .ref 44), (1, .int (xs 1)), (2, .int (xs 2)), (3, .int (xs 3))]) (st2 := []) (w2 := (iv_wd (iv_uA iv_Az 3 (Int32.toNatClampNeg ((64 * (xs 1)) + (xs 2))) (xs 3)) (iv_uF iv_Fz 4400 0) iv_Bz)) rfl (decide_eq_false h1) ?_
                    refine iv_Gm 2 (pc2 := 21) (lv2 := [(0, .ref 44), (1, .int (xs 1)), (2, .int (xs 2)), (3, .int (xs 3))]) (st2 := [.int 255, .int (xs 3)]) (w2 := (iv_wd (iv_uA iv_Az 3 (Int32.toNatClampNeg ((64 * (xs 1)) + (xs 2))) (xs 3)) (iv_uF iv_Fz 4400 0) iv_Bz)) rfl ?_
                    refine iv_Gbt (c := decide ((xs 3) ≤ 255)) (p1 := 26) (p2 := 24) (lv2 := [(0, .ref 44), (1, .int (xs 1)), (2, .int (xs 2)), (3, .int (xs 3))]) (st2 := []) (w2 := (iv_wd (iv_uA iv_Az 3 (Int32.toNatClampNeg ((64 * (xs 1)) + (xs 2))) (xs 3)) (iv_uF iv_Fz 4400 0) iv_Bz)) rfl (decide_eq_true (Int32.not_lt.mp (fun q => (iv_lg2 (by decide)).mp q h8))) ?_
                    refine iv_Gm 2 (pc2 := 28) (lv2 := [(0, .ref 44), (1, .int (xs 1)), (2, .int (xs 2)), (3, .int (xs 3))]) (st2 := [.int 2, .int (xs 1)]) (w2 := (iv_wd (iv_uA iv_Az 3 (Int32.toNatClampNeg ((64 * (xs 1)) + (xs 2))) (xs 3)) (iv_uF iv_Fz 4400 0) iv_Bz)) rfl ?_
                    refine iv_Gbt (c := decide (2 ≤ (xs 1))) (p1 := 46) (p2 := 31) (lv2 := [(0, .ref 44), (1, .int (xs 1)), (2, .int (xs 2)), (3, .int (xs 3))]) (st2 := []) (w2 := (iv_wd (iv_uA iv_Az 3 (Int32.toNatClampNeg ((64 * (xs 1)) + (xs 2))) (xs 3)) (iv_uF iv_Fz 4400 0) iv_Bz)) rfl (decide_eq_true (Int32.not_lt.mp h15)) ?_
                    refine iv_Gm 8 (pc2 := 57) (lv2 := [(0, .ref 44), (1, .int (xs 1)), (2, .int (xs 2)), (3, .int (xs 3))]) (st2 := [.int (xs 3), .int ((64 * (xs 1)) + (xs 2)), .ref 47]) (w2 := (iv_wd (iv_uA iv_Az 3 (Int32.toNatClampNeg ((64 * (xs 1)) + (xs 2))) (xs 3)) (iv_uF iv_Fz 4400 0) iv_Bz)) rfl ?_
                    refine iv_Gif (pc2 := 58) (lv2 := [(0, .ref 44), (1, .int (xs 1)), (2, .int (xs 2)), (3, .int (xs 3))]) (st2 := []) (w2 := (iv_wd (iv_uA (iv_uA iv_Az 3 (Int32.toNatClampNeg ((64 * (xs 1)) + (xs 2))) (xs 3)) 47 (Int32.toNatClampNeg ((64 * (xs 1)) + (xs 2))) (xs 3)) (iv_uF iv_Fz 4400 0) iv_Bz)) rfl (iv_in_c (iv_ld2 h15 (by decide)) h17 (iv_ld2 h18 (by decide)) h19) ?_
                    refine iv_Gm 1 (pc2 := 59) (lv2 := [(0, .ref 44), (1, .int (xs 1)), (2, .int (xs 2)), (3, .int (xs 3))]) (st2 := [.int 1]) (w2 := (iv_wd (iv_uA (iv_uA iv_Az 3 (Int32.toNatClampNeg ((64 * (xs 1)) + (xs 2))) (xs 3)) 47 (Int32.toNatClampNeg ((64 * (xs 1)) + (xs 2))) (xs 3)) (iv_uF iv_Fz 4400 0) iv_Bz)) rfl ?_
                    exact iv_Gret rfl rfl rfl
                  show iv_Fin _ _ _ _ 695 [(4, .int 0), (3, .ref 65), (2, .ref 44), (1, .ref 1), (0, .ref 0)] [.int 1, .int 1] (iv_wd (iv_uA (iv_uA iv_Az 3 (Int32.toNatClampNeg ((64 * (xs 1)) + (xs 2))) (xs 3)) 47 (Int32.toNatClampNeg ((64 * (xs 1)) + (xs 2))) (xs 3)) (iv_uF iv_Fz 4400 0) iv_Bz) true _ _
                  refine iv_Em 10 (pc2 := 788) (lv2 := [(4, .int 6), (3, .ref 65), (2, .ref 44), (1, .ref 1), (0, .ref 0)]) (st2 := [.int 1]) (w2 := (iv_wd (iv_uA (iv_uA iv_Az 3 (Int32.toNatClampNeg ((64 * (xs 1)) + (xs 2))) (xs 3)) 47 (Int32.toNatClampNeg ((64 * (xs 1)) + (xs 2))) (xs 3)) (iv_uF iv_Fz 4400 0) iv_Bz)) rfl ?_
                  exact iv_Eret rfl rfl rfl (by decide) (by decide)
                · refine iv_Em 11 (pc2 := 40) (lv2 := [(4, .int 0), (3, .ref 65), (2, .ref 44), (1, .ref 1), (0, .ref 0)]) (st2 := [.int ((xs 0) &&& 15)]) (w2 := (iv_wd iv_Az iv_Fz iv_Bz)) rfl ?_
                  refine iv_Esw rfl rfl (show iv_sw 40 _ _ _ _ _ = some 651 by rw [h0]; rfl) ?_
                  refine iv_Em 16 (pc2 := 670) (lv2 := [(4, .int 0), (3, .ref 65), (2, .ref 44), (1, .ref 1), (0, .ref 0)]) (st2 := [.int (xs 3), .int (xs 2), .int (xs 1), .ref 1]) (w2 := (iv_wd iv_Az iv_Fz iv_Bz)) rfl ?_
                  refine iv_Ecall (ν := 13) (c := 4) (as := [.ref 1, .int (xs 1), .int (xs 2), .int (xs 3)]) (rest := []) (w2 := (iv_wd iv_Az iv_Fz iv_Bz)) (tg2 := true) (k2 := 0) (z2 := 0) (v := (some (.int 0))) rfl rfl rfl rfl rfl rfl rfl (Nat.le_of_ble_eq_true rfl) rfl ?_ ?_
                  · refine iv_Gm 1 (pc2 := 1) (lv2 := [(0, .ref 1), (1, .int (xs 1)), (2, .int (xs 2)), (3, .int (xs 3))]) (st2 := [.int (xs 3)]) (w2 := (iv_wd iv_Az iv_Fz iv_Bz)) rfl ?_
                    refine iv_Gcall (ν := 24) (c := 1) (as := [.int (xs 3)]) (rest := []) (w2 := (iv_wd iv_Az iv_Fz iv_Bz)) (tg2 := true) (k2 := 0) (z2 := 0) (v := (some (.int 1))) rfl rfl rfl rfl rfl rfl rfl (Nat.le_of_ble_eq_true rfl) rfl ?_ ?_
                    · refine iv_Gm 1 (pc2 := 1) (lv2 := [(0, .int (xs 3))]) (st2 := [.int (xs 3)]) (w2 := (iv_wd iv_Az iv_Fz iv_Bz)) rfl ?_
                      refine iv_Gbf (c := decide ((xs 3) < 0)) (p1 := 15) (p2 := 4) (lv2 := [(0, .int (xs 3))]) (st2 := []) (w2 := (iv_wd iv_Az iv_Fz iv_Bz)) rfl (decide_eq_false h1) ?_
                      refine iv_Gm 2 (pc2 := 8) (lv2 := [(0, .int (xs 3))]) (st2 := [.int 255, .int (xs 3)]) (w2 := (iv_wd iv_Az iv_Fz iv_Bz)) rfl ?_
                      refine iv_Gbf (c := decide (255 < (xs 3))) (p1 := 15) (p2 := 11) (lv2 := [(0, .int (xs 3))]) (st2 := []) (w2 := (iv_wd iv_Az iv_Fz iv_Bz)) rfl (decide_eq_false (fun q => (iv_lg2 (by decide)).mp q h8)) ?_
                      refine iv_Gm 2 (pc2 := 16) (lv2 := [(0, .int (xs 3))]) (st2 := [.int 1]) (w2 := (iv_wd iv_Az iv_Fz iv_Bz)) rfl ?_
                      exact iv_Gret rfl rfl rfl
                    show iv_G _ _ _ _ 4 [(0, .ref 1), (1, .int (xs 1)), (2, .int (xs 2)), (3, .int (xs 3))] [.int 1] (iv_wd iv_Az iv_Fz iv_Bz) true _ _ _
                    refine iv_Gm 3 (pc2 := 11) (lv2 := [(0, .ref 1), (1, .int (xs 1)), (2, .int (xs 2)), (3, .int (xs 3))]) (st2 := [.int (xs 2), .int (xs 1)]) (w2 := (iv_wd iv_Az iv_Fz iv_Bz)) rfl ?_
                    refine iv_Gcall (ν := 26) (c := 2) (as := [.int (xs 1), .int (xs 2)]) (rest := []) (w2 := (iv_wd iv_Az iv_Fz iv_Bz)) (tg2 := true) (k2 := 0) (z2 := 0) (v := (some (.int 0))) rfl rfl rfl rfl rfl rfl rfl (Nat.le_of_ble_eq_true rfl) rfl ?_ ?_
                    · refine iv_Gm 1 (pc2 := 1) (lv2 := [(0, .int (xs 1)), (1, .int (xs 2))]) (st2 := [.int (xs 1)]) (w2 := (iv_wd iv_Az iv_Fz iv_Bz)) rfl ?_
                      refine iv_Gbf (c := decide ((xs 1) = 0)) (p1 := 9) (p2 := 4) (lv2 := [(0, .int (xs 1)), (1, .int (xs 2))]) (st2 := []) (w2 := (iv_wd iv_Az iv_Fz iv_Bz)) rfl (decide_eq_false h9) ?_
                      refine iv_Gm 2 (pc2 := 6) (lv2 := [(0, .int (xs 1)), (1, .int (xs 2))]) (st2 := [.int 1, .int (xs 1)]) (w2 := (iv_wd iv_Az iv_Fz iv_Bz)) rfl ?_
                      refine iv_Gbt (c := decide (¬ (xs 1) = 1)) (p1 := 23) (p2 := 9) (lv2 := [(0, .int (xs 1)), (1, .int (xs 2))]) (st2 := []) (w2 := (iv_wd iv_Az iv_Fz iv_Bz)) rfl (decide_eq_true h12) ?_
                      refine iv_Gm 1 (pc2 := 24) (lv2 := [(0, .int (xs 1)), (1, .int (xs 2))]) (st2 := [.int 0]) (w2 := (iv_wd iv_Az iv_Fz iv_Bz)) rfl ?_
                      exact iv_Gret rfl rfl rfl
                    show iv_G _ _ _ _ 14 [(0, .ref 1), (1, .int (xs 1)), (2, .int (xs 2)), (3, .int (xs 3))] [.int 0] (iv_wd iv_Az iv_Fz iv_Bz) true _ _ _
                    refine iv_Gm 3 (pc2 := 31) (lv2 := [(0, .ref 1), (1, .int (xs 1)), (2, .int (xs 2)), (3, .int (xs 3))]) (st2 := [.int (xs 2), .int (xs 1)]) (w2 := (iv_wd iv_Az iv_Fz iv_Bz)) rfl ?_
                    refine iv_Gcall (ν := 27) (c := 2) (as := [.int (xs 1), .int (xs 2)]) (rest := []) (w2 := (iv_wd iv_Az iv_Fz iv_Bz)) (tg2 := true) (k2 := 0) (z2 := 0) (v := (some (.int 0))) rfl rfl rfl rfl rfl rfl rfl (Nat.le_of_ble_eq_true rfl) rfl ?_ ?_
                    · refine iv_Gm 1 (pc2 := 1) (lv2 := [(0, .int (xs 1)), (1, .int (xs 2))]) (st2 := [.int (xs 1)]) (w2 := (iv_wd iv_Az iv_Fz iv_Bz)) rfl ?_
                      refine iv_Gcall (ν := 25) (c := 1) (as := [.int (xs 1)]) (rest := []) (w2 := (iv_wd iv_Az iv_Fz iv_Bz)) (tg2 := true) (k2 := 0) (z2 := 0) (v := (some (.int 1))) rfl rfl rfl rfl rfl rfl rfl (Nat.le_of_ble_eq_true rfl) rfl ?_ ?_
                      · refine iv_Gm 2 (pc2 := 2) (lv2 := [(0, .int (xs 1))]) (st2 := [.int 2, .int (xs 1)]) (w2 := (iv_wd iv_Az iv_Fz iv_Bz)) rfl ?_
                        refine iv_Gbf (c := decide ((xs 1) < 2)) (p1 := 15) (p2 := 5) (lv2 := [(0, .int (xs 1))]) (st2 := []) (w2 := (iv_wd iv_Az iv_Fz iv_Bz)) rfl (decide_eq_false h15) ?_
                        refine iv_Gm 2 (pc2 := 8) (lv2 := [(0, .int (xs 1))]) (st2 := [.int 32, .int (xs 1)]) (w2 := (iv_wd iv_Az iv_Fz iv_Bz)) rfl ?_
                        refine iv_Gbf (c := decide (32 ≤ (xs 1))) (p1 := 15) (p2 := 11) (lv2 := [(0, .int (xs 1))]) (st2 := []) (w2 := (iv_wd iv_Az iv_Fz iv_Bz)) rfl (decide_eq_false (Int32.not_le.mpr h17)) ?_
                        refine iv_Gm 2 (pc2 := 16) (lv2 := [(0, .int (xs 1))]) (st2 := [.int 1]) (w2 := (iv_wd iv_Az iv_Fz iv_Bz)) rfl ?_
                        exact iv_Gret rfl rfl rfl
                      show iv_G _ _ _ _ 4 [(0, .int (xs 1)), (1, .int (xs 2))] [.int 1] (iv_wd iv_Az iv_Fz iv_Bz) true _ _ _
                      refine iv_Gm 2 (pc2 := 8) (lv2 := [(0, .int (xs 1)), (1, .int (xs 2))]) (st2 := [.int (xs 2)]) (w2 := (iv_wd iv_Az iv_Fz iv_Bz)) rfl ?_
                      refine iv_Gbf (c := decide ((xs 2) < 0)) (p1 := 21) (p2 := 11) (lv2 := [(0, .int (xs 1)), (1, .int (xs 2))]) (st2 := []) (w2 := (iv_wd iv_Az iv_Fz iv_Bz)) rfl (decide_eq_false h18) ?_
                      refine iv_Gm 2 (pc2 := 14) (lv2 := [(0, .int (xs 1)), (1, .int (xs 2))]) (st2 := [.int 64, .int (xs 2)]) (w2 := (iv_wd iv_Az iv_Fz iv_Bz)) rfl ?_
                      refine iv_Gbt (c := decide (64 ≤ (xs 2))) (p1 := 21) (p2 := 17) (lv2 := [(0, .int (xs 1)), (1, .int (xs 2))]) (st2 := []) (w2 := (iv_wd iv_Az iv_Fz iv_Bz)) rfl (decide_eq_true (Int32.not_lt.mp h19)) ?_
                      refine iv_Gm 1 (pc2 := 22) (lv2 := [(0, .int (xs 1)), (1, .int (xs 2))]) (st2 := [.int 0]) (w2 := (iv_wd iv_Az iv_Fz iv_Bz)) rfl ?_
                      exact iv_Gret rfl rfl rfl
                    show iv_G _ _ _ _ 34 [(0, .ref 1), (1, .int (xs 1)), (2, .int (xs 2)), (3, .int (xs 3))] [.int 0] (iv_wd iv_Az iv_Fz iv_Bz) true _ _ _
                    refine iv_Gm 2 (pc2 := 50) (lv2 := [(0, .ref 1), (1, .int (xs 1)), (2, .int (xs 2)), (3, .int (xs 3))]) (st2 := [.int 0]) (w2 := (iv_wd iv_Az iv_Fz iv_Bz)) rfl ?_
                    exact iv_Gret rfl rfl rfl
                  show iv_Fin _ _ _ _ 673 [(4, .int 0), (3, .ref 65), (2, .ref 44), (1, .ref 1), (0, .ref 0)] [.int 0] (iv_wd iv_Az iv_Fz iv_Bz) true _ _
                  refine iv_Em 16 (pc2 := 692) (lv2 := [(4, .int 0), (3, .ref 65), (2, .ref 44), (1, .ref 1), (0, .ref 0)]) (st2 := [.int (xs 3), .int (xs 2), .int (xs 1), .ref 44, .int 0]) (w2 := (iv_wd iv_Az iv_Fz iv_Bz)) rfl ?_
                  refine iv_Ecall (ν := 179) (c := 4) (as := [.ref 44, .int (xs 1), .int (xs 2), .int (xs 3)]) (rest := [.int 0]) (w2 := (iv_wd iv_Az (iv_uF iv_Fz 4400 0) iv_Bz)) (tg2 := true) (k2 := 0) (z2 := 0) (v := (some (.int 0))) rfl rfl rfl rfl rfl rfl rfl (Nat.le_of_ble_eq_true rfl) rfl ?_ ?_
                  · refine iv_Gm 5 (pc2 := 7) (lv2 := [(0, .ref 44), (1, .int (xs 1)), (2, .int (xs 2)), (3, .int (xs 3))]) (st2 := [.int (xs 2), .int (xs 1)]) (w2 := (iv_wd iv_Az (iv_uF iv_Fz 4400 0) iv_Bz)) rfl ?_
                    refine iv_Gcall (ν := 178) (c := 2) (as := [.int (xs 1), .int (xs 2)]) (rest := []) (w2 := (iv_wd iv_Az (iv_uF iv_Fz 4400 0) iv_Bz)) (tg2 := true) (k2 := 0) (z2 := 0) (v := (some (.int 0))) rfl rfl rfl rfl rfl rfl rfl (Nat.le_of_ble_eq_true rfl) rfl ?_ ?_
                    · refine iv_Gm 1 (pc2 := 1) (lv2 := [(0, .int (xs 1)), (1, .int (xs 2))]) (st2 := [.int (xs 1)]) (w2 := (iv_wd iv_Az (iv_uF iv_Fz 4400 0) iv_Bz)) rfl ?_
                      refine iv_Gbf (c := decide ((xs 1) < 0)) (p1 := 34) (p2 := 4) (lv2 := [(0, .int (xs 1)), (1, .int (xs 2))]) (st2 := []) (w2 := (iv_wd iv_Az (iv_uF iv_Fz 4400 0) iv_Bz)) rfl (decide_eq_false (iv_ld2 h15 (by decide))) ?_
                      refine iv_Gm 2 (pc2 := 7) (lv2 := [(0, .int (xs 1)), (1, .int (xs 2))]) (st2 := [.int 31, .int (xs 1)]) (w2 := (iv_wd iv_Az (iv_uF iv_Fz 4400 0) iv_Bz)) rfl ?_
                      refine iv_Gbf (c := decide (31 < (xs 1))) (p1 := 34) (p2 := 10) (lv2 := [(0, .int (xs 1)), (1, .int (xs 2))]) (st2 := []) (w2 := (iv_wd iv_Az (iv_uF iv_Fz 4400 0) iv_Bz)) rfl (decide_eq_false (fun q => (iv_lg2 (by decide)).mp q h17)) ?_
                      refine iv_Gm 1 (pc2 := 11) (lv2 := [(0, .int (xs 1)), (1, .int (xs 2))]) (st2 := [.int (xs 2)]) (w2 := (iv_wd iv_Az (iv_uF iv_Fz 4400 0) iv_Bz)) rfl ?_
                      refine iv_Gbf (c := decide ((xs 2) < 0)) (p1 := 34) (p2 := 14) (lv2 := [(0, .int (xs 1)), (1, .int (xs 2))]) (st2 := []) (w2 := (iv_wd iv_Az (iv_uF iv_Fz 4400 0) iv_Bz)) rfl (decide_eq_false h18) ?_
                      refine iv_Gm 3 (pc2 := 17) (lv2 := [(0, .int (xs 1)), (1, .int (xs 2))]) (st2 := [.int 2, .int (xs 1), .int (xs 2)]) (w2 := (iv_wd iv_Az (iv_uF iv_Fz 4400 0) iv_Bz)) rfl ?_
                      refine iv_Gbt (c := decide (2 ≤ (xs 1))) (p1 := 25) (p2 := 20) (lv2 := [(0, .int (xs 1)), (1, .int (xs 2))]) (st2 := [.int (xs 2)]) (w2 := (iv_wd iv_Az (iv_uF iv_Fz 4400 0) iv_Bz)) rfl (decide_eq_true (Int32.not_lt.mp h15)) ?_
                      refine iv_Gm 1 (pc2 := 27) (lv2 := [(0, .int (xs 1)), (1, .int (xs 2))]) (st2 := [.int 64, .int (xs 2)]) (w2 := (iv_wd iv_Az (iv_uF iv_Fz 4400 0) iv_Bz)) rfl ?_
                      refine iv_Gbt (c := decide (64 ≤ (xs 2))) (p1 := 34) (p2 := 30) (lv2 := [(0, .int (xs 1)), (1, .int (xs 2))]) (st2 := []) (w2 := (iv_wd iv_Az (iv_uF iv_Fz 4400 0) iv_Bz)) rfl (decide_eq_true (Int32.not_lt.mp h19)) ?_
                      refine iv_Gm 1 (pc2 := 35) (lv2 := [(0, .int (xs 1)), (1, .int (xs 2))]) (st2 := [.int 0]) (w2 := (iv_wd iv_Az (iv_uF iv_Fz 4400 0) iv_Bz)) rfl ?_
                      exact iv_Gret rfl rfl rfl
                    show iv_G _ _ _ _ 10 [(0, .ref 44), (1, .int (xs 1)), (2, .int (xs 2)), (3, .int (xs 3))] [.int 0] (iv_wd iv_Az (iv_uF iv_Fz 4400 0) iv_Bz) true _ _ _
                    refine iv_Gm 2 (pc2 := 25) (lv2 := [(0, .ref 44), (1, .int (xs 1)), (2, .int (xs 2)), (3, .int (xs 3))]) (st2 := [.int 0]) (w2 := (iv_wd iv_Az (iv_uF iv_Fz 4400 0) iv_Bz)) rfl ?_
                    exact iv_Gret rfl rfl rfl
                  show iv_Fin _ _ _ _ 695 [(4, .int 0), (3, .ref 65), (2, .ref 44), (1, .ref 1), (0, .ref 0)] [.int 0, .int 0] (iv_wd iv_Az (iv_uF iv_Fz 4400 0) iv_Bz) true _ _
                  refine iv_Em 10 (pc2 := 788) (lv2 := [(4, .int 6), (3, .ref 65), (2, .ref 44), (1, .ref 1), (0, .ref 0)]) (st2 := [.int 1]) (w2 := (iv_wd iv_Az (iv_uF iv_Fz 4400 0) iv_Bz)) rfl ?_
                  exact iv_Eret rfl rfl rfl (by decide) (by decide)
            · refine iv_Em 11 (pc2 := 40) (lv2 := [(4, .int 0), (3, .ref 65), (2, .ref 44), (1, .ref 1), (0, .ref 0)]) (st2 := [.int ((xs 0) &&& 15)]) (w2 := (iv_wd iv_Az iv_Fz iv_Bz)) rfl ?_
              refine iv_Esw rfl rfl (show iv_sw 40 _ _ _ _ _ = some 651 by rw [h0]; rfl) ?_
              refine iv_Em 16 (pc2 := 670) (lv2 := [(4, .int 0), (3, .ref 65), (2, .ref 44), (1, .ref 1), (0, .ref 0)]) (st2 := [.int (xs 3), .int (xs 2), .int (xs 1), .ref 1]) (w2 := (iv_wd iv_Az iv_Fz iv_Bz)) rfl ?_
              refine iv_Ecall (ν := 13) (c := 4) (as := [.ref 1, .int (xs 1), .int (xs 2), .int (xs 3)]) (rest := []) (w2 := (iv_wd iv_Az iv_Fz iv_Bz)) (tg2 := true) (k2 := 0) (z2 := 0) (v := (some (.int 0))) rfl rfl rfl rfl rfl rfl rfl (Nat.le_of_ble_eq_true rfl) rfl ?_ ?_
              · refine iv_Gm 1 (pc2 := 1) (lv2 := [(0, .ref 1), (1, .int (xs 1)), (2, .int (xs 2)), (3, .int (xs 3))]) (st2 := [.int (xs 3)]) (w2 := (iv_wd iv_Az iv_Fz iv_Bz)) rfl ?_
                refine iv_Gcall (ν := 24) (c := 1) (as := [.int (xs 3)]) (rest := []) (w2 := (iv_wd iv_Az iv_Fz iv_Bz)) (tg2 := true) (k2 := 0) (z2 := 0) (v := (some (.int 1))) rfl rfl rfl rfl rfl rfl rfl (Nat.le_of_ble_eq_true rfl) rfl ?_ ?_
                · refine iv_Gm 1 (pc2 := 1) (lv2 := [(0, .int (xs 3))]) (st2 := [.int (xs 3)]) (w2 := (iv_wd iv_Az iv_Fz iv_Bz)) rfl ?_
                  refine iv_Gbf (c := decide ((xs 3) < 0)) (p1 := 15) (p2 := 4) (lv2 := [(0, .int (xs 3))]) (st2 := []) (w2 := (iv_wd iv_Az iv_Fz iv_Bz)) rfl (decide_eq_false h1) ?_
                  refine iv_Gm 2 (pc2 := 8) (lv2 := [(0, .int (xs 3))]) (st2 := [.int 255, .int (xs 3)]) (w2 := (iv_wd iv_Az iv_Fz iv_Bz)) rfl ?_
                  refine iv_Gbf (c := decide (255 < (xs 3))) (p1 := 15) (p2 := 11) (lv2 := [(0, .int (xs 3))]) (st2 := []) (w2 := (iv_wd iv_Az iv_Fz iv_Bz)) rfl (decide_eq_false (fun q => (iv_lg2 (by decide)).mp q h8)) ?_
                  refine iv_Gm 2 (pc2 := 16) (lv2 := [(0, .int (xs 3))]) (st2 := [.int 1]) (w2 := (iv_wd iv_Az iv_Fz iv_Bz)) rfl ?_
                  exact iv_Gret rfl rfl rfl
                show iv_G _ _ _ _ 4 [(0, .ref 1), (1, .int (xs 1)), (2, .int (xs 2)), (3, .int (xs 3))] [.int 1] (iv_wd iv_Az iv_Fz iv_Bz) true _ _ _
                refine iv_Gm 3 (pc2 := 11) (lv2 := [(0, .ref 1), (1, .int (xs 1)), (2, .int (xs 2)), (3, .int (xs 3))]) (st2 := [.int (xs 2), .int (xs 1)]) (w2 := (iv_wd iv_Az iv_Fz iv_Bz)) rfl ?_
                refine iv_Gcall (ν := 26) (c := 2) (as := [.int (xs 1), .int (xs 2)]) (rest := []) (w2 := (iv_wd iv_Az iv_Fz iv_Bz)) (tg2 := true) (k2 := 0) (z2 := 0) (v := (some (.int 0))) rfl rfl rfl rfl rfl rfl rfl (Nat.le_of_ble_eq_true rfl) rfl ?_ ?_
                · refine iv_Gm 1 (pc2 := 1) (lv2 := [(0, .int (xs 1)), (1, .int (xs 2))]) (st2 := [.int (xs 1)]) (w2 := (iv_wd iv_Az iv_Fz iv_Bz)) rfl ?_
                  refine iv_Gbf (c := decide ((xs 1) = 0)) (p1 := 9) (p2 := 4) (lv2 := [(0, .int (xs 1)), (1, .int (xs 2))]) (st2 := []) (w2 := (iv_wd iv_Az iv_Fz iv_Bz)) rfl (decide_eq_false h9) ?_
                  refine iv_Gm 2 (pc2 := 6) (lv2 := [(0, .int (xs 1)), (1, .int (xs 2))]) (st2 := [.int 1, .int (xs 1)]) (w2 := (iv_wd iv_Az iv_Fz iv_Bz)) rfl ?_
                  refine iv_Gbt (c := decide (¬ (xs 1) = 1)) (p1 := 23) (p2 := 9) (lv2 := [(0, .int (xs 1)), (1, .int (xs 2))]) (st2 := []) (w2 := (iv_wd iv_Az iv_Fz iv_Bz)) rfl (decide_eq_true h12) ?_
                  refine iv_Gm 1 (pc2 := 24) (lv2 := [(0, .int (xs 1)), (1, .int (xs 2))]) (st2 := [.int 0]) (w2 := (iv_wd iv_Az iv_Fz iv_Bz)) rfl ?_
                  exact iv_Gret rfl rfl rfl
                show iv_G _ _ _ _ 14 [(0, .ref 1), (1, .int (xs 1)), (2, .int (xs 2)), (3, .int (xs 3))] [.int 0] (iv_wd iv_Az iv_Fz iv_Bz) true _ _ _
                refine iv_Gm 3 (pc2 := 31) (lv2 := [(0, .ref 1), (1, .int (xs 1)), (2, .int (xs 2)), (3, .int (xs 3))]) (st2 := [.int (xs 2), .int (xs 1)]) (w2 := (iv_wd iv_Az iv_Fz iv_Bz)) rfl ?_
                refine iv_Gcall (ν := 27) (c := 2) (as := [.int (xs 1), .int (xs 2)]) (rest := []) (w2 := (iv_wd iv_Az iv_Fz iv_Bz)) (tg2 := true) (k2 := 0) (z2 := 0) (v := (some (.int 0))) rfl rfl rfl rfl rfl rfl rfl (Nat.le_of_ble_eq_true rfl) rfl ?_ ?_
                · refine iv_Gm 1 (pc2 := 1) (lv2 := [(0, .int (xs 1)), (1, .int (xs 2))]) (st2 := [.int (xs 1)]) (w2 := (iv_wd iv_Az iv_Fz iv_Bz)) rfl ?_
                  refine iv_Gcall (ν := 25) (c := 1) (as := [.int (xs 1)]) (rest := []) (w2 := (iv_wd iv_Az iv_Fz iv_Bz)) (tg2 := true) (k2 := 0) (z2 := 0) (v := (some (.int 0))) rfl rfl rfl rfl rfl rfl rfl (Nat.le_of_ble_eq_true rfl) rfl ?_ ?_
                  · refine iv_Gm 2 (pc2 := 2) (lv2 := [(0, .int (xs 1))]) (st2 := [.int 2, .int (xs 1)]) (w2 := (iv_wd iv_Az iv_Fz iv_Bz)) rfl ?_
                    refine iv_Gbf (c := decide ((xs 1) < 2)) (p1 := 15) (p2 := 5) (lv2 := [(0, .int (xs 1))]) (st2 := []) (w2 := (iv_wd iv_Az iv_Fz iv_Bz)) rfl (decide_eq_false h15) ?_
                    refine iv_Gm 2 (pc2 := 8) (lv2 := [(0, .int (xs 1))]) (st2 := [.int 32, .int (xs 1)]) (w2 := (iv_wd iv_Az iv_Fz iv_Bz)) rfl ?_
                    refine iv_Gbt (c := decide (32 ≤ (xs 1))) (p1 := 15) (p2 := 11) (lv2 := [(0, .int (xs 1))]) (st2 := []) (w2 := (iv_wd iv_Az iv_Fz iv_Bz)) rfl (decide_eq_true (Int32.not_lt.mp h17)) ?_
                    refine iv_Gm 1 (pc2 := 16) (lv2 := [(0, .int (xs 1))]) (st2 := [.int 0]) (w2 := (iv_wd iv_Az iv_Fz iv_Bz)) rfl ?_
                    exact iv_Gret rfl rfl rfl
                  show iv_G _ _ _ _ 4 [(0, .int (xs 1)), (1, .int (xs 2))] [.int 0] (iv_wd iv_Az iv_Fz iv_Bz) true _ _ _
                  refine iv_Gm 2 (pc2 := 22) (lv2 := [(0, .int (xs 1)), (1, .int (xs 2))]) (st2 := [.int 0]) (w2 := (iv_wd iv_Az iv_Fz iv_Bz)) rfl ?_
                  exact iv_Gret rfl rfl rfl
                show iv_G _ _ _ _ 34 [(0, .ref 1), (1, .int (xs 1)), (2, .int (xs 2)), (3, .int (xs 3))] [.int 0] (iv_wd iv_Az iv_Fz iv_Bz) true _ _ _
                refine iv_Gm 2 (pc2 := 50) (lv2 := [(0, .ref 1), (1, .int (xs 1)), (2, .int (xs 2)), (3, .int (xs 3))]) (st2 := [.int 0]) (w2 := (iv_wd iv_Az iv_Fz iv_Bz)) rfl ?_
                exact iv_Gret rfl rfl rfl
              show iv_Fin _ _ _ _ 673 [(4, .int 0), (3, .ref 65), (2, .ref 44), (1, .ref 1), (0, .ref 0)] [.int 0] (iv_wd iv_Az iv_Fz iv_Bz) true _ _
              refine iv_Em 16 (pc2 := 692) (lv2 := [(4, .int 0), (3, .ref 65), (2, .ref 44), (1, .ref 1), (0, .ref 0)]) (st2 := [.int (xs 3), .int (xs 2), .int (xs 1), .ref 44, .int 0]) (w2 := (iv_wd iv_Az iv_Fz iv_Bz)) rfl ?_
              refine iv_Ecall (ν := 179) (c := 4) (as := [.ref 44, .int (xs 1), .int (xs 2), .int (xs 3)]) (rest := [.int 0]) (w2 := (iv_wd iv_Az (iv_uF iv_Fz 4400 0) iv_Bz)) (tg2 := true) (k2 := 0) (z2 := 0) (v := (some (.int 0))) rfl rfl rfl rfl rfl rfl rfl (Nat.le_of_ble_eq_true rfl) rfl ?_ ?_
              · refine iv_Gm 5 (pc2 := 7) (lv2 := [(0, .ref 44), (1, .int (xs 1)), (2, .int (xs 2)), (3, .int (xs 3))]) (st2 := [.int (xs 2), .int (xs 1)]) (w2 := (iv_wd iv_Az (iv_uF iv_Fz 4400 0) iv_Bz)) rfl ?_
                refine iv_Gcall (ν := 178) (c := 2) (as := [.int (xs 1), .int (xs 2)]) (rest := []) (w2 := (iv_wd iv_Az (iv_uF iv_Fz 4400 0) iv_Bz)) (tg2 := true) (k2 := 0) (z2 := 0) (v := (some (.int 0))) rfl rfl rfl rfl rfl rfl rfl (Nat.le_of_ble_eq_true rfl) rfl ?_ ?_
                · refine iv_Gm 1 (pc2 := 1) (lv2 := [(0, .int (xs 1)), (1, .int (xs 2))]) (st2 := [.int (xs 1)]) (w2 := (iv_wd iv_Az (iv_uF iv_Fz 4400 0) iv_Bz)) rfl ?_
                  refine iv_Gbf (c := decide ((xs 1) < 0)) (p1 := 34) (p2 := 4) (lv2 := [(0, .int (xs 1)), (1, .int (xs 2))]) (st2 := []) (w2 := (iv_wd iv_Az (iv_uF iv_Fz 4400 0) iv_Bz)) rfl (decide_eq_false (iv_ld2 h15 (by decide))) ?_
                  refine iv_Gm 2 (pc2 := 7) (lv2 := [(0, .int (xs 1)), (1, .int (xs 2))]) (st2 := [.int 31, .int (xs 1)]) (w2 := (iv_wd iv_Az (iv_uF iv_Fz 4400 0) iv_Bz)) rfl ?_
                  refine iv_Gbt (c := decide (31 < (xs 1))) (p1 := 34) (p2 := 10) (lv2 := [(0, .int (xs 1)), (1, .int (xs 2))]) (st2 := []) (w2 := (iv_wd iv_Az (iv_uF iv_Fz 4400 0) iv_Bz)) rfl (decide_eq_true ((iv_lg2 (by decide)).mpr h17)) ?_
                  refine iv_Gm 1 (pc2 := 35) (lv2 := [(0, .int (xs 1)), (1, .int (xs 2))]) (st2 := [.int 0]) (w2 := (iv_wd iv_Az (iv_uF iv_Fz 4400 0) iv_Bz)) rfl ?_
                  exact iv_Gret rfl rfl rfl
                show iv_G _ _ _ _ 10 [(0, .ref 44), (1, .int (xs 1)), (2, .int (xs 2)), (3, .int (xs 3))] [.int 0] (iv_wd iv_Az (iv_uF iv_Fz 4400 0) iv_Bz) true _ _ _
                refine iv_Gm 2 (pc2 := 25) (lv2 := [(0, .ref 44), (1, .int (xs 1)), (2, .int (xs 2)), (3, .int (xs 3))]) (st2 := [.int 0]) (w2 := (iv_wd iv_Az (iv_uF iv_Fz 4400 0) iv_Bz)) rfl ?_
                exact iv_Gret rfl rfl rfl
              show iv_Fin _ _ _ _ 695 [(4, .int 0), (3, .ref 65), (2, .ref 44), (1, .ref 1), (0, .ref 0)] [.int 0, .int 0] (iv_wd iv_Az (iv_uF iv_Fz 4400 0) iv_Bz) true _ _
              refine iv_Em 10 (pc2 := 788) (lv2 := [(4, .int 6), (3, .ref 65), (2, .ref 44), (1, .ref 1), (0, .ref 0)]) (st2 := [.int 1]) (w2 := (iv_wd iv_Az (iv_uF iv_Fz 4400 0) iv_Bz)) rfl ?_
              exact iv_Eret rfl rfl rfl (by decide) (by decide)
    · by_cases h20 : (xs 1) < 0
      · refine iv_Em 11 (pc2 := 40) (lv2 := [(4, .int 0), (3, .ref 65), (2, .ref 44), (1, .ref 1), (0, .ref 0)]) (st2 := [.int ((xs 0) &&& 15)]) (w2 := (iv_wd iv_Az iv_Fz iv_Bz)) rfl ?_
        refine iv_Esw rfl rfl (show iv_sw 40 _ _ _ _ _ = some 651 by rw [h0]; rfl) ?_
        refine iv_Em 16 (pc2 := 670) (lv2 := [(4, .int 0), (3, .ref 65), (2, .ref 44), (1, .ref 1), (0, .ref 0)]) (st2 := [.int (xs 3), .int (xs 2), .int (xs 1), .ref 1]) (w2 := (iv_wd iv_Az iv_Fz iv_Bz)) rfl ?_
        refine iv_Ecall (ν := 13) (c := 4) (as := [.ref 1, .int (xs 1), .int (xs 2), .int (xs 3)]) (rest := []) (w2 := (iv_wd iv_Az iv_Fz iv_Bz)) (tg2 := true) (k2 := 0) (z2 := 0) (v := (some (.int 0))) rfl rfl rfl rfl rfl rfl rfl (Nat.le_of_ble_eq_true rfl) rfl ?_ ?_
        · refine iv_Gm 1 (pc2 := 1) (lv2 := [(0, .ref 1), (1, .int (xs 1)), (2, .int (xs 2)), (3, .int (xs 3))]) (st2 := [.int (xs 3)]) (w2 := (iv_wd iv_Az iv_Fz iv_Bz)) rfl ?_
          refine iv_Gcall (ν := 24) (c := 1) (as := [.int (xs 3)]) (rest := []) (w2 := (iv_wd iv_Az iv_Fz iv_Bz)) (tg2 := true) (k2 := 0) (z2 := 0) (v := (some (.int 0))) rfl rfl rfl rfl rfl rfl rfl (Nat.le_of_ble_eq_true rfl) rfl ?_ ?_
          · refine iv_Gm 1 (pc2 := 1) (lv2 := [(0, .int (xs 3))]) (st2 := [.int (xs 3)]) (w2 := (iv_wd iv_Az iv_Fz iv_Bz)) rfl ?_
            refine iv_Gbf (c := decide ((xs 3) < 0)) (p1 := 15) (p2 := 4) (lv2 := [(0, .int (xs 3))]) (st2 := []) (w2 := (iv_wd iv_Az iv_Fz iv_Bz)) rfl (decide_eq_false h1) ?_
            refine iv_Gm 2 (pc2 := 8) (lv2 := [(0, .int (xs 3))]) (st2 := [.int 255, .int (xs 3)]) (w2 := (iv_wd iv_Az iv_Fz iv_Bz)) rfl ?_
            refine iv_Gbt (c := decide (255 < (xs 3))) (p1 := 15) (p2 := 11) (lv2 := [(0, .int (xs 3))]) (st2 := []) (w2 := (iv_wd iv_Az iv_Fz iv_Bz)) rfl (decide_eq_true ((iv_lg2 (by decide)).mpr h8)) ?_
            refine iv_Gm 1 (pc2 := 16) (lv2 := [(0, .int (xs 3))]) (st2 := [.int 0]) (w2 := (iv_wd iv_Az iv_Fz iv_Bz)) rfl ?_
            exact iv_Gret rfl rfl rfl
          show iv_G _ _ _ _ 4 [(0, .ref 1), (1, .int (xs 1)), (2, .int (xs 2)), (3, .int (xs 3))] [.int 0] (iv_wd iv_Az iv_Fz iv_Bz) true _ _ _
          refine iv_Gm 2 (pc2 := 8) (lv2 := [(0, .ref 1), (1, .int (xs 1)), (2, .int (xs 2)), (3, .int (xs 3))]) (st2 := [.int 0]) (w2 := (iv_wd iv_Az iv_Fz iv_Bz)) rfl ?_
          exact iv_Gret rfl rfl rfl
        show iv_Fin _ _ _ _ 673 [(4, .int 0), (3, .ref 65), (2, .ref 44), (1, .ref 1), (0, .ref 0)] [.int 0] (iv_wd iv_Az iv_Fz iv_Bz) true _ _
        refine iv_Em 16 (pc2 := 692) (lv2 := [(4, .int 0), (3, .ref 65), (2, .ref 44), (1, .ref 1), (0, .ref 0)]) (st2 := [.int (xs 3), .int (xs 2), .int (xs 1), .ref 44, .int 0]) (w2 := (iv_wd iv_Az iv_Fz iv_Bz)) rfl ?_
        refine iv_Ecall (ν := 179) (c := 4) (as := [.ref 44, .int (xs 1), .int (xs 2), .int (xs 3)]) (rest := [.int 0]) (w2 := (iv_wd iv_Az (iv_uF iv_Fz 4400 0) iv_Bz)) (tg2 := true) (k2 := 0) (z2 := 0) (v := (some (.int 0))) rfl rfl rfl rfl rfl rfl rfl (Nat.le_of_ble_eq_true rfl) rfl ?_ ?_
        · refine iv_Gm 5 (pc2 := 7) (lv2 := [(0, .ref 44), (1, .int (xs 1)), (2, .int (xs 2)), (3, .int (xs 3))]) (st2 := [.int (xs 2), .int (xs 1)]) (w2 := (iv_wd iv_Az (iv_uF iv_Fz 4400 0) iv_Bz)) rfl ?_
          refine iv_Gcall (ν := 178) (c := 2) (as := [.int (xs 1), .int (xs 2)]) (rest := []) (w2 := (iv_wd iv_Az (iv_uF iv_Fz 4400 0) iv_Bz)) (tg2 := true) (k2 := 0) (z2 := 0) (v := (some (.int 0))) rfl rfl rfl rfl rfl rfl rfl (Nat.le_of_ble_eq_true rfl) rfl ?_ ?_
          · refine iv_Gm 1 (pc2 := 1) (lv2 := [(0, .int (xs 1)), (1, .int (xs 2))]) (st2 := [.int (xs 1)]) (w2 := (iv_wd iv_Az (iv_uF iv_Fz 4400 0) iv_Bz)) rfl ?_
            refine iv_Gbt (c := decide ((xs 1) < 0)) (p1 := 34) (p2 := 4) (lv2 := [(0, .int (xs 1)), (1, .int (xs 2))]) (st2 := []) (w2 := (iv_wd iv_Az (iv_uF iv_Fz 4400 0) iv_Bz)) rfl (decide_eq_true h20) ?_
            refine iv_Gm 1 (pc2 := 35) (lv2 := [(0, .int (xs 1)), (1, .int (xs 2))]) (st2 := [.int 0]) (w2 := (iv_wd iv_Az (iv_uF iv_Fz 4400 0) iv_Bz)) rfl ?_
            exact iv_Gret rfl rfl rfl
          show iv_G _ _ _ _ 10 [(0, .ref 44), (1, .int (xs 1)), (2, .int (xs 2)), (3, .int (xs 3))] [.int 0] (iv_wd iv_Az (iv_uF iv_Fz 4400 0) iv_Bz) true _ _ _
          refine iv_Gm 2 (pc2 := 25) (lv2 := [(0, .ref 44), (1, .int (xs 1)), (2, .int (xs 2)), (3, .int (xs 3))]) (st2 := [.int 0]) (w2 := (iv_wd iv_Az (iv_uF iv_Fz 4400 0) iv_Bz)) rfl ?_
          exact iv_Gret rfl rfl rfl
        show iv_Fin _ _ _ _ 695 [(4, .int 0), (3, .ref 65), (2, .ref 44), (1, .ref 1), (0, .ref 0)] [.int 0, .int 0] (iv_wd iv_Az (iv_uF iv_Fz 4400 0) iv_Bz) true _ _
        refine iv_Em 10 (pc2 := 788) (lv2 := [(4, .int 6), (3, .ref 65), (2, .ref 44), (1, .ref 1), (0, .ref 0)]) (st2 := [.int 1]) (w2 := (iv_wd iv_Az (iv_uF iv_Fz 4400 0) iv_Bz)) rfl ?_
        exact iv_Eret rfl rfl rfl (by decide) (by decide)
      · by_cases h21 : (xs 1) < 32
        · by_cases h22 : (xs 2) < 0
          · refine iv_Em 11 (pc2 := 40) (lv2 := [(4, .int 0), (3, .ref 65), (2, .ref 44), (1, .ref 1), (0, .ref 0)]) (st2 := [.int ((xs 0) &&& 15)]) (w2 := (iv_wd iv_Az iv_Fz iv_Bz)) rfl ?_
            refine iv_Esw rfl rfl (show iv_sw 40 _ _ _ _ _ = some 651 by rw [h0]; rfl) ?_
            refine iv_Em 16 (pc2 := 670) (lv2 := [(4, .int 0), (3, .ref 65), (2, .ref 44), (1, .ref 1), (0, .ref 0)]) (st2 := [.int (xs 3), .int (xs 2), .int (xs 1), .ref 1]) (w2 := (iv_wd iv_Az iv_Fz iv_Bz)) rfl ?_
            refine iv_Ecall (ν := 13) (c := 4) (as := [.ref 1, .int (xs 1), .int (xs 2), .int (xs 3)]) (rest := []) (w2 := (iv_wd iv_Az iv_Fz iv_Bz)) (tg2 := true) (k2 := 0) (z2 := 0) (v := (some (.int 0))) rfl rfl rfl rfl rfl rfl rfl (Nat.le_of_ble_eq_true rfl) rfl ?_ ?_
            · refine iv_Gm 1 (pc2 := 1) (lv2 := [(0, .ref 1), (1, .int (xs 1)), (2, .int (xs 2)), (3, .int (xs 3))]) (st2 := [.int (xs 3)]) (w2 := (iv_wd iv_Az iv_Fz iv_Bz)) rfl ?_
              refine iv_Gcall (ν := 24) (c := 1) (as := [.int (xs 3)]) (rest := []) (w2 := (iv_wd iv_Az iv_Fz iv_Bz)) (tg2 := true) (k2 := 0) (z2 := 0) (v := (some (.int 0))) rfl rfl rfl rfl rfl rfl rfl (Nat.le_of_ble_eq_true rfl) rfl ?_ ?_
              · refine iv_Gm 1 (pc2 := 1) (lv2 := [(0, .int (xs 3))]) (st2 := [.int (xs 3)]) (w2 := (iv_wd iv_Az iv_Fz iv_Bz)) rfl ?_
                refine iv_Gbf (c := decide ((xs 3) < 0)) (p1 := 15) (p2 := 4) (lv2 := [(0, .int (xs 3))]) (st2 := []) (w2 := (iv_wd iv_Az iv_Fz iv_Bz)) rfl (decide_eq_false h1) ?_
                refine iv_Gm 2 (pc2 := 8) (lv2 := [(0, .int (xs 3))]) (st2 := [.int 255, .int (xs 3)]) (w2 := (iv_wd iv_Az iv_Fz iv_Bz)) rfl ?_
                refine iv_Gbt (c := decide (255 < (xs 3))) (p1 := 15) (p2 := 11) (lv2 := [(0, .int (xs 3))]) (st2 := []) (w2 := (iv_wd iv_Az iv_Fz iv_Bz)) rfl (decide_eq_true ((iv_lg2 (by decide)).mpr h8)) ?_
                refine iv_Gm 1 (pc2 := 16) (lv2 := [(0, .int (xs 3))]) (st2 := [.int 0]) (w2 := (iv_wd iv_Az iv_Fz iv_Bz)) rfl ?_
                exact iv_Gret rfl rfl rfl
              show iv_G _ _ _ _ 4 [(0, .ref 1), (1, .int (xs 1)), (2, .int (xs 2)), (3, .int (xs 3))] [.int 0] (iv_wd iv_Az iv_Fz iv_Bz) true _ _ _
              refine iv_Gm 2 (pc2 := 8) (lv2 := [(0, .ref 1), (1, .int (xs 1)), (2, .int (xs 2)), (3, .int (xs 3))]) (st2 := [.int 0]) (w2 := (iv_wd iv_Az iv_Fz iv_Bz)) rfl ?_
              exact iv_Gret rfl rfl rfl
            show iv_Fin _ _ _ _ 673 [(4, .int 0), (3, .ref 65), (2, .ref 44), (1, .ref 1), (0, .ref 0)] [.int 0] (iv_wd iv_Az iv_Fz iv_Bz) true _ _
            refine iv_Em 16 (pc2 := 692) (lv2 := [(4, .int 0), (3, .ref 65), (2, .ref 44), (1, .ref 1), (0, .ref 0)]) (st2 := [.int (xs 3), .int (xs 2), .int (xs 1), .ref 44, .int 0]) (w2 := (iv_wd iv_Az iv_Fz iv_Bz)) rfl ?_
            refine iv_Ecall (ν := 179) (c := 4) (as := [.ref 44, .int (xs 1), .int (xs 2), .int (xs 3)]) (rest := [.int 0]) (w2 := (iv_wd iv_Az (iv_uF iv_Fz 4400 0) iv_Bz)) (tg2 := true) (k2 := 0) (z2 := 0) (v := (some (.int 0))) rfl rfl rfl rfl rfl rfl rfl (Nat.le_of_ble_eq_true rfl) rfl ?_ ?_
            · refine iv_Gm 5 (pc2 := 7) (lv2 := [(0, .ref 44), (1, .int (xs 1)), (2, .int (xs 2)), (3, .int (xs 3))]) (st2 := [.int (xs 2), .int (xs 1)]) (w2 := (iv_wd iv_Az (iv_uF iv_Fz 4400 0) iv_Bz)) rfl ?_
              refine iv_Gcall (ν := 178) (c := 2) (as := [.int (xs 1), .int (xs 2)]) (rest := []) (w2 := (iv_wd iv_Az (iv_uF iv_Fz 4400 0) iv_Bz)) (tg2 := true) (k2 := 0) (z2 := 0) (v := (some (.int 0))) rfl rfl rfl rfl rfl rfl rfl (Nat.le_of_ble_eq_true rfl) rfl ?_ ?_
              · refine iv_Gm 1 (pc2 := 1) (lv2 := [(0, .int (xs 1)), (1, .int (xs 2))]) (st2 := [.int (xs 1)]) (w2 := (iv_wd iv_Az (iv_uF iv_Fz 4400 0) iv_Bz)) rfl ?_
                refine iv_Gbf (c := decide ((xs 1) < 0)) (p1 := 34) (p2 := 4) (lv2 := [(0, .int (xs 1)), (1, .int (xs 2))]) (st2 := []) (w2 := (iv_wd iv_Az (iv_uF iv_Fz 4400 0) iv_Bz)) rfl (decide_eq_false h20) ?_
                refine iv_Gm 2 (pc2 := 7) (lv2 := [(0, .int (xs 1)), (1, .int (xs 2))]) (st2 := [.int 31, .int (xs 1)]) (w2 := (iv_wd iv_Az (iv_uF iv_Fz 4400 0) iv_Bz)) rfl ?_
                refine iv_Gbf (c := decide (31 < (xs 1))) (p1 := 34) (p2 := 10) (lv2 := [(0, .int (xs 1)), (1, .int (xs 2))]) (st2 := []) (w2 := (iv_wd iv_Az (iv_uF iv_Fz 4400 0) iv_Bz)) rfl (decide_eq_false (fun q => (iv_lg2 (by decide)).mp q h21)) ?_
                refine iv_Gm 1 (pc2 := 11) (lv2 := [(0, .int (xs 1)), (1, .int (xs 2))]) (st2 := [.int (xs 2)]) (w2 := (iv_wd iv_Az (iv_uF iv_Fz 4400 0) iv_Bz)) rfl ?_
                refine iv_Gbt (c := decide ((xs 2) < 0)) (p1 := 34) (p2 := 14) (lv2 := [(0, .int (xs 1)), (1, .int (xs 2))]) (st2 := []) (w2 := (iv_wd iv_Az (iv_uF iv_Fz 4400 0) iv_Bz)) rfl (decide_eq_true h22) ?_
                refine iv_Gm 1 (pc2 := 35) (lv2 := [(0, .int (xs 1)), (1, .int (xs 2))]) (st2 := [.int 0]) (w2 := (iv_wd iv_Az (iv_uF iv_Fz 4400 0) iv_Bz)) rfl ?_
                exact iv_Gret rfl rfl rfl
              show iv_G _ _ _ _ 10 [(0, .ref 44), (1, .int (xs 1)), (2, .int (xs 2)), (3, .int (xs 3))] [.int 0] (iv_wd iv_Az (iv_uF iv_Fz 4400 0) iv_Bz) true _ _ _
              refine iv_Gm 2 (pc2 := 25) (lv2 := [(0, .ref 44), (1, .int (xs 1)), (2, .int (xs 2)), (3, .int (xs 3))]) (st2 := [.int 0]) (w2 := (iv_wd iv_Az (iv_uF iv_Fz 4400 0) iv_Bz)) rfl ?_
              exact iv_Gret rfl rfl rfl
            show iv_Fin _ _ _ _ 695 [(4, .int 0), (3, .ref 65), (2, .ref 44), (1, .ref 1), (0, .ref 0)] [.int 0, .int 0] (iv_wd iv_Az (iv_uF iv_Fz 4400 0) iv_Bz) true _ _
            refine iv_Em 10 (pc2 := 788) (lv2 := [(4, .int 6), (3, .ref 65), (2, .ref 44), (1, .ref 1), (0, .ref 0)]) (st2 := [.int 1]) (w2 := (iv_wd iv_Az (iv_uF iv_Fz 4400 0) iv_Bz)) rfl ?_
            exact iv_Eret rfl rfl rfl (by decide) (by decide)
          · by_cases h23 : (xs 1) < 2
            · by_cases h24 : (xs 2) < 32
              · refine iv_Em 11 (pc2 := 40) (lv2 := [(4, .int 0), (3, .ref 65), (2, .ref 44), (1, .ref 1), (0, .ref 0)]) (st2 := [.int ((xs 0) &&& 15)]) (w2 := (iv_wd iv_Az iv_Fz iv_Bz)) rfl ?_
                refine iv_Esw rfl rfl (show iv_sw 40 _ _ _ _ _ = some 651 by rw [h0]; rfl) ?_
                refine iv_Em 16 (pc2 := 670) (lv2 := [(4, .int 0), (3, .ref 65), (2, .ref 44), (1, .ref 1), (0, .ref 0)]) (st2 := [.int (xs 3), .int (xs 2), .int (xs 1), .ref 1]) (w2 := (iv_wd iv_Az iv_Fz iv_Bz)) rfl ?_
                refine iv_Ecall (ν := 13) (c := 4) (as := [.ref 1, .int (xs 1), .int (xs 2), .int (xs 3)]) (rest := []) (w2 := (iv_wd iv_Az iv_Fz iv_Bz)) (tg2 := true) (k2 := 0) (z2 := 0) (v := (some (.int 0))) rfl rfl rfl rfl rfl rfl rfl (Nat.le_of_ble_eq_true rfl) rfl ?_ ?_
                · refine iv_Gm 1 (pc2 := 1) (lv2 := [(0, .ref 1), (1, .int (xs 1)), (2, .int (xs 2)), (3, .int (xs 3))]) (st2 := [.int (xs 3)]) (w2 := (iv_wd iv_Az iv_Fz iv_Bz)) rfl ?_
                  refine iv_Gcall (ν := 24) (c := 1) (as := [.int (xs 3)]) (rest := []) (w2 := (iv_wd iv_Az iv_Fz iv_Bz)) (tg2 := true) (k2 := 0) (z2 := 0) (v := (some (.int 0))) rfl rfl rfl rfl rfl rfl rfl (Nat.le_of_ble_eq_true rfl) rfl ?_ ?_
                  · refine iv_Gm 1 (pc2 := 1) (lv2 := [(0, .int (xs 3))]) (st2 := [.int (xs 3)]) (w2 := (iv_wd iv_Az iv_Fz iv_Bz)) rfl ?_
                    refine iv_Gbf (c := decide ((xs 3) < 0)) (p1 := 15) (p2 := 4) (lv2 := [(0, .int (xs 3))]) (st2 := []) (w2 := (iv_wd iv_Az iv_Fz iv_Bz)) rfl (decide_eq_false h1) ?_
                    refine iv_Gm 2 (pc2 := 8) (lv2 := [(0, .int (xs 3))]) (st2 := [.int 255, .int (xs 3)]) (w2 := (iv_wd iv_Az iv_Fz iv_Bz)) rfl ?_
                    refine iv_Gbt (c := decide (255 < (xs 3))) (p1 := 15) (p2 := 11) (lv2 := [(0, .int (xs 3))]) (st2 := []) (w2 := (iv_wd iv_Az iv_Fz iv_Bz)) rfl (decide_eq_true ((iv_lg2 (by decide)).mpr h8)) ?_
                    refine iv_Gm 1 (pc2 := 16) (lv2 := [(0, .int (xs 3))]) (st2 := [.int 0]) (w2 := (iv_wd iv_Az iv_Fz iv_Bz)) rfl ?_
                    exact iv_Gret rfl rfl rfl
                  show iv_G _ _ _ _ 4 [(0, .ref 1), (1, .int (xs 1)), (2, .int (xs 2)), (3, .int (xs 3))] [.int 0] (iv_wd iv_Az iv_Fz iv_Bz) true _ _ _
                  refine iv_Gm 2 (pc2 := 8) (lv2 := [(0, .ref 1), (1, .int (xs 1)), (2, .int (xs 2)), (3, .int (xs 3))]) (st2 := [.int 0]) (w2 := (iv_wd iv_Az iv_Fz iv_Bz)) rfl ?_
                  exact iv_Gret rfl rfl rfl
                show iv_Fin _ _ _ _ 673 [(4, .int 0), (3, .ref 65), (2, .ref 44), (1, .ref 1), (0, .ref 0)] [.int 0] (iv_wd iv_Az iv_Fz iv_Bz) true _ _
                refine iv_Em 16 (pc2 := 692) (lv2 := [(4, .int 0), (3, .ref 65), (2, .ref 44), (1, .ref 1), (0, .ref 0)]) (st2 := [.int (xs 3), .int (xs 2), .int (xs 1), .ref 44, .int 0]) (w2 := (iv_wd iv_Az iv_Fz iv_Bz)) rfl ?_
                refine iv_Ecall (ν := 179) (c := 4) (as := [.ref 44, .int (xs 1), .int (xs 2), .int (xs 3)]) (rest := [.int 0]) (w2 := (iv_wd iv_Az (iv_uF iv_Fz 4400 0) iv_Bz)) (tg2 := true) (k2 := 0) (z2 := 0) (v := (some (.int 0))) rfl rfl rfl rfl rfl rfl rfl (Nat.le_of_ble_eq_true rfl) rfl ?_ ?_
                · refine iv_Gm 5 (pc2 := 7) (lv2 := [(0, .ref 44), (1, .int (xs 1)), (2, .int (xs 2)), (3, .int (xs 3))]) (st2 := [.int (xs 2), .int (xs 1)]) (w2 := (iv_wd iv_Az (iv_uF iv_Fz 4400 0) iv_Bz)) rfl ?_
                  refine iv_Gcall (ν := 178) (c := 2) (as := [.int (xs 1), .int (xs 2)]) (rest := []) (w2 := (iv_wd iv_Az (iv_uF iv_Fz 4400 0) iv_Bz)) (tg2 := true) (k2 := 0) (z2 := 0) (v := (some (.int 1))) rfl rfl rfl rfl rfl rfl rfl (Nat.le_of_ble_eq_true rfl) rfl ?_ ?_
                  · refine iv_Gm 1 (pc2 := 1) (lv2 := [(0, .int (xs 1)), (1, .int (xs 2))]) (st2 := [.int (xs 1)]) (w2 := (iv_wd iv_Az (iv_uF iv_Fz 4400 0) iv_Bz)) rfl ?_
                    refine iv_Gbf (c := decide ((xs 1) < 0)) (p1 := 34) (p2 := 4) (lv2 := [(0, .int (xs 1)), (1, .int (xs 2))]) (st2 := []) (w2 := (iv_wd iv_Az (iv_uF iv_Fz 4400 0) iv_Bz)) rfl (decide_eq_false h20) ?_
                    refine iv_Gm 2 (pc2 := 7) (lv2 := [(0, .int (xs 1)), (1, .int (xs 2))]) (st2 := [.int 31, .int (xs 1)]) (w2 := (iv_wd iv_Az (iv_uF iv_Fz 4400 0) iv_Bz)) rfl ?_
                    refine iv_Gbf (c := decide (31 < (xs 1))) (p1 := 34) (p2 := 10) (lv2 := [(0, .int (xs 1)), (1, .int (xs 2))]) (st2 := []) (w2 := (iv_wd iv_Az (iv_uF iv_Fz 4400 0) iv_Bz)) rfl (decide_eq_false (fun q => (iv_lg2 (by decide)).mp q h21)) ?_
                    refine iv_Gm 1 (pc2 := 11) (lv2 := [(0, .int (xs 1)), (1, .int (xs 2))]) (st2 := [.int (xs 2)]) (w2 := (iv_wd iv_Az (iv_uF iv_Fz 4400 0) iv_Bz)) rfl ?_
                    refine iv_Gbf (c := decide ((xs 2) < 0)) (p1 := 34) (p2 := 14) (lv2 := [(0, .int (xs 1)), (1, .int (xs 2))]) (st2 := []) (w2 := (iv_wd iv_Az (iv_uF iv_Fz 4400 0) iv_Bz)) rfl (decide_eq_false h22) ?_
                    refine iv_Gm 3 (pc2 := 17) (lv2 := [(0, .int (xs 1)), (1, .int (xs 2))]) (st2 := [.int 2, .int (xs 1), .int (xs 2)]) (w2 := (iv_wd iv_Az (iv_uF iv_Fz 4400 0) iv_Bz)) rfl ?_
                    refine iv_Gbf (c := decide (2 ≤ (xs 1))) (p1 := 25) (p2 := 20) (lv2 := [(0, .int (xs 1)), (1, .int (xs 2))]) (st2 := [.int (xs 2)]) (w2 := (iv_wd iv_Az (iv_uF iv_Fz 4400 0) iv_Bz)) rfl (decide_eq_false (Int32.not_le.mpr h23)) ?_
                    refine iv_Gm 2 (pc2 := 27) (lv2 := [(0, .int (xs 1)), (1, .int (xs 2))]) (st2 := [.int 32, .int (xs 2)]) (w2 := (iv_wd iv_Az (iv_uF iv_Fz 4400 0) iv_Bz)) rfl ?_
                    refine iv_Gbf (c := decide (32 ≤ (xs 2))) (p1 := 34) (p2 := 30) (lv2 := [(0, .int (xs 1)), (1, .int (xs 2))]) (st2 := []) (w2 := (iv_wd iv_Az (iv_uF iv_Fz 4400 0) iv_Bz)) rfl (decide_eq_false (Int32.not_le.mpr h24)) ?_
                    refine iv_Gm 2 (pc2 := 35) (lv2 := [(0, .int (xs 1)), (1, .int (xs 2))]) (st2 := [.int 1]) (w2 := (iv_wd iv_Az (iv_uF iv_Fz 4400 0) iv_Bz)) rfl ?_
                    exact iv_Gret rfl rfl rfl
                  show iv_G _ _ _ _ 10 [(0, .ref 44), (1, .int (xs 1)), (2, .int (xs 2)), (3, .int (xs 3))] [.int 1] (iv_wd iv_Az (iv_uF iv_Fz 4400 0) iv_Bz) true _ _ _
                  refine iv_Gm 2 (pc2 := 14) (lv2 := [(0, .ref 44), (1, .int (xs 1)), (2, .int (xs 2)), (3, .int (xs 3))]) (st2 := [.int (xs 3)]) (w2 := (iv_wd iv_Az (iv_uF iv_Fz 4400 0) iv_Bz)) rfl ?_
                  refine iv_Gbf (c := decide ((xs 3) < 0)) (p1 := 24) (p2 := 17) (lv2 := [(0, .ref 44), (1, .int (xs 1)), (2, .int (xs 2)), (3, .int (xs 3))]) (st2 := []) (w2 := (iv_wd iv_Az (iv_uF iv_Fz 4400 0) iv_Bz)) rfl (decide_eq_false h1) ?_
                  refine iv_Gm 2 (pc2 := 21) (lv2 := [(0, .ref 44), (1, .int (xs 1)), (2, .int (xs 2)), (3, .int (xs 3))]) (st2 := [.int 255, .int (xs 3)]) (w2 := (iv_wd iv_Az (iv_uF iv_Fz 4400 0) iv_Bz)) rfl ?_
                  refine iv_Gbf (c := decide ((xs 3) ≤ 255)) (p1 := 26) (p2 := 24) (lv2 := [(0, .ref 44), (1, .int (xs 1)), (2, .int (xs 2)), (3, .int (xs 3))]) (st2 := []) (w2 := (iv_wd iv_Az (iv_uF iv_Fz 4400 0) iv_Bz)) rfl (decide_eq_false (Int32.not_le.mpr ((iv_lg2 (by decide)).mpr h8))) ?_
                  refine iv_Gm 1 (pc2 := 25) (lv2 := [(0, .ref 44), (1, .int (xs 1)), (2, .int (xs 2)), (3, .int (xs 3))]) (st2 := [.int 0]) (w2 := (iv_wd iv_Az (iv_uF iv_Fz 4400 0) iv_Bz)) rfl ?_
                  exact iv_Gret rfl rfl rfl
                show iv_Fin _ _ _ _ 695 [(4, .int 0), (3, .ref 65), (2, .ref 44), (1, .ref 1), (0, .ref 0)] [.int 0, .int 0] (iv_wd iv_Az (iv_uF iv_Fz 4400 0) iv_Bz) true _ _
                refine iv_Em 10 (pc2 := 788) (lv2 := [(4, .int 6), (3, .ref 65), (2, .ref 44), (1, .ref 1), (0, .ref 0)]) (st2 := [.int 1]) (w2 := (iv_wd iv_Az (iv_uF iv_Fz 4400 0) iv_Bz)) rfl ?_
                exact iv_Eret rfl rfl rfl (by decide) (by decide)
              · refine iv_Em 11 (pc2 := 40) (lv2 := [(4, .int 0), (3, .ref 65), (2, .ref 44), (1, .ref 1), (0, .ref 0)]) (st2 := [.int ((xs 0) &&& 15)]) (w2 := (iv_wd iv_Az iv_Fz iv_Bz)) rfl ?_
                refine iv_Esw rfl rfl (show iv_sw 40 _ _ _ _ _ = some 651 by rw [h0]; rfl) ?_
                refine iv_Em 16 (pc2 := 670) (lv2 := [(4, .int 0), (3, .ref 65), (2, .ref 44), (1, .ref 1), (0, .ref 0)]) (st2 := [.int (xs 3), .int (xs 2), .int (xs 1), .ref 1]) (w2 := (iv_wd iv_Az iv_Fz iv_Bz)) rfl ?_
                refine iv_Ecall (ν := 13) (c := 4) (as := [.ref 1, .int (xs 1), .int (xs 2), .int (xs 3)]) (rest := []) (w2 := (iv_wd iv_Az iv_Fz iv_Bz)) (tg2 := true) (k2 := 0) (z2 := 0) (v := (some (.int 0))) rfl rfl rfl rfl rfl rfl rfl (Nat.le_of_ble_eq_true rfl) rfl ?_ ?_
                · refine iv_Gm 1 (pc2 := 1) (lv2 := [(0, .ref 1), (1, .int (xs 1)), (2, .int (xs 2)), (3, .int (xs 3))]) (st2 := [.int (xs 3)]) (w2 := (iv_wd iv_Az iv_Fz iv_Bz)) rfl ?_
                  refine iv_Gcall (ν := 24) (c := 1) (as := [.int (xs 3)]) (rest := []) (w2 := (iv_wd iv_Az iv_Fz iv_Bz)) (tg2 := true) (k2 := 0) (z2 := 0) (v := (some (.int 0))) rfl rfl rfl rfl rfl rfl rfl (Nat.le_of_ble_eq_true rfl) rfl ?_ ?_
                  · refine iv_Gm 1 (pc2 := 1) (lv2 := [(0, .int (xs 3))]) (st2 := [.int (xs 3)]) (w2 := (iv_wd iv_Az iv_Fz iv_Bz)) rfl ?_
                    refine iv_Gbf (c := decide ((xs 3) < 0)) (p1 := 15) (p2 := 4) (lv2 := [(0, .int (xs 3))]) (st2 := []) (w2 := (iv_wd iv_Az iv_Fz iv_Bz)) rfl (decide_eq_false h1) ?_
                    refine iv_Gm 2 (pc2 := 8) (lv2 := [(0, .int (xs 3))]) (st2 := [.int 255, .int (xs 3)]) (w2 := (iv_wd iv_Az iv_Fz iv_Bz)) rfl ?_
                    refine iv_Gbt (c := decide (255 < (xs 3))) (p1 := 15) (p2 := 11) (lv2 := [(0, .int (xs 3))]) (st2 := []) (w2 := (iv_wd iv_Az iv_Fz iv_Bz)) rfl (decide_eq_true ((iv_lg2 (by decide)).mpr h8)) ?_
                    refine iv_Gm 1 (pc2 := 16) (lv2 := [(0, .int (xs 3))]) (st2 := [.int 0]) (w2 := (iv_wd iv_Az iv_Fz iv_Bz)) rfl ?_
                    exact iv_Gret rfl rfl rfl
                  show iv_G _ _ _ _ 4 [(0, .ref 1), (1, .int (xs 1)), (2, .int (xs 2)), (3, .int (xs 3))] [.int 0] (iv_wd iv_Az iv_Fz iv_Bz) true _ _ _
                  refine iv_Gm 2 (pc2 := 8) (lv2 := [(0, .ref 1), (1, .int (xs 1)), (2, .int (xs 2)), (3, .int (xs 3))]) (st2 := [.int 0]) (w2 := (iv_wd iv_Az iv_Fz iv_Bz)) rfl ?_
                  exact iv_Gret rfl rfl rfl
                show iv_Fin _ _ _ _ 673 [(4, .int 0), (3, .ref 65), (2, .ref 44), (1, .ref 1), (0, .ref 0)] [.int 0] (iv_wd iv_Az iv_Fz iv_Bz) true _ _
                refine iv_Em 16 (pc2 := 692) (lv2 := [(4, .int 0), (3, .ref 65), (2, .ref 44), (1, .ref 1), (0, .ref 0)]) (st2 := [.int (xs 3), .int (xs 2), .int (xs 1), .ref 44, .int 0]) (w2 := (iv_wd iv_Az iv_Fz iv_Bz)) rfl ?_
                refine iv_Ecall (ν := 179) (c := 4) (as := [.ref 44, .int (xs 1), .int (xs 2), .int (xs 3)]) (rest := [.int 0]) (w2 := (iv_wd iv_Az (iv_uF iv_Fz 4400 0) iv_Bz)) (tg2 := true) (k2 := 0) (z2 := 0) (v := (some (.int 0))) rfl rfl rfl rfl rfl rfl rfl (Nat.le_of_ble_eq_true rfl) rfl ?_ ?_
                · refine iv_Gm 5 (pc2 := 7) (lv2 := [(0, .ref 44), (1, .int (xs 1)), (2, .int (xs 2)), (3, .int (xs 3))]) (st2 := [.int (xs 2), .int (xs 1)]) (w2 := (iv_wd iv_Az (iv_uF iv_Fz 4400 0) iv_Bz)) rfl ?_
                  refine iv_Gcall (ν := 178) (c := 2) (as := [.int (xs 1), .int (xs 2)]) (rest := []) (w2 := (iv_wd iv_Az (iv_uF iv_Fz 4400 0) iv_Bz)) (tg2 := true) (k2 := 0) (z2 := 0) (v := (some (.int 0))) rfl rfl rfl rfl rfl rfl rfl (Nat.le_of_ble_eq_true rfl) rfl ?_ ?_
                  · refine iv_Gm 1 (pc2 := 1) (lv2 := [(0, .int (xs 1)), (1, .int (xs 2))]) (st2 := [.int (xs 1)]) (w2 := (iv_wd iv_Az (iv_uF iv_Fz 4400 0) iv_Bz)) rfl ?_
                    refine iv_Gbf (c := decide ((xs 1) < 0)) (p1 := 34) (p2 := 4) (lv2 := [(0, .int (xs 1)), (1, .int (xs 2))]) (st2 := []) (w2 := (iv_wd iv_Az (iv_uF iv_Fz 4400 0) iv_Bz)) rfl (decide_eq_false h20) ?_
                    refine iv_Gm 2 (pc2 := 7) (lv2 := [(0, .int (xs 1)), (1, .int (xs 2))]) (st2 := [.int 31, .int (xs 1)]) (w2 := (iv_wd iv_Az (iv_uF iv_Fz 4400 0) iv_Bz)) rfl ?_
                    refine iv_Gbf (c := decide (31 < (xs 1))) (p1 := 34) (p2 := 10) (lv2 := [(0, .int (xs 1)), (1, .int (xs 2))]) (st2 := []) (w2 := (iv_wd iv_Az (iv_uF iv_Fz 4400 0) iv_Bz)) rfl (decide_eq_false (fun q => (iv_lg2 (by decide)).mp q h21)) ?_
                    refine iv_Gm 1 (pc2 := 11) (lv2 := [(0, .int (xs 1)), (1, .int (xs 2))]) (st2 := [.int (xs 2)]) (w2 := (iv_wd iv_Az (iv_uF iv_Fz 4400 0) iv_Bz)) rfl ?_
                    refine iv_Gbf (c := decide ((xs 2) < 0)) (p1 := 34) (p2 := 14) (lv2 := [(0, .int (xs 1)), (1, .int (xs 2))]) (st2 := []) (w2 := (iv_wd iv_Az (iv_uF iv_Fz 4400 0) iv_Bz)) rfl (decide_eq_false h22) ?_
                    refine iv_Gm 3 (pc2 := 17) (lv2 := [(0, .int (xs 1)), (1, .int (xs 2))]) (st2 := [.int 2, .int (xs 1), .int (xs 2)]) (w2 := (iv_wd iv_Az (iv_uF iv_Fz 4400 0) iv_Bz)) rfl ?_
                    refine iv_Gbf (c := decide (2 ≤ (xs 1))) (p1 := 25) (p2 := 20) (lv2 := [(0, .int (xs 1)), (1, .int (xs 2))]) (st2 := [.int (xs 2)]) (w2 := (iv_wd iv_Az (iv_uF iv_Fz 4400 0) iv_Bz)) rfl (decide_eq_false (Int32.not_le.mpr h23)) ?_
                    refine iv_Gm 2 (pc2 := 27) (lv2 := [(0, .int (xs 1)), (1, .int (xs 2))]) (st2 := [.int 32, .int (xs 2)]) (w2 := (iv_wd iv_Az (iv_uF iv_Fz 4400 0) iv_Bz)) rfl ?_
                    refine iv_Gbt (c := decide (32 ≤ (xs 2))) (p1 := 34) (p2 := 30) (lv2 := [(0, .int (xs 1)), (1, .int (xs 2))]) (st2 := []) (w2 := (iv_wd iv_Az (iv_uF iv_Fz 4400 0) iv_Bz)) rfl (decide_eq_true (Int32.not_lt.mp h24)) ?_
                    refine iv_Gm 1 (pc2 := 35) (lv2 := [(0, .int (xs 1)), (1, .int (xs 2))]) (st2 := [.int 0]) (w2 := (iv_wd iv_Az (iv_uF iv_Fz 4400 0) iv_Bz)) rfl ?_
                    exact iv_Gret rfl rfl rfl
                  show iv_G _ _ _ _ 10 [(0, .ref 44), (1, .int (xs 1)), (2, .int (xs 2)), (3, .int (xs 3))] [.int 0] (iv_wd iv_Az (iv_uF iv_Fz 4400 0) iv_Bz) true _ _ _
                  refine iv_Gm 2 (pc2 := 25) (lv2 := [(0, .ref 44), (1, .int (xs 1)), (2, .int (xs 2)), (3, .int (xs 3))]) (st2 := [.int 0]) (w2 := (iv_wd iv_Az (iv_uF iv_Fz 4400 0) iv_Bz)) rfl ?_
                  exact iv_Gret rfl rfl rfl
                show iv_Fin _ _ _ _ 695 [(4, .int 0), (3, .ref 65), (2, .ref 44), (1, .ref 1), (0, .ref 0)] [.int 0, .int 0] (iv_wd iv_Az (iv_uF iv_Fz 4400 0) iv_Bz) true _ _
                refine iv_Em 10 (pc2 := 788) (lv2 := [(4, .int 6), (3, .ref 65), (2, .ref 44), (1, .ref 1), (0, .ref 0)]) (st2 := [.int 1]) (w2 := (iv_wd iv_Az (iv_uF iv_Fz 4400 0) iv_Bz)) rfl ?_
                exact iv_Eret rfl rfl rfl (by decide) (by decide)
            · by_cases h25 : (xs 2) < 64
              · refine iv_Em 11 (pc2 := 40) (lv2 := [(4, .int 0), (3, .ref 65), (2, .ref 44), (1, .ref 1), (0, .ref 0)]) (st2 := [.int ((xs 0) &&& 15)]) (w2 := (iv_wd iv_Az iv_Fz iv_Bz)) rfl ?_
                refine iv_Esw rfl rfl (show iv_sw 40 _ _ _ _ _ = some 651 by rw [h0]; rfl) ?_
                refine iv_Em 16 (pc2 := 670) (lv2 := [(4, .int 0), (3, .ref 65), (2, .ref 44), (1, .ref 1), (0, .ref 0)]) (st2 := [.int (xs 3), .int (xs 2), .int (xs 1), .ref 1]) (w2 := (iv_wd iv_Az iv_Fz iv_Bz)) rfl ?_
                refine iv_Ecall (ν := 13) (c := 4) (as := [.ref 1, .int (xs 1), .int (xs 2), .int (xs 3)]) (rest := []) (w2 := (iv_wd iv_Az iv_Fz iv_Bz)) (tg2 := true) (k2 := 0) (z2 := 0) (v := (some (.int 0))) rfl rfl rfl rfl rfl rfl rfl (Nat.le_of_ble_eq_true rfl) rfl ?_ ?_
                · refine iv_Gm 1 (pc2 := 1) (lv2 := [(0, .ref 1), (1, .int (xs 1)), (2, .int (xs 2)), (3, .int (xs 3))]) (st2 := [.int (xs 3)]) (w2 := (iv_wd iv_Az iv_Fz iv_Bz)) rfl ?_
                  refine iv_Gcall (ν := 24) (c := 1) (as := [.int (xs 3)]) (rest := []) (w2 := (iv_wd iv_Az iv_Fz iv_Bz)) (tg2 := true) (k2 := 0) (z2 := 0) (v := (some (.int 0))) rfl rfl rfl rfl rfl rfl rfl (Nat.le_of_ble_eq_true rfl) rfl ?_ ?_
                  · refine iv_Gm 1 (pc2 := 1) (lv2 := [(0, .int (xs 3))]) (st2 := [.int (xs 3)]) (w2 := (iv_wd iv_Az iv_Fz iv_Bz)) rfl ?_
                    refine iv_Gbf (c := decide ((xs 3) < 0)) (p1 := 15) (p2 := 4) (lv2 := [(0, .int (xs 3))]) (st2 := []) (w2 := (iv_wd iv_Az iv_Fz iv_Bz)) rfl (decide_eq_false h1) ?_
                    refine iv_Gm 2 (pc2 := 8) (lv2 := [(0, .int (xs 3))]) (st2 := [.int 255, .int (xs 3)]) (w2 := (iv_wd iv_Az iv_Fz iv_Bz)) rfl ?_
                    refine iv_Gbt (c := decide (255 < (xs 3))) (p1 := 15) (p2 := 11) (lv2 := [(0, .int (xs 3))]) (st2 := []) (w2 := (iv_wd iv_Az iv_Fz iv_Bz)) rfl (decide_eq_true ((iv_lg2 (by decide)).mpr h8)) ?_
                    refine iv_Gm 1 (pc2 := 16) (lv2 := [(0, .int (xs 3))]) (st2 := [.int 0]) (w2 := (iv_wd iv_Az iv_Fz iv_Bz)) rfl ?_
                    exact iv_Gret rfl rfl rfl
                  show iv_G _ _ _ _ 4 [(0, .ref 1), (1, .int (xs 1)), (2, .int (xs 2)), (3, .int (xs 3))] [.int 0] (iv_wd iv_Az iv_Fz iv_Bz) true _ _ _
                  refine iv_Gm 2 (pc2 := 8) (lv2 := [(0, .ref 1), (1, .int (xs 1)), (2, .int (xs 2)), (3, .int (xs 3))]) (st2 := [.int 0]) (w2 := (iv_wd iv_Az iv_Fz iv_Bz)) rfl ?_
                  exact iv_Gret rfl rfl rfl
                show iv_Fin _ _ _ _ 673 [(4, .int 0), (3, .ref 65), (2, .ref 44), (1, .ref 1), (0, .ref 0)] [.int 0] (iv_wd iv_Az iv_Fz iv_Bz) true _ _
                refine iv_Em 16 (pc2 := 692) (lv2 := [(4, .int 0), (3, .ref 65), (2, .ref 44), (1, .ref 1), (0, .ref 0)]) (st2 := [.int (xs 3), .int (xs 2), .int (xs 1), .ref 44, .int 0]) (w2 := (iv_wd iv_Az iv_Fz iv_Bz)) rfl ?_
                refine iv_Ecall (ν := 179) (c := 4) (as := [.ref 44, .int (xs 1), .int (xs 2), .int (xs 3)]) (rest := [.int 0]) (w2 := (iv_wd iv_Az (iv_uF iv_Fz 4400 0) iv_Bz)) (tg2 := true) (k2 := 0) (z2 := 0) (v := (some (.int 0))) rfl rfl rfl rfl rfl rfl rfl (Nat.le_of_ble_eq_true rfl) rfl ?_ ?_
                · refine iv_Gm 5 (pc2 := 7) (lv2 := [(0, .ref 44), (1, .int (xs 1)), (2, .int (xs 2)), (3, .int (xs 3))]) (st2 := [.int (xs 2), .int (xs 1)]) (w2 := (iv_wd iv_Az (iv_uF iv_Fz 4400 0) iv_Bz)) rfl ?_
                  refine iv_Gcall (ν := 178) (c := 2) (as := [.int (xs 1), .int (xs 2)]) (rest := []) (w2 := (iv_wd iv_Az (iv_uF iv_Fz 4400 0) iv_Bz)) (tg2 := true) (k2 := 0) (z2 := 0) (v := (some (.int 1))) rfl rfl rfl rfl rfl rfl rfl (Nat.le_of_ble_eq_true rfl) rfl ?_ ?_
                  · refine iv_Gm 1 (pc2 := 1) (lv2 := [(0, .int (xs 1)), (1, .int (xs 2))]) (st2 := [.int (xs 1)]) (w2 := (iv_wd iv_Az (iv_uF iv_Fz 4400 0) iv_Bz)) rfl ?_
                    refine iv_Gbf (c := decide ((xs 1) < 0)) (p1 := 34) (p2 := 4) (lv2 := [(0, .int (xs 1)), (1, .int (xs 2))]) (st2 := []) (w2 := (iv_wd iv_Az (iv_uF iv_Fz 4400 0) iv_Bz)) rfl (decide_eq_false h20) ?_
                    refine iv_Gm 2 (pc2 := 7) (lv2 := [(0, .int (xs 1)), (1, .int (xs 2))]) (st2 := [.int 31, .int (xs 1)]) (w2 := (iv_wd iv_Az (iv_uF iv_Fz 4400 0) iv_Bz)) rfl ?_
                    refine iv_Gbf (c := decide (31 < (xs 1))) (p1 := 34) (p2 := 10) (lv2 := [(0, .int (xs 1)), (1, .int (xs 2))]) (st2 := []) (w2 := (iv_wd iv_Az (iv_uF iv_Fz 4400 0) iv_Bz)) rfl (decide_eq_false (fun q => (iv_lg2 (by decide)).mp q h21)) ?_
                    refine iv_Gm 1 (pc2 := 11) (lv2 := [(0, .int (xs 1)), (1, .int (xs 2))]) (st2 := [.int (xs 2)]) (w2 := (iv_wd iv_Az (iv_uF iv_Fz 4400 0) iv_Bz)) rfl ?_
                    refine iv_Gbf (c := decide ((xs 2) < 0)) (p1 := 34) (p2 := 14) (lv2 := [(0, .int (xs 1)), (1, .int (xs 2))]) (st2 := []) (w2 := (iv_wd iv_Az (iv_uF iv_Fz 4400 0) iv_Bz)) rfl (decide_eq_false h22) ?_
                    refine iv_Gm 3 (pc2 := 17) (lv2 := [(0, .int (xs 1)), (1, .int (xs 2))]) (st2 := [.int 2, .int (xs 1), .int (xs 2)]) (w2 := (iv_wd iv_Az (iv_uF iv_Fz 4400 0) iv_Bz)) rfl ?_
                    refine iv_Gbt (c := decide (2 ≤ (xs 1))) (p1 := 25) (p2 := 20) (lv2 := [(0, .int (xs 1)), (1, .int (xs 2))]) (st2 := [.int (xs 2)]) (w2 := (iv_wd iv_Az (iv_uF iv_Fz 4400 0) iv_Bz)) rfl (decide_eq_true (Int32.not_lt.mp h23)) ?_
                    refine iv_Gm 1 (pc2 := 27) (lv2 := [(0, .int (xs 1)), (1, .int (xs 2))]) (st2 := [.int 64, .int (xs 2)]) (w2 := (iv_wd iv_Az (iv_uF iv_Fz 4400 0) iv_Bz)) rfl ?_
                    refine iv_Gbf (c := decide (64 ≤ (xs 2))) (p1 := 34) (p2 := 30) (lv2 := [(0, .int (xs 1)), (1, .int (xs 2))]) (st2 := []) (w2 := (iv_wd iv_Az (iv_uF iv_Fz 4400 0) iv_Bz)) rfl (decide_eq_false (Int32.not_le.mpr h25)) ?_
                    refine iv_Gm 2 (pc2 := 35) (lv2 := [(0, .int (xs 1)), (1, .int (xs 2))]) (st2 := [.int 1]) (w2 := (iv_wd iv_Az (iv_uF iv_Fz 4400 0) iv_Bz)) rfl ?_
                    exact iv_Gret rfl rfl rfl
                  show iv_G _ _ _ _ 10 [(0, .ref 44), (1, .int (xs 1)), (2, .int (xs 2)), (3, .int (xs 3))] [.int 1] (iv_wd iv_Az (iv_uF iv_Fz 4400 0) iv_Bz) true _ _ _
                  refine iv_Gm 2 (pc2 := 14) (lv2 := [(0, .ref 44), (1, .int (xs 1)), (2, .int (xs 2)), (3, .int (xs 3))]) (st2 := [.int (xs 3)]) (w2 := (iv_wd iv_Az (iv_uF iv_Fz 4400 0) iv_Bz)) rfl ?_
                  refine iv_Gbf (c := decide ((xs 3) < 0)) (p1 := 24) (p2 := 17) (lv2 := [(0, .ref 44), (1, .int (xs 1)), (2, .int (xs 2)), (3, .int (xs 3))]) (st2 := []) (w2 := (iv_wd iv_Az (iv_uF iv_Fz 4400 0) iv_Bz)) rfl (decide_eq_false h1) ?_
                  refine iv_Gm 2 (pc2 := 21) (lv2 := [(0, .ref 44), (1, .int (xs 1)), (2, .int (xs 2)), (3, .int (xs 3))]) (st2 := [.int 255, .int (xs 3)]) (w2 := (iv_wd iv_Az (iv_uF iv_Fz 4400 0) iv_Bz)) rfl ?_
                  refine iv_Gbf (c := decide ((xs 3) ≤ 255)) (p1 := 26) (p2 := 24) (lv2 := [(0, .ref 44), (1, .int (xs 1)), (2, .int (xs 2)), (3, .int (xs 3))]) (st2 := []) (w2 := (iv_wd iv_Az (iv_uF iv_Fz 4400 0) iv_Bz)) rfl (decide_eq_false (Int32.not_le.mpr ((iv_lg2 (by decide)).mpr h8))) ?_
                  refine iv_Gm 1 (pc2 := 25) (lv2 := [(0, .ref 44), (1, .int (xs 1)), (2, .int (xs 2)), (3, .int (xs 3))]) (st2 := [.int 0]) (w2 := (iv_wd iv_Az (iv_uF iv_Fz 4400 0) iv_Bz)) rfl ?_
                  exact iv_Gret rfl rfl rfl
                show iv_Fin _ _ _ _ 695 [(4, .int 0), (3, .ref 65), (2, .ref 44), (1, .ref 1), (0, .ref 0)] [.int 0, .int 0] (iv_wd iv_Az (iv_uF iv_Fz 4400 0) iv_Bz) true _ _
                refine iv_Em 10 (pc2 := 788) (lv2 := [(4, .int 6), (3, .ref 65), (2, .ref 44), (1, .ref 1), (0, .ref 0)]) (st2 := [.int 1]) (w2 := (iv_wd iv_Az (iv_uF iv_Fz 4400 0) iv_Bz)) rfl ?_
                exact iv_Eret rfl rfl rfl (by decide) (by decide)
              · refine iv_Em 11 (pc2 := 40) (lv2 := [(4, .int 0), (3, .ref 65), (2, .ref 44), (1, .ref 1), (0, .ref 0)]) (st2 := [.int ((xs 0) &&& 15)]) (w2 := (iv_wd iv_Az iv_Fz iv_Bz)) rfl ?_
                refine iv_Esw rfl rfl (show iv_sw 40 _ _ _ _ _ = some 651 by rw [h0]; rfl) ?_
                refine iv_Em 16 (pc2 := 670) (lv2 := [(4, .int 0), (3, .ref 65), (2, .ref 44), (1, .ref 1), (0, .ref 0)]) (st2 := [.int (xs 3), .int (xs 2), .int (xs 1), .ref 1]) (w2 := (iv_wd iv_Az iv_Fz iv_Bz)) rfl ?_
                refine iv_Ecall (ν := 13) (c := 4) (as := [.ref 1, .int (xs 1), .int (xs 2), .int (xs 3)]) (rest := []) (w2 := (iv_wd iv_Az iv_Fz iv_Bz)) (tg2 := true) (k2 := 0) (z2 := 0) (v := (some (.int 0))) rfl rfl rfl rfl rfl rfl rfl (Nat.le_of_ble_eq_true rfl) rfl ?_ ?_
                · refine iv_Gm 1 (pc2 := 1) (lv2 := [(0, .ref 1), (1, .int (xs 1)), (2, .int (xs 2)), (3, .int (xs 3))]) (st2 := [.int (xs 3)]) (w2 := (iv_wd iv_Az iv_Fz iv_Bz)) rfl ?_
                  refine iv_Gcall (ν := 24) (c := 1) (as := [.int (xs 3)]) (rest := []) (w2 := (iv_wd iv_Az iv_Fz iv_Bz)) (tg2 := true) (k2 := 0) (z2 := 0) (v := (some (.int 0))) rfl rfl rfl rfl rfl rfl rfl (Nat.le_of_ble_eq_true rfl) rfl ?_ ?_
                  · refine iv_Gm 1 (pc2 := 1) (lv2 := [(0, .int (xs 3))]) (st2 := [.int (xs 3)]) (w2 := (iv_wd iv_Az iv_Fz iv_Bz)) rfl ?_
                    refine iv_Gbf (c := decide ((xs 3) < 0)) (p1 := 15) (p2 := 4) (lv2 := [(0, .int (xs 3))]) (st2 := []) (w2 := (iv_wd iv_Az iv_Fz iv_Bz)) rfl (decide_eq_false h1) ?_
                    refine iv_Gm 2 (pc2 := 8) (lv2 := [(0, .int (xs 3))]) (st2 := [.int 255, .int (xs 3)]) (w2 := (iv_wd iv_Az iv_Fz iv_Bz)) rfl ?_
                    refine iv_Gbt (c := decide (255 < (xs 3))) (p1 := 15) (p2 := 11) (lv2 := [(0, .int (xs 3))]) (st2 := []) (w2 := (iv_wd iv_Az iv_Fz iv_Bz)) rfl (decide_eq_true ((iv_lg2 (by decide)).mpr h8)) ?_
                    refine iv_Gm 1 (pc2 := 16) (lv2 := [(0, .int (xs 3))]) (st2 := [.int 0]) (w2 := (iv_wd iv_Az iv_Fz iv_Bz)) rfl ?_
                    exact iv_Gret rfl rfl rfl
                  show iv_G _ _ _ _ 4 [(0, .ref 1), (1, .int (xs 1)), (2, .int (xs 2)), (3, .int (xs 3))] [.int 0] (iv_wd iv_Az iv_Fz iv_Bz) true _ _ _
                  refine iv_Gm 2 (pc2 := 8) (lv2 := [(0, .ref 1), (1, .int (xs 1)), (2, .int (xs 2)), (3, .int (xs 3))]) (st2 := [.int 0]) (w2 := (iv_wd iv_Az iv_Fz iv_Bz)) rfl ?_
                  exact iv_Gret rfl rfl rfl
                show iv_Fin _ _ _ _ 673 [(4, .int 0), (3, .ref 65), (2, .ref 44), (1, .ref 1), (0, .ref 0)] [.int 0] (iv_wd iv_Az iv_Fz iv_Bz) true _ _
                refine iv_Em 16 (pc2 := 692) (lv2 := [(4, .int 0), (3, .ref 65), (2, .ref 44), (1, .ref 1), (0, .ref 0)]) (st2 := [.int (xs 3), .int (xs 2), .int (xs 1), .ref 44, .int 0]) (w2 := (iv_wd iv_Az iv_Fz iv_Bz)) rfl ?_
                refine iv_Ecall (ν := 179) (c := 4) (as := [.ref 44, .int (xs 1), .int (xs 2), .int (xs 3)]) (rest := [.int 0]) (w2 := (iv_wd iv_Az (iv_uF iv_Fz 4400 0) iv_Bz)) (tg2 := true) (k2 := 0) (z2 := 0) (v := (some (.int 0))) rfl rfl rfl rfl rfl rfl rfl (Nat.le_of_ble_eq_true rfl) rfl ?_ ?_
                · refine iv_Gm 5 (pc2 := 7) (lv2 := [(0, .ref 44), (1, .int (xs 1)), (2, .int (xs 2)), (3, .int (xs 3))]) (st2 := [.int (xs 2), .int (xs 1)]) (w2 := (iv_wd iv_Az (iv_uF iv_Fz 4400 0) iv_Bz)) rfl ?_
                  refine iv_Gcall (ν := 178) (c := 2) (as := [.int (xs 1), .int (xs 2)]) (rest := []) (w2 := (iv_wd iv_Az (iv_uF iv_Fz 4400 0) iv_Bz)) (tg2 := true) (k2 := 0) (z2 := 0) (v := (some (.int 0))) rfl rfl rfl rfl rfl rfl rfl (Nat.le_of_ble_eq_true rfl) rfl ?_ ?_
                  · refine iv_Gm 1 (pc2 := 1) (lv2 := [(0, .int (xs 1)), (1, .int (xs 2))]) (st2 := [.int (xs 1)]) (w2 := (iv_wd iv_Az (iv_uF iv_Fz 4400 0) iv_Bz)) rfl ?_
                    refine iv_Gbf (c := decide ((xs 1) < 0)) (p1 := 34) (p2 := 4) (lv2 := [(0, .int (xs 1)), (1, .int (xs 2))]) (st2 := []) (w2 := (iv_wd iv_Az (iv_uF iv_Fz 4400 0) iv_Bz)) rfl (decide_eq_false h20) ?_
                    refine iv_Gm 2 (pc2 := 7) (lv2 := [(0, .int (xs 1)), (1, .int (xs 2))]) (st2 := [.int 31, .int (xs 1)]) (w2 := (iv_wd iv_Az (iv_uF iv_Fz 4400 0) iv_Bz)) rfl ?_
                    refine iv_Gbf (c := decide (31 < (xs 1))) (p1 := 34) (p2 := 10) (lv2 := [(0, .int (xs 1)), (1, .int (xs 2))]) (st2 := []) (w2 := (iv_wd iv_Az (iv_uF iv_Fz 4400 0) iv_Bz)) rfl (decide_eq_false (fun q => (iv_lg2 (by decide)).mp q h21)) ?_
                    refine iv_Gm 1 (pc2 := 11) (lv2 := [(0, .int (xs 1)), (1, .int (xs 2))]) (st2 := [.int (xs 2)]) (w2 := (iv_wd iv_Az (iv_uF iv_Fz 4400 0) iv_Bz)) rfl ?_
                    refine iv_Gbf (c := decide ((xs 2) < 0)) (p1 := 34) (p2 := 14) (lv2 := [(0, .int (xs 1)), (1, .int (xs 2))]) (st2 := []) (w2 := (iv_wd iv_Az (iv_uF iv_Fz 4400 0) iv_Bz)) rfl (decide_eq_false h22) ?_
                    refine iv_Gm 3 (pc2 := 17) (lv2 := [(0, .int (xs 1)), (1, .int (xs 2))]) (st2 := [.int 2, .int (xs 1), .int (xs 2)]) (w2 := (iv_wd iv_Az (iv_uF iv_Fz 4400 0) iv_Bz)) rfl ?_
                    refine iv_Gbt (c := decide (2 ≤ (xs 1))) (p1 := 25) (p2 := 20) (lv2 := [(0, .int (xs 1)), (1, .int (xs 2))]) (st2 := [.int (xs 2)]) (w2 := (iv_wd iv_Az (iv_uF iv_Fz 4400 0) iv_Bz)) rfl (decide_eq_true (Int32.not_lt.mp h23)) ?_
                    refine iv_Gm 1 (pc2 := 27) (lv2 := [(0, .int (xs 1)), (1, .int (xs 2))]) (st2 := [.int 64, .int (xs 2)]) (w2 := (iv_wd iv_Az (iv_uF iv_Fz 4400 0) iv_Bz)) rfl ?_
                    refine iv_Gbt (c := decide (64 ≤ (xs 2))) (p1 := 34) (p2 := 30) (lv2 := [(0, .int (xs 1)), (1, .int (xs 2))]) (st2 := []) (w2 := (iv_wd iv_Az (iv_uF iv_Fz 4400 0) iv_Bz)) rfl (decide_eq_true (Int32.not_lt.mp h25)) ?_
                    refine iv_Gm 1 (pc2 := 35) (lv2 := [(0, .int (xs 1)), (1, .int (xs 2))]) (st2 := [.int 0]) (w2 := (iv_wd iv_Az (iv_uF iv_Fz 4400 0) iv_Bz)) rfl ?_
                    exact iv_Gret rfl rfl rfl
                  show iv_G _ _ _ _ 10 [(0, .ref 44), (1, .int (xs 1)), (2, .int (xs 2)), (3, .int (xs 3))] [.int 0] (iv_wd iv_Az (iv_uF iv_Fz 4400 0) iv_Bz) true _ _ _
                  refine iv_Gm 2 (pc2 := 25) (lv2 := [(0, .ref 44), (1, .int (xs 1)), (2, .int (xs 2)), (3, .int (xs 3))]) (st2 := [.int 0]) (w2 := (iv_wd iv_Az (iv_uF iv_Fz 4400 0) iv_Bz)) rfl ?_
                  exact iv_Gret rfl rfl rfl
                show iv_Fin _ _ _ _ 695 [(4, .int 0), (3, .ref 65), (2, .ref 44), (1, .ref 1), (0, .ref 0)] [.int 0, .int 0] (iv_wd iv_Az (iv_uF iv_Fz 4400 0) iv_Bz) true _ _
                refine iv_Em 10 (pc2 := 788) (lv2 := [(4, .int 6), (3, .ref 65), (2, .ref 44), (1, .ref 1), (0, .ref 0)]) (st2 := [.int 1]) (w2 := (iv_wd iv_Az (iv_uF iv_Fz 4400 0) iv_Bz)) rfl ?_
                exact iv_Eret rfl rfl rfl (by decide) (by decide)
        · refine iv_Em 11 (pc2 := 40) (lv2 := [(4, .int 0), (3, .ref 65), (2, .ref 44), (1, .ref 1), (0, .ref 0)]) (st2 := [.int ((xs 0) &&& 15)]) (w2 := (iv_wd iv_Az iv_Fz iv_Bz)) rfl ?_
          refine iv_Esw rfl rfl (show iv_sw 40 _ _ _ _ _ = some 651 by rw [h0]; rfl) ?_
          refine iv_Em 16 (pc2 := 670) (lv2 := [(4, .int 0), (3, .ref 65), (2, .ref 44), (1, .ref 1), (0, .ref 0)]) (st2 := [.int (xs 3), .int (xs 2), .int (xs 1), .ref 1]) (w2 := (iv_wd iv_Az iv_Fz iv_Bz)) rfl ?_
          refine iv_Ecall (ν := 13) (c := 4) (as := [.ref 1, .int (xs 1), .int (xs 2), .int (xs 3)]) (rest := []) (w2 := (iv_wd iv_Az iv_Fz iv_Bz)) (tg2 := true) (k2 := 0) (z2 := 0) (v := (some (.int 0))) rfl rfl rfl rfl rfl rfl rfl (Nat.le_of_ble_eq_true rfl) rfl ?_ ?_
          · refine iv_Gm 1 (pc2 := 1) (lv2 := [(0, .ref 1), (1, .int (xs 1)), (2, .int (xs 2)), (3, .int (xs 3))]) (st2 := [.int (xs 3)]) (w2 := (iv_wd iv_Az iv_Fz iv_Bz)) rfl ?_
            refine iv_Gcall (ν := 24) (c := 1) (as := [.int (xs 3)]) (rest := []) (w2 := (iv_wd iv_Az iv_Fz iv_Bz)) (tg2 := true) (k2 := 0) (z2 := 0) (v := (some (.int 0))) rfl rfl rfl rfl rfl rfl rfl (Nat.le_of_ble_eq_true rfl) rfl ?_ ?_
            · refine iv_Gm 1 (pc2 := 1) (lv2 := [(0, .int (xs 3))]) (st2 := [.int (xs 3)]) (w2 := (iv_wd iv_Az iv_Fz iv_Bz)) rfl ?_
              refine iv_Gbf (c := decide ((xs 3) < 0)) (p1 := 15) (p2 := 4) (lv2 := [(0, .int (xs 3))]) (st2 := []) (w2 := (iv_wd iv_Az iv_Fz iv_Bz)) rfl (decide_eq_false h1) ?_
              refine iv_Gm 2 (pc2 := 8) (lv2 := [(0, .int (xs 3))]) (st2 := [.int 255, .int (xs 3)]) (w2 := (iv_wd iv_Az iv_Fz iv_Bz)) rfl ?_
              refine iv_Gbt (c := decide (255 < (xs 3))) (p1 := 15) (p2 := 11) (lv2 := [(0, .int (xs 3))]) (st2 := []) (w2 := (iv_wd iv_Az iv_Fz iv_Bz)) rfl (decide_eq_true ((iv_lg2 (by decide)).mpr h8)) ?_
              refine iv_Gm 1 (pc2 := 16) (lv2 := [(0, .int (xs 3))]) (st2 := [.int 0]) (w2 := (iv_wd iv_Az iv_Fz iv_Bz)) rfl ?_
              exact iv_Gret rfl rfl rfl
            show iv_G _ _ _ _ 4 [(0, .ref 1), (1, .int (xs 1)), (2, .int (xs 2)), (3, .int (xs 3))] [.int 0] (iv_wd iv_Az iv_Fz iv_Bz) true _ _ _
            refine iv_Gm 2 (pc2 := 8) (lv2 := [(0, .ref 1), (1, .int (xs 1)), (2, .int (xs 2)), (3, .int (xs 3))]) (st2 := [.int 0]) (w2 := (iv_wd iv_Az iv_Fz iv_Bz)) rfl ?_
            exact iv_Gret rfl rfl rfl
          show iv_Fin _ _ _ _ 673 [(4, .int 0), (3, .ref 65), (2, .ref 44), (1, .ref 1), (0, .ref 0)] [.int 0] (iv_wd iv_Az iv_Fz iv_Bz) true _ _
          refine iv_Em 16 (pc2 := 692) (lv2 := [(4, .int 0), (3, .ref 65), (2, .ref 44), (1, .ref 1), (0, .ref 0)]) (st2 := [.int (xs 3), .int (xs 2), .int (xs 1), .ref 44, .int 0]) (w2 := (iv_wd iv_Az iv_Fz iv_Bz)) rfl ?_
          refine iv_Ecall (ν := 179) (c := 4) (as := [.ref 44, .int (xs 1), .int (xs 2), .int (xs 3)]) (rest := [.int 0]) (w2 := (iv_wd iv_Az (iv_uF iv_Fz 4400 0) iv_Bz)) (tg2 := true) (k2 := 0) (z2 := 0) (v := (some (.int 0))) rfl rfl rfl rfl rfl rfl rfl (Nat.le_of_ble_eq_true rfl) rfl ?_ ?_
          · refine iv_Gm 5 (pc2 := 7) (lv2 := [(0, .ref 44), (1, .int (xs 1)), (2, .int (xs 2)), (3, .int (xs 3))]) (st2 := [.int (xs 2), .int (xs 1)]) (w2 := (iv_wd iv_Az (iv_uF iv_Fz 4400 0) iv_Bz)) rfl ?_
            refine iv_Gcall (ν := 178) (c := 2) (as := [.int (xs 1), .int (xs 2)]) (rest := []) (w2 := (iv_wd iv_Az (iv_uF iv_Fz 4400 0) iv_Bz)) (tg2 := true) (k2 := 0) (z2 := 0) (v := (some (.int 0))) rfl rfl rfl rfl rfl rfl rfl (Nat.le_of_ble_eq_true rfl) rfl ?_ ?_
            · refine iv_Gm 1 (pc2 := 1) (lv2 := [(0, .int (xs 1)), (1, .int (xs 2))]) (st2 := [.int (xs 1)]) (w2 := (iv_wd iv_Az (iv_uF iv_Fz 4400 0) iv_Bz)) rfl ?_
              refine iv_Gbf (c := decide ((xs 1) < 0)) (p1 := 34) (p2 := 4) (lv2 := [(0, .int (xs 1)), (1, .int (xs 2))]) (st2 := []) (w2 := (iv_wd iv_Az (iv_uF iv_Fz 4400 0) iv_Bz)) rfl (decide_eq_false h20) ?_
              refine iv_Gm 2 (pc2 := 7) (lv2 := [(0, .int (xs 1)), (1, .int (xs 2))]) (st2 := [.int 31, .int (xs 1)]) (w2 := (iv_wd iv_Az (iv_uF iv_Fz 4400 0) iv_Bz)) rfl ?_
              refine iv_Gbt (c := decide (31 < (xs 1))) (p1 := 34) (p2 := 10) (lv2 := [(0, .int (xs 1)), (1, .int (xs 2))]) (st2 := []) (w2 := (iv_wd iv_Az (iv_uF iv_Fz 4400 0) iv_Bz)) rfl (decide_eq_true ((iv_lg2 (by decide)).mpr h21)) ?_
              refine iv_Gm 1 (pc2 := 35) (lv2 := [(0, .int (xs 1)), (1, .int (xs 2))]) (st2 := [.int 0]) (w2 := (iv_wd iv_Az (iv_uF iv_Fz 4400 0) iv_Bz)) rfl ?_
              exact iv_Gret rfl rfl rfl
            show iv_G _ _ _ _ 10 [(0, .ref 44), (1, .int (xs 1)), (2, .int (xs 2)), (3, .int (xs 3))] [.int 0] (iv_wd iv_Az (iv_uF iv_Fz 4400 0) iv_Bz) true _ _ _
            refine iv_Gm 2 (pc2 := 25) (lv2 := [(0, .ref 44), (1, .int (xs 1)), (2, .int (xs 2)), (3, .int (xs 3))]) (st2 := [.int 0]) (w2 := (iv_wd iv_Az (iv_uF iv_Fz 4400 0) iv_Bz)) rfl ?_
            exact iv_Gret rfl rfl rfl
          show iv_Fin _ _ _ _ 695 [(4, .int 0), (3, .ref 65), (2, .ref 44), (1, .ref 1), (0, .ref 0)] [.int 0, .int 0] (iv_wd iv_Az (iv_uF iv_Fz 4400 0) iv_Bz) true _ _
          refine iv_Em 10 (pc2 := 788) (lv2 := [(4, .int 6), (3, .ref 65), (2, .ref 44), (1, .ref 1), (0, .ref 0)]) (st2 := [.int 1]) (w2 := (iv_wd iv_Az (iv_uF iv_Fz 4400 0) iv_Bz)) rfl ?_
          exact iv_Eret rfl rfl rfl (by decide) (by decide)
