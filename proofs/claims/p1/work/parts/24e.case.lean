set_option maxRecDepth 1000000 in
set_option maxHeartbeats 40000000 in
theorem iv_case_12 (xs : Nat → Int32) (h0 : xs 0 &&& 15 = 12) : iv_Fin 6 xs 20 0 23 [(4, .int 0), (3, .ref 65), (2, .ref 44), (1, .ref 1), (0, .ref 0)] [] (iv_wd iv_Az iv_Fz iv_Bz) true 65 10417 := by
  by_cases h1 : (xs 1) = (-1)
  · by_cases h2 : (xs 2) = 0
    · refine iv_Em 11 (pc2 := 40) (lv2 := [(4, .int 0), (3, .ref 65), (2, .ref 44), (1, .ref 1), (0, .ref 0)]) (st2 := [.int ((xs 0) &&& 15)]) (w2 := (iv_wd iv_Az iv_Fz iv_Bz)) rfl ?_
      refine iv_Esw rfl rfl (show iv_sw 40 _ _ _ _ _ = some 700 by rw [h0]; rfl) ?_
      refine iv_Em 6 (pc2 := 707) (lv2 := [(4, .int 0), (3, .ref 65), (2, .ref 44), (1, .ref 1), (0, .ref 0)]) (st2 := [.int (xs 1), .ref 1]) (w2 := (iv_wd iv_Az iv_Fz iv_Bz)) rfl ?_
      rw [h1]
      refine iv_Em 5 (pc2 := 713) (lv2 := [(4, .int 0), (3, .ref 65), (2, .ref 44), (1, .ref 1), (0, .ref 0)]) (st2 := [.int (xs 2), .int (-1), .ref 1]) (w2 := (iv_wd iv_Az iv_Fz iv_Bz)) rfl ?_
      rw [h2]
      refine iv_Ecall (ν := 14) (c := 3) (as := [.ref 1, .int (-1), .int 0]) (rest := []) (w2 := (iv_wd iv_Az iv_Fz iv_Bz)) (tg2 := true) (k2 := 0) (z2 := 0) (v := (some (.int 0))) rfl rfl rfl rfl rfl rfl rfl (Nat.le_of_ble_eq_true rfl) rfl ?_ ?_
      · exact ⟨18, rfl⟩
      show iv_Fin _ _ _ _ 716 [(4, .int 0), (3, .ref 65), (2, .ref 44), (1, .ref 1), (0, .ref 0)] [.int 0] (iv_wd iv_Az iv_Fz iv_Bz) true _ _
      refine iv_Em 6 (pc2 := 723) (lv2 := [(4, .int 0), (3, .ref 65), (2, .ref 44), (1, .ref 1), (0, .ref 0)]) (st2 := [.int (xs 1), .ref 44, .int 0]) (w2 := (iv_wd iv_Az iv_Fz iv_Bz)) rfl ?_
      rw [h1]
      refine iv_Em 5 (pc2 := 729) (lv2 := [(4, .int 0), (3, .ref 65), (2, .ref 44), (1, .ref 1), (0, .ref 0)]) (st2 := [.int (xs 2), .int (-1), .ref 44, .int 0]) (w2 := (iv_wd iv_Az iv_Fz iv_Bz)) rfl ?_
      rw [h2]
      refine iv_Ecall (ν := 181) (c := 3) (as := [.ref 44, .int (-1), .int 0]) (rest := [.int 0]) (w2 := (iv_wd iv_Az (iv_uF iv_Fz 4400 0) iv_Bz)) (tg2 := true) (k2 := 0) (z2 := 0) (v := (some (.int 0))) rfl rfl rfl rfl rfl rfl rfl (Nat.le_of_ble_eq_true rfl) rfl ?_ ?_
      · exact ⟨14, rfl⟩
      show iv_Fin _ _ _ _ 732 [(4, .int 0), (3, .ref 65), (2, .ref 44), (1, .ref 1), (0, .ref 0)] [.int 0, .int 0] (iv_wd iv_Az (iv_uF iv_Fz 4400 0) iv_Bz) true _ _
      refine iv_Em 10 (pc2 := 788) (lv2 := [(4, .int 6), (3, .ref 65), (2, .ref 44), (1, .ref 1), (0, .ref 0)]) (st2 := [.int 1]) (w2 := (iv_wd iv_Az (iv_uF iv_Fz 4400 0) iv_Bz)) rfl ?_
      exact iv_Eret rfl rfl rfl (by decide) (by decide)
    · by_cases h3 : (xs 2) = 1
      · refine iv_Em 11 (pc2 := 40) (lv2 := [(4, .int 0), (3, .ref 65), (2, .ref 44), (1, .ref 1), (0, .ref 0)]) (st2 := [.int ((xs 0) &&& 15)]) (w2 := (iv_wd iv_Az iv_Fz iv_Bz)) rfl ?_
        refine iv_Esw rfl rfl (show iv_sw 40 _ _ _ _ _ = some 700 by rw [h0]; rfl) ?_
        refine iv_Em 6 (pc2 := 707) (lv2 := [(4, .int 0), (3, .ref 65), (2, .ref 44), (1, .ref 1), (0, .ref 0)]) (st2 := [.int (xs 1), .ref 1]) (w2 := (iv_wd iv_Az iv_Fz iv_Bz)) rfl ?_
        rw [h1]
        refine iv_Em 5 (pc2 := 713) (lv2 := [(4, .int 0), (3, .ref 65), (2, .ref 44), (1, .ref 1), (0, .ref 0)]) (st2 := [.int (xs 2), .int (-1), .ref 1]) (w2 := (iv_wd iv_Az iv_Fz iv_Bz)) rfl ?_
        rw [h3]
        refine iv_Ecall (ν := 14) (c := 3) (as := [.ref 1, .int (-1), .int 1]) (rest := []) (w2 := (iv_wd iv_Az iv_Fz iv_Bz)) (tg2 := true) (k2 := 0) (z2 := 0) (v := (some (.int 2))) rfl rfl rfl rfl rfl rfl rfl (Nat.le_of_ble_eq_true rfl) rfl ?_ ?_
        · exact ⟨18, rfl⟩
        show iv_Fin _ _ _ _ 716 [(4, .int 0), (3, .ref 65), (2, .ref 44), (1, .ref 1), (0, .ref 0)] [.int 2] (iv_wd iv_Az iv_Fz iv_Bz) true _ _
        refine iv_Em 6 (pc2 := 723) (lv2 := [(4, .int 0), (3, .ref 65), (2, .ref 44), (1, .ref 1), (0, .ref 0)]) (st2 := [.int (xs 1), .ref 44, .int 2]) (w2 := (iv_wd iv_Az iv_Fz iv_Bz)) rfl ?_
        rw [h1]
        refine iv_Em 5 (pc2 := 729) (lv2 := [(4, .int 0), (3, .ref 65), (2, .ref 44), (1, .ref 1), (0, .ref 0)]) (st2 := [.int (xs 2), .int (-1), .ref 44, .int 2]) (w2 := (iv_wd iv_Az iv_Fz iv_Bz)) rfl ?_
        rw [h3]
        refine iv_Ecall (ν := 181) (c := 3) (as := [.ref 44, .int (-1), .int 1]) (rest := [.int 2]) (w2 := (iv_wd iv_Az (iv_uF iv_Fz 4400 0) iv_Bz)) (tg2 := true) (k2 := 0) (z2 := 0) (v := (some (.int 2))) rfl rfl rfl rfl rfl rfl rfl (Nat.le_of_ble_eq_true rfl) rfl ?_ ?_
        · exact ⟨17, rfl⟩
        show iv_Fin _ _ _ _ 732 [(4, .int 0), (3, .ref 65), (2, .ref 44), (1, .ref 1), (0, .ref 0)] [.int 2, .int 2] (iv_wd iv_Az (iv_uF iv_Fz 4400 0) iv_Bz) true _ _
        refine iv_Em 10 (pc2 := 788) (lv2 := [(4, .int 6), (3, .ref 65), (2, .ref 44), (1, .ref 1), (0, .ref 0)]) (st2 := [.int 1]) (w2 := (iv_wd iv_Az (iv_uF iv_Fz 4400 0) iv_Bz)) rfl ?_
        exact iv_Eret rfl rfl rfl (by decide) (by decide)
      · by_cases h4 : (xs 2) = 2
        · refine iv_Em 11 (pc2 := 40) (lv2 := [(4, .int 0), (3, .ref 65), (2, .ref 44), (1, .ref 1), (0, .ref 0)]) (st2 := [.int ((xs 0) &&& 15)]) (w2 := (iv_wd iv_Az iv_Fz iv_Bz)) rfl ?_
          refine iv_Esw rfl rfl (show iv_sw 40 _ _ _ _ _ = some 700 by rw [h0]; rfl) ?_
          refine iv_Em 6 (pc2 := 707) (lv2 := [(4, .int 0), (3, .ref 65), (2, .ref 44), (1, .ref 1), (0, .ref 0)]) (st2 := [.int (xs 1), .ref 1]) (w2 := (iv_wd iv_Az iv_Fz iv_Bz)) rfl ?_
          rw [h1]
          refine iv_Em 5 (pc2 := 713) (lv2 := [(4, .int 0), (3, .ref 65), (2, .ref 44), (1, .ref 1), (0, .ref 0)]) (st2 := [.int (xs 2), .int (-1), .ref 1]) (w2 := (iv_wd iv_Az iv_Fz iv_Bz)) rfl ?_
          rw [h4]
          refine iv_Ecall (ν := 14) (c := 3) (as := [.ref 1, .int (-1), .int 2]) (rest := []) (w2 := (iv_wd iv_Az iv_Fz iv_Bz)) (tg2 := true) (k2 := 0) (z2 := 0) (v := (some (.int 29))) rfl rfl rfl rfl rfl rfl rfl (Nat.le_of_ble_eq_true rfl) rfl ?_ ?_
          · exact ⟨654, rfl⟩
          show iv_Fin _ _ _ _ 716 [(4, .int 0), (3, .ref 65), (2, .ref 44), (1, .ref 1), (0, .ref 0)] [.int 29] (iv_wd iv_Az iv_Fz iv_Bz) true _ _
          refine iv_Em 6 (pc2 := 723) (lv2 := [(4, .int 0), (3, .ref 65), (2, .ref 44), (1, .ref 1), (0, .ref 0)]) (st2 := [.int (xs 1), .ref 44, .int 29]) (w2 := (iv_wd iv_Az iv_Fz iv_Bz)) rfl ?_
          rw [h1]
          refine iv_Em 5 (pc2 := 729) (lv2 := [(4, .int 0), (3, .ref 65), (2, .ref 44), (1, .ref 1), (0, .ref 0)]) (st2 := [.int (xs 2), .int (-1), .ref 44, .int 29]) (w2 := (iv_wd iv_Az iv_Fz iv_Bz)) rfl ?_
          rw [h4]
          refine iv_Ecall (ν := 181) (c := 3) (as := [.ref 44, .int (-1), .int 2]) (rest := [.int 29]) (w2 := (iv_wd iv_Az (iv_uF iv_Fz 4400 0) iv_Bz)) (tg2 := true) (k2 := 0) (z2 := 0) (v := (some (.int 29))) rfl rfl rfl rfl rfl rfl rfl (Nat.le_of_ble_eq_true rfl) rfl ?_ ?_
          · exact ⟨659, rfl⟩
          show iv_Fin _ _ _ _ 732 [(4, .int 0), (3, .ref 65), (2, .ref 44), (1, .ref 1), (0, .ref 0)] [.int 29, .int 29] (iv_wd iv_Az (iv_uF iv_Fz 4400 0) iv_Bz) true _ _
          refine iv_Em 10 (pc2 := 788) (lv2 := [(4, .int 6), (3, .ref 65), (2, .ref 44), (1, .ref 1), (0, .ref 0)]) (st2 := [.int 1]) (w2 := (iv_wd iv_Az (iv_uF iv_Fz 4400 0) iv_Bz)) rfl ?_
          exact iv_Eret rfl rfl rfl (by decide) (by decide)
        · by_cases h5 : (xs 2) = 3
          · refine iv_Em 11 (pc2 := 40) (lv2 := [(4, .int 0), (3, .ref 65), (2, .ref 44), (1, .ref 1), (0, .ref 0)]) (st2 := [.int ((xs 0) &&& 15)]) (w2 := (iv_wd iv_Az iv_Fz iv_Bz)) rfl ?_
            refine iv_Esw rfl rfl (show iv_sw 40 _ _ _ _ _ = some 700 by rw [h0]; rfl) ?_
            refine iv_Em 6 (pc2 := 707) (lv2 := [(4, .int 0), (3, .ref 65), (2, .ref 44), (1, .ref 1), (0, .ref 0)]) (st2 := [.int (xs 1), .ref 1]) (w2 := (iv_wd iv_Az iv_Fz iv_Bz)) rfl ?_
            rw [h1]
            refine iv_Em 5 (pc2 := 713) (lv2 := [(4, .int 0), (3, .ref 65), (2, .ref 44), (1, .ref 1), (0, .ref 0)]) (st2 := [.int (xs 2), .int (-1), .ref 1]) (w2 := (iv_wd iv_Az iv_Fz iv_Bz)) rfl ?_
            rw [h5]
            refine iv_Ecall (ν := 14) (c := 3) (as := [.ref 1, .int (-1), .int 3]) (rest := []) (w2 := (iv_wd iv_Az iv_Fz iv_Bz)) (tg2 := true) (k2 := 0) (z2 := 0) (v := (some (.int 0))) rfl rfl rfl rfl rfl rfl rfl (Nat.le_of_ble_eq_true rfl) rfl ?_ ?_
            · exact ⟨625, rfl⟩
            show iv_Fin _ _ _ _ 716 [(4, .int 0), (3, .ref 65), (2, .ref 44), (1, .ref 1), (0, .ref 0)] [.int 0] (iv_wd iv_Az iv_Fz iv_Bz) true _ _
            refine iv_Em 6 (pc2 := 723) (lv2 := [(4, .int 0), (3, .ref 65), (2, .ref 44), (1, .ref 1), (0, .ref 0)]) (st2 := [.int (xs 1), .ref 44, .int 0]) (w2 := (iv_wd iv_Az iv_Fz iv_Bz)) rfl ?_
            rw [h1]
            refine iv_Em 5 (pc2 := 729) (lv2 := [(4, .int 0), (3, .ref 65), (2, .ref 44), (1, .ref 1), (0, .ref 0)]) (st2 := [.int (xs 2), .int (-1), .ref 44, .int 0]) (w2 := (iv_wd iv_Az iv_Fz iv_Bz)) rfl ?_
            rw [h5]
            refine iv_Ecall (ν := 181) (c := 3) (as := [.ref 44, .int (-1), .int 3]) (rest := [.int 0]) (w2 := (iv_wd iv_Az (iv_uF iv_Fz 4400 0) iv_Bz)) (tg2 := true) (k2 := 0) (z2 := 0) (v := (some (.int 0))) rfl rfl rfl rfl rfl rfl rfl (Nat.le_of_ble_eq_true rfl) rfl ?_ ?_
            · exact ⟨633, rfl⟩
            show iv_Fin _ _ _ _ 732 [(4, .int 0), (3, .ref 65), (2, .ref 44), (1, .ref 1), (0, .ref 0)] [.int 0, .int 0] (iv_wd iv_Az (iv_uF iv_Fz 4400 0) iv_Bz) true _ _
            refine iv_Em 10 (pc2 := 788) (lv2 := [(4, .int 6), (3, .ref 65), (2, .ref 44), (1, .ref 1), (0, .ref 0)]) (st2 := [.int 1]) (w2 := (iv_wd iv_Az (iv_uF iv_Fz 4400 0) iv_Bz)) rfl ?_
            exact iv_Eret rfl rfl rfl (by decide) (by decide)
          · by_cases h6 : (xs 2) = 4
            · refine iv_Em 11 (pc2 := 40) (lv2 := [(4, .int 0), (3, .ref 65), (2, .ref 44), (1, .ref 1), (0, .ref 0)]) (st2 := [.int ((xs 0) &&& 15)]) (w2 := (iv_wd iv_Az iv_Fz iv_Bz)) rfl ?_
              refine iv_Esw rfl rfl (show iv_sw 40 _ _ _ _ _ = some 700 by rw [h0]; rfl) ?_
              refine iv_Em 6 (pc2 := 707) (lv2 := [(4, .int 0), (3, .ref 65), (2, .ref 44), (1, .ref 1), (0, .ref 0)]) (st2 := [.int (xs 1), .ref 1]) (w2 := (iv_wd iv_Az iv_Fz iv_Bz)) rfl ?_
              rw [h1]
              refine iv_Em 5 (pc2 := 713) (lv2 := [(4, .int 0), (3, .ref 65), (2, .ref 44), (1, .ref 1), (0, .ref 0)]) (st2 := [.int (xs 2), .int (-1), .ref 1]) (w2 := (iv_wd iv_Az iv_Fz iv_Bz)) rfl ?_
              rw [h6]
              refine iv_Ecall (ν := 14) (c := 3) (as := [.ref 1, .int (-1), .int 4]) (rest := []) (w2 := (iv_wd iv_Az iv_Fz iv_Bz)) (tg2 := true) (k2 := 0) (z2 := 0) (v := (some (.int 0))) rfl rfl rfl rfl rfl rfl rfl (Nat.le_of_ble_eq_true rfl) rfl ?_ ?_
              · exact ⟨20, rfl⟩
              show iv_Fin _ _ _ _ 716 [(4, .int 0), (3, .ref 65), (2, .ref 44), (1, .ref 1), (0, .ref 0)] [.int 0] (iv_wd iv_Az iv_Fz iv_Bz) true _ _
              refine iv_Em 6 (pc2 := 723) (lv2 := [(4, .int 0), (3, .ref 65), (2, .ref 44), (1, .ref 1), (0, .ref 0)]) (st2 := [.int (xs 1), .ref 44, .int 0]) (w2 := (iv_wd iv_Az iv_Fz iv_Bz)) rfl ?_
              rw [h1]
              refine iv_Em 5 (pc2 := 729) (lv2 := [(4, .int 0), (3, .ref 65), (2, .ref 44), (1, .ref 1), (0, .ref 0)]) (st2 := [.int (xs 2), .int (-1), .ref 44, .int 0]) (w2 := (iv_wd iv_Az iv_Fz iv_Bz)) rfl ?_
              rw [h6]
              refine iv_Ecall (ν := 181) (c := 3) (as := [.ref 44, .int (-1), .int 4]) (rest := [.int 0]) (w2 := (iv_wd iv_Az (iv_uF iv_Fz 4400 0) iv_Bz)) (tg2 := true) (k2 := 0) (z2 := 0) (v := (some (.int 0))) rfl rfl rfl rfl rfl rfl rfl (Nat.le_of_ble_eq_true rfl) rfl ?_ ?_
              · exact ⟨28, rfl⟩
              show iv_Fin _ _ _ _ 732 [(4, .int 0), (3, .ref 65), (2, .ref 44), (1, .ref 1), (0, .ref 0)] [.int 0, .int 0] (iv_wd iv_Az (iv_uF iv_Fz 4400 0) iv_Bz) true _ _
              refine iv_Em 10 (pc2 := 788) (lv2 := [(4, .int 6), (3, .ref 65), (2, .ref 44), (1, .ref 1), (0, .ref 0)]) (st2 := [.int 1]) (w2 := (iv_wd iv_Az (iv_uF iv_Fz 4400 0) iv_Bz)) rfl ?_
              exact iv_Eret rfl rfl rfl (by decide) (by decide)
            · refine iv_Em 11 (pc2 := 40) (lv2 := [(4, .int 0), (3, .ref 65), (2, .ref 44), (1, .ref 1), (0, .ref 0)]) (st2 := [.int ((xs 0) &&& 15)]) (w2 := (iv_wd iv_Az iv_Fz iv_Bz)) rfl ?_
              refine iv_Esw rfl rfl (show iv_sw 40 _ _ _ _ _ = some 700 by rw [h0]; rfl) ?_
              refine iv_Em 6 (pc2 := 707) (lv2 := [(4, .int 0), (3, .ref 65), (2, .ref 44), (1, .ref 1), (0, .ref 0)]) (st2 := [.int (xs 1), .ref 1]) (w2 := (iv_wd iv_Az iv_Fz iv_Bz)) rfl ?_
              rw [h1]
              refine iv_Em 5 (pc2 := 713) (lv2 := [(4, .int 0), (3, .ref 65), (2, .ref 44), (1, .ref 1), (0, .ref 0)]) (st2 := [.int (xs 2), .int (-1), .ref 1]) (w2 := (iv_wd iv_Az iv_Fz iv_Bz)) rfl ?_
              refine iv_Ecall (ν := 14) (c := 3) (as := [.ref 1, .int (-1), .int (xs 2)]) (rest := []) (w2 := (iv_wd iv_Az iv_Fz iv_Bz)) (tg2 := true) (k2 := 0) (z2 := 0) (v := (some (.int (-1)))) rfl rfl rfl rfl rfl rfl rfl (Nat.le_of_ble_eq_true rfl) rfl ?_ ?_
              · refine iv_Gm 5 (pc2 := 7) (lv2 := [(0, .ref 1), (1, .int (-1)), (2, .int (xs 2))]) (st2 := [.int (xs 2), .ref 1]) (w2 := (iv_wd iv_Az iv_Fz iv_Bz)) rfl ?_
                refine iv_Gcall (ν := 23) (c := 2) (as := [.ref 1, .int (xs 2)]) (rest := []) (w2 := (iv_wd iv_Az iv_Fz iv_Bz)) (tg2 := true) (k2 := 0) (z2 := 0) (v := (some (.int (-1)))) rfl rfl rfl rfl rfl rfl rfl (Nat.le_of_ble_eq_true rfl) rfl ?_ ?_
                · refine iv_Gm 1 (pc2 := 1) (lv2 := [(0, .ref 1), (1, .int (xs 2))]) (st2 := [.int (xs 2)]) (w2 := (iv_wd iv_Az iv_Fz iv_Bz)) rfl ?_
                  refine iv_Gsw rfl rfl (show iv_sw 1 _ _ _ _ _ = some 88 by exact iv_sw_out h2 h3 h4 h5 h6 (by decide) (by decide)) ?_
                  refine iv_Gm 1 (pc2 := 89) (lv2 := [(0, .ref 1), (1, .int (xs 2))]) (st2 := [.int (-1)]) (w2 := (iv_wd iv_Az iv_Fz iv_Bz)) rfl ?_
                  exact iv_Gret rfl rfl rfl
                show iv_G _ _ _ _ 10 [(0, .ref 1), (1, .int (-1)), (2, .int (xs 2))] [.int (-1)] (iv_wd iv_Az iv_Fz iv_Bz) true _ _ _
                exact iv_Gret rfl rfl rfl
              show iv_Fin _ _ _ _ 716 [(4, .int 0), (3, .ref 65), (2, .ref 44), (1, .ref 1), (0, .ref 0)] [.int (-1)] (iv_wd iv_Az iv_Fz iv_Bz) true _ _
              refine iv_Em 6 (pc2 := 723) (lv2 := [(4, .int 0), (3, .ref 65), (2, .ref 44), (1, .ref 1), (0, .ref 0)]) (st2 := [.int (xs 1), .ref 44, .int (-1)]) (w2 := (iv_wd iv_Az iv_Fz iv_Bz)) rfl ?_
              rw [h1]
              refine iv_Em 5 (pc2 := 729) (lv2 := [(4, .int 0), (3, .ref 65), (2, .ref 44), (1, .ref 1), (0, .ref 0)]) (st2 := [.int (xs 2), .int (-1), .ref 44, .int (-1)]) (w2 := (iv_wd iv_Az iv_Fz iv_Bz)) rfl ?_
              refine iv_Ecall (ν := 181) (c := 3) (as := [.ref 44, .int (-1), .int (xs 2)]) (rest := [.int (-1)]) (w2 := (iv_wd iv_Az (iv_uF iv_Fz 4400 0) iv_Bz)) (tg2 := true) (k2 := 0) (z2 := 0) (v := (some (.int (-1)))) rfl rfl rfl rfl rfl rfl rfl (Nat.le_of_ble_eq_true rfl) rfl ?_ ?_
              · refine iv_Gm 7 (pc2 := 11) (lv2 := [(0, .ref 44), (1, .int (-1)), (2, .int (xs 2))]) (st2 := [.int (xs 2)]) (w2 := (iv_wd iv_Az (iv_uF iv_Fz 4400 0) iv_Bz)) rfl ?_
                refine iv_Gbt (c := decide (¬ (xs 2) = 0)) (p1 := 21) (p2 := 14) (lv2 := [(0, .ref 44), (1, .int (-1)), (2, .int (xs 2))]) (st2 := []) (w2 := (iv_wd iv_Az (iv_uF iv_Fz 4400 0) iv_Bz)) rfl (decide_eq_true h2) ?_
                refine iv_Gm 2 (pc2 := 23) (lv2 := [(0, .ref 44), (1, .int (-1)), (2, .int (xs 2))]) (st2 := [.int 1, .int (xs 2)]) (w2 := (iv_wd iv_Az (iv_uF iv_Fz 4400 0) iv_Bz)) rfl ?_
                refine iv_Gbt (c := decide (¬ (xs 2) = 1)) (p1 := 33) (p2 := 26) (lv2 := [(0, .ref 44), (1, .int (-1)), (2, .int (xs 2))]) (st2 := []) (w2 := (iv_wd iv_Az (iv_uF iv_Fz 4400 0) iv_Bz)) rfl (decide_eq_true h3) ?_
                refine iv_Gm 2 (pc2 := 35) (lv2 := [(0, .ref 44), (1, .int (-1)), (2, .int (xs 2))]) (st2 := [.int 2, .int (xs 2)]) (w2 := (iv_wd iv_Az (iv_uF iv_Fz 4400 0) iv_Bz)) rfl ?_
                refine iv_Gbt (c := decide (¬ (xs 2) = 2)) (p1 := 46) (p2 := 38) (lv2 := [(0, .ref 44), (1, .int (-1)), (2, .int (xs 2))]) (st2 := []) (w2 := (iv_wd iv_Az (iv_uF iv_Fz 4400 0) iv_Bz)) rfl (decide_eq_true h4) ?_
                refine iv_Gm 2 (pc2 := 48) (lv2 := [(0, .ref 44), (1, .int (-1)), (2, .int (xs 2))]) (st2 := [.int 3, .int (xs 2)]) (w2 := (iv_wd iv_Az (iv_uF iv_Fz 4400 0) iv_Bz)) rfl ?_
                refine iv_Gbt (c := decide (¬ (xs 2) = 3)) (p1 := 61) (p2 := 51) (lv2 := [(0, .ref 44), (1, .int (-1)), (2, .int (xs 2))]) (st2 := []) (w2 := (iv_wd iv_Az (iv_uF iv_Fz 4400 0) iv_Bz)) rfl (decide_eq_true h5) ?_
                refine iv_Gm 2 (pc2 := 63) (lv2 := [(0, .ref 44), (1, .int (-1)), (2, .int (xs 2))]) (st2 := [.int 4, .int (xs 2)]) (w2 := (iv_wd iv_Az (iv_uF iv_Fz 4400 0) iv_Bz)) rfl ?_
                refine iv_Gbt (c := decide (¬ (xs 2) = 4)) (p1 := 81) (p2 := 66) (lv2 := [(0, .ref 44), (1, .int (-1)), (2, .int (xs 2))]) (st2 := []) (w2 := (iv_wd iv_Az (iv_uF iv_Fz 4400 0) iv_Bz)) rfl (decide_eq_true h6) ?_
                refine iv_Gm 1 (pc2 := 82) (lv2 := [(0, .ref 44), (1, .int (-1)), (2, .int (xs 2))]) (st2 := [.int (-1)]) (w2 := (iv_wd iv_Az (iv_uF iv_Fz 4400 0) iv_Bz)) rfl ?_
                exact iv_Gret rfl rfl rfl
              show iv_Fin _ _ _ _ 732 [(4, .int 0), (3, .ref 65), (2, .ref 44), (1, .ref 1), (0, .ref 0)] [.int (-1), .int (-1)] (iv_wd iv_Az (iv_uF iv_Fz 4400 0) iv_Bz) true _ _
              refine iv_Em 10 (pc2 := 788) (lv2 := [(4, .int 6), (3, .ref 65), (2, .ref 44), (1, .ref 1), (0, .ref 0)]) (st2 := [.int 1]) (w2 := (iv_wd iv_Az (iv_uF iv_Fz 4400 0) iv_Bz)) rfl ?_
              exact iv_Eret rfl rfl rfl (by decide) (by decide)
  · by_cases h7 : (xs 1) = 0
    · by_cases h8 : (xs 2) < 0
      · refine iv_Em 11 (pc2 := 40) (lv2 := [(4, .int 0), (3, .ref 65), (2, .ref 44), (1, .ref 1), (0, .ref 0)]) (st2 := [.int ((xs 0) &&& 15)]) (w2 := (iv_wd iv_Az iv_Fz iv_Bz)) rfl ?_
        refine iv_Esw rfl rfl (show iv_sw 40 _ _ _ _ _ = some 700 by rw [h0]; rfl) ?_
        refine iv_Em 6 (pc2 := 707) (lv2 := [(4, .int 0), (3, .ref 65), (2, .ref 44), (1, .ref 1), (0, .ref 0)]) (st2 := [.int (xs 1), .ref 1]) (w2 := (iv_wd iv_Az iv_Fz iv_Bz)) rfl ?_
        rw [h7]
        refine iv_Em 5 (pc2 := 713) (lv2 := [(4, .int 0), (3, .ref 65), (2, .ref 44), (1, .ref 1), (0, .ref 0)]) (st2 := [.int (xs 2), .int 0, .ref 1]) (w2 := (iv_wd iv_Az iv_Fz iv_Bz)) rfl ?_
        refine iv_Ecall (ν := 14) (c := 3) (as := [.ref 1, .int 0, .int (xs 2)]) (rest := []) (w2 := (iv_wd iv_Az iv_Fz iv_Bz)) (tg2 := true) (k2 := 0) (z2 := 0) (v := (some (.int (-1)))) rfl rfl rfl rfl rfl rfl rfl (Nat.le_of_ble_eq_true rfl) rfl ?_ ?_
        · refine iv_Gm 5 (pc2 := 13) (lv2 := [(0, .ref 1), (1, .int 0), (2, .int (xs 2))]) (st2 := [.int (xs 2), .int 0]) (w2 := (iv_wd iv_Az iv_Fz iv_Bz)) rfl ?_
          refine iv_Gcall (ν := 26) (c := 2) (as := [.int 0, .int (xs 2)]) (rest := []) (w2 := (iv_wd iv_Az iv_Fz iv_Bz)) (tg2 := true) (k2 := 0) (z2 := 0) (v := (some (.int 0))) rfl rfl rfl rfl rfl rfl rfl (Nat.le_of_ble_eq_true rfl) rfl ?_ ?_
          · refine iv_Gm 3 (pc2 := 10) (lv2 := [(0, .int 0), (1, .int (xs 2))]) (st2 := [.int (xs 2)]) (w2 := (iv_wd iv_Az iv_Fz iv_Bz)) rfl ?_
            refine iv_Gbt (c := decide ((xs 2) < 0)) (p1 := 23) (p2 := 13) (lv2 := [(0, .int 0), (1, .int (xs 2))]) (st2 := []) (w2 := (iv_wd iv_Az iv_Fz iv_Bz)) rfl (decide_eq_true h8) ?_
            refine iv_Gm 1 (pc2 := 24) (lv2 := [(0, .int 0), (1, .int (xs 2))]) (st2 := [.int 0]) (w2 := (iv_wd iv_Az iv_Fz iv_Bz)) rfl ?_
            exact iv_Gret rfl rfl rfl
          show iv_G _ _ _ _ 16 [(0, .ref 1), (1, .int 0), (2, .int (xs 2))] [.int 0] (iv_wd iv_Az iv_Fz iv_Bz) true _ _ _
          refine iv_Gm 3 (pc2 := 31) (lv2 := [(0, .ref 1), (1, .int 0), (2, .int (xs 2))]) (st2 := [.int (xs 2), .int 0]) (w2 := (iv_wd iv_Az iv_Fz iv_Bz)) rfl ?_
          refine iv_Gcall (ν := 27) (c := 2) (as := [.int 0, .int (xs 2)]) (rest := []) (w2 := (iv_wd iv_Az iv_Fz iv_Bz)) (tg2 := true) (k2 := 0) (z2 := 0) (v := (some (.int 0))) rfl rfl rfl rfl rfl rfl rfl (Nat.le_of_ble_eq_true rfl) rfl ?_ ?_
          · exact ⟨12, rfl⟩
          show iv_G _ _ _ _ 34 [(0, .ref 1), (1, .int 0), (2, .int (xs 2))] [.int 0] (iv_wd iv_Az iv_Fz iv_Bz) true _ _ _
          refine iv_Gm 2 (pc2 := 50) (lv2 := [(0, .ref 1), (1, .int 0), (2, .int (xs 2))]) (st2 := [.int (-1)]) (w2 := (iv_wd iv_Az iv_Fz iv_Bz)) rfl ?_
          exact iv_Gret rfl rfl rfl
        show iv_Fin _ _ _ _ 716 [(4, .int 0), (3, .ref 65), (2, .ref 44), (1, .ref 1), (0, .ref 0)] [.int (-1)] (iv_wd iv_Az iv_Fz iv_Bz) true _ _
        refine iv_Em 6 (pc2 := 723) (lv2 := [(4, .int 0), (3, .ref 65), (2, .ref 44), (1, .ref 1), (0, .ref 0)]) (st2 := [.int (xs 1), .ref 44, .int (-1)]) (w2 := (iv_wd iv_Az iv_Fz iv_Bz)) rfl ?_
        rw [h7]
        refine iv_Em 5 (pc2 := 729) (lv2 := [(4, .int 0), (3, .ref 65), (2, .ref 44), (1, .ref 1), (0, .ref 0)]) (st2 := [.int (xs 2), .int 0, .ref 44, .int (-1)]) (w2 := (iv_wd iv_Az iv_Fz iv_Bz)) rfl ?_
        refine iv_Ecall (ν := 181) (c := 3) (as := [.ref 44, .int 0, .int (xs 2)]) (rest := [.int (-1)]) (w2 := (iv_wd iv_Az (iv_uF iv_Fz 4400 0) iv_Bz)) (tg2 := true) (k2 := 0) (z2 := 0) (v := (some (.int (-1)))) rfl rfl rfl rfl rfl rfl rfl (Nat.le_of_ble_eq_true rfl) rfl ?_ ?_
        · refine iv_Gm 8 (pc2 := 85) (lv2 := [(0, .ref 44), (1, .int 0), (2, .int (xs 2))]) (st2 := [.int (xs 2), .int 0]) (w2 := (iv_wd iv_Az (iv_uF iv_Fz 4400 0) iv_Bz)) rfl ?_
          refine iv_Gcall (ν := 178) (c := 2) (as := [.int 0, .int (xs 2)]) (rest := []) (w2 := (iv_wd iv_Az (iv_uF iv_Fz 4400 0) iv_Bz)) (tg2 := true) (k2 := 0) (z2 := 0) (v := (some (.int 0))) rfl rfl rfl rfl rfl rfl rfl (Nat.le_of_ble_eq_true rfl) rfl ?_ ?_
          · refine iv_Gm 6 (pc2 := 11) (lv2 := [(0, .int 0), (1, .int (xs 2))]) (st2 := [.int (xs 2)]) (w2 := (iv_wd iv_Az (iv_uF iv_Fz 4400 0) iv_Bz)) rfl ?_
            refine iv_Gbt (c := decide ((xs 2) < 0)) (p1 := 34) (p2 := 14) (lv2 := [(0, .int 0), (1, .int (xs 2))]) (st2 := []) (w2 := (iv_wd iv_Az (iv_uF iv_Fz 4400 0) iv_Bz)) rfl (decide_eq_true h8) ?_
            refine iv_Gm 1 (pc2 := 35) (lv2 := [(0, .int 0), (1, .int (xs 2))]) (st2 := [.int 0]) (w2 := (iv_wd iv_Az (iv_uF iv_Fz 4400 0) iv_Bz)) rfl ?_
            exact iv_Gret rfl rfl rfl
          show iv_G _ _ _ _ 88 [(0, .ref 44), (1, .int 0), (2, .int (xs 2))] [.int 0] (iv_wd iv_Az (iv_uF iv_Fz 4400 0) iv_Bz) true _ _ _
          refine iv_Gm 2 (pc2 := 92) (lv2 := [(0, .ref 44), (1, .int 0), (2, .int (xs 2))]) (st2 := [.int (-1)]) (w2 := (iv_wd iv_Az (iv_uF iv_Fz 4400 0) iv_Bz)) rfl ?_
          exact iv_Gret rfl rfl rfl
        show iv_Fin _ _ _ _ 732 [(4, .int 0), (3, .ref 65), (2, .ref 44), (1, .ref 1), (0, .ref 0)] [.int (-1), .int (-1)] (iv_wd iv_Az (iv_uF iv_Fz 4400 0) iv_Bz) true _ _
        refine iv_Em 10 (pc2 := 788) (lv2 := [(4, .int 6), (3, .ref 65), (2, .ref 44), (1, .ref 1), (0, .ref 0)]) (st2 := [.int 1]) (w2 := (iv_wd iv_Az (iv_uF iv_Fz 4400 0) iv_Bz)) rfl ?_
        exact iv_Eret rfl rfl rfl (by decide) (by decide)
      · by_cases h9 : (xs 2) < 32
        · refine iv_Em 11 (pc2 := 40) (lv2 := [(4, .int 0), (3, .ref 65), (2, .ref 44), (1, .ref 1), (0, .ref 0)]) (st2 := [.int ((xs 0) &&& 15)]) (w2 := (iv_wd iv_Az iv_Fz iv_Bz)) rfl ?_
          refine iv_Esw rfl rfl (show iv_sw 40 _ _ _ _ _ = some 700 by rw [h0]; rfl) ?_
          refine iv_Em 6 (pc2 := 707) (lv2 := [(4, .int 0), (3, .ref 65), (2, .ref 44), (1, .ref 1), (0, .ref 0)]) (st2 := [.int (xs 1), .ref 1]) (w2 := (iv_wd iv_Az iv_Fz iv_Bz)) rfl ?_
          rw [h7]
          refine iv_Em 5 (pc2 := 713) (lv2 := [(4, .int 0), (3, .ref 65), (2, .ref 44), (1, .ref 1), (0, .ref 0)]) (st2 := [.int (xs 2), .int 0, .ref 1]) (w2 := (iv_wd iv_Az iv_Fz iv_Bz)) rfl ?_
          refine iv_Ecall (ν := 14) (c := 3) (as := [.ref 1, .int 0, .int (xs 2)]) (rest := []) (w2 := (iv_wd iv_Az iv_Fz iv_Bz)) (tg2 := true) (k2 := 0) (z2 := 0) (v := (some (.int ((upd (fun _ => 0) 2 255) (Int32.toNatClampNeg (0 + (xs 2))))))) rfl rfl rfl rfl rfl rfl rfl (Nat.le_of_ble_eq_true rfl) rfl ?_ ?_
          · refine iv_Gm 5 (pc2 := 13) (lv2 := [(0, .ref 1), (1, .int 0), (2, .int (xs 2))]) (st2 := [.int (xs 2), .int 0]) (w2 := (iv_wd iv_Az iv_Fz iv_Bz)) rfl ?_
            refine iv_Gcall (ν := 26) (c := 2) (as := [.int 0, .int (xs 2)]) (rest := []) (w2 := (iv_wd iv_Az iv_Fz iv_Bz)) (tg2 := true) (k2 := 0) (z2 := 0) (v := (some (.int 1))) rfl rfl rfl rfl rfl rfl rfl (Nat.le_of_ble_eq_true rfl) rfl ?_ ?_
            · refine iv_Gm 3 (pc2 := 10) (lv2 := [(0, .int 0), (1, .int (xs 2))]) (st2 := [.int (xs 2)]) (w2 := (iv_wd iv_Az iv_Fz iv_Bz)) rfl ?_
              refine iv_Gbf (c := decide ((xs 2) < 0)) (p1 := 23) (p2 := 13) (lv2 := [(0, .int 0), (1, .int (xs 2))]) (st2 := []) (w2 := (iv_wd iv_Az iv_Fz iv_Bz)) rfl (decide_eq_false h8) ?_
              refine iv_Gm 2 (pc2 := 16) (lv2 := [(0, .int 0), (1, .int (xs 2))]) (st2 := [.int 32, .int (xs 2)]) (w2 := (iv_wd iv_Az iv_Fz iv_Bz)) rfl ?_
              refine iv_Gbf (c := decide (32 ≤ (xs 2))) (p1 := 23) (p2 := 19) (lv2 := [(0, .int 0), (1, .int (xs 2))]) (st2 := []) (w2 := (iv_wd iv_Az iv_Fz iv_Bz)) rfl (decide_eq_false (Int32.not_le.mpr h9)) ?_
              refine iv_Gm 2 (pc2 := 24) (lv2 := [(0, .int 0), (1, .int (xs 2))]) (st2 := [.int 1]) (w2 := (iv_wd iv_Az iv_Fz iv_Bz)) rfl ?_
              exact iv_Gret rfl rfl rfl
            show iv_G _ _ _ _ 16 [(0, .ref 1), (1, .int 0), (2, .int (xs 2))] [.int 1] (iv_wd iv_Az iv_Fz iv_Bz) true _ _ _
            refine iv_Gm 5 (pc2 := 25) (lv2 := [(0, .ref 1), (1, .int 0), (2, .int (xs 2))]) (st2 := [.int (xs 2), .int 0, .ref 2]) (w2 := (iv_wd iv_Az iv_Fz iv_Bz)) rfl ?_
            refine iv_Gcall (ν := 62) (c := 3) (as := [.ref 2, .int 0, .int (xs 2)]) (rest := []) (w2 := (iv_wd iv_Az iv_Fz iv_Bz)) (tg2 := true) (k2 := 0) (z2 := 0) (v := (some (.int ((upd (fun _ => 0) 2 255) (Int32.toNatClampNeg (0 + (xs 2))))))) rfl rfl rfl rfl rfl rfl rfl (Nat.le_of_ble_eq_true rfl) rfl ?_ ?_
            · refine iv_Gm 7 (pc2 := 10) (lv2 := [(0, .ref 2), (1, .int 0), (2, .int (xs 2))]) (st2 := [.int (0 + (xs 2)), .ref 4]) (w2 := (iv_wd iv_Az iv_Fz iv_Bz)) rfl ?_
              refine iv_Gif (pc2 := 11) (lv2 := [(0, .ref 2), (1, .int 0), (2, .int (xs 2))]) (st2 := [.int ((upd (fun _ => 0) 2 255) (Int32.toNatClampNeg (0 + (xs 2))))]) (w2 := (iv_wd iv_Az iv_Fz iv_Bz)) rfl (iv_in_0 (iv_in_a h8 h9 (by decide) (by decide))) ?_
              exact iv_Gret rfl rfl rfl
            show iv_G _ _ _ _ 28 [(0, .ref 1), (1, .int 0), (2, .int (xs 2))] [.int ((upd (fun _ => 0) 2 255) (Int32.toNatClampNeg (0 + (xs 2))))] (iv_wd iv_Az iv_Fz iv_Bz) true _ _ _
            exact iv_Gret rfl rfl rfl
          show iv_Fin _ _ _ _ 716 [(4, .int 0), (3, .ref 65), (2, .ref 44), (1, .ref 1), (0, .ref 0)] [.int ((upd (fun _ => 0) 2 255) (Int32.toNatClampNeg (0 + (xs 2))))] (iv_wd iv_Az iv_Fz iv_Bz) true _ _
          refine iv_Em 6 (pc2 := 723) (lv2 := [(4, .int 0), (3, .ref 65), (2, .ref 44), (1, .ref 1), (0, .ref 0)]) (st2 := [.int (xs 1), .ref 44, .int ((upd (fun _ => 0) 2 255) (Int32.toNatClampNeg (0 + (xs 2))))]) (w2 := (iv_wd iv_Az iv_Fz iv_Bz)) rfl ?_
          rw [h7]
          refine iv_Em 5 (pc2 := 729) (lv2 := [(4, .int 0), (3, .ref 65), (2, .ref 44), (1, .ref 1), (0, .ref 0)]) (st2 := [.int (xs 2), .int 0, .ref 44, .int ((upd (fun _ => 0) 2 255) (Int32.toNatClampNeg (0 + (xs 2))))]) (w2 := (iv_wd iv_Az iv_Fz iv_Bz)) rfl ?_
          refine iv_Ecall (ν := 181) (c := 3) (as := [.ref 44, .int 0, .int (xs 2)]) (rest := [.int ((upd (fun _ => 0) 2 255) (Int32.toNatClampNeg (0 + (xs 2))))]) (w2 := (iv_wd iv_Az (iv_uF iv_Fz 4400 0) iv_Bz)) (tg2 := true) (k2 := 0) (z2 := 0) (v := (some (.int ((upd (fun _ => 0) 2 255) (Int32.toNatClampNeg (0 + (xs 2))))))) rfl rfl rfl rfl rfl rfl rfl (Nat.le_of_ble_eq_true rfl) rfl ?_ ?_
          · refine iv_Gm 8 (pc2 := 85) (lv2 := [(0, .ref 44), (1, .int 0), (2, .int (xs 2))]) (st2 := [.int (xs 2), .int 0]) (w2 := (iv_wd iv_Az (iv_uF iv_Fz 4400 0) iv_Bz)) rfl ?_
            refine iv_Gcall (ν := 178) (c := 2) (as := [.int 0, .int (xs 2)]) (rest := []) (w2 := (iv_wd iv_Az (iv_uF iv_Fz 4400 0) iv_Bz)) (tg2 := true) (k2 := 0) (z2 := 0) (v := (some (.int 1))) rfl rfl rfl rfl rfl rfl rfl (Nat.le_of_ble_eq_true rfl) rfl ?_ ?_
            · refine iv_Gm 6 (pc2 := 11) (lv2 := [(0, .int 0), (1, .int (xs 2))]) (st2 := [.int (xs 2)]) (w2 := (iv_wd iv_Az (iv_uF iv_Fz 4400 0) iv_Bz)) rfl ?_
              refine iv_Gbf (c := decide ((xs 2) < 0)) (p1 := 34) (p2 := 14) (lv2 := [(0, .int 0), (1, .int (xs 2))]) (st2 := []) (w2 := (iv_wd iv_Az (iv_uF iv_Fz 4400 0) iv_Bz)) rfl (decide_eq_false h8) ?_
              refine iv_Gm 6 (pc2 := 27) (lv2 := [(0, .int 0), (1, .int (xs 2))]) (st2 := [.int 32, .int (xs 2)]) (w2 := (iv_wd iv_Az (iv_uF iv_Fz 4400 0) iv_Bz)) rfl ?_
              refine iv_Gbf (c := decide (32 ≤ (xs 2))) (p1 := 34) (p2 := 30) (lv2 := [(0, .int 0), (1, .int (xs 2))]) (st2 := []) (w2 := (iv_wd iv_Az (iv_uF iv_Fz 4400 0) iv_Bz)) rfl (decide_eq_false (Int32.not_le.mpr h9)) ?_
              refine iv_Gm 2 (pc2 := 35) (lv2 := [(0, .int 0), (1, .int (xs 2))]) (st2 := [.int 1]) (w2 := (iv_wd iv_Az (iv_uF iv_Fz 4400 0) iv_Bz)) rfl ?_
              exact iv_Gret rfl rfl rfl
            show iv_G _ _ _ _ 88 [(0, .ref 44), (1, .int 0), (2, .int (xs 2))] [.int 1] (iv_wd iv_Az (iv_uF iv_Fz 4400 0) iv_Bz) true _ _ _
            refine iv_Gm 11 (pc2 := 108) (lv2 := [(0, .ref 44), (1, .int 0), (2, .int (xs 2))]) (st2 := [.int (0 + (xs 2)), .ref 46]) (w2 := (iv_wd iv_Az (iv_uF iv_Fz 4400 0) iv_Bz)) rfl ?_
            refine iv_Gif (pc2 := 109) (lv2 := [(0, .ref 44), (1, .int 0), (2, .int (xs 2))]) (st2 := [.int ((upd (fun _ => 0) 2 255) (Int32.toNatClampNeg (0 + (xs 2))))]) (w2 := (iv_wd iv_Az (iv_uF iv_Fz 4400 0) iv_Bz)) rfl (iv_in_0 (iv_in_a h8 h9 (by decide) (by decide))) ?_
            refine iv_Gm 1 (pc2 := 123) (lv2 := [(0, .ref 44), (1, .int 0), (2, .int (xs 2))]) (st2 := [.int ((upd (fun _ => 0) 2 255) (Int32.toNatClampNeg (0 + (xs 2))))]) (w2 := (iv_wd iv_Az (iv_uF iv_Fz 4400 0) iv_Bz)) rfl ?_
            exact iv_Gret rfl rfl rfl
          show iv_Fin _ _ _ _ 732 [(4, .int 0), (3, .ref 65), (2, .ref 44), (1, .ref 1), (0, .ref 0)] [.int ((upd (fun _ => 0) 2 255) (Int32.toNatClampNeg (0 + (xs 2)))), .int ((upd (fun _ => 0) 2 255) (Int32.toNatClampNeg (0 + (xs 2))))] (iv_wd iv_Az (iv_uF iv_Fz 4400 0) iv_Bz) true _ _
          refine iv_Ebt (c := decide (((upd (fun _ => 0) 2 255) (Int32.toNatClampNeg (0 + (xs 2)))) = ((upd (fun _ => 0) 2 255) (Int32.toNatClampNeg (0 + (xs 2)))))) (p1 := 781) (p2 := 735) (lv2 := [(4, .int 0), (3, .ref 65), (2, .ref 44), (1, .ref 1), (0, .ref 0)]) (st2 := []) (w2 := (iv_wd iv_Az (iv_uF iv_Fz 4400 0) iv_Bz)) rfl (decide_eq_true rfl) ?_
          refine iv_Em 9 (pc2 := 788) (lv2 := [(4, .int 6), (3, .ref 65), (2, .ref 44), (1, .ref 1), (0, .ref 0)]) (st2 := [.int 1]) (w2 := (iv_wd iv_Az (iv_uF iv_Fz 4400 0) iv_Bz)) rfl ?_
          exact iv_Eret rfl rfl rfl (by decide) (by decide)
        · refine iv_Em 11 (pc2 := 40) (lv2 := [(4, .int 0), (3, .ref 65), (2, .ref 44), (1, .ref 1), (0, .ref 0)]) (st2 := [.int ((xs 0) &&& 15)]) (w2 := (iv_wd iv_Az iv_Fz iv_Bz)) rfl ?_
          refine iv_Esw rfl rfl (show iv_sw 40 _ _ _ _ _ = some 700 by rw [h0]; rfl) ?_
          refine iv_Em 6 (pc2 := 707) (lv2 := [(4, .int 0), (3, .ref 65), (2, .ref 44), (1, .ref 1), (0, .ref 0)]) (st2 := [.int (xs 1), .ref 1]) (w2 := (iv_wd iv_Az iv_Fz iv_Bz)) rfl ?_
          rw [h7]
          refine iv_Em 5 (pc2 := 713) (lv2 := [(4, .int 0), (3, .ref 65), (2, .ref 44), (1, .ref 1), (0, .ref 0)]) (st2 := [.int (xs 2), .int 0, .ref 1]) (w2 := (iv_wd iv_Az iv_Fz iv_Bz)) rfl ?_
          refine iv_Ecall (ν := 14) (c := 3) (as := [.ref 1, .int 0, .int (xs 2)]) (rest := []) (w2 := (iv_wd iv_Az iv_Fz iv_Bz)) (tg2 := true) (k2 := 0) (z2 := 0) (v := (some (.int (-1)))) rfl rfl rfl rfl rfl rfl rfl (Nat.le_of_ble_eq_true rfl) rfl ?_ ?_
          · refine iv_Gm 5 (pc2 := 13) (lv2 := [(0, .ref 1), (1, .int 0), (2, .int (xs 2))]) (st2 := [.int (xs 2), .int 0]) (w2 := (iv_wd iv_Az iv_Fz iv_Bz)) rfl ?_
            refine iv_Gcall (ν := 26) (c := 2) (as := [.int 0, .int (xs 2)]) (rest := []) (w2 := (iv_wd iv_Az iv_Fz iv_Bz)) (tg2 := true) (k2 := 0) (z2 := 0) (v := (some (.int 0))) rfl rfl rfl rfl rfl rfl rfl (Nat.le_of_ble_eq_true rfl) rfl ?_ ?_
            · refine iv_Gm 3 (pc2 := 10) (lv2 := [(0, .int 0), (1, .int (xs 2))]) (st2 := [.int (xs 2)]) (w2 := (iv_wd iv_Az iv_Fz iv_Bz)) rfl ?_
              refine iv_Gbf (c := decide ((xs 2) < 0)) (p1 := 23) (p2 := 13) (lv2 := [(0, .int 0), (1, .int (xs 2))]) (st2 := []) (w2 := (iv_wd iv_Az iv_Fz iv_Bz)) rfl (decide_eq_false h8) ?_
              refine iv_Gm 2 (pc2 := 16) (lv2 := [(0, .int 0), (1, .int (xs 2))]) (st2 := [.int 32, .int (xs 2)]) (w2 := (iv_wd iv_Az iv_Fz iv_Bz)) rfl ?_
              refine iv_Gbt (c := decide (32 ≤ (xs 2))) (p1 := 23) (p2 := 19) (lv2 := [(0, .int 0), (1, .int (xs 2))]) (st2 := []) (w2 := (iv_wd iv_Az iv_Fz iv_Bz)) rfl (decide_eq_true (Int32.not_lt.mp h9)) ?_
              refine iv_Gm 1 (pc2 := 24) (lv2 := [(0, .int 0), (1, .int (xs 2))]) (st2 := [.int 0]) (w2 := (iv_wd iv_Az iv_Fz iv_Bz)) rfl ?_
              exact iv_Gret rfl rfl rfl
            show iv_G _ _ _ _ 16 [(0, .ref 1), (1, .int 0), (2, .int (xs 2))] [.int 0] (iv_wd iv_Az iv_Fz iv_Bz) true _ _ _
            refine iv_Gm 3 (pc2 := 31) (lv2 := [(0, .ref 1), (1, .int 0), (2, .int (xs 2))]) (st2 := [.int (xs 2), .int 0]) (w2 := (iv_wd iv_Az iv_Fz iv_Bz)) rfl ?_
            refine iv_Gcall (ν := 27) (c := 2) (as := [.int 0, .int (xs 2)]) (rest := []) (w2 := (iv_wd iv_Az iv_Fz iv_Bz)) (tg2 := true) (k2 := 0) (z2 := 0) (v := (some (.int 0))) rfl rfl rfl rfl rfl rfl rfl (Nat.le_of_ble_eq_true rfl) rfl ?_ ?_
            · exact ⟨12, rfl⟩
            show iv_G _ _ _ _ 34 [(0, .ref 1), (1, .int 0), (2, .int (xs 2))] [.int 0] (iv_wd iv_Az iv_Fz iv_Bz) true _ _ _
            refine iv_Gm 2 (pc2 := 50) (lv2 := [(0, .ref 1), (1, .int 0), (2, .int (xs 2))]) (st2 := [.int (-1)]) (w2 := (iv_wd iv_Az iv_Fz iv_Bz)) rfl ?_
            exact iv_Gret rfl rfl rfl
          show iv_Fin _ _ _ _ 716 [(4, .int 0), (3, .ref 65), (2, .ref 44), (1, .ref 1), (0, .ref 0)] [.int (-1)] (iv_wd iv_Az iv_Fz iv_Bz) true _ _
          refine iv_Em 6 (pc2 := 723) (lv2 := [(4, .int 0), (3, .ref 65), (2, .ref 44), (1, .ref 1), (0, .ref 0)]) (st2 := [.int (xs 1), .ref 44, .int (-1)]) (w2 := (iv_wd iv_Az iv_Fz iv_Bz)) rfl ?_
          rw [h7]
          refine iv_Em 5 (pc2 := 729) (lv2 := [(4, .int 0), (3, .ref 65), (2, .ref 44), (1, .ref 1), (0, .ref 0)]) (st2 := [.int (xs 2), .int 0, .ref 44, .int (-1)]) (w2 := (iv_wd iv_Az iv_Fz iv_Bz)) rfl ?_
          refine iv_Ecall (ν := 181) (c := 3) (as := [.ref 44, .int 0, .int (xs 2)]) (rest := [.int (-1)]) (w2 := (iv_wd iv_Az (iv_uF iv_Fz 4400 0) iv_Bz)) (tg2 := true) (k2 := 0) (z2 := 0) (v := (some (.int (-1)))) rfl rfl rfl rfl rfl rfl rfl (Nat.le_of_ble_eq_true rfl) rfl ?_ ?_
          · refine iv_Gm 8 (pc2 := 85) (lv2 := [(0, .ref 44), (1, .int 0), (2, .int (xs 2))]) (st2 := [.int (xs 2), .int 0]) (w2 := (iv_wd iv_Az (iv_uF iv_Fz 4400 0) iv_Bz)) rfl ?_
            refine iv_Gcall (ν := 178) (c := 2) (as := [.int 0, .int (xs 2)]) (rest := []) (w2 := (iv_wd iv_Az (iv_uF iv_Fz 4400 0) iv_Bz)) (tg2 := true) (k2 := 0) (z2 := 0) (v := (some (.int 0))) rfl rfl rfl rfl rfl rfl rfl (Nat.le_of_ble_eq_true rfl) rfl ?_ ?_
            · refine iv_Gm 6 (pc2 := 11) (lv2 := [(0, .int 0), (1, .int (xs 2))]) (st2 := [.int (xs 2)]) (w2 := (iv_wd iv_Az (iv_uF iv_Fz 4400 0) iv_Bz)) rfl ?_
              refine iv_Gbf (c := decide ((xs 2) < 0)) (p1 := 34) (p2 := 14) (lv2 := [(0, .int 0), (1, .int (xs 2))]) (st2 := []) (w2 := (iv_wd iv_Az (iv_uF iv_Fz 4400 0) iv_Bz)) rfl (decide_eq_false h8) ?_
              refine iv_Gm 6 (pc2 := 27) (lv2 := [(0, .int 0), (1, .int (xs 2))]) (st2 := [.int 32, .int (xs 2)]) (w2 := (iv_wd iv_Az (iv_uF iv_Fz 4400 0) iv_Bz)) rfl ?_
              refine iv_Gbt (c := decide (32 ≤ (xs 2))) (p1 := 34) (p2 := 30) (lv2 := [(0, .int 0), (1, .int (xs 2))]) (st2 := []) (w2 := (iv_wd iv_Az (iv_uF iv_Fz 4400 0) iv_Bz)) rfl (decide_eq_true (Int32.not_lt.mp h9)) ?_
              refine iv_Gm 1 (pc2 := 35) (lv2 := [(0, .int 0), (1, .int (xs 2))]) (st2 := [.int 0]) (w2 := (iv_wd iv_Az (iv_uF iv_Fz 4400 0) iv_Bz)) rfl ?_
              exact iv_Gret rfl rfl rfl
            show iv_G _ _ _ _ 88 [(0, .ref 44), (1, .int 0), (2, .int (xs 2))] [.int 0] (iv_wd iv_Az (iv_uF iv_Fz 4400 0) iv_Bz) true _ _ _
            refine iv_Gm 2 (pc2 := 92) (lv2 := [(0, .ref 44), (1, .int 0), (2, .int (xs 2))]) (st2 := [.int (-1)]) (w2 := (iv_wd iv_Az (iv_uF iv_Fz 4400 0) iv_Bz)) rfl ?_
            exact iv_Gret rfl rfl rfl
          show iv_Fin _ _ _ _ 732 [(4, .int 0), (3, .ref 65), (2, .ref 44), (1, .ref 1), (0, .ref 0)] [.int (-1), .int (-1)] (iv_wd iv_Az (iv_uF iv_Fz 4400 0) iv_Bz) true _ _
          refine iv_Em 10 (pc2 := 788) (lv2 := [(4, .int 6), (3, .ref 65), (2, .ref 44), (1, .ref 1), (0, .ref 0)]) (st2 := [.int 1]) (w2 := (iv_wd iv_Az (iv_uF iv_Fz 4400 0) iv_Bz)) rfl ?_
          exact iv_Eret rfl rfl rfl (by decide) (by decide)
    · by_cases h10 : (xs 1) = 1
      · by_cases h11 : (xs 2) < 0
        · refine iv_Em 11 (pc2 := 40) (lv2 := [(4, .int 0), (3, .ref 65), (2, .ref 44), (1, .ref 1), (0, .ref 0)]) (st2 := [.int ((xs 0) &&& 15)]) (w2 := (iv_wd iv_Az iv_Fz iv_Bz)) rfl ?_
          refine iv_Esw rfl rfl (show iv_sw 40 _ _ _ _ _ = some 700 by rw [h0]; rfl) ?_
          refine iv_Em 6 (pc2 := 707) (lv2 := [(4, .int 0), (3, .ref 65), (2, .ref 44), (1, .ref 1), (0, .ref 0)]) (st2 := [.int (xs 1), .ref 1]) (w2 := (iv_wd iv_Az iv_Fz iv_Bz)) rfl ?_
          rw [h10]
          refine iv_Em 5 (pc2 := 713) (lv2 := [(4, .int 0), (3, .ref 65), (2, .ref 44), (1, .ref 1), (0, .ref 0)]) (st2 := [.int (xs 2), .int 1, .ref 1]) (w2 := (iv_wd iv_Az iv_Fz iv_Bz)) rfl ?_
          refine iv_Ecall (ν := 14) (c := 3) (as := [.ref 1, .int 1, .int (xs 2)]) (rest := []) (w2 := (iv_wd iv_Az iv_Fz iv_Bz)) (tg2 := true) (k2 := 0) (z2 := 0) (v := (some (.int (-1)))) rfl rfl rfl rfl rfl rfl rfl (Nat.le_of_ble_eq_true rfl) rfl ?_ ?_
          · refine iv_Gm 5 (pc2 := 13) (lv2 := [(0, .ref 1), (1, .int 1), (2, .int (xs 2))]) (st2 := [.int (xs 2), .int 1]) (w2 := (iv_wd iv_Az iv_Fz iv_Bz)) rfl ?_
            refine iv_Gcall (ν := 26) (c := 2) (as := [.int 1, .int (xs 2)]) (rest := []) (w2 := (iv_wd iv_Az iv_Fz iv_Bz)) (tg2 := true) (k2 := 0) (z2 := 0) (v := (some (.int 0))) rfl rfl rfl rfl rfl rfl rfl (Nat.le_of_ble_eq_true rfl) rfl ?_ ?_
            · refine iv_Gm 6 (pc2 := 10) (lv2 := [(0, .int 1), (1, .int (xs 2))]) (st2 := [.int (xs 2)]) (w2 := (iv_wd iv_Az iv_Fz iv_Bz)) rfl ?_
              refine iv_Gbt (c := decide ((xs 2) < 0)) (p1 := 23) (p2 := 13) (lv2 := [(0, .int 1), (1, .int (xs 2))]) (st2 := []) (w2 := (iv_wd iv_Az iv_Fz iv_Bz)) rfl (decide_eq_true h11) ?_
              refine iv_Gm 1 (pc2 := 24) (lv2 := [(0, .int 1), (1, .int (xs 2))]) (st2 := [.int 0]) (w2 := (iv_wd iv_Az iv_Fz iv_Bz)) rfl ?_
              exact iv_Gret rfl rfl rfl
            show iv_G _ _ _ _ 16 [(0, .ref 1), (1, .int 1), (2, .int (xs 2))] [.int 0] (iv_wd iv_Az iv_Fz iv_Bz) true _ _ _
            refine iv_Gm 3 (pc2 := 31) (lv2 := [(0, .ref 1), (1, .int 1), (2, .int (xs 2))]) (st2 := [.int (xs 2), .int 1]) (w2 := (iv_wd iv_Az iv_Fz iv_Bz)) rfl ?_
            refine iv_Gcall (ν := 27) (c := 2) (as := [.int 1, .int (xs 2)]) (rest := []) (w2 := (iv_wd iv_Az iv_Fz iv_Bz)) (tg2 := true) (k2 := 0) (z2 := 0) (v := (some (.int 0))) rfl rfl rfl rfl rfl rfl rfl (Nat.le_of_ble_eq_true rfl) rfl ?_ ?_
            · exact ⟨12, rfl⟩
            show iv_G _ _ _ _ 34 [(0, .ref 1), (1, .int 1), (2, .int (xs 2))] [.int 0] (iv_wd iv_Az iv_Fz iv_Bz) true _ _ _
            refine iv_Gm 2 (pc2 := 50) (lv2 := [(0, .ref 1), (1, .int 1), (2, .int (xs 2))]) (st2 := [.int (-1)]) (w2 := (iv_wd iv_Az iv_Fz iv_Bz)) rfl ?_
            exact iv_Gret rfl rfl rfl
          show iv_Fin _ _ _ _ 716 [(4, .int 0), (3, .ref 65), (2, .ref 44), (1, .ref 1), (0, .ref 0)] [.int (-1)] (iv_wd iv_Az iv_Fz iv_Bz) true _ _
          refine iv_Em 6 (pc2 := 723) (lv2 := [(4, .int 0), (3, .ref 65), (2, .ref 44), (1, .ref 1), (0, .ref 0)]) (st2 := [.int (xs 1), .ref 44, .int (-1)]) (w2 := (iv_wd iv_Az iv_Fz iv_Bz)) rfl ?_
          rw [h10]
          refine iv_Em 5 (pc2 := 729) (lv2 := [(4, .int 0), (3, .ref 65), (2, .ref 44), (1, .ref 1), (0, .ref 0)]) (st2 := [.int (xs 2), .int 1, .ref 44, .int (-1)]) (w2 := (iv_wd iv_Az iv_Fz iv_Bz)) rfl ?_
          refine iv_Ecall (ν := 181) (c := 3) (as := [.ref 44, .int 1, .int (xs 2)]) (rest := [.int (-1)]) (w2 := (iv_wd iv_Az (iv_uF iv_Fz 4400 0) iv_Bz)) (tg2 := true) (k2 := 0) (z2 := 0) (v := (some (.int (-1)))) rfl rfl rfl rfl rfl rfl rfl (Nat.le_of_ble_eq_true rfl) rfl ?_ ?_
          · refine iv_Gm 8 (pc2 := 85) (lv2 := [(0, .ref 44), (1, .int 1), (2, .int (xs 2))]) (st2 := [.int (xs 2), .int 1]) (w2 := (iv_wd iv_Az (iv_uF iv_Fz 4400 0) iv_Bz)) rfl ?_
            refine iv_Gcall (ν := 178) (c := 2) (as := [.int 1, .int (xs 2)]) (rest := []) (w2 := (iv_wd iv_Az (iv_uF iv_Fz 4400 0) iv_Bz)) (tg2 := true) (k2 := 0) (z2 := 0) (v := (some (.int 0))) rfl rfl rfl rfl rfl rfl rfl (Nat.le_of_ble_eq_true rfl) rfl ?_ ?_
            · refine iv_Gm 6 (pc2 := 11) (lv2 := [(0, .int 1), (1, .int (xs 2))]) (st2 := [.int (xs 2)]) (w2 := (iv_wd iv_Az (iv_uF iv_Fz 4400 0) iv_Bz)) rfl ?_
              refine iv_Gbt (c := decide ((xs 2) < 0)) (p1 := 34) (p2 := 14) (lv2 := [(0, .int 1), (1, .int (xs 2))]) (st2 := []) (w2 := (iv_wd iv_Az (iv_uF iv_Fz 4400 0) iv_Bz)) rfl (decide_eq_true h11) ?_
              refine iv_Gm 1 (pc2 := 35) (lv2 := [(0, .int 1), (1, .int (xs 2))]) (st2 := [.int 0]) (w2 := (iv_wd iv_Az (iv_uF iv_Fz 4400 0) iv_Bz)) rfl ?_
              exact iv_Gret rfl rfl rfl
            show iv_G _ _ _ _ 88 [(0, .ref 44), (1, .int 1), (2, .int (xs 2))] [.int 0] (iv_wd iv_Az (iv_uF iv_Fz 4400 0) iv_Bz) true _ _ _
            refine iv_Gm 2 (pc2 := 92) (lv2 := [(0, .ref 44), (1, .int 1), (2, .int (xs 2))]) (st2 := [.int (-1)]) (w2 := (iv_wd iv_Az (iv_uF iv_Fz 4400 0) iv_Bz)) rfl ?_
            exact iv_Gret rfl rfl rfl
          show iv_Fin _ _ _ _ 732 [(4, .int 0), (3, .ref 65), (2, .ref 44), (1, .ref 1), (0, .ref 0)] [.int (-1), .int (-1)] (iv_wd iv_Az (iv_uF iv_Fz 4400 0) iv_Bz) true _ _
          refine iv_Em 10 (pc2 := 788) (lv2 := [(4, .int 6), (3, .ref 65), (2, .ref 44), (1, .ref 1), (0, .ref 0)]) (st2 := [.int 1]) (w2 := (iv_wd iv_Az (iv_uF iv_Fz 4400 0) iv_Bz)) rfl ?_
          exact iv_Eret rfl rfl rfl (by decide) (by decide)
        · by_cases h12 : (xs 2) < 32
          · refine iv_Em 11 (pc2 := 40) (lv2 := [(4, .int 0), (3, .ref 65), (2, .ref 44), (1, .ref 1), (0, .ref 0)]) (st2 := [.int ((xs 0) &&& 15)]) (w2 := (iv_wd iv_Az iv_Fz iv_Bz)) rfl ?_
            refine iv_Esw rfl rfl (show iv_sw 40 _ _ _ _ _ = some 700 by rw [h0]; rfl) ?_
            refine iv_Em 6 (pc2 := 707) (lv2 := [(4, .int 0), (3, .ref 65), (2, .ref 44), (1, .ref 1), (0, .ref 0)]) (st2 := [.int (xs 1), .ref 1]) (w2 := (iv_wd iv_Az iv_Fz iv_Bz)) rfl ?_
            rw [h10]
            refine iv_Em 5 (pc2 := 713) (lv2 := [(4, .int 0), (3, .ref 65), (2, .ref 44), (1, .ref 1), (0, .ref 0)]) (st2 := [.int (xs 2), .int 1, .ref 1]) (w2 := (iv_wd iv_Az iv_Fz iv_Bz)) rfl ?_
            refine iv_Ecall (ν := 14) (c := 3) (as := [.ref 1, .int 1, .int (xs 2)]) (rest := []) (w2 := (iv_wd iv_Az iv_Fz iv_Bz)) (tg2 := true) (k2 := 0) (z2 := 0) (v := (some (.int ((upd (fun _ => 0) 2 255) (Int32.toNatClampNeg (32 + (xs 2))))))) rfl rfl rfl rfl rfl rfl rfl (Nat.le_of_ble_eq_true rfl) rfl ?_ ?_
            · refine iv_Gm 5 (pc2 := 13) (lv2 := [(0, .ref 1), (1, .int 1), (2, .int (xs 2))]) (st2 := [.int (xs 2), .int 1]) (w2 := (iv_wd iv_Az iv_Fz iv_Bz)) rfl ?_
              refine iv_Gcall (ν := 26) (c := 2) (as := [.int 1, .int (xs 2)]) (rest := []) (w2 := (iv_wd iv_Az iv_Fz iv_Bz)) (tg2 := true) (k2 := 0) (z2 := 0) (v := (some (.int 1))) rfl rfl rfl rfl rfl rfl rfl (Nat.le_of_ble_eq_true rfl) rfl ?_ ?_
              · refine iv_Gm 6 (pc2 := 10) (lv2 := [(0, .int 1), (1, .int (xs 2))]) (st2 := [.int (xs 2)]) (w2 := (iv_wd iv_Az iv_Fz iv_Bz)) rfl ?_
                refine iv_Gbf (c := decide ((xs 2) < 0)) (p1 := 23) (p2 := 13) (lv2 := [(0, .int 1), (1, .int (xs 2))]) (st2 := []) (w2 := (iv_wd iv_Az iv_Fz iv_Bz)) rfl (decide_eq_false h11) ?_
                refine iv_Gm 2 (pc2 := 16) (lv2 := [(0, .int 1), (1, .int (xs 2))]) (st2 := [.int 32, .int (xs 2)]) (w2 := (iv_wd iv_Az iv_Fz iv_Bz)) rfl ?_
                refine iv_Gbf (c := decide (32 ≤ (xs 2))) (p1 := 23) (p2 := 19) (lv2 := [(0, .int 1), (1, .int (xs 2))]) (st2 := []) (w2 := (iv_wd iv_Az iv_Fz iv_Bz)) rfl (decide_eq_false (Int32.not_le.mpr h12)) ?_
                refine iv_Gm 2 (pc2 := 24) (lv2 := [(0, .int 1), (1, .int (xs 2))]) (st2 := [.int 1]) (w2 := (iv_wd iv_Az iv_Fz iv_Bz)) rfl ?_
                exact iv_Gret rfl rfl rfl
              show iv_G _ _ _ _ 16 [(0, .ref 1), (1, .int 1), (2, .int (xs 2))] [.int 1] (iv_wd iv_Az iv_Fz iv_Bz) true _ _ _
              refine iv_Gm 5 (pc2 := 25) (lv2 := [(0, .ref 1), (1, .int 1), (2, .int (xs 2))]) (st2 := [.int (xs 2), .int 1, .ref 2]) (w2 := (iv_wd iv_Az iv_Fz iv_Bz)) rfl ?_
              refine iv_Gcall (ν := 62) (c := 3) (as := [.ref 2, .int 1, .int (xs 2)]) (rest := []) (w2 := (iv_wd iv_Az iv_Fz iv_Bz)) (tg2 := true) (k2 := 0) (z2 := 0) (v := (some (.int ((upd (fun _ => 0) 2 255) (Int32.toNatClampNeg (32 + (xs 2))))))) rfl rfl rfl rfl rfl rfl rfl (Nat.le_of_ble_eq_true rfl) rfl ?_ ?_
              · refine iv_Gm 7 (pc2 := 10) (lv2 := [(0, .ref 2), (1, .int 1), (2, .int (xs 2))]) (st2 := [.int (32 + (xs 2)), .ref 4]) (w2 := (iv_wd iv_Az iv_Fz iv_Bz)) rfl ?_
                refine iv_Gif (pc2 := 11) (lv2 := [(0, .ref 2), (1, .int 1), (2, .int (xs 2))]) (st2 := [.int ((upd (fun _ => 0) 2 255) (Int32.toNatClampNeg (32 + (xs 2))))]) (w2 := (iv_wd iv_Az iv_Fz iv_Bz)) rfl (iv_in_32 h11 h12) ?_
                exact iv_Gret rfl rfl rfl
              show iv_G _ _ _ _ 28 [(0, .ref 1), (1, .int 1), (2, .int (xs 2))] [.int ((upd (fun _ => 0) 2 255) (Int32.toNatClampNeg (32 + (xs 2))))] (iv_wd iv_Az iv_Fz iv_Bz) true _ _ _
              exact iv_Gret rfl rfl rfl
            show iv_Fin _ _ _ _ 716 [(4, .int 0), (3, .ref 65), (2, .ref 44), (1, .ref 1), (0, .ref 0)] [.int ((upd (fun _ => 0) 2 255) (Int32.toNatClampNeg (32 + (xs 2))))] (iv_wd iv_Az iv_Fz iv_Bz) true _ _
            refine iv_Em 6 (pc2 := 723) (lv2 := [(4, .int 0), (3, .ref 65), (2, .ref 44), (1, .ref 1), (0, .ref 0)]) (st2 := [.int (xs 1), .ref 44, .int ((upd (fun _ => 0) 2 255) (Int32.toNatClampNeg (32 + (xs 2))))]) (w2 := (iv_wd iv_Az iv_Fz iv_Bz)) rfl ?_
            rw [h10]
            refine iv_Em 5 (pc2 := 729) (lv2 := [(4, .int 0), (3, .ref 65), (2, .ref 44), (1, .ref 1), (0, .ref 0)]) (st2 := [.int (xs 2), .int 1, .ref 44, .int ((upd (fun _ => 0) 2 255) (Int32.toNatClampNeg (32 + (xs 2))))]) (w2 := (iv_wd iv_Az iv_Fz iv_Bz)) rfl ?_
            refine iv_Ecall (ν := 181) (c := 3) (as := [.ref 44, .int 1, .int (xs 2)]) (rest := [.int ((upd (fun _ => 0) 2 255) (Int32.toNatClampNeg (32 + (xs 2))))]) (w2 := (iv_wd iv_Az (iv_uF iv_Fz 4400 0) iv_Bz)) (tg2 := true) (k2 := 0) (z2 := 0) (v := (some (.int ((upd (fun _ => 0) 2 255) (Int32.toNatClampNeg (32 + (xs 2))))))) rfl rfl rfl rfl rfl rfl rfl (Nat.le_of_ble_eq_true rfl) rfl ?_ ?_
            · refine iv_Gm 8 (pc2 := 85) (lv2 := [(0, .ref 44), (1, .int 1), (2, .int (xs 2))]) (st2 := [.int (xs 2), .int 1]) (w2 := (iv_wd iv_Az (iv_uF iv_Fz 4400 0) iv_Bz)) rfl ?_
              refine iv_Gcall (ν := 178) (c := 2) (as := [.int 1, .int (xs 2)]) (rest := []) (w2 := (iv_wd iv_Az (iv_uF iv_Fz 4400 0) iv_Bz)) (tg2 := true) (k2 := 0) (z2 := 0) (v := (some (.int 1))) rfl rfl rfl rfl rfl rfl rfl (Nat.le_of_ble_eq_true rfl) rfl ?_ ?_
              · refine iv_Gm 6 (pc2 := 11) (lv2 := [(0, .int 1), (1, .int (xs 2))]) (st2 := [.int (xs 2)]) (w2 := (iv_wd iv_Az (iv_uF iv_Fz 4400 0) iv_Bz)) rfl ?_
                refine iv_Gbf (c := decide ((xs 2) < 0)) (p1 := 34) (p2 := 14) (lv2 := [(0, .int 1), (1, .int (xs 2))]) (st2 := []) (w2 := (iv_wd iv_Az (iv_uF iv_Fz 4400 0) iv_Bz)) rfl (decide_eq_false h11) ?_
                refine iv_Gm 6 (pc2 := 27) (lv2 := [(0, .int 1), (1, .int (xs 2))]) (st2 := [.int 32, .int (xs 2)]) (w2 := (iv_wd iv_Az (iv_uF iv_Fz 4400 0) iv_Bz)) rfl ?_
                refine iv_Gbf (c := decide (32 ≤ (xs 2))) (p1 := 34) (p2 := 30) (lv2 := [(0, .int 1), (1, .int (xs 2))]) (st2 := []) (w2 := (iv_wd iv_Az (iv_uF iv_Fz 4400 0) iv_Bz)) rfl (decide_eq_false (Int32.not_le.mpr h12)) ?_
                refine iv_Gm 2 (pc2 := 35) (lv2 := [(0, .int 1), (1, .int (xs 2))]) (st2 := [.int 1]) (w2 := (iv_wd iv_Az (iv_uF iv_Fz 4400 0) iv_Bz)) rfl ?_
                exact iv_Gret rfl rfl rfl
              show iv_G _ _ _ _ 88 [(0, .ref 44), (1, .int 1), (2, .int (xs 2))] [.int 1] (iv_wd iv_Az (iv_uF iv_Fz 4400 0) iv_Bz) true _ _ _
              refine iv_Gm 11 (pc2 := 108) (lv2 := [(0, .ref 44), (1, .int 1), (2, .int (xs 2))]) (st2 := [.int (32 + (xs 2)), .ref 46]) (w2 := (iv_wd iv_Az (iv_uF iv_Fz 4400 0) iv_Bz)) rfl ?_
              refine iv_Gif (pc2 := 109) (lv2 := [(0, .ref 44), (1, .int 1), (2, .int (xs 2))]) (st2 := [.int ((upd (fun _ => 0) 2 255) (Int32.toNatClampNeg (32 + (xs 2))))]) (w2 := (iv_wd iv_Az (iv_uF iv_Fz 4400 0) iv_Bz)) rfl (iv_in_32 h11 h12) ?_
              refine iv_Gm 1 (pc2 := 123) (lv2 := [(0, .ref 44), (1, .int 1), (2, .int (xs 2))]) (st2 := [.int ((upd (fun _ => 0) 2 255) (Int32.toNatClampNeg (32 + (xs 2))))]) (w2 := (iv_wd iv_Az (iv_uF iv_Fz 4400 0) iv_Bz)) rfl ?_
              exact iv_Gret rfl rfl rfl
            show iv_Fin _ _ _ _ 732 [(4, .int 0), (3, .ref 65), (2, .ref 44), (1, .ref 1), (0, .ref 0)] [.int ((upd (fun _ => 0) 2 255) (Int32.toNatClampNeg (32 + (xs 2)))), .int ((upd (fun _ => 0) 2 255) (Int32.toNatClampNeg (32 + (xs 2))))] (iv_wd iv_Az (iv_uF iv_Fz 4400 0) iv_Bz) true _ _
            refine iv_Ebt (c := decide (((upd (fun _ => 0) 2 255) (Int32.toNatClampNeg (32 + (xs 2)))) = ((upd (fun _ => 0) 2 255) (Int32.toNatClampNeg (32 + (xs 2)))))) (p1 := 781) (p2 := 735) (lv2 := [(4, .int 0), (3, .ref 65), (2, .ref 44), (1, .ref 1), (0, .ref 0)]) (st2 := []) (w2 := (iv_wd iv_Az (iv_uF iv_Fz 4400 0) iv_Bz)) rfl (decide_eq_true rfl) ?_
            refine iv_Em 9 (pc2 := 788) (lv2 := [(4, .int 6), (3, .ref 65), (2, .ref 44), (1, .ref 1), (0, .ref 0)]) (st2 := [.int 1]) (w2 := (iv_wd iv_Az (iv_uF iv_Fz 4400 0) iv_Bz)) rfl ?_
            exact iv_Eret rfl rfl rfl (by decide) (by decide)
          · refine iv_Em 11 (pc2 := 40) (lv2 := [(4, .int 0), (3, .ref 65), (2, .ref 44), (1, .ref 1), (0, .ref 0)]) (st2 := [.int ((xs 0) &&& 15)]) (w2 := (iv_wd iv_Az iv_Fz iv_Bz)) rfl ?_
            refine iv_Esw rfl rfl (show iv_sw 40 _ _ _ _ _ = some 700 by rw [h0]; rfl) ?_
            refine iv_Em 6 (pc2 := 707) (lv2 := [(4, .int 0), (3, .ref 65), (2, .ref 44), (1, .ref 1), (0, .ref 0)]) (st2 := [.int (xs 1), .ref 1]) (w2 := (iv_wd iv_Az iv_Fz iv_Bz)) rfl ?_
            rw [h10]
            refine iv_Em 5 (pc2 := 713) (lv2 := [(4, .int 0), (3, .ref 65), (2, .ref 44), (1, .ref 1), (0, .ref 0)]) (st2 := [.int (xs 2), .int 1, .ref 1]) (w2 := (iv_wd iv_Az iv_Fz iv_Bz)) rfl ?_
            refine iv_Ecall (ν := 14) (c := 3) (as := [.ref 1, .int 1, .int (xs 2)]) (rest := []) (w2 := (iv_wd iv_Az iv_Fz iv_Bz)) (tg2 := true) (k2 := 0) (z2 := 0) (v := (some (.int (-1)))) rfl rfl rfl rfl rfl rfl rfl (Nat.le_of_ble_eq_true rfl) rfl ?_ ?_
            · refine iv_Gm 5 (pc2 := 13) (lv2 := [(0, .ref 1), (1, .int 1), (2, .int (xs 2))]) (st2 := [.int (xs 2), .int 1]) (w2 := (iv_wd iv_Az iv_Fz iv_Bz)) rfl ?_
              refine iv_Gcall (ν := 26) (c := 2) (as := [.int 1, .int (xs 2)]) (rest := []) (w2 := (iv_wd iv_Az iv_Fz iv_Bz)) (tg2 := true) (k2 := 0) (z2 := 0) (v := (some (.int 0))) rfl rfl rfl rfl rfl rfl rfl (Nat.le_of_ble_eq_true rfl) rfl ?_ ?_
              · refine iv_Gm 6 (pc2 := 10) (lv2 := [(0, .int 1), (1, .int (xs 2))]) (st2 := [.int (xs 2)]) (w2 := (iv_wd iv_Az iv_Fz iv_Bz)) rfl ?_
                refine iv_Gbf (c := decide ((xs 2) < 0)) (p1 := 23) (p2 := 13) (lv2 := [(0, .int 1), (1, .int (xs 2))]) (st2 := []) (w2 := (iv_wd iv_Az iv_Fz iv_Bz)) rfl (decide_eq_false h11) ?_
                refine iv_Gm 2 (pc2 := 16) (lv2 := [(0, .int 1), (1, .int (xs 2))]) (st2 := [.int 32, .int (xs 2)]) (w2 := (iv_wd iv_Az iv_Fz iv_Bz)) rfl ?_
                refine iv_Gbt (c := decide (32 ≤ (xs 2))) (p1 := 23) (p2 := 19) (lv2 := [(0, .int 1), (1, .int (xs 2))]) (st2 := []) (w2 := (iv_wd iv_Az iv_Fz iv_Bz)) rfl (decide_eq_true (Int32.not_lt.mp h12)) ?_
                refine iv_Gm 1 (pc2 := 24) (lv2 := [(0, .int 1), (1, .int (xs 2))]) (st2 := [.int 0]) (w2 := (iv_wd iv_Az iv_Fz iv_Bz)) rfl ?_
                exact iv_Gret rfl rfl rfl
              show iv_G _ _ _ _ 16 [(0, .ref 1), (1, .int 1), (2, .int (xs 2))] [.int 0] (iv_wd iv_Az iv_Fz iv_Bz) true _ _ _
              refine iv_Gm 3 (pc2 := 31) (lv2 := [(0, .ref 1), (1, .int 1), (2, .int (xs 2))]) (st2 := [.int (xs 2), .int 1]) (w2 := (iv_wd iv_Az iv_Fz iv_Bz)) rfl ?_
              refine iv_Gcall (ν := 27) (c := 2) (as := [.int 1, .int (xs 2)]) (rest := []) (w2 := (iv_wd iv_Az iv_Fz iv_Bz)) (tg2 := true) (k2 := 0) (z2 := 0) (v := (some (.int 0))) rfl rfl rfl rfl rfl rfl rfl (Nat.le_of_ble_eq_true rfl) rfl ?_ ?_
              · exact ⟨12, rfl⟩
              show iv_G _ _ _ _ 34 [(0, .ref 1), (1, .int 1), (2, .int (xs 2))] [.int 0] (iv_wd iv_Az iv_Fz iv_Bz) true _ _ _
              refine iv_Gm 2 (pc2 := 50) (lv2 := [(0, .ref 1), (1, .int 1), (2, .int (xs 2))]) (st2 := [.int (-1)]) (w2 := (iv_wd iv_Az iv_Fz iv_Bz)) rfl ?_
              exact iv_Gret rfl rfl rfl
            show iv_Fin _ _ _ _ 716 [(4, .int 0), (3, .ref 65), (2, .ref 44), (1, .ref 1), (0, .ref 0)] [.int (-1)] (iv_wd iv_Az iv_Fz iv_Bz) true _ _
            refine iv_Em 6 (pc2 := 723) (lv2 := [(4, .int 0), (3, .ref 65), (2, .ref 44), (1, .ref 1), (0, .ref 0)]) (st2 := [.int (xs 1), .ref 44, .int (-1)]) (w2 := (iv_wd iv_Az iv_Fz iv_Bz)) rfl ?_
            rw [h10]
            refine iv_Em 5 (pc2 := 729) (lv2 := [(4, .int 0), (3, .ref 65), (2, .ref 44), (1, .ref 1), (0, .ref 0)]) (st2 := [.int (xs 2), .int 1, .ref 44, .int (-1)]) (w2 := (iv_wd iv_Az iv_Fz iv_Bz)) rfl ?_
            refine iv_Ecall (ν := 181) (c := 3) (as := [.ref 44, .int 1, .int (xs 2)]) (rest := [.int (-1)]) (w2 := (iv_wd iv_Az (iv_uF iv_Fz 4400 0) iv_Bz)) (tg2 := true) (k2 := 0) (z2 := 0) (v := (some (.int (-1)))) rfl rfl rfl rfl rfl rfl rfl (Nat.le_of_ble_eq_true rfl) rfl ?_ ?_
            · refine iv_Gm 8 (pc2 := 85) (lv2 := [(0, .ref 44), (1, .int 1), (2, .int (xs 2))]) (st2 := [.int (xs 2), .int 1]) (w2 := (iv_wd iv_Az (iv_uF iv_Fz 4400 0) iv_Bz)) rfl ?_
              refine iv_Gcall (ν := 178) (c := 2) (as := [.int 1, .int (xs 2)]) (rest := []) (w2 := (iv_wd iv_Az (iv_uF iv_Fz 4400 0) iv_Bz)) (tg2 := true) (k2 := 0) (z2 := 0) (v := (some (.int 0))) rfl rfl rfl rfl rfl rfl rfl (Nat.le_of_ble_eq_true rfl) rfl ?_ ?_
              · refine iv_Gm 6 (pc2 := 11) (lv2 := [(0, .int 1), (1, .int (xs 2))]) (st2 := [.int (xs 2)]) (w2 := (iv_wd iv_Az (iv_uF iv_Fz 4400 0) iv_Bz)) rfl ?_
                refine iv_Gbf (c := decide ((xs 2) < 0)) (p1 := 34) (p2 := 14) (lv2 := [(0, .int 1), (1, .int (xs 2))]) (st2 := []) (w2 := (iv_wd iv_Az (iv_uF iv_Fz 4400 0) iv_Bz)) rfl (decide_eq_false h11) ?_
                refine iv_Gm 6 (pc2 := 27) (lv2 := [(0, .int 1), (1, .int (xs 2))]) (st2 := [.int 32, .int (xs 2)]) (w2 := (iv_wd iv_Az (iv_uF iv_Fz 4400 0) iv_Bz)) rfl ?_
                refine iv_Gbt (c := decide (32 ≤ (xs 2))) (p1 := 34) (p2 := 30) (lv2 := [(0, .int 1), (1, .int (xs 2))]) (st2 := []) (w2 := (iv_wd iv_Az (iv_uF iv_Fz 4400 0) iv_Bz)) rfl (decide_eq_true (Int32.not_lt.mp h12)) ?_
                refine iv_Gm 1 (pc2 := 35) (lv2 := [(0, .int 1), (1, .int (xs 2))]) (st2 := [.int 0]) (w2 := (iv_wd iv_Az (iv_uF iv_Fz 4400 0) iv_Bz)) rfl ?_
                exact iv_Gret rfl rfl rfl
              show iv_G _ _ _ _ 88 [(0, .ref 44), (1, .int 1), (2, .int (xs 2))] [.int 0] (iv_wd iv_Az (iv_uF iv_Fz 4400 0) iv_Bz) true _ _ _
              refine iv_Gm 2 (pc2 := 92) (lv2 := [(0, .ref 44), (1, .int 1), (2, .int (xs 2))]) (st2 := [.int (-1)]) (w2 := (iv_wd iv_Az (iv_uF iv_Fz 4400 0) iv_Bz)) rfl ?_
              exact iv_Gret rfl rfl rfl
            show iv_Fin _ _ _ _ 732 [(4, .int 0), (3, .ref 65), (2, .ref 44), (1, .ref 1), (0, .ref 0)] [.int (-1), .int (-1)] (iv_wd iv_Az (iv_uF iv_Fz 4400 0) iv_Bz) true _ _
            refine iv_Em 10 (pc2 := 788) (lv2 := [(4, .int 6), (3, .ref 65), (2, .ref 44), (1, .ref 1), (0, .ref 0)]) (st2 := [.int 1]) (w2 := (iv_wd iv_Az (iv_uF iv_Fz 4400 0) iv_Bz)) rfl ?_
            exact iv_Eret rfl rfl rfl (by decide) (by decide)
      · by_cases h13 : (xs 1) < 2
        · by_cases h14 : (xs 1) < 0
          · refine iv_Em 11 (pc2 := 40) (lv2 := [(4, .int 0), (3, .ref 65), (2, .ref 44), (1, .ref 1), (0, .ref 0)]) (st2 := [.int ((xs 0) &&& 15)]) (w2 := (iv_wd iv_Az iv_Fz iv_Bz)) rfl ?_
            refine iv_Esw rfl rfl (show iv_sw 40 _ _ _ _ _ = some 700 by rw [h0]; rfl) ?_
            refine iv_Em 11 (pc2 := 713) (lv2 := [(4, .int 0), (3, .ref 65), (2, .ref 44), (1, .ref 1), (0, .ref 0)]) (st2 := [.int (xs 2), .int (xs 1), .ref 1]) (w2 := (iv_wd iv_Az iv_Fz iv_Bz)) rfl ?_
            refine iv_Ecall (ν := 14) (c := 3) (as := [.ref 1, .int (xs 1), .int (xs 2)]) (rest := []) (w2 := (iv_wd iv_Az iv_Fz iv_Bz)) (tg2 := true) (k2 := 0) (z2 := 0) (v := (some (.int (-1)))) rfl rfl rfl rfl rfl rfl rfl (Nat.le_of_ble_eq_true rfl) rfl ?_ ?_
            · refine iv_Gm 2 (pc2 := 2) (lv2 := [(0, .ref 1), (1, .int (xs 1)), (2, .int (xs 2))]) (st2 := [.int (-1), .int (xs 1)]) (w2 := (iv_wd iv_Az iv_Fz iv_Bz)) rfl ?_
              refine iv_Gbt (c := decide (¬ (xs 1) = (-1))) (p1 := 11) (p2 := 5) (lv2 := [(0, .ref 1), (1, .int (xs 1)), (2, .int (xs 2))]) (st2 := []) (w2 := (iv_wd iv_Az iv_Fz iv_Bz)) rfl (decide_eq_true h1) ?_
              refine iv_Gm 2 (pc2 := 13) (lv2 := [(0, .ref 1), (1, .int (xs 1)), (2, .int (xs 2))]) (st2 := [.int (xs 2), .int (xs 1)]) (w2 := (iv_wd iv_Az iv_Fz iv_Bz)) rfl ?_
              refine iv_Gcall (ν := 26) (c := 2) (as := [.int (xs 1), .int (xs 2)]) (rest := []) (w2 := (iv_wd iv_Az iv_Fz iv_Bz)) (tg2 := true) (k2 := 0) (z2 := 0) (v := (some (.int 0))) rfl rfl rfl rfl rfl rfl rfl (Nat.le_of_ble_eq_true rfl) rfl ?_ ?_
              · refine iv_Gm 1 (pc2 := 1) (lv2 := [(0, .int (xs 1)), (1, .int (xs 2))]) (st2 := [.int (xs 1)]) (w2 := (iv_wd iv_Az iv_Fz iv_Bz)) rfl ?_
                refine iv_Gbf (c := decide ((xs 1) = 0)) (p1 := 9) (p2 := 4) (lv2 := [(0, .int (xs 1)), (1, .int (xs 2))]) (st2 := []) (w2 := (iv_wd iv_Az iv_Fz iv_Bz)) rfl (decide_eq_false h7) ?_
                refine iv_Gm 2 (pc2 := 6) (lv2 := [(0, .int (xs 1)), (1, .int (xs 2))]) (st2 := [.int 1, .int (xs 1)]) (w2 := (iv_wd iv_Az iv_Fz iv_Bz)) rfl ?_
                refine iv_Gbt (c := decide (¬ (xs 1) = 1)) (p1 := 23) (p2 := 9) (lv2 := [(0, .int (xs 1)), (1, .int (xs 2))]) (st2 := []) (w2 := (iv_wd iv_Az iv_Fz iv_Bz)) rfl (decide_eq_true h10) ?_
                refine iv_Gm 1 (pc2 := 24) (lv2 := [(0, .int (xs 1)), (1, .int (xs 2))]) (st2 := [.int 0]) (w2 := (iv_wd iv_Az iv_Fz iv_Bz)) rfl ?_
                exact iv_Gret rfl rfl rfl
              show iv_G _ _ _ _ 16 [(0, .ref 1), (1, .int (xs 1)), (2, .int (xs 2))] [.int 0] (iv_wd iv_Az iv_Fz iv_Bz) true _ _ _
              refine iv_Gm 3 (pc2 := 31) (lv2 := [(0, .ref 1), (1, .int (xs 1)), (2, .int (xs 2))]) (st2 := [.int (xs 2), .int (xs 1)]) (w2 := (iv_wd iv_Az iv_Fz iv_Bz)) rfl ?_
              refine iv_Gcall (ν := 27) (c := 2) (as := [.int (xs 1), .int (xs 2)]) (rest := []) (w2 := (iv_wd iv_Az iv_Fz iv_Bz)) (tg2 := true) (k2 := 0) (z2 := 0) (v := (some (.int 0))) rfl rfl rfl rfl rfl rfl rfl (Nat.le_of_ble_eq_true rfl) rfl ?_ ?_
              · refine iv_Gm 1 (pc2 := 1) (lv2 := [(0, .int (xs 1)), (1, .int (xs 2))]) (st2 := [.int (xs 1)]) (w2 := (iv_wd iv_Az iv_Fz iv_Bz)) rfl ?_
                refine iv_Gcall (ν := 25) (c := 1) (as := [.int (xs 1)]) (rest := []) (w2 := (iv_wd iv_Az iv_Fz iv_Bz)) (tg2 := true) (k2 := 0) (z2 := 0) (v := (some (.int 0))) rfl rfl rfl rfl rfl rfl rfl (Nat.le_of_ble_eq_true rfl) rfl ?_ ?_
                · refine iv_Gm 2 (pc2 := 2) (lv2 := [(0, .int (xs 1))]) (st2 := [.int 2, .int (xs 1)]) (w2 := (iv_wd iv_Az iv_Fz iv_Bz)) rfl ?_
                  refine iv_Gbt (c := decide ((xs 1) < 2)) (p1 := 15) (p2 := 5) (lv2 := [(0, .int (xs 1))]) (st2 := []) (w2 := (iv_wd iv_Az iv_Fz iv_Bz)) rfl (decide_eq_true h13) ?_
                  refine iv_Gm 1 (pc2 := 16) (lv2 := [(0, .int (xs 1))]) (st2 := [.int 0]) (w2 := (iv_wd iv_Az iv_Fz iv_Bz)) rfl ?_
                  exact iv_Gret rfl rfl rfl
                show iv_G _ _ _ _ 4 [(0, .int (xs 1)), (1, .int (xs 2))] [.int 0] (iv_wd iv_Az iv_Fz iv_Bz) true _ _ _
                refine iv_Gm 2 (pc2 := 22) (lv2 := [(0, .int (xs 1)), (1, .int (xs 2))]) (st2 := [.int 0]) (w2 := (iv_wd iv_Az iv_Fz iv_Bz)) rfl ?_
                exact iv_Gret rfl rfl rfl
              show iv_G _ _ _ _ 34 [(0, .ref 1), (1, .int (xs 1)), (2, .int (xs 2))] [.int 0] (iv_wd iv_Az iv_Fz iv_Bz) true _ _ _
              refine iv_Gm 2 (pc2 := 50) (lv2 := [(0, .ref 1), (1, .int (xs 1)), (2, .int (xs 2))]) (st2 := [.int (-1)]) (w2 := (iv_wd iv_Az iv_Fz iv_Bz)) rfl ?_
              exact iv_Gret rfl rfl rfl
            show iv_Fin _ _ _ _ 716 [(4, .int 0), (3, .ref 65), (2, .ref 44), (1, .ref 1), (0, .ref 0)] [.int (-1)] (iv_wd iv_Az iv_Fz iv_Bz) true _ _
            refine iv_Em 11 (pc2 := 729) (lv2 := [(4, .int 0), (3, .ref 65), (2, .ref 44), (1, .ref 1), (0, .ref 0)]) (st2 := [.int (xs 2), .int (xs 1), .ref 44, .int (-1)]) (w2 := (iv_wd iv_Az iv_Fz iv_Bz)) rfl ?_
            refine iv_Ecall (ν := 181) (c := 3) (as := [.ref 44, .int (xs 1), .int (xs 2)]) (rest := [.int (-1)]) (w2 := (iv_wd iv_Az (iv_uF iv_Fz 4400 0) iv_Bz)) (tg2 := true) (k2 := 0) (z2 := 0) (v := (some (.int (-1)))) rfl rfl rfl rfl rfl rfl rfl (Nat.le_of_ble_eq_true rfl) rfl ?_ ?_
            · refine iv_Gm 5 (pc2 := 7) (lv2 := [(0, .ref 44), (1, .int (xs 1)), (2, .int (xs 2))]) (st2 := [.int (-1), .int (xs 1)]) (w2 := (iv_wd iv_Az (iv_uF iv_Fz 4400 0) iv_Bz)) rfl ?_
              refine iv_Gbt (c := decide (¬ (xs 1) = (-1))) (p1 := 83) (p2 := 10) (lv2 := [(0, .ref 44), (1, .int (xs 1)), (2, .int (xs 2))]) (st2 := []) (w2 := (iv_wd iv_Az (iv_uF iv_Fz 4400 0) iv_Bz)) rfl (decide_eq_true h1) ?_
              refine iv_Gm 2 (pc2 := 85) (lv2 := [(0, .ref 44), (1, .int (xs 1)), (2, .int (xs 2))]) (st2 := [.int (xs 2), .int (xs 1)]) (w2 := (iv_wd iv_Az (iv_uF iv_Fz 4400 0) iv_Bz)) rfl ?_
              refine iv_Gcall (ν := 178) (c := 2) (as := [.int (xs 1), .int (xs 2)]) (rest := []) (w2 := (iv_wd iv_Az (iv_uF iv_Fz 4400 0) iv_Bz)) (tg2 := true) (k2 := 0) (z2 := 0) (v := (some (.int 0))) rfl rfl rfl rfl rfl rfl rfl (Nat.le_of_ble_eq_true rfl) rfl ?_ ?_
              · refine iv_Gm 1 (pc2 := 1) (lv2 := [(0, .int (xs 1)), (1, .int (xs 2))]) (st2 := [.int (xs 1)]) (w2 := (iv_wd iv_Az (iv_uF iv_Fz 4400 0) iv_Bz)) rfl ?_
                refine iv_Gbt (c := decide ((xs 1) < 0)) (p1 := 34) (p2 := 4) (lv2 := [(0, .int (xs 1)), (1, .int (xs 2))]) (st2 := []) (w2 := (iv_wd iv_Az (iv_uF iv_Fz 4400 0) iv_Bz)) rfl (decide_eq_true h14) ?_
                refine iv_Gm 1 (pc2 := 35) (lv2 := [(0, .int (xs 1)), (1, .int (xs 2))]) (st2 := [.int 0]) (w2 := (iv_wd iv_Az (iv_uF iv_Fz 4400 0) iv_Bz)) rfl ?_
                exact iv_Gret rfl rfl rfl
              show iv_G _ _ _ _ 88 [(0, .ref 44), (1, .int (xs 1)), (2, .int (xs 2))] [.int 0] (iv_wd iv_Az (iv_uF iv_Fz 4400 0) iv_Bz) true _ _ _
              refine iv_Gm 2 (pc2 := 92) (lv2 := [(0, .ref 44), (1, .int (xs 1)), (2, .int (xs 2))]) (st2 := [.int (-1)]) (w2 := (iv_wd iv_Az (iv_uF iv_Fz 4400 0) iv_Bz)) rfl ?_
              exact iv_Gret rfl rfl rfl
            show iv_Fin _ _ _ _ 732 [(4, .int 0), (3, .ref 65), (2, .ref 44), (1, .ref 1), (0, .ref 0)] [.int (-1), .int (-1)] (iv_wd iv_Az (iv_uF iv_Fz 4400 0) iv_Bz) true _ _
            refine iv_Em 10 (pc2 := 788) (lv2 := [(4, .int 6), (3, .ref 65), (2, .ref 44), (1, .ref 1), (0, .ref 0)]) (st2 := [.int 1]) (w2 := (iv_wd iv_Az (iv_uF iv_Fz 4400 0) iv_Bz)) rfl ?_
            exact iv_Eret rfl rfl rfl (by decide) (by decide)
          · exact (iv_no2 h14 h13 h7 h10 (by decide) (by decide)).elim
        · by_cases h15 : (xs 1) < 32
          · by_cases h16 : (xs 2) < 0
            · refine iv_Em 11 (pc2 := 40) (lv2 := [(4, .int 0), (3, .ref 65), (2, .ref 44), (1, .ref 1), (0, .ref 0)]) (st2 := [.int ((xs 0) &&& 15)]) (w2 := (iv_wd iv_Az iv_Fz iv_Bz)) rfl ?_
              refine iv_Esw rfl rfl (show iv_sw 40 _ _ _ _ _ = some 700 by rw [h0]; rfl) ?_
              refine iv_Em 11 (pc2 := 713) (lv2 := [(4, .int 0), (3, .ref 65), (2, .ref 44), (1, .ref 1), (0, .ref 0)]) (st2 := [.int (xs 2), .int (xs 1), .ref 1]) (w2 := (iv_wd iv_Az iv_Fz iv_Bz)) rfl ?_
              refine iv_Ecall (ν := 14) (c := 3) (as := [.ref 1, .int (xs 1), .int (xs 2)]) (rest := []) (w2 := (iv_wd iv_Az iv_Fz iv_Bz)) (tg2 := true) (k2 := 0) (z2 := 0) (v := (some (.int (-1)))) rfl rfl rfl rfl rfl rfl rfl (Nat.le_of_ble_eq_true rfl) rfl ?_ ?_
              · refine iv_Gm 2 (pc2 := 2) (lv2 := [(0, .ref 1), (1, .int (xs 1)), (2, .int (xs 2))]) (st2 := [.int (-1), .int (xs 1)]) (w2 := (iv_wd iv_Az iv_Fz iv_Bz)) rfl ?_
                refine iv_Gbt (c := decide (¬ (xs 1) = (-1))) (p1 := 11) (p2 := 5) (lv2 := [(0, .ref 1), (1, .int (xs 1)), (2, .int (xs 2))]) (st2 := []) (w2 := (iv_wd iv_Az iv_Fz iv_Bz)) rfl (decide_eq_true h1) ?_
                refine iv_Gm 2 (pc2 := 13) (lv2 := [(0, .ref 1), (1, .int (xs 1)), (2, .int (xs 2))]) (st2 := [.int (xs 2), .int (xs 1)]) (w2 := (iv_wd iv_Az iv_Fz iv_Bz)) rfl ?_
                refine iv_Gcall (ν := 26) (c := 2) (as := [.int (xs 1), .int (xs 2)]) (rest := []) (w2 := (iv_wd iv_Az iv_Fz iv_Bz)) (tg2 := true) (k2 := 0) (z2 := 0) (v := (some (.int 0))) rfl rfl rfl rfl rfl rfl rfl (Nat.le_of_ble_eq_true rfl) rfl ?_ ?_
                · refine iv_Gm 1 (pc2 := 1) (lv2 := [(0, .int (xs 1)), (1, .int (xs 2))]) (st2 := [.int (xs 1)]) (w2 := (iv_wd iv_Az iv_Fz iv_Bz)) rfl ?_
                  refine iv_Gbf (c := decide ((xs 1) = 0)) (p1 := 9) (p2 := 4) (lv2 := [(0, .int (xs 1)), (1, .int (xs 2))]) (st2 := []) (w2 := (iv_wd iv_Az iv_Fz iv_Bz)) rfl (decide_eq_false h7) ?_
                  refine iv_Gm 2 (pc2 := 6) (lv2 := [(0, .int (xs 1)), (1, .int (xs 2))]) (st2 := [.int 1, .int (xs 1)]) (w2 := (iv_wd iv_Az iv_Fz iv_Bz)) rfl ?_
                  refine iv_Gbt (c := decide (¬ (xs 1) = 1)) (p1 := 23) (p2 := 9) (lv2 := [(0, .int (xs 1)), (1, .int (xs 2))]) (st2 := []) (w2 := (iv_wd iv_Az iv_Fz iv_Bz)) rfl (decide_eq_true h10) ?_
                  refine iv_Gm 1 (pc2 := 24) (lv2 := [(0, .int (xs 1)), (1, .int (xs 2))]) (st2 := [.int 0]) (w2 := (iv_wd iv_Az iv_Fz iv_Bz)) rfl ?_
                  exact iv_Gret rfl rfl rfl
                show iv_G _ _ _ _ 16 [(0, .ref 1), (1, .int (xs 1)), (2, .int (xs 2))] [.int 0] (iv_wd iv_Az iv_Fz iv_Bz) true _ _ _
                refine iv_Gm 3 (pc2 := 31) (lv2 := [(0, .ref 1), (1, .int (xs 1)), (2, .int (xs 2))]) (st2 := [.int (xs 2), .int (xs 1)]) (w2 := (iv_wd iv_Az iv_Fz iv_Bz)) rfl ?_
                refine iv_Gcall (ν := 27) (c := 2) (as := [.int (xs 1), .int (xs 2)]) (rest := []) (w2 := (iv_wd iv_Az iv_Fz iv_Bz)) (tg2 := true) (k2 := 0) (z2 := 0) (v := (some (.int 0))) rfl rfl rfl rfl rfl rfl rfl (Nat.le_of_ble_eq_true rfl) rfl ?_ ?_
                · refine iv_Gm 1 (pc2 := 1) (lv2 := [(0, .int (xs 1)), (1, .int (xs 2))]) (st2 := [.int (xs 1)]) (w2 := (iv_wd iv_Az iv_Fz iv_Bz)) rfl ?_
                  refine iv_Gcall (ν := 25) (c := 1) (as := [.int (xs 1)]) (rest := []) (w2 := (iv_wd iv_Az iv_Fz iv_Bz)) (tg2 := true) (k2 := 0) (z2 := 0) (v := (some (.int 1))) rfl rfl rfl rfl rfl rfl rfl (Nat.le_of_ble_eq_true rfl) rfl ?_ ?_
                  · refine iv_Gm 2 (pc2 := 2) (lv2 := [(0, .int (xs 1))]) (st2 := [.int 2, .int (xs 1)]) (w2 := (iv_wd iv_Az iv_Fz iv_Bz)) rfl ?_
                    refine iv_Gbf (c := decide ((xs 1) < 2)) (p1 := 15) (p2 := 5) (lv2 := [(0, .int (xs 1))]) (st2 := []) (w2 := (iv_wd iv_Az iv_Fz iv_Bz)) rfl (decide_eq_false h13) ?_
                    refine iv_Gm 2 (pc2 := 8) (lv2 := [(0, .int (xs 1))]) (st2 := [.int 32, .int (xs 1)]) (w2 := (iv_wd iv_Az iv_Fz iv_Bz)) rfl ?_
                    refine iv_Gbf (c := decide (32 ≤ (xs 1))) (p1 := 15) (p2 := 11) (lv2 := [(0, .int (xs 1))]) (st2 := []) (w2 := (iv_wd iv_Az iv_Fz iv_Bz)) rfl (decide_eq_false (Int32.not_le.mpr h15)) ?_
                    refine iv_Gm 2 (pc2 := 16) (lv2 := [(0, .int (xs 1))]) (st2 := [.int 1]) (w2 := (iv_wd iv_Az iv_Fz iv_Bz)) rfl ?_
                    exact iv_Gret rfl rfl rfl
                  show iv_G _ _ _ _ 4 [(0, .int (xs 1)), (1, .int (xs 2))] [.int 1] (iv_wd iv_Az iv_Fz iv_Bz) true _ _ _
                  refine iv_Gm 2 (pc2 := 8) (lv2 := [(0, .int (xs 1)), (1, .int (xs 2))]) (st2 := [.int (xs 2)]) (w2 := (iv_wd iv_Az iv_Fz iv_Bz)) rfl ?_
                  refine iv_Gbt (c := decide ((xs 2) < 0)) (p1 := 21) (p2 := 11) (lv2 := [(0, .int (xs 1)), (1, .int (xs 2))]) (st2 := []) (w2 := (iv_wd iv_Az iv_Fz iv_Bz)) rfl (decide_eq_true h16) ?_
                  refine iv_Gm 1 (pc2 := 22) (lv2 := [(0, .int (xs 1)), (1, .int (xs 2))]) (st2 := [.int 0]) (w2 := (iv_wd iv_Az iv_Fz iv_Bz)) rfl ?_
                  exact iv_Gret rfl rfl rfl
                show iv_G _ _ _ _ 34 [(0, .ref 1), (1, .int (xs 1)), (2, .int (xs 2))] [.int 0] (iv_wd iv_Az iv_Fz iv_Bz) true _ _ _
                refine iv_Gm 2 (pc2 := 50) (lv2 := [(0, .ref 1), (1, .int (xs 1)), (2, .int (xs 2))]) (st2 := [.int (-1)]) (w2 := (iv_wd iv_Az iv_Fz iv_Bz)) rfl ?_
                exact iv_Gret rfl rfl rfl
              show iv_Fin _ _ _ _ 716 [(4, .int 0), (3, .ref 65), (2, .ref 44), (1, .ref 1), (0, .ref 0)] [.int (-1)] (iv_wd iv_Az iv_Fz iv_Bz) true _ _
              refine iv_Em 11 (pc2 := 729) (lv2 := [(4, .int 0), (3, .ref 65), (2, .ref 44), (1, .ref 1), (0, .ref 0)]) (st2 := [.int (xs 2), .int (xs 1), .ref 44, .int (-1)]) (w2 := (iv_wd iv_Az iv_Fz iv_Bz)) rfl ?_
              refine iv_Ecall (ν := 181) (c := 3) (as := [.ref 44, .int (xs 1), .int (xs 2)]) (rest := [.int (-1)]) (w2 := (iv_wd iv_Az (iv_uF iv_Fz 4400 0) iv_Bz)) (tg2 := true) (k2 := 0) (z2 := 0) (v := (some (.int (-1)))) rfl rfl rfl rfl rfl rfl rfl (Nat.le_of_ble_eq_true rfl) rfl ?_ ?_
              · refine iv_Gm 5 (pc2 := 7) (lv2 := [(0, .ref 44), (1, .int (xs 1)), (2, .int (xs 2))]) (st2 := [.int (-1), .int (xs 1)]) (w2 := (iv_wd iv_Az (iv_uF iv_Fz 4400 0) iv_Bz)) rfl ?_
                refine iv_Gbt (c := decide (¬ (xs 1) = (-1))) (p1 := 83) (p2 := 10) (lv2 := [(0, .ref 44), (1, .int (xs 1)), (2, .int (xs 2))]) (st2 := []) (w2 := (iv_wd iv_Az (iv_uF iv_Fz 4400 0) iv_Bz)) rfl (decide_eq_true h1) ?_
                refine iv_Gm 2 (pc2 := 85) (lv2 := [(0, .ref 44), (1, .int (xs 1)), (2, .int (xs 2))]) (st2 := [.int (xs 2), .int (xs 1)]) (w2 := (iv_wd iv_Az (iv_uF iv_Fz 4400 0) iv_Bz)) rfl ?_
                refine iv_Gcall (ν := 178) (c := 2) (as := [.int (xs 1), .int (xs 2)]) (rest := []) (w2 := (iv_wd iv_Az (iv_uF iv_Fz 4400 0) iv_Bz)) (tg2 := true) (k2 := 0) (z2 := 0) (v := (some (.int 0))) rfl rfl rfl rfl rfl rfl rfl (Nat.le_of_ble_eq_true rfl) rfl ?_ ?_
                · refine iv_Gm 1 (pc2 := 1) (lv2 := [(0, .int (xs 1)), (1, .int (xs 2))]) (st2 := [.int (xs 1)]) (w2 := (iv_wd iv_Az (iv_uF iv_Fz 4400 0) iv_Bz)) rfl ?_
                  refine iv_Gbf (c := decide ((xs 1) < 0)) (p1 := 34) (p2 := 4) (lv2 := [(0, .int (xs 1)), (1, .int (xs 2))]) (st2 := []) (w2 := (iv_wd iv_Az (iv_uF iv_Fz 4400 0) iv_Bz)) rfl (decide_eq_false (iv_ld2 h13 (by decide))) ?_
                  refine iv_Gm 2 (pc2 := 7) (lv2 := [(0, .int (xs 1)), (1, .int (xs 2))]) (st2 := [.int 31, .int (xs 1)]) (w2 := (iv_wd iv_Az (iv_uF iv_Fz 4400 0) iv_Bz)) rfl ?_
                  refine iv_Gbf (c := decide (31 < (xs 1))) (p1 := 34) (p2 := 10) (lv2 := [(0, .int (xs 1)), (1, .int (xs 2))]) (st2 := []) (w2 := (iv_wd iv_Az (iv_uF iv_Fz 4400 0) iv_Bz)) rfl (decide_eq_false (fun q => (iv_lg2 (by decide)).mp q h15)) ?_
                  refine iv_Gm 1 (pc2 := 11) (lv2 := [(0, .int (xs 1)), (1, .int (xs 2))]) (st2 := [.int (xs 2)]) (w2 := (iv_wd iv_Az (iv_uF iv_Fz 4400 0) iv_Bz)) rfl ?_
                  refine iv_Gbt (c := decide ((xs 2) < 0)) (p1 := 34) (p2 := 14) (lv2 := [(0, .int (xs 1)), (1, .int (xs 2))]) (st2 := []) (w2 := (iv_wd iv_Az (iv_uF iv_Fz 4400 0) iv_Bz)) rfl (decide_eq_true h16) ?_
                  refine iv_Gm 1 (pc2 := 35) (lv2 := [(0, .int (xs 1)), (1, .int (xs 2))]) (st2 := [.int 0]) (w2 := (iv_wd iv_Az (iv_uF iv_Fz 4400 0) iv_Bz)) rfl ?_
                  exact iv_Gret rfl rfl rfl
                show iv_G _ _ _ _ 88 [(0, .ref 44), (1, .int (xs 1)), (2, .int (xs 2))] [.int 0] (iv_wd iv_Az (iv_uF iv_Fz 4400 0) iv_Bz) true _ _ _
                refine iv_Gm 2 (pc2 := 92) (lv2 := [(0, .ref 44), (1, .int (xs 1)), (2, .int (xs 2))]) (st2 := [.int (-1)]) (w2 := (iv_wd iv_Az (iv_uF iv_Fz 4400 0) iv_Bz)) rfl ?_
                exact iv_Gret rfl rfl rfl
              show iv_Fin _ _ _ _ 732 [(4, .int 0), (3, .ref 65), (2, .ref 44), (1, .ref 1), (0, .ref 0)] [.int (-1), .int (-1)] (iv_wd iv_Az (iv_uF iv_Fz 4400 0) iv_Bz) true _ _
              refine iv_Em 10 (pc2 := 788) (lv2 := [(4, .int 6), (3, .ref 65), (2, .ref 44), (1, .ref 1), (0, .ref 0)]) (st2 := [.int 1]) (w2 := (iv_wd iv_Az (iv_uF iv_Fz 4400 0) iv_Bz)) rfl ?_
              exact iv_Eret rfl rfl rfl (by decide) (by decide)
            · by_cases h17 : (xs 2) < 64
              · refine iv_Em 11 (pc2 := 40) (lv2 := [(4, .int 0), (3, .ref 65), (2, .ref 44), (1, .ref 1), (0, .ref 0)]) (st2 := [.int ((xs 0) &&& 15)]) (w2 := (iv_wd iv_Az iv_Fz iv_Bz)) rfl ?_
                refine iv_Esw rfl rfl (show iv_sw 40 _ _ _ _ _ = some 700 by rw [h0]; rfl) ?_
                refine iv_Em 11 (pc2 := 713) (lv2 := [(4, .int 0), (3, .ref 65), (2, .ref 44), (1, .ref 1), (0, .ref 0)]) (st2 := [.int (xs 2), .int (xs 1), .ref 1]) (w2 := (iv_wd iv_Az iv_Fz iv_Bz)) rfl ?_
                refine iv_Ecall (ν := 14) (c := 3) (as := [.ref 1, .int (xs 1), .int (xs 2)]) (rest := []) (w2 := (iv_wd iv_Az iv_Fz iv_Bz)) (tg2 := true) (k2 := 0) (z2 := 0) (v := (some (.int 0))) rfl rfl rfl rfl rfl rfl rfl (Nat.le_of_ble_eq_true rfl) rfl ?_ ?_
                · refine iv_Gm 2 (pc2 := 2) (lv2 := [(0, .ref 1), (1, .int (xs 1)), (2, .int (xs 2))]) (st2 := [.int (-1), .int (xs 1)]) (w2 := (iv_wd iv_Az iv_Fz iv_Bz)) rfl ?_
                  refine iv_Gbt (c := decide (¬ (xs 1) = (-1))) (p1 := 11) (p2 := 5) (lv2 := [(0, .ref 1), (1, .int (xs 1)), (2, .int (xs 2))]) (st2 := []) (w2 := (iv_wd iv_Az iv_Fz iv_Bz)) rfl (decide_eq_true h1) ?_
                  refine iv_Gm 2 (pc2 := 13) (lv2 := [(0, .ref 1), (1, .int (xs 1)), (2, .int (xs 2))]) (st2 := [.int (xs 2), .int (xs 1)]) (w2 := (iv_wd iv_Az iv_Fz iv_Bz)) rfl ?_
                  refine iv_Gcall (ν := 26) (c := 2) (as := [.int (xs 1), .int (xs 2)]) (rest := []) (w2 := (iv_wd iv_Az iv_Fz iv_Bz)) (tg2 := true) (k2 := 0) (z2 := 0) (v := (some (.int 0))) rfl rfl rfl rfl rfl rfl rfl (Nat.le_of_ble_eq_true rfl) rfl ?_ ?_
                  · refine iv_Gm 1 (pc2 := 1) (lv2 := [(0, .int (xs 1)), (1, .int (xs 2))]) (st2 := [.int (xs 1)]) (w2 := (iv_wd iv_Az iv_Fz iv_Bz)) rfl ?_
                    refine iv_Gbf (c := decide ((xs 1) = 0)) (p1 := 9) (p2 := 4) (lv2 := [(0, .int (xs 1)), (1, .int (xs 2))]) (st2 := []) (w2 := (iv_wd iv_Az iv_Fz iv_Bz)) rfl (decide_eq_false h7) ?_
                    refine iv_Gm 2 (pc2 := 6) (lv2 := [(0, .int (xs 1)), (1, .int (xs 2))]) (st2 := [.int 1, .int (xs 1)]) (w2 := (iv_wd iv_Az iv_Fz iv_Bz)) rfl ?_
                    refine iv_Gbt (c := decide (¬ (xs 1) = 1)) (p1 := 23) (p2 := 9) (lv2 := [(0, .int (xs 1)), (1, .int (xs 2))]) (st2 := []) (w2 := (iv_wd iv_Az iv_Fz iv_Bz)) rfl (decide_eq_true h10) ?_
                    refine iv_Gm 1 (pc2 := 24) (lv2 := [(0, .int (xs 1)), (1, .int (xs 2))]) (st2 := [.int 0]) (w2 := (iv_wd iv_Az iv_Fz iv_Bz)) rfl ?_
                    exact iv_Gret rfl rfl rfl
                  show iv_G _ _ _ _ 16 [(0, .ref 1), (1, .int (xs 1)), (2, .int (xs 2))] [.int 0] (iv_wd iv_Az iv_Fz iv_Bz) true _ _ _
                  refine iv_Gm 3 (pc2 := 31) (lv2 := [(0, .ref 1), (1, .int (xs 1)), (2, .int (xs 2))]) (st2 := [.int (xs 2), .int (xs 1)]) (w2 := (iv_wd iv_Az iv_Fz iv_Bz)) rfl ?_
                  refine iv_Gcall (ν := 27) (c := 2) (as := [.int (xs 1), .int (xs 2)]) (rest := []) (w2 := (iv_wd iv_Az iv_Fz iv_Bz)) (tg2 := true) (k2 := 0) (z2 := 0) (v := (some (.int 1))) rfl rfl rfl rfl rfl rfl rfl (Nat.le_of_ble_eq_true rfl) rfl ?_ ?_
                  · refine iv_Gm 1 (pc2 := 1) (lv2 := [(0, .int (xs 1)), (1, .int (xs 2))]) (st2 := [.int (xs 1)]) (w2 := (iv_wd iv_Az iv_Fz iv_Bz)) rfl ?_
                    refine iv_Gcall (ν := 25) (c := 1) (as := [.int (xs 1)]) (rest := []) (w2 := (iv_wd iv_Az iv_Fz iv_Bz)) (tg2 := true) (k2 := 0) (z2 := 0) (v := (some (.int 1))) rfl rfl rfl rfl rfl rfl rfl (Nat.le_of_ble_eq_true rfl) rfl ?_ ?_
                    · refine iv_Gm 2 (pc2 := 2) (lv2 := [(0, .int (xs 1))]) (st2 := [.int 2, .int (xs 1)]) (w2 := (iv_wd iv_Az iv_Fz iv_Bz)) rfl ?_
                      refine iv_Gbf (c := decide ((xs 1) < 2)) (p1 := 15) (p2 := 5) (lv2 := [(0, .int (xs 1))]) (st2 := []) (w2 := (iv_wd iv_Az iv_Fz iv_Bz)) rfl (decide_eq_false h13) ?_
                      refine iv_Gm 2 (pc2 := 8) (lv2 := [(0, .int (xs 1))]) (st2 := [.int 32, .int (xs 1)]) (w2 := (iv_wd iv_Az iv_Fz iv_Bz)) rfl ?_
                      refine iv_Gbf (c := decide (32 ≤ (xs 1))) (p1 := 15) (p2 := 11) (lv2 := [(0, .int (xs 1))]) (st2 := []) (w2 := (iv_wd iv_Az iv_Fz iv_Bz)) rfl (decide_eq_false (Int32.not_le.mpr h15)) ?_
                      refine iv_Gm 2 (pc2 := 16) (lv2 := [(0, .int (xs 1))]) (st2 := [.int 1]) (w2 := (iv_wd iv_Az iv_Fz iv_Bz)) rfl ?_
                      exact iv_Gret rfl rfl rfl
                    show iv_G _ _ _ _ 4 [(0, .int (xs 1)), (1, .int (xs 2))] [.int 1] (iv_wd iv_Az iv_Fz iv_Bz) true _ _ _
                    refine iv_Gm 2 (pc2 := 8) (lv2 := [(0, .int (xs 1)), (1, .int (xs 2))]) (st2 := [.int (xs 2)]) (w2 := (iv_wd iv_Az iv_Fz iv_Bz)) rfl ?_
                    refine iv_Gbf (c := decide ((xs 2) < 0)) (p1 := 21) (p2 := 11) (lv2 := [(0, .int (xs 1)), (1, .int (xs 2))]) (st2 := []) (w2 := (iv_wd iv_Az iv_Fz iv_Bz)) rfl (decide_eq_false h16) ?_
                    refine iv_Gm 2 (pc2 := 14) (lv2 := [(0, .int (xs 1)), (1, .int (xs 2))]) (st2 := [.int 64, .int (xs 2)]) (w2 := (iv_wd iv_Az iv_Fz iv_Bz)) rfl ?_
                    refine iv_Gbf (c := decide (64 ≤ (xs 2))) (p1 := 21) (p2 := 17) (lv2 := [(0, .int (xs 1)), (1, .int (xs 2))]) (st2 := []) (w2 := (iv_wd iv_Az iv_Fz iv_Bz)) rfl (decide_eq_false (Int32.not_le.mpr h17)) ?_
                    refine iv_Gm 2 (pc2 := 22) (lv2 := [(0, .int (xs 1)), (1, .int (xs 2))]) (st2 := [.int 1]) (w2 := (iv_wd iv_Az iv_Fz iv_Bz)) rfl ?_
                    exact iv_Gret rfl rfl rfl
                  show iv_G _ _ _ _ 34 [(0, .ref 1), (1, .int (xs 1)), (2, .int (xs 2))] [.int 1] (iv_wd iv_Az iv_Fz iv_Bz) true _ _ _
                  refine iv_Gm 5 (pc2 := 43) (lv2 := [(0, .ref 1), (1, .int (xs 1)), (2, .int (xs 2))]) (st2 := [.int (xs 2), .int (xs 1), .ref 2]) (w2 := (iv_wd iv_Az iv_Fz iv_Bz)) rfl ?_
                  refine iv_Gcall (ν := 64) (c := 3) (as := [.ref 2, .int (xs 1), .int (xs 2)]) (rest := []) (w2 := (iv_wd iv_Az iv_Fz iv_Bz)) (tg2 := true) (k2 := 0) (z2 := 0) (v := (some (.int 0))) rfl rfl rfl rfl rfl rfl rfl (Nat.le_of_ble_eq_true rfl) rfl ?_ ?_
                  · refine iv_Gm 7 (pc2 := 10) (lv2 := [(0, .ref 2), (1, .int (xs 1)), (2, .int (xs 2))]) (st2 := [.int ((64 * (xs 1)) + (xs 2)), .ref 3]) (w2 := (iv_wd iv_Az iv_Fz iv_Bz)) rfl ?_
                    refine iv_Gif (pc2 := 11) (lv2 := [(0, .ref 2), (1, .int (xs 1)), (2, .int (xs 2))]) (st2 := [.int 0]) (w2 := (iv_wd iv_Az iv_Fz iv_Bz)) rfl (iv_in_c (iv_ld2 h13 (by decide)) h15 (iv_ld2 h16 (by decide)) h17) ?_
                    exact iv_Gret rfl rfl rfl
                  show iv_G _ _ _ _ 46 [(0, .ref 1), (1, .int (xs 1)), (2, .int (xs 2))] [.int 0] (iv_wd iv_Az iv_Fz iv_Bz) true _ _ _
                  refine iv_Gm 1 (pc2 := 50) (lv2 := [(0, .ref 1), (1, .int (xs 1)), (2, .int (xs 2))]) (st2 := [.int 0]) (w2 := (iv_wd iv_Az iv_Fz iv_Bz)) rfl ?_
                  exact iv_Gret rfl rfl rfl
                show iv_Fin _ _ _ _ 716 [(4, .int 0), (3, .ref 65), (2, .ref 44), (1, .ref 1), (0, .ref 0)] [.int 0] (iv_wd iv_Az iv_Fz iv_Bz) true _ _
                refine iv_Em 11 (pc2 := 729) (lv2 := [(4, .int 0), (3, .ref 65), (2, .ref 44), (1, .ref 1), (0, .ref 0)]) (st2 := [.int (xs 2), .int (xs 1), .ref 44, .int 0]) (w2 := (iv_wd iv_Az iv_Fz iv_Bz)) rfl ?_
                refine iv_Ecall (ν := 181) (c := 3) (as := [.ref 44, .int (xs 1), .int (xs 2)]) (rest := [.int 0]) (w2 := (iv_wd iv_Az (iv_uF iv_Fz 4400 0) iv_Bz)) (tg2 := true) (k2 := 0) (z2 := 0) (v := (some (.int 0))) rfl rfl rfl rfl rfl rfl rfl (Nat.le_of_ble_eq_true rfl) rfl ?_ ?_
                · refine iv_Gm 5 (pc2 := 7) (lv2 := [(0, .ref 44), (1, .int (xs 1)), (2, .int (xs 2))]) (st2 := [.int (-1), .int (xs 1)]) (w2 := (iv_wd iv_Az (iv_uF iv_Fz 4400 0) iv_Bz)) rfl ?_
                  refine iv_Gbt (c := decide (¬ (xs 1) = (-1))) (p1 := 83) (p2 := 10) (lv2 := [(0, .ref 44), (1, .int (xs 1)), (2, .int (xs 2))]) (st2 := []) (w2 := (iv_wd iv_Az (iv_uF iv_Fz 4400 0) iv_Bz)) rfl (decide_eq_true h1) ?_
                  refine iv_Gm 2 (pc2 := 85) (lv2 := [(0, .ref 44), (1, .int (xs 1)), (2, .int (xs 2))]) (st2 := [.int (xs 2), .int (xs 1)]) (w2 := (iv_wd iv_Az (iv_uF iv_Fz 4400 0) iv_Bz)) rfl ?_
                  refine iv_Gcall (ν := 178) (c := 2) (as := [.int (xs 1), .int (xs 2)]) (rest := []) (w2 := (iv_wd iv_Az (iv_uF iv_Fz 4400 0) iv_Bz)) (tg2 := true) (k2 := 0) (z2 := 0) (v := (some (.int 1))) rfl rfl rfl rfl rfl rfl rfl (Nat.le_of_ble_eq_true rfl) rfl ?_ ?_
                  · refine iv_Gm 1 (pc2 := 1) (lv2 := [(0, .int (xs 1)), (1, .int (xs 2))]) (st2 := [.int (xs 1)]) (w2 := (iv_wd iv_Az (iv_uF iv_Fz 4400 0) iv_Bz)) rfl ?_
                    refine iv_Gbf (c := decide ((xs 1) < 0)) (p1 := 34) (p2 := 4) (lv2 := [(0, .int (xs 1)), (1, .int (xs 2))]) (st2 := []) (w2 := (iv_wd iv_Az (iv_uF iv_Fz 4400 0) iv_Bz)) rfl (decide_eq_false (iv_ld2 h13 (by decide))) ?_
                    refine iv_Gm 2 (pc2 := 7) (lv2 := [(0, .int (xs 1)), (1, .int (xs 2))]) (st2 := [.int 31, .int (xs 1)]) (w2 := (iv_wd iv_Az (iv_uF iv_Fz 4400 0) iv_Bz)) rfl ?_
                    refine iv_Gbf (c := decide (31 < (xs 1))) (p1 := 34) (p2 := 10) (lv2 := [(0, .int (xs 1)), (1, .int (xs 2))]) (st2 := []) (w2 := (iv_wd iv_Az (iv_uF iv_Fz 4400 0) iv_Bz)) rfl (decide_eq_false (fun q => (iv_lg2 (by decide)).mp q h15)) ?_
                    refine iv_Gm 1 (pc2 := 11) (lv2 := [(0, .int (xs 1)), (1, .int (xs 2))]) (st2 := [.int (xs 2)]) (w2 := (iv_wd iv_Az (iv_uF iv_Fz 4400 0) iv_Bz)) rfl ?_
                    refine iv_Gbf (c := decide ((xs 2) < 0)) (p1 := 34) (p2 := 14) (lv2 := [(0, .int (xs 1)), (1, .int (xs 2))]) (st2 := []) (w2 := (iv_wd iv_Az (iv_uF iv_Fz 4400 0) iv_Bz)) rfl (decide_eq_false h16) ?_
                    refine iv_Gm 3 (pc2 := 17) (lv2 := [(0, .int (xs 1)), (1, .int (xs 2))]) (st2 := [.int 2, .int (xs 1), .int (xs 2)]) (w2 := (iv_wd iv_Az (iv_uF iv_Fz 4400 0) iv_Bz)) rfl ?_
                    refine iv_Gbt (c := decide (2 ≤ (xs 1))) (p1 := 25) (p2 := 20) (lv2 := [(0, .int (xs 1)), (1, .int (xs 2))]) (st2 := [.int (xs 2)]) (w2 := (iv_wd iv_Az (iv_uF iv_Fz 4400 0) iv_Bz)) rfl (decide_eq_true (Int32.not_lt.mp h13)) ?_
                    refine iv_Gm 1 (pc2 := 27) (lv2 := [(0, .int (xs 1)), (1, .int (xs 2))]) (st2 := [.int 64, .int (xs 2)]) (w2 := (iv_wd iv_Az (iv_uF iv_Fz 4400 0) iv_Bz)) rfl ?_
                    refine iv_Gbf (c := decide (64 ≤ (xs 2))) (p1 := 34) (p2 := 30) (lv2 := [(0, .int (xs 1)), (1, .int (xs 2))]) (st2 := []) (w2 := (iv_wd iv_Az (iv_uF iv_Fz 4400 0) iv_Bz)) rfl (decide_eq_false (Int32.not_le.mpr h17)) ?_
                    refine iv_Gm 2 (pc2 := 35) (lv2 := [(0, .int (xs 1)), (1, .int (xs 2))]) (st2 := [.int 1]) (w2 := (iv_wd iv_Az (iv_uF iv_Fz 4400 0) iv_Bz)) rfl ?_
                    exact iv_Gret rfl rfl rfl
                  show iv_G _ _ _ _ 88 [(0, .ref 44), (1, .int (xs 1)), (2, .int (xs 2))] [.int 1] (iv_wd iv_Az (iv_uF iv_Fz 4400 0) iv_Bz) true _ _ _
                  refine iv_Gm 3 (pc2 := 95) (lv2 := [(0, .ref 44), (1, .int (xs 1)), (2, .int (xs 2))]) (st2 := [.int 2, .int (xs 1)]) (w2 := (iv_wd iv_Az (iv_uF iv_Fz 4400 0) iv_Bz)) rfl ?_
                  refine iv_Gbt (c := decide (2 ≤ (xs 1))) (p1 := 112) (p2 := 98) (lv2 := [(0, .ref 44), (1, .int (xs 1)), (2, .int (xs 2))]) (st2 := []) (w2 := (iv_wd iv_Az (iv_uF iv_Fz 4400 0) iv_Bz)) rfl (decide_eq_true (Int32.not_lt.mp h13)) ?_
                  refine iv_Gm 7 (pc2 := 122) (lv2 := [(0, .ref 44), (1, .int (xs 1)), (2, .int (xs 2))]) (st2 := [.int ((64 * (xs 1)) + (xs 2)), .ref 47]) (w2 := (iv_wd iv_Az (iv_uF iv_Fz 4400 0) iv_Bz)) rfl ?_
                  refine iv_Gif (pc2 := 123) (lv2 := [(0, .ref 44), (1, .int (xs 1)), (2, .int (xs 2))]) (st2 := [.int 0]) (w2 := (iv_wd iv_Az (iv_uF iv_Fz 4400 0) iv_Bz)) rfl (iv_in_c (iv_ld2 h13 (by decide)) h15 (iv_ld2 h16 (by decide)) h17) ?_
                  exact iv_Gret rfl rfl rfl
                show iv_Fin _ _ _ _ 732 [(4, .int 0), (3, .ref 65), (2, .ref 44), (1, .ref 1), (0, .ref 0)] [.int 0, .int 0] (iv_wd iv_Az (iv_uF iv_Fz 4400 0) iv_Bz) true _ _
                refine iv_Em 10 (pc2 := 788) (lv2 := [(4, .int 6), (3, .ref 65), (2, .ref 44), (1, .ref 1), (0, .ref 0)]) (st2 := [.int 1]) (w2 := (iv_wd iv_Az (iv_uF iv_Fz 4400 0) iv_Bz)) rfl ?_
                exact iv_Eret rfl rfl rfl (by decide) (by decide)
              · refine iv_Em 11 (pc2 := 40) (lv2 := [(4, .int 0), (3, .ref 65), (2, .ref 44), (1, .ref 1), (0, .ref 0)]) (st2 := [.int ((xs 0) &&& 15)]) (w2 := (iv_wd iv_Az iv_Fz iv_Bz)) rfl ?_
                refine iv_Esw rfl rfl (show iv_sw 40 _ _ _ _ _ = some 700 by rw [h0]; rfl) ?_
                refine iv_Em 11 (pc2 := 713) (lv2 := [(4, .int 0), (3, .ref 65), (2, .ref 44), (1, .ref 1), (0, .ref 0)]) (st2 := [.int (xs 2), .int (xs 1), .ref 1]) (w2 := (iv_wd iv_Az iv_Fz iv_Bz)) rfl ?_
                refine iv_Ecall (ν := 14) (c := 3) (as := [.ref 1, .int (xs 1), .int (xs 2)]) (rest := []) (w2 := (iv_wd iv_Az iv_Fz iv_Bz)) (tg2 := true) (k2 := 0) (z2 := 0) (v := (some (.int (-1)))) rfl rfl rfl rfl rfl rfl rfl (Nat.le_of_ble_eq_true rfl) rfl ?_ ?_
                · refine iv_Gm 2 (pc2 := 2) (lv2 := [(0, .ref 1), (1, .int (xs 1)), (2, .int (xs 2))]) (st2 := [.int (-1), .int (xs 1)]) (w2 := (iv_wd iv_Az iv_Fz iv_Bz)) rfl ?_
                  refine iv_Gbt (c := decide (¬ (xs 1) = (-1))) (p1 := 11) (p2 := 5) (lv2 := [(0, .ref 1), (1, .int (xs 1)), (2, .int (xs 2))]) (st2 := []) (w2 := (iv_wd iv_Az iv_Fz iv_Bz)) rfl (decide_eq_true h1) ?_
                  refine iv_Gm 2 (pc2 := 13) (lv2 := [(0, .ref 1), (1, .int (xs 1)), (2, .int (xs 2))]) (st2 := [.int (xs 2), .int (xs 1)]) (w2 := (iv_wd iv_Az iv_Fz iv_Bz)) rfl ?_
                  refine iv_Gcall (ν := 26) (c := 2) (as := [.int (xs 1), .int (xs 2)]) (rest := []) (w2 := (iv_wd iv_Az iv_Fz iv_Bz)) (tg2 := true) (k2 := 0) (z2 := 0) (v := (some (.int 0))) rfl rfl rfl rfl rfl rfl rfl (Nat.le_of_ble_eq_true rfl) rfl ?_ ?_
                  · refine iv_Gm 1 (pc2 := 1) (lv2 := [(0, .int (xs 1)), (1, .int (xs 2))]) (st2 := [.int (xs 1)]) (w2 := (iv_wd iv_Az iv_Fz iv_Bz)) rfl ?_
                    refine iv_Gbf (c := decide ((xs 1) = 0)) (p1 := 9) (p2 := 4) (lv2 := [(0, .int (xs 1)), (1, .int (xs 2))]) (st2 := []) (w2 := (iv_wd iv_Az iv_Fz iv_Bz)) rfl (decide_eq_false h7) ?_
                    refine iv_Gm 2 (pc2 := 6) (lv2 := [(0, .int (xs 1)), (1, .int (xs 2))]) (st2 := [.int 1, .int (xs 1)]) (w2 := (iv_wd iv_Az iv_Fz iv_Bz)) rfl ?_
                    refine iv_Gbt (c := decide (¬ (xs 1) = 1)) (p1 := 23) (p2 := 9) (lv2 := [(0, .int (xs 1)), (1, .int (xs 2))]) (st2 := []) (w2 := (iv_wd iv_Az iv_Fz iv_Bz)) rfl (decide_eq_true h10) ?_
                    refine iv_Gm 1 (pc2 := 24) (lv2 := [(0, .int (xs 1)), (1, .int (xs 2))]) (st2 := [.int 0]) (w2 := (iv_wd iv_Az iv_Fz iv_Bz)) rfl ?_
                    exact iv_Gret rfl rfl rfl
                  show iv_G _ _ _ _ 16 [(0, .ref 1), (1, .int (xs 1)), (2, .int (xs 2))] [.int 0] (iv_wd iv_Az iv_Fz iv_Bz) true _ _ _
                  refine iv_Gm 3 (pc2 := 31) (lv2 := [(0, .ref 1), (1, .int (xs 1)), (2, .int (xs 2))]) (st2 := [.int (xs 2), .int (xs 1)]) (w2 := (iv_wd iv_Az iv_Fz iv_Bz)) rfl ?_
                  refine iv_Gcall (ν := 27) (c := 2) (as := [.int (xs 1), .int (xs 2)]) (rest := []) (w2 := (iv_wd iv_Az iv_Fz iv_Bz)) (tg2 := true) (k2 := 0) (z2 := 0) (v := (some (.int 0))) rfl rfl rfl rfl rfl rfl rfl (Nat.le_of_ble_eq_true rfl) rfl ?_ ?_
                  · refine iv_Gm 1 (pc2 := 1) (lv2 := [(0, .int (xs 1)), (1, .int (xs 2))]) (st2 := [.int (xs 1)]) (w2 := (iv_wd iv_Az iv_Fz iv_Bz)) rfl ?_
                    refine iv_Gcall (ν := 25) (c := 1) (as := [.int (xs 1)]) (rest := []) (w2 := (iv_wd iv_Az iv_Fz iv_Bz)) (tg2 := true) (k2 := 0) (z2 := 0) (v := (some (.int 1))) rfl rfl rfl rfl rfl rfl rfl (Nat.le_of_ble_eq_true rfl) rfl ?_ ?_
                    · refine iv_Gm 2 (pc2 := 2) (lv2 := [(0, .int (xs 1))]) (st2 := [.int 2, .int (xs 1)]) (w2 := (iv_wd iv_Az iv_Fz iv_Bz)) rfl ?_
                      refine iv_Gbf (c := decide ((xs 1) < 2)) (p1 := 15) (p2 := 5) (lv2 := [(0, .int (xs 1))]) (st2 := []) (w2 := (iv_wd iv_Az iv_Fz iv_Bz)) rfl (decide_eq_false h13) ?_
                      refine iv_Gm 2 (pc2 := 8) (lv2 := [(0, .int (xs 1))]) (st2 := [.int 32, .int (xs 1)]) (w2 := (iv_wd iv_Az iv_Fz iv_Bz)) rfl ?_
                      refine iv_Gbf (c := decide (32 ≤ (xs 1))) (p1 := 15) (p2 := 11) (lv2 := [(0, .int (xs 1))]) (st2 := []) (w2 := (iv_wd iv_Az iv_Fz iv_Bz)) rfl (decide_eq_false (Int32.not_le.mpr h15)) ?_
                      refine iv_Gm 2 (pc2 := 16) (lv2 := [(0, .int (xs 1))]) (st2 := [.int 1]) (w2 := (iv_wd iv_Az iv_Fz iv_Bz)) rfl ?_
                      exact iv_Gret rfl rfl rfl
                    show iv_G _ _ _ _ 4 [(0, .int (xs 1)), (1, .int (xs 2))] [.int 1] (iv_wd iv_Az iv_Fz iv_Bz) true _ _ _
                    refine iv_Gm 2 (pc2 := 8) (lv2 := [(0, .int (xs 1)), (1, .int (xs 2))]) (st2 := [.int (xs 2)]) (w2 := (iv_wd iv_Az iv_Fz iv_Bz)) rfl ?_
                    refine iv_Gbf (c := decide ((xs 2) < 0)) (p1 := 21) (p2 := 11) (lv2 := [(0, .int (xs 1)), (1, .int (xs 2))]) (st2 := []) (w2 := (iv_wd iv_Az iv_Fz iv_Bz)) rfl (decide_eq_false h16) ?_
                    refine iv_Gm 2 (pc2 := 14) (lv2 := [(0, .int (xs 1)), (1, .int (xs 2))]) (st2 := [.int 64, .int (xs 2)]) (w2 := (iv_wd iv_Az iv_Fz iv_Bz)) rfl ?_
                    refine iv_Gbt (c := decide (64 ≤ (xs 2))) (p1 := 21) (p2 := 17) (lv2 := [(0, .int (xs 1)), (1, .int (xs 2))]) (st2 := []) (w2 := (iv_wd iv_Az iv_Fz iv_Bz)) rfl (decide_eq_true (Int32.not_lt.mp h17)) ?_
                    refine iv_Gm 1 (pc2 := 22) (lv2 := [(0, .int (xs 1)), (1, .int (xs 2))]) (st2 := [.int 0]) (w2 := (iv_wd iv_Az iv_Fz iv_Bz)) rfl ?_
                    exact iv_Gret rfl rfl rfl
                  show iv_G _ _ _ _ 34 [(0, .ref 1), (1, .int (xs 1)), (2, .int (xs 2))] [.int 0] (iv_wd iv_Az iv_Fz iv_Bz) true _ _ _
                  refine iv_Gm 2 (pc2 := 50) (lv2 := [(0, .ref 1), (1, .int (xs 1)), (2, .int (xs 2))]) (st2 := [.int (-1)]) (w2 := (iv_wd iv_Az iv_Fz iv_Bz)) rfl ?_
                  exact iv_Gret rfl rfl rfl
                show iv_Fin _ _ _ _ 716 [(4, .int 0), (3, .ref 65), (2, .ref 44), (1, .ref 1), (0, .ref 0)] [.int (-1)] (iv_wd iv_Az iv_Fz iv_Bz) true _ _
                refine iv_Em 11 (pc2 := 729) (lv2 := [(4, .int 0), (3, .ref 65), (2, .ref 44), (1, .ref 1), (0, .ref 0)]) (st2 := [.int (xs 2), .int (xs 1), .ref 44, .int (-1)]) (w2 := (iv_wd iv_Az iv_Fz iv_Bz)) rfl ?_
                refine iv_Ecall (ν := 181) (c := 3) (as := [.ref 44, .int (xs 1), .int (xs 2)]) (rest := [.int (-1)]) (w2 := (iv_wd iv_Az (iv_uF iv_Fz 4400 0) iv_Bz)) (tg2 := true) (k2 := 0) (z2 := 0) (v := (some (.int (-1)))) rfl rfl rfl rfl rfl rfl rfl (Nat.le_of_ble_eq_true rfl) rfl ?_ ?_
                · refine iv_Gm 5 (pc2 := 7) (lv2 := [(0, .ref 44), (1, .int (xs 1)), (2, .int (xs 2))]) (st2 := [.int (-1), .int (xs 1)]) (w2 := (iv_wd iv_Az (iv_uF iv_Fz 4400 0) iv_Bz)) rfl ?_
                  refine iv_Gbt (c := decide (¬ (xs 1) = (-1))) (p1 := 83) (p2 := 10) (lv2 := [(0, .ref 44), (1, .int (xs 1)), (2, .int (xs 2))]) (st2 := []) (w2 := (iv_wd iv_Az (iv_uF iv_Fz 4400 0) iv_Bz)) rfl (decide_eq_true h1) ?_
                  refine iv_Gm 2 (pc2 := 85) (lv2 := [(0, .ref 44), (1, .int (xs 1)), (2, .int (xs 2))]) (st2 := [.int (xs 2), .int (xs 1)]) (w2 := (iv_wd iv_Az (iv_uF iv_Fz 4400 0) iv_Bz)) rfl ?_
                  refine iv_Gcall (ν := 178) (c := 2) (as := [.int (xs 1), .int (xs 2)]) (rest := []) (w2 := (iv_wd iv_Az (iv_uF iv_Fz 4400 0) iv_Bz)) (tg2 := true) (k2 := 0) (z2 := 0) (v := (some (.int 0))) rfl rfl rfl rfl rfl rfl rfl (Nat.le_of_ble_eq_true rfl) rfl ?_ ?_
                  · refine iv_Gm 1 (pc2 := 1) (lv2 := [(0, .int (xs 1)), (1, .int (xs 2))]) (st2 := [.int (xs 1)]) (w2 := (iv_wd iv_Az (iv_uF iv_Fz 4400 0) iv_Bz)) rfl ?_
                    refine iv_Gbf (c := decide ((xs 1) < 0)) (p1 := 34) (p2 := 4) (lv2 := [(0, .int (xs 1)), (1, .int (xs 2))]) (st2 := []) (w2 := (iv_wd iv_Az (iv_uF iv_Fz 4400 0) iv_Bz)) rfl (decide_eq_false (iv_ld2 h13 (by decide))) ?_
                    refine iv_Gm 2 (pc2 := 7) (lv2 := [(0, .int (xs 1)), (1, .int (xs 2))]) (st2 := [.int 31, .int (xs 1)]) (w2 := (iv_wd iv_Az (iv_uF iv_Fz 4400 0) iv_Bz)) rfl ?_
                    refine iv_Gbf (c := decide (31 < (xs 1))) (p1 := 34) (p2 := 10) (lv2 := [(0, .int (xs 1)), (1, .int (xs 2))]) (st2 := []) (w2 := (iv_wd iv_Az (iv_uF iv_Fz 4400 0) iv_Bz)) rfl (decide_eq_false (fun q => (iv_lg2 (by decide)).mp q h15)) ?_
                    refine iv_Gm 1 (pc2 := 11) (lv2 := [(0, .int (xs 1)), (1, .int (xs 2))]) (st2 := [.int (xs 2)]) (w2 := (iv_wd iv_Az (iv_uF iv_Fz 4400 0) iv_Bz)) rfl ?_
                    refine iv_Gbf (c := decide ((xs 2) < 0)) (p1 := 34) (p2 := 14) (lv2 := [(0, .int (xs 1)), (1, .int (xs 2))]) (st2 := []) (w2 := (iv_wd iv_Az (iv_uF iv_Fz 4400 0) iv_Bz)) rfl (decide_eq_false h16) ?_
                    refine iv_Gm 3 (pc2 := 17) (lv2 := [(0, .int (xs 1)), (1, .int (xs 2))]) (st2 := [.int 2, .int (xs 1), .int (xs 2)]) (w2 := (iv_wd iv_Az (iv_uF iv_Fz 4400 0) iv_Bz)) rfl ?_
                    refine iv_Gbt (c := decide (2 ≤ (xs 1))) (p1 := 25) (p2 := 20) (lv2 := [(0, .int (xs 1)), (1, .int (xs 2))]) (st2 := [.int (xs 2)]) (w2 := (iv_wd iv_Az (iv_uF iv_Fz 4400 0) iv_Bz)) rfl (decide_eq_true (Int32.not_lt.mp h13)) ?_
                    refine iv_Gm 1 (pc2 := 27) (lv2 := [(0, .int (xs 1)), (1, .int (xs 2))]) (st2 := [.int 64, .int (xs 2)]) (w2 := (iv_wd iv_Az (iv_uF iv_Fz 4400 0) iv_Bz)) rfl ?_
                    refine iv_Gbt (c := decide (64 ≤ (xs 2))) (p1 := 34) (p2 := 30) (lv2 := [(0, .int (xs 1)), (1, .int (xs 2))]) (st2 := []) (w2 := (iv_wd iv_Az (iv_uF iv_Fz 4400 0) iv_Bz)) rfl (decide_eq_true (Int32.not_lt.mp h17)) ?_
                    refine iv_Gm 1 (pc2 := 35) (lv2 := [(0, .int (xs 1)), (1, .int (xs 2))]) (st2 := [.int 0]) (w2 := (iv_wd iv_Az (iv_uF iv_Fz 4400 0) iv_Bz)) rfl ?_
                    exact iv_Gret rfl rfl rfl
                  show iv_G _ _ _ _ 88 [(0, .ref 44), (1, .int (xs 1)), (2, .int (xs 2))] [.int 0] (iv_wd iv_Az (iv_uF iv_Fz 4400 0) iv_Bz) true _ _ _
                  refine iv_Gm 2 (pc2 := 92) (lv2 := [(0, .ref 44), (1, .int (xs 1)), (2, .int (xs 2))]) (st2 := [.int (-1)]) (w2 := (iv_wd iv_Az (iv_uF iv_Fz 4400 0) iv_Bz)) rfl ?_
                  exact iv_Gret rfl rfl rfl
                show iv_Fin _ _ _ _ 732 [(4, .int 0), (3, .ref 65), (2, .ref 44), (1, .ref 1), (0, .ref 0)] [.int (-1), .int (-1)] (iv_wd iv_Az (iv_uF iv_Fz 4400 0) iv_Bz) true _ _
                refine iv_Em 10 (pc2 := 788) (lv2 := [(4, .int 6), (3, .ref 65), (2, .ref 44), (1, .ref 1), (0, .ref 0)]) (st2 := [.int 1]) (w2 := (iv_wd iv_Az (iv_uF iv_Fz 4400 0) iv_Bz)) rfl ?_
                exact iv_Eret rfl rfl rfl (by decide) (by decide)
          · refine iv_Em 11 (pc2 := 40) (lv2 := [(4, .int 0), (3, .ref 65), (2, .ref 44), (1, .ref 1), (0, .ref 0)]) (st2 := [.int ((xs 0) &&& 15)]) (w2 := (iv_wd iv_Az iv_Fz iv_Bz)) rfl ?_
            refine iv_Esw rfl rfl (show iv_sw 40 _ _ _ _ _ = some 700 by rw [h0]; rfl) ?_
            refine iv_Em 11 (pc2 := 713) (lv2 := [(4, .int 0), (3, .ref 65), (2, .ref 44), (1, .ref 1), (0, .ref 0)]) (st2 := [.int (xs 2), .int (xs 1), .ref 1]) (w2 := (iv_wd iv_Az iv_Fz iv_Bz)) rfl ?_
            refine iv_Ecall (ν := 14) (c := 3) (as := [.ref 1, .int (xs 1), .int (xs 2)]) (rest := []) (w2 := (iv_wd iv_Az iv_Fz iv_Bz)) (tg2 := true) (k2 := 0) (z2 := 0) (v := (some (.int (-1)))) rfl rfl rfl rfl rfl rfl rfl (Nat.le_of_ble_eq_true rfl) rfl ?_ ?_
            · refine iv_Gm 2 (pc2 := 2) (lv2 := [(0, .ref 1), (1, .int (xs 1)), (2, .int (xs 2))]) (st2 := [.int (-1), .int (xs 1)]) (w2 := (iv_wd iv_Az iv_Fz iv_Bz)) rfl ?_
              refine iv_Gbt (c := decide (¬ (xs 1) = (-1))) (p1 := 11) (p2 := 5) (lv2 := [(0, .ref 1), (1, .int (xs 1)), (2, .int (xs 2))]) (st2 := []) (w2 := (iv_wd iv_Az iv_Fz iv_Bz)) rfl (decide_eq_true h1) ?_
              refine iv_Gm 2 (pc2 := 13) (lv2 := [(0, .ref 1), (1, .int (xs 1)), (2, .int (xs 2))]) (st2 := [.int (xs 2), .int (xs 1)]) (w2 := (iv_wd iv_Az iv_Fz iv_Bz)) rfl ?_
              refine iv_Gcall (ν := 26) (c := 2) (as := [.int (xs 1), .int (xs 2)]) (rest := []) (w2 := (iv_wd iv_Az iv_Fz iv_Bz)) (tg2 := true) (k2 := 0) (z2 := 0) (v := (some (.int 0))) rfl rfl rfl rfl rfl rfl rfl (Nat.le_of_ble_eq_true rfl) rfl ?_ ?_
              · refine iv_Gm 1 (pc2 := 1) (lv2 := [(0, .int (xs 1)), (1, .int (xs 2))]) (st2 := [.int (xs 1)]) (w2 := (iv_wd iv_Az iv_Fz iv_Bz)) rfl ?_
                refine iv_Gbf (c := decide ((xs 1) = 0)) (p1 := 9) (p2 := 4) (lv2 := [(0, .int (xs 1)), (1, .int (xs 2))]) (st2 := []) (w2 := (iv_wd iv_Az iv_Fz iv_Bz)) rfl (decide_eq_false h7) ?_
                refine iv_Gm 2 (pc2 := 6) (lv2 := [(0, .int (xs 1)), (1, .int (xs 2))]) (st2 := [.int 1, .int (xs 1)]) (w2 := (iv_wd iv_Az iv_Fz iv_Bz)) rfl ?_
                refine iv_Gbt (c := decide (¬ (xs 1) = 1)) (p1 := 23) (p2 := 9) (lv2 := [(0, .int (xs 1)), (1, .int (xs 2))]) (st2 := []) (w2 := (iv_wd iv_Az iv_Fz iv_Bz)) rfl (decide_eq_true h10) ?_
                refine iv_Gm 1 (pc2 := 24) (lv2 := [(0, .int (xs 1)), (1, .int (xs 2))]) (st2 := [.int 0]) (w2 := (iv_wd iv_Az iv_Fz iv_Bz)) rfl ?_
                exact iv_Gret rfl rfl rfl
              show iv_G _ _ _ _ 16 [(0, .ref 1), (1, .int (xs 1)), (2, .int (xs 2))] [.int 0] (iv_wd iv_Az iv_Fz iv_Bz) true _ _ _
              refine iv_Gm 3 (pc2 := 31) (lv2 := [(0, .ref 1), (1, .int (xs 1)), (2, .int (xs 2))]) (st2 := [.int (xs 2), .int (xs 1)]) (w2 := (iv_wd iv_Az iv_Fz iv_Bz)) rfl ?_
              refine iv_Gcall (ν := 27) (c := 2) (as := [.int (xs 1), .int (xs 2)]) (rest := []) (w2 := (iv_wd iv_Az iv_Fz iv_Bz)) (tg2 := true) (k2 := 0) (z2 := 0) (v := (some (.int 0))) rfl rfl rfl rfl rfl rfl rfl (Nat.le_of_ble_eq_true rfl) rfl ?_ ?_
              · refine iv_Gm 1 (pc2 := 1) (lv2 := [(0, .int (xs 1)), (1, .int (xs 2))]) (st2 := [.int (xs 1)]) (w2 := (iv_wd iv_Az iv_Fz iv_Bz)) rfl ?_
                refine iv_Gcall (ν := 25) (c := 1) (as := [.int (xs 1)]) (rest := []) (w2 := (iv_wd iv_Az iv_Fz iv_Bz)) (tg2 := true) (k2 := 0) (z2 := 0) (v := (some (.int 0))) rfl rfl rfl rfl rfl rfl rfl (Nat.le_of_ble_eq_true rfl) rfl ?_ ?_
                · refine iv_Gm 2 (pc2 := 2) (lv2 := [(0, .int (xs 1))]) (st2 := [.int 2, .int (xs 1)]) (w2 := (iv_wd iv_Az iv_Fz iv_Bz)) rfl ?_
                  refine iv_Gbf (c := decide ((xs 1) < 2)) (p1 := 15) (p2 := 5) (lv2 := [(0, .int (xs 1))]) (st2 := []) (w2 := (iv_wd iv_Az iv_Fz iv_Bz)) rfl (decide_eq_false h13) ?_
                  refine iv_Gm 2 (pc2 := 8) (lv2 := [(0, .int (xs 1))]) (st2 := [.int 32, .int (xs 1)]) (w2 := (iv_wd iv_Az iv_Fz iv_Bz)) rfl ?_
                  refine iv_Gbt (c := decide (32 ≤ (xs 1))) (p1 := 15) (p2 := 11) (lv2 := [(0, .int (xs 1))]) (st2 := []) (w2 := (iv_wd iv_Az iv_Fz iv_Bz)) rfl (decide_eq_true (Int32.not_lt.mp h15)) ?_
                  refine iv_Gm 1 (pc2 := 16) (lv2 := [(0, .int (xs 1))]) (st2 := [.int 0]) (w2 := (iv_wd iv_Az iv_Fz iv_Bz)) rfl ?_
                  exact iv_Gret rfl rfl rfl
                show iv_G _ _ _ _ 4 [(0, .int (xs 1)), (1, .int (xs 2))] [.int 0] (iv_wd iv_Az iv_Fz iv_Bz) true _ _ _
                refine iv_Gm 2 (pc2 := 22) (lv2 := [(0, .int (xs 1)), (1, .int (xs 2))]) (st2 := [.int 0]) (w2 := (iv_wd iv_Az iv_Fz iv_Bz)) rfl ?_
                exact iv_Gret rfl rfl rfl
              show iv_G _ _ _ _ 34 [(0, .ref 1), (1, .int (xs 1)), (2, .int (xs 2))] [.int 0] (iv_wd iv_Az iv_Fz iv_Bz) true _ _ _
              refine iv_Gm 2 (pc2 := 50) (lv2 := [(0, .ref 1), (1, .int (xs 1)), (2, .int (xs 2))]) (st2 := [.int (-1)]) (w2 := (iv_wd iv_Az iv_Fz iv_Bz)) rfl ?_
              exact iv_Gret rfl rfl rfl
            show iv_Fin _ _ _ _ 716 [(4, .int 0), (3, .ref 65), (2, .ref 44), (1, .ref 1), (0, .ref 0)] [.int (-1)] (iv_wd iv_Az iv_Fz iv_Bz) true _ _
            refine iv_Em 11 (pc2 := 729) (lv2 := [(4, .int 0), (3, .ref 65), (2, .ref 44), (1, .ref 1), (0, .ref 0)]) (st2 := [.int (xs 2), .int (xs 1), .ref 44, .int (-1)]) (w2 := (iv_wd iv_Az iv_Fz iv_Bz)) rfl ?_
            refine iv_Ecall (ν := 181) (c := 3) (as := [.ref 44, .int (xs 1), .int (xs 2)]) (rest := [.int (-1)]) (w2 := (iv_wd iv_Az (iv_uF iv_Fz 4400 0) iv_Bz)) (tg2 := true) (k2 := 0) (z2 := 0) (v := (some (.int (-1)))) rfl rfl rfl rfl rfl rfl rfl (Nat.le_of_ble_eq_true rfl) rfl ?_ ?_
            · refine iv_Gm 5 (pc2 := 7) (lv2 := [(0, .ref 44), (1, .int (xs 1)), (2, .int (xs 2))]) (st2 := [.int (-1), .int (xs 1)]) (w2 := (iv_wd iv_Az (iv_uF iv_Fz 4400 0) iv_Bz)) rfl ?_
              refine iv_Gbt (c := decide (¬ (xs 1) = (-1))) (p1 := 83) (p2 := 10) (lv2 := [(0, .ref 44), (1, .int (xs 1)), (2, .int (xs 2))]) (st2 := []) (w2 := (iv_wd iv_Az (iv_uF iv_Fz 4400 0) iv_Bz)) rfl (decide_eq_true h1) ?_
              refine iv_Gm 2 (pc2 := 85) (lv2 := [(0, .ref 44), (1, .int (xs 1)), (2, .int (xs 2))]) (st2 := [.int (xs 2), .int (xs 1)]) (w2 := (iv_wd iv_Az (iv_uF iv_Fz 4400 0) iv_Bz)) rfl ?_
              refine iv_Gcall (ν := 178) (c := 2) (as := [.int (xs 1), .int (xs 2)]) (rest := []) (w2 := (iv_wd iv_Az (iv_uF iv_Fz 4400 0) iv_Bz)) (tg2 := true) (k2 := 0) (z2 := 0) (v := (some (.int 0))) rfl rfl rfl rfl rfl rfl rfl (Nat.le_of_ble_eq_true rfl) rfl ?_ ?_
              · refine iv_Gm 1 (pc2 := 1) (lv2 := [(0, .int (xs 1)), (1, .int (xs 2))]) (st2 := [.int (xs 1)]) (w2 := (iv_wd iv_Az (iv_uF iv_Fz 4400 0) iv_Bz)) rfl ?_
                refine iv_Gbf (c := decide ((xs 1) < 0)) (p1 := 34) (p2 := 4) (lv2 := [(0, .int (xs 1)), (1, .int (xs 2))]) (st2 := []) (w2 := (iv_wd iv_Az (iv_uF iv_Fz 4400 0) iv_Bz)) rfl (decide_eq_false (iv_ld2 h13 (by decide))) ?_
                refine iv_Gm 2 (pc2 := 7) (lv2 := [(0, .int (xs 1)), (1, .int (xs 2))]) (st2 := [.int 31, .int (xs 1)]) (w2 := (iv_wd iv_Az (iv_uF iv_Fz 4400 0) iv_Bz)) rfl ?_
                refine iv_Gbt (c := decide (31 < (xs 1))) (p1 := 34) (p2 := 10) (lv2 := [(0, .int (xs 1)), (1, .int (xs 2))]) (st2 := []) (w2 := (iv_wd iv_Az (iv_uF iv_Fz 4400 0) iv_Bz)) rfl (decide_eq_true ((iv_lg2 (by decide)).mpr h15)) ?_
                refine iv_Gm 1 (pc2 := 35) (lv2 := [(0, .int (xs 1)), (1, .int (xs 2))]) (st2 := [.int 0]) (w2 := (iv_wd iv_Az (iv_uF iv_Fz 4400 0) iv_Bz)) rfl ?_
                exact iv_Gret rfl rfl rfl
              show iv_G _ _ _ _ 88 [(0, .ref 44), (1, .int (xs 1)), (2, .int (xs 2))] [.int 0] (iv_wd iv_Az (iv_uF iv_Fz 4400 0) iv_Bz) true _ _ _
              refine iv_Gm 2 (pc2 := 92) (lv2 := [(0, .ref 44), (1, .int (xs 1)), (2, .int (xs 2))]) (st2 := [.int (-1)]) (w2 := (iv_wd iv_Az (iv_uF iv_Fz 4400 0) iv_Bz)) rfl ?_
              exact iv_Gret rfl rfl rfl
            show iv_Fin _ _ _ _ 732 [(4, .int 0), (3, .ref 65), (2, .ref 44), (1, .ref 1), (0, .ref 0)] [.int (-1), .int (-1)] (iv_wd iv_Az (iv_uF iv_Fz 4400 0) iv_Bz) true _ _
            refine iv_Em 10 (pc2 := 788) (lv2 := [(4, .int 6), (3, .ref 65), (2, .ref 44), (1, .ref 1), (0, .ref 0)]) (st2 := [.int 1]) (w2 := (iv_wd iv_Az (iv_uF iv_Fz 4400 0) iv_Bz)) rfl ?_
            exact iv_Eret rfl rfl rfl (by decide) (by decide)
