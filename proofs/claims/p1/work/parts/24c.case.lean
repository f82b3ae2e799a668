set_option maxRecDepth 1000000 in
set_option maxHeartbeats 40000000 in
theorem iv_case_2 (xs : Nat → Int32) (h0 : xs 0 &&& 15 = 2) : iv_Fin 6 xs 20 0 23 [(4, .int 0), (3, .ref 65), (2, .ref 44), (1, .ref 1), (0, .ref 0)] [] (iv_wd iv_Az iv_Fz iv_Bz) true 65 10417 := by
  by_cases h1 : (xs 1) = 0
  · by_cases h2 : (xs 2) < 0
    · refine iv_Em 11 (pc2 := 40) (lv2 := [(4, .int 0), (3, .ref 65), (2, .ref 44), (1, .ref 1), (0, .ref 0)]) (st2 := [.int ((xs 0) &&& 15)]) (w2 := (iv_wd iv_Az iv_Fz iv_Bz)) rfl ?_
      refine iv_Esw rfl rfl (show iv_sw 40 _ _ _ _ _ = some 180 by rw [h0]; rfl) ?_
      refine iv_Em 6 (pc2 := 187) (lv2 := [(4, .int 0), (3, .ref 65), (2, .ref 44), (1, .ref 1), (0, .ref 0)]) (st2 := [.int (xs 1), .ref 1]) (w2 := (iv_wd iv_Az iv_Fz iv_Bz)) rfl ?_
      rw [h1]
      refine iv_Em 8 (pc2 := 202) (lv2 := [(4, .int 0), (3, .ref 65), (2, .ref 44), (1, .ref 1), (0, .ref 0)]) (st2 := [.ref 65, .int (xs 2), .int 0, .ref 1]) (w2 := (iv_wd iv_Az iv_Fz iv_Bz)) rfl ?_
      refine iv_Ecall (ν := 187) (c := 4) (as := [.ref 1, .int 0, .int (xs 2), .ref 65]) (rest := []) (w2 := (iv_wd iv_Az iv_Fz iv_Bz)) (tg2 := false) (k2 := 1) (z2 := 6) (v := (some (.int 2))) rfl rfl rfl rfl rfl rfl rfl (by decide) rfl ?_ ?_
      · refine iv_Gm 5 (pc2 := 5) (lv2 := [(0, .ref 1), (1, .int 0), (2, .int (xs 2)), (3, .ref 65)]) (st2 := [.int (xs 2), .int 0, .ref 1, .int 0, .ref 65]) (w2 := (iv_wd iv_Az iv_Fz iv_Bz)) rfl ?_
        refine iv_GcallH (ν := 4) (c := 3) (as := [.ref 1, .int 0, .int (xs 2)]) (rest := [.int 0, .ref 65]) (w2 := (iv_wd iv_Az iv_Fz iv_Bz)) (tg2 := false) (k2 := 1) (z2 := 6) (q := 1) (pc2 := 19) (j := 4) rfl rfl (by decide) rfl rfl rfl rfl rfl (by decide) rfl rfl ?_ ?_
        · refine iv_Gm 2 (pc2 := 2) (lv2 := [(0, .ref 1), (1, .int 0), (2, .int (xs 2))]) (st2 := [.int (xs 2), .ref 1]) (w2 := (iv_wd iv_Az iv_Fz iv_Bz)) rfl ?_
          refine iv_Gcall (ν := 24) (c := 1) (as := [.int (xs 2)]) (rest := [.ref 1]) (w2 := (iv_wd iv_Az iv_Fz iv_Bz)) (tg2 := true) (k2 := 0) (z2 := 0) (v := (some (.int 0))) rfl rfl rfl rfl rfl rfl rfl (by decide) rfl ?_ ?_
          · refine iv_Gm 1 (pc2 := 1) (lv2 := [(0, .int (xs 2))]) (st2 := [.int (xs 2)]) (w2 := (iv_wd iv_Az iv_Fz iv_Bz)) rfl ?_
            refine iv_Gbt (c := decide ((xs 2) < 0)) (p1 := 15) (p2 := 4) (lv2 := [(0, .int (xs 2))]) (st2 := []) (w2 := (iv_wd iv_Az iv_Fz iv_Bz)) rfl (decide_eq_true h2) ?_
            refine iv_Gm 1 (pc2 := 16) (lv2 := [(0, .int (xs 2))]) (st2 := [.int 0]) (w2 := (iv_wd iv_Az iv_Fz iv_Bz)) rfl ?_
            exact iv_Gret rfl rfl rfl
          show iv_G _ _ _ _ 5 [(0, .ref 1), (1, .int 0), (2, .int (xs 2))] [.int 0, .ref 1] (iv_wd iv_Az iv_Fz iv_Bz) true _ _ _
          refine iv_GcallT (ν := 17) (c := 2) (as := [.ref 1, .int 0]) (rest := []) (w2 := (iv_wd iv_Az iv_Fz iv_Bz)) (tg2 := false) (k2 := 1) (z2 := 6) (q := 1) rfl rfl (by decide) rfl rfl rfl rfl rfl (by decide) rfl rfl rfl ?_
          · exact ⟨15, rfl⟩
        show iv_G _ _ _ _ 19 [(0, .ref 1), (1, .int 0), (2, .int (xs 2)), (3, .ref 65)] [] (iv_wd iv_Az iv_Fz iv_Bz) false _ _ _
        refine iv_Gm 1 (pc2 := 20) (lv2 := [(0, .ref 1), (1, .int 0), (2, .int (xs 2)), (3, .ref 65)]) (st2 := [.int 2]) (w2 := (iv_wd iv_Az iv_Fz iv_Bz)) rfl ?_
        exact iv_Gret rfl rfl rfl
      show iv_Fin _ _ _ _ 205 [(4, .int 0), (3, .ref 65), (2, .ref 44), (1, .ref 1), (0, .ref 0)] [.int 2] (iv_wd iv_Az iv_Fz iv_Bz) false _ _
      refine iv_Em 7 (pc2 := 214) (lv2 := [(5, .int 2), (4, .int 0), (3, .ref 65), (2, .ref 44), (1, .ref 1), (0, .ref 0)]) (st2 := [.int (xs 1), .ref 44]) (w2 := (iv_wd iv_Az iv_Fz iv_Bz)) rfl ?_
      rw [h1]
      refine iv_Em 7 (pc2 := 228) (lv2 := [(5, .int 2), (4, .int 0), (3, .ref 65), (2, .ref 44), (1, .ref 1), (0, .ref 0)]) (st2 := [.int (xs 2), .int 0, .ref 44]) (w2 := (iv_wd iv_Az iv_Fz iv_Bz)) rfl ?_
      refine iv_Ecall (ν := 167) (c := 3) (as := [.ref 44, .int 0, .int (xs 2)]) (rest := []) (w2 := (iv_wd iv_Az (iv_uF (iv_uF iv_Fz 4410 0) 4400 2) iv_Bz)) (tg2 := false) (k2 := 0) (z2 := 0) (v := (some (.int 0))) rfl rfl rfl rfl rfl rfl rfl (by decide) rfl ?_ ?_
      · refine iv_Gm 2 (pc2 := 2) (lv2 := [(0, .ref 44), (1, .int 0), (2, .int (xs 2))]) (st2 := [.int (xs 2), .ref 44]) (w2 := (iv_wd iv_Az iv_Fz iv_Bz)) rfl ?_
        refine iv_Gbt (c := decide ((xs 2) < 0)) (p1 := 16) (p2 := 5) (lv2 := [(0, .ref 44), (1, .int 0), (2, .int (xs 2))]) (st2 := [.ref 44]) (w2 := (iv_wd iv_Az iv_Fz iv_Bz)) rfl (decide_eq_true h2) ?_
        refine iv_Gm 1 (pc2 := 17) (lv2 := [(0, .ref 44), (1, .int 0), (2, .int (xs 2))]) (st2 := [.int 0, .ref 44]) (w2 := (iv_wd iv_Az iv_Fz iv_Bz)) rfl ?_
        refine iv_Gcall (ν := 160) (c := 2) (as := [.ref 44, .int 0]) (rest := []) (w2 := (iv_wd iv_Az (iv_uF iv_Fz 4410 0) iv_Bz)) (tg2 := false) (k2 := 0) (z2 := 0) (v := (some (.int 2))) rfl rfl rfl rfl rfl rfl rfl (by decide) rfl ?_ ?_
        · exact ⟨24, rfl⟩
        show iv_G _ _ _ _ 20 [(0, .ref 44), (1, .int 0), (2, .int (xs 2))] [.int 2] (iv_wd iv_Az (iv_uF iv_Fz 4410 0) iv_Bz) false _ _ _
        refine iv_Gm 5 (pc2 := 27) (lv2 := [(3, .int 2), (0, .ref 44), (1, .int 0), (2, .int (xs 2))]) (st2 := [.int 2, .ref 44]) (w2 := (iv_wd iv_Az (iv_uF iv_Fz 4410 0) iv_Bz)) rfl ?_
        refine iv_Gcall (ν := 134) (c := 2) (as := [.ref 44, .int 2]) (rest := []) (w2 := (iv_wd iv_Az (iv_uF (iv_uF iv_Fz 4410 0) 4400 2) iv_Bz)) (tg2 := false) (k2 := 0) (z2 := 0) (v := (some (.int 0))) rfl rfl rfl rfl rfl rfl rfl (by decide) rfl ?_ ?_
        · exact ⟨7, rfl⟩
        show iv_G _ _ _ _ 30 [(3, .int 2), (0, .ref 44), (1, .int 0), (2, .int (xs 2))] [.int 0] (iv_wd iv_Az (iv_uF (iv_uF iv_Fz 4410 0) 4400 2) iv_Bz) false _ _ _
        exact iv_Gret rfl rfl rfl
      show iv_Fin _ _ _ _ 231 [(5, .int 2), (4, .int 0), (3, .ref 65), (2, .ref 44), (1, .ref 1), (0, .ref 0)] [.int 0] (iv_wd iv_Az (iv_uF (iv_uF iv_Fz 4410 0) 4400 2) iv_Bz) false _ _
      refine iv_Em 2 (pc2 := 234) (lv2 := [(6, .int 0), (5, .int 2), (4, .int 0), (3, .ref 65), (2, .ref 44), (1, .ref 1), (0, .ref 0)]) (st2 := [.ref 44]) (w2 := (iv_wd iv_Az (iv_uF (iv_uF iv_Fz 4410 0) 4400 2) iv_Bz)) rfl ?_
      refine iv_Ecall (ν := 133) (c := 1) (as := [.ref 44]) (rest := []) (w2 := (iv_wd iv_Az (iv_uF (iv_uF iv_Fz 4410 0) 4400 2) iv_Bz)) (tg2 := false) (k2 := 0) (z2 := 0) (v := (some (.int 2))) rfl rfl rfl rfl rfl rfl rfl (by decide) rfl ?_ ?_
      · exact ⟨5, rfl⟩
      show iv_Fin _ _ _ _ 237 [(6, .int 0), (5, .int 2), (4, .int 0), (3, .ref 65), (2, .ref 44), (1, .ref 1), (0, .ref 0)] [.int 2] (iv_wd iv_Az (iv_uF (iv_uF iv_Fz 4410 0) 4400 2) iv_Bz) false _ _
      refine iv_Em 14 (pc2 := 788) (lv2 := [(4, .int 6), (6, .int 0), (5, .int 2), (3, .ref 65), (2, .ref 44), (1, .ref 1), (0, .ref 0)]) (st2 := [.int 1]) (w2 := (iv_wd iv_Az (iv_uF (iv_uF iv_Fz 4410 0) 4400 2) iv_Bz)) rfl ?_
      exact iv_Eret rfl rfl rfl (by decide) (by decide)
    · by_cases h3 : (xs 2) < 256
      · refine iv_Em 11 (pc2 := 40) (lv2 := [(4, .int 0), (3, .ref 65), (2, .ref 44), (1, .ref 1), (0, .ref 0)]) (st2 := [.int ((xs 0) &&& 15)]) (w2 := (iv_wd iv_Az iv_Fz iv_Bz)) rfl ?_
        refine iv_Esw rfl rfl (show iv_sw 40 _ _ _ _ _ = some 180 by rw [h0]; rfl) ?_
        refine iv_Em 6 (pc2 := 187) (lv2 := [(4, .int 0), (3, .ref 65), (2, .ref 44), (1, .ref 1), (0, .ref 0)]) (st2 := [.int (xs 1), .ref 1]) (w2 := (iv_wd iv_Az iv_Fz iv_Bz)) rfl ?_
        rw [h1]
        refine iv_Em 8 (pc2 := 202) (lv2 := [(4, .int 0), (3, .ref 65), (2, .ref 44), (1, .ref 1), (0, .ref 0)]) (st2 := [.ref 65, .int (xs 2), .int 0, .ref 1]) (w2 := (iv_wd iv_Az iv_Fz iv_Bz)) rfl ?_
        refine iv_Ecall (ν := 187) (c := 4) (as := [.ref 1, .int 0, .int (xs 2), .ref 65]) (rest := []) (w2 := (iv_wd iv_Az (iv_uF iv_Fz 604 0) iv_Bz)) (tg2 := false) (k2 := 1) (z2 := 6) (v := (some (.int 2))) rfl rfl rfl rfl rfl rfl rfl (by decide) rfl ?_ ?_
        · refine iv_Gm 5 (pc2 := 5) (lv2 := [(0, .ref 1), (1, .int 0), (2, .int (xs 2)), (3, .ref 65)]) (st2 := [.int (xs 2), .int 0, .ref 1, .int 0, .ref 65]) (w2 := (iv_wd iv_Az iv_Fz iv_Bz)) rfl ?_
          refine iv_GcallH (ν := 4) (c := 3) (as := [.ref 1, .int 0, .int (xs 2)]) (rest := [.int 0, .ref 65]) (w2 := (iv_wd iv_Az (iv_uF iv_Fz 604 0) iv_Bz)) (tg2 := false) (k2 := 1) (z2 := 6) (q := 1) (pc2 := 19) (j := 4) rfl rfl (by decide) rfl rfl rfl rfl rfl (by decide) rfl rfl ?_ ?_
          · refine iv_Gm 2 (pc2 := 2) (lv2 := [(0, .ref 1), (1, .int 0), (2, .int (xs 2))]) (st2 := [.int (xs 2), .ref 1]) (w2 := (iv_wd iv_Az iv_Fz iv_Bz)) rfl ?_
            refine iv_Gcall (ν := 24) (c := 1) (as := [.int (xs 2)]) (rest := [.ref 1]) (w2 := (iv_wd iv_Az iv_Fz iv_Bz)) (tg2 := true) (k2 := 0) (z2 := 0) (v := (some (.int 1))) rfl rfl rfl rfl rfl rfl rfl (by decide) rfl ?_ ?_
            · refine iv_Gm 1 (pc2 := 1) (lv2 := [(0, .int (xs 2))]) (st2 := [.int (xs 2)]) (w2 := (iv_wd iv_Az iv_Fz iv_Bz)) rfl ?_
              refine iv_Gbf (c := decide ((xs 2) < 0)) (p1 := 15) (p2 := 4) (lv2 := [(0, .int (xs 2))]) (st2 := []) (w2 := (iv_wd iv_Az iv_Fz iv_Bz)) rfl (decide_eq_false h2) ?_
              refine iv_Gm 2 (pc2 := 8) (lv2 := [(0, .int (xs 2))]) (st2 := [.int 255, .int (xs 2)]) (w2 := (iv_wd iv_Az iv_Fz iv_Bz)) rfl ?_
              refine iv_Gbf (c := decide (255 < (xs 2))) (p1 := 15) (p2 := 11) (lv2 := [(0, .int (xs 2))]) (st2 := []) (w2 := (iv_wd iv_Az iv_Fz iv_Bz)) rfl (decide_eq_false (fun q => (iv_lg2 (by decide)).mp q h3)) ?_
              refine iv_Gm 2 (pc2 := 16) (lv2 := [(0, .int (xs 2))]) (st2 := [.int 1]) (w2 := (iv_wd iv_Az iv_Fz iv_Bz)) rfl ?_
              exact iv_Gret rfl rfl rfl
            show iv_G _ _ _ _ 5 [(0, .ref 1), (1, .int 0), (2, .int (xs 2))] [.int 1, .ref 1] (iv_wd iv_Az iv_Fz iv_Bz) true _ _ _
            refine iv_GcallT (ν := 17) (c := 2) (as := [.ref 1, .int 1]) (rest := []) (w2 := (iv_wd iv_Az (iv_uF iv_Fz 604 0) iv_Bz)) (tg2 := false) (k2 := 1) (z2 := 6) (q := 1) rfl rfl (by decide) rfl rfl rfl rfl rfl (by decide) rfl rfl rfl ?_
            · exact ⟨43, rfl⟩
          show iv_G _ _ _ _ 19 [(0, .ref 1), (1, .int 0), (2, .int (xs 2)), (3, .ref 65)] [] (iv_wd iv_Az (iv_uF iv_Fz 604 0) iv_Bz) false _ _ _
          refine iv_Gm 1 (pc2 := 20) (lv2 := [(0, .ref 1), (1, .int 0), (2, .int (xs 2)), (3, .ref 65)]) (st2 := [.int 2]) (w2 := (iv_wd iv_Az (iv_uF iv_Fz 604 0) iv_Bz)) rfl ?_
          exact iv_Gret rfl rfl rfl
        show iv_Fin _ _ _ _ 205 [(4, .int 0), (3, .ref 65), (2, .ref 44), (1, .ref 1), (0, .ref 0)] [.int 2] (iv_wd iv_Az (iv_uF iv_Fz 604 0) iv_Bz) false _ _
        refine iv_Em 7 (pc2 := 214) (lv2 := [(5, .int 2), (4, .int 0), (3, .ref 65), (2, .ref 44), (1, .ref 1), (0, .ref 0)]) (st2 := [.int (xs 1), .ref 44]) (w2 := (iv_wd iv_Az (iv_uF iv_Fz 604 0) iv_Bz)) rfl ?_
        rw [h1]
        refine iv_Em 7 (pc2 := 228) (lv2 := [(5, .int 2), (4, .int 0), (3, .ref 65), (2, .ref 44), (1, .ref 1), (0, .ref 0)]) (st2 := [.int (xs 2), .int 0, .ref 44]) (w2 := (iv_wd iv_Az (iv_uF iv_Fz 604 0) iv_Bz)) rfl ?_
        refine iv_Ecall (ν := 167) (c := 3) (as := [.ref 44, .int 0, .int (xs 2)]) (rest := []) (w2 := (iv_wd iv_Az (iv_uF (iv_uF (iv_uF iv_Fz 604 0) 4410 0) 4400 2) iv_Bz)) (tg2 := false) (k2 := 0) (z2 := 0) (v := (some (.int 0))) rfl rfl rfl rfl rfl rfl rfl (by decide) rfl ?_ ?_
        · refine iv_Gm 2 (pc2 := 2) (lv2 := [(0, .ref 44), (1, .int 0), (2, .int (xs 2))]) (st2 := [.int (xs 2), .ref 44]) (w2 := (iv_wd iv_Az (iv_uF iv_Fz 604 0) iv_Bz)) rfl ?_
          refine iv_Gbf (c := decide ((xs 2) < 0)) (p1 := 16) (p2 := 5) (lv2 := [(0, .ref 44), (1, .int 0), (2, .int (xs 2))]) (st2 := [.ref 44]) (w2 := (iv_wd iv_Az (iv_uF iv_Fz 604 0) iv_Bz)) rfl (decide_eq_false h2) ?_
          refine iv_Gm 2 (pc2 := 9) (lv2 := [(0, .ref 44), (1, .int 0), (2, .int (xs 2))]) (st2 := [.int 255, .int (xs 2), .ref 44]) (w2 := (iv_wd iv_Az (iv_uF iv_Fz 604 0) iv_Bz)) rfl ?_
          refine iv_Gbf (c := decide (255 < (xs 2))) (p1 := 16) (p2 := 12) (lv2 := [(0, .ref 44), (1, .int 0), (2, .int (xs 2))]) (st2 := [.ref 44]) (w2 := (iv_wd iv_Az (iv_uF iv_Fz 604 0) iv_Bz)) rfl (decide_eq_false (fun q => (iv_lg2 (by decide)).mp q h3)) ?_
          refine iv_Gm 2 (pc2 := 17) (lv2 := [(0, .ref 44), (1, .int 0), (2, .int (xs 2))]) (st2 := [.int 1, .ref 44]) (w2 := (iv_wd iv_Az (iv_uF iv_Fz 604 0) iv_Bz)) rfl ?_
          refine iv_Gcall (ν := 160) (c := 2) (as := [.ref 44, .int 1]) (rest := []) (w2 := (iv_wd iv_Az (iv_uF (iv_uF iv_Fz 604 0) 4410 0) iv_Bz)) (tg2 := false) (k2 := 0) (z2 := 0) (v := (some (.int 2))) rfl rfl rfl rfl rfl rfl rfl (by decide) rfl ?_ ?_
          · exact ⟨24, rfl⟩
          show iv_G _ _ _ _ 20 [(0, .ref 44), (1, .int 0), (2, .int (xs 2))] [.int 2] (iv_wd iv_Az (iv_uF (iv_uF iv_Fz 604 0) 4410 0) iv_Bz) false _ _ _
          refine iv_Gm 5 (pc2 := 27) (lv2 := [(3, .int 2), (0, .ref 44), (1, .int 0), (2, .int (xs 2))]) (st2 := [.int 2, .ref 44]) (w2 := (iv_wd iv_Az (iv_uF (iv_uF iv_Fz 604 0) 4410 0) iv_Bz)) rfl ?_
          refine iv_Gcall (ν := 134) (c := 2) (as := [.ref 44, .int 2]) (rest := []) (w2 := (iv_wd iv_Az (iv_uF (iv_uF (iv_uF iv_Fz 604 0) 4410 0) 4400 2) iv_Bz)) (tg2 := false) (k2 := 0) (z2 := 0) (v := (some (.int 0))) rfl rfl rfl rfl rfl rfl rfl (by decide) rfl ?_ ?_
          · exact ⟨7, rfl⟩
          show iv_G _ _ _ _ 30 [(3, .int 2), (0, .ref 44), (1, .int 0), (2, .int (xs 2))] [.int 0] (iv_wd iv_Az (iv_uF (iv_uF (iv_uF iv_Fz 604 0) 4410 0) 4400 2) iv_Bz) false _ _ _
          exact iv_Gret rfl rfl rfl
        show iv_Fin _ _ _ _ 231 [(5, .int 2), (4, .int 0), (3, .ref 65), (2, .ref 44), (1, .ref 1), (0, .ref 0)] [.int 0] (iv_wd iv_Az (iv_uF (iv_uF (iv_uF iv_Fz 604 0) 4410 0) 4400 2) iv_Bz) false _ _
        refine iv_Em 2 (pc2 := 234) (lv2 := [(6, .int 0), (5, .int 2), (4, .int 0), (3, .ref 65), (2, .ref 44), (1, .ref 1), (0, .ref 0)]) (st2 := [.ref 44]) (w2 := (iv_wd iv_Az (iv_uF (iv_uF (iv_uF iv_Fz 604 0) 4410 0) 4400 2) iv_Bz)) rfl ?_
        refine iv_Ecall (ν := 133) (c := 1) (as := [.ref 44]) (rest := []) (w2 := (iv_wd iv_Az (iv_uF (iv_uF (iv_uF iv_Fz 604 0) 4410 0) 4400 2) iv_Bz)) (tg2 := false) (k2 := 0) (z2 := 0) (v := (some (.int 2))) rfl rfl rfl rfl rfl rfl rfl (by decide) rfl ?_ ?_
        · exact ⟨5, rfl⟩
        show iv_Fin _ _ _ _ 237 [(6, .int 0), (5, .int 2), (4, .int 0), (3, .ref 65), (2, .ref 44), (1, .ref 1), (0, .ref 0)] [.int 2] (iv_wd iv_Az (iv_uF (iv_uF (iv_uF iv_Fz 604 0) 4410 0) 4400 2) iv_Bz) false _ _
        refine iv_Em 14 (pc2 := 788) (lv2 := [(4, .int 6), (6, .int 0), (5, .int 2), (3, .ref 65), (2, .ref 44), (1, .ref 1), (0, .ref 0)]) (st2 := [.int 1]) (w2 := (iv_wd iv_Az (iv_uF (iv_uF (iv_uF iv_Fz 604 0) 4410 0) 4400 2) iv_Bz)) rfl ?_
        exact iv_Eret rfl rfl rfl (by decide) (by decide)
      · refine iv_Em 11 (pc2 := 40) (lv2 := [(4, .int 0), (3, .ref 65), (2, .ref 44), (1, .ref 1), (0, .ref 0)]) (st2 := [.int ((xs 0) &&& 15)]) (w2 := (iv_wd iv_Az iv_Fz iv_Bz)) rfl ?_
        refine iv_Esw rfl rfl (show iv_sw 40 _ _ _ _ _ = some 180 by rw [h0]; rfl) ?_
        refine iv_Em 6 (pc2 := 187) (lv2 := [(4, .int 0), (3, .ref 65), (2, .ref 44), (1, .ref 1), (0, .ref 0)]) (st2 := [.int (xs 1), .ref 1]) (w2 := (iv_wd iv_Az iv_Fz iv_Bz)) rfl ?_
        rw [h1]
        refine iv_Em 8 (pc2 := 202) (lv2 := [(4, .int 0), (3, .ref 65), (2, .ref 44), (1, .ref 1), (0, .ref 0)]) (st2 := [.ref 65, .int (xs 2), .int 0, .ref 1]) (w2 := (iv_wd iv_Az iv_Fz iv_Bz)) rfl ?_
        refine iv_Ecall (ν := 187) (c := 4) (as := [.ref 1, .int 0, .int (xs 2), .ref 65]) (rest := []) (w2 := (iv_wd iv_Az iv_Fz iv_Bz)) (tg2 := false) (k2 := 1) (z2 := 6) (v := (some (.int 2))) rfl rfl rfl rfl rfl rfl rfl (by decide) rfl ?_ ?_
        · refine iv_Gm 5 (pc2 := 5) (lv2 := [(0, .ref 1), (1, .int 0), (2, .int (xs 2)), (3, .ref 65)]) (st2 := [.int (xs 2), .int 0, .ref 1, .int 0, .ref 65]) (w2 := (iv_wd iv_Az iv_Fz iv_Bz)) rfl ?_
          refine iv_GcallH (ν := 4) (c := 3) (as := [.ref 1, .int 0, .int (xs 2)]) (rest := [.int 0, .ref 65]) (w2 := (iv_wd iv_Az iv_Fz iv_Bz)) (tg2 := false) (k2 := 1) (z2 := 6) (q := 1) (pc2 := 19) (j := 4) rfl rfl (by decide) rfl rfl rfl rfl rfl (by decide) rfl rfl ?_ ?_
          · refine iv_Gm 2 (pc2 := 2) (lv2 := [(0, .ref 1), (1, .int 0), (2, .int (xs 2))]) (st2 := [.int (xs 2), .ref 1]) (w2 := (iv_wd iv_Az iv_Fz iv_Bz)) rfl ?_
            refine iv_Gcall (ν := 24) (c := 1) (as := [.int (xs 2)]) (rest := [.ref 1]) (w2 := (iv_wd iv_Az iv_Fz iv_Bz)) (tg2 := true) (k2 := 0) (z2 := 0) (v := (some (.int 0))) rfl rfl rfl rfl rfl rfl rfl (by decide) rfl ?_ ?_
            · refine iv_Gm 1 (pc2 := 1) (lv2 := [(0, .int (xs 2))]) (st2 := [.int (xs 2)]) (w2 := (iv_wd iv_Az iv_Fz iv_Bz)) rfl ?_
              refine iv_Gbf (c := decide ((xs 2) < 0)) (p1 := 15) (p2 := 4) (lv2 := [(0, .int (xs 2))]) (st2 := []) (w2 := (iv_wd iv_Az iv_Fz iv_Bz)) rfl (decide_eq_false h2) ?_
              refine iv_Gm 2 (pc2 := 8) (lv2 := [(0, .int (xs 2))]) (st2 := [.int 255, .int (xs 2)]) (w2 := (iv_wd iv_Az iv_Fz iv_Bz)) rfl ?_
              refine iv_Gbt (c := decide (255 < (xs 2))) (p1 := 15) (p2 := 11) (lv2 := [(0, .int (xs 2))]) (st2 := []) (w2 := (iv_wd iv_Az iv_Fz iv_Bz)) rfl (decide_eq_true ((iv_lg2 (by decide)).mpr h3)) ?_
              refine iv_Gm 1 (pc2 := 16) (lv2 := [(0, .int (xs 2))]) (st2 := [.int 0]) (w2 := (iv_wd iv_Az iv_Fz iv_Bz)) rfl ?_
              exact iv_Gret rfl rfl rfl
            show iv_G _ _ _ _ 5 [(0, .ref 1), (1, .int 0), (2, .int (xs 2))] [.int 0, .ref 1] (iv_wd iv_Az iv_Fz iv_Bz) true _ _ _
            refine iv_GcallT (ν := 17) (c := 2) (as := [.ref 1, .int 0]) (rest := []) (w2 := (iv_wd iv_Az iv_Fz iv_Bz)) (tg2 := false) (k2 := 1) (z2 := 6) (q := 1) rfl rfl (by decide) rfl rfl rfl rfl rfl (by decide) rfl rfl rfl ?_
            · exact ⟨15, rfl⟩
          show iv_G _ _ _ _ 19 [(0, .ref 1), (1, .int 0), (2, .int (xs 2)), (3, .ref 65)] [] (iv_wd iv_Az iv_Fz iv_Bz) false _ _ _
          refine iv_Gm 1 (pc2 := 20) (lv2 := [(0, .ref 1), (1, .int 0), (2, .int (xs 2)), (3, .ref 65)]) (st2 := [.int 2]) (w2 := (iv_wd iv_Az iv_Fz iv_Bz)) rfl ?_
          exact iv_Gret rfl rfl rfl
        show iv_Fin _ _ _ _ 205 [(4, .int 0), (3, .ref 65), (2, .ref 44), (1, .ref 1), (0, .ref 0)] [.int 2] (iv_wd iv_Az iv_Fz iv_Bz) false _ _
        refine iv_Em 7 (pc2 := 214) (lv2 := [(5, .int 2), (4, .int 0), (3, .ref 65), (2, .ref 44), (1, .ref 1), (0, .ref 0)]) (st2 := [.int (xs 1), .ref 44]) (w2 := (iv_wd iv_Az iv_Fz iv_Bz)) rfl ?_
        rw [h1]
        refine iv_Em 7 (pc2 := 228) (lv2 := [(5, .int 2), (4, .int 0), (3, .ref 65), (2, .ref 44), (1, .ref 1), (0, .ref 0)]) (st2 := [.int (xs 2), .int 0, .ref 44]) (w2 := (iv_wd iv_Az iv_Fz iv_Bz)) rfl ?_
        refine iv_Ecall (ν := 167) (c := 3) (as := [.ref 44, .int 0, .int (xs 2)]) (rest := []) (w2 := (iv_wd iv_Az (iv_uF (iv_uF iv_Fz 4410 0) 4400 2) iv_Bz)) (tg2 := false) (k2 := 0) (z2 := 0) (v := (some (.int 0))) rfl rfl rfl rfl rfl rfl rfl (by decide) rfl ?_ ?_
        · refine iv_Gm 2 (pc2 := 2) (lv2 := [(0, .ref 44), (1, .int 0), (2, .int (xs 2))]) (st2 := [.int (xs 2), .ref 44]) (w2 := (iv_wd iv_Az iv_Fz iv_Bz)) rfl ?_
          refine iv_Gbf (c := decide ((xs 2) < 0)) (p1 := 16) (p2 := 5) (lv2 := [(0, .ref 44), (1, .int 0), (2, .int (xs 2))]) (st2 := [.ref 44]) (w2 := (iv_wd iv_Az iv_Fz iv_Bz)) rfl (decide_eq_false h2) ?_
          refine iv_Gm 2 (pc2 := 9) (lv2 := [(0, .ref 44), (1, .int 0), (2, .int (xs 2))]) (st2 := [.int 255, .int (xs 2), .ref 44]) (w2 := (iv_wd iv_Az iv_Fz iv_Bz)) rfl ?_
          refine iv_Gbt (c := decide (255 < (xs 2))) (p1 := 16) (p2 := 12) (lv2 := [(0, .ref 44), (1, .int 0), (2, .int (xs 2))]) (st2 := [.ref 44]) (w2 := (iv_wd iv_Az iv_Fz iv_Bz)) rfl (decide_eq_true ((iv_lg2 (by decide)).mpr h3)) ?_
          refine iv_Gm 1 (pc2 := 17) (lv2 := [(0, .ref 44), (1, .int 0), (2, .int (xs 2))]) (st2 := [.int 0, .ref 44]) (w2 := (iv_wd iv_Az iv_Fz iv_Bz)) rfl ?_
          refine iv_Gcall (ν := 160) (c := 2) (as := [.ref 44, .int 0]) (rest := []) (w2 := (iv_wd iv_Az (iv_uF iv_Fz 4410 0) iv_Bz)) (tg2 := false) (k2 := 0) (z2 := 0) (v := (some (.int 2))) rfl rfl rfl rfl rfl rfl rfl (by decide) rfl ?_ ?_
          · exact ⟨24, rfl⟩
          show iv_G _ _ _ _ 20 [(0, .ref 44), (1, .int 0), (2, .int (xs 2))] [.int 2] (iv_wd iv_Az (iv_uF iv_Fz 4410 0) iv_Bz) false _ _ _
          refine iv_Gm 5 (pc2 := 27) (lv2 := [(3, .int 2), (0, .ref 44), (1, .int 0), (2, .int (xs 2))]) (st2 := [.int 2, .ref 44]) (w2 := (iv_wd iv_Az (iv_uF iv_Fz 4410 0) iv_Bz)) rfl ?_
          refine iv_Gcall (ν := 134) (c := 2) (as := [.ref 44, .int 2]) (rest := []) (w2 := (iv_wd iv_Az (iv_uF (iv_uF iv_Fz 4410 0) 4400 2) iv_Bz)) (tg2 := false) (k2 := 0) (z2 := 0) (v := (some (.int 0))) rfl rfl rfl rfl rfl rfl rfl (by decide) rfl ?_ ?_
          · exact ⟨7, rfl⟩
          show iv_G _ _ _ _ 30 [(3, .int 2), (0, .ref 44), (1, .int 0), (2, .int (xs 2))] [.int 0] (iv_wd iv_Az (iv_uF (iv_uF iv_Fz 4410 0) 4400 2) iv_Bz) false _ _ _
          exact iv_Gret rfl rfl rfl
        show iv_Fin _ _ _ _ 231 [(5, .int 2), (4, .int 0), (3, .ref 65), (2, .ref 44), (1, .ref 1), (0, .ref 0)] [.int 0] (iv_wd iv_Az (iv_uF (iv_uF iv_Fz 4410 0) 4400 2) iv_Bz) false _ _
        refine iv_Em 2 (pc2 := 234) (lv2 := [(6, .int 0), (5, .int 2), (4, .int 0), (3, .ref 65), (2, .ref 44), (1, .ref 1), (0, .ref 0)]) (st2 := [.ref 44]) (w2 := (iv_wd iv_Az (iv_uF (iv_uF iv_Fz 4410 0) 4400 2) iv_Bz)) rfl ?_
        refine iv_Ecall (ν := 133) (c := 1) (as := [.ref 44]) (rest := []) (w2 := (iv_wd iv_Az (iv_uF (iv_uF iv_Fz 4410 0) 4400 2) iv_Bz)) (tg2 := false) (k2 := 0) (z2 := 0) (v := (some (.int 2))) rfl rfl rfl rfl rfl rfl rfl (by decide) rfl ?_ ?_
        · exact ⟨5, rfl⟩
        show iv_Fin _ _ _ _ 237 [(6, .int 0), (5, .int 2), (4, .int 0), (3, .ref 65), (2, .ref 44), (1, .ref 1), (0, .ref 0)] [.int 2] (iv_wd iv_Az (iv_uF (iv_uF iv_Fz 4410 0) 4400 2) iv_Bz) false _ _
        refine iv_Em 14 (pc2 := 788) (lv2 := [(4, .int 6), (6, .int 0), (5, .int 2), (3, .ref 65), (2, .ref 44), (1, .ref 1), (0, .ref 0)]) (st2 := [.int 1]) (w2 := (iv_wd iv_Az (iv_uF (iv_uF iv_Fz 4410 0) 4400 2) iv_Bz)) rfl ?_
        exact iv_Eret rfl rfl rfl (by decide) (by decide)
  · by_cases h4 : (xs 2) < 0
    · refine iv_Em 11 (pc2 := 40) (lv2 := [(4, .int 0), (3, .ref 65), (2, .ref 44), (1, .ref 1), (0, .ref 0)]) (st2 := [.int ((xs 0) &&& 15)]) (w2 := (iv_wd iv_Az iv_Fz iv_Bz)) rfl ?_
      refine iv_Esw rfl rfl (show iv_sw 40 _ _ _ _ _ = some 180 by rw [h0]; rfl) ?_
      refine iv_Em 6 (pc2 := 187) (lv2 := [(4, .int 0), (3, .ref 65), (2, .ref 44), (1, .ref 1), (0, .ref 0)]) (st2 := [.int (xs 1), .ref 1]) (w2 := (iv_wd iv_Az iv_Fz iv_Bz)) rfl ?_
      refine iv_Ebf (c := decide ((xs 1) = 0)) (p1 := 194) (p2 := 190) (lv2 := [(4, .int 0), (3, .ref 65), (2, .ref 44), (1, .ref 1), (0, .ref 0)]) (st2 := [.ref 1]) (w2 := (iv_wd iv_Az iv_Fz iv_Bz)) rfl (decide_eq_false h1) ?_
      refine iv_Em 8 (pc2 := 202) (lv2 := [(4, .int 0), (3, .ref 65), (2, .ref 44), (1, .ref 1), (0, .ref 0)]) (st2 := [.ref 65, .int (xs 2), .int 1, .ref 1]) (w2 := (iv_wd iv_Az iv_Fz iv_Bz)) rfl ?_
      refine iv_Ecall (ν := 187) (c := 4) (as := [.ref 1, .int 1, .int (xs 2), .ref 65]) (rest := []) (w2 := (iv_wd iv_Az iv_Fz iv_Bz)) (tg2 := false) (k2 := 1) (z2 := 6) (v := (some (.int 2))) rfl rfl rfl rfl rfl rfl rfl (by decide) rfl ?_ ?_
      · refine iv_Gm 5 (pc2 := 5) (lv2 := [(0, .ref 1), (1, .int 1), (2, .int (xs 2)), (3, .ref 65)]) (st2 := [.int (xs 2), .int 1, .ref 1, .int 0, .ref 65]) (w2 := (iv_wd iv_Az iv_Fz iv_Bz)) rfl ?_
        refine iv_GcallH (ν := 4) (c := 3) (as := [.ref 1, .int 1, .int (xs 2)]) (rest := [.int 0, .ref 65]) (w2 := (iv_wd iv_Az iv_Fz iv_Bz)) (tg2 := false) (k2 := 1) (z2 := 6) (q := 1) (pc2 := 19) (j := 4) rfl rfl (by decide) rfl rfl rfl rfl rfl (by decide) rfl rfl ?_ ?_
        · refine iv_Gm 2 (pc2 := 2) (lv2 := [(0, .ref 1), (1, .int 1), (2, .int (xs 2))]) (st2 := [.int (xs 2), .ref 1]) (w2 := (iv_wd iv_Az iv_Fz iv_Bz)) rfl ?_
          refine iv_Gcall (ν := 24) (c := 1) (as := [.int (xs 2)]) (rest := [.ref 1]) (w2 := (iv_wd iv_Az iv_Fz iv_Bz)) (tg2 := true) (k2 := 0) (z2 := 0) (v := (some (.int 0))) rfl rfl rfl rfl rfl rfl rfl (by decide) rfl ?_ ?_
          · refine iv_Gm 1 (pc2 := 1) (lv2 := [(0, .int (xs 2))]) (st2 := [.int (xs 2)]) (w2 := (iv_wd iv_Az iv_Fz iv_Bz)) rfl ?_
            refine iv_Gbt (c := decide ((xs 2) < 0)) (p1 := 15) (p2 := 4) (lv2 := [(0, .int (xs 2))]) (st2 := []) (w2 := (iv_wd iv_Az iv_Fz iv_Bz)) rfl (decide_eq_true h4) ?_
            refine iv_Gm 1 (pc2 := 16) (lv2 := [(0, .int (xs 2))]) (st2 := [.int 0]) (w2 := (iv_wd iv_Az iv_Fz iv_Bz)) rfl ?_
            exact iv_Gret rfl rfl rfl
          show iv_G _ _ _ _ 5 [(0, .ref 1), (1, .int 1), (2, .int (xs 2))] [.int 0, .ref 1] (iv_wd iv_Az iv_Fz iv_Bz) true _ _ _
          refine iv_GcallT (ν := 17) (c := 2) (as := [.ref 1, .int 0]) (rest := []) (w2 := (iv_wd iv_Az iv_Fz iv_Bz)) (tg2 := false) (k2 := 1) (z2 := 6) (q := 1) rfl rfl (by decide) rfl rfl rfl rfl rfl (by decide) rfl rfl rfl ?_
          · exact ⟨15, rfl⟩
        show iv_G _ _ _ _ 19 [(0, .ref 1), (1, .int 1), (2, .int (xs 2)), (3, .ref 65)] [] (iv_wd iv_Az iv_Fz iv_Bz) false _ _ _
        refine iv_Gm 1 (pc2 := 20) (lv2 := [(0, .ref 1), (1, .int 1), (2, .int (xs 2)), (3, .ref 65)]) (st2 := [.int 2]) (w2 := (iv_wd iv_Az iv_Fz iv_Bz)) rfl ?_
        exact iv_Gret rfl rfl rfl
      show iv_Fin _ _ _ _ 205 [(4, .int 0), (3, .ref 65), (2, .ref 44), (1, .ref 1), (0, .ref 0)] [.int 2] (iv_wd iv_Az iv_Fz iv_Bz) false _ _
      refine iv_Em 7 (pc2 := 214) (lv2 := [(5, .int 2), (4, .int 0), (3, .ref 65), (2, .ref 44), (1, .ref 1), (0, .ref 0)]) (st2 := [.int (xs 1), .ref 44]) (w2 := (iv_wd iv_Az iv_Fz iv_Bz)) rfl ?_
      refine iv_Ebf (c := decide ((xs 1) = 0)) (p1 := 221) (p2 := 217) (lv2 := [(5, .int 2), (4, .int 0), (3, .ref 65), (2, .ref 44), (1, .ref 1), (0, .ref 0)]) (st2 := [.ref 44]) (w2 := (iv_wd iv_Az iv_Fz iv_Bz)) rfl (decide_eq_false h1) ?_
      refine iv_Em 7 (pc2 := 228) (lv2 := [(5, .int 2), (4, .int 0), (3, .ref 65), (2, .ref 44), (1, .ref 1), (0, .ref 0)]) (st2 := [.int (xs 2), .int 1, .ref 44]) (w2 := (iv_wd iv_Az iv_Fz iv_Bz)) rfl ?_
      refine iv_Ecall (ν := 167) (c := 3) (as := [.ref 44, .int 1, .int (xs 2)]) (rest := []) (w2 := (iv_wd iv_Az (iv_uF (iv_uF iv_Fz 4410 0) 4400 2) iv_Bz)) (tg2 := false) (k2 := 0) (z2 := 0) (v := (some (.int 0))) rfl rfl rfl rfl rfl rfl rfl (by decide) rfl ?_ ?_
      · refine iv_Gm 2 (pc2 := 2) (lv2 := [(0, .ref 44), (1, .int 1), (2, .int (xs 2))]) (st2 := [.int (xs 2), .ref 44]) (w2 := (iv_wd iv_Az iv_Fz iv_Bz)) rfl ?_
        refine iv_Gbt (c := decide ((xs 2) < 0)) (p1 := 16) (p2 := 5) (lv2 := [(0, .ref 44), (1, .int 1), (2, .int (xs 2))]) (st2 := [.ref 44]) (w2 := (iv_wd iv_Az iv_Fz iv_Bz)) rfl (decide_eq_true h4) ?_
        refine iv_Gm 1 (pc2 := 17) (lv2 := [(0, .ref 44), (1, .int 1), (2, .int (xs 2))]) (st2 := [.int 0, .ref 44]) (w2 := (iv_wd iv_Az iv_Fz iv_Bz)) rfl ?_
        refine iv_Gcall (ν := 160) (c := 2) (as := [.ref 44, .int 0]) (rest := []) (w2 := (iv_wd iv_Az (iv_uF iv_Fz 4410 0) iv_Bz)) (tg2 := false) (k2 := 0) (z2 := 0) (v := (some (.int 2))) rfl rfl rfl rfl rfl rfl rfl (by decide) rfl ?_ ?_
        · exact ⟨24, rfl⟩
        show iv_G _ _ _ _ 20 [(0, .ref 44), (1, .int 1), (2, .int (xs 2))] [.int 2] (iv_wd iv_Az (iv_uF iv_Fz 4410 0) iv_Bz) false _ _ _
        refine iv_Gm 5 (pc2 := 27) (lv2 := [(3, .int 2), (0, .ref 44), (1, .int 1), (2, .int (xs 2))]) (st2 := [.int 2, .ref 44]) (w2 := (iv_wd iv_Az (iv_uF iv_Fz 4410 0) iv_Bz)) rfl ?_
        refine iv_Gcall (ν := 134) (c := 2) (as := [.ref 44, .int 2]) (rest := []) (w2 := (iv_wd iv_Az (iv_uF (iv_uF iv_Fz 4410 0) 4400 2) iv_Bz)) (tg2 := false) (k2 := 0) (z2 := 0) (v := (some (.int 0))) rfl rfl rfl rfl rfl rfl rfl (by decide) rfl ?_ ?_
        · exact ⟨7, rfl⟩
        show iv_G _ _ _ _ 30 [(3, .int 2), (0, .ref 44), (1, .int 1), (2, .int (xs 2))] [.int 0] (iv_wd iv_Az (iv_uF (iv_uF iv_Fz 4410 0) 4400 2) iv_Bz) false _ _ _
        exact iv_Gret rfl rfl rfl
      show iv_Fin _ _ _ _ 231 [(5, .int 2), (4, .int 0), (3, .ref 65), (2, .ref 44), (1, .ref 1), (0, .ref 0)] [.int 0] (iv_wd iv_Az (iv_uF (iv_uF iv_Fz 4410 0) 4400 2) iv_Bz) false _ _
      refine iv_Em 2 (pc2 := 234) (lv2 := [(6, .int 0), (5, .int 2), (4, .int 0), (3, .ref 65), (2, .ref 44), (1, .ref 1), (0, .ref 0)]) (st2 := [.ref 44]) (w2 := (iv_wd iv_Az (iv_uF (iv_uF iv_Fz 4410 0) 4400 2) iv_Bz)) rfl ?_
      refine iv_Ecall (ν := 133) (c := 1) (as := [.ref 44]) (rest := []) (w2 := (iv_wd iv_Az (iv_uF (iv_uF iv_Fz 4410 0) 4400 2) iv_Bz)) (tg2 := false) (k2 := 0) (z2 := 0) (v := (some (.int 2))) rfl rfl rfl rfl rfl rfl rfl (by decide) rfl ?_ ?_
      · exact ⟨5, rfl⟩
      show iv_Fin _ _ _ _ 237 [(6, .int 0), (5, .int 2), (4, .int 0), (3, .ref 65), (2, .ref 44), (1, .ref 1), (0, .ref 0)] [.int 2] (iv_wd iv_Az (iv_uF (iv_uF iv_Fz 4410 0) 4400 2) iv_Bz) false _ _
      refine iv_Em 14 (pc2 := 788) (lv2 := [(4, .int 6), (6, .int 0), (5, .int 2), (3, .ref 65), (2, .ref 44), (1, .ref 1), (0, .ref 0)]) (st2 := [.int 1]) (w2 := (iv_wd iv_Az (iv_uF (iv_uF iv_Fz 4410 0) 4400 2) iv_Bz)) rfl ?_
      exact iv_Eret rfl rfl rfl (by decide) (by decide)
    · by_cases h5 : (xs 2) < 256
      · refine iv_Em 11 (pc2 := 40) (lv2 := [(4, .int 0), (3, .ref 65), (2, .ref 44), (1, .ref 1), (0, .ref 0)]) (st2 := [.int ((xs 0) &&& 15)]) (w2 := (iv_wd iv_Az iv_Fz iv_Bz)) rfl ?_
        refine iv_Esw rfl rfl (show iv_sw 40 _ _ _ _ _ = some 180 by rw [h0]; rfl) ?_
        refine iv_Em 6 (pc2 := 187) (lv2 := [(4, .int 0), (3, .ref 65), (2, .ref 44), (1, .ref 1), (0, .ref 0)]) (st2 := [.int (xs 1), .ref 1]) (w2 := (iv_wd iv_Az iv_Fz iv_Bz)) rfl ?_
        refine iv_Ebf (c := decide ((xs 1) = 0)) (p1 := 194) (p2 := 190) (lv2 := [(4, .int 0), (3, .ref 65), (2, .ref 44), (1, .ref 1), (0, .ref 0)]) (st2 := [.ref 1]) (w2 := (iv_wd iv_Az iv_Fz iv_Bz)) rfl (decide_eq_false h1) ?_
        refine iv_Em 8 (pc2 := 202) (lv2 := [(4, .int 0), (3, .ref 65), (2, .ref 44), (1, .ref 1), (0, .ref 0)]) (st2 := [.ref 65, .int (xs 2), .int 1, .ref 1]) (w2 := (iv_wd iv_Az iv_Fz iv_Bz)) rfl ?_
        refine iv_Ecall (ν := 187) (c := 4) (as := [.ref 1, .int 1, .int (xs 2), .ref 65]) (rest := []) (w2 := (iv_wd iv_Az (iv_uF iv_Fz 604 0) iv_Bz)) (tg2 := false) (k2 := 1) (z2 := 6) (v := (some (.int 2))) rfl rfl rfl rfl rfl rfl rfl (by decide) rfl ?_ ?_
        · refine iv_Gm 5 (pc2 := 5) (lv2 := [(0, .ref 1), (1, .int 1), (2, .int (xs 2)), (3, .ref 65)]) (st2 := [.int (xs 2), .int 1, .ref 1, .int 0, .ref 65]) (w2 := (iv_wd iv_Az iv_Fz iv_Bz)) rfl ?_
          refine iv_GcallH (ν := 4) (c := 3) (as := [.ref 1, .int 1, .int (xs 2)]) (rest := [.int 0, .ref 65]) (w2 := (iv_wd iv_Az (iv_uF iv_Fz 604 0) iv_Bz)) (tg2 := false) (k2 := 1) (z2 := 6) (q := 1) (pc2 := 19) (j := 4) rfl rfl (by decide) rfl rfl rfl rfl rfl (by decide) rfl rfl ?_ ?_
          · refine iv_Gm 2 (pc2 := 2) (lv2 := [(0, .ref 1), (1, .int 1), (2, .int (xs 2))]) (st2 := [.int (xs 2), .ref 1]) (w2 := (iv_wd iv_Az iv_Fz iv_Bz)) rfl ?_
            refine iv_Gcall (ν := 24) (c := 1) (as := [.int (xs 2)]) (rest := [.ref 1]) (w2 := (iv_wd iv_Az iv_Fz iv_Bz)) (tg2 := true) (k2 := 0) (z2 := 0) (v := (some (.int 1))) rfl rfl rfl rfl rfl rfl rfl (by decide) rfl ?_ ?_
            · refine iv_Gm 1 (pc2 := 1) (lv2 := [(0, .int (xs 2))]) (st2 := [.int (xs 2)]) (w2 := (iv_wd iv_Az iv_Fz iv_Bz)) rfl ?_
              refine iv_Gbf (c := decide ((xs 2) < 0)) (p1 := 15) (p2 := 4) (lv2 := [(0, .int (xs 2))]) (st2 := []) (w2 := (iv_wd iv_Az iv_Fz iv_Bz)) rfl (decide_eq_false h4) ?_
              refine iv_Gm 2 (pc2 := 8) (lv2 := [(0, .int (xs 2))]) (st2 := [.int 255, .int (xs 2)]) (w2 := (iv_wd iv_Az iv_Fz iv_Bz)) rfl ?_
              refine iv_Gbf (c := decide (255 < (xs 2))) (p1 := 15) (p2 := 11) (lv2 := [(0, .int (xs 2))]) (st2 := []) (w2 := (iv_wd iv_Az iv_Fz iv_Bz)) rfl (decide_eq_false (fun q => (iv_lg2 (by decide)).mp q h5)) ?_
              refine iv_Gm 2 (pc2 := 16) (lv2 := [(0, .int (xs 2))]) (st2 := [.int 1]) (w2 := (iv_wd iv_Az iv_Fz iv_Bz)) rfl ?_
              exact iv_Gret rfl rfl rfl
            show iv_G _ _ _ _ 5 [(0, .ref 1), (1, .int 1), (2, .int (xs 2))] [.int 1, .ref 1] (iv_wd iv_Az iv_Fz iv_Bz) true _ _ _
            refine iv_GcallT (ν := 17) (c := 2) (as := [.ref 1, .int 1]) (rest := []) (w2 := (iv_wd iv_Az (iv_uF iv_Fz 604 0) iv_Bz)) (tg2 := false) (k2 := 1) (z2 := 6) (q := 1) rfl rfl (by decide) rfl rfl rfl rfl rfl (by decide) rfl rfl rfl ?_
            · exact ⟨43, rfl⟩
          show iv_G _ _ _ _ 19 [(0, .ref 1), (1, .int 1), (2, .int (xs 2)), (3, .ref 65)] [] (iv_wd iv_Az (iv_uF iv_Fz 604 0) iv_Bz) false _ _ _
          refine iv_Gm 1 (pc2 := 20) (lv2 := [(0, .ref 1), (1, .int 1), (2, .int (xs 2)), (3, .ref 65)]) (st2 := [.int 2]) (w2 := (iv_wd iv_Az (iv_uF iv_Fz 604 0) iv_Bz)) rfl ?_
          exact iv_Gret rfl rfl rfl
        show iv_Fin _ _ _ _ 205 [(4, .int 0), (3, .ref 65), (2, .ref 44), (1, .ref 1), (0, .ref 0)] [.int 2] (iv_wd iv_Az (iv_uF iv_Fz 604 0) iv_Bz) false _ _
        refine iv_Em 7 (pc2 := 214) (lv2 := [(5, .int 2), (4, .int 0), (3, .ref 65), (2, .ref 44), (1, .ref 1), (0, .ref 0)]) (st2 := [.int (xs 1), .ref 44]) (w2 := (iv_wd iv_Az (iv_uF iv_Fz 604 0) iv_Bz)) rfl ?_
        refine iv_Ebf (c := decide ((xs 1) = 0)) (p1 := 221) (p2 := 217) (lv2 := [(5, .int 2), (4, .int 0), (3, .ref 65), (2, .ref 44), (1, .ref 1), (0, .ref 0)]) (st2 := [.ref 44]) (w2 := (iv_wd iv_Az (iv_uF iv_Fz 604 0) iv_Bz)) rfl (decide_eq_false h1) ?_
        refine iv_Em 7 (pc2 := 228) (lv2 := [(5, .int 2), (4, .int 0), (3, .ref 65), (2, .ref 44), (1, .ref 1), (0, .ref 0)]) (st2 := [.int (xs 2), .int 1, .ref 44]) (w2 := (iv_wd iv_Az (iv_uF iv_Fz 604 0) iv_Bz)) rfl ?_
        refine iv_Ecall (ν := 167) (c := 3) (as := [.ref 44, .int 1, .int (xs 2)]) (rest := []) (w2 := (iv_wd iv_Az (iv_uF (iv_uF (iv_uF iv_Fz 604 0) 4410 0) 4400 2) iv_Bz)) (tg2 := false) (k2 := 0) (z2 := 0) (v := (some (.int 0))) rfl rfl rfl rfl rfl rfl rfl (by decide) rfl ?_ ?_
        · refine iv_Gm 2 (pc2 := 2) (lv2 := [(0, .ref 44), (1, .int 1), (2, .int (xs 2))]) (st2 := [.int (xs 2), .ref 44]) (w2 := (iv_wd iv_Az (iv_uF iv_Fz 604 0) iv_Bz)) rfl ?_
          refine iv_Gbf (c := decide ((xs 2) < 0)) (p1 := 16) (p2 := 5) (lv2 := [(0, .ref 44), (1, .int 1), (2, .int (xs 2))]) (st2 := [.ref 44]) (w2 := (iv_wd iv_Az (iv_uF iv_Fz 604 0) iv_Bz)) rfl (decide_eq_false h4) ?_
          refine iv_Gm 2 (pc2 := 9) (lv2 := [(0, .ref 44), (1, .int 1), (2, .int (xs 2))]) (st2 := [.int 255, .int (xs 2), .ref 44]) (w2 := (iv_wd iv_Az (iv_uF iv_Fz 604 0) iv_Bz)) rfl ?_
          refine iv_Gbf (c := decide (255 < (xs 2))) (p1 := 16) (p2 := 12) (lv2 := [(0, .ref 44), (1, .int 1), (2, .int (xs 2))]) (st2 := [.ref 44]) (w2 := (iv_wd iv_Az (iv_uF iv_Fz 604 0) iv_Bz)) rfl (decide_eq_false (fun q => (iv_lg2 (by decide)).mp q h5)) ?_
          refine iv_Gm 2 (pc2 := 17) (lv2 := [(0, .ref 44), (1, .int 1), (2, .int (xs 2))]) (st2 := [.int 1, .ref 44]) (w2 := (iv_wd iv_Az (iv_uF iv_Fz 604 0) iv_Bz)) rfl ?_
          refine iv_Gcall (ν := 160) (c := 2) (as := [.ref 44, .int 1]) (rest := []) (w2 := (iv_wd iv_Az (iv_uF (iv_uF iv_Fz 604 0) 4410 0) iv_Bz)) (tg2 := false) (k2 := 0) (z2 := 0) (v := (some (.int 2))) rfl rfl rfl rfl rfl rfl rfl (by decide) rfl ?_ ?_
          · exact ⟨24, rfl⟩
          show iv_G _ _ _ _ 20 [(0, .ref 44), (1, .int 1), (2, .int (xs 2))] [.int 2] (iv_wd iv_Az (iv_uF (iv_uF iv_Fz 604 0) 4410 0) iv_Bz) false _ _ _
          refine iv_Gm 5 (pc2 := 27) (lv2 := [(3, .int 2), (0, .ref 44), (1, .int 1), (2, .int (xs 2))]) (st2 := [.int 2, .ref 44]) (w2 := (iv_wd iv_Az (iv_uF (iv_uF iv_Fz 604 0) 4410 0) iv_Bz)) rfl ?_
          refine iv_Gcall (ν := 134) (c := 2) (as := [.ref 44, .int 2]) (rest := []) (w2 := (iv_wd iv_Az (iv_uF (iv_uF (iv_uF iv_Fz 604 0) 4410 0) 4400 2) iv_Bz)) (tg2 := false) (k2 := 0) (z2 := 0) (v := (some (.int 0))) rfl rfl rfl rfl rfl rfl rfl (by decide) rfl ?_ ?_
          · exact ⟨7, rfl⟩
          show iv_G _ _ _ _ 30 [(3, .int 2), (0, .ref 44), (1, .int 1), (2, .int (xs 2))] [.int 0] (iv_wd iv_Az (iv_uF (iv_uF (iv_uF iv_Fz 604 0) 4410 0) 4400 2) iv_Bz) false _ _ _
          exact iv_Gret rfl rfl rfl
        show iv_Fin _ _ _ _ 231 [(5, .int 2), (4, .int 0), (3, .ref 65), (2, .ref 44), (1, .ref 1), (0, .ref 0)] [.int 0] (iv_wd iv_Az (iv_uF (iv_uF (iv_uF iv_Fz 604 0) 4410 0) 4400 2) iv_Bz) false _ _
        refine iv_Em 2 (pc2 := 234) (lv2 := [(6, .int 0), (5, .int 2), (4, .int 0), (3, .ref 65), (2, .ref 44), (1, .ref 1), (0, .ref 0)]) (st2 := [.ref 44]) (w2 := (iv_wd iv_Az (iv_uF (iv_uF (iv_uF iv_Fz 604 0) 4410 0) 4400 2) iv_Bz)) rfl ?_
        refine iv_Ecall (ν := 133) (c := 1) (as := [.ref 44]) (rest := []) (w2 := (iv_wd iv_Az (iv_uF (iv_uF (iv_uF iv_Fz 604 0) 4410 0) 4400 2) iv_Bz)) (tg2 := false) (k2 := 0) (z2 := 0) (v := (some (.int 2))) rfl rfl rfl rfl rfl rfl rfl (by decide) rfl ?_ ?_
        · exact ⟨5, rfl⟩
        show iv_Fin _ _ _ _ 237 [(6, .int 0), (5, .int 2), (4, .int 0), (3, .ref 65), (2, .ref 44), (1, .ref 1), (0, .ref 0)] [.int 2] (iv_wd iv_Az (iv_uF (iv_uF (iv_uF iv_Fz 604 0) 4410 0) 4400 2) iv_Bz) false _ _
        refine iv_Em 14 (pc2 := 788) (lv2 := [(4, .int 6), (6, .int 0), (5, .int 2), (3, .ref 65), (2, .ref 44), (1, .ref 1), (0, .ref 0)]) (st2 := [.int 1]) (w2 := (iv_wd iv_Az (iv_uF (iv_uF (iv_uF iv_Fz 604 0) 4410 0) 4400 2) iv_Bz)) rfl ?_
        exact iv_Eret rfl rfl rfl (by decide) (by decide)
      · refine iv_Em 11 (pc2 := 40) (lv2 := [(4, .int 0), (3, .ref 65), (2, .ref 44), (1, .ref 1), (0, .ref 0)]) (st2 := [.int ((xs 0) &&& 15)]) (w2 := (iv_wd iv_Az iv_Fz iv_Bz)) rfl ?_
        refine iv_Esw rfl rfl (show iv_sw 40 _ _ _ _ _ = some 180 by rw [h0]; rfl) ?_
        refine iv_Em 6 (pc2 := 187) (lv2 := [(4, .int 0), (3, .ref 65), (2, .ref 44), (1, .ref 1), (0, .ref 0)]) (st2 := [.int (xs 1), .ref 1]) (w2 := (iv_wd iv_Az iv_Fz iv_Bz)) rfl ?_
        refine iv_Ebf (c := decide ((xs 1) = 0)) (p1 := 194) (p2 := 190) (lv2 := [(4, .int 0), (3, .ref 65), (2, .ref 44), (1, .ref 1), (0, .ref 0)]) (st2 := [.ref 1]) (w2 := (iv_wd iv_Az iv_Fz iv_Bz)) rfl (decide_eq_false h1) ?_
        refine iv_Em 8 (pc2 := 202) (lv2 := [(4, .int 0), (3, .ref 65), (2, .ref 44), (1, .ref 1), (0, .ref 0)]) (st2 := [.ref 65, .int (xs 2), .int 1, .ref 1]) (w2 := (iv_wd iv_Az iv_Fz iv_Bz)) rfl ?_
        refine iv_Ecall (ν := 187) (c := 4) (as := [.ref 1, .int 1, .int (xs 2), .ref 65]) (rest := []) (w2 := (iv_wd iv_Az iv_Fz iv_Bz)) (tg2 := false) (k2 := 1) (z2 := 6) (v := (some (.int 2))) rfl rfl rfl rfl rfl rfl rfl (by decide) rfl ?_ ?_
        · refine iv_Gm 5 (pc2 := 5) (lv2 := [(0, .ref 1), (1, .int 1), (2, .int (xs 2)), (3, .ref 65)]) (st2 := [.int (xs 2), .int 1, .ref 1, .int 0, .ref 65]) (w2 := (iv_wd iv_Az iv_Fz iv_Bz)) rfl ?_
          refine iv_GcallH (ν := 4) (c := 3) (as := [.ref 1, .int 1, .int (xs 2)]) (rest := [.int 0, .ref 65]) (w2 := (iv_wd iv_Az iv_Fz iv_Bz)) (tg2 := false) (k2 := 1) (z2 := 6) (q := 1) (pc2 := 19) (j := 4) rfl rfl (by decide) rfl rfl rfl rfl rfl (by decide) rfl rfl ?_ ?_
          · refine iv_Gm 2 (pc2 := 2) (lv2 := [(0, .ref 1), (1, .int 1), (2, .int (xs 2))]) (st2 := [.int (xs 2), .ref 1]) (w2 := (iv_wd iv_Az iv_Fz iv_Bz)) rfl ?_
            refine iv_Gcall (ν := 24) (c := 1) (as := [.int (xs 2)]) (rest := [.ref 1]) (w2 := (iv_wd iv_Az iv_Fz iv_Bz)) (tg2 := true) (k2 := 0) (z2 := 0) (v := (some (.int 0))) rfl rfl rfl rfl rfl rfl rfl (by decide) rfl ?_ ?_
            · refine iv_Gm 1 (pc2 := 1) (lv2 := [(0, .int (xs 2))]) (st2 := [.int (xs 2)]) (w2 := (iv_wd iv_Az iv_Fz iv_Bz)) rfl ?_
              refine iv_Gbf (c := decide ((xs 2) < 0)) (p1 := 15) (p2 := 4) (lv2 := [(0, .int (xs 2))]) (st2 := []) (w2 := (iv_wd iv_Az iv_Fz iv_Bz)) rfl (decide_eq_false h4) ?_
              refine iv_Gm 2 (pc2 := 8) (lv2 := [(0, .int (xs 2))]) (st2 := [.int 255, .int (xs 2)]) (w2 := (iv_wd iv_Az iv_Fz iv_Bz)) rfl ?_
              refine iv_Gbt (c := decide (255 < (xs 2))) (p1 := 15) (p2 := 11) (lv2 := [(0, .int (xs 2))]) (st2 := []) (w2 := (iv_wd iv_Az iv_Fz iv_Bz)) rfl (decide_eq_true ((iv_lg2 (by decide)).mpr h5)) ?_
              refine iv_Gm 1 (pc2 := 16) (lv2 := [(0, .int (xs 2))]) (st2 := [.int 0]) (w2 := (iv_wd iv_Az iv_Fz iv_Bz)) rfl ?_
              exact iv_Gret rfl rfl rfl
            show iv_G _ _ _ _ 5 [(0, .ref 1), (1, .int 1), (2, .int (xs 2))] [.int 0, .ref 1] (iv_wd iv_Az iv_Fz iv_Bz) true _ _ _
            refine iv_GcallT (ν := 17) (c := 2) (as := [.ref 1, .int 0]) (rest := []) (w2 := (iv_wd iv_Az iv_Fz iv_Bz)) (tg2 := false) (k2 := 1) (z2 := 6) (q := 1) rfl rfl (by decide) rfl rfl rfl rfl rfl (by decide) rfl rfl rfl ?_
            · exact ⟨15, rfl⟩
          show iv_G _ _ _ _ 19 [(0, .ref 1), (1, .int 1), (2, .int (xs 2)), (3, .ref 65)] [] (iv_wd iv_Az iv_Fz iv_Bz) false _ _ _
          refine iv_Gm 1 (pc2 := 20) (lv2 := [(0, .ref 1), (1, .int 1), (2, .int (xs 2)), (3, .ref 65)]) (st2 := [.int 2]) (w2 := (iv_wd iv_Az iv_Fz iv_Bz)) rfl ?_
          exact iv_Gret rfl rfl rfl
        show iv_Fin _ _ _ _ 205 [(4, .int 0), (3, .ref 65), (2, .ref 44), (1, .ref 1), (0, .ref 0)] [.int 2] (iv_wd iv_Az iv_Fz iv_Bz) false _ _
        refine iv_Em 7 (pc2 := 214) (lv2 := [(5, .int 2), (4, .int 0), (3, .ref 65), (2, .ref 44), (1, .ref 1), (0, .ref 0)]) (st2 := [.int (xs 1), .ref 44]) (w2 := (iv_wd iv_Az iv_Fz iv_Bz)) rfl ?_
        refine iv_Ebf (c := decide ((xs 1) = 0)) (p1 := 221) (p2 := 217) (lv2 := [(5, .int 2), (4, .int 0), (3, .ref 65), (2, .ref 44), (1, .ref 1), (0, .ref 0)]) (st2 := [.ref 44]) (w2 := (iv_wd iv_Az iv_Fz iv_Bz)) rfl (decide_eq_false h1) ?_
        refine iv_Em 7 (pc2 := 228) (lv2 := [(5, .int 2), (4, .int 0), (3, .ref 65), (2, .ref 44), (1, .ref 1), (0, .ref 0)]) (st2 := [.int (xs 2), .int 1, .ref 44]) (w2 := (iv_wd iv_Az iv_Fz iv_Bz)) rfl ?_
        refine iv_Ecall (ν := 167) (c := 3) (as := [.ref 44, .int 1, .int (xs 2)]) (rest := []) (w2 := (iv_wd iv_Az (iv_uF (iv_uF iv_Fz 4410 0) 4400 2) iv_Bz)) (tg2 := false) (k2 := 0) (z2 := 0) (v := (some (.int 0))) rfl rfl rfl rfl rfl rfl rfl (by decide) rfl ?_ ?_
        · refine iv_Gm 2 (pc2 := 2) (lv2 := [(0, .ref 44), (1, .int 1), (2, .int (xs 2))]) (st2 := [.int (xs 2), .ref 44]) (w2 := (iv_wd iv_Az iv_Fz iv_Bz)) rfl ?_
          refine iv_Gbf (c := decide ((xs 2) < 0)) (p1 := 16) (p2 := 5) (lv2 := [(0, .ref 44), (1, .int 1), (2, .int (xs 2))]) (st2 := [.ref 44]) (w2 := (iv_wd iv_Az iv_Fz iv_Bz)) rfl (decide_eq_false h4) ?_
          refine iv_Gm 2 (pc2 := 9) (lv2 := [(0, .ref 44), (1, .int 1), (2, .int (xs 2))]) (st2 := [.int 255, .int (xs 2), .ref 44]) (w2 := (iv_wd iv_Az iv_Fz iv_Bz)) rfl ?_
          refine iv_Gbt (c := decide (255 < (xs 2))) (p1 := 16) (p2 := 12) (lv2 := [(0, .ref 44), (1, .int 1), (2, .int (xs 2))]) (st2 := [.ref 44]) (w2 := (iv_wd iv_Az iv_Fz iv_Bz)) rfl (decide_eq_true ((iv_lg2 (by decide)).mpr h5)) ?_
          refine iv_Gm 1 (pc2 := 17) (lv2 := [(0, .ref 44), (1, .int 1), (2, .int (xs 2))]) (st2 := [.int 0, .ref 44]) (w2 := (iv_wd iv_Az iv_Fz iv_Bz)) rfl ?_
          refine iv_Gcall (ν := 160) (c := 2) (as := [.ref 44, .int 0]) (rest := []) (w2 := (iv_wd iv_Az (iv_uF iv_Fz 4410 0) iv_Bz)) (tg2 := false) (k2 := 0) (z2 := 0) (v := (some (.int 2))) rfl rfl rfl rfl rfl rfl rfl (by decide) rfl ?_ ?_
          · exact ⟨24, rfl⟩
          show iv_G _ _ _ _ 20 [(0, .ref 44), (1, .int 1), (2, .int (xs 2))] [.int 2] (iv_wd iv_Az (iv_uF iv_Fz 4410 0) iv_Bz) false _ _ _
          refine iv_Gm 5 (pc2 := 27) (lv2 := [(3, .int 2), (0, .ref 44), (1, .int 1), (2, .int (xs 2))]) (st2 := [.int 2, .ref 44]) (w2 := (iv_wd iv_Az (iv_uF iv_Fz 4410 0) iv_Bz)) rfl ?_
          refine iv_Gcall (ν := 134) (c := 2) (as := [.ref 44, .int 2]) (rest := []) (w2 := (iv_wd iv_Az (iv_uF (iv_uF iv_Fz 4410 0) 4400 2) iv_Bz)) (tg2 := false) (k2 := 0) (z2 := 0) (v := (some (.int 0))) rfl rfl rfl rfl rfl rfl rfl (by decide) rfl ?_ ?_
          · exact ⟨7, rfl⟩
          show iv_G _ _ _ _ 30 [(3, .int 2), (0, .ref 44), (1, .int 1), (2, .int (xs 2))] [.int 0] (iv_wd iv_Az (iv_uF (iv_uF iv_Fz 4410 0) 4400 2) iv_Bz) false _ _ _
          exact iv_Gret rfl rfl rfl
        show iv_Fin _ _ _ _ 231 [(5, .int 2), (4, .int 0), (3, .ref 65), (2, .ref 44), (1, .ref 1), (0, .ref 0)] [.int 0] (iv_wd iv_Az (iv_uF (iv_uF iv_Fz 4410 0) 4400 2) iv_Bz) false _ _
        refine iv_Em 2 (pc2 := 234) (lv2 := [(6, .int 0), (5, .int 2), (4, .int 0), (3, .ref 65), (2, .ref 44), (1, .ref 1), (0, .ref 0)]) (st2 := [.ref 44]) (w2 := (iv_wd iv_Az (iv_uF (iv_uF iv_Fz 4410 0) 4400 2) iv_Bz)) rfl ?_
        refine iv_Ecall (ν := 133) (c := 1) (as := [.ref 44]) (rest := []) (w2 := (iv_wd iv_Az (iv_uF (iv_uF iv_Fz 4410 0) 4400 2) iv_Bz)) (tg2 := false) (k2 := 0) (z2 := 0) (v := (some (.int 2))) rfl rfl rfl rfl rfl rfl rfl (by decide) rfl ?_ ?_
        · exact ⟨5, rfl⟩
        show iv_Fin _ _ _ _ 237 [(6, .int 0), (5, .int 2), (4, .int 0), (3, .ref 65), (2, .ref 44), (1, .ref 1), (0, .ref 0)] [.int 2] (iv_wd iv_Az (iv_uF (iv_uF iv_Fz 4410 0) 4400 2) iv_Bz) false _ _
        refine iv_Em 14 (pc2 := 788) (lv2 := [(4, .int 6), (6, .int 0), (5, .int 2), (3, .ref 65), (2, .ref 44), (1, .ref 1), (0, .ref 0)]) (st2 := [.int 1]) (w2 := (iv_wd iv_Az (iv_uF (iv_uF iv_Fz 4410 0) 4400 2) iv_Bz)) rfl ?_
        exact iv_Eret rfl rfl rfl (by decide) (by decide)
