set_option maxRecDepth 1000000 in
set_option maxHeartbeats 40000000 in
theorem iv_case_10 (xs : Nat → Int32) (h0 : xs 0 &&& 15 = 10) : iv_Fin 6 xs 20 0 23 [(4, .int 0), (3, .ref 65), (2, .ref 44), (1, .ref 1), (0, .ref 0)] [] (iv_wd iv_Az iv_Fz iv_Bz) true 65 10417 := by
  refine iv_Em 11 (pc2 := 40) (lv2 := [(4, .int 0), (3, .ref 65), (2, .ref 44), (1, .ref 1), (0, .ref 0)]) (st2 := [.int ((xs 0) &&& 15)]) (w2 := (iv_wd iv_Az iv_Fz iv_Bz)) rfl ?_
  refine iv_Esw rfl rfl (show iv_sw 40 _ _ _ _ _ = some 638 by rw [h0]; rfl) ?_
  refine iv_Em 1 (pc2 := 639) (lv2 := [(4, .int 0), (3, .ref 65), (2, .ref 44), (1, .ref 1), (0, .ref 0)]) (st2 := [.ref 1]) (w2 := (iv_wd iv_Az iv_Fz iv_Bz)) rfl ?_
  refine iv_Ecall (ν := 12) (c := 1) (as := [.ref 1]) (rest := []) (w2 := (iv_wd iv_Az iv_Fz iv_Bz)) (tg2 := true) (k2 := 0) (z2 := 0) (v := (some (.int 0))) rfl rfl rfl rfl rfl rfl rfl (by decide) rfl ?_ ?_
  · exact ⟨11, rfl⟩
  show iv_Fin _ _ _ _ 642 [(4, .int 0), (3, .ref 65), (2, .ref 44), (1, .ref 1), (0, .ref 0)] [.int 0] (iv_wd iv_Az iv_Fz iv_Bz) true _ _
  refine iv_Em 1 (pc2 := 643) (lv2 := [(4, .int 0), (3, .ref 65), (2, .ref 44), (1, .ref 1), (0, .ref 0)]) (st2 := [.ref 44, .int 0]) (w2 := (iv_wd iv_Az iv_Fz iv_Bz)) rfl ?_
  refine iv_Ecall (ν := 177) (c := 1) (as := [.ref 44]) (rest := [.int 0]) (w2 := (iv_wd iv_Az (iv_uF iv_Fz 4400 0) iv_Bz)) (tg2 := true) (k2 := 0) (z2 := 0) (v := (some (.int 0))) rfl rfl rfl rfl rfl rfl rfl (by decide) rfl ?_ ?_
  · exact ⟨10, rfl⟩
  show iv_Fin _ _ _ _ 646 [(4, .int 0), (3, .ref 65), (2, .ref 44), (1, .ref 1), (0, .ref 0)] [.int 0, .int 0] (iv_wd iv_Az (iv_uF iv_Fz 4400 0) iv_Bz) true _ _
  refine iv_Em 10 (pc2 := 788) (lv2 := [(4, .int 6), (3, .ref 65), (2, .ref 44), (1, .ref 1), (0, .ref 0)]) (st2 := [.int 1]) (w2 := (iv_wd iv_Az (iv_uF iv_Fz 4400 0) iv_Bz)) rfl ?_
  exact iv_Eret rfl rfl rfl (by decide) (by decide)
set_option maxRecDepth 1000000 in
set_option maxHeartbeats 40000000 in
theorem iv_case_8 (xs : Nat → Int32) (h0 : xs 0 &&& 15 = 8) : iv_Fin 6 xs 20 0 23 [(4, .int 0), (3, .ref 65), (2, .ref 44), (1, .ref 1), (0, .ref 0)] [] (iv_wd iv_Az iv_Fz iv_Bz) true 65 10417 := by
  by_cases h1 : (xs 1) < 0
  · refine iv_Em 11 (pc2 := 40) (lv2 := [(4, .int 0), (3, .ref 65), (2, .ref 44), (1, .ref 1), (0, .ref 0)]) (st2 := [.int ((xs 0) &&& 15)]) (w2 := (iv_wd iv_Az iv_Fz iv_Bz)) rfl ?_
    refine iv_Esw rfl rfl (show iv_sw 40 _ _ _ _ _ = some 588 by rw [h0]; rfl) ?_
    refine iv_Em 6 (pc2 := 595) (lv2 := [(4, .int 0), (3, .ref 65), (2, .ref 44), (1, .ref 1), (0, .ref 0)]) (st2 := [.int (xs 1), .ref 1]) (w2 := (iv_wd iv_Az iv_Fz iv_Bz)) rfl ?_
    refine iv_Ecall (ν := 10) (c := 2) (as := [.ref 1, .int (xs 1)]) (rest := []) (w2 := (iv_wd iv_Az iv_Fz iv_Bz)) (tg2 := true) (k2 := 0) (z2 := 0) (v := (some (.int 0))) rfl rfl rfl rfl rfl rfl rfl (by decide) rfl ?_ ?_
    · refine iv_Gm 2 (pc2 := 4) (lv2 := [(0, .ref 1), (1, .int (xs 1))]) (st2 := [.ref 2]) (w2 := (iv_wd iv_Az iv_Fz iv_Bz)) rfl ?_
      refine iv_Gcall (ν := 56) (c := 1) (as := [.ref 2]) (rest := []) (w2 := (iv_wd iv_Az iv_Fz iv_Bz)) (tg2 := true) (k2 := 0) (z2 := 0) (v := (some (.int 0))) rfl rfl rfl rfl rfl rfl rfl (by decide) rfl ?_ ?_
      · exact ⟨5, rfl⟩
      show iv_G _ _ _ _ 7 [(0, .ref 1), (1, .int (xs 1))] [.int 0] (iv_wd iv_Az iv_Fz iv_Bz) true _ _ _
      refine iv_Gm 2 (pc2 := 11) (lv2 := [(0, .ref 1), (1, .int (xs 1))]) (st2 := [.int (xs 1)]) (w2 := (iv_wd iv_Az iv_Fz iv_Bz)) rfl ?_
      refine iv_Gbt (c := decide ((xs 1) < 0)) (p1 := 20) (p2 := 14) (lv2 := [(0, .ref 1), (1, .int (xs 1))]) (st2 := []) (w2 := (iv_wd iv_Az iv_Fz iv_Bz)) rfl (decide_eq_true h1) ?_
      refine iv_Gm 1 (pc2 := 21) (lv2 := [(0, .ref 1), (1, .int (xs 1))]) (st2 := [.int 0]) (w2 := (iv_wd iv_Az iv_Fz iv_Bz)) rfl ?_
      exact iv_Gret rfl rfl rfl
    show iv_Fin _ _ _ _ 598 [(4, .int 0), (3, .ref 65), (2, .ref 44), (1, .ref 1), (0, .ref 0)] [.int 0] (iv_wd iv_Az iv_Fz iv_Bz) true _ _
    refine iv_Em 6 (pc2 := 605) (lv2 := [(4, .int 0), (3, .ref 65), (2, .ref 44), (1, .ref 1), (0, .ref 0)]) (st2 := [.int (xs 1), .ref 44, .int 0]) (w2 := (iv_wd iv_Az iv_Fz iv_Bz)) rfl ?_
    refine iv_Ecall (ν := 175) (c := 2) (as := [.ref 44, .int (xs 1)]) (rest := [.int 0]) (w2 := (iv_wd iv_Az (iv_uF iv_Fz 4400 0) iv_Bz)) (tg2 := true) (k2 := 0) (z2 := 0) (v := (some (.int 0))) rfl rfl rfl rfl rfl rfl rfl (by decide) rfl ?_ ?_
    · refine iv_Gm 7 (pc2 := 13) (lv2 := [(0, .ref 44), (1, .int (xs 1))]) (st2 := [.int (xs 1)]) (w2 := (iv_wd iv_Az (iv_uF iv_Fz 4400 0) iv_Bz)) rfl ?_
      refine iv_Gbt (c := decide ((xs 1) < 0)) (p1 := 22) (p2 := 16) (lv2 := [(0, .ref 44), (1, .int (xs 1))]) (st2 := []) (w2 := (iv_wd iv_Az (iv_uF iv_Fz 4400 0) iv_Bz)) rfl (decide_eq_true h1) ?_
      refine iv_Gm 1 (pc2 := 23) (lv2 := [(0, .ref 44), (1, .int (xs 1))]) (st2 := [.int 0]) (w2 := (iv_wd iv_Az (iv_uF iv_Fz 4400 0) iv_Bz)) rfl ?_
      exact iv_Gret rfl rfl rfl
    show iv_Fin _ _ _ _ 608 [(4, .int 0), (3, .ref 65), (2, .ref 44), (1, .ref 1), (0, .ref 0)] [.int 0, .int 0] (iv_wd iv_Az (iv_uF iv_Fz 4400 0) iv_Bz) true _ _
    refine iv_Em 10 (pc2 := 788) (lv2 := [(4, .int 6), (3, .ref 65), (2, .ref 44), (1, .ref 1), (0, .ref 0)]) (st2 := [.int 1]) (w2 := (iv_wd iv_Az (iv_uF iv_Fz 4400 0) iv_Bz)) rfl ?_
    exact iv_Eret rfl rfl rfl (by decide) (by decide)
  · by_cases h2 : (xs 1) < 41
    · refine iv_Em 11 (pc2 := 40) (lv2 := [(4, .int 0), (3, .ref 65), (2, .ref 44), (1, .ref 1), (0, .ref 0)]) (st2 := [.int ((xs 0) &&& 15)]) (w2 := (iv_wd iv_Az iv_Fz iv_Bz)) rfl ?_
      refine iv_Esw rfl rfl (show iv_sw 40 _ _ _ _ _ = some 588 by rw [h0]; rfl) ?_
      refine iv_Em 6 (pc2 := 595) (lv2 := [(4, .int 0), (3, .ref 65), (2, .ref 44), (1, .ref 1), (0, .ref 0)]) (st2 := [.int (xs 1), .ref 1]) (w2 := (iv_wd iv_Az iv_Fz iv_Bz)) rfl ?_
      refine iv_Ecall (ν := 10) (c := 2) (as := [.ref 1, .int (xs 1)]) (rest := []) (w2 := (iv_wd iv_Az (iv_uF iv_Fz 205 (xs 1)) iv_Bz)) (tg2 := true) (k2 := 0) (z2 := 0) (v := (some (.int 1))) rfl rfl rfl rfl rfl rfl rfl (by decide) rfl ?_ ?_
      · refine iv_Gm 2 (pc2 := 4) (lv2 := [(0, .ref 1), (1, .int (xs 1))]) (st2 := [.ref 2]) (w2 := (iv_wd iv_Az iv_Fz iv_Bz)) rfl ?_
        refine iv_Gcall (ν := 56) (c := 1) (as := [.ref 2]) (rest := []) (w2 := (iv_wd iv_Az iv_Fz iv_Bz)) (tg2 := true) (k2 := 0) (z2 := 0) (v := (some (.int 0))) rfl rfl rfl rfl rfl rfl rfl (by decide) rfl ?_ ?_
        · exact ⟨5, rfl⟩
        show iv_G _ _ _ _ 7 [(0, .ref 1), (1, .int (xs 1))] [.int 0] (iv_wd iv_Az iv_Fz iv_Bz) true _ _ _
        refine iv_Gm 2 (pc2 := 11) (lv2 := [(0, .ref 1), (1, .int (xs 1))]) (st2 := [.int (xs 1)]) (w2 := (iv_wd iv_Az iv_Fz iv_Bz)) rfl ?_
        refine iv_Gbf (c := decide ((xs 1) < 0)) (p1 := 20) (p2 := 14) (lv2 := [(0, .ref 1), (1, .int (xs 1))]) (st2 := []) (w2 := (iv_wd iv_Az iv_Fz iv_Bz)) rfl (decide_eq_false h1) ?_
        refine iv_Gm 2 (pc2 := 17) (lv2 := [(0, .ref 1), (1, .int (xs 1))]) (st2 := [.int 40, .int (xs 1)]) (w2 := (iv_wd iv_Az iv_Fz iv_Bz)) rfl ?_
        refine iv_Gbt (c := decide ((xs 1) ≤ 40)) (p1 := 22) (p2 := 20) (lv2 := [(0, .ref 1), (1, .int (xs 1))]) (st2 := []) (w2 := (iv_wd iv_Az iv_Fz iv_Bz)) rfl (decide_eq_true (Int32.not_lt.mp (fun q => (iv_lg2 (by decide)).mp q h2))) ?_
        refine iv_Gm 3 (pc2 := 27) (lv2 := [(0, .ref 1), (1, .int (xs 1))]) (st2 := [.int (xs 1), .ref 2]) (w2 := (iv_wd iv_Az iv_Fz iv_Bz)) rfl ?_
        refine iv_Gcall (ν := 58) (c := 2) (as := [.ref 2, .int (xs 1)]) (rest := []) (w2 := (iv_wd iv_Az (iv_uF iv_Fz 205 (xs 1)) iv_Bz)) (tg2 := true) (k2 := 0) (z2 := 0) (v := none) rfl rfl rfl rfl rfl rfl rfl (by decide) rfl ?_ ?_
        · exact ⟨6, rfl⟩
        show iv_G _ _ _ _ 30 [(0, .ref 1), (1, .int (xs 1))] [] (iv_wd iv_Az (iv_uF iv_Fz 205 (xs 1)) iv_Bz) true _ _ _
        refine iv_Gm 1 (pc2 := 31) (lv2 := [(0, .ref 1), (1, .int (xs 1))]) (st2 := [.int 1]) (w2 := (iv_wd iv_Az (iv_uF iv_Fz 205 (xs 1)) iv_Bz)) rfl ?_
        exact iv_Gret rfl rfl rfl
      show iv_Fin _ _ _ _ 598 [(4, .int 0), (3, .ref 65), (2, .ref 44), (1, .ref 1), (0, .ref 0)] [.int 1] (iv_wd iv_Az (iv_uF iv_Fz 205 (xs 1)) iv_Bz) true _ _
      refine iv_Em 6 (pc2 := 605) (lv2 := [(4, .int 0), (3, .ref 65), (2, .ref 44), (1, .ref 1), (0, .ref 0)]) (st2 := [.int (xs 1), .ref 44, .int 1]) (w2 := (iv_wd iv_Az (iv_uF iv_Fz 205 (xs 1)) iv_Bz)) rfl ?_
      refine iv_Ecall (ν := 175) (c := 2) (as := [.ref 44, .int (xs 1)]) (rest := [.int 1]) (w2 := (iv_wd iv_Az (iv_uF (iv_uF (iv_uF iv_Fz 205 (xs 1)) 4400 0) 4408 (xs 1)) iv_Bz)) (tg2 := true) (k2 := 0) (z2 := 0) (v := (some (.int 1))) rfl rfl rfl rfl rfl rfl rfl (by decide) rfl ?_ ?_
      · refine iv_Gm 7 (pc2 := 13) (lv2 := [(0, .ref 44), (1, .int (xs 1))]) (st2 := [.int (xs 1)]) (w2 := (iv_wd iv_Az (iv_uF (iv_uF iv_Fz 205 (xs 1)) 4400 0) iv_Bz)) rfl ?_
        refine iv_Gbf (c := decide ((xs 1) < 0)) (p1 := 22) (p2 := 16) (lv2 := [(0, .ref 44), (1, .int (xs 1))]) (st2 := []) (w2 := (iv_wd iv_Az (iv_uF (iv_uF iv_Fz 205 (xs 1)) 4400 0) iv_Bz)) rfl (decide_eq_false h1) ?_
        refine iv_Gm 2 (pc2 := 19) (lv2 := [(0, .ref 44), (1, .int (xs 1))]) (st2 := [.int 40, .int (xs 1)]) (w2 := (iv_wd iv_Az (iv_uF (iv_uF iv_Fz 205 (xs 1)) 4400 0) iv_Bz)) rfl ?_
        refine iv_Gbt (c := decide ((xs 1) ≤ 40)) (p1 := 24) (p2 := 22) (lv2 := [(0, .ref 44), (1, .int (xs 1))]) (st2 := []) (w2 := (iv_wd iv_Az (iv_uF (iv_uF iv_Fz 205 (xs 1)) 4400 0) iv_Bz)) rfl (decide_eq_true (Int32.not_lt.mp (fun q => (iv_lg2 (by decide)).mp q h2))) ?_
        refine iv_Gm 4 (pc2 := 30) (lv2 := [(0, .ref 44), (1, .int (xs 1))]) (st2 := [.int 1]) (w2 := (iv_wd iv_Az (iv_uF (iv_uF (iv_uF iv_Fz 205 (xs 1)) 4400 0) 4408 (xs 1)) iv_Bz)) rfl ?_
        exact iv_Gret rfl rfl rfl
      show iv_Fin _ _ _ _ 608 [(4, .int 0), (3, .ref 65), (2, .ref 44), (1, .ref 1), (0, .ref 0)] [.int 1, .int 1] (iv_wd iv_Az (iv_uF (iv_uF (iv_uF iv_Fz 205 (xs 1)) 4400 0) 4408 (xs 1)) iv_Bz) true _ _
      refine iv_Em 10 (pc2 := 788) (lv2 := [(4, .int 6), (3, .ref 65), (2, .ref 44), (1, .ref 1), (0, .ref 0)]) (st2 := [.int 1]) (w2 := (iv_wd iv_Az (iv_uF (iv_uF (iv_uF iv_Fz 205 (xs 1)) 4400 0) 4408 (xs 1)) iv_Bz)) rfl ?_
      exact iv_Eret rfl rfl rfl (by decide) (by decide)
    · refine iv_Em 11 (pc2 := 40) (lv2 := [(4, .int 0), (3, .ref 65), (2, .ref 44), (1, .ref 1), (0, .ref 0)]) (st2 := [.int ((xs 0) &&& 15)]) (w2 := (iv_wd iv_Az iv_Fz iv_Bz)) rfl ?_
      refine iv_Esw rfl rfl (show iv_sw 40 _ _ _ _ _ = some 588 by rw [h0]; rfl) ?_
      refine iv_Em 6 (pc2 := 595) (lv2 := [(4, .int 0), (3, .ref 65), (2, .ref 44), (1, .ref 1), (0, .ref 0)]) (st2 := [.int (xs 1), .ref 1]) (w2 := (iv_wd iv_Az iv_Fz iv_Bz)) rfl ?_
      refine iv_Ecall (ν := 10) (c := 2) (as := [.ref 1, .int (xs 1)]) (rest := []) (w2 := (iv_wd iv_Az iv_Fz iv_Bz)) (tg2 := true) (k2 := 0) (z2 := 0) (v := (some (.int 0))) rfl rfl rfl rfl rfl rfl rfl (by decide) rfl ?_ ?_
      · refine iv_Gm 2 (pc2 := 4) (lv2 := [(0, .ref 1), (1, .int (xs 1))]) (st2 := [.ref 2]) (w2 := (iv_wd iv_Az iv_Fz iv_Bz)) rfl ?_
        refine iv_Gcall (ν := 56) (c := 1) (as := [.ref 2]) (rest := []) (w2 := (iv_wd iv_Az iv_Fz iv_Bz)) (tg2 := true) (k2 := 0) (z2 := 0) (v := (some (.int 0))) rfl rfl rfl rfl rfl rfl rfl (by decide) rfl ?_ ?_
        · exact ⟨5, rfl⟩
        show iv_G _ _ _ _ 7 [(0, .ref 1), (1, .int (xs 1))] [.int 0] (iv_wd iv_Az iv_Fz iv_Bz) true _ _ _
        refine iv_Gm 2 (pc2 := 11) (lv2 := [(0, .ref 1), (1, .int (xs 1))]) (st2 := [.int (xs 1)]) (w2 := (iv_wd iv_Az iv_Fz iv_Bz)) rfl ?_
        refine iv_Gbf (c := decide ((xs 1) < 0)) (p1 := 20) (p2 := 14) (lv2 := [(0, .ref 1), (1, .int (xs 1))]) (st2 := []) (w2 := (iv_wd iv_Az iv_Fz iv_Bz)) rfl (decide_eq_false h1) ?_
        refine iv_Gm 2 (pc2 := 17) (lv2 := [(0, .ref 1), (1, .int (xs 1))]) (st2 := [.int 40, .int (xs 1)]) (w2 := (iv_wd iv_Az iv_Fz iv_Bz)) rfl ?_
        refine iv_Gbf (c := decide ((xs 1) ≤ 40)) (p1 := 22) (p2 := 20) (lv2 := [(0, .ref 1), (1, .int (xs 1))]) (st2 := []) (w2 := (iv_wd iv_Az iv_Fz iv_Bz)) rfl (decide_eq_false (Int32.not_le.mpr ((iv_lg2 (by decide)).mpr h2))) ?_
        refine iv_Gm 1 (pc2 := 21) (lv2 := [(0, .ref 1), (1, .int (xs 1))]) (st2 := [.int 0]) (w2 := (iv_wd iv_Az iv_Fz iv_Bz)) rfl ?_
        exact iv_Gret rfl rfl rfl
      show iv_Fin _ _ _ _ 598 [(4, .int 0), (3, .ref 65), (2, .ref 44), (1, .ref 1), (0, .ref 0)] [.int 0] (iv_wd iv_Az iv_Fz iv_Bz) true _ _
      refine iv_Em 6 (pc2 := 605) (lv2 := [(4, .int 0), (3, .ref 65), (2, .ref 44), (1, .ref 1), (0, .ref 0)]) (st2 := [.int (xs 1), .ref 44, .int 0]) (w2 := (iv_wd iv_Az iv_Fz iv_Bz)) rfl ?_
      refine iv_Ecall (ν := 175) (c := 2) (as := [.ref 44, .int (xs 1)]) (rest := [.int 0]) (w2 := (iv_wd iv_Az (iv_uF iv_Fz 4400 0) iv_Bz)) (tg2 := true) (k2 := 0) (z2 := 0) (v := (some (.int 0))) rfl rfl rfl rfl rfl rfl rfl (by decide) rfl ?_ ?_
      · refine iv_Gm 7 (pc2 := 13) (lv2 := [(0, .ref 44), (1, .int (xs 1))]) (st2 := [.int (xs 1)]) (w2 := (iv_wd iv_Az (iv_uF iv_Fz 4400 0) iv_Bz)) rfl ?_
        refine iv_Gbf (c := decide ((xs 1) < 0)) (p1 := 22) (p2 := 16) (lv2 := [(0, .ref 44), (1, .int (xs 1))]) (st2 := []) (w2 := (iv_wd iv_Az (iv_uF iv_Fz 4400 0) iv_Bz)) rfl (decide_eq_false h1) ?_
        refine iv_Gm 2 (pc2 := 19) (lv2 := [(0, .ref 44), (1, .int (xs 1))]) (st2 := [.int 40, .int (xs 1)]) (w2 := (iv_wd iv_Az (iv_uF iv_Fz 4400 0) iv_Bz)) rfl ?_
        refine iv_Gbf (c := decide ((xs 1) ≤ 40)) (p1 := 24) (p2 := 22) (lv2 := [(0, .ref 44), (1, .int (xs 1))]) (st2 := []) (w2 := (iv_wd iv_Az (iv_uF iv_Fz 4400 0) iv_Bz)) rfl (decide_eq_false (Int32.not_le.mpr ((iv_lg2 (by decide)).mpr h2))) ?_
        refine iv_Gm 1 (pc2 := 23) (lv2 := [(0, .ref 44), (1, .int (xs 1))]) (st2 := [.int 0]) (w2 := (iv_wd iv_Az (iv_uF iv_Fz 4400 0) iv_Bz)) rfl ?_
        exact iv_Gret rfl rfl rfl
      show iv_Fin _ _ _ _ 608 [(4, .int 0), (3, .ref 65), (2, .ref 44), (1, .ref 1), (0, .ref 0)] [.int 0, .int 0] (iv_wd iv_Az (iv_uF iv_Fz 4400 0) iv_Bz) true _ _
      refine iv_Em 10 (pc2 := 788) (lv2 := [(4, .int 6), (3, .ref 65), (2, .ref 44), (1, .ref 1), (0, .ref 0)]) (st2 := [.int 1]) (w2 := (iv_wd iv_Az (iv_uF iv_Fz 4400 0) iv_Bz)) rfl ?_
      exact iv_Eret rfl rfl rfl (by decide) (by decide)
set_option maxRecDepth 1000000 in
set_option maxHeartbeats 40000000 in
theorem iv_case_9 (xs : Nat → Int32) (h0 : xs 0 &&& 15 = 9) : iv_Fin 6 xs 20 0 23 [(4, .int 0), (3, .ref 65), (2, .ref 44), (1, .ref 1), (0, .ref 0)] [] (iv_wd iv_Az iv_Fz iv_Bz) true 65 10417 := by
  by_cases h1 : (xs 1) < 2
  · refine iv_Em 11 (pc2 := 40) (lv2 := [(4, .int 0), (3, .ref 65), (2, .ref 44), (1, .ref 1), (0, .ref 0)]) (st2 := [.int ((xs 0) &&& 15)]) (w2 := (iv_wd iv_Az iv_Fz iv_Bz)) rfl ?_
    refine iv_Esw rfl rfl (show iv_sw 40 _ _ _ _ _ = some 613 by rw [h0]; rfl) ?_
    refine iv_Em 6 (pc2 := 620) (lv2 := [(4, .int 0), (3, .ref 65), (2, .ref 44), (1, .ref 1), (0, .ref 0)]) (st2 := [.int (xs 1), .ref 1]) (w2 := (iv_wd iv_Az iv_Fz iv_Bz)) rfl ?_
    refine iv_Ecall (ν := 11) (c := 2) (as := [.ref 1, .int (xs 1)]) (rest := []) (w2 := (iv_wd iv_Az iv_Fz iv_Bz)) (tg2 := true) (k2 := 0) (z2 := 0) (v := (some (.int 0))) rfl rfl rfl rfl rfl rfl rfl (by decide) rfl ?_ ?_
    · refine iv_Gm 1 (pc2 := 1) (lv2 := [(0, .ref 1), (1, .int (xs 1))]) (st2 := [.int (xs 1)]) (w2 := (iv_wd iv_Az iv_Fz iv_Bz)) rfl ?_
      refine iv_Gcall (ν := 25) (c := 1) (as := [.int (xs 1)]) (rest := []) (w2 := (iv_wd iv_Az iv_Fz iv_Bz)) (tg2 := true) (k2 := 0) (z2 := 0) (v := (some (.int 0))) rfl rfl rfl rfl rfl rfl rfl (by decide) rfl ?_ ?_
      · refine iv_Gm 2 (pc2 := 2) (lv2 := [(0, .int (xs 1))]) (st2 := [.int 2, .int (xs 1)]) (w2 := (iv_wd iv_Az iv_Fz iv_Bz)) rfl ?_
        refine iv_Gbt (c := decide ((xs 1) < 2)) (p1 := 15) (p2 := 5) (lv2 := [(0, .int (xs 1))]) (st2 := []) (w2 := (iv_wd iv_Az iv_Fz iv_Bz)) rfl (decide_eq_true h1) ?_
        refine iv_Gm 1 (pc2 := 16) (lv2 := [(0, .int (xs 1))]) (st2 := [.int 0]) (w2 := (iv_wd iv_Az iv_Fz iv_Bz)) rfl ?_
        exact iv_Gret rfl rfl rfl
      show iv_G _ _ _ _ 4 [(0, .ref 1), (1, .int (xs 1))] [.int 0] (iv_wd iv_Az iv_Fz iv_Bz) true _ _ _
      refine iv_Gm 2 (pc2 := 19) (lv2 := [(0, .ref 1), (1, .int (xs 1))]) (st2 := [.int 0]) (w2 := (iv_wd iv_Az iv_Fz iv_Bz)) rfl ?_
      exact iv_Gret rfl rfl rfl
    show iv_Fin _ _ _ _ 623 [(4, .int 0), (3, .ref 65), (2, .ref 44), (1, .ref 1), (0, .ref 0)] [.int 0] (iv_wd iv_Az iv_Fz iv_Bz) true _ _
    refine iv_Em 6 (pc2 := 630) (lv2 := [(4, .int 0), (3, .ref 65), (2, .ref 44), (1, .ref 1), (0, .ref 0)]) (st2 := [.int (xs 1), .ref 44, .int 0]) (w2 := (iv_wd iv_Az iv_Fz iv_Bz)) rfl ?_
    refine iv_Ecall (ν := 176) (c := 2) (as := [.ref 44, .int (xs 1)]) (rest := [.int 0]) (w2 := (iv_wd iv_Az (iv_uF iv_Fz 4400 0) iv_Bz)) (tg2 := true) (k2 := 0) (z2 := 0) (v := (some (.int 0))) rfl rfl rfl rfl rfl rfl rfl (by decide) rfl ?_ ?_
    · refine iv_Gm 4 (pc2 := 6) (lv2 := [(0, .ref 44), (1, .int (xs 1))]) (st2 := [.int (xs 1)]) (w2 := (iv_wd iv_Az (iv_uF iv_Fz 4400 0) iv_Bz)) rfl ?_
      refine iv_Gcall (ν := 138) (c := 1) (as := [.int (xs 1)]) (rest := []) (w2 := (iv_wd iv_Az (iv_uF iv_Fz 4400 0) iv_Bz)) (tg2 := true) (k2 := 0) (z2 := 0) (v := (some (.int 0))) rfl rfl rfl rfl rfl rfl rfl (by decide) rfl ?_ ?_
      · refine iv_Gm 2 (pc2 := 2) (lv2 := [(0, .int (xs 1))]) (st2 := [.int 2, .int (xs 1)]) (w2 := (iv_wd iv_Az (iv_uF iv_Fz 4400 0) iv_Bz)) rfl ?_
        refine iv_Gbt (c := decide ((xs 1) < 2)) (p1 := 15) (p2 := 5) (lv2 := [(0, .int (xs 1))]) (st2 := []) (w2 := (iv_wd iv_Az (iv_uF iv_Fz 4400 0) iv_Bz)) rfl (decide_eq_true h1) ?_
        refine iv_Gm 1 (pc2 := 16) (lv2 := [(0, .int (xs 1))]) (st2 := [.int 0]) (w2 := (iv_wd iv_Az (iv_uF iv_Fz 4400 0) iv_Bz)) rfl ?_
        exact iv_Gret rfl rfl rfl
      show iv_G _ _ _ _ 9 [(0, .ref 44), (1, .int (xs 1))] [.int 0] (iv_wd iv_Az (iv_uF iv_Fz 4400 0) iv_Bz) true _ _ _
      refine iv_Gm 2 (pc2 := 22) (lv2 := [(0, .ref 44), (1, .int (xs 1))]) (st2 := [.int 0]) (w2 := (iv_wd iv_Az (iv_uF iv_Fz 4400 0) iv_Bz)) rfl ?_
      exact iv_Gret rfl rfl rfl
    show iv_Fin _ _ _ _ 633 [(4, .int 0), (3, .ref 65), (2, .ref 44), (1, .ref 1), (0, .ref 0)] [.int 0, .int 0] (iv_wd iv_Az (iv_uF iv_Fz 4400 0) iv_Bz) true _ _
    refine iv_Em 10 (pc2 := 788) (lv2 := [(4, .int 6), (3, .ref 65), (2, .ref 44), (1, .ref 1), (0, .ref 0)]) (st2 := [.int 1]) (w2 := (iv_wd iv_Az (iv_uF iv_Fz 4400 0) iv_Bz)) rfl ?_
    exact iv_Eret rfl rfl rfl (by decide) (by decide)
  · by_cases h2 : (xs 1) < 32
    · refine iv_Em 11 (pc2 := 40) (lv2 := [(4, .int 0), (3, .ref 65), (2, .ref 44), (1, .ref 1), (0, .ref 0)]) (st2 := [.int ((xs 0) &&& 15)]) (w2 := (iv_wd iv_Az iv_Fz iv_Bz)) rfl ?_
      refine iv_Esw rfl rfl (show iv_sw 40 _ _ _ _ _ = some 613 by rw [h0]; rfl) ?_
      refine iv_Em 6 (pc2 := 620) (lv2 := [(4, .int 0), (3, .ref 65), (2, .ref 44), (1, .ref 1), (0, .ref 0)]) (st2 := [.int (xs 1), .ref 1]) (w2 := (iv_wd iv_Az iv_Fz iv_Bz)) rfl ?_
      refine iv_Ecall (ν := 11) (c := 2) (as := [.ref 1, .int (xs 1)]) (rest := []) (w2 := (iv_wd (iv_uA iv_Az 5 (Int32.toNatClampNeg (xs 1)) 1) iv_Fz iv_Bz)) (tg2 := true) (k2 := 0) (z2 := 0) (v := (some (.int 1))) rfl rfl rfl rfl rfl rfl rfl (by decide) rfl ?_ ?_
      · refine iv_Gm 1 (pc2 := 1) (lv2 := [(0, .ref 1), (1, .int (xs 1))]) (st2 := [.int (xs 1)]) (w2 := (iv_wd iv_Az iv_Fz iv_Bz)) rfl ?_
        refine iv_Gcall (ν := 25) (c := 1) (as := [.int (xs 1)]) (rest := []) (w2 := (iv_wd iv_Az iv_Fz iv_Bz)) (tg2 := true) (k2 := 0) (z2 := 0) (v := (some (.int 1))) rfl rfl rfl rfl rfl rfl rfl (by decide) rfl ?_ ?_
        · refine iv_Gm 2 (pc2 := 2) (lv2 := [(0, .int (xs 1))]) (st2 := [.int 2, .int (xs 1)]) (w2 := (iv_wd iv_Az iv_Fz iv_Bz)) rfl ?_
          refine iv_Gbf (c := decide ((xs 1) < 2)) (p1 := 15) (p2 := 5) (lv2 := [(0, .int (xs 1))]) (st2 := []) (w2 := (iv_wd iv_Az iv_Fz iv_Bz)) rfl (decide_eq_false h1) ?_
          refine iv_Gm 2 (pc2 := 8) (lv2 := [(0, .int (xs 1))]) (st2 := [.int 32, .int (xs 1)]) (w2 := (iv_wd iv_Az iv_Fz iv_Bz)) rfl ?_
          refine iv_Gbf (c := decide (32 ≤ (xs 1))) (p1 := 15) (p2 := 11) (lv2 := [(0, .int (xs 1))]) (st2 := []) (w2 := (iv_wd iv_Az iv_Fz iv_Bz)) rfl (decide_eq_false (Int32.not_le.mpr h2)) ?_
          refine iv_Gm 2 (pc2 := 16) (lv2 := [(0, .int (xs 1))]) (st2 := [.int 1]) (w2 := (iv_wd iv_Az iv_Fz iv_Bz)) rfl ?_
          exact iv_Gret rfl rfl rfl
        show iv_G _ _ _ _ 4 [(0, .ref 1), (1, .int (xs 1))] [.int 1] (iv_wd iv_Az iv_Fz iv_Bz) true _ _ _
        refine iv_Gm 4 (pc2 := 12) (lv2 := [(0, .ref 1), (1, .int (xs 1))]) (st2 := [.int (xs 1), .ref 2]) (w2 := (iv_wd iv_Az iv_Fz iv_Bz)) rfl ?_
        refine iv_Gcall (ν := 60) (c := 2) (as := [.ref 2, .int (xs 1)]) (rest := []) (w2 := (iv_wd iv_Az iv_Fz iv_Bz)) (tg2 := true) (k2 := 0) (z2 := 0) (v := (some (.int 0))) rfl rfl rfl rfl rfl rfl rfl (by decide) rfl ?_ ?_
        · refine iv_Gm 3 (pc2 := 5) (lv2 := [(0, .ref 2), (1, .int (xs 1))]) (st2 := [.int (xs 1), .ref 5]) (w2 := (iv_wd iv_Az iv_Fz iv_Bz)) rfl ?_
          refine iv_Gif (pc2 := 6) (lv2 := [(0, .ref 2), (1, .int (xs 1))]) (st2 := [.int 0]) (w2 := (iv_wd iv_Az iv_Fz iv_Bz)) rfl (iv_in_a h1 h2 (by decide) (by decide)) ?_
          exact iv_Gret rfl rfl rfl
        show iv_G _ _ _ _ 15 [(0, .ref 1), (1, .int (xs 1))] [.int 0] (iv_wd iv_Az iv_Fz iv_Bz) true _ _ _
        refine iv_Gm 4 (pc2 := 25) (lv2 := [(0, .ref 1), (1, .int (xs 1))]) (st2 := [.int (xs 1), .ref 2]) (w2 := (iv_wd iv_Az iv_Fz iv_Bz)) rfl ?_
        refine iv_Gcall (ν := 61) (c := 2) (as := [.ref 2, .int (xs 1)]) (rest := []) (w2 := (iv_wd (iv_uA iv_Az 5 (Int32.toNatClampNeg (xs 1)) 1) iv_Fz iv_Bz)) (tg2 := true) (k2 := 0) (z2 := 0) (v := none) rfl rfl rfl rfl rfl rfl rfl (by decide) rfl ?_ ?_
        · refine iv_Gm 4 (pc2 := 6) (lv2 := [(0, .ref 2), (1, .int (xs 1))]) (st2 := [.int 1, .int (xs 1), .ref 5]) (w2 := (iv_wd iv_Az iv_Fz iv_Bz)) rfl ?_
          refine iv_Gif (pc2 := 7) (lv2 := [(0, .ref 2), (1, .int (xs 1))]) (st2 := []) (w2 := (iv_wd (iv_uA iv_Az 5 (Int32.toNatClampNeg (xs 1)) 1) iv_Fz iv_Bz)) rfl (iv_in_a h1 h2 (by decide) (by decide)) ?_
          exact iv_Gret rfl rfl rfl
        show iv_G _ _ _ _ 28 [(0, .ref 1), (1, .int (xs 1))] [] (iv_wd (iv_uA iv_Az 5 (Int32.toNatClampNeg (xs 1)) 1) iv_Fz iv_Bz) true _ _ _
        refine iv_Gm 1 (pc2 := 29) (lv2 := [(0, .ref 1), (1, .int (xs 1))]) (st2 := [.int 1]) (w2 := (iv_wd (iv_uA iv_Az 5 (Int32.toNatClampNeg (xs 1)) 1) iv_Fz iv_Bz)) rfl ?_
        exact iv_Gret rfl rfl rfl
      show iv_Fin _ _ _ _ 623 [(4, .int 0), (3, .ref 65), (2, .ref 44), (1, .ref 1), (0, .ref 0)] [.int 1] (iv_wd (iv_uA iv_Az 5 (Int32.toNatClampNeg (xs 1)) 1) iv_Fz iv_Bz) true _ _
      refine iv_Em 6 (pc2 := 630) (lv2 := [(4, .int 0), (3, .ref 65), (2, .ref 44), (1, .ref 1), (0, .ref 0)]) (st2 := [.int (xs 1), .ref 44, .int 1]) (w2 := (iv_wd (iv_uA iv_Az 5 (Int32.toNatClampNeg (xs 1)) 1) iv_Fz iv_Bz)) rfl ?_
      refine iv_Ecall (ν := 176) (c := 2) (as := [.ref 44, .int (xs 1)]) (rest := [.int 1]) (w2 := (iv_wd (iv_uA (iv_uA iv_Az 5 (Int32.toNatClampNeg (xs 1)) 1) 48 (Int32.toNatClampNeg (xs 1)) 1) (iv_uF iv_Fz 4400 0) iv_Bz)) (tg2 := true) (k2 := 0) (z2 := 0) (v := (some (.int 1))) rfl rfl rfl rfl rfl rfl rfl (by decide) rfl ?_ ?_
      · refine iv_Gm 4 (pc2 := 6) (lv2 := [(0, .ref 44), (1, .int (xs 1))]) (st2 := [.int (xs 1)]) (w2 := (iv_wd (iv_uA iv_Az 5 (Int32.toNatClampNeg (xs 1)) 1) (iv_uF iv_Fz 4400 0) iv_Bz)) rfl ?_
        refine iv_Gcall (ν := 138) (c := 1) (as := [.int (xs 1)]) (rest := []) (w2 := (iv_wd (iv_uA iv_Az 5 (Int32.toNatClampNeg (xs 1)) 1) (iv_uF iv_Fz 4400 0) iv_Bz)) (tg2 := true) (k2 := 0) (z2 := 0) (v := (some (.int 1))) rfl rfl rfl rfl rfl rfl rfl (by decide) rfl ?_ ?_
        · refine iv_Gm 2 (pc2 := 2) (lv2 := [(0, .int (xs 1))]) (st2 := [.int 2, .int (xs 1)]) (w2 := (iv_wd (iv_uA iv_Az 5 (Int32.toNatClampNeg (xs 1)) 1) (iv_uF iv_Fz 4400 0) iv_Bz)) rfl ?_
          refine iv_Gbf (c := decide ((xs 1) < 2)) (p1 := 15) (p2 := 5) (lv2 := [(0, .int (xs 1))]) (st2 := []) (w2 := (iv_wd (iv_uA iv_Az 5 (Int32.toNatClampNeg (xs 1)) 1) (iv_uF iv_Fz 4400 0) iv_Bz)) rfl (decide_eq_false h1) ?_
          refine iv_Gm 2 (pc2 := 8) (lv2 := [(0, .int (xs 1))]) (st2 := [.int 31, .int (xs 1)]) (w2 := (iv_wd (iv_uA iv_Az 5 (Int32.toNatClampNeg (xs 1)) 1) (iv_uF iv_Fz 4400 0) iv_Bz)) rfl ?_
          refine iv_Gbf (c := decide (31 < (xs 1))) (p1 := 15) (p2 := 11) (lv2 := [(0, .int (xs 1))]) (st2 := []) (w2 := (iv_wd (iv_uA iv_Az 5 (Int32.toNatClampNeg (xs 1)) 1) (iv_uF iv_Fz 4400 0) iv_Bz)) rfl (decide_eq_false (fun q => (iv_lg2 (by decide)).mp q h2)) ?_
          refine iv_Gm 2 (pc2 := 16) (lv2 := [(0, .int (xs 1))]) (st2 := [.int 1]) (w2 := (iv_wd (iv_uA iv_Az 5 (Int32.toNatClampNeg (xs 1)) 1) (iv_uF iv_Fz 4400 0) iv_Bz)) rfl ?_
          exact iv_Gret rfl rfl rfl
        show iv_G _ _ _ _ 9 [(0, .ref 44), (1, .int (xs 1))] [.int 1] (iv_wd (iv_uA iv_Az 5 (Int32.toNatClampNeg (xs 1)) 1) (iv_uF iv_Fz 4400 0) iv_Bz) true _ _ _
        refine iv_Gm 4 (pc2 := 17) (lv2 := [(0, .ref 44), (1, .int (xs 1))]) (st2 := [.int (xs 1), .ref 48]) (w2 := (iv_wd (iv_uA iv_Az 5 (Int32.toNatClampNeg (xs 1)) 1) (iv_uF iv_Fz 4400 0) iv_Bz)) rfl ?_
        refine iv_Gif (pc2 := 18) (lv2 := [(0, .ref 44), (1, .int (xs 1))]) (st2 := [.int 0]) (w2 := (iv_wd (iv_uA iv_Az 5 (Int32.toNatClampNeg (xs 1)) 1) (iv_uF iv_Fz 4400 0) iv_Bz)) rfl (iv_in_a h1 h2 (by decide) (by decide)) ?_
        refine iv_Gm 5 (pc2 := 29) (lv2 := [(0, .ref 44), (1, .int (xs 1))]) (st2 := [.int 1, .int (xs 1), .ref 48]) (w2 := (iv_wd (iv_uA iv_Az 5 (Int32.toNatClampNeg (xs 1)) 1) (iv_uF iv_Fz 4400 0) iv_Bz)) rfl ?_
        refine iv_Gif (pc2 := 30) (lv2 := [(0, .ref 44), (1, .int (xs 1))]) (st2 := []) (w2 := (iv_wd (iv_uA (iv_uA iv_Az 5 (Int32.toNatClampNeg (xs 1)) 1) 48 (Int32.toNatClampNeg (xs 1)) 1) (iv_uF iv_Fz 4400 0) iv_Bz)) rfl (iv_in_a h1 h2 (by decide) (by decide)) ?_
        refine iv_Gm 1 (pc2 := 31) (lv2 := [(0, .ref 44), (1, .int (xs 1))]) (st2 := [.int 1]) (w2 := (iv_wd (iv_uA (iv_uA iv_Az 5 (Int32.toNatClampNeg (xs 1)) 1) 48 (Int32.toNatClampNeg (xs 1)) 1) (iv_uF iv_Fz 4400 0) iv_Bz)) rfl ?_
        exact iv_Gret rfl rfl rfl
      show iv_Fin _ _ _ _ 633 [(4, .int 0), (3, .ref 65), (2, .ref 44), (1, .ref 1), (0, .ref 0)] [.int 1, .int 1] (iv_wd (iv_uA (iv_uA iv_Az 5 (Int32.toNatClampNeg (xs 1)) 1) 48 (Int32.toNatClampNeg (xs 1)) 1) (iv_uF iv_Fz 4400 0) iv_Bz) true _ _
      refine iv_Em 10 (pc2 := 788) (lv2 := [(4, .int 6), (3, .ref 65), (2, .ref 44), (1, .ref 1), (0, .ref 0)]) (st2 := [.int 1]) (w2 := (iv_wd (iv_uA (iv_uA iv_Az 5 (Int32.toNatClampNeg (xs 1)) 1) 48 (Int32.toNatClampNeg (xs 1)) 1) (iv_uF iv_Fz 4400 0) iv_Bz)) rfl ?_
      exact iv_Eret rfl rfl rfl (by decide) (by decide)
    · refine iv_Em 11 (pc2 := 40) (lv2 := [(4, .int 0), (3, .ref 65), (2, .ref 44), (1, .ref 1), (0, .ref 0)]) (st2 := [.int ((xs 0) &&& 15)]) (w2 := (iv_wd iv_Az iv_Fz iv_Bz)) rfl ?_
      refine iv_Esw rfl rfl (show iv_sw 40 _ _ _ _ _ = some 613 by rw [h0]; rfl) ?_
      refine iv_Em 6 (pc2 := 620) (lv2 := [(4, .int 0), (3, .ref 65), (2, .ref 44), (1, .ref 1), (0, .ref 0)]) (st2 := [.int (xs 1), .ref 1]) (w2 := (iv_wd iv_Az iv_Fz iv_Bz)) rfl ?_
      refine iv_Ecall (ν := 11) (c := 2) (as := [.ref 1, .int (xs 1)]) (rest := []) (w2 := (iv_wd iv_Az iv_Fz iv_Bz)) (tg2 := true) (k2 := 0) (z2 := 0) (v := (some (.int 0))) rfl rfl rfl rfl rfl rfl rfl (by decide) rfl ?_ ?_
      · refine iv_Gm 1 (pc2 := 1) (lv2 := [(0, .ref 1), (1, .int (xs 1))]) (st2 := [.int (xs 1)]) (w2 := (iv_wd iv_Az iv_Fz iv_Bz)) rfl ?_
        refine iv_Gcall (ν := 25) (c := 1) (as := [.int (xs 1)]) (rest := []) (w2 := (iv_wd iv_Az iv_Fz iv_Bz)) (tg2 := true) (k2 := 0) (z2 := 0) (v := (some (.int 0))) rfl rfl rfl rfl rfl rfl rfl (by decide) rfl ?_ ?_
        · refine iv_Gm 2 (pc2 := 2) (lv2 := [(0, .int (xs 1))]) (st2 := [.int 2, .int (xs 1)]) (w2 := (iv_wd iv_Az iv_Fz iv_Bz)) rfl ?_
          refine iv_Gbf (c := decide ((xs 1) < 2)) (p1 := 15) (p2 := 5) (lv2 := [(0, .int (xs 1))]) (st2 := []) (w2 := (iv_wd iv_Az iv_Fz iv_Bz)) rfl (decide_eq_false h1) ?_
          refine iv_Gm 2 (pc2 := 8) (lv2 := [(0, .int (xs 1))]) (st2 := [.int 32, .int (xs 1)]) (w2 := (iv_wd iv_Az iv_Fz iv_Bz)) rfl ?_
          refine iv_Gbt (c := decide (32 ≤ (xs 1))) (p1 := 15) (p2 := 11) (lv2 := [(0, .int (xs 1))]) (st2 := []) (w2 := (iv_wd iv_Az iv_Fz iv_Bz)) rfl (decide_eq_true (Int32.not_lt.mp h2)) ?_
          refine iv_Gm 1 (pc2 := 16) (lv2 := [(0, .int (xs 1))]) (st2 := [.int 0]) (w2 := (iv_wd iv_Az iv_Fz iv_Bz)) rfl ?_
          exact iv_Gret rfl rfl rfl
        show iv_G _ _ _ _ 4 [(0, .ref 1), (1, .int (xs 1))] [.int 0] (iv_wd iv_Az iv_Fz iv_Bz) true _ _ _
        refine iv_Gm 2 (pc2 := 19) (lv2 := [(0, .ref 1), (1, .int (xs 1))]) (st2 := [.int 0]) (w2 := (iv_wd iv_Az iv_Fz iv_Bz)) rfl ?_
        exact iv_Gret rfl rfl rfl
      show iv_Fin _ _ _ _ 623 [(4, .int 0), (3, .ref 65), (2, .ref 44), (1, .ref 1), (0, .ref 0)] [.int 0] (iv_wd iv_Az iv_Fz iv_Bz) true _ _
      refine iv_Em 6 (pc2 := 630) (lv2 := [(4, .int 0), (3, .ref 65), (2, .ref 44), (1, .ref 1), (0, .ref 0)]) (st2 := [.int (xs 1), .ref 44, .int 0]) (w2 := (iv_wd iv_Az iv_Fz iv_Bz)) rfl ?_
      refine iv_Ecall (ν := 176) (c := 2) (as := [.ref 44, .int (xs 1)]) (rest := [.int 0]) (w2 := (iv_wd iv_Az (iv_uF iv_Fz 4400 0) iv_Bz)) (tg2 := true) (k2 := 0) (z2 := 0) (v := (some (.int 0))) rfl rfl rfl rfl rfl rfl rfl (by decide) rfl ?_ ?_
      · refine iv_Gm 4 (pc2 := 6) (lv2 := [(0, .ref 44), (1, .int (xs 1))]) (st2 := [.int (xs 1)]) (w2 := (iv_wd iv_Az (iv_uF iv_Fz 4400 0) iv_Bz)) rfl ?_
        refine iv_Gcall (ν := 138) (c := 1) (as := [.int (xs 1)]) (rest := []) (w2 := (iv_wd iv_Az (iv_uF iv_Fz 4400 0) iv_Bz)) (tg2 := true) (k2 := 0) (z2 := 0) (v := (some (.int 0))) rfl rfl rfl rfl rfl rfl rfl (by decide) rfl ?_ ?_
        · refine iv_Gm 2 (pc2 := 2) (lv2 := [(0, .int (xs 1))]) (st2 := [.int 2, .int (xs 1)]) (w2 := (iv_wd iv_Az (iv_uF iv_Fz 4400 0) iv_Bz)) rfl ?_
          refine iv_Gbf (c := decide ((xs 1) < 2)) (p1 := 15) (p2 := 5) (lv2 := [(0, .int (xs 1))]) (st2 := []) (w2 := (iv_wd iv_Az (iv_uF iv_Fz 4400 0) iv_Bz)) rfl (decide_eq_false h1) ?_
          refine iv_Gm 2 (pc2 := 8) (lv2 := [(0, .int (xs 1))]) (st2 := [.int 31, .int (xs 1)]) (w2 := (iv_wd iv_Az (iv_uF iv_Fz 4400 0) iv_Bz)) rfl ?_
          refine iv_Gbt (c := decide (31 < (xs 1))) (p1 := 15) (p2 := 11) (lv2 := [(0, .int (xs 1))]) (st2 := []) (w2 := (iv_wd iv_Az (iv_uF iv_Fz 4400 0) iv_Bz)) rfl (decide_eq_true ((iv_lg2 (by decide)).mpr h2)) ?_
          refine iv_Gm 1 (pc2 := 16) (lv2 := [(0, .int (xs 1))]) (st2 := [.int 0]) (w2 := (iv_wd iv_Az (iv_uF iv_Fz 4400 0) iv_Bz)) rfl ?_
          exact iv_Gret rfl rfl rfl
        show iv_G _ _ _ _ 9 [(0, .ref 44), (1, .int (xs 1))] [.int 0] (iv_wd iv_Az (iv_uF iv_Fz 4400 0) iv_Bz) true _ _ _
        refine iv_Gm 2 (pc2 := 22) (lv2 := [(0, .ref 44), (1, .int (xs 1))]) (st2 := [.int 0]) (w2 := (iv_wd iv_Az (iv_uF iv_Fz 4400 0) iv_Bz)) rfl ?_
        exact iv_Gret rfl rfl rfl
      show iv_Fin _ _ _ _ 633 [(4, .int 0), (3, .ref 65), (2, .ref 44), (1, .ref 1), (0, .ref 0)] [.int 0, .int 0] (iv_wd iv_Az (iv_uF iv_Fz 4400 0) iv_Bz) true _ _
      refine iv_Em 10 (pc2 := 788) (lv2 := [(4, .int 6), (3, .ref 65), (2, .ref 44), (1, .ref 1), (0, .ref 0)]) (st2 := [.int 1]) (w2 := (iv_wd iv_Az (iv_uF iv_Fz 4400 0) iv_Bz)) rfl ?_
      exact iv_Eret rfl rfl rfl (by decide) (by decide)
set_option maxRecDepth 1000000 in
set_option maxHeartbeats 40000000 in
theorem iv_case_3 (xs : Nat → Int32) (h0 : xs 0 &&& 15 = 3) : iv_Fin 6 xs 20 0 23 [(4, .int 0), (3, .ref 65), (2, .ref 44), (1, .ref 1), (0, .ref 0)] [] (iv_wd iv_Az iv_Fz iv_Bz) true 65 10417 := by
  refine iv_Em 11 (pc2 := 40) (lv2 := [(4, .int 0), (3, .ref 65), (2, .ref 44), (1, .ref 1), (0, .ref 0)]) (st2 := [.int ((xs 0) &&& 15)]) (w2 := (iv_wd iv_Az iv_Fz iv_Bz)) rfl ?_
  refine iv_Esw rfl rfl (show iv_sw 40 _ _ _ _ _ = some 264 by rw [h0]; rfl) ?_
  refine iv_Em 2 (pc2 := 266) (lv2 := [(4, .int 0), (3, .ref 65), (2, .ref 44), (1, .ref 1), (0, .ref 0)]) (st2 := [.ref 65, .ref 1]) (w2 := (iv_wd iv_Az iv_Fz iv_Bz)) rfl ?_
  refine iv_Ecall (ν := 188) (c := 2) (as := [.ref 1, .ref 65]) (rest := []) (w2 := (iv_wd iv_Az (iv_uF iv_Fz 604 0) iv_Bz)) (tg2 := false) (k2 := 1) (z2 := 6) (v := (some (.int 2))) rfl rfl rfl rfl rfl rfl rfl (by decide) rfl ?_ ?_
  · exact ⟨52, rfl⟩
  show iv_Fin _ _ _ _ 269 [(4, .int 0), (3, .ref 65), (2, .ref 44), (1, .ref 1), (0, .ref 0)] [.int 2] (iv_wd iv_Az (iv_uF iv_Fz 604 0) iv_Bz) false _ _
  refine iv_Em 2 (pc2 := 272) (lv2 := [(5, .int 2), (4, .int 0), (3, .ref 65), (2, .ref 44), (1, .ref 1), (0, .ref 0)]) (st2 := [.ref 44]) (w2 := (iv_wd iv_Az (iv_uF iv_Fz 604 0) iv_Bz)) rfl ?_
  refine iv_Ecall (ν := 169) (c := 1) (as := [.ref 44]) (rest := []) (w2 := (iv_wd iv_Az (iv_uF (iv_uF (iv_uF iv_Fz 604 0) 4410 0) 4400 2) iv_Bz)) (tg2 := false) (k2 := 0) (z2 := 0) (v := (some (.int 0))) rfl rfl rfl rfl rfl rfl rfl (by decide) rfl ?_ ?_
  · exact ⟨39, rfl⟩
  show iv_Fin _ _ _ _ 275 [(5, .int 2), (4, .int 0), (3, .ref 65), (2, .ref 44), (1, .ref 1), (0, .ref 0)] [.int 0] (iv_wd iv_Az (iv_uF (iv_uF (iv_uF iv_Fz 604 0) 4410 0) 4400 2) iv_Bz) false _ _
  refine iv_Em 2 (pc2 := 278) (lv2 := [(6, .int 0), (5, .int 2), (4, .int 0), (3, .ref 65), (2, .ref 44), (1, .ref 1), (0, .ref 0)]) (st2 := [.ref 44]) (w2 := (iv_wd iv_Az (iv_uF (iv_uF (iv_uF iv_Fz 604 0) 4410 0) 4400 2) iv_Bz)) rfl ?_
  refine iv_Ecall (ν := 133) (c := 1) (as := [.ref 44]) (rest := []) (w2 := (iv_wd iv_Az (iv_uF (iv_uF (iv_uF iv_Fz 604 0) 4410 0) 4400 2) iv_Bz)) (tg2 := false) (k2 := 0) (z2 := 0) (v := (some (.int 2))) rfl rfl rfl rfl rfl rfl rfl (by decide) rfl ?_ ?_
  · exact ⟨5, rfl⟩
  show iv_Fin _ _ _ _ 281 [(6, .int 0), (5, .int 2), (4, .int 0), (3, .ref 65), (2, .ref 44), (1, .ref 1), (0, .ref 0)] [.int 2] (iv_wd iv_Az (iv_uF (iv_uF (iv_uF iv_Fz 604 0) 4410 0) 4400 2) iv_Bz) false _ _
  refine iv_Em 14 (pc2 := 788) (lv2 := [(4, .int 6), (6, .int 0), (5, .int 2), (3, .ref 65), (2, .ref 44), (1, .ref 1), (0, .ref 0)]) (st2 := [.int 1]) (w2 := (iv_wd iv_Az (iv_uF (iv_uF (iv_uF iv_Fz 604 0) 4410 0) 4400 2) iv_Bz)) rfl ?_
  exact iv_Eret rfl rfl rfl (by decide) (by decide)
set_option maxRecDepth 1000000 in
set_option maxHeartbeats 40000000 in
theorem iv_case_5 (xs : Nat → Int32) (h0 : xs 0 &&& 15 = 5) : iv_Fin 6 xs 20 0 23 [(4, .int 0), (3, .ref 65), (2, .ref 44), (1, .ref 1), (0, .ref 0)] [] (iv_wd iv_Az iv_Fz iv_Bz) true 65 10417 := by
  refine iv_Em 11 (pc2 := 40) (lv2 := [(4, .int 0), (3, .ref 65), (2, .ref 44), (1, .ref 1), (0, .ref 0)]) (st2 := [.int ((xs 0) &&& 15)]) (w2 := (iv_wd iv_Az iv_Fz iv_Bz)) rfl ?_
  refine iv_Esw rfl rfl (show iv_sw 40 _ _ _ _ _ = some 432 by rw [h0]; rfl) ?_
  refine iv_Em 7 (pc2 := 440) (lv2 := [(4, .int 0), (3, .ref 65), (2, .ref 44), (1, .ref 1), (0, .ref 0)]) (st2 := [.ref 65, .int (xs 1), .ref 1]) (w2 := (iv_wd iv_Az iv_Fz iv_Bz)) rfl ?_
  refine iv_Ecall (ν := 190) (c := 3) (as := [.ref 1, .int (xs 1), .ref 65]) (rest := []) (w2 := (iv_wd iv_Az (iv_uF iv_Fz 604 0) iv_Bz)) (tg2 := false) (k2 := 1) (z2 := 6) (v := (some (.int 2))) rfl rfl rfl rfl rfl rfl rfl (by decide) rfl ?_ ?_
  · exact ⟨53, rfl⟩
  show iv_Fin _ _ _ _ 443 [(4, .int 0), (3, .ref 65), (2, .ref 44), (1, .ref 1), (0, .ref 0)] [.int 2] (iv_wd iv_Az (iv_uF iv_Fz 604 0) iv_Bz) false _ _
  refine iv_Em 7 (pc2 := 452) (lv2 := [(5, .int 2), (4, .int 0), (3, .ref 65), (2, .ref 44), (1, .ref 1), (0, .ref 0)]) (st2 := [.int (xs 1), .ref 44]) (w2 := (iv_wd iv_Az (iv_uF iv_Fz 604 0) iv_Bz)) rfl ?_
  refine iv_Ecall (ν := 172) (c := 2) (as := [.ref 44, .int (xs 1)]) (rest := []) (w2 := (iv_wd iv_Az (iv_uF (iv_uF (iv_uF iv_Fz 604 0) 4410 0) 4400 2) iv_Bz)) (tg2 := false) (k2 := 0) (z2 := 0) (v := (some (.int 0))) rfl rfl rfl rfl rfl rfl rfl (by decide) rfl ?_ ?_
  · exact ⟨39, rfl⟩
  show iv_Fin _ _ _ _ 455 [(5, .int 2), (4, .int 0), (3, .ref 65), (2, .ref 44), (1, .ref 1), (0, .ref 0)] [.int 0] (iv_wd iv_Az (iv_uF (iv_uF (iv_uF iv_Fz 604 0) 4410 0) 4400 2) iv_Bz) false _ _
  refine iv_Em 2 (pc2 := 458) (lv2 := [(6, .int 0), (5, .int 2), (4, .int 0), (3, .ref 65), (2, .ref 44), (1, .ref 1), (0, .ref 0)]) (st2 := [.ref 44]) (w2 := (iv_wd iv_Az (iv_uF (iv_uF (iv_uF iv_Fz 604 0) 4410 0) 4400 2) iv_Bz)) rfl ?_
  refine iv_Ecall (ν := 133) (c := 1) (as := [.ref 44]) (rest := []) (w2 := (iv_wd iv_Az (iv_uF (iv_uF (iv_uF iv_Fz 604 0) 4410 0) 4400 2) iv_Bz)) (tg2 := false) (k2 := 0) (z2 := 0) (v := (some (.int 2))) rfl rfl rfl rfl rfl rfl rfl (by decide) rfl ?_ ?_
  · exact ⟨5, rfl⟩
  show iv_Fin _ _ _ _ 461 [(6, .int 0), (5, .int 2), (4, .int 0), (3, .ref 65), (2, .ref 44), (1, .ref 1), (0, .ref 0)] [.int 2] (iv_wd iv_Az (iv_uF (iv_uF (iv_uF iv_Fz 604 0) 4410 0) 4400 2) iv_Bz) false _ _
  refine iv_Em 14 (pc2 := 788) (lv2 := [(4, .int 6), (6, .int 0), (5, .int 2), (3, .ref 65), (2, .ref 44), (1, .ref 1), (0, .ref 0)]) (st2 := [.int 1]) (w2 := (iv_wd iv_Az (iv_uF (iv_uF (iv_uF iv_Fz 604 0) 4410 0) 4400 2) iv_Bz)) rfl ?_
  exact iv_Eret rfl rfl rfl (by decide) (by decide)
set_option maxRecDepth 1000000 in
set_option maxHeartbeats 40000000 in
theorem iv_case_6 (xs : Nat → Int32) (h0 : xs 0 &&& 15 = 6) : iv_Fin 6 xs 20 0 23 [(4, .int 0), (3, .ref 65), (2, .ref 44), (1, .ref 1), (0, .ref 0)] [] (iv_wd iv_Az iv_Fz iv_Bz) true 65 10417 := by
  refine iv_Em 11 (pc2 := 40) (lv2 := [(4, .int 0), (3, .ref 65), (2, .ref 44), (1, .ref 1), (0, .ref 0)]) (st2 := [.int ((xs 0) &&& 15)]) (w2 := (iv_wd iv_Az iv_Fz iv_Bz)) rfl ?_
  refine iv_Esw rfl rfl (show iv_sw 40 _ _ _ _ _ = some 488 by rw [h0]; rfl) ?_
  refine iv_Em 7 (pc2 := 496) (lv2 := [(4, .int 0), (3, .ref 65), (2, .ref 44), (1, .ref 1), (0, .ref 0)]) (st2 := [.ref 65, .int (xs 1), .ref 1]) (w2 := (iv_wd iv_Az iv_Fz iv_Bz)) rfl ?_
  refine iv_Ecall (ν := 191) (c := 3) (as := [.ref 1, .int (xs 1), .ref 65]) (rest := []) (w2 := (iv_wd iv_Az (iv_uF iv_Fz 604 0) iv_Bz)) (tg2 := false) (k2 := 1) (z2 := 6) (v := (some (.int 2))) rfl rfl rfl rfl rfl rfl rfl (by decide) rfl ?_ ?_
  · exact ⟨53, rfl⟩
  show iv_Fin _ _ _ _ 499 [(4, .int 0), (3, .ref 65), (2, .ref 44), (1, .ref 1), (0, .ref 0)] [.int 2] (iv_wd iv_Az (iv_uF iv_Fz 604 0) iv_Bz) false _ _
  refine iv_Em 7 (pc2 := 508) (lv2 := [(5, .int 2), (4, .int 0), (3, .ref 65), (2, .ref 44), (1, .ref 1), (0, .ref 0)]) (st2 := [.int (xs 1), .ref 44]) (w2 := (iv_wd iv_Az (iv_uF iv_Fz 604 0) iv_Bz)) rfl ?_
  refine iv_Ecall (ν := 173) (c := 2) (as := [.ref 44, .int (xs 1)]) (rest := []) (w2 := (iv_wd iv_Az (iv_uF (iv_uF (iv_uF iv_Fz 604 0) 4410 0) 4400 2) iv_Bz)) (tg2 := false) (k2 := 0) (z2 := 0) (v := (some (.int 0))) rfl rfl rfl rfl rfl rfl rfl (by decide) rfl ?_ ?_
  · exact ⟨39, rfl⟩
  show iv_Fin _ _ _ _ 511 [(5, .int 2), (4, .int 0), (3, .ref 65), (2, .ref 44), (1, .ref 1), (0, .ref 0)] [.int 0] (iv_wd iv_Az (iv_uF (iv_uF (iv_uF iv_Fz 604 0) 4410 0) 4400 2) iv_Bz) false _ _
  refine iv_Em 2 (pc2 := 514) (lv2 := [(6, .int 0), (5, .int 2), (4, .int 0), (3, .ref 65), (2, .ref 44), (1, .ref 1), (0, .ref 0)]) (st2 := [.ref 44]) (w2 := (iv_wd iv_Az (iv_uF (iv_uF (iv_uF iv_Fz 604 0) 4410 0) 4400 2) iv_Bz)) rfl ?_
  refine iv_Ecall (ν := 133) (c := 1) (as := [.ref 44]) (rest := []) (w2 := (iv_wd iv_Az (iv_uF (iv_uF (iv_uF iv_Fz 604 0) 4410 0) 4400 2) iv_Bz)) (tg2 := false) (k2 := 0) (z2 := 0) (v := (some (.int 2))) rfl rfl rfl rfl rfl rfl rfl (by decide) rfl ?_ ?_
  · exact ⟨5, rfl⟩
  show iv_Fin _ _ _ _ 517 [(6, .int 0), (5, .int 2), (4, .int 0), (3, .ref 65), (2, .ref 44), (1, .ref 1), (0, .ref 0)] [.int 2] (iv_wd iv_Az (iv_uF (iv_uF (iv_uF iv_Fz 604 0) 4410 0) 4400 2) iv_Bz) false _ _
  refine iv_Em 14 (pc2 := 788) (lv2 := [(4, .int 6), (6, .int 0), (5, .int 2), (3, .ref 65), (2, .ref 44), (1, .ref 1), (0, .ref 0)]) (st2 := [.int 1]) (w2 := (iv_wd iv_Az (iv_uF (iv_uF (iv_uF iv_Fz 604 0) 4410 0) 4400 2) iv_Bz)) rfl ?_
  exact iv_Eret rfl rfl rfl (by decide) (by decide)
set_option maxRecDepth 1000000 in
set_option maxHeartbeats 40000000 in
theorem iv_case_7 (xs : Nat → Int32) (h0 : xs 0 &&& 15 = 7) : iv_Fin 6 xs 20 0 23 [(4, .int 0), (3, .ref 65), (2, .ref 44), (1, .ref 1), (0, .ref 0)] [] (iv_wd iv_Az iv_Fz iv_Bz) true 65 10417 := by
  refine iv_Em 11 (pc2 := 40) (lv2 := [(4, .int 0), (3, .ref 65), (2, .ref 44), (1, .ref 1), (0, .ref 0)]) (st2 := [.int ((xs 0) &&& 15)]) (w2 := (iv_wd iv_Az iv_Fz iv_Bz)) rfl ?_
  refine iv_Esw rfl rfl (show iv_sw 40 _ _ _ _ _ = some 544 by rw [h0]; rfl) ?_
  refine iv_Em 2 (pc2 := 546) (lv2 := [(4, .int 0), (3, .ref 65), (2, .ref 44), (1, .ref 1), (0, .ref 0)]) (st2 := [.ref 65, .ref 1]) (w2 := (iv_wd iv_Az iv_Fz iv_Bz)) rfl ?_
  refine iv_Ecall (ν := 192) (c := 2) (as := [.ref 1, .ref 65]) (rest := []) (w2 := (iv_wd iv_Az (iv_uF iv_Fz 604 0) iv_Bz)) (tg2 := false) (k2 := 1) (z2 := 6) (v := (some (.int 2))) rfl rfl rfl rfl rfl rfl rfl (by decide) rfl ?_ ?_
  · exact ⟨52, rfl⟩
  show iv_Fin _ _ _ _ 549 [(4, .int 0), (3, .ref 65), (2, .ref 44), (1, .ref 1), (0, .ref 0)] [.int 2] (iv_wd iv_Az (iv_uF iv_Fz 604 0) iv_Bz) false _ _
  refine iv_Em 2 (pc2 := 552) (lv2 := [(5, .int 2), (4, .int 0), (3, .ref 65), (2, .ref 44), (1, .ref 1), (0, .ref 0)]) (st2 := [.ref 44]) (w2 := (iv_wd iv_Az (iv_uF iv_Fz 604 0) iv_Bz)) rfl ?_
  refine iv_Ecall (ν := 174) (c := 1) (as := [.ref 44]) (rest := []) (w2 := (iv_wd iv_Az (iv_uF (iv_uF (iv_uF iv_Fz 604 0) 4410 0) 4400 2) iv_Bz)) (tg2 := false) (k2 := 0) (z2 := 0) (v := (some (.int 0))) rfl rfl rfl rfl rfl rfl rfl (by decide) rfl ?_ ?_
  · exact ⟨39, rfl⟩
  show iv_Fin _ _ _ _ 555 [(5, .int 2), (4, .int 0), (3, .ref 65), (2, .ref 44), (1, .ref 1), (0, .ref 0)] [.int 0] (iv_wd iv_Az (iv_uF (iv_uF (iv_uF iv_Fz 604 0) 4410 0) 4400 2) iv_Bz) false _ _
  refine iv_Em 2 (pc2 := 558) (lv2 := [(6, .int 0), (5, .int 2), (4, .int 0), (3, .ref 65), (2, .ref 44), (1, .ref 1), (0, .ref 0)]) (st2 := [.ref 44]) (w2 := (iv_wd iv_Az (iv_uF (iv_uF (iv_uF iv_Fz 604 0) 4410 0) 4400 2) iv_Bz)) rfl ?_
  refine iv_Ecall (ν := 133) (c := 1) (as := [.ref 44]) (rest := []) (w2 := (iv_wd iv_Az (iv_uF (iv_uF (iv_uF iv_Fz 604 0) 4410 0) 4400 2) iv_Bz)) (tg2 := false) (k2 := 0) (z2 := 0) (v := (some (.int 2))) rfl rfl rfl rfl rfl rfl rfl (by decide) rfl ?_ ?_
  · exact ⟨5, rfl⟩
  show iv_Fin _ _ _ _ 561 [(6, .int 0), (5, .int 2), (4, .int 0), (3, .ref 65), (2, .ref 44), (1, .ref 1), (0, .ref 0)] [.int 2] (iv_wd iv_Az (iv_uF (iv_uF (iv_uF iv_Fz 604 0) 4410 0) 4400 2) iv_Bz) false _ _
  refine iv_Em 14 (pc2 := 788) (lv2 := [(4, .int 6), (6, .int 0), (5, .int 2), (3, .ref 65), (2, .ref 44), (1, .ref 1), (0, .ref 0)]) (st2 := [.int 1]) (w2 := (iv_wd iv_Az (iv_uF (iv_uF (iv_uF iv_Fz 604 0) 4410 0) 4400 2) iv_Bz)) rfl ?_
  exact iv_Eret rfl rfl rfl (by decide) (by decide)
