set_option maxRecDepth 1000000 in
set_option maxHeartbeats 40000000 in
theorem iv_case_0 (xs : Nat → Int32) (h0 : xs 0 &&& 15 = 0) : iv_Fin 6 xs 20 0 23 [(4, .int 0), (3, .ref 65), (2, .ref 44), (1, .ref 1), (0, .ref 0)] [] (iv_wd iv_Az iv_Fz iv_Bz) true 65 10417 := by
  by_cases h : iv_g8 (((Int32.toInt64 (xs 1)) <<< ((Int32.toInt64 32) &&& 63)) ||| ((Int32.toInt64 (xs 2)) &&& 4294967295))
  · obtain ⟨A2, n2, hc⟩ := iv_ap1 (L := 6) (xs := xs) (d := 18) _ h
    obtain ⟨A3, n3, hr⟩ := iv_ty1 (L := 6) (xs := xs) (d := 19) _ A2 n2 h
    refine iv_Em 11 (pc2 := 40) (lv2 := [(4, .int 0), (3, .ref 65), (2, .ref 44), (1, .ref 1), (0, .ref 0)]) (st2 := [.int ((xs 0) &&& 15)]) (w2 := (iv_wd iv_Az iv_Fz iv_Bz)) rfl ?_
    refine iv_Esw rfl rfl (show iv_sw 40 _ _ _ _ _ = some 112 by rw [h0]; rfl) ?_
    refine iv_Em 18 (pc2 := 135) (lv2 := [(4, .int 0), (3, .ref 65), (2, .ref 44), (1, .ref 1), (0, .ref 0)]) (st2 := [.long (((Int32.toInt64 (xs 1)) <<< ((Int32.toInt64 32) &&& 63)) ||| ((Int32.toInt64 (xs 2)) &&& 4294967295)), .ref 1]) (w2 := (iv_wd iv_Az iv_Fz iv_Bz)) rfl ?_
    refine iv_Ecall (ν := 2) (c := 2) (as := [.ref 1, .long (((Int32.toInt64 (xs 1)) <<< ((Int32.toInt64 32) &&& 63)) ||| ((Int32.toInt64 (xs 2)) &&& 4294967295))]) (rest := []) (w2 := (iv_wd A2 (iv_uF iv_Fz 603 n2) iv_Bz)) (tg2 := true) (k2 := 0) (z2 := 0) (v := (some (.int 1))) rfl rfl rfl rfl rfl rfl rfl (Nat.le_of_ble_eq_true rfl) rfl ?_ ?_
    · refine iv_Gm 3 (pc2 := 5) (lv2 := [(0, .ref 1), (1, .long (((Int32.toInt64 (xs 1)) <<< ((Int32.toInt64 32) &&& 63)) ||| ((Int32.toInt64 (xs 2)) &&& 4294967295)))]) (st2 := [.long (((Int32.toInt64 (xs 1)) <<< ((Int32.toInt64 32) &&& 63)) ||| ((Int32.toInt64 (xs 2)) &&& 4294967295)), .ref 6]) (w2 := (iv_wd iv_Az iv_Fz iv_Bz)) rfl ?_
      refine iv_Gcall (ν := 34) (c := 2) (as := [.ref 6, .long (((Int32.toInt64 (xs 1)) <<< ((Int32.toInt64 32) &&& 63)) ||| ((Int32.toInt64 (xs 2)) &&& 4294967295))]) (rest := []) (w2 := (iv_wd A2 (iv_uF iv_Fz 603 n2) iv_Bz)) (tg2 := true) (k2 := 0) (z2 := 0) (v := (some (.int 1))) rfl rfl rfl rfl rfl rfl rfl (Nat.le_of_ble_eq_true rfl) rfl ?_ ?_
      · exact hc
      show iv_G _ _ _ _ 8 [(0, .ref 1), (1, .long (((Int32.toInt64 (xs 1)) <<< ((Int32.toInt64 32) &&& 63)) ||| ((Int32.toInt64 (xs 2)) &&& 4294967295)))] [.int 1] (iv_wd A2 (iv_uF iv_Fz 603 n2) iv_Bz) true _ _ _
      exact iv_Gret rfl rfl rfl
    show iv_Fin _ _ _ _ 138 [(4, .int 0), (3, .ref 65), (2, .ref 44), (1, .ref 1), (0, .ref 0)] [.int 1] (iv_wd A2 (iv_uF iv_Fz 603 n2) iv_Bz) true _ _
    refine iv_Em 18 (pc2 := 161) (lv2 := [(4, .int 0), (3, .ref 65), (2, .ref 44), (1, .ref 1), (0, .ref 0)]) (st2 := [.long (((Int32.toInt64 (xs 1)) <<< ((Int32.toInt64 32) &&& 63)) ||| ((Int32.toInt64 (xs 2)) &&& 4294967295)), .ref 44, .int 1]) (w2 := (iv_wd A2 (iv_uF iv_Fz 603 n2) iv_Bz)) rfl ?_
    refine iv_Ecall (ν := 135) (c := 2) (as := [.ref 44, .long (((Int32.toInt64 (xs 1)) <<< ((Int32.toInt64 32) &&& 63)) ||| ((Int32.toInt64 (xs 2)) &&& 4294967295))]) (rest := [.int 1]) (w2 := (iv_wd A3 (iv_uF (iv_uF (iv_uF iv_Fz 603 n2) 4400 0) 4401 n3) iv_Bz)) (tg2 := true) (k2 := 0) (z2 := 0) (v := (some (.int 1))) rfl rfl rfl rfl rfl rfl rfl (Nat.le_of_ble_eq_true rfl) rfl ?_ ?_
    · exact hr
    show iv_Fin _ _ _ _ 164 [(4, .int 0), (3, .ref 65), (2, .ref 44), (1, .ref 1), (0, .ref 0)] [.int 1, .int 1] (iv_wd A3 (iv_uF (iv_uF (iv_uF iv_Fz 603 n2) 4400 0) 4401 n3) iv_Bz) true _ _
    refine iv_Em 10 (pc2 := 788) (lv2 := [(4, .int 6), (3, .ref 65), (2, .ref 44), (1, .ref 1), (0, .ref 0)]) (st2 := [.int 1]) (w2 := (iv_wd A3 (iv_uF (iv_uF (iv_uF iv_Fz 603 n2) 4400 0) 4401 n3) iv_Bz)) rfl ?_
    exact iv_Eret rfl rfl rfl (by decide) (by decide)
  · have hc := iv_ap0 (L := 6) (xs := xs) (d := 18) _ h
    have hr := iv_ty0 (L := 6) (xs := xs) (d := 19) _ iv_Az 0 h
    refine iv_Em 11 (pc2 := 40) (lv2 := [(4, .int 0), (3, .ref 65), (2, .ref 44), (1, .ref 1), (0, .ref 0)]) (st2 := [.int ((xs 0) &&& 15)]) (w2 := (iv_wd iv_Az iv_Fz iv_Bz)) rfl ?_
    refine iv_Esw rfl rfl (show iv_sw 40 _ _ _ _ _ = some 112 by rw [h0]; rfl) ?_
    refine iv_Em 18 (pc2 := 135) (lv2 := [(4, .int 0), (3, .ref 65), (2, .ref 44), (1, .ref 1), (0, .ref 0)]) (st2 := [.long (((Int32.toInt64 (xs 1)) <<< ((Int32.toInt64 32) &&& 63)) ||| ((Int32.toInt64 (xs 2)) &&& 4294967295)), .ref 1]) (w2 := (iv_wd iv_Az iv_Fz iv_Bz)) rfl ?_
    refine iv_Ecall (ν := 2) (c := 2) (as := [.ref 1, .long (((Int32.toInt64 (xs 1)) <<< ((Int32.toInt64 32) &&& 63)) ||| ((Int32.toInt64 (xs 2)) &&& 4294967295))]) (rest := []) (w2 := (iv_wd iv_Az iv_Fz iv_Bz)) (tg2 := true) (k2 := 0) (z2 := 0) (v := (some (.int 0))) rfl rfl rfl rfl rfl rfl rfl (Nat.le_of_ble_eq_true rfl) rfl ?_ ?_
    · refine iv_Gm 3 (pc2 := 5) (lv2 := [(0, .ref 1), (1, .long (((Int32.toInt64 (xs 1)) <<< ((Int32.toInt64 32) &&& 63)) ||| ((Int32.toInt64 (xs 2)) &&& 4294967295)))]) (st2 := [.long (((Int32.toInt64 (xs 1)) <<< ((Int32.toInt64 32) &&& 63)) ||| ((Int32.toInt64 (xs 2)) &&& 4294967295)), .ref 6]) (w2 := (iv_wd iv_Az iv_Fz iv_Bz)) rfl ?_
      refine iv_Gcall (ν := 34) (c := 2) (as := [.ref 6, .long (((Int32.toInt64 (xs 1)) <<< ((Int32.toInt64 32) &&& 63)) ||| ((Int32.toInt64 (xs 2)) &&& 4294967295))]) (rest := []) (w2 := (iv_wd iv_Az iv_Fz iv_Bz)) (tg2 := true) (k2 := 0) (z2 := 0) (v := (some (.int 0))) rfl rfl rfl rfl rfl rfl rfl (Nat.le_of_ble_eq_true rfl) rfl ?_ ?_
      · exact hc
      show iv_G _ _ _ _ 8 [(0, .ref 1), (1, .long (((Int32.toInt64 (xs 1)) <<< ((Int32.toInt64 32) &&& 63)) ||| ((Int32.toInt64 (xs 2)) &&& 4294967295)))] [.int 0] (iv_wd iv_Az iv_Fz iv_Bz) true _ _ _
      exact iv_Gret rfl rfl rfl
    show iv_Fin _ _ _ _ 138 [(4, .int 0), (3, .ref 65), (2, .ref 44), (1, .ref 1), (0, .ref 0)] [.int 0] (iv_wd iv_Az iv_Fz iv_Bz) true _ _
    refine iv_Em 18 (pc2 := 161) (lv2 := [(4, .int 0), (3, .ref 65), (2, .ref 44), (1, .ref 1), (0, .ref 0)]) (st2 := [.long (((Int32.toInt64 (xs 1)) <<< ((Int32.toInt64 32) &&& 63)) ||| ((Int32.toInt64 (xs 2)) &&& 4294967295)), .ref 44, .int 0]) (w2 := (iv_wd iv_Az iv_Fz iv_Bz)) rfl ?_
    refine iv_Ecall (ν := 135) (c := 2) (as := [.ref 44, .long (((Int32.toInt64 (xs 1)) <<< ((Int32.toInt64 32) &&& 63)) ||| ((Int32.toInt64 (xs 2)) &&& 4294967295))]) (rest := [.int 0]) (w2 := (iv_wd iv_Az (iv_uF (iv_uF iv_Fz 603 0) 4400 0) iv_Bz)) (tg2 := true) (k2 := 0) (z2 := 0) (v := (some (.int 0))) rfl rfl rfl rfl rfl rfl rfl (Nat.le_of_ble_eq_true rfl) rfl ?_ ?_
    · exact hr
    show iv_Fin _ _ _ _ 164 [(4, .int 0), (3, .ref 65), (2, .ref 44), (1, .ref 1), (0, .ref 0)] [.int 0, .int 0] (iv_wd iv_Az (iv_uF (iv_uF iv_Fz 603 0) 4400 0) iv_Bz) true _ _
    refine iv_Em 10 (pc2 := 788) (lv2 := [(4, .int 6), (3, .ref 65), (2, .ref 44), (1, .ref 1), (0, .ref 0)]) (st2 := [.int 1]) (w2 := (iv_wd iv_Az (iv_uF (iv_uF iv_Fz 603 0) 4400 0) iv_Bz)) rfl ?_
    exact iv_Eret rfl rfl rfl (by decide) (by decide)
