set_option maxRecDepth 1000000 in
set_option maxHeartbeats 40000000 in
theorem iv_case_1 (xs : Nat → Int32) (h0 : xs 0 &&& 15 = 1) : iv_Fin 6 xs 20 0 23 [(4, .int 0), (3, .ref 65), (2, .ref 44), (1, .ref 1), (0, .ref 0)] [] (iv_wd iv_Az iv_Fz iv_Bz) true 65 10417 := by
  refine iv_Em 11 (pc2 := 40) (lv2 := [(4, .int 0), (3, .ref 65), (2, .ref 44), (1, .ref 1), (0, .ref 0)]) (st2 := [.int ((xs 0) &&& 15)]) (w2 := (iv_wd iv_Az iv_Fz iv_Bz)) rfl ?_
  refine iv_Esw rfl rfl (show iv_sw 40 _ _ _ _ _ = some 169 by rw [h0]; rfl) ?_
  refine iv_Em 1 (pc2 := 170) (lv2 := [(4, .int 0), (3, .ref 65), (2, .ref 44), (1, .ref 1), (0, .ref 0)]) (st2 := [.ref 1]) (w2 := (iv_wd iv_Az iv_Fz iv_Bz)) rfl ?_
  refine iv_Ecall (ν := 3) (c := 1) (as := [.ref 1]) (rest := []) (w2 := (iv_wd iv_Az (iv_uF iv_Fz 603 0) iv_Bz)) (tg2 := true) (k2 := 0) (z2 := 0) (v := none) rfl rfl rfl rfl rfl rfl rfl (by decide) rfl ?_ ?_
  · exact ⟨10, rfl⟩
  show iv_Fin _ _ _ _ 173 [(4, .int 0), (3, .ref 65), (2, .ref 44), (1, .ref 1), (0, .ref 0)] [] (iv_wd iv_Az (iv_uF iv_Fz 603 0) iv_Bz) true _ _
  refine iv_Em 1 (pc2 := 174) (lv2 := [(4, .int 0), (3, .ref 65), (2, .ref 44), (1, .ref 1), (0, .ref 0)]) (st2 := [.ref 44]) (w2 := (iv_wd iv_Az (iv_uF iv_Fz 603 0) iv_Bz)) rfl ?_
  refine iv_Ecall (ν := 136) (c := 1) (as := [.ref 44]) (rest := []) (w2 := (iv_wd iv_Az (iv_uF (iv_uF (iv_uF iv_Fz 603 0) 4400 0) 4401 0) iv_Bz)) (tg2 := true) (k2 := 0) (z2 := 0) (v := none) rfl rfl rfl rfl rfl rfl rfl (by decide) rfl ?_ ?_
  · exact ⟨9, rfl⟩
  show iv_Fin _ _ _ _ 177 [(4, .int 0), (3, .ref 65), (2, .ref 44), (1, .ref 1), (0, .ref 0)] [] (iv_wd iv_Az (iv_uF (iv_uF (iv_uF iv_Fz 603 0) 4400 0) 4401 0) iv_Bz) true _ _
  refine iv_Em 10 (pc2 := 788) (lv2 := [(4, .int 6), (3, .ref 65), (2, .ref 44), (1, .ref 1), (0, .ref 0)]) (st2 := [.int 1]) (w2 := (iv_wd iv_Az (iv_uF (iv_uF (iv_uF iv_Fz 603 0) 4400 0) 4401 0) iv_Bz)) rfl ?_
  exact iv_Eret rfl rfl rfl (by decide) (by decide)
