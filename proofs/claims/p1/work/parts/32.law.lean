set_option maxRecDepth 1000000 in
set_option maxHeartbeats 40000000 in
theorem iv_case_14 (xs : Nat → Int32) (h0 : xs 0 &&& 15 = 14) : iv_Fin 6 xs 20 0 23 [(4, .int 0), (3, .ref 65), (2, .ref 44), (1, .ref 1), (0, .ref 0)] [] (iv_wd iv_Az iv_Fz iv_Bz) true 65 10417 := by
  refine iv_Em 11 (pc2 := 40) (lv2 := [(4, .int 0), (3, .ref 65), (2, .ref 44), (1, .ref 1), (0, .ref 0)]) (st2 := [.int ((xs 0) &&& 15)]) (w2 := (iv_wd iv_Az iv_Fz iv_Bz)) rfl ?_
  refine iv_Esw rfl rfl (show iv_sw 40 _ _ _ _ _ = some 781 by rw [h0]; rfl) ?_
  refine iv_Em 9 (pc2 := 788) (lv2 := [(4, .int 6), (3, .ref 65), (2, .ref 44), (1, .ref 1), (0, .ref 0)]) (st2 := [.int 1]) (w2 := (iv_wd iv_Az iv_Fz iv_Bz)) rfl ?_
  exact iv_Eret rfl rfl rfl (by decide) (by decide)
set_option maxRecDepth 1000000 in
set_option maxHeartbeats 40000000 in
theorem iv_case_15 (xs : Nat → Int32) (h0 : xs 0 &&& 15 = 15) : iv_Fin 6 xs 20 0 23 [(4, .int 0), (3, .ref 65), (2, .ref 44), (1, .ref 1), (0, .ref 0)] [] (iv_wd iv_Az iv_Fz iv_Bz) true 65 10417 := by
  refine iv_Em 11 (pc2 := 40) (lv2 := [(4, .int 0), (3, .ref 65), (2, .ref 44), (1, .ref 1), (0, .ref 0)]) (st2 := [.int ((xs 0) &&& 15)]) (w2 := (iv_wd iv_Az iv_Fz iv_Bz)) rfl ?_
  refine iv_Esw rfl rfl (show iv_sw 40 _ _ _ _ _ = some 781 by rw [h0]; rfl) ?_
  refine iv_Em 9 (pc2 := 788) (lv2 := [(4, .int 6), (3, .ref 65), (2, .ref 44), (1, .ref 1), (0, .ref 0)]) (st2 := [.int 1]) (w2 := (iv_wd iv_Az iv_Fz iv_Bz)) rfl ?_
  exact iv_Eret rfl rfl rfl (by decide) (by decide)
theorem iv_and15 (x : Int32) : ∃ k : Nat, k < 16 ∧ x &&& 15 = Int32.ofNat k := by
  have h : (x &&& 15).toBitVec.toNat ≤ 15 := by
    rw [Int32.toBitVec_and, BitVec.toNat_and]
    exact Nat.and_le_right
  refine ⟨(x &&& 15).toBitVec.toNat, by omega, Int32.toBitVec_inj.mp (BitVec.eq_of_toNat_eq ?_)⟩
  show _ = (BitVec.ofNat 32 _).toNat
  rw [BitVec.toNat_ofNat, Nat.mod_eq_of_lt]
  omega
set_option maxRecDepth 1000000 in
set_option maxHeartbeats 40000000 in
theorem iv_tail6 (xs : Nat → Int32) : iv_Fin 6 xs 20 0 23 [(4, .int 0), (3, .ref 65), (2, .ref 44), (1, .ref 1), (0, .ref 0)] [] (iv_wd iv_Az iv_Fz iv_Bz) true 65 10417 := by
  obtain ⟨k, hk, h⟩ := iv_and15 (xs 0)
  have hc : k = 0 ∨ k = 1 ∨ k = 2 ∨ k = 3 ∨ k = 4 ∨ k = 5 ∨ k = 6 ∨ k = 7 ∨ k = 8 ∨ k = 9 ∨ k = 10 ∨ k = 11 ∨ k = 12 ∨ k = 13 ∨ k = 14 ∨ k = 15 := by omega
  rcases hc with rfl | rfl | rfl | rfl | rfl | rfl | rfl | rfl | rfl | rfl | rfl | rfl | rfl | rfl | rfl | rfl
  · exact iv_case_0 xs h
  · exact iv_case_1 xs h
  · exact iv_case_2 xs h
  · exact iv_case_3 xs h
  · exact iv_case_4 xs h
  · exact iv_case_5 xs h
  · exact iv_case_6 xs h
  · exact iv_case_7 xs h
  · exact iv_case_8 xs h
  · exact iv_case_9 xs h
  · exact iv_case_10 xs h
  · exact iv_case_11 xs h
  · exact iv_case_12 xs h
  · exact iv_case_13 xs h
  · exact iv_case_14 xs h
  · exact iv_case_15 xs h
set_option maxRecDepth 1000000 in
set_option maxHeartbeats 40000000 in
theorem iv_tail0 (xs : Nat → Int32) : iv_Fin 0 xs 20 0 23 [(4, .int 0), (3, .ref 65), (2, .ref 44), (1, .ref 1), (0, .ref 0)] [] (iv_wd iv_Az iv_Fz iv_Bz) true 65 10417 := by
  refine iv_Em 7 (pc2 := 788) (lv2 := [(4, .int 0), (3, .ref 65), (2, .ref 44), (1, .ref 1), (0, .ref 0)]) (st2 := [.int 1]) (w2 := (iv_wd iv_Az iv_Fz iv_Bz)) rfl ?_
  exact iv_Eret rfl rfl rfl (by decide) (by decide)
set_option maxRecDepth 1000000 in
set_option maxHeartbeats 40000000 in
theorem iv_tail1 (xs : Nat → Int32) : iv_Fin 1 xs 20 0 23 [(4, .int 0), (3, .ref 65), (2, .ref 44), (1, .ref 1), (0, .ref 0)] [] (iv_wd iv_Az iv_Fz iv_Bz) true 65 10417 := by
  refine iv_Em 7 (pc2 := 788) (lv2 := [(4, .int 0), (3, .ref 65), (2, .ref 44), (1, .ref 1), (0, .ref 0)]) (st2 := [.int 1]) (w2 := (iv_wd iv_Az iv_Fz iv_Bz)) rfl ?_
  exact iv_Eret rfl rfl rfl (by decide) (by decide)
set_option maxRecDepth 1000000 in
set_option maxHeartbeats 40000000 in
theorem iv_tail2 (xs : Nat → Int32) : iv_Fin 2 xs 20 0 23 [(4, .int 0), (3, .ref 65), (2, .ref 44), (1, .ref 1), (0, .ref 0)] [] (iv_wd iv_Az iv_Fz iv_Bz) true 65 10417 := by
  refine iv_Em 7 (pc2 := 788) (lv2 := [(4, .int 0), (3, .ref 65), (2, .ref 44), (1, .ref 1), (0, .ref 0)]) (st2 := [.int 1]) (w2 := (iv_wd iv_Az iv_Fz iv_Bz)) rfl ?_
  exact iv_Eret rfl rfl rfl (by decide) (by decide)
set_option maxRecDepth 1000000 in
set_option maxHeartbeats 40000000 in
theorem iv_tail3 (xs : Nat → Int32) : iv_Fin 3 xs 20 0 23 [(4, .int 0), (3, .ref 65), (2, .ref 44), (1, .ref 1), (0, .ref 0)] [] (iv_wd iv_Az iv_Fz iv_Bz) true 65 10417 := by
  refine iv_Em 7 (pc2 := 788) (lv2 := [(4, .int 0), (3, .ref 65), (2, .ref 44), (1, .ref 1), (0, .ref 0)]) (st2 := [.int 1]) (w2 := (iv_wd iv_Az iv_Fz iv_Bz)) rfl ?_
  exact iv_Eret rfl rfl rfl (by decide) (by decide)
set_option maxRecDepth 1000000 in
set_option maxHeartbeats 40000000 in
theorem iv_tail4 (xs : Nat → Int32) : iv_Fin 4 xs 20 0 23 [(4, .int 0), (3, .ref 65), (2, .ref 44), (1, .ref 1), (0, .ref 0)] [] (iv_wd iv_Az iv_Fz iv_Bz) true 65 10417 := by
  refine iv_Em 7 (pc2 := 788) (lv2 := [(4, .int 0), (3, .ref 65), (2, .ref 44), (1, .ref 1), (0, .ref 0)]) (st2 := [.int 1]) (w2 := (iv_wd iv_Az iv_Fz iv_Bz)) rfl ?_
  exact iv_Eret rfl rfl rfl (by decide) (by decide)
set_option maxRecDepth 1000000 in
set_option maxHeartbeats 40000000 in
theorem iv_tail5 (xs : Nat → Int32) : iv_Fin 5 xs 20 0 23 [(4, .int 0), (3, .ref 65), (2, .ref 44), (1, .ref 1), (0, .ref 0)] [] (iv_wd iv_Az iv_Fz iv_Bz) true 65 10417 := by
  refine iv_Em 7 (pc2 := 788) (lv2 := [(4, .int 0), (3, .ref 65), (2, .ref 44), (1, .ref 1), (0, .ref 0)]) (st2 := [.int 1]) (w2 := (iv_wd iv_Az iv_Fz iv_Bz)) rfl ?_
  exact iv_Eret rfl rfl rfl (by decide) (by decide)
theorem iv_tail (L : Nat) (xs : Nat → Int32) (hL : L ≤ 6) : iv_Fin L xs 20 0 23 [(4, .int 0), (3, .ref 65), (2, .ref 44), (1, .ref 1), (0, .ref 0)] [] (iv_wd iv_Az iv_Fz iv_Bz) true 65 10417 := by
  have hc : L = 0 ∨ L = 1 ∨ L = 2 ∨ L = 3 ∨ L = 4 ∨ L = 5 ∨ L = 6 := by omega
  rcases hc with rfl | rfl | rfl | rfl | rfl | rfl | rfl
  · exact iv_tail0 xs
  · exact iv_tail1 xs
  · exact iv_tail2 xs
  · exact iv_tail3 xs
  · exact iv_tail4 xs
  · exact iv_tail5 xs
  · exact iv_tail6 xs
set_option maxRecDepth 1000000 in
set_option maxHeartbeats 40000000 in
theorem iv_head (L : Nat) (xs : Nat → Int32) (o : iv_O) (hG : iv_G L xs 20 0 23 [(4, .int 0), (3, .ref 65), (2, .ref 44), (1, .ref 1), (0, .ref 0)] [] (iv_wd iv_Az iv_Fz iv_Bz) true 65 10417 o) : iv_G L xs 20 0 0 [(0, .ref 0)] [] [] true 0 0 o := by
  refine iv_Gnew (y := .inr (0, iv_f0 0)) (r := []) (a := iv_N 0) (len := 3) rfl rfl rfl ?_
  show iv_G L xs 20 0 3 [(0, .ref 0)] [.ref 1] [.inr (0, iv_f0 0)] true 1 7 o
  refine iv_Gm 1 (pc2 := 4) (lv2 := [(0, .ref 0)]) (st2 := [.ref 1, .ref 1]) (w2 := [.inr (0, iv_f0 0)]) rfl ?_
  refine iv_Gcall (ν := 1) (c := 1) (as := [.ref 1]) (rest := [.ref 1]) (w2 := iv_w2) (tg2 := true) (k2 := 42) (z2 := 5374) (v := none) rfl rfl rfl rfl rfl rfl rfl (Nat.le_of_ble_eq_true rfl) rfl (iv_init1 L xs) ?_
  show iv_G L xs 20 0 7 [(0, .ref 0)] [.ref 1] iv_w2 true 43 5381 o
  refine iv_Gm 1 (pc2 := 8) (lv2 := [(1, .ref 1), (0, .ref 0)]) (st2 := []) (w2 := iv_w2) rfl ?_
  refine iv_Gnew (y := .inr (9, iv_f0 9)) (r := []) (a := iv_N 9) (len := 3) rfl rfl rfl ?_
  show iv_G L xs 20 0 11 [(1, .ref 1), (0, .ref 0)] [.ref 44] (iv_w2 ++ [.inr (9, iv_f0 9)]) true 44 5410 o
  refine iv_Gm 1 (pc2 := 12) (lv2 := [(1, .ref 1), (0, .ref 0)]) (st2 := [.ref 44, .ref 44]) (w2 := iv_w2 ++ [.inr (9, iv_f0 9)]) rfl ?_
  refine iv_Gcall (ν := 132) (c := 1) (as := [.ref 44]) (rest := [.ref 44]) (w2 := iv_w4) (tg2 := true) (k2 := 20) (z2 := 5006) (v := none) rfl rfl rfl rfl rfl rfl rfl (Nat.le_of_ble_eq_true rfl) rfl (iv_init2 L xs) ?_
  show iv_G L xs 20 0 15 [(1, .ref 1), (0, .ref 0)] [.ref 44] iv_w4 true 64 10416 o
  refine iv_Gm 2 (pc2 := 17) (lv2 := [(2, .ref 44), (1, .ref 1), (0, .ref 0)]) (st2 := [.int 1]) (w2 := iv_w4) rfl ?_
  refine iv_Gnew (y := .inl (2, 1, .inr (.inl (fun _ => 0)))) (r := []) (a := 1) (len := 2) rfl rfl rfl ?_
  show iv_G L xs 20 0 19 [(2, .ref 44), (1, .ref 1), (0, .ref 0)] [.ref 65] (iv_w4 ++ [.inl (2, 1, .inr (.inl (fun _ => 0)))]) true 65 10417 o
  refine iv_Gm 3 (pc2 := 23) (lv2 := [(4, .int 0), (3, .ref 65), (2, .ref 44), (1, .ref 1), (0, .ref 0)]) (st2 := []) (w2 := (iv_wd iv_Az iv_Fz iv_Bz)) rfl ?_
  exact hG
theorem iv_law_run (L : Nat) (xs : Nat → Int32) (hL : L ≤ 6) : ∃ (n : Nat) (w2 : iv_W) (tg2 : Bool) (k2 z2 : Nat), iv_run L xs n 20 0 0 [(0, .ref 0)] [] [] true 0 0 = some (.inl (some (.int 1)), w2, tg2, k2, z2) ∧ k2 ≤ 600002 ∧ z2 ≤ 7302232 := by
  obtain ⟨w2, tg2, k2, z2, hG, hk, hz⟩ := iv_tail L xs hL
  obtain ⟨n, hn⟩ := iv_head L xs _ hG
  exact ⟨n, w2, tg2, k2, z2, hn, by omega, by omega⟩
