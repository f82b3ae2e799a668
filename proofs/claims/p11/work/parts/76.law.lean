set_option maxRecDepth 1000000 in
set_option maxHeartbeats 40000000 in
theorem iv_head (L : Nat) (xs : Nat → Int32) (o : iv_O) (hG : iv_G L xs 20 0 23 [(4, .int 0), (3, .ref 65), (2, .ref 44), (1, .ref 1), (0, .ref 0)] [] (iv_wd iv_Az iv_Fz iv_Bz) true 65 10417 o) : iv_G L xs 20 0 0 [(0, .ref 0)] [] [] true 0 0 o := by
  refine iv_Gnew (y := .inr (0, iv_f0 0)) (r := []) (a := iv_N 0) (len := 3) rfl rfl rfl ?_
  show iv_G L xs 20 0 3 [(0, .ref 0)] [.ref 1] [.inr (0, iv_f0 0)] true 1 7 o
  refine iv_Gm 1 (pc2 := 4) (lv2 := [(0, .ref 0)]) (st2 := [.ref 1, .ref 1]) (w2 := [.inr (0, iv_f0 0)]) rfl ?_
  refine iv_Gcall (ν := 1) (c := 1) (as := [.ref 1]) (rest := [.ref 1]) (w2 := iv_w2) (tg2 := true) (k2 := 42) (z2 := 5374) (v := none) rfl rfl rfl rfl rfl rfl rfl (Nat.le_of_ble_eq_true rfl) rfl (iv_init1 L xs) ?_
  show iv_G L xs 20 0 7 [(0, .ref 0)] [.ref 1] iv_w2 true 43 5381 o
  refine iv_Gm 1 (pc2 := 8) (lv2 := [(1, .ref 1), (0, .ref 0)]) (st2 := []) (w2 := iv_w2) rfl ?_
  refine iv_Gnew (y := .inr (9, iv_f0 9)) (r := []) (a := iv_N 9) (len := 3) rfl rfl rfl ?_
  show iv_G L xs 20 0 11 [(1, .ref 1), (0, .ref 0)] [.ref 44] (iv_w2 ++ [.inr (9, iv_f0 9)]) true 44 5410 o
  refine iv_Gm 1 (pc2 := 12) (lv2 := [(1, .ref 1), (0, .ref 0)]) (st2 := [.ref 44, .ref 44]) (w2 := iv_w2 ++ [.inr (9, iv_f0 9)]) rfl ?_
  refine iv_Gcall (ν := 132) (c := 1) (as := [.ref 44]) (rest := [.ref 44]) (w2 := iv_w4) (tg2 := true) (k2 := 20) (z2 := 5006) (v := none) rfl rfl rfl rfl rfl rfl rfl (Nat.le_of_ble_eq_true rfl) rfl (iv_init2 L xs) ?_
  show iv_G L xs 20 0 15 [(1, .ref 1), (0, .ref 0)] [.ref 44] iv_w4 true 64 10416 o
  refine iv_Gm 2 (pc2 := 17) (lv2 := [(2, .ref 44), (1, .ref 1), (0, .ref 0)]) (st2 := [.int 1]) (w2 := iv_w4) rfl ?_
  refine iv_Gnew (y := .inl (2, 1, .inr (.inl (fun _ => 0)))) (r := []) (a := 1) (len := 2) rfl rfl rfl ?_
  show iv_G L xs 20 0 19 [(2, .ref 44), (1, .ref 1), (0, .ref 0)] [.ref 65] (iv_w4 ++ [.inl (2, 1, .inr (.inl (fun _ => 0)))]) true 65 10417 o
  refine iv_Gm 3 (pc2 := 23) (lv2 := [(4, .int 0), (3, .ref 65), (2, .ref 44), (1, .ref 1), (0, .ref 0)]) (st2 := []) (w2 := (iv_wd iv_Az iv_Fz iv_Bz)) rfl ?_
  exact hG
theorem iv_law_run (L : Nat) (xs : Nat → Int32) (hL : L ≤ 3072) : ∃ (n : Nat) (w2 : iv_W) (tg2 : Bool) (k2 z2 : Nat), iv_run L xs n 20 0 0 [(0, .ref 0)] [] [] true 0 0 = some (.inl (some (.int 1)), w2, tg2, k2, z2) ∧ k2 ≤ 601024 ∧ z2 ≤ 7293034 := by
  obtain ⟨w2, tg2, k2, z2, hG, hk, hz⟩ := id_loop (L := L) (xs := xs) hL 512 0 [(4, .int 0), (3, .ref 65), (2, .ref 44), (1, .ref 1), (0, .ref 0)] iv_Az iv_Fz iv_Bz true 65 10417 (by decide) (by have : (0 : Int32).toInt = 0 := rfl; omega) (Or.inl rfl) id_inv0 (fun _ => rfl) (by decide) (by decide)
  obtain ⟨n, hn⟩ := iv_head L xs _ hG
  exact ⟨n, w2, tg2, k2, z2, hn, hk, hz⟩
