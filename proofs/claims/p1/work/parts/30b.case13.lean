set_option maxRecDepth 1000000 in
set_option maxHeartbeats 40000000 in
theorem iv_re13b {L : Nat} {xs : Nat → Int32} {d : Nat} : iv_G L xs (d + 2) 186 20 [(1, .int 2112), (0, .ref 44)] [] (iv_wd (iv_sA iv_A13 60 (iv_gA iv_A13 2112)) (iv_uF iv_F13 4400 0) (vp_updL iv_Bz 0 0)) true 0 0 (.inl (some (.int 0)), iv_wd iv_A14 iv_F14 (vp_updL iv_Bz 0 0), true, 0, 0) := by
  rw [iv_MA0]
  refine iv_Gm 17 (pc2 := 90) (lv2 := [(1, .int 0), (0, .ref 44)]) (st2 := []) (w2 := (iv_wd (iv_uA (iv_MA 0 0 0 0) 61 0 0) (iv_uF iv_F13 4400 0) (vp_updL iv_Bz 0 0))) rfl ?_
  rw [iv_uA_id (A := (iv_MA 0 0 0 0)) (r := 61) (j := 0) (v := 0) rfl]
  refine iv_Gm 14 (pc2 := 90) (lv2 := [(1, .int 1), (0, .ref 44)]) (st2 := []) (w2 := (iv_wd (iv_uA (iv_MA 0 0 0 0) 61 1 0) (iv_uF iv_F13 4400 0) (vp_updL iv_Bz 0 0))) rfl ?_
  rw [iv_uA_id (A := (iv_MA 0 0 0 0)) (r := 61) (j := 1) (v := 0) rfl]
  refine iv_Gm 15 (pc2 := 90) (lv2 := [(1, .int 2), (0, .ref 44)]) (st2 := []) (w2 := (iv_wd (iv_uA (iv_MA 0 0 0 0) 61 2 1) (iv_uF iv_F13 4400 0) (vp_updL iv_Bz 0 0))) rfl ?_
  rw [iv_MA_61]
  refine iv_Gm 14 (pc2 := 90) (lv2 := [(1, .int 3), (0, .ref 44)]) (st2 := []) (w2 := (iv_wd (iv_uA (iv_MA 1 0 0 0) 61 3 0) (iv_uF iv_F13 4400 0) (vp_updL iv_Bz 0 0))) rfl ?_
  rw [iv_uA_id (A := (iv_MA 1 0 0 0)) (r := 61) (j := 3) (v := 0) rfl]
  refine iv_Gm 14 (pc2 := 90) (lv2 := [(1, .int 4), (0, .ref 44)]) (st2 := []) (w2 := (iv_wd (iv_uA (iv_MA 1 0 0 0) 61 4 0) (iv_uF iv_F13 4400 0) (vp_updL iv_Bz 0 0))) rfl ?_
  rw [iv_uA_id (A := (iv_MA 1 0 0 0)) (r := 61) (j := 4) (v := 0) rfl]
  refine iv_Gm 14 (pc2 := 90) (lv2 := [(1, .int 5), (0, .ref 44)]) (st2 := []) (w2 := (iv_wd (iv_uA (iv_MA 1 0 0 0) 61 5 0) (iv_uF iv_F13 4400 0) (vp_updL iv_Bz 0 0))) rfl ?_
  rw [iv_uA_id (A := (iv_MA 1 0 0 0)) (r := 61) (j := 5) (v := 0) rfl]
  refine iv_Gm 14 (pc2 := 90) (lv2 := [(1, .int 6), (0, .ref 44)]) (st2 := []) (w2 := (iv_wd (iv_uA (iv_MA 1 0 0 0) 61 6 0) (iv_uF iv_F13 4400 0) (vp_updL iv_Bz 0 0))) rfl ?_
  rw [iv_uA_id (A := (iv_MA 1 0 0 0)) (r := 61) (j := 6) (v := 0) rfl]
  refine iv_Gm 14 (pc2 := 90) (lv2 := [(1, .int 7), (0, .ref 44)]) (st2 := []) (w2 := (iv_wd (iv_uA (iv_MA 1 0 0 0) 61 7 0) (iv_uF iv_F13 4400 0) (vp_updL iv_Bz 0 0))) rfl ?_
  rw [iv_uA_id (A := (iv_MA 1 0 0 0)) (r := 61) (j := 7) (v := 0) rfl]
  refine iv_Gm 14 (pc2 := 90) (lv2 := [(1, .int 8), (0, .ref 44)]) (st2 := []) (w2 := (iv_wd (iv_uA (iv_MA 1 0 0 0) 61 8 0) (iv_uF iv_F13 4400 0) (vp_updL iv_Bz 0 0))) rfl ?_
  rw [iv_uA_id (A := (iv_MA 1 0 0 0)) (r := 61) (j := 8) (v := 0) rfl]
  refine iv_Gm 14 (pc2 := 90) (lv2 := [(1, .int 9), (0, .ref 44)]) (st2 := []) (w2 := (iv_wd (iv_uA (iv_MA 1 0 0 0) 61 9 0) (iv_uF iv_F13 4400 0) (vp_updL iv_Bz 0 0))) rfl ?_
  rw [iv_uA_id (A := (iv_MA 1 0 0 0)) (r := 61) (j := 9) (v := 0) rfl]
  refine iv_Gm 14 (pc2 := 90) (lv2 := [(1, .int 10), (0, .ref 44)]) (st2 := []) (w2 := (iv_wd (iv_uA (iv_MA 1 0 0 0) 61 10 0) (iv_uF iv_F13 4400 0) (vp_updL iv_Bz 0 0))) rfl ?_
  rw [iv_uA_id (A := (iv_MA 1 0 0 0)) (r := 61) (j := 10) (v := 0) rfl]
  refine iv_Gm 14 (pc2 := 90) (lv2 := [(1, .int 11), (0, .ref 44)]) (st2 := []) (w2 := (iv_wd (iv_uA (iv_MA 1 0 0 0) 61 11 0) (iv_uF iv_F13 4400 0) (vp_updL iv_Bz 0 0))) rfl ?_
  rw [iv_uA_id (A := (iv_MA 1 0 0 0)) (r := 61) (j := 11) (v := 0) rfl]
  refine iv_Gm 14 (pc2 := 90) (lv2 := [(1, .int 12), (0, .ref 44)]) (st2 := []) (w2 := (iv_wd (iv_uA (iv_MA 1 0 0 0) 61 12 0) (iv_uF iv_F13 4400 0) (vp_updL iv_Bz 0 0))) rfl ?_
  rw [iv_uA_id (A := (iv_MA 1 0 0 0)) (r := 61) (j := 12) (v := 0) rfl]
  refine iv_Gm 14 (pc2 := 90) (lv2 := [(1, .int 13), (0, .ref 44)]) (st2 := []) (w2 := (iv_wd (iv_uA (iv_MA 1 0 0 0) 61 13 0) (iv_uF iv_F13 4400 0) (vp_updL iv_Bz 0 0))) rfl ?_
  rw [iv_uA_id (A := (iv_MA 1 0 0 0)) (r := 61) (j := 13) (v := 0) rfl]
  refine iv_Gm 14 (pc2 := 90) (lv2 := [(1, .int 14), (0, .ref 44)]) (st2 := []) (w2 := (iv_wd (iv_uA (iv_MA 1 0 0 0) 61 14 0) (iv_uF iv_F13 4400 0) (vp_updL iv_Bz 0 0))) rfl ?_
  rw [iv_uA_id (A := (iv_MA 1 0 0 0)) (r := 61) (j := 14) (v := 0) rfl]
  refine iv_Gm 14 (pc2 := 90) (lv2 := [(1, .int 15), (0, .ref 44)]) (st2 := []) (w2 := (iv_wd (iv_uA (iv_MA 1 0 0 0) 61 15 0) (iv_uF iv_F13 4400 0) (vp_updL iv_Bz 0 0))) rfl ?_
  rw [iv_uA_id (A := (iv_MA 1 0 0 0)) (r := 61) (j := 15) (v := 0) rfl]
  refine iv_Gm 14 (pc2 := 90) (lv2 := [(1, .int 16), (0, .ref 44)]) (st2 := []) (w2 := (iv_wd (iv_uA (iv_MA 1 0 0 0) 61 16 0) (iv_uF iv_F13 4400 0) (vp_updL iv_Bz 0 0))) rfl ?_
  rw [iv_uA_id (A := (iv_MA 1 0 0 0)) (r := 61) (j := 16) (v := 0) rfl]
  refine iv_Gm 14 (pc2 := 90) (lv2 := [(1, .int 17), (0, .ref 44)]) (st2 := []) (w2 := (iv_wd (iv_uA (iv_MA 1 0 0 0) 61 17 0) (iv_uF iv_F13 4400 0) (vp_updL iv_Bz 0 0))) rfl ?_
  rw [iv_uA_id (A := (iv_MA 1 0 0 0)) (r := 61) (j := 17) (v := 0) rfl]
  refine iv_Gm 14 (pc2 := 90) (lv2 := [(1, .int 18), (0, .ref 44)]) (st2 := []) (w2 := (iv_wd (iv_uA (iv_MA 1 0 0 0) 61 18 0) (iv_uF iv_F13 4400 0) (vp_updL iv_Bz 0 0))) rfl ?_
  rw [iv_uA_id (A := (iv_MA 1 0 0 0)) (r := 61) (j := 18) (v := 0) rfl]
  refine iv_Gm 14 (pc2 := 90) (lv2 := [(1, .int 19), (0, .ref 44)]) (st2 := []) (w2 := (iv_wd (iv_uA (iv_MA 1 0 0 0) 61 19 0) (iv_uF iv_F13 4400 0) (vp_updL iv_Bz 0 0))) rfl ?_
  rw [iv_uA_id (A := (iv_MA 1 0 0 0)) (r := 61) (j := 19) (v := 0) rfl]
  refine iv_Gm 14 (pc2 := 90) (lv2 := [(1, .int 20), (0, .ref 44)]) (st2 := []) (w2 := (iv_wd (iv_uA (iv_MA 1 0 0 0) 61 20 0) (iv_uF iv_F13 4400 0) (vp_updL iv_Bz 0 0))) rfl ?_
  rw [iv_uA_id (A := (iv_MA 1 0 0 0)) (r := 61) (j := 20) (v := 0) rfl]
  refine iv_Gm 14 (pc2 := 90) (lv2 := [(1, .int 21), (0, .ref 44)]) (st2 := []) (w2 := (iv_wd (iv_uA (iv_MA 1 0 0 0) 61 21 0) (iv_uF iv_F13 4400 0) (vp_updL iv_Bz 0 0))) rfl ?_
  rw [iv_uA_id (A := (iv_MA 1 0 0 0)) (r := 61) (j := 21) (v := 0) rfl]
  refine iv_Gm 14 (pc2 := 90) (lv2 := [(1, .int 22), (0, .ref 44)]) (st2 := []) (w2 := (iv_wd (iv_uA (iv_MA 1 0 0 0) 61 22 0) (iv_uF iv_F13 4400 0) (vp_updL iv_Bz 0 0))) rfl ?_
  rw [iv_uA_id (A := (iv_MA 1 0 0 0)) (r := 61) (j := 22) (v := 0) rfl]
  refine iv_Gm 14 (pc2 := 90) (lv2 := [(1, .int 23), (0, .ref 44)]) (st2 := []) (w2 := (iv_wd (iv_uA (iv_MA 1 0 0 0) 61 23 0) (iv_uF iv_F13 4400 0) (vp_updL iv_Bz 0 0))) rfl ?_
  rw [iv_uA_id (A := (iv_MA 1 0 0 0)) (r := 61) (j := 23) (v := 0) rfl]
  refine iv_Gm 14 (pc2 := 90) (lv2 := [(1, .int 24), (0, .ref 44)]) (st2 := []) (w2 := (iv_wd (iv_uA (iv_MA 1 0 0 0) 61 24 0) (iv_uF iv_F13 4400 0) (vp_updL iv_Bz 0 0))) rfl ?_
  rw [iv_uA_id (A := (iv_MA 1 0 0 0)) (r := 61) (j := 24) (v := 0) rfl]
  refine iv_Gm 14 (pc2 := 90) (lv2 := [(1, .int 25), (0, .ref 44)]) (st2 := []) (w2 := (iv_wd (iv_uA (iv_MA 1 0 0 0) 61 25 0) (iv_uF iv_F13 4400 0) (vp_updL iv_Bz 0 0))) rfl ?_
  rw [iv_uA_id (A := (iv_MA 1 0 0 0)) (r := 61) (j := 25) (v := 0) rfl]
  refine iv_Gm 14 (pc2 := 90) (lv2 := [(1, .int 26), (0, .ref 44)]) (st2 := []) (w2 := (iv_wd (iv_uA (iv_MA 1 0 0 0) 61 26 0) (iv_uF iv_F13 4400 0) (vp_updL iv_Bz 0 0))) rfl ?_
  rw [iv_uA_id (A := (iv_MA 1 0 0 0)) (r := 61) (j := 26) (v := 0) rfl]
  refine iv_Gm 14 (pc2 := 90) (lv2 := [(1, .int 27), (0, .ref 44)]) (st2 := []) (w2 := (iv_wd (iv_uA (iv_MA 1 0 0 0) 61 27 0) (iv_uF iv_F13 4400 0) (vp_updL iv_Bz 0 0))) rfl ?_
  rw [iv_uA_id (A := (iv_MA 1 0 0 0)) (r := 61) (j := 27) (v := 0) rfl]
  refine iv_Gm 14 (pc2 := 90) (lv2 := [(1, .int 28), (0, .ref 44)]) (st2 := []) (w2 := (iv_wd (iv_uA (iv_MA 1 0 0 0) 61 28 0) (iv_uF iv_F13 4400 0) (vp_updL iv_Bz 0 0))) rfl ?_
  rw [iv_uA_id (A := (iv_MA 1 0 0 0)) (r := 61) (j := 28) (v := 0) rfl]
  refine iv_Gm 14 (pc2 := 90) (lv2 := [(1, .int 29), (0, .ref 44)]) (st2 := []) (w2 := (iv_wd (iv_uA (iv_MA 1 0 0 0) 61 29 0) (iv_uF iv_F13 4400 0) (vp_updL iv_Bz 0 0))) rfl ?_
  rw [iv_uA_id (A := (iv_MA 1 0 0 0)) (r := 61) (j := 29) (v := 0) rfl]
  refine iv_Gm 14 (pc2 := 90) (lv2 := [(1, .int 30), (0, .ref 44)]) (st2 := []) (w2 := (iv_wd (iv_uA (iv_MA 1 0 0 0) 61 30 0) (iv_uF iv_F13 4400 0) (vp_updL iv_Bz 0 0))) rfl ?_
  rw [iv_uA_id (A := (iv_MA 1 0 0 0)) (r := 61) (j := 30) (v := 0) rfl]
  refine iv_Gm 14 (pc2 := 90) (lv2 := [(1, .int 31), (0, .ref 44)]) (st2 := []) (w2 := (iv_wd (iv_uA (iv_MA 1 0 0 0) 61 31 0) (iv_uF iv_F13 4400 0) (vp_updL iv_Bz 0 0))) rfl ?_
  rw [iv_uA_id (A := (iv_MA 1 0 0 0)) (r := 61) (j := 31) (v := 0) rfl]
  refine iv_Gm 16 (pc2 := 116) (lv2 := [(1, .int 32), (0, .ref 44)]) (st2 := []) (w2 := (iv_wd (iv_uA (iv_MA 1 0 0 0) 46 2 255) (iv_uF iv_F13 4400 0) (vp_updL iv_Bz 0 0))) rfl ?_
  rw [iv_uA_id (A := (iv_MA 1 0 0 0)) (r := 46) (j := 2) (v := 255) rfl]
  refine iv_Gm 6 (pc2 := 126) (lv2 := [(1, .int 32), (0, .ref 44)]) (st2 := []) (w2 := (iv_wd (iv_uA (iv_MA 1 0 0 0) 62 0 2) (iv_uF iv_F13 4400 0) (vp_updL iv_Bz 0 0))) rfl ?_
  rw [iv_MA_62]
  refine iv_Gm 5 (pc2 := 133) (lv2 := [(1, .int 32), (0, .ref 44)]) (st2 := []) (w2 := (iv_wd (iv_uA (iv_MA 1 2 0 0) 63 0 0) (iv_uF iv_F13 4400 0) (vp_updL iv_Bz 0 0))) rfl ?_
  rw [iv_uA_id (A := (iv_MA 1 2 0 0)) (r := 63) (j := 0) (v := 0) rfl]
  refine iv_Gm 5 (pc2 := 140) (lv2 := [(1, .int 32), (0, .ref 44)]) (st2 := []) (w2 := (iv_wd (iv_uA (iv_MA 1 2 0 0) 64 0 0) (iv_uF iv_F13 4400 0) (vp_updL iv_Bz 0 0))) rfl ?_
  rw [iv_uA_id (A := (iv_MA 1 2 0 0)) (r := 64) (j := 0) (v := 0) rfl]
  refine iv_Gm 17 (pc2 := 163) (lv2 := [(2, .int 0), (1, .int 0), (0, .ref 44)]) (st2 := []) (w2 := (iv_wd (iv_uA (iv_MA 1 2 0 0) 63 0 1) (iv_uF iv_F13 4400 0) (vp_updL iv_Bz 0 0))) rfl ?_
  rw [iv_MA_63]
  refine iv_Gm 10 (pc2 := 214) (lv2 := [(2, .int 0), (1, .int 0), (0, .ref 44)]) (st2 := [.int 0, .int 0, .int 2, .ref 44]) (w2 := (iv_wd (iv_MA 1 2 1 0) (iv_uF iv_F13 4400 0) (vp_updL iv_Bz 0 0))) rfl ?_
  refine iv_Gcall (ν := 139) (c := 4) (as := [.ref 44, .int 2, .int 0, .int 0]) (rest := []) (w2 := (iv_wd (iv_MA 1 2 1 0) (iv_uF iv_F13 4400 0) (vp_updL iv_Bz 0 0))) (tg2 := true) (k2 := 0) (z2 := 0) (v := (some (.int 0))) rfl rfl rfl rfl rfl rfl rfl (Nat.le_of_ble_eq_true rfl) rfl ?_ ?_
  · exact ⟨15, rfl⟩
  show iv_G _ _ _ _ 217 [(2, .int 0), (1, .int 0), (0, .ref 44)] [.int 0] (iv_wd (iv_MA 1 2 1 0) (iv_uF iv_F13 4400 0) (vp_updL iv_Bz 0 0)) true _ _ _
  refine iv_Gm 5 (pc2 := 225) (lv2 := [(2, .int 0), (1, .int 0), (0, .ref 44)]) (st2 := [.int 0, .int 0, .ref 44]) (w2 := (iv_wd (iv_MA 1 2 1 0) (iv_uF iv_F13 4400 0) (vp_updL iv_Bz 0 0))) rfl ?_
  refine iv_Gcall (ν := 185) (c := 3) (as := [.ref 44, .int 0, .int 0]) (rest := []) (w2 := (iv_wd (iv_MA 1 2 1 1) (iv_uF iv_F13 4400 0) (vp_updL iv_Bz 0 0))) (tg2 := true) (k2 := 0) (z2 := 0) (v := (some (.int 0))) rfl rfl rfl rfl rfl rfl rfl (Nat.le_of_ble_eq_true rfl) rfl ?_ ?_
  · refine iv_Gm 9 (pc2 := 11) (lv2 := [(3, .int 2), (0, .ref 44), (1, .int 0), (2, .int 0)]) (st2 := [.int 0, .int 0, .int 2, .ref 44]) (w2 := (iv_wd (iv_MA 1 2 1 0) (iv_uF iv_F13 4400 0) (vp_updL iv_Bz 0 0))) rfl ?_
    refine iv_Gcall (ν := 139) (c := 4) (as := [.ref 44, .int 2, .int 0, .int 0]) (rest := []) (w2 := (iv_wd (iv_MA 1 2 1 0) (iv_uF iv_F13 4400 0) (vp_updL iv_Bz 0 0))) (tg2 := true) (k2 := 0) (z2 := 0) (v := (some (.int 0))) rfl rfl rfl rfl rfl rfl rfl (Nat.le_of_ble_eq_true rfl) rfl ?_ ?_
    · exact ⟨15, rfl⟩
    show iv_G _ _ _ _ 14 [(3, .int 2), (0, .ref 44), (1, .int 0), (2, .int 0)] [.int 0] (iv_wd (iv_MA 1 2 1 0) (iv_uF iv_F13 4400 0) (vp_updL iv_Bz 0 0)) true _ _ _
    refine iv_Gm 30 (pc2 := 110) (lv2 := [(7, .int 0), (6, .int 0), (5, .int 0), (4, .int 0), (3, .int 2), (0, .ref 44), (1, .int 0), (2, .int 0)]) (st2 := []) (w2 := (iv_wd (iv_uA (iv_MA 1 2 1 0) 64 0 1) (iv_uF iv_F13 4400 0) (vp_updL iv_Bz 0 0))) rfl ?_
    rw [iv_MA_64]
    refine iv_Gm 9 (pc2 := 155) (lv2 := [(7, .int 0), (6, .int 0), (5, .int 0), (4, .int 0), (3, .int 2), (0, .ref 44), (1, .int 0), (2, .int 0)]) (st2 := [.int 0]) (w2 := (iv_wd (iv_MA 1 2 1 1) (iv_uF iv_F13 4400 0) (vp_updL iv_Bz 0 0))) rfl ?_
    exact iv_Gret rfl rfl rfl
  show iv_G _ _ _ _ 228 [(2, .int 0), (1, .int 0), (0, .ref 44)] [.int 0] (iv_wd (iv_MA 1 2 1 1) (iv_uF iv_F13 4400 0) (vp_updL iv_Bz 0 0)) true _ _ _
  refine iv_Gm 17 (pc2 := 163) (lv2 := [(2, .int 1), (1, .int 0), (0, .ref 44)]) (st2 := []) (w2 := (iv_wd (iv_uA (iv_MA 1 2 1 1) 63 0 2) (iv_uF iv_F13 4400 0) (vp_updL iv_Bz 0 0))) rfl ?_
  rw [iv_MA_63]
  refine iv_Gm 10 (pc2 := 214) (lv2 := [(2, .int 1), (1, .int 0), (0, .ref 44)]) (st2 := [.int 0, .int 1, .int 2, .ref 44]) (w2 := (iv_wd (iv_MA 1 2 2 1) (iv_uF iv_F13 4400 0) (vp_updL iv_Bz 0 0))) rfl ?_
  refine iv_Gcall (ν := 139) (c := 4) (as := [.ref 44, .int 2, .int 1, .int 0]) (rest := []) (w2 := (iv_wd (iv_MA 1 2 2 1) (iv_uF iv_F13 4400 0) (vp_updL iv_Bz 0 0))) (tg2 := true) (k2 := 0) (z2 := 0) (v := (some (.int 0))) rfl rfl rfl rfl rfl rfl rfl (Nat.le_of_ble_eq_true rfl) rfl ?_ ?_
  · exact ⟨15, rfl⟩
  show iv_G _ _ _ _ 217 [(2, .int 1), (1, .int 0), (0, .ref 44)] [.int 0] (iv_wd (iv_MA 1 2 2 1) (iv_uF iv_F13 4400 0) (vp_updL iv_Bz 0 0)) true _ _ _
  refine iv_Gm 5 (pc2 := 225) (lv2 := [(2, .int 1), (1, .int 0), (0, .ref 44)]) (st2 := [.int 1, .int 0, .ref 44]) (w2 := (iv_wd (iv_MA 1 2 2 1) (iv_uF iv_F13 4400 0) (vp_updL iv_Bz 0 0))) rfl ?_
  refine iv_Gcall (ν := 185) (c := 3) (as := [.ref 44, .int 0, .int 1]) (rest := []) (w2 := (iv_wd (iv_MA 1 2 2 2) (iv_uF iv_F13 4400 0) (vp_updL iv_Bz 0 0))) (tg2 := true) (k2 := 0) (z2 := 0) (v := (some (.int 0))) rfl rfl rfl rfl rfl rfl rfl (Nat.le_of_ble_eq_true rfl) rfl ?_ ?_
  · refine iv_Gm 9 (pc2 := 11) (lv2 := [(3, .int 2), (0, .ref 44), (1, .int 0), (2, .int 1)]) (st2 := [.int 0, .int 1, .int 2, .ref 44]) (w2 := (iv_wd (iv_MA 1 2 2 1) (iv_uF iv_F13 4400 0) (vp_updL iv_Bz 0 0))) rfl ?_
    refine iv_Gcall (ν := 139) (c := 4) (as := [.ref 44, .int 2, .int 1, .int 0]) (rest := []) (w2 := (iv_wd (iv_MA 1 2 2 1) (iv_uF iv_F13 4400 0) (vp_updL iv_Bz 0 0))) (tg2 := true) (k2 := 0) (z2 := 0) (v := (some (.int 0))) rfl rfl rfl rfl rfl rfl rfl (Nat.le_of_ble_eq_true rfl) rfl ?_ ?_
    · exact ⟨15, rfl⟩
    show iv_G _ _ _ _ 14 [(3, .int 2), (0, .ref 44), (1, .int 0), (2, .int 1)] [.int 0] (iv_wd (iv_MA 1 2 2 1) (iv_uF iv_F13 4400 0) (vp_updL iv_Bz 0 0)) true _ _ _
    refine iv_Gm 30 (pc2 := 110) (lv2 := [(7, .int 1), (6, .int 0), (5, .int 0), (4, .int 0), (3, .int 2), (0, .ref 44), (1, .int 0), (2, .int 1)]) (st2 := []) (w2 := (iv_wd (iv_uA (iv_MA 1 2 2 1) 64 0 2) (iv_uF iv_F13 4400 0) (vp_updL iv_Bz 0 0))) rfl ?_
    rw [iv_MA_64]
    refine iv_Gm 9 (pc2 := 155) (lv2 := [(7, .int 1), (6, .int 0), (5, .int 0), (4, .int 0), (3, .int 2), (0, .ref 44), (1, .int 0), (2, .int 1)]) (st2 := [.int 0]) (w2 := (iv_wd (iv_MA 1 2 2 2) (iv_uF iv_F13 4400 0) (vp_updL iv_Bz 0 0))) rfl ?_
    exact iv_Gret rfl rfl rfl
  show iv_G _ _ _ _ 228 [(2, .int 1), (1, .int 0), (0, .ref 44)] [.int 0] (iv_wd (iv_MA 1 2 2 2) (iv_uF iv_F13 4400 0) (vp_updL iv_Bz 0 0)) true _ _ _
  refine iv_Gm 17 (pc2 := 163) (lv2 := [(2, .int 2), (1, .int 0), (0, .ref 44)]) (st2 := []) (w2 := (iv_wd (iv_uA (iv_MA 1 2 2 2) 63 0 3) (iv_uF iv_F13 4400 0) (vp_updL iv_Bz 0 0))) rfl ?_
  rw [iv_MA_63]
  refine iv_Gm 10 (pc2 := 214) (lv2 := [(2, .int 2), (1, .int 0), (0, .ref 44)]) (st2 := [.int 0, .int 2, .int 2, .ref 44]) (w2 := (iv_wd (iv_MA 1 2 3 2) (iv_uF iv_F13 4400 0) (vp_updL iv_Bz 0 0))) rfl ?_
  refine iv_Gcall (ν := 139) (c := 4) (as := [.ref 44, .int 2, .int 2, .int 0]) (rest := []) (w2 := (iv_wd (iv_MA 1 2 3 2) (iv_uF iv_F13 4400 0) (vp_updL iv_Bz 0 0))) (tg2 := true) (k2 := 0) (z2 := 0) (v := (some (.int 0))) rfl rfl rfl rfl rfl rfl rfl (Nat.le_of_ble_eq_true rfl) rfl ?_ ?_
  · exact ⟨15, rfl⟩
  show iv_G _ _ _ _ 217 [(2, .int 2), (1, .int 0), (0, .ref 44)] [.int 0] (iv_wd (iv_MA 1 2 3 2) (iv_uF iv_F13 4400 0) (vp_updL iv_Bz 0 0)) true _ _ _
  refine iv_Gm 5 (pc2 := 225) (lv2 := [(2, .int 2), (1, .int 0), (0, .ref 44)]) (st2 := [.int 2, .int 0, .ref 44]) (w2 := (iv_wd (iv_MA 1 2 3 2) (iv_uF iv_F13 4400 0) (vp_updL iv_Bz 0 0))) rfl ?_
  refine iv_Gcall (ν := 185) (c := 3) (as := [.ref 44, .int 0, .int 2]) (rest := []) (w2 := (iv_wd (iv_MA 1 2 3 3) (iv_uF iv_F13 4400 0) (vp_updL iv_Bz 0 0))) (tg2 := true) (k2 := 0) (z2 := 0) (v := (some (.int 0))) rfl rfl rfl rfl rfl rfl rfl (Nat.le_of_ble_eq_true rfl) rfl ?_ ?_
  · refine iv_Gm 9 (pc2 := 11) (lv2 := [(3, .int 2), (0, .ref 44), (1, .int 0), (2, .int 2)]) (st2 := [.int 0, .int 2, .int 2, .ref 44]) (w2 := (iv_wd (iv_MA 1 2 3 2) (iv_uF iv_F13 4400 0) (vp_updL iv_Bz 0 0))) rfl ?_
    refine iv_Gcall (ν := 139) (c := 4) (as := [.ref 44, .int 2, .int 2, .int 0]) (rest := []) (w2 := (iv_wd (iv_MA 1 2 3 2) (iv_uF iv_F13 4400 0) (vp_updL iv_Bz 0 0))) (tg2 := true) (k2 := 0) (z2 := 0) (v := (some (.int 0))) rfl rfl rfl rfl rfl rfl rfl (Nat.le_of_ble_eq_true rfl) rfl ?_ ?_
    · exact ⟨15, rfl⟩
    show iv_G _ _ _ _ 14 [(3, .int 2), (0, .ref 44), (1, .int 0), (2, .int 2)] [.int 0] (iv_wd (iv_MA 1 2 3 2) (iv_uF iv_F13 4400 0) (vp_updL iv_Bz 0 0)) true _ _ _
    refine iv_Gm 30 (pc2 := 110) (lv2 := [(7, .int 2), (6, .int 0), (5, .int 0), (4, .int 0), (3, .int 2), (0, .ref 44), (1, .int 0), (2, .int 2)]) (st2 := []) (w2 := (iv_wd (iv_uA (iv_MA 1 2 3 2) 64 0 3) (iv_uF iv_F13 4400 0) (vp_updL iv_Bz 0 0))) rfl ?_
    rw [iv_MA_64]
    refine iv_Gm 9 (pc2 := 155) (lv2 := [(7, .int 2), (6, .int 0), (5, .int 0), (4, .int 0), (3, .int 2), (0, .ref 44), (1, .int 0), (2, .int 2)]) (st2 := [.int 0]) (w2 := (iv_wd (iv_MA 1 2 3 3) (iv_uF iv_F13 4400 0) (vp_updL iv_Bz 0 0))) rfl ?_
    exact iv_Gret rfl rfl rfl
  show iv_G _ _ _ _ 228 [(2, .int 2), (1, .int 0), (0, .ref 44)] [.int 0] (iv_wd (iv_MA 1 2 3 3) (iv_uF iv_F13 4400 0) (vp_updL iv_Bz 0 0)) true _ _ _
  refine iv_Gm 17 (pc2 := 163) (lv2 := [(2, .int 3), (1, .int 0), (0, .ref 44)]) (st2 := []) (w2 := (iv_wd (iv_uA (iv_MA 1 2 3 3) 63 0 4) (iv_uF iv_F13 4400 0) (vp_updL iv_Bz 0 0))) rfl ?_
  rw [iv_MA_63]
  refine iv_Gm 10 (pc2 := 214) (lv2 := [(2, .int 3), (1, .int 0), (0, .ref 44)]) (st2 := [.int 0, .int 3, .int 2, .ref 44]) (w2 := (iv_wd (iv_MA 1 2 4 3) (iv_uF iv_F13 4400 0) (vp_updL iv_Bz 0 0))) rfl ?_
  refine iv_Gcall (ν := 139) (c := 4) (as := [.ref 44, .int 2, .int 3, .int 0]) (rest := []) (w2 := (iv_wd (iv_MA 1 2 4 3) (iv_uF iv_F13 4400 0) (vp_updL iv_Bz 0 0))) (tg2 := true) (k2 := 0) (z2 := 0) (v := (some (.int 0))) rfl rfl rfl rfl rfl rfl rfl (Nat.le_of_ble_eq_true rfl) rfl ?_ ?_
  · exact ⟨15, rfl⟩
  show iv_G _ _ _ _ 217 [(2, .int 3), (1, .int 0), (0, .ref 44)] [.int 0] (iv_wd (iv_MA 1 2 4 3) (iv_uF iv_F13 4400 0) (vp_updL iv_Bz 0 0)) true _ _ _
  refine iv_Gm 5 (pc2 := 225) (lv2 := [(2, .int 3), (1, .int 0), (0, .ref 44)]) (st2 := [.int 3, .int 0, .ref 44]) (w2 := (iv_wd (iv_MA 1 2 4 3) (iv_uF iv_F13 4400 0) (vp_updL iv_Bz 0 0))) rfl ?_
  refine iv_Gcall (ν := 185) (c := 3) (as := [.ref 44, .int 0, .int 3]) (rest := []) (w2 := (iv_wd (iv_MA 1 2 4 4) (iv_uF iv_F13 4400 0) (vp_updL iv_Bz 0 0))) (tg2 := true) (k2 := 0) (z2 := 0) (v := (some (.int 0))) rfl rfl rfl rfl rfl rfl rfl (Nat.le_of_ble_eq_true rfl) rfl ?_ ?_
  · refine iv_Gm 9 (pc2 := 11) (lv2 := [(3, .int 2), (0, .ref 44), (1, .int 0), (2, .int 3)]) (st2 := [.int 0, .int 3, .int 2, .ref 44]) (w2 := (iv_wd (iv_MA 1 2 4 3) (iv_uF iv_F13 4400 0) (vp_updL iv_Bz 0 0))) rfl ?_
    refine iv_Gcall (ν := 139) (c := 4) (as := [.ref 44, .int 2, .int 3, .int 0]) (rest := []) (w2 := (iv_wd (iv_MA 1 2 4 3) (iv_uF iv_F13 4400 0) (vp_updL iv_Bz 0 0))) (tg2 := true) (k2 := 0) (z2 := 0) (v := (some (.int 0))) rfl rfl rfl rfl rfl rfl rfl (Nat.le_of_ble_eq_true rfl) rfl ?_ ?_
    · exact ⟨15, rfl⟩
    show iv_G _ _ _ _ 14 [(3, .int 2), (0, .ref 44), (1, .int 0), (2, .int 3)] [.int 0] (iv_wd (iv_MA 1 2 4 3) (iv_uF iv_F13 4400 0) (vp_updL iv_Bz 0 0)) true _ _ _
    refine iv_Gm 30 (pc2 := 110) (lv2 := [(7, .int 3), (6, .int 0), (5, .int 0), (4, .int 0), (3, .int 2), (0, .ref 44), (1, .int 0), (2, .int 3)]) (st2 := []) (w2 := (iv_wd (iv_uA (iv_MA 1 2 4 3) 64 0 4) (iv_uF iv_F13 4400 0) (vp_updL iv_Bz 0 0))) rfl ?_
    rw [iv_MA_64]
    refine iv_Gm 9 (pc2 := 155) (lv2 := [(7, .int 3), (6, .int 0), (5, .int 0), (4, .int 0), (3, .int 2), (0, .ref 44), (1, .int 0), (2, .int 3)]) (st2 := [.int 0]) (w2 := (iv_wd (iv_MA 1 2 4 4) (iv_uF iv_F13 4400 0) (vp_updL iv_Bz 0 0))) rfl ?_
    exact iv_Gret rfl rfl rfl
  show iv_G _ _ _ _ 228 [(2, .int 3), (1, .int 0), (0, .ref 44)] [.int 0] (iv_wd (iv_MA 1 2 4 4) (iv_uF iv_F13 4400 0) (vp_updL iv_Bz 0 0)) true _ _ _
  refine iv_Gm 17 (pc2 := 163) (lv2 := [(2, .int 4), (1, .int 0), (0, .ref 44)]) (st2 := []) (w2 := (iv_wd (iv_uA (iv_MA 1 2 4 4) 63 0 5) (iv_uF iv_F13 4400 0) (vp_updL iv_Bz 0 0))) rfl ?_
  rw [iv_MA_63]
  refine iv_Gm 10 (pc2 := 214) (lv2 := [(2, .int 4), (1, .int 0), (0, .ref 44)]) (st2 := [.int 0, .int 4, .int 2, .ref 44]) (w2 := (iv_wd (iv_MA 1 2 5 4) (iv_uF iv_F13 4400 0) (vp_updL iv_Bz 0 0))) rfl ?_
  refine iv_Gcall (ν := 139) (c := 4) (as := [.ref 44, .int 2, .int 4, .int 0]) (rest := []) (w2 := (iv_wd (iv_MA 1 2 5 4) (iv_uF iv_F13 4400 0) (vp_updL iv_Bz 0 0))) (tg2 := true) (k2 := 0) (z2 := 0) (v := (some (.int 0))) rfl rfl rfl rfl rfl rfl rfl (Nat.le_of_ble_eq_true rfl) rfl ?_ ?_
  · exact ⟨15, rfl⟩
  show iv_G _ _ _ _ 217 [(2, .int 4), (1, .int 0), (0, .ref 44)] [.int 0] (iv_wd (iv_MA 1 2 5 4) (iv_uF iv_F13 4400 0) (vp_updL iv_Bz 0 0)) true _ _ _
  refine iv_Gm 5 (pc2 := 225) (lv2 := [(2, .int 4), (1, .int 0), (0, .ref 44)]) (st2 := [.int 4, .int 0, .ref 44]) (w2 := (iv_wd (iv_MA 1 2 5 4) (iv_uF iv_F13 4400 0) (vp_updL iv_Bz 0 0))) rfl ?_
  refine iv_Gcall (ν := 185) (c := 3) (as := [.ref 44, .int 0, .int 4]) (rest := []) (w2 := (iv_wd (iv_MA 1 2 5 5) (iv_uF iv_F13 4400 0) (vp_updL iv_Bz 0 0))) (tg2 := true) (k2 := 0) (z2 := 0) (v := (some (.int 0))) rfl rfl rfl rfl rfl rfl rfl (Nat.le_of_ble_eq_true rfl) rfl ?_ ?_
  · refine iv_Gm 9 (pc2 := 11) (lv2 := [(3, .int 2), (0, .ref 44), (1, .int 0), (2, .int 4)]) (st2 := [.int 0, .int 4, .int 2, .ref 44]) (w2 := (iv_wd (iv_MA 1 2 5 4) (iv_uF iv_F13 4400 0) (vp_updL iv_Bz 0 0))) rfl ?_
    refine iv_Gcall (ν := 139) (c := 4) (as := [.ref 44, .int 2, .int 4, .int 0]) (rest := []) (w2 := (iv_wd (iv_MA 1 2 5 4) (iv_uF iv_F13 4400 0) (vp_updL iv_Bz 0 0))) (tg2 := true) (k2 := 0) (z2 := 0) (v := (some (.int 0))) rfl rfl rfl rfl rfl rfl rfl (Nat.le_of_ble_eq_true rfl) rfl ?_ ?_
    · exact ⟨15, rfl⟩
    show iv_G _ _ _ _ 14 [(3, .int 2), (0, .ref 44), (1, .int 0), (2, .int 4)] [.int 0] (iv_wd (iv_MA 1 2 5 4) (iv_uF iv_F13 4400 0) (vp_updL iv_Bz 0 0)) true _ _ _
    refine iv_Gm 30 (pc2 := 110) (lv2 := [(7, .int 4), (6, .int 0), (5, .int 0), (4, .int 0), (3, .int 2), (0, .ref 44), (1, .int 0), (2, .int 4)]) (st2 := []) (w2 := (iv_wd (iv_uA (iv_MA 1 2 5 4) 64 0 5) (iv_uF iv_F13 4400 0) (vp_updL iv_Bz 0 0))) rfl ?_
    rw [iv_MA_64]
    refine iv_Gm 9 (pc2 := 155) (lv2 := [(7, .int 4), (6, .int 0), (5, .int 0), (4, .int 0), (3, .int 2), (0, .ref 44), (1, .int 0), (2, .int 4)]) (st2 := [.int 0]) (w2 := (iv_wd (iv_MA 1 2 5 5) (iv_uF iv_F13 4400 0) (vp_updL iv_Bz 0 0))) rfl ?_
    exact iv_Gret rfl rfl rfl
  show iv_G _ _ _ _ 228 [(2, .int 4), (1, .int 0), (0, .ref 44)] [.int 0] (iv_wd (iv_MA 1 2 5 5) (iv_uF iv_F13 4400 0) (vp_updL iv_Bz 0 0)) true _ _ _
  refine iv_Gm 17 (pc2 := 163) (lv2 := [(2, .int 5), (1, .int 0), (0, .ref 44)]) (st2 := []) (w2 := (iv_wd (iv_uA (iv_MA 1 2 5 5) 63 0 6) (iv_uF iv_F13 4400 0) (vp_updL iv_Bz 0 0))) rfl ?_
  rw [iv_MA_63]
  refine iv_Gm 10 (pc2 := 214) (lv2 := [(2, .int 5), (1, .int 0), (0, .ref 44)]) (st2 := [.int 0, .int 5, .int 2, .ref 44]) (w2 := (iv_wd (iv_MA 1 2 6 5) (iv_uF iv_F13 4400 0) (vp_updL iv_Bz 0 0))) rfl ?_
  refine iv_Gcall (ν := 139) (c := 4) (as := [.ref 44, .int 2, .int 5, .int 0]) (rest := []) (w2 := (iv_wd (iv_MA 1 2 6 5) (iv_uF iv_F13 4400 0) (vp_updL iv_Bz 0 0))) (tg2 := true) (k2 := 0) (z2 := 0) (v := (some (.int 0))) rfl rfl rfl rfl rfl rfl rfl (Nat.le_of_ble_eq_true rfl) rfl ?_ ?_
  · exact ⟨15, rfl⟩
  show iv_G _ _ _ _ 217 [(2, .int 5), (1, .int 0), (0, .ref 44)] [.int 0] (iv_wd (iv_MA 1 2 6 5) (iv_uF iv_F13 4400 0) (vp_updL iv_Bz 0 0)) true _ _ _
  refine iv_Gm 5 (pc2 := 225) (lv2 := [(2, .int 5), (1, .int 0), (0, .ref 44)]) (st2 := [.int 5, .int 0, .ref 44]) (w2 := (iv_wd (iv_MA 1 2 6 5) (iv_uF iv_F13 4400 0) (vp_updL iv_Bz 0 0))) rfl ?_
  refine iv_Gcall (ν := 185) (c := 3) (as := [.ref 44, .int 0, .int 5]) (rest := []) (w2 := (iv_wd (iv_MA 1 2 6 6) (iv_uF iv_F13 4400 0) (vp_updL iv_Bz 0 0))) (tg2 := true) (k2 := 0) (z2 := 0) (v := (some (.int 0))) rfl rfl rfl rfl rfl rfl rfl (Nat.le_of_ble_eq_true rfl) rfl ?_ ?_
  · refine iv_Gm 9 (pc2 := 11) (lv2 := [(3, .int 2), (0, .ref 44), (1, .int 0), (2, .int 5)]) (st2 := [.int 0, .int 5, .int 2, .ref 44]) (w2 := (iv_wd (iv_MA 1 2 6 5) (iv_uF iv_F13 4400 0) (vp_updL iv_Bz 0 0))) rfl ?_
    refine iv_Gcall (ν := 139) (c := 4) (as := [.ref 44, .int 2, .int 5, .int 0]) (rest := []) (w2 := (iv_wd (iv_MA 1 2 6 5) (iv_uF iv_F13 4400 0) (vp_updL iv_Bz 0 0))) (tg2 := true) (k2 := 0) (z2 := 0) (v := (some (.int 0))) rfl rfl rfl rfl rfl rfl rfl (Nat.le_of_ble_eq_true rfl) rfl ?_ ?_
    · exact ⟨15, rfl⟩
    show iv_G _ _ _ _ 14 [(3, .int 2), (0, .ref 44), (1, .int 0), (2, .int 5)] [.int 0] (iv_wd (iv_MA 1 2 6 5) (iv_uF iv_F13 4400 0) (vp_updL iv_Bz 0 0)) true _ _ _
    refine iv_Gm 30 (pc2 := 110) (lv2 := [(7, .int 5), (6, .int 0), (5, .int 0), (4, .int 0), (3, .int 2), (0, .ref 44), (1, .int 0), (2, .int 5)]) (st2 := []) (w2 := (iv_wd (iv_uA (iv_MA 1 2 6 5) 64 0 6) (iv_uF iv_F13 4400 0) (vp_updL iv_Bz 0 0))) rfl ?_
    rw [iv_MA_64]
    refine iv_Gm 9 (pc2 := 155) (lv2 := [(7, .int 5), (6, .int 0), (5, .int 0), (4, .int 0), (3, .int 2), (0, .ref 44), (1, .int 0), (2, .int 5)]) (st2 := [.int 0]) (w2 := (iv_wd (iv_MA 1 2 6 6) (iv_uF iv_F13 4400 0) (vp_updL iv_Bz 0 0))) rfl ?_
    exact iv_Gret rfl rfl rfl
  show iv_G _ _ _ _ 228 [(2, .int 5), (1, .int 0), (0, .ref 44)] [.int 0] (iv_wd (iv_MA 1 2 6 6) (iv_uF iv_F13 4400 0) (vp_updL iv_Bz 0 0)) true _ _ _
  refine iv_Gm 17 (pc2 := 163) (lv2 := [(2, .int 6), (1, .int 0), (0, .ref 44)]) (st2 := []) (w2 := (iv_wd (iv_uA (iv_MA 1 2 6 6) 63 0 7) (iv_uF iv_F13 4400 0) (vp_updL iv_Bz 0 0))) rfl ?_
  rw [iv_MA_63]
  refine iv_Gm 10 (pc2 := 214) (lv2 := [(2, .int 6), (1, .int 0), (0, .ref 44)]) (st2 := [.int 0, .int 6, .int 2, .ref 44]) (w2 := (iv_wd (iv_MA 1 2 7 6) (iv_uF iv_F13 4400 0) (vp_updL iv_Bz 0 0))) rfl ?_
  refine iv_Gcall (ν := 139) (c := 4) (as := [.ref 44, .int 2, .int 6, .int 0]) (rest := []) (w2 := (iv_wd (iv_MA 1 2 7 6) (iv_uF iv_F13 4400 0) (vp_updL iv_Bz 0 0))) (tg2 := true) (k2 := 0) (z2 := 0) (v := (some (.int 0))) rfl rfl rfl rfl rfl rfl rfl (Nat.le_of_ble_eq_true rfl) rfl ?_ ?_
  · exact ⟨15, rfl⟩
  show iv_G _ _ _ _ 217 [(2, .int 6), (1, .int 0), (0, .ref 44)] [.int 0] (iv_wd (iv_MA 1 2 7 6) (iv_uF iv_F13 4400 0) (vp_updL iv_Bz 0 0)) true _ _ _
  refine iv_Gm 5 (pc2 := 225) (lv2 := [(2, .int 6), (1, .int 0), (0, .ref 44)]) (st2 := [.int 6, .int 0, .ref 44]) (w2 := (iv_wd (iv_MA 1 2 7 6) (iv_uF iv_F13 4400 0) (vp_updL iv_Bz 0 0))) rfl ?_
  refine iv_Gcall (ν := 185) (c := 3) (as := [.ref 44, .int 0, .int 6]) (rest := []) (w2 := (iv_wd (iv_MA 1 2 7 7) (iv_uF iv_F13 4400 0) (vp_updL iv_Bz 0 0))) (tg2 := true) (k2 := 0) (z2 := 0) (v := (some (.int 0))) rfl rfl rfl rfl rfl rfl rfl (Nat.le_of_ble_eq_true rfl) rfl ?_ ?_
  · refine iv_Gm 9 (pc2 := 11) (lv2 := [(3, .int 2), (0, .ref 44), (1, .int 0), (2, .int 6)]) (st2 := [.int 0, .int 6, .int 2, .ref 44]) (w2 := (iv_wd (iv_MA 1 2 7 6) (iv_uF iv_F13 4400 0) (vp_updL iv_Bz 0 0))) rfl ?_
    refine iv_Gcall (ν := 139) (c := 4) (as := [.ref 44, .int 2, .int 6, .int 0]) (rest := []) (w2 := (iv_wd (iv_MA 1 2 7 6) (iv_uF iv_F13 4400 0) (vp_updL iv_Bz 0 0))) (tg2 := true) (k2 := 0) (z2 := 0) (v := (some (.int 0))) rfl rfl rfl rfl rfl rfl rfl (Nat.le_of_ble_eq_true rfl) rfl ?_ ?_
    · exact ⟨15, rfl⟩
    show iv_G _ _ _ _ 14 [(3, .int 2), (0, .ref 44), (1, .int 0), (2, .int 6)] [.int 0] (iv_wd (iv_MA 1 2 7 6) (iv_uF iv_F13 4400 0) (vp_updL iv_Bz 0 0)) true _ _ _
    refine iv_Gm 30 (pc2 := 110) (lv2 := [(7, .int 6), (6, .int 0), (5, .int 0), (4, .int 0), (3, .int 2), (0, .ref 44), (1, .int 0), (2, .int 6)]) (st2 := []) (w2 := (iv_wd (iv_uA (iv_MA 1 2 7 6) 64 0 7) (iv_uF iv_F13 4400 0) (vp_updL iv_Bz 0 0))) rfl ?_
    rw [iv_MA_64]
    refine iv_Gm 9 (pc2 := 155) (lv2 := [(7, .int 6), (6, .int 0), (5, .int 0), (4, .int 0), (3, .int 2), (0, .ref 44), (1, .int 0), (2, .int 6)]) (st2 := [.int 0]) (w2 := (iv_wd (iv_MA 1 2 7 7) (iv_uF iv_F13 4400 0) (vp_updL iv_Bz 0 0))) rfl ?_
    exact iv_Gret rfl rfl rfl
  show iv_G _ _ _ _ 228 [(2, .int 6), (1, .int 0), (0, .ref 44)] [.int 0] (iv_wd (iv_MA 1 2 7 7) (iv_uF iv_F13 4400 0) (vp_updL iv_Bz 0 0)) true _ _ _
  refine iv_Gm 17 (pc2 := 163) (lv2 := [(2, .int 7), (1, .int 0), (0, .ref 44)]) (st2 := []) (w2 := (iv_wd (iv_uA (iv_MA 1 2 7 7) 63 0 8) (iv_uF iv_F13 4400 0) (vp_updL iv_Bz 0 0))) rfl ?_
  rw [iv_MA_63]
  refine iv_Gm 10 (pc2 := 214) (lv2 := [(2, .int 7), (1, .int 0), (0, .ref 44)]) (st2 := [.int 0, .int 7, .int 2, .ref 44]) (w2 := (iv_wd (iv_MA 1 2 8 7) (iv_uF iv_F13 4400 0) (vp_updL iv_Bz 0 0))) rfl ?_
  refine iv_Gcall (ν := 139) (c := 4) (as := [.ref 44, .int 2, .int 7, .int 0]) (rest := []) (w2 := (iv_wd (iv_MA 1 2 8 7) (iv_uF iv_F13 4400 0) (vp_updL iv_Bz 0 0))) (tg2 := true) (k2 := 0) (z2 := 0) (v := (some (.int 0))) rfl rfl rfl rfl rfl rfl rfl (Nat.le_of_ble_eq_true rfl) rfl ?_ ?_
  · exact ⟨15, rfl⟩
  show iv_G _ _ _ _ 217 [(2, .int 7), (1, .int 0), (0, .ref 44)] [.int 0] (iv_wd (iv_MA 1 2 8 7) (iv_uF iv_F13 4400 0) (vp_updL iv_Bz 0 0)) true _ _ _
  refine iv_Gm 5 (pc2 := 225) (lv2 := [(2, .int 7), (1, .int 0), (0, .ref 44)]) (st2 := [.int 7, .int 0, .ref 44]) (w2 := (iv_wd (iv_MA 1 2 8 7) (iv_uF iv_F13 4400 0) (vp_updL iv_Bz 0 0))) rfl ?_
  refine iv_Gcall (ν := 185) (c := 3) (as := [.ref 44, .int 0, .int 7]) (rest := []) (w2 := (iv_wd (iv_MA 1 2 8 8) (iv_uF iv_F13 4400 0) (vp_updL iv_Bz 0 0))) (tg2 := true) (k2 := 0) (z2 := 0) (v := (some (.int 0))) rfl rfl rfl rfl rfl rfl rfl (Nat.le_of_ble_eq_true rfl) rfl ?_ ?_
  · refine iv_Gm 9 (pc2 := 11) (lv2 := [(3, .int 2), (0, .ref 44), (1, .int 0), (2, .int 7)]) (st2 := [.int 0, .int 7, .int 2, .ref 44]) (w2 := (iv_wd (iv_MA 1 2 8 7) (iv_uF iv_F13 4400 0) (vp_updL iv_Bz 0 0))) rfl ?_
    refine iv_Gcall (ν := 139) (c := 4) (as := [.ref 44, .int 2, .int 7, .int 0]) (rest := []) (w2 := (iv_wd (iv_MA 1 2 8 7) (iv_uF iv_F13 4400 0) (vp_updL iv_Bz 0 0))) (tg2 := true) (k2 := 0) (z2 := 0) (v := (some (.int 0))) rfl rfl rfl rfl rfl rfl rfl (Nat.le_of_ble_eq_true rfl) rfl ?_ ?_
    · exact ⟨15, rfl⟩
    show iv_G _ _ _ _ 14 [(3, .int 2), (0, .ref 44), (1, .int 0), (2, .int 7)] [.int 0] (iv_wd (iv_MA 1 2 8 7) (iv_uF iv_F13 4400 0) (vp_updL iv_Bz 0 0)) true _ _ _
    refine iv_Gm 30 (pc2 := 110) (lv2 := [(7, .int 7), (6, .int 0), (5, .int 0), (4, .int 0), (3, .int 2), (0, .ref 44), (1, .int 0), (2, .int 7)]) (st2 := []) (w2 := (iv_wd (iv_uA (iv_MA 1 2 8 7) 64 0 8) (iv_uF iv_F13 4400 0) (vp_updL iv_Bz 0 0))) rfl ?_
    rw [iv_MA_64]
    refine iv_Gm 9 (pc2 := 155) (lv2 := [(7, .int 7), (6, .int 0), (5, .int 0), (4, .int 0), (3, .int 2), (0, .ref 44), (1, .int 0), (2, .int 7)]) (st2 := [.int 0]) (w2 := (iv_wd (iv_MA 1 2 8 8) (iv_uF iv_F13 4400 0) (vp_updL iv_Bz 0 0))) rfl ?_
    exact iv_Gret rfl rfl rfl
  show iv_G _ _ _ _ 228 [(2, .int 7), (1, .int 0), (0, .ref 44)] [.int 0] (iv_wd (iv_MA 1 2 8 8) (iv_uF iv_F13 4400 0) (vp_updL iv_Bz 0 0)) true _ _ _
  refine iv_Gm 17 (pc2 := 163) (lv2 := [(2, .int 8), (1, .int 0), (0, .ref 44)]) (st2 := []) (w2 := (iv_wd (iv_uA (iv_MA 1 2 8 8) 63 0 9) (iv_uF iv_F13 4400 0) (vp_updL iv_Bz 0 0))) rfl ?_
  rw [iv_MA_63]
  refine iv_Gm 42 (pc2 := 292) (lv2 := [(3, .int 2), (2, .int 2), (1, .int (-1)), (0, .ref 44)]) (st2 := []) (w2 := (iv_wd (iv_uA (iv_MA 1 2 9 8) 46 2 255) (iv_uF iv_F13 4400 0) (vp_updL iv_Bz 0 0))) rfl ?_
  rw [iv_uA_id (A := (iv_MA 1 2 9 8)) (r := 46) (j := 2) (v := 255) rfl]
  refine iv_Gm 28 (pc2 := 292) (lv2 := [(3, .int 3), (2, .int 3), (1, .int (-1)), (0, .ref 44)]) (st2 := []) (w2 := (iv_wd (iv_uA (iv_MA 1 2 9 8) 46 3 0) (iv_uF iv_F13 4400 0) (vp_updL iv_Bz 0 0))) rfl ?_
  rw [iv_uA_id (A := (iv_MA 1 2 9 8)) (r := 46) (j := 3) (v := 0) rfl]
  refine iv_Gm 28 (pc2 := 292) (lv2 := [(3, .int 4), (2, .int 4), (1, .int (-1)), (0, .ref 44)]) (st2 := []) (w2 := (iv_wd (iv_uA (iv_MA 1 2 9 8) 46 4 0) (iv_uF iv_F13 4400 0) (vp_updL iv_Bz 0 0))) rfl ?_
  rw [iv_uA_id (A := (iv_MA 1 2 9 8)) (r := 46) (j := 4) (v := 0) rfl]
  refine iv_Gm 28 (pc2 := 292) (lv2 := [(3, .int 5), (2, .int 5), (1, .int (-1)), (0, .ref 44)]) (st2 := []) (w2 := (iv_wd (iv_uA (iv_MA 1 2 9 8) 46 5 0) (iv_uF iv_F13 4400 0) (vp_updL iv_Bz 0 0))) rfl ?_
  rw [iv_uA_id (A := (iv_MA 1 2 9 8)) (r := 46) (j := 5) (v := 0) rfl]
  refine iv_Gm 28 (pc2 := 292) (lv2 := [(3, .int 6), (2, .int 6), (1, .int (-1)), (0, .ref 44)]) (st2 := []) (w2 := (iv_wd (iv_uA (iv_MA 1 2 9 8) 46 6 0) (iv_uF iv_F13 4400 0) (vp_updL iv_Bz 0 0))) rfl ?_
  rw [iv_uA_id (A := (iv_MA 1 2 9 8)) (r := 46) (j := 6) (v := 0) rfl]
  refine iv_Gm 28 (pc2 := 292) (lv2 := [(3, .int 7), (2, .int 7), (1, .int (-1)), (0, .ref 44)]) (st2 := []) (w2 := (iv_wd (iv_uA (iv_MA 1 2 9 8) 46 7 0) (iv_uF iv_F13 4400 0) (vp_updL iv_Bz 0 0))) rfl ?_
  rw [iv_uA_id (A := (iv_MA 1 2 9 8)) (r := 46) (j := 7) (v := 0) rfl]
  refine iv_Gm 28 (pc2 := 292) (lv2 := [(3, .int 8), (2, .int 8), (1, .int (-1)), (0, .ref 44)]) (st2 := []) (w2 := (iv_wd (iv_uA (iv_MA 1 2 9 8) 46 8 0) (iv_uF iv_F13 4400 0) (vp_updL iv_Bz 0 0))) rfl ?_
  rw [iv_uA_id (A := (iv_MA 1 2 9 8)) (r := 46) (j := 8) (v := 0) rfl]
  refine iv_Gm 28 (pc2 := 292) (lv2 := [(3, .int 9), (2, .int 9), (1, .int (-1)), (0, .ref 44)]) (st2 := []) (w2 := (iv_wd (iv_uA (iv_MA 1 2 9 8) 46 9 0) (iv_uF iv_F13 4400 0) (vp_updL iv_Bz 0 0))) rfl ?_
  rw [iv_uA_id (A := (iv_MA 1 2 9 8)) (r := 46) (j := 9) (v := 0) rfl]
  refine iv_Gm 28 (pc2 := 292) (lv2 := [(3, .int 10), (2, .int 10), (1, .int (-1)), (0, .ref 44)]) (st2 := []) (w2 := (iv_wd (iv_uA (iv_MA 1 2 9 8) 46 10 0) (iv_uF iv_F13 4400 0) (vp_updL iv_Bz 0 0))) rfl ?_
  rw [iv_uA_id (A := (iv_MA 1 2 9 8)) (r := 46) (j := 10) (v := 0) rfl]
  refine iv_Gm 28 (pc2 := 292) (lv2 := [(3, .int 11), (2, .int 11), (1, .int (-1)), (0, .ref 44)]) (st2 := []) (w2 := (iv_wd (iv_uA (iv_MA 1 2 9 8) 46 11 0) (iv_uF iv_F13 4400 0) (vp_updL iv_Bz 0 0))) rfl ?_
  rw [iv_uA_id (A := (iv_MA 1 2 9 8)) (r := 46) (j := 11) (v := 0) rfl]
  refine iv_Gm 28 (pc2 := 292) (lv2 := [(3, .int 12), (2, .int 12), (1, .int (-1)), (0, .ref 44)]) (st2 := []) (w2 := (iv_wd (iv_uA (iv_MA 1 2 9 8) 46 12 0) (iv_uF iv_F13 4400 0) (vp_updL iv_Bz 0 0))) rfl ?_
  rw [iv_uA_id (A := (iv_MA 1 2 9 8)) (r := 46) (j := 12) (v := 0) rfl]
  refine iv_Gm 28 (pc2 := 292) (lv2 := [(3, .int 13), (2, .int 13), (1, .int (-1)), (0, .ref 44)]) (st2 := []) (w2 := (iv_wd (iv_uA (iv_MA 1 2 9 8) 46 13 0) (iv_uF iv_F13 4400 0) (vp_updL iv_Bz 0 0))) rfl ?_
  rw [iv_uA_id (A := (iv_MA 1 2 9 8)) (r := 46) (j := 13) (v := 0) rfl]
  refine iv_Gm 28 (pc2 := 292) (lv2 := [(3, .int 14), (2, .int 14), (1, .int (-1)), (0, .ref 44)]) (st2 := []) (w2 := (iv_wd (iv_uA (iv_MA 1 2 9 8) 46 14 0) (iv_uF iv_F13 4400 0) (vp_updL iv_Bz 0 0))) rfl ?_
  rw [iv_uA_id (A := (iv_MA 1 2 9 8)) (r := 46) (j := 14) (v := 0) rfl]
  refine iv_Gm 28 (pc2 := 292) (lv2 := [(3, .int 15), (2, .int 15), (1, .int (-1)), (0, .ref 44)]) (st2 := []) (w2 := (iv_wd (iv_uA (iv_MA 1 2 9 8) 46 15 0) (iv_uF iv_F13 4400 0) (vp_updL iv_Bz 0 0))) rfl ?_
  rw [iv_uA_id (A := (iv_MA 1 2 9 8)) (r := 46) (j := 15) (v := 0) rfl]
  refine iv_Gm 28 (pc2 := 292) (lv2 := [(3, .int 16), (2, .int 16), (1, .int (-1)), (0, .ref 44)]) (st2 := []) (w2 := (iv_wd (iv_uA (iv_MA 1 2 9 8) 46 16 0) (iv_uF iv_F13 4400 0) (vp_updL iv_Bz 0 0))) rfl ?_
  rw [iv_uA_id (A := (iv_MA 1 2 9 8)) (r := 46) (j := 16) (v := 0) rfl]
  refine iv_Gm 28 (pc2 := 292) (lv2 := [(3, .int 17), (2, .int 17), (1, .int (-1)), (0, .ref 44)]) (st2 := []) (w2 := (iv_wd (iv_uA (iv_MA 1 2 9 8) 46 17 0) (iv_uF iv_F13 4400 0) (vp_updL iv_Bz 0 0))) rfl ?_
  rw [iv_uA_id (A := (iv_MA 1 2 9 8)) (r := 46) (j := 17) (v := 0) rfl]
  refine iv_Gm 28 (pc2 := 292) (lv2 := [(3, .int 18), (2, .int 18), (1, .int (-1)), (0, .ref 44)]) (st2 := []) (w2 := (iv_wd (iv_uA (iv_MA 1 2 9 8) 46 18 0) (iv_uF iv_F13 4400 0) (vp_updL iv_Bz 0 0))) rfl ?_
  rw [iv_uA_id (A := (iv_MA 1 2 9 8)) (r := 46) (j := 18) (v := 0) rfl]
  refine iv_Gm 28 (pc2 := 292) (lv2 := [(3, .int 19), (2, .int 19), (1, .int (-1)), (0, .ref 44)]) (st2 := []) (w2 := (iv_wd (iv_uA (iv_MA 1 2 9 8) 46 19 0) (iv_uF iv_F13 4400 0) (vp_updL iv_Bz 0 0))) rfl ?_
  rw [iv_uA_id (A := (iv_MA 1 2 9 8)) (r := 46) (j := 19) (v := 0) rfl]
  refine iv_Gm 28 (pc2 := 292) (lv2 := [(3, .int 20), (2, .int 20), (1, .int (-1)), (0, .ref 44)]) (st2 := []) (w2 := (iv_wd (iv_uA (iv_MA 1 2 9 8) 46 20 0) (iv_uF iv_F13 4400 0) (vp_updL iv_Bz 0 0))) rfl ?_
  rw [iv_uA_id (A := (iv_MA 1 2 9 8)) (r := 46) (j := 20) (v := 0) rfl]
  refine iv_Gm 28 (pc2 := 292) (lv2 := [(3, .int 21), (2, .int 21), (1, .int (-1)), (0, .ref 44)]) (st2 := []) (w2 := (iv_wd (iv_uA (iv_MA 1 2 9 8) 46 21 0) (iv_uF iv_F13 4400 0) (vp_updL iv_Bz 0 0))) rfl ?_
  rw [iv_uA_id (A := (iv_MA 1 2 9 8)) (r := 46) (j := 21) (v := 0) rfl]
  refine iv_Gm 28 (pc2 := 292) (lv2 := [(3, .int 22), (2, .int 22), (1, .int (-1)), (0, .ref 44)]) (st2 := []) (w2 := (iv_wd (iv_uA (iv_MA 1 2 9 8) 46 22 0) (iv_uF iv_F13 4400 0) (vp_updL iv_Bz 0 0))) rfl ?_
  rw [iv_uA_id (A := (iv_MA 1 2 9 8)) (r := 46) (j := 22) (v := 0) rfl]
  refine iv_Gm 28 (pc2 := 292) (lv2 := [(3, .int 23), (2, .int 23), (1, .int (-1)), (0, .ref 44)]) (st2 := []) (w2 := (iv_wd (iv_uA (iv_MA 1 2 9 8) 46 23 0) (iv_uF iv_F13 4400 0) (vp_updL iv_Bz 0 0))) rfl ?_
  rw [iv_uA_id (A := (iv_MA 1 2 9 8)) (r := 46) (j := 23) (v := 0) rfl]
  refine iv_Gm 28 (pc2 := 292) (lv2 := [(3, .int 24), (2, .int 24), (1, .int (-1)), (0, .ref 44)]) (st2 := []) (w2 := (iv_wd (iv_uA (iv_MA 1 2 9 8) 46 24 0) (iv_uF iv_F13 4400 0) (vp_updL iv_Bz 0 0))) rfl ?_
  rw [iv_uA_id (A := (iv_MA 1 2 9 8)) (r := 46) (j := 24) (v := 0) rfl]
  refine iv_Gm 28 (pc2 := 292) (lv2 := [(3, .int 25), (2, .int 25), (1, .int (-1)), (0, .ref 44)]) (st2 := []) (w2 := (iv_wd (iv_uA (iv_MA 1 2 9 8) 46 25 0) (iv_uF iv_F13 4400 0) (vp_updL iv_Bz 0 0))) rfl ?_
  rw [iv_uA_id (A := (iv_MA 1 2 9 8)) (r := 46) (j := 25) (v := 0) rfl]
  refine iv_Gm 28 (pc2 := 292) (lv2 := [(3, .int 26), (2, .int 26), (1, .int (-1)), (0, .ref 44)]) (st2 := []) (w2 := (iv_wd (iv_uA (iv_MA 1 2 9 8) 46 26 0) (iv_uF iv_F13 4400 0) (vp_updL iv_Bz 0 0))) rfl ?_
  rw [iv_uA_id (A := (iv_MA 1 2 9 8)) (r := 46) (j := 26) (v := 0) rfl]
  refine iv_Gm 28 (pc2 := 292) (lv2 := [(3, .int 27), (2, .int 27), (1, .int (-1)), (0, .ref 44)]) (st2 := []) (w2 := (iv_wd (iv_uA (iv_MA 1 2 9 8) 46 27 0) (iv_uF iv_F13 4400 0) (vp_updL iv_Bz 0 0))) rfl ?_
  rw [iv_uA_id (A := (iv_MA 1 2 9 8)) (r := 46) (j := 27) (v := 0) rfl]
  refine iv_Gm 28 (pc2 := 292) (lv2 := [(3, .int 28), (2, .int 28), (1, .int (-1)), (0, .ref 44)]) (st2 := []) (w2 := (iv_wd (iv_uA (iv_MA 1 2 9 8) 46 28 0) (iv_uF iv_F13 4400 0) (vp_updL iv_Bz 0 0))) rfl ?_
  rw [iv_uA_id (A := (iv_MA 1 2 9 8)) (r := 46) (j := 28) (v := 0) rfl]
  refine iv_Gm 28 (pc2 := 292) (lv2 := [(3, .int 29), (2, .int 29), (1, .int (-1)), (0, .ref 44)]) (st2 := []) (w2 := (iv_wd (iv_uA (iv_MA 1 2 9 8) 46 29 0) (iv_uF iv_F13 4400 0) (vp_updL iv_Bz 0 0))) rfl ?_
  rw [iv_uA_id (A := (iv_MA 1 2 9 8)) (r := 46) (j := 29) (v := 0) rfl]
  refine iv_Gm 28 (pc2 := 292) (lv2 := [(3, .int 30), (2, .int 30), (1, .int (-1)), (0, .ref 44)]) (st2 := []) (w2 := (iv_wd (iv_uA (iv_MA 1 2 9 8) 46 30 0) (iv_uF iv_F13 4400 0) (vp_updL iv_Bz 0 0))) rfl ?_
  rw [iv_uA_id (A := (iv_MA 1 2 9 8)) (r := 46) (j := 30) (v := 0) rfl]
  refine iv_Gm 28 (pc2 := 292) (lv2 := [(3, .int 31), (2, .int 31), (1, .int (-1)), (0, .ref 44)]) (st2 := []) (w2 := (iv_wd (iv_uA (iv_MA 1 2 9 8) 46 31 0) (iv_uF iv_F13 4400 0) (vp_updL iv_Bz 0 0))) rfl ?_
  rw [iv_uA_id (A := (iv_MA 1 2 9 8)) (r := 46) (j := 31) (v := 0) rfl]
  refine iv_Gm 9 (pc2 := 302) (lv2 := [(3, .int 0), (2, .int 0), (1, .int (-1)), (0, .ref 44)]) (st2 := []) (w2 := (iv_wd (iv_MA 1 2 9 8) (iv_uF iv_F13 4400 0) (vp_updL iv_Bz 0 0))) rfl ?_
  exact iv_r4L (A := iv_A14) (F := iv_F14) iv_A14_46 iv_A14_47 2112 0 rfl
set_option maxRecDepth 1000000 in
set_option maxHeartbeats 40000000 in
theorem iv_re13 {L : Nat} {xs : Nat → Int32} {d : Nat} : iv_G L xs (d + 2) 186 0 [(0, .ref 44)] [] (iv_wd iv_A13 iv_F13 (vp_updL iv_Bz 0 0)) true 0 0 (.inl (some (.int 0)), iv_wd iv_A14 iv_F14 (vp_updL iv_Bz 0 0), true, 0, 0) := by
  refine iv_Gm 8 (pc2 := 20) (lv2 := [(1, .int 0), (0, .ref 44)]) (st2 := []) (w2 := (iv_wd iv_A13 (iv_uF iv_F13 4400 0) (vp_updL iv_Bz 0 0))) rfl ?_
  have h := iv_r1L (A := iv_A13) (iv_re13b (L := L) (xs := xs) (d := d)) 2112 0 rfl
  rw [iv_gA0] at h
  exact h

