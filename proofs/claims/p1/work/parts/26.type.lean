/-! the whole of type, on both sides -/
def iv_g8 (e : Int64) : Prop := iv_gd (iv_by e 56) ∧ iv_gd (iv_by e 48) ∧ iv_gd (iv_by e 40) ∧ iv_gd (iv_by e 32) ∧ iv_gd (iv_by e 24) ∧ iv_gd (iv_by e 16) ∧ iv_gd (iv_by e 8) ∧ iv_gd (iv_by e 0)
theorem iv_ctb {m c : Int32} {j : Int} (h : 0 ≤ m.toInt ∧ m.toInt ≤ j) (hj : j ≤ 30) : 0 ≤ (m + iv_ct c).toInt ∧ (m + iv_ct c).toInt ≤ j + 1 := by
  have h1 : (0 : Int32).toInt = 0 := rfl
  have h2 : (1 : Int32).toInt = 1 := rfl
  have e : (m + iv_ct c).toInt = m.toInt + (iv_ct c).toInt := by
    rw [Int32.toInt_add]
    apply iv_bm <;> (unfold iv_ct; split <;> omega)
  rw [e]
  unfold iv_ct
  split <;> omega
theorem iv_cin {m : Int32} {j : Int} (h : 0 ≤ m.toInt ∧ m.toInt ≤ j) (hj : j ≤ 30) : iv_in m 40 = true := iv_in_i h.1 (by omega)
theorem iv_c41 {m : Int32} {j : Int} (h : 0 ≤ m.toInt ∧ m.toInt ≤ j) (hj : j ≤ 30) : 0 + m < 41 := by
  rw [Int32.zero_add, Int32.lt_iff_toInt_lt]
  have h2 : (41 : Int32).toInt = 41 := rfl
  omega
section
variable {L : Nat} {xs : Nat → Int32} {d : Nat}
set_option maxRecDepth 1000000 in
set_option maxHeartbeats 40000000 in
theorem iv_ap1 (e : Int64) (h : iv_g8 e) : ∃ A2 n2, iv_G L xs d 34 0 [(0, .ref 6), (1, .long e)] [] (iv_wd iv_Az iv_Fz iv_Bz) true 0 0 (.inl (some (.int 1)), iv_wd A2 (iv_uF iv_Fz 603 n2) iv_Bz, true, 0, 0) := by
  obtain ⟨h0, h1, h2, h3, h4, h5, h6, h7⟩ := h
  have b0 : 0 ≤ (0 : Int32).toInt ∧ (0 : Int32).toInt ≤ 0 := by decide
  have b1 := iv_ctb (c := (iv_by e 56)) b0 (by decide)
  have b2 := iv_ctb (c := (iv_by e 48)) b1 (by decide)
  have b3 := iv_ctb (c := (iv_by e 40)) b2 (by decide)
  have b4 := iv_ctb (c := (iv_by e 32)) b3 (by decide)
  have b5 := iv_ctb (c := (iv_by e 24)) b4 (by decide)
  have b6 := iv_ctb (c := (iv_by e 16)) b5 (by decide)
  have b7 := iv_ctb (c := (iv_by e 8)) b6 (by decide)
  have b8 := iv_ctb (c := (iv_by e 0)) b7 (by decide)
  have key : ∃ o, (∃ A2 n2, o = (Sum.inl (some (Value.int 1)), iv_wd A2 (iv_uF iv_Fz 603 n2) iv_Bz, true, 0, 0)) ∧ iv_G L xs d 34 79 [(4, .int 56), (3, .int ((((((((0 + iv_ct (iv_by e 56)) + iv_ct (iv_by e 48)) + iv_ct (iv_by e 40)) + iv_ct (iv_by e 32)) + iv_ct (iv_by e 24)) + iv_ct (iv_by e 16)) + iv_ct (iv_by e 8)) + iv_ct (iv_by e 0))), (5, .int (iv_by e 0)), (0, .ref 6), (1, .long e)] [] (iv_wd iv_Az (iv_uF iv_Fz 603 0) iv_Bz) true 0 0 o := by
    refine iv_a2f (s := 56) (s2 := 48) (by decide) (by decide) (iv_cin b0 (by decide)) (fun A0 => ?_)
    refine iv_a2n (s := 48) (s2 := 40) (by decide) (by decide) (iv_cin b1 (by decide)) (fun A1 => ?_)
    refine iv_a2n (s := 40) (s2 := 32) (by decide) (by decide) (iv_cin b2 (by decide)) (fun A2 => ?_)
    refine iv_a2n (s := 32) (s2 := 24) (by decide) (by decide) (iv_cin b3 (by decide)) (fun A3 => ?_)
    refine iv_a2n (s := 24) (s2 := 16) (by decide) (by decide) (iv_cin b4 (by decide)) (fun A4 => ?_)
    refine iv_a2n (s := 16) (s2 := 8) (by decide) (by decide) (iv_cin b5 (by decide)) (fun A5 => ?_)
    refine iv_a2n (s := 8) (s2 := 0) (by decide) (by decide) (iv_cin b6 (by decide)) (fun A6 => ?_)
    refine iv_a2n (s := 0) (s2 := (-8)) (by decide) (by decide) (iv_cin b7 (by decide)) (fun A7 => ?_)
    exact ⟨_, ⟨_, _, rfl⟩, iv_a2e⟩
  obtain ⟨o, ⟨A2, n2, rfl⟩, key⟩ := key
  refine ⟨A2, n2, ?_⟩
  refine iv_Gm 4 (pc2 := 6) (lv2 := [(4, .int 56), (3, .int 0), (0, .ref 6), (1, .long e)]) (st2 := []) (w2 := (iv_wd iv_Az iv_Fz iv_Bz)) rfl ?_
  refine iv_a1f (s := 56) (s2 := 48) (by decide) (by decide) h0 ?_
  refine iv_a1n (s := 48) (s2 := 40) (by decide) (by decide) h1 ?_
  refine iv_a1n (s := 40) (s2 := 32) (by decide) (by decide) h2 ?_
  refine iv_a1n (s := 32) (s2 := 24) (by decide) (by decide) h3 ?_
  refine iv_a1n (s := 24) (s2 := 16) (by decide) (by decide) h4 ?_
  refine iv_a1n (s := 16) (s2 := 8) (by decide) (by decide) h5 ?_
  refine iv_a1n (s := 8) (s2 := 0) (by decide) (by decide) h6 ?_
  refine iv_a1n (s := 0) (s2 := (-8)) (by decide) (by decide) h7 ?_
  exact iv_a12 (iv_c41 b8 (by decide)) key
set_option maxRecDepth 1000000 in
set_option maxHeartbeats 40000000 in
theorem iv_ap0 (e : Int64) (h : ¬ iv_g8 e) : iv_G L xs d 34 0 [(0, .ref 6), (1, .long e)] [] (iv_wd iv_Az iv_Fz iv_Bz) true 0 0 (.inl (some (.int 0)), (iv_wd iv_Az iv_Fz iv_Bz), true, 0, 0) := by
  refine iv_Gm 4 (pc2 := 6) (lv2 := [(4, .int 56), (3, .int 0), (0, .ref 6), (1, .long e)]) (st2 := []) (w2 := (iv_wd iv_Az iv_Fz iv_Bz)) rfl ?_
  by_cases h0 : iv_gd (iv_by e 56)
  case neg => exact iv_a1fb (s := 56) rfl (by decide) h0
  refine iv_a1f (s := 56) (s2 := 48) (by decide) (by decide) h0 ?_
  by_cases h1 : iv_gd (iv_by e 48)
  case neg => exact iv_a1nb (s := 48) rfl (by decide) h1
  refine iv_a1n (s := 48) (s2 := 40) (by decide) (by decide) h1 ?_
  by_cases h2 : iv_gd (iv_by e 40)
  case neg => exact iv_a1nb (s := 40) rfl (by decide) h2
  refine iv_a1n (s := 40) (s2 := 32) (by decide) (by decide) h2 ?_
  by_cases h3 : iv_gd (iv_by e 32)
  case neg => exact iv_a1nb (s := 32) rfl (by decide) h3
  refine iv_a1n (s := 32) (s2 := 24) (by decide) (by decide) h3 ?_
  by_cases h4 : iv_gd (iv_by e 24)
  case neg => exact iv_a1nb (s := 24) rfl (by decide) h4
  refine iv_a1n (s := 24) (s2 := 16) (by decide) (by decide) h4 ?_
  by_cases h5 : iv_gd (iv_by e 16)
  case neg => exact iv_a1nb (s := 16) rfl (by decide) h5
  refine iv_a1n (s := 16) (s2 := 8) (by decide) (by decide) h5 ?_
  by_cases h6 : iv_gd (iv_by e 8)
  case neg => exact iv_a1nb (s := 8) rfl (by decide) h6
  refine iv_a1n (s := 8) (s2 := 0) (by decide) (by decide) h6 ?_
  by_cases h7 : iv_gd (iv_by e 0)
  case neg => exact iv_a1nb (s := 0) rfl (by decide) h7
  refine iv_a1n (s := 0) (s2 := (-8)) (by decide) (by decide) h7 ?_
  exact absurd ⟨h0, h1, h2, h3, h4, h5, h6, h7⟩ h
set_option maxRecDepth 1000000 in
set_option maxHeartbeats 40000000 in
theorem iv_ty1 (e : Int64) (A : Nat → Nat → Int32) (n : Int32) (h : iv_g8 e) : ∃ A2 n2, iv_G L xs d 135 0 [(0, .ref 44), (1, .long e)] [] (iv_wd A (iv_uF iv_Fz 603 n) iv_Bz) true 0 0 (.inl (some (.int 1)), iv_wd A2 (iv_uF (iv_uF (iv_uF iv_Fz 603 n) 4400 0) 4401 n2) iv_Bz, true, 0, 0) := by
  obtain ⟨h0, h1, h2, h3, h4, h5, h6, h7⟩ := h
  have b0 : 0 ≤ (0 : Int32).toInt ∧ (0 : Int32).toInt ≤ 0 := by decide
  have b1 := iv_ctb (c := (iv_by e 56)) b0 (by decide)
  have b2 := iv_ctb (c := (iv_by e 48)) b1 (by decide)
  have b3 := iv_ctb (c := (iv_by e 40)) b2 (by decide)
  have b4 := iv_ctb (c := (iv_by e 32)) b3 (by decide)
  have b5 := iv_ctb (c := (iv_by e 24)) b4 (by decide)
  have b6 := iv_ctb (c := (iv_by e 16)) b5 (by decide)
  have b7 := iv_ctb (c := (iv_by e 8)) b6 (by decide)
  have b8 := iv_ctb (c := (iv_by e 0)) b7 (by decide)
  have key : ∃ o, (∃ A2 n2, o = (Sum.inl (some (Value.int 1)), iv_wd A2 (iv_uF (iv_uF (iv_uF iv_Fz 603 n) 4400 0) 4401 n2) iv_Bz, true, 0, 0)) ∧ iv_G L xs d 135 102 [(5, .int 56), (3, .int ((((((((0 + iv_ct (iv_by e 56)) + iv_ct (iv_by e 48)) + iv_ct (iv_by e 40)) + iv_ct (iv_by e 32)) + iv_ct (iv_by e 24)) + iv_ct (iv_by e 16)) + iv_ct (iv_by e 8)) + iv_ct (iv_by e 0))), (4, .int 1), (6, .int (iv_by e 0)), (0, .ref 44), (1, .long e)] [] (iv_wd A (iv_uF (iv_uF (iv_uF iv_Fz 603 n) 4400 0) 4401 0) iv_Bz) true 0 0 o := by
    refine iv_m2f (s := 56) (s2 := 48) (by decide) (by decide) (iv_cin b0 (by decide)) (fun A0 => ?_)
    refine iv_m2n (s := 48) (s2 := 40) (by decide) (by decide) (iv_cin b1 (by decide)) (fun A1 => ?_)
    refine iv_m2n (s := 40) (s2 := 32) (by decide) (by decide) (iv_cin b2 (by decide)) (fun A2 => ?_)
    refine iv_m2n (s := 32) (s2 := 24) (by decide) (by decide) (iv_cin b3 (by decide)) (fun A3 => ?_)
    refine iv_m2n (s := 24) (s2 := 16) (by decide) (by decide) (iv_cin b4 (by decide)) (fun A4 => ?_)
    refine iv_m2n (s := 16) (s2 := 8) (by decide) (by decide) (iv_cin b5 (by decide)) (fun A5 => ?_)
    refine iv_m2n (s := 8) (s2 := 0) (by decide) (by decide) (iv_cin b6 (by decide)) (fun A6 => ?_)
    refine iv_m2n (s := 0) (s2 := (-8)) (by decide) (by decide) (iv_cin b7 (by decide)) (fun A7 => ?_)
    exact ⟨_, ⟨_, _, rfl⟩, iv_m2e⟩
  obtain ⟨o, ⟨A2, n2, rfl⟩, key⟩ := key
  refine ⟨A2, n2, ?_⟩
  refine iv_Gm 9 (pc2 := 14) (lv2 := [(5, .int 56), (4, .int 1), (3, .int 0), (0, .ref 44), (1, .long e)]) (st2 := []) (w2 := (iv_wd A (iv_uF (iv_uF iv_Fz 603 n) 4400 0) iv_Bz)) rfl ?_
  refine iv_m1f (s := 56) (s2 := 48) (by decide) (by decide) h0 ?_
  refine iv_m1n (s := 48) (s2 := 40) (by decide) (by decide) h1 ?_
  refine iv_m1n (s := 40) (s2 := 32) (by decide) (by decide) h2 ?_
  refine iv_m1n (s := 32) (s2 := 24) (by decide) (by decide) h3 ?_
  refine iv_m1n (s := 24) (s2 := 16) (by decide) (by decide) h4 ?_
  refine iv_m1n (s := 16) (s2 := 8) (by decide) (by decide) h5 ?_
  refine iv_m1n (s := 8) (s2 := 0) (by decide) (by decide) h6 ?_
  refine iv_m1n (s := 0) (s2 := (-8)) (by decide) (by decide) h7 ?_
  exact iv_t12 (iv_c41 b8 (by decide)) key
set_option maxRecDepth 1000000 in
set_option maxHeartbeats 40000000 in
theorem iv_ty0 (e : Int64) (A : Nat → Nat → Int32) (n : Int32) (h : ¬ iv_g8 e) : iv_G L xs d 135 0 [(0, .ref 44), (1, .long e)] [] (iv_wd A (iv_uF iv_Fz 603 n) iv_Bz) true 0 0 (.inl (some (.int 0)), (iv_wd A (iv_uF (iv_uF iv_Fz 603 n) 4400 0) iv_Bz), true, 0, 0) := by
  refine iv_Gm 9 (pc2 := 14) (lv2 := [(5, .int 56), (4, .int 1), (3, .int 0), (0, .ref 44), (1, .long e)]) (st2 := []) (w2 := (iv_wd A (iv_uF (iv_uF iv_Fz 603 n) 4400 0) iv_Bz)) rfl ?_
  by_cases h0 : iv_gd (iv_by e 56)
  case neg =>
    refine iv_m1fb (s := 56) (s2 := 48) (by decide) (by decide) h0 ?_
    refine iv_m1n0 (s := 48) (s2 := 40) (by decide) (by decide) ?_
    refine iv_m1n0 (s := 40) (s2 := 32) (by decide) (by decide) ?_
    refine iv_m1n0 (s := 32) (s2 := 24) (by decide) (by decide) ?_
    refine iv_m1n0 (s := 24) (s2 := 16) (by decide) (by decide) ?_
    refine iv_m1n0 (s := 16) (s2 := 8) (by decide) (by decide) ?_
    refine iv_m1n0 (s := 8) (s2 := 0) (by decide) (by decide) ?_
    refine iv_m1n0 (s := 0) (s2 := (-8)) (by decide) (by decide) ?_
    exact iv_m1e
  refine iv_m1f (s := 56) (s2 := 48) (by decide) (by decide) h0 ?_
  by_cases h1 : iv_gd (iv_by e 48)
  case neg =>
    refine iv_m1nb (s := 48) (s2 := 40) (by decide) (by decide) h1 ?_
    refine iv_m1n0 (s := 40) (s2 := 32) (by decide) (by decide) ?_
    refine iv_m1n0 (s := 32) (s2 := 24) (by decide) (by decide) ?_
    refine iv_m1n0 (s := 24) (s2 := 16) (by decide) (by decide) ?_
    refine iv_m1n0 (s := 16) (s2 := 8) (by decide) (by decide) ?_
    refine iv_m1n0 (s := 8) (s2 := 0) (by decide) (by decide) ?_
    refine iv_m1n0 (s := 0) (s2 := (-8)) (by decide) (by decide) ?_
    exact iv_m1e
  refine iv_m1n (s := 48) (s2 := 40) (by decide) (by decide) h1 ?_
  by_cases h2 : iv_gd (iv_by e 40)
  case neg =>
    refine iv_m1nb (s := 40) (s2 := 32) (by decide) (by decide) h2 ?_
    refine iv_m1n0 (s := 32) (s2 := 24) (by decide) (by decide) ?_
    refine iv_m1n0 (s := 24) (s2 := 16) (by decide) (by decide) ?_
    refine iv_m1n0 (s := 16) (s2 := 8) (by decide) (by decide) ?_
    refine iv_m1n0 (s := 8) (s2 := 0) (by decide) (by decide) ?_
    refine iv_m1n0 (s := 0) (s2 := (-8)) (by decide) (by decide) ?_
    exact iv_m1e
  refine iv_m1n (s := 40) (s2 := 32) (by decide) (by decide) h2 ?_
  by_cases h3 : iv_gd (iv_by e 32)
  case neg =>
    refine iv_m1nb (s := 32) (s2 := 24) (by decide) (by decide) h3 ?_
    refine iv_m1n0 (s := 24) (s2 := 16) (by decide) (by decide) ?_
    refine iv_m1n0 (s := 16) (s2 := 8) (by decide) (by decide) ?_
    refine iv_m1n0 (s := 8) (s2 := 0) (by decide) (by decide) ?_
    refine iv_m1n0 (s := 0) (s2 := (-8)) (by decide) (by decide) ?_
    exact iv_m1e
  refine iv_m1n (s := 32) (s2 := 24) (by decide) (by decide) h3 ?_
  by_cases h4 : iv_gd (iv_by e 24)
  case neg =>
    refine iv_m1nb (s := 24) (s2 := 16) (by decide) (by decide) h4 ?_
    refine iv_m1n0 (s := 16) (s2 := 8) (by decide) (by decide) ?_
    refine iv_m1n0 (s := 8) (s2 := 0) (by decide) (by decide) ?_
    refine iv_m1n0 (s := 0) (s2 := (-8)) (by decide) (by decide) ?_
    exact iv_m1e
  refine iv_m1n (s := 24) (s2 := 16) (by decide) (by decide) h4 ?_
  by_cases h5 : iv_gd (iv_by e 16)
  case neg =>
    refine iv_m1nb (s := 16) (s2 := 8) (by decide) (by decide) h5 ?_
    refine iv_m1n0 (s := 8) (s2 := 0) (by decide) (by decide) ?_
    refine iv_m1n0 (s := 0) (s2 := (-8)) (by decide) (by decide) ?_
    exact iv_m1e
  refine iv_m1n (s := 16) (s2 := 8) (by decide) (by decide) h5 ?_
  by_cases h6 : iv_gd (iv_by e 8)
  case neg =>
    refine iv_m1nb (s := 8) (s2 := 0) (by decide) (by decide) h6 ?_
    refine iv_m1n0 (s := 0) (s2 := (-8)) (by decide) (by decide) ?_
    exact iv_m1e
  refine iv_m1n (s := 8) (s2 := 0) (by decide) (by decide) h6 ?_
  by_cases h7 : iv_gd (iv_by e 0)
  case neg =>
    refine iv_m1nb (s := 0) (s2 := (-8)) (by decide) (by decide) h7 ?_
    exact iv_m1e
  refine iv_m1n (s := 0) (s2 := (-8)) (by decide) (by decide) h7 ?_
  exact absurd ⟨h0, h1, h2, h3, h4, h5, h6, h7⟩ h
end
