/-! type on both sides, on any world -/
def iv_g8 (e : Int64) : Prop := iv_gd (iv_by e 56) ∧ iv_gd (iv_by e 48) ∧ iv_gd (iv_by e 40) ∧ iv_gd (iv_by e 32) ∧ iv_gd (iv_by e 24) ∧ iv_gd (iv_by e 16) ∧ iv_gd (iv_by e 8) ∧ iv_gd (iv_by e 0)
def id_cnt (e : Int64) : Int32 := ((((((((0 + iv_ct (iv_by e 56)) + iv_ct (iv_by e 48)) + iv_ct (iv_by e 40)) + iv_ct (iv_by e 32)) + iv_ct (iv_by e 24)) + iv_ct (iv_by e 16)) + iv_ct (iv_by e 8)) + iv_ct (iv_by e 0))
theorem id_ct (c : Int32) : (c = 0 ∧ (iv_ct c).toInt = 0) ∨ (c ≠ 0 ∧ (iv_ct c).toInt = 1) := by
  unfold iv_ct
  by_cases h : c = 0
  · rw [if_pos h]
    exact Or.inl ⟨h, rfl⟩
  · rw [if_neg h]
    exact Or.inr ⟨h, rfl⟩
theorem id_cu (c : Int32) : 0 ≤ (iv_ct c).toInt ∧ (iv_ct c).toInt ≤ 1 := by
  rcases id_ct c with h | h <;> omega
theorem id_fw {m c : Int32} {j : Int} (h : 0 ≤ m.toInt ∧ m.toInt ≤ j) (hj : j ≤ 60) : 0 ≤ (m + iv_ct c).toInt ∧ (m + iv_ct c).toInt ≤ j + 1 := by
  have := id_cu c
  rw [Int32.toInt_add, ia_bm (by omega) (by omega)]
  omega
theorem id_bk {m c : Int32} (h : 0 ≤ m.toInt ∧ m.toInt ≤ 60) (h2 : (m + iv_ct c).toInt ≤ 40) : (c = 0 ∨ iv_in m 40 = true) ∧ m.toInt ≤ 40 := by
  have h3 := id_cu c
  rw [Int32.toInt_add, ia_bm (by omega) (by omega)] at h2
  refine ⟨?_, by omega⟩
  rcases id_ct c with t | t
  · exact Or.inl t.1
  · exact Or.inr (ia_in_ok h.1 (by omega))
theorem id_le {x : Int32} (h : x < 41) : x.toInt ≤ 40 := by
  rw [Int32.lt_iff_toInt_lt] at h
  have : (41 : Int32).toInt = 41 := rfl
  omega
theorem id_sum (n : Int32) (e : Int64) : ((((((((n + iv_ct (iv_by e 56)) + iv_ct (iv_by e 48)) + iv_ct (iv_by e 40)) + iv_ct (iv_by e 32)) + iv_ct (iv_by e 24)) + iv_ct (iv_by e 16)) + iv_ct (iv_by e 8)) + iv_ct (iv_by e 0)) = n + id_cnt e := by
  unfold id_cnt
  simp only [Int32.add_assoc, Int32.zero_add]
theorem id_add {m c : Int32} {a : Int} (h : m.toInt = a) (h0 : 0 ≤ a) (h1 : a ≤ 60) : (m + iv_ct c).toInt = a + (iv_ct c).toInt := by
  have := id_cu c
  rw [Int32.toInt_add, h]
  exact ia_bm (by omega) (by omega)
theorem id_uF (F : Nat → Int32) (q : Nat) : iv_uF F q (F q) = F := by
  funext i
  unfold iv_uF
  by_cases h : i = q
  · rw [if_pos h, h]
  · rw [if_neg h]
theorem id_uFF (F : Nat → Int32) (q : Nat) (a b : Int32) : iv_uF (iv_uF F q a) q b = iv_uF F q b := by
  funext i
  unfold iv_uF
  by_cases h : i = q
  · rw [if_pos h, if_pos h]
  · rw [if_neg h, if_neg h, if_neg h]
section
variable {L : Nat} {xs : Nat → Int32} {d : Nat} {e : Int64} {A : Nat → Nat → Int32} {F : Nat → Int32} {B : Nat → Int64} {tg : Bool}
set_option maxRecDepth 1000000 in
set_option maxHeartbeats 40000000 in
theorem id_ap1 (h : iv_g8 e) (h0 : 0 ≤ (F 603).toInt) (h40 : (F 603).toInt ≤ 40) (hm : F 603 + id_cnt e < 41) : ∃ A2, id_R 7 A A2 ∧ (F 603 + id_cnt e).toInt ≤ 40 ∧ 0 ≤ (F 603 + id_cnt e).toInt ∧ iv_G L xs d 34 0 [(0, .ref 6), (1, .long e)] [] (iv_wd A F B) tg 0 0 (.inl (some (.int 1)), iv_wd A2 (iv_uF F 603 (F 603 + id_cnt e)) B, tg, 0, 0) := by
  obtain ⟨g0, g1, g2, g3, g4, g5, g6, g7⟩ := h
  have b0 : 0 ≤ (F 603).toInt ∧ (F 603).toInt ≤ 40 := ⟨h0, h40⟩
  have b1 := id_fw (c := (iv_by e 56)) b0 (by decide)
  have b2 := id_fw (c := (iv_by e 48)) b1 (by decide)
  have b3 := id_fw (c := (iv_by e 40)) b2 (by decide)
  have b4 := id_fw (c := (iv_by e 32)) b3 (by decide)
  have b5 := id_fw (c := (iv_by e 24)) b4 (by decide)
  have b6 := id_fw (c := (iv_by e 16)) b5 (by decide)
  have b7 := id_fw (c := (iv_by e 8)) b6 (by decide)
  have b8 := id_fw (c := (iv_by e 0)) b7 (by decide)
  have e8 : (((((((((F 603) + iv_ct (iv_by e 56)) + iv_ct (iv_by e 48)) + iv_ct (iv_by e 40)) + iv_ct (iv_by e 32)) + iv_ct (iv_by e 24)) + iv_ct (iv_by e 16)) + iv_ct (iv_by e 8)) + iv_ct (iv_by e 0)) = F 603 + id_cnt e := id_sum (F 603) e
  have c8 : ((((((((((F 603) + iv_ct (iv_by e 56)) + iv_ct (iv_by e 48)) + iv_ct (iv_by e 40)) + iv_ct (iv_by e 32)) + iv_ct (iv_by e 24)) + iv_ct (iv_by e 16)) + iv_ct (iv_by e 8)) + iv_ct (iv_by e 0))).toInt ≤ 40 := by
    rw [e8]
    exact id_le hm
  have k7 := id_bk (c := (iv_by e 0)) ⟨b7.1, Int.le_trans b7.2 (by decide)⟩ c8
  have k6 := id_bk (c := (iv_by e 8)) ⟨b6.1, Int.le_trans b6.2 (by decide)⟩ k7.2
  have k5 := id_bk (c := (iv_by e 16)) ⟨b5.1, Int.le_trans b5.2 (by decide)⟩ k6.2
  have k4 := id_bk (c := (iv_by e 24)) ⟨b4.1, Int.le_trans b4.2 (by decide)⟩ k5.2
  have k3 := id_bk (c := (iv_by e 32)) ⟨b3.1, Int.le_trans b3.2 (by decide)⟩ k4.2
  have k2 := id_bk (c := (iv_by e 40)) ⟨b2.1, Int.le_trans b2.2 (by decide)⟩ k3.2
  have k1 := id_bk (c := (iv_by e 48)) ⟨b1.1, Int.le_trans b1.2 (by decide)⟩ k2.2
  have k0 := id_bk (c := (iv_by e 56)) ⟨b0.1, Int.le_trans b0.2 (by decide)⟩ k1.2
  have key : ∃ o, (∃ A2, id_R 7 A A2 ∧ o = (Sum.inl (some (Value.int 1)), iv_wd A2 (iv_uF F 603 (((((((((F 603) + iv_ct (iv_by e 56)) + iv_ct (iv_by e 48)) + iv_ct (iv_by e 40)) + iv_ct (iv_by e 32)) + iv_ct (iv_by e 24)) + iv_ct (iv_by e 16)) + iv_ct (iv_by e 8)) + iv_ct (iv_by e 0))) B, tg, 0, 0)) ∧ iv_G L xs d 34 79 [(4, .int 56), (3, .int ((((((((0 + iv_ct (iv_by e 56)) + iv_ct (iv_by e 48)) + iv_ct (iv_by e 40)) + iv_ct (iv_by e 32)) + iv_ct (iv_by e 24)) + iv_ct (iv_by e 16)) + iv_ct (iv_by e 8)) + iv_ct (iv_by e 0))), (5, .int (iv_by e 0)), (0, .ref 6), (1, .long e)] [] (iv_wd A (iv_uF F 603 (F 603)) B) tg 0 0 o := by
    refine iv_a2f (s := 56) (s2 := 48) (by decide) (by decide) k0.1 (fun A1 r1 => ?_)
    refine iv_a2n (s := 48) (s2 := 40) (by decide) (by decide) k1.1 (fun A2 r2 => ?_)
    refine iv_a2n (s := 40) (s2 := 32) (by decide) (by decide) k2.1 (fun A3 r3 => ?_)
    refine iv_a2n (s := 32) (s2 := 24) (by decide) (by decide) k3.1 (fun A4 r4 => ?_)
    refine iv_a2n (s := 24) (s2 := 16) (by decide) (by decide) k4.1 (fun A5 r5 => ?_)
    refine iv_a2n (s := 16) (s2 := 8) (by decide) (by decide) k5.1 (fun A6 r6 => ?_)
    refine iv_a2n (s := 8) (s2 := 0) (by decide) (by decide) k6.1 (fun A7 r7 => ?_)
    refine iv_a2n (s := 0) (s2 := (-8)) (by decide) (by decide) k7.1 (fun A8 r8 => ?_)
    exact ⟨_, ⟨_, (id_R_trans (id_R_trans (id_R_trans (id_R_trans (id_R_trans (id_R_trans (id_R_trans r1 r2) r3) r4) r5) r6) r7) r8), rfl⟩, iv_a2e⟩
  obtain ⟨o, ⟨A2, hR, rfl⟩, key⟩ := key
  rw [← e8]
  refine ⟨A2, hR, c8, b8.1, ?_⟩
  refine iv_Gm 4 (pc2 := 6) (lv2 := [(4, .int 56), (3, .int 0), (0, .ref 6), (1, .long e)]) (st2 := []) (w2 := (iv_wd A F B)) rfl ?_
  refine iv_a1f (s := 56) (s2 := 48) (by decide) (by decide) g0 ?_
  refine iv_a1n (s := 48) (s2 := 40) (by decide) (by decide) g1 ?_
  refine iv_a1n (s := 40) (s2 := 32) (by decide) (by decide) g2 ?_
  refine iv_a1n (s := 32) (s2 := 24) (by decide) (by decide) g3 ?_
  refine iv_a1n (s := 24) (s2 := 16) (by decide) (by decide) g4 ?_
  refine iv_a1n (s := 16) (s2 := 8) (by decide) (by decide) g5 ?_
  refine iv_a1n (s := 8) (s2 := 0) (by decide) (by decide) g6 ?_
  refine iv_a1n (s := 0) (s2 := (-8)) (by decide) (by decide) g7 ?_
  rw [id_uF] at key
  exact iv_a12 hm key
set_option maxRecDepth 1000000 in
set_option maxHeartbeats 40000000 in
theorem id_ty1 (h : iv_g8 e) (h0 : 0 ≤ (F 4401).toInt) (h40 : (F 4401).toInt ≤ 40) (hm : F 4401 + id_cnt e < 41) : ∃ A2, id_R 45 A A2 ∧ (F 4401 + id_cnt e).toInt ≤ 40 ∧ 0 ≤ (F 4401 + id_cnt e).toInt ∧ iv_G L xs d 134 0 [(0, .ref 44), (1, .long e)] [] (iv_wd A F B) tg 0 0 (.inl (some (.int 1)), iv_wd A2 (iv_uF (iv_uF F 4400 0) 4401 (F 4401 + id_cnt e)) B, tg, 0, 0) := by
  obtain ⟨g0, g1, g2, g3, g4, g5, g6, g7⟩ := h
  have b0 : 0 ≤ (F 4401).toInt ∧ (F 4401).toInt ≤ 40 := ⟨h0, h40⟩
  have b1 := id_fw (c := (iv_by e 56)) b0 (by decide)
  have b2 := id_fw (c := (iv_by e 48)) b1 (by decide)
  have b3 := id_fw (c := (iv_by e 40)) b2 (by decide)
  have b4 := id_fw (c := (iv_by e 32)) b3 (by decide)
  have b5 := id_fw (c := (iv_by e 24)) b4 (by decide)
  have b6 := id_fw (c := (iv_by e 16)) b5 (by decide)
  have b7 := id_fw (c := (iv_by e 8)) b6 (by decide)
  have b8 := id_fw (c := (iv_by e 0)) b7 (by decide)
  have e8 : (((((((((F 4401) + iv_ct (iv_by e 56)) + iv_ct (iv_by e 48)) + iv_ct (iv_by e 40)) + iv_ct (iv_by e 32)) + iv_ct (iv_by e 24)) + iv_ct (iv_by e 16)) + iv_ct (iv_by e 8)) + iv_ct (iv_by e 0)) = F 4401 + id_cnt e := id_sum (F 4401) e
  have c8 : ((((((((((F 4401) + iv_ct (iv_by e 56)) + iv_ct (iv_by e 48)) + iv_ct (iv_by e 40)) + iv_ct (iv_by e 32)) + iv_ct (iv_by e 24)) + iv_ct (iv_by e 16)) + iv_ct (iv_by e 8)) + iv_ct (iv_by e 0))).toInt ≤ 40 := by
    rw [e8]
    exact id_le hm
  have k7 := id_bk (c := (iv_by e 0)) ⟨b7.1, Int.le_trans b7.2 (by decide)⟩ c8
  have k6 := id_bk (c := (iv_by e 8)) ⟨b6.1, Int.le_trans b6.2 (by decide)⟩ k7.2
  have k5 := id_bk (c := (iv_by e 16)) ⟨b5.1, Int.le_trans b5.2 (by decide)⟩ k6.2
  have k4 := id_bk (c := (iv_by e 24)) ⟨b4.1, Int.le_trans b4.2 (by decide)⟩ k5.2
  have k3 := id_bk (c := (iv_by e 32)) ⟨b3.1, Int.le_trans b3.2 (by decide)⟩ k4.2
  have k2 := id_bk (c := (iv_by e 40)) ⟨b2.1, Int.le_trans b2.2 (by decide)⟩ k3.2
  have k1 := id_bk (c := (iv_by e 48)) ⟨b1.1, Int.le_trans b1.2 (by decide)⟩ k2.2
  have k0 := id_bk (c := (iv_by e 56)) ⟨b0.1, Int.le_trans b0.2 (by decide)⟩ k1.2
  have key : ∃ o, (∃ A2, id_R 45 A A2 ∧ o = (Sum.inl (some (Value.int 1)), iv_wd A2 (iv_uF (iv_uF F 4400 0) 4401 (((((((((F 4401) + iv_ct (iv_by e 56)) + iv_ct (iv_by e 48)) + iv_ct (iv_by e 40)) + iv_ct (iv_by e 32)) + iv_ct (iv_by e 24)) + iv_ct (iv_by e 16)) + iv_ct (iv_by e 8)) + iv_ct (iv_by e 0))) B, tg, 0, 0)) ∧ iv_G L xs d 134 102 [(5, .int 56), (3, .int ((((((((0 + iv_ct (iv_by e 56)) + iv_ct (iv_by e 48)) + iv_ct (iv_by e 40)) + iv_ct (iv_by e 32)) + iv_ct (iv_by e 24)) + iv_ct (iv_by e 16)) + iv_ct (iv_by e 8)) + iv_ct (iv_by e 0))), (4, .int 1), (6, .int (iv_by e 0)), (0, .ref 44), (1, .long e)] [] (iv_wd A (iv_uF (iv_uF F 4400 0) 4401 (F 4401)) B) tg 0 0 o := by
    refine iv_m2f (s := 56) (s2 := 48) (by decide) (by decide) k0.1 (fun A1 r1 => ?_)
    refine iv_m2n (s := 48) (s2 := 40) (by decide) (by decide) k1.1 (fun A2 r2 => ?_)
    refine iv_m2n (s := 40) (s2 := 32) (by decide) (by decide) k2.1 (fun A3 r3 => ?_)
    refine iv_m2n (s := 32) (s2 := 24) (by decide) (by decide) k3.1 (fun A4 r4 => ?_)
    refine iv_m2n (s := 24) (s2 := 16) (by decide) (by decide) k4.1 (fun A5 r5 => ?_)
    refine iv_m2n (s := 16) (s2 := 8) (by decide) (by decide) k5.1 (fun A6 r6 => ?_)
    refine iv_m2n (s := 8) (s2 := 0) (by decide) (by decide) k6.1 (fun A7 r7 => ?_)
    refine iv_m2n (s := 0) (s2 := (-8)) (by decide) (by decide) k7.1 (fun A8 r8 => ?_)
    exact ⟨_, ⟨_, (id_R_trans (id_R_trans (id_R_trans (id_R_trans (id_R_trans (id_R_trans (id_R_trans r1 r2) r3) r4) r5) r6) r7) r8), rfl⟩, iv_m2e⟩
  obtain ⟨o, ⟨A2, hR, rfl⟩, key⟩ := key
  rw [← e8]
  refine ⟨A2, hR, c8, b8.1, ?_⟩
  refine iv_Gm 9 (pc2 := 14) (lv2 := [(5, .int 56), (4, .int 1), (3, .int 0), (0, .ref 44), (1, .long e)]) (st2 := []) (w2 := (iv_wd A (iv_uF F 4400 0) B)) rfl ?_
  refine iv_m1f (s := 56) (s2 := 48) (by decide) (by decide) g0 ?_
  refine iv_m1n (s := 48) (s2 := 40) (by decide) (by decide) g1 ?_
  refine iv_m1n (s := 40) (s2 := 32) (by decide) (by decide) g2 ?_
  refine iv_m1n (s := 32) (s2 := 24) (by decide) (by decide) g3 ?_
  refine iv_m1n (s := 24) (s2 := 16) (by decide) (by decide) g4 ?_
  refine iv_m1n (s := 16) (s2 := 8) (by decide) (by decide) g5 ?_
  refine iv_m1n (s := 8) (s2 := 0) (by decide) (by decide) g6 ?_
  refine iv_m1n (s := 0) (s2 := (-8)) (by decide) (by decide) g7 ?_
  rw [show iv_uF (iv_uF F 4400 0) 4401 (F 4401) = iv_uF F 4400 0 from id_uF (iv_uF F 4400 0) 4401] at key
  exact iv_t12 (F := iv_uF F 4400 0) hm key
set_option maxRecDepth 1000000 in
set_option maxHeartbeats 40000000 in
theorem id_ap2 (h : iv_g8 e) (hm : ¬ F 603 + id_cnt e < 41) : iv_G L xs d 34 0 [(0, .ref 6), (1, .long e)] [] (iv_wd A F B) tg 0 0 (.inl (some (.int 0)), (iv_wd A F B), tg, 0, 0) := by
  obtain ⟨g0, g1, g2, g3, g4, g5, g6, g7⟩ := h
  refine iv_Gm 4 (pc2 := 6) (lv2 := [(4, .int 56), (3, .int 0), (0, .ref 6), (1, .long e)]) (st2 := []) (w2 := (iv_wd A F B)) rfl ?_
  refine iv_a1f (s := 56) (s2 := 48) (by decide) (by decide) g0 ?_
  refine iv_a1n (s := 48) (s2 := 40) (by decide) (by decide) g1 ?_
  refine iv_a1n (s := 40) (s2 := 32) (by decide) (by decide) g2 ?_
  refine iv_a1n (s := 32) (s2 := 24) (by decide) (by decide) g3 ?_
  refine iv_a1n (s := 24) (s2 := 16) (by decide) (by decide) g4 ?_
  refine iv_a1n (s := 16) (s2 := 8) (by decide) (by decide) g5 ?_
  refine iv_a1n (s := 8) (s2 := 0) (by decide) (by decide) g6 ?_
  refine iv_a1n (s := 0) (s2 := (-8)) (by decide) (by decide) g7 ?_
  exact iv_a12b hm
set_option maxRecDepth 1000000 in
set_option maxHeartbeats 40000000 in
theorem id_ty2 (h : iv_g8 e) (hm : ¬ F 4401 + id_cnt e < 41) : iv_G L xs d 134 0 [(0, .ref 44), (1, .long e)] [] (iv_wd A F B) tg 0 0 (.inl (some (.int 0)), (iv_wd A (iv_uF F 4400 0) B), tg, 0, 0) := by
  obtain ⟨g0, g1, g2, g3, g4, g5, g6, g7⟩ := h
  refine iv_Gm 9 (pc2 := 14) (lv2 := [(5, .int 56), (4, .int 1), (3, .int 0), (0, .ref 44), (1, .long e)]) (st2 := []) (w2 := (iv_wd A (iv_uF F 4400 0) B)) rfl ?_
  refine iv_m1f (s := 56) (s2 := 48) (by decide) (by decide) g0 ?_
  refine iv_m1n (s := 48) (s2 := 40) (by decide) (by decide) g1 ?_
  refine iv_m1n (s := 40) (s2 := 32) (by decide) (by decide) g2 ?_
  refine iv_m1n (s := 32) (s2 := 24) (by decide) (by decide) g3 ?_
  refine iv_m1n (s := 24) (s2 := 16) (by decide) (by decide) g4 ?_
  refine iv_m1n (s := 16) (s2 := 8) (by decide) (by decide) g5 ?_
  refine iv_m1n (s := 8) (s2 := 0) (by decide) (by decide) g6 ?_
  refine iv_m1n (s := 0) (s2 := (-8)) (by decide) (by decide) g7 ?_
  exact iv_t12b (F := iv_uF F 4400 0) hm
set_option maxRecDepth 1000000 in
set_option maxHeartbeats 40000000 in
theorem id_ap0 (h : ¬ iv_g8 e) : iv_G L xs d 34 0 [(0, .ref 6), (1, .long e)] [] (iv_wd A F B) tg 0 0 (.inl (some (.int 0)), (iv_wd A F B), tg, 0, 0) := by
  refine iv_Gm 4 (pc2 := 6) (lv2 := [(4, .int 56), (3, .int 0), (0, .ref 6), (1, .long e)]) (st2 := []) (w2 := (iv_wd A F B)) rfl ?_
  by_cases h0 : iv_gd (iv_by e 56)
  case neg => exact iv_a1fb (s := 56) rfl (by decide) h0
  refine iv_a1f (s := 56) (s2 := 48) (by decide) (by decide) h0 ?_
  by_cases h1 : iv_gd (iv_by e 48)
  case neg => exact iv_a1nb (s := 48) rfl (by decide) h1
  refine iv_a1n (s := 48) (s2 := 40) (by decide) (by decide) h1 ?_
  by_cases h2 : iv_gd (iv_by e 40)
  case neg => exact iv_a1nb (s := 40) rfl (by decide) h2
  refine iv_a1n (s := 40) (s2 := 32) (by decide) (by decide) h2 ?_
  by_cases h3 : iv_gd (iv_by e 32)
  case neg => exact iv_a1nb (s := 32) rfl (by decide) h3
  refine iv_a1n (s := 32) (s2 := 24) (by decide) (by decide) h3 ?_
  by_cases h4 : iv_gd (iv_by e 24)
  case neg => exact iv_a1nb (s := 24) rfl (by decide) h4
  refine iv_a1n (s := 24) (s2 := 16) (by decide) (by decide) h4 ?_
  by_cases h5 : iv_gd (iv_by e 16)
  case neg => exact iv_a1nb (s := 16) rfl (by decide) h5
  refine iv_a1n (s := 16) (s2 := 8) (by decide) (by decide) h5 ?_
  by_cases h6 : iv_gd (iv_by e 8)
  case neg => exact iv_a1nb (s := 8) rfl (by decide) h6
  refine iv_a1n (s := 8) (s2 := 0) (by decide) (by decide) h6 ?_
  by_cases h7 : iv_gd (iv_by e 0)
  case neg => exact iv_a1nb (s := 0) rfl (by decide) h7
  refine iv_a1n (s := 0) (s2 := (-8)) (by decide) (by decide) h7 ?_
  exact absurd ⟨h0, h1, h2, h3, h4, h5, h6, h7⟩ h
set_option maxRecDepth 1000000 in
set_option maxHeartbeats 40000000 in
theorem id_ty0 (h : ¬ iv_g8 e) : iv_G L xs d 134 0 [(0, .ref 44), (1, .long e)] [] (iv_wd A F B) tg 0 0 (.inl (some (.int 0)), (iv_wd A (iv_uF F 4400 0) B), tg, 0, 0) := by
  refine iv_Gm 9 (pc2 := 14) (lv2 := [(5, .int 56), (4, .int 1), (3, .int 0), (0, .ref 44), (1, .long e)]) (st2 := []) (w2 := (iv_wd A (iv_uF F 4400 0) B)) rfl ?_
  by_cases h0 : iv_gd (iv_by e 56)
  case neg =>
    refine iv_m1fb (s := 56) (s2 := 48) (by decide) (by decide) h0 ?_
    refine iv_m1n0 (s := 48) (s2 := 40) (by decide) (by decide) ?_
    refine iv_m1n0 (s := 40) (s2 := 32) (by decide) (by decide) ?_
    refine iv_m1n0 (s := 32) (s2 := 24) (by decide) (by decide) ?_
    refine iv_m1n0 (s := 24) (s2 := 16) (by decide) (by decide) ?_
    refine iv_m1n0 (s := 16) (s2 := 8) (by decide) (by decide) ?_
    refine iv_m1n0 (s := 8) (s2 := 0) (by decide) (by decide) ?_
    refine iv_m1n0 (s := 0) (s2 := (-8)) (by decide) (by decide) ?_
    exact iv_m1e
  refine iv_m1f (s := 56) (s2 := 48) (by decide) (by decide) h0 ?_
  by_cases h1 : iv_gd (iv_by e 48)
  case neg =>
    refine iv_m1nb (s := 48) (s2 := 40) (by decide) (by decide) h1 ?_
    refine iv_m1n0 (s := 40) (s2 := 32) (by decide) (by decide) ?_
    refine iv_m1n0 (s := 32) (s2 := 24) (by decide) (by decide) ?_
    refine iv_m1n0 (s := 24) (s2 := 16) (by decide) (by decide) ?_
    refine iv_m1n0 (s := 16) (s2 := 8) (by decide) (by decide) ?_
    refine iv_m1n0 (s := 8) (s2 := 0) (by decide) (by decide) ?_
    refine iv_m1n0 (s := 0) (s2 := (-8)) (by decide) (by decide) ?_
    exact iv_m1e
  refine iv_m1n (s := 48) (s2 := 40) (by decide) (by decide) h1 ?_
  by_cases h2 : iv_gd (iv_by e 40)
  case neg =>
    refine iv_m1nb (s := 40) (s2 := 32) (by decide) (by decide) h2 ?_
    refine iv_m1n0 (s := 32) (s2 := 24) (by decide) (by decide) ?_
    refine iv_m1n0 (s := 24) (s2 := 16) (by decide) (by decide) ?_
    refine iv_m1n0 (s := 16) (s2 := 8) (by decide) (by decide) ?_
    refine iv_m1n0 (s := 8) (s2 := 0) (by decide) (by decide) ?_
    refine iv_m1n0 (s := 0) (s2 := (-8)) (by decide) (by decide) ?_
    exact iv_m1e
  refine iv_m1n (s := 40) (s2 := 32) (by decide) (by decide) h2 ?_
  by_cases h3 : iv_gd (iv_by e 32)
  case neg =>
    refine iv_m1nb (s := 32) (s2 := 24) (by decide) (by decide) h3 ?_
    refine iv_m1n0 (s := 24) (s2 := 16) (by decide) (by decide) ?_
    refine iv_m1n0 (s := 16) (s2 := 8) (by decide) (by decide) ?_
    refine iv_m1n0 (s := 8) (s2 := 0) (by decide) (by decide) ?_
    refine iv_m1n0 (s := 0) (s2 := (-8)) (by decide) (by decide) ?_
    exact iv_m1e
  refine iv_m1n (s := 32) (s2 := 24) (by decide) (by decide) h3 ?_
  by_cases h4 : iv_gd (iv_by e 24)
  case neg =>
    refine iv_m1nb (s := 24) (s2 := 16) (by decide) (by decide) h4 ?_
    refine iv_m1n0 (s := 16) (s2 := 8) (by decide) (by decide) ?_
    refine iv_m1n0 (s := 8) (s2 := 0) (by decide) (by decide) ?_
    refine iv_m1n0 (s := 0) (s2 := (-8)) (by decide) (by decide) ?_
    exact iv_m1e
  refine iv_m1n (s := 24) (s2 := 16) (by decide) (by decide) h4 ?_
  by_cases h5 : iv_gd (iv_by e 16)
  case neg =>
    refine iv_m1nb (s := 16) (s2 := 8) (by decide) (by decide) h5 ?_
    refine iv_m1n0 (s := 8) (s2 := 0) (by decide) (by decide) ?_
    refine iv_m1n0 (s := 0) (s2 := (-8)) (by decide) (by decide) ?_
    exact iv_m1e
  refine iv_m1n (s := 16) (s2 := 8) (by decide) (by decide) h5 ?_
  by_cases h6 : iv_gd (iv_by e 8)
  case neg =>
    refine iv_m1nb (s := 8) (s2 := 0) (by decide) (by decide) h6 ?_
    refine iv_m1n0 (s := 0) (s2 := (-8)) (by decide) (by decide) ?_
    exact iv_m1e
  refine iv_m1n (s := 8) (s2 := 0) (by decide) (by decide) h6 ?_
  by_cases h7 : iv_gd (iv_by e 0)
  case neg =>
    refine iv_m1nb (s := 0) (s2 := (-8)) (by decide) (by decide) h7 ?_
    exact iv_m1e
  refine iv_m1n (s := 0) (s2 := (-8)) (by decide) (by decide) h7 ?_
  exact absurd ⟨h0, h1, h2, h3, h4, h5, h6, h7⟩ h
end
