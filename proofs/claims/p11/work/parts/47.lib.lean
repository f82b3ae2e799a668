/-! the library's three -/
theorem ia_cs_ok {E : Nat → Int32} : ∀ {r : List ia_V} {s : List Value}, ia_sk E r s → (s.map fun v => v.category).sum = ia_cs r
  | [], [], _ => rfl
  | a :: r, v :: s, h => by
    simp only [List.map_cons, List.sum_cons, ia_cs]
    rw [ia_cs_ok h.2]
    congr 1
    have h1 := h.1
    cases a using ia_Vc <;> cases v <;> first | rfl | exact h1.elim
  | [], _ :: _, h => h.elim
  | _ :: _, [], h => h.elim
section
variable {x : Nat} {S : ia_S} {Ss : List ia_S} {lv : List (Nat × Value)} {st : List Value} {A : Nat → Nat → Int32} {F g : Nat → Int32} {B : Nat → Int64} {md : List Nat} {am : List (Nat × Nat × Nat)}
theorem ia_cp_ok (hok : ia_ok S lv st A F g) {n dp sp : ia_I} {ds ss : List Nat} {r : List ia_V} {s : List Value} {vn vd vs : Int32} {d a0 : Nat} (hn : ia_ii (ia_ev lv A F g) n vn) (hd : ia_ii (ia_ev lv A F g) dp vd) (hs : ia_ii (ia_ev lv A F g) sp vs) (hda : d ∈ ds) (hsa : a0 ∈ ss) (hr : ia_sk (ia_ev lv A F g) r s)
    (c0 : 0 ≤ n.1) (c1 : 0 ≤ dp.1) (c2 : 0 ≤ sp.1) (hc : ds.all (ia_cpd am n dp sp ss) = true) :
    ∃ n0 n1, iv_ai (ia_wd A F B) a0 0 = some (n0, A a0) ∧ iv_ai (ia_wd A F B) d 0 = some (n1, A d) ∧ (¬ vs < 0 ∧ ¬ vd < 0 ∧ ¬ vn < 0 ∧ vs.toNatClampNeg + vn.toNatClampNeg ≤ n0 ∧ vd.toNatClampNeg + vn.toNatClampNeg ≤ n1) ∧
      ia_res (some (S.1 + 3, lv, s, (ia_wd A F B).set (d - 1) (.inl (0, n1, .inl (va_cpy (A a0) (A d) vs.toNatClampNeg vd.toNatClampNeg vn.toNatClampNeg))))) [⟨S.1 + 3, ia_drp (ia_cpp ds) S.2.1, r.map (ia_rv (ia_fp (ia_cpp ds))), S.2.2.2.1, S.2.2.2.2⟩] S.2.2.2.1 A F g md am := by
  have h1 := List.all_eq_true.mp hc d hda
  unfold ia_cpd at h1
  split at h1
  · next n1 e1 =>
    rw [Bool.and_eq_true, Bool.and_eq_true, Bool.and_eq_true, Bool.and_eq_true, Bool.and_eq_true, decide_eq_true_eq] at h1
    obtain ⟨⟨⟨⟨⟨k1, -⟩, k2⟩, k3⟩, k4⟩, k5⟩ := h1
    have h2 := List.all_eq_true.mp k5 a0 hsa
    unfold ia_cps at h2
    split at h2
    · next n0 e0 =>
      rw [Bool.and_eq_true, Bool.and_eq_true, Bool.and_eq_true, decide_eq_true_eq, decide_eq_true_eq, decide_eq_true_eq] at h2
      obtain ⟨⟨⟨q1, q2⟩, q3⟩, q4⟩ := h2
      rw [Bool.not_eq_true'] at k2 k3 q4
      have k3 := ia_bne k3
      have q4 := ia_bne q4
      have a1 := hn.1
      have a2 := hn.2.1
      have a3 := hd.1
      have a4 := hd.2.1
      have a5 := hs.1
      have a6 := hs.2.1
      have l0 := ia_an_lt e0
      have l1 := ia_an_lt e1
      have z0 : (0 : Int32).toInt = 0 := rfl
      obtain ⟨kd, rfl, w1, w2⟩ := ia_an_ok (A := A) (F := F) (B := B) e1
      obtain ⟨ks, rfl, w3, w4⟩ := ia_an_ok (A := A) (F := F) (B := B) e0
      refine ⟨n0, n1, w4, w2, ⟨by rw [Int32.lt_iff_toInt_lt]; omega, by rw [Int32.lt_iff_toInt_lt]; omega, by rw [Int32.lt_iff_toInt_lt]; omega, by rw [ia_tn, ia_tn]; omega, by rw [ia_tn, ia_tn]; omega⟩, ?_⟩
      rw [Nat.add_sub_cancel, ia_set_arr w1]
      rw [ia_tn, ia_tn, ia_tn]
      have hra : ∀ a j, a ≠ 52 → ia_ra a j = ia_gr a ia_ral := fun a j ha => by
        unfold ia_ra
        cases hb : Nat.beq a 52 with
        | true => exact (ha (Nat.eq_of_beq_eq_true hb)).elim
        | false => rfl
      have hel : ∀ a j, j < 10000 → (ia_ra a j).1 ≤ (A a j).toInt ∧ (A a j).toInt ≤ (ia_ra a j).2 := fun a j hj => by
        have h4 := hok.2.2.1 (10000 * (a + 1) + j) (by omega)
        rwa [ia_df_a hj, ia_w_ev lv g (by omega), ia_ev_a hj] at h4
      have hin : ia_inv (ia_uC A (kd + 1) (va_cpy (A (ks + 1)) (A (kd + 1)) vs.toInt.toNat vd.toInt.toNat vn.toInt.toNat)) F S.2.2.2.2 := by
        refine ia_inv_C hok.2.2 k2 (fun j hj => ?_)
        unfold va_cpy
        split
        · next hj2 =>
          have h5 := hel (ks + 1) (vs.toInt.toNat + (j - vd.toInt.toNat)) (by omega)
          rw [hra _ _ q4] at h5
          rw [hra _ _ k3]
          omega
        · exact hel _ j hj
      have hw : ∀ m, ia_cpp ds m = false → ia_ev lv (ia_uC A (kd + 1) (va_cpy (A (ks + 1)) (A (kd + 1)) vs.toInt.toNat vd.toInt.toNat vn.toInt.toNat)) F g m = ia_ev lv A F g m := fun m hm => by
        rw [ia_ev_C]
        split
        · next e =>
          have : ia_cpp ds m = true := by
            unfold ia_cpp
            rw [Bool.and_eq_true, List.any_eq_true]
            exact ⟨Nat.ble_eq_true_of_le e.1, kd + 1, hda, by rw [e.2]; exact Nat.beq_refl _⟩
          rw [this] at hm
          cases hm
        · rfl
      have hfr : ia_fr md am A F (ia_uC A (kd + 1) (va_cpy (A (ks + 1)) (A (kd + 1)) vs.toInt.toNat vd.toInt.toNat vn.toInt.toNat)) F := by
        refine ⟨fun _ _ => rfl, fun b i hb hi => ?_⟩
        unfold ia_uC
        by_cases e : b = kd + 1
        · subst e
          rw [if_pos rfl]
          unfold va_cpy
          split
          · next hj2 =>
            unfold ia_cov at k4
            rw [hb, Bool.not_true, Bool.false_or, List.any_eq_true] at k4
            obtain ⟨t, ht, hc⟩ := k4
            rw [Bool.and_eq_true, Bool.and_eq_true] at hc
            have u1 := Nat.eq_of_beq_eq_true hc.1.1
            have u2 := Nat.le_of_ble_eq_true hc.1.2
            have u3 := Nat.le_of_ble_eq_true hc.2
            exact (hi t ht u1 ⟨by omega, by omega⟩).elim
          · rfl
        · rw [if_neg e]
      exact ⟨_, List.mem_singleton.mpr rfl, lv, s, _, F, B, rfl, ⟨ia_drp_ok hok.1 hw, ia_sk_rv (ia_fp_ok hw) hr, hin⟩, rfl, hfr⟩
    · cases h2
  · cases h1
theorem ia_lib_ok (hok : ia_ok S lv st A F g) (h : ia_lib am x S = some Ss) : ∃ st2 w2, iv_lib x st (ia_wd A F B) = some (st2, w2) ∧ ia_res (some (S.1 + 3, lv, st2, w2)) Ss S.2.2.2.1 A F g md am := by
  unfold ia_lib at h
  split at h
  · next z y r e =>
    have hk := hok.2.1
    rw [e] at hk
    obtain ⟨b, s1, rfl, hb, hk1⟩ := ia_sk_i hk
    obtain ⟨a, s2, rfl, ha, hk2⟩ := ia_sk_i hk1
    cases hc : Nat.ble (ia_cs r) 8 with
    | false => rw [hc] at h; cases h
    | true =>
      rw [hc] at h
      cases h
      have h8 : (s2.map fun v => v.category).sum ≤ 8 := by rw [ia_cs_ok hk2]; exact Nat.le_of_ble_eq_true hc
      refine ⟨.int (if a < b then b else a) :: s2, ia_wd A F B, ?_, ?_⟩
      · simp only [iv_lib, iv_p2]
        rw [if_pos h8]
      · by_cases hlt : a < b
        · rw [if_pos hlt]
          rw [Int32.lt_iff_toInt_lt] at hlt
          obtain ⟨v2, x2, y2, e2, k1, -, k3⟩ := ia_lt_ok hok.1 hok.2.2 ha hb hlt
          exact ⟨⟨S.1 + 3, v2, .inl y2 :: r, S.2.2.2.1, S.2.2.2.2⟩, List.mem_append.mpr (Or.inl (by rw [e2]; exact List.mem_singleton.mpr rfl)), lv, _, A, F, B, rfl, ⟨k1, ⟨k3, hk2⟩, hok.2.2⟩, rfl, ia_fr_refl⟩
        · rw [if_neg hlt]
          rw [Int32.lt_iff_toInt_lt] at hlt
          obtain ⟨v2, x2, y2, e2, k1, -, k3⟩ := ia_le_ok hok.1 hok.2.2 hb ha (by omega)
          exact ⟨⟨S.1 + 3, v2, .inl y2 :: r, S.2.2.2.1, S.2.2.2.2⟩, List.mem_append.mpr (Or.inr (by rw [e2]; exact List.mem_singleton.mpr rfl)), lv, _, A, F, B, rfl, ⟨k1, ⟨k3, hk2⟩, hok.2.2⟩, rfl, ia_fr_refl⟩
  · next z y r e =>
    have hk := hok.2.1
    rw [e] at hk
    obtain ⟨b, s1, rfl, hb, hk1⟩ := ia_sk_i hk
    obtain ⟨a, s2, rfl, ha, hk2⟩ := ia_sk_i hk1
    cases hc : Nat.ble (ia_cs r) 8 with
    | false => rw [hc] at h; cases h
    | true =>
      rw [hc] at h
      cases h
      have h8 : (s2.map fun v => v.category).sum ≤ 8 := by rw [ia_cs_ok hk2]; exact Nat.le_of_ble_eq_true hc
      refine ⟨.int (if b < a then b else a) :: s2, ia_wd A F B, ?_, ?_⟩
      · simp only [iv_lib, iv_p2]
        rw [if_pos h8]
      · by_cases hlt : b < a
        · rw [if_pos hlt]
          rw [Int32.lt_iff_toInt_lt] at hlt
          obtain ⟨v2, x2, y2, e2, k1, k2, -⟩ := ia_lt_ok hok.1 hok.2.2 hb ha hlt
          exact ⟨⟨S.1 + 3, v2, .inl x2 :: r, S.2.2.2.1, S.2.2.2.2⟩, List.mem_append.mpr (Or.inl (by rw [e2]; exact List.mem_singleton.mpr rfl)), lv, _, A, F, B, rfl, ⟨k1, ⟨k2, hk2⟩, hok.2.2⟩, rfl, ia_fr_refl⟩
        · rw [if_neg hlt]
          rw [Int32.lt_iff_toInt_lt] at hlt
          obtain ⟨v2, x2, y2, e2, k1, k2, -⟩ := ia_le_ok hok.1 hok.2.2 ha hb (by omega)
          exact ⟨⟨S.1 + 3, v2, .inl x2 :: r, S.2.2.2.1, S.2.2.2.2⟩, List.mem_append.mpr (Or.inr (by rw [e2]; exact List.mem_singleton.mpr rfl)), lv, _, A, F, B, rfl, ⟨k1, ⟨k2, hk2⟩, hok.2.2⟩, rfl, ia_fr_refl⟩
  · next n dp ds sp ss r e =>
    have hk := hok.2.1
    rw [e] at hk
    obtain ⟨vn, s1, rfl, hn, hk1⟩ := ia_sk_i hk
    obtain ⟨vd, s2, rfl, hd, hk2⟩ := ia_sk_i hk1
    obtain ⟨d, s3, rfl, hda, hk3⟩ := ia_sk_r hk2
    obtain ⟨vs, s4, rfl, hs, hk4⟩ := ia_sk_i hk3
    obtain ⟨a0, s5, rfl, hsa, hk5⟩ := ia_sk_r hk4
    cases hc : (Nat.ble (ia_cs r) 8 && decide (0 ≤ n.1) && decide (0 ≤ dp.1) && decide (0 ≤ sp.1) && ds.all (ia_cpd am n dp sp ss)) with
    | false => rw [hc] at h; cases h
    | true =>
      rw [hc] at h
      cases h
      rw [Bool.and_eq_true, Bool.and_eq_true, Bool.and_eq_true, Bool.and_eq_true, decide_eq_true_eq, decide_eq_true_eq, decide_eq_true_eq] at hc
      obtain ⟨⟨⟨⟨c8, c0⟩, c1⟩, c2⟩, c3⟩ := hc
      have h8 : (s5.map fun v => v.category).sum ≤ 8 := by rw [ia_cs_ok hk5]; exact Nat.le_of_ble_eq_true c8
      obtain ⟨n0, n1, w1, w2, w3, w4⟩ := ia_cp_ok (B := B) (md := md) hok hn hd hs hda hsa hk5 c0 c1 c2 c3
      refine ⟨s5, _, ?_, w4⟩
      simp only [iv_lib, iv_cp, w1, w2]
      rw [if_pos ⟨h8, w3⟩]
  · cases h
end
