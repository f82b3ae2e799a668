/-! type as the law calls it; poke's answers -/
theorem id_raC {a : Nat} (h : Nat.beq a 52 = false) (j : Nat) : ia_ra a j = ia_gr a ia_ral := by
  unfold ia_ra
  rw [h]
  rfl
theorem id_ra7 (j : Nat) : ia_ra 7 j = (0, 255) := (id_raC rfl j).trans (by decide +kernel)
theorem id_ra45 (j : Nat) : ia_ra 45 j = (0, 255) := (id_raC rfl j).trans (by decide +kernel)
theorem id_ra4 (j : Nat) : ia_ra 4 j = (0, 255) := (id_raC rfl j).trans (by decide +kernel)
theorem id_ra46 (j : Nat) : ia_ra 46 j = (0, 255) := (id_raC rfl j).trans (by decide +kernel)
theorem id_invR {A A2 : Nat → Nat → Int32} {F : Nat → Int32} {r : Nat} (hr : ∀ j, ia_ra r j = (0, 255)) (hp : ia_pa r = false) (hi : ia_inv A F []) (h : id_R r A A2) : ia_inv A2 F [] := by
  have e : A2 = ia_uC A r (A2 r) := by
    funext a
    unfold ia_uC
    by_cases ha : a = r
    · rw [if_pos ha, ha]
    · rw [if_neg ha, h.1 a ha]
  rw [e]
  refine ia_inv_C hi hp (fun j hj => ?_)
  rw [hr j]
  rcases h.2 j with h2 | h2
  · rw [h2]
    have h4 := hi.1 (10000 * (r + 1) + j) (by omega)
    rwa [ia_df_a hj, ia_w_ev [] F (by omega), ia_ev_a hj, hr j] at h4
  · exact h2
theorem id_uFe (F : Nat → Int32) (q : Nat) (v : Int32) : iv_uF F q v = ia_uF F q v := rfl
theorem id_603 {A : Nat → Nat → Int32} {F : Nat → Int32} (hi : ia_inv A F []) : 0 ≤ (F 603).toInt ∧ (F 603).toInt ≤ 40 := by
  have h := hi.1 1603 (by omega)
  rw [show ia_df 1603 = (0, 40) by decide +kernel] at h
  exact h
theorem id_4401 {A : Nat → Nat → Int32} {F : Nat → Int32} (hi : ia_inv A F []) : 0 ≤ (F 4401).toInt ∧ (F 4401).toInt ≤ 40 := by
  have h := hi.1 5401 (by omega)
  rw [show ia_df 5401 = (0, 40) by decide +kernel] at h
  exact h
theorem id_400 {A : Nat → Nat → Int32} {F : Nat → Int32} (hi : ia_inv A F []) : ia_inv A (iv_uF F 4400 0) [] := by
  rw [id_uFe]
  exact ia_inv_F hi (by omega) (by decide +kernel) (by decide +kernel)
set_option maxRecDepth 1000000 in
set_option maxHeartbeats 40000000 in
theorem id_t34 {L : Nat} {xs : Nat → Int32} {d : Nat} {tg : Bool} {A : Nat → Nat → Int32} {F : Nat → Int32} {B : Nat → Int64} (e : Int64) (hi : ia_inv A F []) : ∃ (v : Int32) (A2 : Nat → Nat → Int32) (F2 : Nat → Int32), iv_G L xs d 34 0 [(0, .ref 6), (1, .long e)] [] (iv_wd A F B) tg 0 0 (.inl (some (.int v)), iv_wd A2 F2 B, tg, 0, 0) ∧ ((v = 1 ∧ (iv_g8 e ∧ F 603 + id_cnt e < 41) ∧ F2 = iv_uF F 603 (F 603 + id_cnt e)) ∨ (v = 0 ∧ ¬ (iv_g8 e ∧ F 603 + id_cnt e < 41) ∧ F2 = F)) ∧ ia_inv A2 F2 [] := by
  have hr := id_603 hi
  by_cases h : iv_g8 e
  · by_cases hm : F 603 + id_cnt e < 41
    · obtain ⟨A2, hR, h1, h2, hG⟩ := id_ap1 (L := L) (xs := xs) (d := d) (tg := tg) (A := A) (B := B) h hr.1 hr.2 hm
      refine ⟨1, A2, _, hG, Or.inl ⟨rfl, ⟨h, hm⟩, rfl⟩, ?_⟩
      rw [id_uFe]
      refine ia_inv_F (id_invR id_ra7 rfl hi hR) (by omega) ?_ ?_
      · rw [show ia_gr 603 ia_rfl = (0, 40) by decide +kernel]
        exact h2
      · rw [show ia_gr 603 ia_rfl = (0, 40) by decide +kernel]
        exact h1
    · exact ⟨0, A, F, id_ap2 h hm, Or.inr ⟨rfl, fun q => hm q.2, rfl⟩, hi⟩
  · exact ⟨0, A, F, id_ap0 h, Or.inr ⟨rfl, fun q => h q.1, rfl⟩, hi⟩
set_option maxRecDepth 1000000 in
set_option maxHeartbeats 40000000 in
theorem id_t2 {L : Nat} {xs : Nat → Int32} {d : Nat} {tg : Bool} {A : Nat → Nat → Int32} {F : Nat → Int32} {B : Nat → Int64} (e : Int64) (hi : ia_inv A F []) : ∃ (v : Int32) (A2 : Nat → Nat → Int32) (F2 : Nat → Int32) (B2 : Nat → Int64), iv_G L xs (d + 1) 2 0 (lv_args 0 [.ref 1, .long e]) [] (ia_wd A F B) tg 0 0 (.inl (some (.int v)), ia_wd A2 F2 B2, tg, 0, 0) ∧ ia_inv A2 F2 [] ∧ ((v = 1 ∧ (iv_g8 e ∧ F 603 + id_cnt e < 41) ∧ F2 = iv_uF F 603 (F 603 + id_cnt e)) ∨ (v = 0 ∧ ¬ (iv_g8 e ∧ F 603 + id_cnt e < 41) ∧ F2 = F)) := by
  obtain ⟨v, A2, F2, hG, hv, hi2⟩ := id_t34 (L := L) (xs := xs) (d := d) (tg := tg) (A := A) (F := F) (B := B) e hi
  refine ⟨v, A2, F2, B, ?_, hi2, hv⟩
  show iv_G L xs (d + 1) 2 0 [(0, .ref 1), (1, .long e)] [] (iv_wd A F B) tg 0 0 (.inl (some (.int v)), iv_wd A2 F2 B, tg, 0, 0)
  refine iv_Gm 3 (pc2 := 5) (lv2 := [(0, .ref 1), (1, .long e)]) (st2 := [.long e, .ref 6]) (w2 := (iv_wd A F B)) rfl ?_
  refine iv_Gcall (ν := 34) (c := 2) (as := [.ref 6, .long e]) (rest := []) (w2 := (iv_wd A2 F2 B)) (tg2 := tg) (k2 := 0) (z2 := 0) (v := (some (.int v))) rfl rfl rfl rfl rfl rfl rfl (Nat.le_of_ble_eq_true rfl) rfl hG ?_
  show iv_G _ _ _ _ 8 [(0, .ref 1), (1, .long e)] [.int v] (iv_wd A2 F2 B) tg _ _ _
  rcases hv with ⟨rfl, -⟩ | ⟨rfl, -⟩
  · exact iv_Gret rfl rfl rfl
  · exact iv_Gret rfl rfl rfl
set_option maxRecDepth 1000000 in
set_option maxHeartbeats 40000000 in
theorem id_t134 {L : Nat} {xs : Nat → Int32} {d : Nat} {tg : Bool} {A : Nat → Nat → Int32} {F : Nat → Int32} {B : Nat → Int64} (e : Int64) (hi : ia_inv A F []) : ∃ (v : Int32) (A2 : Nat → Nat → Int32) (F2 : Nat → Int32) (B2 : Nat → Int64), iv_G L xs d 134 0 (lv_args 0 [.ref 44, .long e]) [] (ia_wd A F B) tg 0 0 (.inl (some (.int v)), ia_wd A2 F2 B2, tg, 0, 0) ∧ ia_inv A2 F2 [] ∧ ((v = 1 ∧ (iv_g8 e ∧ F 4401 + id_cnt e < 41) ∧ F2 = iv_uF (iv_uF F 4400 0) 4401 (F 4401 + id_cnt e)) ∨ (v = 0 ∧ ¬ (iv_g8 e ∧ F 4401 + id_cnt e < 41) ∧ F2 = iv_uF F 4400 0)) := by
  have hr := id_4401 hi
  by_cases h : iv_g8 e
  · by_cases hm : F 4401 + id_cnt e < 41
    · obtain ⟨A2, hR, h1, h2, hG⟩ := id_ty1 (L := L) (xs := xs) (d := d) (tg := tg) (A := A) (B := B) h hr.1 hr.2 hm
      refine ⟨1, A2, _, B, hG, ?_, Or.inl ⟨rfl, ⟨h, hm⟩, rfl⟩⟩
      rw [id_uFe]
      refine ia_inv_F (id_invR id_ra45 rfl (id_400 hi) hR) (by omega) ?_ ?_
      · rw [show ia_gr 4401 ia_rfl = (0, 40) by decide +kernel]
        exact h2
      · rw [show ia_gr 4401 ia_rfl = (0, 40) by decide +kernel]
        exact h1
    · exact ⟨0, A, _, B, id_ty2 h hm, id_400 hi, Or.inr ⟨rfl, fun q => hm q.2, rfl⟩⟩
  · exact ⟨0, A, _, B, id_ty0 h, id_400 hi, Or.inr ⟨rfl, fun q => h q.1, rfl⟩⟩
theorem id_tt {e : Int64} {F F1 F2 : Nat → Int32} {v1 v2 : Int32} (hq : F 603 = F 4401) (h1 : (v1 = 1 ∧ (iv_g8 e ∧ F 603 + id_cnt e < 41) ∧ F1 = iv_uF F 603 (F 603 + id_cnt e)) ∨ (v1 = 0 ∧ ¬ (iv_g8 e ∧ F 603 + id_cnt e < 41) ∧ F1 = F)) (h2 : (v2 = 1 ∧ (iv_g8 e ∧ F1 4401 + id_cnt e < 41) ∧ F2 = iv_uF (iv_uF F1 4400 0) 4401 (F1 4401 + id_cnt e)) ∨ (v2 = 0 ∧ ¬ (iv_g8 e ∧ F1 4401 + id_cnt e < 41) ∧ F2 = iv_uF F1 4400 0)) : v1 = v2 ∧ F2 603 = F2 4401 := by
  have e1 : F1 4401 = F 4401 := by
    rcases h1 with ⟨-, -, e⟩ | ⟨-, -, e⟩
    · rw [e]; rfl
    · rw [e]
  rw [e1, ← hq] at h2
  rcases h1 with ⟨a1, b1, c1⟩ | ⟨a1, b1, c1⟩
  · rcases h2 with ⟨a2, b2, c2⟩ | ⟨a2, b2, c2⟩
    · refine ⟨by rw [a1, a2], ?_⟩
      rw [c2, c1]
      rfl
    · exact (b2 b1).elim
  · rcases h2 with ⟨a2, b2, c2⟩ | ⟨a2, b2, c2⟩
    · exact (b1 b2).elim
    · refine ⟨by rw [a1, a2], ?_⟩
      rw [c2, c1]
      exact hq
theorem id_ww {A1 A2 : Nat → Nat → Int32} {F1 F2 : Nat → Int32} (h1 : ∃ P ∈ ia_m761.2.2.2.2.1, ia_pk P (.inl none) (ia_ev [] A1 F1 (ia_g0 [.ref 1]))) (h2 : ∃ P ∈ ia_m1.2.2.2.2.1, ia_pk P (.inl none) (ia_ev [] A2 F2 (ia_g0 [.ref 44]))) (h3 : F2 603 = F1 603) : F2 603 = F2 4401 := by
  obtain ⟨P, hP, k1⟩ := h1
  obtain ⟨Q, hQ, k2⟩ := h2
  have g1 : ia_m761.2.2.2.2.1.all (fun P => P.2.2.1.any (fun f => Nat.beq f.1 1603 && decide (f.2.1 = 0) && decide (f.2.2 = 0))) = true := by decide +kernel
  have g2 : ia_m1.2.2.2.2.1.all (fun P => P.2.2.1.any (fun f => Nat.beq f.1 5401 && decide (f.2.1 = 0) && decide (f.2.2 = 0))) = true := by decide +kernel
  obtain ⟨f, hf, hb⟩ := List.any_eq_true.mp (List.all_eq_true.mp g1 P hP)
  obtain ⟨g, hg, hc⟩ := List.any_eq_true.mp (List.all_eq_true.mp g2 Q hQ)
  rw [Bool.and_eq_true, Bool.and_eq_true, decide_eq_true_eq, decide_eq_true_eq] at hb hc
  have b1 := k1.2 f hf
  have b2 := k2.2 g hg
  rw [Nat.eq_of_beq_eq_true hb.1.1, hb.1.2, hb.2] at b1
  rw [Nat.eq_of_beq_eq_true hc.1.1, hc.1.2, hc.2] at b2
  have c1 : ia_ev [] A1 F1 (ia_g0 [.ref 1]) 1603 = F1 603 := rfl
  have c2 : ia_ev [] A2 F2 (ia_g0 [.ref 44]) 5401 = F2 4401 := rfl
  rw [c1] at b1
  rw [c2] at b2
  rw [h3]
  exact Int32.toInt_inj.mp (by omega)
