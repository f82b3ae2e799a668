/-! a context whose check says true holds -/
theorem ia_gsm_0 (E : Nat → Int32) : ∀ (ms : List Nat) (t : Nat), ia_gsm E t (ms.map (fun _ => (0 : Int))) = 0
  | [], _ => rfl
  | _ :: r, t => by
    simp only [List.map_cons, ia_gsm]
    rw [ia_gsm_0 E r (t + 1)]
    omega
section
variable {A : Nat → Nat → Int32} {F : Nat → Int32} {M : ia_M} {vals : List Value}
theorem ia_ent_ok (hfa : ∀ f ∈ M.2.2.2.1, 1000 ≤ f.1 ∧ f.2.1 ≤ (ia_w A F f.1).toInt ∧ (ia_w A F f.1).toInt ≤ f.2.2) : ∀ (ar : List ia_V) (vs : List Value) (k : Nat), k + ia_cs ar < 100 → ia_sk (ia_ev [] A F (ia_g0 vals)) ar vs → ar.all (ia_tg (fun m => Nat.ble 1000 m)) = true → (∀ i, k ≤ i → iv_ld (lv_args 0 vals) i = iv_ld (lv_args k vs) i) → ia_vk (lv_args 0 vals) A F (ia_g0 vals) (ia_ent M k ar)
  | [], [], k, _, _, _, _ => by
    intro q hq
    obtain ⟨f, hf, rfl⟩ := List.mem_map.mp hq
    obtain ⟨h1, h2, h3⟩ := hfa f hf
    refine ⟨.int (ia_ev (lv_args 0 vals) A F (ia_g0 vals) f.1), ia_vl_ge (by show 100 ≤ f.1; omega) _, ?_⟩
    rw [ia_w_ev (lv_args 0 vals) (ia_g0 vals) h1] at h2 h3
    exact ia_nil h2 h3
  | [], _ :: _, _, _, h, _, _ => h.elim
  | _ :: _, [], _, _, h, _, _ => h.elim
  | a :: ar, v :: vs, k, hk, hs, ht, hl => by
    rw [List.all_cons, Bool.and_eq_true] at ht
    have hc := ia_cat_ok hs.1
    have hE : ∀ n, Nat.ble 1000 n = true → ia_ev (lv_args 0 vals) A F (ia_g0 vals) n = ia_ev [] A F (ia_g0 vals) n := fun n hn => by rw [← ia_w_ev [] _ (Nat.le_of_ble_eq_true hn), ← ia_w_ev (lv_args 0 vals) _ (Nat.le_of_ble_eq_true hn)]
    have ha := ia_tg_ok hE ht.1 hs.1
    have hcs : ia_cs (a :: ar) = ia_cat a + ia_cs ar := rfl
    have hcat : 1 ≤ ia_cat a := by cases a using ia_Vc <;> exact Nat.le_of_ble_eq_true rfl
    have hld : iv_ld (lv_args 0 vals) k = some v := by
      rw [hl k (Nat.le_refl k)]
      unfold lv_args iv_ld
      rw [if_pos rfl]
    have e : (if v.category = 2 then k + 2 else k + 1) = k + ia_cat a := by
      rw [hc]
      cases a using ia_Vc <;> rfl
    have hrest : ia_vk (lv_args 0 vals) A F (ia_g0 vals) (ia_ent M (k + ia_cat a) ar) := by
      refine ia_ent_ok hfa ar vs (k + ia_cat a) (by omega) hs.2 ht.2 (fun i hi => ?_)
      rw [hl i (by omega)]
      conv => lhs; unfold lv_args iv_ld
      rw [if_neg (by show ¬ k = i; omega), e]
    have hvl : ia_vl (lv_args 0 vals) (ia_ev (lv_args 0 vals) A F (ia_g0 vals)) k = some v := by
      unfold ia_vl
      rw [if_pos (by omega)]
      exact hld
    cases a using ia_Vc with
    | i q =>
      have h3 := ia_vl_int hvl ha
      have h4 : ia_ev (lv_args 0 vals) A F (ia_g0 vals) (100 + k) = ia_ev (lv_args 0 vals) A F (ia_g0 vals) k := by
        conv => lhs; unfold ia_ev
        rw [if_neg (by omega), if_pos (by omega)]
        unfold ia_g0
        rw [show 100 + k - 100 = k by omega, hld, h3]
        rfl
      subst h3
      intro p hp
      rcases List.mem_cons.mp hp with rfl | hp
      · refine ⟨_, hvl, ha.1, ha.2.1, fun t ht => ?_, ha.2.2.2⟩
        rcases List.mem_cons.mp ht with rfl | ht
        · show (ia_ev (lv_args 0 vals) A F (ia_g0 vals) k).toInt = (ia_ev (lv_args 0 vals) A F (ia_g0 vals) (100 + k)).toInt + 0
          rw [h4, Int.add_zero]
        · exact ha.2.2.1 t ht
      · rcases List.mem_cons.mp hp with rfl | hp
        · refine ⟨.int (ia_ev (lv_args 0 vals) A F (ia_g0 vals) (100 + k)), ia_vl_ge (by show 100 ≤ 100 + k; omega) _, ?_⟩
          rw [h4]
          exact ia_nil ha.1 ha.2.1
        · exact hrest p hp
    | r cs =>
      intro p hp
      rcases List.mem_cons.mp hp with rfl | hp
      · exact ⟨v, hvl, ha⟩
      · exact hrest p hp
    | l =>
      intro p hp
      rcases List.mem_cons.mp hp with rfl | hp
      · exact ⟨v, hvl, ha⟩
      · exact hrest p hp
end
theorem ia_hold {cal : List ia_M} {M : ia_M} (hcal : ∀ Q ∈ cal, ia_Holds Q) (c7 : ia_inc (iv_t M.1) = true) (h1 : ia_ch1 M = true) (h0 : ia_ex cal M (ia_n0 M) ia_fuel true [] (ia_st0 M (ia_n0 M).1) = true) (hm : M.2.2.2.2.2.2.2.2.2.2.all (fun N => ia_ex cal M N ia_fuel true [] (ia_st0 M N.1)) = true) : ia_Holds M := by
  intro L xs d tg k z A F B vs hd hsk hi hfa
  have h1b := h1
  unfold ia_ch1 at h1b
  rw [Bool.and_eq_true, Bool.and_eq_true, Bool.and_eq_true, Bool.and_eq_true, Bool.and_eq_true, Bool.and_eq_true] at h1b
  obtain ⟨⟨⟨⟨⟨⟨c1, c2⟩, c3⟩, c4⟩, c5⟩, c6⟩, c8⟩ := h1b
  have c6 := ia_blt c6
  have hl : ∀ N ∈ M.2.2.2.2.2.2.2.2.2.2, N.2.2.1.length = M.2.2.2.2.2.2.2.2.1.length := fun N hN => by
    have := List.all_eq_true.mp c8 N hN
    rw [Bool.and_eq_true] at this
    exact Nat.eq_of_beq_eq_true this.2
  have hfa2 : ∀ f ∈ M.2.2.2.1, 1000 ≤ f.1 ∧ f.2.1 ≤ (ia_w A F f.1).toInt ∧ (ia_w A F f.1).toInt ≤ f.2.2 := fun f hf => by
    have := Nat.le_of_ble_eq_true (List.all_eq_true.mp c2 f hf)
    exact ⟨this, hfa f hf this⟩
  have hok : ia_ok (ia_n0 M).1 (lv_args 0 vs) [] A F (ia_g0 vs) := ⟨ia_ent_ok hfa2 M.2.2.1 vs 0 (by have := ia_blt c4; omega) hsk c1 (fun _ _ => rfl), trivial, hi⟩
  have ih : ia_IH L xs d k z M vs A F ((1000000000000000000000000000000 : Nat) : Int) := ia_cut_ok hcal hd c7 h1 hm _
  have hg2 : ia_gk vs (ia_gw (ia_ev (lv_args 0 vs) A F (ia_g0 vs)) (ia_g0 vs) M.2.2.2.2.2.2.2.2.1) := fun q q1 q2 => by
    unfold ia_gw
    rw [if_neg (by omega)]
  have := ia_ex_ok hcal hd c7 hl (N0 := ia_n0 M) (by show (M.2.2.2.2.2.2.2.2.1.map _).length = _; rw [List.length_map]) c6 ih ia_fuel true [] (ia_st0 M (ia_n0 M).1) (lv_args 0 vs) [] A F _ B tg h0 (fun _ h => by cases h) (ia_st0_ok hok c5 c6) hg2 ia_fr_refl (by show (1000000000000000000000000000000 : Int) + ia_gsm _ 0 (M.2.2.2.2.2.2.2.2.1.map _) = _; rw [ia_gsm_0]; rfl)
  obtain ⟨P, hP, o, A2, F2, B2, tg2, w1, w2⟩ := this
  exact ⟨P, hP, o, A2, F2, B2, tg2, w1, w2⟩
