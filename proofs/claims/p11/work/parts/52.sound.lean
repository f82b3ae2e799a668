/-! from a check that says true to what the context claims -/
theorem ia_gsm_g {lv : List (Nat × Value)} {A : Nat → Nat → Int32} {F g : Nat → Int32} : ∀ (ks : List Int) (t : Nat), t + ks.length ≤ 800 → ia_gsm (ia_ev lv A F g) t ks = ia_gsm g t ks
  | [], _, _ => rfl
  | k :: ks, t, h => by
    simp only [List.length_cons] at h
    simp only [ia_gsm]
    rw [ia_gsm_g ks (t + 1) (by omega)]
    congr 2
    unfold ia_ev
    rw [if_neg (by omega), if_pos (by omega)]
section
variable {L : Nat} {xs : Nat → Int32} {d k z : Nat} {M : ia_M} {vals : List Value} {A0 : Nat → Nat → Int32} {F0 : Nat → Int32} {cal : List ia_M} {N0 : ia_N} {m : Int}
/-- a call -/
theorem ia_call_ok (hcal : ∀ Q ∈ cal, ia_Holds Q) (hd : M.2.1 ≤ d + 1) {f : Nat} {T : List (Nat × Instr × Nat)} {i : Instr} {x : Nat} {S : ia_S} {lv : List (Nat × Value)} {st : List Value} {A : Nat → Nat → Int32} {F g : Nat → Int32} {B : Nat → Int64} {tg : Bool}
    (hlk : iv_look (iv_t M.1) S.1 = some (i, x)) (hk5 : iv_kd i x = 5) (hok : ia_ok S lv st A F g) (hg : ia_gk vals g) (hfr : ia_fr M.2.2.2.2.2.1 M.2.2.2.2.2.2.1 A0 F0 A F)
    (h : ia_exc (ia_ex cal M N0 f false T) cal M x S (iv_cv (iv_np (x % 1000)) (x / 1000)) (S.2.2.1.take (iv_cv (iv_np (x % 1000)) (x / 1000))).reverse (S.2.2.1.drop (iv_cv (iv_np (x % 1000)) (x / 1000))) = true)
    (ihf : ∀ (S2 : ia_S) (lv2 : List (Nat × Value)) (st2 : List Value) (A2 : Nat → Nat → Int32) (F2 : Nat → Int32) (B2 : Nat → Int64) (tg2 : Bool), ia_ex cal M N0 f false T S2 = true → ia_ok S2 lv2 st2 A2 F2 g → ia_fr M.2.2.2.2.2.1 M.2.2.2.2.2.2.1 A0 F0 A2 F2 → ia_Gl L xs d k z M vals A0 F0 S2.1 lv2 st2 A2 F2 B2 tg2 S2.2.2.2.1) :
    ia_Gl L xs d k z M vals A0 F0 S.1 lv st A F B tg S.2.2.2.1 := by
  generalize hc : iv_cv (iv_np (x % 1000)) (x / 1000) = c at h
  unfold ia_exc at h
  rw [Bool.and_eq_true, Bool.and_eq_true, Bool.and_eq_true, Bool.and_eq_true] at h
  obtain ⟨⟨⟨⟨h1, h2⟩, h3⟩, h4⟩, h5⟩ := h
  rw [List.length_reverse] at h1
  have hi : ia_inv A F [] := by
    have := hok.2.2
    rwa [List.isEmpty_iff.mp h3] at this
  have hsk := ia_sk_take c hok.2.1
  have hlen : (st.take c).length = c := by rw [ia_sk_len hsk.1]; exact Nat.eq_of_beq_eq_true h1
  have hcs : ((st.drop c).map fun v => v.category).sum ≤ 8 := by rw [ia_cs_ok hsk.2]; exact Nat.le_of_ble_eq_true h2
  have has := ia_sk_rev hsk.1
  have hrc : iv_rc (ia_wd A F B) (x / 1000) (x % 1000) (st.take c).reverse = true := ia_rcv_ok has h4
  split at h5
  · cases h5
  · next Q hQ =>
    have hQm := List.mem_of_find?_eq_some hQ
    have hQp := List.find?_some hQ
    rw [Bool.and_eq_true] at hQp h5
    have hmu := Nat.eq_of_beq_eq_true hQp.1
    have hpre := hQp.2
    unfold ia_pre at hpre
    rw [Bool.and_eq_true] at hpre
    have hca := h5.1
    unfold ia_cal at hca
    rw [Bool.and_eq_true, Bool.and_eq_true, Bool.and_eq_true, Bool.and_eq_true, Bool.and_eq_true] at hca
    obtain ⟨⟨⟨⟨⟨a1, a2⟩, a3⟩, a4⟩, a5⟩, a6⟩ := hca
    have a1 := Nat.le_of_ble_eq_true a1
    have a2 := ia_blt a2
    have hE0 : ∀ vs2 : List Value, ∀ n, Nat.ble 1000 n = true → ia_ev [] A F (ia_g0 vs2) n = ia_ev lv A F g n := fun vs2 n hn => by rw [← ia_w_ev [] _ (Nat.le_of_ble_eq_true hn), ← ia_w_ev lv g (Nat.le_of_ble_eq_true hn)]
    obtain ⟨d2, rfl⟩ : ∃ d2, d = d2 + 1 := ⟨d - 1, by omega⟩
    obtain ⟨P, hP, o, A2, F2, B2, tg2, hG, hi2, hfr2, hpk⟩ := hcal Q hQm L xs d2 tg 0 0 A F B (st.take c).reverse (by omega) (ia_sk_tg (hE0 _) a5 (ia_leL_ok hok.1 hi hpre.1 has)) hi (fun f hf hf1 => by
      have := ia_facts_ok hok.1 hi hpre.2 hf
      rwa [← ia_w_ev lv g hf1] at this)
    rw [Nat.zero_add, Nat.zero_add, hmu] at hG
    have hfrM := ia_fr_trans hfr (ia_fr_sub hfr2 a3 a4)
    have hb := List.all_eq_true.mp h5.2 P hP
    have hE := fun n (h : ia_chp Q n = false) => ia_chp_ok (lv := lv) (g := g) hfr2 n h
    obtain ⟨v2, e2, k2⟩ := ia_tell_ok (p := ia_chp Q) hi2 has hE P.2.2.1 (ia_drp_ok hok.1 hE) hpk.2
    unfold ia_exb ia_aft at hb
    rw [e2] at hb
    dsimp only at hb
    have hpk1 := hpk.1
    cases hth : P.1 with
    | none =>
      rw [hth] at hb hpk1
      cases o with
      | inr q => exact hpk1.elim
      | inl v =>
        dsimp only at hb hpk1
        have hrest := ia_sk_rv (ia_fp_ok hE) hsk.2
        have hst : ia_sk (ia_ev lv A2 F2 g) (ia_push v2 P.2.1 ((S.2.2.1.drop c).map (ia_rv (ia_fp (ia_chp Q))))) (v.toList ++ st.drop c) := by
          cases hre : P.2.1 with
          | none =>
            rw [hre] at hpk1
            cases v with
            | none => exact hrest
            | some u => exact hpk1.elim
          | some b =>
            rw [hre] at hpk1
            cases v with
            | none => exact hpk1.elim
            | some u =>
              have ht := List.all_eq_true.mp a6 P hP
              rw [hre] at ht
              have hu : ia_in (ia_ev lv A2 F2 g) b u := ia_tg_ok (fun n hn => by rw [← ia_w_ev [] (ia_g0 (st.take c).reverse) (Nat.le_of_ble_eq_true hn), ← ia_w_ev lv g (Nat.le_of_ble_eq_true hn)]) ht hpk1
              exact ⟨ia_redu_ok k2 hi2 hu, hrest⟩
        obtain ⟨R, hR, o3, A3, F3, B3, tg3, w1, w2⟩ := ihf _ lv (v.toList ++ st.drop c) A2 F2 B2 tg2 hb ⟨k2, hst, hi2⟩ hfrM
        refine ⟨R, hR, o3, A3, F3, B3, tg3, ?_, w2⟩
        refine iv_Gcall hlk hk5 rfl hc rfl hlen rfl hcs hrc hG ?_
        rw [show k + S.2.2.2.1 + P.2.2.2 = k + (S.2.2.2.1 + P.2.2.2) by omega, show z + iv_xN * S.2.2.2.1 + iv_xN * P.2.2.2 = z + iv_xN * (S.2.2.2.1 + P.2.2.2) by rw [Nat.mul_add]; omega]
        exact w1
    | some q =>
      rw [hth] at hb hpk1
      cases o with
      | inl v => exact hpk1.elim
      | inr q2 =>
        dsimp only at hb hpk1
        subst hpk1
        rw [Bool.and_eq_true] at hb
        have hx := ia_blt hb.1
        have hb2 := hb.2
        cases he : (iv_h M.1).isEmpty with
        | true =>
          rw [he] at hb2
          dsimp only [cond_true] at hb2
          obtain ⟨R, hR, e, hRk⟩ := ia_ps_ok (vals := vals) k2 hi2 hg hb2 (o := .inr q2) (show ia_om _ (some q2) none (.inr q2) from rfl)
          refine ⟨R, hR, .inr q2, A2, F2, B2, tg2, ?_, hi2, hfrM, hRk⟩
          rw [e, show k + (S.2.2.2.1 + P.2.2.2) = k + S.2.2.2.1 + P.2.2.2 by omega, show z + iv_xN * (S.2.2.2.1 + P.2.2.2) = z + iv_xN * S.2.2.2.1 + iv_xN * P.2.2.2 by rw [Nat.mul_add]; omega]
          exact iv_GcallT hlk hk5 (by omega) rfl hc rfl hlen rfl hcs hrc (by rw [List.isEmpty_iff.mp he]; rfl) he hG
        | false =>
          rw [he] at hb2
          dsimp only [cond_false] at hb2
          split at hb2
          · cases hb2
          · next pj ej =>
            rw [Bool.and_eq_true] at hb2
            obtain ⟨R, hR, o3, A3, F3, B3, tg3, w1, w2⟩ := ihf _ (iv_no lv pj.2) [] A2 F2 B2 tg2 hb2.2 ⟨ia_nol_ok k2, trivial, hi2⟩ hfrM
            refine ⟨R, hR, o3, A3, F3, B3, tg3, ?_, w2⟩
            refine iv_GcallH hlk hk5 (by omega) rfl hc rfl hlen rfl hcs hrc (show iv_hd (iv_h M.1) S.1 q2 = some (pj.1, pj.2) from ej) hG ?_
            rw [show k + S.2.2.2.1 + P.2.2.2 = k + (S.2.2.2.1 + P.2.2.2) by omega, show z + iv_xN * S.2.2.2.1 + iv_xN * P.2.2.2 = z + iv_xN * (S.2.2.2.1 + P.2.2.2) by rw [Nat.mul_add]; omega]
            exact w1
theorem ia_ex_ok (hcal : ∀ Q ∈ cal, ia_Holds Q) (hd : M.2.1 ≤ d + 1) (hinc : ia_inc (iv_t M.1) = true) (hl : ∀ N ∈ M.2.2.2.2.2.2.2.2.2.2, N.2.2.1.length = M.2.2.2.2.2.2.2.2.1.length) (hl0 : N0.2.2.1.length = M.2.2.2.2.2.2.2.2.1.length) (hml : M.2.2.2.2.2.2.2.2.1.length < 100) (ih : ia_IH L xs d k z M vals A0 F0 m) : ∀ (f : Nat) (first : Bool) (T : List (Nat × Instr × Nat)) (S : ia_S) (lv : List (Nat × Value)) (st : List Value) (A : Nat → Nat → Int32) (F g : Nat → Int32) (B : Nat → Int64) (tg : Bool), ia_ex cal M N0 f first T S = true → (∀ e ∈ T, e ∈ iv_t M.1) → ia_ok S lv st A F g → ia_gk vals g → ia_fr M.2.2.2.2.2.1 M.2.2.2.2.2.2.1 A0 F0 A F → N0.2.1 + ia_gsm g 0 N0.2.2.1 = m → ia_Gl L xs d k z M vals A0 F0 S.1 lv st A F B tg S.2.2.2.1 := by
  intro f
  induction f with
  | zero =>
    intro first T S lv st A F g B tg h
    cases (show false = true from h)
  | succ f ihf =>
    intro first T S lv st A F g B tg h hT hok hg hfr hm
    have hmain : ia_exi (ia_ex cal M N0 f false) cal M T S = true → ia_Gl L xs d k z M vals A0 F0 S.1 lv st A F B tg S.2.2.2.1 := fun h => by
      unfold ia_exi at h
      split at h
      · cases h
      · next p i x T2 hsx =>
        obtain ⟨e1, e2, e3⟩ := ia_sx_mem hT hsx
        have hlk : iv_look (iv_t M.1) S.1 = some (i, x) := by
          have := ia_inc_ok hinc _ e2
          dsimp only at this e1
          rwa [e1] at this
        have hgo : ∀ (Ss : List ia_S) (R : Option (Nat × List (Nat × Value) × List Value × iv_W)), Ss.all (ia_ex cal M N0 f false T2) = true → iv_nx L xs M.1 S.1 lv st (ia_wd A F B) = R → ia_res R Ss S.2.2.2.1 A F g M.2.2.2.2.2.1 M.2.2.2.2.2.2.1 → ia_Gl L xs d k z M vals A0 F0 S.1 lv st A F B tg S.2.2.2.1 := fun Ss R h1 h2 h3 => by
          obtain ⟨S2, hS2, lv2, st2, A2, F2, B2, r1, r2, r3, r4⟩ := h3
          have := ihf false T2 S2 lv2 st2 A2 F2 g B2 tg (List.all_eq_true.mp h1 S2 hS2) e3 r2 hg (ia_fr_trans hfr r4) hm
          rw [r3] at this
          exact ia_Gl1 (h2.trans r1) this
        unfold ia_exk at h
        split at h
        · next hk =>
          split at h
          · cases h
          · next Ss hst => exact hgo Ss _ h (ia_nx0 hlk hk) (ia_step_ok hok hst)
        · next hk => exact ia_rok_ok hlk hk h hok hg hfr
        · next hk =>
          rw [Bool.and_eq_true, Bool.and_eq_true, Bool.and_eq_true] at h
          have hi : ia_inv A F [] := by
            have := hok.2.2
            rwa [List.isEmpty_iff.mp h.1.2] at this
          obtain ⟨P, hP, e, hpk⟩ := ia_ps_ok (vals := vals) hok.1 hi hg h.2 (o := .inr (x - 1000)) (show ia_om _ (some (x - 1000)) none (.inr (x - 1000)) from rfl)
          refine ⟨P, hP, .inr (x - 1000), A, F, B, false, ?_, hi, hfr, hpk⟩
          rw [e, show k + (S.2.2.2.1 + 1) = k + S.2.2.2.1 + 1 by omega, show z + iv_xN * (S.2.2.2.1 + 1) = z + iv_xN * S.2.2.2.1 + iv_xN by rw [Nat.mul_add]; omega]
          exact iv_Gthrow hlk hk ⟨by rw [ia_cs_ok hok.2.1]; exact Nat.le_of_ble_eq_true h.1.1.2, ia_blt h.1.1.1⟩
        · cases h
        · next hk =>
          split at h
          · cases h
          · next Ss hst =>
            obtain ⟨st2, w2, q1, q2⟩ := ia_lib_ok (B := B) (md := M.2.2.2.2.2.1) hok hst
            exact hgo Ss _ h (ia_nx4 hlk hk q1) q2
        · next h0 h1 h2 h3 h4 =>
          exact ia_call_ok hcal hd hlk (ia_kd5 h0 h1 h2 h3 h4) hok hg hfr h (fun S2 lv2 st2 A2 F2 B2 tg2 q1 q2 q3 => ihf false T2 S2 lv2 st2 A2 F2 g B2 tg2 q1 e3 q2 hg q3 hm)
    have h' : ia_exB cal M N0 (ia_ex cal M N0 f) first T S = true := h
    unfold ia_exB at h'
    split at h'
    · split at h'
      · next sp hcut =>
        refine ia_arr_ok hl hl0 ?_ ih h' hok hg hfr
        rw [ia_gsm_g _ _ (by omega)]
        exact hm
      · exact hmain h'
    · exact hmain h'
/-- a cut's block -/
theorem ia_cut_ok (hcal : ∀ Q ∈ cal, ia_Holds Q) (hd : M.2.1 ≤ d + 1) (c7 : ia_inc (iv_t M.1) = true) (h1 : ia_ch1 M = true) (hm : M.2.2.2.2.2.2.2.2.2.2.all (fun N => ia_ex cal M N ia_fuel true [] (ia_st0 M N.1)) = true) : ∀ (n : Nat), ia_IH L xs d k z M vals A0 F0 (n : Int) := by
  unfold ia_ch1 at h1
  rw [Bool.and_eq_true, Bool.and_eq_true, Bool.and_eq_true, Bool.and_eq_true, Bool.and_eq_true, Bool.and_eq_true] at h1
  obtain ⟨⟨⟨⟨⟨⟨-, -⟩, -⟩, -⟩, c5⟩, c6⟩, c8⟩ := h1
  have c6 := ia_blt c6
  have hl : ∀ N ∈ M.2.2.2.2.2.2.2.2.2.2, N.2.2.1.length = M.2.2.2.2.2.2.2.2.1.length := fun N hN => by
    have := List.all_eq_true.mp c8 N hN
    rw [Bool.and_eq_true] at this
    exact Nat.eq_of_beq_eq_true this.2
  intro n
  induction n with
  | zero =>
    intro N hN lv st A F g B tg hok hg hfr hlt
    have h2 := List.all_eq_true.mp c8 N hN
    rw [Bool.and_eq_true, decide_eq_true_eq] at h2
    have h3 := ia_lsm_ok hok.1 hok.2.2 M.2.2.2.2.2.2.2.2.1 N.2.2.1
    omega
  | succ n ih =>
    intro N hN lv st A F g B tg hok hg hfr hlt
    have hx := List.all_eq_true.mp hm N hN
    have hg2 : ia_gk vals (ia_gw (ia_ev lv A F g) g M.2.2.2.2.2.2.2.2.1) := fun q q1 q2 => by
      unfold ia_gw
      rw [if_neg (by omega)]
      exact hg q q1 q2
    have e : N.2.1 + ia_gsm (ia_gw (ia_ev lv A F g) g M.2.2.2.2.2.2.2.2.1) 0 N.2.2.1 = N.2.1 + ia_msm (ia_ev lv A F g) M.2.2.2.2.2.2.2.2.1 N.2.2.1 := by
      rw [← ia_gsm_g (lv := lv) (A := A) (F := F) N.2.2.1 0 (by rw [hl N hN]; omega)]
      rw [ia_gsm_ok (ms := M.2.2.2.2.2.2.2.2.1) (g := g) M.2.2.2.2.2.2.2.2.1 0 N.2.2.1 (fun i q hi => ?_) (hl N hN)]
      have hil : i < M.2.2.2.2.2.2.2.2.1.length := (List.getElem?_eq_some_iff.mp hi).1
      conv => lhs; unfold ia_ev
      rw [if_neg (by omega), if_pos (by omega)]
      unfold ia_gw
      rw [if_pos (by omega), show 200 + (0 + i) - 200 = i by omega, hi]
      rfl
    have ih2 : ia_IH L xs d k z M vals A0 F0 (N.2.1 + ia_msm (ia_ev lv A F g) M.2.2.2.2.2.2.2.2.1 N.2.2.1) := fun N2 hN2 lv2 st2 A2 F2 g2 B2 tg2 r1 r2 r3 r4 => ih N2 hN2 lv2 st2 A2 F2 g2 B2 tg2 r1 r2 r3 (by omega)
    exact ia_ex_ok hcal hd c7 hl (hl N hN) c6 ih2 ia_fuel true [] (ia_st0 M N.1) lv st A F (ia_gw (ia_ev lv A F g) g M.2.2.2.2.2.2.2.2.1) B tg hx (fun _ h => by cases h) (ia_st0_ok hok c5 c6) hg2 hfr e
end
