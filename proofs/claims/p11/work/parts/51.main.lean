/-! the check is sound -/
section
variable {L : Nat} {xs : Nat → Int32} {d k z : Nat} {M : ia_M} {vals : List Value} {A0 : Nat → Nat → Int32} {F0 : Nat → Int32}
/-- from here the method comes to one of its ends -/
def ia_Gl (L : Nat) (xs : Nat → Int32) (d k z : Nat) (M : ia_M) (vals : List Value) (A0 : Nat → Nat → Int32) (F0 : Nat → Int32) (pc : Nat) (lv : List (Nat × Value)) (st : List Value) (A : Nat → Nat → Int32) (F : Nat → Int32) (B : Nat → Int64) (tg : Bool) (c : Nat) : Prop := ∃ P ∈ M.2.2.2.2.1, ∃ (o : Option Value ⊕ Nat) (A2 : Nat → Nat → Int32) (F2 : Nat → Int32) (B2 : Nat → Int64) (tg2 : Bool), iv_G L xs d M.1 pc lv st (ia_wd A F B) tg (k + c) (z + iv_xN * c) (o, ia_wd A2 F2 B2, tg2, k + P.2.2.2, z + iv_xN * P.2.2.2) ∧ ia_inv A2 F2 [] ∧ ia_fr M.2.2.2.2.2.1 M.2.2.2.2.2.2.1 A0 F0 A2 F2 ∧ ia_pk P o (ia_ev [] A2 F2 (ia_g0 vals))
def ia_gk (vals : List Value) (g : Nat → Int32) : Prop := ∀ m, 100 ≤ m → m < 200 → g m = ia_g0 vals m
def ia_om (E : Nat → Int32) (th : Option Nat) (re : Option ia_V) (o : Option Value ⊕ Nat) : Prop := match th, o with
  | none, .inl v => (match re, v with
    | none, none => True
    | some a, some u => ia_in E a u
    | _, _ => False)
  | some q, .inr q2 => q2 = q
  | _, _ => False
theorem ia_ps_ok {lv : List (Nat × Value)} {A : Nat → Nat → Int32} {F g : Nat → Int32} {vs : List (Nat × ia_V)} (hv : ia_vk lv A F g vs) (hi : ia_inv A F []) (hg : ia_gk vals g) {th : Option Nat} {re : Option ia_V} {n : Nat} (h : ia_ps M vs th re n = true) {o : Option Value ⊕ Nat}
    (ho : ia_om (ia_ev lv A F g) th re o) : ∃ P ∈ M.2.2.2.2.1, P.2.2.2 = n ∧ ia_pk P o (ia_ev [] A F (ia_g0 vals)) := by
  obtain ⟨P, hP, h⟩ := List.any_eq_true.mp h
  rw [Bool.and_eq_true, Bool.and_eq_true, Bool.and_eq_true, Bool.and_eq_true] at h
  obtain ⟨⟨⟨⟨h1, h2⟩, h3⟩, h4⟩, h5⟩ := h
  have hE : ∀ m, 1000 ≤ m → ia_ev [] A F (ia_g0 vals) m = ia_ev lv A F g m := fun m hm => by rw [← ia_w_ev [] _ hm, ← ia_w_ev lv g hm]
  have hE2 : ∀ m, 100 ≤ m → m < 200 → ia_ev [] A F (ia_g0 vals) m = ia_ev lv A F g m := fun m hm hm2 => by
    unfold ia_ev
    rw [if_neg (by omega), if_pos (by omega), if_neg (by omega), if_pos (by omega), hg m hm hm2]
  refine ⟨P, hP, Nat.eq_of_beq_eq_true h1, ?_, fun f hf => ?_⟩
  · cases hth : P.1 with
    | none =>
      rw [hth] at h2
      cases th with
      | some q => cases h2
      | none =>
        cases o with
        | inr q => exact ho.elim
        | inl v =>
          cases hre : P.2.1 with
          | none =>
            rw [hre] at h3
            cases re with
            | some a => cases h3
            | none =>
              cases v with
              | none => trivial
              | some u => exact ho.elim
          | some b =>
            rw [hre] at h3
            cases re with
            | none => cases h3
            | some a =>
              cases v with
              | none => exact ho.elim
              | some u =>
                dsimp only at h3
                rw [Bool.and_eq_true] at h3
                exact ia_tg_ok (fun m hm => hE m (Nat.le_of_ble_eq_true hm)) h3.2 (ia_leV_ok hv hi h3.1 (ia_redu_ok hv hi ho))
    | some q =>
      rw [hth] at h2
      cases th with
      | none => cases h2
      | some q2 =>
        cases o with
        | inl v => exact ho.elim
        | inr q3 =>
          dsimp only at h2 ho ⊢
          rw [ho, Nat.eq_of_beq_eq_true h2]
  · have h6 := List.all_eq_true.mp h4 f hf
    have h7 := ia_facts_ok hv hi h5 hf
    rw [Bool.or_eq_true, Bool.and_eq_true] at h6
    rcases h6 with h6 | h6
    · rw [hE f.1 (Nat.le_of_ble_eq_true h6)]
      exact h7
    · rw [hE2 f.1 (Nat.le_of_ble_eq_true h6.1) (ia_blt h6.2)]
      exact h7
theorem ia_fs_mem {pc : Nat} : ∀ {T : List (Nat × Instr × Nat)} {e : Nat × Instr × Nat} {r : List (Nat × Instr × Nat)}, ia_fs pc T = e :: r → e.1 = pc ∧ e ∈ T ∧ ∀ q ∈ r, q ∈ T
  | [], _, _, h => by cases h
  | a :: T, e, r, h => by
    unfold ia_fs at h
    cases hb : Nat.beq a.1 pc with
    | true =>
      rw [hb] at h
      cases h
      exact ⟨Nat.eq_of_beq_eq_true hb, List.mem_cons_self, fun q hq => List.mem_cons_of_mem _ hq⟩
    | false =>
      rw [hb] at h
      obtain ⟨h1, h2, h3⟩ := ia_fs_mem (T := T) h
      exact ⟨h1, List.mem_cons_of_mem _ h2, fun q hq => List.mem_cons_of_mem _ (h3 q hq)⟩
theorem ia_sx_mem {pc μ : Nat} {T : List (Nat × Instr × Nat)} (hT : ∀ e ∈ T, e ∈ iv_t μ) {e : Nat × Instr × Nat} {r : List (Nat × Instr × Nat)} (h : ia_sx pc μ T = e :: r) : e.1 = pc ∧ e ∈ iv_t μ ∧ ∀ q ∈ r, q ∈ iv_t μ := by
  unfold ia_sx at h
  split at h
  · exact ia_fs_mem h
  · obtain ⟨h1, h2, h3⟩ := ia_fs_mem h
    exact ⟨h1, hT _ h2, fun q hq => hT _ (h3 q hq)⟩
theorem ia_inc_ok : ∀ {l : List (Nat × Instr × Nat)}, ia_inc l = true → ∀ e ∈ l, iv_look l e.1 = some e.2
  | [], _, e, h => by cases h
  | a :: r, hi, e, h => by
    unfold ia_inc at hi
    rw [Bool.and_eq_true] at hi
    unfold iv_look
    rcases List.mem_cons.mp h with rfl | h
    · rw [if_pos rfl]
    · have h1 := ia_blt (List.all_eq_true.mp hi.1 e h)
      rw [if_neg (by omega)]
      exact ia_inc_ok hi.2 e h
theorem ia_kd5 {i : Instr} {x : Nat} (h0 : ¬ iv_kd i x = 0) (h1 : ¬ iv_kd i x = 1) (h2 : ¬ iv_kd i x = 2) (h3 : ¬ iv_kd i x = 3) (h4 : ¬ iv_kd i x = 4) : iv_kd i x = 5 := iv_kd5 h0 h1 h2 h3 h4
/-- what holds of a cut that measures less -/
def ia_IH (L : Nat) (xs : Nat → Int32) (d k z : Nat) (M : ia_M) (vals : List Value) (A0 : Nat → Nat → Int32) (F0 : Nat → Int32) (m : Int) : Prop := ∀ N ∈ M.2.2.2.2.2.2.2.2.2.2, ∀ (lv : List (Nat × Value)) (st : List Value) (A : Nat → Nat → Int32) (F g : Nat → Int32) (B : Nat → Int64) (tg : Bool), ia_ok N.1 lv st A F g → ia_gk vals g → ia_fr M.2.2.2.2.2.1 M.2.2.2.2.2.2.1 A0 F0 A F → N.2.1 + ia_msm (ia_ev lv A F g) M.2.2.2.2.2.2.2.2.1 N.2.2.1 < m → ia_Gl L xs d k z M vals A0 F0 N.1.1 lv st A F B tg N.1.2.2.2.1
theorem ia_arr_ok {N0 : ia_N} {sp : List Nat × List Nat} {S : ia_S} {lv : List (Nat × Value)} {st : List Value} {A : Nat → Nat → Int32} {F g : Nat → Int32} {B : Nat → Int64} {tg : Bool} {m : Int} (hl : ∀ N ∈ M.2.2.2.2.2.2.2.2.2.2, N.2.2.1.length = M.2.2.2.2.2.2.2.2.1.length) (hl0 : N0.2.2.1.length = M.2.2.2.2.2.2.2.2.1.length) (hm : N0.2.1 + ia_gsm (ia_ev lv A F g) 0 N0.2.2.1 = m) (ih : ia_IH L xs d k z M vals A0 F0 m) (h : ia_arr M N0 sp S = true) (hok : ia_ok S lv st A F g) (hg : ia_gk vals g) (hfr : ia_fr M.2.2.2.2.2.1 M.2.2.2.2.2.2.1 A0 F0 A F) : ia_Gl L xs d k z M vals A0 F0 S.1 lv st A F B tg S.2.2.2.1 := by
  unfold ia_arr at h
  rw [Bool.and_eq_true] at h
  have hi : ia_inv A F [] := by
    have := hok.2.2
    rwa [List.isEmpty_iff.mp h.1] at this
  obtain ⟨v2, h2, k2⟩ := ia_spl_ok hi sp.1 (ia_nrm_ok hok.1 hi)
  obtain ⟨N, hN, h3⟩ := List.any_eq_true.mp (List.all_eq_true.mp h.2 v2 h2)
  rw [Bool.and_eq_true, Bool.and_eq_true, Bool.and_eq_true, Bool.and_eq_true, decide_eq_true_eq, decide_eq_true_eq] at h3
  obtain ⟨⟨⟨⟨c1, -⟩, c2⟩, c3⟩, c4⟩ := h3
  have e := ia_dsm_ok k2 hi M.2.2.2.2.2.2.2.2.1 0 N.2.2.1 N0.2.2.1 (hl N hN) hl0
  have := ih N hN lv st A F g B tg (ia_leS_ok k2 hi hok.2.1 c3) hg hfr (by omega)
  rw [Nat.eq_of_beq_eq_true c1, Nat.eq_of_beq_eq_true c2] at this
  exact this
theorem ia_nx0 {μ pc x : Nat} {i : Instr} {lv : List (Nat × Value)} {st : List Value} {w : iv_W} (hl : iv_look (iv_t μ) pc = some (i, x)) (hk : iv_kd i x = 0) : iv_nx L xs μ pc lv st w = iv_step L xs μ i x pc lv st w := by
  unfold iv_nx
  simp only [hl, hk]
theorem ia_nx4 {μ pc x : Nat} {i : Instr} {lv : List (Nat × Value)} {st st2 : List Value} {w w2 : iv_W} (hl : iv_look (iv_t μ) pc = some (i, x)) (hk : iv_kd i x = 4) (he : iv_lib x st w = some (st2, w2)) : iv_nx L xs μ pc lv st w = some (pc + 3, lv, st2, w2) := by
  unfold iv_nx
  simp only [hl, hk, he]
theorem ia_Gl1 {pc pc2 c : Nat} {lv lv2 : List (Nat × Value)} {st st2 : List Value} {A A1 : Nat → Nat → Int32} {F F1 : Nat → Int32} {B B1 : Nat → Int64} {tg : Bool} (h : iv_nx L xs M.1 pc lv st (ia_wd A F B) = some (pc2, lv2, st2, ia_wd A1 F1 B1)) (hg : ia_Gl L xs d k z M vals A0 F0 pc2 lv2 st2 A1 F1 B1 tg c) : ia_Gl L xs d k z M vals A0 F0 pc lv st A F B tg c := by
  obtain ⟨P, hP, o, A2, F2, B2, tg2, h1, h2⟩ := hg
  exact ⟨P, hP, o, A2, F2, B2, tg2, iv_G1 h h1, h2⟩
theorem ia_rok_ok {i : Instr} {x : Nat} {S : ia_S} {lv : List (Nat × Value)} {st : List Value} {A : Nat → Nat → Int32} {F g : Nat → Int32} {B : Nat → Int64} {tg : Bool} (hl : iv_look (iv_t M.1) S.1 = some (i, x)) (hk : iv_kd i x = 1) (h : ia_rok M i S = true) (hok : ia_ok S lv st A F g) (hg : ia_gk vals g) (hfr : ia_fr M.2.2.2.2.2.1 M.2.2.2.2.2.2.1 A0 F0 A F) : ia_Gl L xs d k z M vals A0 F0 S.1 lv st A F B tg S.2.2.2.1 := by
  unfold ia_rok at h
  rw [Bool.and_eq_true] at h
  have hi : ia_inv A F [] := by
    have := hok.2.2
    rwa [List.isEmpty_iff.mp h.1] at this
  have key : ∀ (v : Option Value) (re : Option ia_V), iv_ret (iv_r M.1) i st = some v → ia_ps M S.2.1 none re S.2.2.2.1 = true → ia_om (ia_ev lv A F g) none re (.inl v) → ia_Gl L xs d k z M vals A0 F0 S.1 lv st A F B tg S.2.2.2.1 := fun v re h1 h2 h3 => by
    obtain ⟨P, hP, e, hpk⟩ := ia_ps_ok (vals := vals) hok.1 hi hg h2 (o := .inl v) h3
    refine ⟨P, hP, .inl v, A, F, B, tg, ?_, hi, hfr, hpk⟩
    rw [e]
    exact iv_Gret hl hk h1
  have hs := hok.2.1
  have h2 := h.2
  split at h2
  · next e1 e2 =>
    rw [e2] at hs
    cases st with
    | nil => exact key none none (by rw [e1]; rfl) h2 trivial
    | cons _ _ => exact hs.elim
  · next q e1 e2 =>
    rw [e2] at hs
    obtain ⟨a, s, rfl, ha, hs2⟩ := ia_sk_i hs
    cases s with
    | nil => exact key (some (.int a)) (some (.inl q)) (by rw [e1]; rfl) h2 ha
    | cons _ _ => exact hs2.elim
  · next q e1 e2 =>
    rw [e2] at hs
    rw [Bool.and_eq_true] at h2
    obtain ⟨a, s, rfl, ha, hs2⟩ := ia_sk_i hs
    have hw := ia_wi_ok h2.1 ha
    cases s with
    | nil =>
      refine key (some (.int a)) (some (.inl q)) ?_ h2.2 ha
      rw [e1]
      show (if a = 0 ∨ a = 1 then some (some (Value.int a)) else none) = _
      rw [if_pos]
      have : a.toInt = 0 ∨ a.toInt = 1 := by
        dsimp only at hw
        omega
      rcases this with e | e
      · exact Or.inl (Int32.toInt_inj.mp e)
      · exact Or.inr (Int32.toInt_inj.mp e)
    | cons _ _ => exact hs2.elim
  · next cs e1 e2 =>
    rw [e2] at hs
    obtain ⟨a, s, rfl, ha, hs2⟩ := ia_sk_r hs
    cases s with
    | nil => exact key (some (.ref a)) (some (.inr (.inl cs))) (by rw [e1]; rfl) h2 ha
    | cons _ _ => exact hs2.elim
  · next cs e1 e2 =>
    rw [e2] at hs
    obtain ⟨a, s, rfl, ha, hs2⟩ := ia_sk_r hs
    cases s with
    | nil => exact key (some (.ref a)) (some (.inr (.inl cs))) (by rw [e1]; rfl) h2 ha
    | cons _ _ => exact hs2.elim
  · cases h2
end
