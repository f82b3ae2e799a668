/-! calls; what a context claims -/
def ia_g0 (vs : List Value) (n : Nat) : Int32 := match iv_ld (lv_args 0 vs) (n - 100) with
  | some (.int x) => x
  | _ => 0
def ia_pk (P : ia_P) (o : Option Value ⊕ Nat) (E : Nat → Int32) : Prop := (match P.1, o with
  | none, .inl v => (match P.2.1, v with
    | none, none => True
    | some a, some u => ia_in E a u
    | _, _ => False)
  | some q, .inr q2 => q2 = q
  | _, _ => False) ∧ ∀ f ∈ P.2.2.1, f.2.1 ≤ (E f.1).toInt ∧ (E f.1).toInt ≤ f.2.2
/-- in its context the method comes to one of its ends -/
def ia_Holds (M : ia_M) : Prop := ∀ (L : Nat) (xs : Nat → Int32) (d : Nat) (tg : Bool) (k z : Nat) (A : Nat → Nat → Int32) (F : Nat → Int32) (B : Nat → Int64) (vs : List Value), M.2.1 ≤ d + 1 → ia_sk (ia_ev [] A F (ia_g0 vs)) M.2.2.1 vs → ia_inv A F [] → (∀ f ∈ M.2.2.2.1, 1000 ≤ f.1 → f.2.1 ≤ (ia_w A F f.1).toInt ∧ (ia_w A F f.1).toInt ≤ f.2.2) →
  ∃ P ∈ M.2.2.2.2.1, ∃ (o : Option Value ⊕ Nat) (A2 : Nat → Nat → Int32) (F2 : Nat → Int32) (B2 : Nat → Int64) (tg2 : Bool), iv_G L xs d M.1 0 (lv_args 0 vs) [] (ia_wd A F B) tg k z (o, ia_wd A2 F2 B2, tg2, k + P.2.2.2, z + iv_xN * P.2.2.2) ∧ ia_inv A2 F2 [] ∧ ia_fr M.2.2.2.2.2.1 M.2.2.2.2.2.2.1 A F A2 F2 ∧ ia_pk P o (ia_ev [] A2 F2 (ia_g0 vs))
theorem ia_sk_len {E : Nat → Int32} : ∀ {a : List ia_V} {s : List Value}, ia_sk E a s → s.length = a.length
  | [], [], _ => rfl
  | _ :: _, _ :: _, h => by simp [ia_sk_len h.2]
  | [], _ :: _, h => h.elim
  | _ :: _, [], h => h.elim
theorem ia_sk_take {E : Nat → Int32} : ∀ (n : Nat) {a : List ia_V} {s : List Value}, ia_sk E a s → ia_sk E (a.take n) (s.take n) ∧ ia_sk E (a.drop n) (s.drop n)
  | 0, _, _, h => ⟨trivial, h⟩
  | n + 1, [], [], _ => ⟨trivial, trivial⟩
  | n + 1, _ :: _, _ :: _, h => ⟨⟨h.1, (ia_sk_take n h.2).1⟩, (ia_sk_take n h.2).2⟩
  | _ + 1, [], _ :: _, h => h.elim
  | _ + 1, _ :: _, [], h => h.elim
theorem ia_sk_app {E : Nat → Int32} : ∀ {a b : List ia_V} {s t : List Value}, ia_sk E a s → ia_sk E b t → ia_sk E (a ++ b) (s ++ t)
  | [], _, [], _, _, h => h
  | _ :: _, _, _ :: _, _, h, h2 => ⟨h.1, ia_sk_app h.2 h2⟩
  | [], _, _ :: _, _, h, _ => h.elim
  | _ :: _, _, [], _, h, _ => h.elim
theorem ia_sk_rev {E : Nat → Int32} : ∀ {a : List ia_V} {s : List Value}, ia_sk E a s → ia_sk E a.reverse s.reverse
  | [], [], _ => trivial
  | a :: r, v :: s, h => by
    rw [List.reverse_cons, List.reverse_cons]
    exact ia_sk_app (ia_sk_rev h.2) ⟨h.1, trivial⟩
  | [], _ :: _, h => h.elim
  | _ :: _, [], h => h.elim
theorem ia_cat_ok {E : Nat → Int32} {a : ia_V} {v : Value} (h : ia_in E a v) : v.category = ia_cat a := by
  cases a using ia_Vc <;> cases v <;> first | rfl | exact h.elim
theorem ia_slot_ok {E : Nat → Int32} {t : Nat} : ∀ {as : List ia_V} {vs : List Value} (k : Nat) {a : ia_V}, ia_slot t k as = some a → ia_sk E as vs → ∃ v, iv_ld (lv_args k vs) t = some v ∧ ia_in E a v
  | [], _, _, _, h, _ => by cases h
  | b :: r, [], _, _, _, hs => hs.elim
  | b :: r, v :: vs, k, a, h, hs => by
    unfold ia_slot at h
    unfold lv_args iv_ld
    cases hb : Nat.beq k t with
    | true =>
      rw [hb] at h
      cases h
      rw [if_pos (Nat.eq_of_beq_eq_true hb)]
      exact ⟨v, rfl, hs.1⟩
    | false =>
      rw [hb] at h
      rw [if_neg (ia_bne hb)]
      have hc := ia_cat_ok hs.1
      have e : (if v.category = 2 then k + 2 else k + 1) = k + ia_cat b := by
        rw [hc]
        cases b using ia_Vc <;> rfl
      rw [e]
      exact ia_slot_ok _ h hs.2
section
variable {lv : List (Nat × Value)} {A A2 A0 : Nat → Nat → Int32} {F F2 F0 g : Nat → Int32} {B : Nat → Int64} {vs : List (Nat × ia_V)}
theorem ia_tell_ok {as : List ia_V} {vals : List Value} {p : Nat → Bool} (hi : ia_inv A2 F2 []) (has : ia_sk (ia_ev lv A F g) as vals) (hE : ∀ m, p m = false → ia_ev lv A2 F2 g m = ia_ev lv A F g m) : ∀ (fs : List (Nat × Int × Int)) {vs : List (Nat × ia_V)}, ia_vk lv A2 F2 g vs → (∀ f ∈ fs, f.2.1 ≤ (ia_ev [] A2 F2 (ia_g0 vals) f.1).toInt ∧ (ia_ev [] A2 F2 (ia_g0 vals) f.1).toInt ≤ f.2.2) → ∃ v2, ia_tell as p fs vs = some v2 ∧ ia_vk lv A2 F2 g v2
  | [], vs, hv, _ => ⟨vs, rfl, hv⟩
  | f :: r, vs, hv, hf => by
    have h1 := hf f List.mem_cons_self
    have hr := fun f2 h => hf f2 (List.mem_cons_of_mem f h)
    unfold ia_tell
    cases hb : Nat.ble 1000 f.1 with
    | true =>
      have hb2 := Nat.le_of_ble_eq_true hb
      have e : ia_ev [] A2 F2 (ia_g0 vals) f.1 = ia_ev lv A2 F2 g f.1 := by rw [← ia_w_ev [] _ hb2, ← ia_w_ev lv g hb2]
      rw [e] at h1
      obtain ⟨v1, e1, k1⟩ := ia_ref_ok hi h1.1 h1.2 [(f.1, 0)] hv (fun t ht => by
        rw [List.mem_singleton] at ht
        subst ht
        exact (Int.add_zero _).symm)
      obtain ⟨v2, e2, k2⟩ := ia_tell_ok hi has hE r k1 hr
      exact ⟨v2, by dsimp only [cond_true]; rw [e1]; exact e2, k2⟩
    | false =>
      dsimp only [cond_false]
      cases hc : (Nat.ble 100 f.1 && Nat.blt f.1 200) with
      | false => exact ia_tell_ok hi has hE r hv hr
      | true =>
        dsimp only [cond_true]
        split
        · next q eq =>
          rw [Bool.and_eq_true] at hc
          have c1 := Nat.le_of_ble_eq_true hc.1
          have c2 := ia_blt hc.2
          obtain ⟨v, w1, w2⟩ := ia_slot_ok (t := f.1 - 100) 0 eq has
          cases v with
          | int x =>
            have e : ia_ev [] A2 F2 (ia_g0 vals) f.1 = x := by
              unfold ia_ev
              rw [if_neg (by omega), if_pos (by omega)]
              unfold ia_g0
              rw [w1]
            rw [e] at h1
            have w3 : ia_in (ia_ev lv A2 F2 g) (ia_rv (ia_fp p) (.inl q)) (.int x) := ia_rv_in (ia_fp_ok hE) (a := .inl q) w2
            have b1 := w2.1
            have b2 := w2.2.1
            obtain ⟨v1, e1, k1⟩ := ia_ref_ok hi (lo := max f.2.1 q.1) (hi' := min f.2.2 q.2.1) (x := x.toInt) (by omega) (by omega) (ia_rt (ia_fp p) q.2.2.1) hv w3.2.2.1
            obtain ⟨v2, e2, k2⟩ := ia_tell_ok hi has hE r k1 hr
            exact ⟨v2, by rw [e1]; exact e2, k2⟩
          | _ => exact w2.elim
        · exact ia_tell_ok hi has hE r hv hr
theorem ia_chp_ok {M : ia_M} (hfr : ia_fr M.2.2.2.2.2.1 M.2.2.2.2.2.2.1 A F A2 F2) (m : Nat) (h : ia_chp M m = false) : ia_ev lv A2 F2 g m = ia_ev lv A F g m := by
  unfold ia_chp at h
  cases h1 : Nat.blt m 1000 with
  | true =>
    have := ia_blt h1
    unfold ia_ev
    split
    · rfl
    · rfl
  | false =>
    have n1 : 1000 ≤ m := by
      by_cases e : m < 1000
      · rw [show Nat.blt m 1000 = true from Nat.ble_eq_true_of_le e] at h1
        cases h1
      · omega
    rw [h1] at h
    dsimp only [cond_false] at h
    rw [← ia_w_ev lv g n1, ← ia_w_ev lv g n1]
    unfold ia_w
    cases h2 : Nat.blt m 10000 with
    | true =>
      rw [h2] at h
      rw [if_pos (ia_blt h2), if_pos (ia_blt h2)]
      exact hfr.1 _ h
    | false =>
      have n2 : ¬ m < 10000 := fun e => by
        rw [show Nat.blt m 10000 = true from Nat.ble_eq_true_of_le e] at h2
        cases h2
      rw [h2] at h
      dsimp only [cond_false] at h
      rw [if_neg n2, if_neg n2]
      rw [Bool.or_eq_false_iff, Bool.not_eq_false'] at h
      refine hfr.2 _ _ h.1 (fun t ht e1 e2 => ?_)
      have : M.2.2.2.2.2.2.1.any (fun t => Nat.beq (m / 10000) (t.1 + 1) && Nat.ble t.2.1 (m % 10000) && Nat.ble (m % 10000) t.2.2) = true := by
        refine List.any_eq_true.mpr ⟨t, ht, ?_⟩
        rw [Bool.and_eq_true, Bool.and_eq_true]
        refine ⟨⟨?_, Nat.ble_eq_true_of_le e2.1⟩, Nat.ble_eq_true_of_le e2.2⟩
        rw [show m / 10000 = t.1 + 1 by omega]
        exact Nat.beq_refl _
      rw [this] at h
      cases h.2
theorem ia_rcv_ok {E : Nat → Int32} {k ν : Nat} {as : List ia_V} {vals : List Value} (hs : ia_sk E as vals) (h : ia_rcv k ν as = true) : iv_rc (ia_wd A F B) k ν vals = true := by
  unfold ia_rcv at h
  rw [Bool.and_eq_true] at h
  unfold iv_rc
  rw [Bool.and_eq_true, decide_eq_true_eq]
  refine ⟨by rw [ia_cs_ok hs]; exact Nat.le_of_ble_eq_true h.1, ?_⟩
  have key : ∀ (cs : List Nat) (a : Nat), cs.all (fun a => match ia_cell a with
    | some (.inl (c, _)) => Nat.beq c (iv_cn ν)
    | _ => false) = true → a ∈ cs → (iv_obj (ia_wd A F B) a (iv_cn ν)).isSome = true := fun cs a h1 h2 => by
    have h3 := List.all_eq_true.mp h1 a h2
    split at h3
    · next c fs e =>
      obtain ⟨j, rfl, hj⟩ := ia_cell_eq e
      obtain rfl := Nat.eq_of_beq_eq_true h3
      unfold iv_obj
      simp only [ia_wd_get, hj, Option.map_some, ia_mk, if_true]
      rfl
    · cases h3
  have h2 := h.2
  split at h2
  · next cs r =>
    obtain ⟨a, s, rfl, ha, -⟩ := ia_sk_r hs
    exact key cs a h2 ha
  · next cs r =>
    obtain ⟨a, s, rfl, ha, -⟩ := ia_sk_r hs
    exact key cs a h2 ha
  · rfl
  · rfl
  · cases h2
theorem ia_ev_no (hv : ia_vk lv A F g vs) {k m : Nat} (hm : m ≠ k) (ho : m + 1 ≠ k ∨ ia_one vs m = true) : ia_ev (iv_no lv k) A F g m = ia_ev lv A F g m := by
  unfold ia_ev
  by_cases h : m < 100
  · rw [if_pos h, if_pos h]
    unfold iv_no
    rcases ho with ho | ho
    · rw [ia_ld_keep]
      intro q e
      simp only [Bool.and_eq_true, Bool.not_eq_true', beq_eq_false_iff_ne, Bool.and_eq_false_iff, ne_eq]
      exact ⟨by omega, Or.inl (by omega)⟩
    · obtain ⟨u, h1, h2⟩ := ia_one_ok hv h ho
      rw [ia_ld_st1 (u := u) hm (fun e => by omega) h1, h1]
  · rw [if_neg h, if_neg h]
theorem ia_nol_ok (hv : ia_vk lv A F g vs) {k : Nat} : ia_vk (iv_no lv k) A F g (ia_nol vs k) := by
  have hf : ∀ m d, ia_fn vs k m = some d → (ia_ev (iv_no lv k) A F g m).toInt = (ia_ev lv A F g m).toInt + d := fun m d h => by
    unfold ia_fn at h
    cases h1 : Nat.beq m k with
    | true => rw [h1] at h; cases h
    | false =>
      rw [h1] at h
      dsimp only [cond_false] at h
      cases h2 : (Nat.beq (m + 1) k && !(ia_one vs m)) with
      | true => rw [h2] at h; cases h
      | false =>
        rw [h2] at h
        cases h
        rw [ia_ev_no hv (ia_bne h1), Int.add_zero]
        rw [Bool.and_eq_false_iff] at h2
        rcases h2 with h2 | h2
        · exact Or.inl (ia_bne h2)
        · exact Or.inr (by rw [Bool.not_eq_false'] at h2; exact h2)
  refine ia_chg hf (fun s hs => ?_)
  obtain ⟨h1, h2⟩ := List.mem_filter.mp hs
  rw [Bool.and_eq_true, Bool.not_eq_true', Bool.not_eq_true', Bool.and_eq_false_iff] at h2
  obtain ⟨u, h3, h4⟩ := hv s h1
  refine ⟨u, ?_, h4⟩
  unfold ia_vl at h3 ⊢
  by_cases hn : s.1 < 100
  · rw [if_pos hn] at h3 ⊢
    refine ia_ld_st1 (u := u) (ia_bne h2.1) ?_ h3
    rintro ⟨e1, e2⟩
    rcases h2.2 with h5 | h5
    · exact ia_bne h5 e1
    · cases hs2 : s.2 using ia_Vc with
      | l => rw [hs2] at h5; cases h5
      | i q => rw [hs2] at h4; cases u <;> first | exact h4 | cases e2
      | r cs => rw [hs2] at h4; cases u <;> first | exact h4 | cases e2
  · rw [if_neg hn] at h3 ⊢
    rw [← h3]
    have : ia_ev (iv_no lv k) A F g s.1 = ia_ev lv A F g s.1 := by
      unfold ia_ev
      rw [if_neg hn, if_neg hn]
    rw [this]
theorem ia_fr_sub {md md2 : List Nat} {am am2 : List (Nat × Nat × Nat)} (h : ia_fr md am A F A2 F2) (h1 : md.all (fun q => ia_mem q md2) = true) (h2 : am.all (fun t => ia_cov am2 t.1 t.2.1 t.2.2) = true) : ia_fr md2 am2 A F A2 F2 := by
  refine ⟨fun q hq => h.1 q ?_, fun a j ha hj => h.2 a j ha (fun t ht e1 e2 => ?_)⟩
  · cases hm : ia_mem q md with
    | false => rfl
    | true =>
      have := List.all_eq_true.mp h1 q (ia_mem_iff.mp hm)
      rw [this] at hq
      cases hq
  · have h3 := List.all_eq_true.mp h2 t ht
    unfold ia_cov at h3
    rw [e1, ha, Bool.not_true, Bool.false_or, List.any_eq_true] at h3
    obtain ⟨s, hs, h4⟩ := h3
    rw [Bool.and_eq_true, Bool.and_eq_true] at h4
    have q1 := Nat.eq_of_beq_eq_true h4.1.1
    have q2 := Nat.le_of_ble_eq_true h4.1.2
    have q3 := Nat.le_of_ble_eq_true h4.2
    exact hj s hs q1 ⟨by omega, by omega⟩
end
