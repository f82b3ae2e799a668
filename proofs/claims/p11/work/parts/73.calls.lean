/-! type as the law calls it; spoil on both sides -/
theorem id_raC {a : Nat} (h : Nat.beq a 52 = false) (j : Nat) : ia_ra a j = ia_gr a ia_ral := by
  unfold ia_ra
  rw [h]
  rfl
theorem id_ra7 (j : Nat) : ia_ra 7 j = (0, 255) := (id_raC rfl j).trans (by decide +kernel)
theorem id_ra45 (j : Nat) : ia_ra 45 j = (0, 255) := (id_raC rfl j).trans (by decide +kernel)
theorem id_ra4 (j : Nat) : ia_ra 4 j = (0, 255) := (id_raC rfl j).trans (by decide +kernel)
theorem id_ra46 (j : Nat) : ia_ra 46 j = (0, 255) := (id_raC rfl j).trans (by decide +kernel)
theorem id_invR {A A2 : Nat → Nat → Int32} {F : Nat → Int32} {r : Nat} (hr : ∀ j, ia_ra r j = (0, 255)) (hp : ia_pa r = false) (hi : ia_inv A F []) (h : id_R r A A2) : ia_inv A2 F [] := by
  have e : A2 = ia_uC A r (A2 r) := by
    funext a
    unfold ia_uC
    by_cases ha : a = r
    · rw [if_pos ha, ha]
    · rw [if_neg ha, h.1 a ha]
  rw [e]
  refine ia_inv_C hi hp (fun j hj => ?_)
  rw [hr j]
  rcases h.2 j with h2 | h2
  · rw [h2]
    have h4 := hi.1 (10000 * (r + 1) + j) (by omega)
    rwa [ia_df_a hj, ia_w_ev [] F (by omega), ia_ev_a hj, hr j] at h4
  · exact h2
theorem id_uFe (F : Nat → Int32) (q : Nat) (v : Int32) : iv_uF F q v = ia_uF F q v := rfl
theorem id_603 {A : Nat → Nat → Int32} {F : Nat → Int32} (hi : ia_inv A F []) : 0 ≤ (F 603).toInt ∧ (F 603).toInt ≤ 40 := by
  have h := hi.1 1603 (by omega)
  rw [show ia_df 1603 = (0, 40) by decide +kernel] at h
  exact h
theorem id_4401 {A : Nat → Nat → Int32} {F : Nat → Int32} (hi : ia_inv A F []) : 0 ≤ (F 4401).toInt ∧ (F 4401).toInt ≤ 40 := by
  have h := hi.1 5401 (by omega)
  rw [show ia_df 5401 = (0, 40) by decide +kernel] at h
  exact h
theorem id_400 {A : Nat → Nat → Int32} {F : Nat → Int32} (hi : ia_inv A F []) : ia_inv A (iv_uF F 4400 0) [] := by
  rw [id_uFe]
  exact ia_inv_F hi (by omega) (by decide +kernel) (by decide +kernel)
set_option maxRecDepth 1000000 in
set_option maxHeartbeats 40000000 in
theorem id_t34 {L : Nat} {xs : Nat → Int32} {d : Nat} {tg : Bool} {A : Nat → Nat → Int32} {F : Nat → Int32} {B : Nat → Int64} (e : Int64) (hi : ia_inv A F []) : ∃ (v : Int32) (A2 : Nat → Nat → Int32) (F2 : Nat → Int32), iv_G L xs d 34 0 [(0, .ref 6), (1, .long e)] [] (iv_wd A F B) tg 0 0 (.inl (some (.int v)), iv_wd A2 F2 B, tg, 0, 0) ∧ (v = 0 ∨ v = 1) ∧ ia_inv A2 F2 [] ∧ (∀ j, A2 5 j = A 5 j) ∧ (∀ j, A2 48 j = A 48 j) := by
  have hr := id_603 hi
  by_cases h : iv_g8 e
  · by_cases hm : F 603 + id_cnt e < 41
    · obtain ⟨A2, hR, h1, h2, hG⟩ := id_ap1 (L := L) (xs := xs) (d := d) (tg := tg) (A := A) (B := B) h hr.1 hr.2 hm
      refine ⟨1, A2, _, hG, Or.inr rfl, ?_, fun j => by rw [hR.1 5 (by decide)], fun j => by rw [hR.1 48 (by decide)]⟩
      rw [id_uFe]
      refine ia_inv_F (id_invR id_ra7 rfl hi hR) (by omega) ?_ ?_
      · rw [show ia_gr 603 ia_rfl = (0, 40) by decide +kernel]
        exact h2
      · rw [show ia_gr 603 ia_rfl = (0, 40) by decide +kernel]
        exact h1
    · exact ⟨0, A, F, id_ap2 h hm, Or.inl rfl, hi, fun _ => rfl, fun _ => rfl⟩
  · exact ⟨0, A, F, id_ap0 h, Or.inl rfl, hi, fun _ => rfl, fun _ => rfl⟩
set_option maxRecDepth 1000000 in
set_option maxHeartbeats 40000000 in
theorem id_t2 {L : Nat} {xs : Nat → Int32} {d : Nat} {tg : Bool} {A : Nat → Nat → Int32} {F : Nat → Int32} {B : Nat → Int64} (e : Int64) (hi : ia_inv A F []) : ∃ (v : Int32) (A2 : Nat → Nat → Int32) (F2 : Nat → Int32) (B2 : Nat → Int64), iv_G L xs (d + 1) 2 0 (lv_args 0 [.ref 1, .long e]) [] (ia_wd A F B) tg 0 0 (.inl (some (.int v)), ia_wd A2 F2 B2, tg, 0, 0) ∧ ia_inv A2 F2 [] ∧ (∀ j, A2 5 j = A 5 j) ∧ (∀ j, A2 48 j = A 48 j) := by
  obtain ⟨v, A2, F2, hG, hv, hi2, hk⟩ := id_t34 (L := L) (xs := xs) (d := d) (tg := tg) (A := A) (F := F) (B := B) e hi
  refine ⟨v, A2, F2, B, ?_, hi2, hk⟩
  show iv_G L xs (d + 1) 2 0 [(0, .ref 1), (1, .long e)] [] (iv_wd A F B) tg 0 0 (.inl (some (.int v)), iv_wd A2 F2 B, tg, 0, 0)
  refine iv_Gm 3 (pc2 := 5) (lv2 := [(0, .ref 1), (1, .long e)]) (st2 := [.long e, .ref 6]) (w2 := (iv_wd A F B)) rfl ?_
  refine iv_Gcall (ν := 34) (c := 2) (as := [.ref 6, .long e]) (rest := []) (w2 := (iv_wd A2 F2 B)) (tg2 := tg) (k2 := 0) (z2 := 0) (v := (some (.int v))) rfl rfl rfl rfl rfl rfl rfl (Nat.le_of_ble_eq_true rfl) rfl hG ?_
  show iv_G _ _ _ _ 8 [(0, .ref 1), (1, .long e)] [.int v] (iv_wd A2 F2 B) tg _ _ _
  rcases hv with rfl | rfl
  · exact iv_Gret rfl rfl rfl
  · exact iv_Gret rfl rfl rfl
set_option maxRecDepth 1000000 in
set_option maxHeartbeats 40000000 in
theorem id_t134 {L : Nat} {xs : Nat → Int32} {d : Nat} {tg : Bool} {A : Nat → Nat → Int32} {F : Nat → Int32} {B : Nat → Int64} (e : Int64) (hi : ia_inv A F []) : ∃ (v : Int32) (A2 : Nat → Nat → Int32) (F2 : Nat → Int32) (B2 : Nat → Int64), iv_G L xs d 134 0 (lv_args 0 [.ref 44, .long e]) [] (ia_wd A F B) tg 0 0 (.inl (some (.int v)), ia_wd A2 F2 B2, tg, 0, 0) ∧ ia_inv A2 F2 [] ∧ (∀ j, A2 5 j = A 5 j) ∧ (∀ j, A2 48 j = A 48 j) := by
  have hr := id_4401 hi
  by_cases h : iv_g8 e
  · by_cases hm : F 4401 + id_cnt e < 41
    · obtain ⟨A2, hR, h1, h2, hG⟩ := id_ty1 (L := L) (xs := xs) (d := d) (tg := tg) (A := A) (B := B) h hr.1 hr.2 hm
      refine ⟨1, A2, _, B, hG, ?_, fun j => by rw [hR.1 5 (by decide)], fun j => by rw [hR.1 48 (by decide)]⟩
      rw [id_uFe]
      refine ia_inv_F (id_invR id_ra45 rfl (id_400 hi) hR) (by omega) ?_ ?_
      · rw [show ia_gr 4401 ia_rfl = (0, 40) by decide +kernel]
        exact h2
      · rw [show ia_gr 4401 ia_rfl = (0, 40) by decide +kernel]
        exact h1
    · exact ⟨0, A, _, B, id_ty2 h hm, id_400 hi, fun _ => rfl, fun _ => rfl⟩
  · exact ⟨0, A, _, B, id_ty0 h, id_400 hi, fun _ => rfl, fun _ => rfl⟩

theorem id_fz {md : List Nat} {am : List (Nat × Nat × Nat)} {A A2 : Nat → Nat → Int32} {F F2 : Nat → Int32} {r : Nat} (h : ia_fr md am A F A2 F2) (hr : ia_mem r ia_tka = true) (hc : am.all (fun t => !(Nat.beq t.1 r)) = true) (j : Nat) : A2 r j = A r j := h.2 r j hr (fun t ht e => by
  have := List.all_eq_true.mp hc t ht
  rw [e, Nat.beq_refl] at this
  cases this)
theorem id_fo {md : List Nat} {am : List (Nat × Nat × Nat)} {A A2 : Nat → Nat → Int32} {F F2 : Nat → Int32} {r n : Nat} (h : ia_fr md am A F A2 F2) (hr : ia_mem r ia_tka = true) (hc : am.all (fun t => !(Nat.beq t.1 r) || (Nat.beq t.2.1 n && Nat.beq t.2.2 n)) = true) (j : Nat) (hj : j ≠ n) : A2 r j = A r j := h.2 r j hr (fun t ht e e2 => by
  have := List.all_eq_true.mp hc t ht
  rw [e, Nat.beq_refl, Bool.not_true, Bool.false_or, Bool.and_eq_true] at this
  have h1 := Nat.eq_of_beq_eq_true this.1
  have h2 := Nat.eq_of_beq_eq_true this.2
  omega)
theorem id_hf {M : ia_M} (hH : ia_Holds M) (hps : M.2.2.2.2.1.all id_pi = true) {L : Nat} {xs : Nat → Int32} {d : Nat} {tg : Bool} {A : Nat → Nat → Int32} {F : Nat → Int32} {B : Nat → Int64} {vals : List Value} (hd : M.2.1 ≤ d + 1) (hs : ia_sk (ia_ev [] A F (ia_g0 vals)) M.2.2.1 vals) (hi : ia_inv A F []) (hfa : ∀ f ∈ M.2.2.2.1, f.2.1 ≤ (ia_w A F f.1).toInt ∧ (ia_w A F f.1).toInt ≤ f.2.2) :
    ∃ (v : Int32) (A2 : Nat → Nat → Int32) (F2 : Nat → Int32) (B2 : Nat → Int64) (tg2 : Bool) (n : Nat), n ≤ 1 ∧ iv_G L xs d M.1 0 (lv_args 0 vals) [] (ia_wd A F B) tg 0 0 (.inl (some (.int v)), ia_wd A2 F2 B2, tg2, n, 6 * n) ∧ ia_inv A2 F2 [] ∧ ia_fr M.2.2.2.2.2.1 M.2.2.2.2.2.2.1 A F A2 F2 ∧ ∃ P ∈ M.2.2.2.2.1, ia_pk P (.inl (some (.int v))) (ia_ev [] A2 F2 (ia_g0 vals)) := by
  obtain ⟨P, hP, o, A2, F2, B2, tg2, hG, hi2, hfr, hpk⟩ := hH L xs d tg 0 0 A F B vals hd hs hi (fun f hf _ => hfa f hf)
  have h1 := List.all_eq_true.mp hps P hP
  unfold id_pi at h1
  rw [Bool.and_eq_true, Bool.and_eq_true] at h1
  have hk := hpk.1
  obtain ⟨⟨a1, a2⟩, a3⟩ := h1
  cases e1 : P.1 with
  | some q => rw [e1] at a1; cases a1
  | none =>
    rw [e1] at hk
    cases o with
    | inr q => exact hk.elim
    | inl u =>
      cases e2 : P.2.1 with
      | none => rw [e2] at a2; cases a2
      | some b =>
        rw [e2] at hk a2
        cases u with
        | none => exact hk.elim
        | some u =>
          cases b using ia_Vc with
          | i q =>
            cases u with
            | int v =>
              rw [Nat.zero_add, Nat.zero_add] at hG
              exact ⟨v, A2, F2, B2, tg2, P.2.2.2, Nat.le_of_ble_eq_true a3, hG, hi2, hfr, P, hP, hpk⟩
            | _ => exact hk.elim
          | r cs => cases a2
          | l => cases a2
def id_ex (P : ia_P) : Option Int := match P.2.1 with
  | some (.inl q) => bif decide (q.1 = q.2.1) then some q.1 else none
  | _ => none
theorem id_ex_ok {P : ia_P} {v : Int32} {E : Nat → Int32} {a : Int} (h : id_ex P = some a) (hp : ia_pk P (.inl (some (.int v))) E) : v.toInt = a := by
  have hk := hp.1
  unfold id_ex at h
  split at h
  · next q e =>
    by_cases e2 : q.1 = q.2.1
    · rw [decide_eq_true e2] at h
      cases h
      cases e1 : P.1 with
      | some t => rw [e1] at hk; exact hk.elim
      | none =>
        rw [e1, e] at hk
        have h1 : q.1 ≤ v.toInt := hk.1
        have h2 : v.toInt ≤ q.2.1 := hk.2.1
        omega
    · rw [decide_eq_false e2] at h
      cases h
  · cases h
/-- what spoil does: r its marks, s the other side's -/
def id_sq (A : Nat → Nat → Int32) (r : Nat) (c : Int32) : Prop := 2 ≤ c.toInt ∧ c.toInt ≤ 31 ∧ (A r c.toInt.toNat).toInt = 0
def id_sp (r s : Nat) (c v : Int32) (A A2 : Nat → Nat → Int32) : Prop := ((id_sq A r c ∧ v = 1) ∨ (¬ id_sq A r c ∧ v = 0)) ∧ (∀ j, A2 s j = A s j) ∧ (∀ j : Nat, (j : Int) ≠ c.toInt → A2 r j = A r j) ∧ (2 ≤ c.toInt → c.toInt ≤ 31 → (A2 r c.toInt.toNat).toInt = 1) ∧ (¬ (2 ≤ c.toInt ∧ c.toInt ≤ 31) → ∀ j, A2 r j = A r j)
def id_ev0 (P : ia_P) : Bool := match id_ex P with
  | some a => decide (a = 0)
  | none => false
def id_ev1 (l : Nat) (P : ia_P) : Bool := (match id_ex P with
  | some a => decide (a = 1)
  | none => false) && P.2.2.1.any (fun f => Nat.beq f.1 l && decide (f.2.1 = 1) && decide (f.2.2 = 1))
/-- outside -/
theorem id_so {M : ia_M} {r s : Nat} {c v : Int32} {A A2 : Nat → Nat → Int32} {F F2 E : Nat → Int32} (hc : ¬ (2 ≤ c.toInt ∧ c.toInt ≤ 31)) (hr : ia_mem r ia_tka = true) (hs : ia_mem s ia_tka = true) (ha : M.2.2.2.2.2.2.1.isEmpty = true) (hp : M.2.2.2.2.1.all id_ev0 = true) (hfr : ia_fr M.2.2.2.2.2.1 M.2.2.2.2.2.2.1 A F A2 F2) (hP : ∃ P ∈ M.2.2.2.2.1, ia_pk P (.inl (some (.int v))) E) : id_sp r s c v A A2 := by
  obtain ⟨P, hP, k⟩ := hP
  have h1 := List.all_eq_true.mp hp P hP
  have hv : v = 0 := by
    unfold id_ev0 at h1
    split at h1
    · next a e =>
      rw [decide_eq_true_eq] at h1
      exact Int32.toInt_inj.mp ((id_ex_ok e k).trans h1)
    · cases h1
  rw [List.isEmpty_iff.mp ha] at hfr
  have f1 := fun j => id_fz hfr hr rfl j
  have f2 := fun j => id_fz hfr hs rfl j
  exact ⟨Or.inr ⟨fun q => hc ⟨q.1, q.2.1⟩, hv⟩, f2, fun j _ => f1 j, fun a b => (hc ⟨a, b⟩).elim, fun _ => f1⟩
/-- a mark stands already -/
theorem id_s1 {M : ia_M} {r s n : Nat} {c v : Int32} {A A2 : Nat → Nat → Int32} {F F2 E : Nat → Int32} (hc : c.toInt = (n : Int)) (h2 : 2 ≤ n) (h31 : n ≤ 31) (hb : (A r n).toInt = 1) (hr : ia_mem r ia_tka = true) (hs : ia_mem s ia_tka = true) (ha : M.2.2.2.2.2.2.1.isEmpty = true) (hp : M.2.2.2.2.1.all id_ev0 = true) (hfr : ia_fr M.2.2.2.2.2.1 M.2.2.2.2.2.2.1 A F A2 F2) (hP : ∃ P ∈ M.2.2.2.2.1, ia_pk P (.inl (some (.int v))) E) : id_sp r s c v A A2 := by
  obtain ⟨P, hP, k⟩ := hP
  have h1 := List.all_eq_true.mp hp P hP
  have hv : v = 0 := by
    unfold id_ev0 at h1
    split at h1
    · next a e =>
      rw [decide_eq_true_eq] at h1
      exact Int32.toInt_inj.mp ((id_ex_ok e k).trans h1)
    · cases h1
  rw [List.isEmpty_iff.mp ha] at hfr
  have f1 := fun j => id_fz hfr hr rfl j
  have f2 := fun j => id_fz hfr hs rfl j
  have e : c.toInt.toNat = n := by omega
  refine ⟨Or.inr ⟨fun q => ?_, hv⟩, f2, fun j _ => f1 j, fun _ _ => by rw [e, f1 n]; exact hb, fun q => (q (by omega)).elim⟩
  have := q.2.2
  rw [e] at this
  omega
/-- no mark yet -/
theorem id_s0 {M : ia_M} {r s n l : Nat} {c v : Int32} {A A2 : Nat → Nat → Int32} {F F2 : Nat → Int32} {vals : List Value} (hl : l = 10000 * (r + 1) + n) (hc : c.toInt = (n : Int)) (h2 : 2 ≤ n) (h31 : n ≤ 31) (hb : (A r n).toInt = 0) (hr : ia_mem r ia_tka = true) (hs : ia_mem s ia_tka = true) (ha : M.2.2.2.2.2.2.1.all (fun t => !(Nat.beq t.1 s)) = true) (ha2 : M.2.2.2.2.2.2.1.all (fun t => !(Nat.beq t.1 r) || (Nat.beq t.2.1 n && Nat.beq t.2.2 n)) = true) (hp : M.2.2.2.2.1.all (id_ev1 l) = true) (hfr : ia_fr M.2.2.2.2.2.1 M.2.2.2.2.2.2.1 A F A2 F2) (hP : ∃ P ∈ M.2.2.2.2.1, ia_pk P (.inl (some (.int v))) (ia_ev [] A2 F2 (ia_g0 vals))) : id_sp r s c v A A2 := by
  obtain ⟨P, hP, k⟩ := hP
  have h1 := List.all_eq_true.mp hp P hP
  unfold id_ev1 at h1
  rw [Bool.and_eq_true] at h1
  have hv : v = 1 := by
    have h3 := h1.1
    split at h3
    · next a e =>
      rw [decide_eq_true_eq] at h3
      exact Int32.toInt_inj.mp ((id_ex_ok e k).trans h3)
    · cases h3
  obtain ⟨f, hf, h4⟩ := List.any_eq_true.mp h1.2
  rw [Bool.and_eq_true, Bool.and_eq_true, decide_eq_true_eq, decide_eq_true_eq] at h4
  have h5 := k.2 f hf
  rw [Nat.eq_of_beq_eq_true h4.1.1, h4.1.2, h4.2, hl, ia_ev_a (by omega)] at h5
  have e : c.toInt.toNat = n := by omega
  refine ⟨Or.inl ⟨⟨by omega, by omega, by rw [e]; exact hb⟩, hv⟩, fun j => id_fz hfr hs ha j, fun j hj => id_fo hfr hr ha2 j (by omega), fun _ _ => by rw [e]; omega, fun q => (q (by omega)).elim⟩
theorem id_bit {A : Nat → Nat → Int32} {F : Nat → Int32} {r : Nat} (hr : ia_ra r 0 = (0, 1)) (h52 : Nat.beq r 52 = false) (hi : ia_inv A F []) (n : Nat) (hn : n < 10000) : (A r n).toInt = 0 ∨ (A r n).toInt = 1 := by
  have h4 := hi.1 (10000 * (r + 1) + n) (by omega)
  rw [ia_df_a hn, ia_w_ev [] F (by omega), ia_ev_a hn, id_raC h52 n, ← id_raC h52 0, hr] at h4
  dsimp only at h4
  omega
theorem id_kk {E : Nat → Int32} {lo hi : Int} {x : Int32} (h1 : lo ≤ x.toInt) (h2 : x.toInt ≤ hi) : ia_ii E ⟨lo, hi, [], []⟩ x := ⟨h1, h2, fun _ h => (by cases h), fun _ h => (by cases h)⟩
set_option maxRecDepth 1000000 in
set_option maxHeartbeats 40000000 in
theorem id_spC {L : Nat} {xs : Nat → Int32} {tg : Bool} {A : Nat → Nat → Int32} {F : Nat → Int32} {B : Nat → Int64} (c : Int32) (hi : ia_inv A F []) : ∃ (v : Int32) (A2 : Nat → Nat → Int32) (F2 : Nat → Int32) (B2 : Nat → Int64) (tg2 : Bool) (n : Nat), n ≤ 1 ∧ iv_G L xs 19 11 0 (lv_args 0 [.ref 1, .int c]) [] (ia_wd A F B) tg 0 0 (.inl (some (.int v)), ia_wd A2 F2 B2, tg2, n, 6 * n) ∧ ia_inv A2 F2 [] ∧ id_sp 5 48 c v A A2 := by
  have l1 := ia_lo c
  have l2 := ia_hi c
  by_cases h1 : c.toInt ≤ 1
  · obtain ⟨v, A2, F2, B2, tg2, n, hn, hG, hi2, hf, hP⟩ := id_hf (L := L) (xs := xs) (d := 19) (tg := tg) (B := B) (vals := [.ref 1, .int c]) ie_h154 rfl (Nat.le_of_ble_eq_true rfl) (show ia_sk _ ie_m154.2.2.1 _ from ⟨List.mem_singleton.mpr rfl, id_kk l1 h1, trivial⟩) hi (fun f hf => by cases hf)
    exact ⟨v, A2, F2, B2, tg2, n, hn, hG, hi2, id_so (M := ie_m154) (by omega) rfl rfl rfl (by decide +kernel) hf hP⟩
  by_cases h31 : 32 ≤ c.toInt
  · obtain ⟨v, A2, F2, B2, tg2, n, hn, hG, hi2, hf, hP⟩ := id_hf (L := L) (xs := xs) (d := 19) (tg := tg) (B := B) (vals := [.ref 1, .int c]) ie_h155 rfl (Nat.le_of_ble_eq_true rfl) (show ia_sk _ ie_m155.2.2.1 _ from ⟨List.mem_singleton.mpr rfl, id_kk h31 l2, trivial⟩) hi (fun f hf => by cases hf)
    exact ⟨v, A2, F2, B2, tg2, n, hn, hG, hi2, id_so (M := ie_m155) (by omega) rfl rfl rfl (by decide +kernel) hf hP⟩
  have hc : c.toInt = 2 ∨ c.toInt = 3 ∨ c.toInt = 4 ∨ c.toInt = 5 ∨ c.toInt = 6 ∨ c.toInt = 7 ∨ c.toInt = 8 ∨ c.toInt = 9 ∨ c.toInt = 10 ∨ c.toInt = 11 ∨ c.toInt = 12 ∨ c.toInt = 13 ∨ c.toInt = 14 ∨ c.toInt = 15 ∨ c.toInt = 16 ∨ c.toInt = 17 ∨ c.toInt = 18 ∨ c.toInt = 19 ∨ c.toInt = 20 ∨ c.toInt = 21 ∨ c.toInt = 22 ∨ c.toInt = 23 ∨ c.toInt = 24 ∨ c.toInt = 25 ∨ c.toInt = 26 ∨ c.toInt = 27 ∨ c.toInt = 28 ∨ c.toInt = 29 ∨ c.toInt = 30 ∨ c.toInt = 31 := by omega
  rcases hc with hc | hc | hc | hc | hc | hc | hc | hc | hc | hc | hc | hc | hc | hc | hc | hc | hc | hc | hc | hc | hc | hc | hc | hc | hc | hc | hc | hc | hc | hc
  · rcases id_bit (r := 5) (by decide +kernel) rfl hi 2 (by omega) with hb | hb
    · obtain ⟨v, A2, F2, B2, tg2, n, hn, hG, hi2, hf, hP⟩ := id_hf (L := L) (xs := xs) (d := 19) (tg := tg) (B := B) (vals := [.ref 1, .int c]) ie_h156 rfl (Nat.le_of_ble_eq_true rfl) (show ia_sk _ ie_m156.2.2.1 _ from ⟨List.mem_singleton.mpr rfl, id_kk (Int.le_of_eq hc.symm) (Int.le_of_eq hc), trivial⟩) hi (fun f hf => by
        rw [List.mem_singleton.mp hf]
        exact ⟨Int.le_of_eq hb.symm, Int.le_of_eq hb⟩)
      exact ⟨v, A2, F2, B2, tg2, n, hn, hG, hi2, id_s0 (M := ie_m156) (n := 2) (l := 60002) rfl hc (by omega) (by omega) hb rfl rfl rfl rfl (by decide +kernel) hf hP⟩
    · obtain ⟨v, A2, F2, B2, tg2, n, hn, hG, hi2, hf, hP⟩ := id_hf (L := L) (xs := xs) (d := 19) (tg := tg) (B := B) (vals := [.ref 1, .int c]) ie_h157 rfl (Nat.le_of_ble_eq_true rfl) (show ia_sk _ ie_m157.2.2.1 _ from ⟨List.mem_singleton.mpr rfl, id_kk (Int.le_of_eq hc.symm) (Int.le_of_eq hc), trivial⟩) hi (fun f hf => by
        rw [List.mem_singleton.mp hf]
        exact ⟨Int.le_of_eq hb.symm, Int.le_of_eq hb⟩)
      exact ⟨v, A2, F2, B2, tg2, n, hn, hG, hi2, id_s1 (M := ie_m157) (n := 2) hc (by omega) (by omega) hb rfl rfl rfl (by decide +kernel) hf hP⟩
  · rcases id_bit (r := 5) (by decide +kernel) rfl hi 3 (by omega) with hb | hb
    · obtain ⟨v, A2, F2, B2, tg2, n, hn, hG, hi2, hf, hP⟩ := id_hf (L := L) (xs := xs) (d := 19) (tg := tg) (B := B) (vals := [.ref 1, .int c]) ie_h158 rfl (Nat.le_of_ble_eq_true rfl) (show ia_sk _ ie_m158.2.2.1 _ from ⟨List.mem_singleton.mpr rfl, id_kk (Int.le_of_eq hc.symm) (Int.le_of_eq hc), trivial⟩) hi (fun f hf => by
        rw [List.mem_singleton.mp hf]
        exact ⟨Int.le_of_eq hb.symm, Int.le_of_eq hb⟩)
      exact ⟨v, A2, F2, B2, tg2, n, hn, hG, hi2, id_s0 (M := ie_m158) (n := 3) (l := 60003) rfl hc (by omega) (by omega) hb rfl rfl rfl rfl (by decide +kernel) hf hP⟩
    · obtain ⟨v, A2, F2, B2, tg2, n, hn, hG, hi2, hf, hP⟩ := id_hf (L := L) (xs := xs) (d := 19) (tg := tg) (B := B) (vals := [.ref 1, .int c]) ie_h159 rfl (Nat.le_of_ble_eq_true rfl) (show ia_sk _ ie_m159.2.2.1 _ from ⟨List.mem_singleton.mpr rfl, id_kk (Int.le_of_eq hc.symm) (Int.le_of_eq hc), trivial⟩) hi (fun f hf => by
        rw [List.mem_singleton.mp hf]
        exact ⟨Int.le_of_eq hb.symm, Int.le_of_eq hb⟩)
      exact ⟨v, A2, F2, B2, tg2, n, hn, hG, hi2, id_s1 (M := ie_m159) (n := 3) hc (by omega) (by omega) hb rfl rfl rfl (by decide +kernel) hf hP⟩
  · rcases id_bit (r := 5) (by decide +kernel) rfl hi 4 (by omega) with hb | hb
    · obtain ⟨v, A2, F2, B2, tg2, n, hn, hG, hi2, hf, hP⟩ := id_hf (L := L) (xs := xs) (d := 19) (tg := tg) (B := B) (vals := [.ref 1, .int c]) ie_h160 rfl (Nat.le_of_ble_eq_true rfl) (show ia_sk _ ie_m160.2.2.1 _ from ⟨List.mem_singleton.mpr rfl, id_kk (Int.le_of_eq hc.symm) (Int.le_of_eq hc), trivial⟩) hi (fun f hf => by
        rw [List.mem_singleton.mp hf]
        exact ⟨Int.le_of_eq hb.symm, Int.le_of_eq hb⟩)
      exact ⟨v, A2, F2, B2, tg2, n, hn, hG, hi2, id_s0 (M := ie_m160) (n := 4) (l := 60004) rfl hc (by omega) (by omega) hb rfl rfl rfl rfl (by decide +kernel) hf hP⟩
    · obtain ⟨v, A2, F2, B2, tg2, n, hn, hG, hi2, hf, hP⟩ := id_hf (L := L) (xs := xs) (d := 19) (tg := tg) (B := B) (vals := [.ref 1, .int c]) ie_h161 rfl (Nat.le_of_ble_eq_true rfl) (show ia_sk _ ie_m161.2.2.1 _ from ⟨List.mem_singleton.mpr rfl, id_kk (Int.le_of_eq hc.symm) (Int.le_of_eq hc), trivial⟩) hi (fun f hf => by
        rw [List.mem_singleton.mp hf]
        exact ⟨Int.le_of_eq hb.symm, Int.le_of_eq hb⟩)
      exact ⟨v, A2, F2, B2, tg2, n, hn, hG, hi2, id_s1 (M := ie_m161) (n := 4) hc (by omega) (by omega) hb rfl rfl rfl (by decide +kernel) hf hP⟩
  · rcases id_bit (r := 5) (by decide +kernel) rfl hi 5 (by omega) with hb | hb
    · obtain ⟨v, A2, F2, B2, tg2, n, hn, hG, hi2, hf, hP⟩ := id_hf (L := L) (xs := xs) (d := 19) (tg := tg) (B := B) (vals := [.ref 1, .int c]) ie_h162 rfl (Nat.le_of_ble_eq_true rfl) (show ia_sk _ ie_m162.2.2.1 _ from ⟨List.mem_singleton.mpr rfl, id_kk (Int.le_of_eq hc.symm) (Int.le_of_eq hc), trivial⟩) hi (fun f hf => by
        rw [List.mem_singleton.mp hf]
        exact ⟨Int.le_of_eq hb.symm, Int.le_of_eq hb⟩)
      exact ⟨v, A2, F2, B2, tg2, n, hn, hG, hi2, id_s0 (M := ie_m162) (n := 5) (l := 60005) rfl hc (by omega) (by omega) hb rfl rfl rfl rfl (by decide +kernel) hf hP⟩
    · obtain ⟨v, A2, F2, B2, tg2, n, hn, hG, hi2, hf, hP⟩ := id_hf (L := L) (xs := xs) (d := 19) (tg := tg) (B := B) (vals := [.ref 1, .int c]) ie_h163 rfl (Nat.le_of_ble_eq_true rfl) (show ia_sk _ ie_m163.2.2.1 _ from ⟨List.mem_singleton.mpr rfl, id_kk (Int.le_of_eq hc.symm) (Int.le_of_eq hc), trivial⟩) hi (fun f hf => by
        rw [List.mem_singleton.mp hf]
        exact ⟨Int.le_of_eq hb.symm, Int.le_of_eq hb⟩)
      exact ⟨v, A2, F2, B2, tg2, n, hn, hG, hi2, id_s1 (M := ie_m163) (n := 5) hc (by omega) (by omega) hb rfl rfl rfl (by decide +kernel) hf hP⟩
  · rcases id_bit (r := 5) (by decide +kernel) rfl hi 6 (by omega) with hb | hb
    · obtain ⟨v, A2, F2, B2, tg2, n, hn, hG, hi2, hf, hP⟩ := id_hf (L := L) (xs := xs) (d := 19) (tg := tg) (B := B) (vals := [.ref 1, .int c]) ie_h164 rfl (Nat.le_of_ble_eq_true rfl) (show ia_sk _ ie_m164.2.2.1 _ from ⟨List.mem_singleton.mpr rfl, id_kk (Int.le_of_eq hc.symm) (Int.le_of_eq hc), trivial⟩) hi (fun f hf => by
        rw [List.mem_singleton.mp hf]
        exact ⟨Int.le_of_eq hb.symm, Int.le_of_eq hb⟩)
      exact ⟨v, A2, F2, B2, tg2, n, hn, hG, hi2, id_s0 (M := ie_m164) (n := 6) (l := 60006) rfl hc (by omega) (by omega) hb rfl rfl rfl rfl (by decide +kernel) hf hP⟩
    · obtain ⟨v, A2, F2, B2, tg2, n, hn, hG, hi2, hf, hP⟩ := id_hf (L := L) (xs := xs) (d := 19) (tg := tg) (B := B) (vals := [.ref 1, .int c]) ie_h165 rfl (Nat.le_of_ble_eq_true rfl) (show ia_sk _ ie_m165.2.2.1 _ from ⟨List.mem_singleton.mpr rfl, id_kk (Int.le_of_eq hc.symm) (Int.le_of_eq hc), trivial⟩) hi (fun f hf => by
        rw [List.mem_singleton.mp hf]
        exact ⟨Int.le_of_eq hb.symm, Int.le_of_eq hb⟩)
      exact ⟨v, A2, F2, B2, tg2, n, hn, hG, hi2, id_s1 (M := ie_m165) (n := 6) hc (by omega) (by omega) hb rfl rfl rfl (by decide +kernel) hf hP⟩
  · rcases id_bit (r := 5) (by decide +kernel) rfl hi 7 (by omega) with hb | hb
    · obtain ⟨v, A2, F2, B2, tg2, n, hn, hG, hi2, hf, hP⟩ := id_hf (L := L) (xs := xs) (d := 19) (tg := tg) (B := B) (vals := [.ref 1, .int c]) ie_h166 rfl (Nat.le_of_ble_eq_true rfl) (show ia_sk _ ie_m166.2.2.1 _ from ⟨List.mem_singleton.mpr rfl, id_kk (Int.le_of_eq hc.symm) (Int.le_of_eq hc), trivial⟩) hi (fun f hf => by
        rw [List.mem_singleton.mp hf]
        exact ⟨Int.le_of_eq hb.symm, Int.le_of_eq hb⟩)
      exact ⟨v, A2, F2, B2, tg2, n, hn, hG, hi2, id_s0 (M := ie_m166) (n := 7) (l := 60007) rfl hc (by omega) (by omega) hb rfl rfl rfl rfl (by decide +kernel) hf hP⟩
    · obtain ⟨v, A2, F2, B2, tg2, n, hn, hG, hi2, hf, hP⟩ := id_hf (L := L) (xs := xs) (d := 19) (tg := tg) (B := B) (vals := [.ref 1, .int c]) ie_h167 rfl (Nat.le_of_ble_eq_true rfl) (show ia_sk _ ie_m167.2.2.1 _ from ⟨List.mem_singleton.mpr rfl, id_kk (Int.le_of_eq hc.symm) (Int.le_of_eq hc), trivial⟩) hi (fun f hf => by
        rw [List.mem_singleton.mp hf]
        exact ⟨Int.le_of_eq hb.symm, Int.le_of_eq hb⟩)
      exact ⟨v, A2, F2, B2, tg2, n, hn, hG, hi2, id_s1 (M := ie_m167) (n := 7) hc (by omega) (by omega) hb rfl rfl rfl (by decide +kernel) hf hP⟩
  · rcases id_bit (r := 5) (by decide +kernel) rfl hi 8 (by omega) with hb | hb
    · obtain ⟨v, A2, F2, B2, tg2, n, hn, hG, hi2, hf, hP⟩ := id_hf (L := L) (xs := xs) (d := 19) (tg := tg) (B := B) (vals := [.ref 1, .int c]) ie_h168 rfl (Nat.le_of_ble_eq_true rfl) (show ia_sk _ ie_m168.2.2.1 _ from ⟨List.mem_singleton.mpr rfl, id_kk (Int.le_of_eq hc.symm) (Int.le_of_eq hc), trivial⟩) hi (fun f hf => by
        rw [List.mem_singleton.mp hf]
        exact ⟨Int.le_of_eq hb.symm, Int.le_of_eq hb⟩)
      exact ⟨v, A2, F2, B2, tg2, n, hn, hG, hi2, id_s0 (M := ie_m168) (n := 8) (l := 60008) rfl hc (by omega) (by omega) hb rfl rfl rfl rfl (by decide +kernel) hf hP⟩
    · obtain ⟨v, A2, F2, B2, tg2, n, hn, hG, hi2, hf, hP⟩ := id_hf (L := L) (xs := xs) (d := 19) (tg := tg) (B := B) (vals := [.ref 1, .int c]) ie_h169 rfl (Nat.le_of_ble_eq_true rfl) (show ia_sk _ ie_m169.2.2.1 _ from ⟨List.mem_singleton.mpr rfl, id_kk (Int.le_of_eq hc.symm) (Int.le_of_eq hc), trivial⟩) hi (fun f hf => by
        rw [List.mem_singleton.mp hf]
        exact ⟨Int.le_of_eq hb.symm, Int.le_of_eq hb⟩)
      exact ⟨v, A2, F2, B2, tg2, n, hn, hG, hi2, id_s1 (M := ie_m169) (n := 8) hc (by omega) (by omega) hb rfl rfl rfl (by decide +kernel) hf hP⟩
  · rcases id_bit (r := 5) (by decide +kernel) rfl hi 9 (by omega) with hb | hb
    · obtain ⟨v, A2, F2, B2, tg2, n, hn, hG, hi2, hf, hP⟩ := id_hf (L := L) (xs := xs) (d := 19) (tg := tg) (B := B) (vals := [.ref 1, .int c]) ie_h170 rfl (Nat.le_of_ble_eq_true rfl) (show ia_sk _ ie_m170.2.2.1 _ from ⟨List.mem_singleton.mpr rfl, id_kk (Int.le_of_eq hc.symm) (Int.le_of_eq hc), trivial⟩) hi (fun f hf => by
        rw [List.mem_singleton.mp hf]
        exact ⟨Int.le_of_eq hb.symm, Int.le_of_eq hb⟩)
      exact ⟨v, A2, F2, B2, tg2, n, hn, hG, hi2, id_s0 (M := ie_m170) (n := 9) (l := 60009) rfl hc (by omega) (by omega) hb rfl rfl rfl rfl (by decide +kernel) hf hP⟩
    · obtain ⟨v, A2, F2, B2, tg2, n, hn, hG, hi2, hf, hP⟩ := id_hf (L := L) (xs := xs) (d := 19) (tg := tg) (B := B) (vals := [.ref 1, .int c]) ie_h171 rfl (Nat.le_of_ble_eq_true rfl) (show ia_sk _ ie_m171.2.2.1 _ from ⟨List.mem_singleton.mpr rfl, id_kk (Int.le_of_eq hc.symm) (Int.le_of_eq hc), trivial⟩) hi (fun f hf => by
        rw [List.mem_singleton.mp hf]
        exact ⟨Int.le_of_eq hb.symm, Int.le_of_eq hb⟩)
      exact ⟨v, A2, F2, B2, tg2, n, hn, hG, hi2, id_s1 (M := ie_m171) (n := 9) hc (by omega) (by omega) hb rfl rfl rfl (by decide +kernel) hf hP⟩
  · rcases id_bit (r := 5) (by decide +kernel) rfl hi 10 (by omega) with hb | hb
    · obtain ⟨v, A2, F2, B2, tg2, n, hn, hG, hi2, hf, hP⟩ := id_hf (L := L) (xs := xs) (d := 19) (tg := tg) (B := B) (vals := [.ref 1, .int c]) ie_h172 rfl (Nat.le_of_ble_eq_true rfl) (show ia_sk _ ie_m172.2.2.1 _ from ⟨List.mem_singleton.mpr rfl, id_kk (Int.le_of_eq hc.symm) (Int.le_of_eq hc), trivial⟩) hi (fun f hf => by
        rw [List.mem_singleton.mp hf]
        exact ⟨Int.le_of_eq hb.symm, Int.le_of_eq hb⟩)
      exact ⟨v, A2, F2, B2, tg2, n, hn, hG, hi2, id_s0 (M := ie_m172) (n := 10) (l := 60010) rfl hc (by omega) (by omega) hb rfl rfl rfl rfl (by decide +kernel) hf hP⟩
    · obtain ⟨v, A2, F2, B2, tg2, n, hn, hG, hi2, hf, hP⟩ := id_hf (L := L) (xs := xs) (d := 19) (tg := tg) (B := B) (vals := [.ref 1, .int c]) ie_h173 rfl (Nat.le_of_ble_eq_true rfl) (show ia_sk _ ie_m173.2.2.1 _ from ⟨List.mem_singleton.mpr rfl, id_kk (Int.le_of_eq hc.symm) (Int.le_of_eq hc), trivial⟩) hi (fun f hf => by
        rw [List.mem_singleton.mp hf]
        exact ⟨Int.le_of_eq hb.symm, Int.le_of_eq hb⟩)
      exact ⟨v, A2, F2, B2, tg2, n, hn, hG, hi2, id_s1 (M := ie_m173) (n := 10) hc (by omega) (by omega) hb rfl rfl rfl (by decide +kernel) hf hP⟩
  · rcases id_bit (r := 5) (by decide +kernel) rfl hi 11 (by omega) with hb | hb
    · obtain ⟨v, A2, F2, B2, tg2, n, hn, hG, hi2, hf, hP⟩ := id_hf (L := L) (xs := xs) (d := 19) (tg := tg) (B := B) (vals := [.ref 1, .int c]) ie_h174 rfl (Nat.le_of_ble_eq_true rfl) (show ia_sk _ ie_m174.2.2.1 _ from ⟨List.mem_singleton.mpr rfl, id_kk (Int.le_of_eq hc.symm) (Int.le_of_eq hc), trivial⟩) hi (fun f hf => by
        rw [List.mem_singleton.mp hf]
        exact ⟨Int.le_of_eq hb.symm, Int.le_of_eq hb⟩)
      exact ⟨v, A2, F2, B2, tg2, n, hn, hG, hi2, id_s0 (M := ie_m174) (n := 11) (l := 60011) rfl hc (by omega) (by omega) hb rfl rfl rfl rfl (by decide +kernel) hf hP⟩
    · obtain ⟨v, A2, F2, B2, tg2, n, hn, hG, hi2, hf, hP⟩ := id_hf (L := L) (xs := xs) (d := 19) (tg := tg) (B := B) (vals := [.ref 1, .int c]) ie_h175 rfl (Nat.le_of_ble_eq_true rfl) (show ia_sk _ ie_m175.2.2.1 _ from ⟨List.mem_singleton.mpr rfl, id_kk (Int.le_of_eq hc.symm) (Int.le_of_eq hc), trivial⟩) hi (fun f hf => by
        rw [List.mem_singleton.mp hf]
        exact ⟨Int.le_of_eq hb.symm, Int.le_of_eq hb⟩)
      exact ⟨v, A2, F2, B2, tg2, n, hn, hG, hi2, id_s1 (M := ie_m175) (n := 11) hc (by omega) (by omega) hb rfl rfl rfl (by decide +kernel) hf hP⟩
  · rcases id_bit (r := 5) (by decide +kernel) rfl hi 12 (by omega) with hb | hb
    · obtain ⟨v, A2, F2, B2, tg2, n, hn, hG, hi2, hf, hP⟩ := id_hf (L := L) (xs := xs) (d := 19) (tg := tg) (B := B) (vals := [.ref 1, .int c]) ie_h176 rfl (Nat.le_of_ble_eq_true rfl) (show ia_sk _ ie_m176.2.2.1 _ from ⟨List.mem_singleton.mpr rfl, id_kk (Int.le_of_eq hc.symm) (Int.le_of_eq hc), trivial⟩) hi (fun f hf => by
        rw [List.mem_singleton.mp hf]
        exact ⟨Int.le_of_eq hb.symm, Int.le_of_eq hb⟩)
      exact ⟨v, A2, F2, B2, tg2, n, hn, hG, hi2, id_s0 (M := ie_m176) (n := 12) (l := 60012) rfl hc (by omega) (by omega) hb rfl rfl rfl rfl (by decide +kernel) hf hP⟩
    · obtain ⟨v, A2, F2, B2, tg2, n, hn, hG, hi2, hf, hP⟩ := id_hf (L := L) (xs := xs) (d := 19) (tg := tg) (B := B) (vals := [.ref 1, .int c]) ie_h177 rfl (Nat.le_of_ble_eq_true rfl) (show ia_sk _ ie_m177.2.2.1 _ from ⟨List.mem_singleton.mpr rfl, id_kk (Int.le_of_eq hc.symm) (Int.le_of_eq hc), trivial⟩) hi (fun f hf => by
        rw [List.mem_singleton.mp hf]
        exact ⟨Int.le_of_eq hb.symm, Int.le_of_eq hb⟩)
      exact ⟨v, A2, F2, B2, tg2, n, hn, hG, hi2, id_s1 (M := ie_m177) (n := 12) hc (by omega) (by omega) hb rfl rfl rfl (by decide +kernel) hf hP⟩
  · rcases id_bit (r := 5) (by decide +kernel) rfl hi 13 (by omega) with hb | hb
    · obtain ⟨v, A2, F2, B2, tg2, n, hn, hG, hi2, hf, hP⟩ := id_hf (L := L) (xs := xs) (d := 19) (tg := tg) (B := B) (vals := [.ref 1, .int c]) ie_h178 rfl (Nat.le_of_ble_eq_true rfl) (show ia_sk _ ie_m178.2.2.1 _ from ⟨List.mem_singleton.mpr rfl, id_kk (Int.le_of_eq hc.symm) (Int.le_of_eq hc), trivial⟩) hi (fun f hf => by
        rw [List.mem_singleton.mp hf]
        exact ⟨Int.le_of_eq hb.symm, Int.le_of_eq hb⟩)
      exact ⟨v, A2, F2, B2, tg2, n, hn, hG, hi2, id_s0 (M := ie_m178) (n := 13) (l := 60013) rfl hc (by omega) (by omega) hb rfl rfl rfl rfl (by decide +kernel) hf hP⟩
    · obtain ⟨v, A2, F2, B2, tg2, n, hn, hG, hi2, hf, hP⟩ := id_hf (L := L) (xs := xs) (d := 19) (tg := tg) (B := B) (vals := [.ref 1, .int c]) ie_h179 rfl (Nat.le_of_ble_eq_true rfl) (show ia_sk _ ie_m179.2.2.1 _ from ⟨List.mem_singleton.mpr rfl, id_kk (Int.le_of_eq hc.symm) (Int.le_of_eq hc), trivial⟩) hi (fun f hf => by
        rw [List.mem_singleton.mp hf]
        exact ⟨Int.le_of_eq hb.symm, Int.le_of_eq hb⟩)
      exact ⟨v, A2, F2, B2, tg2, n, hn, hG, hi2, id_s1 (M := ie_m179) (n := 13) hc (by omega) (by omega) hb rfl rfl rfl (by decide +kernel) hf hP⟩
  · rcases id_bit (r := 5) (by decide +kernel) rfl hi 14 (by omega) with hb | hb
    · obtain ⟨v, A2, F2, B2, tg2, n, hn, hG, hi2, hf, hP⟩ := id_hf (L := L) (xs := xs) (d := 19) (tg := tg) (B := B) (vals := [.ref 1, .int c]) ie_h180 rfl (Nat.le_of_ble_eq_true rfl) (show ia_sk _ ie_m180.2.2.1 _ from ⟨List.mem_singleton.mpr rfl, id_kk (Int.le_of_eq hc.symm) (Int.le_of_eq hc), trivial⟩) hi (fun f hf => by
        rw [List.mem_singleton.mp hf]
        exact ⟨Int.le_of_eq hb.symm, Int.le_of_eq hb⟩)
      exact ⟨v, A2, F2, B2, tg2, n, hn, hG, hi2, id_s0 (M := ie_m180) (n := 14) (l := 60014) rfl hc (by omega) (by omega) hb rfl rfl rfl rfl (by decide +kernel) hf hP⟩
    · obtain ⟨v, A2, F2, B2, tg2, n, hn, hG, hi2, hf, hP⟩ := id_hf (L := L) (xs := xs) (d := 19) (tg := tg) (B := B) (vals := [.ref 1, .int c]) ie_h181 rfl (Nat.le_of_ble_eq_true rfl) (show ia_sk _ ie_m181.2.2.1 _ from ⟨List.mem_singleton.mpr rfl, id_kk (Int.le_of_eq hc.symm) (Int.le_of_eq hc), trivial⟩) hi (fun f hf => by
        rw [List.mem_singleton.mp hf]
        exact ⟨Int.le_of_eq hb.symm, Int.le_of_eq hb⟩)
      exact ⟨v, A2, F2, B2, tg2, n, hn, hG, hi2, id_s1 (M := ie_m181) (n := 14) hc (by omega) (by omega) hb rfl rfl rfl (by decide +kernel) hf hP⟩
  · rcases id_bit (r := 5) (by decide +kernel) rfl hi 15 (by omega) with hb | hb
    · obtain ⟨v, A2, F2, B2, tg2, n, hn, hG, hi2, hf, hP⟩ := id_hf (L := L) (xs := xs) (d := 19) (tg := tg) (B := B) (vals := [.ref 1, .int c]) ie_h182 rfl (Nat.le_of_ble_eq_true rfl) (show ia_sk _ ie_m182.2.2.1 _ from ⟨List.mem_singleton.mpr rfl, id_kk (Int.le_of_eq hc.symm) (Int.le_of_eq hc), trivial⟩) hi (fun f hf => by
        rw [List.mem_singleton.mp hf]
        exact ⟨Int.le_of_eq hb.symm, Int.le_of_eq hb⟩)
      exact ⟨v, A2, F2, B2, tg2, n, hn, hG, hi2, id_s0 (M := ie_m182) (n := 15) (l := 60015) rfl hc (by omega) (by omega) hb rfl rfl rfl rfl (by decide +kernel) hf hP⟩
    · obtain ⟨v, A2, F2, B2, tg2, n, hn, hG, hi2, hf, hP⟩ := id_hf (L := L) (xs := xs) (d := 19) (tg := tg) (B := B) (vals := [.ref 1, .int c]) ie_h183 rfl (Nat.le_of_ble_eq_true rfl) (show ia_sk _ ie_m183.2.2.1 _ from ⟨List.mem_singleton.mpr rfl, id_kk (Int.le_of_eq hc.symm) (Int.le_of_eq hc), trivial⟩) hi (fun f hf => by
        rw [List.mem_singleton.mp hf]
        exact ⟨Int.le_of_eq hb.symm, Int.le_of_eq hb⟩)
      exact ⟨v, A2, F2, B2, tg2, n, hn, hG, hi2, id_s1 (M := ie_m183) (n := 15) hc (by omega) (by omega) hb rfl rfl rfl (by decide +kernel) hf hP⟩
  · rcases id_bit (r := 5) (by decide +kernel) rfl hi 16 (by omega) with hb | hb
    · obtain ⟨v, A2, F2, B2, tg2, n, hn, hG, hi2, hf, hP⟩ := id_hf (L := L) (xs := xs) (d := 19) (tg := tg) (B := B) (vals := [.ref 1, .int c]) ie_h184 rfl (Nat.le_of_ble_eq_true rfl) (show ia_sk _ ie_m184.2.2.1 _ from ⟨List.mem_singleton.mpr rfl, id_kk (Int.le_of_eq hc.symm) (Int.le_of_eq hc), trivial⟩) hi (fun f hf => by
        rw [List.mem_singleton.mp hf]
        exact ⟨Int.le_of_eq hb.symm, Int.le_of_eq hb⟩)
      exact ⟨v, A2, F2, B2, tg2, n, hn, hG, hi2, id_s0 (M := ie_m184) (n := 16) (l := 60016) rfl hc (by omega) (by omega) hb rfl rfl rfl rfl (by decide +kernel) hf hP⟩
    · obtain ⟨v, A2, F2, B2, tg2, n, hn, hG, hi2, hf, hP⟩ := id_hf (L := L) (xs := xs) (d := 19) (tg := tg) (B := B) (vals := [.ref 1, .int c]) ie_h185 rfl (Nat.le_of_ble_eq_true rfl) (show ia_sk _ ie_m185.2.2.1 _ from ⟨List.mem_singleton.mpr rfl, id_kk (Int.le_of_eq hc.symm) (Int.le_of_eq hc), trivial⟩) hi (fun f hf => by
        rw [List.mem_singleton.mp hf]
        exact ⟨Int.le_of_eq hb.symm, Int.le_of_eq hb⟩)
      exact ⟨v, A2, F2, B2, tg2, n, hn, hG, hi2, id_s1 (M := ie_m185) (n := 16) hc (by omega) (by omega) hb rfl rfl rfl (by decide +kernel) hf hP⟩
  · rcases id_bit (r := 5) (by decide +kernel) rfl hi 17 (by omega) with hb | hb
    · obtain ⟨v, A2, F2, B2, tg2, n, hn, hG, hi2, hf, hP⟩ := id_hf (L := L) (xs := xs) (d := 19) (tg := tg) (B := B) (vals := [.ref 1, .int c]) ie_h186 rfl (Nat.le_of_ble_eq_true rfl) (show ia_sk _ ie_m186.2.2.1 _ from ⟨List.mem_singleton.mpr rfl, id_kk (Int.le_of_eq hc.symm) (Int.le_of_eq hc), trivial⟩) hi (fun f hf => by
        rw [List.mem_singleton.mp hf]
        exact ⟨Int.le_of_eq hb.symm, Int.le_of_eq hb⟩)
      exact ⟨v, A2, F2, B2, tg2, n, hn, hG, hi2, id_s0 (M := ie_m186) (n := 17) (l := 60017) rfl hc (by omega) (by omega) hb rfl rfl rfl rfl (by decide +kernel) hf hP⟩
    · obtain ⟨v, A2, F2, B2, tg2, n, hn, hG, hi2, hf, hP⟩ := id_hf (L := L) (xs := xs) (d := 19) (tg := tg) (B := B) (vals := [.ref 1, .int c]) ie_h187 rfl (Nat.le_of_ble_eq_true rfl) (show ia_sk _ ie_m187.2.2.1 _ from ⟨List.mem_singleton.mpr rfl, id_kk (Int.le_of_eq hc.symm) (Int.le_of_eq hc), trivial⟩) hi (fun f hf => by
        rw [List.mem_singleton.mp hf]
        exact ⟨Int.le_of_eq hb.symm, Int.le_of_eq hb⟩)
      exact ⟨v, A2, F2, B2, tg2, n, hn, hG, hi2, id_s1 (M := ie_m187) (n := 17) hc (by omega) (by omega) hb rfl rfl rfl (by decide +kernel) hf hP⟩
  · rcases id_bit (r := 5) (by decide +kernel) rfl hi 18 (by omega) with hb | hb
    · obtain ⟨v, A2, F2, B2, tg2, n, hn, hG, hi2, hf, hP⟩ := id_hf (L := L) (xs := xs) (d := 19) (tg := tg) (B := B) (vals := [.ref 1, .int c]) ie_h188 rfl (Nat.le_of_ble_eq_true rfl) (show ia_sk _ ie_m188.2.2.1 _ from ⟨List.mem_singleton.mpr rfl, id_kk (Int.le_of_eq hc.symm) (Int.le_of_eq hc), trivial⟩) hi (fun f hf => by
        rw [List.mem_singleton.mp hf]
        exact ⟨Int.le_of_eq hb.symm, Int.le_of_eq hb⟩)
      exact ⟨v, A2, F2, B2, tg2, n, hn, hG, hi2, id_s0 (M := ie_m188) (n := 18) (l := 60018) rfl hc (by omega) (by omega) hb rfl rfl rfl rfl (by decide +kernel) hf hP⟩
    · obtain ⟨v, A2, F2, B2, tg2, n, hn, hG, hi2, hf, hP⟩ := id_hf (L := L) (xs := xs) (d := 19) (tg := tg) (B := B) (vals := [.ref 1, .int c]) ie_h189 rfl (Nat.le_of_ble_eq_true rfl) (show ia_sk _ ie_m189.2.2.1 _ from ⟨List.mem_singleton.mpr rfl, id_kk (Int.le_of_eq hc.symm) (Int.le_of_eq hc), trivial⟩) hi (fun f hf => by
        rw [List.mem_singleton.mp hf]
        exact ⟨Int.le_of_eq hb.symm, Int.le_of_eq hb⟩)
      exact ⟨v, A2, F2, B2, tg2, n, hn, hG, hi2, id_s1 (M := ie_m189) (n := 18) hc (by omega) (by omega) hb rfl rfl rfl (by decide +kernel) hf hP⟩
  · rcases id_bit (r := 5) (by decide +kernel) rfl hi 19 (by omega) with hb | hb
    · obtain ⟨v, A2, F2, B2, tg2, n, hn, hG, hi2, hf, hP⟩ := id_hf (L := L) (xs := xs) (d := 19) (tg := tg) (B := B) (vals := [.ref 1, .int c]) ie_h190 rfl (Nat.le_of_ble_eq_true rfl) (show ia_sk _ ie_m190.2.2.1 _ from ⟨List.mem_singleton.mpr rfl, id_kk (Int.le_of_eq hc.symm) (Int.le_of_eq hc), trivial⟩) hi (fun f hf => by
        rw [List.mem_singleton.mp hf]
        exact ⟨Int.le_of_eq hb.symm, Int.le_of_eq hb⟩)
      exact ⟨v, A2, F2, B2, tg2, n, hn, hG, hi2, id_s0 (M := ie_m190) (n := 19) (l := 60019) rfl hc (by omega) (by omega) hb rfl rfl rfl rfl (by decide +kernel) hf hP⟩
    · obtain ⟨v, A2, F2, B2, tg2, n, hn, hG, hi2, hf, hP⟩ := id_hf (L := L) (xs := xs) (d := 19) (tg := tg) (B := B) (vals := [.ref 1, .int c]) ie_h191 rfl (Nat.le_of_ble_eq_true rfl) (show ia_sk _ ie_m191.2.2.1 _ from ⟨List.mem_singleton.mpr rfl, id_kk (Int.le_of_eq hc.symm) (Int.le_of_eq hc), trivial⟩) hi (fun f hf => by
        rw [List.mem_singleton.mp hf]
        exact ⟨Int.le_of_eq hb.symm, Int.le_of_eq hb⟩)
      exact ⟨v, A2, F2, B2, tg2, n, hn, hG, hi2, id_s1 (M := ie_m191) (n := 19) hc (by omega) (by omega) hb rfl rfl rfl (by decide +kernel) hf hP⟩
  · rcases id_bit (r := 5) (by decide +kernel) rfl hi 20 (by omega) with hb | hb
    · obtain ⟨v, A2, F2, B2, tg2, n, hn, hG, hi2, hf, hP⟩ := id_hf (L := L) (xs := xs) (d := 19) (tg := tg) (B := B) (vals := [.ref 1, .int c]) ie_h192 rfl (Nat.le_of_ble_eq_true rfl) (show ia_sk _ ie_m192.2.2.1 _ from ⟨List.mem_singleton.mpr rfl, id_kk (Int.le_of_eq hc.symm) (Int.le_of_eq hc), trivial⟩) hi (fun f hf => by
        rw [List.mem_singleton.mp hf]
        exact ⟨Int.le_of_eq hb.symm, Int.le_of_eq hb⟩)
      exact ⟨v, A2, F2, B2, tg2, n, hn, hG, hi2, id_s0 (M := ie_m192) (n := 20) (l := 60020) rfl hc (by omega) (by omega) hb rfl rfl rfl rfl (by decide +kernel) hf hP⟩
    · obtain ⟨v, A2, F2, B2, tg2, n, hn, hG, hi2, hf, hP⟩ := id_hf (L := L) (xs := xs) (d := 19) (tg := tg) (B := B) (vals := [.ref 1, .int c]) ie_h193 rfl (Nat.le_of_ble_eq_true rfl) (show ia_sk _ ie_m193.2.2.1 _ from ⟨List.mem_singleton.mpr rfl, id_kk (Int.le_of_eq hc.symm) (Int.le_of_eq hc), trivial⟩) hi (fun f hf => by
        rw [List.mem_singleton.mp hf]
        exact ⟨Int.le_of_eq hb.symm, Int.le_of_eq hb⟩)
      exact ⟨v, A2, F2, B2, tg2, n, hn, hG, hi2, id_s1 (M := ie_m193) (n := 20) hc (by omega) (by omega) hb rfl rfl rfl (by decide +kernel) hf hP⟩
  · rcases id_bit (r := 5) (by decide +kernel) rfl hi 21 (by omega) with hb | hb
    · obtain ⟨v, A2, F2, B2, tg2, n, hn, hG, hi2, hf, hP⟩ := id_hf (L := L) (xs := xs) (d := 19) (tg := tg) (B := B) (vals := [.ref 1, .int c]) ie_h194 rfl (Nat.le_of_ble_eq_true rfl) (show ia_sk _ ie_m194.2.2.1 _ from ⟨List.mem_singleton.mpr rfl, id_kk (Int.le_of_eq hc.symm) (Int.le_of_eq hc), trivial⟩) hi (fun f hf => by
        rw [List.mem_singleton.mp hf]
        exact ⟨Int.le_of_eq hb.symm, Int.le_of_eq hb⟩)
      exact ⟨v, A2, F2, B2, tg2, n, hn, hG, hi2, id_s0 (M := ie_m194) (n := 21) (l := 60021) rfl hc (by omega) (by omega) hb rfl rfl rfl rfl (by decide +kernel) hf hP⟩
    · obtain ⟨v, A2, F2, B2, tg2, n, hn, hG, hi2, hf, hP⟩ := id_hf (L := L) (xs := xs) (d := 19) (tg := tg) (B := B) (vals := [.ref 1, .int c]) ie_h195 rfl (Nat.le_of_ble_eq_true rfl) (show ia_sk _ ie_m195.2.2.1 _ from ⟨List.mem_singleton.mpr rfl, id_kk (Int.le_of_eq hc.symm) (Int.le_of_eq hc), trivial⟩) hi (fun f hf => by
        rw [List.mem_singleton.mp hf]
        exact ⟨Int.le_of_eq hb.symm, Int.le_of_eq hb⟩)
      exact ⟨v, A2, F2, B2, tg2, n, hn, hG, hi2, id_s1 (M := ie_m195) (n := 21) hc (by omega) (by omega) hb rfl rfl rfl (by decide +kernel) hf hP⟩
  · rcases id_bit (r := 5) (by decide +kernel) rfl hi 22 (by omega) with hb | hb
    · obtain ⟨v, A2, F2, B2, tg2, n, hn, hG, hi2, hf, hP⟩ := id_hf (L := L) (xs := xs) (d := 19) (tg := tg) (B := B) (vals := [.ref 1, .int c]) ie_h196 rfl (Nat.le_of_ble_eq_true rfl) (show ia_sk _ ie_m196.2.2.1 _ from ⟨List.mem_singleton.mpr rfl, id_kk (Int.le_of_eq hc.symm) (Int.le_of_eq hc), trivial⟩) hi (fun f hf => by
        rw [List.mem_singleton.mp hf]
        exact ⟨Int.le_of_eq hb.symm, Int.le_of_eq hb⟩)
      exact ⟨v, A2, F2, B2, tg2, n, hn, hG, hi2, id_s0 (M := ie_m196) (n := 22) (l := 60022) rfl hc (by omega) (by omega) hb rfl rfl rfl rfl (by decide +kernel) hf hP⟩
    · obtain ⟨v, A2, F2, B2, tg2, n, hn, hG, hi2, hf, hP⟩ := id_hf (L := L) (xs := xs) (d := 19) (tg := tg) (B := B) (vals := [.ref 1, .int c]) ie_h197 rfl (Nat.le_of_ble_eq_true rfl) (show ia_sk _ ie_m197.2.2.1 _ from ⟨List.mem_singleton.mpr rfl, id_kk (Int.le_of_eq hc.symm) (Int.le_of_eq hc), trivial⟩) hi (fun f hf => by
        rw [List.mem_singleton.mp hf]
        exact ⟨Int.le_of_eq hb.symm, Int.le_of_eq hb⟩)
      exact ⟨v, A2, F2, B2, tg2, n, hn, hG, hi2, id_s1 (M := ie_m197) (n := 22) hc (by omega) (by omega) hb rfl rfl rfl (by decide +kernel) hf hP⟩
  · rcases id_bit (r := 5) (by decide +kernel) rfl hi 23 (by omega) with hb | hb
    · obtain ⟨v, A2, F2, B2, tg2, n, hn, hG, hi2, hf, hP⟩ := id_hf (L := L) (xs := xs) (d := 19) (tg := tg) (B := B) (vals := [.ref 1, .int c]) ie_h198 rfl (Nat.le_of_ble_eq_true rfl) (show ia_sk _ ie_m198.2.2.1 _ from ⟨List.mem_singleton.mpr rfl, id_kk (Int.le_of_eq hc.symm) (Int.le_of_eq hc), trivial⟩) hi (fun f hf => by
        rw [List.mem_singleton.mp hf]
        exact ⟨Int.le_of_eq hb.symm, Int.le_of_eq hb⟩)
      exact ⟨v, A2, F2, B2, tg2, n, hn, hG, hi2, id_s0 (M := ie_m198) (n := 23) (l := 60023) rfl hc (by omega) (by omega) hb rfl rfl rfl rfl (by decide +kernel) hf hP⟩
    · obtain ⟨v, A2, F2, B2, tg2, n, hn, hG, hi2, hf, hP⟩ := id_hf (L := L) (xs := xs) (d := 19) (tg := tg) (B := B) (vals := [.ref 1, .int c]) ie_h199 rfl (Nat.le_of_ble_eq_true rfl) (show ia_sk _ ie_m199.2.2.1 _ from ⟨List.mem_singleton.mpr rfl, id_kk (Int.le_of_eq hc.symm) (Int.le_of_eq hc), trivial⟩) hi (fun f hf => by
        rw [List.mem_singleton.mp hf]
        exact ⟨Int.le_of_eq hb.symm, Int.le_of_eq hb⟩)
      exact ⟨v, A2, F2, B2, tg2, n, hn, hG, hi2, id_s1 (M := ie_m199) (n := 23) hc (by omega) (by omega) hb rfl rfl rfl (by decide +kernel) hf hP⟩
  · rcases id_bit (r := 5) (by decide +kernel) rfl hi 24 (by omega) with hb | hb
    · obtain ⟨v, A2, F2, B2, tg2, n, hn, hG, hi2, hf, hP⟩ := id_hf (L := L) (xs := xs) (d := 19) (tg := tg) (B := B) (vals := [.ref 1, .int c]) ie_h200 rfl (Nat.le_of_ble_eq_true rfl) (show ia_sk _ ie_m200.2.2.1 _ from ⟨List.mem_singleton.mpr rfl, id_kk (Int.le_of_eq hc.symm) (Int.le_of_eq hc), trivial⟩) hi (fun f hf => by
        rw [List.mem_singleton.mp hf]
        exact ⟨Int.le_of_eq hb.symm, Int.le_of_eq hb⟩)
      exact ⟨v, A2, F2, B2, tg2, n, hn, hG, hi2, id_s0 (M := ie_m200) (n := 24) (l := 60024) rfl hc (by omega) (by omega) hb rfl rfl rfl rfl (by decide +kernel) hf hP⟩
    · obtain ⟨v, A2, F2, B2, tg2, n, hn, hG, hi2, hf, hP⟩ := id_hf (L := L) (xs := xs) (d := 19) (tg := tg) (B := B) (vals := [.ref 1, .int c]) ie_h201 rfl (Nat.le_of_ble_eq_true rfl) (show ia_sk _ ie_m201.2.2.1 _ from ⟨List.mem_singleton.mpr rfl, id_kk (Int.le_of_eq hc.symm) (Int.le_of_eq hc), trivial⟩) hi (fun f hf => by
        rw [List.mem_singleton.mp hf]
        exact ⟨Int.le_of_eq hb.symm, Int.le_of_eq hb⟩)
      exact ⟨v, A2, F2, B2, tg2, n, hn, hG, hi2, id_s1 (M := ie_m201) (n := 24) hc (by omega) (by omega) hb rfl rfl rfl (by decide +kernel) hf hP⟩
  · rcases id_bit (r := 5) (by decide +kernel) rfl hi 25 (by omega) with hb | hb
    · obtain ⟨v, A2, F2, B2, tg2, n, hn, hG, hi2, hf, hP⟩ := id_hf (L := L) (xs := xs) (d := 19) (tg := tg) (B := B) (vals := [.ref 1, .int c]) ie_h202 rfl (Nat.le_of_ble_eq_true rfl) (show ia_sk _ ie_m202.2.2.1 _ from ⟨List.mem_singleton.mpr rfl, id_kk (Int.le_of_eq hc.symm) (Int.le_of_eq hc), trivial⟩) hi (fun f hf => by
        rw [List.mem_singleton.mp hf]
        exact ⟨Int.le_of_eq hb.symm, Int.le_of_eq hb⟩)
      exact ⟨v, A2, F2, B2, tg2, n, hn, hG, hi2, id_s0 (M := ie_m202) (n := 25) (l := 60025) rfl hc (by omega) (by omega) hb rfl rfl rfl rfl (by decide +kernel) hf hP⟩
    · obtain ⟨v, A2, F2, B2, tg2, n, hn, hG, hi2, hf, hP⟩ := id_hf (L := L) (xs := xs) (d := 19) (tg := tg) (B := B) (vals := [.ref 1, .int c]) ie_h203 rfl (Nat.le_of_ble_eq_true rfl) (show ia_sk _ ie_m203.2.2.1 _ from ⟨List.mem_singleton.mpr rfl, id_kk (Int.le_of_eq hc.symm) (Int.le_of_eq hc), trivial⟩) hi (fun f hf => by
        rw [List.mem_singleton.mp hf]
        exact ⟨Int.le_of_eq hb.symm, Int.le_of_eq hb⟩)
      exact ⟨v, A2, F2, B2, tg2, n, hn, hG, hi2, id_s1 (M := ie_m203) (n := 25) hc (by omega) (by omega) hb rfl rfl rfl (by decide +kernel) hf hP⟩
  · rcases id_bit (r := 5) (by decide +kernel) rfl hi 26 (by omega) with hb | hb
    · obtain ⟨v, A2, F2, B2, tg2, n, hn, hG, hi2, hf, hP⟩ := id_hf (L := L) (xs := xs) (d := 19) (tg := tg) (B := B) (vals := [.ref 1, .int c]) ie_h204 rfl (Nat.le_of_ble_eq_true rfl) (show ia_sk _ ie_m204.2.2.1 _ from ⟨List.mem_singleton.mpr rfl, id_kk (Int.le_of_eq hc.symm) (Int.le_of_eq hc), trivial⟩) hi (fun f hf => by
        rw [List.mem_singleton.mp hf]
        exact ⟨Int.le_of_eq hb.symm, Int.le_of_eq hb⟩)
      exact ⟨v, A2, F2, B2, tg2, n, hn, hG, hi2, id_s0 (M := ie_m204) (n := 26) (l := 60026) rfl hc (by omega) (by omega) hb rfl rfl rfl rfl (by decide +kernel) hf hP⟩
    · obtain ⟨v, A2, F2, B2, tg2, n, hn, hG, hi2, hf, hP⟩ := id_hf (L := L) (xs := xs) (d := 19) (tg := tg) (B := B) (vals := [.ref 1, .int c]) ie_h205 rfl (Nat.le_of_ble_eq_true rfl) (show ia_sk _ ie_m205.2.2.1 _ from ⟨List.mem_singleton.mpr rfl, id_kk (Int.le_of_eq hc.symm) (Int.le_of_eq hc), trivial⟩) hi (fun f hf => by
        rw [List.mem_singleton.mp hf]
        exact ⟨Int.le_of_eq hb.symm, Int.le_of_eq hb⟩)
      exact ⟨v, A2, F2, B2, tg2, n, hn, hG, hi2, id_s1 (M := ie_m205) (n := 26) hc (by omega) (by omega) hb rfl rfl rfl (by decide +kernel) hf hP⟩
  · rcases id_bit (r := 5) (by decide +kernel) rfl hi 27 (by omega) with hb | hb
    · obtain ⟨v, A2, F2, B2, tg2, n, hn, hG, hi2, hf, hP⟩ := id_hf (L := L) (xs := xs) (d := 19) (tg := tg) (B := B) (vals := [.ref 1, .int c]) ie_h206 rfl (Nat.le_of_ble_eq_true rfl) (show ia_sk _ ie_m206.2.2.1 _ from ⟨List.mem_singleton.mpr rfl, id_kk (Int.le_of_eq hc.symm) (Int.le_of_eq hc), trivial⟩) hi (fun f hf => by
        rw [List.mem_singleton.mp hf]
        exact ⟨Int.le_of_eq hb.symm, Int.le_of_eq hb⟩)
      exact ⟨v, A2, F2, B2, tg2, n, hn, hG, hi2, id_s0 (M := ie_m206) (n := 27) (l := 60027) rfl hc (by omega) (by omega) hb rfl rfl rfl rfl (by decide +kernel) hf hP⟩
    · obtain ⟨v, A2, F2, B2, tg2, n, hn, hG, hi2, hf, hP⟩ := id_hf (L := L) (xs := xs) (d := 19) (tg := tg) (B := B) (vals := [.ref 1, .int c]) ie_h207 rfl (Nat.le_of_ble_eq_true rfl) (show ia_sk _ ie_m207.2.2.1 _ from ⟨List.mem_singleton.mpr rfl, id_kk (Int.le_of_eq hc.symm) (Int.le_of_eq hc), trivial⟩) hi (fun f hf => by
        rw [List.mem_singleton.mp hf]
        exact ⟨Int.le_of_eq hb.symm, Int.le_of_eq hb⟩)
      exact ⟨v, A2, F2, B2, tg2, n, hn, hG, hi2, id_s1 (M := ie_m207) (n := 27) hc (by omega) (by omega) hb rfl rfl rfl (by decide +kernel) hf hP⟩
  · rcases id_bit (r := 5) (by decide +kernel) rfl hi 28 (by omega) with hb | hb
    · obtain ⟨v, A2, F2, B2, tg2, n, hn, hG, hi2, hf, hP⟩ := id_hf (L := L) (xs := xs) (d := 19) (tg := tg) (B := B) (vals := [.ref 1, .int c]) ie_h208 rfl (Nat.le_of_ble_eq_true rfl) (show ia_sk _ ie_m208.2.2.1 _ from ⟨List.mem_singleton.mpr rfl, id_kk (Int.le_of_eq hc.symm) (Int.le_of_eq hc), trivial⟩) hi (fun f hf => by
        rw [List.mem_singleton.mp hf]
        exact ⟨Int.le_of_eq hb.symm, Int.le_of_eq hb⟩)
      exact ⟨v, A2, F2, B2, tg2, n, hn, hG, hi2, id_s0 (M := ie_m208) (n := 28) (l := 60028) rfl hc (by omega) (by omega) hb rfl rfl rfl rfl (by decide +kernel) hf hP⟩
    · obtain ⟨v, A2, F2, B2, tg2, n, hn, hG, hi2, hf, hP⟩ := id_hf (L := L) (xs := xs) (d := 19) (tg := tg) (B := B) (vals := [.ref 1, .int c]) ie_h209 rfl (Nat.le_of_ble_eq_true rfl) (show ia_sk _ ie_m209.2.2.1 _ from ⟨List.mem_singleton.mpr rfl, id_kk (Int.le_of_eq hc.symm) (Int.le_of_eq hc), trivial⟩) hi (fun f hf => by
        rw [List.mem_singleton.mp hf]
        exact ⟨Int.le_of_eq hb.symm, Int.le_of_eq hb⟩)
      exact ⟨v, A2, F2, B2, tg2, n, hn, hG, hi2, id_s1 (M := ie_m209) (n := 28) hc (by omega) (by omega) hb rfl rfl rfl (by decide +kernel) hf hP⟩
  · rcases id_bit (r := 5) (by decide +kernel) rfl hi 29 (by omega) with hb | hb
    · obtain ⟨v, A2, F2, B2, tg2, n, hn, hG, hi2, hf, hP⟩ := id_hf (L := L) (xs := xs) (d := 19) (tg := tg) (B := B) (vals := [.ref 1, .int c]) ie_h210 rfl (Nat.le_of_ble_eq_true rfl) (show ia_sk _ ie_m210.2.2.1 _ from ⟨List.mem_singleton.mpr rfl, id_kk (Int.le_of_eq hc.symm) (Int.le_of_eq hc), trivial⟩) hi (fun f hf => by
        rw [List.mem_singleton.mp hf]
        exact ⟨Int.le_of_eq hb.symm, Int.le_of_eq hb⟩)
      exact ⟨v, A2, F2, B2, tg2, n, hn, hG, hi2, id_s0 (M := ie_m210) (n := 29) (l := 60029) rfl hc (by omega) (by omega) hb rfl rfl rfl rfl (by decide +kernel) hf hP⟩
    · obtain ⟨v, A2, F2, B2, tg2, n, hn, hG, hi2, hf, hP⟩ := id_hf (L := L) (xs := xs) (d := 19) (tg := tg) (B := B) (vals := [.ref 1, .int c]) ie_h211 rfl (Nat.le_of_ble_eq_true rfl) (show ia_sk _ ie_m211.2.2.1 _ from ⟨List.mem_singleton.mpr rfl, id_kk (Int.le_of_eq hc.symm) (Int.le_of_eq hc), trivial⟩) hi (fun f hf => by
        rw [List.mem_singleton.mp hf]
        exact ⟨Int.le_of_eq hb.symm, Int.le_of_eq hb⟩)
      exact ⟨v, A2, F2, B2, tg2, n, hn, hG, hi2, id_s1 (M := ie_m211) (n := 29) hc (by omega) (by omega) hb rfl rfl rfl (by decide +kernel) hf hP⟩
  · rcases id_bit (r := 5) (by decide +kernel) rfl hi 30 (by omega) with hb | hb
    · obtain ⟨v, A2, F2, B2, tg2, n, hn, hG, hi2, hf, hP⟩ := id_hf (L := L) (xs := xs) (d := 19) (tg := tg) (B := B) (vals := [.ref 1, .int c]) ie_h212 rfl (Nat.le_of_ble_eq_true rfl) (show ia_sk _ ie_m212.2.2.1 _ from ⟨List.mem_singleton.mpr rfl, id_kk (Int.le_of_eq hc.symm) (Int.le_of_eq hc), trivial⟩) hi (fun f hf => by
        rw [List.mem_singleton.mp hf]
        exact ⟨Int.le_of_eq hb.symm, Int.le_of_eq hb⟩)
      exact ⟨v, A2, F2, B2, tg2, n, hn, hG, hi2, id_s0 (M := ie_m212) (n := 30) (l := 60030) rfl hc (by omega) (by omega) hb rfl rfl rfl rfl (by decide +kernel) hf hP⟩
    · obtain ⟨v, A2, F2, B2, tg2, n, hn, hG, hi2, hf, hP⟩ := id_hf (L := L) (xs := xs) (d := 19) (tg := tg) (B := B) (vals := [.ref 1, .int c]) ie_h213 rfl (Nat.le_of_ble_eq_true rfl) (show ia_sk _ ie_m213.2.2.1 _ from ⟨List.mem_singleton.mpr rfl, id_kk (Int.le_of_eq hc.symm) (Int.le_of_eq hc), trivial⟩) hi (fun f hf => by
        rw [List.mem_singleton.mp hf]
        exact ⟨Int.le_of_eq hb.symm, Int.le_of_eq hb⟩)
      exact ⟨v, A2, F2, B2, tg2, n, hn, hG, hi2, id_s1 (M := ie_m213) (n := 30) hc (by omega) (by omega) hb rfl rfl rfl (by decide +kernel) hf hP⟩
  · rcases id_bit (r := 5) (by decide +kernel) rfl hi 31 (by omega) with hb | hb
    · obtain ⟨v, A2, F2, B2, tg2, n, hn, hG, hi2, hf, hP⟩ := id_hf (L := L) (xs := xs) (d := 19) (tg := tg) (B := B) (vals := [.ref 1, .int c]) ie_h214 rfl (Nat.le_of_ble_eq_true rfl) (show ia_sk _ ie_m214.2.2.1 _ from ⟨List.mem_singleton.mpr rfl, id_kk (Int.le_of_eq hc.symm) (Int.le_of_eq hc), trivial⟩) hi (fun f hf => by
        rw [List.mem_singleton.mp hf]
        exact ⟨Int.le_of_eq hb.symm, Int.le_of_eq hb⟩)
      exact ⟨v, A2, F2, B2, tg2, n, hn, hG, hi2, id_s0 (M := ie_m214) (n := 31) (l := 60031) rfl hc (by omega) (by omega) hb rfl rfl rfl rfl (by decide +kernel) hf hP⟩
    · obtain ⟨v, A2, F2, B2, tg2, n, hn, hG, hi2, hf, hP⟩ := id_hf (L := L) (xs := xs) (d := 19) (tg := tg) (B := B) (vals := [.ref 1, .int c]) ie_h215 rfl (Nat.le_of_ble_eq_true rfl) (show ia_sk _ ie_m215.2.2.1 _ from ⟨List.mem_singleton.mpr rfl, id_kk (Int.le_of_eq hc.symm) (Int.le_of_eq hc), trivial⟩) hi (fun f hf => by
        rw [List.mem_singleton.mp hf]
        exact ⟨Int.le_of_eq hb.symm, Int.le_of_eq hb⟩)
      exact ⟨v, A2, F2, B2, tg2, n, hn, hG, hi2, id_s1 (M := ie_m215) (n := 31) hc (by omega) (by omega) hb rfl rfl rfl (by decide +kernel) hf hP⟩
set_option maxRecDepth 1000000 in
set_option maxHeartbeats 40000000 in
theorem id_spR {L : Nat} {xs : Nat → Int32} {tg : Bool} {A : Nat → Nat → Int32} {F : Nat → Int32} {B : Nat → Int64} (c : Int32) (hi : ia_inv A F []) : ∃ (v : Int32) (A2 : Nat → Nat → Int32) (F2 : Nat → Int32) (B2 : Nat → Int64) (tg2 : Bool) (n : Nat), n ≤ 1 ∧ iv_G L xs 19 175 0 (lv_args 0 [.ref 44, .int c]) [] (ia_wd A F B) tg 0 0 (.inl (some (.int v)), ia_wd A2 F2 B2, tg2, n, 6 * n) ∧ ia_inv A2 F2 [] ∧ id_sp 48 5 c v A A2 := by
  have l1 := ia_lo c
  have l2 := ia_hi c
  by_cases h1 : c.toInt ≤ 1
  · obtain ⟨v, A2, F2, B2, tg2, n, hn, hG, hi2, hf, hP⟩ := id_hf (L := L) (xs := xs) (d := 19) (tg := tg) (B := B) (vals := [.ref 44, .int c]) ie_h216 rfl (Nat.le_of_ble_eq_true rfl) (show ia_sk _ ie_m216.2.2.1 _ from ⟨List.mem_singleton.mpr rfl, id_kk l1 h1, trivial⟩) hi (fun f hf => by cases hf)
    exact ⟨v, A2, F2, B2, tg2, n, hn, hG, hi2, id_so (M := ie_m216) (by omega) rfl rfl rfl (by decide +kernel) hf hP⟩
  by_cases h31 : 32 ≤ c.toInt
  · obtain ⟨v, A2, F2, B2, tg2, n, hn, hG, hi2, hf, hP⟩ := id_hf (L := L) (xs := xs) (d := 19) (tg := tg) (B := B) (vals := [.ref 44, .int c]) ie_h217 rfl (Nat.le_of_ble_eq_true rfl) (show ia_sk _ ie_m217.2.2.1 _ from ⟨List.mem_singleton.mpr rfl, id_kk h31 l2, trivial⟩) hi (fun f hf => by cases hf)
    exact ⟨v, A2, F2, B2, tg2, n, hn, hG, hi2, id_so (M := ie_m217) (by omega) rfl rfl rfl (by decide +kernel) hf hP⟩
  have hc : c.toInt = 2 ∨ c.toInt = 3 ∨ c.toInt = 4 ∨ c.toInt = 5 ∨ c.toInt = 6 ∨ c.toInt = 7 ∨ c.toInt = 8 ∨ c.toInt = 9 ∨ c.toInt = 10 ∨ c.toInt = 11 ∨ c.toInt = 12 ∨ c.toInt = 13 ∨ c.toInt = 14 ∨ c.toInt = 15 ∨ c.toInt = 16 ∨ c.toInt = 17 ∨ c.toInt = 18 ∨ c.toInt = 19 ∨ c.toInt = 20 ∨ c.toInt = 21 ∨ c.toInt = 22 ∨ c.toInt = 23 ∨ c.toInt = 24 ∨ c.toInt = 25 ∨ c.toInt = 26 ∨ c.toInt = 27 ∨ c.toInt = 28 ∨ c.toInt = 29 ∨ c.toInt = 30 ∨ c.toInt = 31 := by omega
  rcases hc with hc | hc | hc | hc | hc | hc | hc | hc | hc | hc | hc | hc | hc | hc | hc | hc | hc | hc | hc | hc | hc | hc | hc | hc | hc | hc | hc | hc | hc | hc
  · rcases id_bit (r := 48) (by decide +kernel) rfl hi 2 (by omega) with hb | hb
    · obtain ⟨v, A2, F2, B2, tg2, n, hn, hG, hi2, hf, hP⟩ := id_hf (L := L) (xs := xs) (d := 19) (tg := tg) (B := B) (vals := [.ref 44, .int c]) ie_h218 rfl (Nat.le_of_ble_eq_true rfl) (show ia_sk _ ie_m218.2.2.1 _ from ⟨List.mem_singleton.mpr rfl, id_kk (Int.le_of_eq hc.symm) (Int.le_of_eq hc), trivial⟩) hi (fun f hf => by
        rw [List.mem_singleton.mp hf]
        exact ⟨Int.le_of_eq hb.symm, Int.le_of_eq hb⟩)
      exact ⟨v, A2, F2, B2, tg2, n, hn, hG, hi2, id_s0 (M := ie_m218) (n := 2) (l := 490002) rfl hc (by omega) (by omega) hb rfl rfl rfl rfl (by decide +kernel) hf hP⟩
    · obtain ⟨v, A2, F2, B2, tg2, n, hn, hG, hi2, hf, hP⟩ := id_hf (L := L) (xs := xs) (d := 19) (tg := tg) (B := B) (vals := [.ref 44, .int c]) ie_h219 rfl (Nat.le_of_ble_eq_true rfl) (show ia_sk _ ie_m219.2.2.1 _ from ⟨List.mem_singleton.mpr rfl, id_kk (Int.le_of_eq hc.symm) (Int.le_of_eq hc), trivial⟩) hi (fun f hf => by
        rw [List.mem_singleton.mp hf]
        exact ⟨Int.le_of_eq hb.symm, Int.le_of_eq hb⟩)
      exact ⟨v, A2, F2, B2, tg2, n, hn, hG, hi2, id_s1 (M := ie_m219) (n := 2) hc (by omega) (by omega) hb rfl rfl rfl (by decide +kernel) hf hP⟩
  · rcases id_bit (r := 48) (by decide +kernel) rfl hi 3 (by omega) with hb | hb
    · obtain ⟨v, A2, F2, B2, tg2, n, hn, hG, hi2, hf, hP⟩ := id_hf (L := L) (xs := xs) (d := 19) (tg := tg) (B := B) (vals := [.ref 44, .int c]) ie_h220 rfl (Nat.le_of_ble_eq_true rfl) (show ia_sk _ ie_m220.2.2.1 _ from ⟨List.mem_singleton.mpr rfl, id_kk (Int.le_of_eq hc.symm) (Int.le_of_eq hc), trivial⟩) hi (fun f hf => by
        rw [List.mem_singleton.mp hf]
        exact ⟨Int.le_of_eq hb.symm, Int.le_of_eq hb⟩)
      exact ⟨v, A2, F2, B2, tg2, n, hn, hG, hi2, id_s0 (M := ie_m220) (n := 3) (l := 490003) rfl hc (by omega) (by omega) hb rfl rfl rfl rfl (by decide +kernel) hf hP⟩
    · obtain ⟨v, A2, F2, B2, tg2, n, hn, hG, hi2, hf, hP⟩ := id_hf (L := L) (xs := xs) (d := 19) (tg := tg) (B := B) (vals := [.ref 44, .int c]) ie_h221 rfl (Nat.le_of_ble_eq_true rfl) (show ia_sk _ ie_m221.2.2.1 _ from ⟨List.mem_singleton.mpr rfl, id_kk (Int.le_of_eq hc.symm) (Int.le_of_eq hc), trivial⟩) hi (fun f hf => by
        rw [List.mem_singleton.mp hf]
        exact ⟨Int.le_of_eq hb.symm, Int.le_of_eq hb⟩)
      exact ⟨v, A2, F2, B2, tg2, n, hn, hG, hi2, id_s1 (M := ie_m221) (n := 3) hc (by omega) (by omega) hb rfl rfl rfl (by decide +kernel) hf hP⟩
  · rcases id_bit (r := 48) (by decide +kernel) rfl hi 4 (by omega) with hb | hb
    · obtain ⟨v, A2, F2, B2, tg2, n, hn, hG, hi2, hf, hP⟩ := id_hf (L := L) (xs := xs) (d := 19) (tg := tg) (B := B) (vals := [.ref 44, .int c]) ie_h222 rfl (Nat.le_of_ble_eq_true rfl) (show ia_sk _ ie_m222.2.2.1 _ from ⟨List.mem_singleton.mpr rfl, id_kk (Int.le_of_eq hc.symm) (Int.le_of_eq hc), trivial⟩) hi (fun f hf => by
        rw [List.mem_singleton.mp hf]
        exact ⟨Int.le_of_eq hb.symm, Int.le_of_eq hb⟩)
      exact ⟨v, A2, F2, B2, tg2, n, hn, hG, hi2, id_s0 (M := ie_m222) (n := 4) (l := 490004) rfl hc (by omega) (by omega) hb rfl rfl rfl rfl (by decide +kernel) hf hP⟩
    · obtain ⟨v, A2, F2, B2, tg2, n, hn, hG, hi2, hf, hP⟩ := id_hf (L := L) (xs := xs) (d := 19) (tg := tg) (B := B) (vals := [.ref 44, .int c]) ie_h223 rfl (Nat.le_of_ble_eq_true rfl) (show ia_sk _ ie_m223.2.2.1 _ from ⟨List.mem_singleton.mpr rfl, id_kk (Int.le_of_eq hc.symm) (Int.le_of_eq hc), trivial⟩) hi (fun f hf => by
        rw [List.mem_singleton.mp hf]
        exact ⟨Int.le_of_eq hb.symm, Int.le_of_eq hb⟩)
      exact ⟨v, A2, F2, B2, tg2, n, hn, hG, hi2, id_s1 (M := ie_m223) (n := 4) hc (by omega) (by omega) hb rfl rfl rfl (by decide +kernel) hf hP⟩
  · rcases id_bit (r := 48) (by decide +kernel) rfl hi 5 (by omega) with hb | hb
    · obtain ⟨v, A2, F2, B2, tg2, n, hn, hG, hi2, hf, hP⟩ := id_hf (L := L) (xs := xs) (d := 19) (tg := tg) (B := B) (vals := [.ref 44, .int c]) ie_h224 rfl (Nat.le_of_ble_eq_true rfl) (show ia_sk _ ie_m224.2.2.1 _ from ⟨List.mem_singleton.mpr rfl, id_kk (Int.le_of_eq hc.symm) (Int.le_of_eq hc), trivial⟩) hi (fun f hf => by
        rw [List.mem_singleton.mp hf]
        exact ⟨Int.le_of_eq hb.symm, Int.le_of_eq hb⟩)
      exact ⟨v, A2, F2, B2, tg2, n, hn, hG, hi2, id_s0 (M := ie_m224) (n := 5) (l := 490005) rfl hc (by omega) (by omega) hb rfl rfl rfl rfl (by decide +kernel) hf hP⟩
    · obtain ⟨v, A2, F2, B2, tg2, n, hn, hG, hi2, hf, hP⟩ := id_hf (L := L) (xs := xs) (d := 19) (tg := tg) (B := B) (vals := [.ref 44, .int c]) ie_h225 rfl (Nat.le_of_ble_eq_true rfl) (show ia_sk _ ie_m225.2.2.1 _ from ⟨List.mem_singleton.mpr rfl, id_kk (Int.le_of_eq hc.symm) (Int.le_of_eq hc), trivial⟩) hi (fun f hf => by
        rw [List.mem_singleton.mp hf]
        exact ⟨Int.le_of_eq hb.symm, Int.le_of_eq hb⟩)
      exact ⟨v, A2, F2, B2, tg2, n, hn, hG, hi2, id_s1 (M := ie_m225) (n := 5) hc (by omega) (by omega) hb rfl rfl rfl (by decide +kernel) hf hP⟩
  · rcases id_bit (r := 48) (by decide +kernel) rfl hi 6 (by omega) with hb | hb
    · obtain ⟨v, A2, F2, B2, tg2, n, hn, hG, hi2, hf, hP⟩ := id_hf (L := L) (xs := xs) (d := 19) (tg := tg) (B := B) (vals := [.ref 44, .int c]) ie_h226 rfl (Nat.le_of_ble_eq_true rfl) (show ia_sk _ ie_m226.2.2.1 _ from ⟨List.mem_singleton.mpr rfl, id_kk (Int.le_of_eq hc.symm) (Int.le_of_eq hc), trivial⟩) hi (fun f hf => by
        rw [List.mem_singleton.mp hf]
        exact ⟨Int.le_of_eq hb.symm, Int.le_of_eq hb⟩)
      exact ⟨v, A2, F2, B2, tg2, n, hn, hG, hi2, id_s0 (M := ie_m226) (n := 6) (l := 490006) rfl hc (by omega) (by omega) hb rfl rfl rfl rfl (by decide +kernel) hf hP⟩
    · obtain ⟨v, A2, F2, B2, tg2, n, hn, hG, hi2, hf, hP⟩ := id_hf (L := L) (xs := xs) (d := 19) (tg := tg) (B := B) (vals := [.ref 44, .int c]) ie_h227 rfl (Nat.le_of_ble_eq_true rfl) (show ia_sk _ ie_m227.2.2.1 _ from ⟨List.mem_singleton.mpr rfl, id_kk (Int.le_of_eq hc.symm) (Int.le_of_eq hc), trivial⟩) hi (fun f hf => by
        rw [List.mem_singleton.mp hf]
        exact ⟨Int.le_of_eq hb.symm, Int.le_of_eq hb⟩)
      exact ⟨v, A2, F2, B2, tg2, n, hn, hG, hi2, id_s1 (M := ie_m227) (n := 6) hc (by omega) (by omega) hb rfl rfl rfl (by decide +kernel) hf hP⟩
  · rcases id_bit (r := 48) (by decide +kernel) rfl hi 7 (by omega) with hb | hb
    · obtain ⟨v, A2, F2, B2, tg2, n, hn, hG, hi2, hf, hP⟩ := id_hf (L := L) (xs := xs) (d := 19) (tg := tg) (B := B) (vals := [.ref 44, .int c]) ie_h228 rfl (Nat.le_of_ble_eq_true rfl) (show ia_sk _ ie_m228.2.2.1 _ from ⟨List.mem_singleton.mpr rfl, id_kk (Int.le_of_eq hc.symm) (Int.le_of_eq hc), trivial⟩) hi (fun f hf => by
        rw [List.mem_singleton.mp hf]
        exact ⟨Int.le_of_eq hb.symm, Int.le_of_eq hb⟩)
      exact ⟨v, A2, F2, B2, tg2, n, hn, hG, hi2, id_s0 (M := ie_m228) (n := 7) (l := 490007) rfl hc (by omega) (by omega) hb rfl rfl rfl rfl (by decide +kernel) hf hP⟩
    · obtain ⟨v, A2, F2, B2, tg2, n, hn, hG, hi2, hf, hP⟩ := id_hf (L := L) (xs := xs) (d := 19) (tg := tg) (B := B) (vals := [.ref 44, .int c]) ie_h229 rfl (Nat.le_of_ble_eq_true rfl) (show ia_sk _ ie_m229.2.2.1 _ from ⟨List.mem_singleton.mpr rfl, id_kk (Int.le_of_eq hc.symm) (Int.le_of_eq hc), trivial⟩) hi (fun f hf => by
        rw [List.mem_singleton.mp hf]
        exact ⟨Int.le_of_eq hb.symm, Int.le_of_eq hb⟩)
      exact ⟨v, A2, F2, B2, tg2, n, hn, hG, hi2, id_s1 (M := ie_m229) (n := 7) hc (by omega) (by omega) hb rfl rfl rfl (by decide +kernel) hf hP⟩
  · rcases id_bit (r := 48) (by decide +kernel) rfl hi 8 (by omega) with hb | hb
    · obtain ⟨v, A2, F2, B2, tg2, n, hn, hG, hi2, hf, hP⟩ := id_hf (L := L) (xs := xs) (d := 19) (tg := tg) (B := B) (vals := [.ref 44, .int c]) ie_h230 rfl (Nat.le_of_ble_eq_true rfl) (show ia_sk _ ie_m230.2.2.1 _ from ⟨List.mem_singleton.mpr rfl, id_kk (Int.le_of_eq hc.symm) (Int.le_of_eq hc), trivial⟩) hi (fun f hf => by
        rw [List.mem_singleton.mp hf]
        exact ⟨Int.le_of_eq hb.symm, Int.le_of_eq hb⟩)
      exact ⟨v, A2, F2, B2, tg2, n, hn, hG, hi2, id_s0 (M := ie_m230) (n := 8) (l := 490008) rfl hc (by omega) (by omega) hb rfl rfl rfl rfl (by decide +kernel) hf hP⟩
    · obtain ⟨v, A2, F2, B2, tg2, n, hn, hG, hi2, hf, hP⟩ := id_hf (L := L) (xs := xs) (d := 19) (tg := tg) (B := B) (vals := [.ref 44, .int c]) ie_h231 rfl (Nat.le_of_ble_eq_true rfl) (show ia_sk _ ie_m231.2.2.1 _ from ⟨List.mem_singleton.mpr rfl, id_kk (Int.le_of_eq hc.symm) (Int.le_of_eq hc), trivial⟩) hi (fun f hf => by
        rw [List.mem_singleton.mp hf]
        exact ⟨Int.le_of_eq hb.symm, Int.le_of_eq hb⟩)
      exact ⟨v, A2, F2, B2, tg2, n, hn, hG, hi2, id_s1 (M := ie_m231) (n := 8) hc (by omega) (by omega) hb rfl rfl rfl (by decide +kernel) hf hP⟩
  · rcases id_bit (r := 48) (by decide +kernel) rfl hi 9 (by omega) with hb | hb
    · obtain ⟨v, A2, F2, B2, tg2, n, hn, hG, hi2, hf, hP⟩ := id_hf (L := L) (xs := xs) (d := 19) (tg := tg) (B := B) (vals := [.ref 44, .int c]) ie_h232 rfl (Nat.le_of_ble_eq_true rfl) (show ia_sk _ ie_m232.2.2.1 _ from ⟨List.mem_singleton.mpr rfl, id_kk (Int.le_of_eq hc.symm) (Int.le_of_eq hc), trivial⟩) hi (fun f hf => by
        rw [List.mem_singleton.mp hf]
        exact ⟨Int.le_of_eq hb.symm, Int.le_of_eq hb⟩)
      exact ⟨v, A2, F2, B2, tg2, n, hn, hG, hi2, id_s0 (M := ie_m232) (n := 9) (l := 490009) rfl hc (by omega) (by omega) hb rfl rfl rfl rfl (by decide +kernel) hf hP⟩
    · obtain ⟨v, A2, F2, B2, tg2, n, hn, hG, hi2, hf, hP⟩ := id_hf (L := L) (xs := xs) (d := 19) (tg := tg) (B := B) (vals := [.ref 44, .int c]) ie_h233 rfl (Nat.le_of_ble_eq_true rfl) (show ia_sk _ ie_m233.2.2.1 _ from ⟨List.mem_singleton.mpr rfl, id_kk (Int.le_of_eq hc.symm) (Int.le_of_eq hc), trivial⟩) hi (fun f hf => by
        rw [List.mem_singleton.mp hf]
        exact ⟨Int.le_of_eq hb.symm, Int.le_of_eq hb⟩)
      exact ⟨v, A2, F2, B2, tg2, n, hn, hG, hi2, id_s1 (M := ie_m233) (n := 9) hc (by omega) (by omega) hb rfl rfl rfl (by decide +kernel) hf hP⟩
  · rcases id_bit (r := 48) (by decide +kernel) rfl hi 10 (by omega) with hb | hb
    · obtain ⟨v, A2, F2, B2, tg2, n, hn, hG, hi2, hf, hP⟩ := id_hf (L := L) (xs := xs) (d := 19) (tg := tg) (B := B) (vals := [.ref 44, .int c]) ie_h234 rfl (Nat.le_of_ble_eq_true rfl) (show ia_sk _ ie_m234.2.2.1 _ from ⟨List.mem_singleton.mpr rfl, id_kk (Int.le_of_eq hc.symm) (Int.le_of_eq hc), trivial⟩) hi (fun f hf => by
        rw [List.mem_singleton.mp hf]
        exact ⟨Int.le_of_eq hb.symm, Int.le_of_eq hb⟩)
      exact ⟨v, A2, F2, B2, tg2, n, hn, hG, hi2, id_s0 (M := ie_m234) (n := 10) (l := 490010) rfl hc (by omega) (by omega) hb rfl rfl rfl rfl (by decide +kernel) hf hP⟩
    · obtain ⟨v, A2, F2, B2, tg2, n, hn, hG, hi2, hf, hP⟩ := id_hf (L := L) (xs := xs) (d := 19) (tg := tg) (B := B) (vals := [.ref 44, .int c]) ie_h235 rfl (Nat.le_of_ble_eq_true rfl) (show ia_sk _ ie_m235.2.2.1 _ from ⟨List.mem_singleton.mpr rfl, id_kk (Int.le_of_eq hc.symm) (Int.le_of_eq hc), trivial⟩) hi (fun f hf => by
        rw [List.mem_singleton.mp hf]
        exact ⟨Int.le_of_eq hb.symm, Int.le_of_eq hb⟩)
      exact ⟨v, A2, F2, B2, tg2, n, hn, hG, hi2, id_s1 (M := ie_m235) (n := 10) hc (by omega) (by omega) hb rfl rfl rfl (by decide +kernel) hf hP⟩
  · rcases id_bit (r := 48) (by decide +kernel) rfl hi 11 (by omega) with hb | hb
    · obtain ⟨v, A2, F2, B2, tg2, n, hn, hG, hi2, hf, hP⟩ := id_hf (L := L) (xs := xs) (d := 19) (tg := tg) (B := B) (vals := [.ref 44, .int c]) ie_h236 rfl (Nat.le_of_ble_eq_true rfl) (show ia_sk _ ie_m236.2.2.1 _ from ⟨List.mem_singleton.mpr rfl, id_kk (Int.le_of_eq hc.symm) (Int.le_of_eq hc), trivial⟩) hi (fun f hf => by
        rw [List.mem_singleton.mp hf]
        exact ⟨Int.le_of_eq hb.symm, Int.le_of_eq hb⟩)
      exact ⟨v, A2, F2, B2, tg2, n, hn, hG, hi2, id_s0 (M := ie_m236) (n := 11) (l := 490011) rfl hc (by omega) (by omega) hb rfl rfl rfl rfl (by decide +kernel) hf hP⟩
    · obtain ⟨v, A2, F2, B2, tg2, n, hn, hG, hi2, hf, hP⟩ := id_hf (L := L) (xs := xs) (d := 19) (tg := tg) (B := B) (vals := [.ref 44, .int c]) ie_h237 rfl (Nat.le_of_ble_eq_true rfl) (show ia_sk _ ie_m237.2.2.1 _ from ⟨List.mem_singleton.mpr rfl, id_kk (Int.le_of_eq hc.symm) (Int.le_of_eq hc), trivial⟩) hi (fun f hf => by
        rw [List.mem_singleton.mp hf]
        exact ⟨Int.le_of_eq hb.symm, Int.le_of_eq hb⟩)
      exact ⟨v, A2, F2, B2, tg2, n, hn, hG, hi2, id_s1 (M := ie_m237) (n := 11) hc (by omega) (by omega) hb rfl rfl rfl (by decide +kernel) hf hP⟩
  · rcases id_bit (r := 48) (by decide +kernel) rfl hi 12 (by omega) with hb | hb
    · obtain ⟨v, A2, F2, B2, tg2, n, hn, hG, hi2, hf, hP⟩ := id_hf (L := L) (xs := xs) (d := 19) (tg := tg) (B := B) (vals := [.ref 44, .int c]) ie_h238 rfl (Nat.le_of_ble_eq_true rfl) (show ia_sk _ ie_m238.2.2.1 _ from ⟨List.mem_singleton.mpr rfl, id_kk (Int.le_of_eq hc.symm) (Int.le_of_eq hc), trivial⟩) hi (fun f hf => by
        rw [List.mem_singleton.mp hf]
        exact ⟨Int.le_of_eq hb.symm, Int.le_of_eq hb⟩)
      exact ⟨v, A2, F2, B2, tg2, n, hn, hG, hi2, id_s0 (M := ie_m238) (n := 12) (l := 490012) rfl hc (by omega) (by omega) hb rfl rfl rfl rfl (by decide +kernel) hf hP⟩
    · obtain ⟨v, A2, F2, B2, tg2, n, hn, hG, hi2, hf, hP⟩ := id_hf (L := L) (xs := xs) (d := 19) (tg := tg) (B := B) (vals := [.ref 44, .int c]) ie_h239 rfl (Nat.le_of_ble_eq_true rfl) (show ia_sk _ ie_m239.2.2.1 _ from ⟨List.mem_singleton.mpr rfl, id_kk (Int.le_of_eq hc.symm) (Int.le_of_eq hc), trivial⟩) hi (fun f hf => by
        rw [List.mem_singleton.mp hf]
        exact ⟨Int.le_of_eq hb.symm, Int.le_of_eq hb⟩)
      exact ⟨v, A2, F2, B2, tg2, n, hn, hG, hi2, id_s1 (M := ie_m239) (n := 12) hc (by omega) (by omega) hb rfl rfl rfl (by decide +kernel) hf hP⟩
  · rcases id_bit (r := 48) (by decide +kernel) rfl hi 13 (by omega) with hb | hb
    · obtain ⟨v, A2, F2, B2, tg2, n, hn, hG, hi2, hf, hP⟩ := id_hf (L := L) (xs := xs) (d := 19) (tg := tg) (B := B) (vals := [.ref 44, .int c]) ie_h240 rfl (Nat.le_of_ble_eq_true rfl) (show ia_sk _ ie_m240.2.2.1 _ from ⟨List.mem_singleton.mpr rfl, id_kk (Int.le_of_eq hc.symm) (Int.le_of_eq hc), trivial⟩) hi (fun f hf => by
        rw [List.mem_singleton.mp hf]
        exact ⟨Int.le_of_eq hb.symm, Int.le_of_eq hb⟩)
      exact ⟨v, A2, F2, B2, tg2, n, hn, hG, hi2, id_s0 (M := ie_m240) (n := 13) (l := 490013) rfl hc (by omega) (by omega) hb rfl rfl rfl rfl (by decide +kernel) hf hP⟩
    · obtain ⟨v, A2, F2, B2, tg2, n, hn, hG, hi2, hf, hP⟩ := id_hf (L := L) (xs := xs) (d := 19) (tg := tg) (B := B) (vals := [.ref 44, .int c]) ie_h241 rfl (Nat.le_of_ble_eq_true rfl) (show ia_sk _ ie_m241.2.2.1 _ from ⟨List.mem_singleton.mpr rfl, id_kk (Int.le_of_eq hc.symm) (Int.le_of_eq hc), trivial⟩) hi (fun f hf => by
        rw [List.mem_singleton.mp hf]
        exact ⟨Int.le_of_eq hb.symm, Int.le_of_eq hb⟩)
      exact ⟨v, A2, F2, B2, tg2, n, hn, hG, hi2, id_s1 (M := ie_m241) (n := 13) hc (by omega) (by omega) hb rfl rfl rfl (by decide +kernel) hf hP⟩
  · rcases id_bit (r := 48) (by decide +kernel) rfl hi 14 (by omega) with hb | hb
    · obtain ⟨v, A2, F2, B2, tg2, n, hn, hG, hi2, hf, hP⟩ := id_hf (L := L) (xs := xs) (d := 19) (tg := tg) (B := B) (vals := [.ref 44, .int c]) ie_h242 rfl (Nat.le_of_ble_eq_true rfl) (show ia_sk _ ie_m242.2.2.1 _ from ⟨List.mem_singleton.mpr rfl, id_kk (Int.le_of_eq hc.symm) (Int.le_of_eq hc), trivial⟩) hi (fun f hf => by
        rw [List.mem_singleton.mp hf]
        exact ⟨Int.le_of_eq hb.symm, Int.le_of_eq hb⟩)
      exact ⟨v, A2, F2, B2, tg2, n, hn, hG, hi2, id_s0 (M := ie_m242) (n := 14) (l := 490014) rfl hc (by omega) (by omega) hb rfl rfl rfl rfl (by decide +kernel) hf hP⟩
    · obtain ⟨v, A2, F2, B2, tg2, n, hn, hG, hi2, hf, hP⟩ := id_hf (L := L) (xs := xs) (d := 19) (tg := tg) (B := B) (vals := [.ref 44, .int c]) ie_h243 rfl (Nat.le_of_ble_eq_true rfl) (show ia_sk _ ie_m243.2.2.1 _ from ⟨List.mem_singleton.mpr rfl, id_kk (Int.le_of_eq hc.symm) (Int.le_of_eq hc), trivial⟩) hi (fun f hf => by
        rw [List.mem_singleton.mp hf]
        exact ⟨Int.le_of_eq hb.symm, Int.le_of_eq hb⟩)
      exact ⟨v, A2, F2, B2, tg2, n, hn, hG, hi2, id_s1 (M := ie_m243) (n := 14) hc (by omega) (by omega) hb rfl rfl rfl (by decide +kernel) hf hP⟩
  · rcases id_bit (r := 48) (by decide +kernel) rfl hi 15 (by omega) with hb | hb
    · obtain ⟨v, A2, F2, B2, tg2, n, hn, hG, hi2, hf, hP⟩ := id_hf (L := L) (xs := xs) (d := 19) (tg := tg) (B := B) (vals := [.ref 44, .int c]) ie_h244 rfl (Nat.le_of_ble_eq_true rfl) (show ia_sk _ ie_m244.2.2.1 _ from ⟨List.mem_singleton.mpr rfl, id_kk (Int.le_of_eq hc.symm) (Int.le_of_eq hc), trivial⟩) hi (fun f hf => by
        rw [List.mem_singleton.mp hf]
        exact ⟨Int.le_of_eq hb.symm, Int.le_of_eq hb⟩)
      exact ⟨v, A2, F2, B2, tg2, n, hn, hG, hi2, id_s0 (M := ie_m244) (n := 15) (l := 490015) rfl hc (by omega) (by omega) hb rfl rfl rfl rfl (by decide +kernel) hf hP⟩
    · obtain ⟨v, A2, F2, B2, tg2, n, hn, hG, hi2, hf, hP⟩ := id_hf (L := L) (xs := xs) (d := 19) (tg := tg) (B := B) (vals := [.ref 44, .int c]) ie_h245 rfl (Nat.le_of_ble_eq_true rfl) (show ia_sk _ ie_m245.2.2.1 _ from ⟨List.mem_singleton.mpr rfl, id_kk (Int.le_of_eq hc.symm) (Int.le_of_eq hc), trivial⟩) hi (fun f hf => by
        rw [List.mem_singleton.mp hf]
        exact ⟨Int.le_of_eq hb.symm, Int.le_of_eq hb⟩)
      exact ⟨v, A2, F2, B2, tg2, n, hn, hG, hi2, id_s1 (M := ie_m245) (n := 15) hc (by omega) (by omega) hb rfl rfl rfl (by decide +kernel) hf hP⟩
  · rcases id_bit (r := 48) (by decide +kernel) rfl hi 16 (by omega) with hb | hb
    · obtain ⟨v, A2, F2, B2, tg2, n, hn, hG, hi2, hf, hP⟩ := id_hf (L := L) (xs := xs) (d := 19) (tg := tg) (B := B) (vals := [.ref 44, .int c]) ie_h246 rfl (Nat.le_of_ble_eq_true rfl) (show ia_sk _ ie_m246.2.2.1 _ from ⟨List.mem_singleton.mpr rfl, id_kk (Int.le_of_eq hc.symm) (Int.le_of_eq hc), trivial⟩) hi (fun f hf => by
        rw [List.mem_singleton.mp hf]
        exact ⟨Int.le_of_eq hb.symm, Int.le_of_eq hb⟩)
      exact ⟨v, A2, F2, B2, tg2, n, hn, hG, hi2, id_s0 (M := ie_m246) (n := 16) (l := 490016) rfl hc (by omega) (by omega) hb rfl rfl rfl rfl (by decide +kernel) hf hP⟩
    · obtain ⟨v, A2, F2, B2, tg2, n, hn, hG, hi2, hf, hP⟩ := id_hf (L := L) (xs := xs) (d := 19) (tg := tg) (B := B) (vals := [.ref 44, .int c]) ie_h247 rfl (Nat.le_of_ble_eq_true rfl) (show ia_sk _ ie_m247.2.2.1 _ from ⟨List.mem_singleton.mpr rfl, id_kk (Int.le_of_eq hc.symm) (Int.le_of_eq hc), trivial⟩) hi (fun f hf => by
        rw [List.mem_singleton.mp hf]
        exact ⟨Int.le_of_eq hb.symm, Int.le_of_eq hb⟩)
      exact ⟨v, A2, F2, B2, tg2, n, hn, hG, hi2, id_s1 (M := ie_m247) (n := 16) hc (by omega) (by omega) hb rfl rfl rfl (by decide +kernel) hf hP⟩
  · rcases id_bit (r := 48) (by decide +kernel) rfl hi 17 (by omega) with hb | hb
    · obtain ⟨v, A2, F2, B2, tg2, n, hn, hG, hi2, hf, hP⟩ := id_hf (L := L) (xs := xs) (d := 19) (tg := tg) (B := B) (vals := [.ref 44, .int c]) ie_h248 rfl (Nat.le_of_ble_eq_true rfl) (show ia_sk _ ie_m248.2.2.1 _ from ⟨List.mem_singleton.mpr rfl, id_kk (Int.le_of_eq hc.symm) (Int.le_of_eq hc), trivial⟩) hi (fun f hf => by
        rw [List.mem_singleton.mp hf]
        exact ⟨Int.le_of_eq hb.symm, Int.le_of_eq hb⟩)
      exact ⟨v, A2, F2, B2, tg2, n, hn, hG, hi2, id_s0 (M := ie_m248) (n := 17) (l := 490017) rfl hc (by omega) (by omega) hb rfl rfl rfl rfl (by decide +kernel) hf hP⟩
    · obtain ⟨v, A2, F2, B2, tg2, n, hn, hG, hi2, hf, hP⟩ := id_hf (L := L) (xs := xs) (d := 19) (tg := tg) (B := B) (vals := [.ref 44, .int c]) ie_h249 rfl (Nat.le_of_ble_eq_true rfl) (show ia_sk _ ie_m249.2.2.1 _ from ⟨List.mem_singleton.mpr rfl, id_kk (Int.le_of_eq hc.symm) (Int.le_of_eq hc), trivial⟩) hi (fun f hf => by
        rw [List.mem_singleton.mp hf]
        exact ⟨Int.le_of_eq hb.symm, Int.le_of_eq hb⟩)
      exact ⟨v, A2, F2, B2, tg2, n, hn, hG, hi2, id_s1 (M := ie_m249) (n := 17) hc (by omega) (by omega) hb rfl rfl rfl (by decide +kernel) hf hP⟩
  · rcases id_bit (r := 48) (by decide +kernel) rfl hi 18 (by omega) with hb | hb
    · obtain ⟨v, A2, F2, B2, tg2, n, hn, hG, hi2, hf, hP⟩ := id_hf (L := L) (xs := xs) (d := 19) (tg := tg) (B := B) (vals := [.ref 44, .int c]) ie_h250 rfl (Nat.le_of_ble_eq_true rfl) (show ia_sk _ ie_m250.2.2.1 _ from ⟨List.mem_singleton.mpr rfl, id_kk (Int.le_of_eq hc.symm) (Int.le_of_eq hc), trivial⟩) hi (fun f hf => by
        rw [List.mem_singleton.mp hf]
        exact ⟨Int.le_of_eq hb.symm, Int.le_of_eq hb⟩)
      exact ⟨v, A2, F2, B2, tg2, n, hn, hG, hi2, id_s0 (M := ie_m250) (n := 18) (l := 490018) rfl hc (by omega) (by omega) hb rfl rfl rfl rfl (by decide +kernel) hf hP⟩
    · obtain ⟨v, A2, F2, B2, tg2, n, hn, hG, hi2, hf, hP⟩ := id_hf (L := L) (xs := xs) (d := 19) (tg := tg) (B := B) (vals := [.ref 44, .int c]) ie_h251 rfl (Nat.le_of_ble_eq_true rfl) (show ia_sk _ ie_m251.2.2.1 _ from ⟨List.mem_singleton.mpr rfl, id_kk (Int.le_of_eq hc.symm) (Int.le_of_eq hc), trivial⟩) hi (fun f hf => by
        rw [List.mem_singleton.mp hf]
        exact ⟨Int.le_of_eq hb.symm, Int.le_of_eq hb⟩)
      exact ⟨v, A2, F2, B2, tg2, n, hn, hG, hi2, id_s1 (M := ie_m251) (n := 18) hc (by omega) (by omega) hb rfl rfl rfl (by decide +kernel) hf hP⟩
  · rcases id_bit (r := 48) (by decide +kernel) rfl hi 19 (by omega) with hb | hb
    · obtain ⟨v, A2, F2, B2, tg2, n, hn, hG, hi2, hf, hP⟩ := id_hf (L := L) (xs := xs) (d := 19) (tg := tg) (B := B) (vals := [.ref 44, .int c]) ie_h252 rfl (Nat.le_of_ble_eq_true rfl) (show ia_sk _ ie_m252.2.2.1 _ from ⟨List.mem_singleton.mpr rfl, id_kk (Int.le_of_eq hc.symm) (Int.le_of_eq hc), trivial⟩) hi (fun f hf => by
        rw [List.mem_singleton.mp hf]
        exact ⟨Int.le_of_eq hb.symm, Int.le_of_eq hb⟩)
      exact ⟨v, A2, F2, B2, tg2, n, hn, hG, hi2, id_s0 (M := ie_m252) (n := 19) (l := 490019) rfl hc (by omega) (by omega) hb rfl rfl rfl rfl (by decide +kernel) hf hP⟩
    · obtain ⟨v, A2, F2, B2, tg2, n, hn, hG, hi2, hf, hP⟩ := id_hf (L := L) (xs := xs) (d := 19) (tg := tg) (B := B) (vals := [.ref 44, .int c]) ie_h253 rfl (Nat.le_of_ble_eq_true rfl) (show ia_sk _ ie_m253.2.2.1 _ from ⟨List.mem_singleton.mpr rfl, id_kk (Int.le_of_eq hc.symm) (Int.le_of_eq hc), trivial⟩) hi (fun f hf => by
        rw [List.mem_singleton.mp hf]
        exact ⟨Int.le_of_eq hb.symm, Int.le_of_eq hb⟩)
      exact ⟨v, A2, F2, B2, tg2, n, hn, hG, hi2, id_s1 (M := ie_m253) (n := 19) hc (by omega) (by omega) hb rfl rfl rfl (by decide +kernel) hf hP⟩
  · rcases id_bit (r := 48) (by decide +kernel) rfl hi 20 (by omega) with hb | hb
    · obtain ⟨v, A2, F2, B2, tg2, n, hn, hG, hi2, hf, hP⟩ := id_hf (L := L) (xs := xs) (d := 19) (tg := tg) (B := B) (vals := [.ref 44, .int c]) ie_h254 rfl (Nat.le_of_ble_eq_true rfl) (show ia_sk _ ie_m254.2.2.1 _ from ⟨List.mem_singleton.mpr rfl, id_kk (Int.le_of_eq hc.symm) (Int.le_of_eq hc), trivial⟩) hi (fun f hf => by
        rw [List.mem_singleton.mp hf]
        exact ⟨Int.le_of_eq hb.symm, Int.le_of_eq hb⟩)
      exact ⟨v, A2, F2, B2, tg2, n, hn, hG, hi2, id_s0 (M := ie_m254) (n := 20) (l := 490020) rfl hc (by omega) (by omega) hb rfl rfl rfl rfl (by decide +kernel) hf hP⟩
    · obtain ⟨v, A2, F2, B2, tg2, n, hn, hG, hi2, hf, hP⟩ := id_hf (L := L) (xs := xs) (d := 19) (tg := tg) (B := B) (vals := [.ref 44, .int c]) ie_h255 rfl (Nat.le_of_ble_eq_true rfl) (show ia_sk _ ie_m255.2.2.1 _ from ⟨List.mem_singleton.mpr rfl, id_kk (Int.le_of_eq hc.symm) (Int.le_of_eq hc), trivial⟩) hi (fun f hf => by
        rw [List.mem_singleton.mp hf]
        exact ⟨Int.le_of_eq hb.symm, Int.le_of_eq hb⟩)
      exact ⟨v, A2, F2, B2, tg2, n, hn, hG, hi2, id_s1 (M := ie_m255) (n := 20) hc (by omega) (by omega) hb rfl rfl rfl (by decide +kernel) hf hP⟩
  · rcases id_bit (r := 48) (by decide +kernel) rfl hi 21 (by omega) with hb | hb
    · obtain ⟨v, A2, F2, B2, tg2, n, hn, hG, hi2, hf, hP⟩ := id_hf (L := L) (xs := xs) (d := 19) (tg := tg) (B := B) (vals := [.ref 44, .int c]) ie_h256 rfl (Nat.le_of_ble_eq_true rfl) (show ia_sk _ ie_m256.2.2.1 _ from ⟨List.mem_singleton.mpr rfl, id_kk (Int.le_of_eq hc.symm) (Int.le_of_eq hc), trivial⟩) hi (fun f hf => by
        rw [List.mem_singleton.mp hf]
        exact ⟨Int.le_of_eq hb.symm, Int.le_of_eq hb⟩)
      exact ⟨v, A2, F2, B2, tg2, n, hn, hG, hi2, id_s0 (M := ie_m256) (n := 21) (l := 490021) rfl hc (by omega) (by omega) hb rfl rfl rfl rfl (by decide +kernel) hf hP⟩
    · obtain ⟨v, A2, F2, B2, tg2, n, hn, hG, hi2, hf, hP⟩ := id_hf (L := L) (xs := xs) (d := 19) (tg := tg) (B := B) (vals := [.ref 44, .int c]) ie_h257 rfl (Nat.le_of_ble_eq_true rfl) (show ia_sk _ ie_m257.2.2.1 _ from ⟨List.mem_singleton.mpr rfl, id_kk (Int.le_of_eq hc.symm) (Int.le_of_eq hc), trivial⟩) hi (fun f hf => by
        rw [List.mem_singleton.mp hf]
        exact ⟨Int.le_of_eq hb.symm, Int.le_of_eq hb⟩)
      exact ⟨v, A2, F2, B2, tg2, n, hn, hG, hi2, id_s1 (M := ie_m257) (n := 21) hc (by omega) (by omega) hb rfl rfl rfl (by decide +kernel) hf hP⟩
  · rcases id_bit (r := 48) (by decide +kernel) rfl hi 22 (by omega) with hb | hb
    · obtain ⟨v, A2, F2, B2, tg2, n, hn, hG, hi2, hf, hP⟩ := id_hf (L := L) (xs := xs) (d := 19) (tg := tg) (B := B) (vals := [.ref 44, .int c]) ie_h258 rfl (Nat.le_of_ble_eq_true rfl) (show ia_sk _ ie_m258.2.2.1 _ from ⟨List.mem_singleton.mpr rfl, id_kk (Int.le_of_eq hc.symm) (Int.le_of_eq hc), trivial⟩) hi (fun f hf => by
        rw [List.mem_singleton.mp hf]
        exact ⟨Int.le_of_eq hb.symm, Int.le_of_eq hb⟩)
      exact ⟨v, A2, F2, B2, tg2, n, hn, hG, hi2, id_s0 (M := ie_m258) (n := 22) (l := 490022) rfl hc (by omega) (by omega) hb rfl rfl rfl rfl (by decide +kernel) hf hP⟩
    · obtain ⟨v, A2, F2, B2, tg2, n, hn, hG, hi2, hf, hP⟩ := id_hf (L := L) (xs := xs) (d := 19) (tg := tg) (B := B) (vals := [.ref 44, .int c]) ie_h259 rfl (Nat.le_of_ble_eq_true rfl) (show ia_sk _ ie_m259.2.2.1 _ from ⟨List.mem_singleton.mpr rfl, id_kk (Int.le_of_eq hc.symm) (Int.le_of_eq hc), trivial⟩) hi (fun f hf => by
        rw [List.mem_singleton.mp hf]
        exact ⟨Int.le_of_eq hb.symm, Int.le_of_eq hb⟩)
      exact ⟨v, A2, F2, B2, tg2, n, hn, hG, hi2, id_s1 (M := ie_m259) (n := 22) hc (by omega) (by omega) hb rfl rfl rfl (by decide +kernel) hf hP⟩
  · rcases id_bit (r := 48) (by decide +kernel) rfl hi 23 (by omega) with hb | hb
    · obtain ⟨v, A2, F2, B2, tg2, n, hn, hG, hi2, hf, hP⟩ := id_hf (L := L) (xs := xs) (d := 19) (tg := tg) (B := B) (vals := [.ref 44, .int c]) ie_h260 rfl (Nat.le_of_ble_eq_true rfl) (show ia_sk _ ie_m260.2.2.1 _ from ⟨List.mem_singleton.mpr rfl, id_kk (Int.le_of_eq hc.symm) (Int.le_of_eq hc), trivial⟩) hi (fun f hf => by
        rw [List.mem_singleton.mp hf]
        exact ⟨Int.le_of_eq hb.symm, Int.le_of_eq hb⟩)
      exact ⟨v, A2, F2, B2, tg2, n, hn, hG, hi2, id_s0 (M := ie_m260) (n := 23) (l := 490023) rfl hc (by omega) (by omega) hb rfl rfl rfl rfl (by decide +kernel) hf hP⟩
    · obtain ⟨v, A2, F2, B2, tg2, n, hn, hG, hi2, hf, hP⟩ := id_hf (L := L) (xs := xs) (d := 19) (tg := tg) (B := B) (vals := [.ref 44, .int c]) ie_h261 rfl (Nat.le_of_ble_eq_true rfl) (show ia_sk _ ie_m261.2.2.1 _ from ⟨List.mem_singleton.mpr rfl, id_kk (Int.le_of_eq hc.symm) (Int.le_of_eq hc), trivial⟩) hi (fun f hf => by
        rw [List.mem_singleton.mp hf]
        exact ⟨Int.le_of_eq hb.symm, Int.le_of_eq hb⟩)
      exact ⟨v, A2, F2, B2, tg2, n, hn, hG, hi2, id_s1 (M := ie_m261) (n := 23) hc (by omega) (by omega) hb rfl rfl rfl (by decide +kernel) hf hP⟩
  · rcases id_bit (r := 48) (by decide +kernel) rfl hi 24 (by omega) with hb | hb
    · obtain ⟨v, A2, F2, B2, tg2, n, hn, hG, hi2, hf, hP⟩ := id_hf (L := L) (xs := xs) (d := 19) (tg := tg) (B := B) (vals := [.ref 44, .int c]) ie_h262 rfl (Nat.le_of_ble_eq_true rfl) (show ia_sk _ ie_m262.2.2.1 _ from ⟨List.mem_singleton.mpr rfl, id_kk (Int.le_of_eq hc.symm) (Int.le_of_eq hc), trivial⟩) hi (fun f hf => by
        rw [List.mem_singleton.mp hf]
        exact ⟨Int.le_of_eq hb.symm, Int.le_of_eq hb⟩)
      exact ⟨v, A2, F2, B2, tg2, n, hn, hG, hi2, id_s0 (M := ie_m262) (n := 24) (l := 490024) rfl hc (by omega) (by omega) hb rfl rfl rfl rfl (by decide +kernel) hf hP⟩
    · obtain ⟨v, A2, F2, B2, tg2, n, hn, hG, hi2, hf, hP⟩ := id_hf (L := L) (xs := xs) (d := 19) (tg := tg) (B := B) (vals := [.ref 44, .int c]) ie_h263 rfl (Nat.le_of_ble_eq_true rfl) (show ia_sk _ ie_m263.2.2.1 _ from ⟨List.mem_singleton.mpr rfl, id_kk (Int.le_of_eq hc.symm) (Int.le_of_eq hc), trivial⟩) hi (fun f hf => by
        rw [List.mem_singleton.mp hf]
        exact ⟨Int.le_of_eq hb.symm, Int.le_of_eq hb⟩)
      exact ⟨v, A2, F2, B2, tg2, n, hn, hG, hi2, id_s1 (M := ie_m263) (n := 24) hc (by omega) (by omega) hb rfl rfl rfl (by decide +kernel) hf hP⟩
  · rcases id_bit (r := 48) (by decide +kernel) rfl hi 25 (by omega) with hb | hb
    · obtain ⟨v, A2, F2, B2, tg2, n, hn, hG, hi2, hf, hP⟩ := id_hf (L := L) (xs := xs) (d := 19) (tg := tg) (B := B) (vals := [.ref 44, .int c]) ie_h264 rfl (Nat.le_of_ble_eq_true rfl) (show ia_sk _ ie_m264.2.2.1 _ from ⟨List.mem_singleton.mpr rfl, id_kk (Int.le_of_eq hc.symm) (Int.le_of_eq hc), trivial⟩) hi (fun f hf => by
        rw [List.mem_singleton.mp hf]
        exact ⟨Int.le_of_eq hb.symm, Int.le_of_eq hb⟩)
      exact ⟨v, A2, F2, B2, tg2, n, hn, hG, hi2, id_s0 (M := ie_m264) (n := 25) (l := 490025) rfl hc (by omega) (by omega) hb rfl rfl rfl rfl (by decide +kernel) hf hP⟩
    · obtain ⟨v, A2, F2, B2, tg2, n, hn, hG, hi2, hf, hP⟩ := id_hf (L := L) (xs := xs) (d := 19) (tg := tg) (B := B) (vals := [.ref 44, .int c]) ie_h265 rfl (Nat.le_of_ble_eq_true rfl) (show ia_sk _ ie_m265.2.2.1 _ from ⟨List.mem_singleton.mpr rfl, id_kk (Int.le_of_eq hc.symm) (Int.le_of_eq hc), trivial⟩) hi (fun f hf => by
        rw [List.mem_singleton.mp hf]
        exact ⟨Int.le_of_eq hb.symm, Int.le_of_eq hb⟩)
      exact ⟨v, A2, F2, B2, tg2, n, hn, hG, hi2, id_s1 (M := ie_m265) (n := 25) hc (by omega) (by omega) hb rfl rfl rfl (by decide +kernel) hf hP⟩
  · rcases id_bit (r := 48) (by decide +kernel) rfl hi 26 (by omega) with hb | hb
    · obtain ⟨v, A2, F2, B2, tg2, n, hn, hG, hi2, hf, hP⟩ := id_hf (L := L) (xs := xs) (d := 19) (tg := tg) (B := B) (vals := [.ref 44, .int c]) ie_h266 rfl (Nat.le_of_ble_eq_true rfl) (show ia_sk _ ie_m266.2.2.1 _ from ⟨List.mem_singleton.mpr rfl, id_kk (Int.le_of_eq hc.symm) (Int.le_of_eq hc), trivial⟩) hi (fun f hf => by
        rw [List.mem_singleton.mp hf]
        exact ⟨Int.le_of_eq hb.symm, Int.le_of_eq hb⟩)
      exact ⟨v, A2, F2, B2, tg2, n, hn, hG, hi2, id_s0 (M := ie_m266) (n := 26) (l := 490026) rfl hc (by omega) (by omega) hb rfl rfl rfl rfl (by decide +kernel) hf hP⟩
    · obtain ⟨v, A2, F2, B2, tg2, n, hn, hG, hi2, hf, hP⟩ := id_hf (L := L) (xs := xs) (d := 19) (tg := tg) (B := B) (vals := [.ref 44, .int c]) ie_h267 rfl (Nat.le_of_ble_eq_true rfl) (show ia_sk _ ie_m267.2.2.1 _ from ⟨List.mem_singleton.mpr rfl, id_kk (Int.le_of_eq hc.symm) (Int.le_of_eq hc), trivial⟩) hi (fun f hf => by
        rw [List.mem_singleton.mp hf]
        exact ⟨Int.le_of_eq hb.symm, Int.le_of_eq hb⟩)
      exact ⟨v, A2, F2, B2, tg2, n, hn, hG, hi2, id_s1 (M := ie_m267) (n := 26) hc (by omega) (by omega) hb rfl rfl rfl (by decide +kernel) hf hP⟩
  · rcases id_bit (r := 48) (by decide +kernel) rfl hi 27 (by omega) with hb | hb
    · obtain ⟨v, A2, F2, B2, tg2, n, hn, hG, hi2, hf, hP⟩ := id_hf (L := L) (xs := xs) (d := 19) (tg := tg) (B := B) (vals := [.ref 44, .int c]) ie_h268 rfl (Nat.le_of_ble_eq_true rfl) (show ia_sk _ ie_m268.2.2.1 _ from ⟨List.mem_singleton.mpr rfl, id_kk (Int.le_of_eq hc.symm) (Int.le_of_eq hc), trivial⟩) hi (fun f hf => by
        rw [List.mem_singleton.mp hf]
        exact ⟨Int.le_of_eq hb.symm, Int.le_of_eq hb⟩)
      exact ⟨v, A2, F2, B2, tg2, n, hn, hG, hi2, id_s0 (M := ie_m268) (n := 27) (l := 490027) rfl hc (by omega) (by omega) hb rfl rfl rfl rfl (by decide +kernel) hf hP⟩
    · obtain ⟨v, A2, F2, B2, tg2, n, hn, hG, hi2, hf, hP⟩ := id_hf (L := L) (xs := xs) (d := 19) (tg := tg) (B := B) (vals := [.ref 44, .int c]) ie_h269 rfl (Nat.le_of_ble_eq_true rfl) (show ia_sk _ ie_m269.2.2.1 _ from ⟨List.mem_singleton.mpr rfl, id_kk (Int.le_of_eq hc.symm) (Int.le_of_eq hc), trivial⟩) hi (fun f hf => by
        rw [List.mem_singleton.mp hf]
        exact ⟨Int.le_of_eq hb.symm, Int.le_of_eq hb⟩)
      exact ⟨v, A2, F2, B2, tg2, n, hn, hG, hi2, id_s1 (M := ie_m269) (n := 27) hc (by omega) (by omega) hb rfl rfl rfl (by decide +kernel) hf hP⟩
  · rcases id_bit (r := 48) (by decide +kernel) rfl hi 28 (by omega) with hb | hb
    · obtain ⟨v, A2, F2, B2, tg2, n, hn, hG, hi2, hf, hP⟩ := id_hf (L := L) (xs := xs) (d := 19) (tg := tg) (B := B) (vals := [.ref 44, .int c]) ie_h270 rfl (Nat.le_of_ble_eq_true rfl) (show ia_sk _ ie_m270.2.2.1 _ from ⟨List.mem_singleton.mpr rfl, id_kk (Int.le_of_eq hc.symm) (Int.le_of_eq hc), trivial⟩) hi (fun f hf => by
        rw [List.mem_singleton.mp hf]
        exact ⟨Int.le_of_eq hb.symm, Int.le_of_eq hb⟩)
      exact ⟨v, A2, F2, B2, tg2, n, hn, hG, hi2, id_s0 (M := ie_m270) (n := 28) (l := 490028) rfl hc (by omega) (by omega) hb rfl rfl rfl rfl (by decide +kernel) hf hP⟩
    · obtain ⟨v, A2, F2, B2, tg2, n, hn, hG, hi2, hf, hP⟩ := id_hf (L := L) (xs := xs) (d := 19) (tg := tg) (B := B) (vals := [.ref 44, .int c]) ie_h271 rfl (Nat.le_of_ble_eq_true rfl) (show ia_sk _ ie_m271.2.2.1 _ from ⟨List.mem_singleton.mpr rfl, id_kk (Int.le_of_eq hc.symm) (Int.le_of_eq hc), trivial⟩) hi (fun f hf => by
        rw [List.mem_singleton.mp hf]
        exact ⟨Int.le_of_eq hb.symm, Int.le_of_eq hb⟩)
      exact ⟨v, A2, F2, B2, tg2, n, hn, hG, hi2, id_s1 (M := ie_m271) (n := 28) hc (by omega) (by omega) hb rfl rfl rfl (by decide +kernel) hf hP⟩
  · rcases id_bit (r := 48) (by decide +kernel) rfl hi 29 (by omega) with hb | hb
    · obtain ⟨v, A2, F2, B2, tg2, n, hn, hG, hi2, hf, hP⟩ := id_hf (L := L) (xs := xs) (d := 19) (tg := tg) (B := B) (vals := [.ref 44, .int c]) ie_h272 rfl (Nat.le_of_ble_eq_true rfl) (show ia_sk _ ie_m272.2.2.1 _ from ⟨List.mem_singleton.mpr rfl, id_kk (Int.le_of_eq hc.symm) (Int.le_of_eq hc), trivial⟩) hi (fun f hf => by
        rw [List.mem_singleton.mp hf]
        exact ⟨Int.le_of_eq hb.symm, Int.le_of_eq hb⟩)
      exact ⟨v, A2, F2, B2, tg2, n, hn, hG, hi2, id_s0 (M := ie_m272) (n := 29) (l := 490029) rfl hc (by omega) (by omega) hb rfl rfl rfl rfl (by decide +kernel) hf hP⟩
    · obtain ⟨v, A2, F2, B2, tg2, n, hn, hG, hi2, hf, hP⟩ := id_hf (L := L) (xs := xs) (d := 19) (tg := tg) (B := B) (vals := [.ref 44, .int c]) ie_h273 rfl (Nat.le_of_ble_eq_true rfl) (show ia_sk _ ie_m273.2.2.1 _ from ⟨List.mem_singleton.mpr rfl, id_kk (Int.le_of_eq hc.symm) (Int.le_of_eq hc), trivial⟩) hi (fun f hf => by
        rw [List.mem_singleton.mp hf]
        exact ⟨Int.le_of_eq hb.symm, Int.le_of_eq hb⟩)
      exact ⟨v, A2, F2, B2, tg2, n, hn, hG, hi2, id_s1 (M := ie_m273) (n := 29) hc (by omega) (by omega) hb rfl rfl rfl (by decide +kernel) hf hP⟩
  · rcases id_bit (r := 48) (by decide +kernel) rfl hi 30 (by omega) with hb | hb
    · obtain ⟨v, A2, F2, B2, tg2, n, hn, hG, hi2, hf, hP⟩ := id_hf (L := L) (xs := xs) (d := 19) (tg := tg) (B := B) (vals := [.ref 44, .int c]) ie_h274 rfl (Nat.le_of_ble_eq_true rfl) (show ia_sk _ ie_m274.2.2.1 _ from ⟨List.mem_singleton.mpr rfl, id_kk (Int.le_of_eq hc.symm) (Int.le_of_eq hc), trivial⟩) hi (fun f hf => by
        rw [List.mem_singleton.mp hf]
        exact ⟨Int.le_of_eq hb.symm, Int.le_of_eq hb⟩)
      exact ⟨v, A2, F2, B2, tg2, n, hn, hG, hi2, id_s0 (M := ie_m274) (n := 30) (l := 490030) rfl hc (by omega) (by omega) hb rfl rfl rfl rfl (by decide +kernel) hf hP⟩
    · obtain ⟨v, A2, F2, B2, tg2, n, hn, hG, hi2, hf, hP⟩ := id_hf (L := L) (xs := xs) (d := 19) (tg := tg) (B := B) (vals := [.ref 44, .int c]) ie_h275 rfl (Nat.le_of_ble_eq_true rfl) (show ia_sk _ ie_m275.2.2.1 _ from ⟨List.mem_singleton.mpr rfl, id_kk (Int.le_of_eq hc.symm) (Int.le_of_eq hc), trivial⟩) hi (fun f hf => by
        rw [List.mem_singleton.mp hf]
        exact ⟨Int.le_of_eq hb.symm, Int.le_of_eq hb⟩)
      exact ⟨v, A2, F2, B2, tg2, n, hn, hG, hi2, id_s1 (M := ie_m275) (n := 30) hc (by omega) (by omega) hb rfl rfl rfl (by decide +kernel) hf hP⟩
  · rcases id_bit (r := 48) (by decide +kernel) rfl hi 31 (by omega) with hb | hb
    · obtain ⟨v, A2, F2, B2, tg2, n, hn, hG, hi2, hf, hP⟩ := id_hf (L := L) (xs := xs) (d := 19) (tg := tg) (B := B) (vals := [.ref 44, .int c]) ie_h276 rfl (Nat.le_of_ble_eq_true rfl) (show ia_sk _ ie_m276.2.2.1 _ from ⟨List.mem_singleton.mpr rfl, id_kk (Int.le_of_eq hc.symm) (Int.le_of_eq hc), trivial⟩) hi (fun f hf => by
        rw [List.mem_singleton.mp hf]
        exact ⟨Int.le_of_eq hb.symm, Int.le_of_eq hb⟩)
      exact ⟨v, A2, F2, B2, tg2, n, hn, hG, hi2, id_s0 (M := ie_m276) (n := 31) (l := 490031) rfl hc (by omega) (by omega) hb rfl rfl rfl rfl (by decide +kernel) hf hP⟩
    · obtain ⟨v, A2, F2, B2, tg2, n, hn, hG, hi2, hf, hP⟩ := id_hf (L := L) (xs := xs) (d := 19) (tg := tg) (B := B) (vals := [.ref 44, .int c]) ie_h277 rfl (Nat.le_of_ble_eq_true rfl) (show ia_sk _ ie_m277.2.2.1 _ from ⟨List.mem_singleton.mpr rfl, id_kk (Int.le_of_eq hc.symm) (Int.le_of_eq hc), trivial⟩) hi (fun f hf => by
        rw [List.mem_singleton.mp hf]
        exact ⟨Int.le_of_eq hb.symm, Int.le_of_eq hb⟩)
      exact ⟨v, A2, F2, B2, tg2, n, hn, hG, hi2, id_s1 (M := ie_m277) (n := 31) hc (by omega) (by omega) hb rfl rfl rfl (by decide +kernel) hf hP⟩
/-- the marks of both sides stay the same -/
theorem id_ss {c v1 v2 : Int32} {A A1 A2 : Nat → Nat → Int32} (hq : ∀ j, A 5 j = A 48 j) (h1 : id_sp 5 48 c v1 A A1) (h2 : id_sp 48 5 c v2 A1 A2) : v1 = v2 ∧ ∀ j, A2 5 j = A2 48 j := by
  obtain ⟨a1, a2, a3, a4, a5⟩ := h1
  obtain ⟨b1, b2, b3, b4, b5⟩ := h2
  have e : id_sq A1 48 c ↔ id_sq A 5 c := by
    unfold id_sq
    rw [a2, ← hq]
  constructor
  · rcases a1 with ⟨q, r⟩ | ⟨q, r⟩
    · rcases b1 with ⟨s, t⟩ | ⟨s, t⟩
      · rw [r, t]
      · exact (s (e.mpr q)).elim
    · rcases b1 with ⟨s, t⟩ | ⟨s, t⟩
      · exact (q (e.mp s)).elim
      · rw [r, t]
  · intro j
    rw [b2 j]
    by_cases hc : 2 ≤ c.toInt ∧ c.toInt ≤ 31
    · by_cases hj : (j : Int) = c.toInt
      · have ej : j = c.toInt.toNat := by omega
        rw [ej]
        exact Int32.toInt_inj.mp ((a4 hc.1 hc.2).trans (b4 hc.1 hc.2).symm)
      · rw [a3 j hj, b3 j hj, a2 j]
        exact hq j
    · rw [a5 hc j, b5 hc j, a2 j]
      exact hq j
