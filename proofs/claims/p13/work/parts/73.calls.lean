/-! type as the law calls it; poke's answers -/
theorem id_raC {a : Nat} (h : Nat.beq a 52 = false) (j : Nat) : ia_ra a j = ia_gr a ia_ral := by
  unfold ia_ra
  rw [h]
  rfl
theorem id_ra7 (j : Nat) : ia_ra 7 j = (0, 255) := (id_raC rfl j).trans (by decide +kernel)
theorem id_ra45 (j : Nat) : ia_ra 45 j = (0, 255) := (id_raC rfl j).trans (by decide +kernel)
theorem id_ra4 (j : Nat) : ia_ra 4 j = (0, 255) := (id_raC rfl j).trans (by decide +kernel)
theorem id_ra46 (j : Nat) : ia_ra 46 j = (0, 255) := (id_raC rfl j).trans (by decide +kernel)
theorem id_invR {A A2 : Nat → Nat → Int32} {F : Nat → Int32} {r : Nat} (hr : ∀ j, ia_ra r j = (0, 255)) (hp : ia_pa r = false) (hi : ia_inv A F []) (h : id_R r A A2) : ia_inv A2 F [] := by
  have e : A2 = ia_uC A r (A2 r) := by
    funext a
    unfold ia_uC
    by_cases ha : a = r
    · rw [if_pos ha, ha]
    · rw [if_neg ha, h.1 a ha]
  rw [e]
  refine ia_inv_C hi hp (fun j hj => ?_)
  rw [hr j]
  rcases h.2 j with h2 | h2
  · rw [h2]
    have h4 := hi.1 (10000 * (r + 1) + j) (by omega)
    rwa [ia_df_a hj, ia_w_ev [] F (by omega), ia_ev_a hj, hr j] at h4
  · exact h2
theorem id_uFe (F : Nat → Int32) (q : Nat) (v : Int32) : iv_uF F q v = ia_uF F q v := rfl
theorem id_603 {A : Nat → Nat → Int32} {F : Nat → Int32} (hi : ia_inv A F []) : 0 ≤ (F 603).toInt ∧ (F 603).toInt ≤ 40 := by
  have h := hi.1 1603 (by omega)
  rw [show ia_df 1603 = (0, 40) by decide +kernel] at h
  exact h
theorem id_4401 {A : Nat → Nat → Int32} {F : Nat → Int32} (hi : ia_inv A F []) : 0 ≤ (F 4401).toInt ∧ (F 4401).toInt ≤ 40 := by
  have h := hi.1 5401 (by omega)
  rw [show ia_df 5401 = (0, 40) by decide +kernel] at h
  exact h
theorem id_400 {A : Nat → Nat → Int32} {F : Nat → Int32} (hi : ia_inv A F []) : ia_inv A (iv_uF F 4400 0) [] := by
  rw [id_uFe]
  exact ia_inv_F hi (by omega) (by decide +kernel) (by decide +kernel)
set_option maxRecDepth 1000000 in
set_option maxHeartbeats 40000000 in
theorem id_t34 {L : Nat} {xs : Nat → Int32} {d : Nat} {tg : Bool} {A : Nat → Nat → Int32} {F : Nat → Int32} {B : Nat → Int64} (e : Int64) (hi : ia_inv A F []) : ∃ (v : Int32) (A2 : Nat → Nat → Int32) (F2 : Nat → Int32), iv_G L xs d 34 0 [(0, .ref 6), (1, .long e)] [] (iv_wd A F B) tg 0 0 (.inl (some (.int v)), iv_wd A2 F2 B, tg, 0, 0) ∧ (v = 0 ∨ v = 1) ∧ ia_inv A2 F2 [] := by
  have hr := id_603 hi
  by_cases h : iv_g8 e
  · by_cases hm : F 603 + id_cnt e < 41
    · obtain ⟨A2, hR, h1, h2, hG⟩ := id_ap1 (L := L) (xs := xs) (d := d) (tg := tg) (A := A) (B := B) h hr.1 hr.2 hm
      refine ⟨1, A2, _, hG, Or.inr rfl, ?_⟩
      rw [id_uFe]
      refine ia_inv_F (id_invR id_ra7 rfl hi hR) (by omega) ?_ ?_
      · rw [show ia_gr 603 ia_rfl = (0, 40) by decide +kernel]
        exact h2
      · rw [show ia_gr 603 ia_rfl = (0, 40) by decide +kernel]
        exact h1
    · exact ⟨0, A, F, id_ap2 h hm, Or.inl rfl, hi⟩
  · exact ⟨0, A, F, id_ap0 h, Or.inl rfl, hi⟩
set_option maxRecDepth 1000000 in
set_option maxHeartbeats 40000000 in
theorem id_t2 {L : Nat} {xs : Nat → Int32} {d : Nat} {tg : Bool} {A : Nat → Nat → Int32} {F : Nat → Int32} {B : Nat → Int64} (e : Int64) (hi : ia_inv A F []) : ∃ (v : Int32) (A2 : Nat → Nat → Int32) (F2 : Nat → Int32) (B2 : Nat → Int64), iv_G L xs (d + 1) 2 0 (lv_args 0 [.ref 1, .long e]) [] (ia_wd A F B) tg 0 0 (.inl (some (.int v)), ia_wd A2 F2 B2, tg, 0, 0) ∧ ia_inv A2 F2 [] := by
  obtain ⟨v, A2, F2, hG, hv, hi2⟩ := id_t34 (L := L) (xs := xs) (d := d) (tg := tg) (A := A) (F := F) (B := B) e hi
  refine ⟨v, A2, F2, B, ?_, hi2⟩
  show iv_G L xs (d + 1) 2 0 [(0, .ref 1), (1, .long e)] [] (iv_wd A F B) tg 0 0 (.inl (some (.int v)), iv_wd A2 F2 B, tg, 0, 0)
  refine iv_Gm 3 (pc2 := 5) (lv2 := [(0, .ref 1), (1, .long e)]) (st2 := [.long e, .ref 6]) (w2 := (iv_wd A F B)) rfl ?_
  refine iv_Gcall (ν := 34) (c := 2) (as := [.ref 6, .long e]) (rest := []) (w2 := (iv_wd A2 F2 B)) (tg2 := tg) (k2 := 0) (z2 := 0) (v := (some (.int v))) rfl rfl rfl rfl rfl rfl rfl (Nat.le_of_ble_eq_true rfl) rfl hG ?_
  show iv_G _ _ _ _ 8 [(0, .ref 1), (1, .long e)] [.int v] (iv_wd A2 F2 B) tg _ _ _
  rcases hv with rfl | rfl
  · exact iv_Gret rfl rfl rfl
  · exact iv_Gret rfl rfl rfl
set_option maxRecDepth 1000000 in
set_option maxHeartbeats 40000000 in
theorem id_t134 {L : Nat} {xs : Nat → Int32} {d : Nat} {tg : Bool} {A : Nat → Nat → Int32} {F : Nat → Int32} {B : Nat → Int64} (e : Int64) (hi : ia_inv A F []) : ∃ (v : Int32) (A2 : Nat → Nat → Int32) (F2 : Nat → Int32) (B2 : Nat → Int64), iv_G L xs d 134 0 (lv_args 0 [.ref 44, .long e]) [] (ia_wd A F B) tg 0 0 (.inl (some (.int v)), ia_wd A2 F2 B2, tg, 0, 0) ∧ ia_inv A2 F2 [] := by
  have hr := id_4401 hi
  by_cases h : iv_g8 e
  · by_cases hm : F 4401 + id_cnt e < 41
    · obtain ⟨A2, hR, h1, h2, hG⟩ := id_ty1 (L := L) (xs := xs) (d := d) (tg := tg) (A := A) (B := B) h hr.1 hr.2 hm
      refine ⟨1, A2, _, B, hG, ?_⟩
      rw [id_uFe]
      refine ia_inv_F (id_invR id_ra45 rfl (id_400 hi) hR) (by omega) ?_ ?_
      · rw [show ia_gr 4401 ia_rfl = (0, 40) by decide +kernel]
        exact h2
      · rw [show ia_gr 4401 ia_rfl = (0, 40) by decide +kernel]
        exact h1
    · exact ⟨0, A, _, B, id_ty2 h hm, id_400 hi⟩
  · exact ⟨0, A, _, B, id_ty0 h, id_400 hi⟩
/-- the same answer, or never at once -/
def id_dj (f1 f2 : List (Nat × Int × Int)) : Bool := f1.any (fun f => f2.any (fun g => Nat.beq f.1 g.1 && Nat.ble 100 f.1 && Nat.blt f.1 200 && (decide (f.2.2 < g.2.1) || decide (g.2.2 < f.2.1))))
def id_ex (P : ia_P) : Option Int := match P.2.1 with
  | some (.inl q) => bif decide (q.1 = q.2.1) then some q.1 else none
  | _ => none
def id_cm (x : List (Nat × Int × Int)) (P Q : ia_P) : Bool := (match id_ex P, id_ex Q with
  | some a, some b => decide (a = b)
  | _, _ => false) || id_dj (x ++ P.2.2.1) Q.2.2.1
theorem id_ex_ok {P : ia_P} {v : Int32} {E : Nat → Int32} {a : Int} (h : id_ex P = some a) (hp : ia_pk P (.inl (some (.int v))) E) : v.toInt = a := by
  have hk := hp.1
  unfold id_ex at h
  split at h
  · next q e =>
    by_cases e2 : q.1 = q.2.1
    · rw [decide_eq_true e2] at h
      cases h
      cases e1 : P.1 with
      | some t => rw [e1] at hk; exact hk.elim
      | none =>
        rw [e1, e] at hk
        have h1 : q.1 ≤ v.toInt := hk.1
        have h2 : v.toInt ≤ q.2.1 := hk.2.1
        omega
    · rw [decide_eq_false e2] at h
      cases h
  · cases h
theorem id_g0 (x y z : Int32) (n : Nat) : ia_g0 [.ref 44, .int x, .int y, .int z] n = ia_g0 [.ref 1, .int x, .int y, .int z] n := by
  show (match iv_ld [(0, .ref 44), (1, .int x), (2, .int y), (3, .int z)] (n - 100) with
    | some (.int x) => x
    | _ => 0) = (match iv_ld [(0, .ref 1), (1, .int x), (2, .int y), (3, .int z)] (n - 100) with
    | some (.int x) => x
    | _ => 0)
  by_cases h : 0 = n - 100
  · rw [← h]
    rfl
  · have h1 : ∀ r : Nat, iv_ld [(0, .ref r), (1, .int x), (2, .int y), (3, .int z)] (n - 100) = iv_ld [(1, .int x), (2, .int y), (3, .int z)] (n - 100) := fun r => by
      conv => lhs; unfold iv_ld
      rw [if_neg h]
    rw [h1 44, h1 1]
theorem id_pk {x y z v1 v2 : Int32} {A1 A2 : Nat → Nat → Int32} {F1 F2 : Nat → Int32} {M N : List ia_P} {t : List (Nat × Int × Int)} (ht : ∀ f ∈ t, f.2.1 ≤ (ia_ev [] A1 F1 (ia_g0 [.ref 1, .int x, .int y, .int z]) f.1).toInt ∧ (ia_ev [] A1 F1 (ia_g0 [.ref 1, .int x, .int y, .int z]) f.1).toInt ≤ f.2.2) (hc : M.all (fun P => N.all (id_cm t P)) = true) (h1 : ∃ P ∈ M, ia_pk P (.inl (some (.int v1))) (ia_ev [] A1 F1 (ia_g0 [.ref 1, .int x, .int y, .int z]))) (h2 : ∃ P ∈ N, ia_pk P (.inl (some (.int v2))) (ia_ev [] A2 F2 (ia_g0 [.ref 44, .int x, .int y, .int z]))) : v1 = v2 := by
  obtain ⟨P, hP, p1⟩ := h1
  obtain ⟨Q, hQ, p2⟩ := h2
  have h := List.all_eq_true.mp (List.all_eq_true.mp hc P hP) Q hQ
  unfold id_cm at h
  rw [Bool.or_eq_true] at h
  rcases h with h | h
  · split at h
    · next a b e1 e2 =>
      rw [decide_eq_true_eq] at h
      have k1 := id_ex_ok e1 p1
      have k2 := id_ex_ok e2 p2
      exact Int32.toInt_inj.mp (by omega)
    · cases h
  · obtain ⟨f, hf, h⟩ := List.any_eq_true.mp h
    obtain ⟨g, hg, h⟩ := List.any_eq_true.mp h
    rw [Bool.and_eq_true, Bool.and_eq_true, Bool.and_eq_true, Bool.or_eq_true, decide_eq_true_eq, decide_eq_true_eq] at h
    obtain ⟨⟨⟨c1, c2⟩, c3⟩, c4⟩ := h
    have c1 := Nat.eq_of_beq_eq_true c1
    have c2 := Nat.le_of_ble_eq_true c2
    have c3 := ia_blt c3
    have b1 : f.2.1 ≤ (ia_ev [] A1 F1 (ia_g0 [.ref 1, .int x, .int y, .int z]) f.1).toInt ∧ (ia_ev [] A1 F1 (ia_g0 [.ref 1, .int x, .int y, .int z]) f.1).toInt ≤ f.2.2 := by
      rcases List.mem_append.mp hf with hf | hf
      · exact ht f hf
      · exact p1.2 f hf
    have b2 := p2.2 g hg
    have e1 : ia_ev [] A1 F1 (ia_g0 [.ref 1, .int x, .int y, .int z]) f.1 = ia_g0 [.ref 1, .int x, .int y, .int z] f.1 := by
      unfold ia_ev
      rw [if_neg (by omega), if_pos (by omega)]
    have e2 : ia_ev [] A2 F2 (ia_g0 [.ref 44, .int x, .int y, .int z]) g.1 = ia_g0 [.ref 1, .int x, .int y, .int z] f.1 := by
      unfold ia_ev
      rw [if_neg (by omega), if_pos (by omega), id_g0, c1]
    rw [e1] at b1
    rw [e2] at b2
    omega
theorem id_101 {A : Nat → Nat → Int32} {F : Nat → Int32} {x y z : Int32} : ia_ev [] A F (ia_g0 [.ref 1, .int x, .int y, .int z]) 101 = x := rfl
theorem id_fx {A : Nat → Nat → Int32} {F : Nat → Int32} {x y z : Int32} {lo hi : Int} (h1 : lo ≤ x.toInt) (h2 : x.toInt ≤ hi) : ∀ f ∈ [((101 : Nat), lo, hi)], f.2.1 ≤ (ia_ev [] A F (ia_g0 [.ref 1, .int x, .int y, .int z]) f.1).toInt ∧ (ia_ev [] A F (ia_g0 [.ref 1, .int x, .int y, .int z]) f.1).toInt ≤ f.2.2 := fun f hf => by
  rw [List.mem_singleton] at hf
  subst hf
  exact ⟨h1, h2⟩
theorem id_rng (x : Int32) : (Int.negSucc 2147483647 ≤ x.toInt ∧ x.toInt ≤ Int.negSucc 0) ∨ (Int.ofNat 0 ≤ x.toInt ∧ x.toInt ≤ Int.ofNat 0) ∨ (Int.ofNat 1 ≤ x.toInt ∧ x.toInt ≤ Int.ofNat 1) ∨ (Int.ofNat 2 ≤ x.toInt ∧ x.toInt ≤ Int.ofNat 31) ∨ (Int.ofNat 32 ≤ x.toInt ∧ x.toInt ≤ Int.ofNat 2147483647) := by
  have h1 := ia_lo x
  have h2 := ia_hi x
  have e0 : Int.ofNat 0 = 0 := rfl
  have e1 : Int.ofNat 1 = 1 := rfl
  have e2 : Int.ofNat 2 = 2 := rfl
  have e3 : Int.ofNat 31 = 31 := rfl
  have e4 : Int.ofNat 32 = 32 := rfl
  have e5 : Int.ofNat 2147483647 = 2147483647 := rfl
  have e6 : Int.negSucc 2147483647 = -2147483648 := rfl
  have e7 : Int.negSucc 0 = -1 := rfl
  omega
theorem id_nil2 {E : Nat → Int32} {lo hi : Int} {x : Int32} (h : lo ≤ x.toInt ∧ x.toInt ≤ hi) : ia_ii E ⟨lo, hi, [], []⟩ x := ⟨h.1, h.2, fun _ h => (by cases h), fun _ h => (by cases h)⟩
theorem id_pc0 : ie_m18.2.2.2.2.1.all (fun P => ia_m768.2.2.2.2.1.all (id_cm [(101, (Int.negSucc 2147483647), (Int.negSucc 0))] P)) = true := by decide +kernel
theorem id_pc1 : ie_m19.2.2.2.2.1.all (fun P => ia_m768.2.2.2.2.1.all (id_cm [(101, (Int.ofNat 0), (Int.ofNat 0))] P)) = true := by decide +kernel
theorem id_pc2 : ie_m20.2.2.2.2.1.all (fun P => ia_m768.2.2.2.2.1.all (id_cm [(101, (Int.ofNat 1), (Int.ofNat 1))] P)) = true := by decide +kernel
theorem id_pc3 : ie_m21.2.2.2.2.1.all (fun P => ia_m768.2.2.2.2.1.all (id_cm [(101, (Int.ofNat 2), (Int.ofNat 31))] P)) = true := by decide +kernel
theorem id_pc4 : ie_m22.2.2.2.2.1.all (fun P => ia_m768.2.2.2.2.1.all (id_cm [(101, (Int.ofNat 32), (Int.ofNat 2147483647))] P)) = true := by decide +kernel
