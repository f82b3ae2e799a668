/-! the cases of a step -/
def ia_res (R : Option (Nat × List (Nat × Value) × List Value × iv_W)) (Ss : List ia_S) (c : Nat) (A : Nat → Nat → Int32) (F g : Nat → Int32) (md : List Nat) (am : List (Nat × Nat × Nat)) : Prop := ∃ S2 ∈ Ss, ∃ (lv2 : List (Nat × Value)) (st2 : List Value) (A2 : Nat → Nat → Int32) (F2 : Nat → Int32) (B2 : Nat → Int64), R = some (S2.1, lv2, st2, ia_wd A2 F2 B2) ∧ ia_ok S2 lv2 st2 A2 F2 g ∧ S2.2.2.2.1 = c ∧ ia_fr md am A F A2 F2
theorem ia_sh_lt : ia_sh.all (fun c => match c with
  | .inr (.inl (_, n)) => Nat.blt n 10000
  | _ => true) = true := by decide +kernel
theorem ia_an_lt {a t n : Nat} (h : ia_an a t = some n) : n < 10000 := by
  obtain ⟨k, rfl, hk, -⟩ := ia_an_ok (A := fun _ _ => 0) (F := fun _ => 0) (B := fun _ => 0) h
  have := List.all_eq_true.mp ia_sh_lt _ (List.mem_of_getElem? hk)
  exact ia_blt this
def ia_lck : Nat → List ia_C → Bool
  | _, [] => true
  | k, .inr (.inr (.inr _)) :: r => Nat.beq k 64 && ia_lck (k + 1) r
  | k, _ :: r => ia_lck (k + 1) r
theorem ia_lck_ok : ∀ (l : List ia_C) (k0 : Nat), ia_lck k0 l = true → ∀ k n, l[k]? = some (.inr (.inr (.inr n))) → k0 + k = 64
  | [], _, _, k, n, h => by simp at h
  | c :: r, k0, hc, k, n, h => by
    cases k with
    | zero =>
      simp at h
      subst h
      unfold ia_lck at hc
      rw [Bool.and_eq_true] at hc
      have := Nat.eq_of_beq_eq_true hc.1
      omega
    | succ k =>
      simp at h
      have h2 : ia_lck (k0 + 1) r = true := by
        cases c using ia_Cc with
        | l _ => unfold ia_lck at hc; rw [Bool.and_eq_true] at hc; exact hc.2
        | _ => exact hc
      have := ia_lck_ok r (k0 + 1) h2 k n h
      omega
theorem ia_sh_l {k n : Nat} (h : ia_sh[k]? = some (.inr (.inr (.inr n)))) : k = 64 := by
  have := ia_lck_ok ia_sh 0 (by decide +kernel) k n h
  omega
section
variable {L : Nat} {xs : Nat → Int32} {μ x pc2 : Nat} {S : ia_S} {Ss : List ia_S} {lv : List (Nat × Value)} {st s : List Value} {A : Nat → Nat → Int32} {F g : Nat → Int32} {B : Nat → Int64} {md tk : List Nat} {am : List (Nat × Nat × Nat)} {r : List ia_V}
theorem ia_go_ok (hok : ia_ok S lv st A F g) {st' : List ia_V} (h : ia_go S pc2 st' = some Ss) (hs : ia_sk (ia_ev lv A F g) st' s) : ia_res (some (pc2, lv, s, ia_wd A F B)) Ss S.2.2.2.1 A F g md am := by
  cases h
  exact ⟨_, List.mem_singleton.mpr rfl, lv, s, A, F, B, rfl, ⟨hok.1, hs, hok.2.2⟩, rfl, ia_fr_refl⟩
theorem ia_gs_ok (hok : ia_ok S lv st A F g) {k : Nat} {a : ia_V} {v : Value} (h : ia_gs S pc2 k a r = some Ss) (ha : ia_in (ia_ev lv A F g) a v) (hr : ia_sk (ia_ev lv A F g) r s) : ia_res (some (pc2, iv_st1 lv k v, s, ia_wd A F B)) Ss S.2.2.2.1 A F g md am := by
  unfold ia_gs at h
  cases hk : Nat.blt k 100 with
  | false => rw [hk] at h; cases h
  | true =>
    rw [hk] at h
    cases h
    exact ⟨_, List.mem_singleton.mpr rfl, _, s, A, F, B, rfl, ⟨ia_stl_ok hok.1 (ia_blt hk) ha, ia_sk_rv (ia_fl_ok hok.1 (ia_blt hk) ha) hr, hok.2.2⟩, rfl, ia_fr_refl⟩
theorem ia_if_ok (hok : ia_ok S lv st A F g) {c : ClassFile.Cond} {y z : ia_I} {a b : Int32} {p1 p2 : Nat} (hy : ia_ii (ia_ev lv A F g) y a) (hz : ia_ii (ia_ev lv A F g) z b) (hr : ia_sk (ia_ev lv A F g) r s) (h : ia_if S c y z p1 p2 r = some Ss) : ia_res (some (if iv_c2 c a b = true then p1 else p2, lv, s, ia_wd A F B)) Ss S.2.2.2.1 A F g md am := by
  cases h
  cases hc : iv_c2 c a b with
  | true =>
    obtain ⟨v2, x2, y2, e, k1, -, -⟩ := ia_as_ok hok.1 hok.2.2 hy hz c hc
    refine ⟨⟨p1, v2, r, S.2.2.2.1, S.2.2.2.2⟩, List.mem_append.mpr (Or.inl ?_), lv, s, A, F, B, by rw [if_pos rfl], ⟨k1, hr, hok.2.2⟩, rfl, ia_fr_refl⟩
    rw [e]
    exact List.mem_singleton.mpr rfl
  | false =>
    obtain ⟨v2, x2, y2, e, k1, -, -⟩ := ia_as_ok hok.1 hok.2.2 hy hz (ia_ng c) (ia_ng_ok c hc)
    refine ⟨⟨p2, v2, r, S.2.2.2.1, S.2.2.2.2⟩, List.mem_append.mpr (Or.inr ?_), lv, s, A, F, B, by rw [if_neg (by decide)], ⟨k1, hr, hok.2.2⟩, rfl, ia_fr_refl⟩
    rw [e]
    exact List.mem_singleton.mpr rfl
theorem ia_num_ok (hok : ia_ok S lv st A F g) {n : Int} {y : Int32} (h : ia_num n S pc2 = some Ss) (hy : ia_fit n n = true → y.toInt = n) : ia_res (some (pc2, lv, .int y :: st, ia_wd A F B)) Ss S.2.2.2.1 A F g md am := by
  unfold ia_num at h
  cases hf : ia_fit n n with
  | false => rw [hf] at h; cases h
  | true =>
    rw [hf] at h
    exact ia_go_ok hok h ⟨ia_k_ok (hy hf), hok.2.1⟩
theorem ia_ru_ok {E : Nat → Int32} {vs : List (Nat × ia_V)} {y : Int} (hq : ∀ n, (E n).toInt ≤ (ia_q vs n).2.1) : ∀ (us : ia_T) (h : Int), y ≤ h → (∀ t ∈ us, y ≤ (E t.1).toInt + t.2) → y ≤ ia_ru vs us h
  | [], _, h, _ => h
  | t :: r, h, h1, h2 => by
    unfold ia_ru
    have e1 := h2 t List.mem_cons_self
    have e2 := hq t.1
    exact ia_ru_ok hq r _ (by omega) (fun s hs => h2 s (List.mem_cons_of_mem _ hs))
theorem ia_rd_ok {E : Nat → Int32} {vs : List (Nat × ia_V)} {y : Int} (hq : ∀ n, (ia_q vs n).1 ≤ (E n).toInt ∧ (E n).toInt ≤ (ia_q vs n).2.1) : ∀ (us : ia_T) (p : Int × Int), p.1 ≤ y → y ≤ p.2 → (∀ t ∈ us, y = (E t.1).toInt + t.2) → (ia_rd vs us p).1 ≤ y ∧ y ≤ (ia_rd vs us p).2
  | [], _, h, h2, _ => ⟨h, h2⟩
  | t :: r, p, h1, h2, h3 => by
    unfold ia_rd
    have e1 := h3 t List.mem_cons_self
    have e2 := hq t.1
    exact ia_rd_ok hq r _ (by dsimp only; omega) (by dsimp only; omega) (fun s hs => h3 s (List.mem_cons_of_mem _ hs))
theorem ia_ldv_ok (hok : ia_ok S lv st A F g) {k : Nat} {q : ia_I} (hk : k < 100) (h : ia_ldv S.2.1 k = some (.inl q)) : ∃ y, iv_ldi lv k = some y ∧ ia_ii (ia_ev lv A F g) q y := by
  unfold ia_ldv at h
  split at h
  · next p e =>
    cases h
    obtain ⟨v, h1, h2⟩ := hok.1 _ (ia_find_mem e)
    have h3 := ia_vl_int h1 h2
    subst h3
    unfold ia_vl at h1
    rw [if_pos hk] at h1
    refine ⟨_, by unfold iv_ldi; rw [h1], h2.1, ?_, ?_, h2.2.2.2⟩
    · exact ia_ru_ok (fun n => (ia_q_ok hok.1 hok.2.2 n).2.1) _ _ h2.2.1 h2.2.2.2
    · intro t ht
      rcases List.mem_cons.mp ht with rfl | ht
      · exact (Int.add_zero _).symm
      · exact h2.2.2.1 t ht
  · next a hne e =>
    cases h
    exact (hne q rfl).elim
  · cases h
theorem ia_find_r (hok : ia_ok S lv st A F g) {k : Nat} {cs : List Nat} (hk : k < 100) (h : ia_find k S.2.1 = some (.inr (.inl cs))) : ∃ a, iv_lda lv k = some a ∧ a ∈ cs := by
  obtain ⟨v, h1, h2⟩ := hok.1 _ (ia_find_mem h)
  unfold ia_vl at h1
  rw [if_pos hk] at h1
  cases v with
  | ref a => exact ⟨a, by unfold iv_lda; rw [h1], h2⟩
  | _ => exact h2.elim
theorem ia_find_l (hok : ia_ok S lv st A F g) {k : Nat} (hk : k < 100) (h : ia_find k S.2.1 = some (.inr (.inr ()))) : ∃ a, iv_ldl lv k = some a := by
  obtain ⟨v, h1, h2⟩ := hok.1 _ (ia_find_mem h)
  unfold ia_vl at h1
  rw [if_pos hk] at h1
  cases v with
  | long a => exact ⟨a, by unfold iv_ldl; rw [h1]⟩
  | _ => exact h2.elim
theorem ia_hl_ok {E : Nat → Int32} {u v w : ia_V} {y : Value} (h : ia_hl u v = some w) (hy : ia_in E u y ∨ ia_in E v y) : ia_in E w y := by
  unfold ia_hl at h
  split at h
  · next p q =>
    cases h
    cases y with
    | int a =>
      rcases hy with hy | hy
      · have := hy.1
        have := hy.2.1
        exact ia_nil (by omega) (by omega)
      · have := hy.1
        have := hy.2.1
        exact ia_nil (by omega) (by omega)
    | _ => rcases hy with hy | hy <;> exact hy.elim
  · next p q =>
    cases h
    cases y with
    | ref a =>
      rcases hy with hy | hy
      · exact List.mem_append.mpr (Or.inl hy)
      · exact List.mem_append.mpr (Or.inr hy)
    | _ => rcases hy with hy | hy <;> exact hy.elim
  · cases h
theorem ia_at_ok (hok : ia_ok S lv st A F g) (n : Nat) : ia_ii (ia_ev lv A F g) (ia_at S.2.1 n) (ia_ev lv A F g n) := by
  have h := ia_q_ok hok.1 hok.2.2 n
  refine ⟨h.1, h.2.1, fun t ht => ?_, h.2.2.2⟩
  rcases List.mem_cons.mp ht with rfl | ht
  · exact (Int.add_zero _).symm
  · exact h.2.2.1 t ht
theorem ia_ev_f {q : Nat} (h : q < 9000) : ia_ev lv A F g (1000 + q) = F q := by
  unfold ia_ev ia_w
  rw [if_neg (by omega), if_neg (by omega), if_pos (by omega), show 1000 + q - 1000 = q by omega]
theorem ia_ev_a {a j : Nat} (h : j < 10000) : ia_ev lv A F g (10000 * (a + 1) + j) = A a j := by
  unfold ia_ev ia_w
  rw [if_neg (by omega), if_neg (by omega), if_neg (by omega), show (10000 * (a + 1) + j) / 10000 - 1 = a by omega, show (10000 * (a + 1) + j) % 10000 = j by omega]
theorem ia_gf1_ok (hok : ia_ok S lv st A F g) {ci f a : Nat} {V : ia_V} (h : ia_gf1 S.2.1 ci f a = some V) : ∃ fs v, iv_obj (ia_wd A F B) a ci = some fs ∧ fs[f]? = some v ∧ ia_in (ia_ev lv A F g) V v := by
  unfold ia_gf1 at h
  split at h
  · next b e =>
    cases h
    obtain ⟨k, fs, -, -, h1, h2⟩ := ia_of_ok (A := A) (F := F) (B := B) e
    exact ⟨_, .ref b, h2, by rw [List.getElem?_map, h1]; rfl, List.mem_singleton.mpr rfl⟩
  · next q e =>
    cases hq : Nat.blt q 9000 with
    | false => rw [hq] at h; cases h
    | true =>
      rw [hq] at h
      cases h
      obtain ⟨k, fs, -, -, h1, h2⟩ := ia_of_ok (A := A) (F := F) (B := B) e
      have h3 := ia_at_ok hok (1000 + q)
      rw [ia_ev_f (ia_blt hq)] at h3
      exact ⟨_, .int (F q), h2, by rw [List.getElem?_map, h1]; rfl, h3⟩
  · cases h
theorem ia_gf_ok (hok : ia_ok S lv st A F g) {ci f a : Nat} : ∀ {cs : List Nat} {V : ia_V}, ia_gf S.2.1 ci f cs = some V → a ∈ cs → ∃ fs v, iv_obj (ia_wd A F B) a ci = some fs ∧ fs[f]? = some v ∧ ia_in (ia_ev lv A F g) V v
  | [], _, h, _ => by cases h
  | [b], V, h, ha => by
    rw [List.mem_singleton] at ha
    subst ha
    exact ia_gf1_ok hok h
  | b :: c :: r, V, h, ha => by
    unfold ia_gf at h
    split at h
    · next u v e1 e2 =>
      rcases List.mem_cons.mp ha with rfl | ha
      · obtain ⟨fs, y, h1, h2, h3⟩ := ia_gf1_ok (B := B) hok e1
        exact ⟨fs, y, h1, h2, ia_hl_ok h (Or.inl h3)⟩
      · obtain ⟨fs, y, h1, h2, h3⟩ := ia_gf_ok hok e2 ha
        exact ⟨fs, y, h1, h2, ia_hl_ok h (Or.inr h3)⟩
    · cases h
theorem ia_al1_ok (hok : ia_ok S lv st A F g) {t a : Nat} {j : ia_I} {b : Bool} {V : ia_V} {y : Int32} (hj : ia_ii (ia_ev lv A F g) j y) (h : ia_al1 S.2.1 tk t j a b = some V) : ∃ n, ia_an a t = some n ∧ 0 ≤ y.toInt ∧ y.toInt < n ∧ ia_in (ia_ev lv A F g) V (.int (A a y.toInt.toNat)) := by
  unfold ia_al1 at h
  split at h
  · next n e =>
    cases hc : (decide (0 ≤ j.1) && decide (j.2.1 < (n : Int))) with
    | false => rw [hc] at h; cases h
    | true =>
      rw [hc] at h
      rw [Bool.and_eq_true, decide_eq_true_eq, decide_eq_true_eq] at hc
      have p1 := hj.1
      have p2 := hj.2.1
      have hn := ia_an_lt e
      refine ⟨n, e, by omega, by omega, ?_⟩
      dsimp only [cond_true] at h
      cases hd : (b && ia_mem a tk && decide (j.1 = j.2.1)) with
      | true =>
        rw [hd] at h
        cases h
        rw [Bool.and_eq_true, decide_eq_true_eq] at hd
        have e2 : j.1 = y.toInt := by omega
        have h3 := ia_at_ok hok (10000 * (a + 1) + y.toInt.toNat)
        rw [ia_ev_a (by omega)] at h3
        rw [e2]
        exact h3
      | false =>
        rw [hd] at h
        cases h
        have h4 := hok.2.2.1 (10000 * (a + 1) + y.toInt.toNat) (by omega)
        rw [ia_df_a (by omega), ia_w_ev lv g (by omega), ia_ev_a (by omega)] at h4
        have h5 := ia_ra_mono (a := a) (i := j.1.toNat) (j := y.toInt.toNat) (by omega)
        exact ia_nil (by omega) (by omega)
  · cases h
theorem ia_al_ok (hok : ia_ok S lv st A F g) {t a : Nat} {j : ia_I} {y : Int32} (hj : ia_ii (ia_ev lv A F g) j y) : ∀ {cs : List Nat} {b : Bool} {V : ia_V}, ia_al S.2.1 tk t j b cs = some V → a ∈ cs → ∃ n, ia_an a t = some n ∧ 0 ≤ y.toInt ∧ y.toInt < n ∧ ia_in (ia_ev lv A F g) V (.int (A a y.toInt.toNat))
  | [], _, _, h, _ => by cases h
  | [c], b, V, h, ha => by
    rw [List.mem_singleton] at ha
    subst ha
    exact ia_al1_ok hok hj h
  | c :: d :: r, b, V, h, ha => by
    unfold ia_al at h
    split at h
    · next u v e1 e2 =>
      rcases List.mem_cons.mp ha with rfl | ha
      · obtain ⟨n, h1, h2, h3, h4⟩ := ia_al1_ok hok hj e1
        exact ⟨n, h1, h2, h3, ia_hl_ok h (Or.inl h4)⟩
      · obtain ⟨n, h1, h2, h3, h4⟩ := ia_al_ok hok hj e2 ha
        exact ⟨n, h1, h2, h3, ia_hl_ok h (Or.inr h4)⟩
    · cases h
theorem ia_ev_A {a j : Nat} {v : Int32} (hj : j < 10000) (m : Nat) : ia_ev lv (ia_uC A a (upd (A a) j v)) F g m = if m = 10000 * (a + 1) + j then v else ia_ev lv A F g m := by
  rw [ia_ev_C]
  by_cases h : 10000 ≤ m ∧ m / 10000 = a + 1
  · rw [if_pos h]
    unfold upd
    by_cases e : m % 10000 = j
    · rw [if_pos e, if_pos (by omega)]
    · rw [if_neg e, if_neg (by omega)]
      have : m = 10000 * (a + 1) + m % 10000 := by omega
      rw [this, ia_ev_a (by omega), ← this]
  · rw [if_neg h, if_neg (by omega)]
theorem ia_fr_A {a j : Nat} {v : Int32} {lo hi' : Nat} (h1 : lo ≤ j) (h2 : j ≤ hi') (hc : ia_cov am a lo hi' = true) : ia_fr md am A F (ia_uC A a (upd (A a) j v)) F := by
  refine ⟨fun _ _ => rfl, fun b i hb hi => ?_⟩
  unfold ia_uC
  by_cases e : b = a
  · subst e
    rw [if_pos rfl]
    unfold upd
    by_cases e2 : i = j
    · subst e2
      unfold ia_cov at hc
      rw [hb, Bool.not_true, Bool.false_or, List.any_eq_true] at hc
      obtain ⟨t, ht, hc⟩ := hc
      rw [Bool.and_eq_true, Bool.and_eq_true] at hc
      have q1 := Nat.eq_of_beq_eq_true hc.1.1
      have q2 := Nat.le_of_ble_eq_true hc.1.2
      have q3 := Nat.le_of_ble_eq_true hc.2
      exact (hi t ht q1 ⟨by omega, by omega⟩).elim
    · rw [if_neg e2]
  · rw [if_neg e]
theorem ia_q_hi {vs : List (Nat × ia_V)} {br : List Nat} (hv : ia_vk lv A F g vs) (hi : ia_inv A F br) {n : Nat} (hn : 1000 ≤ n) : (ia_w A F n).toInt ≤ (ia_q vs n).2.1 := by
  rw [ia_w_ev lv g hn]
  exact (ia_q_ok hv hi n).2.1
/-- an element of a pair changes -/
theorem ia_inv_P {vs : List (Nat × ia_V)} {br : List Nat} (hi : ia_inv A F br) {a j : Nat} {v : Int32} (hp : ia_pa a = true) (hj : j < 4) (h1 : (ia_ra a j).1 ≤ v.toInt) (h2 : v.toInt ≤ (ia_ra a j).2) (hv : ia_vk lv (ia_uC A a (upd (A a) j v)) F g vs) : ia_inv (ia_uC A a (upd (A a) j v)) F (ia_br vs br (ia_p0 a j)) := by
  have key : ∀ n, 1000 ≤ n → ia_w (ia_uC A a (upd (A a) j v)) F n = if n = 10000 * (a + 1) + j then v else ia_w A F n := fun n hn => by
    rw [ia_w_ev lv g hn, ia_w_ev lv g hn, ia_ev_A (by omega)]
  have hp0 : (10000 * (a + 1) + j = ia_p0 a j ∨ 10000 * (a + 1) + j = ia_p0 a j + 10000) ∧ (ia_p0 a j / 10000 = 9 ∨ ia_p0 a j / 10000 = 50) ∧ ia_p0 a j % 10000 = j := by
    unfold ia_pa at hp
    rw [Bool.or_eq_true, Bool.or_eq_true, Bool.or_eq_true] at hp
    rcases hp with ((hp | hp) | hp) | hp
    · obtain rfl := Nat.eq_of_beq_eq_true hp
      rw [show ia_p0 8 j = 10000 * (8 + 1) + j from rfl]
      omega
    · obtain rfl := Nat.eq_of_beq_eq_true hp
      rw [show ia_p0 9 j = 10000 * 9 + j from rfl]
      omega
    · obtain rfl := Nat.eq_of_beq_eq_true hp
      rw [show ia_p0 49 j = 10000 * (49 + 1) + j from rfl]
      omega
    · obtain rfl := Nat.eq_of_beq_eq_true hp
      rw [show ia_p0 50 j = 10000 * 50 + j from rfl]
      omega
  have r1 : ∀ n, 1000 ≤ n → (ia_df n).1 ≤ (ia_w (ia_uC A a (upd (A a) j v)) F n).toInt ∧ (ia_w (ia_uC A a (upd (A a) j v)) F n).toInt ≤ (ia_df n).2 := fun n hn => by
    rw [key n hn]
    split
    · next e => subst e; rw [ia_df_a (by omega)]; exact ⟨h1, h2⟩
    · exact hi.1 n hn
  have r2 : ∀ n, (n / 10000 = 9 ∨ n / 10000 = 50) → n % 10000 < 4 → n ≠ ia_p0 a j → n ∉ br → (ia_w (ia_uC A a (upd (A a) j v)) F n).toInt + (ia_w (ia_uC A a (upd (A a) j v)) F (n + 10000)).toInt ≤ 40 := fun n h3 h4 h5 h6 => by
    rw [key n (by omega), key (n + 10000) (by omega), if_neg (by omega), if_neg (by omega)]
    exact hi.2 n h3 h4 h6
  have hw : ia_inv (ia_uC A a (upd (A a) j v)) F (ia_p0 a j :: br) := ⟨r1, fun n h3 h4 h5 => r2 n h3 h4 (fun e => h5 (by rw [e]; exact List.mem_cons_self)) (fun e => h5 (List.mem_cons_of_mem _ e))⟩
  unfold ia_br
  by_cases hd : (ia_q vs (ia_p0 a j)).2.1 + (ia_q vs (ia_p0 a j + 10000)).2.1 ≤ 40
  · rw [decide_eq_true hd]
    refine ⟨r1, fun n h3 h4 h5 => ?_⟩
    by_cases e : n = ia_p0 a j
    · subst e
      have := ia_q_hi hv hw (n := ia_p0 a j) (by omega)
      have := ia_q_hi hv hw (n := ia_p0 a j + 10000) (by omega)
      omega
    · refine r2 n h3 h4 e (fun h6 => h5 (List.mem_filter.mpr ⟨h6, ?_⟩))
      cases hb : Nat.beq n (ia_p0 a j) with
      | true => exact (e (Nat.eq_of_beq_eq_true hb)).elim
      | false => rfl
  · rw [decide_eq_false hd]
    exact hw
theorem ia_ast_ok (hok : ia_ok S lv st A F g) {t n a : Nat} {j q : ia_I} {cs : List Nat} {y v : Int32} {S2 : ia_S} (hj : ia_ii (ia_ev lv A F g) j y) (hq : ia_ii (ia_ev lv A F g) q v) (hr : ia_sk (ia_ev lv A F g) r s) (ha : a ∈ cs) (hs : ia_as1 am t j q a = true) (h : ia_ast tk S pc2 j q cs r = some S2) : 0 ≤ y.toInt ∧ y.toInt < 10000 ∧ ia_ok S2 lv s (ia_uC A a (upd (A a) y.toInt.toNat v)) F g ∧ S2.1 = pc2 ∧ S2.2.2.2.1 = S.2.2.2.1 ∧ ia_fr md am A F (ia_uC A a (upd (A a) y.toInt.toNat v)) F := by
  unfold ia_as1 at hs
  split at hs
  · next n e =>
    have hn := ia_an_lt e
    rw [Bool.and_eq_true, Bool.and_eq_true, Bool.and_eq_true, Bool.and_eq_true, Bool.and_eq_true, decide_eq_true_eq, decide_eq_true_eq] at hs
    obtain ⟨⟨⟨⟨⟨c1, c2⟩, -⟩, -⟩, c3⟩, c4⟩ := hs
    have p1 := hj.1
    have p2 := hj.2.1
    have c5 := ia_wi_ok c3 hq
    have c6 := ia_ra_mono (a := a) (i := y.toInt.toNat) (j := j.2.1.toNat) (by omega)
    have hjn : y.toInt.toNat < 10000 := by omega
    have hE : ∀ m, ia_ev lv (ia_uC A a (upd (A a) y.toInt.toNat v)) F g m = if m = 10000 * (a + 1) + y.toInt.toNat then v else ia_ev lv A F g m := fun m => ia_ev_A hjn m
    have hfr : ia_fr md am A F (ia_uC A a (upd (A a) y.toInt.toNat v)) F := ia_fr_A (lo := j.1.toNat) (hi' := j.2.1.toNat) (by omega) (by omega) c4
    have hnp : ia_pa a = false → ia_inv (ia_uC A a (upd (A a) y.toInt.toNat v)) F S.2.2.2.2 := fun hp => by
      refine ia_inv_C hok.2.2 hp (fun i hi => ?_)
      unfold upd
      by_cases e2 : i = y.toInt.toNat
      · subst e2
        rw [if_pos rfl]
        omega
      · rw [if_neg e2]
        have h4 := hok.2.2.1 (10000 * (a + 1) + i) (by omega)
        rwa [ia_df_a hi, ia_w_ev lv g (by omega), ia_ev_a hi] at h4
    have hweak : ∀ cs, a ∈ cs → (∀ m, ia_asp j cs m = false → ia_ev lv (ia_uC A a (upd (A a) y.toInt.toNat v)) F g m = ia_ev lv A F g m) := fun cs ha m hm => by
      rw [hE m]
      split
      · next e2 =>
        subst e2
        have hm2 : ia_asp j cs (10000 * (a + 1) + y.toInt.toNat) = true := by
          unfold ia_asp
          rw [Bool.and_eq_true, Bool.and_eq_true, Bool.and_eq_true, decide_eq_true_eq, decide_eq_true_eq, List.any_eq_true, show (10000 * (a + 1) + y.toInt.toNat) / 10000 = a + 1 by omega, show (10000 * (a + 1) + y.toInt.toNat) % 10000 = y.toInt.toNat by omega]
          exact ⟨⟨⟨Nat.ble_eq_true_of_le (by omega), a, ha, Nat.beq_refl _⟩, by omega⟩, by omega⟩
        rw [hm2] at hm
        cases hm
      · rfl
    have hdone : ∀ cs, a ∈ cs → ia_pa a = false → ia_ok ⟨pc2, ia_drp (ia_asp j cs) S.2.1, r.map (ia_rv (ia_fp (ia_asp j cs))), S.2.2.2.1, S.2.2.2.2⟩ lv s (ia_uC A a (upd (A a) y.toInt.toNat v)) F g := fun cs ha hp =>
      ⟨ia_drp_ok hok.1 (hweak cs ha), ia_sk_rv (ia_fp_ok (hweak cs ha)) hr, hnp hp⟩
    refine ⟨by omega, by omega, ?_⟩
    unfold ia_ast at h
    split at h
    · next b =>
      rw [List.mem_singleton] at ha
      subst ha
      cases hd : (decide (j.1 = j.2.1) && (ia_mem a tk || ia_pa a)) with
      | true =>
        rw [hd] at h
        rw [Bool.and_eq_true, decide_eq_true_eq] at hd
        have e2 : j.1.toNat = y.toInt.toNat := by omega
        dsimp only [cond_true] at h
        rw [e2] at h
        have hE1 : ∀ m, m ≠ 10000 * (a + 1) + y.toInt.toNat → ia_ev lv (ia_uC A a (upd (A a) y.toInt.toNat v)) F g m = ia_ev lv A F g m := fun m hm => by rw [hE m, if_neg hm]
        have hE2 : ia_ev lv (ia_uC A a (upd (A a) y.toInt.toNat v)) F g (10000 * (a + 1) + y.toInt.toNat) = v := by rw [hE, if_pos rfl]
        have hvk := ia_stw_ok (a := .inl q) hok.1 (by omega) hE1 hE2 hq
        have hsk := ia_sk_rv (ia_fw_ok (a := .inl q) hE1 hE2 hq) hr
        cases hp : ia_pa a with
        | true =>
          rw [hp] at h
          dsimp only [cond_true] at h
          by_cases h4 : j.2.1 < 4
          · rw [decide_eq_true h4] at h
            cases h
            exact ⟨⟨hvk, hsk, ia_inv_P hok.2.2 hp (by omega) (by omega) (by omega) hvk⟩, rfl, rfl, hfr⟩
          · rw [decide_eq_false h4] at h
            cases h
        | false =>
          rw [hp] at h
          cases h
          exact ⟨⟨hvk, hsk, hnp hp⟩, rfl, rfl, hfr⟩
      | false =>
        rw [hd] at h
        dsimp only [cond_false] at h
        cases hp : ia_pa a with
        | true => rw [hp] at h; cases h
        | false =>
          rw [hp] at h
          cases h
          exact ⟨hdone [a] (List.mem_singleton.mpr rfl) hp, rfl, rfl, hfr⟩
    · cases hp : cs.any ia_pa with
      | true => rw [hp] at h; cases h
      | false =>
        rw [hp] at h
        cases h
        have hp2 : ia_pa a = false := by
          cases hpa : ia_pa a with
          | false => rfl
          | true => rw [List.any_eq_true.mpr ⟨a, ha, hpa⟩] at hp; cases hp
        exact ⟨hdone cs ha hp2, rfl, rfl, hfr⟩
  · cases hs
end
