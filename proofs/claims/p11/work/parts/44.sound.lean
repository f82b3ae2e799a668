/-! a step of the interpreter keeps to the machine's -/
theorem ia_fr_refl {md : List Nat} {am : List (Nat × Nat × Nat)} {A : Nat → Nat → Int32} {F : Nat → Int32} : ia_fr md am A F A F := ⟨fun _ _ => rfl, fun _ _ _ _ => rfl⟩
theorem ia_fr_trans {md : List Nat} {am : List (Nat × Nat × Nat)} {A A1 A2 : Nat → Nat → Int32} {F F1 F2 : Nat → Int32} (h1 : ia_fr md am A F A1 F1) (h2 : ia_fr md am A1 F1 A2 F2) : ia_fr md am A F A2 F2 :=
  ⟨fun q h => (h2.1 q h).trans (h1.1 q h), fun a j h k => (h2.2 a j h k).trans (h1.2 a j h k)⟩
theorem ia_mem_iff {n : Nat} : ∀ {l : List Nat}, ia_mem n l = true ↔ n ∈ l
  | [] => by simp [ia_mem]
  | m :: r => by
    unfold ia_mem
    rw [Bool.or_eq_true, ia_mem_iff, List.mem_cons]
    constructor
    · rintro (h | h)
      · exact Or.inl (Nat.eq_of_beq_eq_true h).symm
      · exact Or.inr h
    · rintro (h | h)
      · subst h; exact Or.inl (Nat.beq_refl n)
      · exact Or.inr h
theorem ia_sk_i {E : Nat → Int32} {q : ia_I} {r : List ia_V} {st : List Value} (h : ia_sk E (.inl q :: r) st) : ∃ x s, st = .int x :: s ∧ ia_ii E q x ∧ ia_sk E r s := by
  cases st with
  | nil => exact h.elim
  | cons v s =>
    cases v with
    | int x => exact ⟨x, s, rfl, h.1, h.2⟩
    | _ => exact h.1.elim
theorem ia_sk_r {E : Nat → Int32} {cs : List Nat} {r : List ia_V} {st : List Value} (h : ia_sk E (.inr (.inl cs) :: r) st) : ∃ a s, st = .ref a :: s ∧ a ∈ cs ∧ ia_sk E r s := by
  cases st with
  | nil => exact h.elim
  | cons v s =>
    cases v with
    | ref x => exact ⟨x, s, rfl, h.1, h.2⟩
    | _ => exact h.1.elim
theorem ia_sk_l {E : Nat → Int32} {r : List ia_V} {st : List Value} (h : ia_sk E ((.inr (.inr ())) :: r) st) : ∃ x s, st = .long x :: s ∧ ia_sk E r s := by
  cases st with
  | nil => exact h.elim
  | cons v s =>
    cases v with
    | long x => exact ⟨x, s, rfl, h.2⟩
    | _ => exact h.1.elim
theorem ia_blt {a b : Nat} (h : Nat.blt a b = true) : a < b := Nat.le_of_ble_eq_true h
theorem ia_bne {a b : Nat} (h : Nat.beq a b = false) : a ≠ b := Nat.ne_of_beq_eq_false h
theorem ia_tn (j : Int32) : j.toNatClampNeg = j.toInt.toNat := rfl
theorem ia_in_ok {j : Int32} {n : Nat} (h1 : 0 ≤ j.toInt) (h2 : j.toInt < n) : iv_in j n = true := by
  unfold iv_in
  rw [Bool.and_eq_true, Bool.not_eq_true', decide_eq_false_iff_not, decide_eq_true_eq, ia_tn, Int32.lt_iff_toInt_lt]
  have : (0 : Int32).toInt = 0 := rfl
  omega
-- locals
theorem ia_ld_keep {p : Nat × Value → Bool} {m : Nat} (hp : ∀ q, q.1 = m → p q = true) : ∀ lv : List (Nat × Value), iv_ld (lv.filter p) m = iv_ld lv m
  | [] => rfl
  | q :: r => by
    rw [List.filter_cons]
    by_cases e : q.1 = m
    · rw [hp q e, if_pos rfl]
      unfold iv_ld
      rw [if_pos e, if_pos e]
    · conv => rhs; unfold iv_ld
      rw [if_neg e]
      split
      · show (if q.1 = m then some q.2 else iv_ld (List.filter p r) m) = iv_ld r m
        rw [if_neg e]
        exact ia_ld_keep hp r
      · exact ia_ld_keep hp r
section
variable {lv lv2 : List (Nat × Value)} {A A2 : Nat → Nat → Int32} {F F2 g : Nat → Int32} {vs : List (Nat × ia_V)}
theorem ia_one_ok (hv : ia_vk lv A F g vs) {m : Nat} (hm : m < 100) (h : ia_one vs m = true) : ∃ v, iv_ld lv m = some v ∧ v.category = 1 := by
  unfold ia_one at h
  split at h
  · next q e =>
    obtain ⟨v, h1, h2⟩ := hv _ (ia_find_mem e)
    unfold ia_vl at h1
    rw [if_pos hm] at h1
    cases v with
    | int x => exact ⟨_, h1, rfl⟩
    | _ => exact h2.elim
  · next q e =>
    obtain ⟨v, h1, h2⟩ := hv _ (ia_find_mem e)
    unfold ia_vl at h1
    rw [if_pos hm] at h1
    cases v with
    | ref x => exact ⟨_, h1, rfl⟩
    | _ => exact h2.elim
  · cases h
theorem ia_ld_st1k {k m : Nat} {v : Value} (h : m ≠ k) : iv_ld (iv_st1 lv k v) m = iv_ld (lv.filter (fun q => !(q.1 == k) && !(q.1 + 1 == k && q.2.category == 2))) m := by
  unfold iv_st1
  conv => lhs; unfold iv_ld
  rw [if_neg (fun e => h e.symm)]
theorem ia_ev_st1 (hv : ia_vk lv A F g vs) {k m : Nat} {v : Value} (hm : m ≠ k) (ho : m + 1 ≠ k ∨ ia_one vs m = true) : ia_ev (iv_st1 lv k v) A F g m = ia_ev lv A F g m := by
  unfold ia_ev
  by_cases h : m < 100
  · rw [if_pos h, if_pos h, ia_ld_st1k hm]
    rcases ho with ho | ho
    · rw [ia_ld_keep]
      intro q e
      simp only [Bool.and_eq_true, Bool.not_eq_true', beq_eq_false_iff_ne, Bool.and_eq_false_iff, ne_eq]
      exact ⟨by omega, Or.inl (by omega)⟩
    · obtain ⟨u, h1, h2⟩ := ia_one_ok hv h ho
      rw [ia_ld_st1 (u := v) hm (fun e => by omega) h1, h1]
  · rw [if_neg h, if_neg h]
theorem ia_ev_st1k {k : Nat} {x : Int32} (hk : k < 100) : ia_ev (iv_st1 lv k (.int x)) A F g k = x := by
  unfold ia_ev iv_st1 iv_ld
  rw [if_pos hk, if_pos rfl]
theorem ia_sd_ok {E : Nat → Int32} {n : Nat} {a : ia_V} {d : Int} {v : Value} (h : ia_sd n a = some d) (hv : ia_in E a v) : ∃ x, v = .int x ∧ x.toInt = (E n).toInt + d := by
  unfold ia_sd at h
  split at h
  · next q =>
    split at h
    · next t e =>
      cases h
      have h1 := List.mem_of_find?_eq_some e
      have h2 := List.find?_some e
      cases v with
      | int x => exact ⟨x, rfl, by rw [hv.2.2.1 t h1, Nat.eq_of_beq_eq_true h2]⟩
      | _ => exact hv.elim
    · cases h
  · cases h
theorem ia_fl_ok (hv : ia_vk lv A F g vs) {k : Nat} {a : ia_V} {v : Value} (hk : k < 100) (ha : ia_in (ia_ev lv A F g) a v) (m : Nat) (d : Int) (h : ia_fl vs k a m = some d) : (ia_ev (iv_st1 lv k v) A F g m).toInt = (ia_ev lv A F g m).toInt + d := by
  unfold ia_fl at h
  cases h1 : Nat.beq m k with
  | true =>
    rw [h1] at h
    obtain ⟨x, rfl, e⟩ := ia_sd_ok h ha
    rw [Nat.eq_of_beq_eq_true h1, ia_ev_st1k hk]
    exact e
  | false =>
    rw [h1] at h
    dsimp only [cond_false] at h
    cases h2 : (Nat.beq (m + 1) k && !(ia_one vs m)) with
    | true => rw [h2] at h; cases h
    | false =>
      rw [h2] at h
      cases h
      rw [ia_ev_st1 hv (ia_bne h1), Int.add_zero]
      rw [Bool.and_eq_false_iff] at h2
      rcases h2 with h2 | h2
      · exact Or.inl (ia_bne h2)
      · exact Or.inr (by rw [Bool.not_eq_false'] at h2; exact h2)
theorem ia_f0_ok {E E2 : Nat → Int32} {f : Nat → Option Int} {k : Nat} (hf : ∀ m d, f m = some d → (E2 m).toInt = (E m).toInt + d) (m : Nat) (d : Int) (h : ia_f0 f k m = some d) : (E2 m).toInt = (E m).toInt + d := by
  unfold ia_f0 at h
  cases h1 : Nat.beq m k with
  | true => rw [h1] at h; cases h
  | false => rw [h1] at h; exact hf m d h
/-- what is kept when locations change -/
theorem ia_chg {f : Nat → Option Int} (hf : ∀ m d, f m = some d → (ia_ev lv2 A2 F2 g m).toInt = (ia_ev lv A F g m).toInt + d) {vs2 : List (Nat × ia_V)} (hk : ∀ q ∈ vs2, ∃ v, ia_vl lv2 (ia_ev lv2 A2 F2 g) q.1 = some v ∧ ia_in (ia_ev lv A F g) q.2 v) : ia_vk lv2 A2 F2 g (ia_rs f vs2) := fun q hq => by
  obtain ⟨s, hs, rfl⟩ := List.mem_map.mp hq
  obtain ⟨v, h1, h2⟩ := hk s hs
  exact ⟨v, h1, ia_rv_in hf h2⟩
theorem ia_stl_ok (hv : ia_vk lv A F g vs) {k : Nat} {a : ia_V} {v : Value} (hk : k < 100) (ha : ia_in (ia_ev lv A F g) a v) : ia_vk (iv_st1 lv k v) A F g (ia_stl vs k a) := by
  intro q hq
  rcases List.mem_cons.mp hq with rfl | hq
  · refine ⟨v, ?_, ia_rv_in (ia_f0_ok (ia_fl_ok hv hk ha)) ha⟩
    show ia_vl (iv_st1 lv k v) _ k = some v
    unfold ia_vl iv_st1 iv_ld
    rw [if_pos hk, if_pos rfl]
  · refine ia_chg (ia_fl_ok hv hk ha) (fun s hs => ?_) q hq
    obtain ⟨h1, h2⟩ := List.mem_filter.mp hs
    rw [Bool.and_eq_true, Bool.not_eq_true', Bool.not_eq_true', Bool.and_eq_false_iff] at h2
    obtain ⟨u, h3, h4⟩ := hv s h1
    refine ⟨u, ?_, h4⟩
    unfold ia_vl at h3 ⊢
    by_cases hn : s.1 < 100
    · rw [if_pos hn] at h3 ⊢
      rw [ia_ld_st1k (ia_bne h2.1)]
      refine ia_ld_st1 (u := v) (ia_bne h2.1) ?_ h3
      rintro ⟨e1, e2⟩
      rcases h2.2 with h5 | h5
      · exact ia_bne h5 e1
      · cases hs2 : s.2 using ia_Vc with
        | l => rw [hs2] at h5; cases h5
        | i q => rw [hs2] at h4; cases u <;> first | exact h4 | cases e2
        | r cs => rw [hs2] at h4; cases u <;> first | exact h4 | cases e2
    · rw [if_neg hn] at h3 ⊢
      rw [← h3]
      have : ia_ev (iv_st1 lv k v) A F g s.1 = ia_ev lv A F g s.1 := by
        unfold ia_ev
        rw [if_neg hn, if_neg hn]
      rw [this]
theorem ia_fw_ok {n : Nat} {a : ia_V} {x : Int32} (hE : ∀ m, m ≠ n → ia_ev lv A2 F2 g m = ia_ev lv A F g m) (hn : ia_ev lv A2 F2 g n = x) (ha : ia_in (ia_ev lv A F g) a (.int x)) (m : Nat) (d : Int) (h : ia_fw n a m = some d) : (ia_ev lv A2 F2 g m).toInt = (ia_ev lv A F g m).toInt + d := by
  unfold ia_fw at h
  cases h1 : Nat.beq m n with
  | true =>
    rw [h1] at h
    obtain ⟨y, e, e2⟩ := ia_sd_ok h ha
    cases e
    rw [Nat.eq_of_beq_eq_true h1, hn]
    exact e2
  | false =>
    rw [h1] at h
    cases h
    rw [hE m (ia_bne h1), Int.add_zero]
theorem ia_vl_ge {n : Nat} (h : 100 ≤ n) (E : Nat → Int32) : ia_vl lv E n = some (.int (E n)) := by
  unfold ia_vl
  rw [if_neg (by omega)]
theorem ia_vl_same {E E2 : Nat → Int32} {n : Nat} (h : E2 n = E n) : ia_vl lv E2 n = ia_vl lv E n := by
  unfold ia_vl
  rw [h]
theorem ia_stw_ok (hv : ia_vk lv A F g vs) {n : Nat} {a : ia_V} {x : Int32} (h100 : 100 ≤ n) (hE : ∀ m, m ≠ n → ia_ev lv A2 F2 g m = ia_ev lv A F g m) (hn : ia_ev lv A2 F2 g n = x) (ha : ia_in (ia_ev lv A F g) a (.int x)) : ia_vk lv A2 F2 g (ia_stw vs n a) := by
  intro q hq
  rcases List.mem_cons.mp hq with rfl | hq
  · exact ⟨.int x, by rw [← hn]; exact ia_vl_ge h100 _, ia_rv_in (ia_f0_ok (ia_fw_ok hE hn ha)) ha⟩
  · refine ia_chg (ia_fw_ok hE hn ha) (fun s hs => ?_) q hq
    obtain ⟨h1, h2⟩ := List.mem_filter.mp hs
    rw [Bool.not_eq_true'] at h2
    obtain ⟨u, h3, h4⟩ := hv s h1
    exact ⟨u, by rw [ia_vl_same (hE s.1 (ia_bne h2))]; exact h3, h4⟩
theorem ia_fp_ok {E E2 : Nat → Int32} {p : Nat → Bool} (hE : ∀ m, p m = false → E2 m = E m) (m : Nat) (d : Int) (h : ia_fp p m = some d) : (E2 m).toInt = (E m).toInt + d := by
  unfold ia_fp at h
  cases h1 : p m with
  | true => rw [h1] at h; cases h
  | false =>
    rw [h1] at h
    cases h
    rw [hE m h1, Int.add_zero]
theorem ia_drp_ok (hv : ia_vk lv A F g vs) {p : Nat → Bool} (hE : ∀ m, p m = false → ia_ev lv A2 F2 g m = ia_ev lv A F g m) : ia_vk lv A2 F2 g (ia_drp p vs) := by
  refine ia_chg (ia_fp_ok hE) (fun s hs => ?_)
  obtain ⟨h1, h2⟩ := List.mem_filter.mp hs
  rw [Bool.not_eq_true'] at h2
  obtain ⟨u, h3, h4⟩ := hv s h1
  exact ⟨u, by rw [ia_vl_same (hE s.1 h2)]; exact h3, h4⟩
end
-- cells
theorem ia_cell_eq {a : Nat} {c : ia_C} (h : ia_cell a = some c) : ∃ k, a = k + 1 ∧ ia_sh[k]? = some c := by
  cases a with
  | zero => cases h
  | succ k => exact ⟨k, rfl, h⟩
section
variable {A : Nat → Nat → Int32} {F : Nat → Int32} {B : Nat → Int64}
theorem ia_of_ok {a ci x : Nat} {d : ia_D} (h : ia_of a ci x = some d) : ∃ k fs, a = k + 1 ∧ ia_sh[k]? = some (.inl (ci, fs)) ∧ fs[x]? = some d ∧ iv_obj (ia_wd A F B) a ci = some (fs.map (ia_fd F)) := by
  unfold ia_of at h
  split at h
  · next c fs e =>
    cases hb : Nat.beq c ci with
    | false => rw [hb] at h; cases h
    | true =>
      rw [hb] at h
      obtain rfl := Nat.eq_of_beq_eq_true hb
      obtain ⟨k, rfl, hk⟩ := ia_cell_eq e
      refine ⟨k, fs, rfl, hk, h, ?_⟩
      unfold iv_obj
      simp only [ia_wd_get, hk, Option.map_some, ia_mk, if_true]
  · cases h
theorem ia_an_ok {a t n : Nat} (h : ia_an a t = some n) : ∃ k, a = k + 1 ∧ ia_sh[k]? = some (.inr (.inl (t, n))) ∧ iv_ai (ia_wd A F B) a t = some (n, A a) := by
  unfold ia_an at h
  split at h
  · next t' n' e =>
    cases hb : Nat.beq t' t with
    | false => rw [hb] at h; cases h
    | true =>
      rw [hb] at h
      cases h
      obtain rfl := Nat.eq_of_beq_eq_true hb
      obtain ⟨k, rfl, hk⟩ := ia_cell_eq e
      refine ⟨k, rfl, hk, ?_⟩
      unfold iv_ai
      simp only [ia_wd_get, hk, Option.map_some, ia_mk, if_true]
  · cases h
end
theorem ia_wi_ok {E : Nat → Int32} {q : ia_I} {r : Int × Int} {x : Int32} (h : ia_wi q r = true) (hq : ia_ii E q x) : r.1 ≤ x.toInt ∧ x.toInt ≤ r.2 := by
  unfold ia_wi at h
  rw [Bool.and_eq_true, decide_eq_true_eq, decide_eq_true_eq] at h
  have := hq.1
  have := hq.2.1
  omega
theorem ia_ra_mono {a i j : Nat} (h : i ≤ j) : (ia_ra a i).1 ≤ (ia_ra a j).1 ∧ (ia_ra a j).2 ≤ (ia_ra a i).2 := by
  unfold ia_ra
  cases h1 : Nat.beq a 52 with
  | false => exact ⟨Int.le_refl _, Int.le_refl _⟩
  | true =>
    obtain rfl := Nat.eq_of_beq_eq_true h1
    have e : ia_gr 52 ia_ral = (0, 31) := by decide +kernel
    rw [e]
    cases h2 : Nat.ble 1 i with
    | true =>
      have : Nat.ble 1 j = true := Nat.ble_eq_true_of_le (Nat.le_trans (Nat.le_of_ble_eq_true h2) h)
      rw [this]
      exact ⟨Int.le_refl _, Int.le_refl _⟩
    | false =>
      cases h3 : Nat.ble 1 j with
      | true => exact ⟨by decide, by decide⟩
      | false => exact ⟨Int.le_refl _, Int.le_refl _⟩
theorem ia_df_a {a j : Nat} (hj : j < 10000) : ia_df (10000 * (a + 1) + j) = ia_ra a j := by
  have h1 : Nat.blt (10000 * (a + 1) + j) 1000 = false := by
    cases h : Nat.blt (10000 * (a + 1) + j) 1000 with
    | false => rfl
    | true => have := ia_blt h; omega
  have h2 : Nat.blt (10000 * (a + 1) + j) 10000 = false := by
    cases h : Nat.blt (10000 * (a + 1) + j) 10000 with
    | false => rfl
    | true => have := ia_blt h; omega
  unfold ia_df
  rw [h1, h2, show (10000 * (a + 1) + j) / 10000 - 1 = a by omega, show (10000 * (a + 1) + j) % 10000 = j by omega]
  rfl
theorem ia_df_f {q : Nat} (hq : q < 9000) : ia_df (1000 + q) = ia_gr q ia_rfl := by
  have h1 : Nat.blt (1000 + q) 1000 = false := by
    cases h : Nat.blt (1000 + q) 1000 with
    | false => rfl
    | true => have := ia_blt h; omega
  have h2 : Nat.blt (1000 + q) 10000 = true := Nat.ble_eq_true_of_le (by omega)
  unfold ia_df
  rw [h1, h2, show 1000 + q - 1000 = q by omega]
  rfl
section
variable {A : Nat → Nat → Int32} {F : Nat → Int32} {br : List Nat}
theorem ia_w_ev (lv : List (Nat × Value)) (g : Nat → Int32) {n : Nat} (h : 1000 ≤ n) : ia_w A F n = ia_ev lv A F g n := by
  unfold ia_ev
  rw [if_neg (by omega), if_neg (by omega)]
theorem ia_inv_F (hi : ia_inv A F br) {q : Nat} {v : Int32} (hq : q < 9000) (h1 : (ia_gr q ia_rfl).1 ≤ v.toInt) (h2 : v.toInt ≤ (ia_gr q ia_rfl).2) : ia_inv A (ia_uF F q v) br := by
  have key : ∀ n, 1000 ≤ n → ia_w A (ia_uF F q v) n = if n = 1000 + q then v else ia_w A F n := fun n hn => by
    rw [ia_w_ev [] F hn, ia_w_ev [] F hn, ia_ev_F hq]
  refine ⟨fun n hn => ?_, fun n h3 h4 h5 => ?_⟩
  · rw [key n hn]
    split
    · next e => subst e; rw [ia_df_f hq]; exact ⟨h1, h2⟩
    · exact hi.1 n hn
  · rw [key n (by omega), key (n + 10000) (by omega), if_neg (by omega), if_neg (by omega)]
    exact hi.2 n h3 h4 h5
theorem ia_w_C {a : Nat} {f : Nat → Int32} {n : Nat} (hn : 1000 ≤ n) : ia_w (ia_uC A a f) F n = if 10000 ≤ n ∧ n / 10000 = a + 1 then f (n % 10000) else ia_w A F n := by
  rw [ia_w_ev [] F hn, ia_w_ev [] F hn, ia_ev_C]
/-- an array changes that belongs to no pair -/
theorem ia_inv_C (hi : ia_inv A F br) {a : Nat} {f : Nat → Int32} (hp : ia_pa a = false) (hf : ∀ j, j < 10000 → (ia_ra a j).1 ≤ (f j).toInt ∧ (f j).toInt ≤ (ia_ra a j).2) : ia_inv (ia_uC A a f) F br := by
  unfold ia_pa at hp
  rw [Bool.or_eq_false_iff, Bool.or_eq_false_iff, Bool.or_eq_false_iff] at hp
  obtain ⟨⟨⟨p1, p2⟩, p3⟩, p4⟩ := hp
  have p1 := ia_bne p1
  have p2 := ia_bne p2
  have p3 := ia_bne p3
  have p4 := ia_bne p4
  refine ⟨fun n hn => ?_, fun n h3 h4 h5 => ?_⟩
  · rw [ia_w_C hn]
    split
    · next e =>
      have h6 : n = 10000 * (a + 1) + n % 10000 := by omega
      rw [h6, ia_df_a (by omega), ← h6]
      exact hf _ (by omega)
    · exact hi.1 n hn
  · rw [ia_w_C (by omega), ia_w_C (by omega), if_neg (by omega), if_neg (by omega)]
    exact hi.2 n h3 h4 h5
end
