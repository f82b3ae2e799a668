/-! arithmetic on ranges; the world; locals -/
theorem ia_bm {n : Int} (h1 : -2147483648 ≤ n) (h2 : n ≤ 2147483647) : n.bmod (2 ^ 32) = n := Int.bmod_eq_of_le (by omega) (by omega)
theorem ia_fit_ok {lo hi' : Int} (h : ia_fit lo hi' = true) : -2147483648 ≤ lo ∧ hi' ≤ 2147483647 := by
  unfold ia_fit at h
  rw [Bool.and_eq_true, decide_eq_true_eq, decide_eq_true_eq] at h
  exact h
theorem ia_top_ok {E : Nat → Int32} (x : Int32) : ia_ii E ia_top x := ⟨ia_lo x, ia_hi x, fun _ h => (by cases h), fun _ h => (by cases h)⟩
theorem ia_k_ok {E : Nat → Int32} {x : Int32} {n : Int} (h : x.toInt = n) : ia_ii E (ia_k n) x := ⟨by rw [h]; exact Int.le_refl _, by rw [h]; exact Int.le_refl _, fun _ h => (by cases h), fun _ h => (by cases h)⟩
def ia_pr (E : Nat → Int32) : Prop := ∀ n, (n / 10000 = 9 ∨ n / 10000 = 50) → n % 10000 < 4 → (E n).toInt + (E (n + 10000)).toInt ≤ 40
theorem ia_pr_ev {lv : List (Nat × Value)} {A : Nat → Nat → Int32} {F g : Nat → Int32} (h : ia_inv A F []) : ia_pr (ia_ev lv A F g) := fun n h1 h2 => by
  have e1 : ia_ev lv A F g n = ia_w A F n := by unfold ia_ev; rw [if_neg (by omega), if_neg (by omega)]
  have e2 : ia_ev lv A F g (n + 10000) = ia_w A F (n + 10000) := by unfold ia_ev; rw [if_neg (by omega), if_neg (by omega)]
  rw [e1, e2]
  exact h.2 n h1 h2 (by simp)
theorem ia_fold {α : Type} {P : Int → Prop} {f : Int → α → Int} : ∀ (l : List α) (h : Int), P h → (∀ t ∈ l, ∀ h, P h → P (f h t)) → P (l.foldl f h)
  | [], _, h, _ => h
  | t :: r, h, hp, hf => ia_fold r (f h t) (hf t List.mem_cons_self h hp) (fun s hs => hf s (List.mem_cons_of_mem _ hs))
theorem ia_rb_ok {E : Nat → Int32} (hp : ia_pr E) {x y : ia_I} {a b : Int32} (hx : ia_ii E x a) (hy : ia_ii E y b) {h : Int} (hh : a.toInt + b.toInt ≤ h) : a.toInt + b.toInt ≤ ia_rb x y h := by
  unfold ia_rb
  refine ia_fold (P := fun q => a.toInt + b.toInt ≤ q) _ _ hh (fun t ht h1 q1 => ?_)
  cases hb : ((Nat.beq (t.1 / 10000) 9 || Nat.beq (t.1 / 10000) 50) && Nat.blt (t.1 % 10000) 4) with
  | false => exact q1
  | true =>
    rw [Bool.and_eq_true, Bool.or_eq_true] at hb
    refine ia_fold (P := fun q => a.toInt + b.toInt ≤ q) _ _ q1 (fun s hs h2 q2 => ?_)
    cases hc : Nat.beq s.1 (t.1 + 10000) with
    | false => exact q2
    | true =>
      have e1 := ia_bnd hx ht
      have e2 := ia_bnd hy hs
      rw [Nat.eq_of_beq_eq_true hc] at e2
      have e3 := hp t.1 (by rcases hb.1 with q | q <;> have := Nat.eq_of_beq_eq_true q <;> omega) (Nat.le_of_ble_eq_true hb.2)
      show a.toInt + b.toInt ≤ min h2 (40 + t.2 + s.2)
      omega
theorem ia_sh1_es {E : Nat → Int32} {ts : ia_T} {d x y : Int} (h : ∀ t ∈ ts, x = (E t.1).toInt + t.2) (e : y = x + d) : ∀ t ∈ ia_sh1 ts d, y = (E t.1).toInt + t.2 := fun t ht => by
  obtain ⟨s, hs, rfl⟩ := List.mem_map.mp ht
  have := h s hs
  dsimp only
  omega
theorem ia_sh1_us {E : Nat → Int32} {ts : ia_T} {d x y : Int} (h : ∀ t ∈ ts, x ≤ (E t.1).toInt + t.2) (e : y = x + d) : ∀ t ∈ ia_sh1 ts d, y ≤ (E t.1).toInt + t.2 := fun t ht => by
  obtain ⟨s, hs, rfl⟩ := List.mem_map.mp ht
  have := h s hs
  dsimp only
  omega
theorem ia_nil {E : Nat → Int32} {lo hi' : Int} {x : Int32} (h1 : lo ≤ x.toInt) (h2 : x.toInt ≤ hi') : ia_ii E ⟨lo, hi', [], []⟩ x := ⟨h1, h2, fun _ h => (by cases h), fun _ h => (by cases h)⟩
theorem ia_add_ok {E : Nat → Int32} {br : List Nat} (hp : br.isEmpty = true → ia_pr E) {x y : ia_I} {a b : Int32} (hx : ia_ii E x a) (hy : ia_ii E y b) : ia_ii E (ia_add br x y) (a + b) := by
  unfold ia_add
  cases hf : ia_fit (x.1 + y.1) (x.2.1 + y.2.1) with
  | false => exact ia_top_ok _
  | true =>
    have p1 := hx.1
    have p2 := hx.2.1
    have p3 := hy.1
    have p4 := hy.2.1
    have f := ia_fit_ok hf
    have e : (a + b).toInt = a.toInt + b.toInt := by rw [Int32.toInt_add, ia_bm (by omega) (by omega)]
    have hh : a.toInt + b.toInt ≤ (bif br.isEmpty then ia_rb x y (x.2.1 + y.2.1) else x.2.1 + y.2.1) := by
      cases hb : br.isEmpty with
      | true => exact ia_rb_ok (hp hb) hx hy (by omega)
      | false => show _ ≤ x.2.1 + y.2.1; omega
    dsimp only [cond_true]
    by_cases e1 : y.1 = y.2.1
    · rw [decide_eq_true e1]
      exact ⟨by rw [e]; show x.1 + y.1 ≤ _; omega, by rw [e]; exact hh, ia_sh1_es hx.2.2.1 (by omega), ia_sh1_us hx.2.2.2 (by omega)⟩
    · rw [decide_eq_false e1]
      by_cases e2 : x.1 = x.2.1
      · rw [decide_eq_true e2]
        exact ⟨by rw [e]; show x.1 + y.1 ≤ _; omega, by rw [e]; exact hh, ia_sh1_es hy.2.2.1 (by omega), ia_sh1_us hy.2.2.2 (by omega)⟩
      · rw [decide_eq_false e2]
        exact ia_nil (by omega) (by rw [e]; exact hh)
theorem ia_sub_ok {E : Nat → Int32} {x y : ia_I} {a b : Int32} (hx : ia_ii E x a) (hy : ia_ii E y b) : ia_ii E (ia_sub x y) (a - b) := by
  unfold ia_sub
  cases hf : ia_fit (x.1 - y.2.1) (x.2.1 - y.1) with
  | false => exact ia_top_ok _
  | true =>
    have p1 := hx.1
    have p2 := hx.2.1
    have p3 := hy.1
    have p4 := hy.2.1
    have f := ia_fit_ok hf
    have e : (a - b).toInt = a.toInt - b.toInt := by rw [Int32.toInt_sub, ia_bm (by omega) (by omega)]
    dsimp only [cond_true]
    by_cases e1 : y.1 = y.2.1
    · rw [decide_eq_true e1]
      exact ⟨by rw [e]; show x.1 - y.2.1 ≤ _; omega, by rw [e]; show _ ≤ x.2.1 - y.1; omega, ia_sh1_es hx.2.2.1 (by omega), ia_sh1_us hx.2.2.2 (by omega)⟩
    · rw [decide_eq_false e1]
      exact ia_nil (by omega) (by omega)
theorem ia_mul1 {E : Nat → Int32} {k lo hi' : Int} {a b : Int32} (hk : 0 ≤ k) (h1 : lo ≤ b.toInt) (h2 : b.toInt ≤ hi') (hf : ia_fit (k * lo) (k * hi') = true) (ha : a.toInt = k) : ia_ii E ⟨k * lo, k * hi', [], []⟩ (a * b) := by
  have m1 := Int.mul_le_mul_of_nonneg_left h1 hk
  have m2 := Int.mul_le_mul_of_nonneg_left h2 hk
  have f := ia_fit_ok hf
  have e : (a * b).toInt = k * b.toInt := by rw [Int32.toInt_mul, ha, ia_bm (by omega) (by omega)]
  exact ia_nil (by omega) (by omega)
theorem ia_mul_ok {E : Nat → Int32} {x y : ia_I} {a b : Int32} (hx : ia_ii E x a) (hy : ia_ii E y b) : ia_ii E (ia_mul x y) (a * b) := by
  unfold ia_mul
  have p1 := hx.1
  have p2 := hx.2.1
  have p3 := hy.1
  have p4 := hy.2.1
  cases h1 : (decide (x.1 = x.2.1) && decide (0 ≤ x.1)) with
  | true =>
    rw [Bool.and_eq_true, decide_eq_true_eq, decide_eq_true_eq] at h1
    dsimp only [cond_true]
    cases hf : ia_fit (x.1 * y.1) (x.1 * y.2.1) with
    | true => exact ia_mul1 h1.2 p3 p4 hf (by omega)
    | false => exact ia_top_ok _
  | false =>
    dsimp only [cond_false]
    cases h2 : (decide (y.1 = y.2.1) && decide (0 ≤ y.1)) with
    | true =>
      rw [Bool.and_eq_true, decide_eq_true_eq, decide_eq_true_eq] at h2
      dsimp only [cond_true]
      cases hf : ia_fit (y.1 * x.1) (y.1 * x.2.1) with
      | true =>
        rw [Int32.mul_comm]
        exact ia_mul1 h2.2 p1 p2 hf (by omega)
      | false => exact ia_top_ok _
    | false => exact ia_top_ok _
theorem ia_and_b (a b : Int32) (h : 0 ≤ b.toInt) : 0 ≤ (a &&& b).toInt ∧ (a &&& b).toInt ≤ b.toInt := by
  have hb : b.toBitVec.msb = false := by
    rw [BitVec.msb_eq_toInt]
    exact decide_eq_false (by show ¬ b.toInt < 0; omega)
  have h1 : (a &&& b).toInt = (((a.toBitVec &&& b.toBitVec).toNat : Nat) : Int) := by
    show (a.toBitVec &&& b.toBitVec).toInt = _
    rw [BitVec.toInt_eq_toNat_of_msb (by rw [BitVec.msb_and, hb, Bool.and_false])]
  have h2 : b.toInt = ((b.toBitVec.toNat : Nat) : Int) := by
    show b.toBitVec.toInt = _
    rw [BitVec.toInt_eq_toNat_of_msb hb]
  rw [h1, h2, BitVec.toNat_and]
  have : a.toBitVec.toNat &&& b.toBitVec.toNat ≤ b.toBitVec.toNat := Nat.and_le_right
  omega
theorem ia_and_ok {E : Nat → Int32} {y : ia_I} {a b : Int32} (hy : ia_ii E y b) : ia_ii E (ia_and y) (a &&& b) := by
  unfold ia_and
  have p3 := hy.1
  have p4 := hy.2.1
  cases h1 : (decide (y.1 = y.2.1) && decide (0 ≤ y.1)) with
  | true =>
    rw [Bool.and_eq_true, decide_eq_true_eq, decide_eq_true_eq] at h1
    have := ia_and_b a b (by omega)
    exact ia_nil this.1 (by omega)
  | false => exact ia_top_ok _
theorem ia_div_e {a b : Int32} (ha : 0 ≤ a.toInt) (hb : 0 < b.toInt) : (a / b).toInt = a.toInt / b.toInt := by
  rw [Int32.toInt_div, Int.tdiv_eq_ediv_of_nonneg ha]
  have h1 : a.toInt / b.toInt ≤ a.toInt := Int.ediv_le_self _ ha
  have h2 : 0 ≤ a.toInt / b.toInt := Int.ediv_nonneg ha (by omega)
  have := ia_hi a
  exact ia_bm (by omega) (by omega)
theorem ia_div_ok {E : Nat → Int32} {x y : ia_I} {a b : Int32} (hx : ia_ii E x a) (hy : ia_ii E y b) {q : ia_I} (h : ia_div x y = some q) : ¬ b = 0 ∧ ia_ii E q (a / b) := by
  unfold ia_div at h
  have p1 := hx.1
  have p2 := hx.2.1
  have p3 := hy.1
  have p4 := hy.2.1
  cases h1 : (decide (y.1 = y.2.1) && decide (0 < y.1)) with
  | false => rw [h1] at h; cases h
  | true =>
    rw [h1] at h
    rw [Bool.and_eq_true, decide_eq_true_eq, decide_eq_true_eq] at h1
    have hb : b.toInt = y.1 := by omega
    refine ⟨fun e => by subst e; have : (0 : Int32).toInt = 0 := rfl; omega, ?_⟩
    dsimp only [cond_true] at h
    by_cases h2 : 0 ≤ x.1
    · rw [decide_eq_true h2] at h
      cases h
      have e := ia_div_e (a := a) (b := b) (by omega) (by omega)
      rw [hb] at e
      exact ia_nil (by rw [e]; exact Int.ediv_le_ediv h1.2 p1) (by rw [e]; exact Int.ediv_le_ediv h1.2 p2)
    · rw [decide_eq_false h2] at h
      cases h
      exact ia_top_ok _
theorem ia_rem_ok {E : Nat → Int32} {x y : ia_I} {a b : Int32} (hx : ia_ii E x a) (hy : ia_ii E y b) {q : ia_I} (h : ia_rem x y = some q) : ¬ b = 0 ∧ ia_ii E q (a - a / b * b) := by
  unfold ia_rem at h
  have p1 := hx.1
  have p2 := hx.2.1
  have p3 := hy.1
  have p4 := hy.2.1
  cases h1 : (decide (y.1 = y.2.1) && decide (0 < y.1)) with
  | false => rw [h1] at h; cases h
  | true =>
    rw [h1] at h
    rw [Bool.and_eq_true, decide_eq_true_eq, decide_eq_true_eq] at h1
    have hb : b.toInt = y.1 := by omega
    refine ⟨fun e => by subst e; have : (0 : Int32).toInt = 0 := rfl; omega, ?_⟩
    dsimp only [cond_true] at h
    by_cases h2 : 0 ≤ x.1
    · rw [decide_eq_true h2] at h
      cases h
      have ha : 0 ≤ a.toInt := by omega
      have hb0 : 0 < b.toInt := by omega
      have e := ia_div_e ha hb0
      have m1 := Int.emod_nonneg a.toInt (show b.toInt ≠ 0 by omega)
      have m2 := Int.emod_lt_of_pos a.toInt hb0
      have m3 := Int.mul_ediv_add_emod a.toInt b.toInt
      have m4 : a.toInt / b.toInt * b.toInt = b.toInt * (a.toInt / b.toInt) := Int.mul_comm _ _
      have m5 : 0 ≤ a.toInt / b.toInt * b.toInt := Int.mul_nonneg (Int.ediv_nonneg ha (by omega)) (by omega)
      have := ia_hi a
      have e2 : (a / b * b).toInt = a.toInt / b.toInt * b.toInt := by
        rw [Int32.toInt_mul, e]
        exact ia_bm (by omega) (by omega)
      have e3 : (a - a / b * b).toInt = a.toInt % b.toInt := by
        rw [Int32.toInt_sub, e2, show a.toInt - a.toInt / b.toInt * b.toInt = a.toInt % b.toInt by omega]
        exact ia_bm (by omega) (by rw [e] at *; omega)
      exact ia_nil (by rw [e3]; exact m1) (by rw [e3]; omega)
    · rw [decide_eq_false h2] at h
      cases h
      exact ia_top_ok _
-- the world
section
variable {A A' : Nat → Nat → Int32} {F F' g : Nat → Int32} {B B' : Nat → Int64}
theorem ia_mp_get : ∀ (l : List ia_C) (k i : Nat), (ia_mp A F B k l)[i]? = (l[i]?).map (ia_mk A F B (k + i))
  | [], _, _ => by simp [ia_mp]
  | c :: r, k, 0 => by simp [ia_mp]
  | c :: r, k, i + 1 => by
    simp only [ia_mp, List.getElem?_cons_succ]
    rw [ia_mp_get r (k + 1) i, show k + 1 + i = k + (i + 1) by omega]
theorem ia_wd_get (i : Nat) : (ia_wd A F B)[i]? = (ia_sh[i]?).map (ia_mk A F B i) := by
  unfold ia_wd
  rw [ia_mp_get, Nat.zero_add]
theorem ia_wd_set {k : Nat} {c : ia_C} (hc : ia_sh[k]? = some c) (ho : ∀ i c', i ≠ k → ia_sh[i]? = some c' → ia_mk A' F' B' i c' = ia_mk A F B i c') : (ia_wd A F B).set k (ia_mk A' F' B' k c) = ia_wd A' F' B' := by
  apply List.ext_getElem?
  intro i
  rw [List.getElem?_set, ia_wd_get, ia_wd_get]
  by_cases h : k = i
  · subst h
    have hl : k < (ia_wd A F B).length := by
      have : (ia_wd A F B)[k]? = some (ia_mk A F B k c) := by rw [ia_wd_get, hc]; rfl
      exact (List.getElem?_eq_some_iff.mp this).1
    simp only [if_true, hl, hc, Option.map_some]
  · rw [if_neg h]
    cases hs : ia_sh[i]? with
    | none => rfl
    | some c' =>
      simp only [Option.map_some]
      rw [ho i c' (fun e => h e.symm) hs]
def ia_uA (A : Nat → Nat → Int32) (a j : Nat) (v : Int32) : Nat → Nat → Int32 := fun b => if b = a then upd (A a) j v else A b
def ia_uF (F : Nat → Int32) (q : Nat) (v : Int32) : Nat → Int32 := fun p => if p = q then v else F p
def ia_uC (A : Nat → Nat → Int32) (a : Nat) (f : Nat → Int32) : Nat → Nat → Int32 := fun b => if b = a then f else A b
theorem ia_set_arr {k t n : Nat} {f : Nat → Int32} (hc : ia_sh[k]? = some (.inr (.inl (t, n)))) : (ia_wd A F B).set k (.inl (t, n, .inl f)) = ia_wd (ia_uC A (k + 1) f) F B := by
  have e : (.inl (t, n, .inl f) : iv_E) = ia_mk (ia_uC A (k + 1) f) F B k (.inr (.inl (t, n))) := by
    simp only [ia_mk, ia_uC, if_true]
  rw [e]
  refine ia_wd_set hc (fun i c' hi hs => ?_)
  cases c' using ia_Cc with
  | a t2 n2 =>
    simp only [ia_mk, ia_uC]
    rw [if_neg (by omega)]
  | o _ _ => rfl
  | q _ _ => rfl
  | l _ => rfl
theorem ia_uA_uC (a j : Nat) (v : Int32) : ia_uC A a (upd (A a) j v) = ia_uA A a j v := rfl
def ia_ck1 (k : Nat) : Nat → List ia_D → Bool
  | _, [] => true
  | j, .inl q :: r => Nat.beq q (100 * (k + 1) + j) && ia_ck1 k (j + 1) r
  | j, .inr _ :: r => ia_ck1 k (j + 1) r
def ia_ck : Nat → List ia_C → Bool
  | _, [] => true
  | k, .inl (_, fs) :: r => decide (fs.length < 100) && ia_ck1 k 0 fs && ia_ck (k + 1) r
  | k, _ :: r => ia_ck (k + 1) r
theorem ia_ck1_ok {k : Nat} : ∀ (fs : List ia_D) (j0 : Nat), ia_ck1 k j0 fs = true → ∀ j q, fs[j]? = some (.inl q) → q = 100 * (k + 1) + (j0 + j)
  | [], _, _, j, q, h => by simp at h
  | .inl p :: r, j0, hc, j, q, h => by
    unfold ia_ck1 at hc
    rw [Bool.and_eq_true] at hc
    cases j with
    | zero => simp at h; subst h; rw [Nat.eq_of_beq_eq_true hc.1]; omega
    | succ j => simp at h; rw [ia_ck1_ok r (j0 + 1) hc.2 j q h]; omega
  | .inr p :: r, j0, hc, j, q, h => by
    unfold ia_ck1 at hc
    cases j with
    | zero => simp at h
    | succ j => simp at h; rw [ia_ck1_ok r (j0 + 1) hc j q h]; omega
theorem ia_ck_ok : ∀ (l : List ia_C) (k0 : Nat), ia_ck k0 l = true → ∀ k ci fs, l[k]? = some (.inl (ci, fs)) → fs.length < 100 ∧ ∀ j q, fs[j]? = some (.inl q) → q = 100 * (k0 + k + 1) + j
  | [], _, _, k, ci, fs, h => by simp at h
  | c :: r, k0, hc, k, ci, fs, h => by
    cases k with
    | zero =>
      simp at h
      subst h
      unfold ia_ck at hc
      rw [Bool.and_eq_true, Bool.and_eq_true, decide_eq_true_eq] at hc
      refine ⟨hc.1.1, fun j q hj => ?_⟩
      rw [ia_ck1_ok fs 0 hc.1.2 j q hj]
      omega
    | succ k =>
      simp at h
      have h2 : ia_ck (k0 + 1) r = true := by
        cases c using ia_Cc with
        | o _ _ => unfold ia_ck at hc; rw [Bool.and_eq_true] at hc; exact hc.2
        | _ => exact hc
      have := ia_ck_ok r (k0 + 1) h2 k ci fs h
      refine ⟨this.1, fun j q hj => ?_⟩
      rw [this.2 j q hj]
      omega
theorem ia_sh_ck : ia_ck 0 ia_sh = true := by decide +kernel
theorem ia_sh_f {k ci : Nat} {fs : List ia_D} (h : ia_sh[k]? = some (.inl (ci, fs))) : fs.length < 100 ∧ ∀ j q, fs[j]? = some (.inl q) → q = 100 * (k + 1) + j := by
  have := ia_ck_ok ia_sh 0 ia_sh_ck k ci fs h
  rw [Nat.zero_add] at this
  exact this
theorem ia_fd_ne {q : Nat} {v : Int32} {fs : List ia_D} (h : ∀ j p : Nat, fs[j]? = some (Sum.inl p : ia_D) → p ≠ q) : fs.map (ia_fd (ia_uF F q v)) = fs.map (ia_fd F) := by
  apply List.map_congr_left
  intro d hd
  cases d using ia_Dc with
  | f p =>
    obtain ⟨j, hj⟩ := List.getElem?_of_mem hd
    simp only [ia_fd, ia_uF]
    rw [if_neg (h j p hj)]
  | r _ => rfl
theorem ia_set_fld {k ci x q : Nat} {fs : List ia_D} {v : Int32} (hc : ia_sh[k]? = some (.inl (ci, fs))) (hx : fs[x]? = some (.inl q)) : (ia_wd A F B).set k (.inr (ci, (fs.map (ia_fd F)).set x (.int v))) = ia_wd A (ia_uF F q v) B := by
  have hk := ia_sh_f hc
  have hq := hk.2 x q hx
  have hxl : x < fs.length := (List.getElem?_eq_some_iff.mp hx).1
  have e : (.inr (ci, (fs.map (ia_fd F)).set x (.int v)) : iv_E) = ia_mk A (ia_uF F q v) B k (.inl (ci, fs)) := by
    simp only [ia_mk]
    congr 2
    apply List.ext_getElem?
    intro j
    rw [List.getElem?_set, List.getElem?_map, List.getElem?_map]
    by_cases h : x = j
    · subst h
      rw [if_pos rfl, hx, Option.map_some, if_pos (by rw [List.length_map]; exact hxl)]
      simp only [ia_fd, ia_uF, if_true]
    · rw [if_neg h]
      cases hj : fs[j]? with
      | none => rfl
      | some d =>
        cases d using ia_Dc with
        | r _ => rfl
        | f p =>
          have := hk.2 j p hj
          simp only [Option.map_some, ia_fd, ia_uF]
          rw [if_neg (by omega)]
  rw [e]
  refine ia_wd_set hc (fun i c' hi hs => ?_)
  cases c' using ia_Cc with
  | o ci2 fs2 =>
    have hk2 := ia_sh_f hs
    simp only [ia_mk]
    rw [ia_fd_ne (fun j p hj => by
      have h1 := hk2.2 j p hj
      have h2 : j < fs2.length := (List.getElem?_eq_some_iff.mp hj).1
      have := hk.1
      have := hk2.1
      omega)]
  | a _ _ => rfl
  | q _ _ => rfl
  | l _ => rfl
theorem ia_ev_F {lv : List (Nat × Value)} {q : Nat} {v : Int32} (hq : q < 9000) (n : Nat) : ia_ev lv A (ia_uF F q v) g n = if n = 1000 + q then v else ia_ev lv A F g n := by
  unfold ia_ev ia_w ia_uF
  by_cases h : n = 1000 + q
  · subst h
    rw [if_neg (by omega), if_neg (by omega), if_pos (by omega), if_pos (by omega), if_pos rfl]
  · rw [if_neg h]
    by_cases h1 : n < 100
    · rw [if_pos h1, if_pos h1]
    · rw [if_neg h1, if_neg h1]
      by_cases h2 : n < 1000
      · rw [if_pos h2, if_pos h2]
      · rw [if_neg h2, if_neg h2]
        by_cases h3 : n < 10000
        · rw [if_pos h3, if_pos h3, if_neg (by omega)]
        · rw [if_neg h3, if_neg h3]
theorem ia_ev_C {lv : List (Nat × Value)} {a : Nat} {f : Nat → Int32} (n : Nat) : ia_ev lv (ia_uC A a f) F g n = if 10000 ≤ n ∧ n / 10000 = a + 1 then f (n % 10000) else ia_ev lv A F g n := by
  unfold ia_ev ia_w ia_uC
  by_cases h : 10000 ≤ n ∧ n / 10000 = a + 1
  · rw [if_pos h, if_neg (by omega), if_neg (by omega), if_neg (by omega), if_pos (by omega)]
  · rw [if_neg h]
    by_cases h1 : n < 100
    · rw [if_pos h1, if_pos h1]
    · rw [if_neg h1, if_neg h1]
      by_cases h2 : n < 1000
      · rw [if_pos h2, if_pos h2]
      · rw [if_neg h2, if_neg h2]
        by_cases h3 : n < 10000
        · rw [if_pos h3, if_pos h3]
        · rw [if_neg h3, if_neg h3, if_neg (by omega)]
end
-- locals
theorem ia_ld_st1 {k i : Nat} {u v : Value} (hik : i ≠ k) (h2 : ¬ (i + 1 = k ∧ v.category = 2)) : ∀ {lv : List (Nat × Value)}, iv_ld lv i = some v → iv_ld (lv.filter (fun q => !(q.1 == k) && !(q.1 + 1 == k && q.2.category == 2))) i = some v
  | [], h => by cases h
  | q :: r, h => by
    unfold iv_ld at h
    by_cases e : q.1 = i
    · rw [if_pos e] at h
      cases h
      rw [List.filter_cons_of_pos]
      · unfold iv_ld
        rw [if_pos e]
      · simp only [Bool.and_eq_true, Bool.not_eq_true', beq_eq_false_iff_ne, Bool.and_eq_false_iff, ne_eq]
        refine ⟨by omega, ?_⟩
        by_cases e3 : q.1 + 1 = k
        · right
          exact fun e4 => h2 ⟨by omega, e4⟩
        · left
          exact e3
    · rw [if_neg e] at h
      have := ia_ld_st1 (k := k) (u := u) hik h2 h
      rw [List.filter_cons]
      split
      · unfold iv_ld
        rw [if_neg e]
        exact this
      · exact this
theorem ia_ld_st2 {k i : Nat} {v : Value} (hik : i ≠ k) (hik1 : i ≠ k + 1) (h2 : ¬ (i + 1 = k ∧ v.category = 2)) : ∀ {lv : List (Nat × Value)}, iv_ld lv i = some v → iv_ld (lv.filter (fun q => !(q.1 == k) && (!(q.1 == k + 1) && !(q.1 + 1 == k && q.2.category == 2)))) i = some v
  | [], h => by cases h
  | q :: r, h => by
    unfold iv_ld at h
    by_cases e : q.1 = i
    · rw [if_pos e] at h
      cases h
      rw [List.filter_cons_of_pos]
      · unfold iv_ld
        rw [if_pos e]
      · simp only [Bool.and_eq_true, Bool.not_eq_true', beq_eq_false_iff_ne, Bool.and_eq_false_iff, ne_eq]
        refine ⟨by omega, by omega, ?_⟩
        by_cases e3 : q.1 + 1 = k
        · right
          exact fun e4 => h2 ⟨by omega, e4⟩
        · left
          exact e3
    · rw [if_neg e] at h
      have := ia_ld_st2 (k := k) hik hik1 h2 h
      rw [List.filter_cons]
      split
      · unfold iv_ld
        rw [if_neg e]
        exact this
      · exact this
