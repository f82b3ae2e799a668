/-! the beginning keeps to the ranges -/
def id_cz (l : List (Nat × Int × Int)) : Bool := l.all (fun q => decide (q.2.1 ≤ 0) && decide (2 ≤ q.2.2 ∨ (0 ≤ q.2.2 ∧ ¬ q.1 = 204 ∧ ¬ q.1 = 4406)))
theorem id_gr0 {n : Nat} : ∀ {l : List (Nat × Int × Int)}, id_cz l = true → (ia_gr n l).1 ≤ 0 ∧ 0 ≤ (ia_gr n l).2 ∧ ((n = 204 ∨ n = 4406) → 2 ≤ (ia_gr n l).2)
  | [], _ => by
    show (-2147483648 : Int) ≤ 0 ∧ (0 : Int) ≤ 2147483647 ∧ _
    refine ⟨by decide, by decide, fun _ => ?_⟩
    show (2 : Int) ≤ 2147483647
    decide
  | q :: r, h => by
    unfold id_cz at h
    rw [List.all_cons, Bool.and_eq_true, Bool.and_eq_true, decide_eq_true_eq, decide_eq_true_eq] at h
    unfold ia_gr
    cases hb : Nat.beq q.1 n with
    | true =>
      have e := Nat.eq_of_beq_eq_true hb
      show q.2.1 ≤ 0 ∧ 0 ≤ q.2.2 ∧ ((n = 204 ∨ n = 4406) → 2 ≤ q.2.2)
      refine ⟨h.1.1, by omega, fun h2 => by omega⟩
    | false => exact id_gr0 (l := r) h.2
theorem id_inv0 : ia_inv iv_Az iv_Fz [] := by
  have hz : ∀ n, 10000 ≤ n → (ia_w iv_Az iv_Fz n).toInt = 0 ∨ ((ia_w iv_Az iv_Fz n).toInt = 255 ∧ (n / 10000 - 1 = 4 ∨ n / 10000 - 1 = 46)) := fun n hn => by
    unfold ia_w
    rw [if_neg (by omega)]
    unfold iv_Az
    by_cases h : n / 10000 - 1 = 4 ∨ n / 10000 - 1 = 46
    · rw [if_pos h]
      unfold upd
      by_cases h2 : n % 10000 = 2
      · rw [if_pos h2]
        exact Or.inr ⟨rfl, h⟩
      · rw [if_neg h2]
        exact Or.inl rfl
    · rw [if_neg h]
      exact Or.inl rfl
  refine ⟨fun n hn => ?_, fun n h1 h2 h3 => ?_⟩
  · by_cases h : n < 10000
    · have e2 : ia_df n = ia_gr (n - 1000) ia_rfl := by
        have := ia_df_f (q := n - 1000) (by omega)
        rwa [show 1000 + (n - 1000) = n by omega] at this
      have k := id_gr0 (n := n - 1000) (l := ia_rfl) (by decide +kernel)
      rw [e2]
      unfold ia_w
      rw [if_pos h]
      unfold iv_Fz
      by_cases h2 : n - 1000 = 204 ∨ n - 1000 = 4406
      · rw [if_pos h2]
        have := k.2.2 h2
        have e3 : (2 : Int32).toInt = 2 := rfl
        omega
      · rw [if_neg h2]
        have e3 : (0 : Int32).toInt = 0 := rfl
        omega
    · have e : n = 10000 * (n / 10000 - 1 + 1) + n % 10000 := by omega
      have e2 : ia_df n = ia_ra (n / 10000 - 1) (n % 10000) := by
        conv => lhs; rw [e]
        rw [ia_df_a (by omega)]
      rw [e2]
      have k : (ia_ra (n / 10000 - 1) (n % 10000)).1 ≤ 0 ∧ 0 ≤ (ia_ra (n / 10000 - 1) (n % 10000)).2 := by
        unfold ia_ra
        cases hb : (Nat.beq (n / 10000 - 1) 52 && Nat.ble 1 (n % 10000)) with
        | true =>
          show (0 : Int) ≤ 0 ∧ (0 : Int) ≤ 7
          decide
        | false =>
          have := id_gr0 (n := n / 10000 - 1) (l := ia_ral) (by decide +kernel)
          exact ⟨this.1, this.2.1⟩
      rcases hz n (by omega) with q | ⟨q, q2⟩
      · omega
      · rcases q2 with q2 | q2
        · rw [q2, id_ra4, q]
          exact ⟨by decide, by decide⟩
        · rw [q2, id_ra46, q]
          exact ⟨by decide, by decide⟩
  · rcases hz n (by omega) with q | q <;> rcases hz (n + 10000) (by omega) with r | r <;> omega
