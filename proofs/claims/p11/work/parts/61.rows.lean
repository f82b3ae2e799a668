/-! small things for the checks -/
theorem ic_incs : (List.range 193).all (fun μ => ib_inc (iv_t μ) 0) = true := by decide +kernel
theorem ic_inc {μ : Nat} (h : Nat.blt μ 193 = true) : ia_inc (iv_t μ) = true := ib_inc_ok (List.all_eq_true.mp ic_incs μ (List.mem_range.mpr (ia_blt h)))
theorem ic_n : ∀ Q ∈ ([] : List ia_M), ia_Holds Q := fun _ h => by cases h
theorem ic_c {M : ia_M} {l : List ia_M} (h : ia_Holds M) (t : ∀ Q ∈ l, ia_Holds Q) : ∀ Q ∈ M :: l, ia_Holds Q := fun Q hQ => by
  rcases List.mem_cons.mp hQ with rfl | hQ
  · exact h
  · exact t Q hQ
theorem ic_ck {α : Type} {p : α → Bool} {k : Nat} : ∀ (n : Nat) (l : List α), l.length ≤ k * n → (∀ j, j < n → ((l.drop (k * j)).take k).all p = true) → l.all p = true
  | 0, l, h, _ => by
    have : l = [] := List.length_eq_zero_iff.mp (by omega)
    rw [this]
    rfl
  | n + 1, l, h, hj => by
    have h0 := hj 0 (by omega)
    rw [Nat.mul_zero, List.drop_zero] at h0
    have h2 : l.length ≤ k * n + k := by rw [Nat.mul_succ] at h; exact h
    have h1 := ic_ck (p := p) (k := k) n (l.drop k) (by rw [List.length_drop]; omega) (fun j hj2 => by
      have := hj (j + 1) (by omega)
      rw [List.drop_drop]
      rwa [show k * (j + 1) = k + k * j by rw [Nat.mul_succ]; omega] at this)
    rw [← List.take_append_drop k l, List.all_append, h0, h1]
    rfl
