/-! a run of the machine: fuel, depth of calls left, method, pc, locals, stack, world, whether every new cell is the world's, cells and slots made -/
abbrev iv_O : Type := (Option Value ⊕ Nat) × iv_W × Bool × Nat × Nat
def iv_kd (i : Instr) (x : Nat) : Nat := match i with
  | .ireturn | .areturn | .return_ => 1
  | .new _ => if 1000 ≤ x then 2 else 3
  | .newarray _ | .anewarray _ => 3
  | .invokevirtual _ | .invokestatic _ | .invokespecial _ => if 6000 ≤ x then 4 else 5
  | _ => 0
def iv_ret (ret : Option FieldType) (i : Instr) (st : List Value) : Option (Option Value) := match i, ret, st with
  | .return_, none, [] => some none
  | .ireturn, some .int, [.int v] => some (some (.int v))
  | .ireturn, some .boolean, [.int v] => if v = 0 ∨ v = 1 then some (some (.int v)) else none
  | .areturn, some (.object _), [.ref a] => some (some (.ref a))
  | .areturn, some (.array _), [.ref a] => some (some (.ref a))
  | _, _, _ => none
/-- a new cell: its picture, the stack below, its slots, the instruction's length -/
def iv_new (i : Instr) (x : Nat) (st : List Value) : Option (iv_E × List Value × Nat × Nat) := match i with
  | .new _ => some (.inr (x, iv_f0 x), st, iv_N x, 3)
  | .newarray t => match iv_p1 st with
    | some (n, r) => if n < 0 ∨ 100000 < n.toNatClampNeg then none else (match t with
      | .int => some (.inl (0, n.toNatClampNeg, .inl (fun _ => 0)), r, n.toNatClampNeg, 2)
      | .boolean => some (.inl (1, n.toNatClampNeg, .inl (fun _ => 0)), r, n.toNatClampNeg, 2)
      | .long => some (.inl (2, n.toNatClampNeg, .inr (.inl (fun _ => 0))), r, n.toNatClampNeg, 2)
      | _ => none)
    | none => none
  | .anewarray _ => match iv_p1 st with
    | some (n, r) => if n < 0 ∨ 100000 < n.toNatClampNeg then none else some (.inl (3, n.toNatClampNeg, .inr (.inr (.inr (.inr (fun _ => none))))), r, n.toNatClampNeg, 3)
    | none => none
  | _ => none
def iv_cp (st : List Value) : Option (Int32 × Int32 × Nat × Int32 × Nat × List Value) := match st with
  | .int n :: .int dp :: .ref a :: .int sp :: .ref a0 :: r => some (n, dp, a, sp, a0, r)
  | _ => none
/-- Object's constructor (6000), Math.max (7000), Math.min (8000), System.arraycopy of ints (9000) -/
def iv_lib (x : Nat) (st : List Value) (w : iv_W) : Option (List Value × iv_W) := match x with
  | 6000 => match iv_pr st with
    | some (a, r) => if (r.map fun v => v.category).sum ≤ 8 then some (r, w) else none
    | none => none
  | 7000 => match iv_p2 st with
    | some (y, z, r) => if (r.map fun v => v.category).sum ≤ 8 then some (.int (if y < z then z else y) :: r, w) else none
    | none => none
  | 8000 => match iv_p2 st with
    | some (y, z, r) => if (r.map fun v => v.category).sum ≤ 8 then some (.int (if z < y then z else y) :: r, w) else none
    | none => none
  | 9000 => match iv_cp st with
    | some (n, dp, a, sp, a0, r) => match iv_ai w a0 0, iv_ai w a 0 with
      | some (n0, f), some (n1, g) => if (r.map fun v => v.category).sum ≤ 8 ∧ ¬ sp < 0 ∧ ¬ dp < 0 ∧ ¬ n < 0 ∧ sp.toNatClampNeg + n.toNatClampNeg ≤ n0 ∧ dp.toNatClampNeg + n.toNatClampNeg ≤ n1 then
          some (r, w.set (a - 1) (.inl (0, n1, .inl (va_cpy f g sp.toNatClampNeg dp.toNatClampNeg n.toNatClampNeg)))) else none
      | _, _ => none
    | none => none
  | _ => none
/-- the handler: from, to, behind its store, the class caught, the local -/
def iv_hd (hs : List (Nat × Nat × Nat × Nat × Nat)) (pc q : Nat) : Option (Nat × Nat) := match hs with
  | [] => none
  | h :: r => if h.1 ≤ pc ∧ pc < h.2.1 ∧ h.2.2.2.1 = q then some (h.2.2.1, h.2.2.2.2) else iv_hd r pc q
def iv_cv (np kind : Nat) : Nat := if kind = 2 ∨ kind = 3 then np else np + 1
def iv_rc (w : iv_W) (kind μ : Nat) (as : List Value) : Bool := decide ((as.map fun v => v.category).sum ≤ iv_L μ) && (match kind, as with
  | 0, .ref a :: _ => (iv_obj w a (iv_cn μ)).isSome
  | 1, .ref a :: _ => (iv_obj w a (iv_cn μ)).isSome
  | 2, _ => true
  | 3, _ => true
  | 4, .ref _ :: _ => true
  | 5, .ref _ :: _ => true
  | _, _ => false)
def iv_run (L : Nat) (xs : Nat → Int32) : Nat → Nat → Nat → Nat → List (Nat × Value) → List Value → iv_W → Bool → Nat → Nat → Option iv_O
  | 0, _, _, _, _, _, _, _, _, _ => none
  | n + 1, d, μ, pc, lv, st, w, tg, k, z => match iv_look (iv_t μ) pc with
    | none => none
    | some (i, x) => match iv_kd i x with
      | 0 => match iv_step L xs μ i x pc lv st w with
        | none => none
        | some (pc2, lv2, st2, w2) => iv_run L xs n d μ pc2 lv2 st2 w2 tg k z
      | 1 => match iv_ret (iv_r μ) i st with
        | none => none
        | some v => some (.inl v, w, tg, k, z)
      | 2 => if (st.map fun v => v.category).sum ≤ 8 ∧ x < 1003 then some (.inr (x - 1000), w, false, k + 1, z + iv_xN) else none
      | 3 => if tg = true then (match iv_new i x st with
        | none => none
        | some (y, r, a, len) => iv_run L xs n d μ (pc + len) lv (.ref (w.length + 1) :: r) (w ++ [y]) true (k + 1) (z + a)) else none
      | 4 => match iv_lib x st w with
        | none => none
        | some (st2, w2) => iv_run L xs n d μ (pc + 3) lv st2 w2 tg k z
      | _ => match d with
        | 0 => none
        | d2 + 1 => if (st.take (iv_cv (iv_np (x % 1000)) (x / 1000))).length = iv_cv (iv_np (x % 1000)) (x / 1000) ∧ ((st.drop (iv_cv (iv_np (x % 1000)) (x / 1000))).map fun v => v.category).sum ≤ 8 ∧ iv_rc w (x / 1000) (x % 1000) (st.take (iv_cv (iv_np (x % 1000)) (x / 1000))).reverse = true then
          (match iv_run L xs n d2 (x % 1000) 0 (lv_args 0 (st.take (iv_cv (iv_np (x % 1000)) (x / 1000))).reverse) [] w tg 0 0 with
          | none => none
          | some (.inl v, w2, tg2, k2, z2) => iv_run L xs n (d2 + 1) μ (pc + 3) lv (v.toList ++ st.drop (iv_cv (iv_np (x % 1000)) (x / 1000))) w2 tg2 (k + k2) (z + z2)
          | some (.inr q, w2, tg2, k2, z2) => if x / 1000 < 2 then (match iv_hd (iv_h μ) pc q with
            | none => if (iv_h μ).isEmpty = true then some (.inr q, w2, tg2, k + k2, z + z2) else none
            | some (pc2, j) => iv_run L xs n (d2 + 1) μ pc2 (iv_no lv j) [] w2 tg2 (k + k2) (z + z2)) else none) else none
theorem iv_step_len {L : Nat} {xs : Nat → Int32} {μ : Nat} {i : Instr} {x pc : Nat} {lv : List (Nat × Value)} {st : List Value} {w : iv_W} {pc2 : Nat} {lv2 : List (Nat × Value)} {st2 : List Value} {w2 : iv_W} (h : iv_step L xs μ i x pc lv st w = some (pc2, lv2, st2, w2)) : w2.length = w.length := by
  unfold iv_step at h
  repeat' split at h
  all_goals first | (cases h; done) | (simp only [Option.some.injEq, Prod.mk.injEq] at h; obtain ⟨-, -, -, rfl⟩ := h; first | rfl | rw [List.length_set])
theorem iv_lib_len {x : Nat} {st : List Value} {w : iv_W} {st2 : List Value} {w2 : iv_W} (h : iv_lib x st w = some (st2, w2)) : w2.length = w.length := by
  unfold iv_lib at h
  repeat' split at h
  all_goals first | (cases h; done) | (simp only [Option.some.injEq, Prod.mk.injEq] at h; obtain ⟨-, rfl⟩ := h; first | rfl | rw [List.length_set])
theorem iv_run_mono {L : Nat} {xs : Nat → Int32} : ∀ (n d μ pc : Nat) (lv : List (Nat × Value)) (st : List Value) (w : iv_W) (tg : Bool) (k z : Nat) (o : Option Value ⊕ Nat) (w2 : iv_W) (tg2 : Bool) (k2 z2 : Nat), iv_run L xs n d μ pc lv st w tg k z = some (o, w2, tg2, k2, z2) →
    k ≤ k2 ∧ z ≤ z2 ∧ (tg2 = true → tg = true ∧ w2.length + k = w.length + k2)
  | 0, _, _, _, _, _, _, _, _, _, _, _, _, _, _, h => by simp [iv_run] at h
  | n + 1, d, μ, pc, lv, st, w, tg, k, z, o, w2, tg2, k2, z2, h => by
    unfold iv_run at h
    split at h
    · cases h
    · split at h
      · split at h
        · cases h
        · next e =>
          have h1 := iv_run_mono n _ _ _ _ _ _ _ _ _ _ _ _ _ _ h
          rw [iv_step_len e] at h1
          exact h1
      · split at h
        · cases h
        · cases h
          exact ⟨Nat.le_refl _, Nat.le_refl _, fun q => ⟨q, rfl⟩⟩
      · split at h
        · cases h
          exact ⟨by omega, by omega, fun q => by cases q⟩
        · cases h
      · split at h
        · next ht =>
          split at h
          · cases h
          · next e =>
            have h1 := iv_run_mono n _ _ _ _ _ _ _ _ _ _ _ _ _ _ h
            rw [List.length_append] at h1
            exact ⟨by omega, by omega, fun q => ⟨ht, by have := (h1.2.2 q).2; simp only [List.length_cons, List.length_nil] at this; omega⟩⟩
        · cases h
      · split at h
        · cases h
        · next e =>
          have h1 := iv_run_mono n _ _ _ _ _ _ _ _ _ _ _ _ _ _ h
          rw [iv_lib_len e] at h1
          exact h1
      · split at h
        · cases h
        · split at h
          · split at h
            · cases h
            · next e =>
              have h0 := iv_run_mono n _ _ _ _ _ _ _ _ _ _ _ _ _ _ e
              have h1 := iv_run_mono n _ _ _ _ _ _ _ _ _ _ _ _ _ _ h
              refine ⟨by omega, by omega, fun q => ?_⟩
              have h2 := h1.2.2 q
              have h3 := h0.2.2 h2.1
              exact ⟨h3.1, by omega⟩
            · next e =>
              have h0 := iv_run_mono n _ _ _ _ _ _ _ _ _ _ _ _ _ _ e
              split at h
              · split at h
                · split at h
                  · cases h
                    refine ⟨by omega, by omega, fun q => ?_⟩
                    have h3 := h0.2.2 q
                    exact ⟨h3.1, by omega⟩
                  · cases h
                · have h1 := iv_run_mono n _ _ _ _ _ _ _ _ _ _ _ _ _ _ h
                  refine ⟨by omega, by omega, fun q => ?_⟩
                  have h2 := h1.2.2 q
                  have h3 := h0.2.2 h2.1
                  exact ⟨h3.1, by omega⟩
              · cases h
          · cases h
