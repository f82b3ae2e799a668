/-! my machine alone: more fuel does no harm; a run as a relation -/
theorem iv_run_succ {L : Nat} {xs : Nat → Int32} : ∀ (n d μ pc : Nat) (lv : List (Nat × Value)) (st : List Value) (w : iv_W) (tg : Bool) (k z : Nat) (o : iv_O), iv_run L xs n d μ pc lv st w tg k z = some o → iv_run L xs (n + 1) d μ pc lv st w tg k z = some o
  | 0, _, _, _, _, _, _, _, _, _, _, h => by simp [iv_run] at h
  | n + 1, d, μ, pc, lv, st, w, tg, k, z, o, h => by
    rw [iv_run] at h ⊢
    split at h
    · cases h
    next i x e0 =>
    (try rw [e0])
    (try dsimp only)
    split at h
    next hk =>
      (try rw [hk])
      (try dsimp only)
      split at h
      · cases h
      next e1 => (try rw [e1]); exact iv_run_succ n _ _ _ _ _ _ _ _ _ _ h
    next hk =>
      (try rw [hk])
      exact h
    next hk =>
      (try rw [hk])
      exact h
    next hk =>
      (try rw [hk])
      (try dsimp only)
      split at h
      next ht =>
        (try rw [if_pos ht])
        split at h
        · cases h
        next e1 => (try rw [e1]); exact iv_run_succ n _ _ _ _ _ _ _ _ _ _ h
      · cases h
    next hk =>
      (try rw [hk])
      (try dsimp only)
      split at h
      · cases h
      next e1 => (try rw [e1]); exact iv_run_succ n _ _ _ _ _ _ _ _ _ _ h
    next h0 h1 h2 h3 h4 =>
      have hk : iv_kd i x = 5 := iv_kd5 h0 h1 h2 h3 h4
      (try rw [hk])
      (try dsimp only)
      split at h
      · cases h
      next d2 =>
      split at h
      next hc =>
        (try dsimp only)
        (try rw [if_pos hc])
        split at h
        · cases h
        next e1 => (try rw [iv_run_succ n _ _ _ _ _ _ _ _ _ _ e1]); exact iv_run_succ n _ _ _ _ _ _ _ _ _ _ h
        next e1 =>
          rw [iv_run_succ n _ _ _ _ _ _ _ _ _ _ e1]
          (try dsimp only)
          split at h
          next hx =>
            (try rw [if_pos hx])
            split at h
            next e2 => (try rw [e2]); exact h
            next e2 => (try rw [e2]); exact iv_run_succ n _ _ _ _ _ _ _ _ _ _ h
          · cases h
      · cases h
theorem iv_run_add {L : Nat} {xs : Nat → Int32} {n d μ pc : Nat} {lv : List (Nat × Value)} {st : List Value} {w : iv_W} {tg : Bool} {k z : Nat} {o : iv_O} (h : iv_run L xs n d μ pc lv st w tg k z = some o) : ∀ m, iv_run L xs (n + m) d μ pc lv st w tg k z = some o
  | 0 => h
  | m + 1 => iv_run_succ _ _ _ _ _ _ _ _ _ _ _ (iv_run_add h m)
theorem iv_run_le {L : Nat} {xs : Nat → Int32} {n n2 d μ pc : Nat} {lv : List (Nat × Value)} {st : List Value} {w : iv_W} {tg : Bool} {k z : Nat} {o : iv_O} (h : iv_run L xs n d μ pc lv st w tg k z = some o) (hn : n ≤ n2) : iv_run L xs n2 d μ pc lv st w tg k z = some o := by
  have := iv_run_add h (n2 - n)
  rwa [show n + (n2 - n) = n2 by omega] at this
/-- it comes to this end -/
def iv_G (L : Nat) (xs : Nat → Int32) (d μ pc : Nat) (lv : List (Nat × Value)) (st : List Value) (w : iv_W) (tg : Bool) (k z : Nat) (o : iv_O) : Prop := ∃ n, iv_run L xs n d μ pc lv st w tg k z = some o
/-- a step that is no call, no end and no new cell -/
def iv_nx (L : Nat) (xs : Nat → Int32) (μ pc : Nat) (lv : List (Nat × Value)) (st : List Value) (w : iv_W) : Option (Nat × List (Nat × Value) × List Value × iv_W) := match iv_look (iv_t μ) pc with
  | none => none
  | some (i, x) => match iv_kd i x with
    | 0 => iv_step L xs μ i x pc lv st w
    | 4 => match iv_lib x st w with
      | none => none
      | some (st2, w2) => some (pc + 3, lv, st2, w2)
    | _ => none
def iv_nxs (L : Nat) (xs : Nat → Int32) (μ : Nat) : Nat → Nat → List (Nat × Value) → List Value → iv_W → Option (Nat × List (Nat × Value) × List Value × iv_W)
  | 0, pc, lv, st, w => some (pc, lv, st, w)
  | n + 1, pc, lv, st, w => match iv_nx L xs μ pc lv st w with
    | none => none
    | some (pc2, lv2, st2, w2) => iv_nxs L xs μ n pc2 lv2 st2 w2
section
variable {L : Nat} {xs : Nat → Int32} {d μ pc pc2 : Nat} {lv lv2 : List (Nat × Value)} {st st2 : List Value} {w w2 : iv_W} {tg : Bool} {k z : Nat} {o : iv_O}
theorem iv_G1 (h : iv_nx L xs μ pc lv st w = some (pc2, lv2, st2, w2)) (hg : iv_G L xs d μ pc2 lv2 st2 w2 tg k z o) : iv_G L xs d μ pc lv st w tg k z o := by
  obtain ⟨n, hn⟩ := hg
  refine ⟨n + 1, ?_⟩
  rw [iv_run]
  unfold iv_nx at h
  split at h
  · cases h
  next i x e0 =>
  split at h
  next hk => simp only [e0, hk, h]; exact hn
  next hk =>
    split at h
    · cases h
    next e1 =>
      cases h
      simp only [e0, hk, e1]
      exact hn
  · cases h
theorem iv_Gm : ∀ (m : Nat) {pc : Nat} {lv : List (Nat × Value)} {st : List Value} {w : iv_W}, iv_nxs L xs μ m pc lv st w = some (pc2, lv2, st2, w2) → iv_G L xs d μ pc2 lv2 st2 w2 tg k z o → iv_G L xs d μ pc lv st w tg k z o
  | 0, _, _, _, _, h, hg => by
    unfold iv_nxs at h
    cases h
    exact hg
  | m + 1, _, _, _, _, h, hg => by
    unfold iv_nxs at h
    split at h
    · cases h
    next e => exact iv_G1 e (iv_Gm m h hg)
/-- a step under a condition -/
theorem iv_Gif {c : Bool} (h : iv_nx L xs μ pc lv st w = if c = true then some (pc2, lv2, st2, w2) else none) (hc : c = true) (hg : iv_G L xs d μ pc2 lv2 st2 w2 tg k z o) : iv_G L xs d μ pc lv st w tg k z o := iv_G1 (h.trans (if_pos hc)) hg
theorem iv_Gret {i : Instr} {x : Nat} {v : Option Value} (h : iv_look (iv_t μ) pc = some (i, x)) (hk : iv_kd i x = 1) (hr : iv_ret (iv_r μ) i st = some v) : iv_G L xs d μ pc lv st w tg k z (.inl v, w, tg, k, z) := by
  refine ⟨1, ?_⟩
  rw [iv_run]
  simp only [h, hk, hr]
theorem iv_Gthrow {i : Instr} {x : Nat} (h : iv_look (iv_t μ) pc = some (i, x)) (hk : iv_kd i x = 2) (hc : (st.map fun v => v.category).sum ≤ 8 ∧ x < 1003) : iv_G L xs d μ pc lv st w tg k z (.inr (x - 1000), w, false, k + 1, z + iv_xN) := by
  refine ⟨1, ?_⟩
  rw [iv_run]
  simp only [h, hk]
  exact if_pos hc
theorem iv_Gnew {i : Instr} {x : Nat} {y : iv_E} {r : List Value} {a len : Nat} (h : iv_look (iv_t μ) pc = some (i, x)) (hk : iv_kd i x = 3) (hn : iv_new i x st = some (y, r, a, len)) (hg : iv_G L xs d μ (pc + len) lv (.ref (w.length + 1) :: r) (w ++ [y]) true (k + 1) (z + a) o) : iv_G L xs d μ pc lv st w true k z o := by
  obtain ⟨n, hn2⟩ := hg
  refine ⟨n + 1, ?_⟩
  rw [iv_run]
  simp only [h, hk, hn, if_true]
  exact hn2
/-- a call that comes back -/
theorem iv_Gcall {i : Instr} {x ν c : Nat} {as rest : List Value} {v : Option Value} {tg2 : Bool} {k2 z2 : Nat} (h : iv_look (iv_t μ) pc = some (i, x)) (hk : iv_kd i x = 5) (hν : x % 1000 = ν) (hc : iv_cv (iv_np ν) (x / 1000) = c) (ha : (st.take c).reverse = as) (hl : (st.take c).length = c) (hr : st.drop c = rest) (hs : (rest.map fun v => v.category).sum ≤ 8) (hrc : iv_rc w (x / 1000) ν as = true)
    (hcall : iv_G L xs d ν 0 (lv_args 0 as) [] w tg 0 0 (.inl v, w2, tg2, k2, z2)) (hg : iv_G L xs (d + 1) μ (pc + 3) lv (v.toList ++ rest) w2 tg2 (k + k2) (z + z2) o) : iv_G L xs (d + 1) μ pc lv st w tg k z o := by
  obtain ⟨n1, h1⟩ := hcall
  obtain ⟨n2, h2⟩ := hg
  subst hν hc ha hr
  refine ⟨n1 + n2 + 1, ?_⟩
  have hn1 := iv_run_le h1 (Nat.le_add_right n1 n2)
  rw [iv_run]
  simp only [h, hk]
  rw [if_pos ⟨hl, hs, hrc⟩, hn1]
  exact iv_run_le h2 (Nat.le_add_left _ _)
/-- a call that throws, nobody here catches -/
theorem iv_GcallT {i : Instr} {x ν c q : Nat} {as rest : List Value} {tg2 : Bool} {k2 z2 : Nat} (h : iv_look (iv_t μ) pc = some (i, x)) (hk : iv_kd i x = 5) (hx : x / 1000 < 2) (hν : x % 1000 = ν) (hc : iv_cv (iv_np ν) (x / 1000) = c) (ha : (st.take c).reverse = as) (hl : (st.take c).length = c) (hr : st.drop c = rest) (hs : (rest.map fun v => v.category).sum ≤ 8) (hrc : iv_rc w (x / 1000) ν as = true)
    (hh : iv_hd (iv_h μ) pc q = none) (he : (iv_h μ).isEmpty = true) (hcall : iv_G L xs d ν 0 (lv_args 0 as) [] w tg 0 0 (.inr q, w2, tg2, k2, z2)) : iv_G L xs (d + 1) μ pc lv st w tg k z (.inr q, w2, tg2, k + k2, z + z2) := by
  obtain ⟨n1, h1⟩ := hcall
  subst hν hc ha hr
  refine ⟨n1 + 1, ?_⟩
  rw [iv_run]
  simp only [h, hk]
  rw [if_pos ⟨hl, hs, hrc⟩, h1]
  simp only [hh]
  rw [if_pos hx, if_pos he]
/-- a call that throws, caught here -/
theorem iv_GcallH {i : Instr} {x ν c q j : Nat} {as rest : List Value} {tg2 : Bool} {k2 z2 : Nat} (h : iv_look (iv_t μ) pc = some (i, x)) (hk : iv_kd i x = 5) (hx : x / 1000 < 2) (hν : x % 1000 = ν) (hc : iv_cv (iv_np ν) (x / 1000) = c) (ha : (st.take c).reverse = as) (hl : (st.take c).length = c) (hr : st.drop c = rest) (hs : (rest.map fun v => v.category).sum ≤ 8) (hrc : iv_rc w (x / 1000) ν as = true)
    (hh : iv_hd (iv_h μ) pc q = some (pc2, j)) (hcall : iv_G L xs d ν 0 (lv_args 0 as) [] w tg 0 0 (.inr q, w2, tg2, k2, z2)) (hg : iv_G L xs (d + 1) μ pc2 (iv_no lv j) [] w2 tg2 (k + k2) (z + z2) o) : iv_G L xs (d + 1) μ pc lv st w tg k z o := by
  obtain ⟨n1, h1⟩ := hcall
  obtain ⟨n2, h2⟩ := hg
  subst hν hc ha hr
  refine ⟨n1 + n2 + 1, ?_⟩
  have hn1 := iv_run_le h1 (Nat.le_add_right n1 n2)
  rw [iv_run]
  simp only [h, hk]
  rw [if_pos ⟨hl, hs, hrc⟩, hn1]
  simp only [hh]
  rw [if_pos hx]
  exact iv_run_le h2 (Nat.le_add_left _ _)
end
