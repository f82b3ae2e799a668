/-! rules for a symbolic walk of my machine -/
section
variable {L : Nat} {xs : Nat → Int32} {d μ pc pc2 p1 p2 : Nat} {lv lv2 : List (Nat × Value)} {st st2 : List Value} {w w2 : iv_W} {tg : Bool} {k z : Nat} {o : iv_O}
theorem iv_Gbt {c : Bool} (h : iv_nx L xs μ pc lv st w = some (if c = true then p1 else p2, lv2, st2, w2)) (hc : c = true) (hg : iv_G L xs d μ p1 lv2 st2 w2 tg k z o) : iv_G L xs d μ pc lv st w tg k z o := by
  rw [if_pos hc] at h
  exact iv_G1 h hg
theorem iv_Gbf {c : Bool} (h : iv_nx L xs μ pc lv st w = some (if c = true then p1 else p2, lv2, st2, w2)) (hc : c = false) (hg : iv_G L xs d μ p2 lv2 st2 w2 tg k z o) : iv_G L xs d μ pc lv st w tg k z o := by
  rw [if_neg (by rw [hc]; decide)] at h
  exact iv_G1 h hg
/-- a switch -/
theorem iv_Gsw {y : Int32} {r : List Value} {t x : Nat} {dflt lo hi : Int} {offs : Array Int} (h : iv_look (iv_t μ) pc = some (.tableswitch dflt lo hi offs, x)) (hst : st = .int y :: r) (hs : iv_sw pc dflt lo hi offs y = some t) (hg : iv_G L xs d μ t lv r w tg k z o) : iv_G L xs d μ pc lv st w tg k z o := by
  refine iv_G1 (pc2 := t) (lv2 := lv) (st2 := r) (w2 := w) ?_ hg
  unfold iv_nx
  simp only [h, hst]
  show iv_step L xs μ (.tableswitch dflt lo hi offs) x pc lv (.int y :: r) w = _
  simp only [iv_step, iv_p1, hs]
end
/-- the law comes to true, with little made -/
def iv_Fin (L : Nat) (xs : Nat → Int32) (d μ pc : Nat) (lv : List (Nat × Value)) (st : List Value) (w : iv_W) (tg : Bool) (k z : Nat) : Prop := ∃ (w2 : iv_W) (tg2 : Bool) (k2 z2 : Nat), iv_G L xs d μ pc lv st w tg k z (.inl (some (.int 1)), w2, tg2, k2, z2) ∧ k2 ≤ 70 ∧ z2 ≤ 20000
section
variable {L : Nat} {xs : Nat → Int32} {d μ pc pc2 p1 p2 : Nat} {lv lv2 : List (Nat × Value)} {st st2 : List Value} {w w2 : iv_W} {tg : Bool} {k z : Nat}
theorem iv_Eof {P : iv_O → Prop} (h : ∀ o, iv_G L xs d μ pc2 lv2 st2 w2 tg k z o → iv_G L xs d μ pc lv st w tg k z o) (hg : iv_Fin L xs d μ pc2 lv2 st2 w2 tg k z) : iv_Fin L xs d μ pc lv st w tg k z := by
  obtain ⟨a, b, c, e, h1, h2⟩ := hg
  exact ⟨a, b, c, e, h _ h1, h2⟩
theorem iv_Em (m : Nat) (h : iv_nxs L xs μ m pc lv st w = some (pc2, lv2, st2, w2)) (hg : iv_Fin L xs d μ pc2 lv2 st2 w2 tg k z) : iv_Fin L xs d μ pc lv st w tg k z := iv_Eof (P := fun _ => True) (fun _ g => iv_Gm m h g) hg
theorem iv_Ebt {c : Bool} (h : iv_nx L xs μ pc lv st w = some (if c = true then p1 else p2, lv2, st2, w2)) (hc : c = true) (hg : iv_Fin L xs d μ p1 lv2 st2 w2 tg k z) : iv_Fin L xs d μ pc lv st w tg k z := iv_Eof (P := fun _ => True) (fun _ g => iv_Gbt h hc g) hg
theorem iv_Ebf {c : Bool} (h : iv_nx L xs μ pc lv st w = some (if c = true then p1 else p2, lv2, st2, w2)) (hc : c = false) (hg : iv_Fin L xs d μ p2 lv2 st2 w2 tg k z) : iv_Fin L xs d μ pc lv st w tg k z := iv_Eof (P := fun _ => True) (fun _ g => iv_Gbf h hc g) hg
theorem iv_Eif {c : Bool} (h : iv_nx L xs μ pc lv st w = if c = true then some (pc2, lv2, st2, w2) else none) (hc : c = true) (hg : iv_Fin L xs d μ pc2 lv2 st2 w2 tg k z) : iv_Fin L xs d μ pc lv st w tg k z := iv_Eof (P := fun _ => True) (fun _ g => iv_Gif h hc g) hg
theorem iv_Esw {y : Int32} {r : List Value} {t x : Nat} {dflt lo hi : Int} {offs : Array Int} (h : iv_look (iv_t μ) pc = some (.tableswitch dflt lo hi offs, x)) (hst : st = .int y :: r) (hs : iv_sw pc dflt lo hi offs y = some t) (hg : iv_Fin L xs d μ t lv r w tg k z) : iv_Fin L xs d μ pc lv st w tg k z := iv_Eof (P := fun _ => True) (fun _ g => iv_Gsw h hst hs g) hg
theorem iv_Ecall {i : Instr} {x ν c : Nat} {as rest : List Value} {v : Option Value} {tg2 : Bool} {k2 z2 : Nat} (h : iv_look (iv_t μ) pc = some (i, x)) (hk : iv_kd i x = 5) (hν : x % 1000 = ν) (hc : iv_cv (iv_np ν) (x / 1000) = c) (ha : (st.take c).reverse = as) (hl : (st.take c).length = c) (hr : st.drop c = rest) (hs : (rest.map fun v => v.category).sum ≤ 8) (hrc : iv_rc w (x / 1000) ν as = true)
    (hcall : iv_G L xs d ν 0 (lv_args 0 as) [] w tg 0 0 (.inl v, w2, tg2, k2, z2)) (hg : iv_Fin L xs (d + 1) μ (pc + 3) lv (v.toList ++ rest) w2 tg2 (k + k2) (z + z2)) : iv_Fin L xs (d + 1) μ pc lv st w tg k z := by
  obtain ⟨a, b, c9, e, h1, h2⟩ := hg
  exact ⟨a, b, c9, e, iv_Gcall h hk hν hc ha hl hr hs hrc hcall h1, h2⟩
theorem iv_Eret {i : Instr} {x : Nat} (h : iv_look (iv_t μ) pc = some (i, x)) (hk : iv_kd i x = 1) (hr : iv_ret (iv_r μ) i st = some (some (.int 1))) (h1 : k ≤ 70) (h2 : z ≤ 20000) : iv_Fin L xs d μ pc lv st w tg k z := ⟨_, _, _, _, iv_Gret h hk hr, h1, h2⟩
end
-- numbers
theorem iv_lu {x a b : Int32} (h : x < a) (hab : a ≤ b) : x < b := Int32.lt_of_lt_of_le h hab
theorem iv_ld2 {x a b : Int32} (h : ¬ x < b) (hab : a ≤ b) : ¬ x < a := fun q => h (iv_lu q hab)
theorem iv_lg2 {x a b : Int32} (hab : a.toInt + 1 = b.toInt) : a < x ↔ ¬ x < b := by
  rw [Int32.lt_iff_toInt_lt, Int32.lt_iff_toInt_lt]
  omega
