/-! the law's loop: the rules, and a call in a context -/
def id_Fin (L : Nat) (xs : Nat → Int32) (d μ pc : Nat) (lv : List (Nat × Value)) (st : List Value) (w : iv_W) (tg : Bool) (k z : Nat) : Prop := ∃ (w2 : iv_W) (tg2 : Bool) (k2 z2 : Nat), iv_G L xs d μ pc lv st w tg k z (.inl (some (.int 1)), w2, tg2, k2, z2) ∧ k2 ≤ 601024 ∧ z2 ≤ 7293034
section
variable {L : Nat} {xs : Nat → Int32} {d μ pc pc2 p1 p2 : Nat} {lv lv2 : List (Nat × Value)} {st st2 : List Value} {w w2 : iv_W} {tg : Bool} {k z : Nat}
theorem id_Eof (h : ∀ o, iv_G L xs d μ pc2 lv2 st2 w2 tg k z o → iv_G L xs d μ pc lv st w tg k z o) (hg : id_Fin L xs d μ pc2 lv2 st2 w2 tg k z) : id_Fin L xs d μ pc lv st w tg k z := by
  obtain ⟨a, b, c, e, h1, h2⟩ := hg
  exact ⟨a, b, c, e, h _ h1, h2⟩
theorem id_Em (m : Nat) (h : iv_nxs L xs μ m pc lv st w = some (pc2, lv2, st2, w2)) (hg : id_Fin L xs d μ pc2 lv2 st2 w2 tg k z) : id_Fin L xs d μ pc lv st w tg k z := id_Eof (fun _ g => iv_Gm m h g) hg
theorem id_Ebt {c : Bool} (h : iv_nx L xs μ pc lv st w = some (if c = true then p1 else p2, lv2, st2, w2)) (hc : c = true) (hg : id_Fin L xs d μ p1 lv2 st2 w2 tg k z) : id_Fin L xs d μ pc lv st w tg k z := id_Eof (fun _ g => iv_Gbt h hc g) hg
theorem id_Ebf {c : Bool} (h : iv_nx L xs μ pc lv st w = some (if c = true then p1 else p2, lv2, st2, w2)) (hc : c = false) (hg : id_Fin L xs d μ p2 lv2 st2 w2 tg k z) : id_Fin L xs d μ pc lv st w tg k z := id_Eof (fun _ g => iv_Gbf h hc g) hg
theorem id_Eif {c : Bool} (h : iv_nx L xs μ pc lv st w = if c = true then some (pc2, lv2, st2, w2) else none) (hc : c = true) (hg : id_Fin L xs d μ pc2 lv2 st2 w2 tg k z) : id_Fin L xs d μ pc lv st w tg k z := id_Eof (fun _ g => iv_Gif h hc g) hg
theorem id_Esw {y : Int32} {r : List Value} {t x : Nat} {dflt lo hi : Int} {offs : Array Int} (h : iv_look (iv_t μ) pc = some (.tableswitch dflt lo hi offs, x)) (hst : st = .int y :: r) (hs : iv_sw pc dflt lo hi offs y = some t) (hg : id_Fin L xs d μ t lv r w tg k z) : id_Fin L xs d μ pc lv st w tg k z := id_Eof (fun _ g => iv_Gsw h hst hs g) hg
theorem id_Ecall {i : Instr} {x ν c : Nat} {as rest : List Value} {v : Option Value} {tg2 : Bool} {k2 z2 : Nat} (h : iv_look (iv_t μ) pc = some (i, x)) (hk : iv_kd i x = 5) (hν : x % 1000 = ν) (hc : iv_cv (iv_np ν) (x / 1000) = c) (ha : (st.take c).reverse = as) (hl : (st.take c).length = c) (hr : st.drop c = rest) (hs : (rest.map fun v => v.category).sum ≤ 8) (hrc : iv_rc w (x / 1000) ν as = true)
    (hcall : iv_G L xs d ν 0 (lv_args 0 as) [] w tg 0 0 (.inl v, w2, tg2, k2, z2)) (hg : id_Fin L xs (d + 1) μ (pc + 3) lv (v.toList ++ rest) w2 tg2 (k + k2) (z + z2)) : id_Fin L xs (d + 1) μ pc lv st w tg k z := by
  obtain ⟨a, b, c9, e, h1, h2⟩ := hg
  exact ⟨a, b, c9, e, iv_Gcall h hk hν hc ha hl hr hs hrc hcall h1, h2⟩
theorem id_Eret {i : Instr} {x : Nat} (h : iv_look (iv_t μ) pc = some (i, x)) (hk : iv_kd i x = 1) (hr : iv_ret (iv_r μ) i st = some (some (.int 1))) (h1 : k ≤ 601024) (h2 : z ≤ 7293034) : id_Fin L xs d μ pc lv st w tg k z := ⟨_, _, _, _, iv_Gret h hk hr, h1, h2⟩
end
def id_pi (P : ia_P) : Bool := (match P.1 with
  | none => true
  | some _ => false) && (match P.2.1 with
  | some (.inl _) => true
  | _ => false) && Nat.ble P.2.2.2 1
def id_pv (P : ia_P) : Bool := (match P.1 with
  | none => true
  | some _ => false) && (match P.2.1 with
  | none => true
  | _ => false) && Nat.ble P.2.2.2 1
/-- a call that returns an int -/
theorem id_hi {M : ia_M} (hH : ia_Holds M) (hfa : M.2.2.2.1.isEmpty = true) (hps : M.2.2.2.2.1.all id_pi = true) {L : Nat} {xs : Nat → Int32} {d : Nat} {tg : Bool} {A : Nat → Nat → Int32} {F : Nat → Int32} {B : Nat → Int64} {vals : List Value} (hd : M.2.1 ≤ d + 1) (hs : ia_sk (ia_ev [] A F (ia_g0 vals)) M.2.2.1 vals) (hi : ia_inv A F []) :
    ∃ (v : Int32) (A2 : Nat → Nat → Int32) (F2 : Nat → Int32) (B2 : Nat → Int64) (tg2 : Bool) (n : Nat), n ≤ 1 ∧ iv_G L xs d M.1 0 (lv_args 0 vals) [] (ia_wd A F B) tg 0 0 (.inl (some (.int v)), ia_wd A2 F2 B2, tg2, n, 6 * n) ∧ ia_inv A2 F2 [] ∧ ia_fr M.2.2.2.2.2.1 M.2.2.2.2.2.2.1 A F A2 F2 ∧ ∃ P ∈ M.2.2.2.2.1, ia_pk P (.inl (some (.int v))) (ia_ev [] A2 F2 (ia_g0 vals)) := by
  obtain ⟨P, hP, o, A2, F2, B2, tg2, hG, hi2, hfr, hpk⟩ := hH L xs d tg 0 0 A F B vals hd hs hi (fun f hf => by rw [List.isEmpty_iff.mp hfa] at hf; cases hf)
  have h1 := List.all_eq_true.mp hps P hP
  unfold id_pi at h1
  rw [Bool.and_eq_true, Bool.and_eq_true] at h1
  have hk := hpk.1
  obtain ⟨⟨a1, a2⟩, a3⟩ := h1
  cases e1 : P.1 with
  | some q => rw [e1] at a1; cases a1
  | none =>
    rw [e1] at hk
    cases o with
    | inr q => exact hk.elim
    | inl u =>
      cases e2 : P.2.1 with
      | none => rw [e2] at a2; cases a2
      | some b =>
        rw [e2] at hk a2
        cases u with
        | none => exact hk.elim
        | some u =>
          cases b using ia_Vc with
          | i q =>
            cases u with
            | int v =>
              rw [Nat.zero_add, Nat.zero_add] at hG
              exact ⟨v, A2, F2, B2, tg2, P.2.2.2, Nat.le_of_ble_eq_true a3, hG, hi2, hfr, P, hP, hpk⟩
            | _ => exact hk.elim
          | r cs => cases a2
          | l => cases a2
/-- a call that returns nothing -/
theorem id_hv {M : ia_M} (hH : ia_Holds M) (hfa : M.2.2.2.1.isEmpty = true) (hps : M.2.2.2.2.1.all id_pv = true) {L : Nat} {xs : Nat → Int32} {d : Nat} {tg : Bool} {A : Nat → Nat → Int32} {F : Nat → Int32} {B : Nat → Int64} {vals : List Value} (hd : M.2.1 ≤ d + 1) (hs : ia_sk (ia_ev [] A F (ia_g0 vals)) M.2.2.1 vals) (hi : ia_inv A F []) :
    ∃ (A2 : Nat → Nat → Int32) (F2 : Nat → Int32) (B2 : Nat → Int64) (tg2 : Bool) (n : Nat), n ≤ 1 ∧ iv_G L xs d M.1 0 (lv_args 0 vals) [] (ia_wd A F B) tg 0 0 (.inl none, ia_wd A2 F2 B2, tg2, n, 6 * n) ∧ ia_inv A2 F2 [] ∧ ia_fr M.2.2.2.2.2.1 M.2.2.2.2.2.2.1 A F A2 F2 := by
  obtain ⟨P, hP, o, A2, F2, B2, tg2, hG, hi2, hfr, hpk⟩ := hH L xs d tg 0 0 A F B vals hd hs hi (fun f hf => by rw [List.isEmpty_iff.mp hfa] at hf; cases hf)
  have h1 := List.all_eq_true.mp hps P hP
  unfold id_pv at h1
  rw [Bool.and_eq_true, Bool.and_eq_true] at h1
  have hk := hpk.1
  obtain ⟨⟨a1, a2⟩, a3⟩ := h1
  cases e1 : P.1 with
  | some q => rw [e1] at a1; cases a1
  | none =>
    rw [e1] at hk
    cases o with
    | inr q => exact hk.elim
    | inl u =>
      cases e2 : P.2.1 with
      | some b => rw [e2] at a2; cases a2
      | none =>
        rw [e2] at hk
        cases u with
        | some u => exact hk.elim
        | none =>
          rw [Nat.zero_add, Nat.zero_add] at hG
          exact ⟨A2, F2, B2, tg2, P.2.2.2, Nat.le_of_ble_eq_true a3, hG, hi2, hfr⟩
theorem id_top {E : Nat → Int32} (x : Int32) : ia_ii E ⟨Int.negSucc 2147483647, Int.ofNat 2147483647, [], []⟩ x := ⟨ia_lo x, ia_hi x, fun _ h => (by cases h), fun _ h => (by cases h)⟩
theorem id_one {E : Nat → Int32} : ia_ii E ⟨Int.ofNat 0, Int.ofNat 1, [], []⟩ 1 := ⟨by decide, by decide, fun _ h => (by cases h), fun _ h => (by cases h)⟩
theorem id_nul {E : Nat → Int32} : ia_ii E ⟨Int.ofNat 0, Int.ofNat 1, [], []⟩ 0 := ⟨by decide, by decide, fun _ h => (by cases h), fun _ h => (by cases h)⟩
def id_l0 (i : Int32) : List (Nat × Value) := [(4, .int i), (3, .ref 65), (2, .ref 44), (1, .ref 1), (0, .ref 0)]
def id_l1 (i a b : Int32) : List (Nat × Value) := [(4, .int i), (6, .int b), (5, .int a), (3, .ref 65), (2, .ref 44), (1, .ref 1), (0, .ref 0)]
def id_sh (lv : List (Nat × Value)) (i : Int32) : Prop := lv = id_l0 i ∨ ∃ a b, lv = id_l1 i a b
/-- what comes behind a call of the script -/
def id_nx (L : Nat) (xs : Nat → Int32) (i : Int32) (k z : Nat) : Prop := ∀ (lv : List (Nat × Value)) (A : Nat → Nat → Int32) (F : Nat → Int32) (B : Nat → Int64) (tg : Bool) (k2 z2 : Nat), id_sh lv (i + 6) → ia_inv A F [] → (∀ j, A 5 j = A 48 j) → k2 ≤ k + 2 → z2 ≤ z + 12 → id_Fin L xs 20 0 23 lv [] (ia_wd A F B) tg k2 z2
