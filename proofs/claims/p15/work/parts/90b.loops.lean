/-! p15: the run at the script, in pieces -/
set_option linter.unusedSectionVars false
def iw_xs : List Int32 := [11, 2, 0, 15, 0, 0, 11, 2, 1, 65, 0, 0, 11, 2, 2, 70, 0, 0, 11, 2, 3, 120, 0, 0, 11, 2, 8, 1, 0, 0, 11, 2, 9, 65, 0, 0, 11, 2, 11, 66, 0, 0, 13, 0, 0, 0, 0, 0]
abbrev iw_St : Type := List (Nat × Value) × List Value × iv_W × Bool × Nat × Nat
/-- in one frame up to the pc q, calls by iv_run -/
def iw_go (L : Nat) (xs : Nat → Int32) (q : Nat) : Nat → Nat → Nat → Nat → List (Nat × Value) → List Value → iv_W → Bool → Nat → Nat → Option iw_St
  | 0, _, _, _, _, _, _, _, _, _ => none
  | n + 1, d, μ, pc, lv, st, w, tg, k, z => match Nat.beq pc q with
    | true => some (lv, st, w, tg, k, z)
    | false => match iv_look (iv_t μ) pc with
      | none => none
      | some (i, x) => match iv_kd i x with
        | 0 => match iv_step L xs μ i x pc lv st w with
          | none => none
          | some (pc2, lv2, st2, w2) => iw_go L xs q n d μ pc2 lv2 st2 w2 tg k z
        | 3 => match tg with
          | false => none
          | true => match iv_new i x st with
            | none => none
            | some (y, r, a, len) => iw_go L xs q n d μ (pc + len) lv (.ref (w.length + 1) :: r) (w ++ [y]) true (k + 1) (z + a)
        | 4 => match iv_lib x st w with
          | none => none
          | some (st2, w2) => iw_go L xs q n d μ (pc + 3) lv st2 w2 tg k z
        | 5 => match d with
          | 0 => none
          | d2 + 1 => if (st.take (iv_cv (iv_np (x % 1000)) (x / 1000))).length = iv_cv (iv_np (x % 1000)) (x / 1000) ∧ ((st.drop (iv_cv (iv_np (x % 1000)) (x / 1000))).map fun v => v.category).sum ≤ 8 ∧ iv_rc w (x / 1000) (x % 1000) (st.take (iv_cv (iv_np (x % 1000)) (x / 1000))).reverse = true then
            (match iv_run L xs n d2 (x % 1000) 0 (lv_args 0 (st.take (iv_cv (iv_np (x % 1000)) (x / 1000))).reverse) [] w tg 0 0 with
            | some (.inl v, w2, tg2, k2, z2) => iw_go L xs q n (d2 + 1) μ (pc + 3) lv (v.toList ++ st.drop (iv_cv (iv_np (x % 1000)) (x / 1000))) w2 tg2 (k + k2) (z + z2)
            | _ => none) else none
        | _ => none
theorem iw_go_G {L : Nat} {xs : Nat → Int32} {q : Nat} {o : iv_O} : ∀ (n : Nat) {d μ pc : Nat} {lv : List (Nat × Value)} {st : List Value} {w : iv_W} {tg : Bool} {k z : Nat} {lv2 : List (Nat × Value)} {st2 : List Value} {w2 : iv_W} {tg2 : Bool} {k2 z2 : Nat}, iw_go L xs q n d μ pc lv st w tg k z = some (lv2, st2, w2, tg2, k2, z2) → iv_G L xs d μ q lv2 st2 w2 tg2 k2 z2 o → iv_G L xs d μ pc lv st w tg k z o
  | 0, _, _, _, _, _, _, _, _, _, _, _, _, _, _, _, h, _ => by simp [iw_go] at h
  | n + 1, d, μ, pc, lv, st, w, tg, k, z, lv2, st2, w2, tg2, k2, z2, h, hg => by
    unfold iw_go at h
    split at h
    next hq =>
      have hq := Nat.eq_of_beq_eq_true hq
      subst hq
      simp only [Option.some.injEq, Prod.mk.injEq] at h
      obtain ⟨rfl, rfl, rfl, rfl, rfl, rfl⟩ := h
      exact hg
    next =>
    split at h
    · cases h
    next i x e0 =>
    split at h
    next hk =>
      split at h
      · cases h
      next e1 => exact iv_G1 (by simp only [iv_nx, e0, hk, e1]) (iw_go_G n h hg)
    next hk =>
      split at h
      · cases h
      next =>
      split at h
      · cases h
      next e1 => exact iv_Gnew e0 hk e1 (iw_go_G n h hg)
    next hk =>
      split at h
      · cases h
      next e1 => exact iv_G1 (by simp only [iv_nx, e0, hk, e1]) (iw_go_G n h hg)
    next hk =>
      split at h
      · cases h
      next d2 =>
      split at h
      next hc =>
        split at h
        next e1 => exact iv_Gcall e0 hk rfl rfl rfl hc.1 rfl hc.2.1 hc.2.2 ⟨n, e1⟩ (iw_go_G n h hg)
        · cases h
      · cases h
    · cases h
-- numbers
theorem iw_on {j : Nat} (h : j < 4000) : (Int32.ofNat j).toInt = j := Int32.toInt_ofNat_of_lt (by omega)
theorem iw_on1 (j : Nat) : Int32.ofNat j + Int32.ofInt 1 = Int32.ofNat (j + 1) := by rw [Int32.ofNat_add]; rfl
theorem iw_onc {j : Nat} (h : j < 4000) : (Int32.ofNat j).toNatClampNeg = j := by
  have : (Int32.ofNat j).toNatClampNeg = (Int32.ofNat j).toInt.toNat := rfl
  rw [this, iw_on h]
  rfl
theorem iw_oni {j n : Nat} (h : j < 4000) (hn : j < n) : iv_in (Int32.ofNat j) n = true := by
  unfold iv_in
  rw [iw_onc h]
  have h0 : ¬ (Int32.ofNat j < 0) := by
    rw [Int32.lt_iff_toInt_lt, iw_on h]
    show ¬ ((j : Int) < 0)
    omega
  simp [h0, hn]
theorem iw_gef {j m : Nat} (h : j < m) (hm : m < 4000) : iv_c2 .ge (Int32.ofNat j) (Int32.ofNat m) = false := by
  show decide (Int32.ofNat m ≤ Int32.ofNat j) = false
  rw [decide_eq_false_iff_not, Int32.le_iff_toInt_le, iw_on (by omega : j < 4000), iw_on hm]
  omega
theorem iw_get {j m : Nat} (h : m ≤ j) (hm : j < 4000) : iv_c2 .ge (Int32.ofNat j) (Int32.ofNat m) = true := by
  show decide (Int32.ofNat m ≤ Int32.ofNat j) = true
  rw [decide_eq_true_iff, Int32.le_iff_toInt_le, iw_on hm, iw_on (by omega : m < 4000)]
  omega
theorem iw_sub64 {j : Nat} (h : 64 ≤ j) : Int32.ofNat j - Int32.ofNat 64 = Int32.ofNat (j - 64) := by
  have : Int32.ofNat j = Int32.ofNat (j - 64) + Int32.ofNat 64 := by rw [← Int32.ofNat_add]; congr 1; omega
  rw [this]
  exact Int32.add_sub_cancel _ _
theorem iw_add2048 (j : Nat) : Int32.ofNat 2048 + Int32.ofNat j = Int32.ofNat (2048 + j) := by rw [← Int32.ofNat_add]
theorem iw_b64 : (Int8.ofInt 64).toInt32 = Int32.ofNat 64 := by decide
theorem iw_s2112 : (Int16.ofInt 2112).toInt32 = Int32.ofNat 2112 := by decide
-- steps that look at the world
section
variable {L : Nat} {xs : Nat → Int32} {d μ pc pc2 x n a : Nat} {lv lv2 : List (Nat × Value)} {r st2 : List Value} {w w2 : iv_W} {tg : Bool} {k z : Nat} {o : iv_O}
theorem iw_gf {fs : List Value} {v : Value} {c : Nat} (hl : iv_look (iv_t μ) pc = some (.getfield n, x)) (hc : x / 100 = c) (hx : iv_obj w a c = some fs) (hv : fs[x % 100]? = some v) : iv_nx L xs μ pc lv (.ref a :: r) w = some (pc + 3, lv, v :: r, w) := by
  subst hc
  simp [iv_nx, hl, iv_kd, iv_step, iv_pr, hx, hv]
theorem iw_al {t m : Nat} (hl : iv_look (iv_t μ) pc = some (.arraylength, x)) (ha : a ≠ 0) (h : iv_len w a = some (t, m)) : iv_nx L xs μ pc lv (.ref a :: r) w = some (pc + 1, lv, .int (Int32.ofNat m) :: r, w) := by
  simp [iv_nx, hl, iv_kd, iv_step, iv_pr, ha, h]
theorem iw_ia {j m : Nat} {f : Nat → Int32} (hl : iv_look (iv_t μ) pc = some (.iaload, x)) (ha : a ≠ 0) (h : iv_ai w a 0 = some (m, f)) (hj : j < 4000) (hm : j < m) : iv_nx L xs μ pc lv (.int (Int32.ofNat j) :: .ref a :: r) w = some (pc + 1, lv, .int (f j) :: r, w) := by
  simp [iv_nx, hl, iv_kd, iv_step, iv_pir, ha, h, iw_oni hj hm, iw_onc hj]
theorem iw_is {j m : Nat} {f : Nat → Int32} {v : Int32} (hl : iv_look (iv_t μ) pc = some (.iastore, x)) (h : iv_ai w a 0 = some (m, f)) (hj : j < 4000) (hm : j < m) : iv_nx L xs μ pc lv (.int v :: .int (Int32.ofNat j) :: .ref a :: r) w = some (pc + 1, lv, r, w.set (a - 1) (.inl (0, m, .inl (upd f j v)))) := by
  simp [iv_nx, hl, iv_kd, iv_step, iv_piir, h, iw_oni hj hm, iw_onc hj]
end
-- the class: how many bytes are others
section
variable {L : Nat} {xs : Nat → Int32} {d : Nat} {w : iv_W} {tg : Bool} {k z : Nat} {o : iv_O}
variable {f g h : Nat → Int32} (hD : iv_obj w 2 3 = some [.ref 3, .ref 4, .ref 5, .int 0, .int 2, .int 0, .int 0]) (l3 : iv_len w 3 = some (0, 2048)) (l4 : iv_len w 4 = some (0, 64)) (h3 : iv_ai w 3 0 = some (2048, f)) (h4 : iv_ai w 4 0 = some (64, g)) (h31 : iv_ai w 31 0 = some (2112, h))
include hD l3 l4 h3 h4 h31
set_option maxRecDepth 1000000 in
set_option maxHeartbeats 40000000 in
theorem iw_c1e {j : Nat} {c : Int32} (hj : j < 2048) (he : f j = h j) (hg : iv_G L xs d 76 4 [(3, .int (Int32.ofNat (j + 1))), (2, .int (c)), (0, .ref 2), (1, .ref 31)] [] w tg k z o) : iv_G L xs d 76 4 [(3, .int (Int32.ofNat j)), (2, .int (c)), (0, .ref 2), (1, .ref 31)] [] w tg k z o := by
  refine iv_G1 (pc2 := 5) (lv2 := [(3, .int (Int32.ofNat j)), (2, .int (c)), (0, .ref 2), (1, .ref 31)]) (st2 := [.int (Int32.ofNat j)]) (w2 := w) rfl ?_
  refine iv_G1 (pc2 := 6) (lv2 := [(3, .int (Int32.ofNat j)), (2, .int (c)), (0, .ref 2), (1, .ref 31)]) (st2 := [.ref 2, .int (Int32.ofNat j)]) (w2 := w) rfl ?_
  refine iv_G1 (pc2 := 9) (lv2 := [(3, .int (Int32.ofNat j)), (2, .int (c)), (0, .ref 2), (1, .ref 31)]) (st2 := [.ref 3, .int (Int32.ofNat j)]) (w2 := w) (iw_gf rfl rfl hD rfl) ?_
  refine iv_G1 (pc2 := 10) (lv2 := [(3, .int (Int32.ofNat j)), (2, .int (c)), (0, .ref 2), (1, .ref 31)]) (st2 := [.int (Int32.ofNat 2048), .int (Int32.ofNat j)]) (w2 := w) (iw_al rfl (by decide) l3) ?_
  refine iv_Gbf (p1 := 34) (p2 := 13) (c := iv_c2 .ge (Int32.ofNat j) (Int32.ofNat 2048)) (lv2 := [(3, .int (Int32.ofNat j)), (2, .int (c)), (0, .ref 2), (1, .ref 31)]) (st2 := []) (w2 := w) rfl (iw_gef hj (by decide)) ?_
  refine iv_G1 (pc2 := 14) (lv2 := [(3, .int (Int32.ofNat j)), (2, .int (c)), (0, .ref 2), (1, .ref 31)]) (st2 := [.ref 2]) (w2 := w) rfl ?_
  refine iv_G1 (pc2 := 17) (lv2 := [(3, .int (Int32.ofNat j)), (2, .int (c)), (0, .ref 2), (1, .ref 31)]) (st2 := [.ref 3]) (w2 := w) (iw_gf rfl rfl hD rfl) ?_
  refine iv_G1 (pc2 := 18) (lv2 := [(3, .int (Int32.ofNat j)), (2, .int (c)), (0, .ref 2), (1, .ref 31)]) (st2 := [.int (Int32.ofNat j), .ref 3]) (w2 := w) rfl ?_
  refine iv_G1 (pc2 := 19) (lv2 := [(3, .int (Int32.ofNat j)), (2, .int (c)), (0, .ref 2), (1, .ref 31)]) (st2 := [.int (f j)]) (w2 := w) (iw_ia rfl (by decide) h3 (by omega) hj) ?_
  refine iv_G1 (pc2 := 20) (lv2 := [(3, .int (Int32.ofNat j)), (2, .int (c)), (0, .ref 2), (1, .ref 31)]) (st2 := [.ref 31, .int (f j)]) (w2 := w) rfl ?_
  refine iv_G1 (pc2 := 21) (lv2 := [(3, .int (Int32.ofNat j)), (2, .int (c)), (0, .ref 2), (1, .ref 31)]) (st2 := [.int (Int32.ofNat j), .ref 31, .int (f j)]) (w2 := w) rfl ?_
  refine iv_G1 (pc2 := 22) (lv2 := [(3, .int (Int32.ofNat j)), (2, .int (c)), (0, .ref 2), (1, .ref 31)]) (st2 := [.int (h j), .int (f j)]) (w2 := w) (iw_ia rfl (by decide) h31 (by omega) (by omega)) ?_
  refine iv_Gbt (p1 := 28) (p2 := 25) (c := iv_c2 .eq (f j) (h j)) (lv2 := [(3, .int (Int32.ofNat j)), (2, .int (c)), (0, .ref 2), (1, .ref 31)]) (st2 := []) (w2 := w) rfl (decide_eq_true he) ?_
  refine iv_G1 (pc2 := 31) (lv2 := [(3, .int (Int32.ofNat j + Int32.ofInt 1)), (2, .int (c)), (0, .ref 2), (1, .ref 31)]) (st2 := []) (w2 := w) rfl ?_
  refine iv_G1 (pc2 := 4) (lv2 := [(3, .int (Int32.ofNat j + Int32.ofInt 1)), (2, .int (c)), (0, .ref 2), (1, .ref 31)]) (st2 := []) (w2 := w) rfl ?_
  rw [iw_on1]
  exact hg
set_option maxRecDepth 1000000 in
set_option maxHeartbeats 40000000 in
theorem iw_c1n {j : Nat} {c : Int32} (hj : j < 2048) (he : ¬ f j = h j) (hg : iv_G L xs d 76 4 [(3, .int (Int32.ofNat (j + 1))), (2, .int (c + Int32.ofInt 1)), (0, .ref 2), (1, .ref 31)] [] w tg k z o) : iv_G L xs d 76 4 [(3, .int (Int32.ofNat j)), (2, .int (c)), (0, .ref 2), (1, .ref 31)] [] w tg k z o := by
  refine iv_G1 (pc2 := 5) (lv2 := [(3, .int (Int32.ofNat j)), (2, .int (c)), (0, .ref 2), (1, .ref 31)]) (st2 := [.int (Int32.ofNat j)]) (w2 := w) rfl ?_
  refine iv_G1 (pc2 := 6) (lv2 := [(3, .int (Int32.ofNat j)), (2, .int (c)), (0, .ref 2), (1, .ref 31)]) (st2 := [.ref 2, .int (Int32.ofNat j)]) (w2 := w) rfl ?_
  refine iv_G1 (pc2 := 9) (lv2 := [(3, .int (Int32.ofNat j)), (2, .int (c)), (0, .ref 2), (1, .ref 31)]) (st2 := [.ref 3, .int (Int32.ofNat j)]) (w2 := w) (iw_gf rfl rfl hD rfl) ?_
  refine iv_G1 (pc2 := 10) (lv2 := [(3, .int (Int32.ofNat j)), (2, .int (c)), (0, .ref 2), (1, .ref 31)]) (st2 := [.int (Int32.ofNat 2048), .int (Int32.ofNat j)]) (w2 := w) (iw_al rfl (by decide) l3) ?_
  refine iv_Gbf (p1 := 34) (p2 := 13) (c := iv_c2 .ge (Int32.ofNat j) (Int32.ofNat 2048)) (lv2 := [(3, .int (Int32.ofNat j)), (2, .int (c)), (0, .ref 2), (1, .ref 31)]) (st2 := []) (w2 := w) rfl (iw_gef hj (by decide)) ?_
  refine iv_G1 (pc2 := 14) (lv2 := [(3, .int (Int32.ofNat j)), (2, .int (c)), (0, .ref 2), (1, .ref 31)]) (st2 := [.ref 2]) (w2 := w) rfl ?_
  refine iv_G1 (pc2 := 17) (lv2 := [(3, .int (Int32.ofNat j)), (2, .int (c)), (0, .ref 2), (1, .ref 31)]) (st2 := [.ref 3]) (w2 := w) (iw_gf rfl rfl hD rfl) ?_
  refine iv_G1 (pc2 := 18) (lv2 := [(3, .int (Int32.ofNat j)), (2, .int (c)), (0, .ref 2), (1, .ref 31)]) (st2 := [.int (Int32.ofNat j), .ref 3]) (w2 := w) rfl ?_
  refine iv_G1 (pc2 := 19) (lv2 := [(3, .int (Int32.ofNat j)), (2, .int (c)), (0, .ref 2), (1, .ref 31)]) (st2 := [.int (f j)]) (w2 := w) (iw_ia rfl (by decide) h3 (by omega) hj) ?_
  refine iv_G1 (pc2 := 20) (lv2 := [(3, .int (Int32.ofNat j)), (2, .int (c)), (0, .ref 2), (1, .ref 31)]) (st2 := [.ref 31, .int (f j)]) (w2 := w) rfl ?_
  refine iv_G1 (pc2 := 21) (lv2 := [(3, .int (Int32.ofNat j)), (2, .int (c)), (0, .ref 2), (1, .ref 31)]) (st2 := [.int (Int32.ofNat j), .ref 31, .int (f j)]) (w2 := w) rfl ?_
  refine iv_G1 (pc2 := 22) (lv2 := [(3, .int (Int32.ofNat j)), (2, .int (c)), (0, .ref 2), (1, .ref 31)]) (st2 := [.int (h j), .int (f j)]) (w2 := w) (iw_ia rfl (by decide) h31 (by omega) (by omega)) ?_
  refine iv_Gbf (p1 := 28) (p2 := 25) (c := iv_c2 .eq (f j) (h j)) (lv2 := [(3, .int (Int32.ofNat j)), (2, .int (c)), (0, .ref 2), (1, .ref 31)]) (st2 := []) (w2 := w) rfl (decide_eq_false he) ?_
  refine iv_G1 (pc2 := 28) (lv2 := [(2, .int (c + Int32.ofInt 1)), (3, .int (Int32.ofNat j)), (0, .ref 2), (1, .ref 31)]) (st2 := []) (w2 := w) rfl ?_
  refine iv_G1 (pc2 := 31) (lv2 := [(3, .int (Int32.ofNat j + Int32.ofInt 1)), (2, .int (c + Int32.ofInt 1)), (0, .ref 2), (1, .ref 31)]) (st2 := []) (w2 := w) rfl ?_
  refine iv_G1 (pc2 := 4) (lv2 := [(3, .int (Int32.ofNat j + Int32.ofInt 1)), (2, .int (c + Int32.ofInt 1)), (0, .ref 2), (1, .ref 31)]) (st2 := []) (w2 := w) rfl ?_
  rw [iw_on1]
  exact hg
theorem iw_c1s {c : Int32} : ∀ (m : Nat) (j : Nat), j + m ≤ 2048 → (∀ i, j ≤ i → i < j + m → f i = h i) → iv_G L xs d 76 4 [(3, .int (Int32.ofNat (j + m))), (2, .int (c)), (0, .ref 2), (1, .ref 31)] [] w tg k z o → iv_G L xs d 76 4 [(3, .int (Int32.ofNat j)), (2, .int (c)), (0, .ref 2), (1, .ref 31)] [] w tg k z o
  | 0, j, _, _, hg => hg
  | m + 1, j, hm, he, hg => iw_c1e hD l3 l4 h3 h4 h31 (by omega) (he j (by omega) (by omega)) (iw_c1s m (j + 1) (by omega) (fun i h1 h2 => he i (by omega) (by omega)) (by rw [show j + 1 + m = j + (m + 1) by omega]; exact hg))
set_option maxRecDepth 1000000 in
set_option maxHeartbeats 40000000 in
theorem iw_c1x {c : Int32} (hg : iv_G L xs d 76 36 [(3, .int (Int32.ofNat 0)), (2, .int (c)), (0, .ref 2), (1, .ref 31)] [] w tg k z o) : iv_G L xs d 76 4 [(3, .int (Int32.ofNat 2048)), (2, .int (c)), (0, .ref 2), (1, .ref 31)] [] w tg k z o := by
  refine iv_G1 (pc2 := 5) (lv2 := [(3, .int (Int32.ofNat 2048)), (2, .int (c)), (0, .ref 2), (1, .ref 31)]) (st2 := [.int (Int32.ofNat 2048)]) (w2 := w) rfl ?_
  refine iv_G1 (pc2 := 6) (lv2 := [(3, .int (Int32.ofNat 2048)), (2, .int (c)), (0, .ref 2), (1, .ref 31)]) (st2 := [.ref 2, .int (Int32.ofNat 2048)]) (w2 := w) rfl ?_
  refine iv_G1 (pc2 := 9) (lv2 := [(3, .int (Int32.ofNat 2048)), (2, .int (c)), (0, .ref 2), (1, .ref 31)]) (st2 := [.ref 3, .int (Int32.ofNat 2048)]) (w2 := w) (iw_gf rfl rfl hD rfl) ?_
  refine iv_G1 (pc2 := 10) (lv2 := [(3, .int (Int32.ofNat 2048)), (2, .int (c)), (0, .ref 2), (1, .ref 31)]) (st2 := [.int (Int32.ofNat 2048), .int (Int32.ofNat 2048)]) (w2 := w) (iw_al rfl (by decide) l3) ?_
  refine iv_Gbt (p1 := 34) (p2 := 13) (c := iv_c2 .ge (Int32.ofNat 2048) (Int32.ofNat 2048)) (lv2 := [(3, .int (Int32.ofNat 2048)), (2, .int (c)), (0, .ref 2), (1, .ref 31)]) (st2 := []) (w2 := w) rfl (iw_get (Nat.le_refl _) (by decide)) ?_
  refine iv_G1 (pc2 := 35) (lv2 := [(3, .int (Int32.ofNat 2048)), (2, .int (c)), (0, .ref 2), (1, .ref 31)]) (st2 := [.int (Int32.ofInt 0)]) (w2 := w) rfl ?_
  refine iv_G1 (pc2 := 36) (lv2 := [(3, .int (Int32.ofInt 0)), (2, .int (c)), (0, .ref 2), (1, .ref 31)]) (st2 := []) (w2 := w) rfl ?_
  exact hg
set_option maxRecDepth 1000000 in
set_option maxHeartbeats 40000000 in
theorem iw_c2e {j : Nat} {c : Int32} (hj : j < 64) (he : g j = h (2048 + j)) (hg : iv_G L xs d 76 36 [(3, .int (Int32.ofNat (j + 1))), (2, .int (c)), (0, .ref 2), (1, .ref 31)] [] w tg k z o) : iv_G L xs d 76 36 [(3, .int (Int32.ofNat j)), (2, .int (c)), (0, .ref 2), (1, .ref 31)] [] w tg k z o := by
  refine iv_G1 (pc2 := 37) (lv2 := [(3, .int (Int32.ofNat j)), (2, .int (c)), (0, .ref 2), (1, .ref 31)]) (st2 := [.int (Int32.ofNat j)]) (w2 := w) rfl ?_
  refine iv_G1 (pc2 := 38) (lv2 := [(3, .int (Int32.ofNat j)), (2, .int (c)), (0, .ref 2), (1, .ref 31)]) (st2 := [.ref 2, .int (Int32.ofNat j)]) (w2 := w) rfl ?_
  refine iv_G1 (pc2 := 41) (lv2 := [(3, .int (Int32.ofNat j)), (2, .int (c)), (0, .ref 2), (1, .ref 31)]) (st2 := [.ref 4, .int (Int32.ofNat j)]) (w2 := w) (iw_gf rfl rfl hD rfl) ?_
  refine iv_G1 (pc2 := 42) (lv2 := [(3, .int (Int32.ofNat j)), (2, .int (c)), (0, .ref 2), (1, .ref 31)]) (st2 := [.int (Int32.ofNat 64), .int (Int32.ofNat j)]) (w2 := w) (iw_al rfl (by decide) l4) ?_
  refine iv_Gbf (p1 := 72) (p2 := 45) (c := iv_c2 .ge (Int32.ofNat j) (Int32.ofNat 64)) (lv2 := [(3, .int (Int32.ofNat j)), (2, .int (c)), (0, .ref 2), (1, .ref 31)]) (st2 := []) (w2 := w) rfl (iw_gef hj (by decide)) ?_
  refine iv_G1 (pc2 := 46) (lv2 := [(3, .int (Int32.ofNat j)), (2, .int (c)), (0, .ref 2), (1, .ref 31)]) (st2 := [.ref 2]) (w2 := w) rfl ?_
  refine iv_G1 (pc2 := 49) (lv2 := [(3, .int (Int32.ofNat j)), (2, .int (c)), (0, .ref 2), (1, .ref 31)]) (st2 := [.ref 4]) (w2 := w) (iw_gf rfl rfl hD rfl) ?_
  refine iv_G1 (pc2 := 50) (lv2 := [(3, .int (Int32.ofNat j)), (2, .int (c)), (0, .ref 2), (1, .ref 31)]) (st2 := [.int (Int32.ofNat j), .ref 4]) (w2 := w) rfl ?_
  refine iv_G1 (pc2 := 51) (lv2 := [(3, .int (Int32.ofNat j)), (2, .int (c)), (0, .ref 2), (1, .ref 31)]) (st2 := [.int (g j)]) (w2 := w) (iw_ia rfl (by decide) h4 (by omega) hj) ?_
  refine iv_G1 (pc2 := 52) (lv2 := [(3, .int (Int32.ofNat j)), (2, .int (c)), (0, .ref 2), (1, .ref 31)]) (st2 := [.ref 31, .int (g j)]) (w2 := w) rfl ?_
  refine iv_G1 (pc2 := 53) (lv2 := [(3, .int (Int32.ofNat j)), (2, .int (c)), (0, .ref 2), (1, .ref 31)]) (st2 := [.ref 2, .ref 31, .int (g j)]) (w2 := w) rfl ?_
  refine iv_G1 (pc2 := 56) (lv2 := [(3, .int (Int32.ofNat j)), (2, .int (c)), (0, .ref 2), (1, .ref 31)]) (st2 := [.ref 3, .ref 31, .int (g j)]) (w2 := w) (iw_gf rfl rfl hD rfl) ?_
  refine iv_G1 (pc2 := 57) (lv2 := [(3, .int (Int32.ofNat j)), (2, .int (c)), (0, .ref 2), (1, .ref 31)]) (st2 := [.int (Int32.ofNat 2048), .ref 31, .int (g j)]) (w2 := w) (iw_al rfl (by decide) l3) ?_
  refine iv_G1 (pc2 := 58) (lv2 := [(3, .int (Int32.ofNat j)), (2, .int (c)), (0, .ref 2), (1, .ref 31)]) (st2 := [.int (Int32.ofNat j), .int (Int32.ofNat 2048), .ref 31, .int (g j)]) (w2 := w) rfl ?_
  refine iv_G1 (pc2 := 59) (lv2 := [(3, .int (Int32.ofNat j)), (2, .int (c)), (0, .ref 2), (1, .ref 31)]) (st2 := [.int (Int32.ofNat 2048 + Int32.ofNat j), .ref 31, .int (g j)]) (w2 := w) rfl ?_
  rw [iw_add2048]
  refine iv_G1 (pc2 := 60) (lv2 := [(3, .int (Int32.ofNat j)), (2, .int (c)), (0, .ref 2), (1, .ref 31)]) (st2 := [.int (h (2048 + j)), .int (g j)]) (w2 := w) (iw_ia rfl (by decide) h31 (by omega) (by omega)) ?_
  refine iv_Gbt (p1 := 66) (p2 := 63) (c := iv_c2 .eq (g j) (h (2048 + j))) (lv2 := [(3, .int (Int32.ofNat j)), (2, .int (c)), (0, .ref 2), (1, .ref 31)]) (st2 := []) (w2 := w) rfl (decide_eq_true he) ?_
  refine iv_G1 (pc2 := 69) (lv2 := [(3, .int (Int32.ofNat j + Int32.ofInt 1)), (2, .int (c)), (0, .ref 2), (1, .ref 31)]) (st2 := []) (w2 := w) rfl ?_
  refine iv_G1 (pc2 := 36) (lv2 := [(3, .int (Int32.ofNat j + Int32.ofInt 1)), (2, .int (c)), (0, .ref 2), (1, .ref 31)]) (st2 := []) (w2 := w) rfl ?_
  rw [iw_on1]
  exact hg
theorem iw_c2s {c : Int32} : ∀ (m : Nat) (j : Nat), j + m ≤ 64 → (∀ i, j ≤ i → i < j + m → g i = h (2048 + i)) → iv_G L xs d 76 36 [(3, .int (Int32.ofNat (j + m))), (2, .int (c)), (0, .ref 2), (1, .ref 31)] [] w tg k z o → iv_G L xs d 76 36 [(3, .int (Int32.ofNat j)), (2, .int (c)), (0, .ref 2), (1, .ref 31)] [] w tg k z o
  | 0, j, _, _, hg => hg
  | m + 1, j, hm, he, hg => iw_c2e hD l3 l4 h3 h4 h31 (by omega) (he j (by omega) (by omega)) (iw_c2s m (j + 1) (by omega) (fun i h1 h2 => he i (by omega) (by omega)) (by rw [show j + 1 + m = j + (m + 1) by omega]; exact hg))
set_option maxRecDepth 1000000 in
set_option maxHeartbeats 40000000 in
theorem iw_c2x {c : Int32} : iv_G L xs d 76 36 [(3, .int (Int32.ofNat 64)), (2, .int (c)), (0, .ref 2), (1, .ref 31)] [] w tg k z (.inl (some (.int c)), w, tg, k, z) := by
  refine iv_G1 (pc2 := 37) (lv2 := [(3, .int (Int32.ofNat 64)), (2, .int (c)), (0, .ref 2), (1, .ref 31)]) (st2 := [.int (Int32.ofNat 64)]) (w2 := w) rfl ?_
  refine iv_G1 (pc2 := 38) (lv2 := [(3, .int (Int32.ofNat 64)), (2, .int (c)), (0, .ref 2), (1, .ref 31)]) (st2 := [.ref 2, .int (Int32.ofNat 64)]) (w2 := w) rfl ?_
  refine iv_G1 (pc2 := 41) (lv2 := [(3, .int (Int32.ofNat 64)), (2, .int (c)), (0, .ref 2), (1, .ref 31)]) (st2 := [.ref 4, .int (Int32.ofNat 64)]) (w2 := w) (iw_gf rfl rfl hD rfl) ?_
  refine iv_G1 (pc2 := 42) (lv2 := [(3, .int (Int32.ofNat 64)), (2, .int (c)), (0, .ref 2), (1, .ref 31)]) (st2 := [.int (Int32.ofNat 64), .int (Int32.ofNat 64)]) (w2 := w) (iw_al rfl (by decide) l4) ?_
  refine iv_Gbt (p1 := 72) (p2 := 45) (c := iv_c2 .ge (Int32.ofNat 64) (Int32.ofNat 64)) (lv2 := [(3, .int (Int32.ofNat 64)), (2, .int (c)), (0, .ref 2), (1, .ref 31)]) (st2 := []) (w2 := w) rfl (iw_get (Nat.le_refl _) (by decide)) ?_
  refine iv_G1 (pc2 := 73) (lv2 := [(3, .int (Int32.ofNat 64)), (2, .int (c)), (0, .ref 2), (1, .ref 31)]) (st2 := [.int c]) (w2 := w) rfl ?_
  exact iv_Gret (i := .ireturn) (x := 0) rfl rfl rfl
set_option maxRecDepth 1000000 in
set_option maxHeartbeats 40000000 in
theorem iw_c76 (h1 : ∀ i, 0 ≤ i → i < 0 + 128 → f i = h i) (n1 : ¬ f 128 = h 128) (n2 : ¬ f 129 = h 129) (n3 : ¬ f 130 = h 130) (n4 : ¬ f 131 = h 131) (h2 : ∀ i, 132 ≤ i → i < 132 + 1916 → f i = h i) (h5 : ∀ i, 0 ≤ i → i < 0 + 64 → g i = h (2048 + i)) : iv_G L xs d 76 0 (lv_args 0 [.ref 2, .ref 31]) [] w tg k z (.inl (some (.int 4)), w, tg, k, z) := by
  show iv_G L xs d 76 0 [(0, .ref 2), (1, .ref 31)] [] w tg k z _
  refine iv_G1 (pc2 := 1) (lv2 := [(0, .ref 2), (1, .ref 31)]) (st2 := [.int (Int32.ofInt 0)]) (w2 := w) rfl ?_
  refine iv_G1 (pc2 := 2) (lv2 := [(2, .int (Int32.ofInt 0)), (0, .ref 2), (1, .ref 31)]) (st2 := []) (w2 := w) rfl ?_
  refine iv_G1 (pc2 := 3) (lv2 := [(2, .int (Int32.ofInt 0)), (0, .ref 2), (1, .ref 31)]) (st2 := [.int (Int32.ofInt 0)]) (w2 := w) rfl ?_
  refine iv_G1 (pc2 := 4) (lv2 := [(3, .int (Int32.ofInt 0)), (2, .int (Int32.ofInt 0)), (0, .ref 2), (1, .ref 31)]) (st2 := []) (w2 := w) rfl ?_
  refine iw_c1s hD l3 l4 h3 h4 h31 128 0 (by omega) h1 ?_
  refine iw_c1n hD l3 l4 h3 h4 h31 (j := 128) (by omega) n1 ?_
  refine iw_c1n hD l3 l4 h3 h4 h31 (j := 129) (by omega) n2 ?_
  refine iw_c1n hD l3 l4 h3 h4 h31 (j := 130) (by omega) n3 ?_
  refine iw_c1n hD l3 l4 h3 h4 h31 (j := 131) (by omega) n4 ?_
  refine iw_c1s hD l3 l4 h3 h4 h31 1916 132 (by omega) h2 ?_
  refine iw_c1x hD l3 l4 h3 h4 h31 ?_
  refine iw_c2s hD l3 l4 h3 h4 h31 64 0 (by omega) h5 ?_
  exact iw_c2x hD l3 l4 h3 h4 h31
end
-- the reference: what was before
def iw_ws (w : iv_W) (g : Nat → Int32) : iv_W := w.set 59 (.inl (0, 2112, .inl g))
def iw_bf (f g h : Nat → Int32) (s : Nat) : Nat → Int32 := fun j => if j < s then (if j < 64 then f j else g (j - 64)) else h j
theorem iw_bf_a {f g h : Nat → Int32} {s : Nat} (hs : s < 64) : upd (iw_bf f g h s) s (f s) = iw_bf f g h (s + 1) := by
  funext j
  simp only [upd, iw_bf]
  by_cases h1 : j = s
  · subst h1; simp [hs]
  · by_cases h2 : j < s
    · simp [h1, h2, show j < s + 1 by omega]
    · simp [h1, h2, show ¬ j < s + 1 by omega]
theorem iw_bf_b {f g h : Nat → Int32} {s : Nat} (hs : ¬ s < 64) : upd (iw_bf f g h s) s (g (s - 64)) = iw_bf f g h (s + 1) := by
  funext j
  simp only [upd, iw_bf]
  by_cases h1 : j = s
  · subst h1; simp [hs]
  · by_cases h2 : j < s
    · simp [h1, h2, show j < s + 1 by omega]
    · simp [h1, h2, show ¬ j < s + 1 by omega]
theorem iw_bf_0 {f g h : Nat → Int32} : iw_bf f g h 0 = h := by
  funext j
  simp [iw_bf]
theorem iw_ws_obj {w : iv_W} {g : Nat → Int32} {a c : Nat} (ha : ¬ a = 60) : iv_obj (iw_ws w g) a c = iv_obj w a c := by
  cases a with
  | zero => rfl
  | succ k =>
    simp only [iv_obj, iw_ws, List.getElem?_set]
    rw [if_neg (by omega)]
theorem iw_ws_ai {w : iv_W} {g : Nat → Int32} {a t : Nat} (ha : ¬ a = 60) : iv_ai (iw_ws w g) a t = iv_ai w a t := by
  cases a with
  | zero => rfl
  | succ k =>
    simp only [iv_ai, iw_ws, List.getElem?_set]
    rw [if_neg (by omega)]
theorem iw_ws_60 {w : iv_W} {g : Nat → Int32} (hw : 59 < w.length) : iv_ai (iw_ws w g) 60 0 = some (2112, g) := by
  simp [iv_ai, iw_ws, hw]
theorem iw_ws_self {w : iv_W} {g : Nat → Int32} (h : iv_ai w 60 0 = some (2112, g)) : iw_ws w g = w := by
  obtain ⟨q, h1, h2⟩ := iv_ai_eq h
  have h1 : q = 59 := by omega
  subst h1
  apply List.ext_getElem?
  intro i
  simp only [iw_ws, List.getElem?_set]
  by_cases hi : 59 = i
  · subst hi
    rw [if_pos rfl, h2]
    have hl : 59 < w.length := (List.getElem?_eq_some_iff.mp h2).1
    rw [if_pos hl]
  · rw [if_neg hi]
section
variable {L : Nat} {xs : Nat → Int32} {d : Nat} {w : iv_W} {tg : Bool} {k z : Nat} {o : iv_O}
variable {f g h : Nat → Int32} (hw : 59 < w.length) (hM : iv_obj w 44 9 = some [.int 0, .int 0, .ref 45, .ref 46, .ref 47, .int 0, .int 2, .ref 48, .int 0, .int 0, .int 0, .ref 49, .ref 50, .int 0, .ref 51, .ref 52, .ref 53, .ref 54, .ref 55, .ref 56, .int 0, .ref 57, .ref 58, .ref 59, .ref 60, .ref 61, .ref 62, .ref 63, .ref 64]) (h46 : iv_ai w 46 0 = some (64, f)) (h47 : iv_ai w 47 0 = some (2048, g))
include hw hM h46 h47
set_option maxRecDepth 1000000 in
set_option maxHeartbeats 40000000 in
theorem iw_r1a {j : Nat} (hj : j < 2112) (hs : j < 64) (hg : iv_G L xs d 186 20 [(1, .int (Int32.ofNat (j + 1))), (0, .ref 44)] [] (iw_ws w (iw_bf f g h (j + 1))) tg k z o) : iv_G L xs d 186 20 [(1, .int (Int32.ofNat j)), (0, .ref 44)] [] (iw_ws w (iw_bf f g h j)) tg k z o := by
  refine iv_G1 (pc2 := 21) (lv2 := [(1, .int (Int32.ofNat j)), (0, .ref 44)]) (st2 := [.int (Int32.ofNat j)]) (w2 := iw_ws w (iw_bf f g h j)) rfl ?_
  refine iv_G1 (pc2 := 24) (lv2 := [(1, .int (Int32.ofNat j)), (0, .ref 44)]) (st2 := [.int (Int32.ofNat 2112), .int (Int32.ofNat j)]) (w2 := iw_ws w (iw_bf f g h j)) rfl ?_
  refine iv_Gbf (p1 := 63) (p2 := 27) (c := iv_c2 .ge (Int32.ofNat j) (Int32.ofNat 2112)) (lv2 := [(1, .int (Int32.ofNat j)), (0, .ref 44)]) (st2 := []) (w2 := iw_ws w (iw_bf f g h j)) rfl (iw_gef hj (by decide)) ?_
  refine iv_G1 (pc2 := 28) (lv2 := [(1, .int (Int32.ofNat j)), (0, .ref 44)]) (st2 := [.ref 44]) (w2 := iw_ws w (iw_bf f g h j)) rfl ?_
  refine iv_G1 (pc2 := 31) (lv2 := [(1, .int (Int32.ofNat j)), (0, .ref 44)]) (st2 := [.ref 60]) (w2 := iw_ws w (iw_bf f g h j)) (iw_gf rfl rfl ((iw_ws_obj (by decide)).trans hM) rfl) ?_
  refine iv_G1 (pc2 := 32) (lv2 := [(1, .int (Int32.ofNat j)), (0, .ref 44)]) (st2 := [.int (Int32.ofNat j), .ref 60]) (w2 := iw_ws w (iw_bf f g h j)) rfl ?_
  refine iv_G1 (pc2 := 33) (lv2 := [(1, .int (Int32.ofNat j)), (0, .ref 44)]) (st2 := [.int (Int32.ofNat j), .int (Int32.ofNat j), .ref 60]) (w2 := iw_ws w (iw_bf f g h j)) rfl ?_
  refine iv_G1 (pc2 := 35) (lv2 := [(1, .int (Int32.ofNat j)), (0, .ref 44)]) (st2 := [.int (Int32.ofNat 64), .int (Int32.ofNat j), .int (Int32.ofNat j), .ref 60]) (w2 := iw_ws w (iw_bf f g h j)) rfl ?_
  refine iv_Gbf (p1 := 47) (p2 := 38) (c := iv_c2 .ge (Int32.ofNat j) (Int32.ofNat 64)) (lv2 := [(1, .int (Int32.ofNat j)), (0, .ref 44)]) (st2 := [.int (Int32.ofNat j), .ref 60]) (w2 := iw_ws w (iw_bf f g h j)) rfl (iw_gef hs (by decide)) ?_
  refine iv_G1 (pc2 := 39) (lv2 := [(1, .int (Int32.ofNat j)), (0, .ref 44)]) (st2 := [.ref 44, .int (Int32.ofNat j), .ref 60]) (w2 := iw_ws w (iw_bf f g h j)) rfl ?_
  refine iv_G1 (pc2 := 42) (lv2 := [(1, .int (Int32.ofNat j)), (0, .ref 44)]) (st2 := [.ref 46, .int (Int32.ofNat j), .ref 60]) (w2 := iw_ws w (iw_bf f g h j)) (iw_gf rfl rfl ((iw_ws_obj (by decide)).trans hM) rfl) ?_
  refine iv_G1 (pc2 := 43) (lv2 := [(1, .int (Int32.ofNat j)), (0, .ref 44)]) (st2 := [.int (Int32.ofNat j), .ref 46, .int (Int32.ofNat j), .ref 60]) (w2 := iw_ws w (iw_bf f g h j)) rfl ?_
  refine iv_G1 (pc2 := 44) (lv2 := [(1, .int (Int32.ofNat j)), (0, .ref 44)]) (st2 := [.int (f j), .int (Int32.ofNat j), .ref 60]) (w2 := iw_ws w (iw_bf f g h j)) (iw_ia rfl (by decide) ((iw_ws_ai (by decide)).trans h46) (by omega) hs) ?_
  refine iv_G1 (pc2 := 56) (lv2 := [(1, .int (Int32.ofNat j)), (0, .ref 44)]) (st2 := [.int (f j), .int (Int32.ofNat j), .ref 60]) (w2 := iw_ws w (iw_bf f g h j)) rfl ?_
  refine iv_G1 (pc2 := 57) (lv2 := [(1, .int (Int32.ofNat j)), (0, .ref 44)]) (st2 := []) (w2 := (iw_ws w (iw_bf f g h j)).set (60 - 1) (.inl (0, 2112, .inl (upd (iw_bf f g h j) j (f j))))) (iw_is rfl (iw_ws_60 hw) (by omega) hj) ?_
  rw [show (iw_ws w (iw_bf f g h j)).set (60 - 1) (.inl (0, 2112, .inl (upd (iw_bf f g h j) j (f j)))) = iw_ws w (iw_bf f g h (j + 1)) by rw [iw_bf_a hs]; simp [iw_ws]]
  refine iv_G1 (pc2 := 60) (lv2 := [(1, .int (Int32.ofNat j + Int32.ofInt 1)), (0, .ref 44)]) (st2 := []) (w2 := iw_ws w (iw_bf f g h (j + 1))) rfl ?_
  refine iv_G1 (pc2 := 20) (lv2 := [(1, .int (Int32.ofNat j + Int32.ofInt 1)), (0, .ref 44)]) (st2 := []) (w2 := iw_ws w (iw_bf f g h (j + 1))) rfl ?_
  rw [iw_on1]
  exact hg
set_option maxRecDepth 1000000 in
set_option maxHeartbeats 40000000 in
theorem iw_r1b {j : Nat} (hj : j < 2112) (hs : ¬ j < 64) (hg : iv_G L xs d 186 20 [(1, .int (Int32.ofNat (j + 1))), (0, .ref 44)] [] (iw_ws w (iw_bf f g h (j + 1))) tg k z o) : iv_G L xs d 186 20 [(1, .int (Int32.ofNat j)), (0, .ref 44)] [] (iw_ws w (iw_bf f g h j)) tg k z o := by
  refine iv_G1 (pc2 := 21) (lv2 := [(1, .int (Int32.ofNat j)), (0, .ref 44)]) (st2 := [.int (Int32.ofNat j)]) (w2 := iw_ws w (iw_bf f g h j)) rfl ?_
  refine iv_G1 (pc2 := 24) (lv2 := [(1, .int (Int32.ofNat j)), (0, .ref 44)]) (st2 := [.int (Int32.ofNat 2112), .int (Int32.ofNat j)]) (w2 := iw_ws w (iw_bf f g h j)) rfl ?_
  refine iv_Gbf (p1 := 63) (p2 := 27) (c := iv_c2 .ge (Int32.ofNat j) (Int32.ofNat 2112)) (lv2 := [(1, .int (Int32.ofNat j)), (0, .ref 44)]) (st2 := []) (w2 := iw_ws w (iw_bf f g h j)) rfl (iw_gef hj (by decide)) ?_
  refine iv_G1 (pc2 := 28) (lv2 := [(1, .int (Int32.ofNat j)), (0, .ref 44)]) (st2 := [.ref 44]) (w2 := iw_ws w (iw_bf f g h j)) rfl ?_
  refine iv_G1 (pc2 := 31) (lv2 := [(1, .int (Int32.ofNat j)), (0, .ref 44)]) (st2 := [.ref 60]) (w2 := iw_ws w (iw_bf f g h j)) (iw_gf rfl rfl ((iw_ws_obj (by decide)).trans hM) rfl) ?_
  refine iv_G1 (pc2 := 32) (lv2 := [(1, .int (Int32.ofNat j)), (0, .ref 44)]) (st2 := [.int (Int32.ofNat j), .ref 60]) (w2 := iw_ws w (iw_bf f g h j)) rfl ?_
  refine iv_G1 (pc2 := 33) (lv2 := [(1, .int (Int32.ofNat j)), (0, .ref 44)]) (st2 := [.int (Int32.ofNat j), .int (Int32.ofNat j), .ref 60]) (w2 := iw_ws w (iw_bf f g h j)) rfl ?_
  refine iv_G1 (pc2 := 35) (lv2 := [(1, .int (Int32.ofNat j)), (0, .ref 44)]) (st2 := [.int (Int32.ofNat 64), .int (Int32.ofNat j), .int (Int32.ofNat j), .ref 60]) (w2 := iw_ws w (iw_bf f g h j)) rfl ?_
  refine iv_Gbt (p1 := 47) (p2 := 38) (c := iv_c2 .ge (Int32.ofNat j) (Int32.ofNat 64)) (lv2 := [(1, .int (Int32.ofNat j)), (0, .ref 44)]) (st2 := [.int (Int32.ofNat j), .ref 60]) (w2 := iw_ws w (iw_bf f g h j)) rfl (iw_get (by omega) (by omega)) ?_
  refine iv_G1 (pc2 := 48) (lv2 := [(1, .int (Int32.ofNat j)), (0, .ref 44)]) (st2 := [.ref 44, .int (Int32.ofNat j), .ref 60]) (w2 := iw_ws w (iw_bf f g h j)) rfl ?_
  refine iv_G1 (pc2 := 51) (lv2 := [(1, .int (Int32.ofNat j)), (0, .ref 44)]) (st2 := [.ref 47, .int (Int32.ofNat j), .ref 60]) (w2 := iw_ws w (iw_bf f g h j)) (iw_gf rfl rfl ((iw_ws_obj (by decide)).trans hM) rfl) ?_
  refine iv_G1 (pc2 := 52) (lv2 := [(1, .int (Int32.ofNat j)), (0, .ref 44)]) (st2 := [.int (Int32.ofNat j), .ref 47, .int (Int32.ofNat j), .ref 60]) (w2 := iw_ws w (iw_bf f g h j)) rfl ?_
  refine iv_G1 (pc2 := 54) (lv2 := [(1, .int (Int32.ofNat j)), (0, .ref 44)]) (st2 := [.int (Int32.ofNat 64), .int (Int32.ofNat j), .ref 47, .int (Int32.ofNat j), .ref 60]) (w2 := iw_ws w (iw_bf f g h j)) rfl ?_
  refine iv_G1 (pc2 := 55) (lv2 := [(1, .int (Int32.ofNat j)), (0, .ref 44)]) (st2 := [.int (Int32.ofNat j - Int32.ofNat 64), .ref 47, .int (Int32.ofNat j), .ref 60]) (w2 := iw_ws w (iw_bf f g h j)) rfl ?_
  rw [iw_sub64 (by omega)]
  refine iv_G1 (pc2 := 56) (lv2 := [(1, .int (Int32.ofNat j)), (0, .ref 44)]) (st2 := [.int (g (j - 64)), .int (Int32.ofNat j), .ref 60]) (w2 := iw_ws w (iw_bf f g h j)) (iw_ia rfl (by decide) ((iw_ws_ai (by decide)).trans h47) (by omega) (by omega)) ?_
  refine iv_G1 (pc2 := 57) (lv2 := [(1, .int (Int32.ofNat j)), (0, .ref 44)]) (st2 := []) (w2 := (iw_ws w (iw_bf f g h j)).set (60 - 1) (.inl (0, 2112, .inl (upd (iw_bf f g h j) j (g (j - 64)))))) (iw_is rfl (iw_ws_60 hw) (by omega) hj) ?_
  rw [show (iw_ws w (iw_bf f g h j)).set (60 - 1) (.inl (0, 2112, .inl (upd (iw_bf f g h j) j (g (j - 64))))) = iw_ws w (iw_bf f g h (j + 1)) by rw [iw_bf_b hs]; simp [iw_ws]]
  refine iv_G1 (pc2 := 60) (lv2 := [(1, .int (Int32.ofNat j + Int32.ofInt 1)), (0, .ref 44)]) (st2 := []) (w2 := iw_ws w (iw_bf f g h (j + 1))) rfl ?_
  refine iv_G1 (pc2 := 20) (lv2 := [(1, .int (Int32.ofNat j + Int32.ofInt 1)), (0, .ref 44)]) (st2 := []) (w2 := iw_ws w (iw_bf f g h (j + 1))) rfl ?_
  rw [iw_on1]
  exact hg
theorem iw_r1s : ∀ (m : Nat) (j : Nat), j + m ≤ 2112 → iv_G L xs d 186 20 [(1, .int (Int32.ofNat (j + m))), (0, .ref 44)] [] (iw_ws w (iw_bf f g h (j + m))) tg k z o → iv_G L xs d 186 20 [(1, .int (Int32.ofNat j)), (0, .ref 44)] [] (iw_ws w (iw_bf f g h j)) tg k z o
  | 0, j, _, hg => hg
  | m + 1, j, hm, hg => by
    have h1 := iw_r1s m (j + 1) (by omega) (by rw [show j + 1 + m = j + (m + 1) by omega]; exact hg)
    by_cases hs : j < 64
    · exact iw_r1a hw hM h46 h47 (by omega) hs h1
    · exact iw_r1b hw hM h46 h47 (by omega) hs h1
end
-- the reference: how many bytes are others
section
variable {L : Nat} {xs : Nat → Int32} {d : Nat} {w : iv_W} {tg : Bool} {k z : Nat} {o : iv_O}
variable {f g h : Nat → Int32} (hM : iv_obj w 44 9 = some [.int 0, .int 0, .ref 45, .ref 46, .ref 47, .int 0, .int 2, .ref 48, .int 0, .int 0, .int 0, .ref 49, .ref 50, .int 0, .ref 51, .ref 52, .ref 53, .ref 54, .ref 55, .ref 56, .int 0, .ref 57, .ref 58, .ref 59, .ref 60, .ref 61, .ref 62, .ref 63, .ref 64]) (h46 : iv_ai w 46 0 = some (64, f)) (h47 : iv_ai w 47 0 = some (2048, g)) (h60 : iv_ai w 60 0 = some (2112, h))
include hM h46 h47 h60
set_option maxRecDepth 1000000 in
set_option maxHeartbeats 40000000 in
theorem iw_r2a {j : Nat} (hj : j < 2112) (hs : j < 64) (he : h j = (f j)) (hg : iv_G L xs d 186 302 [(3, .int (Int32.ofNat (j + 1))), (2, .int 0), (1, .int (-1)), (0, .ref 44)] [] w tg k z o) : iv_G L xs d 186 302 [(3, .int (Int32.ofNat j)), (2, .int 0), (1, .int (-1)), (0, .ref 44)] [] w tg k z o := by
  refine iv_G1 (pc2 := 303) (lv2 := [(3, .int (Int32.ofNat j)), (2, .int 0), (1, .int (-1)), (0, .ref 44)]) (st2 := [.int (Int32.ofNat j)]) (w2 := w) rfl ?_
  refine iv_G1 (pc2 := 306) (lv2 := [(3, .int (Int32.ofNat j)), (2, .int 0), (1, .int (-1)), (0, .ref 44)]) (st2 := [.int (Int32.ofNat 2112), .int (Int32.ofNat j)]) (w2 := w) rfl ?_
  refine iv_Gbf (p1 := 356) (p2 := 309) (c := iv_c2 .ge (Int32.ofNat j) (Int32.ofNat 2112)) (lv2 := [(3, .int (Int32.ofNat j)), (2, .int 0), (1, .int (-1)), (0, .ref 44)]) (st2 := []) (w2 := w) rfl (iw_gef hj (by decide)) ?_
  refine iv_G1 (pc2 := 310) (lv2 := [(3, .int (Int32.ofNat j)), (2, .int 0), (1, .int (-1)), (0, .ref 44)]) (st2 := [.int 0]) (w2 := w) rfl ?_
  refine iv_G1 (pc2 := 311) (lv2 := [(3, .int (Int32.ofNat j)), (2, .int 0), (1, .int (-1)), (0, .ref 44)]) (st2 := [.ref 44, .int 0]) (w2 := w) rfl ?_
  refine iv_G1 (pc2 := 314) (lv2 := [(3, .int (Int32.ofNat j)), (2, .int 0), (1, .int (-1)), (0, .ref 44)]) (st2 := [.ref 60, .int 0]) (w2 := w) (iw_gf rfl rfl hM rfl) ?_
  refine iv_G1 (pc2 := 315) (lv2 := [(3, .int (Int32.ofNat j)), (2, .int 0), (1, .int (-1)), (0, .ref 44)]) (st2 := [.int (Int32.ofNat j), .ref 60, .int 0]) (w2 := w) rfl ?_
  refine iv_G1 (pc2 := 316) (lv2 := [(3, .int (Int32.ofNat j)), (2, .int 0), (1, .int (-1)), (0, .ref 44)]) (st2 := [.int (h j), .int 0]) (w2 := w) (iw_ia rfl (by decide) h60 (by omega) hj) ?_
  refine iv_G1 (pc2 := 317) (lv2 := [(3, .int (Int32.ofNat j)), (2, .int 0), (1, .int (-1)), (0, .ref 44)]) (st2 := [.int (Int32.ofNat j), .int (h j), .int 0]) (w2 := w) rfl ?_
  refine iv_G1 (pc2 := 319) (lv2 := [(3, .int (Int32.ofNat j)), (2, .int 0), (1, .int (-1)), (0, .ref 44)]) (st2 := [.int (Int32.ofNat 64), .int (Int32.ofNat j), .int (h j), .int 0]) (w2 := w) rfl ?_
  refine iv_Gbf (p1 := 331) (p2 := 322) (c := iv_c2 .ge (Int32.ofNat j) (Int32.ofNat 64)) (lv2 := [(3, .int (Int32.ofNat j)), (2, .int 0), (1, .int (-1)), (0, .ref 44)]) (st2 := [.int (h j), .int 0]) (w2 := w) rfl (iw_gef hs (by decide)) ?_
  refine iv_G1 (pc2 := 323) (lv2 := [(3, .int (Int32.ofNat j)), (2, .int 0), (1, .int (-1)), (0, .ref 44)]) (st2 := [.ref 44, .int (h j), .int 0]) (w2 := w) rfl ?_
  refine iv_G1 (pc2 := 326) (lv2 := [(3, .int (Int32.ofNat j)), (2, .int 0), (1, .int (-1)), (0, .ref 44)]) (st2 := [.ref 46, .int (h j), .int 0]) (w2 := w) (iw_gf rfl rfl hM rfl) ?_
  refine iv_G1 (pc2 := 327) (lv2 := [(3, .int (Int32.ofNat j)), (2, .int 0), (1, .int (-1)), (0, .ref 44)]) (st2 := [.int (Int32.ofNat j), .ref 46, .int (h j), .int 0]) (w2 := w) rfl ?_
  refine iv_G1 (pc2 := 328) (lv2 := [(3, .int (Int32.ofNat j)), (2, .int 0), (1, .int (-1)), (0, .ref 44)]) (st2 := [.int (f j), .int (h j), .int 0]) (w2 := w) (iw_ia rfl (by decide) h46 (by omega) hs) ?_
  refine iv_G1 (pc2 := 340) (lv2 := [(3, .int (Int32.ofNat j)), (2, .int 0), (1, .int (-1)), (0, .ref 44)]) (st2 := [.int (f j), .int (h j), .int 0]) (w2 := w) rfl ?_
  refine iv_Gbt (p1 := 347) (p2 := 343) (c := iv_c2 .eq (h j) (f j)) (lv2 := [(3, .int (Int32.ofNat j)), (2, .int 0), (1, .int (-1)), (0, .ref 44)]) (st2 := [.int 0]) (w2 := w) rfl (decide_eq_true he) ?_
  refine iv_G1 (pc2 := 348) (lv2 := [(3, .int (Int32.ofNat j)), (2, .int 0), (1, .int (-1)), (0, .ref 44)]) (st2 := [.int (Int32.ofInt 0), .int 0]) (w2 := w) rfl ?_
  refine iv_G1 (pc2 := 349) (lv2 := [(3, .int (Int32.ofNat j)), (2, .int 0), (1, .int (-1)), (0, .ref 44)]) (st2 := [.int (0 + Int32.ofInt 0)]) (w2 := w) rfl ?_
  refine iv_G1 (pc2 := 350) (lv2 := [(2, .int (0 + Int32.ofInt 0)), (3, .int (Int32.ofNat j)), (1, .int (-1)), (0, .ref 44)]) (st2 := []) (w2 := w) rfl ?_
  refine iv_G1 (pc2 := 353) (lv2 := [(3, .int (Int32.ofNat j + Int32.ofInt 1)), (2, .int (0 + Int32.ofInt 0)), (1, .int (-1)), (0, .ref 44)]) (st2 := []) (w2 := w) rfl ?_
  refine iv_G1 (pc2 := 302) (lv2 := [(3, .int (Int32.ofNat j + Int32.ofInt 1)), (2, .int (0 + Int32.ofInt 0)), (1, .int (-1)), (0, .ref 44)]) (st2 := []) (w2 := w) rfl ?_
  rw [iw_on1]
  exact hg
set_option maxRecDepth 1000000 in
set_option maxHeartbeats 40000000 in
theorem iw_r2b {j : Nat} (hj : j < 2112) (hs : ¬ j < 64) (he : h j = (g (j - 64))) (hg : iv_G L xs d 186 302 [(3, .int (Int32.ofNat (j + 1))), (2, .int 0), (1, .int (-1)), (0, .ref 44)] [] w tg k z o) : iv_G L xs d 186 302 [(3, .int (Int32.ofNat j)), (2, .int 0), (1, .int (-1)), (0, .ref 44)] [] w tg k z o := by
  refine iv_G1 (pc2 := 303) (lv2 := [(3, .int (Int32.ofNat j)), (2, .int 0), (1, .int (-1)), (0, .ref 44)]) (st2 := [.int (Int32.ofNat j)]) (w2 := w) rfl ?_
  refine iv_G1 (pc2 := 306) (lv2 := [(3, .int (Int32.ofNat j)), (2, .int 0), (1, .int (-1)), (0, .ref 44)]) (st2 := [.int (Int32.ofNat 2112), .int (Int32.ofNat j)]) (w2 := w) rfl ?_
  refine iv_Gbf (p1 := 356) (p2 := 309) (c := iv_c2 .ge (Int32.ofNat j) (Int32.ofNat 2112)) (lv2 := [(3, .int (Int32.ofNat j)), (2, .int 0), (1, .int (-1)), (0, .ref 44)]) (st2 := []) (w2 := w) rfl (iw_gef hj (by decide)) ?_
  refine iv_G1 (pc2 := 310) (lv2 := [(3, .int (Int32.ofNat j)), (2, .int 0), (1, .int (-1)), (0, .ref 44)]) (st2 := [.int 0]) (w2 := w) rfl ?_
  refine iv_G1 (pc2 := 311) (lv2 := [(3, .int (Int32.ofNat j)), (2, .int 0), (1, .int (-1)), (0, .ref 44)]) (st2 := [.ref 44, .int 0]) (w2 := w) rfl ?_
  refine iv_G1 (pc2 := 314) (lv2 := [(3, .int (Int32.ofNat j)), (2, .int 0), (1, .int (-1)), (0, .ref 44)]) (st2 := [.ref 60, .int 0]) (w2 := w) (iw_gf rfl rfl hM rfl) ?_
  refine iv_G1 (pc2 := 315) (lv2 := [(3, .int (Int32.ofNat j)), (2, .int 0), (1, .int (-1)), (0, .ref 44)]) (st2 := [.int (Int32.ofNat j), .ref 60, .int 0]) (w2 := w) rfl ?_
  refine iv_G1 (pc2 := 316) (lv2 := [(3, .int (Int32.ofNat j)), (2, .int 0), (1, .int (-1)), (0, .ref 44)]) (st2 := [.int (h j), .int 0]) (w2 := w) (iw_ia rfl (by decide) h60 (by omega) hj) ?_
  refine iv_G1 (pc2 := 317) (lv2 := [(3, .int (Int32.ofNat j)), (2, .int 0), (1, .int (-1)), (0, .ref 44)]) (st2 := [.int (Int32.ofNat j), .int (h j), .int 0]) (w2 := w) rfl ?_
  refine iv_G1 (pc2 := 319) (lv2 := [(3, .int (Int32.ofNat j)), (2, .int 0), (1, .int (-1)), (0, .ref 44)]) (st2 := [.int (Int32.ofNat 64), .int (Int32.ofNat j), .int (h j), .int 0]) (w2 := w) rfl ?_
  refine iv_Gbt (p1 := 331) (p2 := 322) (c := iv_c2 .ge (Int32.ofNat j) (Int32.ofNat 64)) (lv2 := [(3, .int (Int32.ofNat j)), (2, .int 0), (1, .int (-1)), (0, .ref 44)]) (st2 := [.int (h j), .int 0]) (w2 := w) rfl (iw_get (by omega) (by omega)) ?_
  refine iv_G1 (pc2 := 332) (lv2 := [(3, .int (Int32.ofNat j)), (2, .int 0), (1, .int (-1)), (0, .ref 44)]) (st2 := [.ref 44, .int (h j), .int 0]) (w2 := w) rfl ?_
  refine iv_G1 (pc2 := 335) (lv2 := [(3, .int (Int32.ofNat j)), (2, .int 0), (1, .int (-1)), (0, .ref 44)]) (st2 := [.ref 47, .int (h j), .int 0]) (w2 := w) (iw_gf rfl rfl hM rfl) ?_
  refine iv_G1 (pc2 := 336) (lv2 := [(3, .int (Int32.ofNat j)), (2, .int 0), (1, .int (-1)), (0, .ref 44)]) (st2 := [.int (Int32.ofNat j), .ref 47, .int (h j), .int 0]) (w2 := w) rfl ?_
  refine iv_G1 (pc2 := 338) (lv2 := [(3, .int (Int32.ofNat j)), (2, .int 0), (1, .int (-1)), (0, .ref 44)]) (st2 := [.int (Int32.ofNat 64), .int (Int32.ofNat j), .ref 47, .int (h j), .int 0]) (w2 := w) rfl ?_
  refine iv_G1 (pc2 := 339) (lv2 := [(3, .int (Int32.ofNat j)), (2, .int 0), (1, .int (-1)), (0, .ref 44)]) (st2 := [.int (Int32.ofNat j - Int32.ofNat 64), .ref 47, .int (h j), .int 0]) (w2 := w) rfl ?_
  rw [iw_sub64 (by omega)]
  refine iv_G1 (pc2 := 340) (lv2 := [(3, .int (Int32.ofNat j)), (2, .int 0), (1, .int (-1)), (0, .ref 44)]) (st2 := [.int (g (j - 64)), .int (h j), .int 0]) (w2 := w) (iw_ia rfl (by decide) h47 (by omega) (by omega)) ?_
  refine iv_Gbt (p1 := 347) (p2 := 343) (c := iv_c2 .eq (h j) (g (j - 64))) (lv2 := [(3, .int (Int32.ofNat j)), (2, .int 0), (1, .int (-1)), (0, .ref 44)]) (st2 := [.int 0]) (w2 := w) rfl (decide_eq_true he) ?_
  refine iv_G1 (pc2 := 348) (lv2 := [(3, .int (Int32.ofNat j)), (2, .int 0), (1, .int (-1)), (0, .ref 44)]) (st2 := [.int (Int32.ofInt 0), .int 0]) (w2 := w) rfl ?_
  refine iv_G1 (pc2 := 349) (lv2 := [(3, .int (Int32.ofNat j)), (2, .int 0), (1, .int (-1)), (0, .ref 44)]) (st2 := [.int (0 + Int32.ofInt 0)]) (w2 := w) rfl ?_
  refine iv_G1 (pc2 := 350) (lv2 := [(2, .int (0 + Int32.ofInt 0)), (3, .int (Int32.ofNat j)), (1, .int (-1)), (0, .ref 44)]) (st2 := []) (w2 := w) rfl ?_
  refine iv_G1 (pc2 := 353) (lv2 := [(3, .int (Int32.ofNat j + Int32.ofInt 1)), (2, .int (0 + Int32.ofInt 0)), (1, .int (-1)), (0, .ref 44)]) (st2 := []) (w2 := w) rfl ?_
  refine iv_G1 (pc2 := 302) (lv2 := [(3, .int (Int32.ofNat j + Int32.ofInt 1)), (2, .int (0 + Int32.ofInt 0)), (1, .int (-1)), (0, .ref 44)]) (st2 := []) (w2 := w) rfl ?_
  rw [iw_on1]
  exact hg
theorem iw_r2s : ∀ (m : Nat) (j : Nat), j + m ≤ 2112 → (∀ i, j ≤ i → i < j + m → h i = if i < 64 then f i else g (i - 64)) → iv_G L xs d 186 302 [(3, .int (Int32.ofNat (j + m))), (2, .int 0), (1, .int (-1)), (0, .ref 44)] [] w tg k z o → iv_G L xs d 186 302 [(3, .int (Int32.ofNat j)), (2, .int 0), (1, .int (-1)), (0, .ref 44)] [] w tg k z o
  | 0, j, _, _, hg => hg
  | m + 1, j, hm, he, hg => by
    have h1 := iw_r2s m (j + 1) (by omega) (fun i h1 h2 => he i (by omega) (by omega)) (by rw [show j + 1 + m = j + (m + 1) by omega]; exact hg)
    have h2 := he j (by omega) (by omega)
    by_cases hs : j < 64
    · rw [if_pos hs] at h2
      exact iw_r2a hM h46 h47 h60 (by omega) hs h2 h1
    · rw [if_neg hs] at h2
      exact iw_r2b hM h46 h47 h60 (by omega) hs h2 h1
set_option maxRecDepth 1000000 in
set_option maxHeartbeats 40000000 in
theorem iw_r2x : iv_G L xs d 186 302 [(3, .int (Int32.ofNat 2112)), (2, .int 0), (1, .int (-1)), (0, .ref 44)] [] w tg k z (.inl (some (.int 0)), w, tg, k, z) := by
  refine iv_G1 (pc2 := 303) (lv2 := [(3, .int (Int32.ofNat 2112)), (2, .int 0), (1, .int (-1)), (0, .ref 44)]) (st2 := [.int (Int32.ofNat 2112)]) (w2 := w) rfl ?_
  refine iv_G1 (pc2 := 306) (lv2 := [(3, .int (Int32.ofNat 2112)), (2, .int 0), (1, .int (-1)), (0, .ref 44)]) (st2 := [.int (Int32.ofNat 2112), .int (Int32.ofNat 2112)]) (w2 := w) rfl ?_
  refine iv_Gbt (p1 := 356) (p2 := 309) (c := iv_c2 .ge (Int32.ofNat 2112) (Int32.ofNat 2112)) (lv2 := [(3, .int (Int32.ofNat 2112)), (2, .int 0), (1, .int (-1)), (0, .ref 44)]) (st2 := []) (w2 := w) rfl (iw_get (Nat.le_refl _) (by decide)) ?_
  refine iv_G1 (pc2 := 357) (lv2 := [(3, .int (Int32.ofNat 2112)), (2, .int 0), (1, .int (-1)), (0, .ref 44)]) (st2 := [.int 0]) (w2 := w) rfl ?_
  exact iv_Gret (i := .ireturn) (x := 0) rfl rfl rfl
end
-- the run out of its pieces
section
variable {L : Nat} {xs : Nat → Int32} {w1 w2 w3 w4 w5 w7 : iv_W} {f3 g4 h31 f46 g47 h60 f7 g7 h7 : Nat → Int32} {o : iv_O} {n1 n2 n3 n4 n5 n7 : Nat}
set_option maxRecDepth 1000000 in
set_option maxHeartbeats 40000000 in
theorem iw_comp
    (e1 : iw_go L xs 571 n1 20 0 0 [(0, .ref 0)] [] [] true 0 0 = some ([(4, .int 42), (3, .ref 65), (2, .ref 44), (1, .ref 1), (0, .ref 0)], [.ref 65, .ref 1], w1, true, 65, 10417))
    (c1 : iv_rc w1 0 15 [.ref 1] = true)
    (e2 : iw_go L xs 8 n2 18 15 0 [(0, .ref 1)] [] w1 true 0 0 = some ([(0, .ref 1)], [.ref 29], w2, true, 0, 0))
    (c2 : iv_rc w2 0 108 [.ref 29] = true)
    (e3 : iw_go L xs 67 n3 17 108 0 [(0, .ref 29)] [] w2 true 0 0 = some ([(1, .int 32), (0, .ref 29)], [.ref 31, .ref 2], w3, true, 0, 0))
    (c3 : iv_rc w3 0 76 [.ref 2, .ref 31] = true)
    (hD : iv_obj w3 2 3 = some [.ref 3, .ref 4, .ref 5, .int 0, .int 2, .int 0, .int 0]) (l3 : iv_len w3 3 = some (0, 2048)) (l4 : iv_len w3 4 = some (0, 64)) (h3 : iv_ai w3 3 0 = some (2048, f3)) (h4 : iv_ai w3 4 0 = some (64, g4)) (hh : iv_ai w3 31 0 = some (2112, h31))
    (a1 : ∀ i, 0 ≤ i → i < 0 + 128 → f3 i = h31 i) (b1 : ¬ f3 128 = h31 128) (b2 : ¬ f3 129 = h31 129) (b3 : ¬ f3 130 = h31 130) (b4 : ¬ f3 131 = h31 131) (a2 : ∀ i, 132 ≤ i → i < 132 + 1916 → f3 i = h31 i) (a5 : ∀ i, 0 ≤ i → i < 0 + 64 → g4 i = h31 (2048 + i))
    (e4 : iw_go L xs 15 n4 19 193 6 [(0, .ref 1), (1, .ref 65)] [.int 4, .int (Int32.ofInt 0), .ref 65] w3 true 0 0 = some ([(0, .ref 1), (1, .ref 65)], [.int (Int32.ofInt 0)], w4, true, 0, 0))
    (c4 : iv_rc w4 0 186 [.ref 44] = true)
    (e5 : iw_go L xs 20 n5 19 186 0 [(0, .ref 44)] [] w4 true 0 0 = some ([(1, .int (Int32.ofNat 0)), (0, .ref 44)], [], w5, true, 0, 0))
    (hw : 59 < w5.length) (hM : iv_obj w5 44 9 = some [.int 0, .int 0, .ref 45, .ref 46, .ref 47, .int 0, .int 2, .ref 48, .int 0, .int 0, .int 0, .ref 49, .ref 50, .int 0, .ref 51, .ref 52, .ref 53, .ref 54, .ref 55, .ref 56, .int 0, .ref 57, .ref 58, .ref 59, .ref 60, .ref 61, .ref 62, .ref 63, .ref 64]) (h46 : iv_ai w5 46 0 = some (64, f46)) (h47 : iv_ai w5 47 0 = some (2048, g47)) (hk : iv_ai w5 60 0 = some (2112, h60))
    (e7 : iw_go L xs 302 n7 19 186 20 [(1, .int (Int32.ofNat 2112)), (0, .ref 44)] [] (iw_ws w5 (iw_bf f46 g47 h60 2112)) true 0 0 = some ([(3, .int (Int32.ofNat 0)), (2, .int 0), (1, .int (-1)), (0, .ref 44)], [], w7, true, 0, 0))
    (hM7 : iv_obj w7 44 9 = some [.int 0, .int 0, .ref 45, .ref 46, .ref 47, .int 0, .int 2, .ref 48, .int 0, .int 0, .int 0, .ref 49, .ref 50, .int 0, .ref 51, .ref 52, .ref 53, .ref 54, .ref 55, .ref 56, .int 0, .ref 57, .ref 58, .ref 59, .ref 60, .ref 61, .ref 62, .ref 63, .ref 64]) (h467 : iv_ai w7 46 0 = some (64, f7)) (h477 : iv_ai w7 47 0 = some (2048, g7)) (h607 : iv_ai w7 60 0 = some (2112, h7)) (a7 : ∀ i, 0 ≤ i → i < 0 + 2112 → h7 i = if i < 64 then f7 i else g7 (i - 64))
    (hf : iv_G L xs 20 0 580 [(5, .int (Int32.ofInt 0)), (4, .int 42), (3, .ref 65), (2, .ref 44), (1, .ref 1), (0, .ref 0)] [.int 0] w7 true 65 10417 o) : iv_G L xs 20 0 0 [(0, .ref 0)] [] [] true 0 0 o := by
  have R76 : iv_G L xs 16 76 0 (lv_args 0 [.ref 2, .ref 31]) [] w3 true 0 0 (.inl (some (.int 4)), w3, true, 0, 0) := iw_c76 hD l3 l4 h3 h4 hh a1 b1 b2 b3 b4 a2 a5
  have R108 : iv_G L xs 17 108 0 (lv_args 0 [.ref 29]) [] w2 true 0 0 (.inl (some (.int 4)), w3, true, 0, 0) := by
    refine iw_go_G n3 e3 ?_
    refine iv_Gcall (d := 16) (i := .invokevirtual 54) (x := 76) (ν := 76) (c := 2) (as := [.ref 2, .ref 31]) (rest := []) rfl rfl rfl rfl rfl rfl rfl (by decide) (c3) R76 ?_
    exact iv_Gret (i := .ireturn) (x := 0) rfl rfl rfl
  have R15 : iv_G L xs 18 15 0 (lv_args 0 [.ref 1]) [] w1 true 0 0 (.inl (some (.int 4)), w3, true, 0, 0) := by
    refine iw_go_G n2 e2 ?_
    refine iv_Gcall (d := 17) (i := .invokevirtual 208) (x := 108) (ν := 108) (c := 1) (as := [.ref 29]) (rest := []) rfl rfl rfl rfl rfl rfl rfl (by decide) (c2) R108 ?_
    exact iv_Gret (i := .ireturn) (x := 0) rfl rfl rfl
  have R193 : iv_G L xs 19 193 0 (lv_args 0 [.ref 1, .ref 65]) [] w1 true 0 0 (.inl (some (.int (Int32.ofInt 0))), w4, true, 0, 0) := by
    show iv_G L xs 19 193 0 [(0, .ref 1), (1, .ref 65)] [] w1 true 0 0 _
    refine iv_G1 (pc2 := 1) (lv2 := [(0, .ref 1), (1, .ref 65)]) (st2 := [.ref 65]) (w2 := w1) rfl ?_
    refine iv_G1 (pc2 := 2) (lv2 := [(0, .ref 1), (1, .ref 65)]) (st2 := [.int (Int32.ofInt 0), .ref 65]) (w2 := w1) rfl ?_
    refine iv_G1 (pc2 := 3) (lv2 := [(0, .ref 1), (1, .ref 65)]) (st2 := [.ref 1, .int (Int32.ofInt 0), .ref 65]) (w2 := w1) rfl ?_
    refine iv_Gcall (d := 18) (i := .invokevirtual 37) (x := 15) (ν := 15) (c := 1) (as := [.ref 1]) (rest := [.int (Int32.ofInt 0), .ref 65]) rfl rfl rfl rfl rfl rfl rfl (by decide) (c1) R15 ?_
    refine iw_go_G n4 e4 ?_
    exact iv_Gret (i := .ireturn) (x := 0) rfl rfl rfl
  have R186 : iv_G L xs 19 186 0 (lv_args 0 [.ref 44]) [] w4 true 0 0 (.inl (some (.int 0)), w7, true, 0, 0) := by
    refine iw_go_G n5 e5 ?_
    have q := iw_r1s (L := L) (xs := xs) (d := 19) (tg := true) (k := 0) (z := 0) (o := (.inl (some (.int 0)), w7, true, 0, 0)) (h := h60) hw hM h46 h47 2112 0 (by omega)
    rw [iw_bf_0, iw_ws_self hk] at q
    refine q ?_
    rw [Nat.zero_add]
    refine iw_go_G n7 e7 ?_
    exact iw_r2s hM7 h467 h477 h607 2112 0 (by omega) a7 (iw_r2x hM7 h467 h477 h607)
  refine iw_go_G n1 e1 ?_
  refine iv_Gcall (d := 19) (i := .invokestatic 103) (x := 2193) (ν := 193) (c := 2) (as := [.ref 1, .ref 65]) (rest := []) rfl rfl rfl rfl rfl rfl rfl (by decide) (rfl) R193 ?_
  refine iv_G1 (pc2 := 576) (lv2 := [(5, .int (Int32.ofInt 0)), (4, .int 42), (3, .ref 65), (2, .ref 44), (1, .ref 1), (0, .ref 0)]) (st2 := []) (w2 := w4) rfl ?_
  refine iv_G1 (pc2 := 577) (lv2 := [(5, .int (Int32.ofInt 0)), (4, .int 42), (3, .ref 65), (2, .ref 44), (1, .ref 1), (0, .ref 0)]) (st2 := [.ref 44]) (w2 := w4) rfl ?_
  refine iv_Gcall (d := 19) (i := .invokevirtual 105) (x := 186) (ν := 186) (c := 1) (as := [.ref 44]) (rest := []) rfl rfl rfl rfl rfl rfl rfl (by decide) (c4) R186 ?_
  exact hf
end
