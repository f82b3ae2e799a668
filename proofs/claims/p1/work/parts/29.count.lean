/-! the long loops, whole -/
section
variable {L : Nat} {xs : Nat → Int32} {d : Nat} {A : Nat → Nat → Int32} {F : Nat → Int32} {B : Nat → Int64}
theorem iv_on2 (j : Nat) : (2048 : Int32) + Int32.ofNat j = Int32.ofNat (2048 + j) := (Int32.ofNat_add 2048 j).symm
theorem iv_onm {j : Nat} (h : 64 ≤ j) : Int32.ofNat j - 64 = Int32.ofNat (j - 64) := by
  have : Int32.ofNat j = Int32.ofNat (j - 64) + 64 := by
    have e : j = (j - 64) + 64 := by omega
    conv => lhs; rw [e, Int32.ofNat_add]
    rfl
  rw [this, Int32.add_sub_cancel]
set_option maxRecDepth 1000000 in
set_option maxHeartbeats 40000000 in
theorem iv_coe : iv_G L xs d 76 36 [(3, .int 64), (2, .int 0), (0, .ref 2), (1, .ref 31)] [] (iv_wd A F B) true 0 0 (.inl (some (.int 0)), (iv_wd A F B), true, 0, 0) := by
  refine iv_Gm 6 (pc2 := 73) (lv2 := [(3, .int 64), (2, .int 0), (0, .ref 2), (1, .ref 31)]) (st2 := [.int 0]) (w2 := (iv_wd A F B)) rfl ?_
  exact iv_Gret rfl rfl rfl
theorem iv_coL2 (h2 : ∀ j, j < 64 → A 4 j = A 31 (2048 + j)) : ∀ n j, j + n = 64 → iv_G L xs d 76 36 [(3, .int (Int32.ofNat j)), (2, .int 0), (0, .ref 2), (1, .ref 31)] [] (iv_wd A F B) true 0 0 (.inl (some (.int 0)), (iv_wd A F B), true, 0, 0)
  | 0, j, h => by
    have : j = 64 := by omega
    subst this
    exact iv_coe
  | n + 1, j, h => by
    refine iv_co2 (iv_on1 j) ((iv_onl (m := 64) (by omega) (by omega)).mpr (by omega)) (iv_oni (by omega) (by omega)) (by rw [iv_on2]; exact iv_oni (by omega) (by omega)) ?_ (iv_coL2 h2 n (j + 1) (by omega))
    rw [iv_on2, iv_onc (by omega), iv_onc (by omega)]
    exact h2 j (by omega)
set_option maxRecDepth 1000000 in
set_option maxHeartbeats 40000000 in
theorem iv_com {o : iv_O} (hg : iv_G L xs d 76 36 [(3, .int 0), (2, .int 0), (0, .ref 2), (1, .ref 31)] [] (iv_wd A F B) true 0 0 o) : iv_G L xs d 76 4 [(3, .int 2048), (2, .int 0), (0, .ref 2), (1, .ref 31)] [] (iv_wd A F B) true 0 0 o := by
  refine iv_Gm 7 (pc2 := 36) (lv2 := [(3, .int 0), (2, .int 0), (0, .ref 2), (1, .ref 31)]) (st2 := []) (w2 := (iv_wd A F B)) rfl ?_
  exact hg
theorem iv_coL1 (h1 : ∀ j, j < 2048 → A 3 j = A 31 j) (h2 : ∀ j, j < 64 → A 4 j = A 31 (2048 + j)) : ∀ n j, j + n = 2048 → iv_G L xs d 76 4 [(3, .int (Int32.ofNat j)), (2, .int 0), (0, .ref 2), (1, .ref 31)] [] (iv_wd A F B) true 0 0 (.inl (some (.int 0)), (iv_wd A F B), true, 0, 0)
  | 0, j, h => by
    have : j = 2048 := by omega
    subst this
    exact iv_com (iv_coL2 h2 64 0 rfl)
  | n + 1, j, h => by
    refine iv_co1 (iv_on1 j) ((iv_onl (m := 2048) (by omega) (by omega)).mpr (by omega)) (iv_oni (by omega) (by omega)) (iv_oni (by omega) (by omega)) ?_ (iv_coL1 h1 h2 n (j + 1) (by omega))
    rw [iv_onc (by omega)]
    exact h1 j (by omega)
set_option maxRecDepth 1000000 in
set_option maxHeartbeats 40000000 in
theorem iv_co (h1 : ∀ j, j < 2048 → A 3 j = A 31 j) (h2 : ∀ j, j < 64 → A 4 j = A 31 (2048 + j)) : iv_G L xs d 76 0 [(0, .ref 2), (1, .ref 31)] [] (iv_wd A F B) true 0 0 (.inl (some (.int 0)), (iv_wd A F B), true, 0, 0) := by
  refine iv_Gm 4 (pc2 := 4) (lv2 := [(3, .int 0), (2, .int 0), (0, .ref 2), (1, .ref 31)]) (st2 := []) (w2 := (iv_wd A F B)) rfl ?_
  exact iv_coL1 h1 h2 2048 0 rfl
def iv_gA (A : Nat → Nat → Int32) (j : Nat) : Nat → Int32 := fun i => if i < j then (if i < 64 then A 46 i else A 47 (i - 64)) else A 60 i
theorem iv_gs {j : Nat} {v : Int32} (h : v = if j < 64 then A 46 j else A 47 (j - 64)) : iv_uA (iv_sA A 60 (iv_gA A j)) 60 j v = iv_sA A 60 (iv_gA A (j + 1)) := by
  funext i q
  unfold iv_uA iv_sA
  by_cases hi : i = 60
  · subst hi
    simp only [if_true]
    unfold upd iv_gA
    by_cases hq : q = j
    · subst hq
      simp [h]
    · have e : (q < j + 1) = (q < j) := by apply propext; omega
      simp [hq, e]
  · simp [hi]
theorem iv_r1L {o : iv_O} (hg : iv_G L xs d 186 20 [(1, .int 2112), (0, .ref 44)] [] (iv_wd (iv_sA A 60 (iv_gA A 2112)) F B) true 0 0 o) : ∀ n j, j + n = 2112 → iv_G L xs d 186 20 [(1, .int (Int32.ofNat j)), (0, .ref 44)] [] (iv_wd (iv_sA A 60 (iv_gA A j)) F B) true 0 0 o
  | 0, j, h => by
    have : j = 2112 := by omega
    subst this
    exact hg
  | n + 1, j, h => by
    have ih := iv_r1L hg n (j + 1) (by omega)
    have l3 := (iv_onl (j := j) (m := 2112) (by omega) (by omega)).mpr (by omega)
    have i2 := iv_oni (j := j) (n := 2112) (by omega) (by omega)
    by_cases hj : j < 64
    · refine iv_r1a (iv_on1 j) ((iv_onl (m := 64) (by omega) (by omega)).mpr hj) l3 (iv_oni (by omega) hj) i2 ?_
      rw [iv_onc (by omega), iv_gs (by rw [if_pos hj]; rfl)]
      exact ih
    · refine iv_r1b (iv_on1 j) (fun q => hj ((iv_onl (m := 64) (by omega) (by omega)).mp q)) l3 (by rw [iv_onm (by omega)]; exact iv_oni (by omega) (by omega)) i2 ?_
      rw [iv_onm (by omega), iv_onc (by omega), iv_onc (by omega), iv_gs (by rw [if_neg hj]; rfl)]
      exact ih
set_option maxRecDepth 1000000 in
set_option maxHeartbeats 40000000 in
theorem iv_r4e : iv_G L xs d 186 302 [(3, .int 2112), (2, .int 0), (1, .int (-1)), (0, .ref 44)] [] (iv_wd A F B) true 0 0 (.inl (some (.int 0)), (iv_wd A F B), true, 0, 0) := by
  refine iv_Gm 4 (pc2 := 357) (lv2 := [(3, .int 2112), (2, .int 0), (1, .int (-1)), (0, .ref 44)]) (st2 := [.int 0]) (w2 := (iv_wd A F B)) rfl ?_
  exact iv_Gret rfl rfl rfl
theorem iv_r4L (h1 : ∀ j, j < 64 → A 60 j = A 46 j) (h2 : ∀ j, j < 2048 → A 60 (j + 64) = A 47 j) : ∀ n j, j + n = 2112 → iv_G L xs d 186 302 [(3, .int (Int32.ofNat j)), (2, .int 0), (1, .int (-1)), (0, .ref 44)] [] (iv_wd A F B) true 0 0 (.inl (some (.int 0)), (iv_wd A F B), true, 0, 0)
  | 0, j, h => by
    have : j = 2112 := by omega
    subst this
    exact iv_r4e
  | n + 1, j, h => by
    have ih := iv_r4L h1 h2 n (j + 1) (by omega)
    have l3 := (iv_onl (j := j) (m := 2112) (by omega) (by omega)).mpr (by omega)
    have i2 := iv_oni (j := j) (n := 2112) (by omega) (by omega)
    by_cases hj : j < 64
    · exact iv_r4a (iv_on1 j) ((iv_onl (m := 64) (by omega) (by omega)).mpr hj) l3 (iv_oni (by omega) hj) i2 (by rw [iv_onc (by omega)]; exact h1 j hj) ih
    · refine iv_r4b (iv_on1 j) (fun q => hj ((iv_onl (m := 64) (by omega) (by omega)).mp q)) l3 (by rw [iv_onm (by omega)]; exact iv_oni (by omega) (by omega)) i2 ?_ ih
      have e := h2 (j - 64) (by omega)
      rw [Nat.sub_add_cancel (by omega)] at e
      rw [iv_onm (by omega), iv_onc (by omega), iv_onc (by omega)]
      exact e
end
