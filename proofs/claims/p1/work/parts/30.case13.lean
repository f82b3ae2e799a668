/-! repair on the fresh disk -/
theorem iv_uA_id {A : Nat → Nat → Int32} {r j : Nat} {v : Int32} (h : A r j = v) : iv_uA A r j v = A := by
  funext i q
  unfold iv_uA
  by_cases hi : i = r
  · subst hi
    rw [if_pos rfl]
    unfold upd
    by_cases hq : q = j
    · subst hq; rw [if_pos rfl, h]
    · rw [if_neg hq]
  · rw [if_neg hi]
theorem iv_cA_id {A : Nat → Nat → Int32} {r0 r sp dp n : Nat} (h0 : A r0 = fun _ => 0) (h1 : A r = fun _ => 0) : iv_cA A r0 r sp dp n = A := by
  funext i q
  unfold iv_cA
  by_cases hi : i = r
  · subst hi
    rw [if_pos rfl, h0, h1]
    unfold va_cpy
    split <;> rfl
  · rw [if_neg hi]
def iv_A12 : Nat → Nat → Int32 := (iv_uA (iv_cA iv_Az 4 31 0 2048 64) 30 2 1)
def iv_A13 : Nat → Nat → Int32 := fun i => if 44 ≤ i then iv_Az i else iv_A12 i
def iv_F13 : Nat → Int32 := (iv_uF iv_Fz 3401 2)
theorem iv_A13_3 : ∀ j : Nat, j < 2048 → iv_A13 3 j = iv_A13 31 j := fun j h => by
  show (0 : Int32) = va_cpy (iv_Az 4) (iv_Az 31) 0 2048 64 j
  unfold va_cpy
  rw [if_neg (by omega)]
  rfl
theorem iv_A13_4 : ∀ j : Nat, j < 64 → iv_A13 4 j = iv_A13 31 (2048 + j) := fun j h => by
  show iv_Az 4 j = va_cpy (iv_Az 4) (iv_Az 31) 0 2048 64 (2048 + j)
  unfold va_cpy
  rw [if_pos (by omega), Nat.zero_add, Nat.add_sub_cancel_left]
theorem iv_co13 {L : Nat} {xs : Nat → Int32} {d : Nat} : iv_G L xs d 76 0 [(0, .ref 2), (1, .ref 31)] [] (iv_wd iv_A13 iv_F13 iv_Bz) true 0 0 (.inl (some (.int 0)), iv_wd iv_A13 iv_F13 iv_Bz, true, 0, 0) := iv_co iv_A13_3 iv_A13_4
def iv_MA (u o nx bg : Int32) : Nat → Nat → Int32 := fun i => if i = 61 then upd (fun _ => 0) 2 u else if i = 62 then upd (fun _ => 0) 0 o else if i = 63 then upd (fun _ => 0) 0 nx else if i = 64 then upd (fun _ => 0) 0 bg else iv_sA iv_A13 60 (iv_gA iv_A13 2112) i
theorem iv_upd0 {k : Nat} : upd (fun _ => 0) k 0 = fun _ => 0 := by
  funext i
  unfold upd
  split <;> rfl
theorem iv_upd2 {f : Nat → Int32} {k : Nat} {a b : Int32} : upd (upd f k a) k b = upd f k b := by
  funext i
  unfold upd
  by_cases h : i = k
  · rw [if_pos h, if_pos h]
  · rw [if_neg h, if_neg h, if_neg h]
theorem iv_MA0 : iv_sA iv_A13 60 (iv_gA iv_A13 2112) = iv_MA 0 0 0 0 := by
  funext i
  unfold iv_MA
  rw [iv_upd0, iv_upd0]
  by_cases h1 : i = 61
  · subst h1; rfl
  by_cases h2 : i = 62
  · subst h2; rfl
  by_cases h3 : i = 63
  · subst h3; rfl
  by_cases h4 : i = 64
  · subst h4; rfl
  rw [if_neg h1, if_neg h2, if_neg h3, if_neg h4]
theorem iv_MA_61 {u o nx bg v : Int32} : iv_uA (iv_MA u o nx bg) 61 2 v = iv_MA v o nx bg := by
  funext i
  unfold iv_uA
  by_cases h : i = 61
  · subst h
    show upd (upd (fun _ => 0) 2 u) 2 v = upd (fun _ => 0) 2 v
    exact iv_upd2
  · rw [if_neg h]
    unfold iv_MA
    rw [if_neg h, if_neg h]
theorem iv_MA_62 {u o nx bg v : Int32} : iv_uA (iv_MA u o nx bg) 62 0 v = iv_MA u v nx bg := by
  funext i
  unfold iv_uA
  by_cases h : i = 62
  · subst h
    show upd (upd (fun _ => 0) 0 o) 0 v = upd (fun _ => 0) 0 v
    exact iv_upd2
  · rw [if_neg h]
    unfold iv_MA
    rw [if_neg h, if_neg h]
theorem iv_MA_63 {u o nx bg v : Int32} : iv_uA (iv_MA u o nx bg) 63 0 v = iv_MA u o v bg := by
  funext i
  unfold iv_uA
  by_cases h : i = 63
  · subst h
    show upd (upd (fun _ => 0) 0 nx) 0 v = upd (fun _ => 0) 0 v
    exact iv_upd2
  · rw [if_neg h]
    unfold iv_MA
    rw [if_neg h, if_neg h]
theorem iv_MA_64 {u o nx bg v : Int32} : iv_uA (iv_MA u o nx bg) 64 0 v = iv_MA u o nx v := by
  funext i
  unfold iv_uA
  by_cases h : i = 64
  · subst h
    show upd (upd (fun _ => 0) 0 bg) 0 v = upd (fun _ => 0) 0 v
    exact iv_upd2
  · rw [if_neg h]
    unfold iv_MA
    rw [if_neg h, if_neg h]
def iv_A14 : Nat → Nat → Int32 := (iv_MA 1 2 9 8)
def iv_F14 : Nat → Int32 := (iv_uF iv_F13 4400 0)
theorem iv_A14_46 : ∀ j : Nat, j < 64 → iv_A14 60 j = iv_A14 46 j := fun j h => by
  show iv_gA iv_A13 2112 j = iv_Az 46 j
  unfold iv_gA
  rw [if_pos (by omega), if_pos h]
  rfl
theorem iv_A14_47 : ∀ j : Nat, j < 2048 → iv_A14 60 (j + 64) = iv_A14 47 j := fun j h => by
  show iv_gA iv_A13 2112 (j + 64) = 0
  unfold iv_gA
  rw [if_pos (by omega), if_neg (by omega)]
  rfl
theorem iv_gA0 {A : Nat → Nat → Int32} : iv_sA A 60 (iv_gA A 0) = A := by
  funext i q
  unfold iv_sA iv_gA
  by_cases h : i = 60
  · subst h; simp
  · simp [h]
