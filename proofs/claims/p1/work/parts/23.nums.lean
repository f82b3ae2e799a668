/-! changed worlds; places in arrays -/
def iv_uA (A : Nat → Nat → Int32) (r j : Nat) (v : Int32) : Nat → Nat → Int32 := fun i => if i = r then upd (A r) j v else A i
def iv_uF (F : Nat → Int32) (q : Nat) (v : Int32) : Nat → Int32 := fun i => if i = q then v else F i
theorem iv_in_i {x : Int32} {n : Nat} (h0 : 0 ≤ x.toInt) (h1 : x.toInt < n) : iv_in x n = true := by
  unfold iv_in
  have e1 : ¬ x < 0 := by
    rw [Int32.lt_iff_toInt_lt]
    have : (0 : Int32).toInt = 0 := rfl
    omega
  have e2 : x.toNatClampNeg < n := by
    have : x.toNatClampNeg = x.toInt.toNat := rfl
    omega
  simp [e1, e2]
theorem iv_in_a {x a b : Int32} {n : Nat} (h0 : ¬ x < a) (h1 : x < b) (ha : 0 ≤ a.toInt) (hb : b.toInt ≤ (n : Int)) : iv_in x n = true := by
  rw [Int32.lt_iff_toInt_lt] at h0 h1
  exact iv_in_i (by omega) (by omega)
theorem iv_bm {y : Int} (h0 : 0 ≤ y) (h1 : y < 2147483648) : y.bmod 4294967296 = y := by
  rw [Int.bmod_def]
  split <;> omega
theorem iv_ti_c {x y : Int32} (h0 : 0 ≤ x.toInt) (h1 : x.toInt < 32) (h2 : 0 ≤ y.toInt) (h3 : y.toInt < 64) : (64 * x + y).toInt = 64 * x.toInt + y.toInt := by
  have e : (64 : Int32).toInt = 64 := rfl
  rw [Int32.toInt_add, Int32.toInt_mul, e]
  have e1 : (64 * x.toInt).bmod (2 ^ 32) = 64 * x.toInt := iv_bm (by omega) (by omega)
  rw [e1]
  exact iv_bm (by omega) (by omega)
theorem iv_in_c {x y : Int32} (h0 : ¬ x < 0) (h1 : x < 32) (h2 : ¬ y < 0) (h3 : y < 64) : iv_in (64 * x + y) 2048 = true := by
  rw [Int32.lt_iff_toInt_lt] at h0 h1 h2 h3
  have a1 : (0 : Int32).toInt = 0 := rfl
  have a2 : (32 : Int32).toInt = 32 := rfl
  have a3 : (64 : Int32).toInt = 64 := rfl
  have e := iv_ti_c (x := x) (y := y) (by omega) (by omega) (by omega) (by omega)
  exact iv_in_i (by omega) (by omega)
theorem iv_in_0 {y : Int32} {n : Nat} (h : iv_in y n = true) : iv_in (0 + y) n = true := by rwa [Int32.zero_add]
theorem iv_in_32 {y : Int32} (h2 : ¬ y < 0) (h3 : y < 32) : iv_in (32 + y) 64 = true := by
  rw [Int32.lt_iff_toInt_lt] at h2 h3
  have a1 : (0 : Int32).toInt = 0 := rfl
  have a2 : (32 : Int32).toInt = 32 := rfl
  have e : (32 + y).toInt = 32 + y.toInt := by
    rw [Int32.toInt_add, a2]
    exact iv_bm (by omega) (by omega)
  exact iv_in_i (by omega) (by omega)
theorem iv_no2 {x a b c e : Int32} (h0 : ¬ x < a) (h1 : x < b) (h2 : ¬ x = c) (h3 : ¬ x = e) (ha : a.toInt = c.toInt ∧ c.toInt + 1 = e.toInt) (hb : e.toInt + 1 = b.toInt) : False := by
  rw [Int32.lt_iff_toInt_lt] at h0 h1
  rw [← Int32.toInt_inj] at h2 h3
  omega
theorem iv_fresh : iv_w4 ++ [.inl (2, 1, .inr (.inl (fun _ => 0)))] = iv_wd iv_Az iv_Fz iv_Bz := rfl
theorem iv_sw_out {pc t : Nat} {dflt : Int} {offs : Array Int} {y : Int32} (h0 : ¬ y = 0) (h1 : ¬ y = 1) (h2 : ¬ y = 2) (h3 : ¬ y = 3) (h4 : ¬ y = 4) (ha : ¬ (pc : Int) + dflt < 0) (hb : ((pc : Int) + dflt).toNat = t) : iv_sw pc dflt 0 4 offs y = some t := by
  rw [← Int32.toInt_inj] at h0 h1 h2 h3 h4
  have a0 : (0 : Int32).toInt = 0 := rfl
  have a1 : (1 : Int32).toInt = 1 := rfl
  have a2 : (2 : Int32).toInt = 2 := rfl
  have a3 : (3 : Int32).toInt = 3 := rfl
  have a4 : (4 : Int32).toInt = 4 := rfl
  unfold iv_sw
  rw [if_pos (by omega), if_neg ha, hb]
