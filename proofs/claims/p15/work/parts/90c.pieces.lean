/-! p15: the pieces that the kernel runs -/
def iw_wo (s : Option iw_St) : iv_W := match s with
  | some (_, _, w, _) => w
  | none => []
def iw_at (s : Option iw_St) (lv : List (Nat × Value)) (st : List Value) (k z : Nat) : Bool := match s with
  | some (lv2, st2, _, tg, k2, z2) => decide (lv2 = lv) && (decide (st2 = st) && (tg && (Nat.beq k2 k && Nat.beq z2 z)))
  | none => false
theorem iw_at_eq {s : Option iw_St} {lv : List (Nat × Value)} {st : List Value} {k z : Nat} (h : iw_at s lv st k z = true) : s = some (lv, st, iw_wo s, true, k, z) := by
  unfold iw_at at h
  split at h
  · simp only [Bool.and_eq_true, decide_eq_true_eq] at h
    obtain ⟨h1, h2, h3, h4, h5⟩ := h
    have h4 := Nat.eq_of_beq_eq_true h4
    have h5 := Nat.eq_of_beq_eq_true h5
    subst h1 h2 h3 h4 h5
    rfl
  · cases h
def iw_fn (w : iv_W) (a : Nat) : Nat → Int32 := match iv_ai w a 0 with
  | some (_, f) => f
  | none => fun _ => 0
def iw_sz (w : iv_W) (a n : Nat) : Bool := match iv_ai w a 0 with
  | some (m, _) => Nat.beq m n
  | none => false
theorem iw_fn_eq {w : iv_W} {a n : Nat} (h : iw_sz w a n = true) : iv_ai w a 0 = some (n, iw_fn w a) := by
  unfold iw_sz at h
  unfold iw_fn
  split at h
  · next e => rw [e]; have h := Nat.eq_of_beq_eq_true h; subst h; rfl
  · cases h
def iw_all (p : Nat → Bool) : Nat → Nat → Bool
  | 0, _ => true
  | m + 1, j => match p j with
    | true => iw_all p m (j + 1)
    | false => false
theorem iw_all_at {p : Nat → Bool} : ∀ (m j : Nat), iw_all p m j = true → ∀ i, j ≤ i → i < j + m → p i = true
  | 0, _, _, i, h1, h2 => absurd h2 (by omega)
  | m + 1, j, h, i, h1, h2 => by
    unfold iw_all at h
    split at h
    · next hp =>
      by_cases hi : i = j
      · subst hi; exact hp
      · exact iw_all_at m (j + 1) h i (by omega) (by omega)
    · cases h
abbrev iw_X : Nat → Int32 := fun j => iw_xs.getD j 0
def iw_s1 : Option iw_St := iw_go iw_xs.length iw_X 571 6000 20 0 0 [(0, .ref 0)] [] [] true 0 0
def iw_w1 : iv_W := iw_wo iw_s1
set_option maxRecDepth 1000000 in
theorem iw_k1 : (iw_at iw_s1 [(4, .int 42), (3, .ref 65), (2, .ref 44), (1, .ref 1), (0, .ref 0)] [.ref 65, .ref 1] 65 10417 && iv_rc iw_w1 0 15 [.ref 1]) = true := by decide +kernel
def iw_s2 : Option iw_St := iw_go iw_xs.length iw_X 8 1000 18 15 0 [(0, .ref 1)] [] iw_w1 true 0 0
def iw_w2 : iv_W := iw_wo iw_s2
set_option maxRecDepth 1000000 in
theorem iw_k2 : (iw_at iw_s2 [(0, .ref 1)] [.ref 29] 0 0 && iv_rc iw_w2 0 108 [.ref 29]) = true := by decide +kernel
def iw_s3 : Option iw_St := iw_go iw_xs.length iw_X 67 6000 17 108 0 [(0, .ref 29)] [] iw_w2 true 0 0
def iw_w3 : iv_W := iw_wo iw_s3
set_option maxRecDepth 1000000 in
theorem iw_k3 : (iw_at iw_s3 [(1, .int 32), (0, .ref 29)] [.ref 31, .ref 2] 0 0 && (iv_rc iw_w3 0 76 [.ref 2, .ref 31] && (decide (iv_obj iw_w3 2 3 = some [.ref 3, .ref 4, .ref 5, .int 0, .int 2, .int 0, .int 0]) && (decide (iv_len iw_w3 3 = some (0, 2048)) && (decide (iv_len iw_w3 4 = some (0, 64)) && (iw_sz iw_w3 3 2048 && (iw_sz iw_w3 4 64 && iw_sz iw_w3 31 2112))))))) = true := by decide +kernel
set_option maxRecDepth 1000000 in
theorem iw_k3a : (iw_all (fun j => decide (iw_fn iw_w3 3 j = iw_fn iw_w3 31 j)) 128 0 && (!(decide (iw_fn iw_w3 3 128 = iw_fn iw_w3 31 128)) && (!(decide (iw_fn iw_w3 3 129 = iw_fn iw_w3 31 129)) && (!(decide (iw_fn iw_w3 3 130 = iw_fn iw_w3 31 130)) && (!(decide (iw_fn iw_w3 3 131 = iw_fn iw_w3 31 131)) && iw_all (fun j => decide (iw_fn iw_w3 4 j = iw_fn iw_w3 31 (2048 + j))) 64 0))))) = true := by decide +kernel
set_option maxRecDepth 1000000 in
theorem iw_k3b : iw_all (fun j => decide (iw_fn iw_w3 3 j = iw_fn iw_w3 31 j)) 1916 132 = true := by decide +kernel
def iw_s4 : Option iw_St := iw_go iw_xs.length iw_X 15 100 19 193 6 [(0, .ref 1), (1, .ref 65)] [.int 4, .int (Int32.ofInt 0), .ref 65] iw_w3 true 0 0
def iw_w4 : iv_W := iw_wo iw_s4
set_option maxRecDepth 1000000 in
theorem iw_k4 : (iw_at iw_s4 [(0, .ref 1), (1, .ref 65)] [.int (Int32.ofInt 0)] 0 0 && iv_rc iw_w4 0 186 [.ref 44]) = true := by decide +kernel
def iw_s5 : Option iw_St := iw_go iw_xs.length iw_X 20 100 19 186 0 [(0, .ref 44)] [] iw_w4 true 0 0
def iw_w5 : iv_W := iw_wo iw_s5
set_option maxRecDepth 1000000 in
theorem iw_k5 : (iw_at iw_s5 [(1, .int (Int32.ofNat 0)), (0, .ref 44)] [] 0 0 && (decide (59 < iw_w5.length) && (decide (iv_obj iw_w5 44 9 = some [.int 0, .int 0, .ref 45, .ref 46, .ref 47, .int 0, .int 2, .ref 48, .int 0, .int 0, .int 0, .ref 49, .ref 50, .int 0, .ref 51, .ref 52, .ref 53, .ref 54, .ref 55, .ref 56, .int 0, .ref 57, .ref 58, .ref 59, .ref 60, .ref 61, .ref 62, .ref 63, .ref 64]) && (iw_sz iw_w5 46 64 && (iw_sz iw_w5 47 2048 && iw_sz iw_w5 60 2112))))) = true := by decide +kernel
def iw_s7 : Option iw_St := iw_go iw_xs.length iw_X 302 6000 19 186 20 [(1, .int (Int32.ofNat 2112)), (0, .ref 44)] [] (iw_ws iw_w5 (iw_bf (iw_fn iw_w5 46) (iw_fn iw_w5 47) (iw_fn iw_w5 60) 2112)) true 0 0
def iw_w7 : iv_W := iw_wo iw_s7
set_option maxRecDepth 1000000 in
theorem iw_k7 : (iw_at iw_s7 [(3, .int (Int32.ofNat 0)), (2, .int 0), (1, .int (-1)), (0, .ref 44)] [] 0 0 && (decide (iv_obj iw_w7 44 9 = some [.int 0, .int 0, .ref 45, .ref 46, .ref 47, .int 0, .int 2, .ref 48, .int 0, .int 0, .int 0, .ref 49, .ref 50, .int 0, .ref 51, .ref 52, .ref 53, .ref 54, .ref 55, .ref 56, .int 0, .ref 57, .ref 58, .ref 59, .ref 60, .ref 61, .ref 62, .ref 63, .ref 64]) && (iw_sz iw_w7 46 64 && (iw_sz iw_w7 47 2048 && iw_sz iw_w7 60 2112)))) = true := by decide +kernel
set_option maxRecDepth 1000000 in
theorem iw_k7a : iw_all (fun j => decide (iw_fn iw_w7 60 j = if j < 64 then iw_fn iw_w7 46 j else iw_fn iw_w7 47 (j - 64))) 704 0 = true := by decide +kernel
set_option maxRecDepth 1000000 in
theorem iw_k7b : iw_all (fun j => decide (iw_fn iw_w7 60 j = if j < 64 then iw_fn iw_w7 46 j else iw_fn iw_w7 47 (j - 64))) 704 704 = true := by decide +kernel
set_option maxRecDepth 1000000 in
theorem iw_k7c : iw_all (fun j => decide (iw_fn iw_w7 60 j = if j < 64 then iw_fn iw_w7 46 j else iw_fn iw_w7 47 (j - 64))) 704 1408 = true := by decide +kernel
def iw_ok (o : Option iv_O) : Bool := match o with
  | some (.inl (some (.int v)), _, _, k, z) => decide (v = 0) && (decide (k ≤ 601024) && decide (z ≤ 7293034))
  | _ => false
set_option maxRecDepth 1000000 in
theorem iw_chk : iw_ok (iv_run iw_xs.length iw_X 300 20 0 580 [(5, .int (Int32.ofInt 0)), (4, .int 42), (3, .ref 65), (2, .ref 44), (1, .ref 1), (0, .ref 0)] [.int 0] iw_w7 true 65 10417) = true := by decide +kernel
theorem iw_of_ok {o : Option iv_O} (h : iw_ok o = true) : ∃ (w2 : iv_W) (tg2 : Bool) (k2 z2 : Nat), o = some (.inl (some (.int 0)), w2, tg2, k2, z2) ∧ k2 ≤ 601024 ∧ z2 ≤ 7293034 := by
  unfold iw_ok at h
  split at h
  · simp only [Bool.and_eq_true, decide_eq_true_eq] at h
    obtain ⟨rfl, h1, h2⟩ := h
    exact ⟨_, _, _, _, rfl, h1, h2⟩
  · cases h
theorem iw_law_run : ∃ (n : Nat) (w2 : iv_W) (tg2 : Bool) (k2 z2 : Nat), iv_run iw_xs.length (fun j => iw_xs.getD j 0) n 20 0 0 [(0, .ref 0)] [] [] true 0 0 = some (.inl (some (.int 0)), w2, tg2, k2, z2) ∧ k2 ≤ 601024 ∧ z2 ≤ 7293034 := by
  obtain ⟨w2, tg2, k2, z2, h, h1, h2⟩ := iw_of_ok iw_chk
  have q1 := iw_k1
  have q2 := iw_k2
  have q3 := iw_k3
  have q3a := iw_k3a
  have q3b := iw_k3b
  have q4 := iw_k4
  have q5 := iw_k5
  have q7 := iw_k7
  simp only [Bool.and_eq_true, decide_eq_true_eq] at q1 q2 q3 q4 q5 q7
  simp only [Bool.and_eq_true, Bool.not_eq_true'] at q3a
  obtain ⟨p1, p2⟩ := q1
  obtain ⟨p3, p4⟩ := q2
  obtain ⟨p5, p6, p7, p8, p9, p10, p11, p12⟩ := q3
  obtain ⟨r1, r2, r3, r4, r5, r6⟩ := q3a
  obtain ⟨p13, p14⟩ := q4
  obtain ⟨p15, p16, p17, p18, p19, p20⟩ := q5
  obtain ⟨p21, p22, p23, p24, p25⟩ := q7
  obtain ⟨n, hn⟩ := iw_comp (L := iw_xs.length) (xs := iw_X) (iw_at_eq p1) p2 (iw_at_eq p3) p4 (iw_at_eq p5) p6 p7 p8 p9 (iw_fn_eq p10) (iw_fn_eq p11) (iw_fn_eq p12)
    (fun i a b => of_decide_eq_true (iw_all_at _ _ r1 i a b)) (of_decide_eq_false r2) (of_decide_eq_false r3) (of_decide_eq_false r4) (of_decide_eq_false r5) (fun i a b => of_decide_eq_true (iw_all_at _ _ q3b i a b)) (fun i a b => of_decide_eq_true (iw_all_at _ _ r6 i a b))
    (iw_at_eq p13) p14 (iw_at_eq p15) p16 p17 (iw_fn_eq p18) (iw_fn_eq p19) (iw_fn_eq p20) (iw_at_eq p21) p22 (iw_fn_eq p23) (iw_fn_eq p24) (iw_fn_eq p25)
    (fun i a b => of_decide_eq_true (p := iw_fn iw_w7 60 i = if i < 64 then iw_fn iw_w7 46 i else iw_fn iw_w7 47 (i - 64)) (if g1 : i < 704 then iw_all_at _ _ iw_k7a i a (by omega) else if g2 : i < 1408 then iw_all_at _ _ iw_k7b i (by omega) (by omega) else iw_all_at _ _ iw_k7c i (by omega) (by omega)))
    ⟨300, h⟩
  exact ⟨n, w2, tg2, k2, z2, hn, h1, h2⟩
