/-! the law's loop -/
theorem iv_and15 (x : Int32) : ∃ k : Nat, k < 16 ∧ x &&& 15 = Int32.ofNat k := by
  have h : (x &&& 15).toBitVec.toNat ≤ 15 := by
    rw [Int32.toBitVec_and, BitVec.toNat_and]
    exact Nat.and_le_right
  refine ⟨(x &&& 15).toBitVec.toNat, by omega, Int32.toBitVec_inj.mp (BitVec.eq_of_toNat_eq ?_)⟩
  show _ = (BitVec.ofNat 32 _).toNat
  rw [BitVec.toNat_ofNat, Nat.mod_eq_of_lt]
  omega
theorem id_L6 {L : Nat} (hL : L ≤ 3072) : (Int32.ofNat L - 6).toInt = (L : Int) - 6 := by
  have e : (6 : Int32).toInt = 6 := rfl
  rw [Int32.toInt_sub, ia_nn (by unfold ia_fit; rw [Bool.and_eq_true, decide_eq_true_eq, decide_eq_true_eq]; omega), e]
  exact ia_bm (by omega) (by omega)
theorem id_ij {i j : Int32} {a : Int} (hj : j.toInt = a) (h0 : 0 ≤ i.toInt) (h1 : i.toInt ≤ 4000) (ha : 0 ≤ a) (ha2 : a ≤ 6) : (i + j).toInt = i.toInt + a := by
  rw [Int32.toInt_add, hj]
  exact ia_bm (by omega) (by omega)
theorem id_in {L : Nat} {i j : Int32} {a : Int} (hj : j.toInt = a) (h0 : 0 ≤ i.toInt) (h1 : i.toInt ≤ (L : Int) - 6) (hL : L ≤ 3072) (ha : 0 ≤ a) (ha2 : a ≤ 5) : iv_in (i + j) L = true := by
  have := id_ij hj h0 (by omega) ha (by omega)
  exact ia_in_ok (by omega) (by omega)
set_option maxRecDepth 1000000 in
set_option maxHeartbeats 40000000 in
theorem id_out0 {L : Nat} {xs : Nat → Int32} {i : Int32} {A : Nat → Nat → Int32} {F : Nat → Int32} {B : Nat → Int64} {tg : Bool} {k z : Nat} (h : Int32.ofNat L - 6 < i) (hk : k ≤ 601024) (hz : z ≤ 7293034) : id_Fin L xs 20 0 23 [(4, .int i), (3, .ref 65), (2, .ref 44), (1, .ref 1), (0, .ref 0)] [] (ia_wd A F B) tg k z := by
  refine id_Em 5 (pc2 := 30) (lv2 := [(4, .int i), (3, .ref 65), (2, .ref 44), (1, .ref 1), (0, .ref 0)]) (st2 := [.int (Int32.ofNat L - 6), .int i]) (w2 := (ia_wd A F B)) rfl ?_
  refine id_Ebt (c := decide (Int32.ofNat L - 6 < i)) (p1 := 591) (p2 := 33) (lv2 := [(4, .int i), (3, .ref 65), (2, .ref 44), (1, .ref 1), (0, .ref 0)]) (st2 := []) (w2 := (ia_wd A F B)) rfl (decide_eq_true h) ?_
  refine id_Em 1 (pc2 := 592) (lv2 := [(4, .int i), (3, .ref 65), (2, .ref 44), (1, .ref 1), (0, .ref 0)]) (st2 := [.int 1]) (w2 := (ia_wd A F B)) rfl ?_
  exact id_Eret rfl rfl rfl hk hz
set_option maxRecDepth 1000000 in
set_option maxHeartbeats 40000000 in
theorem id_in0 {L : Nat} {xs : Nat → Int32} {i : Int32} {A : Nat → Nat → Int32} {F : Nat → Int32} {B : Nat → Int64} {tg : Bool} {k z : Nat} (h : ¬ Int32.ofNat L - 6 < i) (h0 : iv_in i L = true) (h1 : iv_in (i + 1) L = true) (h2 : iv_in (i + 2) L = true) (h3 : iv_in (i + 3) L = true) (h4 : iv_in (i + 4) L = true) (h5 : iv_in (i + 5) L = true) (hi : ia_inv A F []) (hq : ∀ j, A 5 j = A 48 j) (hg : id_nx L xs i k z) : id_Fin L xs 20 0 23 [(4, .int i), (3, .ref 65), (2, .ref 44), (1, .ref 1), (0, .ref 0)] [] (ia_wd A F B) tg k z := by
  refine id_Em 5 (pc2 := 30) (lv2 := [(4, .int i), (3, .ref 65), (2, .ref 44), (1, .ref 1), (0, .ref 0)]) (st2 := [.int (Int32.ofNat L - 6), .int i]) (w2 := (ia_wd A F B)) rfl ?_
  refine id_Ebf (c := decide (Int32.ofNat L - 6 < i)) (p1 := 591) (p2 := 33) (lv2 := [(4, .int i), (3, .ref 65), (2, .ref 44), (1, .ref 1), (0, .ref 0)]) (st2 := []) (w2 := (ia_wd A F B)) rfl (decide_eq_false h) ?_
  refine id_Em 2 (pc2 := 36) (lv2 := [(4, .int i), (3, .ref 65), (2, .ref 44), (1, .ref 1), (0, .ref 0)]) (st2 := [.int i, .ref 0]) (w2 := (ia_wd A F B)) rfl ?_
  refine id_Eif (c := iv_in i L) (pc2 := 37) (lv2 := [(4, .int i), (3, .ref 65), (2, .ref 44), (1, .ref 1), (0, .ref 0)]) (st2 := [.int (xs (Int32.toNatClampNeg i))]) (w2 := (ia_wd A F B)) rfl h0 ?_
  refine id_Em 2 (pc2 := 40) (lv2 := [(4, .int i), (3, .ref 65), (2, .ref 44), (1, .ref 1), (0, .ref 0)]) (st2 := [.int (xs (Int32.toNatClampNeg i) &&& 15)]) (w2 := (ia_wd A F B)) rfl ?_
  obtain ⟨c, hc, he⟩ := iv_and15 (xs (Int32.toNatClampNeg i))
  have hcc : c = 0 ∨ c = 1 ∨ c = 2 ∨ c = 3 ∨ c = 4 ∨ c = 5 ∨ c = 6 ∨ c = 7 ∨ c = 8 ∨ c = 9 ∨ c = 10 ∨ c = 11 ∨ c = 12 ∨ c = 13 ∨ c = 14 ∨ c = 15 := by omega
  rcases hcc with rfl | rfl | rfl | rfl | rfl | rfl | rfl | rfl | rfl | rfl | rfl | rfl | rfl | rfl | rfl | rfl
  · refine id_Esw rfl rfl (show iv_sw 40 _ _ _ _ _ = some 112 by rw [he]; rfl) ?_
    exact id_k0_0 h1 h2 h3 h4 h5 hi hq hg
  · refine id_Esw rfl rfl (show iv_sw 40 _ _ _ _ _ = some 169 by rw [he]; rfl) ?_
    exact id_k1_0 h1 h2 h3 h4 h5 hi hq hg
  · refine id_Esw rfl rfl (show iv_sw 40 _ _ _ _ _ = some 180 by rw [he]; rfl) ?_
    exact id_k2_0 h1 h2 h3 h4 h5 hi hq hg
  · refine id_Esw rfl rfl (show iv_sw 40 _ _ _ _ _ = some 236 by rw [he]; rfl) ?_
    exact id_k3_0 h1 h2 h3 h4 h5 hi hq hg
  · refine id_Esw rfl rfl (show iv_sw 40 _ _ _ _ _ = some 252 by rw [he]; rfl) ?_
    exact id_k4_0 h1 h2 h3 h4 h5 hi hq hg
  · refine id_Esw rfl rfl (show iv_sw 40 _ _ _ _ _ = some 348 by rw [he]; rfl) ?_
    exact id_k5_0 h1 h2 h3 h4 h5 hi hq hg
  · refine id_Esw rfl rfl (show iv_sw 40 _ _ _ _ _ = some 376 by rw [he]; rfl) ?_
    exact id_k6_0 h1 h2 h3 h4 h5 hi hq hg
  · refine id_Esw rfl rfl (show iv_sw 40 _ _ _ _ _ = some 404 by rw [he]; rfl) ?_
    exact id_k7_0 h1 h2 h3 h4 h5 hi hq hg
  · refine id_Esw rfl rfl (show iv_sw 40 _ _ _ _ _ = some 420 by rw [he]; rfl) ?_
    exact id_k8_0 h1 h2 h3 h4 h5 hi hq hg
  · refine id_Esw rfl rfl (show iv_sw 40 _ _ _ _ _ = some 445 by rw [he]; rfl) ?_
    exact id_k9_0 h1 h2 h3 h4 h5 hi hq hg
  · refine id_Esw rfl rfl (show iv_sw 40 _ _ _ _ _ = some 470 by rw [he]; rfl) ?_
    exact id_k10_0 h1 h2 h3 h4 h5 hi hq hg
  · refine id_Esw rfl rfl (show iv_sw 40 _ _ _ _ _ = some 483 by rw [he]; rfl) ?_
    exact id_k11_0 h1 h2 h3 h4 h5 hi hq hg
  · refine id_Esw rfl rfl (show iv_sw 40 _ _ _ _ _ = some 532 by rw [he]; rfl) ?_
    exact id_k12_0 h1 h2 h3 h4 h5 hi hq hg
  · refine id_Esw rfl rfl (show iv_sw 40 _ _ _ _ _ = some 569 by rw [he]; rfl) ?_
    exact id_k13_0 h1 h2 h3 h4 h5 hi hq hg
  · refine id_Esw rfl rfl (show iv_sw 40 _ _ _ _ _ = some 585 by rw [he]; rfl) ?_
    exact id_k14_0 h1 h2 h3 h4 h5 hi hq hg
  · refine id_Esw rfl rfl (show iv_sw 40 _ _ _ _ _ = some 585 by rw [he]; rfl) ?_
    exact id_k14_0 h1 h2 h3 h4 h5 hi hq hg
set_option maxRecDepth 1000000 in
set_option maxHeartbeats 40000000 in
theorem id_out1 {L : Nat} {xs : Nat → Int32} {i a b : Int32} {A : Nat → Nat → Int32} {F : Nat → Int32} {B : Nat → Int64} {tg : Bool} {k z : Nat} (h : Int32.ofNat L - 6 < i) (hk : k ≤ 601024) (hz : z ≤ 7293034) : id_Fin L xs 20 0 23 [(4, .int i), (6, .int b), (5, .int a), (3, .ref 65), (2, .ref 44), (1, .ref 1), (0, .ref 0)] [] (ia_wd A F B) tg k z := by
  refine id_Em 5 (pc2 := 30) (lv2 := [(4, .int i), (6, .int b), (5, .int a), (3, .ref 65), (2, .ref 44), (1, .ref 1), (0, .ref 0)]) (st2 := [.int (Int32.ofNat L - 6), .int i]) (w2 := (ia_wd A F B)) rfl ?_
  refine id_Ebt (c := decide (Int32.ofNat L - 6 < i)) (p1 := 591) (p2 := 33) (lv2 := [(4, .int i), (6, .int b), (5, .int a), (3, .ref 65), (2, .ref 44), (1, .ref 1), (0, .ref 0)]) (st2 := []) (w2 := (ia_wd A F B)) rfl (decide_eq_true h) ?_
  refine id_Em 1 (pc2 := 592) (lv2 := [(4, .int i), (6, .int b), (5, .int a), (3, .ref 65), (2, .ref 44), (1, .ref 1), (0, .ref 0)]) (st2 := [.int 1]) (w2 := (ia_wd A F B)) rfl ?_
  exact id_Eret rfl rfl rfl hk hz
set_option maxRecDepth 1000000 in
set_option maxHeartbeats 40000000 in
theorem id_in1 {L : Nat} {xs : Nat → Int32} {i a b : Int32} {A : Nat → Nat → Int32} {F : Nat → Int32} {B : Nat → Int64} {tg : Bool} {k z : Nat} (h : ¬ Int32.ofNat L - 6 < i) (h0 : iv_in i L = true) (h1 : iv_in (i + 1) L = true) (h2 : iv_in (i + 2) L = true) (h3 : iv_in (i + 3) L = true) (h4 : iv_in (i + 4) L = true) (h5 : iv_in (i + 5) L = true) (hi : ia_inv A F []) (hq : ∀ j, A 5 j = A 48 j) (hg : id_nx L xs i k z) : id_Fin L xs 20 0 23 [(4, .int i), (6, .int b), (5, .int a), (3, .ref 65), (2, .ref 44), (1, .ref 1), (0, .ref 0)] [] (ia_wd A F B) tg k z := by
  refine id_Em 5 (pc2 := 30) (lv2 := [(4, .int i), (6, .int b), (5, .int a), (3, .ref 65), (2, .ref 44), (1, .ref 1), (0, .ref 0)]) (st2 := [.int (Int32.ofNat L - 6), .int i]) (w2 := (ia_wd A F B)) rfl ?_
  refine id_Ebf (c := decide (Int32.ofNat L - 6 < i)) (p1 := 591) (p2 := 33) (lv2 := [(4, .int i), (6, .int b), (5, .int a), (3, .ref 65), (2, .ref 44), (1, .ref 1), (0, .ref 0)]) (st2 := []) (w2 := (ia_wd A F B)) rfl (decide_eq_false h) ?_
  refine id_Em 2 (pc2 := 36) (lv2 := [(4, .int i), (6, .int b), (5, .int a), (3, .ref 65), (2, .ref 44), (1, .ref 1), (0, .ref 0)]) (st2 := [.int i, .ref 0]) (w2 := (ia_wd A F B)) rfl ?_
  refine id_Eif (c := iv_in i L) (pc2 := 37) (lv2 := [(4, .int i), (6, .int b), (5, .int a), (3, .ref 65), (2, .ref 44), (1, .ref 1), (0, .ref 0)]) (st2 := [.int (xs (Int32.toNatClampNeg i))]) (w2 := (ia_wd A F B)) rfl h0 ?_
  refine id_Em 2 (pc2 := 40) (lv2 := [(4, .int i), (6, .int b), (5, .int a), (3, .ref 65), (2, .ref 44), (1, .ref 1), (0, .ref 0)]) (st2 := [.int (xs (Int32.toNatClampNeg i) &&& 15)]) (w2 := (ia_wd A F B)) rfl ?_
  obtain ⟨c, hc, he⟩ := iv_and15 (xs (Int32.toNatClampNeg i))
  have hcc : c = 0 ∨ c = 1 ∨ c = 2 ∨ c = 3 ∨ c = 4 ∨ c = 5 ∨ c = 6 ∨ c = 7 ∨ c = 8 ∨ c = 9 ∨ c = 10 ∨ c = 11 ∨ c = 12 ∨ c = 13 ∨ c = 14 ∨ c = 15 := by omega
  rcases hcc with rfl | rfl | rfl | rfl | rfl | rfl | rfl | rfl | rfl | rfl | rfl | rfl | rfl | rfl | rfl | rfl
  · refine id_Esw rfl rfl (show iv_sw 40 _ _ _ _ _ = some 112 by rw [he]; rfl) ?_
    exact id_k0_1 h1 h2 h3 h4 h5 hi hq hg
  · refine id_Esw rfl rfl (show iv_sw 40 _ _ _ _ _ = some 169 by rw [he]; rfl) ?_
    exact id_k1_1 h1 h2 h3 h4 h5 hi hq hg
  · refine id_Esw rfl rfl (show iv_sw 40 _ _ _ _ _ = some 180 by rw [he]; rfl) ?_
    exact id_k2_1 h1 h2 h3 h4 h5 hi hq hg
  · refine id_Esw rfl rfl (show iv_sw 40 _ _ _ _ _ = some 236 by rw [he]; rfl) ?_
    exact id_k3_1 h1 h2 h3 h4 h5 hi hq hg
  · refine id_Esw rfl rfl (show iv_sw 40 _ _ _ _ _ = some 252 by rw [he]; rfl) ?_
    exact id_k4_1 h1 h2 h3 h4 h5 hi hq hg
  · refine id_Esw rfl rfl (show iv_sw 40 _ _ _ _ _ = some 348 by rw [he]; rfl) ?_
    exact id_k5_1 h1 h2 h3 h4 h5 hi hq hg
  · refine id_Esw rfl rfl (show iv_sw 40 _ _ _ _ _ = some 376 by rw [he]; rfl) ?_
    exact id_k6_1 h1 h2 h3 h4 h5 hi hq hg
  · refine id_Esw rfl rfl (show iv_sw 40 _ _ _ _ _ = some 404 by rw [he]; rfl) ?_
    exact id_k7_1 h1 h2 h3 h4 h5 hi hq hg
  · refine id_Esw rfl rfl (show iv_sw 40 _ _ _ _ _ = some 420 by rw [he]; rfl) ?_
    exact id_k8_1 h1 h2 h3 h4 h5 hi hq hg
  · refine id_Esw rfl rfl (show iv_sw 40 _ _ _ _ _ = some 445 by rw [he]; rfl) ?_
    exact id_k9_1 h1 h2 h3 h4 h5 hi hq hg
  · refine id_Esw rfl rfl (show iv_sw 40 _ _ _ _ _ = some 470 by rw [he]; rfl) ?_
    exact id_k10_1 h1 h2 h3 h4 h5 hi hq hg
  · refine id_Esw rfl rfl (show iv_sw 40 _ _ _ _ _ = some 483 by rw [he]; rfl) ?_
    exact id_k11_1 h1 h2 h3 h4 h5 hi hq hg
  · refine id_Esw rfl rfl (show iv_sw 40 _ _ _ _ _ = some 532 by rw [he]; rfl) ?_
    exact id_k12_1 h1 h2 h3 h4 h5 hi hq hg
  · refine id_Esw rfl rfl (show iv_sw 40 _ _ _ _ _ = some 569 by rw [he]; rfl) ?_
    exact id_k13_1 h1 h2 h3 h4 h5 hi hq hg
  · refine id_Esw rfl rfl (show iv_sw 40 _ _ _ _ _ = some 585 by rw [he]; rfl) ?_
    exact id_k14_1 h1 h2 h3 h4 h5 hi hq hg
  · refine id_Esw rfl rfl (show iv_sw 40 _ _ _ _ _ = some 585 by rw [he]; rfl) ?_
    exact id_k14_1 h1 h2 h3 h4 h5 hi hq hg
theorem id_loop {L : Nat} {xs : Nat → Int32} (hL : L ≤ 3072) : ∀ (n : Nat) (i : Int32) (lv : List (Nat × Value)) (A : Nat → Nat → Int32) (F : Nat → Int32) (B : Nat → Int64) (tg : Bool) (k z : Nat), 0 ≤ i.toInt → (L : Int) - i.toInt < 6 * (n : Int) + 6 → id_sh lv i → ia_inv A F [] → (∀ j, A 5 j = A 48 j) → k + 2 * n ≤ 601024 → z + 12 * n ≤ 7293034 → id_Fin L xs 20 0 23 lv [] (ia_wd A F B) tg k z := by
  intro n
  induction n with
  | zero =>
    intro i lv A F B tg k z h0 h1 hs hi hq hk hz
    have hlt : Int32.ofNat L - 6 < i := by
      rw [Int32.lt_iff_toInt_lt, id_L6 hL]
      omega
    rcases hs with rfl | ⟨a, b, rfl⟩
    · exact id_out0 hlt (by omega) (by omega)
    · exact id_out1 hlt (by omega) (by omega)
  | succ n ih =>
    intro i lv A F B tg k z h0 h1 hs hi hq hk hz
    by_cases hlt : Int32.ofNat L - 6 < i
    · rcases hs with rfl | ⟨a, b, rfl⟩
      · exact id_out0 hlt (by omega) (by omega)
      · exact id_out1 hlt (by omega) (by omega)
    · have hle : i.toInt ≤ (L : Int) - 6 := by
        rw [Int32.lt_iff_toInt_lt, id_L6 hL] at hlt
        omega
      have g0 : iv_in i L = true := ia_in_ok h0 (by omega)
      have g1 : iv_in (i + 1) L = true := id_in (a := 1) rfl h0 hle hL (by decide) (by decide)
      have g2 : iv_in (i + 2) L = true := id_in (a := 2) rfl h0 hle hL (by decide) (by decide)
      have g3 : iv_in (i + 3) L = true := id_in (a := 3) rfl h0 hle hL (by decide) (by decide)
      have g4 : iv_in (i + 4) L = true := id_in (a := 4) rfl h0 hle hL (by decide) (by decide)
      have g5 : iv_in (i + 5) L = true := id_in (a := 5) rfl h0 hle hL (by decide) (by decide)
      have g6 : (i + 6).toInt = i.toInt + 6 := id_ij (a := 6) rfl h0 (by omega) (by decide) (by decide)
      have hg : id_nx L xs i k z := fun lv2 A2 F2 B2 tg2 k2 z2 s2 i2 q2 kk zz => ih (i + 6) lv2 A2 F2 B2 tg2 k2 z2 (by omega) (by omega) s2 i2 q2 (by omega) (by omega)
      rcases hs with rfl | ⟨a, b, rfl⟩
      · exact id_in0 hlt g0 g1 g2 g3 g4 g5 hi hq hg
      · exact id_in1 hlt g0 g1 g2 g3 g4 g5 hi hq hg
