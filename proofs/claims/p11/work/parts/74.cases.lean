/-! the cases of the law's switch -/
set_option maxRecDepth 1000000 in
set_option maxHeartbeats 40000000 in
theorem id_k0_0 {L : Nat} {xs : Nat → Int32} {i : Int32} {A : Nat → Nat → Int32} {F : Nat → Int32} {B : Nat → Int64} {tg : Bool} {k z : Nat} (h1 : iv_in (i + 1) L = true) (h2 : iv_in (i + 2) L = true) (h3 : iv_in (i + 3) L = true) (h4 : iv_in (i + 4) L = true) (h5 : iv_in (i + 5) L = true) (hi : ia_inv A F []) (hq : ∀ j, A 5 j = A 48 j) (hg : id_nx L xs i k z) : id_Fin L xs 20 0 112 [(4, .int i), (3, .ref 65), (2, .ref 44), (1, .ref 1), (0, .ref 0)] [] (ia_wd A F B) tg k z := by
  refine id_Em 5 (pc2 := 118) (lv2 := [(4, .int i), (3, .ref 65), (2, .ref 44), (1, .ref 1), (0, .ref 0)]) (st2 := [.int (i + 1), .ref 0, .ref 1]) (w2 := (ia_wd A F B)) rfl ?_
  refine id_Eif (c := iv_in (i + 1) L) (pc2 := 119) (lv2 := [(4, .int i), (3, .ref 65), (2, .ref 44), (1, .ref 1), (0, .ref 0)]) (st2 := [.int (xs (Int32.toNatClampNeg (i + 1))), .ref 1]) (w2 := (ia_wd A F B)) rfl h1 ?_
  refine id_Em 7 (pc2 := 128) (lv2 := [(4, .int i), (3, .ref 65), (2, .ref 44), (1, .ref 1), (0, .ref 0)]) (st2 := [.int (i + 2), .ref 0, .long ((Int32.toInt64 (xs (Int32.toNatClampNeg (i + 1)))) <<< ((Int32.toInt64 32) &&& 63)), .ref 1]) (w2 := (ia_wd A F B)) rfl ?_
  refine id_Eif (c := iv_in (i + 2) L) (pc2 := 129) (lv2 := [(4, .int i), (3, .ref 65), (2, .ref 44), (1, .ref 1), (0, .ref 0)]) (st2 := [.int (xs (Int32.toNatClampNeg (i + 2))), .long ((Int32.toInt64 (xs (Int32.toNatClampNeg (i + 1)))) <<< ((Int32.toInt64 32) &&& 63)), .ref 1]) (w2 := (ia_wd A F B)) rfl h2 ?_
  refine id_Em 4 (pc2 := 135) (lv2 := [(4, .int i), (3, .ref 65), (2, .ref 44), (1, .ref 1), (0, .ref 0)]) (st2 := [.long (((Int32.toInt64 (xs (Int32.toNatClampNeg (i + 1)))) <<< ((Int32.toInt64 32) &&& 63)) ||| ((Int32.toInt64 (xs (Int32.toNatClampNeg (i + 2)))) &&& 4294967295)), .ref 1]) (w2 := (ia_wd A F B)) rfl ?_
  obtain ⟨v1, A1, F1, B1, hG1, hi1, hK1⟩ := id_t2 (L := L) (xs := xs) (d := 18) (tg := tg) (B := B) ((((Int32.toInt64 (xs (Int32.toNatClampNeg (i + 1)))) <<< ((Int32.toInt64 32) &&& 63)) ||| ((Int32.toInt64 (xs (Int32.toNatClampNeg (i + 2)))) &&& 4294967295))) hi
  have hq1 : ∀ j, A1 5 j = A1 48 j := fun j => by
    rw [hK1.1 j, hK1.2 j]
    exact hq j
  refine id_Ecall (ν := 2) (c := 2) (as := [.ref 1, .long (((Int32.toInt64 (xs (Int32.toNatClampNeg (i + 1)))) <<< ((Int32.toInt64 32) &&& 63)) ||| ((Int32.toInt64 (xs (Int32.toNatClampNeg (i + 2)))) &&& 4294967295))]) (rest := []) (w2 := (ia_wd A1 F1 B1)) (tg2 := tg) (k2 := 0) (z2 := 0) (v := (some (.int v1))) rfl rfl rfl rfl rfl rfl rfl (Nat.le_of_ble_eq_true rfl) rfl hG1 ?_
  show id_Fin _ _ _ _ 138 [(4, .int i), (3, .ref 65), (2, .ref 44), (1, .ref 1), (0, .ref 0)] [.int v1] (ia_wd A1 F1 B1) tg _ _
  refine id_Em 6 (pc2 := 145) (lv2 := [(4, .int i), (3, .ref 65), (2, .ref 44), (1, .ref 1), (0, .ref 0)]) (st2 := [.int (i + 1), .ref 0, .ref 44]) (w2 := (ia_wd A1 F1 B1)) rfl ?_
  refine id_Eif (c := iv_in (i + 1) L) (pc2 := 146) (lv2 := [(4, .int i), (3, .ref 65), (2, .ref 44), (1, .ref 1), (0, .ref 0)]) (st2 := [.int (xs (Int32.toNatClampNeg (i + 1))), .ref 44]) (w2 := (ia_wd A1 F1 B1)) rfl h1 ?_
  refine id_Em 7 (pc2 := 155) (lv2 := [(4, .int i), (3, .ref 65), (2, .ref 44), (1, .ref 1), (0, .ref 0)]) (st2 := [.int (i + 2), .ref 0, .long ((Int32.toInt64 (xs (Int32.toNatClampNeg (i + 1)))) <<< ((Int32.toInt64 32) &&& 63)), .ref 44]) (w2 := (ia_wd A1 F1 B1)) rfl ?_
  refine id_Eif (c := iv_in (i + 2) L) (pc2 := 156) (lv2 := [(4, .int i), (3, .ref 65), (2, .ref 44), (1, .ref 1), (0, .ref 0)]) (st2 := [.int (xs (Int32.toNatClampNeg (i + 2))), .long ((Int32.toInt64 (xs (Int32.toNatClampNeg (i + 1)))) <<< ((Int32.toInt64 32) &&& 63)), .ref 44]) (w2 := (ia_wd A1 F1 B1)) rfl h2 ?_
  refine id_Em 4 (pc2 := 162) (lv2 := [(4, .int i), (3, .ref 65), (2, .ref 44), (1, .ref 1), (0, .ref 0)]) (st2 := [.long (((Int32.toInt64 (xs (Int32.toNatClampNeg (i + 1)))) <<< ((Int32.toInt64 32) &&& 63)) ||| ((Int32.toInt64 (xs (Int32.toNatClampNeg (i + 2)))) &&& 4294967295)), .ref 44]) (w2 := (ia_wd A1 F1 B1)) rfl ?_
  obtain ⟨v2, A2, F2, B2, hG2, hi2, hK2⟩ := id_t134 (L := L) (xs := xs) (d := 19) (tg := tg) (B := B1) ((((Int32.toInt64 (xs (Int32.toNatClampNeg (i + 1)))) <<< ((Int32.toInt64 32) &&& 63)) ||| ((Int32.toInt64 (xs (Int32.toNatClampNeg (i + 2)))) &&& 4294967295))) hi1
  have hq2 : ∀ j, A2 5 j = A2 48 j := fun j => by
    rw [hK2.1 j, hK2.2 j]
    exact hq1 j
  refine id_Ecall (ν := 134) (c := 2) (as := [.ref 44, .long (((Int32.toInt64 (xs (Int32.toNatClampNeg (i + 1)))) <<< ((Int32.toInt64 32) &&& 63)) ||| ((Int32.toInt64 (xs (Int32.toNatClampNeg (i + 2)))) &&& 4294967295))]) (rest := []) (w2 := (ia_wd A2 F2 B2)) (tg2 := tg) (k2 := 0) (z2 := 0) (v := (some (.int v2))) rfl rfl rfl rfl rfl rfl rfl (Nat.le_of_ble_eq_true rfl) rfl hG2 ?_
  show id_Fin _ _ _ _ 165 [(4, .int i), (3, .ref 65), (2, .ref 44), (1, .ref 1), (0, .ref 0)] [.int v2] (ia_wd A2 F2 B2) tg _ _
  refine id_Em 4 (pc2 := 23) (lv2 := [(4, .int (i + 6)), (3, .ref 65), (2, .ref 44), (1, .ref 1), (0, .ref 0)]) (st2 := []) (w2 := (ia_wd A2 F2 B2)) rfl ?_
  exact hg _ _ _ _ _ _ _ (Or.inl rfl) hi2 hq2 (by omega) (by omega)
set_option maxRecDepth 1000000 in
set_option maxHeartbeats 40000000 in
theorem id_k0_1 {L : Nat} {xs : Nat → Int32} {i a b : Int32} {A : Nat → Nat → Int32} {F : Nat → Int32} {B : Nat → Int64} {tg : Bool} {k z : Nat} (h1 : iv_in (i + 1) L = true) (h2 : iv_in (i + 2) L = true) (h3 : iv_in (i + 3) L = true) (h4 : iv_in (i + 4) L = true) (h5 : iv_in (i + 5) L = true) (hi : ia_inv A F []) (hq : ∀ j, A 5 j = A 48 j) (hg : id_nx L xs i k z) : id_Fin L xs 20 0 112 [(4, .int i), (6, .int b), (5, .int a), (3, .ref 65), (2, .ref 44), (1, .ref 1), (0, .ref 0)] [] (ia_wd A F B) tg k z := by
  refine id_Em 5 (pc2 := 118) (lv2 := [(4, .int i), (6, .int b), (5, .int a), (3, .ref 65), (2, .ref 44), (1, .ref 1), (0, .ref 0)]) (st2 := [.int (i + 1), .ref 0, .ref 1]) (w2 := (ia_wd A F B)) rfl ?_
  refine id_Eif (c := iv_in (i + 1) L) (pc2 := 119) (lv2 := [(4, .int i), (6, .int b), (5, .int a), (3, .ref 65), (2, .ref 44), (1, .ref 1), (0, .ref 0)]) (st2 := [.int (xs (Int32.toNatClampNeg (i + 1))), .ref 1]) (w2 := (ia_wd A F B)) rfl h1 ?_
  refine id_Em 7 (pc2 := 128) (lv2 := [(4, .int i), (6, .int b), (5, .int a), (3, .ref 65), (2, .ref 44), (1, .ref 1), (0, .ref 0)]) (st2 := [.int (i + 2), .ref 0, .long ((Int32.toInt64 (xs (Int32.toNatClampNeg (i + 1)))) <<< ((Int32.toInt64 32) &&& 63)), .ref 1]) (w2 := (ia_wd A F B)) rfl ?_
  refine id_Eif (c := iv_in (i + 2) L) (pc2 := 129) (lv2 := [(4, .int i), (6, .int b), (5, .int a), (3, .ref 65), (2, .ref 44), (1, .ref 1), (0, .ref 0)]) (st2 := [.int (xs (Int32.toNatClampNeg (i + 2))), .long ((Int32.toInt64 (xs (Int32.toNatClampNeg (i + 1)))) <<< ((Int32.toInt64 32) &&& 63)), .ref 1]) (w2 := (ia_wd A F B)) rfl h2 ?_
  refine id_Em 4 (pc2 := 135) (lv2 := [(4, .int i), (6, .int b), (5, .int a), (3, .ref 65), (2, .ref 44), (1, .ref 1), (0, .ref 0)]) (st2 := [.long (((Int32.toInt64 (xs (Int32.toNatClampNeg (i + 1)))) <<< ((Int32.toInt64 32) &&& 63)) ||| ((Int32.toInt64 (xs (Int32.toNatClampNeg (i + 2)))) &&& 4294967295)), .ref 1]) (w2 := (ia_wd A F B)) rfl ?_
  obtain ⟨v1, A1, F1, B1, hG1, hi1, hK1⟩ := id_t2 (L := L) (xs := xs) (d := 18) (tg := tg) (B := B) ((((Int32.toInt64 (xs (Int32.toNatClampNeg (i + 1)))) <<< ((Int32.toInt64 32) &&& 63)) ||| ((Int32.toInt64 (xs (Int32.toNatClampNeg (i + 2)))) &&& 4294967295))) hi
  have hq1 : ∀ j, A1 5 j = A1 48 j := fun j => by
    rw [hK1.1 j, hK1.2 j]
    exact hq j
  refine id_Ecall (ν := 2) (c := 2) (as := [.ref 1, .long (((Int32.toInt64 (xs (Int32.toNatClampNeg (i + 1)))) <<< ((Int32.toInt64 32) &&& 63)) ||| ((Int32.toInt64 (xs (Int32.toNatClampNeg (i + 2)))) &&& 4294967295))]) (rest := []) (w2 := (ia_wd A1 F1 B1)) (tg2 := tg) (k2 := 0) (z2 := 0) (v := (some (.int v1))) rfl rfl rfl rfl rfl rfl rfl (Nat.le_of_ble_eq_true rfl) rfl hG1 ?_
  show id_Fin _ _ _ _ 138 [(4, .int i), (6, .int b), (5, .int a), (3, .ref 65), (2, .ref 44), (1, .ref 1), (0, .ref 0)] [.int v1] (ia_wd A1 F1 B1) tg _ _
  refine id_Em 6 (pc2 := 145) (lv2 := [(4, .int i), (6, .int b), (5, .int a), (3, .ref 65), (2, .ref 44), (1, .ref 1), (0, .ref 0)]) (st2 := [.int (i + 1), .ref 0, .ref 44]) (w2 := (ia_wd A1 F1 B1)) rfl ?_
  refine id_Eif (c := iv_in (i + 1) L) (pc2 := 146) (lv2 := [(4, .int i), (6, .int b), (5, .int a), (3, .ref 65), (2, .ref 44), (1, .ref 1), (0, .ref 0)]) (st2 := [.int (xs (Int32.toNatClampNeg (i + 1))), .ref 44]) (w2 := (ia_wd A1 F1 B1)) rfl h1 ?_
  refine id_Em 7 (pc2 := 155) (lv2 := [(4, .int i), (6, .int b), (5, .int a), (3, .ref 65), (2, .ref 44), (1, .ref 1), (0, .ref 0)]) (st2 := [.int (i + 2), .ref 0, .long ((Int32.toInt64 (xs (Int32.toNatClampNeg (i + 1)))) <<< ((Int32.toInt64 32) &&& 63)), .ref 44]) (w2 := (ia_wd A1 F1 B1)) rfl ?_
  refine id_Eif (c := iv_in (i + 2) L) (pc2 := 156) (lv2 := [(4, .int i), (6, .int b), (5, .int a), (3, .ref 65), (2, .ref 44), (1, .ref 1), (0, .ref 0)]) (st2 := [.int (xs (Int32.toNatClampNeg (i + 2))), .long ((Int32.toInt64 (xs (Int32.toNatClampNeg (i + 1)))) <<< ((Int32.toInt64 32) &&& 63)), .ref 44]) (w2 := (ia_wd A1 F1 B1)) rfl h2 ?_
  refine id_Em 4 (pc2 := 162) (lv2 := [(4, .int i), (6, .int b), (5, .int a), (3, .ref 65), (2, .ref 44), (1, .ref 1), (0, .ref 0)]) (st2 := [.long (((Int32.toInt64 (xs (Int32.toNatClampNeg (i + 1)))) <<< ((Int32.toInt64 32) &&& 63)) ||| ((Int32.toInt64 (xs (Int32.toNatClampNeg (i + 2)))) &&& 4294967295)), .ref 44]) (w2 := (ia_wd A1 F1 B1)) rfl ?_
  obtain ⟨v2, A2, F2, B2, hG2, hi2, hK2⟩ := id_t134 (L := L) (xs := xs) (d := 19) (tg := tg) (B := B1) ((((Int32.toInt64 (xs (Int32.toNatClampNeg (i + 1)))) <<< ((Int32.toInt64 32) &&& 63)) ||| ((Int32.toInt64 (xs (Int32.toNatClampNeg (i + 2)))) &&& 4294967295))) hi1
  have hq2 : ∀ j, A2 5 j = A2 48 j := fun j => by
    rw [hK2.1 j, hK2.2 j]
    exact hq1 j
  refine id_Ecall (ν := 134) (c := 2) (as := [.ref 44, .long (((Int32.toInt64 (xs (Int32.toNatClampNeg (i + 1)))) <<< ((Int32.toInt64 32) &&& 63)) ||| ((Int32.toInt64 (xs (Int32.toNatClampNeg (i + 2)))) &&& 4294967295))]) (rest := []) (w2 := (ia_wd A2 F2 B2)) (tg2 := tg) (k2 := 0) (z2 := 0) (v := (some (.int v2))) rfl rfl rfl rfl rfl rfl rfl (Nat.le_of_ble_eq_true rfl) rfl hG2 ?_
  show id_Fin _ _ _ _ 165 [(4, .int i), (6, .int b), (5, .int a), (3, .ref 65), (2, .ref 44), (1, .ref 1), (0, .ref 0)] [.int v2] (ia_wd A2 F2 B2) tg _ _
  refine id_Em 4 (pc2 := 23) (lv2 := [(4, .int (i + 6)), (6, .int b), (5, .int a), (3, .ref 65), (2, .ref 44), (1, .ref 1), (0, .ref 0)]) (st2 := []) (w2 := (ia_wd A2 F2 B2)) rfl ?_
  exact hg _ _ _ _ _ _ _ (Or.inr ⟨_, _, rfl⟩) hi2 hq2 (by omega) (by omega)
set_option maxRecDepth 1000000 in
set_option maxHeartbeats 40000000 in
theorem id_k1_0 {L : Nat} {xs : Nat → Int32} {i : Int32} {A : Nat → Nat → Int32} {F : Nat → Int32} {B : Nat → Int64} {tg : Bool} {k z : Nat} (h1 : iv_in (i + 1) L = true) (h2 : iv_in (i + 2) L = true) (h3 : iv_in (i + 3) L = true) (h4 : iv_in (i + 4) L = true) (h5 : iv_in (i + 5) L = true) (hi : ia_inv A F []) (hq : ∀ j, A 5 j = A 48 j) (hg : id_nx L xs i k z) : id_Fin L xs 20 0 169 [(4, .int i), (3, .ref 65), (2, .ref 44), (1, .ref 1), (0, .ref 0)] [] (ia_wd A F B) tg k z := by
  refine id_Em 1 (pc2 := 170) (lv2 := [(4, .int i), (3, .ref 65), (2, .ref 44), (1, .ref 1), (0, .ref 0)]) (st2 := [.ref 1]) (w2 := (ia_wd A F B)) rfl ?_
  obtain ⟨A1, F1, B1, tg1, n1, hn1, hG1, hi1, hf1⟩ := id_hv (L := L) (xs := xs) (d := 19) (tg := tg) (B := B) (vals := [.ref 1]) ia_h761 rfl rfl (Nat.le_of_ble_eq_true rfl) (show ia_sk _ ia_m761.2.2.1 _ from ⟨List.mem_singleton.mpr rfl, trivial⟩) hi
  have hq1 : ∀ j, A1 5 j = A1 48 j := fun j => by
    rw [id_fz (r := 5) hf1 rfl rfl j, id_fz (r := 48) hf1 rfl rfl j]
    exact hq j
  refine id_Ecall (ν := 3) (c := 1) (as := [.ref 1]) (rest := []) (w2 := (ia_wd A1 F1 B1)) (tg2 := tg1) (k2 := n1) (z2 := (6 * n1)) (v := none) rfl rfl rfl rfl rfl rfl rfl (Nat.le_of_ble_eq_true rfl) rfl hG1 ?_
  show id_Fin _ _ _ _ 173 [(4, .int i), (3, .ref 65), (2, .ref 44), (1, .ref 1), (0, .ref 0)] [] (ia_wd A1 F1 B1) tg1 _ _
  refine id_Em 1 (pc2 := 174) (lv2 := [(4, .int i), (3, .ref 65), (2, .ref 44), (1, .ref 1), (0, .ref 0)]) (st2 := [.ref 44]) (w2 := (ia_wd A1 F1 B1)) rfl ?_
  obtain ⟨A2, F2, B2, tg2, n2, hn2, hG2, hi2, hf2⟩ := id_hv (L := L) (xs := xs) (d := 19) (tg := tg1) (B := B1) (vals := [.ref 44]) ia_h1 rfl rfl (Nat.le_of_ble_eq_true rfl) (show ia_sk _ ia_m1.2.2.1 _ from ⟨List.mem_singleton.mpr rfl, trivial⟩) hi1
  have hq2 : ∀ j, A2 5 j = A2 48 j := fun j => by
    rw [id_fz (r := 5) hf2 rfl rfl j, id_fz (r := 48) hf2 rfl rfl j]
    exact hq1 j
  refine id_Ecall (ν := 135) (c := 1) (as := [.ref 44]) (rest := []) (w2 := (ia_wd A2 F2 B2)) (tg2 := tg2) (k2 := n2) (z2 := (6 * n2)) (v := none) rfl rfl rfl rfl rfl rfl rfl (Nat.le_of_ble_eq_true rfl) rfl hG2 ?_
  show id_Fin _ _ _ _ 177 [(4, .int i), (3, .ref 65), (2, .ref 44), (1, .ref 1), (0, .ref 0)] [] (ia_wd A2 F2 B2) tg2 _ _
  refine id_Em 3 (pc2 := 23) (lv2 := [(4, .int (i + 6)), (3, .ref 65), (2, .ref 44), (1, .ref 1), (0, .ref 0)]) (st2 := []) (w2 := (ia_wd A2 F2 B2)) rfl ?_
  exact hg _ _ _ _ _ _ _ (Or.inl rfl) hi2 hq2 (by omega) (by omega)
set_option maxRecDepth 1000000 in
set_option maxHeartbeats 40000000 in
theorem id_k1_1 {L : Nat} {xs : Nat → Int32} {i a b : Int32} {A : Nat → Nat → Int32} {F : Nat → Int32} {B : Nat → Int64} {tg : Bool} {k z : Nat} (h1 : iv_in (i + 1) L = true) (h2 : iv_in (i + 2) L = true) (h3 : iv_in (i + 3) L = true) (h4 : iv_in (i + 4) L = true) (h5 : iv_in (i + 5) L = true) (hi : ia_inv A F []) (hq : ∀ j, A 5 j = A 48 j) (hg : id_nx L xs i k z) : id_Fin L xs 20 0 169 [(4, .int i), (6, .int b), (5, .int a), (3, .ref 65), (2, .ref 44), (1, .ref 1), (0, .ref 0)] [] (ia_wd A F B) tg k z := by
  refine id_Em 1 (pc2 := 170) (lv2 := [(4, .int i), (6, .int b), (5, .int a), (3, .ref 65), (2, .ref 44), (1, .ref 1), (0, .ref 0)]) (st2 := [.ref 1]) (w2 := (ia_wd A F B)) rfl ?_
  obtain ⟨A1, F1, B1, tg1, n1, hn1, hG1, hi1, hf1⟩ := id_hv (L := L) (xs := xs) (d := 19) (tg := tg) (B := B) (vals := [.ref 1]) ia_h761 rfl rfl (Nat.le_of_ble_eq_true rfl) (show ia_sk _ ia_m761.2.2.1 _ from ⟨List.mem_singleton.mpr rfl, trivial⟩) hi
  have hq1 : ∀ j, A1 5 j = A1 48 j := fun j => by
    rw [id_fz (r := 5) hf1 rfl rfl j, id_fz (r := 48) hf1 rfl rfl j]
    exact hq j
  refine id_Ecall (ν := 3) (c := 1) (as := [.ref 1]) (rest := []) (w2 := (ia_wd A1 F1 B1)) (tg2 := tg1) (k2 := n1) (z2 := (6 * n1)) (v := none) rfl rfl rfl rfl rfl rfl rfl (Nat.le_of_ble_eq_true rfl) rfl hG1 ?_
  show id_Fin _ _ _ _ 173 [(4, .int i), (6, .int b), (5, .int a), (3, .ref 65), (2, .ref 44), (1, .ref 1), (0, .ref 0)] [] (ia_wd A1 F1 B1) tg1 _ _
  refine id_Em 1 (pc2 := 174) (lv2 := [(4, .int i), (6, .int b), (5, .int a), (3, .ref 65), (2, .ref 44), (1, .ref 1), (0, .ref 0)]) (st2 := [.ref 44]) (w2 := (ia_wd A1 F1 B1)) rfl ?_
  obtain ⟨A2, F2, B2, tg2, n2, hn2, hG2, hi2, hf2⟩ := id_hv (L := L) (xs := xs) (d := 19) (tg := tg1) (B := B1) (vals := [.ref 44]) ia_h1 rfl rfl (Nat.le_of_ble_eq_true rfl) (show ia_sk _ ia_m1.2.2.1 _ from ⟨List.mem_singleton.mpr rfl, trivial⟩) hi1
  have hq2 : ∀ j, A2 5 j = A2 48 j := fun j => by
    rw [id_fz (r := 5) hf2 rfl rfl j, id_fz (r := 48) hf2 rfl rfl j]
    exact hq1 j
  refine id_Ecall (ν := 135) (c := 1) (as := [.ref 44]) (rest := []) (w2 := (ia_wd A2 F2 B2)) (tg2 := tg2) (k2 := n2) (z2 := (6 * n2)) (v := none) rfl rfl rfl rfl rfl rfl rfl (Nat.le_of_ble_eq_true rfl) rfl hG2 ?_
  show id_Fin _ _ _ _ 177 [(4, .int i), (6, .int b), (5, .int a), (3, .ref 65), (2, .ref 44), (1, .ref 1), (0, .ref 0)] [] (ia_wd A2 F2 B2) tg2 _ _
  refine id_Em 3 (pc2 := 23) (lv2 := [(4, .int (i + 6)), (6, .int b), (5, .int a), (3, .ref 65), (2, .ref 44), (1, .ref 1), (0, .ref 0)]) (st2 := []) (w2 := (ia_wd A2 F2 B2)) rfl ?_
  exact hg _ _ _ _ _ _ _ (Or.inr ⟨_, _, rfl⟩) hi2 hq2 (by omega) (by omega)
set_option maxRecDepth 1000000 in
set_option maxHeartbeats 40000000 in
theorem id_k2_0 {L : Nat} {xs : Nat → Int32} {i : Int32} {A : Nat → Nat → Int32} {F : Nat → Int32} {B : Nat → Int64} {tg : Bool} {k z : Nat} (h1 : iv_in (i + 1) L = true) (h2 : iv_in (i + 2) L = true) (h3 : iv_in (i + 3) L = true) (h4 : iv_in (i + 4) L = true) (h5 : iv_in (i + 5) L = true) (hi : ia_inv A F []) (hq : ∀ j, A 5 j = A 48 j) (hg : id_nx L xs i k z) : id_Fin L xs 20 0 180 [(4, .int i), (3, .ref 65), (2, .ref 44), (1, .ref 1), (0, .ref 0)] [] (ia_wd A F B) tg k z := by
  by_cases hb : xs (Int32.toNatClampNeg (i + 1)) = 0
  · refine id_Em 5 (pc2 := 186) (lv2 := [(4, .int i), (3, .ref 65), (2, .ref 44), (1, .ref 1), (0, .ref 0)]) (st2 := [.int (i + 1), .ref 0, .ref 1]) (w2 := (ia_wd A F B)) rfl ?_
    refine id_Eif (c := iv_in (i + 1) L) (pc2 := 187) (lv2 := [(4, .int i), (3, .ref 65), (2, .ref 44), (1, .ref 1), (0, .ref 0)]) (st2 := [.int (xs (Int32.toNatClampNeg (i + 1))), .ref 1]) (w2 := (ia_wd A F B)) rfl h1 ?_
    refine id_Ebt (c := decide ((xs (Int32.toNatClampNeg (i + 1))) = 0)) (p1 := 194) (p2 := 190) (lv2 := [(4, .int i), (3, .ref 65), (2, .ref 44), (1, .ref 1), (0, .ref 0)]) (st2 := [.ref 1]) (w2 := (ia_wd A F B)) rfl (decide_eq_true hb) ?_
    refine id_Em 5 (pc2 := 200) (lv2 := [(4, .int i), (3, .ref 65), (2, .ref 44), (1, .ref 1), (0, .ref 0)]) (st2 := [.int (i + 2), .ref 0, .int 0, .ref 1]) (w2 := (ia_wd A F B)) rfl ?_
    refine id_Eif (c := iv_in (i + 2) L) (pc2 := 201) (lv2 := [(4, .int i), (3, .ref 65), (2, .ref 44), (1, .ref 1), (0, .ref 0)]) (st2 := [.int (xs (Int32.toNatClampNeg (i + 2))), .int 0, .ref 1]) (w2 := (ia_wd A F B)) rfl h2 ?_
    refine id_Em 1 (pc2 := 202) (lv2 := [(4, .int i), (3, .ref 65), (2, .ref 44), (1, .ref 1), (0, .ref 0)]) (st2 := [.ref 65, .int (xs (Int32.toNatClampNeg (i + 2))), .int 0, .ref 1]) (w2 := (ia_wd A F B)) rfl ?_
    obtain ⟨v1, A1, F1, B1, tg1, n1, hn1, hG1, hi1, hf1, -⟩ := id_hi (L := L) (xs := xs) (d := 19) (tg := tg) (B := B) (vals := [.ref 1, .int 0, .int (xs (Int32.toNatClampNeg (i + 2))), .ref 65]) ia_h1283 rfl rfl (Nat.le_of_ble_eq_true rfl) (show ia_sk _ ia_m1283.2.2.1 _ from ⟨List.mem_singleton.mpr rfl, id_nul, id_top _, List.mem_singleton.mpr rfl, trivial⟩) hi
    have hq1 : ∀ j, A1 5 j = A1 48 j := fun j => by
      rw [id_fz (r := 5) hf1 rfl rfl j, id_fz (r := 48) hf1 rfl rfl j]
      exact hq j
    refine id_Ecall (ν := 186) (c := 4) (as := [.ref 1, .int 0, .int (xs (Int32.toNatClampNeg (i + 2))), .ref 65]) (rest := []) (w2 := (ia_wd A1 F1 B1)) (tg2 := tg1) (k2 := n1) (z2 := (6 * n1)) (v := (some (.int v1))) rfl rfl rfl rfl rfl rfl rfl (Nat.le_of_ble_eq_true rfl) rfl hG1 ?_
    show id_Fin _ _ _ _ 205 [(4, .int i), (3, .ref 65), (2, .ref 44), (1, .ref 1), (0, .ref 0)] [.int v1] (ia_wd A1 F1 B1) tg1 _ _
    refine id_Em 6 (pc2 := 213) (lv2 := [(5, .int v1), (4, .int i), (3, .ref 65), (2, .ref 44), (1, .ref 1), (0, .ref 0)]) (st2 := [.int (i + 1), .ref 0, .ref 44]) (w2 := (ia_wd A1 F1 B1)) rfl ?_
    refine id_Eif (c := iv_in (i + 1) L) (pc2 := 214) (lv2 := [(5, .int v1), (4, .int i), (3, .ref 65), (2, .ref 44), (1, .ref 1), (0, .ref 0)]) (st2 := [.int (xs (Int32.toNatClampNeg (i + 1))), .ref 44]) (w2 := (ia_wd A1 F1 B1)) rfl h1 ?_
    refine id_Ebt (c := decide ((xs (Int32.toNatClampNeg (i + 1))) = 0)) (p1 := 221) (p2 := 217) (lv2 := [(5, .int v1), (4, .int i), (3, .ref 65), (2, .ref 44), (1, .ref 1), (0, .ref 0)]) (st2 := [.ref 44]) (w2 := (ia_wd A1 F1 B1)) rfl (decide_eq_true hb) ?_
    refine id_Em 5 (pc2 := 227) (lv2 := [(5, .int v1), (4, .int i), (3, .ref 65), (2, .ref 44), (1, .ref 1), (0, .ref 0)]) (st2 := [.int (i + 2), .ref 0, .int 0, .ref 44]) (w2 := (ia_wd A1 F1 B1)) rfl ?_
    refine id_Eif (c := iv_in (i + 2) L) (pc2 := 228) (lv2 := [(5, .int v1), (4, .int i), (3, .ref 65), (2, .ref 44), (1, .ref 1), (0, .ref 0)]) (st2 := [.int (xs (Int32.toNatClampNeg (i + 2))), .int 0, .ref 44]) (w2 := (ia_wd A1 F1 B1)) rfl h2 ?_
    obtain ⟨v2, A2, F2, B2, tg2, n2, hn2, hG2, hi2, hf2, -⟩ := id_hi (L := L) (xs := xs) (d := 19) (tg := tg1) (B := B1) (vals := [.ref 44, .int 0, .int (xs (Int32.toNatClampNeg (i + 2)))]) ia_h1277 rfl rfl (Nat.le_of_ble_eq_true rfl) (show ia_sk _ ia_m1277.2.2.1 _ from ⟨List.mem_singleton.mpr rfl, id_nul, id_top _, trivial⟩) hi1
    have hq2 : ∀ j, A2 5 j = A2 48 j := fun j => by
      rw [id_fz (r := 5) hf2 rfl rfl j, id_fz (r := 48) hf2 rfl rfl j]
      exact hq1 j
    refine id_Ecall (ν := 166) (c := 3) (as := [.ref 44, .int 0, .int (xs (Int32.toNatClampNeg (i + 2)))]) (rest := []) (w2 := (ia_wd A2 F2 B2)) (tg2 := tg2) (k2 := n2) (z2 := (6 * n2)) (v := (some (.int v2))) rfl rfl rfl rfl rfl rfl rfl (Nat.le_of_ble_eq_true rfl) rfl hG2 ?_
    show id_Fin _ _ _ _ 231 [(5, .int v1), (4, .int i), (3, .ref 65), (2, .ref 44), (1, .ref 1), (0, .ref 0)] [.int v2] (ia_wd A2 F2 B2) tg2 _ _
    refine id_Em 4 (pc2 := 23) (lv2 := [(4, .int (i + 6)), (6, .int v2), (5, .int v1), (3, .ref 65), (2, .ref 44), (1, .ref 1), (0, .ref 0)]) (st2 := []) (w2 := (ia_wd A2 F2 B2)) rfl ?_
    exact hg _ _ _ _ _ _ _ (Or.inr ⟨_, _, rfl⟩) hi2 hq2 (by omega) (by omega)
  · refine id_Em 5 (pc2 := 186) (lv2 := [(4, .int i), (3, .ref 65), (2, .ref 44), (1, .ref 1), (0, .ref 0)]) (st2 := [.int (i + 1), .ref 0, .ref 1]) (w2 := (ia_wd A F B)) rfl ?_
    refine id_Eif (c := iv_in (i + 1) L) (pc2 := 187) (lv2 := [(4, .int i), (3, .ref 65), (2, .ref 44), (1, .ref 1), (0, .ref 0)]) (st2 := [.int (xs (Int32.toNatClampNeg (i + 1))), .ref 1]) (w2 := (ia_wd A F B)) rfl h1 ?_
    refine id_Ebf (c := decide ((xs (Int32.toNatClampNeg (i + 1))) = 0)) (p1 := 194) (p2 := 190) (lv2 := [(4, .int i), (3, .ref 65), (2, .ref 44), (1, .ref 1), (0, .ref 0)]) (st2 := [.ref 1]) (w2 := (ia_wd A F B)) rfl (decide_eq_false hb) ?_
    refine id_Em 6 (pc2 := 200) (lv2 := [(4, .int i), (3, .ref 65), (2, .ref 44), (1, .ref 1), (0, .ref 0)]) (st2 := [.int (i + 2), .ref 0, .int 1, .ref 1]) (w2 := (ia_wd A F B)) rfl ?_
    refine id_Eif (c := iv_in (i + 2) L) (pc2 := 201) (lv2 := [(4, .int i), (3, .ref 65), (2, .ref 44), (1, .ref 1), (0, .ref 0)]) (st2 := [.int (xs (Int32.toNatClampNeg (i + 2))), .int 1, .ref 1]) (w2 := (ia_wd A F B)) rfl h2 ?_
    refine id_Em 1 (pc2 := 202) (lv2 := [(4, .int i), (3, .ref 65), (2, .ref 44), (1, .ref 1), (0, .ref 0)]) (st2 := [.ref 65, .int (xs (Int32.toNatClampNeg (i + 2))), .int 1, .ref 1]) (w2 := (ia_wd A F B)) rfl ?_
    obtain ⟨v1, A1, F1, B1, tg1, n1, hn1, hG1, hi1, hf1, -⟩ := id_hi (L := L) (xs := xs) (d := 19) (tg := tg) (B := B) (vals := [.ref 1, .int 1, .int (xs (Int32.toNatClampNeg (i + 2))), .ref 65]) ia_h1283 rfl rfl (Nat.le_of_ble_eq_true rfl) (show ia_sk _ ia_m1283.2.2.1 _ from ⟨List.mem_singleton.mpr rfl, id_one, id_top _, List.mem_singleton.mpr rfl, trivial⟩) hi
    have hq1 : ∀ j, A1 5 j = A1 48 j := fun j => by
      rw [id_fz (r := 5) hf1 rfl rfl j, id_fz (r := 48) hf1 rfl rfl j]
      exact hq j
    refine id_Ecall (ν := 186) (c := 4) (as := [.ref 1, .int 1, .int (xs (Int32.toNatClampNeg (i + 2))), .ref 65]) (rest := []) (w2 := (ia_wd A1 F1 B1)) (tg2 := tg1) (k2 := n1) (z2 := (6 * n1)) (v := (some (.int v1))) rfl rfl rfl rfl rfl rfl rfl (Nat.le_of_ble_eq_true rfl) rfl hG1 ?_
    show id_Fin _ _ _ _ 205 [(4, .int i), (3, .ref 65), (2, .ref 44), (1, .ref 1), (0, .ref 0)] [.int v1] (ia_wd A1 F1 B1) tg1 _ _
    refine id_Em 6 (pc2 := 213) (lv2 := [(5, .int v1), (4, .int i), (3, .ref 65), (2, .ref 44), (1, .ref 1), (0, .ref 0)]) (st2 := [.int (i + 1), .ref 0, .ref 44]) (w2 := (ia_wd A1 F1 B1)) rfl ?_
    refine id_Eif (c := iv_in (i + 1) L) (pc2 := 214) (lv2 := [(5, .int v1), (4, .int i), (3, .ref 65), (2, .ref 44), (1, .ref 1), (0, .ref 0)]) (st2 := [.int (xs (Int32.toNatClampNeg (i + 1))), .ref 44]) (w2 := (ia_wd A1 F1 B1)) rfl h1 ?_
    refine id_Ebf (c := decide ((xs (Int32.toNatClampNeg (i + 1))) = 0)) (p1 := 221) (p2 := 217) (lv2 := [(5, .int v1), (4, .int i), (3, .ref 65), (2, .ref 44), (1, .ref 1), (0, .ref 0)]) (st2 := [.ref 44]) (w2 := (ia_wd A1 F1 B1)) rfl (decide_eq_false hb) ?_
    refine id_Em 6 (pc2 := 227) (lv2 := [(5, .int v1), (4, .int i), (3, .ref 65), (2, .ref 44), (1, .ref 1), (0, .ref 0)]) (st2 := [.int (i + 2), .ref 0, .int 1, .ref 44]) (w2 := (ia_wd A1 F1 B1)) rfl ?_
    refine id_Eif (c := iv_in (i + 2) L) (pc2 := 228) (lv2 := [(5, .int v1), (4, .int i), (3, .ref 65), (2, .ref 44), (1, .ref 1), (0, .ref 0)]) (st2 := [.int (xs (Int32.toNatClampNeg (i + 2))), .int 1, .ref 44]) (w2 := (ia_wd A1 F1 B1)) rfl h2 ?_
    obtain ⟨v2, A2, F2, B2, tg2, n2, hn2, hG2, hi2, hf2, -⟩ := id_hi (L := L) (xs := xs) (d := 19) (tg := tg1) (B := B1) (vals := [.ref 44, .int 1, .int (xs (Int32.toNatClampNeg (i + 2)))]) ia_h1277 rfl rfl (Nat.le_of_ble_eq_true rfl) (show ia_sk _ ia_m1277.2.2.1 _ from ⟨List.mem_singleton.mpr rfl, id_one, id_top _, trivial⟩) hi1
    have hq2 : ∀ j, A2 5 j = A2 48 j := fun j => by
      rw [id_fz (r := 5) hf2 rfl rfl j, id_fz (r := 48) hf2 rfl rfl j]
      exact hq1 j
    refine id_Ecall (ν := 166) (c := 3) (as := [.ref 44, .int 1, .int (xs (Int32.toNatClampNeg (i + 2)))]) (rest := []) (w2 := (ia_wd A2 F2 B2)) (tg2 := tg2) (k2 := n2) (z2 := (6 * n2)) (v := (some (.int v2))) rfl rfl rfl rfl rfl rfl rfl (Nat.le_of_ble_eq_true rfl) rfl hG2 ?_
    show id_Fin _ _ _ _ 231 [(5, .int v1), (4, .int i), (3, .ref 65), (2, .ref 44), (1, .ref 1), (0, .ref 0)] [.int v2] (ia_wd A2 F2 B2) tg2 _ _
    refine id_Em 4 (pc2 := 23) (lv2 := [(4, .int (i + 6)), (6, .int v2), (5, .int v1), (3, .ref 65), (2, .ref 44), (1, .ref 1), (0, .ref 0)]) (st2 := []) (w2 := (ia_wd A2 F2 B2)) rfl ?_
    exact hg _ _ _ _ _ _ _ (Or.inr ⟨_, _, rfl⟩) hi2 hq2 (by omega) (by omega)
set_option maxRecDepth 1000000 in
set_option maxHeartbeats 40000000 in
theorem id_k2_1 {L : Nat} {xs : Nat → Int32} {i a b : Int32} {A : Nat → Nat → Int32} {F : Nat → Int32} {B : Nat → Int64} {tg : Bool} {k z : Nat} (h1 : iv_in (i + 1) L = true) (h2 : iv_in (i + 2) L = true) (h3 : iv_in (i + 3) L = true) (h4 : iv_in (i + 4) L = true) (h5 : iv_in (i + 5) L = true) (hi : ia_inv A F []) (hq : ∀ j, A 5 j = A 48 j) (hg : id_nx L xs i k z) : id_Fin L xs 20 0 180 [(4, .int i), (6, .int b), (5, .int a), (3, .ref 65), (2, .ref 44), (1, .ref 1), (0, .ref 0)] [] (ia_wd A F B) tg k z := by
  by_cases hb : xs (Int32.toNatClampNeg (i + 1)) = 0
  · refine id_Em 5 (pc2 := 186) (lv2 := [(4, .int i), (6, .int b), (5, .int a), (3, .ref 65), (2, .ref 44), (1, .ref 1), (0, .ref 0)]) (st2 := [.int (i + 1), .ref 0, .ref 1]) (w2 := (ia_wd A F B)) rfl ?_
    refine id_Eif (c := iv_in (i + 1) L) (pc2 := 187) (lv2 := [(4, .int i), (6, .int b), (5, .int a), (3, .ref 65), (2, .ref 44), (1, .ref 1), (0, .ref 0)]) (st2 := [.int (xs (Int32.toNatClampNeg (i + 1))), .ref 1]) (w2 := (ia_wd A F B)) rfl h1 ?_
    refine id_Ebt (c := decide ((xs (Int32.toNatClampNeg (i + 1))) = 0)) (p1 := 194) (p2 := 190) (lv2 := [(4, .int i), (6, .int b), (5, .int a), (3, .ref 65), (2, .ref 44), (1, .ref 1), (0, .ref 0)]) (st2 := [.ref 1]) (w2 := (ia_wd A F B)) rfl (decide_eq_true hb) ?_
    refine id_Em 5 (pc2 := 200) (lv2 := [(4, .int i), (6, .int b), (5, .int a), (3, .ref 65), (2, .ref 44), (1, .ref 1), (0, .ref 0)]) (st2 := [.int (i + 2), .ref 0, .int 0, .ref 1]) (w2 := (ia_wd A F B)) rfl ?_
    refine id_Eif (c := iv_in (i + 2) L) (pc2 := 201) (lv2 := [(4, .int i), (6, .int b), (5, .int a), (3, .ref 65), (2, .ref 44), (1, .ref 1), (0, .ref 0)]) (st2 := [.int (xs (Int32.toNatClampNeg (i + 2))), .int 0, .ref 1]) (w2 := (ia_wd A F B)) rfl h2 ?_
    refine id_Em 1 (pc2 := 202) (lv2 := [(4, .int i), (6, .int b), (5, .int a), (3, .ref 65), (2, .ref 44), (1, .ref 1), (0, .ref 0)]) (st2 := [.ref 65, .int (xs (Int32.toNatClampNeg (i + 2))), .int 0, .ref 1]) (w2 := (ia_wd A F B)) rfl ?_
    obtain ⟨v1, A1, F1, B1, tg1, n1, hn1, hG1, hi1, hf1, -⟩ := id_hi (L := L) (xs := xs) (d := 19) (tg := tg) (B := B) (vals := [.ref 1, .int 0, .int (xs (Int32.toNatClampNeg (i + 2))), .ref 65]) ia_h1283 rfl rfl (Nat.le_of_ble_eq_true rfl) (show ia_sk _ ia_m1283.2.2.1 _ from ⟨List.mem_singleton.mpr rfl, id_nul, id_top _, List.mem_singleton.mpr rfl, trivial⟩) hi
    have hq1 : ∀ j, A1 5 j = A1 48 j := fun j => by
      rw [id_fz (r := 5) hf1 rfl rfl j, id_fz (r := 48) hf1 rfl rfl j]
      exact hq j
    refine id_Ecall (ν := 186) (c := 4) (as := [.ref 1, .int 0, .int (xs (Int32.toNatClampNeg (i + 2))), .ref 65]) (rest := []) (w2 := (ia_wd A1 F1 B1)) (tg2 := tg1) (k2 := n1) (z2 := (6 * n1)) (v := (some (.int v1))) rfl rfl rfl rfl rfl rfl rfl (Nat.le_of_ble_eq_true rfl) rfl hG1 ?_
    show id_Fin _ _ _ _ 205 [(4, .int i), (6, .int b), (5, .int a), (3, .ref 65), (2, .ref 44), (1, .ref 1), (0, .ref 0)] [.int v1] (ia_wd A1 F1 B1) tg1 _ _
    refine id_Em 6 (pc2 := 213) (lv2 := [(5, .int v1), (4, .int i), (6, .int b), (3, .ref 65), (2, .ref 44), (1, .ref 1), (0, .ref 0)]) (st2 := [.int (i + 1), .ref 0, .ref 44]) (w2 := (ia_wd A1 F1 B1)) rfl ?_
    refine id_Eif (c := iv_in (i + 1) L) (pc2 := 214) (lv2 := [(5, .int v1), (4, .int i), (6, .int b), (3, .ref 65), (2, .ref 44), (1, .ref 1), (0, .ref 0)]) (st2 := [.int (xs (Int32.toNatClampNeg (i + 1))), .ref 44]) (w2 := (ia_wd A1 F1 B1)) rfl h1 ?_
    refine id_Ebt (c := decide ((xs (Int32.toNatClampNeg (i + 1))) = 0)) (p1 := 221) (p2 := 217) (lv2 := [(5, .int v1), (4, .int i), (6, .int b), (3, .ref 65), (2, .ref 44), (1, .ref 1), (0, .ref 0)]) (st2 := [.ref 44]) (w2 := (ia_wd A1 F1 B1)) rfl (decide_eq_true hb) ?_
    refine id_Em 5 (pc2 := 227) (lv2 := [(5, .int v1), (4, .int i), (6, .int b), (3, .ref 65), (2, .ref 44), (1, .ref 1), (0, .ref 0)]) (st2 := [.int (i + 2), .ref 0, .int 0, .ref 44]) (w2 := (ia_wd A1 F1 B1)) rfl ?_
    refine id_Eif (c := iv_in (i + 2) L) (pc2 := 228) (lv2 := [(5, .int v1), (4, .int i), (6, .int b), (3, .ref 65), (2, .ref 44), (1, .ref 1), (0, .ref 0)]) (st2 := [.int (xs (Int32.toNatClampNeg (i + 2))), .int 0, .ref 44]) (w2 := (ia_wd A1 F1 B1)) rfl h2 ?_
    obtain ⟨v2, A2, F2, B2, tg2, n2, hn2, hG2, hi2, hf2, -⟩ := id_hi (L := L) (xs := xs) (d := 19) (tg := tg1) (B := B1) (vals := [.ref 44, .int 0, .int (xs (Int32.toNatClampNeg (i + 2)))]) ia_h1277 rfl rfl (Nat.le_of_ble_eq_true rfl) (show ia_sk _ ia_m1277.2.2.1 _ from ⟨List.mem_singleton.mpr rfl, id_nul, id_top _, trivial⟩) hi1
    have hq2 : ∀ j, A2 5 j = A2 48 j := fun j => by
      rw [id_fz (r := 5) hf2 rfl rfl j, id_fz (r := 48) hf2 rfl rfl j]
      exact hq1 j
    refine id_Ecall (ν := 166) (c := 3) (as := [.ref 44, .int 0, .int (xs (Int32.toNatClampNeg (i + 2)))]) (rest := []) (w2 := (ia_wd A2 F2 B2)) (tg2 := tg2) (k2 := n2) (z2 := (6 * n2)) (v := (some (.int v2))) rfl rfl rfl rfl rfl rfl rfl (Nat.le_of_ble_eq_true rfl) rfl hG2 ?_
    show id_Fin _ _ _ _ 231 [(5, .int v1), (4, .int i), (6, .int b), (3, .ref 65), (2, .ref 44), (1, .ref 1), (0, .ref 0)] [.int v2] (ia_wd A2 F2 B2) tg2 _ _
    refine id_Em 4 (pc2 := 23) (lv2 := [(4, .int (i + 6)), (6, .int v2), (5, .int v1), (3, .ref 65), (2, .ref 44), (1, .ref 1), (0, .ref 0)]) (st2 := []) (w2 := (ia_wd A2 F2 B2)) rfl ?_
    exact hg _ _ _ _ _ _ _ (Or.inr ⟨_, _, rfl⟩) hi2 hq2 (by omega) (by omega)
  · refine id_Em 5 (pc2 := 186) (lv2 := [(4, .int i), (6, .int b), (5, .int a), (3, .ref 65), (2, .ref 44), (1, .ref 1), (0, .ref 0)]) (st2 := [.int (i + 1), .ref 0, .ref 1]) (w2 := (ia_wd A F B)) rfl ?_
    refine id_Eif (c := iv_in (i + 1) L) (pc2 := 187) (lv2 := [(4, .int i), (6, .int b), (5, .int a), (3, .ref 65), (2, .ref 44), (1, .ref 1), (0, .ref 0)]) (st2 := [.int (xs (Int32.toNatClampNeg (i + 1))), .ref 1]) (w2 := (ia_wd A F B)) rfl h1 ?_
    refine id_Ebf (c := decide ((xs (Int32.toNatClampNeg (i + 1))) = 0)) (p1 := 194) (p2 := 190) (lv2 := [(4, .int i), (6, .int b), (5, .int a), (3, .ref 65), (2, .ref 44), (1, .ref 1), (0, .ref 0)]) (st2 := [.ref 1]) (w2 := (ia_wd A F B)) rfl (decide_eq_false hb) ?_
    refine id_Em 6 (pc2 := 200) (lv2 := [(4, .int i), (6, .int b), (5, .int a), (3, .ref 65), (2, .ref 44), (1, .ref 1), (0, .ref 0)]) (st2 := [.int (i + 2), .ref 0, .int 1, .ref 1]) (w2 := (ia_wd A F B)) rfl ?_
    refine id_Eif (c := iv_in (i + 2) L) (pc2 := 201) (lv2 := [(4, .int i), (6, .int b), (5, .int a), (3, .ref 65), (2, .ref 44), (1, .ref 1), (0, .ref 0)]) (st2 := [.int (xs (Int32.toNatClampNeg (i + 2))), .int 1, .ref 1]) (w2 := (ia_wd A F B)) rfl h2 ?_
    refine id_Em 1 (pc2 := 202) (lv2 := [(4, .int i), (6, .int b), (5, .int a), (3, .ref 65), (2, .ref 44), (1, .ref 1), (0, .ref 0)]) (st2 := [.ref 65, .int (xs (Int32.toNatClampNeg (i + 2))), .int 1, .ref 1]) (w2 := (ia_wd A F B)) rfl ?_
    obtain ⟨v1, A1, F1, B1, tg1, n1, hn1, hG1, hi1, hf1, -⟩ := id_hi (L := L) (xs := xs) (d := 19) (tg := tg) (B := B) (vals := [.ref 1, .int 1, .int (xs (Int32.toNatClampNeg (i + 2))), .ref 65]) ia_h1283 rfl rfl (Nat.le_of_ble_eq_true rfl) (show ia_sk _ ia_m1283.2.2.1 _ from ⟨List.mem_singleton.mpr rfl, id_one, id_top _, List.mem_singleton.mpr rfl, trivial⟩) hi
    have hq1 : ∀ j, A1 5 j = A1 48 j := fun j => by
      rw [id_fz (r := 5) hf1 rfl rfl j, id_fz (r := 48) hf1 rfl rfl j]
      exact hq j
    refine id_Ecall (ν := 186) (c := 4) (as := [.ref 1, .int 1, .int (xs (Int32.toNatClampNeg (i + 2))), .ref 65]) (rest := []) (w2 := (ia_wd A1 F1 B1)) (tg2 := tg1) (k2 := n1) (z2 := (6 * n1)) (v := (some (.int v1))) rfl rfl rfl rfl rfl rfl rfl (Nat.le_of_ble_eq_true rfl) rfl hG1 ?_
    show id_Fin _ _ _ _ 205 [(4, .int i), (6, .int b), (5, .int a), (3, .ref 65), (2, .ref 44), (1, .ref 1), (0, .ref 0)] [.int v1] (ia_wd A1 F1 B1) tg1 _ _
    refine id_Em 6 (pc2 := 213) (lv2 := [(5, .int v1), (4, .int i), (6, .int b), (3, .ref 65), (2, .ref 44), (1, .ref 1), (0, .ref 0)]) (st2 := [.int (i + 1), .ref 0, .ref 44]) (w2 := (ia_wd A1 F1 B1)) rfl ?_
    refine id_Eif (c := iv_in (i + 1) L) (pc2 := 214) (lv2 := [(5, .int v1), (4, .int i), (6, .int b), (3, .ref 65), (2, .ref 44), (1, .ref 1), (0, .ref 0)]) (st2 := [.int (xs (Int32.toNatClampNeg (i + 1))), .ref 44]) (w2 := (ia_wd A1 F1 B1)) rfl h1 ?_
    refine id_Ebf (c := decide ((xs (Int32.toNatClampNeg (i + 1))) = 0)) (p1 := 221) (p2 := 217) (lv2 := [(5, .int v1), (4, .int i), (6, .int b), (3, .ref 65), (2, .ref 44), (1, .ref 1), (0, .ref 0)]) (st2 := [.ref 44]) (w2 := (ia_wd A1 F1 B1)) rfl (decide_eq_false hb) ?_
    refine id_Em 6 (pc2 := 227) (lv2 := [(5, .int v1), (4, .int i), (6, .int b), (3, .ref 65), (2, .ref 44), (1, .ref 1), (0, .ref 0)]) (st2 := [.int (i + 2), .ref 0, .int 1, .ref 44]) (w2 := (ia_wd A1 F1 B1)) rfl ?_
    refine id_Eif (c := iv_in (i + 2) L) (pc2 := 228) (lv2 := [(5, .int v1), (4, .int i), (6, .int b), (3, .ref 65), (2, .ref 44), (1, .ref 1), (0, .ref 0)]) (st2 := [.int (xs (Int32.toNatClampNeg (i + 2))), .int 1, .ref 44]) (w2 := (ia_wd A1 F1 B1)) rfl h2 ?_
    obtain ⟨v2, A2, F2, B2, tg2, n2, hn2, hG2, hi2, hf2, -⟩ := id_hi (L := L) (xs := xs) (d := 19) (tg := tg1) (B := B1) (vals := [.ref 44, .int 1, .int (xs (Int32.toNatClampNeg (i + 2)))]) ia_h1277 rfl rfl (Nat.le_of_ble_eq_true rfl) (show ia_sk _ ia_m1277.2.2.1 _ from ⟨List.mem_singleton.mpr rfl, id_one, id_top _, trivial⟩) hi1
    have hq2 : ∀ j, A2 5 j = A2 48 j := fun j => by
      rw [id_fz (r := 5) hf2 rfl rfl j, id_fz (r := 48) hf2 rfl rfl j]
      exact hq1 j
    refine id_Ecall (ν := 166) (c := 3) (as := [.ref 44, .int 1, .int (xs (Int32.toNatClampNeg (i + 2)))]) (rest := []) (w2 := (ia_wd A2 F2 B2)) (tg2 := tg2) (k2 := n2) (z2 := (6 * n2)) (v := (some (.int v2))) rfl rfl rfl rfl rfl rfl rfl (Nat.le_of_ble_eq_true rfl) rfl hG2 ?_
    show id_Fin _ _ _ _ 231 [(5, .int v1), (4, .int i), (6, .int b), (3, .ref 65), (2, .ref 44), (1, .ref 1), (0, .ref 0)] [.int v2] (ia_wd A2 F2 B2) tg2 _ _
    refine id_Em 4 (pc2 := 23) (lv2 := [(4, .int (i + 6)), (6, .int v2), (5, .int v1), (3, .ref 65), (2, .ref 44), (1, .ref 1), (0, .ref 0)]) (st2 := []) (w2 := (ia_wd A2 F2 B2)) rfl ?_
    exact hg _ _ _ _ _ _ _ (Or.inr ⟨_, _, rfl⟩) hi2 hq2 (by omega) (by omega)
set_option maxRecDepth 1000000 in
set_option maxHeartbeats 40000000 in
theorem id_k3_0 {L : Nat} {xs : Nat → Int32} {i : Int32} {A : Nat → Nat → Int32} {F : Nat → Int32} {B : Nat → Int64} {tg : Bool} {k z : Nat} (h1 : iv_in (i + 1) L = true) (h2 : iv_in (i + 2) L = true) (h3 : iv_in (i + 3) L = true) (h4 : iv_in (i + 4) L = true) (h5 : iv_in (i + 5) L = true) (hi : ia_inv A F []) (hq : ∀ j, A 5 j = A 48 j) (hg : id_nx L xs i k z) : id_Fin L xs 20 0 236 [(4, .int i), (3, .ref 65), (2, .ref 44), (1, .ref 1), (0, .ref 0)] [] (ia_wd A F B) tg k z := by
  refine id_Em 2 (pc2 := 238) (lv2 := [(4, .int i), (3, .ref 65), (2, .ref 44), (1, .ref 1), (0, .ref 0)]) (st2 := [.ref 65, .ref 1]) (w2 := (ia_wd A F B)) rfl ?_
  obtain ⟨v1, A1, F1, B1, tg1, n1, hn1, hG1, hi1, hf1, -⟩ := id_hi (L := L) (xs := xs) (d := 19) (tg := tg) (B := B) (vals := [.ref 1, .ref 65]) ia_h1282 rfl rfl (Nat.le_of_ble_eq_true rfl) (show ia_sk _ ia_m1282.2.2.1 _ from ⟨List.mem_singleton.mpr rfl, List.mem_singleton.mpr rfl, trivial⟩) hi
  have hq1 : ∀ j, A1 5 j = A1 48 j := fun j => by
    rw [id_fz (r := 5) hf1 rfl rfl j, id_fz (r := 48) hf1 rfl rfl j]
    exact hq j
  refine id_Ecall (ν := 187) (c := 2) (as := [.ref 1, .ref 65]) (rest := []) (w2 := (ia_wd A1 F1 B1)) (tg2 := tg1) (k2 := n1) (z2 := (6 * n1)) (v := (some (.int v1))) rfl rfl rfl rfl rfl rfl rfl (Nat.le_of_ble_eq_true rfl) rfl hG1 ?_
  show id_Fin _ _ _ _ 241 [(4, .int i), (3, .ref 65), (2, .ref 44), (1, .ref 1), (0, .ref 0)] [.int v1] (ia_wd A1 F1 B1) tg1 _ _
  refine id_Em 2 (pc2 := 244) (lv2 := [(5, .int v1), (4, .int i), (3, .ref 65), (2, .ref 44), (1, .ref 1), (0, .ref 0)]) (st2 := [.ref 44]) (w2 := (ia_wd A1 F1 B1)) rfl ?_
  obtain ⟨v2, A2, F2, B2, tg2, n2, hn2, hG2, hi2, hf2, -⟩ := id_hi (L := L) (xs := xs) (d := 19) (tg := tg1) (B := B1) (vals := [.ref 44]) ia_h1289 rfl rfl (Nat.le_of_ble_eq_true rfl) (show ia_sk _ ia_m1289.2.2.1 _ from ⟨List.mem_singleton.mpr rfl, trivial⟩) hi1
  have hq2 : ∀ j, A2 5 j = A2 48 j := fun j => by
    rw [id_fz (r := 5) hf2 rfl rfl j, id_fz (r := 48) hf2 rfl rfl j]
    exact hq1 j
  refine id_Ecall (ν := 168) (c := 1) (as := [.ref 44]) (rest := []) (w2 := (ia_wd A2 F2 B2)) (tg2 := tg2) (k2 := n2) (z2 := (6 * n2)) (v := (some (.int v2))) rfl rfl rfl rfl rfl rfl rfl (Nat.le_of_ble_eq_true rfl) rfl hG2 ?_
  show id_Fin _ _ _ _ 247 [(5, .int v1), (4, .int i), (3, .ref 65), (2, .ref 44), (1, .ref 1), (0, .ref 0)] [.int v2] (ia_wd A2 F2 B2) tg2 _ _
  refine id_Em 4 (pc2 := 23) (lv2 := [(4, .int (i + 6)), (6, .int v2), (5, .int v1), (3, .ref 65), (2, .ref 44), (1, .ref 1), (0, .ref 0)]) (st2 := []) (w2 := (ia_wd A2 F2 B2)) rfl ?_
  exact hg _ _ _ _ _ _ _ (Or.inr ⟨_, _, rfl⟩) hi2 hq2 (by omega) (by omega)
set_option maxRecDepth 1000000 in
set_option maxHeartbeats 40000000 in
theorem id_k3_1 {L : Nat} {xs : Nat → Int32} {i a b : Int32} {A : Nat → Nat → Int32} {F : Nat → Int32} {B : Nat → Int64} {tg : Bool} {k z : Nat} (h1 : iv_in (i + 1) L = true) (h2 : iv_in (i + 2) L = true) (h3 : iv_in (i + 3) L = true) (h4 : iv_in (i + 4) L = true) (h5 : iv_in (i + 5) L = true) (hi : ia_inv A F []) (hq : ∀ j, A 5 j = A 48 j) (hg : id_nx L xs i k z) : id_Fin L xs 20 0 236 [(4, .int i), (6, .int b), (5, .int a), (3, .ref 65), (2, .ref 44), (1, .ref 1), (0, .ref 0)] [] (ia_wd A F B) tg k z := by
  refine id_Em 2 (pc2 := 238) (lv2 := [(4, .int i), (6, .int b), (5, .int a), (3, .ref 65), (2, .ref 44), (1, .ref 1), (0, .ref 0)]) (st2 := [.ref 65, .ref 1]) (w2 := (ia_wd A F B)) rfl ?_
  obtain ⟨v1, A1, F1, B1, tg1, n1, hn1, hG1, hi1, hf1, -⟩ := id_hi (L := L) (xs := xs) (d := 19) (tg := tg) (B := B) (vals := [.ref 1, .ref 65]) ia_h1282 rfl rfl (Nat.le_of_ble_eq_true rfl) (show ia_sk _ ia_m1282.2.2.1 _ from ⟨List.mem_singleton.mpr rfl, List.mem_singleton.mpr rfl, trivial⟩) hi
  have hq1 : ∀ j, A1 5 j = A1 48 j := fun j => by
    rw [id_fz (r := 5) hf1 rfl rfl j, id_fz (r := 48) hf1 rfl rfl j]
    exact hq j
  refine id_Ecall (ν := 187) (c := 2) (as := [.ref 1, .ref 65]) (rest := []) (w2 := (ia_wd A1 F1 B1)) (tg2 := tg1) (k2 := n1) (z2 := (6 * n1)) (v := (some (.int v1))) rfl rfl rfl rfl rfl rfl rfl (Nat.le_of_ble_eq_true rfl) rfl hG1 ?_
  show id_Fin _ _ _ _ 241 [(4, .int i), (6, .int b), (5, .int a), (3, .ref 65), (2, .ref 44), (1, .ref 1), (0, .ref 0)] [.int v1] (ia_wd A1 F1 B1) tg1 _ _
  refine id_Em 2 (pc2 := 244) (lv2 := [(5, .int v1), (4, .int i), (6, .int b), (3, .ref 65), (2, .ref 44), (1, .ref 1), (0, .ref 0)]) (st2 := [.ref 44]) (w2 := (ia_wd A1 F1 B1)) rfl ?_
  obtain ⟨v2, A2, F2, B2, tg2, n2, hn2, hG2, hi2, hf2, -⟩ := id_hi (L := L) (xs := xs) (d := 19) (tg := tg1) (B := B1) (vals := [.ref 44]) ia_h1289 rfl rfl (Nat.le_of_ble_eq_true rfl) (show ia_sk _ ia_m1289.2.2.1 _ from ⟨List.mem_singleton.mpr rfl, trivial⟩) hi1
  have hq2 : ∀ j, A2 5 j = A2 48 j := fun j => by
    rw [id_fz (r := 5) hf2 rfl rfl j, id_fz (r := 48) hf2 rfl rfl j]
    exact hq1 j
  refine id_Ecall (ν := 168) (c := 1) (as := [.ref 44]) (rest := []) (w2 := (ia_wd A2 F2 B2)) (tg2 := tg2) (k2 := n2) (z2 := (6 * n2)) (v := (some (.int v2))) rfl rfl rfl rfl rfl rfl rfl (Nat.le_of_ble_eq_true rfl) rfl hG2 ?_
  show id_Fin _ _ _ _ 247 [(5, .int v1), (4, .int i), (6, .int b), (3, .ref 65), (2, .ref 44), (1, .ref 1), (0, .ref 0)] [.int v2] (ia_wd A2 F2 B2) tg2 _ _
  refine id_Em 4 (pc2 := 23) (lv2 := [(4, .int (i + 6)), (6, .int v2), (5, .int v1), (3, .ref 65), (2, .ref 44), (1, .ref 1), (0, .ref 0)]) (st2 := []) (w2 := (ia_wd A2 F2 B2)) rfl ?_
  exact hg _ _ _ _ _ _ _ (Or.inr ⟨_, _, rfl⟩) hi2 hq2 (by omega) (by omega)
set_option maxRecDepth 1000000 in
set_option maxHeartbeats 40000000 in
theorem id_k4_0 {L : Nat} {xs : Nat → Int32} {i : Int32} {A : Nat → Nat → Int32} {F : Nat → Int32} {B : Nat → Int64} {tg : Bool} {k z : Nat} (h1 : iv_in (i + 1) L = true) (h2 : iv_in (i + 2) L = true) (h3 : iv_in (i + 3) L = true) (h4 : iv_in (i + 4) L = true) (h5 : iv_in (i + 5) L = true) (hi : ia_inv A F []) (hq : ∀ j, A 5 j = A 48 j) (hg : id_nx L xs i k z) : id_Fin L xs 20 0 252 [(4, .int i), (3, .ref 65), (2, .ref 44), (1, .ref 1), (0, .ref 0)] [] (ia_wd A F B) tg k z := by
  refine id_Em 5 (pc2 := 258) (lv2 := [(4, .int i), (3, .ref 65), (2, .ref 44), (1, .ref 1), (0, .ref 0)]) (st2 := [.int (i + 1), .ref 0, .ref 1]) (w2 := (ia_wd A F B)) rfl ?_
  refine id_Eif (c := iv_in (i + 1) L) (pc2 := 259) (lv2 := [(4, .int i), (3, .ref 65), (2, .ref 44), (1, .ref 1), (0, .ref 0)]) (st2 := [.int (xs (Int32.toNatClampNeg (i + 1))), .ref 1]) (w2 := (ia_wd A F B)) rfl h1 ?_
  refine id_Em 4 (pc2 := 264) (lv2 := [(4, .int i), (3, .ref 65), (2, .ref 44), (1, .ref 1), (0, .ref 0)]) (st2 := [.int (i + 2), .ref 0, .int (xs (Int32.toNatClampNeg (i + 1))), .ref 1]) (w2 := (ia_wd A F B)) rfl ?_
  refine id_Eif (c := iv_in (i + 2) L) (pc2 := 265) (lv2 := [(4, .int i), (3, .ref 65), (2, .ref 44), (1, .ref 1), (0, .ref 0)]) (st2 := [.int (xs (Int32.toNatClampNeg (i + 2))), .int (xs (Int32.toNatClampNeg (i + 1))), .ref 1]) (w2 := (ia_wd A F B)) rfl h2 ?_
  refine id_Em 7 (pc2 := 274) (lv2 := [(4, .int i), (3, .ref 65), (2, .ref 44), (1, .ref 1), (0, .ref 0)]) (st2 := [.int (i + 3), .ref 0, .long ((Int32.toInt64 (xs (Int32.toNatClampNeg (i + 2)))) <<< ((Int32.toInt64 32) &&& 63)), .int (xs (Int32.toNatClampNeg (i + 1))), .ref 1]) (w2 := (ia_wd A F B)) rfl ?_
  refine id_Eif (c := iv_in (i + 3) L) (pc2 := 275) (lv2 := [(4, .int i), (3, .ref 65), (2, .ref 44), (1, .ref 1), (0, .ref 0)]) (st2 := [.int (xs (Int32.toNatClampNeg (i + 3))), .long ((Int32.toInt64 (xs (Int32.toNatClampNeg (i + 2)))) <<< ((Int32.toInt64 32) &&& 63)), .int (xs (Int32.toNatClampNeg (i + 1))), .ref 1]) (w2 := (ia_wd A F B)) rfl h3 ?_
  refine id_Em 8 (pc2 := 286) (lv2 := [(4, .int i), (3, .ref 65), (2, .ref 44), (1, .ref 1), (0, .ref 0)]) (st2 := [.int (i + 4), .ref 0, .long (((Int32.toInt64 (xs (Int32.toNatClampNeg (i + 2)))) <<< ((Int32.toInt64 32) &&& 63)) ||| ((Int32.toInt64 (xs (Int32.toNatClampNeg (i + 3)))) &&& 4294967295)), .int (xs (Int32.toNatClampNeg (i + 1))), .ref 1]) (w2 := (ia_wd A F B)) rfl ?_
  refine id_Eif (c := iv_in (i + 4) L) (pc2 := 287) (lv2 := [(4, .int i), (3, .ref 65), (2, .ref 44), (1, .ref 1), (0, .ref 0)]) (st2 := [.int (xs (Int32.toNatClampNeg (i + 4))), .long (((Int32.toInt64 (xs (Int32.toNatClampNeg (i + 2)))) <<< ((Int32.toInt64 32) &&& 63)) ||| ((Int32.toInt64 (xs (Int32.toNatClampNeg (i + 3)))) &&& 4294967295)), .int (xs (Int32.toNatClampNeg (i + 1))), .ref 1]) (w2 := (ia_wd A F B)) rfl h4 ?_
  refine id_Em 4 (pc2 := 292) (lv2 := [(4, .int i), (3, .ref 65), (2, .ref 44), (1, .ref 1), (0, .ref 0)]) (st2 := [.int (i + 5), .ref 0, .int (xs (Int32.toNatClampNeg (i + 4))), .long (((Int32.toInt64 (xs (Int32.toNatClampNeg (i + 2)))) <<< ((Int32.toInt64 32) &&& 63)) ||| ((Int32.toInt64 (xs (Int32.toNatClampNeg (i + 3)))) &&& 4294967295)), .int (xs (Int32.toNatClampNeg (i + 1))), .ref 1]) (w2 := (ia_wd A F B)) rfl ?_
  refine id_Eif (c := iv_in (i + 5) L) (pc2 := 293) (lv2 := [(4, .int i), (3, .ref 65), (2, .ref 44), (1, .ref 1), (0, .ref 0)]) (st2 := [.int (xs (Int32.toNatClampNeg (i + 5))), .int (xs (Int32.toNatClampNeg (i + 4))), .long (((Int32.toInt64 (xs (Int32.toNatClampNeg (i + 2)))) <<< ((Int32.toInt64 32) &&& 63)) ||| ((Int32.toInt64 (xs (Int32.toNatClampNeg (i + 3)))) &&& 4294967295)), .int (xs (Int32.toNatClampNeg (i + 1))), .ref 1]) (w2 := (ia_wd A F B)) rfl h5 ?_
  refine id_Em 1 (pc2 := 294) (lv2 := [(4, .int i), (3, .ref 65), (2, .ref 44), (1, .ref 1), (0, .ref 0)]) (st2 := [.ref 65, .int (xs (Int32.toNatClampNeg (i + 5))), .int (xs (Int32.toNatClampNeg (i + 4))), .long (((Int32.toInt64 (xs (Int32.toNatClampNeg (i + 2)))) <<< ((Int32.toInt64 32) &&& 63)) ||| ((Int32.toInt64 (xs (Int32.toNatClampNeg (i + 3)))) &&& 4294967295)), .int (xs (Int32.toNatClampNeg (i + 1))), .ref 1]) (w2 := (ia_wd A F B)) rfl ?_
  obtain ⟨v1, A1, F1, B1, tg1, n1, hn1, hG1, hi1, hf1, -⟩ := id_hi (L := L) (xs := xs) (d := 19) (tg := tg) (B := B) (vals := [.ref 1, .int (xs (Int32.toNatClampNeg (i + 1))), .long (((Int32.toInt64 (xs (Int32.toNatClampNeg (i + 2)))) <<< ((Int32.toInt64 32) &&& 63)) ||| ((Int32.toInt64 (xs (Int32.toNatClampNeg (i + 3)))) &&& 4294967295)), .int (xs (Int32.toNatClampNeg (i + 4))), .int (xs (Int32.toNatClampNeg (i + 5))), .ref 65]) ia_h1284 rfl rfl (Nat.le_of_ble_eq_true rfl) (show ia_sk _ ia_m1284.2.2.1 _ from ⟨List.mem_singleton.mpr rfl, id_top _, trivial, id_top _, id_top _, List.mem_singleton.mpr rfl, trivial⟩) hi
  have hq1 : ∀ j, A1 5 j = A1 48 j := fun j => by
    rw [id_fz (r := 5) hf1 rfl rfl j, id_fz (r := 48) hf1 rfl rfl j]
    exact hq j
  refine id_Ecall (ν := 188) (c := 6) (as := [.ref 1, .int (xs (Int32.toNatClampNeg (i + 1))), .long (((Int32.toInt64 (xs (Int32.toNatClampNeg (i + 2)))) <<< ((Int32.toInt64 32) &&& 63)) ||| ((Int32.toInt64 (xs (Int32.toNatClampNeg (i + 3)))) &&& 4294967295)), .int (xs (Int32.toNatClampNeg (i + 4))), .int (xs (Int32.toNatClampNeg (i + 5))), .ref 65]) (rest := []) (w2 := (ia_wd A1 F1 B1)) (tg2 := tg1) (k2 := n1) (z2 := (6 * n1)) (v := (some (.int v1))) rfl rfl rfl rfl rfl rfl rfl (Nat.le_of_ble_eq_true rfl) rfl hG1 ?_
  show id_Fin _ _ _ _ 297 [(4, .int i), (3, .ref 65), (2, .ref 44), (1, .ref 1), (0, .ref 0)] [.int v1] (ia_wd A1 F1 B1) tg1 _ _
  refine id_Em 6 (pc2 := 305) (lv2 := [(5, .int v1), (4, .int i), (3, .ref 65), (2, .ref 44), (1, .ref 1), (0, .ref 0)]) (st2 := [.int (i + 1), .ref 0, .ref 44]) (w2 := (ia_wd A1 F1 B1)) rfl ?_
  refine id_Eif (c := iv_in (i + 1) L) (pc2 := 306) (lv2 := [(5, .int v1), (4, .int i), (3, .ref 65), (2, .ref 44), (1, .ref 1), (0, .ref 0)]) (st2 := [.int (xs (Int32.toNatClampNeg (i + 1))), .ref 44]) (w2 := (ia_wd A1 F1 B1)) rfl h1 ?_
  refine id_Em 4 (pc2 := 311) (lv2 := [(5, .int v1), (4, .int i), (3, .ref 65), (2, .ref 44), (1, .ref 1), (0, .ref 0)]) (st2 := [.int (i + 2), .ref 0, .int (xs (Int32.toNatClampNeg (i + 1))), .ref 44]) (w2 := (ia_wd A1 F1 B1)) rfl ?_
  refine id_Eif (c := iv_in (i + 2) L) (pc2 := 312) (lv2 := [(5, .int v1), (4, .int i), (3, .ref 65), (2, .ref 44), (1, .ref 1), (0, .ref 0)]) (st2 := [.int (xs (Int32.toNatClampNeg (i + 2))), .int (xs (Int32.toNatClampNeg (i + 1))), .ref 44]) (w2 := (ia_wd A1 F1 B1)) rfl h2 ?_
  refine id_Em 7 (pc2 := 321) (lv2 := [(5, .int v1), (4, .int i), (3, .ref 65), (2, .ref 44), (1, .ref 1), (0, .ref 0)]) (st2 := [.int (i + 3), .ref 0, .long ((Int32.toInt64 (xs (Int32.toNatClampNeg (i + 2)))) <<< ((Int32.toInt64 32) &&& 63)), .int (xs (Int32.toNatClampNeg (i + 1))), .ref 44]) (w2 := (ia_wd A1 F1 B1)) rfl ?_
  refine id_Eif (c := iv_in (i + 3) L) (pc2 := 322) (lv2 := [(5, .int v1), (4, .int i), (3, .ref 65), (2, .ref 44), (1, .ref 1), (0, .ref 0)]) (st2 := [.int (xs (Int32.toNatClampNeg (i + 3))), .long ((Int32.toInt64 (xs (Int32.toNatClampNeg (i + 2)))) <<< ((Int32.toInt64 32) &&& 63)), .int (xs (Int32.toNatClampNeg (i + 1))), .ref 44]) (w2 := (ia_wd A1 F1 B1)) rfl h3 ?_
  refine id_Em 8 (pc2 := 333) (lv2 := [(5, .int v1), (4, .int i), (3, .ref 65), (2, .ref 44), (1, .ref 1), (0, .ref 0)]) (st2 := [.int (i + 4), .ref 0, .long (((Int32.toInt64 (xs (Int32.toNatClampNeg (i + 2)))) <<< ((Int32.toInt64 32) &&& 63)) ||| ((Int32.toInt64 (xs (Int32.toNatClampNeg (i + 3)))) &&& 4294967295)), .int (xs (Int32.toNatClampNeg (i + 1))), .ref 44]) (w2 := (ia_wd A1 F1 B1)) rfl ?_
  refine id_Eif (c := iv_in (i + 4) L) (pc2 := 334) (lv2 := [(5, .int v1), (4, .int i), (3, .ref 65), (2, .ref 44), (1, .ref 1), (0, .ref 0)]) (st2 := [.int (xs (Int32.toNatClampNeg (i + 4))), .long (((Int32.toInt64 (xs (Int32.toNatClampNeg (i + 2)))) <<< ((Int32.toInt64 32) &&& 63)) ||| ((Int32.toInt64 (xs (Int32.toNatClampNeg (i + 3)))) &&& 4294967295)), .int (xs (Int32.toNatClampNeg (i + 1))), .ref 44]) (w2 := (ia_wd A1 F1 B1)) rfl h4 ?_
  refine id_Em 4 (pc2 := 339) (lv2 := [(5, .int v1), (4, .int i), (3, .ref 65), (2, .ref 44), (1, .ref 1), (0, .ref 0)]) (st2 := [.int (i + 5), .ref 0, .int (xs (Int32.toNatClampNeg (i + 4))), .long (((Int32.toInt64 (xs (Int32.toNatClampNeg (i + 2)))) <<< ((Int32.toInt64 32) &&& 63)) ||| ((Int32.toInt64 (xs (Int32.toNatClampNeg (i + 3)))) &&& 4294967295)), .int (xs (Int32.toNatClampNeg (i + 1))), .ref 44]) (w2 := (ia_wd A1 F1 B1)) rfl ?_
  refine id_Eif (c := iv_in (i + 5) L) (pc2 := 340) (lv2 := [(5, .int v1), (4, .int i), (3, .ref 65), (2, .ref 44), (1, .ref 1), (0, .ref 0)]) (st2 := [.int (xs (Int32.toNatClampNeg (i + 5))), .int (xs (Int32.toNatClampNeg (i + 4))), .long (((Int32.toInt64 (xs (Int32.toNatClampNeg (i + 2)))) <<< ((Int32.toInt64 32) &&& 63)) ||| ((Int32.toInt64 (xs (Int32.toNatClampNeg (i + 3)))) &&& 4294967295)), .int (xs (Int32.toNatClampNeg (i + 1))), .ref 44]) (w2 := (ia_wd A1 F1 B1)) rfl h5 ?_
  obtain ⟨v2, A2, F2, B2, tg2, n2, hn2, hG2, hi2, hf2, -⟩ := id_hi (L := L) (xs := xs) (d := 19) (tg := tg1) (B := B1) (vals := [.ref 44, .int (xs (Int32.toNatClampNeg (i + 1))), .long (((Int32.toInt64 (xs (Int32.toNatClampNeg (i + 2)))) <<< ((Int32.toInt64 32) &&& 63)) ||| ((Int32.toInt64 (xs (Int32.toNatClampNeg (i + 3)))) &&& 4294967295)), .int (xs (Int32.toNatClampNeg (i + 4))), .int (xs (Int32.toNatClampNeg (i + 5)))]) ia_h1300 rfl rfl (Nat.le_of_ble_eq_true rfl) (show ia_sk _ ia_m1300.2.2.1 _ from ⟨List.mem_singleton.mpr rfl, id_top _, trivial, id_top _, id_top _, trivial⟩) hi1
  have hq2 : ∀ j, A2 5 j = A2 48 j := fun j => by
    rw [id_fz (r := 5) hf2 rfl rfl j, id_fz (r := 48) hf2 rfl rfl j]
    exact hq1 j
  refine id_Ecall (ν := 170) (c := 5) (as := [.ref 44, .int (xs (Int32.toNatClampNeg (i + 1))), .long (((Int32.toInt64 (xs (Int32.toNatClampNeg (i + 2)))) <<< ((Int32.toInt64 32) &&& 63)) ||| ((Int32.toInt64 (xs (Int32.toNatClampNeg (i + 3)))) &&& 4294967295)), .int (xs (Int32.toNatClampNeg (i + 4))), .int (xs (Int32.toNatClampNeg (i + 5)))]) (rest := []) (w2 := (ia_wd A2 F2 B2)) (tg2 := tg2) (k2 := n2) (z2 := (6 * n2)) (v := (some (.int v2))) rfl rfl rfl rfl rfl rfl rfl (Nat.le_of_ble_eq_true rfl) rfl hG2 ?_
  show id_Fin _ _ _ _ 343 [(5, .int v1), (4, .int i), (3, .ref 65), (2, .ref 44), (1, .ref 1), (0, .ref 0)] [.int v2] (ia_wd A2 F2 B2) tg2 _ _
  refine id_Em 4 (pc2 := 23) (lv2 := [(4, .int (i + 6)), (6, .int v2), (5, .int v1), (3, .ref 65), (2, .ref 44), (1, .ref 1), (0, .ref 0)]) (st2 := []) (w2 := (ia_wd A2 F2 B2)) rfl ?_
  exact hg _ _ _ _ _ _ _ (Or.inr ⟨_, _, rfl⟩) hi2 hq2 (by omega) (by omega)
set_option maxRecDepth 1000000 in
set_option maxHeartbeats 40000000 in
theorem id_k4_1 {L : Nat} {xs : Nat → Int32} {i a b : Int32} {A : Nat → Nat → Int32} {F : Nat → Int32} {B : Nat → Int64} {tg : Bool} {k z : Nat} (h1 : iv_in (i + 1) L = true) (h2 : iv_in (i + 2) L = true) (h3 : iv_in (i + 3) L = true) (h4 : iv_in (i + 4) L = true) (h5 : iv_in (i + 5) L = true) (hi : ia_inv A F []) (hq : ∀ j, A 5 j = A 48 j) (hg : id_nx L xs i k z) : id_Fin L xs 20 0 252 [(4, .int i), (6, .int b), (5, .int a), (3, .ref 65), (2, .ref 44), (1, .ref 1), (0, .ref 0)] [] (ia_wd A F B) tg k z := by
  refine id_Em 5 (pc2 := 258) (lv2 := [(4, .int i), (6, .int b), (5, .int a), (3, .ref 65), (2, .ref 44), (1, .ref 1), (0, .ref 0)]) (st2 := [.int (i + 1), .ref 0, .ref 1]) (w2 := (ia_wd A F B)) rfl ?_
  refine id_Eif (c := iv_in (i + 1) L) (pc2 := 259) (lv2 := [(4, .int i), (6, .int b), (5, .int a), (3, .ref 65), (2, .ref 44), (1, .ref 1), (0, .ref 0)]) (st2 := [.int (xs (Int32.toNatClampNeg (i + 1))), .ref 1]) (w2 := (ia_wd A F B)) rfl h1 ?_
  refine id_Em 4 (pc2 := 264) (lv2 := [(4, .int i), (6, .int b), (5, .int a), (3, .ref 65), (2, .ref 44), (1, .ref 1), (0, .ref 0)]) (st2 := [.int (i + 2), .ref 0, .int (xs (Int32.toNatClampNeg (i + 1))), .ref 1]) (w2 := (ia_wd A F B)) rfl ?_
  refine id_Eif (c := iv_in (i + 2) L) (pc2 := 265) (lv2 := [(4, .int i), (6, .int b), (5, .int a), (3, .ref 65), (2, .ref 44), (1, .ref 1), (0, .ref 0)]) (st2 := [.int (xs (Int32.toNatClampNeg (i + 2))), .int (xs (Int32.toNatClampNeg (i + 1))), .ref 1]) (w2 := (ia_wd A F B)) rfl h2 ?_
  refine id_Em 7 (pc2 := 274) (lv2 := [(4, .int i), (6, .int b), (5, .int a), (3, .ref 65), (2, .ref 44), (1, .ref 1), (0, .ref 0)]) (st2 := [.int (i + 3), .ref 0, .long ((Int32.toInt64 (xs (Int32.toNatClampNeg (i + 2)))) <<< ((Int32.toInt64 32) &&& 63)), .int (xs (Int32.toNatClampNeg (i + 1))), .ref 1]) (w2 := (ia_wd A F B)) rfl ?_
  refine id_Eif (c := iv_in (i + 3) L) (pc2 := 275) (lv2 := [(4, .int i), (6, .int b), (5, .int a), (3, .ref 65), (2, .ref 44), (1, .ref 1), (0, .ref 0)]) (st2 := [.int (xs (Int32.toNatClampNeg (i + 3))), .long ((Int32.toInt64 (xs (Int32.toNatClampNeg (i + 2)))) <<< ((Int32.toInt64 32) &&& 63)), .int (xs (Int32.toNatClampNeg (i + 1))), .ref 1]) (w2 := (ia_wd A F B)) rfl h3 ?_
  refine id_Em 8 (pc2 := 286) (lv2 := [(4, .int i), (6, .int b), (5, .int a), (3, .ref 65), (2, .ref 44), (1, .ref 1), (0, .ref 0)]) (st2 := [.int (i + 4), .ref 0, .long (((Int32.toInt64 (xs (Int32.toNatClampNeg (i + 2)))) <<< ((Int32.toInt64 32) &&& 63)) ||| ((Int32.toInt64 (xs (Int32.toNatClampNeg (i + 3)))) &&& 4294967295)), .int (xs (Int32.toNatClampNeg (i + 1))), .ref 1]) (w2 := (ia_wd A F B)) rfl ?_
  refine id_Eif (c := iv_in (i + 4) L) (pc2 := 287) (lv2 := [(4, .int i), (6, .int b), (5, .int a), (3, .ref 65), (2, .ref 44), (1, .ref 1), (0, .ref 0)]) (st2 := [.int (xs (Int32.toNatClampNeg (i + 4))), .long (((Int32.toInt64 (xs (Int32.toNatClampNeg (i + 2)))) <<< ((Int32.toInt64 32) &&& 63)) ||| ((Int32.toInt64 (xs (Int32.toNatClampNeg (i + 3)))) &&& 4294967295)), .int (xs (Int32.toNatClampNeg (i + 1))), .ref 1]) (w2 := (ia_wd A F B)) rfl h4 ?_
  refine id_Em 4 (pc2 := 292) (lv2 := [(4, .int i), (6, .int b), (5, .int a), (3, .ref 65), (2, .ref 44), (1, .ref 1), (0, .ref 0)]) (st2 := [.int (i + 5), .ref 0, .int (xs (Int32.toNatClampNeg (i + 4))), .long (((Int32.toInt64 (xs (Int32.toNatClampNeg (i + 2)))) <<< ((Int32.toInt64 32) &&& 63)) ||| ((Int32.toInt64 (xs (Int32.toNatClampNeg (i + 3)))) &&& 4294967295)), .int (xs (Int32.toNatClampNeg (i + 1))), .ref 1]) (w2 := (ia_wd A F B)) rfl ?_
  refine id_Eif (c := iv_in (i + 5) L) (pc2 := 293) (lv2 := [(4, .int i), (6, .int b), (5, .int a), (3, .ref 65), (2, .ref 44), (1, .ref 1), (0, .ref 0)]) (st2 := [.int (xs (Int32.toNatClampNeg (i + 5))), .int (xs (Int32.toNatClampNeg (i + 4))), .long (((Int32.toInt64 (xs (Int32.toNatClampNeg (i + 2)))) <<< ((Int32.toInt64 32) &&& 63)) ||| ((Int32.toInt64 (xs (Int32.toNatClampNeg (i + 3)))) &&& 4294967295)), .int (xs (Int32.toNatClampNeg (i + 1))), .ref 1]) (w2 := (ia_wd A F B)) rfl h5 ?_
  refine id_Em 1 (pc2 := 294) (lv2 := [(4, .int i), (6, .int b), (5, .int a), (3, .ref 65), (2, .ref 44), (1, .ref 1), (0, .ref 0)]) (st2 := [.ref 65, .int (xs (Int32.toNatClampNeg (i + 5))), .int (xs (Int32.toNatClampNeg (i + 4))), .long (((Int32.toInt64 (xs (Int32.toNatClampNeg (i + 2)))) <<< ((Int32.toInt64 32) &&& 63)) ||| ((Int32.toInt64 (xs (Int32.toNatClampNeg (i + 3)))) &&& 4294967295)), .int (xs (Int32.toNatClampNeg (i + 1))), .ref 1]) (w2 := (ia_wd A F B)) rfl ?_
  obtain ⟨v1, A1, F1, B1, tg1, n1, hn1, hG1, hi1, hf1, -⟩ := id_hi (L := L) (xs := xs) (d := 19) (tg := tg) (B := B) (vals := [.ref 1, .int (xs (Int32.toNatClampNeg (i + 1))), .long (((Int32.toInt64 (xs (Int32.toNatClampNeg (i + 2)))) <<< ((Int32.toInt64 32) &&& 63)) ||| ((Int32.toInt64 (xs (Int32.toNatClampNeg (i + 3)))) &&& 4294967295)), .int (xs (Int32.toNatClampNeg (i + 4))), .int (xs (Int32.toNatClampNeg (i + 5))), .ref 65]) ia_h1284 rfl rfl (Nat.le_of_ble_eq_true rfl) (show ia_sk _ ia_m1284.2.2.1 _ from ⟨List.mem_singleton.mpr rfl, id_top _, trivial, id_top _, id_top _, List.mem_singleton.mpr rfl, trivial⟩) hi
  have hq1 : ∀ j, A1 5 j = A1 48 j := fun j => by
    rw [id_fz (r := 5) hf1 rfl rfl j, id_fz (r := 48) hf1 rfl rfl j]
    exact hq j
  refine id_Ecall (ν := 188) (c := 6) (as := [.ref 1, .int (xs (Int32.toNatClampNeg (i + 1))), .long (((Int32.toInt64 (xs (Int32.toNatClampNeg (i + 2)))) <<< ((Int32.toInt64 32) &&& 63)) ||| ((Int32.toInt64 (xs (Int32.toNatClampNeg (i + 3)))) &&& 4294967295)), .int (xs (Int32.toNatClampNeg (i + 4))), .int (xs (Int32.toNatClampNeg (i + 5))), .ref 65]) (rest := []) (w2 := (ia_wd A1 F1 B1)) (tg2 := tg1) (k2 := n1) (z2 := (6 * n1)) (v := (some (.int v1))) rfl rfl rfl rfl rfl rfl rfl (Nat.le_of_ble_eq_true rfl) rfl hG1 ?_
  show id_Fin _ _ _ _ 297 [(4, .int i), (6, .int b), (5, .int a), (3, .ref 65), (2, .ref 44), (1, .ref 1), (0, .ref 0)] [.int v1] (ia_wd A1 F1 B1) tg1 _ _
  refine id_Em 6 (pc2 := 305) (lv2 := [(5, .int v1), (4, .int i), (6, .int b), (3, .ref 65), (2, .ref 44), (1, .ref 1), (0, .ref 0)]) (st2 := [.int (i + 1), .ref 0, .ref 44]) (w2 := (ia_wd A1 F1 B1)) rfl ?_
  refine id_Eif (c := iv_in (i + 1) L) (pc2 := 306) (lv2 := [(5, .int v1), (4, .int i), (6, .int b), (3, .ref 65), (2, .ref 44), (1, .ref 1), (0, .ref 0)]) (st2 := [.int (xs (Int32.toNatClampNeg (i + 1))), .ref 44]) (w2 := (ia_wd A1 F1 B1)) rfl h1 ?_
  refine id_Em 4 (pc2 := 311) (lv2 := [(5, .int v1), (4, .int i), (6, .int b), (3, .ref 65), (2, .ref 44), (1, .ref 1), (0, .ref 0)]) (st2 := [.int (i + 2), .ref 0, .int (xs (Int32.toNatClampNeg (i + 1))), .ref 44]) (w2 := (ia_wd A1 F1 B1)) rfl ?_
  refine id_Eif (c := iv_in (i + 2) L) (pc2 := 312) (lv2 := [(5, .int v1), (4, .int i), (6, .int b), (3, .ref 65), (2, .ref 44), (1, .ref 1), (0, .ref 0)]) (st2 := [.int (xs (Int32.toNatClampNeg (i + 2))), .int (xs (Int32.toNatClampNeg (i + 1))), .ref 44]) (w2 := (ia_wd A1 F1 B1)) rfl h2 ?_
  refine id_Em 7 (pc2 := 321) (lv2 := [(5, .int v1), (4, .int i), (6, .int b), (3, .ref 65), (2, .ref 44), (1, .ref 1), (0, .ref 0)]) (st2 := [.int (i + 3), .ref 0, .long ((Int32.toInt64 (xs (Int32.toNatClampNeg (i + 2)))) <<< ((Int32.toInt64 32) &&& 63)), .int (xs (Int32.toNatClampNeg (i + 1))), .ref 44]) (w2 := (ia_wd A1 F1 B1)) rfl ?_
  refine id_Eif (c := iv_in (i + 3) L) (pc2 := 322) (lv2 := [(5, .int v1), (4, .int i), (6, .int b), (3, .ref 65), (2, .ref 44), (1, .ref 1), (0, .ref 0)]) (st2 := [.int (xs (Int32.toNatClampNeg (i + 3))), .long ((Int32.toInt64 (xs (Int32.toNatClampNeg (i + 2)))) <<< ((Int32.toInt64 32) &&& 63)), .int (xs (Int32.toNatClampNeg (i + 1))), .ref 44]) (w2 := (ia_wd A1 F1 B1)) rfl h3 ?_
  refine id_Em 8 (pc2 := 333) (lv2 := [(5, .int v1), (4, .int i), (6, .int b), (3, .ref 65), (2, .ref 44), (1, .ref 1), (0, .ref 0)]) (st2 := [.int (i + 4), .ref 0, .long (((Int32.toInt64 (xs (Int32.toNatClampNeg (i + 2)))) <<< ((Int32.toInt64 32) &&& 63)) ||| ((Int32.toInt64 (xs (Int32.toNatClampNeg (i + 3)))) &&& 4294967295)), .int (xs (Int32.toNatClampNeg (i + 1))), .ref 44]) (w2 := (ia_wd A1 F1 B1)) rfl ?_
  refine id_Eif (c := iv_in (i + 4) L) (pc2 := 334) (lv2 := [(5, .int v1), (4, .int i), (6, .int b), (3, .ref 65), (2, .ref 44), (1, .ref 1), (0, .ref 0)]) (st2 := [.int (xs (Int32.toNatClampNeg (i + 4))), .long (((Int32.toInt64 (xs (Int32.toNatClampNeg (i + 2)))) <<< ((Int32.toInt64 32) &&& 63)) ||| ((Int32.toInt64 (xs (Int32.toNatClampNeg (i + 3)))) &&& 4294967295)), .int (xs (Int32.toNatClampNeg (i + 1))), .ref 44]) (w2 := (ia_wd A1 F1 B1)) rfl h4 ?_
  refine id_Em 4 (pc2 := 339) (lv2 := [(5, .int v1), (4, .int i), (6, .int b), (3, .ref 65), (2, .ref 44), (1, .ref 1), (0, .ref 0)]) (st2 := [.int (i + 5), .ref 0, .int (xs (Int32.toNatClampNeg (i + 4))), .long (((Int32.toInt64 (xs (Int32.toNatClampNeg (i + 2)))) <<< ((Int32.toInt64 32) &&& 63)) ||| ((Int32.toInt64 (xs (Int32.toNatClampNeg (i + 3)))) &&& 4294967295)), .int (xs (Int32.toNatClampNeg (i + 1))), .ref 44]) (w2 := (ia_wd A1 F1 B1)) rfl ?_
  refine id_Eif (c := iv_in (i + 5) L) (pc2 := 340) (lv2 := [(5, .int v1), (4, .int i), (6, .int b), (3, .ref 65), (2, .ref 44), (1, .ref 1), (0, .ref 0)]) (st2 := [.int (xs (Int32.toNatClampNeg (i + 5))), .int (xs (Int32.toNatClampNeg (i + 4))), .long (((Int32.toInt64 (xs (Int32.toNatClampNeg (i + 2)))) <<< ((Int32.toInt64 32) &&& 63)) ||| ((Int32.toInt64 (xs (Int32.toNatClampNeg (i + 3)))) &&& 4294967295)), .int (xs (Int32.toNatClampNeg (i + 1))), .ref 44]) (w2 := (ia_wd A1 F1 B1)) rfl h5 ?_
  obtain ⟨v2, A2, F2, B2, tg2, n2, hn2, hG2, hi2, hf2, -⟩ := id_hi (L := L) (xs := xs) (d := 19) (tg := tg1) (B := B1) (vals := [.ref 44, .int (xs (Int32.toNatClampNeg (i + 1))), .long (((Int32.toInt64 (xs (Int32.toNatClampNeg (i + 2)))) <<< ((Int32.toInt64 32) &&& 63)) ||| ((Int32.toInt64 (xs (Int32.toNatClampNeg (i + 3)))) &&& 4294967295)), .int (xs (Int32.toNatClampNeg (i + 4))), .int (xs (Int32.toNatClampNeg (i + 5)))]) ia_h1300 rfl rfl (Nat.le_of_ble_eq_true rfl) (show ia_sk _ ia_m1300.2.2.1 _ from ⟨List.mem_singleton.mpr rfl, id_top _, trivial, id_top _, id_top _, trivial⟩) hi1
  have hq2 : ∀ j, A2 5 j = A2 48 j := fun j => by
    rw [id_fz (r := 5) hf2 rfl rfl j, id_fz (r := 48) hf2 rfl rfl j]
    exact hq1 j
  refine id_Ecall (ν := 170) (c := 5) (as := [.ref 44, .int (xs (Int32.toNatClampNeg (i + 1))), .long (((Int32.toInt64 (xs (Int32.toNatClampNeg (i + 2)))) <<< ((Int32.toInt64 32) &&& 63)) ||| ((Int32.toInt64 (xs (Int32.toNatClampNeg (i + 3)))) &&& 4294967295)), .int (xs (Int32.toNatClampNeg (i + 4))), .int (xs (Int32.toNatClampNeg (i + 5)))]) (rest := []) (w2 := (ia_wd A2 F2 B2)) (tg2 := tg2) (k2 := n2) (z2 := (6 * n2)) (v := (some (.int v2))) rfl rfl rfl rfl rfl rfl rfl (Nat.le_of_ble_eq_true rfl) rfl hG2 ?_
  show id_Fin _ _ _ _ 343 [(5, .int v1), (4, .int i), (6, .int b), (3, .ref 65), (2, .ref 44), (1, .ref 1), (0, .ref 0)] [.int v2] (ia_wd A2 F2 B2) tg2 _ _
  refine id_Em 4 (pc2 := 23) (lv2 := [(4, .int (i + 6)), (6, .int v2), (5, .int v1), (3, .ref 65), (2, .ref 44), (1, .ref 1), (0, .ref 0)]) (st2 := []) (w2 := (ia_wd A2 F2 B2)) rfl ?_
  exact hg _ _ _ _ _ _ _ (Or.inr ⟨_, _, rfl⟩) hi2 hq2 (by omega) (by omega)
set_option maxRecDepth 1000000 in
set_option maxHeartbeats 40000000 in
theorem id_k5_0 {L : Nat} {xs : Nat → Int32} {i : Int32} {A : Nat → Nat → Int32} {F : Nat → Int32} {B : Nat → Int64} {tg : Bool} {k z : Nat} (h1 : iv_in (i + 1) L = true) (h2 : iv_in (i + 2) L = true) (h3 : iv_in (i + 3) L = true) (h4 : iv_in (i + 4) L = true) (h5 : iv_in (i + 5) L = true) (hi : ia_inv A F []) (hq : ∀ j, A 5 j = A 48 j) (hg : id_nx L xs i k z) : id_Fin L xs 20 0 348 [(4, .int i), (3, .ref 65), (2, .ref 44), (1, .ref 1), (0, .ref 0)] [] (ia_wd A F B) tg k z := by
  refine id_Em 5 (pc2 := 354) (lv2 := [(4, .int i), (3, .ref 65), (2, .ref 44), (1, .ref 1), (0, .ref 0)]) (st2 := [.int (i + 1), .ref 0, .ref 1]) (w2 := (ia_wd A F B)) rfl ?_
  refine id_Eif (c := iv_in (i + 1) L) (pc2 := 355) (lv2 := [(4, .int i), (3, .ref 65), (2, .ref 44), (1, .ref 1), (0, .ref 0)]) (st2 := [.int (xs (Int32.toNatClampNeg (i + 1))), .ref 1]) (w2 := (ia_wd A F B)) rfl h1 ?_
  refine id_Em 1 (pc2 := 356) (lv2 := [(4, .int i), (3, .ref 65), (2, .ref 44), (1, .ref 1), (0, .ref 0)]) (st2 := [.ref 65, .int (xs (Int32.toNatClampNeg (i + 1))), .ref 1]) (w2 := (ia_wd A F B)) rfl ?_
  obtain ⟨v1, A1, F1, B1, tg1, n1, hn1, hG1, hi1, hf1, -⟩ := id_hi (L := L) (xs := xs) (d := 19) (tg := tg) (B := B) (vals := [.ref 1, .int (xs (Int32.toNatClampNeg (i + 1))), .ref 65]) ia_h1281 rfl rfl (Nat.le_of_ble_eq_true rfl) (show ia_sk _ ia_m1281.2.2.1 _ from ⟨List.mem_singleton.mpr rfl, id_top _, List.mem_singleton.mpr rfl, trivial⟩) hi
  have hq1 : ∀ j, A1 5 j = A1 48 j := fun j => by
    rw [id_fz (r := 5) hf1 rfl rfl j, id_fz (r := 48) hf1 rfl rfl j]
    exact hq j
  refine id_Ecall (ν := 189) (c := 3) (as := [.ref 1, .int (xs (Int32.toNatClampNeg (i + 1))), .ref 65]) (rest := []) (w2 := (ia_wd A1 F1 B1)) (tg2 := tg1) (k2 := n1) (z2 := (6 * n1)) (v := (some (.int v1))) rfl rfl rfl rfl rfl rfl rfl (Nat.le_of_ble_eq_true rfl) rfl hG1 ?_
  show id_Fin _ _ _ _ 359 [(4, .int i), (3, .ref 65), (2, .ref 44), (1, .ref 1), (0, .ref 0)] [.int v1] (ia_wd A1 F1 B1) tg1 _ _
  refine id_Em 6 (pc2 := 367) (lv2 := [(5, .int v1), (4, .int i), (3, .ref 65), (2, .ref 44), (1, .ref 1), (0, .ref 0)]) (st2 := [.int (i + 1), .ref 0, .ref 44]) (w2 := (ia_wd A1 F1 B1)) rfl ?_
  refine id_Eif (c := iv_in (i + 1) L) (pc2 := 368) (lv2 := [(5, .int v1), (4, .int i), (3, .ref 65), (2, .ref 44), (1, .ref 1), (0, .ref 0)]) (st2 := [.int (xs (Int32.toNatClampNeg (i + 1))), .ref 44]) (w2 := (ia_wd A1 F1 B1)) rfl h1 ?_
  obtain ⟨v2, A2, F2, B2, tg2, n2, hn2, hG2, hi2, hf2, -⟩ := id_hi (L := L) (xs := xs) (d := 19) (tg := tg1) (B := B1) (vals := [.ref 44, .int (xs (Int32.toNatClampNeg (i + 1)))]) ia_h1299 rfl rfl (Nat.le_of_ble_eq_true rfl) (show ia_sk _ ia_m1299.2.2.1 _ from ⟨List.mem_singleton.mpr rfl, id_top _, trivial⟩) hi1
  have hq2 : ∀ j, A2 5 j = A2 48 j := fun j => by
    rw [id_fz (r := 5) hf2 rfl rfl j, id_fz (r := 48) hf2 rfl rfl j]
    exact hq1 j
  refine id_Ecall (ν := 171) (c := 2) (as := [.ref 44, .int (xs (Int32.toNatClampNeg (i + 1)))]) (rest := []) (w2 := (ia_wd A2 F2 B2)) (tg2 := tg2) (k2 := n2) (z2 := (6 * n2)) (v := (some (.int v2))) rfl rfl rfl rfl rfl rfl rfl (Nat.le_of_ble_eq_true rfl) rfl hG2 ?_
  show id_Fin _ _ _ _ 371 [(5, .int v1), (4, .int i), (3, .ref 65), (2, .ref 44), (1, .ref 1), (0, .ref 0)] [.int v2] (ia_wd A2 F2 B2) tg2 _ _
  refine id_Em 4 (pc2 := 23) (lv2 := [(4, .int (i + 6)), (6, .int v2), (5, .int v1), (3, .ref 65), (2, .ref 44), (1, .ref 1), (0, .ref 0)]) (st2 := []) (w2 := (ia_wd A2 F2 B2)) rfl ?_
  exact hg _ _ _ _ _ _ _ (Or.inr ⟨_, _, rfl⟩) hi2 hq2 (by omega) (by omega)
set_option maxRecDepth 1000000 in
set_option maxHeartbeats 40000000 in
theorem id_k5_1 {L : Nat} {xs : Nat → Int32} {i a b : Int32} {A : Nat → Nat → Int32} {F : Nat → Int32} {B : Nat → Int64} {tg : Bool} {k z : Nat} (h1 : iv_in (i + 1) L = true) (h2 : iv_in (i + 2) L = true) (h3 : iv_in (i + 3) L = true) (h4 : iv_in (i + 4) L = true) (h5 : iv_in (i + 5) L = true) (hi : ia_inv A F []) (hq : ∀ j, A 5 j = A 48 j) (hg : id_nx L xs i k z) : id_Fin L xs 20 0 348 [(4, .int i), (6, .int b), (5, .int a), (3, .ref 65), (2, .ref 44), (1, .ref 1), (0, .ref 0)] [] (ia_wd A F B) tg k z := by
  refine id_Em 5 (pc2 := 354) (lv2 := [(4, .int i), (6, .int b), (5, .int a), (3, .ref 65), (2, .ref 44), (1, .ref 1), (0, .ref 0)]) (st2 := [.int (i + 1), .ref 0, .ref 1]) (w2 := (ia_wd A F B)) rfl ?_
  refine id_Eif (c := iv_in (i + 1) L) (pc2 := 355) (lv2 := [(4, .int i), (6, .int b), (5, .int a), (3, .ref 65), (2, .ref 44), (1, .ref 1), (0, .ref 0)]) (st2 := [.int (xs (Int32.toNatClampNeg (i + 1))), .ref 1]) (w2 := (ia_wd A F B)) rfl h1 ?_
  refine id_Em 1 (pc2 := 356) (lv2 := [(4, .int i), (6, .int b), (5, .int a), (3, .ref 65), (2, .ref 44), (1, .ref 1), (0, .ref 0)]) (st2 := [.ref 65, .int (xs (Int32.toNatClampNeg (i + 1))), .ref 1]) (w2 := (ia_wd A F B)) rfl ?_
  obtain ⟨v1, A1, F1, B1, tg1, n1, hn1, hG1, hi1, hf1, -⟩ := id_hi (L := L) (xs := xs) (d := 19) (tg := tg) (B := B) (vals := [.ref 1, .int (xs (Int32.toNatClampNeg (i + 1))), .ref 65]) ia_h1281 rfl rfl (Nat.le_of_ble_eq_true rfl) (show ia_sk _ ia_m1281.2.2.1 _ from ⟨List.mem_singleton.mpr rfl, id_top _, List.mem_singleton.mpr rfl, trivial⟩) hi
  have hq1 : ∀ j, A1 5 j = A1 48 j := fun j => by
    rw [id_fz (r := 5) hf1 rfl rfl j, id_fz (r := 48) hf1 rfl rfl j]
    exact hq j
  refine id_Ecall (ν := 189) (c := 3) (as := [.ref 1, .int (xs (Int32.toNatClampNeg (i + 1))), .ref 65]) (rest := []) (w2 := (ia_wd A1 F1 B1)) (tg2 := tg1) (k2 := n1) (z2 := (6 * n1)) (v := (some (.int v1))) rfl rfl rfl rfl rfl rfl rfl (Nat.le_of_ble_eq_true rfl) rfl hG1 ?_
  show id_Fin _ _ _ _ 359 [(4, .int i), (6, .int b), (5, .int a), (3, .ref 65), (2, .ref 44), (1, .ref 1), (0, .ref 0)] [.int v1] (ia_wd A1 F1 B1) tg1 _ _
  refine id_Em 6 (pc2 := 367) (lv2 := [(5, .int v1), (4, .int i), (6, .int b), (3, .ref 65), (2, .ref 44), (1, .ref 1), (0, .ref 0)]) (st2 := [.int (i + 1), .ref 0, .ref 44]) (w2 := (ia_wd A1 F1 B1)) rfl ?_
  refine id_Eif (c := iv_in (i + 1) L) (pc2 := 368) (lv2 := [(5, .int v1), (4, .int i), (6, .int b), (3, .ref 65), (2, .ref 44), (1, .ref 1), (0, .ref 0)]) (st2 := [.int (xs (Int32.toNatClampNeg (i + 1))), .ref 44]) (w2 := (ia_wd A1 F1 B1)) rfl h1 ?_
  obtain ⟨v2, A2, F2, B2, tg2, n2, hn2, hG2, hi2, hf2, -⟩ := id_hi (L := L) (xs := xs) (d := 19) (tg := tg1) (B := B1) (vals := [.ref 44, .int (xs (Int32.toNatClampNeg (i + 1)))]) ia_h1299 rfl rfl (Nat.le_of_ble_eq_true rfl) (show ia_sk _ ia_m1299.2.2.1 _ from ⟨List.mem_singleton.mpr rfl, id_top _, trivial⟩) hi1
  have hq2 : ∀ j, A2 5 j = A2 48 j := fun j => by
    rw [id_fz (r := 5) hf2 rfl rfl j, id_fz (r := 48) hf2 rfl rfl j]
    exact hq1 j
  refine id_Ecall (ν := 171) (c := 2) (as := [.ref 44, .int (xs (Int32.toNatClampNeg (i + 1)))]) (rest := []) (w2 := (ia_wd A2 F2 B2)) (tg2 := tg2) (k2 := n2) (z2 := (6 * n2)) (v := (some (.int v2))) rfl rfl rfl rfl rfl rfl rfl (Nat.le_of_ble_eq_true rfl) rfl hG2 ?_
  show id_Fin _ _ _ _ 371 [(5, .int v1), (4, .int i), (6, .int b), (3, .ref 65), (2, .ref 44), (1, .ref 1), (0, .ref 0)] [.int v2] (ia_wd A2 F2 B2) tg2 _ _
  refine id_Em 4 (pc2 := 23) (lv2 := [(4, .int (i + 6)), (6, .int v2), (5, .int v1), (3, .ref 65), (2, .ref 44), (1, .ref 1), (0, .ref 0)]) (st2 := []) (w2 := (ia_wd A2 F2 B2)) rfl ?_
  exact hg _ _ _ _ _ _ _ (Or.inr ⟨_, _, rfl⟩) hi2 hq2 (by omega) (by omega)
set_option maxRecDepth 1000000 in
set_option maxHeartbeats 40000000 in
theorem id_k6_0 {L : Nat} {xs : Nat → Int32} {i : Int32} {A : Nat → Nat → Int32} {F : Nat → Int32} {B : Nat → Int64} {tg : Bool} {k z : Nat} (h1 : iv_in (i + 1) L = true) (h2 : iv_in (i + 2) L = true) (h3 : iv_in (i + 3) L = true) (h4 : iv_in (i + 4) L = true) (h5 : iv_in (i + 5) L = true) (hi : ia_inv A F []) (hq : ∀ j, A 5 j = A 48 j) (hg : id_nx L xs i k z) : id_Fin L xs 20 0 376 [(4, .int i), (3, .ref 65), (2, .ref 44), (1, .ref 1), (0, .ref 0)] [] (ia_wd A F B) tg k z := by
  refine id_Em 5 (pc2 := 382) (lv2 := [(4, .int i), (3, .ref 65), (2, .ref 44), (1, .ref 1), (0, .ref 0)]) (st2 := [.int (i + 1), .ref 0, .ref 1]) (w2 := (ia_wd A F B)) rfl ?_
  refine id_Eif (c := iv_in (i + 1) L) (pc2 := 383) (lv2 := [(4, .int i), (3, .ref 65), (2, .ref 44), (1, .ref 1), (0, .ref 0)]) (st2 := [.int (xs (Int32.toNatClampNeg (i + 1))), .ref 1]) (w2 := (ia_wd A F B)) rfl h1 ?_
  refine id_Em 1 (pc2 := 384) (lv2 := [(4, .int i), (3, .ref 65), (2, .ref 44), (1, .ref 1), (0, .ref 0)]) (st2 := [.ref 65, .int (xs (Int32.toNatClampNeg (i + 1))), .ref 1]) (w2 := (ia_wd A F B)) rfl ?_
  obtain ⟨v1, A1, F1, B1, tg1, n1, hn1, hG1, hi1, hf1, -⟩ := id_hi (L := L) (xs := xs) (d := 19) (tg := tg) (B := B) (vals := [.ref 1, .int (xs (Int32.toNatClampNeg (i + 1))), .ref 65]) ia_h1280 rfl rfl (Nat.le_of_ble_eq_true rfl) (show ia_sk _ ia_m1280.2.2.1 _ from ⟨List.mem_singleton.mpr rfl, id_top _, List.mem_singleton.mpr rfl, trivial⟩) hi
  have hq1 : ∀ j, A1 5 j = A1 48 j := fun j => by
    rw [id_fz (r := 5) hf1 rfl rfl j, id_fz (r := 48) hf1 rfl rfl j]
    exact hq j
  refine id_Ecall (ν := 190) (c := 3) (as := [.ref 1, .int (xs (Int32.toNatClampNeg (i + 1))), .ref 65]) (rest := []) (w2 := (ia_wd A1 F1 B1)) (tg2 := tg1) (k2 := n1) (z2 := (6 * n1)) (v := (some (.int v1))) rfl rfl rfl rfl rfl rfl rfl (Nat.le_of_ble_eq_true rfl) rfl hG1 ?_
  show id_Fin _ _ _ _ 387 [(4, .int i), (3, .ref 65), (2, .ref 44), (1, .ref 1), (0, .ref 0)] [.int v1] (ia_wd A1 F1 B1) tg1 _ _
  refine id_Em 6 (pc2 := 395) (lv2 := [(5, .int v1), (4, .int i), (3, .ref 65), (2, .ref 44), (1, .ref 1), (0, .ref 0)]) (st2 := [.int (i + 1), .ref 0, .ref 44]) (w2 := (ia_wd A1 F1 B1)) rfl ?_
  refine id_Eif (c := iv_in (i + 1) L) (pc2 := 396) (lv2 := [(5, .int v1), (4, .int i), (3, .ref 65), (2, .ref 44), (1, .ref 1), (0, .ref 0)]) (st2 := [.int (xs (Int32.toNatClampNeg (i + 1))), .ref 44]) (w2 := (ia_wd A1 F1 B1)) rfl h1 ?_
  obtain ⟨v2, A2, F2, B2, tg2, n2, hn2, hG2, hi2, hf2, -⟩ := id_hi (L := L) (xs := xs) (d := 19) (tg := tg1) (B := B1) (vals := [.ref 44, .int (xs (Int32.toNatClampNeg (i + 1)))]) ia_h1298 rfl rfl (Nat.le_of_ble_eq_true rfl) (show ia_sk _ ia_m1298.2.2.1 _ from ⟨List.mem_singleton.mpr rfl, id_top _, trivial⟩) hi1
  have hq2 : ∀ j, A2 5 j = A2 48 j := fun j => by
    rw [id_fz (r := 5) hf2 rfl rfl j, id_fz (r := 48) hf2 rfl rfl j]
    exact hq1 j
  refine id_Ecall (ν := 172) (c := 2) (as := [.ref 44, .int (xs (Int32.toNatClampNeg (i + 1)))]) (rest := []) (w2 := (ia_wd A2 F2 B2)) (tg2 := tg2) (k2 := n2) (z2 := (6 * n2)) (v := (some (.int v2))) rfl rfl rfl rfl rfl rfl rfl (Nat.le_of_ble_eq_true rfl) rfl hG2 ?_
  show id_Fin _ _ _ _ 399 [(5, .int v1), (4, .int i), (3, .ref 65), (2, .ref 44), (1, .ref 1), (0, .ref 0)] [.int v2] (ia_wd A2 F2 B2) tg2 _ _
  refine id_Em 4 (pc2 := 23) (lv2 := [(4, .int (i + 6)), (6, .int v2), (5, .int v1), (3, .ref 65), (2, .ref 44), (1, .ref 1), (0, .ref 0)]) (st2 := []) (w2 := (ia_wd A2 F2 B2)) rfl ?_
  exact hg _ _ _ _ _ _ _ (Or.inr ⟨_, _, rfl⟩) hi2 hq2 (by omega) (by omega)
set_option maxRecDepth 1000000 in
set_option maxHeartbeats 40000000 in
theorem id_k6_1 {L : Nat} {xs : Nat → Int32} {i a b : Int32} {A : Nat → Nat → Int32} {F : Nat → Int32} {B : Nat → Int64} {tg : Bool} {k z : Nat} (h1 : iv_in (i + 1) L = true) (h2 : iv_in (i + 2) L = true) (h3 : iv_in (i + 3) L = true) (h4 : iv_in (i + 4) L = true) (h5 : iv_in (i + 5) L = true) (hi : ia_inv A F []) (hq : ∀ j, A 5 j = A 48 j) (hg : id_nx L xs i k z) : id_Fin L xs 20 0 376 [(4, .int i), (6, .int b), (5, .int a), (3, .ref 65), (2, .ref 44), (1, .ref 1), (0, .ref 0)] [] (ia_wd A F B) tg k z := by
  refine id_Em 5 (pc2 := 382) (lv2 := [(4, .int i), (6, .int b), (5, .int a), (3, .ref 65), (2, .ref 44), (1, .ref 1), (0, .ref 0)]) (st2 := [.int (i + 1), .ref 0, .ref 1]) (w2 := (ia_wd A F B)) rfl ?_
  refine id_Eif (c := iv_in (i + 1) L) (pc2 := 383) (lv2 := [(4, .int i), (6, .int b), (5, .int a), (3, .ref 65), (2, .ref 44), (1, .ref 1), (0, .ref 0)]) (st2 := [.int (xs (Int32.toNatClampNeg (i + 1))), .ref 1]) (w2 := (ia_wd A F B)) rfl h1 ?_
  refine id_Em 1 (pc2 := 384) (lv2 := [(4, .int i), (6, .int b), (5, .int a), (3, .ref 65), (2, .ref 44), (1, .ref 1), (0, .ref 0)]) (st2 := [.ref 65, .int (xs (Int32.toNatClampNeg (i + 1))), .ref 1]) (w2 := (ia_wd A F B)) rfl ?_
  obtain ⟨v1, A1, F1, B1, tg1, n1, hn1, hG1, hi1, hf1, -⟩ := id_hi (L := L) (xs := xs) (d := 19) (tg := tg) (B := B) (vals := [.ref 1, .int (xs (Int32.toNatClampNeg (i + 1))), .ref 65]) ia_h1280 rfl rfl (Nat.le_of_ble_eq_true rfl) (show ia_sk _ ia_m1280.2.2.1 _ from ⟨List.mem_singleton.mpr rfl, id_top _, List.mem_singleton.mpr rfl, trivial⟩) hi
  have hq1 : ∀ j, A1 5 j = A1 48 j := fun j => by
    rw [id_fz (r := 5) hf1 rfl rfl j, id_fz (r := 48) hf1 rfl rfl j]
    exact hq j
  refine id_Ecall (ν := 190) (c := 3) (as := [.ref 1, .int (xs (Int32.toNatClampNeg (i + 1))), .ref 65]) (rest := []) (w2 := (ia_wd A1 F1 B1)) (tg2 := tg1) (k2 := n1) (z2 := (6 * n1)) (v := (some (.int v1))) rfl rfl rfl rfl rfl rfl rfl (Nat.le_of_ble_eq_true rfl) rfl hG1 ?_
  show id_Fin _ _ _ _ 387 [(4, .int i), (6, .int b), (5, .int a), (3, .ref 65), (2, .ref 44), (1, .ref 1), (0, .ref 0)] [.int v1] (ia_wd A1 F1 B1) tg1 _ _
  refine id_Em 6 (pc2 := 395) (lv2 := [(5, .int v1), (4, .int i), (6, .int b), (3, .ref 65), (2, .ref 44), (1, .ref 1), (0, .ref 0)]) (st2 := [.int (i + 1), .ref 0, .ref 44]) (w2 := (ia_wd A1 F1 B1)) rfl ?_
  refine id_Eif (c := iv_in (i + 1) L) (pc2 := 396) (lv2 := [(5, .int v1), (4, .int i), (6, .int b), (3, .ref 65), (2, .ref 44), (1, .ref 1), (0, .ref 0)]) (st2 := [.int (xs (Int32.toNatClampNeg (i + 1))), .ref 44]) (w2 := (ia_wd A1 F1 B1)) rfl h1 ?_
  obtain ⟨v2, A2, F2, B2, tg2, n2, hn2, hG2, hi2, hf2, -⟩ := id_hi (L := L) (xs := xs) (d := 19) (tg := tg1) (B := B1) (vals := [.ref 44, .int (xs (Int32.toNatClampNeg (i + 1)))]) ia_h1298 rfl rfl (Nat.le_of_ble_eq_true rfl) (show ia_sk _ ia_m1298.2.2.1 _ from ⟨List.mem_singleton.mpr rfl, id_top _, trivial⟩) hi1
  have hq2 : ∀ j, A2 5 j = A2 48 j := fun j => by
    rw [id_fz (r := 5) hf2 rfl rfl j, id_fz (r := 48) hf2 rfl rfl j]
    exact hq1 j
  refine id_Ecall (ν := 172) (c := 2) (as := [.ref 44, .int (xs (Int32.toNatClampNeg (i + 1)))]) (rest := []) (w2 := (ia_wd A2 F2 B2)) (tg2 := tg2) (k2 := n2) (z2 := (6 * n2)) (v := (some (.int v2))) rfl rfl rfl rfl rfl rfl rfl (Nat.le_of_ble_eq_true rfl) rfl hG2 ?_
  show id_Fin _ _ _ _ 399 [(5, .int v1), (4, .int i), (6, .int b), (3, .ref 65), (2, .ref 44), (1, .ref 1), (0, .ref 0)] [.int v2] (ia_wd A2 F2 B2) tg2 _ _
  refine id_Em 4 (pc2 := 23) (lv2 := [(4, .int (i + 6)), (6, .int v2), (5, .int v1), (3, .ref 65), (2, .ref 44), (1, .ref 1), (0, .ref 0)]) (st2 := []) (w2 := (ia_wd A2 F2 B2)) rfl ?_
  exact hg _ _ _ _ _ _ _ (Or.inr ⟨_, _, rfl⟩) hi2 hq2 (by omega) (by omega)
set_option maxRecDepth 1000000 in
set_option maxHeartbeats 40000000 in
theorem id_k7_0 {L : Nat} {xs : Nat → Int32} {i : Int32} {A : Nat → Nat → Int32} {F : Nat → Int32} {B : Nat → Int64} {tg : Bool} {k z : Nat} (h1 : iv_in (i + 1) L = true) (h2 : iv_in (i + 2) L = true) (h3 : iv_in (i + 3) L = true) (h4 : iv_in (i + 4) L = true) (h5 : iv_in (i + 5) L = true) (hi : ia_inv A F []) (hq : ∀ j, A 5 j = A 48 j) (hg : id_nx L xs i k z) : id_Fin L xs 20 0 404 [(4, .int i), (3, .ref 65), (2, .ref 44), (1, .ref 1), (0, .ref 0)] [] (ia_wd A F B) tg k z := by
  refine id_Em 2 (pc2 := 406) (lv2 := [(4, .int i), (3, .ref 65), (2, .ref 44), (1, .ref 1), (0, .ref 0)]) (st2 := [.ref 65, .ref 1]) (w2 := (ia_wd A F B)) rfl ?_
  obtain ⟨v1, A1, F1, B1, tg1, n1, hn1, hG1, hi1, hf1, -⟩ := id_hi (L := L) (xs := xs) (d := 19) (tg := tg) (B := B) (vals := [.ref 1, .ref 65]) ia_h1279 rfl rfl (Nat.le_of_ble_eq_true rfl) (show ia_sk _ ia_m1279.2.2.1 _ from ⟨List.mem_singleton.mpr rfl, List.mem_singleton.mpr rfl, trivial⟩) hi
  have hq1 : ∀ j, A1 5 j = A1 48 j := fun j => by
    rw [id_fz (r := 5) hf1 rfl rfl j, id_fz (r := 48) hf1 rfl rfl j]
    exact hq j
  refine id_Ecall (ν := 191) (c := 2) (as := [.ref 1, .ref 65]) (rest := []) (w2 := (ia_wd A1 F1 B1)) (tg2 := tg1) (k2 := n1) (z2 := (6 * n1)) (v := (some (.int v1))) rfl rfl rfl rfl rfl rfl rfl (Nat.le_of_ble_eq_true rfl) rfl hG1 ?_
  show id_Fin _ _ _ _ 409 [(4, .int i), (3, .ref 65), (2, .ref 44), (1, .ref 1), (0, .ref 0)] [.int v1] (ia_wd A1 F1 B1) tg1 _ _
  refine id_Em 2 (pc2 := 412) (lv2 := [(5, .int v1), (4, .int i), (3, .ref 65), (2, .ref 44), (1, .ref 1), (0, .ref 0)]) (st2 := [.ref 44]) (w2 := (ia_wd A1 F1 B1)) rfl ?_
  obtain ⟨v2, A2, F2, B2, tg2, n2, hn2, hG2, hi2, hf2, -⟩ := id_hi (L := L) (xs := xs) (d := 19) (tg := tg1) (B := B1) (vals := [.ref 44]) ia_h1285 rfl rfl (Nat.le_of_ble_eq_true rfl) (show ia_sk _ ia_m1285.2.2.1 _ from ⟨List.mem_singleton.mpr rfl, trivial⟩) hi1
  have hq2 : ∀ j, A2 5 j = A2 48 j := fun j => by
    rw [id_fz (r := 5) hf2 rfl rfl j, id_fz (r := 48) hf2 rfl rfl j]
    exact hq1 j
  refine id_Ecall (ν := 173) (c := 1) (as := [.ref 44]) (rest := []) (w2 := (ia_wd A2 F2 B2)) (tg2 := tg2) (k2 := n2) (z2 := (6 * n2)) (v := (some (.int v2))) rfl rfl rfl rfl rfl rfl rfl (Nat.le_of_ble_eq_true rfl) rfl hG2 ?_
  show id_Fin _ _ _ _ 415 [(5, .int v1), (4, .int i), (3, .ref 65), (2, .ref 44), (1, .ref 1), (0, .ref 0)] [.int v2] (ia_wd A2 F2 B2) tg2 _ _
  refine id_Em 4 (pc2 := 23) (lv2 := [(4, .int (i + 6)), (6, .int v2), (5, .int v1), (3, .ref 65), (2, .ref 44), (1, .ref 1), (0, .ref 0)]) (st2 := []) (w2 := (ia_wd A2 F2 B2)) rfl ?_
  exact hg _ _ _ _ _ _ _ (Or.inr ⟨_, _, rfl⟩) hi2 hq2 (by omega) (by omega)
set_option maxRecDepth 1000000 in
set_option maxHeartbeats 40000000 in
theorem id_k7_1 {L : Nat} {xs : Nat → Int32} {i a b : Int32} {A : Nat → Nat → Int32} {F : Nat → Int32} {B : Nat → Int64} {tg : Bool} {k z : Nat} (h1 : iv_in (i + 1) L = true) (h2 : iv_in (i + 2) L = true) (h3 : iv_in (i + 3) L = true) (h4 : iv_in (i + 4) L = true) (h5 : iv_in (i + 5) L = true) (hi : ia_inv A F []) (hq : ∀ j, A 5 j = A 48 j) (hg : id_nx L xs i k z) : id_Fin L xs 20 0 404 [(4, .int i), (6, .int b), (5, .int a), (3, .ref 65), (2, .ref 44), (1, .ref 1), (0, .ref 0)] [] (ia_wd A F B) tg k z := by
  refine id_Em 2 (pc2 := 406) (lv2 := [(4, .int i), (6, .int b), (5, .int a), (3, .ref 65), (2, .ref 44), (1, .ref 1), (0, .ref 0)]) (st2 := [.ref 65, .ref 1]) (w2 := (ia_wd A F B)) rfl ?_
  obtain ⟨v1, A1, F1, B1, tg1, n1, hn1, hG1, hi1, hf1, -⟩ := id_hi (L := L) (xs := xs) (d := 19) (tg := tg) (B := B) (vals := [.ref 1, .ref 65]) ia_h1279 rfl rfl (Nat.le_of_ble_eq_true rfl) (show ia_sk _ ia_m1279.2.2.1 _ from ⟨List.mem_singleton.mpr rfl, List.mem_singleton.mpr rfl, trivial⟩) hi
  have hq1 : ∀ j, A1 5 j = A1 48 j := fun j => by
    rw [id_fz (r := 5) hf1 rfl rfl j, id_fz (r := 48) hf1 rfl rfl j]
    exact hq j
  refine id_Ecall (ν := 191) (c := 2) (as := [.ref 1, .ref 65]) (rest := []) (w2 := (ia_wd A1 F1 B1)) (tg2 := tg1) (k2 := n1) (z2 := (6 * n1)) (v := (some (.int v1))) rfl rfl rfl rfl rfl rfl rfl (Nat.le_of_ble_eq_true rfl) rfl hG1 ?_
  show id_Fin _ _ _ _ 409 [(4, .int i), (6, .int b), (5, .int a), (3, .ref 65), (2, .ref 44), (1, .ref 1), (0, .ref 0)] [.int v1] (ia_wd A1 F1 B1) tg1 _ _
  refine id_Em 2 (pc2 := 412) (lv2 := [(5, .int v1), (4, .int i), (6, .int b), (3, .ref 65), (2, .ref 44), (1, .ref 1), (0, .ref 0)]) (st2 := [.ref 44]) (w2 := (ia_wd A1 F1 B1)) rfl ?_
  obtain ⟨v2, A2, F2, B2, tg2, n2, hn2, hG2, hi2, hf2, -⟩ := id_hi (L := L) (xs := xs) (d := 19) (tg := tg1) (B := B1) (vals := [.ref 44]) ia_h1285 rfl rfl (Nat.le_of_ble_eq_true rfl) (show ia_sk _ ia_m1285.2.2.1 _ from ⟨List.mem_singleton.mpr rfl, trivial⟩) hi1
  have hq2 : ∀ j, A2 5 j = A2 48 j := fun j => by
    rw [id_fz (r := 5) hf2 rfl rfl j, id_fz (r := 48) hf2 rfl rfl j]
    exact hq1 j
  refine id_Ecall (ν := 173) (c := 1) (as := [.ref 44]) (rest := []) (w2 := (ia_wd A2 F2 B2)) (tg2 := tg2) (k2 := n2) (z2 := (6 * n2)) (v := (some (.int v2))) rfl rfl rfl rfl rfl rfl rfl (Nat.le_of_ble_eq_true rfl) rfl hG2 ?_
  show id_Fin _ _ _ _ 415 [(5, .int v1), (4, .int i), (6, .int b), (3, .ref 65), (2, .ref 44), (1, .ref 1), (0, .ref 0)] [.int v2] (ia_wd A2 F2 B2) tg2 _ _
  refine id_Em 4 (pc2 := 23) (lv2 := [(4, .int (i + 6)), (6, .int v2), (5, .int v1), (3, .ref 65), (2, .ref 44), (1, .ref 1), (0, .ref 0)]) (st2 := []) (w2 := (ia_wd A2 F2 B2)) rfl ?_
  exact hg _ _ _ _ _ _ _ (Or.inr ⟨_, _, rfl⟩) hi2 hq2 (by omega) (by omega)
set_option maxRecDepth 1000000 in
set_option maxHeartbeats 40000000 in
theorem id_k8_0 {L : Nat} {xs : Nat → Int32} {i : Int32} {A : Nat → Nat → Int32} {F : Nat → Int32} {B : Nat → Int64} {tg : Bool} {k z : Nat} (h1 : iv_in (i + 1) L = true) (h2 : iv_in (i + 2) L = true) (h3 : iv_in (i + 3) L = true) (h4 : iv_in (i + 4) L = true) (h5 : iv_in (i + 5) L = true) (hi : ia_inv A F []) (hq : ∀ j, A 5 j = A 48 j) (hg : id_nx L xs i k z) : id_Fin L xs 20 0 420 [(4, .int i), (3, .ref 65), (2, .ref 44), (1, .ref 1), (0, .ref 0)] [] (ia_wd A F B) tg k z := by
  refine id_Em 5 (pc2 := 426) (lv2 := [(4, .int i), (3, .ref 65), (2, .ref 44), (1, .ref 1), (0, .ref 0)]) (st2 := [.int (i + 1), .ref 0, .ref 1]) (w2 := (ia_wd A F B)) rfl ?_
  refine id_Eif (c := iv_in (i + 1) L) (pc2 := 427) (lv2 := [(4, .int i), (3, .ref 65), (2, .ref 44), (1, .ref 1), (0, .ref 0)]) (st2 := [.int (xs (Int32.toNatClampNeg (i + 1))), .ref 1]) (w2 := (ia_wd A F B)) rfl h1 ?_
  obtain ⟨v1, A1, F1, B1, tg1, n1, hn1, hG1, hi1, hf1, -⟩ := id_hi (L := L) (xs := xs) (d := 19) (tg := tg) (B := B) (vals := [.ref 1, .int (xs (Int32.toNatClampNeg (i + 1)))]) ia_h764 rfl rfl (Nat.le_of_ble_eq_true rfl) (show ia_sk _ ia_m764.2.2.1 _ from ⟨List.mem_singleton.mpr rfl, id_top _, trivial⟩) hi
  have hq1 : ∀ j, A1 5 j = A1 48 j := fun j => by
    rw [id_fz (r := 5) hf1 rfl rfl j, id_fz (r := 48) hf1 rfl rfl j]
    exact hq j
  refine id_Ecall (ν := 10) (c := 2) (as := [.ref 1, .int (xs (Int32.toNatClampNeg (i + 1)))]) (rest := []) (w2 := (ia_wd A1 F1 B1)) (tg2 := tg1) (k2 := n1) (z2 := (6 * n1)) (v := (some (.int v1))) rfl rfl rfl rfl rfl rfl rfl (Nat.le_of_ble_eq_true rfl) rfl hG1 ?_
  show id_Fin _ _ _ _ 430 [(4, .int i), (3, .ref 65), (2, .ref 44), (1, .ref 1), (0, .ref 0)] [.int v1] (ia_wd A1 F1 B1) tg1 _ _
  refine id_Em 6 (pc2 := 437) (lv2 := [(4, .int i), (3, .ref 65), (2, .ref 44), (1, .ref 1), (0, .ref 0)]) (st2 := [.int (i + 1), .ref 0, .ref 44]) (w2 := (ia_wd A1 F1 B1)) rfl ?_
  refine id_Eif (c := iv_in (i + 1) L) (pc2 := 438) (lv2 := [(4, .int i), (3, .ref 65), (2, .ref 44), (1, .ref 1), (0, .ref 0)]) (st2 := [.int (xs (Int32.toNatClampNeg (i + 1))), .ref 44]) (w2 := (ia_wd A1 F1 B1)) rfl h1 ?_
  obtain ⟨v2, A2, F2, B2, tg2, n2, hn2, hG2, hi2, hf2, -⟩ := id_hi (L := L) (xs := xs) (d := 19) (tg := tg1) (B := B1) (vals := [.ref 44, .int (xs (Int32.toNatClampNeg (i + 1)))]) ia_h18 rfl rfl (Nat.le_of_ble_eq_true rfl) (show ia_sk _ ia_m18.2.2.1 _ from ⟨List.mem_singleton.mpr rfl, id_top _, trivial⟩) hi1
  have hq2 : ∀ j, A2 5 j = A2 48 j := fun j => by
    rw [id_fz (r := 5) hf2 rfl rfl j, id_fz (r := 48) hf2 rfl rfl j]
    exact hq1 j
  refine id_Ecall (ν := 174) (c := 2) (as := [.ref 44, .int (xs (Int32.toNatClampNeg (i + 1)))]) (rest := []) (w2 := (ia_wd A2 F2 B2)) (tg2 := tg2) (k2 := n2) (z2 := (6 * n2)) (v := (some (.int v2))) rfl rfl rfl rfl rfl rfl rfl (Nat.le_of_ble_eq_true rfl) rfl hG2 ?_
  show id_Fin _ _ _ _ 441 [(4, .int i), (3, .ref 65), (2, .ref 44), (1, .ref 1), (0, .ref 0)] [.int v2] (ia_wd A2 F2 B2) tg2 _ _
  refine id_Em 4 (pc2 := 23) (lv2 := [(4, .int (i + 6)), (3, .ref 65), (2, .ref 44), (1, .ref 1), (0, .ref 0)]) (st2 := []) (w2 := (ia_wd A2 F2 B2)) rfl ?_
  exact hg _ _ _ _ _ _ _ (Or.inl rfl) hi2 hq2 (by omega) (by omega)
set_option maxRecDepth 1000000 in
set_option maxHeartbeats 40000000 in
theorem id_k8_1 {L : Nat} {xs : Nat → Int32} {i a b : Int32} {A : Nat → Nat → Int32} {F : Nat → Int32} {B : Nat → Int64} {tg : Bool} {k z : Nat} (h1 : iv_in (i + 1) L = true) (h2 : iv_in (i + 2) L = true) (h3 : iv_in (i + 3) L = true) (h4 : iv_in (i + 4) L = true) (h5 : iv_in (i + 5) L = true) (hi : ia_inv A F []) (hq : ∀ j, A 5 j = A 48 j) (hg : id_nx L xs i k z) : id_Fin L xs 20 0 420 [(4, .int i), (6, .int b), (5, .int a), (3, .ref 65), (2, .ref 44), (1, .ref 1), (0, .ref 0)] [] (ia_wd A F B) tg k z := by
  refine id_Em 5 (pc2 := 426) (lv2 := [(4, .int i), (6, .int b), (5, .int a), (3, .ref 65), (2, .ref 44), (1, .ref 1), (0, .ref 0)]) (st2 := [.int (i + 1), .ref 0, .ref 1]) (w2 := (ia_wd A F B)) rfl ?_
  refine id_Eif (c := iv_in (i + 1) L) (pc2 := 427) (lv2 := [(4, .int i), (6, .int b), (5, .int a), (3, .ref 65), (2, .ref 44), (1, .ref 1), (0, .ref 0)]) (st2 := [.int (xs (Int32.toNatClampNeg (i + 1))), .ref 1]) (w2 := (ia_wd A F B)) rfl h1 ?_
  obtain ⟨v1, A1, F1, B1, tg1, n1, hn1, hG1, hi1, hf1, -⟩ := id_hi (L := L) (xs := xs) (d := 19) (tg := tg) (B := B) (vals := [.ref 1, .int (xs (Int32.toNatClampNeg (i + 1)))]) ia_h764 rfl rfl (Nat.le_of_ble_eq_true rfl) (show ia_sk _ ia_m764.2.2.1 _ from ⟨List.mem_singleton.mpr rfl, id_top _, trivial⟩) hi
  have hq1 : ∀ j, A1 5 j = A1 48 j := fun j => by
    rw [id_fz (r := 5) hf1 rfl rfl j, id_fz (r := 48) hf1 rfl rfl j]
    exact hq j
  refine id_Ecall (ν := 10) (c := 2) (as := [.ref 1, .int (xs (Int32.toNatClampNeg (i + 1)))]) (rest := []) (w2 := (ia_wd A1 F1 B1)) (tg2 := tg1) (k2 := n1) (z2 := (6 * n1)) (v := (some (.int v1))) rfl rfl rfl rfl rfl rfl rfl (Nat.le_of_ble_eq_true rfl) rfl hG1 ?_
  show id_Fin _ _ _ _ 430 [(4, .int i), (6, .int b), (5, .int a), (3, .ref 65), (2, .ref 44), (1, .ref 1), (0, .ref 0)] [.int v1] (ia_wd A1 F1 B1) tg1 _ _
  refine id_Em 6 (pc2 := 437) (lv2 := [(4, .int i), (6, .int b), (5, .int a), (3, .ref 65), (2, .ref 44), (1, .ref 1), (0, .ref 0)]) (st2 := [.int (i + 1), .ref 0, .ref 44]) (w2 := (ia_wd A1 F1 B1)) rfl ?_
  refine id_Eif (c := iv_in (i + 1) L) (pc2 := 438) (lv2 := [(4, .int i), (6, .int b), (5, .int a), (3, .ref 65), (2, .ref 44), (1, .ref 1), (0, .ref 0)]) (st2 := [.int (xs (Int32.toNatClampNeg (i + 1))), .ref 44]) (w2 := (ia_wd A1 F1 B1)) rfl h1 ?_
  obtain ⟨v2, A2, F2, B2, tg2, n2, hn2, hG2, hi2, hf2, -⟩ := id_hi (L := L) (xs := xs) (d := 19) (tg := tg1) (B := B1) (vals := [.ref 44, .int (xs (Int32.toNatClampNeg (i + 1)))]) ia_h18 rfl rfl (Nat.le_of_ble_eq_true rfl) (show ia_sk _ ia_m18.2.2.1 _ from ⟨List.mem_singleton.mpr rfl, id_top _, trivial⟩) hi1
  have hq2 : ∀ j, A2 5 j = A2 48 j := fun j => by
    rw [id_fz (r := 5) hf2 rfl rfl j, id_fz (r := 48) hf2 rfl rfl j]
    exact hq1 j
  refine id_Ecall (ν := 174) (c := 2) (as := [.ref 44, .int (xs (Int32.toNatClampNeg (i + 1)))]) (rest := []) (w2 := (ia_wd A2 F2 B2)) (tg2 := tg2) (k2 := n2) (z2 := (6 * n2)) (v := (some (.int v2))) rfl rfl rfl rfl rfl rfl rfl (Nat.le_of_ble_eq_true rfl) rfl hG2 ?_
  show id_Fin _ _ _ _ 441 [(4, .int i), (6, .int b), (5, .int a), (3, .ref 65), (2, .ref 44), (1, .ref 1), (0, .ref 0)] [.int v2] (ia_wd A2 F2 B2) tg2 _ _
  refine id_Em 4 (pc2 := 23) (lv2 := [(4, .int (i + 6)), (6, .int b), (5, .int a), (3, .ref 65), (2, .ref 44), (1, .ref 1), (0, .ref 0)]) (st2 := []) (w2 := (ia_wd A2 F2 B2)) rfl ?_
  exact hg _ _ _ _ _ _ _ (Or.inr ⟨_, _, rfl⟩) hi2 hq2 (by omega) (by omega)
set_option maxRecDepth 1000000 in
set_option maxHeartbeats 40000000 in
theorem id_k9_0 {L : Nat} {xs : Nat → Int32} {i : Int32} {A : Nat → Nat → Int32} {F : Nat → Int32} {B : Nat → Int64} {tg : Bool} {k z : Nat} (h1 : iv_in (i + 1) L = true) (h2 : iv_in (i + 2) L = true) (h3 : iv_in (i + 3) L = true) (h4 : iv_in (i + 4) L = true) (h5 : iv_in (i + 5) L = true) (hi : ia_inv A F []) (hq : ∀ j, A 5 j = A 48 j) (hg : id_nx L xs i k z) : id_Fin L xs 20 0 445 [(4, .int i), (3, .ref 65), (2, .ref 44), (1, .ref 1), (0, .ref 0)] [] (ia_wd A F B) tg k z := by
  refine id_Em 5 (pc2 := 451) (lv2 := [(4, .int i), (3, .ref 65), (2, .ref 44), (1, .ref 1), (0, .ref 0)]) (st2 := [.int (i + 1), .ref 0, .ref 1]) (w2 := (ia_wd A F B)) rfl ?_
  refine id_Eif (c := iv_in (i + 1) L) (pc2 := 452) (lv2 := [(4, .int i), (3, .ref 65), (2, .ref 44), (1, .ref 1), (0, .ref 0)]) (st2 := [.int (xs (Int32.toNatClampNeg (i + 1))), .ref 1]) (w2 := (ia_wd A F B)) rfl h1 ?_
  obtain ⟨v1, A1, F1, B1, tg1, n1, hn1, hG1, hi1, hS1⟩ := id_spC (L := L) (xs := xs) (tg := tg) (B := B) ((xs (Int32.toNatClampNeg (i + 1)))) hi
  refine id_Ecall (ν := 11) (c := 2) (as := [.ref 1, .int (xs (Int32.toNatClampNeg (i + 1)))]) (rest := []) (w2 := (ia_wd A1 F1 B1)) (tg2 := tg1) (k2 := n1) (z2 := (6 * n1)) (v := (some (.int v1))) rfl rfl rfl rfl rfl rfl rfl (Nat.le_of_ble_eq_true rfl) rfl hG1 ?_
  show id_Fin _ _ _ _ 455 [(4, .int i), (3, .ref 65), (2, .ref 44), (1, .ref 1), (0, .ref 0)] [.int v1] (ia_wd A1 F1 B1) tg1 _ _
  refine id_Em 5 (pc2 := 461) (lv2 := [(4, .int i), (3, .ref 65), (2, .ref 44), (1, .ref 1), (0, .ref 0)]) (st2 := [.int (i + 1), .ref 0, .ref 44, .int v1]) (w2 := (ia_wd A1 F1 B1)) rfl ?_
  refine id_Eif (c := iv_in (i + 1) L) (pc2 := 462) (lv2 := [(4, .int i), (3, .ref 65), (2, .ref 44), (1, .ref 1), (0, .ref 0)]) (st2 := [.int (xs (Int32.toNatClampNeg (i + 1))), .ref 44, .int v1]) (w2 := (ia_wd A1 F1 B1)) rfl h1 ?_
  obtain ⟨v2, A2, F2, B2, tg2, n2, hn2, hG2, hi2, hS2⟩ := id_spR (L := L) (xs := xs) (tg := tg1) (B := B1) ((xs (Int32.toNatClampNeg (i + 1)))) hi1
  obtain ⟨hv, hq2⟩ := id_ss hq hS1 hS2
  refine id_Ecall (ν := 175) (c := 2) (as := [.ref 44, .int (xs (Int32.toNatClampNeg (i + 1)))]) (rest := [.int v1]) (w2 := (ia_wd A2 F2 B2)) (tg2 := tg2) (k2 := n2) (z2 := (6 * n2)) (v := (some (.int v2))) rfl rfl rfl rfl rfl rfl rfl (Nat.le_of_ble_eq_true rfl) rfl hG2 ?_
  show id_Fin _ _ _ _ 465 [(4, .int i), (3, .ref 65), (2, .ref 44), (1, .ref 1), (0, .ref 0)] [.int v2, .int v1] (ia_wd A2 F2 B2) tg2 _ _
  refine id_Ebt (c := decide (v1 = v2)) (p1 := 585) (p2 := 468) (lv2 := [(4, .int i), (3, .ref 65), (2, .ref 44), (1, .ref 1), (0, .ref 0)]) (st2 := []) (w2 := (ia_wd A2 F2 B2)) rfl (decide_eq_true hv) ?_
  refine id_Em 2 (pc2 := 23) (lv2 := [(4, .int (i + 6)), (3, .ref 65), (2, .ref 44), (1, .ref 1), (0, .ref 0)]) (st2 := []) (w2 := (ia_wd A2 F2 B2)) rfl ?_
  exact hg _ _ _ _ _ _ _ (Or.inl rfl) hi2 hq2 (by omega) (by omega)
set_option maxRecDepth 1000000 in
set_option maxHeartbeats 40000000 in
theorem id_k9_1 {L : Nat} {xs : Nat → Int32} {i a b : Int32} {A : Nat → Nat → Int32} {F : Nat → Int32} {B : Nat → Int64} {tg : Bool} {k z : Nat} (h1 : iv_in (i + 1) L = true) (h2 : iv_in (i + 2) L = true) (h3 : iv_in (i + 3) L = true) (h4 : iv_in (i + 4) L = true) (h5 : iv_in (i + 5) L = true) (hi : ia_inv A F []) (hq : ∀ j, A 5 j = A 48 j) (hg : id_nx L xs i k z) : id_Fin L xs 20 0 445 [(4, .int i), (6, .int b), (5, .int a), (3, .ref 65), (2, .ref 44), (1, .ref 1), (0, .ref 0)] [] (ia_wd A F B) tg k z := by
  refine id_Em 5 (pc2 := 451) (lv2 := [(4, .int i), (6, .int b), (5, .int a), (3, .ref 65), (2, .ref 44), (1, .ref 1), (0, .ref 0)]) (st2 := [.int (i + 1), .ref 0, .ref 1]) (w2 := (ia_wd A F B)) rfl ?_
  refine id_Eif (c := iv_in (i + 1) L) (pc2 := 452) (lv2 := [(4, .int i), (6, .int b), (5, .int a), (3, .ref 65), (2, .ref 44), (1, .ref 1), (0, .ref 0)]) (st2 := [.int (xs (Int32.toNatClampNeg (i + 1))), .ref 1]) (w2 := (ia_wd A F B)) rfl h1 ?_
  obtain ⟨v1, A1, F1, B1, tg1, n1, hn1, hG1, hi1, hS1⟩ := id_spC (L := L) (xs := xs) (tg := tg) (B := B) ((xs (Int32.toNatClampNeg (i + 1)))) hi
  refine id_Ecall (ν := 11) (c := 2) (as := [.ref 1, .int (xs (Int32.toNatClampNeg (i + 1)))]) (rest := []) (w2 := (ia_wd A1 F1 B1)) (tg2 := tg1) (k2 := n1) (z2 := (6 * n1)) (v := (some (.int v1))) rfl rfl rfl rfl rfl rfl rfl (Nat.le_of_ble_eq_true rfl) rfl hG1 ?_
  show id_Fin _ _ _ _ 455 [(4, .int i), (6, .int b), (5, .int a), (3, .ref 65), (2, .ref 44), (1, .ref 1), (0, .ref 0)] [.int v1] (ia_wd A1 F1 B1) tg1 _ _
  refine id_Em 5 (pc2 := 461) (lv2 := [(4, .int i), (6, .int b), (5, .int a), (3, .ref 65), (2, .ref 44), (1, .ref 1), (0, .ref 0)]) (st2 := [.int (i + 1), .ref 0, .ref 44, .int v1]) (w2 := (ia_wd A1 F1 B1)) rfl ?_
  refine id_Eif (c := iv_in (i + 1) L) (pc2 := 462) (lv2 := [(4, .int i), (6, .int b), (5, .int a), (3, .ref 65), (2, .ref 44), (1, .ref 1), (0, .ref 0)]) (st2 := [.int (xs (Int32.toNatClampNeg (i + 1))), .ref 44, .int v1]) (w2 := (ia_wd A1 F1 B1)) rfl h1 ?_
  obtain ⟨v2, A2, F2, B2, tg2, n2, hn2, hG2, hi2, hS2⟩ := id_spR (L := L) (xs := xs) (tg := tg1) (B := B1) ((xs (Int32.toNatClampNeg (i + 1)))) hi1
  obtain ⟨hv, hq2⟩ := id_ss hq hS1 hS2
  refine id_Ecall (ν := 175) (c := 2) (as := [.ref 44, .int (xs (Int32.toNatClampNeg (i + 1)))]) (rest := [.int v1]) (w2 := (ia_wd A2 F2 B2)) (tg2 := tg2) (k2 := n2) (z2 := (6 * n2)) (v := (some (.int v2))) rfl rfl rfl rfl rfl rfl rfl (Nat.le_of_ble_eq_true rfl) rfl hG2 ?_
  show id_Fin _ _ _ _ 465 [(4, .int i), (6, .int b), (5, .int a), (3, .ref 65), (2, .ref 44), (1, .ref 1), (0, .ref 0)] [.int v2, .int v1] (ia_wd A2 F2 B2) tg2 _ _
  refine id_Ebt (c := decide (v1 = v2)) (p1 := 585) (p2 := 468) (lv2 := [(4, .int i), (6, .int b), (5, .int a), (3, .ref 65), (2, .ref 44), (1, .ref 1), (0, .ref 0)]) (st2 := []) (w2 := (ia_wd A2 F2 B2)) rfl (decide_eq_true hv) ?_
  refine id_Em 2 (pc2 := 23) (lv2 := [(4, .int (i + 6)), (6, .int b), (5, .int a), (3, .ref 65), (2, .ref 44), (1, .ref 1), (0, .ref 0)]) (st2 := []) (w2 := (ia_wd A2 F2 B2)) rfl ?_
  exact hg _ _ _ _ _ _ _ (Or.inr ⟨_, _, rfl⟩) hi2 hq2 (by omega) (by omega)
set_option maxRecDepth 1000000 in
set_option maxHeartbeats 40000000 in
theorem id_k10_0 {L : Nat} {xs : Nat → Int32} {i : Int32} {A : Nat → Nat → Int32} {F : Nat → Int32} {B : Nat → Int64} {tg : Bool} {k z : Nat} (h1 : iv_in (i + 1) L = true) (h2 : iv_in (i + 2) L = true) (h3 : iv_in (i + 3) L = true) (h4 : iv_in (i + 4) L = true) (h5 : iv_in (i + 5) L = true) (hi : ia_inv A F []) (hq : ∀ j, A 5 j = A 48 j) (hg : id_nx L xs i k z) : id_Fin L xs 20 0 470 [(4, .int i), (3, .ref 65), (2, .ref 44), (1, .ref 1), (0, .ref 0)] [] (ia_wd A F B) tg k z := by
  refine id_Em 1 (pc2 := 471) (lv2 := [(4, .int i), (3, .ref 65), (2, .ref 44), (1, .ref 1), (0, .ref 0)]) (st2 := [.ref 1]) (w2 := (ia_wd A F B)) rfl ?_
  obtain ⟨v1, A1, F1, B1, tg1, n1, hn1, hG1, hi1, hf1, -⟩ := id_hi (L := L) (xs := xs) (d := 19) (tg := tg) (B := B) (vals := [.ref 1]) ia_h765 rfl rfl (Nat.le_of_ble_eq_true rfl) (show ia_sk _ ia_m765.2.2.1 _ from ⟨List.mem_singleton.mpr rfl, trivial⟩) hi
  have hq1 : ∀ j, A1 5 j = A1 48 j := fun j => by
    rw [id_fz (r := 5) hf1 rfl rfl j, id_fz (r := 48) hf1 rfl rfl j]
    exact hq j
  refine id_Ecall (ν := 12) (c := 1) (as := [.ref 1]) (rest := []) (w2 := (ia_wd A1 F1 B1)) (tg2 := tg1) (k2 := n1) (z2 := (6 * n1)) (v := (some (.int v1))) rfl rfl rfl rfl rfl rfl rfl (Nat.le_of_ble_eq_true rfl) rfl hG1 ?_
  show id_Fin _ _ _ _ 474 [(4, .int i), (3, .ref 65), (2, .ref 44), (1, .ref 1), (0, .ref 0)] [.int v1] (ia_wd A1 F1 B1) tg1 _ _
  refine id_Em 2 (pc2 := 476) (lv2 := [(4, .int i), (3, .ref 65), (2, .ref 44), (1, .ref 1), (0, .ref 0)]) (st2 := [.ref 44]) (w2 := (ia_wd A1 F1 B1)) rfl ?_
  obtain ⟨v2, A2, F2, B2, tg2, n2, hn2, hG2, hi2, hf2, -⟩ := id_hi (L := L) (xs := xs) (d := 19) (tg := tg1) (B := B1) (vals := [.ref 44]) ia_h19 rfl rfl (Nat.le_of_ble_eq_true rfl) (show ia_sk _ ia_m19.2.2.1 _ from ⟨List.mem_singleton.mpr rfl, trivial⟩) hi1
  have hq2 : ∀ j, A2 5 j = A2 48 j := fun j => by
    rw [id_fz (r := 5) hf2 rfl rfl j, id_fz (r := 48) hf2 rfl rfl j]
    exact hq1 j
  refine id_Ecall (ν := 176) (c := 1) (as := [.ref 44]) (rest := []) (w2 := (ia_wd A2 F2 B2)) (tg2 := tg2) (k2 := n2) (z2 := (6 * n2)) (v := (some (.int v2))) rfl rfl rfl rfl rfl rfl rfl (Nat.le_of_ble_eq_true rfl) rfl hG2 ?_
  show id_Fin _ _ _ _ 479 [(4, .int i), (3, .ref 65), (2, .ref 44), (1, .ref 1), (0, .ref 0)] [.int v2] (ia_wd A2 F2 B2) tg2 _ _
  refine id_Em 4 (pc2 := 23) (lv2 := [(4, .int (i + 6)), (3, .ref 65), (2, .ref 44), (1, .ref 1), (0, .ref 0)]) (st2 := []) (w2 := (ia_wd A2 F2 B2)) rfl ?_
  exact hg _ _ _ _ _ _ _ (Or.inl rfl) hi2 hq2 (by omega) (by omega)
set_option maxRecDepth 1000000 in
set_option maxHeartbeats 40000000 in
theorem id_k10_1 {L : Nat} {xs : Nat → Int32} {i a b : Int32} {A : Nat → Nat → Int32} {F : Nat → Int32} {B : Nat → Int64} {tg : Bool} {k z : Nat} (h1 : iv_in (i + 1) L = true) (h2 : iv_in (i + 2) L = true) (h3 : iv_in (i + 3) L = true) (h4 : iv_in (i + 4) L = true) (h5 : iv_in (i + 5) L = true) (hi : ia_inv A F []) (hq : ∀ j, A 5 j = A 48 j) (hg : id_nx L xs i k z) : id_Fin L xs 20 0 470 [(4, .int i), (6, .int b), (5, .int a), (3, .ref 65), (2, .ref 44), (1, .ref 1), (0, .ref 0)] [] (ia_wd A F B) tg k z := by
  refine id_Em 1 (pc2 := 471) (lv2 := [(4, .int i), (6, .int b), (5, .int a), (3, .ref 65), (2, .ref 44), (1, .ref 1), (0, .ref 0)]) (st2 := [.ref 1]) (w2 := (ia_wd A F B)) rfl ?_
  obtain ⟨v1, A1, F1, B1, tg1, n1, hn1, hG1, hi1, hf1, -⟩ := id_hi (L := L) (xs := xs) (d := 19) (tg := tg) (B := B) (vals := [.ref 1]) ia_h765 rfl rfl (Nat.le_of_ble_eq_true rfl) (show ia_sk _ ia_m765.2.2.1 _ from ⟨List.mem_singleton.mpr rfl, trivial⟩) hi
  have hq1 : ∀ j, A1 5 j = A1 48 j := fun j => by
    rw [id_fz (r := 5) hf1 rfl rfl j, id_fz (r := 48) hf1 rfl rfl j]
    exact hq j
  refine id_Ecall (ν := 12) (c := 1) (as := [.ref 1]) (rest := []) (w2 := (ia_wd A1 F1 B1)) (tg2 := tg1) (k2 := n1) (z2 := (6 * n1)) (v := (some (.int v1))) rfl rfl rfl rfl rfl rfl rfl (Nat.le_of_ble_eq_true rfl) rfl hG1 ?_
  show id_Fin _ _ _ _ 474 [(4, .int i), (6, .int b), (5, .int a), (3, .ref 65), (2, .ref 44), (1, .ref 1), (0, .ref 0)] [.int v1] (ia_wd A1 F1 B1) tg1 _ _
  refine id_Em 2 (pc2 := 476) (lv2 := [(4, .int i), (6, .int b), (5, .int a), (3, .ref 65), (2, .ref 44), (1, .ref 1), (0, .ref 0)]) (st2 := [.ref 44]) (w2 := (ia_wd A1 F1 B1)) rfl ?_
  obtain ⟨v2, A2, F2, B2, tg2, n2, hn2, hG2, hi2, hf2, -⟩ := id_hi (L := L) (xs := xs) (d := 19) (tg := tg1) (B := B1) (vals := [.ref 44]) ia_h19 rfl rfl (Nat.le_of_ble_eq_true rfl) (show ia_sk _ ia_m19.2.2.1 _ from ⟨List.mem_singleton.mpr rfl, trivial⟩) hi1
  have hq2 : ∀ j, A2 5 j = A2 48 j := fun j => by
    rw [id_fz (r := 5) hf2 rfl rfl j, id_fz (r := 48) hf2 rfl rfl j]
    exact hq1 j
  refine id_Ecall (ν := 176) (c := 1) (as := [.ref 44]) (rest := []) (w2 := (ia_wd A2 F2 B2)) (tg2 := tg2) (k2 := n2) (z2 := (6 * n2)) (v := (some (.int v2))) rfl rfl rfl rfl rfl rfl rfl (Nat.le_of_ble_eq_true rfl) rfl hG2 ?_
  show id_Fin _ _ _ _ 479 [(4, .int i), (6, .int b), (5, .int a), (3, .ref 65), (2, .ref 44), (1, .ref 1), (0, .ref 0)] [.int v2] (ia_wd A2 F2 B2) tg2 _ _
  refine id_Em 4 (pc2 := 23) (lv2 := [(4, .int (i + 6)), (6, .int b), (5, .int a), (3, .ref 65), (2, .ref 44), (1, .ref 1), (0, .ref 0)]) (st2 := []) (w2 := (ia_wd A2 F2 B2)) rfl ?_
  exact hg _ _ _ _ _ _ _ (Or.inr ⟨_, _, rfl⟩) hi2 hq2 (by omega) (by omega)
set_option maxRecDepth 1000000 in
set_option maxHeartbeats 40000000 in
theorem id_k11_0 {L : Nat} {xs : Nat → Int32} {i : Int32} {A : Nat → Nat → Int32} {F : Nat → Int32} {B : Nat → Int64} {tg : Bool} {k z : Nat} (h1 : iv_in (i + 1) L = true) (h2 : iv_in (i + 2) L = true) (h3 : iv_in (i + 3) L = true) (h4 : iv_in (i + 4) L = true) (h5 : iv_in (i + 5) L = true) (hi : ia_inv A F []) (hq : ∀ j, A 5 j = A 48 j) (hg : id_nx L xs i k z) : id_Fin L xs 20 0 483 [(4, .int i), (3, .ref 65), (2, .ref 44), (1, .ref 1), (0, .ref 0)] [] (ia_wd A F B) tg k z := by
  refine id_Em 5 (pc2 := 489) (lv2 := [(4, .int i), (3, .ref 65), (2, .ref 44), (1, .ref 1), (0, .ref 0)]) (st2 := [.int (i + 1), .ref 0, .ref 1]) (w2 := (ia_wd A F B)) rfl ?_
  refine id_Eif (c := iv_in (i + 1) L) (pc2 := 490) (lv2 := [(4, .int i), (3, .ref 65), (2, .ref 44), (1, .ref 1), (0, .ref 0)]) (st2 := [.int (xs (Int32.toNatClampNeg (i + 1))), .ref 1]) (w2 := (ia_wd A F B)) rfl h1 ?_
  refine id_Em 4 (pc2 := 495) (lv2 := [(4, .int i), (3, .ref 65), (2, .ref 44), (1, .ref 1), (0, .ref 0)]) (st2 := [.int (i + 2), .ref 0, .int (xs (Int32.toNatClampNeg (i + 1))), .ref 1]) (w2 := (ia_wd A F B)) rfl ?_
  refine id_Eif (c := iv_in (i + 2) L) (pc2 := 496) (lv2 := [(4, .int i), (3, .ref 65), (2, .ref 44), (1, .ref 1), (0, .ref 0)]) (st2 := [.int (xs (Int32.toNatClampNeg (i + 2))), .int (xs (Int32.toNatClampNeg (i + 1))), .ref 1]) (w2 := (ia_wd A F B)) rfl h2 ?_
  refine id_Em 4 (pc2 := 501) (lv2 := [(4, .int i), (3, .ref 65), (2, .ref 44), (1, .ref 1), (0, .ref 0)]) (st2 := [.int (i + 3), .ref 0, .int (xs (Int32.toNatClampNeg (i + 2))), .int (xs (Int32.toNatClampNeg (i + 1))), .ref 1]) (w2 := (ia_wd A F B)) rfl ?_
  refine id_Eif (c := iv_in (i + 3) L) (pc2 := 502) (lv2 := [(4, .int i), (3, .ref 65), (2, .ref 44), (1, .ref 1), (0, .ref 0)]) (st2 := [.int (xs (Int32.toNatClampNeg (i + 3))), .int (xs (Int32.toNatClampNeg (i + 2))), .int (xs (Int32.toNatClampNeg (i + 1))), .ref 1]) (w2 := (ia_wd A F B)) rfl h3 ?_
  obtain ⟨v1, A1, F1, B1, tg1, n1, hn1, hG1, hi1, hf1, -⟩ := id_hi (L := L) (xs := xs) (d := 19) (tg := tg) (B := B) (vals := [.ref 1, .int (xs (Int32.toNatClampNeg (i + 1))), .int (xs (Int32.toNatClampNeg (i + 2))), .int (xs (Int32.toNatClampNeg (i + 3)))]) ia_h974 rfl rfl (Nat.le_of_ble_eq_true rfl) (show ia_sk _ ia_m974.2.2.1 _ from ⟨List.mem_singleton.mpr rfl, id_top _, id_top _, id_top _, trivial⟩) hi
  have hq1 : ∀ j, A1 5 j = A1 48 j := fun j => by
    rw [id_fz (r := 5) hf1 rfl rfl j, id_fz (r := 48) hf1 rfl rfl j]
    exact hq j
  refine id_Ecall (ν := 13) (c := 4) (as := [.ref 1, .int (xs (Int32.toNatClampNeg (i + 1))), .int (xs (Int32.toNatClampNeg (i + 2))), .int (xs (Int32.toNatClampNeg (i + 3)))]) (rest := []) (w2 := (ia_wd A1 F1 B1)) (tg2 := tg1) (k2 := n1) (z2 := (6 * n1)) (v := (some (.int v1))) rfl rfl rfl rfl rfl rfl rfl (Nat.le_of_ble_eq_true rfl) rfl hG1 ?_
  show id_Fin _ _ _ _ 505 [(4, .int i), (3, .ref 65), (2, .ref 44), (1, .ref 1), (0, .ref 0)] [.int v1] (ia_wd A1 F1 B1) tg1 _ _
  refine id_Em 6 (pc2 := 512) (lv2 := [(4, .int i), (3, .ref 65), (2, .ref 44), (1, .ref 1), (0, .ref 0)]) (st2 := [.int (i + 1), .ref 0, .ref 44]) (w2 := (ia_wd A1 F1 B1)) rfl ?_
  refine id_Eif (c := iv_in (i + 1) L) (pc2 := 513) (lv2 := [(4, .int i), (3, .ref 65), (2, .ref 44), (1, .ref 1), (0, .ref 0)]) (st2 := [.int (xs (Int32.toNatClampNeg (i + 1))), .ref 44]) (w2 := (ia_wd A1 F1 B1)) rfl h1 ?_
  refine id_Em 4 (pc2 := 518) (lv2 := [(4, .int i), (3, .ref 65), (2, .ref 44), (1, .ref 1), (0, .ref 0)]) (st2 := [.int (i + 2), .ref 0, .int (xs (Int32.toNatClampNeg (i + 1))), .ref 44]) (w2 := (ia_wd A1 F1 B1)) rfl ?_
  refine id_Eif (c := iv_in (i + 2) L) (pc2 := 519) (lv2 := [(4, .int i), (3, .ref 65), (2, .ref 44), (1, .ref 1), (0, .ref 0)]) (st2 := [.int (xs (Int32.toNatClampNeg (i + 2))), .int (xs (Int32.toNatClampNeg (i + 1))), .ref 44]) (w2 := (ia_wd A1 F1 B1)) rfl h2 ?_
  refine id_Em 4 (pc2 := 524) (lv2 := [(4, .int i), (3, .ref 65), (2, .ref 44), (1, .ref 1), (0, .ref 0)]) (st2 := [.int (i + 3), .ref 0, .int (xs (Int32.toNatClampNeg (i + 2))), .int (xs (Int32.toNatClampNeg (i + 1))), .ref 44]) (w2 := (ia_wd A1 F1 B1)) rfl ?_
  refine id_Eif (c := iv_in (i + 3) L) (pc2 := 525) (lv2 := [(4, .int i), (3, .ref 65), (2, .ref 44), (1, .ref 1), (0, .ref 0)]) (st2 := [.int (xs (Int32.toNatClampNeg (i + 3))), .int (xs (Int32.toNatClampNeg (i + 2))), .int (xs (Int32.toNatClampNeg (i + 1))), .ref 44]) (w2 := (ia_wd A1 F1 B1)) rfl h3 ?_
  obtain ⟨v2, A2, F2, B2, tg2, n2, hn2, hG2, hi2, hf2, -⟩ := id_hi (L := L) (xs := xs) (d := 19) (tg := tg1) (B := B1) (vals := [.ref 44, .int (xs (Int32.toNatClampNeg (i + 1))), .int (xs (Int32.toNatClampNeg (i + 2))), .int (xs (Int32.toNatClampNeg (i + 3)))]) ia_h768 rfl rfl (Nat.le_of_ble_eq_true rfl) (show ia_sk _ ia_m768.2.2.1 _ from ⟨List.mem_singleton.mpr rfl, id_top _, id_top _, id_top _, trivial⟩) hi1
  have hq2 : ∀ j, A2 5 j = A2 48 j := fun j => by
    rw [id_fz (r := 5) hf2 rfl rfl j, id_fz (r := 48) hf2 rfl rfl j]
    exact hq1 j
  refine id_Ecall (ν := 178) (c := 4) (as := [.ref 44, .int (xs (Int32.toNatClampNeg (i + 1))), .int (xs (Int32.toNatClampNeg (i + 2))), .int (xs (Int32.toNatClampNeg (i + 3)))]) (rest := []) (w2 := (ia_wd A2 F2 B2)) (tg2 := tg2) (k2 := n2) (z2 := (6 * n2)) (v := (some (.int v2))) rfl rfl rfl rfl rfl rfl rfl (Nat.le_of_ble_eq_true rfl) rfl hG2 ?_
  show id_Fin _ _ _ _ 528 [(4, .int i), (3, .ref 65), (2, .ref 44), (1, .ref 1), (0, .ref 0)] [.int v2] (ia_wd A2 F2 B2) tg2 _ _
  refine id_Em 4 (pc2 := 23) (lv2 := [(4, .int (i + 6)), (3, .ref 65), (2, .ref 44), (1, .ref 1), (0, .ref 0)]) (st2 := []) (w2 := (ia_wd A2 F2 B2)) rfl ?_
  exact hg _ _ _ _ _ _ _ (Or.inl rfl) hi2 hq2 (by omega) (by omega)
set_option maxRecDepth 1000000 in
set_option maxHeartbeats 40000000 in
theorem id_k11_1 {L : Nat} {xs : Nat → Int32} {i a b : Int32} {A : Nat → Nat → Int32} {F : Nat → Int32} {B : Nat → Int64} {tg : Bool} {k z : Nat} (h1 : iv_in (i + 1) L = true) (h2 : iv_in (i + 2) L = true) (h3 : iv_in (i + 3) L = true) (h4 : iv_in (i + 4) L = true) (h5 : iv_in (i + 5) L = true) (hi : ia_inv A F []) (hq : ∀ j, A 5 j = A 48 j) (hg : id_nx L xs i k z) : id_Fin L xs 20 0 483 [(4, .int i), (6, .int b), (5, .int a), (3, .ref 65), (2, .ref 44), (1, .ref 1), (0, .ref 0)] [] (ia_wd A F B) tg k z := by
  refine id_Em 5 (pc2 := 489) (lv2 := [(4, .int i), (6, .int b), (5, .int a), (3, .ref 65), (2, .ref 44), (1, .ref 1), (0, .ref 0)]) (st2 := [.int (i + 1), .ref 0, .ref 1]) (w2 := (ia_wd A F B)) rfl ?_
  refine id_Eif (c := iv_in (i + 1) L) (pc2 := 490) (lv2 := [(4, .int i), (6, .int b), (5, .int a), (3, .ref 65), (2, .ref 44), (1, .ref 1), (0, .ref 0)]) (st2 := [.int (xs (Int32.toNatClampNeg (i + 1))), .ref 1]) (w2 := (ia_wd A F B)) rfl h1 ?_
  refine id_Em 4 (pc2 := 495) (lv2 := [(4, .int i), (6, .int b), (5, .int a), (3, .ref 65), (2, .ref 44), (1, .ref 1), (0, .ref 0)]) (st2 := [.int (i + 2), .ref 0, .int (xs (Int32.toNatClampNeg (i + 1))), .ref 1]) (w2 := (ia_wd A F B)) rfl ?_
  refine id_Eif (c := iv_in (i + 2) L) (pc2 := 496) (lv2 := [(4, .int i), (6, .int b), (5, .int a), (3, .ref 65), (2, .ref 44), (1, .ref 1), (0, .ref 0)]) (st2 := [.int (xs (Int32.toNatClampNeg (i + 2))), .int (xs (Int32.toNatClampNeg (i + 1))), .ref 1]) (w2 := (ia_wd A F B)) rfl h2 ?_
  refine id_Em 4 (pc2 := 501) (lv2 := [(4, .int i), (6, .int b), (5, .int a), (3, .ref 65), (2, .ref 44), (1, .ref 1), (0, .ref 0)]) (st2 := [.int (i + 3), .ref 0, .int (xs (Int32.toNatClampNeg (i + 2))), .int (xs (Int32.toNatClampNeg (i + 1))), .ref 1]) (w2 := (ia_wd A F B)) rfl ?_
  refine id_Eif (c := iv_in (i + 3) L) (pc2 := 502) (lv2 := [(4, .int i), (6, .int b), (5, .int a), (3, .ref 65), (2, .ref 44), (1, .ref 1), (0, .ref 0)]) (st2 := [.int (xs (Int32.toNatClampNeg (i + 3))), .int (xs (Int32.toNatClampNeg (i + 2))), .int (xs (Int32.toNatClampNeg (i + 1))), .ref 1]) (w2 := (ia_wd A F B)) rfl h3 ?_
  obtain ⟨v1, A1, F1, B1, tg1, n1, hn1, hG1, hi1, hf1, -⟩ := id_hi (L := L) (xs := xs) (d := 19) (tg := tg) (B := B) (vals := [.ref 1, .int (xs (Int32.toNatClampNeg (i + 1))), .int (xs (Int32.toNatClampNeg (i + 2))), .int (xs (Int32.toNatClampNeg (i + 3)))]) ia_h974 rfl rfl (Nat.le_of_ble_eq_true rfl) (show ia_sk _ ia_m974.2.2.1 _ from ⟨List.mem_singleton.mpr rfl, id_top _, id_top _, id_top _, trivial⟩) hi
  have hq1 : ∀ j, A1 5 j = A1 48 j := fun j => by
    rw [id_fz (r := 5) hf1 rfl rfl j, id_fz (r := 48) hf1 rfl rfl j]
    exact hq j
  refine id_Ecall (ν := 13) (c := 4) (as := [.ref 1, .int (xs (Int32.toNatClampNeg (i + 1))), .int (xs (Int32.toNatClampNeg (i + 2))), .int (xs (Int32.toNatClampNeg (i + 3)))]) (rest := []) (w2 := (ia_wd A1 F1 B1)) (tg2 := tg1) (k2 := n1) (z2 := (6 * n1)) (v := (some (.int v1))) rfl rfl rfl rfl rfl rfl rfl (Nat.le_of_ble_eq_true rfl) rfl hG1 ?_
  show id_Fin _ _ _ _ 505 [(4, .int i), (6, .int b), (5, .int a), (3, .ref 65), (2, .ref 44), (1, .ref 1), (0, .ref 0)] [.int v1] (ia_wd A1 F1 B1) tg1 _ _
  refine id_Em 6 (pc2 := 512) (lv2 := [(4, .int i), (6, .int b), (5, .int a), (3, .ref 65), (2, .ref 44), (1, .ref 1), (0, .ref 0)]) (st2 := [.int (i + 1), .ref 0, .ref 44]) (w2 := (ia_wd A1 F1 B1)) rfl ?_
  refine id_Eif (c := iv_in (i + 1) L) (pc2 := 513) (lv2 := [(4, .int i), (6, .int b), (5, .int a), (3, .ref 65), (2, .ref 44), (1, .ref 1), (0, .ref 0)]) (st2 := [.int (xs (Int32.toNatClampNeg (i + 1))), .ref 44]) (w2 := (ia_wd A1 F1 B1)) rfl h1 ?_
  refine id_Em 4 (pc2 := 518) (lv2 := [(4, .int i), (6, .int b), (5, .int a), (3, .ref 65), (2, .ref 44), (1, .ref 1), (0, .ref 0)]) (st2 := [.int (i + 2), .ref 0, .int (xs (Int32.toNatClampNeg (i + 1))), .ref 44]) (w2 := (ia_wd A1 F1 B1)) rfl ?_
  refine id_Eif (c := iv_in (i + 2) L) (pc2 := 519) (lv2 := [(4, .int i), (6, .int b), (5, .int a), (3, .ref 65), (2, .ref 44), (1, .ref 1), (0, .ref 0)]) (st2 := [.int (xs (Int32.toNatClampNeg (i + 2))), .int (xs (Int32.toNatClampNeg (i + 1))), .ref 44]) (w2 := (ia_wd A1 F1 B1)) rfl h2 ?_
  refine id_Em 4 (pc2 := 524) (lv2 := [(4, .int i), (6, .int b), (5, .int a), (3, .ref 65), (2, .ref 44), (1, .ref 1), (0, .ref 0)]) (st2 := [.int (i + 3), .ref 0, .int (xs (Int32.toNatClampNeg (i + 2))), .int (xs (Int32.toNatClampNeg (i + 1))), .ref 44]) (w2 := (ia_wd A1 F1 B1)) rfl ?_
  refine id_Eif (c := iv_in (i + 3) L) (pc2 := 525) (lv2 := [(4, .int i), (6, .int b), (5, .int a), (3, .ref 65), (2, .ref 44), (1, .ref 1), (0, .ref 0)]) (st2 := [.int (xs (Int32.toNatClampNeg (i + 3))), .int (xs (Int32.toNatClampNeg (i + 2))), .int (xs (Int32.toNatClampNeg (i + 1))), .ref 44]) (w2 := (ia_wd A1 F1 B1)) rfl h3 ?_
  obtain ⟨v2, A2, F2, B2, tg2, n2, hn2, hG2, hi2, hf2, -⟩ := id_hi (L := L) (xs := xs) (d := 19) (tg := tg1) (B := B1) (vals := [.ref 44, .int (xs (Int32.toNatClampNeg (i + 1))), .int (xs (Int32.toNatClampNeg (i + 2))), .int (xs (Int32.toNatClampNeg (i + 3)))]) ia_h768 rfl rfl (Nat.le_of_ble_eq_true rfl) (show ia_sk _ ia_m768.2.2.1 _ from ⟨List.mem_singleton.mpr rfl, id_top _, id_top _, id_top _, trivial⟩) hi1
  have hq2 : ∀ j, A2 5 j = A2 48 j := fun j => by
    rw [id_fz (r := 5) hf2 rfl rfl j, id_fz (r := 48) hf2 rfl rfl j]
    exact hq1 j
  refine id_Ecall (ν := 178) (c := 4) (as := [.ref 44, .int (xs (Int32.toNatClampNeg (i + 1))), .int (xs (Int32.toNatClampNeg (i + 2))), .int (xs (Int32.toNatClampNeg (i + 3)))]) (rest := []) (w2 := (ia_wd A2 F2 B2)) (tg2 := tg2) (k2 := n2) (z2 := (6 * n2)) (v := (some (.int v2))) rfl rfl rfl rfl rfl rfl rfl (Nat.le_of_ble_eq_true rfl) rfl hG2 ?_
  show id_Fin _ _ _ _ 528 [(4, .int i), (6, .int b), (5, .int a), (3, .ref 65), (2, .ref 44), (1, .ref 1), (0, .ref 0)] [.int v2] (ia_wd A2 F2 B2) tg2 _ _
  refine id_Em 4 (pc2 := 23) (lv2 := [(4, .int (i + 6)), (6, .int b), (5, .int a), (3, .ref 65), (2, .ref 44), (1, .ref 1), (0, .ref 0)]) (st2 := []) (w2 := (ia_wd A2 F2 B2)) rfl ?_
  exact hg _ _ _ _ _ _ _ (Or.inr ⟨_, _, rfl⟩) hi2 hq2 (by omega) (by omega)
set_option maxRecDepth 1000000 in
set_option maxHeartbeats 40000000 in
theorem id_k12_0 {L : Nat} {xs : Nat → Int32} {i : Int32} {A : Nat → Nat → Int32} {F : Nat → Int32} {B : Nat → Int64} {tg : Bool} {k z : Nat} (h1 : iv_in (i + 1) L = true) (h2 : iv_in (i + 2) L = true) (h3 : iv_in (i + 3) L = true) (h4 : iv_in (i + 4) L = true) (h5 : iv_in (i + 5) L = true) (hi : ia_inv A F []) (hq : ∀ j, A 5 j = A 48 j) (hg : id_nx L xs i k z) : id_Fin L xs 20 0 532 [(4, .int i), (3, .ref 65), (2, .ref 44), (1, .ref 1), (0, .ref 0)] [] (ia_wd A F B) tg k z := by
  refine id_Em 5 (pc2 := 538) (lv2 := [(4, .int i), (3, .ref 65), (2, .ref 44), (1, .ref 1), (0, .ref 0)]) (st2 := [.int (i + 1), .ref 0, .ref 1]) (w2 := (ia_wd A F B)) rfl ?_
  refine id_Eif (c := iv_in (i + 1) L) (pc2 := 539) (lv2 := [(4, .int i), (3, .ref 65), (2, .ref 44), (1, .ref 1), (0, .ref 0)]) (st2 := [.int (xs (Int32.toNatClampNeg (i + 1))), .ref 1]) (w2 := (ia_wd A F B)) rfl h1 ?_
  refine id_Em 4 (pc2 := 544) (lv2 := [(4, .int i), (3, .ref 65), (2, .ref 44), (1, .ref 1), (0, .ref 0)]) (st2 := [.int (i + 2), .ref 0, .int (xs (Int32.toNatClampNeg (i + 1))), .ref 1]) (w2 := (ia_wd A F B)) rfl ?_
  refine id_Eif (c := iv_in (i + 2) L) (pc2 := 545) (lv2 := [(4, .int i), (3, .ref 65), (2, .ref 44), (1, .ref 1), (0, .ref 0)]) (st2 := [.int (xs (Int32.toNatClampNeg (i + 2))), .int (xs (Int32.toNatClampNeg (i + 1))), .ref 1]) (w2 := (ia_wd A F B)) rfl h2 ?_
  obtain ⟨v1, A1, F1, B1, tg1, n1, hn1, hG1, hi1, hf1, -⟩ := id_hi (L := L) (xs := xs) (d := 19) (tg := tg) (B := B) (vals := [.ref 1, .int (xs (Int32.toNatClampNeg (i + 1))), .int (xs (Int32.toNatClampNeg (i + 2)))]) ia_h1063 rfl rfl (Nat.le_of_ble_eq_true rfl) (show ia_sk _ ia_m1063.2.2.1 _ from ⟨List.mem_singleton.mpr rfl, id_top _, id_top _, trivial⟩) hi
  have hq1 : ∀ j, A1 5 j = A1 48 j := fun j => by
    rw [id_fz (r := 5) hf1 rfl rfl j, id_fz (r := 48) hf1 rfl rfl j]
    exact hq j
  refine id_Ecall (ν := 14) (c := 3) (as := [.ref 1, .int (xs (Int32.toNatClampNeg (i + 1))), .int (xs (Int32.toNatClampNeg (i + 2)))]) (rest := []) (w2 := (ia_wd A1 F1 B1)) (tg2 := tg1) (k2 := n1) (z2 := (6 * n1)) (v := (some (.int v1))) rfl rfl rfl rfl rfl rfl rfl (Nat.le_of_ble_eq_true rfl) rfl hG1 ?_
  show id_Fin _ _ _ _ 548 [(4, .int i), (3, .ref 65), (2, .ref 44), (1, .ref 1), (0, .ref 0)] [.int v1] (ia_wd A1 F1 B1) tg1 _ _
  refine id_Em 6 (pc2 := 555) (lv2 := [(4, .int i), (3, .ref 65), (2, .ref 44), (1, .ref 1), (0, .ref 0)]) (st2 := [.int (i + 1), .ref 0, .ref 44]) (w2 := (ia_wd A1 F1 B1)) rfl ?_
  refine id_Eif (c := iv_in (i + 1) L) (pc2 := 556) (lv2 := [(4, .int i), (3, .ref 65), (2, .ref 44), (1, .ref 1), (0, .ref 0)]) (st2 := [.int (xs (Int32.toNatClampNeg (i + 1))), .ref 44]) (w2 := (ia_wd A1 F1 B1)) rfl h1 ?_
  refine id_Em 4 (pc2 := 561) (lv2 := [(4, .int i), (3, .ref 65), (2, .ref 44), (1, .ref 1), (0, .ref 0)]) (st2 := [.int (i + 2), .ref 0, .int (xs (Int32.toNatClampNeg (i + 1))), .ref 44]) (w2 := (ia_wd A1 F1 B1)) rfl ?_
  refine id_Eif (c := iv_in (i + 2) L) (pc2 := 562) (lv2 := [(4, .int i), (3, .ref 65), (2, .ref 44), (1, .ref 1), (0, .ref 0)]) (st2 := [.int (xs (Int32.toNatClampNeg (i + 2))), .int (xs (Int32.toNatClampNeg (i + 1))), .ref 44]) (w2 := (ia_wd A1 F1 B1)) rfl h2 ?_
  obtain ⟨v2, A2, F2, B2, tg2, n2, hn2, hG2, hi2, hf2, -⟩ := id_hi (L := L) (xs := xs) (d := 19) (tg := tg1) (B := B1) (vals := [.ref 44, .int (xs (Int32.toNatClampNeg (i + 1))), .int (xs (Int32.toNatClampNeg (i + 2)))]) ia_h769 rfl rfl (Nat.le_of_ble_eq_true rfl) (show ia_sk _ ia_m769.2.2.1 _ from ⟨List.mem_singleton.mpr rfl, id_top _, id_top _, trivial⟩) hi1
  have hq2 : ∀ j, A2 5 j = A2 48 j := fun j => by
    rw [id_fz (r := 5) hf2 rfl rfl j, id_fz (r := 48) hf2 rfl rfl j]
    exact hq1 j
  refine id_Ecall (ν := 180) (c := 3) (as := [.ref 44, .int (xs (Int32.toNatClampNeg (i + 1))), .int (xs (Int32.toNatClampNeg (i + 2)))]) (rest := []) (w2 := (ia_wd A2 F2 B2)) (tg2 := tg2) (k2 := n2) (z2 := (6 * n2)) (v := (some (.int v2))) rfl rfl rfl rfl rfl rfl rfl (Nat.le_of_ble_eq_true rfl) rfl hG2 ?_
  show id_Fin _ _ _ _ 565 [(4, .int i), (3, .ref 65), (2, .ref 44), (1, .ref 1), (0, .ref 0)] [.int v2] (ia_wd A2 F2 B2) tg2 _ _
  refine id_Em 4 (pc2 := 23) (lv2 := [(4, .int (i + 6)), (3, .ref 65), (2, .ref 44), (1, .ref 1), (0, .ref 0)]) (st2 := []) (w2 := (ia_wd A2 F2 B2)) rfl ?_
  exact hg _ _ _ _ _ _ _ (Or.inl rfl) hi2 hq2 (by omega) (by omega)
set_option maxRecDepth 1000000 in
set_option maxHeartbeats 40000000 in
theorem id_k12_1 {L : Nat} {xs : Nat → Int32} {i a b : Int32} {A : Nat → Nat → Int32} {F : Nat → Int32} {B : Nat → Int64} {tg : Bool} {k z : Nat} (h1 : iv_in (i + 1) L = true) (h2 : iv_in (i + 2) L = true) (h3 : iv_in (i + 3) L = true) (h4 : iv_in (i + 4) L = true) (h5 : iv_in (i + 5) L = true) (hi : ia_inv A F []) (hq : ∀ j, A 5 j = A 48 j) (hg : id_nx L xs i k z) : id_Fin L xs 20 0 532 [(4, .int i), (6, .int b), (5, .int a), (3, .ref 65), (2, .ref 44), (1, .ref 1), (0, .ref 0)] [] (ia_wd A F B) tg k z := by
  refine id_Em 5 (pc2 := 538) (lv2 := [(4, .int i), (6, .int b), (5, .int a), (3, .ref 65), (2, .ref 44), (1, .ref 1), (0, .ref 0)]) (st2 := [.int (i + 1), .ref 0, .ref 1]) (w2 := (ia_wd A F B)) rfl ?_
  refine id_Eif (c := iv_in (i + 1) L) (pc2 := 539) (lv2 := [(4, .int i), (6, .int b), (5, .int a), (3, .ref 65), (2, .ref 44), (1, .ref 1), (0, .ref 0)]) (st2 := [.int (xs (Int32.toNatClampNeg (i + 1))), .ref 1]) (w2 := (ia_wd A F B)) rfl h1 ?_
  refine id_Em 4 (pc2 := 544) (lv2 := [(4, .int i), (6, .int b), (5, .int a), (3, .ref 65), (2, .ref 44), (1, .ref 1), (0, .ref 0)]) (st2 := [.int (i + 2), .ref 0, .int (xs (Int32.toNatClampNeg (i + 1))), .ref 1]) (w2 := (ia_wd A F B)) rfl ?_
  refine id_Eif (c := iv_in (i + 2) L) (pc2 := 545) (lv2 := [(4, .int i), (6, .int b), (5, .int a), (3, .ref 65), (2, .ref 44), (1, .ref 1), (0, .ref 0)]) (st2 := [.int (xs (Int32.toNatClampNeg (i + 2))), .int (xs (Int32.toNatClampNeg (i + 1))), .ref 1]) (w2 := (ia_wd A F B)) rfl h2 ?_
  obtain ⟨v1, A1, F1, B1, tg1, n1, hn1, hG1, hi1, hf1, -⟩ := id_hi (L := L) (xs := xs) (d := 19) (tg := tg) (B := B) (vals := [.ref 1, .int (xs (Int32.toNatClampNeg (i + 1))), .int (xs (Int32.toNatClampNeg (i + 2)))]) ia_h1063 rfl rfl (Nat.le_of_ble_eq_true rfl) (show ia_sk _ ia_m1063.2.2.1 _ from ⟨List.mem_singleton.mpr rfl, id_top _, id_top _, trivial⟩) hi
  have hq1 : ∀ j, A1 5 j = A1 48 j := fun j => by
    rw [id_fz (r := 5) hf1 rfl rfl j, id_fz (r := 48) hf1 rfl rfl j]
    exact hq j
  refine id_Ecall (ν := 14) (c := 3) (as := [.ref 1, .int (xs (Int32.toNatClampNeg (i + 1))), .int (xs (Int32.toNatClampNeg (i + 2)))]) (rest := []) (w2 := (ia_wd A1 F1 B1)) (tg2 := tg1) (k2 := n1) (z2 := (6 * n1)) (v := (some (.int v1))) rfl rfl rfl rfl rfl rfl rfl (Nat.le_of_ble_eq_true rfl) rfl hG1 ?_
  show id_Fin _ _ _ _ 548 [(4, .int i), (6, .int b), (5, .int a), (3, .ref 65), (2, .ref 44), (1, .ref 1), (0, .ref 0)] [.int v1] (ia_wd A1 F1 B1) tg1 _ _
  refine id_Em 6 (pc2 := 555) (lv2 := [(4, .int i), (6, .int b), (5, .int a), (3, .ref 65), (2, .ref 44), (1, .ref 1), (0, .ref 0)]) (st2 := [.int (i + 1), .ref 0, .ref 44]) (w2 := (ia_wd A1 F1 B1)) rfl ?_
  refine id_Eif (c := iv_in (i + 1) L) (pc2 := 556) (lv2 := [(4, .int i), (6, .int b), (5, .int a), (3, .ref 65), (2, .ref 44), (1, .ref 1), (0, .ref 0)]) (st2 := [.int (xs (Int32.toNatClampNeg (i + 1))), .ref 44]) (w2 := (ia_wd A1 F1 B1)) rfl h1 ?_
  refine id_Em 4 (pc2 := 561) (lv2 := [(4, .int i), (6, .int b), (5, .int a), (3, .ref 65), (2, .ref 44), (1, .ref 1), (0, .ref 0)]) (st2 := [.int (i + 2), .ref 0, .int (xs (Int32.toNatClampNeg (i + 1))), .ref 44]) (w2 := (ia_wd A1 F1 B1)) rfl ?_
  refine id_Eif (c := iv_in (i + 2) L) (pc2 := 562) (lv2 := [(4, .int i), (6, .int b), (5, .int a), (3, .ref 65), (2, .ref 44), (1, .ref 1), (0, .ref 0)]) (st2 := [.int (xs (Int32.toNatClampNeg (i + 2))), .int (xs (Int32.toNatClampNeg (i + 1))), .ref 44]) (w2 := (ia_wd A1 F1 B1)) rfl h2 ?_
  obtain ⟨v2, A2, F2, B2, tg2, n2, hn2, hG2, hi2, hf2, -⟩ := id_hi (L := L) (xs := xs) (d := 19) (tg := tg1) (B := B1) (vals := [.ref 44, .int (xs (Int32.toNatClampNeg (i + 1))), .int (xs (Int32.toNatClampNeg (i + 2)))]) ia_h769 rfl rfl (Nat.le_of_ble_eq_true rfl) (show ia_sk _ ia_m769.2.2.1 _ from ⟨List.mem_singleton.mpr rfl, id_top _, id_top _, trivial⟩) hi1
  have hq2 : ∀ j, A2 5 j = A2 48 j := fun j => by
    rw [id_fz (r := 5) hf2 rfl rfl j, id_fz (r := 48) hf2 rfl rfl j]
    exact hq1 j
  refine id_Ecall (ν := 180) (c := 3) (as := [.ref 44, .int (xs (Int32.toNatClampNeg (i + 1))), .int (xs (Int32.toNatClampNeg (i + 2)))]) (rest := []) (w2 := (ia_wd A2 F2 B2)) (tg2 := tg2) (k2 := n2) (z2 := (6 * n2)) (v := (some (.int v2))) rfl rfl rfl rfl rfl rfl rfl (Nat.le_of_ble_eq_true rfl) rfl hG2 ?_
  show id_Fin _ _ _ _ 565 [(4, .int i), (6, .int b), (5, .int a), (3, .ref 65), (2, .ref 44), (1, .ref 1), (0, .ref 0)] [.int v2] (ia_wd A2 F2 B2) tg2 _ _
  refine id_Em 4 (pc2 := 23) (lv2 := [(4, .int (i + 6)), (6, .int b), (5, .int a), (3, .ref 65), (2, .ref 44), (1, .ref 1), (0, .ref 0)]) (st2 := []) (w2 := (ia_wd A2 F2 B2)) rfl ?_
  exact hg _ _ _ _ _ _ _ (Or.inr ⟨_, _, rfl⟩) hi2 hq2 (by omega) (by omega)
set_option maxRecDepth 1000000 in
set_option maxHeartbeats 40000000 in
theorem id_k13_0 {L : Nat} {xs : Nat → Int32} {i : Int32} {A : Nat → Nat → Int32} {F : Nat → Int32} {B : Nat → Int64} {tg : Bool} {k z : Nat} (h1 : iv_in (i + 1) L = true) (h2 : iv_in (i + 2) L = true) (h3 : iv_in (i + 3) L = true) (h4 : iv_in (i + 4) L = true) (h5 : iv_in (i + 5) L = true) (hi : ia_inv A F []) (hq : ∀ j, A 5 j = A 48 j) (hg : id_nx L xs i k z) : id_Fin L xs 20 0 569 [(4, .int i), (3, .ref 65), (2, .ref 44), (1, .ref 1), (0, .ref 0)] [] (ia_wd A F B) tg k z := by
  refine id_Em 2 (pc2 := 571) (lv2 := [(4, .int i), (3, .ref 65), (2, .ref 44), (1, .ref 1), (0, .ref 0)]) (st2 := [.ref 65, .ref 1]) (w2 := (ia_wd A F B)) rfl ?_
  obtain ⟨v1, A1, F1, B1, tg1, n1, hn1, hG1, hi1, hf1, -⟩ := id_hi (L := L) (xs := xs) (d := 19) (tg := tg) (B := B) (vals := [.ref 1, .ref 65]) ia_h1322 rfl rfl (Nat.le_of_ble_eq_true rfl) (show ia_sk _ ia_m1322.2.2.1 _ from ⟨List.mem_singleton.mpr rfl, List.mem_singleton.mpr rfl, trivial⟩) hi
  have hq1 : ∀ j, A1 5 j = A1 48 j := fun j => by
    rw [id_fz (r := 5) hf1 rfl rfl j, id_fz (r := 48) hf1 rfl rfl j]
    exact hq j
  refine id_Ecall (ν := 192) (c := 2) (as := [.ref 1, .ref 65]) (rest := []) (w2 := (ia_wd A1 F1 B1)) (tg2 := tg1) (k2 := n1) (z2 := (6 * n1)) (v := (some (.int v1))) rfl rfl rfl rfl rfl rfl rfl (Nat.le_of_ble_eq_true rfl) rfl hG1 ?_
  show id_Fin _ _ _ _ 574 [(4, .int i), (3, .ref 65), (2, .ref 44), (1, .ref 1), (0, .ref 0)] [.int v1] (ia_wd A1 F1 B1) tg1 _ _
  refine id_Em 2 (pc2 := 577) (lv2 := [(5, .int v1), (4, .int i), (3, .ref 65), (2, .ref 44), (1, .ref 1), (0, .ref 0)]) (st2 := [.ref 44]) (w2 := (ia_wd A1 F1 B1)) rfl ?_
  obtain ⟨v2, A2, F2, B2, tg2, n2, hn2, hG2, hi2, hf2, -⟩ := id_hi (L := L) (xs := xs) (d := 19) (tg := tg1) (B := B1) (vals := [.ref 44]) ia_h1249 rfl rfl (Nat.le_of_ble_eq_true rfl) (show ia_sk _ ia_m1249.2.2.1 _ from ⟨List.mem_singleton.mpr rfl, trivial⟩) hi1
  have hq2 : ∀ j, A2 5 j = A2 48 j := fun j => by
    rw [id_fz (r := 5) hf2 rfl rfl j, id_fz (r := 48) hf2 rfl rfl j]
    exact hq1 j
  refine id_Ecall (ν := 185) (c := 1) (as := [.ref 44]) (rest := []) (w2 := (ia_wd A2 F2 B2)) (tg2 := tg2) (k2 := n2) (z2 := (6 * n2)) (v := (some (.int v2))) rfl rfl rfl rfl rfl rfl rfl (Nat.le_of_ble_eq_true rfl) rfl hG2 ?_
  show id_Fin _ _ _ _ 580 [(5, .int v1), (4, .int i), (3, .ref 65), (2, .ref 44), (1, .ref 1), (0, .ref 0)] [.int v2] (ia_wd A2 F2 B2) tg2 _ _
  refine id_Em 4 (pc2 := 23) (lv2 := [(4, .int (i + 6)), (6, .int v2), (5, .int v1), (3, .ref 65), (2, .ref 44), (1, .ref 1), (0, .ref 0)]) (st2 := []) (w2 := (ia_wd A2 F2 B2)) rfl ?_
  exact hg _ _ _ _ _ _ _ (Or.inr ⟨_, _, rfl⟩) hi2 hq2 (by omega) (by omega)
set_option maxRecDepth 1000000 in
set_option maxHeartbeats 40000000 in
theorem id_k13_1 {L : Nat} {xs : Nat → Int32} {i a b : Int32} {A : Nat → Nat → Int32} {F : Nat → Int32} {B : Nat → Int64} {tg : Bool} {k z : Nat} (h1 : iv_in (i + 1) L = true) (h2 : iv_in (i + 2) L = true) (h3 : iv_in (i + 3) L = true) (h4 : iv_in (i + 4) L = true) (h5 : iv_in (i + 5) L = true) (hi : ia_inv A F []) (hq : ∀ j, A 5 j = A 48 j) (hg : id_nx L xs i k z) : id_Fin L xs 20 0 569 [(4, .int i), (6, .int b), (5, .int a), (3, .ref 65), (2, .ref 44), (1, .ref 1), (0, .ref 0)] [] (ia_wd A F B) tg k z := by
  refine id_Em 2 (pc2 := 571) (lv2 := [(4, .int i), (6, .int b), (5, .int a), (3, .ref 65), (2, .ref 44), (1, .ref 1), (0, .ref 0)]) (st2 := [.ref 65, .ref 1]) (w2 := (ia_wd A F B)) rfl ?_
  obtain ⟨v1, A1, F1, B1, tg1, n1, hn1, hG1, hi1, hf1, -⟩ := id_hi (L := L) (xs := xs) (d := 19) (tg := tg) (B := B) (vals := [.ref 1, .ref 65]) ia_h1322 rfl rfl (Nat.le_of_ble_eq_true rfl) (show ia_sk _ ia_m1322.2.2.1 _ from ⟨List.mem_singleton.mpr rfl, List.mem_singleton.mpr rfl, trivial⟩) hi
  have hq1 : ∀ j, A1 5 j = A1 48 j := fun j => by
    rw [id_fz (r := 5) hf1 rfl rfl j, id_fz (r := 48) hf1 rfl rfl j]
    exact hq j
  refine id_Ecall (ν := 192) (c := 2) (as := [.ref 1, .ref 65]) (rest := []) (w2 := (ia_wd A1 F1 B1)) (tg2 := tg1) (k2 := n1) (z2 := (6 * n1)) (v := (some (.int v1))) rfl rfl rfl rfl rfl rfl rfl (Nat.le_of_ble_eq_true rfl) rfl hG1 ?_
  show id_Fin _ _ _ _ 574 [(4, .int i), (6, .int b), (5, .int a), (3, .ref 65), (2, .ref 44), (1, .ref 1), (0, .ref 0)] [.int v1] (ia_wd A1 F1 B1) tg1 _ _
  refine id_Em 2 (pc2 := 577) (lv2 := [(5, .int v1), (4, .int i), (6, .int b), (3, .ref 65), (2, .ref 44), (1, .ref 1), (0, .ref 0)]) (st2 := [.ref 44]) (w2 := (ia_wd A1 F1 B1)) rfl ?_
  obtain ⟨v2, A2, F2, B2, tg2, n2, hn2, hG2, hi2, hf2, -⟩ := id_hi (L := L) (xs := xs) (d := 19) (tg := tg1) (B := B1) (vals := [.ref 44]) ia_h1249 rfl rfl (Nat.le_of_ble_eq_true rfl) (show ia_sk _ ia_m1249.2.2.1 _ from ⟨List.mem_singleton.mpr rfl, trivial⟩) hi1
  have hq2 : ∀ j, A2 5 j = A2 48 j := fun j => by
    rw [id_fz (r := 5) hf2 rfl rfl j, id_fz (r := 48) hf2 rfl rfl j]
    exact hq1 j
  refine id_Ecall (ν := 185) (c := 1) (as := [.ref 44]) (rest := []) (w2 := (ia_wd A2 F2 B2)) (tg2 := tg2) (k2 := n2) (z2 := (6 * n2)) (v := (some (.int v2))) rfl rfl rfl rfl rfl rfl rfl (Nat.le_of_ble_eq_true rfl) rfl hG2 ?_
  show id_Fin _ _ _ _ 580 [(5, .int v1), (4, .int i), (6, .int b), (3, .ref 65), (2, .ref 44), (1, .ref 1), (0, .ref 0)] [.int v2] (ia_wd A2 F2 B2) tg2 _ _
  refine id_Em 4 (pc2 := 23) (lv2 := [(4, .int (i + 6)), (6, .int v2), (5, .int v1), (3, .ref 65), (2, .ref 44), (1, .ref 1), (0, .ref 0)]) (st2 := []) (w2 := (ia_wd A2 F2 B2)) rfl ?_
  exact hg _ _ _ _ _ _ _ (Or.inr ⟨_, _, rfl⟩) hi2 hq2 (by omega) (by omega)
set_option maxRecDepth 1000000 in
set_option maxHeartbeats 40000000 in
theorem id_k14_0 {L : Nat} {xs : Nat → Int32} {i : Int32} {A : Nat → Nat → Int32} {F : Nat → Int32} {B : Nat → Int64} {tg : Bool} {k z : Nat} (h1 : iv_in (i + 1) L = true) (h2 : iv_in (i + 2) L = true) (h3 : iv_in (i + 3) L = true) (h4 : iv_in (i + 4) L = true) (h5 : iv_in (i + 5) L = true) (hi : ia_inv A F []) (hq : ∀ j, A 5 j = A 48 j) (hg : id_nx L xs i k z) : id_Fin L xs 20 0 585 [(4, .int i), (3, .ref 65), (2, .ref 44), (1, .ref 1), (0, .ref 0)] [] (ia_wd A F B) tg k z := by
  refine id_Em 2 (pc2 := 23) (lv2 := [(4, .int (i + 6)), (3, .ref 65), (2, .ref 44), (1, .ref 1), (0, .ref 0)]) (st2 := []) (w2 := (ia_wd A F B)) rfl ?_
  exact hg _ _ _ _ _ _ _ (Or.inl rfl) hi hq (by omega) (by omega)
set_option maxRecDepth 1000000 in
set_option maxHeartbeats 40000000 in
theorem id_k14_1 {L : Nat} {xs : Nat → Int32} {i a b : Int32} {A : Nat → Nat → Int32} {F : Nat → Int32} {B : Nat → Int64} {tg : Bool} {k z : Nat} (h1 : iv_in (i + 1) L = true) (h2 : iv_in (i + 2) L = true) (h3 : iv_in (i + 3) L = true) (h4 : iv_in (i + 4) L = true) (h5 : iv_in (i + 5) L = true) (hi : ia_inv A F []) (hq : ∀ j, A 5 j = A 48 j) (hg : id_nx L xs i k z) : id_Fin L xs 20 0 585 [(4, .int i), (6, .int b), (5, .int a), (3, .ref 65), (2, .ref 44), (1, .ref 1), (0, .ref 0)] [] (ia_wd A F B) tg k z := by
  refine id_Em 2 (pc2 := 23) (lv2 := [(4, .int (i + 6)), (6, .int b), (5, .int a), (3, .ref 65), (2, .ref 44), (1, .ref 1), (0, .ref 0)]) (st2 := []) (w2 := (ia_wd A F B)) rfl ?_
  exact hg _ _ _ _ _ _ _ (Or.inr ⟨_, _, rfl⟩) hi hq (by omega) (by omega)
