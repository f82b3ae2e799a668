section
variable {L : Nat} {xs : Nat → Int32} {d : Nat} {s s2 : Int32} {o : iv_O} {A : Nat → Nat → Int32} {F : Nat → Int32} {B : Nat → Int64}
set_option maxRecDepth 1000000 in
set_option maxHeartbeats 40000000 in
theorem iv_fu1 (hs2 : s + 1 = s2) (hs : s < 32) (i1 : iv_in s 32 = true) (i2 : iv_in (0 + s) 64 = true) (hu : (A 30 (Int32.toNatClampNeg s)) = 0) (hz : (A 4 (Int32.toNatClampNeg (0 + s))) = 0) (hg : iv_G L xs (d + 1) 110 2 [(1, .int s2), (0, .ref 29)] [] (iv_wd A (iv_uF iv_Fz 3401 2) iv_Bz) true 0 0 o) : iv_G L xs (d + 1) 110 2 [(1, .int s), (0, .ref 29)] [] (iv_wd A (iv_uF iv_Fz 3401 2) iv_Bz) true 0 0 o := by
  subst hs2
  have hb : ¬ (A 4 (Int32.toNatClampNeg (0 + s))) = 254 := by rw [hz]; decide
  have e : iv_uA A 4 (Int32.toNatClampNeg (0 + s)) 0 = A := iv_uA_id hz
  refine iv_Gm 2 (pc2 := 5) (lv2 := [(1, .int s), (0, .ref 29)]) (st2 := [.int 32, .int s]) (w2 := (iv_wd A (iv_uF iv_Fz 3401 2) iv_Bz)) rfl ?_
  refine iv_Gbf (c := decide (32 ≤ s)) (p1 := 46) (p2 := 8) (lv2 := [(1, .int s), (0, .ref 29)]) (st2 := []) (w2 := (iv_wd A (iv_uF iv_Fz 3401 2) iv_Bz)) rfl (decide_eq_false (Int32.not_le.mpr hs)) ?_
  refine iv_Gm 3 (pc2 := 13) (lv2 := [(1, .int s), (0, .ref 29)]) (st2 := [.int s, .ref 30]) (w2 := (iv_wd A (iv_uF iv_Fz 3401 2) iv_Bz)) rfl ?_
  refine iv_Gif (pc2 := 14) (lv2 := [(1, .int s), (0, .ref 29)]) (st2 := [.int (A 30 (Int32.toNatClampNeg s))]) (w2 := (iv_wd A (iv_uF iv_Fz 3401 2) iv_Bz)) rfl i1 ?_
  refine iv_Gbf (c := decide (¬ (A 30 (Int32.toNatClampNeg s)) = 0)) (p1 := 40) (p2 := 17) (lv2 := [(1, .int s), (0, .ref 29)]) (st2 := []) (w2 := (iv_wd A (iv_uF iv_Fz 3401 2) iv_Bz)) rfl (decide_eq_false (fun q => q hu)) ?_
  refine iv_Gm 3 (pc2 := 22) (lv2 := [(1, .int s), (0, .ref 29)]) (st2 := [.int s, .ref 2]) (w2 := (iv_wd A (iv_uF iv_Fz 3401 2) iv_Bz)) rfl ?_
  refine iv_Gcall (ν := 66) (c := 2) (as := [.ref 2, .int s]) (rest := []) (w2 := (iv_wd A (iv_uF iv_Fz 3401 2) iv_Bz)) (tg2 := true) (k2 := 0) (z2 := 0) (v := (some (.int (A 4 (Int32.toNatClampNeg (0 + s)))))) rfl rfl rfl rfl rfl rfl rfl (Nat.le_of_ble_eq_true rfl) rfl ?_ ?_
  · refine iv_Gm 8 (pc2 := 13) (lv2 := [(0, .ref 2), (1, .int s)]) (st2 := [.int (0 + s), .ref 4]) (w2 := (iv_wd A (iv_uF iv_Fz 3401 2) iv_Bz)) rfl ?_
    refine iv_Gif (pc2 := 14) (lv2 := [(0, .ref 2), (1, .int s)]) (st2 := [.int (A 4 (Int32.toNatClampNeg (0 + s)))]) (w2 := (iv_wd A (iv_uF iv_Fz 3401 2) iv_Bz)) rfl i2 ?_
    exact iv_Gret rfl rfl rfl
  show iv_G _ _ _ _ 25 [(1, .int s), (0, .ref 29)] [.int (A 4 (Int32.toNatClampNeg (0 + s)))] (iv_wd A (iv_uF iv_Fz 3401 2) iv_Bz) true _ _ _
  refine iv_Gm 1 (pc2 := 28) (lv2 := [(1, .int s), (0, .ref 29)]) (st2 := [.int 254, .int (A 4 (Int32.toNatClampNeg (0 + s)))]) (w2 := (iv_wd A (iv_uF iv_Fz 3401 2) iv_Bz)) rfl ?_
  refine iv_Gbf (c := decide ((A 4 (Int32.toNatClampNeg (0 + s))) = 254)) (p1 := 40) (p2 := 31) (lv2 := [(1, .int s), (0, .ref 29)]) (st2 := []) (w2 := (iv_wd A (iv_uF iv_Fz 3401 2) iv_Bz)) rfl (decide_eq_false hb) ?_
  refine iv_Gm 4 (pc2 := 37) (lv2 := [(1, .int s), (0, .ref 29)]) (st2 := [.int 0, .int s, .ref 2]) (w2 := (iv_wd A (iv_uF iv_Fz 3401 2) iv_Bz)) rfl ?_
  refine iv_Gcall (ν := 67) (c := 3) (as := [.ref 2, .int s, .int 0]) (rest := []) (w2 := (iv_wd (iv_uA A 4 (Int32.toNatClampNeg (0 + s)) 0) (iv_uF iv_Fz 3401 2) iv_Bz)) (tg2 := true) (k2 := 0) (z2 := 0) (v := none) rfl rfl rfl rfl rfl rfl rfl (Nat.le_of_ble_eq_true rfl) rfl ?_ ?_
  · refine iv_Gm 9 (pc2 := 14) (lv2 := [(0, .ref 2), (1, .int s), (2, .int 0)]) (st2 := [.int 0, .int (0 + s), .ref 4]) (w2 := (iv_wd A (iv_uF iv_Fz 3401 2) iv_Bz)) rfl ?_
    refine iv_Gif (pc2 := 15) (lv2 := [(0, .ref 2), (1, .int s), (2, .int 0)]) (st2 := []) (w2 := (iv_wd (iv_uA A 4 (Int32.toNatClampNeg (0 + s)) 0) (iv_uF iv_Fz 3401 2) iv_Bz)) rfl i2 ?_
    exact iv_Gret rfl rfl rfl
  show iv_G _ _ _ _ 40 [(1, .int s), (0, .ref 29)] [] (iv_wd (iv_uA A 4 (Int32.toNatClampNeg (0 + s)) 0) (iv_uF iv_Fz 3401 2) iv_Bz) true _ _ _
  refine iv_Gm 2 (pc2 := 2) (lv2 := [(1, .int (s + 1)), (0, .ref 29)]) (st2 := []) (w2 := (iv_wd (iv_uA A 4 (Int32.toNatClampNeg (0 + s)) 0) (iv_uF iv_Fz 3401 2) iv_Bz)) rfl ?_
  rw [e]
  exact hg
set_option maxRecDepth 1000000 in
set_option maxHeartbeats 40000000 in
theorem iv_fue : iv_G L xs (d + 1) 110 2 [(1, .int 32), (0, .ref 29)] [] (iv_wd A (iv_uF iv_Fz 3401 2) iv_Bz) true 0 0 (.inl none, (iv_wd A (iv_uF iv_Fz 3401 2) iv_Bz), true, 0, 0) := by
  refine iv_Gm 3 (pc2 := 46) (lv2 := [(1, .int 32), (0, .ref 29)]) (st2 := []) (w2 := (iv_wd A (iv_uF iv_Fz 3401 2) iv_Bz)) rfl ?_
  exact iv_Gret rfl rfl rfl
theorem iv_fuL (h30 : ∀ j, 3 ≤ j → j < 32 → A 30 j = 0) (h4 : ∀ j, 3 ≤ j → j < 32 → A 4 j = 0) : ∀ n j, j + n = 32 → 3 ≤ j → iv_G L xs (d + 1) 110 2 [(1, .int (Int32.ofNat j)), (0, .ref 29)] [] (iv_wd A (iv_uF iv_Fz 3401 2) iv_Bz) true 0 0 (.inl none, (iv_wd A (iv_uF iv_Fz 3401 2) iv_Bz), true, 0, 0)
  | 0, j, h, _ => by
    have : j = 32 := by omega
    subst this
    exact iv_fue
  | n + 1, j, h, h3 => by
    refine iv_fu1 (iv_on1 j) ((iv_onl (m := 32) (by omega) (by omega)).mpr (by omega)) (iv_oni (by omega) (by omega)) (by rw [Int32.zero_add]; exact iv_oni (by omega) (by omega)) ?_ ?_ (iv_fuL h30 h4 n (j + 1) (by omega) (by omega))
    · rw [iv_onc (by omega)]; exact h30 j h3 (by omega)
    · rw [Int32.zero_add, iv_onc (by omega)]; exact h4 j h3 (by omega)
set_option maxRecDepth 1000000 in
set_option maxHeartbeats 40000000 in
theorem iv_us1 (hs2 : s + 1 = s2) (hs : s < 32) (i1 : iv_in s 32 = true) (hz : (A 30 (Int32.toNatClampNeg s)) = 0) (hg : iv_G L xs (d + 1) 108 13 [(1, .int s2), (0, .ref 29)] [] (iv_wd A F B) true 0 0 o) : iv_G L xs (d + 1) 108 13 [(1, .int s), (0, .ref 29)] [] (iv_wd A F B) true 0 0 o := by
  subst hs2
  have e : iv_uA A 30 (Int32.toNatClampNeg s) 0 = A := iv_uA_id hz
  refine iv_Gm 2 (pc2 := 16) (lv2 := [(1, .int s), (0, .ref 29)]) (st2 := [.int 32, .int s]) (w2 := (iv_wd A F B)) rfl ?_
  refine iv_Gbf (c := decide (32 ≤ s)) (p1 := 32) (p2 := 19) (lv2 := [(1, .int s), (0, .ref 29)]) (st2 := []) (w2 := (iv_wd A F B)) rfl (decide_eq_false (Int32.not_le.mpr hs)) ?_
  refine iv_Gm 4 (pc2 := 25) (lv2 := [(1, .int s), (0, .ref 29)]) (st2 := [.int 0, .int s, .ref 30]) (w2 := (iv_wd A F B)) rfl ?_
  refine iv_Gif (pc2 := 26) (lv2 := [(1, .int s), (0, .ref 29)]) (st2 := []) (w2 := (iv_wd (iv_uA A 30 (Int32.toNatClampNeg s) 0) F B)) rfl i1 ?_
  refine iv_Gm 2 (pc2 := 13) (lv2 := [(1, .int (s + 1)), (0, .ref 29)]) (st2 := []) (w2 := (iv_wd (iv_uA A 30 (Int32.toNatClampNeg s) 0) F B)) rfl ?_
  rw [e]
  exact hg
theorem iv_usL (h30 : ∀ j, A 30 j = 0) (hg : iv_G L xs (d + 1) 108 13 [(1, .int 32), (0, .ref 29)] [] (iv_wd A F B) true 0 0 o) : ∀ n j, j + n = 32 → iv_G L xs (d + 1) 108 13 [(1, .int (Int32.ofNat j)), (0, .ref 29)] [] (iv_wd A F B) true 0 0 o
  | 0, j, h => by
    have : j = 32 := by omega
    subst this
    exact hg
  | n + 1, j, h => by
    exact iv_us1 (iv_on1 j) ((iv_onl (m := 32) (by omega) (by omega)).mpr (by omega)) (iv_oni (by omega) (by omega)) (h30 _) (iv_usL h30 hg n (j + 1) (by omega))
set_option maxRecDepth 1000000 in
set_option maxHeartbeats 40000000 in
theorem iv_fuX : iv_G L xs (d + 1) 110 0 [(0, .ref 29)] [] (iv_wd (iv_uA (iv_cA iv_Az 4 31 0 2048 64) 30 2 1) (iv_uF iv_Fz 3401 2) iv_Bz) true 0 0 (.inl none, (iv_wd (iv_uA (iv_cA iv_Az 4 31 0 2048 64) 30 2 1) (iv_uF iv_Fz 3401 2) iv_Bz), true, 0, 0) := by
  refine iv_Gm 2 (pc2 := 2) (lv2 := [(1, .int 2), (0, .ref 29)]) (st2 := []) (w2 := (iv_wd (iv_uA (iv_cA iv_Az 4 31 0 2048 64) 30 2 1) (iv_uF iv_Fz 3401 2) iv_Bz)) rfl ?_
  refine iv_Gm 10 (pc2 := 2) (lv2 := [(1, .int 3), (0, .ref 29)]) (st2 := []) (w2 := (iv_wd (iv_uA (iv_cA iv_Az 4 31 0 2048 64) 30 2 1) (iv_uF iv_Fz 3401 2) iv_Bz)) rfl ?_
  refine iv_fuL (fun j h3 h => ?_) (fun j h3 h => ?_) 29 3 rfl (by decide)
  · show upd (iv_Az 30) 2 1 j = 0
    unfold upd
    rw [if_neg (by omega)]
    rfl
  · show upd (fun _ => 0) 2 255 j = 0
    unfold upd
    rw [if_neg (by omega)]
end
