/-! long loops -/
def iv_cA (A : Nat → Nat → Int32) (r0 r sp dp n : Nat) : Nat → Nat → Int32 := fun i => if i = r then va_cpy (A r0) (A r) sp dp n else A i
def iv_sA (A : Nat → Nat → Int32) (r : Nat) (f : Nat → Int32) : Nat → Nat → Int32 := fun i => if i = r then f else A i
theorem iv_on {j : Nat} (h : j < 4000) : (Int32.ofNat j).toInt = j := Int32.toInt_ofNat_of_lt (by omega)
theorem iv_on1 (j : Nat) : Int32.ofNat j + 1 = Int32.ofNat (j + 1) := by rw [Int32.ofNat_add]; rfl
theorem iv_onc {j : Nat} (h : j < 4000) : (Int32.ofNat j).toNatClampNeg = j := by
  have : (Int32.ofNat j).toNatClampNeg = (Int32.ofNat j).toInt.toNat := rfl
  rw [this, iv_on h]
  rfl
theorem iv_onl {j m : Nat} (h : j < 4000) (hm : m < 4000) : Int32.ofNat j < Int32.ofNat m ↔ j < m := by
  rw [Int32.lt_iff_toInt_lt, iv_on h, iv_on hm]
  omega
theorem iv_oni {j n : Nat} (h : j < 4000) (hn : j < n) : iv_in (Int32.ofNat j) n = true := iv_in_i (by rw [iv_on h]; omega) (by rw [iv_on h]; omega)
section
variable {L : Nat} {xs : Nat → Int32} {d : Nat} {s s2 : Int32} {o : iv_O} {A : Nat → Nat → Int32} {F : Nat → Int32} {B : Nat → Int64}
set_option maxRecDepth 1000000 in
set_option maxHeartbeats 40000000 in
theorem iv_co1 (hs2 : s + 1 = s2) (hs : s < 2048) (i1 : iv_in s 2048 = true) (i2 : iv_in s 2112 = true) (he : A 3 (Int32.toNatClampNeg s) = A 31 (Int32.toNatClampNeg s)) (hg : iv_G L xs d 76 4 [(3, .int s2), (2, .int 0), (0, .ref 2), (1, .ref 31)] [] (iv_wd A F B) true 0 0 o) : iv_G L xs d 76 4 [(3, .int s), (2, .int 0), (0, .ref 2), (1, .ref 31)] [] (iv_wd A F B) true 0 0 o := by
  subst hs2
  refine iv_Gm 4 (pc2 := 10) (lv2 := [(3, .int s), (2, .int 0), (0, .ref 2), (1, .ref 31)]) (st2 := [.int 2048, .int s]) (w2 := (iv_wd A F B)) rfl ?_
  refine iv_Gbf (c := decide (2048 ≤ s)) (p1 := 34) (p2 := 13) (lv2 := [(3, .int s), (2, .int 0), (0, .ref 2), (1, .ref 31)]) (st2 := []) (w2 := (iv_wd A F B)) rfl (decide_eq_false (Int32.not_le.mpr hs)) ?_
  refine iv_Gm 3 (pc2 := 18) (lv2 := [(3, .int s), (2, .int 0), (0, .ref 2), (1, .ref 31)]) (st2 := [.int s, .ref 3]) (w2 := (iv_wd A F B)) rfl ?_
  refine iv_Gif (pc2 := 19) (lv2 := [(3, .int s), (2, .int 0), (0, .ref 2), (1, .ref 31)]) (st2 := [.int (A 3 (Int32.toNatClampNeg s))]) (w2 := (iv_wd A F B)) rfl i1 ?_
  refine iv_Gm 2 (pc2 := 21) (lv2 := [(3, .int s), (2, .int 0), (0, .ref 2), (1, .ref 31)]) (st2 := [.int s, .ref 31, .int (A 3 (Int32.toNatClampNeg s))]) (w2 := (iv_wd A F B)) rfl ?_
  refine iv_Gif (pc2 := 22) (lv2 := [(3, .int s), (2, .int 0), (0, .ref 2), (1, .ref 31)]) (st2 := [.int (A 31 (Int32.toNatClampNeg s)), .int (A 3 (Int32.toNatClampNeg s))]) (w2 := (iv_wd A F B)) rfl i2 ?_
  refine iv_Gbt (c := decide ((A 3 (Int32.toNatClampNeg s)) = (A 31 (Int32.toNatClampNeg s)))) (p1 := 28) (p2 := 25) (lv2 := [(3, .int s), (2, .int 0), (0, .ref 2), (1, .ref 31)]) (st2 := []) (w2 := (iv_wd A F B)) rfl (decide_eq_true he) ?_
  refine iv_Gm 2 (pc2 := 4) (lv2 := [(3, .int (s + 1)), (2, .int 0), (0, .ref 2), (1, .ref 31)]) (st2 := []) (w2 := (iv_wd A F B)) rfl ?_
  exact hg
set_option maxRecDepth 1000000 in
set_option maxHeartbeats 40000000 in
theorem iv_co2 (hs2 : s + 1 = s2) (hs : s < 64) (i1 : iv_in s 64 = true) (i2 : iv_in (2048 + s) 2112 = true) (he : A 4 (Int32.toNatClampNeg s) = A 31 (Int32.toNatClampNeg (2048 + s))) (hg : iv_G L xs d 76 36 [(3, .int s2), (2, .int 0), (0, .ref 2), (1, .ref 31)] [] (iv_wd A F B) true 0 0 o) : iv_G L xs d 76 36 [(3, .int s), (2, .int 0), (0, .ref 2), (1, .ref 31)] [] (iv_wd A F B) true 0 0 o := by
  subst hs2
  refine iv_Gm 4 (pc2 := 42) (lv2 := [(3, .int s), (2, .int 0), (0, .ref 2), (1, .ref 31)]) (st2 := [.int 64, .int s]) (w2 := (iv_wd A F B)) rfl ?_
  refine iv_Gbf (c := decide (64 ≤ s)) (p1 := 72) (p2 := 45) (lv2 := [(3, .int s), (2, .int 0), (0, .ref 2), (1, .ref 31)]) (st2 := []) (w2 := (iv_wd A F B)) rfl (decide_eq_false (Int32.not_le.mpr hs)) ?_
  refine iv_Gm 3 (pc2 := 50) (lv2 := [(3, .int s), (2, .int 0), (0, .ref 2), (1, .ref 31)]) (st2 := [.int s, .ref 4]) (w2 := (iv_wd A F B)) rfl ?_
  refine iv_Gif (pc2 := 51) (lv2 := [(3, .int s), (2, .int 0), (0, .ref 2), (1, .ref 31)]) (st2 := [.int (A 4 (Int32.toNatClampNeg s))]) (w2 := (iv_wd A F B)) rfl i1 ?_
  refine iv_Gm 6 (pc2 := 59) (lv2 := [(3, .int s), (2, .int 0), (0, .ref 2), (1, .ref 31)]) (st2 := [.int (2048 + s), .ref 31, .int (A 4 (Int32.toNatClampNeg s))]) (w2 := (iv_wd A F B)) rfl ?_
  refine iv_Gif (pc2 := 60) (lv2 := [(3, .int s), (2, .int 0), (0, .ref 2), (1, .ref 31)]) (st2 := [.int (A 31 (Int32.toNatClampNeg (2048 + s))), .int (A 4 (Int32.toNatClampNeg s))]) (w2 := (iv_wd A F B)) rfl i2 ?_
  refine iv_Gbt (c := decide ((A 4 (Int32.toNatClampNeg s)) = (A 31 (Int32.toNatClampNeg (2048 + s))))) (p1 := 66) (p2 := 63) (lv2 := [(3, .int s), (2, .int 0), (0, .ref 2), (1, .ref 31)]) (st2 := []) (w2 := (iv_wd A F B)) rfl (decide_eq_true he) ?_
  refine iv_Gm 2 (pc2 := 36) (lv2 := [(3, .int (s + 1)), (2, .int 0), (0, .ref 2), (1, .ref 31)]) (st2 := []) (w2 := (iv_wd A F B)) rfl ?_
  exact hg
set_option maxRecDepth 1000000 in
set_option maxHeartbeats 40000000 in
theorem iv_r1a (hs2 : s + 1 = s2) (hs : s < 64) (hs3 : s < 2112) (i1 : iv_in s 64 = true) (i2 : iv_in s 2112 = true) (hg : iv_G L xs d 186 20 [(1, .int s2), (0, .ref 44)] [] (iv_wd (iv_uA A 60 (Int32.toNatClampNeg s) (A 46 (Int32.toNatClampNeg s))) F B) true 0 0 o) : iv_G L xs d 186 20 [(1, .int s), (0, .ref 44)] [] (iv_wd A F B) true 0 0 o := by
  subst hs2
  refine iv_Gm 2 (pc2 := 24) (lv2 := [(1, .int s), (0, .ref 44)]) (st2 := [.int 2112, .int s]) (w2 := (iv_wd A F B)) rfl ?_
  refine iv_Gbf (c := decide (2112 ≤ s)) (p1 := 63) (p2 := 27) (lv2 := [(1, .int s), (0, .ref 44)]) (st2 := []) (w2 := (iv_wd A F B)) rfl (decide_eq_false (Int32.not_le.mpr hs3)) ?_
  refine iv_Gm 5 (pc2 := 35) (lv2 := [(1, .int s), (0, .ref 44)]) (st2 := [.int 64, .int s, .int s, .ref 60]) (w2 := (iv_wd A F B)) rfl ?_
  refine iv_Gbf (c := decide (64 ≤ s)) (p1 := 47) (p2 := 38) (lv2 := [(1, .int s), (0, .ref 44)]) (st2 := [.int s, .ref 60]) (w2 := (iv_wd A F B)) rfl (decide_eq_false (Int32.not_le.mpr hs)) ?_
  refine iv_Gm 3 (pc2 := 43) (lv2 := [(1, .int s), (0, .ref 44)]) (st2 := [.int s, .ref 46, .int s, .ref 60]) (w2 := (iv_wd A F B)) rfl ?_
  refine iv_Gif (pc2 := 44) (lv2 := [(1, .int s), (0, .ref 44)]) (st2 := [.int (A 46 (Int32.toNatClampNeg s)), .int s, .ref 60]) (w2 := (iv_wd A F B)) rfl i1 ?_
  refine iv_Gm 1 (pc2 := 56) (lv2 := [(1, .int s), (0, .ref 44)]) (st2 := [.int (A 46 (Int32.toNatClampNeg s)), .int s, .ref 60]) (w2 := (iv_wd A F B)) rfl ?_
  refine iv_Gif (pc2 := 57) (lv2 := [(1, .int s), (0, .ref 44)]) (st2 := []) (w2 := (iv_wd (iv_uA A 60 (Int32.toNatClampNeg s) (A 46 (Int32.toNatClampNeg s))) F B)) rfl i2 ?_
  refine iv_Gm 2 (pc2 := 20) (lv2 := [(1, .int (s + 1)), (0, .ref 44)]) (st2 := []) (w2 := (iv_wd (iv_uA A 60 (Int32.toNatClampNeg s) (A 46 (Int32.toNatClampNeg s))) F B)) rfl ?_
  exact hg
set_option maxRecDepth 1000000 in
set_option maxHeartbeats 40000000 in
theorem iv_r1b (hs2 : s + 1 = s2) (hs : ¬ s < 64) (hs3 : s < 2112) (i1 : iv_in (s - 64) 2048 = true) (i2 : iv_in s 2112 = true) (hg : iv_G L xs d 186 20 [(1, .int s2), (0, .ref 44)] [] (iv_wd (iv_uA A 60 (Int32.toNatClampNeg s) (A 47 (Int32.toNatClampNeg (s - 64)))) F B) true 0 0 o) : iv_G L xs d 186 20 [(1, .int s), (0, .ref 44)] [] (iv_wd A F B) true 0 0 o := by
  subst hs2
  refine iv_Gm 2 (pc2 := 24) (lv2 := [(1, .int s), (0, .ref 44)]) (st2 := [.int 2112, .int s]) (w2 := (iv_wd A F B)) rfl ?_
  refine iv_Gbf (c := decide (2112 ≤ s)) (p1 := 63) (p2 := 27) (lv2 := [(1, .int s), (0, .ref 44)]) (st2 := []) (w2 := (iv_wd A F B)) rfl (decide_eq_false (Int32.not_le.mpr hs3)) ?_
  refine iv_Gm 5 (pc2 := 35) (lv2 := [(1, .int s), (0, .ref 44)]) (st2 := [.int 64, .int s, .int s, .ref 60]) (w2 := (iv_wd A F B)) rfl ?_
  refine iv_Gbt (c := decide (64 ≤ s)) (p1 := 47) (p2 := 38) (lv2 := [(1, .int s), (0, .ref 44)]) (st2 := [.int s, .ref 60]) (w2 := (iv_wd A F B)) rfl (decide_eq_true (Int32.not_lt.mp hs)) ?_
  refine iv_Gm 5 (pc2 := 55) (lv2 := [(1, .int s), (0, .ref 44)]) (st2 := [.int (s - 64), .ref 47, .int s, .ref 60]) (w2 := (iv_wd A F B)) rfl ?_
  refine iv_Gif (pc2 := 56) (lv2 := [(1, .int s), (0, .ref 44)]) (st2 := [.int (A 47 (Int32.toNatClampNeg (s - 64))), .int s, .ref 60]) (w2 := (iv_wd A F B)) rfl i1 ?_
  refine iv_Gif (pc2 := 57) (lv2 := [(1, .int s), (0, .ref 44)]) (st2 := []) (w2 := (iv_wd (iv_uA A 60 (Int32.toNatClampNeg s) (A 47 (Int32.toNatClampNeg (s - 64)))) F B)) rfl i2 ?_
  refine iv_Gm 2 (pc2 := 20) (lv2 := [(1, .int (s + 1)), (0, .ref 44)]) (st2 := []) (w2 := (iv_wd (iv_uA A 60 (Int32.toNatClampNeg s) (A 47 (Int32.toNatClampNeg (s - 64)))) F B)) rfl ?_
  exact hg
set_option maxRecDepth 1000000 in
set_option maxHeartbeats 40000000 in
theorem iv_r4a (hs2 : s + 1 = s2) (hs : s < 64) (hs3 : s < 2112) (i1 : iv_in s 64 = true) (i2 : iv_in s 2112 = true) (he : (A 60 (Int32.toNatClampNeg s)) = (A 46 (Int32.toNatClampNeg s))) (hg : iv_G L xs d 186 302 [(3, .int s2), (2, .int 0), (1, .int (-1)), (0, .ref 44)] [] (iv_wd A F B) true 0 0 o) : iv_G L xs d 186 302 [(3, .int s), (2, .int 0), (1, .int (-1)), (0, .ref 44)] [] (iv_wd A F B) true 0 0 o := by
  subst hs2
  refine iv_Gm 2 (pc2 := 306) (lv2 := [(3, .int s), (2, .int 0), (1, .int (-1)), (0, .ref 44)]) (st2 := [.int 2112, .int s]) (w2 := (iv_wd A F B)) rfl ?_
  refine iv_Gbf (c := decide (2112 ≤ s)) (p1 := 356) (p2 := 309) (lv2 := [(3, .int s), (2, .int 0), (1, .int (-1)), (0, .ref 44)]) (st2 := []) (w2 := (iv_wd A F B)) rfl (decide_eq_false (Int32.not_le.mpr hs3)) ?_
  refine iv_Gm 4 (pc2 := 315) (lv2 := [(3, .int s), (2, .int 0), (1, .int (-1)), (0, .ref 44)]) (st2 := [.int s, .ref 60, .int 0]) (w2 := (iv_wd A F B)) rfl ?_
  refine iv_Gif (pc2 := 316) (lv2 := [(3, .int s), (2, .int 0), (1, .int (-1)), (0, .ref 44)]) (st2 := [.int (A 60 (Int32.toNatClampNeg s)), .int 0]) (w2 := (iv_wd A F B)) rfl i2 ?_
  refine iv_Gm 2 (pc2 := 319) (lv2 := [(3, .int s), (2, .int 0), (1, .int (-1)), (0, .ref 44)]) (st2 := [.int 64, .int s, .int (A 60 (Int32.toNatClampNeg s)), .int 0]) (w2 := (iv_wd A F B)) rfl ?_
  refine iv_Gbf (c := decide (64 ≤ s)) (p1 := 331) (p2 := 322) (lv2 := [(3, .int s), (2, .int 0), (1, .int (-1)), (0, .ref 44)]) (st2 := [.int (A 60 (Int32.toNatClampNeg s)), .int 0]) (w2 := (iv_wd A F B)) rfl (decide_eq_false (Int32.not_le.mpr hs)) ?_
  refine iv_Gm 3 (pc2 := 327) (lv2 := [(3, .int s), (2, .int 0), (1, .int (-1)), (0, .ref 44)]) (st2 := [.int s, .ref 46, .int (A 60 (Int32.toNatClampNeg s)), .int 0]) (w2 := (iv_wd A F B)) rfl ?_
  refine iv_Gif (pc2 := 328) (lv2 := [(3, .int s), (2, .int 0), (1, .int (-1)), (0, .ref 44)]) (st2 := [.int (A 46 (Int32.toNatClampNeg s)), .int (A 60 (Int32.toNatClampNeg s)), .int 0]) (w2 := (iv_wd A F B)) rfl i1 ?_
  refine iv_Gm 1 (pc2 := 340) (lv2 := [(3, .int s), (2, .int 0), (1, .int (-1)), (0, .ref 44)]) (st2 := [.int (A 46 (Int32.toNatClampNeg s)), .int (A 60 (Int32.toNatClampNeg s)), .int 0]) (w2 := (iv_wd A F B)) rfl ?_
  refine iv_Gbt (c := decide ((A 60 (Int32.toNatClampNeg s)) = (A 46 (Int32.toNatClampNeg s)))) (p1 := 347) (p2 := 343) (lv2 := [(3, .int s), (2, .int 0), (1, .int (-1)), (0, .ref 44)]) (st2 := [.int 0]) (w2 := (iv_wd A F B)) rfl (decide_eq_true he) ?_
  refine iv_Gm 5 (pc2 := 302) (lv2 := [(3, .int (s + 1)), (2, .int 0), (1, .int (-1)), (0, .ref 44)]) (st2 := []) (w2 := (iv_wd A F B)) rfl ?_
  exact hg
set_option maxRecDepth 1000000 in
set_option maxHeartbeats 40000000 in
theorem iv_r4b (hs2 : s + 1 = s2) (hs : ¬ s < 64) (hs3 : s < 2112) (i1 : iv_in (s - 64) 2048 = true) (i2 : iv_in s 2112 = true) (he : (A 60 (Int32.toNatClampNeg s)) = (A 47 (Int32.toNatClampNeg (s - 64)))) (hg : iv_G L xs d 186 302 [(3, .int s2), (2, .int 0), (1, .int (-1)), (0, .ref 44)] [] (iv_wd A F B) true 0 0 o) : iv_G L xs d 186 302 [(3, .int s), (2, .int 0), (1, .int (-1)), (0, .ref 44)] [] (iv_wd A F B) true 0 0 o := by
  subst hs2
  refine iv_Gm 2 (pc2 := 306) (lv2 := [(3, .int s), (2, .int 0), (1, .int (-1)), (0, .ref 44)]) (st2 := [.int 2112, .int s]) (w2 := (iv_wd A F B)) rfl ?_
  refine iv_Gbf (c := decide (2112 ≤ s)) (p1 := 356) (p2 := 309) (lv2 := [(3, .int s), (2, .int 0), (1, .int (-1)), (0, .ref 44)]) (st2 := []) (w2 := (iv_wd A F B)) rfl (decide_eq_false (Int32.not_le.mpr hs3)) ?_
  refine iv_Gm 4 (pc2 := 315) (lv2 := [(3, .int s), (2, .int 0), (1, .int (-1)), (0, .ref 44)]) (st2 := [.int s, .ref 60, .int 0]) (w2 := (iv_wd A F B)) rfl ?_
  refine iv_Gif (pc2 := 316) (lv2 := [(3, .int s), (2, .int 0), (1, .int (-1)), (0, .ref 44)]) (st2 := [.int (A 60 (Int32.toNatClampNeg s)), .int 0]) (w2 := (iv_wd A F B)) rfl i2 ?_
  refine iv_Gm 2 (pc2 := 319) (lv2 := [(3, .int s), (2, .int 0), (1, .int (-1)), (0, .ref 44)]) (st2 := [.int 64, .int s, .int (A 60 (Int32.toNatClampNeg s)), .int 0]) (w2 := (iv_wd A F B)) rfl ?_
  refine iv_Gbt (c := decide (64 ≤ s)) (p1 := 331) (p2 := 322) (lv2 := [(3, .int s), (2, .int 0), (1, .int (-1)), (0, .ref 44)]) (st2 := [.int (A 60 (Int32.toNatClampNeg s)), .int 0]) (w2 := (iv_wd A F B)) rfl (decide_eq_true (Int32.not_lt.mp hs)) ?_
  refine iv_Gm 5 (pc2 := 339) (lv2 := [(3, .int s), (2, .int 0), (1, .int (-1)), (0, .ref 44)]) (st2 := [.int (s - 64), .ref 47, .int (A 60 (Int32.toNatClampNeg s)), .int 0]) (w2 := (iv_wd A F B)) rfl ?_
  refine iv_Gif (pc2 := 340) (lv2 := [(3, .int s), (2, .int 0), (1, .int (-1)), (0, .ref 44)]) (st2 := [.int (A 47 (Int32.toNatClampNeg (s - 64))), .int (A 60 (Int32.toNatClampNeg s)), .int 0]) (w2 := (iv_wd A F B)) rfl i1 ?_
  refine iv_Gbt (c := decide ((A 60 (Int32.toNatClampNeg s)) = (A 47 (Int32.toNatClampNeg (s - 64))))) (p1 := 347) (p2 := 343) (lv2 := [(3, .int s), (2, .int 0), (1, .int (-1)), (0, .ref 44)]) (st2 := [.int 0]) (w2 := (iv_wd A F B)) rfl (decide_eq_true he) ?_
  refine iv_Gm 5 (pc2 := 302) (lv2 := [(3, .int (s + 1)), (2, .int 0), (1, .int (-1)), (0, .ref 44)]) (st2 := []) (w2 := (iv_wd A F B)) rfl ?_
  exact hg
end
