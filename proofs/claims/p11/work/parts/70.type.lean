/-! the eight characters of a long, on any world -/
def iv_uA (A : Nat → Nat → Int32) (r j : Nat) (v : Int32) : Nat → Nat → Int32 := fun i => if i = r then upd (A r) j v else A i
def iv_uF (F : Nat → Int32) (q : Nat) (v : Int32) : Nat → Int32 := fun i => if i = q then v else F i
/-! the eight characters of a long -/
def iv_by (e : Int64) (s : Int32) : Int32 := ((Int64.toInt32 (UInt64.toInt64 ((Int64.toUInt64 e) >>> ((Int64.toUInt64 (Int32.toInt64 s)) &&& Int64.toUInt64 63)))) &&& 255)
def iv_ct (c : Int32) : Int32 := if c = 0 then 0 else 1
def iv_gd (c : Int32) : Prop := c = 0 ∨ (¬ c < 33 ∧ c < 127)
/-- an array takes some bytes -/
def id_R (r : Nat) (A A2 : Nat → Nat → Int32) : Prop := (∀ a, a ≠ r → A2 a = A a) ∧ ∀ j, A2 r j = A r j ∨ (0 ≤ (A2 r j).toInt ∧ (A2 r j).toInt ≤ 255)
theorem id_R_refl {r : Nat} {A : Nat → Nat → Int32} : id_R r A A := ⟨fun _ _ => rfl, fun _ => Or.inl rfl⟩
theorem id_R_trans {r : Nat} {A A1 A2 : Nat → Nat → Int32} (h1 : id_R r A A1) (h2 : id_R r A1 A2) : id_R r A A2 := ⟨fun a ha => (h2.1 a ha).trans (h1.1 a ha), fun j => by
  rcases h2.2 j with e | e
  · rw [e]
    exact h1.2 j
  · exact Or.inr e⟩
theorem id_by (e : Int64) (s : Int32) : 0 ≤ (iv_by e s).toInt ∧ (iv_by e s).toInt ≤ 255 := ia_and_b _ 255 (by decide)
theorem id_R_up {r j : Nat} {A : Nat → Nat → Int32} {e : Int64} {s : Int32} : id_R r A (iv_uA A r j (iv_by e s)) := ⟨fun a ha => if_neg ha, fun i => by
  unfold iv_uA upd
  rw [if_pos rfl]
  by_cases h : i = j
  · rw [if_pos h]
    exact Or.inr (id_by e s)
  · rw [if_neg h]
    exact Or.inl rfl⟩
section
variable {L : Nat} {xs : Nat → Int32} {d : Nat} {e : Int64} {s s2 m n c : Int32} {w : iv_W} {k z : Nat} {o : iv_O} {A : Nat → Nat → Int32} {F : Nat → Int32} {B : Nat → Int64} {tg : Bool}
set_option maxRecDepth 1000000 in
set_option maxHeartbeats 40000000 in
theorem iv_a1f (hs2 : s + (-8) = s2) (hs : ¬ s < 0) (hq : iv_gd (iv_by e s)) (hg : iv_G L xs d 34 6 [(4, .int s2), (3, .int (m + iv_ct (iv_by e s))), (5, .int (iv_by e s)), (0, .ref 6), (1, .long e)] [] w tg 0 0 o) : iv_G L xs d 34 6 [(4, .int s), (3, .int m), (0, .ref 6), (1, .long e)] [] w tg 0 0 o := by
  subst hs2
  by_cases h : (iv_by e s) = 0
  · have e1 : iv_ct (iv_by e s) = 0 := if_pos h
    rw [e1] at hg
    refine iv_Gm 1 (pc2 := 8) (lv2 := [(4, .int s), (3, .int m), (0, .ref 6), (1, .long e)]) (st2 := [.int s]) (w2 := w) rfl ?_
    refine iv_Gbf (c := decide (s < 0)) (p1 := 62) (p2 := 11) (lv2 := [(4, .int s), (3, .int m), (0, .ref 6), (1, .long e)]) (st2 := []) (w2 := w) rfl (decide_eq_false hs) ?_
    refine iv_Gm 8 (pc2 := 24) (lv2 := [(5, .int (iv_by e s)), (4, .int s), (3, .int m), (0, .ref 6), (1, .long e)]) (st2 := [.int (iv_by e s)]) (w2 := w) rfl ?_
    refine iv_Gbt (c := decide ((iv_by e s) = 0)) (p1 := 43) (p2 := 27) (lv2 := [(5, .int (iv_by e s)), (4, .int s), (3, .int m), (0, .ref 6), (1, .long e)]) (st2 := []) (w2 := w) rfl (decide_eq_true h) ?_
    refine iv_Gm 2 (pc2 := 46) (lv2 := [(5, .int (iv_by e s)), (4, .int s), (3, .int m), (0, .ref 6), (1, .long e)]) (st2 := [.int (iv_by e s), .int m]) (w2 := w) rfl ?_
    refine iv_Gbf (c := decide (¬ (iv_by e s) = 0)) (p1 := 53) (p2 := 49) (lv2 := [(5, .int (iv_by e s)), (4, .int s), (3, .int m), (0, .ref 6), (1, .long e)]) (st2 := [.int m]) (w2 := w) rfl (decide_eq_false (fun q => q h)) ?_
    refine iv_Gm 6 (pc2 := 6) (lv2 := [(4, .int (s + (-8))), (3, .int (m + 0)), (5, .int (iv_by e s)), (0, .ref 6), (1, .long e)]) (st2 := []) (w2 := w) rfl ?_
    exact hg
  · have e1 : iv_ct (iv_by e s) = 1 := if_neg h
    rw [e1] at hg
    have h33 := (hq.resolve_left h).1
    have h127 := (hq.resolve_left h).2
    refine iv_Gm 1 (pc2 := 8) (lv2 := [(4, .int s), (3, .int m), (0, .ref 6), (1, .long e)]) (st2 := [.int s]) (w2 := w) rfl ?_
    refine iv_Gbf (c := decide (s < 0)) (p1 := 62) (p2 := 11) (lv2 := [(4, .int s), (3, .int m), (0, .ref 6), (1, .long e)]) (st2 := []) (w2 := w) rfl (decide_eq_false hs) ?_
    refine iv_Gm 8 (pc2 := 24) (lv2 := [(5, .int (iv_by e s)), (4, .int s), (3, .int m), (0, .ref 6), (1, .long e)]) (st2 := [.int (iv_by e s)]) (w2 := w) rfl ?_
    refine iv_Gbf (c := decide ((iv_by e s) = 0)) (p1 := 43) (p2 := 27) (lv2 := [(5, .int (iv_by e s)), (4, .int s), (3, .int m), (0, .ref 6), (1, .long e)]) (st2 := []) (w2 := w) rfl (decide_eq_false h) ?_
    refine iv_Gm 2 (pc2 := 31) (lv2 := [(5, .int (iv_by e s)), (4, .int s), (3, .int m), (0, .ref 6), (1, .long e)]) (st2 := [.int 33, .int (iv_by e s)]) (w2 := w) rfl ?_
    refine iv_Gbf (c := decide ((iv_by e s) < 33)) (p1 := 41) (p2 := 34) (lv2 := [(5, .int (iv_by e s)), (4, .int s), (3, .int m), (0, .ref 6), (1, .long e)]) (st2 := []) (w2 := w) rfl (decide_eq_false h33) ?_
    refine iv_Gm 2 (pc2 := 38) (lv2 := [(5, .int (iv_by e s)), (4, .int s), (3, .int m), (0, .ref 6), (1, .long e)]) (st2 := [.int 126, .int (iv_by e s)]) (w2 := w) rfl ?_
    refine iv_Gbt (c := decide ((iv_by e s) ≤ 126)) (p1 := 43) (p2 := 41) (lv2 := [(5, .int (iv_by e s)), (4, .int s), (3, .int m), (0, .ref 6), (1, .long e)]) (st2 := []) (w2 := w) rfl (decide_eq_true (Int32.not_lt.mp (fun q => (iv_lg2 (by decide)).mp q h127))) ?_
    refine iv_Gm 2 (pc2 := 46) (lv2 := [(5, .int (iv_by e s)), (4, .int s), (3, .int m), (0, .ref 6), (1, .long e)]) (st2 := [.int (iv_by e s), .int m]) (w2 := w) rfl ?_
    refine iv_Gbt (c := decide (¬ (iv_by e s) = 0)) (p1 := 53) (p2 := 49) (lv2 := [(5, .int (iv_by e s)), (4, .int s), (3, .int m), (0, .ref 6), (1, .long e)]) (st2 := [.int m]) (w2 := w) rfl (decide_eq_true h) ?_
    refine iv_Gm 5 (pc2 := 6) (lv2 := [(4, .int (s + (-8))), (3, .int (m + 1)), (5, .int (iv_by e s)), (0, .ref 6), (1, .long e)]) (st2 := []) (w2 := w) rfl ?_
    exact hg
set_option maxRecDepth 1000000 in
set_option maxHeartbeats 40000000 in
theorem iv_a1fb (hs2 : s + (-8) = s2) (hs : ¬ s < 0) (hq : ¬ iv_gd (iv_by e s)) : iv_G L xs d 34 6 [(4, .int s), (3, .int m), (0, .ref 6), (1, .long e)] [] w tg 0 0 (.inl (some (.int 0)), w, tg, 0, 0) := by
  have h : ¬ (iv_by e s) = 0 := fun q => hq (.inl q)
  by_cases h33 : (iv_by e s) < 33
  · refine iv_Gm 1 (pc2 := 8) (lv2 := [(4, .int s), (3, .int m), (0, .ref 6), (1, .long e)]) (st2 := [.int s]) (w2 := w) rfl ?_
    refine iv_Gbf (c := decide (s < 0)) (p1 := 62) (p2 := 11) (lv2 := [(4, .int s), (3, .int m), (0, .ref 6), (1, .long e)]) (st2 := []) (w2 := w) rfl (decide_eq_false hs) ?_
    refine iv_Gm 8 (pc2 := 24) (lv2 := [(5, .int (iv_by e s)), (4, .int s), (3, .int m), (0, .ref 6), (1, .long e)]) (st2 := [.int (iv_by e s)]) (w2 := w) rfl ?_
    refine iv_Gbf (c := decide ((iv_by e s) = 0)) (p1 := 43) (p2 := 27) (lv2 := [(5, .int (iv_by e s)), (4, .int s), (3, .int m), (0, .ref 6), (1, .long e)]) (st2 := []) (w2 := w) rfl (decide_eq_false h) ?_
    refine iv_Gm 2 (pc2 := 31) (lv2 := [(5, .int (iv_by e s)), (4, .int s), (3, .int m), (0, .ref 6), (1, .long e)]) (st2 := [.int 33, .int (iv_by e s)]) (w2 := w) rfl ?_
    refine iv_Gbt (c := decide ((iv_by e s) < 33)) (p1 := 41) (p2 := 34) (lv2 := [(5, .int (iv_by e s)), (4, .int s), (3, .int m), (0, .ref 6), (1, .long e)]) (st2 := []) (w2 := w) rfl (decide_eq_true h33) ?_
    refine iv_Gm 1 (pc2 := 42) (lv2 := [(5, .int (iv_by e s)), (4, .int s), (3, .int m), (0, .ref 6), (1, .long e)]) (st2 := [.int 0]) (w2 := w) rfl ?_
    exact iv_Gret rfl rfl rfl
  · have h127 : ¬ (iv_by e s) < 127 := fun q => hq (.inr ⟨h33, q⟩)
    refine iv_Gm 1 (pc2 := 8) (lv2 := [(4, .int s), (3, .int m), (0, .ref 6), (1, .long e)]) (st2 := [.int s]) (w2 := w) rfl ?_
    refine iv_Gbf (c := decide (s < 0)) (p1 := 62) (p2 := 11) (lv2 := [(4, .int s), (3, .int m), (0, .ref 6), (1, .long e)]) (st2 := []) (w2 := w) rfl (decide_eq_false hs) ?_
    refine iv_Gm 8 (pc2 := 24) (lv2 := [(5, .int (iv_by e s)), (4, .int s), (3, .int m), (0, .ref 6), (1, .long e)]) (st2 := [.int (iv_by e s)]) (w2 := w) rfl ?_
    refine iv_Gbf (c := decide ((iv_by e s) = 0)) (p1 := 43) (p2 := 27) (lv2 := [(5, .int (iv_by e s)), (4, .int s), (3, .int m), (0, .ref 6), (1, .long e)]) (st2 := []) (w2 := w) rfl (decide_eq_false h) ?_
    refine iv_Gm 2 (pc2 := 31) (lv2 := [(5, .int (iv_by e s)), (4, .int s), (3, .int m), (0, .ref 6), (1, .long e)]) (st2 := [.int 33, .int (iv_by e s)]) (w2 := w) rfl ?_
    refine iv_Gbf (c := decide ((iv_by e s) < 33)) (p1 := 41) (p2 := 34) (lv2 := [(5, .int (iv_by e s)), (4, .int s), (3, .int m), (0, .ref 6), (1, .long e)]) (st2 := []) (w2 := w) rfl (decide_eq_false h33) ?_
    refine iv_Gm 2 (pc2 := 38) (lv2 := [(5, .int (iv_by e s)), (4, .int s), (3, .int m), (0, .ref 6), (1, .long e)]) (st2 := [.int 126, .int (iv_by e s)]) (w2 := w) rfl ?_
    refine iv_Gbf (c := decide ((iv_by e s) ≤ 126)) (p1 := 43) (p2 := 41) (lv2 := [(5, .int (iv_by e s)), (4, .int s), (3, .int m), (0, .ref 6), (1, .long e)]) (st2 := []) (w2 := w) rfl (decide_eq_false (Int32.not_le.mpr ((iv_lg2 (by decide)).mpr h127))) ?_
    refine iv_Gm 1 (pc2 := 42) (lv2 := [(5, .int (iv_by e s)), (4, .int s), (3, .int m), (0, .ref 6), (1, .long e)]) (st2 := [.int 0]) (w2 := w) rfl ?_
    exact iv_Gret rfl rfl rfl
set_option maxRecDepth 1000000 in
set_option maxHeartbeats 40000000 in
theorem iv_a1n (hs2 : s + (-8) = s2) (hs : ¬ s < 0) (hq : iv_gd (iv_by e s)) (hg : iv_G L xs d 34 6 [(4, .int s2), (3, .int (m + iv_ct (iv_by e s))), (5, .int (iv_by e s)), (0, .ref 6), (1, .long e)] [] w tg 0 0 o) : iv_G L xs d 34 6 [(4, .int s), (3, .int m), (5, .int c), (0, .ref 6), (1, .long e)] [] w tg 0 0 o := by
  subst hs2
  by_cases h : (iv_by e s) = 0
  · have e1 : iv_ct (iv_by e s) = 0 := if_pos h
    rw [e1] at hg
    refine iv_Gm 1 (pc2 := 8) (lv2 := [(4, .int s), (3, .int m), (5, .int c), (0, .ref 6), (1, .long e)]) (st2 := [.int s]) (w2 := w) rfl ?_
    refine iv_Gbf (c := decide (s < 0)) (p1 := 62) (p2 := 11) (lv2 := [(4, .int s), (3, .int m), (5, .int c), (0, .ref 6), (1, .long e)]) (st2 := []) (w2 := w) rfl (decide_eq_false hs) ?_
    refine iv_Gm 8 (pc2 := 24) (lv2 := [(5, .int (iv_by e s)), (4, .int s), (3, .int m), (0, .ref 6), (1, .long e)]) (st2 := [.int (iv_by e s)]) (w2 := w) rfl ?_
    refine iv_Gbt (c := decide ((iv_by e s) = 0)) (p1 := 43) (p2 := 27) (lv2 := [(5, .int (iv_by e s)), (4, .int s), (3, .int m), (0, .ref 6), (1, .long e)]) (st2 := []) (w2 := w) rfl (decide_eq_true h) ?_
    refine iv_Gm 2 (pc2 := 46) (lv2 := [(5, .int (iv_by e s)), (4, .int s), (3, .int m), (0, .ref 6), (1, .long e)]) (st2 := [.int (iv_by e s), .int m]) (w2 := w) rfl ?_
    refine iv_Gbf (c := decide (¬ (iv_by e s) = 0)) (p1 := 53) (p2 := 49) (lv2 := [(5, .int (iv_by e s)), (4, .int s), (3, .int m), (0, .ref 6), (1, .long e)]) (st2 := [.int m]) (w2 := w) rfl (decide_eq_false (fun q => q h)) ?_
    refine iv_Gm 6 (pc2 := 6) (lv2 := [(4, .int (s + (-8))), (3, .int (m + 0)), (5, .int (iv_by e s)), (0, .ref 6), (1, .long e)]) (st2 := []) (w2 := w) rfl ?_
    exact hg
  · have e1 : iv_ct (iv_by e s) = 1 := if_neg h
    rw [e1] at hg
    have h33 := (hq.resolve_left h).1
    have h127 := (hq.resolve_left h).2
    refine iv_Gm 1 (pc2 := 8) (lv2 := [(4, .int s), (3, .int m), (5, .int c), (0, .ref 6), (1, .long e)]) (st2 := [.int s]) (w2 := w) rfl ?_
    refine iv_Gbf (c := decide (s < 0)) (p1 := 62) (p2 := 11) (lv2 := [(4, .int s), (3, .int m), (5, .int c), (0, .ref 6), (1, .long e)]) (st2 := []) (w2 := w) rfl (decide_eq_false hs) ?_
    refine iv_Gm 8 (pc2 := 24) (lv2 := [(5, .int (iv_by e s)), (4, .int s), (3, .int m), (0, .ref 6), (1, .long e)]) (st2 := [.int (iv_by e s)]) (w2 := w) rfl ?_
    refine iv_Gbf (c := decide ((iv_by e s) = 0)) (p1 := 43) (p2 := 27) (lv2 := [(5, .int (iv_by e s)), (4, .int s), (3, .int m), (0, .ref 6), (1, .long e)]) (st2 := []) (w2 := w) rfl (decide_eq_false h) ?_
    refine iv_Gm 2 (pc2 := 31) (lv2 := [(5, .int (iv_by e s)), (4, .int s), (3, .int m), (0, .ref 6), (1, .long e)]) (st2 := [.int 33, .int (iv_by e s)]) (w2 := w) rfl ?_
    refine iv_Gbf (c := decide ((iv_by e s) < 33)) (p1 := 41) (p2 := 34) (lv2 := [(5, .int (iv_by e s)), (4, .int s), (3, .int m), (0, .ref 6), (1, .long e)]) (st2 := []) (w2 := w) rfl (decide_eq_false h33) ?_
    refine iv_Gm 2 (pc2 := 38) (lv2 := [(5, .int (iv_by e s)), (4, .int s), (3, .int m), (0, .ref 6), (1, .long e)]) (st2 := [.int 126, .int (iv_by e s)]) (w2 := w) rfl ?_
    refine iv_Gbt (c := decide ((iv_by e s) ≤ 126)) (p1 := 43) (p2 := 41) (lv2 := [(5, .int (iv_by e s)), (4, .int s), (3, .int m), (0, .ref 6), (1, .long e)]) (st2 := []) (w2 := w) rfl (decide_eq_true (Int32.not_lt.mp (fun q => (iv_lg2 (by decide)).mp q h127))) ?_
    refine iv_Gm 2 (pc2 := 46) (lv2 := [(5, .int (iv_by e s)), (4, .int s), (3, .int m), (0, .ref 6), (1, .long e)]) (st2 := [.int (iv_by e s), .int m]) (w2 := w) rfl ?_
    refine iv_Gbt (c := decide (¬ (iv_by e s) = 0)) (p1 := 53) (p2 := 49) (lv2 := [(5, .int (iv_by e s)), (4, .int s), (3, .int m), (0, .ref 6), (1, .long e)]) (st2 := [.int m]) (w2 := w) rfl (decide_eq_true h) ?_
    refine iv_Gm 5 (pc2 := 6) (lv2 := [(4, .int (s + (-8))), (3, .int (m + 1)), (5, .int (iv_by e s)), (0, .ref 6), (1, .long e)]) (st2 := []) (w2 := w) rfl ?_
    exact hg
set_option maxRecDepth 1000000 in
set_option maxHeartbeats 40000000 in
theorem iv_a1nb (hs2 : s + (-8) = s2) (hs : ¬ s < 0) (hq : ¬ iv_gd (iv_by e s)) : iv_G L xs d 34 6 [(4, .int s), (3, .int m), (5, .int c), (0, .ref 6), (1, .long e)] [] w tg 0 0 (.inl (some (.int 0)), w, tg, 0, 0) := by
  have h : ¬ (iv_by e s) = 0 := fun q => hq (.inl q)
  by_cases h33 : (iv_by e s) < 33
  · refine iv_Gm 1 (pc2 := 8) (lv2 := [(4, .int s), (3, .int m), (5, .int c), (0, .ref 6), (1, .long e)]) (st2 := [.int s]) (w2 := w) rfl ?_
    refine iv_Gbf (c := decide (s < 0)) (p1 := 62) (p2 := 11) (lv2 := [(4, .int s), (3, .int m), (5, .int c), (0, .ref 6), (1, .long e)]) (st2 := []) (w2 := w) rfl (decide_eq_false hs) ?_
    refine iv_Gm 8 (pc2 := 24) (lv2 := [(5, .int (iv_by e s)), (4, .int s), (3, .int m), (0, .ref 6), (1, .long e)]) (st2 := [.int (iv_by e s)]) (w2 := w) rfl ?_
    refine iv_Gbf (c := decide ((iv_by e s) = 0)) (p1 := 43) (p2 := 27) (lv2 := [(5, .int (iv_by e s)), (4, .int s), (3, .int m), (0, .ref 6), (1, .long e)]) (st2 := []) (w2 := w) rfl (decide_eq_false h) ?_
    refine iv_Gm 2 (pc2 := 31) (lv2 := [(5, .int (iv_by e s)), (4, .int s), (3, .int m), (0, .ref 6), (1, .long e)]) (st2 := [.int 33, .int (iv_by e s)]) (w2 := w) rfl ?_
    refine iv_Gbt (c := decide ((iv_by e s) < 33)) (p1 := 41) (p2 := 34) (lv2 := [(5, .int (iv_by e s)), (4, .int s), (3, .int m), (0, .ref 6), (1, .long e)]) (st2 := []) (w2 := w) rfl (decide_eq_true h33) ?_
    refine iv_Gm 1 (pc2 := 42) (lv2 := [(5, .int (iv_by e s)), (4, .int s), (3, .int m), (0, .ref 6), (1, .long e)]) (st2 := [.int 0]) (w2 := w) rfl ?_
    exact iv_Gret rfl rfl rfl
  · have h127 : ¬ (iv_by e s) < 127 := fun q => hq (.inr ⟨h33, q⟩)
    refine iv_Gm 1 (pc2 := 8) (lv2 := [(4, .int s), (3, .int m), (5, .int c), (0, .ref 6), (1, .long e)]) (st2 := [.int s]) (w2 := w) rfl ?_
    refine iv_Gbf (c := decide (s < 0)) (p1 := 62) (p2 := 11) (lv2 := [(4, .int s), (3, .int m), (5, .int c), (0, .ref 6), (1, .long e)]) (st2 := []) (w2 := w) rfl (decide_eq_false hs) ?_
    refine iv_Gm 8 (pc2 := 24) (lv2 := [(5, .int (iv_by e s)), (4, .int s), (3, .int m), (0, .ref 6), (1, .long e)]) (st2 := [.int (iv_by e s)]) (w2 := w) rfl ?_
    refine iv_Gbf (c := decide ((iv_by e s) = 0)) (p1 := 43) (p2 := 27) (lv2 := [(5, .int (iv_by e s)), (4, .int s), (3, .int m), (0, .ref 6), (1, .long e)]) (st2 := []) (w2 := w) rfl (decide_eq_false h) ?_
    refine iv_Gm 2 (pc2 := 31) (lv2 := [(5, .int (iv_by e s)), (4, .int s), (3, .int m), (0, .ref 6), (1, .long e)]) (st2 := [.int 33, .int (iv_by e s)]) (w2 := w) rfl ?_
    refine iv_Gbf (c := decide ((iv_by e s) < 33)) (p1 := 41) (p2 := 34) (lv2 := [(5, .int (iv_by e s)), (4, .int s), (3, .int m), (0, .ref 6), (1, .long e)]) (st2 := []) (w2 := w) rfl (decide_eq_false h33) ?_
    refine iv_Gm 2 (pc2 := 38) (lv2 := [(5, .int (iv_by e s)), (4, .int s), (3, .int m), (0, .ref 6), (1, .long e)]) (st2 := [.int 126, .int (iv_by e s)]) (w2 := w) rfl ?_
    refine iv_Gbf (c := decide ((iv_by e s) ≤ 126)) (p1 := 43) (p2 := 41) (lv2 := [(5, .int (iv_by e s)), (4, .int s), (3, .int m), (0, .ref 6), (1, .long e)]) (st2 := []) (w2 := w) rfl (decide_eq_false (Int32.not_le.mpr ((iv_lg2 (by decide)).mpr h127))) ?_
    refine iv_Gm 1 (pc2 := 42) (lv2 := [(5, .int (iv_by e s)), (4, .int s), (3, .int m), (0, .ref 6), (1, .long e)]) (st2 := [.int 0]) (w2 := w) rfl ?_
    exact iv_Gret rfl rfl rfl
set_option maxRecDepth 1000000 in
set_option maxHeartbeats 40000000 in
theorem iv_a2f {Q : iv_O → Prop} (hs2 : s + (-8) = s2) (hs : ¬ s < 0) (hn : iv_by e s = 0 ∨ iv_in n 40 = true) (hg : ∀ A2, id_R 7 A A2 → ∃ o, Q o ∧ iv_G L xs d 34 79 [(4, .int s2), (5, .int (iv_by e s)), (3, .int m), (0, .ref 6), (1, .long e)] [] (iv_wd A2 (iv_uF F 603 (n + iv_ct (iv_by e s))) B) tg 0 0 o) : ∃ o, Q o ∧ iv_G L xs d 34 79 [(4, .int s), (3, .int m), (5, .int c), (0, .ref 6), (1, .long e)] [] (iv_wd A (iv_uF F 603 n) B) tg 0 0 o := by
  subst hs2
  by_cases h : (iv_by e s) = 0
  · have e1 : iv_ct (iv_by e s) = 0 := if_pos h
    rw [e1, Int32.add_zero] at hg
    obtain ⟨o, hQ, hg⟩ := hg A id_R_refl
    refine ⟨o, hQ, ?_⟩
    refine iv_Gm 1 (pc2 := 81) (lv2 := [(4, .int s), (3, .int m), (5, .int c), (0, .ref 6), (1, .long e)]) (st2 := [.int s]) (w2 := (iv_wd A (iv_uF F 603 n) B)) rfl ?_
    refine iv_Gbf (c := decide (s < 0)) (p1 := 127) (p2 := 84) (lv2 := [(4, .int s), (3, .int m), (5, .int c), (0, .ref 6), (1, .long e)]) (st2 := []) (w2 := (iv_wd A (iv_uF F 603 n) B)) rfl (decide_eq_false hs) ?_
    refine iv_Gm 8 (pc2 := 97) (lv2 := [(5, .int (iv_by e s)), (4, .int s), (3, .int m), (0, .ref 6), (1, .long e)]) (st2 := [.int (iv_by e s)]) (w2 := (iv_wd A (iv_uF F 603 n) B)) rfl ?_
    refine iv_Gbt (c := decide ((iv_by e s) = 0)) (p1 := 121) (p2 := 100) (lv2 := [(5, .int (iv_by e s)), (4, .int s), (3, .int m), (0, .ref 6), (1, .long e)]) (st2 := []) (w2 := (iv_wd A (iv_uF F 603 n) B)) rfl (decide_eq_true h) ?_
    refine iv_Gm 2 (pc2 := 79) (lv2 := [(4, .int (s + (-8))), (5, .int (iv_by e s)), (3, .int m), (0, .ref 6), (1, .long e)]) (st2 := []) (w2 := (iv_wd A (iv_uF F 603 n) B)) rfl ?_
    exact hg
  · have e1 : iv_ct (iv_by e s) = 1 := if_neg h
    rw [e1] at hg
    obtain ⟨o, hQ, hg⟩ := hg (iv_uA A 7 (Int32.toNatClampNeg n) (iv_by e s)) id_R_up
    refine ⟨o, hQ, ?_⟩
    refine iv_Gm 1 (pc2 := 81) (lv2 := [(4, .int s), (3, .int m), (5, .int c), (0, .ref 6), (1, .long e)]) (st2 := [.int s]) (w2 := (iv_wd A (iv_uF F 603 n) B)) rfl ?_
    refine iv_Gbf (c := decide (s < 0)) (p1 := 127) (p2 := 84) (lv2 := [(4, .int s), (3, .int m), (5, .int c), (0, .ref 6), (1, .long e)]) (st2 := []) (w2 := (iv_wd A (iv_uF F 603 n) B)) rfl (decide_eq_false hs) ?_
    refine iv_Gm 8 (pc2 := 97) (lv2 := [(5, .int (iv_by e s)), (4, .int s), (3, .int m), (0, .ref 6), (1, .long e)]) (st2 := [.int (iv_by e s)]) (w2 := (iv_wd A (iv_uF F 603 n) B)) rfl ?_
    refine iv_Gbf (c := decide ((iv_by e s) = 0)) (p1 := 121) (p2 := 100) (lv2 := [(5, .int (iv_by e s)), (4, .int s), (3, .int m), (0, .ref 6), (1, .long e)]) (st2 := []) (w2 := (iv_wd A (iv_uF F 603 n) B)) rfl (decide_eq_false h) ?_
    refine iv_Gm 5 (pc2 := 110) (lv2 := [(5, .int (iv_by e s)), (4, .int s), (3, .int m), (0, .ref 6), (1, .long e)]) (st2 := [.int (iv_by e s), .int n, .ref 7]) (w2 := (iv_wd A (iv_uF F 603 n) B)) rfl ?_
    refine iv_Gif (pc2 := 111) (lv2 := [(5, .int (iv_by e s)), (4, .int s), (3, .int m), (0, .ref 6), (1, .long e)]) (st2 := []) (w2 := (iv_wd (iv_uA A 7 (Int32.toNatClampNeg n) (iv_by e s)) (iv_uF F 603 n) B)) rfl (hn.resolve_left h) ?_
    refine iv_Gm 8 (pc2 := 79) (lv2 := [(4, .int (s + (-8))), (5, .int (iv_by e s)), (3, .int m), (0, .ref 6), (1, .long e)]) (st2 := []) (w2 := (iv_wd (iv_uA A 7 (Int32.toNatClampNeg n) (iv_by e s)) (iv_uF (iv_uF F 603 n) 603 (n + 1)) B)) rfl ?_
    exact hg
set_option maxRecDepth 1000000 in
set_option maxHeartbeats 40000000 in
theorem iv_a2n {Q : iv_O → Prop} (hs2 : s + (-8) = s2) (hs : ¬ s < 0) (hn : iv_by e s = 0 ∨ iv_in n 40 = true) (hg : ∀ A2, id_R 7 A A2 → ∃ o, Q o ∧ iv_G L xs d 34 79 [(4, .int s2), (5, .int (iv_by e s)), (3, .int m), (0, .ref 6), (1, .long e)] [] (iv_wd A2 (iv_uF F 603 (n + iv_ct (iv_by e s))) B) tg 0 0 o) : ∃ o, Q o ∧ iv_G L xs d 34 79 [(4, .int s), (5, .int c), (3, .int m), (0, .ref 6), (1, .long e)] [] (iv_wd A (iv_uF F 603 n) B) tg 0 0 o := by
  subst hs2
  by_cases h : (iv_by e s) = 0
  · have e1 : iv_ct (iv_by e s) = 0 := if_pos h
    rw [e1, Int32.add_zero] at hg
    obtain ⟨o, hQ, hg⟩ := hg A id_R_refl
    refine ⟨o, hQ, ?_⟩
    refine iv_Gm 1 (pc2 := 81) (lv2 := [(4, .int s), (5, .int c), (3, .int m), (0, .ref 6), (1, .long e)]) (st2 := [.int s]) (w2 := (iv_wd A (iv_uF F 603 n) B)) rfl ?_
    refine iv_Gbf (c := decide (s < 0)) (p1 := 127) (p2 := 84) (lv2 := [(4, .int s), (5, .int c), (3, .int m), (0, .ref 6), (1, .long e)]) (st2 := []) (w2 := (iv_wd A (iv_uF F 603 n) B)) rfl (decide_eq_false hs) ?_
    refine iv_Gm 8 (pc2 := 97) (lv2 := [(5, .int (iv_by e s)), (4, .int s), (3, .int m), (0, .ref 6), (1, .long e)]) (st2 := [.int (iv_by e s)]) (w2 := (iv_wd A (iv_uF F 603 n) B)) rfl ?_
    refine iv_Gbt (c := decide ((iv_by e s) = 0)) (p1 := 121) (p2 := 100) (lv2 := [(5, .int (iv_by e s)), (4, .int s), (3, .int m), (0, .ref 6), (1, .long e)]) (st2 := []) (w2 := (iv_wd A (iv_uF F 603 n) B)) rfl (decide_eq_true h) ?_
    refine iv_Gm 2 (pc2 := 79) (lv2 := [(4, .int (s + (-8))), (5, .int (iv_by e s)), (3, .int m), (0, .ref 6), (1, .long e)]) (st2 := []) (w2 := (iv_wd A (iv_uF F 603 n) B)) rfl ?_
    exact hg
  · have e1 : iv_ct (iv_by e s) = 1 := if_neg h
    rw [e1] at hg
    obtain ⟨o, hQ, hg⟩ := hg (iv_uA A 7 (Int32.toNatClampNeg n) (iv_by e s)) id_R_up
    refine ⟨o, hQ, ?_⟩
    refine iv_Gm 1 (pc2 := 81) (lv2 := [(4, .int s), (5, .int c), (3, .int m), (0, .ref 6), (1, .long e)]) (st2 := [.int s]) (w2 := (iv_wd A (iv_uF F 603 n) B)) rfl ?_
    refine iv_Gbf (c := decide (s < 0)) (p1 := 127) (p2 := 84) (lv2 := [(4, .int s), (5, .int c), (3, .int m), (0, .ref 6), (1, .long e)]) (st2 := []) (w2 := (iv_wd A (iv_uF F 603 n) B)) rfl (decide_eq_false hs) ?_
    refine iv_Gm 8 (pc2 := 97) (lv2 := [(5, .int (iv_by e s)), (4, .int s), (3, .int m), (0, .ref 6), (1, .long e)]) (st2 := [.int (iv_by e s)]) (w2 := (iv_wd A (iv_uF F 603 n) B)) rfl ?_
    refine iv_Gbf (c := decide ((iv_by e s) = 0)) (p1 := 121) (p2 := 100) (lv2 := [(5, .int (iv_by e s)), (4, .int s), (3, .int m), (0, .ref 6), (1, .long e)]) (st2 := []) (w2 := (iv_wd A (iv_uF F 603 n) B)) rfl (decide_eq_false h) ?_
    refine iv_Gm 5 (pc2 := 110) (lv2 := [(5, .int (iv_by e s)), (4, .int s), (3, .int m), (0, .ref 6), (1, .long e)]) (st2 := [.int (iv_by e s), .int n, .ref 7]) (w2 := (iv_wd A (iv_uF F 603 n) B)) rfl ?_
    refine iv_Gif (pc2 := 111) (lv2 := [(5, .int (iv_by e s)), (4, .int s), (3, .int m), (0, .ref 6), (1, .long e)]) (st2 := []) (w2 := (iv_wd (iv_uA A 7 (Int32.toNatClampNeg n) (iv_by e s)) (iv_uF F 603 n) B)) rfl (hn.resolve_left h) ?_
    refine iv_Gm 8 (pc2 := 79) (lv2 := [(4, .int (s + (-8))), (5, .int (iv_by e s)), (3, .int m), (0, .ref 6), (1, .long e)]) (st2 := []) (w2 := (iv_wd (iv_uA A 7 (Int32.toNatClampNeg n) (iv_by e s)) (iv_uF (iv_uF F 603 n) 603 (n + 1)) B)) rfl ?_
    exact hg
set_option maxRecDepth 1000000 in
set_option maxHeartbeats 40000000 in
theorem iv_a2e : iv_G L xs d 34 79 [(4, .int (-8)), (5, .int c), (3, .int m), (0, .ref 6), (1, .long e)] [] (iv_wd A (iv_uF F 603 n) B) tg 0 0 (.inl (some (.int 1)), (iv_wd A (iv_uF F 603 n) B), tg, 0, 0) := by
  refine iv_Gm 3 (pc2 := 128) (lv2 := [(4, .int (-8)), (5, .int c), (3, .int m), (0, .ref 6), (1, .long e)]) (st2 := [.int 1]) (w2 := (iv_wd A (iv_uF F 603 n) B)) rfl ?_
  exact iv_Gret rfl rfl rfl
set_option maxRecDepth 1000000 in
set_option maxHeartbeats 40000000 in
theorem iv_m1f (hs2 : s + (-8) = s2) (hs : ¬ s < 0) (hq : iv_gd (iv_by e s)) (hg : iv_G L xs d 134 14 [(5, .int s2), (3, .int (m + iv_ct (iv_by e s))), (4, .int 1), (6, .int (iv_by e s)), (0, .ref 44), (1, .long e)] [] w tg 0 0 o) : iv_G L xs d 134 14 [(5, .int s), (4, .int 1), (3, .int m), (0, .ref 44), (1, .long e)] [] w tg 0 0 o := by
  subst hs2
  by_cases h : (iv_by e s) = 0
  · have e1 : iv_ct (iv_by e s) = 0 := if_pos h
    rw [e1] at hg
    refine iv_Gm 1 (pc2 := 16) (lv2 := [(5, .int s), (4, .int 1), (3, .int m), (0, .ref 44), (1, .long e)]) (st2 := [.int s]) (w2 := w) rfl ?_
    refine iv_Gbf (c := decide (s < 0)) (p1 := 80) (p2 := 19) (lv2 := [(5, .int s), (4, .int 1), (3, .int m), (0, .ref 44), (1, .long e)]) (st2 := []) (w2 := w) rfl (decide_eq_false hs) ?_
    refine iv_Gm 10 (pc2 := 37) (lv2 := [(6, .int (iv_by e s)), (5, .int s), (4, .int 1), (3, .int m), (0, .ref 44), (1, .long e)]) (st2 := [.int (iv_by e s)]) (w2 := w) rfl ?_
    refine iv_Gbt (c := decide ((iv_by e s) = 0)) (p1 := 54) (p2 := 40) (lv2 := [(6, .int (iv_by e s)), (5, .int s), (4, .int 1), (3, .int m), (0, .ref 44), (1, .long e)]) (st2 := []) (w2 := w) rfl (decide_eq_true h) ?_
    refine iv_Gm 4 (pc2 := 63) (lv2 := [(4, .int 1), (6, .int (iv_by e s)), (5, .int s), (3, .int m), (0, .ref 44), (1, .long e)]) (st2 := [.int (iv_by e s)]) (w2 := w) rfl ?_
    refine iv_Gbf (c := decide (¬ (iv_by e s) = 0)) (p1 := 70) (p2 := 66) (lv2 := [(4, .int 1), (6, .int (iv_by e s)), (5, .int s), (3, .int m), (0, .ref 44), (1, .long e)]) (st2 := []) (w2 := w) rfl (decide_eq_false (fun q => q h)) ?_
    refine iv_Gm 5 (pc2 := 14) (lv2 := [(5, .int (s + (-8))), (3, .int m), (4, .int 1), (6, .int (iv_by e s)), (0, .ref 44), (1, .long e)]) (st2 := []) (w2 := w) rfl ?_
    rw [Int32.add_zero] at hg
    exact hg
  · have e1 : iv_ct (iv_by e s) = 1 := if_neg h
    rw [e1] at hg
    have h33 := (hq.resolve_left h).1
    have h127 := (hq.resolve_left h).2
    refine iv_Gm 1 (pc2 := 16) (lv2 := [(5, .int s), (4, .int 1), (3, .int m), (0, .ref 44), (1, .long e)]) (st2 := [.int s]) (w2 := w) rfl ?_
    refine iv_Gbf (c := decide (s < 0)) (p1 := 80) (p2 := 19) (lv2 := [(5, .int s), (4, .int 1), (3, .int m), (0, .ref 44), (1, .long e)]) (st2 := []) (w2 := w) rfl (decide_eq_false hs) ?_
    refine iv_Gm 10 (pc2 := 37) (lv2 := [(6, .int (iv_by e s)), (5, .int s), (4, .int 1), (3, .int m), (0, .ref 44), (1, .long e)]) (st2 := [.int (iv_by e s)]) (w2 := w) rfl ?_
    refine iv_Gbf (c := decide ((iv_by e s) = 0)) (p1 := 54) (p2 := 40) (lv2 := [(6, .int (iv_by e s)), (5, .int s), (4, .int 1), (3, .int m), (0, .ref 44), (1, .long e)]) (st2 := []) (w2 := w) rfl (decide_eq_false h) ?_
    refine iv_Gm 2 (pc2 := 44) (lv2 := [(6, .int (iv_by e s)), (5, .int s), (4, .int 1), (3, .int m), (0, .ref 44), (1, .long e)]) (st2 := [.int 33, .int (iv_by e s)]) (w2 := w) rfl ?_
    refine iv_Gbf (c := decide ((iv_by e s) < 33)) (p1 := 58) (p2 := 47) (lv2 := [(6, .int (iv_by e s)), (5, .int s), (4, .int 1), (3, .int m), (0, .ref 44), (1, .long e)]) (st2 := []) (w2 := w) rfl (decide_eq_false h33) ?_
    refine iv_Gm 2 (pc2 := 51) (lv2 := [(6, .int (iv_by e s)), (5, .int s), (4, .int 1), (3, .int m), (0, .ref 44), (1, .long e)]) (st2 := [.int 126, .int (iv_by e s)]) (w2 := w) rfl ?_
    refine iv_Gbf (c := decide (126 < (iv_by e s))) (p1 := 58) (p2 := 54) (lv2 := [(6, .int (iv_by e s)), (5, .int s), (4, .int 1), (3, .int m), (0, .ref 44), (1, .long e)]) (st2 := []) (w2 := w) rfl (decide_eq_false (fun q => (iv_lg2 (by decide)).mp q h127)) ?_
    refine iv_Gm 4 (pc2 := 63) (lv2 := [(4, .int 1), (6, .int (iv_by e s)), (5, .int s), (3, .int m), (0, .ref 44), (1, .long e)]) (st2 := [.int (iv_by e s)]) (w2 := w) rfl ?_
    refine iv_Gbt (c := decide (¬ (iv_by e s) = 0)) (p1 := 70) (p2 := 66) (lv2 := [(4, .int 1), (6, .int (iv_by e s)), (5, .int s), (3, .int m), (0, .ref 44), (1, .long e)]) (st2 := []) (w2 := w) rfl (decide_eq_true h) ?_
    refine iv_Gm 6 (pc2 := 14) (lv2 := [(5, .int (s + (-8))), (3, .int (m + 1)), (4, .int 1), (6, .int (iv_by e s)), (0, .ref 44), (1, .long e)]) (st2 := []) (w2 := w) rfl ?_
    exact hg
set_option maxRecDepth 1000000 in
set_option maxHeartbeats 40000000 in
theorem iv_m1fb (hs2 : s + (-8) = s2) (hs : ¬ s < 0) (hq : ¬ iv_gd (iv_by e s)) (hg : iv_G L xs d 134 14 [(5, .int s2), (3, .int (m + iv_ct (iv_by e s))), (4, .int 0), (6, .int (iv_by e s)), (0, .ref 44), (1, .long e)] [] w tg 0 0 o) : iv_G L xs d 134 14 [(5, .int s), (4, .int 1), (3, .int m), (0, .ref 44), (1, .long e)] [] w tg 0 0 o := by
  subst hs2
  by_cases h : (iv_by e s) = 0
  · have e1 : iv_ct (iv_by e s) = 0 := if_pos h
    rw [e1] at hg
    exact absurd (Or.inl h) hq
  · have e1 : iv_ct (iv_by e s) = 1 := if_neg h
    rw [e1] at hg
    by_cases h33 : (iv_by e s) < 33
    · refine iv_Gm 1 (pc2 := 16) (lv2 := [(5, .int s), (4, .int 1), (3, .int m), (0, .ref 44), (1, .long e)]) (st2 := [.int s]) (w2 := w) rfl ?_
      refine iv_Gbf (c := decide (s < 0)) (p1 := 80) (p2 := 19) (lv2 := [(5, .int s), (4, .int 1), (3, .int m), (0, .ref 44), (1, .long e)]) (st2 := []) (w2 := w) rfl (decide_eq_false hs) ?_
      refine iv_Gm 10 (pc2 := 37) (lv2 := [(6, .int (iv_by e s)), (5, .int s), (4, .int 1), (3, .int m), (0, .ref 44), (1, .long e)]) (st2 := [.int (iv_by e s)]) (w2 := w) rfl ?_
      refine iv_Gbf (c := decide ((iv_by e s) = 0)) (p1 := 54) (p2 := 40) (lv2 := [(6, .int (iv_by e s)), (5, .int s), (4, .int 1), (3, .int m), (0, .ref 44), (1, .long e)]) (st2 := []) (w2 := w) rfl (decide_eq_false h) ?_
      refine iv_Gm 2 (pc2 := 44) (lv2 := [(6, .int (iv_by e s)), (5, .int s), (4, .int 1), (3, .int m), (0, .ref 44), (1, .long e)]) (st2 := [.int 33, .int (iv_by e s)]) (w2 := w) rfl ?_
      refine iv_Gbt (c := decide ((iv_by e s) < 33)) (p1 := 58) (p2 := 47) (lv2 := [(6, .int (iv_by e s)), (5, .int s), (4, .int 1), (3, .int m), (0, .ref 44), (1, .long e)]) (st2 := []) (w2 := w) rfl (decide_eq_true h33) ?_
      refine iv_Gm 3 (pc2 := 63) (lv2 := [(4, .int 0), (6, .int (iv_by e s)), (5, .int s), (3, .int m), (0, .ref 44), (1, .long e)]) (st2 := [.int (iv_by e s)]) (w2 := w) rfl ?_
      refine iv_Gbt (c := decide (¬ (iv_by e s) = 0)) (p1 := 70) (p2 := 66) (lv2 := [(4, .int 0), (6, .int (iv_by e s)), (5, .int s), (3, .int m), (0, .ref 44), (1, .long e)]) (st2 := []) (w2 := w) rfl (decide_eq_true h) ?_
      refine iv_Gm 6 (pc2 := 14) (lv2 := [(5, .int (s + (-8))), (3, .int (m + 1)), (4, .int 0), (6, .int (iv_by e s)), (0, .ref 44), (1, .long e)]) (st2 := []) (w2 := w) rfl ?_
      exact hg
    · have h127 : ¬ (iv_by e s) < 127 := fun q => hq (.inr ⟨h33, q⟩)
      refine iv_Gm 1 (pc2 := 16) (lv2 := [(5, .int s), (4, .int 1), (3, .int m), (0, .ref 44), (1, .long e)]) (st2 := [.int s]) (w2 := w) rfl ?_
      refine iv_Gbf (c := decide (s < 0)) (p1 := 80) (p2 := 19) (lv2 := [(5, .int s), (4, .int 1), (3, .int m), (0, .ref 44), (1, .long e)]) (st2 := []) (w2 := w) rfl (decide_eq_false hs) ?_
      refine iv_Gm 10 (pc2 := 37) (lv2 := [(6, .int (iv_by e s)), (5, .int s), (4, .int 1), (3, .int m), (0, .ref 44), (1, .long e)]) (st2 := [.int (iv_by e s)]) (w2 := w) rfl ?_
      refine iv_Gbf (c := decide ((iv_by e s) = 0)) (p1 := 54) (p2 := 40) (lv2 := [(6, .int (iv_by e s)), (5, .int s), (4, .int 1), (3, .int m), (0, .ref 44), (1, .long e)]) (st2 := []) (w2 := w) rfl (decide_eq_false h) ?_
      refine iv_Gm 2 (pc2 := 44) (lv2 := [(6, .int (iv_by e s)), (5, .int s), (4, .int 1), (3, .int m), (0, .ref 44), (1, .long e)]) (st2 := [.int 33, .int (iv_by e s)]) (w2 := w) rfl ?_
      refine iv_Gbf (c := decide ((iv_by e s) < 33)) (p1 := 58) (p2 := 47) (lv2 := [(6, .int (iv_by e s)), (5, .int s), (4, .int 1), (3, .int m), (0, .ref 44), (1, .long e)]) (st2 := []) (w2 := w) rfl (decide_eq_false h33) ?_
      refine iv_Gm 2 (pc2 := 51) (lv2 := [(6, .int (iv_by e s)), (5, .int s), (4, .int 1), (3, .int m), (0, .ref 44), (1, .long e)]) (st2 := [.int 126, .int (iv_by e s)]) (w2 := w) rfl ?_
      refine iv_Gbt (c := decide (126 < (iv_by e s))) (p1 := 58) (p2 := 54) (lv2 := [(6, .int (iv_by e s)), (5, .int s), (4, .int 1), (3, .int m), (0, .ref 44), (1, .long e)]) (st2 := []) (w2 := w) rfl (decide_eq_true ((iv_lg2 (by decide)).mpr h127)) ?_
      refine iv_Gm 3 (pc2 := 63) (lv2 := [(4, .int 0), (6, .int (iv_by e s)), (5, .int s), (3, .int m), (0, .ref 44), (1, .long e)]) (st2 := [.int (iv_by e s)]) (w2 := w) rfl ?_
      refine iv_Gbt (c := decide (¬ (iv_by e s) = 0)) (p1 := 70) (p2 := 66) (lv2 := [(4, .int 0), (6, .int (iv_by e s)), (5, .int s), (3, .int m), (0, .ref 44), (1, .long e)]) (st2 := []) (w2 := w) rfl (decide_eq_true h) ?_
      refine iv_Gm 6 (pc2 := 14) (lv2 := [(5, .int (s + (-8))), (3, .int (m + 1)), (4, .int 0), (6, .int (iv_by e s)), (0, .ref 44), (1, .long e)]) (st2 := []) (w2 := w) rfl ?_
      exact hg
set_option maxRecDepth 1000000 in
set_option maxHeartbeats 40000000 in
theorem iv_m1n (hs2 : s + (-8) = s2) (hs : ¬ s < 0) (hq : iv_gd (iv_by e s)) (hg : iv_G L xs d 134 14 [(5, .int s2), (3, .int (m + iv_ct (iv_by e s))), (4, .int 1), (6, .int (iv_by e s)), (0, .ref 44), (1, .long e)] [] w tg 0 0 o) : iv_G L xs d 134 14 [(5, .int s), (3, .int m), (4, .int 1), (6, .int c), (0, .ref 44), (1, .long e)] [] w tg 0 0 o := by
  subst hs2
  by_cases h : (iv_by e s) = 0
  · have e1 : iv_ct (iv_by e s) = 0 := if_pos h
    rw [e1] at hg
    refine iv_Gm 1 (pc2 := 16) (lv2 := [(5, .int s), (3, .int m), (4, .int 1), (6, .int c), (0, .ref 44), (1, .long e)]) (st2 := [.int s]) (w2 := w) rfl ?_
    refine iv_Gbf (c := decide (s < 0)) (p1 := 80) (p2 := 19) (lv2 := [(5, .int s), (3, .int m), (4, .int 1), (6, .int c), (0, .ref 44), (1, .long e)]) (st2 := []) (w2 := w) rfl (decide_eq_false hs) ?_
    refine iv_Gm 10 (pc2 := 37) (lv2 := [(6, .int (iv_by e s)), (5, .int s), (3, .int m), (4, .int 1), (0, .ref 44), (1, .long e)]) (st2 := [.int (iv_by e s)]) (w2 := w) rfl ?_
    refine iv_Gbt (c := decide ((iv_by e s) = 0)) (p1 := 54) (p2 := 40) (lv2 := [(6, .int (iv_by e s)), (5, .int s), (3, .int m), (4, .int 1), (0, .ref 44), (1, .long e)]) (st2 := []) (w2 := w) rfl (decide_eq_true h) ?_
    refine iv_Gm 4 (pc2 := 63) (lv2 := [(4, .int 1), (6, .int (iv_by e s)), (5, .int s), (3, .int m), (0, .ref 44), (1, .long e)]) (st2 := [.int (iv_by e s)]) (w2 := w) rfl ?_
    refine iv_Gbf (c := decide (¬ (iv_by e s) = 0)) (p1 := 70) (p2 := 66) (lv2 := [(4, .int 1), (6, .int (iv_by e s)), (5, .int s), (3, .int m), (0, .ref 44), (1, .long e)]) (st2 := []) (w2 := w) rfl (decide_eq_false (fun q => q h)) ?_
    refine iv_Gm 5 (pc2 := 14) (lv2 := [(5, .int (s + (-8))), (3, .int m), (4, .int 1), (6, .int (iv_by e s)), (0, .ref 44), (1, .long e)]) (st2 := []) (w2 := w) rfl ?_
    rw [Int32.add_zero] at hg
    exact hg
  · have e1 : iv_ct (iv_by e s) = 1 := if_neg h
    rw [e1] at hg
    have h33 := (hq.resolve_left h).1
    have h127 := (hq.resolve_left h).2
    refine iv_Gm 1 (pc2 := 16) (lv2 := [(5, .int s), (3, .int m), (4, .int 1), (6, .int c), (0, .ref 44), (1, .long e)]) (st2 := [.int s]) (w2 := w) rfl ?_
    refine iv_Gbf (c := decide (s < 0)) (p1 := 80) (p2 := 19) (lv2 := [(5, .int s), (3, .int m), (4, .int 1), (6, .int c), (0, .ref 44), (1, .long e)]) (st2 := []) (w2 := w) rfl (decide_eq_false hs) ?_
    refine iv_Gm 10 (pc2 := 37) (lv2 := [(6, .int (iv_by e s)), (5, .int s), (3, .int m), (4, .int 1), (0, .ref 44), (1, .long e)]) (st2 := [.int (iv_by e s)]) (w2 := w) rfl ?_
    refine iv_Gbf (c := decide ((iv_by e s) = 0)) (p1 := 54) (p2 := 40) (lv2 := [(6, .int (iv_by e s)), (5, .int s), (3, .int m), (4, .int 1), (0, .ref 44), (1, .long e)]) (st2 := []) (w2 := w) rfl (decide_eq_false h) ?_
    refine iv_Gm 2 (pc2 := 44) (lv2 := [(6, .int (iv_by e s)), (5, .int s), (3, .int m), (4, .int 1), (0, .ref 44), (1, .long e)]) (st2 := [.int 33, .int (iv_by e s)]) (w2 := w) rfl ?_
    refine iv_Gbf (c := decide ((iv_by e s) < 33)) (p1 := 58) (p2 := 47) (lv2 := [(6, .int (iv_by e s)), (5, .int s), (3, .int m), (4, .int 1), (0, .ref 44), (1, .long e)]) (st2 := []) (w2 := w) rfl (decide_eq_false h33) ?_
    refine iv_Gm 2 (pc2 := 51) (lv2 := [(6, .int (iv_by e s)), (5, .int s), (3, .int m), (4, .int 1), (0, .ref 44), (1, .long e)]) (st2 := [.int 126, .int (iv_by e s)]) (w2 := w) rfl ?_
    refine iv_Gbf (c := decide (126 < (iv_by e s))) (p1 := 58) (p2 := 54) (lv2 := [(6, .int (iv_by e s)), (5, .int s), (3, .int m), (4, .int 1), (0, .ref 44), (1, .long e)]) (st2 := []) (w2 := w) rfl (decide_eq_false (fun q => (iv_lg2 (by decide)).mp q h127)) ?_
    refine iv_Gm 4 (pc2 := 63) (lv2 := [(4, .int 1), (6, .int (iv_by e s)), (5, .int s), (3, .int m), (0, .ref 44), (1, .long e)]) (st2 := [.int (iv_by e s)]) (w2 := w) rfl ?_
    refine iv_Gbt (c := decide (¬ (iv_by e s) = 0)) (p1 := 70) (p2 := 66) (lv2 := [(4, .int 1), (6, .int (iv_by e s)), (5, .int s), (3, .int m), (0, .ref 44), (1, .long e)]) (st2 := []) (w2 := w) rfl (decide_eq_true h) ?_
    refine iv_Gm 6 (pc2 := 14) (lv2 := [(5, .int (s + (-8))), (3, .int (m + 1)), (4, .int 1), (6, .int (iv_by e s)), (0, .ref 44), (1, .long e)]) (st2 := []) (w2 := w) rfl ?_
    exact hg
set_option maxRecDepth 1000000 in
set_option maxHeartbeats 40000000 in
theorem iv_m1nb (hs2 : s + (-8) = s2) (hs : ¬ s < 0) (hq : ¬ iv_gd (iv_by e s)) (hg : iv_G L xs d 134 14 [(5, .int s2), (3, .int (m + iv_ct (iv_by e s))), (4, .int 0), (6, .int (iv_by e s)), (0, .ref 44), (1, .long e)] [] w tg 0 0 o) : iv_G L xs d 134 14 [(5, .int s), (3, .int m), (4, .int 1), (6, .int c), (0, .ref 44), (1, .long e)] [] w tg 0 0 o := by
  subst hs2
  by_cases h : (iv_by e s) = 0
  · have e1 : iv_ct (iv_by e s) = 0 := if_pos h
    rw [e1] at hg
    exact absurd (Or.inl h) hq
  · have e1 : iv_ct (iv_by e s) = 1 := if_neg h
    rw [e1] at hg
    by_cases h33 : (iv_by e s) < 33
    · refine iv_Gm 1 (pc2 := 16) (lv2 := [(5, .int s), (3, .int m), (4, .int 1), (6, .int c), (0, .ref 44), (1, .long e)]) (st2 := [.int s]) (w2 := w) rfl ?_
      refine iv_Gbf (c := decide (s < 0)) (p1 := 80) (p2 := 19) (lv2 := [(5, .int s), (3, .int m), (4, .int 1), (6, .int c), (0, .ref 44), (1, .long e)]) (st2 := []) (w2 := w) rfl (decide_eq_false hs) ?_
      refine iv_Gm 10 (pc2 := 37) (lv2 := [(6, .int (iv_by e s)), (5, .int s), (3, .int m), (4, .int 1), (0, .ref 44), (1, .long e)]) (st2 := [.int (iv_by e s)]) (w2 := w) rfl ?_
      refine iv_Gbf (c := decide ((iv_by e s) = 0)) (p1 := 54) (p2 := 40) (lv2 := [(6, .int (iv_by e s)), (5, .int s), (3, .int m), (4, .int 1), (0, .ref 44), (1, .long e)]) (st2 := []) (w2 := w) rfl (decide_eq_false h) ?_
      refine iv_Gm 2 (pc2 := 44) (lv2 := [(6, .int (iv_by e s)), (5, .int s), (3, .int m), (4, .int 1), (0, .ref 44), (1, .long e)]) (st2 := [.int 33, .int (iv_by e s)]) (w2 := w) rfl ?_
      refine iv_Gbt (c := decide ((iv_by e s) < 33)) (p1 := 58) (p2 := 47) (lv2 := [(6, .int (iv_by e s)), (5, .int s), (3, .int m), (4, .int 1), (0, .ref 44), (1, .long e)]) (st2 := []) (w2 := w) rfl (decide_eq_true h33) ?_
      refine iv_Gm 3 (pc2 := 63) (lv2 := [(4, .int 0), (6, .int (iv_by e s)), (5, .int s), (3, .int m), (0, .ref 44), (1, .long e)]) (st2 := [.int (iv_by e s)]) (w2 := w) rfl ?_
      refine iv_Gbt (c := decide (¬ (iv_by e s) = 0)) (p1 := 70) (p2 := 66) (lv2 := [(4, .int 0), (6, .int (iv_by e s)), (5, .int s), (3, .int m), (0, .ref 44), (1, .long e)]) (st2 := []) (w2 := w) rfl (decide_eq_true h) ?_
      refine iv_Gm 6 (pc2 := 14) (lv2 := [(5, .int (s + (-8))), (3, .int (m + 1)), (4, .int 0), (6, .int (iv_by e s)), (0, .ref 44), (1, .long e)]) (st2 := []) (w2 := w) rfl ?_
      exact hg
    · have h127 : ¬ (iv_by e s) < 127 := fun q => hq (.inr ⟨h33, q⟩)
      refine iv_Gm 1 (pc2 := 16) (lv2 := [(5, .int s), (3, .int m), (4, .int 1), (6, .int c), (0, .ref 44), (1, .long e)]) (st2 := [.int s]) (w2 := w) rfl ?_
      refine iv_Gbf (c := decide (s < 0)) (p1 := 80) (p2 := 19) (lv2 := [(5, .int s), (3, .int m), (4, .int 1), (6, .int c), (0, .ref 44), (1, .long e)]) (st2 := []) (w2 := w) rfl (decide_eq_false hs) ?_
      refine iv_Gm 10 (pc2 := 37) (lv2 := [(6, .int (iv_by e s)), (5, .int s), (3, .int m), (4, .int 1), (0, .ref 44), (1, .long e)]) (st2 := [.int (iv_by e s)]) (w2 := w) rfl ?_
      refine iv_Gbf (c := decide ((iv_by e s) = 0)) (p1 := 54) (p2 := 40) (lv2 := [(6, .int (iv_by e s)), (5, .int s), (3, .int m), (4, .int 1), (0, .ref 44), (1, .long e)]) (st2 := []) (w2 := w) rfl (decide_eq_false h) ?_
      refine iv_Gm 2 (pc2 := 44) (lv2 := [(6, .int (iv_by e s)), (5, .int s), (3, .int m), (4, .int 1), (0, .ref 44), (1, .long e)]) (st2 := [.int 33, .int (iv_by e s)]) (w2 := w) rfl ?_
      refine iv_Gbf (c := decide ((iv_by e s) < 33)) (p1 := 58) (p2 := 47) (lv2 := [(6, .int (iv_by e s)), (5, .int s), (3, .int m), (4, .int 1), (0, .ref 44), (1, .long e)]) (st2 := []) (w2 := w) rfl (decide_eq_false h33) ?_
      refine iv_Gm 2 (pc2 := 51) (lv2 := [(6, .int (iv_by e s)), (5, .int s), (3, .int m), (4, .int 1), (0, .ref 44), (1, .long e)]) (st2 := [.int 126, .int (iv_by e s)]) (w2 := w) rfl ?_
      refine iv_Gbt (c := decide (126 < (iv_by e s))) (p1 := 58) (p2 := 54) (lv2 := [(6, .int (iv_by e s)), (5, .int s), (3, .int m), (4, .int 1), (0, .ref 44), (1, .long e)]) (st2 := []) (w2 := w) rfl (decide_eq_true ((iv_lg2 (by decide)).mpr h127)) ?_
      refine iv_Gm 3 (pc2 := 63) (lv2 := [(4, .int 0), (6, .int (iv_by e s)), (5, .int s), (3, .int m), (0, .ref 44), (1, .long e)]) (st2 := [.int (iv_by e s)]) (w2 := w) rfl ?_
      refine iv_Gbt (c := decide (¬ (iv_by e s) = 0)) (p1 := 70) (p2 := 66) (lv2 := [(4, .int 0), (6, .int (iv_by e s)), (5, .int s), (3, .int m), (0, .ref 44), (1, .long e)]) (st2 := []) (w2 := w) rfl (decide_eq_true h) ?_
      refine iv_Gm 6 (pc2 := 14) (lv2 := [(5, .int (s + (-8))), (3, .int (m + 1)), (4, .int 0), (6, .int (iv_by e s)), (0, .ref 44), (1, .long e)]) (st2 := []) (w2 := w) rfl ?_
      exact hg
set_option maxRecDepth 1000000 in
set_option maxHeartbeats 40000000 in
theorem iv_m1n0 (hs2 : s + (-8) = s2) (hs : ¬ s < 0) (hg : iv_G L xs d 134 14 [(5, .int s2), (3, .int (m + iv_ct (iv_by e s))), (4, .int 0), (6, .int (iv_by e s)), (0, .ref 44), (1, .long e)] [] w tg 0 0 o) : iv_G L xs d 134 14 [(5, .int s), (3, .int m), (4, .int 0), (6, .int c), (0, .ref 44), (1, .long e)] [] w tg 0 0 o := by
  subst hs2
  by_cases h : (iv_by e s) = 0
  · have e1 : iv_ct (iv_by e s) = 0 := if_pos h
    rw [e1] at hg
    refine iv_Gm 1 (pc2 := 16) (lv2 := [(5, .int s), (3, .int m), (4, .int 0), (6, .int c), (0, .ref 44), (1, .long e)]) (st2 := [.int s]) (w2 := w) rfl ?_
    refine iv_Gbf (c := decide (s < 0)) (p1 := 80) (p2 := 19) (lv2 := [(5, .int s), (3, .int m), (4, .int 0), (6, .int c), (0, .ref 44), (1, .long e)]) (st2 := []) (w2 := w) rfl (decide_eq_false hs) ?_
    refine iv_Gm 12 (pc2 := 63) (lv2 := [(4, .int 0), (6, .int (iv_by e s)), (5, .int s), (3, .int m), (0, .ref 44), (1, .long e)]) (st2 := [.int (iv_by e s)]) (w2 := w) rfl ?_
    refine iv_Gbf (c := decide (¬ (iv_by e s) = 0)) (p1 := 70) (p2 := 66) (lv2 := [(4, .int 0), (6, .int (iv_by e s)), (5, .int s), (3, .int m), (0, .ref 44), (1, .long e)]) (st2 := []) (w2 := w) rfl (decide_eq_false (fun q => q h)) ?_
    refine iv_Gm 5 (pc2 := 14) (lv2 := [(5, .int (s + (-8))), (3, .int m), (4, .int 0), (6, .int (iv_by e s)), (0, .ref 44), (1, .long e)]) (st2 := []) (w2 := w) rfl ?_
    rw [Int32.add_zero] at hg
    exact hg
  · have e1 : iv_ct (iv_by e s) = 1 := if_neg h
    rw [e1] at hg
    refine iv_Gm 1 (pc2 := 16) (lv2 := [(5, .int s), (3, .int m), (4, .int 0), (6, .int c), (0, .ref 44), (1, .long e)]) (st2 := [.int s]) (w2 := w) rfl ?_
    refine iv_Gbf (c := decide (s < 0)) (p1 := 80) (p2 := 19) (lv2 := [(5, .int s), (3, .int m), (4, .int 0), (6, .int c), (0, .ref 44), (1, .long e)]) (st2 := []) (w2 := w) rfl (decide_eq_false hs) ?_
    refine iv_Gm 12 (pc2 := 63) (lv2 := [(4, .int 0), (6, .int (iv_by e s)), (5, .int s), (3, .int m), (0, .ref 44), (1, .long e)]) (st2 := [.int (iv_by e s)]) (w2 := w) rfl ?_
    refine iv_Gbt (c := decide (¬ (iv_by e s) = 0)) (p1 := 70) (p2 := 66) (lv2 := [(4, .int 0), (6, .int (iv_by e s)), (5, .int s), (3, .int m), (0, .ref 44), (1, .long e)]) (st2 := []) (w2 := w) rfl (decide_eq_true h) ?_
    refine iv_Gm 6 (pc2 := 14) (lv2 := [(5, .int (s + (-8))), (3, .int (m + 1)), (4, .int 0), (6, .int (iv_by e s)), (0, .ref 44), (1, .long e)]) (st2 := []) (w2 := w) rfl ?_
    exact hg
set_option maxRecDepth 1000000 in
set_option maxHeartbeats 40000000 in
theorem iv_m2f {Q : iv_O → Prop} (hs2 : s + (-8) = s2) (hs : ¬ s < 0) (hn : iv_by e s = 0 ∨ iv_in n 40 = true) (hg : ∀ A2, id_R 45 A A2 → ∃ o, Q o ∧ iv_G L xs d 134 102 [(5, .int s2), (6, .int (iv_by e s)), (3, .int m), (4, .int 1), (0, .ref 44), (1, .long e)] [] (iv_wd A2 (iv_uF F 4401 (n + iv_ct (iv_by e s))) B) tg 0 0 o) : ∃ o, Q o ∧ iv_G L xs d 134 102 [(5, .int s), (3, .int m), (4, .int 1), (6, .int c), (0, .ref 44), (1, .long e)] [] (iv_wd A (iv_uF F 4401 n) B) tg 0 0 o := by
  subst hs2
  by_cases h : (iv_by e s) = 0
  · have e1 : iv_ct (iv_by e s) = 0 := if_pos h
    rw [e1, Int32.add_zero] at hg
    obtain ⟨o, hQ, hg⟩ := hg A id_R_refl
    refine ⟨o, hQ, ?_⟩
    refine iv_Gm 1 (pc2 := 104) (lv2 := [(5, .int s), (3, .int m), (4, .int 1), (6, .int c), (0, .ref 44), (1, .long e)]) (st2 := [.int s]) (w2 := (iv_wd A (iv_uF F 4401 n) B)) rfl ?_
    refine iv_Gbf (c := decide (s < 0)) (p1 := 150) (p2 := 107) (lv2 := [(5, .int s), (3, .int m), (4, .int 1), (6, .int c), (0, .ref 44), (1, .long e)]) (st2 := []) (w2 := (iv_wd A (iv_uF F 4401 n) B)) rfl (decide_eq_false hs) ?_
    refine iv_Gm 8 (pc2 := 120) (lv2 := [(6, .int (iv_by e s)), (5, .int s), (3, .int m), (4, .int 1), (0, .ref 44), (1, .long e)]) (st2 := [.int (iv_by e s)]) (w2 := (iv_wd A (iv_uF F 4401 n) B)) rfl ?_
    refine iv_Gbt (c := decide ((iv_by e s) = 0)) (p1 := 144) (p2 := 123) (lv2 := [(6, .int (iv_by e s)), (5, .int s), (3, .int m), (4, .int 1), (0, .ref 44), (1, .long e)]) (st2 := []) (w2 := (iv_wd A (iv_uF F 4401 n) B)) rfl (decide_eq_true h) ?_
    refine iv_Gm 2 (pc2 := 102) (lv2 := [(5, .int (s + (-8))), (6, .int (iv_by e s)), (3, .int m), (4, .int 1), (0, .ref 44), (1, .long e)]) (st2 := []) (w2 := (iv_wd A (iv_uF F 4401 n) B)) rfl ?_
    exact hg
  · have e1 : iv_ct (iv_by e s) = 1 := if_neg h
    rw [e1] at hg
    obtain ⟨o, hQ, hg⟩ := hg (iv_uA A 45 (Int32.toNatClampNeg n) (iv_by e s)) id_R_up
    refine ⟨o, hQ, ?_⟩
    refine iv_Gm 1 (pc2 := 104) (lv2 := [(5, .int s), (3, .int m), (4, .int 1), (6, .int c), (0, .ref 44), (1, .long e)]) (st2 := [.int s]) (w2 := (iv_wd A (iv_uF F 4401 n) B)) rfl ?_
    refine iv_Gbf (c := decide (s < 0)) (p1 := 150) (p2 := 107) (lv2 := [(5, .int s), (3, .int m), (4, .int 1), (6, .int c), (0, .ref 44), (1, .long e)]) (st2 := []) (w2 := (iv_wd A (iv_uF F 4401 n) B)) rfl (decide_eq_false hs) ?_
    refine iv_Gm 8 (pc2 := 120) (lv2 := [(6, .int (iv_by e s)), (5, .int s), (3, .int m), (4, .int 1), (0, .ref 44), (1, .long e)]) (st2 := [.int (iv_by e s)]) (w2 := (iv_wd A (iv_uF F 4401 n) B)) rfl ?_
    refine iv_Gbf (c := decide ((iv_by e s) = 0)) (p1 := 144) (p2 := 123) (lv2 := [(6, .int (iv_by e s)), (5, .int s), (3, .int m), (4, .int 1), (0, .ref 44), (1, .long e)]) (st2 := []) (w2 := (iv_wd A (iv_uF F 4401 n) B)) rfl (decide_eq_false h) ?_
    refine iv_Gm 5 (pc2 := 133) (lv2 := [(6, .int (iv_by e s)), (5, .int s), (3, .int m), (4, .int 1), (0, .ref 44), (1, .long e)]) (st2 := [.int (iv_by e s), .int n, .ref 45]) (w2 := (iv_wd A (iv_uF F 4401 n) B)) rfl ?_
    refine iv_Gif (pc2 := 134) (lv2 := [(6, .int (iv_by e s)), (5, .int s), (3, .int m), (4, .int 1), (0, .ref 44), (1, .long e)]) (st2 := []) (w2 := (iv_wd (iv_uA A 45 (Int32.toNatClampNeg n) (iv_by e s)) (iv_uF F 4401 n) B)) rfl (hn.resolve_left h) ?_
    refine iv_Gm 8 (pc2 := 102) (lv2 := [(5, .int (s + (-8))), (6, .int (iv_by e s)), (3, .int m), (4, .int 1), (0, .ref 44), (1, .long e)]) (st2 := []) (w2 := (iv_wd (iv_uA A 45 (Int32.toNatClampNeg n) (iv_by e s)) (iv_uF (iv_uF F 4401 n) 4401 (n + 1)) B)) rfl ?_
    exact hg
set_option maxRecDepth 1000000 in
set_option maxHeartbeats 40000000 in
theorem iv_m2n {Q : iv_O → Prop} (hs2 : s + (-8) = s2) (hs : ¬ s < 0) (hn : iv_by e s = 0 ∨ iv_in n 40 = true) (hg : ∀ A2, id_R 45 A A2 → ∃ o, Q o ∧ iv_G L xs d 134 102 [(5, .int s2), (6, .int (iv_by e s)), (3, .int m), (4, .int 1), (0, .ref 44), (1, .long e)] [] (iv_wd A2 (iv_uF F 4401 (n + iv_ct (iv_by e s))) B) tg 0 0 o) : ∃ o, Q o ∧ iv_G L xs d 134 102 [(5, .int s), (6, .int c), (3, .int m), (4, .int 1), (0, .ref 44), (1, .long e)] [] (iv_wd A (iv_uF F 4401 n) B) tg 0 0 o := by
  subst hs2
  by_cases h : (iv_by e s) = 0
  · have e1 : iv_ct (iv_by e s) = 0 := if_pos h
    rw [e1, Int32.add_zero] at hg
    obtain ⟨o, hQ, hg⟩ := hg A id_R_refl
    refine ⟨o, hQ, ?_⟩
    refine iv_Gm 1 (pc2 := 104) (lv2 := [(5, .int s), (6, .int c), (3, .int m), (4, .int 1), (0, .ref 44), (1, .long e)]) (st2 := [.int s]) (w2 := (iv_wd A (iv_uF F 4401 n) B)) rfl ?_
    refine iv_Gbf (c := decide (s < 0)) (p1 := 150) (p2 := 107) (lv2 := [(5, .int s), (6, .int c), (3, .int m), (4, .int 1), (0, .ref 44), (1, .long e)]) (st2 := []) (w2 := (iv_wd A (iv_uF F 4401 n) B)) rfl (decide_eq_false hs) ?_
    refine iv_Gm 8 (pc2 := 120) (lv2 := [(6, .int (iv_by e s)), (5, .int s), (3, .int m), (4, .int 1), (0, .ref 44), (1, .long e)]) (st2 := [.int (iv_by e s)]) (w2 := (iv_wd A (iv_uF F 4401 n) B)) rfl ?_
    refine iv_Gbt (c := decide ((iv_by e s) = 0)) (p1 := 144) (p2 := 123) (lv2 := [(6, .int (iv_by e s)), (5, .int s), (3, .int m), (4, .int 1), (0, .ref 44), (1, .long e)]) (st2 := []) (w2 := (iv_wd A (iv_uF F 4401 n) B)) rfl (decide_eq_true h) ?_
    refine iv_Gm 2 (pc2 := 102) (lv2 := [(5, .int (s + (-8))), (6, .int (iv_by e s)), (3, .int m), (4, .int 1), (0, .ref 44), (1, .long e)]) (st2 := []) (w2 := (iv_wd A (iv_uF F 4401 n) B)) rfl ?_
    exact hg
  · have e1 : iv_ct (iv_by e s) = 1 := if_neg h
    rw [e1] at hg
    obtain ⟨o, hQ, hg⟩ := hg (iv_uA A 45 (Int32.toNatClampNeg n) (iv_by e s)) id_R_up
    refine ⟨o, hQ, ?_⟩
    refine iv_Gm 1 (pc2 := 104) (lv2 := [(5, .int s), (6, .int c), (3, .int m), (4, .int 1), (0, .ref 44), (1, .long e)]) (st2 := [.int s]) (w2 := (iv_wd A (iv_uF F 4401 n) B)) rfl ?_
    refine iv_Gbf (c := decide (s < 0)) (p1 := 150) (p2 := 107) (lv2 := [(5, .int s), (6, .int c), (3, .int m), (4, .int 1), (0, .ref 44), (1, .long e)]) (st2 := []) (w2 := (iv_wd A (iv_uF F 4401 n) B)) rfl (decide_eq_false hs) ?_
    refine iv_Gm 8 (pc2 := 120) (lv2 := [(6, .int (iv_by e s)), (5, .int s), (3, .int m), (4, .int 1), (0, .ref 44), (1, .long e)]) (st2 := [.int (iv_by e s)]) (w2 := (iv_wd A (iv_uF F 4401 n) B)) rfl ?_
    refine iv_Gbf (c := decide ((iv_by e s) = 0)) (p1 := 144) (p2 := 123) (lv2 := [(6, .int (iv_by e s)), (5, .int s), (3, .int m), (4, .int 1), (0, .ref 44), (1, .long e)]) (st2 := []) (w2 := (iv_wd A (iv_uF F 4401 n) B)) rfl (decide_eq_false h) ?_
    refine iv_Gm 5 (pc2 := 133) (lv2 := [(6, .int (iv_by e s)), (5, .int s), (3, .int m), (4, .int 1), (0, .ref 44), (1, .long e)]) (st2 := [.int (iv_by e s), .int n, .ref 45]) (w2 := (iv_wd A (iv_uF F 4401 n) B)) rfl ?_
    refine iv_Gif (pc2 := 134) (lv2 := [(6, .int (iv_by e s)), (5, .int s), (3, .int m), (4, .int 1), (0, .ref 44), (1, .long e)]) (st2 := []) (w2 := (iv_wd (iv_uA A 45 (Int32.toNatClampNeg n) (iv_by e s)) (iv_uF F 4401 n) B)) rfl (hn.resolve_left h) ?_
    refine iv_Gm 8 (pc2 := 102) (lv2 := [(5, .int (s + (-8))), (6, .int (iv_by e s)), (3, .int m), (4, .int 1), (0, .ref 44), (1, .long e)]) (st2 := []) (w2 := (iv_wd (iv_uA A 45 (Int32.toNatClampNeg n) (iv_by e s)) (iv_uF (iv_uF F 4401 n) 4401 (n + 1)) B)) rfl ?_
    exact hg
set_option maxRecDepth 1000000 in
set_option maxHeartbeats 40000000 in
theorem iv_m2e : iv_G L xs d 134 102 [(5, .int (-8)), (6, .int c), (3, .int m), (4, .int 1), (0, .ref 44), (1, .long e)] [] (iv_wd A (iv_uF F 4401 n) B) tg 0 0 (.inl (some (.int 1)), (iv_wd A (iv_uF F 4401 n) B), tg, 0, 0) := by
  refine iv_Gm 3 (pc2 := 151) (lv2 := [(5, .int (-8)), (6, .int c), (3, .int m), (4, .int 1), (0, .ref 44), (1, .long e)]) (st2 := [.int 1]) (w2 := (iv_wd A (iv_uF F 4401 n) B)) rfl ?_
  exact iv_Gret rfl rfl rfl
set_option maxRecDepth 1000000 in
set_option maxHeartbeats 40000000 in
theorem iv_a12 (hm : F 603 + m < 41) (hg : iv_G L xs d 34 79 [(4, .int 56), (3, .int m), (5, .int c), (0, .ref 6), (1, .long e)] [] (iv_wd A F B) tg 0 0 o) : iv_G L xs d 34 6 [(4, .int (-8)), (3, .int m), (5, .int c), (0, .ref 6), (1, .long e)] [] (iv_wd A F B) tg 0 0 o := by
  refine iv_Gm 7 (pc2 := 70) (lv2 := [(4, .int (-8)), (3, .int m), (5, .int c), (0, .ref 6), (1, .long e)]) (st2 := [.int 40, .int (F 603 + m)]) (w2 := (iv_wd A F B)) rfl ?_
  refine iv_Gbt (c := decide ((F 603 + m) ≤ 40)) (p1 := 75) (p2 := 73) (lv2 := [(4, .int (-8)), (3, .int m), (5, .int c), (0, .ref 6), (1, .long e)]) (st2 := []) (w2 := (iv_wd A F B)) rfl (decide_eq_true (Int32.not_lt.mp (fun q => (iv_lg2 (by decide)).mp q hm))) ?_
  refine iv_Gm 2 (pc2 := 79) (lv2 := [(4, .int 56), (3, .int m), (5, .int c), (0, .ref 6), (1, .long e)]) (st2 := []) (w2 := (iv_wd A F B)) rfl ?_
  exact hg
set_option maxRecDepth 1000000 in
set_option maxHeartbeats 40000000 in
theorem iv_a12b (hm : ¬ F 603 + m < 41) : iv_G L xs d 34 6 [(4, .int (-8)), (3, .int m), (5, .int c), (0, .ref 6), (1, .long e)] [] (iv_wd A F B) tg 0 0 (.inl (some (.int 0)), (iv_wd A F B), tg, 0, 0) := by
  refine iv_Gm 7 (pc2 := 70) (lv2 := [(4, .int (-8)), (3, .int m), (5, .int c), (0, .ref 6), (1, .long e)]) (st2 := [.int 40, .int (F 603 + m)]) (w2 := (iv_wd A F B)) rfl ?_
  refine iv_Gbf (c := decide ((F 603 + m) ≤ 40)) (p1 := 75) (p2 := 73) (lv2 := [(4, .int (-8)), (3, .int m), (5, .int c), (0, .ref 6), (1, .long e)]) (st2 := []) (w2 := (iv_wd A F B)) rfl (decide_eq_false (fun q => Int32.not_lt.mpr q ((iv_lg2 (by decide)).mpr hm))) ?_
  refine iv_Gm 1 (pc2 := 74) (lv2 := [(4, .int (-8)), (3, .int m), (5, .int c), (0, .ref 6), (1, .long e)]) (st2 := [.int 0]) (w2 := (iv_wd A F B)) rfl ?_
  exact iv_Gret rfl rfl rfl
set_option maxRecDepth 1000000 in
set_option maxHeartbeats 40000000 in
theorem iv_t12 (hm : F 4401 + m < 41) (hg : iv_G L xs d 134 102 [(5, .int 56), (3, .int m), (4, .int 1), (6, .int c), (0, .ref 44), (1, .long e)] [] (iv_wd A F B) tg 0 0 o) : iv_G L xs d 134 14 [(5, .int (-8)), (3, .int m), (4, .int 1), (6, .int c), (0, .ref 44), (1, .long e)] [] (iv_wd A F B) tg 0 0 o := by
  refine iv_Gm 9 (pc2 := 93) (lv2 := [(5, .int (-8)), (3, .int m), (4, .int 1), (6, .int c), (0, .ref 44), (1, .long e)]) (st2 := [.int 40, .int (F 4401 + m)]) (w2 := (iv_wd A F B)) rfl ?_
  refine iv_Gbt (c := decide ((F 4401 + m) ≤ 40)) (p1 := 98) (p2 := 96) (lv2 := [(5, .int (-8)), (3, .int m), (4, .int 1), (6, .int c), (0, .ref 44), (1, .long e)]) (st2 := []) (w2 := (iv_wd A F B)) rfl (decide_eq_true (Int32.not_lt.mp (fun q => (iv_lg2 (by decide)).mp q hm))) ?_
  refine iv_Gm 2 (pc2 := 102) (lv2 := [(5, .int 56), (3, .int m), (4, .int 1), (6, .int c), (0, .ref 44), (1, .long e)]) (st2 := []) (w2 := (iv_wd A F B)) rfl ?_
  exact hg
set_option maxRecDepth 1000000 in
set_option maxHeartbeats 40000000 in
theorem iv_t12b (hm : ¬ F 4401 + m < 41) : iv_G L xs d 134 14 [(5, .int (-8)), (3, .int m), (4, .int 1), (6, .int c), (0, .ref 44), (1, .long e)] [] (iv_wd A F B) tg 0 0 (.inl (some (.int 0)), (iv_wd A F B), tg, 0, 0) := by
  refine iv_Gm 9 (pc2 := 93) (lv2 := [(5, .int (-8)), (3, .int m), (4, .int 1), (6, .int c), (0, .ref 44), (1, .long e)]) (st2 := [.int 40, .int (F 4401 + m)]) (w2 := (iv_wd A F B)) rfl ?_
  refine iv_Gbf (c := decide ((F 4401 + m) ≤ 40)) (p1 := 98) (p2 := 96) (lv2 := [(5, .int (-8)), (3, .int m), (4, .int 1), (6, .int c), (0, .ref 44), (1, .long e)]) (st2 := []) (w2 := (iv_wd A F B)) rfl (decide_eq_false (fun q => Int32.not_lt.mpr q ((iv_lg2 (by decide)).mpr hm))) ?_
  refine iv_Gm 1 (pc2 := 97) (lv2 := [(5, .int (-8)), (3, .int m), (4, .int 1), (6, .int c), (0, .ref 44), (1, .long e)]) (st2 := [.int 0]) (w2 := (iv_wd A F B)) rfl ?_
  exact iv_Gret rfl rfl rfl
set_option maxRecDepth 1000000 in
set_option maxHeartbeats 40000000 in
theorem iv_m1e : iv_G L xs d 134 14 [(5, .int (-8)), (3, .int m), (4, .int 0), (6, .int c), (0, .ref 44), (1, .long e)] [] (iv_wd A F B) tg 0 0 (.inl (some (.int 0)), (iv_wd A F B), tg, 0, 0) := by
  refine iv_Gm 5 (pc2 := 97) (lv2 := [(5, .int (-8)), (3, .int m), (4, .int 0), (6, .int c), (0, .ref 44), (1, .long e)]) (st2 := [.int 0]) (w2 := (iv_wd A F B)) rfl ?_
  exact iv_Gret rfl rfl rfl
end
