theorem iv_law_run (L : Nat) (xs : Nat → Int32) (hL : L ≤ 6) : ∃ (n : Nat) (w2 : iv_W) (tg2 : Bool) (k2 z2 : Nat), iv_run L xs n 20 0 0 [(0, .ref 0)] [] [] true 0 0 = some (.inl (some (.int 1)), w2, tg2, k2, z2) ∧ k2 ≤ 600002 ∧ z2 ≤ 7302232 := by
  sorry
