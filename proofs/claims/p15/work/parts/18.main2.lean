set_option maxHeartbeats 4000000 in
theorem iv_sound (htab : iv_Tab) (L : Nat) (xs : Nat → Int32) (sz b : Nat) (D : va_G) (tc : Nat → ClassId) : ∀ n, iv_Sound L xs sz b D tc n := by
  intro n
  induction n with
  | zero =>
    intro d μ pc lv st w tg k z o w2 tg2 k2 z2 h
    simp [iv_run] at h
  | succ n ih =>
    intro d μ pc lv st w tg k z o w2 tg2 k2 z2 h p l e R s m args below meth c H locs ls Q hx hb hml hown hts hlocks hname hHx hLn hSt hP hS hl hT hfr hlo hk2 hz2 hret hthr
    have hmono := iv_run_mono _ _ _ _ _ _ _ _ _ _ _ _ _ _ _ h
    have hz0 := hSt.2.2.2.2.2.1
    unfold iv_run at h
    split at h
    · cases h
    next i x e0 =>
    obtain ⟨hμ, hok, hokn, hokl, hokc, hokt⟩ := htab μ pc i x e0
    split at h
    next hkd =>
      split at h
      · cases h
      next pc2 lv2 st2 w3 e1 =>
      refine iv_step_ok hx hb hown hts hname hSt.1 hSt.2.2.2.1 hSt.2.2.2.2.1 hz0 hP hS hl hok e1 (fun H1 locs1 ls1 q1 q2 q3 => ?_)
      exact ih _ _ _ _ _ _ _ _ _ _ _ _ _ _ h p l e R s m args below meth c H1 locs1 ls1 Q hx hb hml hown hts hlocks hname hHx hLn hSt q1 q2 q3 (fun ht => by rw [iv_step_len e1]; exact hT ht) hfr hlo hk2 hz2 hret hthr
    next hkd =>
      split at h
      · cases h
      next v e1 =>
      cases h
      exact hret v rfl pc i x st H locs ls hok.1 e1 hP hS
    next hkd =>
      split at h
      next hc =>
        cases h
        exact iv_throw_ok hx hb hml hown hts hlocks hHx hLn hSt hP hS hl hok.1 (hokt hkd) hc hfr hlo hk2 hz2 (hthr _ rfl)
      · cases h
    next hkd =>
      split at h
      next ht =>
        split at h
        · cases h
        next y r a len e1 =>
        have hm2 := iv_run_mono _ _ _ _ _ _ _ _ _ _ _ _ _ _ _ h
        refine iv_new_ok hx hb hown hts hSt.1 hSt.2.2.1 hz0 hP hS hok.1 (hokn hkd) e1 (hT ht) (by omega) (by omega) (fun H1 q1 q2 => ?_)
        exact ih _ _ _ _ _ _ _ _ _ _ _ _ _ _ h p l e R s m args below meth c H1 locs ls Q hx hb hml hown hts hlocks hname hHx hLn hSt q1 q2 hl (fun _ => by rw [List.length_append]; have := hT ht; simp only [List.length_cons, List.length_nil]; omega) hfr hlo hk2 hz2 hret hthr
      · cases h
    next hkd =>
      split at h
      · cases h
      next st2 w3 e1 =>
      refine iv_lib_ok hx hb hml hown hts hSt.1 hP hS hl hok.1 (hokl hkd) e1 (by omega) (by omega) (by omega) (by omega) (fun H1 locs1 q1 q2 => ?_)
      exact ih _ _ _ _ _ _ _ _ _ _ _ _ _ _ h p l e R s m args below meth c H1 locs1 ls Q hx hb hml hown hts hlocks hname hHx hLn hSt q1 q2 hl (fun ht => by rw [iv_lib_len e1]; exact hT ht) hfr hlo hk2 hz2 hret hthr
    next hkd0 hkd1 hkd2 hkd3 hkd4 =>
      have hkd : iv_kd i x = 5 := iv_kd5 hkd0 hkd1 hkd2 hkd3 hkd4
      have hc := hokc hkd
      split at h
      · cases h
      next d2 =>
      split at h
      next hcond =>
        obtain ⟨hc1, hc2, hc3⟩ := hcond
        have hstk : st = ((st.take (iv_cv (iv_np (x % 1000)) (x / 1000))).reverse).reverse ++ st.drop (iv_cv (iv_np (x % 1000)) (x / 1000)) := by
          rw [List.reverse_reverse, List.take_append_drop]
        generalize has : (st.take (iv_cv (iv_np (x % 1000)) (x / 1000))).reverse = as at h hc3 hstk
        generalize hrs : st.drop (iv_cv (iv_np (x % 1000)) (x / 1000)) = rest at h hc2 hstk
        have hlen : as.length = iv_cv (iv_np (x % 1000)) (x / 1000) := by rw [← has, List.length_reverse]; exact hc1
        have hfit : (as.map fun v => v.category).sum ≤ iv_L (x % 1000) := by
          unfold iv_rc at hc3
          rw [Bool.and_eq_true] at hc3
          exact of_decide_eq_true hc3.1
        rw [hstk]
        intro T hTH X
        have hsz : tg = true → H.size = sz + w.length := fun ht => by rw [← hTH]; exact iv_size X (by rw [hTH]; exact hP) hz0 hT ht
        split at h
        · cases h
        next v w3 tg3 k3 z3 e1 =>
          have hm1 := iv_run_mono _ _ _ _ _ _ _ _ _ _ _ _ _ _ _ e1
          have hm2 := iv_run_mono _ _ _ _ _ _ _ _ _ _ _ _ _ _ _ h
          have hM := iv_met ih l hLn e1 hc.2.2.2.1 hfit (iv_hh_nil' hc.2.2.2.2.2.2.2.1)
          have hrun := iv_callR (p := p) (e := e) (below := below) (meth := meth) (locs := locs) (cells := k) (slots := z) (R := R) hx hb hml hown hts hSt hP hS hl hsz hok.1 hc hM (by omega) (by omega) (by omega) (by omega) hlen hc2 hc3
          obtain ⟨v1, st₀, t, T', Lc, h0, X', hL, e2, e3, ⟨hv, hP2, hF⟩, stp⟩ := hrun T hTH X
          cases hv
          have hS2 : va_S (iv_A sz) s.heap T'.heap (locs ++ Lc) := by
            refine ⟨?_, fun q h1 h2 => ?_, fun q hq => ?_⟩
            · rw [e2]; exact Nat.le_trans hS.1 (by rw [← h0]; exact hF.1)
            · rw [e2, hF.2 q (by rw [h0]; exact Nat.lt_of_lt_of_le h1 hS.1) h2, h0]
              exact hS.2.1 q h1 h2
            · rcases List.mem_append.mp hq with h | h
              · exact hS.2.2 q h
              · exact hL q h
          have hW2 := ih _ _ _ _ _ _ _ _ _ _ _ _ _ _ h p l e R s m args below meth c T'.heap (locs ++ Lc) ls Q hx hb hml hown hts hlocks hname hHx hLn hSt (by rw [e2]; exact hP2) hS2 hl
            (fun ht => by have h1 := hm1.2.2 ht; have h2 := hT h1.1; have h3 := h1.2; omega) hfr hlo hk2 hz2 hret hthr
          obtain ⟨t2, a1, b1⟩ := hW2 T' rfl X'
          refine ⟨t2, stp t2 ?_, b1⟩
          have hl9 : (v.map (iv_v sz b)).toList ++ rest.map (iv_v sz b) = (v.toList ++ rest).map (iv_v sz b) := by cases v <;> rfl
          show Steps p.tables e below (T'.setTop { F0 m pc ls _ with pc := pc + 3, stack := (v.map (iv_v sz b)).toList ++ rest.map (iv_v sz b) }) t2
          rw [hl9]
          exact a1
        next q w3 tg3 k3 z3 e1 =>
          have hm1 := iv_run_mono _ _ _ _ _ _ _ _ _ _ _ _ _ _ _ e1
          split at h
          next hkind =>
            split at h
            next hhd =>
              split at h
              next hemp =>
                cases h
                refine iv_callT ih hx hb hml hown hts hLn hSt hP hS hl hsz hok.1 hc hkind e1 (by omega) (by omega) hk2 hz2 hlen hc2 hc3 hfit (iv_hh_nil' hc.2.2.2.2.2.2.2.1) (fun a T' locs1 X' q1 q2 q3 => ?_) T hTH X
                have hnil : iv_h μ = [] := List.isEmpty_iff.mp hemp
                obtain ⟨l1, l2, l3, l4, l5⟩ := X'.leaveThrown a (g := F0 m pc ls (rest.map (iv_v sz b))) rfl rfl rfl (fun y hy => by rw [iv_no_tab hHx (iv_hh_nil' hμ hnil)] at hy; cases hy) hlocks
                exact ⟨_, l1, hthr q rfl a _ locs1 l2 l3 l4 l5 q1 q2 q3⟩
              · cases h
            next pc2 j hhd =>
              have hm2 := iv_run_mono _ _ _ _ _ _ _ _ _ _ _ _ _ _ _ h
              refine iv_callT ih hx hb hml hown hts hLn hSt hP hS hl hsz hok.1 hc hkind e1 (by omega) (by omega) (by omega) (by omega) hlen hc2 hc3 hfit (iv_hh_nil' hc.2.2.2.2.2.2.2.1) (fun a T' locs1 X' q1 q2 q3 => ?_) T hTH X
              refine iv_caught X' hμ hx hb hown hts hHx hSt.2.2.2.2.2.2 hl hhd q3 (fun ls1 hl1 => ?_)
              exact ih _ _ _ _ _ _ _ _ _ _ _ _ _ _ h p l e R s m args below meth c T'.heap locs1 ls1 Q hx hb hml hown hts hlocks hname hHx hLn hSt q2 q1 hl1
                (fun ht => by have h1 := hm1.2.2 ht; have h2 := hT h1.1; have h3 := h1.2; omega) hfr hlo hk2 hz2 hret hthr
          · cases h
      · cases h
