set_option maxRecDepth 100000 in
/-- what the Statement gives of the start, in my words -/
theorem iv_begin {s : State} {b L : Nat} {xs : Nat → Int32} (hts : ∀ w ∈ lw_tbl, w.before #[Value.ref b] s = true) (hX : va_X b L xs s s.heap) (hb : b < s.heap.size) (hg : (Jvm.Cond.and given_1 narrow_1).before #[Value.ref b] s = true) : ∃ (D : va_G) (tc : Nat → ClassId), iv_St L xs s.heap.size b D tc s := by
  have hta : ∀ w ∈ iv_all, w.before #[Value.ref b] s = true := fun w hw => hts w (iv_all_in hw)
  have hK : ∀ ci : Nat, ∃ q : ClassId × (Nat → Nat), ci < 10 → u_Kn s (iv_cnm ci) (iv_T ci) (iv_N ci) q.1 q.2 := by
    intro ci
    by_cases h : ci < 10
    · obtain ⟨cC, iS, hk⟩ := u_known hta (iv_cs_words h).2.2 (hta _ (iv_cs_words h).1)
      exact ⟨(cC, iS), fun _ => hk⟩
    · exact ⟨(0, fun _ => 0), fun h2 => absurd h2 h⟩
  obtain ⟨f, hf⟩ := Classical.axiomOfChoice hK
  obtain ⟨w1, w2, w3⟩ := iv_arr_words
  obtain ⟨c0, k0, m0, p01, p02, p03⟩ := Cond.arrayClass_spec (hta _ (iv_is_in w1))
  obtain ⟨c1, k1, m1, p11, p12, p13⟩ := Cond.arrayClass_spec (hta _ (iv_is_in w2))
  obtain ⟨c2, k2, m2, p21, p22, p23⟩ := Cond.arrayClass_spec (hta _ (iv_is_in w3))
  have hover := hts _ (List.mem_of_getElem? iv_over_word)
  obtain ⟨m3, c3, k3, p31, -, p33, p34, p35⟩ := Cond.arrayOver_spec hover
  have hs := flat_of_before _ hg
  refine ⟨(fun c => (f c).1, fun c => (f c).2), fun t => match t with
    | 0 => c0
    | 1 => c1
    | 2 => c2
    | _ => c3, ⟨fun c q hq => ?_, fun k q hk => ?_⟩, fun q hq => ?_, hover, hX, hb, Nat.le_refl _, ?_⟩
  · have hc : c < 10 := (List.getElem?_eq_some_iff.mp hq).1
    cases (iv_cl_at c hc).symm.trans hq
    exact hf c hc
  · have hk4 : k < 4 := (List.getElem?_eq_some_iff.mp hk).1
    have : k = 0 ∨ k = 1 ∨ k = 2 ∨ k = 3 := by omega
    rcases this with rfl | rfl | rfl | rfl <;> cases hk
    · exact ⟨fun n z => ⟨(fun k h => by cases h), k0, p02, m0, p03⟩, p01⟩
    · exact ⟨fun n z => ⟨(fun k h => by cases h), k1, p12, m1, p13⟩, p11⟩
    · exact ⟨fun n z => ⟨(fun k h => by cases h), k2, p22, m2, p23⟩, p21⟩
    · exact ⟨fun n z => ⟨(fun k h => by cases h), k3, p33, m3, p34⟩, k3, m3, p33, p34, p31, p35⟩
  · obtain ⟨r, hr, rfl⟩ := List.mem_map.mp hq
    have h1 := List.all_eq_true.mp iv_nl_ok r hr
    exact va_Nw.of rfl (hts _ (List.mem_of_getElem? (of_decide_eq_true h1)))
  · refine ⟨iv_Zs_of (hts _ (List.mem_of_getElem? (i := 423) rfl)) (hs _ (by decide +kernel)) (Nat.le_refl _), iv_Zs_of (hts _ (List.mem_of_getElem? (i := 425) rfl)) (hs _ (by decide +kernel)) (Nat.le_refl _),
      va_Nw.of rfl (hts _ (List.mem_of_getElem? (i := 399) rfl)), va_Nw.of rfl (hts _ (List.mem_of_getElem? (i := 401) rfl)), va_Nw.of rfl (hts _ (List.mem_of_getElem? (i := 403) rfl)), fun q hq => ?_, fun q r hq hr hne => ?_⟩
    · have : q = 0 ∨ q = 1 ∨ q = 2 := by omega
      rcases this with rfl | rfl | rfl
      · exact va_Nw.of rfl (hts _ (List.mem_of_getElem? (i := 398) rfl))
      · exact va_Nw.of rfl (hts _ (List.mem_of_getElem? (i := 465) rfl))
      · exact va_Nw.of rfl (hts _ (List.mem_of_getElem? (i := 616) rfl))
    · have hq3 : q = 0 ∨ q = 1 ∨ q = 2 := by omega
      have hr3 : r = 0 ∨ r = 1 ∨ r = 2 := by omega
      rcases hq3 with rfl | rfl | rfl <;> rcases hr3 with rfl | rfl | rfl <;> first | exact absurd rfl hne | exact va_Nc.of (hs _ (by decide +kernel))
