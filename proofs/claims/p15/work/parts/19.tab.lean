/-! what the tables say at every place, out of the checked rows -/
theorem iv_xl_shape : ∀ r ∈ iv_xl, r.1 = 0 ∧ r.2.2.1 < 3 ∧ r.2.2.2.1 = iv_ic r.2.2.1 := by decide +kernel
theorem iv_xlm_shape {o n q ic : Nat} (h : iv_xlm o n q ic = true) : o = 0 ∧ q < 3 ∧ ic = iv_ic q := by
  obtain ⟨⟨q1, q2, q3, q4, q5⟩, hq, hh⟩ := List.any_eq_true.mp h
  simp only [Bool.and_eq_true, beq_iff_eq] at hh
  obtain ⟨⟨⟨rfl, rfl⟩, rfl⟩, rfl⟩ := hh
  exact iv_xl_shape _ hq
theorem iv_lb_words : Cond.instanceMethod Lib.objectInit ∈ iv_all ∧ Cond.code Lib.objectInit ⟨#[0xb1]⟩ 1 none ∈ iv_all ∧ Cond.static Lib.Math.max.name ∈ iv_all ∧ Cond.initialized "java/lang/Math" ∈ iv_all ∧ Cond.code Lib.Math.max.name Lib.Math.max.code 2 (some .int) ∈ iv_all ∧
    Cond.static Lib.Math.min.name ∈ iv_all ∧ Cond.code Lib.Math.min.name Lib.Math.min.code 2 (some .int) ∈ iv_all ∧ Cond.native arraycopyName ∈ iv_all ∧ Cond.static arraycopyName ∈ iv_all ∧ Cond.initialized "java/lang/System" ∈ iv_all := by
  obtain ⟨h1, h2, h3, h4, h5, h6, h7, h8, h9, h10⟩ := iv_lib_words
  exact ⟨iv_is_in h1, iv_inw h2 rfl, iv_is_in h3, iv_is_in h4, iv_inw h5 rfl, iv_is_in h6, iv_inw h7 rfl, iv_is_in h8, iv_is_in h9, iv_is_in h10⟩
set_option maxHeartbeats 4000000 in
theorem iv_tab : iv_Tab := by
  intro μ pc i x hl
  obtain ⟨hμ, hc⟩ := iv_tab_chk hl
  have hy := iv_y_ok μ hμ
  unfold iv_chk at hc
  rw [Bool.and_eq_true] at hc
  obtain ⟨hd0, hc⟩ := hc
  have hd := of_decide_eq_true hd0
  refine ⟨hμ, ⟨hd, ?_⟩, fun hk => ?_, fun hk => ?_, fun hk => ?_, fun hk => ?_⟩
  · cases i
    case getfield n =>
      simp only [Bool.and_eq_true, decide_eq_true_eq] at hc
      obtain ⟨⟨h1, h2⟩, h3⟩ := hc
      exact ⟨iv_cnm (x / 100), iv_T (x / 100), iv_N (x / 100), iv_cl_at _ h2, h3, iv_own_ok _ h2 _ h3, (iv_cs_words h2).2.2, by rw [hy]; exact iv_flm_in h1, iv_ty_ok _ h2, iv_nm_ok _ h2, Or.inl rfl⟩
    case putfield n =>
      simp only [Bool.and_eq_true, decide_eq_true_eq, Bool.or_eq_true, beq_iff_eq] at hc
      obtain ⟨⟨⟨h1, h2⟩, h3⟩, h4⟩ := hc
      refine ⟨iv_cnm (x / 100), iv_T (x / 100), iv_N (x / 100), iv_cl_at _ h2, h3, iv_own_ok _ h2 _ h3, (iv_cs_words h2).2.2, by rw [hy]; exact iv_flm_in h1, iv_ty_ok _ h2, iv_nm_ok _ h2, ?_⟩
      rcases h4 with h4 | ⟨h4, h5⟩
      · exact Or.inl h4
      · cases hf : (iv_T (x / 100) (x % 100)).2.2.2 with
        | false => exact Or.inl rfl
        | true => exact Or.inr ⟨rfl, h4, by rw [hy, h5]; exact iv_own_ok _ h2 _ h3⟩
    case ldc n => show Cond.constant _ _ _ ∈ _; rw [hy]; exact iv_kkm_in (t := 0) hc
    case ldc2_w n => show Cond.constantLong _ _ _ ∈ _; rw [hy]; exact iv_kkm_in (t := 1) hc
    case ifCond q o => exact of_decide_eq_true hc
    case if_icmp q o => exact of_decide_eq_true hc
    case goto o => exact of_decide_eq_true hc
    all_goals trivial
  · cases i
    case new n =>
      have hx : ¬ 1000 ≤ x := fun h => by simp [iv_kd, h] at hk
      dsimp only at hc
      rw [if_neg hx] at hc
      simp only [Bool.and_eq_true, decide_eq_true_eq] at hc
      obtain ⟨h1, h2⟩ := hc
      exact ⟨iv_cnm x, iv_T x, iv_N x, iv_cl_at x h2, rfl, (iv_cs_words h2).2.2, iv_ty_ok x h2, by rw [hy]; exact iv_ckm_in h1, (iv_cs_words h2).1, (iv_cs_words h2).2.1, iv_f0_ok x h2, fun sz b => iv_f0_map h2⟩
    case newarray t =>
      obtain ⟨a1, a2, a3⟩ := iv_arr_words
      have hc2 : (t == .int || t == .boolean || t == .long) = true := hc
      clear hc hd hd0 hl
      cases t <;> first | exact iv_is_in a1 | exact iv_is_in a2 | exact iv_is_in a3 | exact absurd hc2 (by decide)
    case anewarray n =>
      show Cond.classLink _ _ _ ∈ _
      rw [hy]
      exact iv_ckm_in (ci := iv_fo) hc
    all_goals trivial
  · obtain ⟨w1, w2, w3, w4, w5, w6, w7, w8, w9, w10⟩ := iv_lb_words
    cases i
    case invokespecial n =>
      have hx : 6000 ≤ x := by
        by_cases h : 6000 ≤ x
        · exact h
        · simp [iv_kd, h] at hk
      dsimp only at hc
      rw [if_pos hx] at hc
      simp only [Bool.and_eq_true, beq_iff_eq] at hc
      obtain ⟨h1, rfl⟩ := hc
      exact ⟨rfl, by rw [hy]; exact iv_lbm_in h1, w1, w2⟩
    case invokestatic n =>
      have hx : 6000 ≤ x := by
        by_cases h : 6000 ≤ x
        · exact h
        · simp [iv_kd, h] at hk
      dsimp only at hc
      rw [if_pos hx] at hc
      simp only [Bool.and_eq_true, beq_iff_eq, Bool.or_eq_true] at hc
      obtain ⟨h1, (rfl | rfl) | rfl⟩ := hc
      · exact Or.inl ⟨rfl, by rw [hy]; exact iv_lbm_in h1, w3, w4, w5⟩
      · exact Or.inr (Or.inl ⟨rfl, by rw [hy]; exact iv_lbm_in h1, w6, w4, w7⟩)
      · exact Or.inr (Or.inr ⟨rfl, by rw [hy]; exact iv_lbm_in h1, w8, w9, w10⟩)
    case invokevirtual n =>
      simp only [Bool.and_eq_true, decide_eq_true_eq] at hc
      have hx := hc.1.1.1.1.1
      simp [iv_kd, show ¬ 6000 ≤ x by omega] at hk
    all_goals (simp [iv_kd] at hk; try (split at hk <;> cases hk))
  · have hν : x % 1000 < iv_nm → ((iv_y (x % 1000)).cls ≠ "java/lang/invoke/MethodHandle" ∧ (iv_y (x % 1000)).cls ≠ "java/lang/invoke/VarHandle" ∧ (parseMethodDescriptor (iv_y (x % 1000)).desc).map (fun d => d.parameters.length) = some (iv_np (x % 1000)) ∧ plainName (iv_y (x % 1000)).cls = true ∧ Cond.initialized (iv_y (x % 1000)).cls ∈ iv_all ∧ iv_L (x % 1000) ≤ 60) := by
      intro h
      obtain ⟨⟨m1, m2⟩, m3, m4, m5, -⟩ := iv_m_ok _ h
      refine ⟨m1, m2, m3, m4, ?_, m5⟩
      rw [iv_y_ok _ h]
      by_cases h10 : iv_cn (x % 1000) < 10
      · exact (iv_cs_words h10).2.1
      · have : iv_cnm (iv_cn (x % 1000)) = iv_cnm 10 := by
          unfold iv_cnm
          split <;> first | omega | rfl
        rw [this]
        exact iv_is_in iv_ilaw_ok
    cases i
    case invokevirtual n =>
      simp only [Bool.and_eq_true, decide_eq_true_eq, Bool.or_eq_true, beq_iff_eq] at hc
      obtain ⟨⟨⟨⟨⟨h1, h2⟩, h3⟩, h4⟩, h5⟩, h6⟩ := hc
      obtain ⟨m1, m2, m3, m4, m5, m6⟩ := hν h2
      obtain ⟨s1, s2, s3⟩ := iv_msm_in h3
      refine ⟨m1, m2, m3, m4, m5, s1, m6, h2, s2, s3 rfl, List.isEmpty_iff.mp h4, ⟨_, iv_cl_at _ h5, (iv_y_ok _ h2).symm⟩, ?_⟩
      rcases h6 with ⟨h6, h7⟩ | ⟨h6, h7⟩
      · exact Or.inl ⟨h6, by rw [hy]; exact iv_mlm_in h7⟩
      · exact Or.inr ⟨h6, "FatVolume", by rw [hy]; exact iv_nlm_in h7⟩
    case invokestatic n =>
      have hx : ¬ 6000 ≤ x := fun h => by simp [iv_kd, h] at hk
      dsimp only at hc
      rw [if_neg hx] at hc
      simp only [Bool.and_eq_true, decide_eq_true_eq, Bool.or_eq_true, beq_iff_eq] at hc
      obtain ⟨⟨h2, h3⟩, h6⟩ := hc
      obtain ⟨m1, m2, m3, m4, m5, m6⟩ := hν h2
      obtain ⟨s1, s2, s3⟩ := iv_msm_in h3
      refine ⟨m1, m2, m3, m4, m5, s1, m6, h2, s2, ?_⟩
      rcases h6 with ⟨h6, h7⟩ | ⟨⟨h6, h8⟩, h7⟩
      · exact Or.inl ⟨h6, by rw [hy]; exact iv_mlm_in h7⟩
      · exact Or.inr ⟨h6, List.isEmpty_iff.mp h8, "FatVolume", by rw [hy]; exact iv_nlm_in h7⟩
    case invokespecial n =>
      have hx : ¬ 6000 ≤ x := fun h => by simp [iv_kd, h] at hk
      dsimp only at hc
      rw [if_neg hx] at hc
      simp only [Bool.and_eq_true, decide_eq_true_eq, Bool.or_eq_true, beq_iff_eq] at hc
      obtain ⟨⟨⟨⟨⟨h2, h3⟩, h4⟩, h5⟩, h9⟩, h6⟩ := hc
      obtain ⟨m1, m2, m3, m4, m5, m6⟩ := hν h2
      obtain ⟨s1, s2, s3⟩ := iv_msm_in h3
      refine ⟨m1, m2, m3, m4, m5, s1, m6, h2, h5, s2, Option.isNone_iff_eq_none.mp h9, List.isEmpty_iff.mp h4, ?_⟩
      rcases h6 with ⟨h6, h7⟩ | ⟨h6, h7⟩
      · exact Or.inl ⟨h6, by rw [hy]; exact iv_mlm_in h7⟩
      · exact Or.inr ⟨h6, "FatVolume", by rw [hy]; exact iv_nlm_in h7⟩
    all_goals (simp [iv_kd] at hk; try (split at hk <;> cases hk))
  · cases i
    case new n =>
      have hx : 1000 ≤ x := by
        by_cases h : 1000 ≤ x
        · exact h
        · simp [iv_kd, h] at hk
      dsimp only at hc
      rw [if_pos hx] at hc
      split at hc
      · next ic hic =>
        simp only [Bool.and_eq_true, decide_eq_true_eq] at hc
        obtain ⟨⟨⟨h1, h2⟩, h3⟩, h4⟩ := hc
        obtain ⟨s1, s2, s3⟩ := iv_xlm_shape h1
        refine ⟨hx, by omega, by rw [hy]; exact iv_xlm_in h1, h2, by rw [← s3]; exact hic, h3, List.isEmpty_iff.mp h4, by rw [hy, s1]; rfl⟩
      · cases hc
    all_goals (simp [iv_kd] at hk; try (split at hk <;> cases hk))
