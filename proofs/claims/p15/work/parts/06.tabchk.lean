/-- the rows of all methods are right -/
theorem iv_chm_at {a k μ pc : Nat} {i : Instr} {x : Nat} (h : iv_chm a k = true) (h1 : a ≤ μ) (h2 : μ < a + k) (hl : iv_look (iv_t μ) pc = some (i, x)) : iv_chk μ pc i x = true := by
  have h3 := List.all_eq_true.mp h (μ - a) (List.mem_range.mpr (by omega))
  rw [show a + (μ - a) = μ by omega] at h3
  exact List.all_eq_true.mp h3 (pc, i, x) (iv_look_mem _ _ _ hl)
theorem iv_slice {α : Type} {f : α → Bool} (l : List α) (a k : Nat) (h1 : ((l.drop a).take k).all f = true) (h2 : (l.drop (a + k)).all f = true) : (l.drop a).all f = true := by
  rw [← List.take_append_drop k (l.drop a), List.all_append, h1, List.drop_drop, h2]
  rfl
theorem iv_rows_0 : iv_chm 0 1 = true := by
  have e : (iv_t 0).drop 400 = [] := by decide +kernel
  have h400 : ((iv_t 0).drop 400).all (fun q => iv_chk 0 q.1 q.2.1 q.2.2) = true := by rw [e]; rfl
  have h360 : ((iv_t 0).drop 360).all (fun q => iv_chk 0 q.1 q.2.1 q.2.2) = true := iv_slice _ 360 40 iv_rowz_360 h400
  have h320 : ((iv_t 0).drop 320).all (fun q => iv_chk 0 q.1 q.2.1 q.2.2) = true := iv_slice _ 320 40 iv_rowz_320 h360
  have h280 : ((iv_t 0).drop 280).all (fun q => iv_chk 0 q.1 q.2.1 q.2.2) = true := iv_slice _ 280 40 iv_rowz_280 h320
  have h240 : ((iv_t 0).drop 240).all (fun q => iv_chk 0 q.1 q.2.1 q.2.2) = true := iv_slice _ 240 40 iv_rowz_240 h280
  have h200 : ((iv_t 0).drop 200).all (fun q => iv_chk 0 q.1 q.2.1 q.2.2) = true := iv_slice _ 200 40 iv_rowz_200 h240
  have h160 : ((iv_t 0).drop 160).all (fun q => iv_chk 0 q.1 q.2.1 q.2.2) = true := iv_slice _ 160 40 iv_rowz_160 h200
  have h120 : ((iv_t 0).drop 120).all (fun q => iv_chk 0 q.1 q.2.1 q.2.2) = true := iv_slice _ 120 40 iv_rowz_120 h160
  have h80 : ((iv_t 0).drop 80).all (fun q => iv_chk 0 q.1 q.2.1 q.2.2) = true := iv_slice _ 80 40 iv_rowz_80 h120
  have h40 : ((iv_t 0).drop 40).all (fun q => iv_chk 0 q.1 q.2.1 q.2.2) = true := iv_slice _ 40 40 iv_rowz_40 h80
  have h0 : ((iv_t 0).drop 0).all (fun q => iv_chk 0 q.1 q.2.1 q.2.2) = true := iv_slice _ 0 40 iv_rowz_0 h40
  show ([0].all fun j => (iv_t (0 + j)).all (fun q => iv_chk (0 + j) q.1 q.2.1 q.2.2)) = true
  rw [List.drop_zero] at h0
  simp only [List.all_cons, List.all_nil, Bool.and_true]
  exact h0
theorem iv_tab_chk {μ pc : Nat} {i : Instr} {x : Nat} (hl : iv_look (iv_t μ) pc = some (i, x)) : μ < iv_nm ∧ iv_chk μ pc i x = true := by
  by_cases hn : 194 ≤ μ
  · unfold iv_t at hl
    rw [if_pos hn] at hl
    cases hl
  · refine ⟨by show μ < 194; omega, ?_⟩
    by_cases h0 : μ < 1
    · exact iv_chm_at iv_rows_0 (by omega) (by omega) hl
    by_cases h1 : μ < 13
    · exact iv_chm_at iv_rows_1 (by omega) (by omega) hl
    by_cases h13 : μ < 33
    · exact iv_chm_at iv_rows_13 (by omega) (by omega) hl
    by_cases h33 : μ < 50
    · exact iv_chm_at iv_rows_33 (by omega) (by omega) hl
    by_cases h50 : μ < 77
    · exact iv_chm_at iv_rows_50 (by omega) (by omega) hl
    by_cases h77 : μ < 102
    · exact iv_chm_at iv_rows_77 (by omega) (by omega) hl
    by_cases h102 : μ < 114
    · exact iv_chm_at iv_rows_102 (by omega) (by omega) hl
    by_cases h114 : μ < 132
    · exact iv_chm_at iv_rows_114 (by omega) (by omega) hl
    by_cases h132 : μ < 145
    · exact iv_chm_at iv_rows_132 (by omega) (by omega) hl
    by_cases h145 : μ < 153
    · exact iv_chm_at iv_rows_145 (by omega) (by omega) hl
    by_cases h153 : μ < 163
    · exact iv_chm_at iv_rows_153 (by omega) (by omega) hl
    by_cases h163 : μ < 167
    · exact iv_chm_at iv_rows_163 (by omega) (by omega) hl
    by_cases h167 : μ < 170
    · exact iv_chm_at iv_rows_167 (by omega) (by omega) hl
    by_cases h170 : μ < 176
    · exact iv_chm_at iv_rows_170 (by omega) (by omega) hl
    by_cases h176 : μ < 185
    · exact iv_chm_at iv_rows_176 (by omega) (by omega) hl
    by_cases h185 : μ < 190
    · exact iv_chm_at iv_rows_185 (by omega) (by omega) hl
    exact iv_chm_at iv_rows_190 (by omega) (by omega) hl
