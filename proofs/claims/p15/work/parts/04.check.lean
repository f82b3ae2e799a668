/-! every row of my tables is right: by program -/
def iv_look (t : List (Nat × Instr × Nat)) (pc : Nat) : Option (Instr × Nat) := match t with
  | [] => none
  | q :: r => if q.1 = pc then some q.2 else iv_look r pc
theorem iv_look_mem : ∀ (t : List (Nat × Instr × Nat)) (pc : Nat) (y : Instr × Nat), iv_look t pc = some y → (pc, y) ∈ t
  | [], _, _, h => by simp [iv_look] at h
  | q :: r, pc, y, h => by
    unfold iv_look at h
    split at h
    · next e => cases h; subst e; exact List.mem_cons_self
    · exact List.mem_cons_of_mem _ (iv_look_mem r pc y h)
def iv_ln (i : Instr) (x : Nat) : Nat := match i with
  | .bipush _ | .iload _ | .istore _ | .aload _ | .astore _ | .lload _ | .lstore _ | .newarray _ | .ldc _ => 2
  | .sipush _ | .iinc _ _ | .ifCond _ _ | .if_icmp _ _ | .goto _ | .getfield _ | .putfield _ | .invokevirtual _ | .invokestatic _ | .invokespecial _ | .new _ | .anewarray _ | .ldc2_w _ => 3
  | .tableswitch _ _ _ _ => x
  | _ => 1
def iv_flm (o n ci j : Nat) : Bool := iv_fl.any (fun q => q.1 == o && q.2.1 == n && q.2.2.1 == ci && q.2.2.2.1 == j)
theorem iv_flm_in {o n ci j : Nat} (h : iv_flm o n ci j = true) : Cond.fieldLink (iv_cnm o) n (iv_cnm ci) (iv_T ci j).2.1 (iv_T ci j).2.2.1 ∈ iv_all := by
  obtain ⟨⟨q1, q2, q3, q4, q5⟩, hq, hh⟩ := List.any_eq_true.mp h
  simp only [Bool.and_eq_true, beq_iff_eq] at hh
  obtain ⟨⟨⟨rfl, rfl⟩, rfl⟩, rfl⟩ := hh
  exact iv_is_in (List.all_eq_true.mp iv_fl_ok _ hq)
def iv_mlm (o n ν : Nat) : Bool := iv_ml.any (fun q => q.1 == o && q.2.1 == n && q.2.2.1 == ν)
theorem iv_mlm_in {o n ν : Nat} (h : iv_mlm o n ν = true) : Cond.methodLink (iv_cnm o) n (iv_y ν) ∈ iv_all := by
  obtain ⟨⟨q1, q2, q3, q4⟩, hq, hh⟩ := List.any_eq_true.mp h
  simp only [Bool.and_eq_true, beq_iff_eq] at hh
  obtain ⟨⟨rfl, rfl⟩, rfl⟩ := hh
  exact iv_is_in (List.all_eq_true.mp iv_ml_ok _ hq)
def iv_nlm (o n ν : Nat) : Bool := iv_nl.any (fun q => q.1 == o && q.2.1 == n && q.2.2.1 == ν)
theorem iv_nlm_in {o n ν : Nat} (h : iv_nlm o n ν = true) : (iv_cnm o, n, iv_y ν, "FatVolume") ∈ iv_nest := by
  obtain ⟨⟨q1, q2, q3, q4⟩, hq, hh⟩ := List.any_eq_true.mp h
  simp only [Bool.and_eq_true, beq_iff_eq] at hh
  obtain ⟨⟨rfl, rfl⟩, rfl⟩ := hh
  exact List.mem_map.mpr ⟨_, hq, rfl⟩
def iv_ckm (o n ci : Nat) : Bool := iv_ck.any (fun q => q.1 == o && q.2.1 == n && q.2.2.1 == ci)
theorem iv_ckm_in {o n ci : Nat} (h : iv_ckm o n ci = true) : Cond.classLink (iv_cnm o) n (iv_cnm ci) ∈ iv_all := by
  obtain ⟨⟨q1, q2, q3, q4⟩, hq, hh⟩ := List.any_eq_true.mp h
  simp only [Bool.and_eq_true, beq_iff_eq] at hh
  obtain ⟨⟨rfl, rfl⟩, rfl⟩ := hh
  exact iv_is_in (List.all_eq_true.mp iv_ck_ok _ hq)
def iv_lbm (o n x : Nat) : Bool := iv_lb.any (fun q => q.1 == o && q.2.1 == n && q.2.2.1 == x)
theorem iv_lbm_in {o n x : Nat} (h : iv_lbm o n x = true) : Cond.methodLink (iv_cnm o) n (if x = 6000 then Lib.objectInit else if x = 7000 then Lib.Math.max.name else if x = 8000 then Lib.Math.min.name else arraycopyName) ∈ iv_all := by
  obtain ⟨⟨q1, q2, q3, q4⟩, hq, hh⟩ := List.any_eq_true.mp h
  simp only [Bool.and_eq_true, beq_iff_eq] at hh
  obtain ⟨⟨rfl, rfl⟩, rfl⟩ := hh
  exact iv_is_in (List.all_eq_true.mp iv_lb_ok _ hq)
def iv_kkm (t o n x : Nat) : Bool := iv_kk.any (fun q => q.1 == t && q.2.1 == o && q.2.2.1 == n && q.2.2.2.1 == x)
theorem iv_kkm_in {t o n x : Nat} (h : iv_kkm t o n x = true) : (if t = 0 then Cond.constant (iv_cnm o) n (Int32.ofNat x) else Cond.constantLong (iv_cnm o) n (Int64.ofNat x)) ∈ iv_all := by
  obtain ⟨⟨q1, q2, q3, q4, q5⟩, hq, hh⟩ := List.any_eq_true.mp h
  simp only [Bool.and_eq_true, beq_iff_eq] at hh
  obtain ⟨⟨⟨rfl, rfl⟩, rfl⟩, rfl⟩ := hh
  exact iv_is_in (List.all_eq_true.mp iv_kk_ok _ hq)
def iv_xlm (o n q ic : Nat) : Bool := iv_xl.any (fun r => r.1 == o && r.2.1 == n && r.2.2.1 == q && r.2.2.2.1 == ic)
theorem iv_xlm_in {o n q ic : Nat} (h : iv_xlm o n q ic = true) : Cond.classLink (iv_cnm o) n (iv_xnm q) ∈ iv_all := by
  obtain ⟨⟨q1, q2, q3, q4, q5⟩, hq, hh⟩ := List.any_eq_true.mp h
  simp only [Bool.and_eq_true, beq_iff_eq] at hh
  obtain ⟨⟨⟨rfl, rfl⟩, rfl⟩, rfl⟩ := hh
  exact iv_is_in (List.all_eq_true.mp iv_xl_ok _ hq)
-- classes
theorem iv_cl_at : ∀ ci, ci < 10 → iv_cl[ci]? = some (iv_cnm ci, iv_T ci, iv_N ci) := by
  intro ci h
  have : ci = 0 ∨ ci = 1 ∨ ci = 2 ∨ ci = 3 ∨ ci = 4 ∨ ci = 5 ∨ ci = 6 ∨ ci = 7 ∨ ci = 8 ∨ ci = 9 := by omega
  rcases this with rfl | rfl | rfl | rfl | rfl | rfl | rfl | rfl | rfl | rfl <;> rfl
theorem iv_cs_mem : ∀ ci, ci < 10 → ∃ a b l, (ci, a, b, l) ∈ iv_cs := by
  intro ci h
  have : ci = 0 ∨ ci = 1 ∨ ci = 2 ∨ ci = 3 ∨ ci = 4 ∨ ci = 5 ∨ ci = 6 ∨ ci = 7 ∨ ci = 8 ∨ ci = 9 := by omega
  rcases this with rfl | rfl | rfl | rfl | rfl | rfl | rfl | rfl | rfl | rfl
  · exact ⟨_, _, _, List.mem_of_getElem? (l := iv_cs) (i := 0) rfl⟩
  · exact ⟨_, _, _, List.mem_of_getElem? (l := iv_cs) (i := 1) rfl⟩
  · exact ⟨_, _, _, List.mem_of_getElem? (l := iv_cs) (i := 2) rfl⟩
  · exact ⟨_, _, _, List.mem_of_getElem? (l := iv_cs) (i := 3) rfl⟩
  · exact ⟨_, _, _, List.mem_of_getElem? (l := iv_cs) (i := 4) rfl⟩
  · exact ⟨_, _, _, List.mem_of_getElem? (l := iv_cs) (i := 5) rfl⟩
  · exact ⟨_, _, _, List.mem_of_getElem? (l := iv_cs) (i := 6) rfl⟩
  · exact ⟨_, _, _, List.mem_of_getElem? (l := iv_cs) (i := 7) rfl⟩
  · exact ⟨_, _, _, List.mem_of_getElem? (l := iv_cs) (i := 8) rfl⟩
  · exact ⟨_, _, _, List.mem_of_getElem? (l := iv_cs) (i := 9) rfl⟩
theorem iv_cs_words {ci : Nat} (h : ci < 10) : Cond.instantiable (iv_cnm ci) (iv_N ci) ∈ iv_all ∧ Cond.initialized (iv_cnm ci) ∈ iv_all ∧ ∀ w ∈ u_ws (iv_cnm ci) (iv_T ci) (iv_N ci), w ∈ iv_all := by
  obtain ⟨a, b, l, hm⟩ := iv_cs_mem ci h
  have h1 := List.all_eq_true.mp iv_cs_ok _ hm
  simp only [Bool.and_eq_true] at h1
  refine ⟨iv_is_in h1.1.1, iv_is_in h1.1.2, fun w hw => ?_⟩
  obtain ⟨j, hj, rfl⟩ := List.mem_map.mp hw
  exact iv_is_in (List.all_eq_true.mp h1.2 j hj)
theorem iv_ty_ok : ∀ ci, ci < 10 → ∀ k, k < iv_N ci → parseFieldDescriptor (iv_T ci k).2.2.1 = some (iv_ty ci k) := by decide +kernel
theorem iv_nm_ok : ∀ ci, ci < 10 → ∀ a, a < iv_N ci → ∀ b, b < iv_N ci → a ≠ b → (iv_T ci a).2.1 ≠ (iv_T ci b).2.1 := by decide +kernel
theorem iv_own_ok : ∀ ci, ci < 10 → ∀ k, k < iv_N ci → (iv_T ci k).1 = iv_cnm ci := by decide +kernel
theorem iv_f0_ok : ∀ ci, ci < 10 → ∀ k, k < iv_N ci → defaultValue (iv_ty ci k) = vp_V (iv_f0 ci) k := by decide +kernel
theorem iv_f0_no : ∀ ci, ci < 10 → ∀ v ∈ iv_f0 ci, v = .null ∨ v = .int 0 := by decide +kernel
-- methods
theorem iv_y_ok : ∀ μ, μ < iv_nm → (iv_y μ).cls = iv_cnm (iv_cn μ) := by decide +kernel
theorem iv_m_ok : ∀ μ, μ < iv_nm → ((iv_y μ).cls ≠ "java/lang/invoke/MethodHandle" ∧ (iv_y μ).cls ≠ "java/lang/invoke/VarHandle") ∧ (parseMethodDescriptor (iv_y μ).desc).map (fun d => d.parameters.length) = some (iv_np μ) ∧ plainName (iv_y μ).cls = true ∧ iv_L μ ≤ 60 ∧ (iv_h μ = [] → iv_hh μ = []) := by decide +kernel
def iv_msm (ν k : Nat) (sel : Bool) : Bool := iv_ms.any (fun q => q.1 == ν && q.2.2.1 == k && (!sel || q.2.2.2.2 != 99999))
theorem iv_msm_in {ν k : Nat} {sel : Bool} (h : iv_msm ν k sel = true) : iv_cw ν ∈ iv_all ∧ (if k = 1 then Cond.static (iv_y ν) else Cond.instanceMethod (iv_y ν)) ∈ iv_all ∧ (sel = true → Cond.selects (iv_y ν).cls (iv_y ν) (iv_y ν) ∈ iv_all) := by
  obtain ⟨⟨q1, q2, q3, q4, q5⟩, hq, hh⟩ := List.any_eq_true.mp h
  simp only [Bool.and_eq_true, beq_iff_eq] at hh
  obtain ⟨⟨rfl, rfl⟩, h3⟩ := hh
  refine ⟨iv_cw_in hq, iv_is_in (List.all_eq_true.mp iv_ms_kind _ hq), fun hs => ?_⟩
  have h4 := List.all_eq_true.mp iv_ms_sel _ hq
  subst hs
  simp only [Bool.not_true, Bool.false_or, bne_iff_ne, ne_eq] at h3
  simp only [Bool.or_eq_true, Bool.and_eq_true, beq_iff_eq] at h4
  rcases h4 with h4 | h4
  · exact absurd h4.1 h3
  · exact iv_is_in h4
def iv_chk (μ pc : Nat) (i : Instr) (x : Nat) : Bool := decide (decode (iv_c μ) pc = .ok (i, iv_ln i x)) && (match i with
  | .getfield n => iv_flm (iv_cn μ) n (x / 100) (x % 100) && decide (x / 100 < 10) && decide (x % 100 < iv_N (x / 100))
  | .putfield n => iv_flm (iv_cn μ) n (x / 100) (x % 100) && decide (x / 100 < 10) && decide (x % 100 < iv_N (x / 100)) && ((iv_T (x / 100) (x % 100)).2.2.2 == false || (decide ((iv_y μ).name = "<init>") && iv_cn μ == x / 100))
  | .ldc n => iv_kkm 0 (iv_cn μ) n x
  | .ldc2_w n => iv_kkm 1 (iv_cn μ) n x
  | .ifCond _ o => decide ((pc : Int) + o = (x : Int))
  | .if_icmp _ o => decide ((pc : Int) + o = (x : Int))
  | .goto o => decide ((pc : Int) + o = (x : Int))
  | .new n => if 1000 ≤ x then (match decode (iv_c μ) (pc + 4) with
      | .ok (.invokespecial ic, 3) => iv_xlm (iv_cn μ) n (x - 1000) ic && decide (decode (iv_c μ) (pc + 3) = .ok (.dup, 1)) && decide (decode (iv_c μ) (pc + 7) = .ok (.athrow, 1)) && (iv_hh μ).isEmpty
      | _ => false) else (iv_ckm (iv_cn μ) n x && decide (x < 10))
  | .newarray t => t == .int || t == .boolean || t == .long
  | .anewarray n => iv_ckm (iv_cn μ) n iv_fo
  | .invokevirtual n => decide (x < 6000) && decide (x % 1000 < iv_nm) && iv_msm (x % 1000) 0 true && (iv_h (x % 1000)).isEmpty && decide (iv_cn (x % 1000) < 10) && ((x / 1000 == 0 && iv_mlm (iv_cn μ) n (x % 1000)) || (x / 1000 == 1 && iv_nlm (iv_cn μ) n (x % 1000)))
  | .invokestatic n => if 6000 ≤ x then iv_lbm (iv_cn μ) n x && (x == 7000 || x == 8000 || x == 9000) else decide (x % 1000 < iv_nm) && iv_msm (x % 1000) 1 false && ((x / 1000 == 2 && iv_mlm (iv_cn μ) n (x % 1000)) || (x / 1000 == 3 && (iv_h (x % 1000)).isEmpty && iv_nlm (iv_cn μ) n (x % 1000)))
  | .invokespecial n => if 6000 ≤ x then iv_lbm (iv_cn μ) n x && x == 6000 else decide (x % 1000 < iv_nm) && iv_msm (x % 1000) 0 false && (iv_h (x % 1000)).isEmpty && decide ((iv_y (x % 1000)).name = "<init>") && (iv_r (x % 1000)).isNone && ((x / 1000 == 4 && iv_mlm (iv_cn μ) n (x % 1000)) || (x / 1000 == 5 && iv_nlm (iv_cn μ) n (x % 1000)))
  | _ => true)
def iv_chr (μ a k : Nat) : Bool := (((iv_t μ).drop a).take k).all (fun q => iv_chk μ q.1 q.2.1 q.2.2)
def iv_chm (a k : Nat) : Bool := (List.range k).all (fun j => (iv_t (a + j)).all (fun q => iv_chk (a + j) q.1 q.2.1 q.2.2))
