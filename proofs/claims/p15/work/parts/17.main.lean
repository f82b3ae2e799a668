/-! handlers -/
def iv_hok (cc : ByteArray) (nL a b : Nat) : List (Nat × Nat × Nat × Nat × Nat) → List (Nat × Nat × Nat × Nat) → Bool
  | [], [] => true
  | h :: hs, g :: gs => (h.1 == a && h.2.1 == b && g.1 == a && g.2.1 == b && g.2.2.2 == 13 + 2 * h.2.2.2.1 && decide (h.2.2.2.1 < 3) && decide (h.2.2.2.2 < nL) &&
      ((decide (decode cc g.2.2.1 = .ok (.astore h.2.2.2.2, 2)) && h.2.2.1 == g.2.2.1 + 2) || (decide (h.2.2.2.2 < 4) && decide (decode cc g.2.2.1 = .ok (.astore_n (Fin.ofNat 4 h.2.2.2.2), 1)) && h.2.2.1 == g.2.2.1 + 1))) && iv_hok cc nL a b hs gs
  | _, _ => false
theorem iv_hok_all : ∀ μ, μ < iv_nm → iv_hok (iv_c μ) (iv_L μ) ((iv_h μ).headD (0, 0, 0, 0, 0)).1 ((iv_h μ).headD (0, 0, 0, 0, 0)).2.1 (iv_h μ) (iv_hh μ) = true ∧ (iv_h μ = [] ∨ (iv_y μ).cls = "FatVolumeLaw") := by decide +kernel
theorem iv_hh_nil' {μ : Nat} (h : μ < iv_nm) (h1 : iv_h μ = []) : iv_hh μ = [] := (iv_m_ok μ h).2.2.2.2 h1
theorem iv_hd_at {cc : ByteArray} {nL a b pc q pc2 j : Nat} : ∀ (hs : List (Nat × Nat × Nat × Nat × Nat)) (gs : List (Nat × Nat × Nat × Nat)) (es : List ExceptionTableEntry), iv_hok cc nL a b hs gs = true → es.map (fun h => (h.startPc, h.endPc, h.handlerPc, h.catchType)) = gs → iv_hd hs pc q = some (pc2, j) →
    ∃ (pre : List ExceptionTableEntry) (h : ExceptionTableEntry) (post : List ExceptionTableEntry), es = pre ++ h :: post ∧ covers h pc = true ∧ h.catchType = 13 + 2 * q ∧ q < 3 ∧ j < nL ∧ a ≤ pc ∧ pc < b ∧
      ((decode cc h.handlerPc = .ok (.astore j, 2) ∧ pc2 = h.handlerPc + 2) ∨ ∃ k : Fin 4, k.val = j ∧ decode cc h.handlerPc = .ok (.astore_n k, 1) ∧ pc2 = h.handlerPc + 1) ∧ ∀ y ∈ pre, covers y pc = true ∧ ∃ r, r < 3 ∧ q ≠ r ∧ y.catchType = 13 + 2 * r
  | [], gs, es, _, _, h => by cases h
  | h :: hs, [], es, h1, _, _ => by cases h1
  | h :: hs, g :: gs, [], _, h2, _ => by cases h2
  | h :: hs, g :: gs, e :: es, h1, h2, h3 => by
    unfold iv_hok at h1
    simp only [Bool.and_eq_true, beq_iff_eq, decide_eq_true_eq, Bool.or_eq_true] at h1
    obtain ⟨⟨⟨⟨⟨⟨⟨⟨a1, a2⟩, a3⟩, a4⟩, a5⟩, a6⟩, a7⟩, a8⟩, a9⟩ := h1
    rw [List.map_cons, List.cons.injEq] at h2
    obtain ⟨h2, h2'⟩ := h2
    subst h2
    dsimp only at a3 a4 a5 a8
    unfold iv_hd at h3
    split at h3
    · next hc =>
      cases h3
      obtain ⟨c1, c2, rfl⟩ := hc
      refine ⟨[], e, es, rfl, ?_, a5, a6, a7, by omega, by omega, ?_, fun y hy => by cases hy⟩
      · simp only [covers, Bool.and_eq_true, decide_eq_true_eq]
        omega
      · rcases a8 with ⟨b1, b2⟩ | ⟨⟨b1, b2⟩, b3⟩
        · exact Or.inl ⟨b1, b2⟩
        · exact Or.inr ⟨Fin.ofNat 4 h.2.2.2.2, by show h.2.2.2.2 % 4 = _; omega, b2, b3⟩
    · next hc =>
      obtain ⟨pre, h', post, i1, i2, i3, i4, i5, i6, i7, i8, i9⟩ := iv_hd_at hs gs es a9 h2' h3
      refine ⟨e :: pre, h', post, by rw [i1]; rfl, i2, i3, i4, i5, i6, i7, i8, fun y hy => ?_⟩
      rcases List.mem_cons.mp hy with rfl | hy
      · refine ⟨by simp only [covers, Bool.and_eq_true, decide_eq_true_eq]; omega, h.2.2.2.1, a6, fun hq => hc ⟨by omega, by omega, hq.symm⟩, a5⟩
      · exact i9 y hy
theorem iv_law_links {q : Nat} (hq : q < 3) : Cond.classLink "FatVolumeLaw" (13 + 2 * q) (iv_xnm q) ∈ iv_all := by
  have : q = 0 ∨ q = 1 ∨ q = 2 := by omega
  rcases this with rfl | rfl | rfl
  · exact iv_is_in iv_xc_ok.1
  · exact iv_is_in iv_xc_ok.2.1
  · exact iv_is_in iv_xc_ok.2.2
section
variable {p : Program} {l : Launch} {e : Env} {R : Room} {s : State} {m : MethodId} {args : Array Value} {below : List Frame} {meth : Method} {c : Code} {T : State} {locs : List Loc} {cells slots : Nat} {Q : State → Prop} {ls : Array Slot} {sz b L : Nat} {xs : Nat → Int32} {tc : Nat → ClassId} {D : va_G} {μ pc pc2 j q : Nat} {lv : List (Nat × Value)} {st : List Value}
set_option maxHeartbeats 1000000 in
/-- the thrown object is caught by the method's own handler -/
theorem iv_caught (X : Stand p l e R s m args below meth c T locs cells slots) (hμ : μ < iv_nm) (hx : p.tables.exec = Jvm.exec) (hb : c.code = iv_c μ) (hown : s.vm.findClass (iv_y μ).cls = some m.cls) (hts : ∀ w ∈ iv_all, w.before args s = true) (hHx : iv_Hx μ c) (hTh : iv_Th sz s) (hl : lv_has ls (iv_L μ) (iv_lv sz b lv)) (hh : iv_hd (iv_h μ) pc q = some (pc2, j)) {a : Addr} (hEx : iv_Ex q a T)
    (kk : ∀ ls2 : Array Slot, lv_has ls2 (iv_L μ) (iv_lv sz b (iv_no lv j)) → W p l e R s m args below meth c T.heap locs cells slots Q (F0 m pc2 ls2 [])) :
    ∃ t', Steps p.tables e below ((T.setTop (F0 m pc ls st)).pushFrame (.throwing a)) t' ∧ Q t' := by
  obtain ⟨hok, hcl⟩ := iv_hok_all μ hμ
  obtain ⟨pre, h, post, i1, i2, i3, i4, i5, i6, i7, i8, i9⟩ := iv_hd_at _ _ _ hok hHx hh
  have hlaw : (iv_y μ).cls = "FatVolumeLaw" := by
    rcases hcl with h0 | h0
    · rw [h0] at hh; cases hh
    · exact h0
  rw [hlaw] at hown
  obtain ⟨ce, c1, c2, c3⟩ := hEx
  obtain ⟨-, -, -, -, -, t6, t7⟩ := hTh
  obtain ⟨vm', X', stp⟩ := iv_catch X (own := "FatVolumeLaw") (X := iv_xnm q) (C := iv_xnm q) hown c1 c2 (by rw [← X.warmed.alike.findClass]; exact c3) (g := F0 m pc ls st) rfl i1 i2 (by omega) (by rw [i3]; exact hts _ (iv_law_links i4)) (t6 q i4)
    (fun y hy => by
      obtain ⟨y1, r, y2, y3, y4⟩ := i9 y hy
      exact ⟨y1, by omega, iv_xnm r, by rw [y4]; exact hts _ (iv_law_links y2), t7 q r i4 y2 y3⟩)
  have hW : W p l e R s m args below meth c T.heap locs cells slots Q (F0 m h.handlerPc ls [.ref a]) := by
    rcases i8 with ⟨d1, rfl⟩ | ⟨k, d0, d1, rfl⟩
    · exact lv_astore hx hb d1 hl i5 rfl (fun ls2 hl2 => kk ls2 (by rw [iv_lv_no]; exact ⟨hl2.1, hl2.2.1, fun r hr => hl2.2.2 r (List.mem_cons_of_mem _ hr)⟩))
    · subst d0
      exact lv_astore_n hx hb d1 rfl hl i5 rfl (fun ls2 hl2 => kk ls2 (by rw [iv_lv_no]; exact ⟨hl2.1, hl2.2.1, fun r hr => hl2.2.2 r (List.mem_cons_of_mem _ hr)⟩))
  obtain ⟨t', a1, b1⟩ := hW (T.setVm vm') rfl X'
  exact ⟨t', stp t' a1, b1⟩
end
theorem iv_kd5 {i : Instr} {x : Nat} (h0 : ¬ iv_kd i x = 0) (h1 : ¬ iv_kd i x = 1) (h2 : ¬ iv_kd i x = 2) (h3 : ¬ iv_kd i x = 3) (h4 : ¬ iv_kd i x = 4) : iv_kd i x = 5 := by
  have h : iv_kd i x ≤ 5 := by
    unfold iv_kd
    split <;> first | omega | (split <;> omega)
  omega
