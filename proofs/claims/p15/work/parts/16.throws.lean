/-! throws and calls that throw -/
section
variable {p : Program} {l : Launch} {e : Env} {R : Room} {s : State} {m : MethodId} {args : Array Value} {below : List Frame} {meth : Method} {c : Code} {H : Heap} {locs : List Loc} {cells slots : Nat} {Q : State → Prop} {ls : Array Slot} {sz b L : Nat} {xs : Nat → Int32} {tc : Nat → ClassId} {D : va_G} {μ pc x : Nat} {i : Instr} {lv : List (Nat × Value)} {st : List Value} {w w2 : iv_W}
theorem iv_no_tab (hHx : iv_Hx μ c) (h : iv_hh μ = []) : c.exceptionTable.toList = [] := by
  unfold iv_Hx at hHx
  rw [h] at hHx
  exact List.map_eq_nil_iff.mp hHx
set_option maxHeartbeats 4000000 in
theorem iv_throw_ok {d : Nat} (hx : p.tables.exec = Jvm.exec) (hb : c.code = iv_c μ) (hml : c.maxLocals = iv_L μ) (hown : s.vm.findClass (iv_y μ).cls = some m.cls) (hts : ∀ w ∈ iv_all, w.before args s = true) (hlocks : meth.locks = false) (hHx : iv_Hx μ c) (hLn : iv_Ln l) (hSt : iv_St L xs sz b D tc s)
    (hP : va_P D iv_cl (iv_ws sz b tc w) H) (hS : va_S (iv_A sz) s.heap H locs) (hl : lv_has ls (iv_L μ) (iv_lv sz b lv)) (hd : decode (iv_c μ) pc = .ok (i, iv_ln i x)) (ho : iv_okt μ pc i x) (hc : (st.map fun v => v.category).sum ≤ 8 ∧ x < 1003) (hfr : d + 8 ≤ R.frames) (hlo : 100 * d + 400 ≤ R.locals) (hk : cells + 1 ≤ R.cells) (hz : slots + iv_xN ≤ R.slots)
    (far : ∀ (a : Addr) (U : State) (locs1 : List Loc), U.status = .running → Ended U below (.threw a) → s.WarmedH U.vm → s.sameButNew ({ U with vm := s.vm } : State) locs1 (cells + 1) (slots + iv_xN) → va_S (iv_A sz) s.heap U.heap locs1 → va_P D iv_cl (iv_ws sz b tc w) U.heap → iv_Ex (x - 1000) a U → Q U) :
    W p l e R s m args below meth c H locs cells slots Q (F0 m pc ls (st.map (iv_v sz b))) := by
  cases i
  case new n =>
    obtain ⟨f1, f2, f3, f4, f5, f6, f7, f8⟩ := ho
    have hq : x - 1000 < 3 := by omega
    obtain ⟨g1, g2⟩ := iv_x_words hq
    obtain ⟨cX, kX, hfc, hkX, -⟩ := Cond.instantiable_spec (hts _ g1)
    have hTh := hSt.2.2.2.2.2.2
    have hz0 := hSt.2.2.2.2.2.1
    refine W.newcK (n := 6) hx hb hown (hts _ f3) (hts _ g1) (hts _ g2) rfl hd hk hz hfc rfl fun H1 kC hkC e1 z1 o1 => ?_
    refine W.eq (g2 := F0 m (pc + 3) ls (.ref H.size :: st.map (iv_v sz b))) rfl ?_
    refine lv_dup hx hb f4 rfl ?_
    intro T hT X
    have hsum := iv_cat_sum (sz := sz) (b := b) st
    obtain ⟨U, st1, r1, r2, r3, r4, ⟨ce, c1, c2, c3⟩, r5, r6⟩ := iv_ctor X hx (iv_htr hLn X.admits) (own := "FatVolume") (cls := iv_xnm (x - 1000)) (names := iv_up) (ic := iv_ic (x - 1000)) (by rw [← f8]; exact hown) (iv_fit_x hq) iv_fit_up (iv_own hts hTh hq) (sz := sz) hS.2.2 hTh.1 hfc hkC (by rw [hT]; exact e1) hS.1
      (g := F0 m (pc + 4) ls (.ref H.size :: .ref H.size :: st.map (iv_v sz b))) rfl (by rw [hml]; exact hl.1) rfl rfl rfl (by rw [hb]; exact f5) (by rw [hb]; exact f6) (fun y hy => by rw [iv_no_tab hHx f7] at hy; cases hy)
      (by show 2 + 3 < _; omega) (by
        show 2 * 0 + (1 + ((st.map (iv_v sz b)).map fun v => v.category).sum) + (13 * (2 + 1) + 41) ≤ _
        rw [hsum]
        omega) hlocks
    have hzH : U.heap.size = H.size + 1 := by rw [r5, hT, z1]
    have hkeep : ∀ q, q < H.size → U.heap[q]? = H[q]? := fun q hq => by rw [r6 q (Nat.ne_of_lt hq), hT, o1 q hq]
    refine ⟨U, st1, far H.size U locs r1 r2 r3 r4 ⟨?_, fun q h1 h2 => ?_, hS.2.2⟩ (hP.kept fun k q hk => hkeep q.1 ((hP k q hk).lt)) ⟨ce, c1, c3, ?_⟩⟩
    · rw [hzH]; exact Nat.le_succ_of_le hS.1
    · rw [hkeep q (Nat.lt_of_lt_of_le h1 hS.1)]
      exact hS.2.1 q h1 h2
    · rw [r3.alike.findClass, c2]; exact hfc
  all_goals exact ho.elim
end
section
variable {p : Program} {l : Launch} {e : Env} {R : Room} {s : State} {m : MethodId} {args : Array Value} {below : List Frame} {meth : Method} {c : Code} {H : Heap} {locs : List Loc} {cells slots : Nat} {Q : State → Prop} {ls : Array Slot} {sz b L : Nat} {xs : Nat → Int32} {tc : Nat → ClassId} {D : va_G} {μ pc x n : Nat} {i : Instr} {lv : List (Nat × Value)} {w w2 : iv_W}
set_option maxHeartbeats 4000000 in
/-- a call that throws: what is done with the thrown object is 'far' -/
theorem iv_callT {d k2 z2 q : Nat} {tg tg2 : Bool} {as rest : List Value} (ih : iv_Sound L xs sz b D tc n) (hx : p.tables.exec = Jvm.exec) (hb : c.code = iv_c μ) (hml : c.maxLocals = iv_L μ) (hown : s.vm.findClass (iv_y μ).cls = some m.cls) (hts : ∀ w ∈ iv_all, w.before args s = true) (hLn : iv_Ln l) (hSt : iv_St L xs sz b D tc s)
    (hP : va_P D iv_cl (iv_ws sz b tc w) H) (hS : va_S (iv_A sz) s.heap H locs) (hl : lv_has ls (iv_L μ) (iv_lv sz b lv)) (hsz : tg = true → H.size = sz + w.length) (hd : decode (iv_c μ) pc = .ok (i, iv_ln i x)) (ho : iv_okc μ i x) (hkind : x / 1000 < 2)
    (h : iv_run L xs n d (x % 1000) 0 (lv_args 0 as) [] w tg 0 0 = some (.inr q, w2, tg2, k2, z2)) (hfr : d + 1 + 8 ≤ R.frames) (hlo : 100 * (d + 1) + 400 ≤ R.locals) (hk : cells + k2 ≤ R.cells) (hz : slots + z2 ≤ R.slots)
    (hlen : as.length = iv_cv (iv_np (x % 1000)) (x / 1000)) (hrest : (rest.map fun v => v.category).sum ≤ 8) (hrc : iv_rc w (x / 1000) (x % 1000) as = true) (hfit : (as.map fun v => v.category).sum ≤ iv_L (x % 1000)) (hhh : iv_h (x % 1000) = [] → iv_hh (x % 1000) = [])
    (far : ∀ (a : Addr) (T' : State) (locs1 : List Loc), Stand p l e R s m args below meth c T' locs1 (cells + k2) (slots + z2) → va_S (iv_A sz) s.heap T'.heap locs1 → va_P D iv_cl (iv_ws sz b tc w2) T'.heap → iv_Ex q a T' → ∃ t', Steps p.tables e below ((T'.setTop (F0 m pc ls (rest.map (iv_v sz b)))).pushFrame (.throwing a)) t' ∧ Q t') :
    W p l e R s m args below meth c H locs cells slots Q (F0 m pc ls ((as.reverse ++ rest).map (iv_v sz b))) := by
  obtain ⟨f1, f2, f3, f4, f5, f6, f7, f0, f8⟩ := ho
  have hG := iv_good_in (x % 1000) f6
  have hpre := iv_pre (as := as) hSt hP hS hsz
  have hR : (iv_rm d k2 z2).frames + 1 ≤ R.frames ∧ 8 + (iv_L (x % 1000) + 11) + (iv_rm d k2 z2).locals ≤ R.locals := ⟨iv_room_f hfr, iv_room_l f7 hlo⟩
  cases i
  case invokevirtual j =>
    obtain ⟨g1, g2, g3, ⟨r, g4, g5⟩, g6⟩ := f8
    have hcw : iv_wsm (x % 1000) = .code (iv_y (x % 1000)) (iv_c (x % 1000)) (iv_L (x % 1000)) (iv_r (x % 1000)) :: iv_all := by
      show iv_cw (x % 1000) :: iv_all = _
      unfold iv_cw
      rw [g3]
    have hM := iv_metT ih l hLn h f4 hfit g3 (hhh g3)
    unfold iv_rc at hrc
    rw [Bool.and_eq_true] at hrc
    obtain ⟨a, as2, fs, rfl, hobj⟩ : ∃ a as2 fs, as = .ref a :: as2 ∧ iv_obj w a (iv_cn (x % 1000)) = some fs := by
      have h2 := hrc.2
      rcases g6 with ⟨h0, -⟩ | ⟨h0, -⟩ <;> rw [h0] at h2 <;> (cases as with
        | nil => cases h2
        | cons v as2 => cases v <;> first | (obtain ⟨fs, hfs⟩ := Option.isSome_iff_exists.mp h2; exact ⟨_, _, fs, rfl, hfs⟩) | cases h2)
    obtain ⟨k, rfl, hw⟩ := iv_obj_eq hobj
    have hrecv := va_recv hSt.1 hP g4 (iv_ws_at hw)
    rw [g5] at hrecv
    have hpv : PreV s H (iv_y (x % 1000)).cls (iv_ad sz b (k + 1)) (iv_Pc L xs sz b D tc (.ref (k + 1) :: as2) w tg) (as2.map (iv_v sz b)) := ⟨hpre.1, hrecv, hpre.2⟩
    have hn2 : (as2.map (iv_v sz b)).length = iv_np (x % 1000) := by
      rw [List.length_map]
      have h2 := hlen
      unfold iv_cv at h2
      rcases g6 with ⟨h0, -⟩ | ⟨h0, -⟩ <;> rw [h0] at h2 <;> simpa using h2
    have hstk : (((.ref (k + 1) :: as2).reverse ++ rest).map (iv_v sz b)) = (as2.map (iv_v sz b)).reverse ++ .ref (iv_ad sz b (k + 1)) :: rest.map (iv_v sz b) := by simp [iv_v]
    have hlink : (Cond.methodLink (iv_y μ).cls j (iv_y (x % 1000))).before args s = true ∨ ∃ host, (Cond.methodLinkNest (iv_y μ).cls j (iv_y (x % 1000)) host).before args s = true := by
      rcases g6 with ⟨h0, h1⟩ | ⟨h0, host, h1⟩
      · exact Or.inl (hts _ h1)
      · exact Or.inr ⟨host, va_Nw.use rfl (hSt.2.1 _ h1)⟩
    rw [hstk]
    refine iv_callVT hx hb hml hown hlink (hts _ g1) (hts _ g2) (bytes := iv_c (x % 1000)) (maxL := iv_L (x % 1000)) (ret := iv_r (x % 1000)) (hts _ (by have h9 := f6; unfold iv_cw at h9; rw [g3] at h9; exact h9)) ⟨f1, f2⟩ hM rfl rfl hR.1 hR.2 (pay_in hts hG) (by rw [hcw]; exact List.mem_cons_self)
      (fun a' U hW => word_at hW (Or.inl (by first | rfl | simp [Cond.onTables, Cond.keeps, Cond.steady])) (hts _ f5)) hpv hn2 f3 hl.1 (by rw [iv_cat_sum]; exact hrest) hd ⟨hk, hz⟩ ?_
    intro a t T' st₀ Lc h0 hL e1 e2 hq X'
    obtain ⟨⟨a2, ha2, ce, c1, c2, c3⟩, hP2, hF⟩ := hq
    cases ha2
    refine far a T' (locs ++ Lc) X' ⟨?_, fun q h1 h2 => ?_, fun q hq => ?_⟩ (by rw [e1]; exact hP2) ⟨ce, by rw [e1]; exact c1, c2, by rw [e2]; exact c3⟩
    · rw [e1]; exact Nat.le_trans hS.1 (by rw [← h0]; exact hF.1)
    · rw [e1, hF.2 q (by rw [h0]; exact Nat.lt_of_lt_of_le h1 hS.1) h2, h0]
      exact hS.2.1 q h1 h2
    · rcases List.mem_append.mp hq with h | h
      · exact hS.2.2 q h
      · exact hL q h
  case invokestatic j =>
    obtain ⟨-, g6⟩ := f8
    rcases g6 with ⟨h0, -⟩ | ⟨h0, -⟩ <;> omega
  case invokespecial j =>
    obtain ⟨-, -, -, -, g6⟩ := f8
    rcases g6 with ⟨h0, -⟩ | ⟨h0, -⟩ <;> omega
  all_goals exact f8.elim
end
