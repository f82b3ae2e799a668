/-! a run of the machine is a walk of the model -/
theorem iv_lg (vs : List Value) : (lg_sl vs).length = (vs.map fun v => v.category).sum := by
  induction vs with
  | nil => rfl
  | cons v vs ih =>
    rw [List.map_cons, List.sum_cons, ← ih]
    unfold lg_sl
    rw [List.flatMap_cons, List.length_append]
    rcases lv_cat v with h | h <;> simp [h]
def iv_Hx (μ : Nat) (c : Code) : Prop := c.exceptionTable.toList.map (fun h => (h.startPc, h.endPc, h.handlerPc, h.catchType)) = iv_hh μ
/-- what the tables must say at a throw -/
def iv_okt (μ pc : Nat) (i : Instr) (x : Nat) : Prop := match i with
  | .new n => 1000 ≤ x ∧ x < 1003 ∧ Cond.classLink (iv_y μ).cls n (iv_xnm (x - 1000)) ∈ iv_all ∧ decode (iv_c μ) (pc + 3) = .ok (.dup, 1) ∧ decode (iv_c μ) (pc + 4) = .ok (.invokespecial (iv_ic (x - 1000)), 3) ∧ decode (iv_c μ) (pc + 7) = .ok (.athrow, 1) ∧ iv_hh μ = [] ∧ (iv_y μ).cls = "FatVolume"
  | _ => False
/-- what the tables say at every place of every method -/
def iv_Tab : Prop := ∀ μ pc i x, iv_look (iv_t μ) pc = some (i, x) → μ < iv_nm ∧ iv_ok μ pc i x ∧ (iv_kd i x = 3 → iv_okn μ i x) ∧ (iv_kd i x = 4 → iv_okl μ i x) ∧ (iv_kd i x = 5 → iv_okc μ i x) ∧ (iv_kd i x = 2 → iv_okt μ pc i x)
def iv_Sound (L : Nat) (xs : Nat → Int32) (sz b : Nat) (D : va_G) (tc : Nat → ClassId) (n : Nat) : Prop :=
  ∀ (d μ pc : Nat) (lv : List (Nat × Value)) (st : List Value) (w : iv_W) (tg : Bool) (k z : Nat) (o : Option Value ⊕ Nat) (w2 : iv_W) (tg2 : Bool) (k2 z2 : Nat), iv_run L xs n d μ pc lv st w tg k z = some (o, w2, tg2, k2, z2) →
  ∀ (p : Program) (l : Launch) (e : Env) (R : Room) (s : State) (m : MethodId) (args : Array Value) (below : List Frame) (meth : Method) (c : Code) (H : Heap) (locs : List Loc) (ls : Array Slot) (Q : State → Prop),
    p.tables.exec = Jvm.exec → c.code = iv_c μ → c.maxLocals = iv_L μ → s.vm.findClass (iv_y μ).cls = some m.cls → (∀ w ∈ iv_all, w.before args s = true) → meth.locks = false → meth.name = (iv_y μ).name → iv_Hx μ c → iv_Ln l → iv_St L xs sz b D tc s →
    va_P D iv_cl (iv_ws sz b tc w) H → va_S (iv_A sz) s.heap H locs → lv_has ls (iv_L μ) (iv_lv sz b lv) → (tg = true → s.heap.size + k = sz + w.length) → d + 8 ≤ R.frames → 100 * d + 400 ≤ R.locals → k2 ≤ R.cells → z2 ≤ R.slots →
    (∀ v, o = .inl v → ∀ (pc1 : Nat) (i1 : Instr) (x1 : Nat) (st1 : List Value) (H1 : Heap) (locs1 : List Loc) (ls1 : Array Slot), decode (iv_c μ) pc1 = .ok (i1, iv_ln i1 x1) → iv_ret (iv_r μ) i1 st1 = some v → va_P D iv_cl (iv_ws sz b tc w2) H1 → va_S (iv_A sz) s.heap H1 locs1 →
      W p l e R s m args below meth c H1 locs1 k2 z2 Q (F0 m pc1 ls1 (st1.map (iv_v sz b)))) →
    (∀ q, o = .inr q → ∀ (x : Addr) (U : State) (locs1 : List Loc), U.status = .running → Ended U below (.threw x) → s.WarmedH U.vm → s.sameButNew ({ U with vm := s.vm } : State) locs1 k2 z2 → va_S (iv_A sz) s.heap U.heap locs1 → va_P D iv_cl (iv_ws sz b tc w2) U.heap → iv_Ex q x U → Q U) →
    W p l e R s m args below meth c H locs k z Q (F0 m pc ls (st.map (iv_v sz b)))
section
variable {L : Nat} {xs : Nat → Int32} {sz b : Nat} {D : va_G} {tc : Nat → ClassId} {n : Nat}
/-- the words of a method, in its own order -/
abbrev iv_wsm (μ : Nat) : List Cond := iv_cw μ :: iv_all
/-- a method that comes back, as a contract -/
theorem iv_met (ih : iv_Sound L xs sz b D tc n) (l : Launch) (hLn : iv_Ln l) {d μ : Nat} {as : List Value} {w : iv_W} {tg : Bool} {v : Option Value} {w2 : iv_W} {tg2 : Bool} {k2 z2 : Nat} (h : iv_run L xs n d μ 0 (lv_args 0 as) [] w tg 0 0 = some (.inl v, w2, tg2, k2, z2))
    (hpl : plainName (iv_y μ).cls = true) (hfit : (as.map fun v => v.category).sum ≤ iv_L μ) (hhh : iv_h μ = [] → iv_hh μ = []) :
    Met l (iv_y μ) (iv_wsm μ) (iv_rm d k2 z2) (iv_Pc L xs sz b D tc as w tg) (iv_Qr sz b D tc v w2) k2 z2 (iv_A sz) := by
  have body : ∀ p e s m args below meth c s₁, BodyLoose p l (iv_y μ) (headSpec (iv_wsm μ) (iv_rm d k2 z2)) (iv_c μ) (iv_L μ) (iv_r μ) e s m args below meth c s₁ → c.maxLocals = iv_L μ → iv_Pc L xs sz b D tc as w tg args s → iv_Hx μ c →
      W p l e (headSpec (iv_wsm μ) (iv_rm d k2 z2)).room s m args below meth c s.heap [] 0 0 (MQ below (iv_Qr sz b D tc v w2) args s k2 z2 (iv_A sz)) (entryFrame m args (iv_L μ)) := by
    intro p e s m args below meth c s₁ B hml hv hHx
    obtain ⟨rfl, hSt, hP, hsz⟩ := hv
    have hts := atoms_spec (ws := iv_wsm μ) B.pre
    have hl := lv_entry (as.map (iv_v sz b)) (n := iv_L μ) (by rw [iv_lg, iv_cat_sum]; exact hfit)
    rw [lg_entry_eq]
    rw [iv_args] at hl
    refine ih d μ 0 _ [] w tg 0 0 _ _ _ _ _ h p l e _ s m _ below meth c s.heap [] _ _ B.exec B.bytes hml (findClass_of_methodNamed B.named) (fun w hw => hts w (List.mem_cons_of_mem _ hw)) B.notSynchronized (name_of_methodNamed B.named B.method).1 hHx hLn hSt hP va_S.rf hl
      (fun ht => hsz ht) (Nat.le_refl _) (Nat.le_refl _) (Nat.le_refl _) (Nat.le_refl _) ?_ (fun q hq => by cases hq)
    intro v1 hv1 pc1 i1 x1 st1 H1 locs1 ls1 hd1 hr1 hP1 hS1
    cases hv1
    exact iv_ret_ok B.exec B.bytes B.returns B.notSynchronized hd1 hr1 (fun t ht hW => ⟨rfl, by rw [ht]; exact hP1, hS1.F ht⟩) hS1.2.2 (Nat.le_refl _) (Nat.le_refl _)
  cases hh : iv_h μ with
  | nil =>
    have hcw : iv_cw μ = .code (iv_y μ) (iv_c μ) (iv_L μ) (iv_r μ) := by unfold iv_cw; rw [hh]
    refine Met.ofW (cc := iv_c μ) (maxL := iv_L μ) (ret := iv_r μ) (ws' := iv_all) hpl (by show iv_cw μ :: iv_all = _; rw [hcw]) ?_
    intro p e s m args below meth c s₁ B hml hv
    refine body p e s m args below meth c s₁ B hml hv ?_
    have hts := atoms_spec (ws := iv_wsm μ) B.pre
    have h0 := B.noHandlers (by have := hts _ List.mem_cons_self; rw [hcw] at this; exact this)
    unfold iv_Hx
    rw [hhh hh]
    have h1 : c.exceptionTable.toList = [] := List.eq_nil_of_length_eq_zero (by simpa [Array.isEmpty] using h0)
    rw [h1]
    rfl
  | cons h0 r0 =>
    have hcw : iv_cw μ = .codeWith (iv_y μ) (iv_c μ) (iv_L μ) (iv_r μ) (iv_hh μ) := by unfold iv_cw; rw [hh]
    refine va_MetW (cc := iv_c μ) (maxL := iv_L μ) (ret := iv_r μ) (hh := iv_hh μ) (ws' := iv_all) hpl (by show iv_cw μ :: iv_all = _; rw [hcw]) ?_
    intro p e s m args below meth c s₁ B hml hv
    refine body p e s m args below meth c s₁ B hml hv ?_
    have hts := atoms_spec (ws := iv_wsm μ) B.pre
    have h1 := hts _ List.mem_cons_self
    rw [hcw] at h1
    obtain ⟨m', meth', c', hn', hm', hc', -, -, htab, -, -, -⟩ := Cond.codeWith_spec h1
    cases B.named.symm.trans hn'
    cases B.method.symm.trans hm'
    cases (Stand.of_body B).code.symm.trans hc'
    exact htab
/-- a method that throws, as a contract -/
theorem iv_metT (ih : iv_Sound L xs sz b D tc n) (l : Launch) (hLn : iv_Ln l) {d μ : Nat} {as : List Value} {w : iv_W} {tg : Bool} {q : Nat} {w2 : iv_W} {tg2 : Bool} {k2 z2 : Nat} (h : iv_run L xs n d μ 0 (lv_args 0 as) [] w tg 0 0 = some (.inr q, w2, tg2, k2, z2))
    (hpl : plainName (iv_y μ).cls = true) (hfit : (as.map fun v => v.category).sum ≤ iv_L μ) (hh : iv_h μ = []) (hhh : iv_hh μ = []) :
    iv_MetT l (iv_y μ) (iv_wsm μ) (iv_rm d k2 z2) (iv_Pc L xs sz b D tc as w tg) (iv_Qt sz b D tc q w2) k2 z2 (iv_A sz) := by
  have hcw : iv_cw μ = .code (iv_y μ) (iv_c μ) (iv_L μ) (iv_r μ) := by unfold iv_cw; rw [hh]
  refine iv_MetT_of (cc := iv_c μ) (maxL := iv_L μ) (ret := iv_r μ) (ws' := iv_all) hpl (by show iv_cw μ :: iv_all = _; rw [hcw]) ?_
  intro p e s m args below meth c s₁ B hml hv
  obtain ⟨rfl, hSt, hP, hsz⟩ := hv
  have hts := atoms_spec (ws := iv_wsm μ) B.pre
  have h0 := B.noHandlers (by have := hts _ List.mem_cons_self; rw [hcw] at this; exact this)
  have hHx : iv_Hx μ c := by
    unfold iv_Hx
    rw [hhh]
    have h1 : c.exceptionTable.toList = [] := List.eq_nil_of_length_eq_zero (by simpa [Array.isEmpty] using h0)
    rw [h1]
    rfl
  have hl := lv_entry (as.map (iv_v sz b)) (n := iv_L μ) (by rw [iv_lg, iv_cat_sum]; exact hfit)
  rw [lg_entry_eq]
  rw [iv_args] at hl
  refine ih d μ 0 _ [] w tg 0 0 _ _ _ _ _ h p l e _ s m _ below meth c s.heap [] _ _ B.exec B.bytes hml (findClass_of_methodNamed B.named) (fun w hw => hts w (List.mem_cons_of_mem _ hw)) B.notSynchronized (name_of_methodNamed B.named B.method).1 hHx hLn hSt hP va_S.rf hl
    (fun ht => hsz ht) (Nat.le_refl _) (Nat.le_refl _) (Nat.le_refl _) (Nat.le_refl _) (fun v hv => by cases hv) ?_
  intro q1 hq1 x U locs1 u1 u2 u3 u4 u5 u6 u7
  cases hq1
  exact ⟨x, u1, u2, ⟨⟨x, rfl, u7⟩, u6, u5.F rfl⟩, u3, locs1, u4, u5.2.2⟩
end
section
variable {p : Program} {l : Launch} {e : Env} {R : Room} {s : State} {m : MethodId} {args : Array Value} {below : List Frame} {meth : Method} {c : Code} {H : Heap} {locs : List Loc} {cells slots : Nat} {Q : State → Prop} {ls : Array Slot} {sz b L : Nat} {xs : Nat → Int32} {tc : Nat → ClassId} {D : va_G} {μ pc x : Nat} {i : Instr} {lv : List (Nat × Value)} {w w2 : iv_W}
theorem iv_room_f {d f : Nat} (h : d + 1 + 8 ≤ f) : d + 8 + 1 ≤ f := by omega
set_option maxRecDepth 100000 in
theorem iv_room_l {d q f : Nat} (h7 : q ≤ 60) (h : 100 * (d + 1) + 400 ≤ f) : 8 + (q + 11) + (100 * d + 400) ≤ f := by omega
theorem iv_room_w {k : Nat} (h : k ≤ 8) : 2 * 0 + k ≤ 8 := by omega
theorem iv_good_in (ν : Nat) (h : iv_cw ν ∈ iv_all) : GoodIn iv_all (iv_wsm ν) := by
  intro w hw
  have hw2 : w ∈ iv_all := by
    rcases List.mem_cons.mp hw with rfl | hw
    · exact h
    · exact hw
  exact ⟨hw2, iv_good w hw2⟩
theorem iv_pre {tg : Bool} {as : List Value} (hSt : iv_St L xs sz b D tc s) (hP : va_P D iv_cl (iv_ws sz b tc w) H) (hS : va_S (iv_A sz) s.heap H locs) (hsz : tg = true → H.size = sz + w.length) : PreS s H (iv_Pc L xs sz b D tc as w tg) (as.map (iv_v sz b)) := by
  refine ⟨iv_Pc_blind, fun U hU hW => ⟨rfl, ?_, ?_, ?_⟩⟩
  · have hz := hSt.2.2.2.2.2.1
    refine iv_St_moved hSt hW (fun q hq => ?_) ?_
    · rw [hU]
      exact hS.2.1 q (Nat.lt_of_lt_of_le hq hz) (Nat.not_le.mpr hq)
    · rw [hU]
      exact Nat.le_trans hz hS.1
  · rw [hU]; exact hP
  · rw [hU]; exact hsz
/-- a static call of a method with handlers -/
theorem iv_runSW {y : MethodName} {bytes cc : ByteArray} {maxL nL mc ms n index : Nat} {ret : Option FieldType} {hh : List (Nat × Nat × Nat × Nat)} {ws : List Cond} {rm : Room} {Pc : Array Value → State → Prop} {Qc : Array Value → State → Outcome → State → Prop} {free : Addr → Prop} {Ts : List Cond} {own : String} {As rest : List Value} {g : JFrame}
    (S : CallFix p m c cc nL s args Ts own) (hM : Met l y ws rm Pc Qc mc ms free) (hrc : rm.cells = mc) (hrs : rm.slots = ms) (hfr : rm.frames + 1 ≤ R.frames) (hlo : 8 + (maxL + 11) + rm.locals ≤ R.locals) (hws : ∀ w ∈ ws, ∀ (a' : Array Value) (U : State), s.WarmedH U.vm → w.before a' U = true) (hcw : Cond.codeWith y bytes maxL ret hh ∈ ws)
    (hcode : (Cond.codeWith y bytes maxL ret hh).before args s = true) (hini : (Cond.initialized y.cls).before args s = true) (hy : y.cls ≠ "java/lang/invoke/MethodHandle" ∧ y.cls ≠ "java/lang/invoke/VarHandle") (hlen : (parseMethodDescriptor y.desc).map (fun d => d.parameters.length) = some n) (hl : (Cond.methodLink own index y).before args s = true) (hstt : (Cond.static y).before args s = true) (hp : PreS s H Pc As)
    (hg : g.method = m) (hn : As.length = n) (hsize : g.locals.size = nL) (hstack : g.stack = As.reverse ++ rest) (hW : 2 * g.monitorRoom + (rest.map fun v => v.category).sum ≤ 8) (hdg : decode cc g.pc = .ok (.invokestatic index, 3)) (hf : cells + mc ≤ R.cells ∧ slots + ms ≤ R.slots) :
    va_Run p l e R s m args below meth c H locs cells slots mc ms g rest (Qc As.toArray) (free) := by
  have hK : Back l R p e below s args y 3 8 (PreOf R mc ms Pc) (PostOf Qc mc ms free) := va_backW (hh := hh) (bytes := bytes) (maxL := maxL) (ret := ret) hM hp.1 hrc hrs hfr hlo hws hcw (fun a' U hW => word_at hW (Or.inl (by first | rfl | simp [Cond.onTables, Cond.keeps, Cond.steady])) hini)
  obtain ⟨hx, hb, hml, ho, -⟩ := S
  intro T hT X
  obtain ⟨mk, methM, cM, hnamed, hmethM, -, -, -, -, -, -, hsigM⟩ := Cond.codeWith_spec hcode
  have hstatic : methM.isStatic = true := Cond.static_spec hnamed hmethM hstt
  obtain ⟨kP, hkP, -⟩ := className_of_methodNamed hnamed
  have hinitP : kP.init = .initialized := Cond.initialized_spec (findClass_of_methodNamed hnamed) hkP hini
  have hlen' : As.length = methM.sig.parameters.length := by
    rw [hsigM] at hlen
    exact hn.trans (Option.some.inj hlen).symm
  obtain ⟨vm₁, X₁, hstep₁⟩ := X.invokestatic hx ho hl hnamed hmethM hstatic hkP hinitP hy (g := g) hg (argsL := As) (rest := rest) hlen' hstack (by rw [hb]; exact hdg)
  obtain ⟨v, ⟨U', l2, c2, s2⟩, X', ⟨g', mk', t, L, e1, e2, hq, h1, hL, h2, h3⟩, hsteps⟩ := hK m meth c ⟨T.setVm vm₁, locs, cells, slots⟩ { g with stack := rest } (.invokestatic index) mk As.toArray X₁ hg (hsize.trans hml.symm) (by rw [hb]; exact hdg) hW (X₁.named hnamed) ⟨hf.1, hf.2, hp.2 (T.setVm vm₁) hT X₁.warmed⟩
  dsimp only [Pt.U, Pt.locs, Pt.cells, Pt.slots] at X' e1 e2 h1 h2 h3 hsteps
  subst h1; subst h2; subst h3
  exact ⟨v, (T.setVm vm₁).calling g' mk' As.toArray, t, U', L, hT, X', hL, e1, e2, hq, fun target h => hstep₁ _ fun acts => by rw [doInvoke_state]; exact hsteps.trans h⟩
set_option maxHeartbeats 4000000 in
theorem iv_callR {d k2 z2 : Nat} {tg : Bool} {as rest : List Value} {v : Option Value} (hx : p.tables.exec = Jvm.exec) (hb : c.code = iv_c μ) (hml : c.maxLocals = iv_L μ) (hown : s.vm.findClass (iv_y μ).cls = some m.cls) (hts : ∀ w ∈ iv_all, w.before args s = true) (hSt : iv_St L xs sz b D tc s)
    (hP : va_P D iv_cl (iv_ws sz b tc w) H) (hS : va_S (iv_A sz) s.heap H locs) (hl : lv_has ls (iv_L μ) (iv_lv sz b lv)) (hsz : tg = true → H.size = sz + w.length) (hd : decode (iv_c μ) pc = .ok (i, iv_ln i x)) (ho : iv_okc μ i x)
    (hM : Met l (iv_y (x % 1000)) (iv_wsm (x % 1000)) (iv_rm d k2 z2) (iv_Pc L xs sz b D tc as w tg) (iv_Qr sz b D tc v w2) k2 z2 (iv_A sz)) (hfr : d + 1 + 8 ≤ R.frames) (hlo : 100 * (d + 1) + 400 ≤ R.locals) (hk : cells + k2 ≤ R.cells) (hz : slots + z2 ≤ R.slots)
    (hlen : as.length = iv_cv (iv_np (x % 1000)) (x / 1000)) (hrest : (rest.map fun v => v.category).sum ≤ 8) (hrc : iv_rc w (x / 1000) (x % 1000) as = true) :
    va_Run p l e R s m args below meth c H locs cells slots k2 z2 (F0 m pc ls ((as.reverse ++ rest).map (iv_v sz b))) (rest.map (iv_v sz b)) (iv_Qr sz b D tc v w2 (as.map (iv_v sz b)).toArray) (iv_A sz) := by
  obtain ⟨f1, f2, f3, f4, f5, f6, f7, f0, f8⟩ := ho
  have hG := iv_good_in (x % 1000) f6
  have hS0 : CallFix p m c (iv_c μ) (iv_L μ) s args iv_all (iv_y μ).cls := ⟨hx, hb, hml, hown, hts⟩
  have hpre := iv_pre (as := as) hSt hP hS hsz
  have hR : (iv_rm d k2 z2).frames + 1 ≤ R.frames ∧ 8 + (iv_L (x % 1000) + 11) + (iv_rm d k2 z2).locals ≤ R.locals := ⟨iv_room_f hfr, iv_room_l f7 hlo⟩
  have hW : 2 * (F0 m pc ls ((as.reverse ++ rest).map (iv_v sz b))).monitorRoom + ((rest.map (iv_v sz b)).map fun v => v.category).sum ≤ 8 := by
    rw [iv_cat_sum]
    exact iv_room_w hrest
  have hwn : ∀ (n : Nat) (host : String), ((iv_y μ).cls, n, iv_y (x % 1000), host) ∈ iv_nest → va_Nw (.methodLinkNest (iv_y μ).cls n (iv_y (x % 1000)) host) s := fun n host h => hSt.2.1 _ h
  cases i
  case invokevirtual n =>
    obtain ⟨g1, g2, g3, ⟨q, g4, g5⟩, g6⟩ := f8
    have hcw : iv_wsm (x % 1000) = .code (iv_y (x % 1000)) (iv_c (x % 1000)) (iv_L (x % 1000)) (iv_r (x % 1000)) :: iv_all := by
      show iv_cw (x % 1000) :: iv_all = _
      unfold iv_cw
      rw [g3]
    unfold iv_rc at hrc
    rw [Bool.and_eq_true] at hrc
    obtain ⟨a, as2, fs, rfl, hobj⟩ : ∃ a as2 fs, as = .ref a :: as2 ∧ iv_obj w a (iv_cn (x % 1000)) = some fs := by
      have h2 := hrc.2
      rcases g6 with ⟨h0, -⟩ | ⟨h0, -⟩ <;> rw [h0] at h2 <;> (cases as with
        | nil => cases h2
        | cons v as2 => cases v <;> first | (obtain ⟨fs, hfs⟩ := Option.isSome_iff_exists.mp h2; exact ⟨_, _, fs, rfl, hfs⟩) | cases h2)
    obtain ⟨k, rfl, hw⟩ := iv_obj_eq hobj
    have hrecv := va_recv hSt.1 hP g4 (iv_ws_at hw)
    rw [g5] at hrecv
    have hpv : PreV s H (iv_y (x % 1000)).cls (iv_ad sz b (k + 1)) (iv_Pc L xs sz b D tc (.ref (k + 1) :: as2) w tg) (as2.map (iv_v sz b)) := ⟨hpre.1, hrecv, hpre.2⟩
    have hn2 : (as2.map (iv_v sz b)).length = iv_np (x % 1000) := by
      rw [List.length_map]
      have h2 := hlen
      unfold iv_cv at h2
      rcases g6 with ⟨h0, -⟩ | ⟨h0, -⟩ <;> rw [h0] at h2 <;> simpa using h2
    have hstk : (((.ref (k + 1) :: as2).reverse ++ rest).map (iv_v sz b)) = (as2.map (iv_v sz b)).reverse ++ .ref (iv_ad sz b (k + 1)) :: rest.map (iv_v sz b) := by simp [iv_v]
    rcases g6 with ⟨h0, h1⟩ | ⟨h0, host, h1⟩
    · exact va_runV hS0 hM ⟨callB_of (iv_np (x % 1000)) hts hG hcw rfl rfl (hts _ f5) (hts _ h1) ⟨f1, f2, f3⟩ hR, hts _ g1, hts _ g2⟩ hpv rfl hn2 hl.1 hstk hW hd ⟨hk, hz⟩
    · exact va_runVN hS0 hM ⟨va_cnB (iv_np (x % 1000)) hts hG hcw rfl rfl (hwn n host h1) (hts _ f5) ⟨f1, f2, f3⟩ hR, hts _ g1, hts _ g2⟩ hpv rfl hn2 hl.1 hstk hW hd ⟨hk, hz⟩
  case invokestatic n =>
    obtain ⟨g1, g6⟩ := f8
    have hn2 : (as.map (iv_v sz b)).length = iv_np (x % 1000) := by
      rw [List.length_map]
      have h2 := hlen
      unfold iv_cv at h2
      rcases g6 with ⟨h0, -⟩ | ⟨h0, -⟩ <;> rw [h0] at h2 <;> simpa using h2
    have hstk : ((as.reverse ++ rest).map (iv_v sz b)) = (as.map (iv_v sz b)).reverse ++ rest.map (iv_v sz b) := by simp
    rcases g6 with ⟨h0, h1⟩ | ⟨h0, g3, host, h1⟩
    · cases hh : iv_h (x % 1000) with
      | nil =>
        have hcw : iv_wsm (x % 1000) = .code (iv_y (x % 1000)) (iv_c (x % 1000)) (iv_L (x % 1000)) (iv_r (x % 1000)) :: iv_all := by
          show iv_cw (x % 1000) :: iv_all = _
          unfold iv_cw
          rw [hh]
        exact va_runS hS0 hM ⟨callB_of (iv_np (x % 1000)) hts hG hcw rfl rfl (hts _ f5) (hts _ h1) ⟨f1, f2, f3⟩ hR, hts _ g1⟩ hpre rfl hn2 hl.1 hstk hW hd ⟨hk, hz⟩
      | cons h9 r9 =>
        have hcw : iv_cw (x % 1000) = .codeWith (iv_y (x % 1000)) (iv_c (x % 1000)) (iv_L (x % 1000)) (iv_r (x % 1000)) (iv_hh (x % 1000)) := by
          unfold iv_cw
          rw [hh]
        exact iv_runSW hS0 hM rfl rfl hR.1 hR.2 (pay_in hts hG) (hh := iv_hh (x % 1000)) (by rw [← hcw]; exact List.mem_cons_self) (by rw [← hcw]; exact hts _ f6) (hts _ f5) ⟨f1, f2⟩ f3 (hts _ h1) (hts _ g1) hpre rfl hn2 hl.1 hstk hW hd ⟨hk, hz⟩
    · have hcw : iv_wsm (x % 1000) = .code (iv_y (x % 1000)) (iv_c (x % 1000)) (iv_L (x % 1000)) (iv_r (x % 1000)) :: iv_all := by
        show iv_cw (x % 1000) :: iv_all = _
        unfold iv_cw
        rw [g3]
      exact va_runSN hS0 hM ⟨va_cnB (iv_np (x % 1000)) hts hG hcw rfl rfl (hwn n host h1) (hts _ f5) ⟨f1, f2, f3⟩ hR, hts _ g1, trivial⟩ hpre rfl hn2 hl.1 hstk hW hd ⟨hk, hz⟩
  case invokespecial n =>
    obtain ⟨g1, g2, g3, g4, g6⟩ := f8
    have hcw : iv_wsm (x % 1000) = .code (iv_y (x % 1000)) (iv_c (x % 1000)) (iv_L (x % 1000)) none :: iv_all := by
      show iv_cw (x % 1000) :: iv_all = _
      unfold iv_cw
      rw [g4, g3]
    unfold iv_rc at hrc
    rw [Bool.and_eq_true] at hrc
    obtain ⟨a, as2, rfl⟩ : ∃ a as2, as = .ref a :: as2 := by
      have h2 := hrc.2
      rcases g6 with ⟨h0, -⟩ | ⟨h0, -⟩ <;> rw [h0] at h2 <;> (cases as with
        | nil => cases h2
        | cons v as2 => cases v <;> first | exact ⟨_, _, rfl⟩ | cases h2)
    have hn2 : (as2.map (iv_v sz b)).length = iv_np (x % 1000) := by
      rw [List.length_map]
      have h2 := hlen
      unfold iv_cv at h2
      rcases g6 with ⟨h0, -⟩ | ⟨h0, -⟩ <;> rw [h0] at h2 <;> simpa using h2
    have hstk : (((.ref a :: as2).reverse ++ rest).map (iv_v sz b)) = (as2.map (iv_v sz b)).reverse ++ .ref (iv_ad sz b a) :: rest.map (iv_v sz b) := by simp [iv_v]
    rcases g6 with ⟨h0, h1⟩ | ⟨h0, host, h1⟩
    · exact va_runI hS0 hM ⟨callB_of (iv_np (x % 1000)) hts hG hcw rfl rfl (hts _ f5) (hts _ h1) ⟨f1, f2, f3⟩ hR, g1, hts _ g2⟩ hpre rfl hn2 hl.1 hstk hW hd ⟨hk, hz⟩
    · exact va_runIN hS0 hM ⟨va_cnB (iv_np (x % 1000)) hts hG hcw rfl rfl (hwn n host h1) (hts _ f5) ⟨f1, f2, f3⟩ hR, g1, hts _ g2⟩ hpre rfl hn2 hl.1 hstk hW hd ⟨hk, hz⟩
  all_goals exact f8.elim
end
