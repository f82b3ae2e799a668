/-! catching: a handler whose class may not have been resolved yet -/
section
variable {e : Env} {f : JFrame} {a : Addr}
theorem iv_go_cold {U : State} {Q : Handler → Pre} {E : CtlPost} {d : Bool} {acts : List Action} {x : ExceptionTableEntry} {t : List ExceptionTableEntry} {c : ClassId} {cell : Cell} {vm' : Vm} (hx : covers x f.pc = true) (h0 : x.catchType ≠ 0)
    (hg : (Jvm.resolveClass f.method.cls x.catchType).Gives e.toSetting U.vm (.ok c) vm') (hsz : vm'.classes.size ≤ U.vm.classes.size) (hcell : U.heap[a]? = some cell) (hobj : ∀ k, cell.vm ≠ .statics k)
    (hk : ∃ k, vm'.classes[cell.cls]? = some k) (hc : ∃ k, vm'.classes[c]? = some k) :
    wp (findHandler.go f a (x :: t)) Q E e d acts U ↔ if vm'.assignable cell.cls c = true then Q (.found x.handlerPc) d acts (U.setVm vm') else wp (findHandler.go f a t) Q E e d acts (U.setVm vm') := by
  obtain ⟨ha, ht⟩ := hg.op (op := VmOp.resolveClass f.method.cls x.catchType) rfl
  simp only [covers] at hx
  cases hfit : vm'.assignable cell.cls c <;>
    simp [findHandler.go, hx, h0, ha, ht, hsz, hcell, hobj, hk, hc, hfit, VmOp.dirties, VmOp.acts]
end
section
variable {e : Env} {s : State} {f : JFrame} {a : Addr} {args : Array Value} {own X C : String} {m : MethodId} {cell : Cell} {h : ExceptionTableEntry}
theorem iv_find (hm : f.method = m) (hpl : e.platform.magicAccessors = ({} : Platform).magicAccessors) (hown : s.vm.findClass own = some m.cls) (hobj : cell.vm = .none) (hX : s.vm.findClass X = some cell.cls) (hh : covers h f.pc = true) (hh0 : h.catchType ≠ 0) (hhl : (Cond.classLink own h.catchType C).before args s = true) (hhc : va_Nw (.castable X C) s) (post : List ExceptionTableEntry) :
    ∀ (pre : List ExceptionTableEntry) (U : State), s.WarmedH U.vm → U.heap[a]? = some cell → (∀ y ∈ pre, covers y f.pc = true ∧ y.catchType ≠ 0 ∧ ∃ C', (Cond.classLink own y.catchType C').before args s = true ∧ va_Nc X C' s) →
      ∃ vm', s.WarmedH vm' ∧ ∀ (Q : Handler → Pre) (E : CtlPost) (d : Bool) (acts : List Action), wp (findHandler.go f a (pre ++ h :: post)) Q E e d acts U ↔ Q (.found h.handlerPc) d acts (U.setVm vm') := by
  subst hm
  intro pre
  induction pre with
  | nil =>
    intro U hW hc _
    obtain ⟨cc, hfcc, hcl⟩ := Cond.classLink_spec hown hhl e.platform hpl
    obtain ⟨g1, g2, g3⟩ := State.classEntry (e := e) hW hcl
    have hsz : (U.vm.noted f.method.cls h.catchType (.cls cc)).classes.size ≤ U.vm.classes.size := by rw [Vm.size_noted]; exact Nat.le_refl _
    generalize U.vm.noted f.method.cls h.catchType (.cls cc) = vm₁ at g1 g2 g3 hsz
    refine ⟨vm₁, g2, fun Q E d acts => ?_⟩
    have hal := g2.alike
    have f1 : vm₁.findClass X = some cell.cls := by rw [hal.findClass]; exact hX
    have f2 : vm₁.findClass C = some cc := by rw [hal.findClass]; exact hfcc
    rw [List.nil_append, iv_go_cold hh hh0 g1 hsz hc (fun k q => by rw [hobj] at q; cases q) (Vm.classAt_of_findClass f1) (Vm.classAt_of_findClass f2), if_pos]
    rw [hal.assignable]
    exact vb_asgC hhc cc cell.cls hfcc hX
  | cons y pre ih =>
    intro U hW hc hp
    obtain ⟨p1, p2, C', p3, p4⟩ := hp y List.mem_cons_self
    obtain ⟨cc, hfcc, hcl⟩ := Cond.classLink_spec hown p3 e.platform hpl
    obtain ⟨g1, g2, g3⟩ := State.classEntry (e := e) hW hcl
    have hsz : (U.vm.noted f.method.cls y.catchType (.cls cc)).classes.size ≤ U.vm.classes.size := by rw [Vm.size_noted]; exact Nat.le_refl _
    generalize U.vm.noted f.method.cls y.catchType (.cls cc) = vm₁ at g1 g2 g3 hsz
    obtain ⟨vm₂, w1, w2⟩ := ih (U.setVm vm₁) g2 hc (fun z hz => hp z (List.mem_cons_of_mem _ hz))
    refine ⟨vm₂, w1, fun Q E d acts => ?_⟩
    have hal := g2.alike
    have f1 : vm₁.findClass X = some cell.cls := by rw [hal.findClass]; exact hX
    have f2 : vm₁.findClass C' = some cc := by rw [hal.findClass]; exact hfcc
    obtain ⟨c1, c2, n1, n2, n3⟩ := p4
    cases hX.symm.trans n1
    cases hfcc.symm.trans n2
    rw [List.cons_append, iv_go_cold p1 p2 g1 hsz hc (fun k q => by rw [hobj] at q; cases q) (Vm.classAt_of_findClass f1) (Vm.classAt_of_findClass f2), if_neg (by rw [hal.assignable, n3]; decide)]
    exact w2 Q E d acts
theorem iv_stepCatch {s : State} {f : JFrame} {r : List Frame} {pc : Nat} {vm' : Vm} (hfind : ∀ (Q : Handler → Pre) (E : CtlPost) (d : Bool) (acts : List Action), wp (findHandler f a) Q E e d acts s ↔ Q (.found pc) d acts (s.setVm vm')) :
    (stepThrowing e s a (.java f :: r)).Is ((s.setVm vm').setFrames (.java { f with pc := pc, stack := [.ref a] } :: r)) [] := by
  simp only [stepThrowing, searchFrame, vmDo]
  generalize hr : Sem.go _ e false [] s = res
  obtain ⟨as, rfl, ha⟩ := Sem.eq_ok_of hr (a := Handler.found pc) (s' := s.setVm vm') (acts' := []) (by simp [hfind _ _ _ _])
  exact ⟨rfl, ha⟩
end
section
variable {p : Program} {l : Launch} {e : Env} {R : Room} {s : State} {m : MethodId} {args : Array Value} {below : List Frame} {meth : Method} {c : Code} {T : State} {locs : List Loc} {cells slots : Nat}
/-- the exception a of class X is caught by the entry h of the method's own table -/
theorem iv_catch (Xs : Stand p l e R s m args below meth c T locs cells slots) {own X C : String} (hown : s.vm.findClass own = some m.cls) {a : Addr} {cell : Cell} (hcell : T.heap[a]? = some cell) (hobj : cell.vm = .none) (hX : s.vm.findClass X = some cell.cls)
    {g : JFrame} (hg : g.method = m) {pre post : List ExceptionTableEntry} {h : ExceptionTableEntry} (htab : c.exceptionTable.toList = pre ++ h :: post) (hh : covers h g.pc = true) (hh0 : h.catchType ≠ 0) (hhl : (Cond.classLink own h.catchType C).before args s = true) (hhc : va_Nw (.castable X C) s)
    (hp : ∀ y ∈ pre, covers y g.pc = true ∧ y.catchType ≠ 0 ∧ ∃ C', (Cond.classLink own y.catchType C').before args s = true ∧ va_Nc X C' s) :
    ∃ vm', Stand p l e R s m args below meth c (T.setVm vm') locs cells slots ∧ ∀ target, Steps p.tables e below ((T.setVm vm').setTop { g with pc := h.handlerPc, stack := [.ref a] }) target → Steps p.tables e below ((T.setTop g).pushFrame (.throwing a)) target := by
  have hpl : e.platform.magicAccessors = ({} : Platform).magicAccessors := by rw [Xs.admits.platform]
  obtain ⟨vm', w1, w2⟩ := iv_find (e := e) (f := g) (a := a) hg hpl hown hobj hX hh hh0 hhl hhc post pre ((T.setTop g).pushFrame (.throwing a)) (by rw [Stand.throwing_vm]; exact Xs.warmed) (by rw [Stand.throwing_heap]; exact hcell) hp
  refine ⟨vm', Xs.noted w1, fun target hrest => ?_⟩
  subst hg
  have hA := Xs.here
  obtain ⟨hgo, hw⟩ := hA.throwing a
  refine Steps.head hgo hw ?_
  have hfind : ∀ (Q : Handler → Pre) (E : CtlPost) (d : Bool) (acts : List Action), wp (findHandler g a) Q E e d acts ((T.setTop g).pushFrame (.throwing a)) ↔ Q (.found h.handlerPc) d acts (((T.setTop g).pushFrame (.throwing a)).setVm vm') := by
    intro Q E d acts
    rw [W.findHandler_eq (meth := meth) (code := c) (by rw [Stand.throwing_vm]; exact Xs.method') Xs.code, htab]
    exact w2 Q E d acts
  rw [stepThread_throwing (frames_entered hA.top _), (iv_stepCatch (s := (T.setTop g).pushFrame (.throwing a)) hfind).1]
  obtain ⟨g₀, hg0⟩ := Option.isSome_iff_exists.mp hA.top
  obtain ⟨r, hr⟩ := State.topJava?_eq_some.mp hg0
  have hr' : (T.setVm vm').frames = .java g₀ :: r := hr
  rw [State.setTop_of_frames _ hr'] at hrest
  have e1 : (((T.setTop g).pushFrame (.throwing a)).setVm vm').setFrames (.java { g with pc := h.handlerPc, stack := [.ref a] } :: T.frames.tail) = (T.setVm vm').setFrames (.java { g with pc := h.handlerPc, stack := [.ref a] } :: r) := by
    rw [State.pushFrame, State.setTop_of_frames _ hr]
    show (((T.setFrames _).setFrames _).setFrames _).setVm vm' = _
    rw [State.setFrames_setFrames, State.setFrames_setFrames, hr]
    rfl
  rw [e1]
  exact hrest
end
