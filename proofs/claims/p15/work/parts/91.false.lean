/-! THE CLAIM IS FALSE: at the script iw_xs the law comes to its end with 0 (REPORT.md, STATEMENT 1); the run: parts 90b, 90c (gen_p15.py) -/
def R_law : String := "FatVolumeLaw"
def lw_P (b : Addr) (xs : List Int32) (args : Array Value) (s : State) : Prop := args = #[.ref b] ∧ s.IntsAt b xs ∧ xs = iw_xs ∧ (Jvm.Cond.and given_1 narrow_1).before args s = true
def lw_Q (_ : Array Value) (s : State) (o : Outcome) (t : State) : Prop := o = .returned (some (.int 0)) ∧ Framed s o t [] 601024 7293034
def lw_Z (below : List Frame) (a : Array Value) (s : State) : State → Prop := fun t => ∃ o, t.status = .running ∧ Ended t below o ∧ lw_Q a s o t
/-- the law's own end, with 0 on the stack, nothing written that was there before, its room as the claim has it -/
theorem lw_ret {p : Program} {l : Launch} {e : Env} {s : State} {m : MethodId} {below : List Frame} {meth : Method} {c : Code} {b : Nat} (hx : p.tables.exec = Jvm.exec) (hb : c.code = code) (hr : meth.sig.returnType = ret) (hlocks : meth.locks = false) {pc : Nat} {H : Heap} {ls : Array Slot} (hdg : decode code pc = .ok (.ireturn, 1)) : W p l e room_1 s m #[Value.ref b] below meth c H [] 601024 7293034 (lw_Z below #[Value.ref b] s) (F0 m pc ls [.int 0]) := by
  intro T hT X
  obtain ⟨fs, hret, hrun, hended, hW, hframe⟩ := X.leave (v := some (.int 0)) (hlocks := hlocks) (fun h => by rw [hr] at h; cases h)
  have hmeth' : T.vm.method? m = some meth := X.method'
  refine ⟨T.setFrames fs, ?_, .returned (some (.int 0)), hrun, hended, rfl, ⟨_, rfl⟩, hW, hframe⟩
  jvm_step X.here [X.here.top, hx, hb, hdg, hmeth', hr, ret, narrow_b0]
  (try refine ⟨rfl, ?_⟩); (try refine ⟨rfl, ?_⟩)
  first | (intro acts; rw [hret _ acts rfl rfl rfl]) | rw [hret _ _ rfl rfl rfl]
  exact Steps.refl _
/-- what holds at the law's entry: the machine, the code, the tables' words (any of lw_tbl by 'hts w (by decide +kernel)'), the script of L ints xs at the cell b, what the Statement gives of the start (any of its parts by flat_of_before) -/
def lw_At (p : Program) (s : State) (m : MethodId) (meth : Method) (c : Code) (b L : Nat) (xs : Nat → Int32) : Prop :=
  p.tables.exec = Jvm.exec ∧ c.code = code ∧ meth.sig.returnType = ret ∧ c.maxLocals = 7 ∧ s.vm.findClass R_law = some m.cls ∧ (∀ w ∈ lw_tbl, w.before #[Value.ref b] s = true) ∧ va_X b L xs s s.heap ∧ b < s.heap.size ∧ meth.locks = false ∧ (Jvm.Cond.and given_1 narrow_1).before #[Value.ref b] s = true
/-- from the entry, for this script the law comes to its end with false -/
theorem whole_start {p : Program} {e : Env} {s : State} {m : MethodId} {below : List Frame} {meth : Method} {c : Code} (l : Launch) {b : Nat} (hfl : l.flags = flags0) (hname : meth.name = "law") (hnoh : c.exceptionTable.isEmpty = true) (C0 : lw_At p s m meth c b iw_xs.length (fun j => iw_xs.getD j 0)) : W p l e room_1 s m #[Value.ref b] below meth c s.heap [] 0 0 (lw_Z below #[Value.ref b] s) (entryFrame m ([Value.ref b] : List Value).toArray 7) := by
  obtain ⟨hx, hb, hr, hml, hown, hts, hX, hbl, hlocks, hg⟩ := C0
  obtain ⟨D, tc, hSt⟩ := iv_begin hts hX hbl hg
  obtain ⟨n, w2, tg2, k2, z2, hrun, hk, hz⟩ := iw_law_run
  have hl := lv_entry ([.ref b]) (n := 7) (Nat.le_of_ble_eq_true rfl)
  rw [lg_entry_eq]
  have htab : c.exceptionTable.toList = [] := List.eq_nil_of_length_eq_zero (by simpa [Array.isEmpty] using hnoh)
  refine iv_sound iv_tab iw_xs.length (fun j => iw_xs.getD j 0) s.heap.size b D tc n 20 0 0 [(0, .ref 0)] [] [] true 0 0 _ w2 tg2 k2 z2 hrun p l e room_1 s m _ below meth c s.heap [] _ _ hx hb hml hown (fun w hw => hts w (iv_all_in hw)) hlocks hname ?_ hfl hSt ?_ va_S.rf hl (fun _ => rfl) (by decide) (by decide) hk hz ?_ (fun q hq => by cases hq)
  · unfold iv_Hx
    rw [htab]
    rfl
  · intro k q hq
    cases hq
  · intro v hv pc1 i1 x1 st1 H1 locs1 ls1 hd1 hr1 hP1 hS1
    cases hv
    have hret : iv_ret (some .boolean) i1 st1 = some (some (.int 0)) := hr1
    unfold iv_ret at hret
    split at hret
    · cases hret
    · next h => cases h
    · next h9 =>
      split at hret
      · cases hret
        refine va_forget (fun q hq => hS1.2.2 q hq) ?_
        exact W.widen hk hz (lw_ret hx hb hr hlocks hd1)
      · cases hret
    all_goals first | cases hret | (next h => cases h)

set_option maxHeartbeats 4000000 in
theorem lw_walk (l : Launch) (hfl : l.flags = flags0) (b : Addr) (xs : List Int32) : MetFree l x (headSpec (Jvm.Cond.code x code maxLocals ret :: tables_1) room_1) (lw_P b xs) (fun _ _ _ _ _ => True) lw_Q := by
  refine MetFree.of_bodyS (code := code) (maxLocals := maxLocals) (ret := ret) (by decide) ?_ ?_
  · intro args s m h hn
    obtain ⟨meth, c, h1, h2, h3, h4, h5, h6, -, -⟩ := Cond.code_spec hn (atoms_spec (ws := Jvm.Cond.code x code maxLocals ret :: tables_1) h _ List.mem_cons_self)
    exact ⟨meth, c, h1, h2, h3, h4, h5, h6⟩
  · intro p e s m args below meth c s₁ B hml0 hP _
    obtain ⟨rfl, hx, hbd, hgv⟩ := hP
    subst hbd
    obtain ⟨scr, harrAt, hlist, hof, hsmall⟩ := hx
    obtain ⟨hcb, hkn, -, -⟩ := State.arrayAt?_spec harrAt
    have hown : s.vm.findClass R_law = some m.cls := findClass_of_methodNamed B.named
    have hts0 : ∀ c ∈ (Jvm.Cond.code x code maxLocals ret :: tables_1), c.before #[Value.ref b] s = true := atoms_spec (ws := Jvm.Cond.code x code maxLocals ret :: tables_1) B.pre
    have hts : ∀ w ∈ lw_tbl, w.before #[Value.ref b] s = true := k2_hts_sels lw_privs (fun w hw => hts0 w (List.mem_cons_of_mem _ hw)) lw_privs_ok
    have hml : c.maxLocals = 7 := B.maxLocals_eq (hts0 _ List.mem_cons_self)
    have X₀ : Stand p l e room_1 s m #[Value.ref b] below meth c s₁ [] 0 0 := Stand.of_body B
    have hh0 : s₁.heap = s.heap := by rw [B.state]; rfl
    have hsz : scr.slots.size = iw_xs.length := by rw [← Array.length_toList, hlist, List.length_map]
    have hval : ∀ j : Nat, j < iw_xs.length → scr.slots[j]? = some (.int (iw_xs.getD j 0)) := fun j hj => by
      rw [← Array.getElem?_toList, hlist]
      simp [hj]
    have hbl : b < s.heap.size := (Array.getElem?_eq_some_iff.mp hcb).1
    have hX : va_X b iw_xs.length (fun j => iw_xs.getD j 0) s s.heap := ⟨scr, hcb, hof, hkn, hsz, hval⟩
    have K : W p l e room_1 s m #[Value.ref b] below meth c s₁.heap [] 0 0 (lw_Z below #[Value.ref b] s) (entryFrame m ([Value.ref b] : List Value).toArray 7) := by
      rw [hh0]
      exact whole_start l hfl (name_of_methodNamed B.named B.method).1 (B.noHandlers (hts0 _ List.mem_cons_self)) ⟨B.exec, B.bytes, B.returns, hml, hown, hts, hX, hbl, B.notSynchronized, hgv⟩
    obtain ⟨t, a1, o, b1, b2, b3⟩ := K s₁ rfl X₀
    exact ⟨t, o, a1, b1, b2, b3⟩
theorem iw_falls (l : Launch) (hfl : l.flags = flags0) {p : Program} {e : Env} {s : State} {m : MethodId} {args : Array Value} {below : List Frame} (hS : AtStart classFile x code maxLocals ret World_1 tables_1 room_1 Calls_1 rest_1 Pre_1 l p e s m args below) (b : Addr) (ha : args = #[.ref b]) (hx : s.IntsAt b iw_xs) : RefutedClaimed_1_2 := by
  have hS2 := hS
  obtain ⟨hL, hW, had, hle, hcas, hclk, hfr, hfit, hheap, happ, hcalls, hrest, hpre⟩ := hS2
  obtain ⟨k, o, h1, h2, h3, hQ⟩ := lw_walk l hfl b iw_xs p e had hcas hclk s m args below hfr ((Spec.applies_iff_loose hfr).mp happ).1 ⟨ha, hx, rfl, hpre⟩ trivial
  refine ⟨l, p, e, s, m, args, below, hfl, hS, k, o, h1, h2, h3, fun hn => ?_⟩
  have ho : o = .returned (some (.int 0)) := hQ.1
  subst ho
  have h := Cond.after_iff.mp hn.1
  rw [show limb_1_2 = Cond.eq .result (.int 1) from rfl, Cond.eq_ints (x := 0) (y := 1) rfl rfl] at h
  simp at h
theorem iw_not (hF : RefutedClaimed_1_2) : ¬ (Claimed_1_1 ∧ Claimed_1_2) := by
  intro hA
  obtain ⟨l, p, e, s, m, args, below, hfl, ⟨hL, hW, had, hle, hcas, hclk, hfr, hfit, hheap, happ, hcalls, hrest, hpre⟩, n, o, hin, hr, hend, hnot⟩ := hF
  obtain ⟨k, q, hin2, hr2, hend2, hpost⟩ := hA.2 l hfl hL hW p e had hcas hclk s m args below hfr hfit hheap happ ⟨hcalls, hrest, hpre⟩
  have hnk : n = k := Nat.le_antisymm (Nat.le_of_not_lt fun h => absurd (hin k h) hend2.not_within) (Nat.le_of_not_lt fun h => absurd (hin2 n h) hend.not_within)
  subst hnk
  have hoq := hend.outcome_unique hend2
  subst hoq
  exact hnot hpost
