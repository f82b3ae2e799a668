/-! what holds in a state: the tables, the script, the world -/
def iv_St (L : Nat) (xs : Nat → Int32) (sz b : Nat) (D : va_G) (tc : Nat → ClassId) (U : State) : Prop :=
  va_K D iv_cl (iv_tys tc) U ∧ (∀ q ∈ iv_nest, va_Nw (.methodLinkNest q.1 q.2.1 q.2.2.1 q.2.2.2) U) ∧ va_AO iv_foN U ∧ va_X b L xs U U.heap ∧ b < sz ∧ sz ≤ U.heap.size ∧ iv_Th sz U
theorem iv_St_moved {L : Nat} {xs : Nat → Int32} {sz b : Nat} {D : va_G} {tc : Nat → ClassId} {s U : State} (h : iv_St L xs sz b D tc s) (hW : s.WarmedH U.vm) (hq : ∀ q, q < sz → U.heap[q]? = s.heap[q]?) (hz : sz ≤ U.heap.size) : iv_St L xs sz b D tc U := by
  obtain ⟨h1, h2, h3, h4, h5, h6, h7⟩ := h
  refine ⟨va_K.moved hW.alike h1, fun q hq2 => va_Nw.warmM hW (h2 q hq2), va_AO.moved hW.alike h3, ?_, h5, hz, iv_Th_moved h7 hW hq⟩
  exact va_X.moved hW.alike (h4.kept (hq b h5))
theorem iv_St_calling {L : Nat} {xs : Nat → Int32} {sz b : Nat} {D : va_G} {tc : Nat → ClassId} {U : State} {g : JFrame} {mk : MethodId} {a : Array Value} (h : iv_St L xs sz b D tc U) : iv_St L xs sz b D tc (U.calling g mk a) :=
  iv_St_moved (U := U.calling g mk a) h (State.WarmedH.refl U) (fun _ _ => rfl) h.2.2.2.2.2.1
def iv_Re (sz b : Nat) (D : va_G) (tc : Nat → ClassId) (w : iv_W) (tg : Bool) (U : State) : Prop := va_P D iv_cl (iv_ws sz b tc w) U.heap ∧ (tg = true → U.heap.size = sz + w.length)
def iv_Pc (L : Nat) (xs : Nat → Int32) (sz b : Nat) (D : va_G) (tc : Nat → ClassId) (as : List Value) (w : iv_W) (tg : Bool) : Array Value → State → Prop := va_Pc (as.map (iv_v sz b)) (fun U => iv_St L xs sz b D tc U ∧ iv_Re sz b D tc w tg U)
theorem iv_Pc_blind {L : Nat} {xs : Nat → Int32} {sz b : Nat} {D : va_G} {tc : Nat → ClassId} {as : List Value} {w : iv_W} {tg : Bool} : FrameBlind (iv_Pc L xs sz b D tc as w tg) := fun _ _ _ _ h => ⟨h.1, iv_St_calling h.2.1, h.2.2⟩
/-- the thrown object at x is of the class with the number q -/
def iv_Ex (q : Nat) (x : Addr) (t : State) : Prop := ∃ ce : Cell, t.heap[x]? = some ce ∧ ce.vm = .none ∧ t.vm.findClass (iv_xnm q) = some ce.cls
def iv_Qr (sz b : Nat) (D : va_G) (tc : Nat → ClassId) (v : Option Value) (w : iv_W) : Array Value → State → Outcome → State → Prop := fun _ st oc t => oc = .returned (v.map (iv_v sz b)) ∧ va_P D iv_cl (iv_ws sz b tc w) t.heap ∧ va_F (iv_A sz) st t
def iv_Qt (sz b : Nat) (D : va_G) (tc : Nat → ClassId) (q : Nat) (w : iv_W) : Array Value → State → Outcome → State → Prop := fun _ st oc t => (∃ x, oc = .threw x ∧ iv_Ex q x t) ∧ va_P D iv_cl (iv_ws sz b tc w) t.heap ∧ va_F (iv_A sz) st t
def iv_rm (d k z : Nat) : Room := { frames := d + 8, cells := k, slots := z, locals := 100 * d + 400 }
section
variable {p : Program} {l : Launch} {e : Env} {R : Room} {s : State} {m : MethodId} {args : Array Value} {below : List Frame} {meth : Method} {c : Code} {H : Heap} {locs : List Loc} {cells slots : Nat} {Q : State → Prop} {ls : Array Slot} {sz b L : Nat} {xs : Nat → Int32} {tc : Nat → ClassId} {D : va_G} {μ pc x pc2 : Nat} {i : Instr} {lv lv2 : List (Nat × Value)} {st st2 : List Value} {w w2 : iv_W}
/-- the size of the heap, where every new cell is the world's -/
theorem iv_size {T : State} {tg : Bool} (X : Stand p l e R s m args below meth c T locs cells slots) (hP : va_P D iv_cl (iv_ws sz b tc w) T.heap) (hz : sz ≤ s.heap.size) (hT : tg = true → s.heap.size + cells = sz + w.length) (ht : tg = true) : T.heap.size = sz + w.length := by
  have h1 := X.heapSize
  have h2 := hT ht
  have h3 : s.heap.size ≤ T.heap.size := X.same.2.1
  cases hl : w.length with
  | zero => omega
  | succ k =>
    have hk : k < w.length := by omega
    have h4 := (hP k _ (iv_ws_at (List.getElem?_eq_getElem hk))).lt
    have h5 : sz + k < T.heap.size := h4
    omega
/-- a new cell lies at the heap's end -/
theorem iv_newAt {q : Nat} {x : va_E} {T : State} (X : Stand p l e R s m args below meth c T locs (cells + 1) slots) (hP : va_P D iv_cl (iv_ws sz b tc w ++ [(q, x)]) T.heap) (hD : va_D (iv_A sz) (iv_ws sz b tc w ++ [(q, x)])) (hT : s.heap.size + cells = sz + w.length) : q = sz + w.length := by
  have hlen : (iv_ws sz b tc w).length = w.length := by simp [iv_ws]
  have hlast : (iv_ws sz b tc w ++ [(q, x)])[w.length]? = some (q, x) := by
    rw [List.getElem?_append_right (by omega), hlen, Nat.sub_self]
    rfl
  have h1 : q < T.heap.size := (hP _ _ hlast).lt
  have h2 := X.heapSize
  have h3 : sz ≤ q := hD.2 _ _ hlast
  by_cases h4 : q = sz + w.length
  · exact h4
  · exfalso
    have h5 : q - sz < w.length := by omega
    have h6 : (iv_ws sz b tc w ++ [(q, x)])[q - sz]? = some (sz + (q - sz), iv_e sz b tc w[q - sz]) := by
      rw [List.getElem?_append_left (by omega)]
      exact iv_ws_at (List.getElem?_eq_getElem h5)
    have h7 := hD.1 _ _ _ _ h6 hlast (by show sz + (q - sz) = q; omega)
    omega
set_option maxHeartbeats 2000000 in
theorem iv_ret_ok {v : Option Value} {mc ms : Nat} {Qc : Array Value → State → Outcome → State → Prop} {free : Addr → Prop} (hx : p.tables.exec = Jvm.exec) (hb : c.code = iv_c μ) (hr : meth.sig.returnType = iv_r μ) (hlocks : meth.locks = false) (hd : decode (iv_c μ) pc = .ok (i, iv_ln i x)) (h : iv_ret (iv_r μ) i st = some v)
    (hq : ∀ t : State, t.heap = H → s.WarmedH t.vm → Qc args s (.returned (v.map (iv_v sz b))) t) (hf : ∀ q ∈ locs, free q.base) (h1 : cells ≤ mc) (h2 : slots ≤ ms) :
    W p l e R s m args below meth c H locs cells slots (MQ below Qc args s mc ms free) (F0 m pc ls (st.map (iv_v sz b))) := by
  refine W.widen h1 h2 ?_
  generalize iv_r μ = ret at hr h
  unfold iv_ret at h
  split at h
  · cases h
    exact W.vret hx hb hr hq hf hd hlocks
  · cases h
    exact W.iret hx hb hr hq hf hd hlocks
  · split at h
    · next v0 hv =>
      cases h
      exact W.zret hx hb hr (by rcases hv with rfl | rfl <;> decide) hq hf hd hlocks
    · cases h
  · cases h
    exact W.aret hx hb hr (Or.inl ⟨_, rfl⟩) (Or.inr ⟨_, rfl⟩) hq hf hd hlocks
  · cases h
    exact W.aret hx hb hr (Or.inr ⟨_, rfl⟩) (Or.inr ⟨_, rfl⟩) hq hf hd hlocks
  · cases h
end
/-- what the tables must say where a cell is made -/
def iv_okn (μ : Nat) (i : Instr) (x : Nat) : Prop := match i with
  | .new n => ∃ (C : String) (T : u_T) (N : Nat), iv_cl[x]? = some (C, T, N) ∧ N = iv_N x ∧ (∀ w ∈ u_ws C T N, w ∈ iv_all) ∧ (∀ k, k < N → parseFieldDescriptor (T k).2.2.1 = some (iv_ty x k)) ∧ Cond.classLink (iv_y μ).cls n C ∈ iv_all ∧ Cond.instantiable C N ∈ iv_all ∧ Cond.initialized C ∈ iv_all ∧
      (∀ j, j < N → defaultValue (iv_ty x j) = vp_V (iv_f0 x) j) ∧ ∀ sz b, (iv_f0 x).map (iv_v sz b) = iv_f0 x
  | .newarray t => Cond.arrayClass (newarray.typeOf t) ∈ iv_all
  | .anewarray n => Cond.classLink (iv_y μ).cls n iv_foN ∈ iv_all
  | _ => True
/-- what the tables must say where the library is called -/
def iv_okl (μ : Nat) (i : Instr) (x : Nat) : Prop := match i with
  | .invokespecial n => x = 6000 ∧ Cond.methodLink (iv_y μ).cls n Lib.objectInit ∈ iv_all ∧ Cond.instanceMethod Lib.objectInit ∈ iv_all ∧ Cond.code Lib.objectInit ⟨#[0xb1]⟩ 1 none ∈ iv_all
  | .invokestatic n => (x = 7000 ∧ Cond.methodLink (iv_y μ).cls n Lib.Math.max.name ∈ iv_all ∧ Cond.static Lib.Math.max.name ∈ iv_all ∧ Cond.initialized "java/lang/Math" ∈ iv_all ∧ Cond.code Lib.Math.max.name Lib.Math.max.code 2 (some .int) ∈ iv_all) ∨
      (x = 8000 ∧ Cond.methodLink (iv_y μ).cls n Lib.Math.min.name ∈ iv_all ∧ Cond.static Lib.Math.min.name ∈ iv_all ∧ Cond.initialized "java/lang/Math" ∈ iv_all ∧ Cond.code Lib.Math.min.name Lib.Math.min.code 2 (some .int) ∈ iv_all) ∨
      (x = 9000 ∧ Cond.methodLink (iv_y μ).cls n arraycopyName ∈ iv_all ∧ Cond.native arraycopyName ∈ iv_all ∧ Cond.static arraycopyName ∈ iv_all ∧ Cond.initialized "java/lang/System" ∈ iv_all)
  | _ => False
section
variable {p : Program} {l : Launch} {e : Env} {R : Room} {s : State} {m : MethodId} {args : Array Value} {below : List Frame} {meth : Method} {c : Code} {H : Heap} {locs : List Loc} {cells slots : Nat} {Q : State → Prop} {ls : Array Slot} {sz b L : Nat} {xs : Nat → Int32} {tc : Nat → ClassId} {D : va_G} {μ pc x pc2 : Nat} {i : Instr} {lv lv2 : List (Nat × Value)} {st st2 : List Value} {w w2 : iv_W}
theorem iv_cat_sum (r : List Value) : ((r.map (iv_v sz b)).map fun v => v.category).sum = (r.map fun v => v.category).sum := by
  rw [List.map_map]
  congr 1
  exact List.map_congr_left fun v _ => iv_cat v
set_option maxHeartbeats 2000000 in
theorem iv_new_ok {y : iv_E} {r : List Value} {a len : Nat} (hx : p.tables.exec = Jvm.exec) (hb : c.code = iv_c μ) (hown : s.vm.findClass (iv_y μ).cls = some m.cls) (hts : ∀ w ∈ iv_all, w.before args s = true) (hK : va_K D iv_cl (iv_tys tc) s) (hO : va_AO iv_foN s) (hz0 : sz ≤ s.heap.size)
    (hP : va_P D iv_cl (iv_ws sz b tc w) H) (hS : va_S (iv_A sz) s.heap H locs) (hd : decode (iv_c μ) pc = .ok (i, iv_ln i x)) (ho : iv_okn μ i x) (h : iv_new i x st = some (y, r, a, len)) (hT : s.heap.size + cells = sz + w.length) (hc : cells + 1 ≤ R.cells) (hs : slots + a ≤ R.slots)
    (kk : ∀ H1 : Heap, va_P D iv_cl (iv_ws sz b tc (w ++ [y])) H1 → va_S (iv_A sz) s.heap H1 locs → W p l e R s m args below meth c H1 locs (cells + 1) (slots + a) Q (F0 m (pc + len) ls ((.ref (w.length + 1) :: r).map (iv_v sz b)))) :
    W p l e R s m args below meth c H locs cells slots Q (F0 m pc ls (st.map (iv_v sz b))) := by
  have hA : ∀ q, s.heap.size ≤ q → iv_A sz q := fun q h => Nat.le_trans hz0 h
  cases i
  case new n =>
    simp only [iv_new, Option.some.injEq, Prod.mk.injEq] at h
    obtain ⟨rfl, rfl, rfl, rfl⟩ := h
    obtain ⟨C, T, N, f1, rfl, f3, f4, f5, f6, f7, f8, f9⟩ := ho
    refine va_new (D := D) (cl := iv_cl) (ci := x) (fs := iv_f0 x) hx hb hts f3 (iv_ty x) f4 hown (hts _ f5) (hts _ f6) (hts _ f7) hK hP iv_D hS hA f1 f8 hc hs hd (fun q H1 q1 q2 q3 => ?_)
    intro T1 hT1 X
    have hq := iv_newAt X (by rw [hT1]; exact q1) q2 hT
    subst hq
    refine kk H1 ?_ q3 T1 hT1 X
    rw [← iv_ws_push]
    show va_P D iv_cl (iv_ws sz b tc w ++ [(sz + w.length, .inr (x, (iv_f0 x).map (iv_v sz b)))]) H1
    rw [f9]
    exact q1
  case newarray t =>
    simp only [iv_new] at h
    split at h
    · next n r0 e0 =>
      split at h
      · cases h
      · next hn =>
        have hn1 : ¬ n < 0 := fun z => hn (Or.inl z)
        have hn2 : n.toNatClampNeg ≤ 100000 := Nat.not_lt.mp fun z => hn (Or.inr z)
        rw [iv_p1_eq e0]
        cases t
        case int =>
          simp only [Option.some.injEq, Prod.mk.injEq] at h
          obtain ⟨rfl, rfl, rfl, rfl⟩ := h
          refine va_newa (D := D) (cl := iv_cl) (a0 := (n.toNatClampNeg, .inl (fun _ => 0))) hx hb (hts _ ho) (ty := .int) rfl hK hP iv_D hS hA (fun _ => rfl) hn1 rfl (by show _ * 4 ≤ _; omega) hc hs hd (fun q cA H1 q0 q1 q2 q3 => ?_)
          have hcA : cA = tc 0 := Option.some.inj (((q0.2 4 (cA, .int) rfl).2).symm.trans ((hK.2 0 (tc 0, .int) rfl).2))
          subst hcA
          intro T1 hT1 X
          have hq := iv_newAt X (by rw [hT1]; exact q1) q2 hT
          subst hq
          refine kk H1 ?_ q3 T1 hT1 X
          rw [← iv_ws_push]
          exact q1
        case boolean =>
          simp only [Option.some.injEq, Prod.mk.injEq] at h
          obtain ⟨rfl, rfl, rfl, rfl⟩ := h
          refine va_newa (D := D) (cl := iv_cl) (a0 := (n.toNatClampNeg, .inl (fun _ => 0))) hx hb (hts _ ho) (ty := .boolean) rfl hK hP iv_D hS hA (fun _ => rfl) hn1 rfl (by show _ * 1 ≤ _; omega) hc hs hd (fun q cA H1 q0 q1 q2 q3 => ?_)
          have hcA : cA = tc 1 := Option.some.inj (((q0.2 4 (cA, .boolean) rfl).2).symm.trans ((hK.2 1 (tc 1, .boolean) rfl).2))
          subst hcA
          intro T1 hT1 X
          have hq := iv_newAt X (by rw [hT1]; exact q1) q2 hT
          subst hq
          refine kk H1 ?_ q3 T1 hT1 X
          rw [← iv_ws_push]
          exact q1
        case long =>
          simp only [Option.some.injEq, Prod.mk.injEq] at h
          obtain ⟨rfl, rfl, rfl, rfl⟩ := h
          refine va_newa (D := D) (cl := iv_cl) (a0 := (n.toNatClampNeg, .inr (.inl (fun _ => 0)))) hx hb (hts _ ho) (ty := .long) rfl hK hP iv_D hS hA (fun _ => rfl) hn1 rfl (by show _ * 8 ≤ _; omega) hc hs hd (fun q cA H1 q0 q1 q2 q3 => ?_)
          have hcA : cA = tc 2 := Option.some.inj (((q0.2 4 (cA, .long) rfl).2).symm.trans ((hK.2 2 (tc 2, .long) rfl).2))
          subst hcA
          intro T1 hT1 X
          have hq := iv_newAt X (by rw [hT1]; exact q1) q2 hT
          subst hq
          refine kk H1 ?_ q3 T1 hT1 X
          rw [← iv_ws_push]
          exact q1
        all_goals cases h
    · cases h
  case anewarray n0 =>
    simp only [iv_new] at h
    split at h
    · next n r0 e0 =>
      split at h
      · cases h
      · next hn =>
        have hn1 : ¬ n < 0 := fun z => hn (Or.inl z)
        have hn2 : n.toNatClampNeg ≤ 100000 := Nat.not_lt.mp fun z => hn (Or.inr z)
        rw [iv_p1_eq e0]
        simp only [Option.some.injEq, Prod.mk.injEq] at h
        obtain ⟨rfl, rfl, rfl, rfl⟩ := h
        refine va_newq (D := D) (cl := iv_cl) hx hb hown (hts _ ho) hO hK hP iv_D hS hA hn1 rfl (by omega) hc hs hd (fun q cA H1 q0 q1 q2 q3 => ?_)
        have hcA : cA = tc 3 := by
          obtain ⟨kA, comp, -, -, -, h4⟩ := (q0.2 4 (cA, .object iv_foN) rfl).2
          obtain ⟨kA', comp', -, -, -, h4'⟩ := (hK.2 3 (tc 3, .object iv_foN) rfl).2
          exact Option.some.inj (h4.symm.trans h4')
        subst hcA
        intro T1 hT1 X
        have hq := iv_newAt X (by rw [hT1]; exact q1) q2 hT
        subst hq
        refine kk H1 ?_ q3 T1 hT1 X
        rw [← iv_ws_push]
        exact q1
    · cases h
  all_goals (simp only [iv_new] at h; cases h)
set_option maxHeartbeats 2000000 in
theorem iv_lib_ok (hx : p.tables.exec = Jvm.exec) (hb : c.code = iv_c μ) (hml : c.maxLocals = iv_L μ) (hown : s.vm.findClass (iv_y μ).cls = some m.cls) (hts : ∀ w ∈ iv_all, w.before args s = true) (hK : va_K D iv_cl (iv_tys tc) s)
    (hP : va_P D iv_cl (iv_ws sz b tc w) H) (hS : va_S (iv_A sz) s.heap H locs) (hl : lv_has ls (iv_L μ) (iv_lv sz b lv)) (hd : decode (iv_c μ) pc = .ok (i, iv_ln i x)) (ho : iv_okl μ i x) (h : iv_lib x st w = some (st2, w2)) (hfr : 8 ≤ R.frames) (hlo : 400 ≤ R.locals) (hc : cells ≤ R.cells) (hs : slots ≤ R.slots)
    (kk : ∀ (H1 : Heap) (locs1 : List Loc), va_P D iv_cl (iv_ws sz b tc w2) H1 → va_S (iv_A sz) s.heap H1 locs1 → W p l e R s m args below meth c H1 locs1 cells slots Q (F0 m (pc + 3) ls (st2.map (iv_v sz b)))) :
    W p l e R s m args below meth c H locs cells slots Q (F0 m pc ls (st.map (iv_v sz b))) := by
  have hsz : c.maxLocals = ls.size := by rw [hml, hl.1]
  cases i
  case invokespecial n =>
    obtain ⟨rfl, f1, f2, f3⟩ := ho
    simp only [iv_lib] at h
    split at h
    · next a r e0 =>
      split at h
      · next hr =>
        simp only [Option.some.injEq, Prod.mk.injEq] at h
        obtain ⟨rfl, rfl⟩ := h
        rw [iv_pr_eq e0]
        refine W.objInit (g := F0 m pc ls (.ref (iv_ad sz b a) :: r.map (iv_v sz b))) hx hb hown (hts _ f1) (hts _ f2) (hts _ f3) rfl hsz.symm rfl hd (by omega) ?_ ?_
        · rw [iv_cat_sum]
          show 2 * 0 + _ + 12 ≤ _
          omega
        · exact kk H locs hP hS
      · cases h
    · cases h
  case invokestatic n =>
    rcases ho with ⟨rfl, f1, f2, f3, f4⟩ | ⟨rfl, f1, f2, f3, f4⟩ | ⟨rfl, f1, f2, f3, f4⟩
    · simp only [iv_lib] at h
      split at h
      · next y z r e0 =>
        split at h
        · next hr =>
          simp only [Option.some.injEq, Prod.mk.injEq] at h
          obtain ⟨rfl, rfl⟩ := h
          rw [iv_p2_eq e0]
          exact va_mmax hx hb hsz hown (hts _ f1) (hts _ f2) (hts _ f3) (hts _ f4) (by omega) (by rw [iv_cat_sum]; omega) hc hs hd (kk H locs hP hS)
        · cases h
      · cases h
    · simp only [iv_lib] at h
      split at h
      · next y z r e0 =>
        split at h
        · next hr =>
          simp only [Option.some.injEq, Prod.mk.injEq] at h
          obtain ⟨rfl, rfl⟩ := h
          rw [iv_p2_eq e0]
          exact va_mmin hx hb hsz hown (hts _ f1) (hts _ f2) (hts _ f3) (hts _ f4) (by omega) (by rw [iv_cat_sum]; omega) hc hs hd (kk H locs hP hS)
        · cases h
      · cases h
    · simp only [iv_lib] at h
      split at h
      · next n0 dp a sp a0 r e0 =>
        have est : st = .int n0 :: .int dp :: .ref a :: .int sp :: .ref a0 :: r := by
          unfold iv_cp at e0; split at e0 <;> cases e0; rfl
        split at h
        · next m0 f m1 g e1 e2 =>
          split at h
          · next hh =>
            simp only [Option.some.injEq, Prod.mk.injEq] at h
            obtain ⟨rfl, rfl⟩ := h
            rw [est]
            obtain ⟨k0, rfl, hw0⟩ := iv_ai_eq e1
            obtain ⟨k1, rfl, hw1⟩ := iv_ai_eq e2
            have hnf : nativeFrameWords "java/lang/System" "arraycopy" 5 ≤ 7 := by decide
            refine va_copyi (D := D) (cl := iv_cl) (ty := .int) hx hb hsz hown (hts _ f1) (hts _ f2) (hts _ f3) (hts _ f4) hK hP iv_D hS k0 k1 0 0 (iv_ws_at hw0) (iv_ws_at hw1) rfl rfl rfl hh.2.1 hh.2.2.1 hh.2.2.2.1 hh.2.2.2.2.1 hh.2.2.2.2.2 (fun _ _ => rfl) (by omega) (by rw [iv_cat_sum]; omega) hd (fun H1 locs1 q1 q2 q3 => kk H1 locs1 ?_ q3)
            rw [← iv_ws_set]
            exact q1
          · cases h
        · cases h
      · cases h
  all_goals exact ho.elim
end
/-! calls -/
def iv_okc (μ : Nat) (i : Instr) (x : Nat) : Prop :=
  (iv_y (x % 1000)).cls ≠ "java/lang/invoke/MethodHandle" ∧ (iv_y (x % 1000)).cls ≠ "java/lang/invoke/VarHandle" ∧ (parseMethodDescriptor (iv_y (x % 1000)).desc).map (fun d => d.parameters.length) = some (iv_np (x % 1000)) ∧ plainName (iv_y (x % 1000)).cls = true ∧
  Cond.initialized (iv_y (x % 1000)).cls ∈ iv_all ∧ iv_cw (x % 1000) ∈ iv_all ∧ iv_L (x % 1000) ≤ 60 ∧ x % 1000 < iv_nm ∧ match i with
  | .invokevirtual n => Cond.instanceMethod (iv_y (x % 1000)) ∈ iv_all ∧ Cond.selects (iv_y (x % 1000)).cls (iv_y (x % 1000)) (iv_y (x % 1000)) ∈ iv_all ∧ iv_h (x % 1000) = [] ∧ (∃ q : vw_C, iv_cl[iv_cn (x % 1000)]? = some q ∧ q.1 = (iv_y (x % 1000)).cls) ∧
      ((x / 1000 = 0 ∧ Cond.methodLink (iv_y μ).cls n (iv_y (x % 1000)) ∈ iv_all) ∨ (x / 1000 = 1 ∧ ∃ host, ((iv_y μ).cls, n, iv_y (x % 1000), host) ∈ iv_nest))
  | .invokestatic n => Cond.static (iv_y (x % 1000)) ∈ iv_all ∧ ((x / 1000 = 2 ∧ Cond.methodLink (iv_y μ).cls n (iv_y (x % 1000)) ∈ iv_all) ∨ (x / 1000 = 3 ∧ iv_h (x % 1000) = [] ∧ ∃ host, ((iv_y μ).cls, n, iv_y (x % 1000), host) ∈ iv_nest))
  | .invokespecial n => (iv_y (x % 1000)).name = "<init>" ∧ Cond.instanceMethod (iv_y (x % 1000)) ∈ iv_all ∧ iv_r (x % 1000) = none ∧ iv_h (x % 1000) = [] ∧
      ((x / 1000 = 4 ∧ Cond.methodLink (iv_y μ).cls n (iv_y (x % 1000)) ∈ iv_all) ∨ (x / 1000 = 5 ∧ ∃ host, ((iv_y μ).cls, n, iv_y (x % 1000), host) ∈ iv_nest))
  | _ => False
