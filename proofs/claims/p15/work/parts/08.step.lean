theorem iv_tys_at (tc : Nat → ClassId) {t : Nat} (h : t < 4) : ∃ ty, (iv_tys tc)[t]? = some (tc t, ty) := by
  have : t = 0 ∨ t = 1 ∨ t = 2 ∨ t = 3 := by omega
  rcases this with rfl | rfl | rfl | rfl <;> exact ⟨_, rfl⟩
theorem iv_fo_ty (tc : Nat → ClassId) : (iv_tys tc)[3]? = some (tc 3, .object (iv_cnm 5, iv_F5, 3).1) := rfl
theorem iv_fo_cl : iv_cl[iv_fo]? = some (iv_cnm 5, iv_F5, 3) := rfl
theorem iv_f0_map {ci sz b : Nat} (h : ci < 10) : (iv_f0 ci).map (iv_v sz b) = iv_f0 ci := by
  have h1 : ∀ v ∈ iv_f0 ci, iv_v sz b v = v := fun v hv => by
    rcases iv_f0_no ci h v hv with rfl | rfl <;> rfl
  rw [List.map_congr_left h1]
  exact List.map_id _
/-! one step of the machine; x: what the table says beside the instruction (a target, a class and field, a number) -/
def iv_sw (pc : Nat) (dflt lo hi : Int) (offs : Array Int) (v : Int32) : Option Nat :=
  if v.toInt < lo ∨ hi < v.toInt then (if (pc : Int) + dflt < 0 then none else some ((pc : Int) + dflt).toNat)
  else match offs[(v.toInt - lo).toNat]? with
    | none => none
    | some off => if (pc : Int) + off < 0 then none else some ((pc : Int) + off).toNat
def iv_step (L : Nat) (xs : Nat → Int32) (μ : Nat) (i : Instr) (x pc : Nat) (lv : List (Nat × Value)) (st : List Value) (w : iv_W) : Option (Nat × List (Nat × Value) × List Value × iv_W) := match i with
  | .iconst n => some (pc + 1, lv, .int (Int32.ofInt n) :: st, w)
  | .bipush n => some (pc + 2, lv, .int (Int8.ofInt n).toInt32 :: st, w)
  | .sipush n => some (pc + 3, lv, .int (Int16.ofInt n).toInt32 :: st, w)
  | .lconst n => some (pc + 1, lv, .long (Int64.ofNat (n : Nat)) :: st, w)
  | .ldc n => some (pc + 2, lv, .int (Int32.ofNat x) :: st, w)
  | .ldc2_w n => some (pc + 3, lv, .long (Int64.ofNat x) :: st, w)
  | .iload_n k => match iv_ldi lv k.val with
    | some v => some (pc + 1, lv, .int v :: st, w)
    | none => none
  | .iload k => match iv_ldi lv k with
    | some v => some (pc + 2, lv, .int v :: st, w)
    | none => none
  | .lload_n k => match iv_ldl lv k.val with
    | some v => some (pc + 1, lv, .long v :: st, w)
    | none => none
  | .lload k => match iv_ldl lv k with
    | some v => some (pc + 2, lv, .long v :: st, w)
    | none => none
  | .aload_n k => match iv_lda lv k.val with
    | some v => some (pc + 1, lv, .ref v :: st, w)
    | none => none
  | .aload k => match iv_lda lv k with
    | some v => some (pc + 2, lv, .ref v :: st, w)
    | none => none
  | .istore_n k => match iv_p1 st with
    | some (v, r) => if k.val < iv_L μ then some (pc + 1, iv_st1 lv k.val (.int v), r, w) else none
    | none => none
  | .istore k => match iv_p1 st with
    | some (v, r) => if k < iv_L μ then some (pc + 2, iv_st1 lv k (.int v), r, w) else none
    | none => none
  | .lstore_n k => match iv_pl st with
    | some (v, r) => if k.val + 1 < iv_L μ then some (pc + 1, iv_st2 lv k.val (.long v), r, w) else none
    | none => none
  | .lstore k => match iv_pl st with
    | some (v, r) => if k + 1 < iv_L μ then some (pc + 2, iv_st2 lv k (.long v), r, w) else none
    | none => none
  | .astore_n k => match iv_pr st with
    | some (v, r) => if k.val < iv_L μ then some (pc + 1, iv_st1 lv k.val (.ref v), r, w) else none
    | none => none
  | .astore k => match iv_pr st with
    | some (v, r) => if k < iv_L μ then some (pc + 2, iv_st1 lv k (.ref v), r, w) else none
    | none => none
  | .iinc k n => match iv_ldi lv k with
    | some v => if k < iv_L μ then some (pc + 3, iv_st1 lv k (.int (v + Int32.ofInt n)), st, w) else none
    | none => none
  | .iadd => match iv_p2 st with
    | some (y, z, r) => some (pc + 1, lv, .int (y + z) :: r, w)
    | none => none
  | .isub => match iv_p2 st with
    | some (y, z, r) => some (pc + 1, lv, .int (y - z) :: r, w)
    | none => none
  | .imul => match iv_p2 st with
    | some (y, z, r) => some (pc + 1, lv, .int (y * z) :: r, w)
    | none => none
  | .iand => match iv_p2 st with
    | some (y, z, r) => some (pc + 1, lv, .int (y &&& z) :: r, w)
    | none => none
  | .ior => match iv_p2 st with
    | some (y, z, r) => some (pc + 1, lv, .int (y ||| z) :: r, w)
    | none => none
  | .idiv => match iv_p2 st with
    | some (y, z, r) => if z = 0 then none else some (pc + 1, lv, .int (y / z) :: r, w)
    | none => none
  | .irem => match iv_p2 st with
    | some (y, z, r) => if z = 0 then none else some (pc + 1, lv, .int (y - y / z * z) :: r, w)
    | none => none
  | .i2l => match iv_p1 st with
    | some (y, r) => some (pc + 1, lv, .long y.toInt64 :: r, w)
    | none => none
  | .l2i => match iv_pl st with
    | some (y, r) => some (pc + 1, lv, .int y.toInt32 :: r, w)
    | none => none
  | .lushr => match iv_pli st with
    | some (y, z, r) => some (pc + 1, lv, .long (y.toUInt64 >>> (z.toInt64.toUInt64 &&& Int64.toUInt64 63)).toInt64 :: r, w)
    | none => none
  | .lshl => match iv_pli st with
    | some (y, z, r) => some (pc + 1, lv, .long (y <<< (z.toInt64 &&& 63)) :: r, w)
    | none => none
  | .lor => match iv_pl2 st with
    | some (y, z, r) => some (pc + 1, lv, .long (y ||| z) :: r, w)
    | none => none
  | .land => match iv_pl2 st with
    | some (y, z, r) => some (pc + 1, lv, .long (y &&& z) :: r, w)
    | none => none
  | .lcmp => match iv_pl2 st with
    | some (y, z, r) => some (pc + 1, lv, .int (lg_cmp y z) :: r, w)
    | none => none
  | .dup => match iv_pv st with
    | some (v, r) => if v.category = 1 then some (pc + 1, lv, v :: v :: r, w) else none
    | none => none
  | .pop => match iv_pv st with
    | some (v, r) => if v.category = 1 then some (pc + 1, lv, r, w) else none
    | none => none
  | .dup2 => match iv_pir st with
    | some (y, a, r) => some (pc + 1, lv, .int y :: .ref a :: .int y :: .ref a :: r, w)
    | none => none
  | .goto n => some (x, lv, st, w)
  | .ifCond q n => match iv_p1 st with
    | some (y, r) => some (if iv_c0 q y = true then x else pc + 3, lv, r, w)
    | none => none
  | .if_icmp q n => match iv_p2 st with
    | some (y, z, r) => some (if iv_c2 q y z = true then x else pc + 3, lv, r, w)
    | none => none
  | .tableswitch dflt lo hi offs => match iv_p1 st with
    | some (y, r) => match iv_sw pc dflt lo hi offs y with
      | some t => some (t, lv, r, w)
      | none => none
    | none => none
  | .getfield n => match iv_pr st with
    | some (a, r) => match iv_obj w a (x / 100) with
      | some fs => match fs[x % 100]? with
        | some v => some (pc + 3, lv, v :: r, w)
        | none => none
      | none => none
    | none => none
  | .putfield n => match iv_pvr st with
    | some (v, a, r) => match iv_obj w a (x / 100) with
      | some fs => if x % 100 < fs.length ∧ iv_fit (iv_ty (x / 100) (x % 100)) v = true then some (pc + 3, lv, r, w.set (a - 1) (.inr (x / 100, fs.set (x % 100) v))) else none
      | none => none
    | none => none
  | .arraylength => match iv_pr st with
    | some (a, r) => if a = 0 then some (pc + 1, lv, .int (Int32.ofNat L) :: r, w) else match iv_len w a with
      | some (t, n) => some (pc + 1, lv, .int (Int32.ofNat n) :: r, w)
      | none => none
    | none => none
  | .iaload => match iv_pir st with
    | some (j, a, r) => if a = 0 then (if iv_in j L = true then some (pc + 1, lv, .int (xs j.toNatClampNeg) :: r, w) else none) else match iv_ai w a 0 with
      | some (n, f) => if iv_in j n = true then some (pc + 1, lv, .int (f j.toNatClampNeg) :: r, w) else none
      | none => none
    | none => none
  | .baload => match iv_pir st with
    | some (j, a, r) => match iv_ai w a 1 with
      | some (n, f) => if iv_in j n = true then some (pc + 1, lv, .int (f j.toNatClampNeg) :: r, w) else none
      | none => none
    | none => none
  | .laload => match iv_pir st with
    | some (j, a, r) => match iv_al w a with
      | some (n, f) => if iv_in j n = true then some (pc + 1, lv, .long (f j.toNatClampNeg) :: r, w) else none
      | none => none
    | none => none
  | .aaload => match iv_pir st with
    | some (j, a, r) => match iv_aq w a with
      | some (n, f) => if iv_in j n = true then (match f j.toNatClampNeg with
        | some q => some (pc + 1, lv, .ref q :: r, w)
        | none => none) else none
      | none => none
    | none => none
  | .iastore => match iv_piir st with
    | some (v, j, a, r) => match iv_ai w a 0 with
      | some (n, f) => if iv_in j n = true then some (pc + 1, lv, r, w.set (a - 1) (.inl (0, n, .inl (upd f j.toNatClampNeg v)))) else none
      | none => none
    | none => none
  | .bastore => match iv_piir st with
    | some (v, j, a, r) => match iv_ai w a 1 with
      | some (n, f) => if iv_in j n = true then some (pc + 1, lv, r, w.set (a - 1) (.inl (1, n, .inl (upd f j.toNatClampNeg (vp_nar .boolean v))))) else none
      | none => none
    | none => none
  | .lastore => match iv_plir st with
    | some (v, j, a, r) => match iv_al w a with
      | some (n, f) => if iv_in j n = true then some (pc + 1, lv, r, w.set (a - 1) (.inl (2, n, .inr (.inl (vp_updL f j.toNatClampNeg v))))) else none
      | none => none
    | none => none
  | .aastore => match iv_prir st with
    | some (v, j, a, r) => match iv_aq w a with
      | some (n, f) => if iv_in j n = true ∧ (iv_obj w v iv_fo).isSome = true then some (pc + 1, lv, r, w.set (a - 1) (.inl (3, n, .inr (.inr (.inr (.inr (va_up f j.toNatClampNeg (some v)))))))) else none
      | none => none
    | none => none
  | _ => none
/-- what the tables must say at an instruction -/
def iv_fd (own : String) (mname : String) (put : Bool) (n ci j : Nat) : Prop := ∃ (C : String) (T : u_T) (N : Nat), iv_cl[ci]? = some (C, T, N) ∧ j < N ∧ (T j).1 = C ∧ (∀ w ∈ u_ws C T N, w ∈ iv_all) ∧ Cond.fieldLink own n C (T j).2.1 (T j).2.2.1 ∈ iv_all ∧
  (∀ k, k < N → parseFieldDescriptor (T k).2.2.1 = some (iv_ty ci k)) ∧ (∀ a, a < N → ∀ b, b < N → a ≠ b → (T a).2.1 ≠ (T b).2.1) ∧ (put = false ∨ (T j).2.2.2 = false ∨ ((T j).2.2.2 = true ∧ mname = "<init>" ∧ (T j).1 = own))
def iv_fp (own : String) (mname : String) (n ci j : Nat) : Prop := ∃ (C : String) (T : u_T) (N : Nat), iv_cl[ci]? = some (C, T, N) ∧ j < N ∧ (T j).1 = C ∧ (∀ w ∈ u_ws C T N, w ∈ iv_all) ∧ Cond.fieldLink own n C (T j).2.1 (T j).2.2.1 ∈ iv_all ∧
  (∀ k, k < N → parseFieldDescriptor (T k).2.2.1 = some (iv_ty ci k)) ∧ (∀ a, a < N → ∀ b, b < N → a ≠ b → (T a).2.1 ≠ (T b).2.1) ∧ ((T j).2.2.2 = false ∨ ((T j).2.2.2 = true ∧ mname = "<init>" ∧ (T j).1 = own))
def iv_ok (μ pc : Nat) (i : Instr) (x : Nat) : Prop := decode (iv_c μ) pc = .ok (i, iv_ln i x) ∧ match i with
  | .getfield n => iv_fd (iv_y μ).cls (iv_y μ).name false n (x / 100) (x % 100)
  | .putfield n => iv_fp (iv_y μ).cls (iv_y μ).name n (x / 100) (x % 100)
  | .ldc n => Cond.constant (iv_y μ).cls n (Int32.ofNat x) ∈ iv_all
  | .ldc2_w n => Cond.constantLong (iv_y μ).cls n (Int64.ofNat x) ∈ iv_all
  | .ifCond _ o => (pc : Int) + o = (x : Int)
  | .if_icmp _ o => (pc : Int) + o = (x : Int)
  | .goto o => (pc : Int) + o = (x : Int)
  | _ => True
section
variable {p : Program} {l : Launch} {e : Env} {R : Room} {s : State} {m : MethodId} {args : Array Value} {below : List Frame} {meth : Method} {c : Code} {H : Heap} {locs : List Loc} {cells slots : Nat} {Q : State → Prop} {ls : Array Slot} {sz b L : Nat} {xs : Nat → Int32} {tc : Nat → ClassId} {D : va_G} {μ pc x pc2 : Nat} {i : Instr} {lv lv2 : List (Nat × Value)} {st st2 : List Value} {w w2 : iv_W}
set_option maxRecDepth 100000 in
set_option maxHeartbeats 8000000 in
theorem iv_step_ok (hx : p.tables.exec = Jvm.exec) (hb : c.code = iv_c μ) (hown : s.vm.findClass (iv_y μ).cls = some m.cls) (hts : ∀ w ∈ iv_all, w.before args s = true) (hname : meth.name = (iv_y μ).name)
    (hK : va_K D iv_cl (iv_tys tc) s) (hX : va_X b L xs s s.heap) (hbz : b < sz) (hz0 : sz ≤ s.heap.size)
    (hP : va_P D iv_cl (iv_ws sz b tc w) H) (hS : va_S (iv_A sz) s.heap H locs) (hl : lv_has ls (iv_L μ) (iv_lv sz b lv)) (hd : iv_ok μ pc i x) (h : iv_step L xs μ i x pc lv st w = some (pc2, lv2, st2, w2))
    (kk : ∀ (H1 : Heap) (locs1 : List Loc) (ls1 : Array Slot), va_P D iv_cl (iv_ws sz b tc w2) H1 → va_S (iv_A sz) s.heap H1 locs1 → lv_has ls1 (iv_L μ) (iv_lv sz b lv2) → W p l e R s m args below meth c H1 locs1 cells slots Q (F0 m pc2 ls1 (st2.map (iv_v sz b)))) :
    W p l e R s m args below meth c H locs cells slots Q (F0 m pc ls (st.map (iv_v sz b))) := by
  cases i
  case iconst n =>
    simp only [iv_step, Option.some.injEq, Prod.mk.injEq] at h
    obtain ⟨rfl, rfl, rfl, rfl⟩ := h
    exact lv_iconst hx hb hd.1 rfl (kk H locs ls hP hS hl)
  case bipush n =>
    simp only [iv_step, Option.some.injEq, Prod.mk.injEq] at h
    obtain ⟨rfl, rfl, rfl, rfl⟩ := h
    exact lv_bipush hx hb hd.1 rfl (kk H locs ls hP hS hl)
  case sipush n =>
    simp only [iv_step, Option.some.injEq, Prod.mk.injEq] at h
    obtain ⟨rfl, rfl, rfl, rfl⟩ := h
    exact lv_sipush hx hb hd.1 rfl (kk H locs ls hP hS hl)
  case lconst n =>
    simp only [iv_step, Option.some.injEq, Prod.mk.injEq] at h
    obtain ⟨rfl, rfl, rfl, rfl⟩ := h
    exact lv_lconst hx hb hd.1 rfl (kk H locs ls hP hS hl)
  case ldc n =>
    simp only [iv_step, Option.some.injEq, Prod.mk.injEq] at h
    obtain ⟨rfl, rfl, rfl, rfl⟩ := h
    exact lv_ldc hx hb hown (hts _ hd.2) hd.1 (kk H locs ls hP hS hl)
  case ldc2_w n =>
    simp only [iv_step, Option.some.injEq, Prod.mk.injEq] at h
    obtain ⟨rfl, rfl, rfl, rfl⟩ := h
    exact lv_ldc2 hx hb hown (hts _ hd.2) hd.1 (kk H locs ls hP hS hl)
  case iload_n k =>
    simp only [iv_step] at h
    split at h
    · next v e0 =>
      simp only [Option.some.injEq, Prod.mk.injEq] at h
      obtain ⟨rfl, rfl, rfl, rfl⟩ := h
      exact lv_iload_n hx hb hd.1 rfl (iv_ld_at hl (iv_ldi_eq e0)) (kk H locs ls hP hS hl)
    · cases h
  case iload k =>
    simp only [iv_step] at h
    split at h
    · next v e0 =>
      simp only [Option.some.injEq, Prod.mk.injEq] at h
      obtain ⟨rfl, rfl, rfl, rfl⟩ := h
      exact lv_iload hx hb hd.1 (iv_ld_at hl (iv_ldi_eq e0)) (kk H locs ls hP hS hl)
    · cases h
  case lload_n k =>
    simp only [iv_step] at h
    split at h
    · next v e0 =>
      simp only [Option.some.injEq, Prod.mk.injEq] at h
      obtain ⟨rfl, rfl, rfl, rfl⟩ := h
      exact lv_lload_n hx hb hd.1 rfl (iv_ld_at hl (iv_ldl_eq e0)) (kk H locs ls hP hS hl)
    · cases h
  case lload k =>
    simp only [iv_step] at h
    split at h
    · next v e0 =>
      simp only [Option.some.injEq, Prod.mk.injEq] at h
      obtain ⟨rfl, rfl, rfl, rfl⟩ := h
      exact lv_lload hx hb hd.1 (iv_ld_at hl (iv_ldl_eq e0)) (kk H locs ls hP hS hl)
    · cases h
  case aload_n k =>
    simp only [iv_step] at h
    split at h
    · next v e0 =>
      simp only [Option.some.injEq, Prod.mk.injEq] at h
      obtain ⟨rfl, rfl, rfl, rfl⟩ := h
      exact lv_aload_n hx hb hd.1 rfl (iv_ld_at hl (iv_lda_eq e0)) (kk H locs ls hP hS hl)
    · cases h
  case aload k =>
    simp only [iv_step] at h
    split at h
    · next v e0 =>
      simp only [Option.some.injEq, Prod.mk.injEq] at h
      obtain ⟨rfl, rfl, rfl, rfl⟩ := h
      exact lv_aload hx hb hd.1 (iv_ld_at hl (iv_lda_eq e0)) (kk H locs ls hP hS hl)
    · cases h
  case istore_n k =>
    simp only [iv_step] at h
    split at h
    · next v r e0 =>
      split at h
      · next hk =>
        simp only [Option.some.injEq, Prod.mk.injEq] at h
        obtain ⟨rfl, rfl, rfl, rfl⟩ := h
        rw [iv_p1_eq e0]
        exact lv_istore_n hx hb hd.1 rfl hl hk (iv_lv_st1 lv k.val (.int v)) (fun ls2 hl2 => kk H locs ls2 hP hS hl2)
      · cases h
    · cases h
  case istore k =>
    simp only [iv_step] at h
    split at h
    · next v r e0 =>
      split at h
      · next hk =>
        simp only [Option.some.injEq, Prod.mk.injEq] at h
        obtain ⟨rfl, rfl, rfl, rfl⟩ := h
        rw [iv_p1_eq e0]
        exact lv_istore hx hb hd.1 hl hk (iv_lv_st1 lv k (.int v)) (fun ls2 hl2 => kk H locs ls2 hP hS hl2)
      · cases h
    · cases h
  case lstore_n k =>
    simp only [iv_step] at h
    split at h
    · next v r e0 =>
      split at h
      · next hk =>
        simp only [Option.some.injEq, Prod.mk.injEq] at h
        obtain ⟨rfl, rfl, rfl, rfl⟩ := h
        rw [iv_pl_eq e0]
        exact lv_lstore_n hx hb hd.1 rfl hl hk (iv_lv_st2 lv k.val (.long v)) (fun ls2 hl2 => kk H locs ls2 hP hS hl2)
      · cases h
    · cases h
  case lstore k =>
    simp only [iv_step] at h
    split at h
    · next v r e0 =>
      split at h
      · next hk =>
        simp only [Option.some.injEq, Prod.mk.injEq] at h
        obtain ⟨rfl, rfl, rfl, rfl⟩ := h
        rw [iv_pl_eq e0]
        exact lv_lstore hx hb hd.1 hl hk (iv_lv_st2 lv k (.long v)) (fun ls2 hl2 => kk H locs ls2 hP hS hl2)
      · cases h
    · cases h
  case astore_n k =>
    simp only [iv_step] at h
    split at h
    · next v r e0 =>
      split at h
      · next hk =>
        simp only [Option.some.injEq, Prod.mk.injEq] at h
        obtain ⟨rfl, rfl, rfl, rfl⟩ := h
        rw [iv_pr_eq e0]
        exact lv_astore_n hx hb hd.1 rfl hl hk (iv_lv_st1 lv k.val (.ref v)) (fun ls2 hl2 => kk H locs ls2 hP hS hl2)
      · cases h
    · cases h
  case astore k =>
    simp only [iv_step] at h
    split at h
    · next v r e0 =>
      split at h
      · next hk =>
        simp only [Option.some.injEq, Prod.mk.injEq] at h
        obtain ⟨rfl, rfl, rfl, rfl⟩ := h
        rw [iv_pr_eq e0]
        exact lv_astore hx hb hd.1 hl hk (iv_lv_st1 lv k (.ref v)) (fun ls2 hl2 => kk H locs ls2 hP hS hl2)
      · cases h
    · cases h
  case iinc k n =>
    simp only [iv_step] at h
    split at h
    · next v e0 =>
      split at h
      · next hk =>
        simp only [Option.some.injEq, Prod.mk.injEq] at h
        obtain ⟨rfl, rfl, rfl, rfl⟩ := h
        obtain ⟨j, hj⟩ := iv_ld_k (sz := sz) (b := b) lv k (.int v) (iv_ldi_eq e0)
        exact lv_iinc hx hb hd.1 hl hj rfl hk (iv_lv_st1 lv k (.int (v + Int32.ofInt n))) (fun ls2 hl2 => kk H locs ls2 hP hS hl2)
      · cases h
    · cases h
  case iadd =>
    simp only [iv_step] at h
    split at h
    · next y z r e0 =>
      simp only [Option.some.injEq, Prod.mk.injEq] at h
      obtain ⟨rfl, rfl, rfl, rfl⟩ := h
      rw [iv_p2_eq e0]
      exact lv_iadd hx hb hd.1 (kk H locs ls hP hS hl)
    · cases h
  case isub =>
    simp only [iv_step] at h
    split at h
    · next y z r e0 =>
      simp only [Option.some.injEq, Prod.mk.injEq] at h
      obtain ⟨rfl, rfl, rfl, rfl⟩ := h
      rw [iv_p2_eq e0]
      exact lv_isub hx hb hd.1 (kk H locs ls hP hS hl)
    · cases h
  case imul =>
    simp only [iv_step] at h
    split at h
    · next y z r e0 =>
      simp only [Option.some.injEq, Prod.mk.injEq] at h
      obtain ⟨rfl, rfl, rfl, rfl⟩ := h
      rw [iv_p2_eq e0]
      exact lv_imul hx hb hd.1 (kk H locs ls hP hS hl)
    · cases h
  case iand =>
    simp only [iv_step] at h
    split at h
    · next y z r e0 =>
      simp only [Option.some.injEq, Prod.mk.injEq] at h
      obtain ⟨rfl, rfl, rfl, rfl⟩ := h
      rw [iv_p2_eq e0]
      exact lv_iand hx hb hd.1 (kk H locs ls hP hS hl)
    · cases h
  case ior =>
    simp only [iv_step] at h
    split at h
    · next y z r e0 =>
      simp only [Option.some.injEq, Prod.mk.injEq] at h
      obtain ⟨rfl, rfl, rfl, rfl⟩ := h
      rw [iv_p2_eq e0]
      exact lv_ior hx hb hd.1 (kk H locs ls hP hS hl)
    · cases h
  case idiv =>
    simp only [iv_step] at h
    split at h
    · next y z r e0 =>
      split at h
      · cases h
      · next hz =>
        simp only [Option.some.injEq, Prod.mk.injEq] at h
        obtain ⟨rfl, rfl, rfl, rfl⟩ := h
        rw [iv_p2_eq e0]
        exact lv_idiv hx hb hd.1 hz (kk H locs ls hP hS hl)
    · cases h
  case irem =>
    simp only [iv_step] at h
    split at h
    · next y z r e0 =>
      split at h
      · cases h
      · next hz =>
        simp only [Option.some.injEq, Prod.mk.injEq] at h
        obtain ⟨rfl, rfl, rfl, rfl⟩ := h
        rw [iv_p2_eq e0]
        exact lv_irem hx hb hd.1 hz (kk H locs ls hP hS hl)
    · cases h
  case i2l =>
    simp only [iv_step] at h
    split at h
    · next y r e0 =>
      simp only [Option.some.injEq, Prod.mk.injEq] at h
      obtain ⟨rfl, rfl, rfl, rfl⟩ := h
      rw [iv_p1_eq e0]
      exact lv_i2l hx hb hd.1 rfl (kk H locs ls hP hS hl)
    · cases h
  case l2i =>
    simp only [iv_step] at h
    split at h
    · next y r e0 =>
      simp only [Option.some.injEq, Prod.mk.injEq] at h
      obtain ⟨rfl, rfl, rfl, rfl⟩ := h
      rw [iv_pl_eq e0]
      exact lv_l2i hx hb hd.1 rfl (kk H locs ls hP hS hl)
    · cases h
  case lushr =>
    simp only [iv_step] at h
    split at h
    · next y z r e0 =>
      simp only [Option.some.injEq, Prod.mk.injEq] at h
      obtain ⟨rfl, rfl, rfl, rfl⟩ := h
      rw [iv_pli_eq e0]
      exact lv_lushr hx hb hd.1 rfl (kk H locs ls hP hS hl)
    · cases h
  case lshl =>
    simp only [iv_step] at h
    split at h
    · next y z r e0 =>
      simp only [Option.some.injEq, Prod.mk.injEq] at h
      obtain ⟨rfl, rfl, rfl, rfl⟩ := h
      rw [iv_pli_eq e0]
      exact lv_lshl hx hb hd.1 rfl (kk H locs ls hP hS hl)
    · cases h
  case lor =>
    simp only [iv_step] at h
    split at h
    · next y z r e0 =>
      simp only [Option.some.injEq, Prod.mk.injEq] at h
      obtain ⟨rfl, rfl, rfl, rfl⟩ := h
      rw [iv_pl2_eq e0]
      exact lv_lor hx hb hd.1 (kk H locs ls hP hS hl)
    · cases h
  case land =>
    simp only [iv_step] at h
    split at h
    · next y z r e0 =>
      simp only [Option.some.injEq, Prod.mk.injEq] at h
      obtain ⟨rfl, rfl, rfl, rfl⟩ := h
      rw [iv_pl2_eq e0]
      exact lv_land hx hb hd.1 (kk H locs ls hP hS hl)
    · cases h
  case lcmp =>
    simp only [iv_step] at h
    split at h
    · next y z r e0 =>
      simp only [Option.some.injEq, Prod.mk.injEq] at h
      obtain ⟨rfl, rfl, rfl, rfl⟩ := h
      rw [iv_pl2_eq e0]
      exact W.lcmp hx hb hd.1 (kk H locs ls hP hS hl)
    · cases h
  case dup =>
    simp only [iv_step] at h
    split at h
    · next v r e0 =>
      split at h
      · next hk =>
        simp only [Option.some.injEq, Prod.mk.injEq] at h
        obtain ⟨rfl, rfl, rfl, rfl⟩ := h
        rw [iv_pv_eq e0]
        exact lv_dup hx hb hd.1 (by rw [iv_cat]; exact hk) (kk H locs ls hP hS hl)
      · cases h
    · cases h
  case pop =>
    simp only [iv_step] at h
    split at h
    · next v r e0 =>
      split at h
      · next hk =>
        simp only [Option.some.injEq, Prod.mk.injEq] at h
        obtain ⟨rfl, rfl, rfl, rfl⟩ := h
        rw [iv_pv_eq e0]
        exact lv_pop hx hb hd.1 (by rw [iv_cat]; exact hk) (kk H locs ls hP hS hl)
      · cases h
    · cases h
  case dup2 =>
    simp only [iv_step] at h
    split at h
    · next y a r e0 =>
      simp only [Option.some.injEq, Prod.mk.injEq] at h
      obtain ⟨rfl, rfl, rfl, rfl⟩ := h
      rw [iv_pir_eq e0]
      exact lv_dup2_11 hx hb hd.1 rfl rfl (kk H locs ls hP hS hl)
    · cases h
  case goto n =>
    simp only [iv_step, Option.some.injEq, Prod.mk.injEq] at h
    obtain ⟨rfl, rfl, rfl, rfl⟩ := h
    exact lv_goto hx hb hd.1 hd.2 (kk H locs ls hP hS hl)
  case ifCond q n =>
    simp only [iv_step] at h
    split at h
    · next y r e0 =>
      simp only [Option.some.injEq, Prod.mk.injEq] at h
      obtain ⟨rfl, rfl, rfl, rfl⟩ := h
      rw [iv_p1_eq e0]
      cases q
      · exact lv_if_eq hx hb hd.1 hd.2 (fun q => by have := kk H locs ls hP hS hl; rwa [if_pos (by simpa [iv_c0] using q)] at this) (fun q => by have := kk H locs ls hP hS hl; rwa [if_neg (by simpa [iv_c0] using q)] at this)
      · exact lv_if_ne hx hb hd.1 hd.2 (fun q => by have := kk H locs ls hP hS hl; rwa [if_pos (by simpa [iv_c0] using q)] at this) (fun q => by have := kk H locs ls hP hS hl; rwa [if_neg (by simpa [iv_c0] using q)] at this)
      · exact lv_if_lt hx hb hd.1 hd.2 (fun q => by have := kk H locs ls hP hS hl; rwa [if_pos (by simpa [iv_c0] using q)] at this) (fun q => by have := kk H locs ls hP hS hl; rwa [if_neg (by simpa [iv_c0] using q)] at this)
      · exact lv_if_ge hx hb hd.1 hd.2 (fun q => by have := kk H locs ls hP hS hl; rwa [if_pos (by simpa [iv_c0] using q)] at this) (fun q => by have := kk H locs ls hP hS hl; rwa [if_neg (by simpa [iv_c0] using q)] at this)
      · exact lv_if_gt hx hb hd.1 hd.2 (fun q => by have := kk H locs ls hP hS hl; rwa [if_pos (by simpa [iv_c0] using q)] at this) (fun q => by have := kk H locs ls hP hS hl; rwa [if_neg (by simpa [iv_c0] using q)] at this)
      · exact lv_if_le hx hb hd.1 hd.2 (fun q => by have := kk H locs ls hP hS hl; rwa [if_pos (by simpa [iv_c0] using q)] at this) (fun q => by have := kk H locs ls hP hS hl; rwa [if_neg (by simpa [iv_c0] using q)] at this)
    · cases h
  case if_icmp q n =>
    simp only [iv_step] at h
    split at h
    · next y z r e0 =>
      simp only [Option.some.injEq, Prod.mk.injEq] at h
      obtain ⟨rfl, rfl, rfl, rfl⟩ := h
      rw [iv_p2_eq e0]
      cases q
      · exact lv_icmp_eq hx hb hd.1 hd.2 (fun q => by have := kk H locs ls hP hS hl; rwa [if_pos (by simpa [iv_c2] using q)] at this) (fun q => by have := kk H locs ls hP hS hl; rwa [if_neg (by simpa [iv_c2] using q)] at this)
      · exact lv_icmp_ne hx hb hd.1 hd.2 (fun q => by have := kk H locs ls hP hS hl; rwa [if_pos (by simpa [iv_c2] using q)] at this) (fun q => by have := kk H locs ls hP hS hl; rwa [if_neg (by simpa [iv_c2] using q)] at this)
      · exact lv_icmp_lt hx hb hd.1 hd.2 (fun q => by have := kk H locs ls hP hS hl; rwa [if_pos (by simpa [iv_c2] using q)] at this) (fun q => by have := kk H locs ls hP hS hl; rwa [if_neg (by simpa [iv_c2] using q)] at this)
      · exact lv_icmp_ge hx hb hd.1 hd.2 (fun q => by have := kk H locs ls hP hS hl; rwa [if_pos (by simpa [iv_c2] using q)] at this) (fun q => by have := kk H locs ls hP hS hl; rwa [if_neg (by simpa [iv_c2] using q)] at this)
      · exact lv_icmp_gt hx hb hd.1 hd.2 (fun q => by have := kk H locs ls hP hS hl; rwa [if_pos (by simpa [iv_c2] using q)] at this) (fun q => by have := kk H locs ls hP hS hl; rwa [if_neg (by simpa [iv_c2] using q)] at this)
      · exact lv_icmp_le hx hb hd.1 hd.2 (fun q => by have := kk H locs ls hP hS hl; rwa [if_pos (by simpa [iv_c2] using q)] at this) (fun q => by have := kk H locs ls hP hS hl; rwa [if_neg (by simpa [iv_c2] using q)] at this)
    · cases h
  case tableswitch dflt lo hi offs =>
    simp only [iv_step] at h
    split at h
    · next y r e0 =>
      split at h
      · next t e1 =>
        simp only [Option.some.injEq, Prod.mk.injEq] at h
        obtain ⟨rfl, rfl, rfl, rfl⟩ := h
        rw [iv_p1_eq e0]
        unfold iv_sw at e1
        split at e1
        · next hq =>
          split at e1
          · cases e1
          · next h0 =>
            cases e1
            exact lv_tableOut hx hb hd.1 hq (by omega) (kk H locs ls hP hS hl)
        · next hq =>
          split at e1
          · cases e1
          · next off ho =>
            split at e1
            · cases e1
            · next h0 =>
              cases e1
              exact lv_tableIn hx hb hd.1 (fun z => hq (Or.inl z)) (fun z => hq (Or.inr z)) ho (by omega) (kk H locs ls hP hS hl)
      · cases h
    · cases h
  case getfield n =>
    simp only [iv_step] at h
    split at h
    · next a r e0 =>
      split at h
      · next fs e1 =>
        split at h
        · next v e2 =>
          simp only [Option.some.injEq, Prod.mk.injEq] at h
          obtain ⟨rfl, rfl, rfl, rfl⟩ := h
          rw [iv_pr_eq e0]
          obtain ⟨k, rfl, hw⟩ := iv_obj_eq e1
          obtain ⟨C, T, N, f1, f2, f3, f4, f5, -⟩ := hd.2
          exact va_get (D := D) (cl := iv_cl) (ref := C) hx hb hts f4 hown hK hP k (iv_ws_at hw) f1 (x % 100) f2 (hts _ f5) (fun q hq => by rw [f3] at hq; exact hq) (v := iv_v sz b v) (by rw [List.getElem?_map, e2]; rfl) hd.1 (kk H locs ls hP hS hl)
        · cases h
      · cases h
    · cases h
  case putfield n =>
    simp only [iv_step] at h
    split at h
    · next v a r e0 =>
      split at h
      · next fs e1 =>
        split at h
        · next hv =>
          simp only [Option.some.injEq, Prod.mk.injEq] at h
          obtain ⟨rfl, rfl, rfl, rfl⟩ := h
          rw [iv_pvr_eq e0]
          obtain ⟨k, rfl, hw⟩ := iv_obj_eq e1
          obtain ⟨C, T, N, f1, f2, f3, f4, f5, f6, f7, f8⟩ := hd.2
          obtain ⟨g1, g2⟩ := iv_fit_ok (sz := sz) (b := b) hv.2
          have hset : (fs.map (iv_v sz b)).set (x % 100) (iv_v sz b v) = (fs.set (x % 100) v).map (iv_v sz b) := by rw [List.map_set]
          have fin : ∀ (H1 : Heap) (locs1 : List Loc), va_P D iv_cl ((iv_ws sz b tc w).set k (sz + k, .inr (x / 100, (fs.map (iv_v sz b)).set (x % 100) (iv_v sz b v)))) H1 → va_D (iv_A sz) ((iv_ws sz b tc w).set k (sz + k, .inr (x / 100, (fs.map (iv_v sz b)).set (x % 100) (iv_v sz b v)))) → va_S (iv_A sz) s.heap H1 locs1 → W p l e R s m args below meth c H1 locs1 cells slots Q (F0 m (pc + 3) ls (r.map (iv_v sz b))) := by
            intro H1 locs1 q1 q2 q3
            rw [hset] at q1
            refine kk H1 locs1 ls ?_ q3 hl
            have q4 := q1
            rw [show ((sz + k, Sum.inr (x / 100, (fs.set (x % 100) v).map (iv_v sz b))) : Nat × va_E) = (sz + k, iv_e sz b tc (.inr (x / 100, fs.set (x % 100) v))) from rfl, iv_ws_set] at q4
            exact q4
          rcases f8 with f8 | ⟨f8, f9, f10⟩
          · exact va_put (D := D) (cl := iv_cl) (ref := C) hx hb hts f4 (iv_ty (x / 100)) f6 f7 hown hK hP iv_D hS k (iv_ws_at hw) f1 (x % 100) f2 (hts _ f5) (fun q hq => by rw [f3] at hq; exact hq) f8 (f6 _ f2) g1 g2 (by rw [List.length_map]; exact hv.1) hd.1 fin
          · exact va_putF (D := D) (cl := iv_cl) (ref := C) hx hb hts f4 (iv_ty (x / 100)) f6 f7 hown hK hP iv_D hS k (iv_ws_at hw) f1 (x % 100) f2 (hts _ f5) (fun q hq => by rw [f3] at hq; exact hq) f8 (hname.trans f9) f10 (f6 _ f2) g1 g2 (by rw [List.length_map]; exact hv.1) hd.1 fin
        · cases h
      · cases h
    · cases h
  case arraylength =>
    simp only [iv_step] at h
    split at h
    · next a r e0 =>
      split at h
      · next ha =>
        subst ha
        simp only [Option.some.injEq, Prod.mk.injEq] at h
        obtain ⟨rfl, rfl, rfl, rfl⟩ := h
        rw [iv_pr_eq e0]
        exact va_slen hx hb hX (Nat.lt_of_lt_of_le hbz hz0) (fun q => absurd hbz (Nat.not_lt.mpr q)) hS hd.1 (kk H locs ls hP hS hl)
      · split at h
        · next t n e1 =>
          simp only [Option.some.injEq, Prod.mk.injEq] at h
          obtain ⟨rfl, rfl, rfl, rfl⟩ := h
          rw [iv_pr_eq e0]
          obtain ⟨k, x2, rfl, hw, hn, ht⟩ := iv_len_eq e1
          obtain ⟨ty, hty⟩ := iv_tys_at tc ht
          have hn2 : (iv_a sz b x2).1 = n := by
            rw [← hn]
            obtain ⟨n2, f | f | f | f | f⟩ := x2 <;> rfl
          exact va_alen hx hb hK hP k t (iv_ws_at hw) hty (by rw [hn2]) hd.1 (kk H locs ls hP hS hl)
        · cases h
    · cases h
  case iaload =>
    simp only [iv_step] at h
    split at h
    · next j a r e0 =>
      split at h
      · next ha =>
        subst ha
        split at h
        · next hj =>
          simp only [Option.some.injEq, Prod.mk.injEq] at h
          obtain ⟨rfl, rfl, rfl, rfl⟩ := h
          rw [iv_pir_eq e0]
          exact va_sld hx hb hX (Nat.lt_of_lt_of_le hbz hz0) (fun q => absurd hbz (Nat.not_lt.mpr q)) hS (iv_in_ok hj) hd.1 (kk H locs ls hP hS hl)
        · cases h
      · split at h
        · next n f e1 =>
          split at h
          · next hj =>
            simp only [Option.some.injEq, Prod.mk.injEq] at h
            obtain ⟨rfl, rfl, rfl, rfl⟩ := h
            rw [iv_pir_eq e0]
            obtain ⟨k, rfl, hw⟩ := iv_ai_eq e1
            exact va_iald hx hb hK hP k 0 (iv_ws_at hw) rfl (iv_in_ok hj) hd.1 (kk H locs ls hP hS hl)
          · cases h
        · cases h
    · cases h
  case baload =>
    simp only [iv_step] at h
    split at h
    · next j a r e0 =>
      split at h
      · next n f e1 =>
        split at h
        · next hj =>
          simp only [Option.some.injEq, Prod.mk.injEq] at h
          obtain ⟨rfl, rfl, rfl, rfl⟩ := h
          rw [iv_pir_eq e0]
          obtain ⟨k, rfl, hw⟩ := iv_ai_eq e1
          exact va_zald hx hb hK hP k 1 (iv_ws_at hw) rfl (iv_in_ok hj) hd.1 (kk H locs ls hP hS hl)
        · cases h
      · cases h
    · cases h
  case laload =>
    simp only [iv_step] at h
    split at h
    · next j a r e0 =>
      split at h
      · next n f e1 =>
        split at h
        · next hj =>
          simp only [Option.some.injEq, Prod.mk.injEq] at h
          obtain ⟨rfl, rfl, rfl, rfl⟩ := h
          rw [iv_pir_eq e0]
          obtain ⟨k, rfl, hw⟩ := iv_al_eq e1
          exact va_lald hx hb hK hP k 2 (iv_ws_at hw) rfl (iv_in_ok hj) hd.1 (kk H locs ls hP hS hl)
        · cases h
      · cases h
    · cases h
  case aaload =>
    simp only [iv_step] at h
    split at h
    · next j a r e0 =>
      split at h
      · next n f e1 =>
        split at h
        · next hj =>
          split at h
          · next q e2 =>
            simp only [Option.some.injEq, Prod.mk.injEq] at h
            obtain ⟨rfl, rfl, rfl, rfl⟩ := h
            rw [iv_pir_eq e0]
            obtain ⟨k, rfl, hw⟩ := iv_aq_eq e1
            refine va_aldq hx hb hK hP k 3 (iv_ws_at hw) rfl (iv_in_ok hj) hd.1 ?_
            rw [e2]
            exact kk H locs ls hP hS hl
          · cases h
        · cases h
      · cases h
    · cases h
  case iastore =>
    simp only [iv_step] at h
    split at h
    · next v j a r e0 =>
      split at h
      · next n f e1 =>
        split at h
        · next hj =>
          simp only [Option.some.injEq, Prod.mk.injEq] at h
          obtain ⟨rfl, rfl, rfl, rfl⟩ := h
          rw [iv_piir_eq e0]
          obtain ⟨k, rfl, hw⟩ := iv_ai_eq e1
          refine va_iast hx hb hK hP iv_D hS k 0 (iv_ws_at hw) rfl (iv_in_ok hj) hd.1 (fun H1 locs1 q1 q2 q3 => kk H1 locs1 ls ?_ q3 hl)
          rw [← iv_ws_set]
          exact q1
        · cases h
      · cases h
    · cases h
  case bastore =>
    simp only [iv_step] at h
    split at h
    · next v j a r e0 =>
      split at h
      · next n f e1 =>
        split at h
        · next hj =>
          simp only [Option.some.injEq, Prod.mk.injEq] at h
          obtain ⟨rfl, rfl, rfl, rfl⟩ := h
          rw [iv_piir_eq e0]
          obtain ⟨k, rfl, hw⟩ := iv_ai_eq e1
          refine va_zast hx hb hK hP iv_D hS k 1 (iv_ws_at hw) rfl (iv_in_ok hj) hd.1 (fun H1 locs1 q1 q2 q3 => kk H1 locs1 ls ?_ q3 hl)
          rw [← iv_ws_set]
          exact q1
        · cases h
      · cases h
    · cases h
  case lastore =>
    simp only [iv_step] at h
    split at h
    · next v j a r e0 =>
      split at h
      · next n f e1 =>
        split at h
        · next hj =>
          simp only [Option.some.injEq, Prod.mk.injEq] at h
          obtain ⟨rfl, rfl, rfl, rfl⟩ := h
          rw [iv_plir_eq e0]
          obtain ⟨k, rfl, hw⟩ := iv_al_eq e1
          refine va_last hx hb hK hP iv_D hS k 2 (iv_ws_at hw) rfl (iv_in_ok hj) hd.1 (fun H1 locs1 q1 q2 q3 => kk H1 locs1 ls ?_ q3 hl)
          rw [← iv_ws_set]
          exact q1
        · cases h
      · cases h
    · cases h
  case aastore =>
    simp only [iv_step] at h
    split at h
    · next v j a r e0 =>
      split at h
      · next n f e1 =>
        split at h
        · next hj =>
          simp only [Option.some.injEq, Prod.mk.injEq] at h
          obtain ⟨rfl, rfl, rfl, rfl⟩ := h
          rw [iv_prir_eq e0]
          obtain ⟨k, rfl, hw⟩ := iv_aq_eq e1
          obtain ⟨fs, hfs⟩ := Option.isSome_iff_exists.mp hj.2
          obtain ⟨k2, rfl, hw2⟩ := iv_obj_eq hfs
          refine va_astq hx hb hK hP iv_D hS k 3 k2 iv_fo (iv_ws_at hw) (iv_fo_ty tc) (iv_ws_at hw2) iv_fo_cl (iv_in_ok hj.1) hd.1 (fun H1 locs1 q1 q2 q3 => kk H1 locs1 ls ?_ q3 hl)
          rw [← iv_ws_set]
          have e9 : (va_up (fun q => (f q).map (iv_ad sz b)) j.toNatClampNeg (some (iv_ad sz b (k2 + 1)))) = (fun q => (va_up f j.toNatClampNeg (some (k2 + 1)) q).map (iv_ad sz b)) := by
            funext q
            unfold va_up
            split <;> rfl
          have q4 := q1
          show va_P D iv_cl ((iv_ws sz b tc w).set k (sz + k, .inl (tc 3, n, .inr (.inr (.inr (.inr (fun q => (va_up f j.toNatClampNeg (some (k2 + 1)) q).map (iv_ad sz b)))))))) H1
          rw [← e9]
          exact q4
        · cases h
      · cases h
    · cases h
  all_goals (simp only [iv_step] at h; cases h)
end
