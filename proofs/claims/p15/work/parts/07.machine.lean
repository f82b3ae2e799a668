/-! A machine of my own over pictures of cells. A value is the model's; a reference names a cell by its number: 0 is the script, k + 1 the k-th cell of the world (it lies at sz + k). -/
def iv_ad (sz b : Nat) (k : Nat) : Nat := match k with
  | 0 => b
  | j + 1 => sz + j
def iv_v (sz b : Nat) (v : Value) : Value := match v with
  | .ref k => .ref (iv_ad sz b k)
  | .int x => .int x
  | .long x => .long x
  | .float x => .float x
  | .double x => .double x
  | .null => .null
  | .retAddr x => .retAddr x
abbrev iv_A (sz : Nat) : Nat → Prop := fun q => sz ≤ q
abbrev iv_E : Type := (Nat × vp_A) ⊕ (Nat × List Value)
abbrev iv_W : Type := List iv_E
def iv_a (sz b : Nat) (a : vp_A) : vp_A := match a with
  | (n, .inl f) => (n, .inl f)
  | (n, .inr (.inl f)) => (n, .inr (.inl f))
  | (n, .inr (.inr (.inl f))) => (n, .inr (.inr (.inl f)))
  | (n, .inr (.inr (.inr (.inl f)))) => (n, .inr (.inr (.inr (.inl f))))
  | (n, .inr (.inr (.inr (.inr f)))) => (n, .inr (.inr (.inr (.inr (fun i => (f i).map (iv_ad sz b))))))
def iv_e (sz b : Nat) (tc : Nat → ClassId) (e : iv_E) : va_E := match e with
  | .inl (t, a) => .inl (tc t, iv_a sz b a)
  | .inr (ci, fs) => .inr (ci, fs.map (iv_v sz b))
def iv_ws (sz b : Nat) (tc : Nat → ClassId) (w : iv_W) : va_W := w.mapIdx (fun k e => (sz + k, iv_e sz b tc e))
def iv_lv (sz b : Nat) (lv : List (Nat × Value)) : List (Nat × Value) := lv.map (fun q => (q.1, iv_v sz b q.2))
def iv_st1 (lv : List (Nat × Value)) (i : Nat) (v : Value) : List (Nat × Value) := (i, v) :: lv.filter (fun q => !(q.1 == i) && !(q.1 + 1 == i && q.2.category == 2))
def iv_st2 (lv : List (Nat × Value)) (i : Nat) (v : Value) : List (Nat × Value) := (i, v) :: lv.filter (fun q => !(q.1 == i) && (!(q.1 == i + 1) && !(q.1 + 1 == i && q.2.category == 2)))
def iv_no (lv : List (Nat × Value)) (i : Nat) : List (Nat × Value) := lv.filter (fun q => !(q.1 == i) && !(q.1 + 1 == i && q.2.category == 2))
def iv_ld (lv : List (Nat × Value)) (i : Nat) : Option Value := match lv with
  | [] => none
  | q :: r => if q.1 = i then some q.2 else iv_ld r i
theorem iv_cat {sz b : Nat} (v : Value) : (iv_v sz b v).category = v.category := by cases v <;> rfl
theorem iv_lv_no {sz b : Nat} (lv : List (Nat × Value)) (i : Nat) : iv_lv sz b (iv_no lv i) = (iv_lv sz b lv).filter (fun q => !(q.1 == i) && !(q.1 + 1 == i && q.2.category == 2)) := by
  simp [iv_lv, iv_no, List.filter_map, Function.comp_def, iv_cat]
theorem iv_lv_st1 {sz b : Nat} (lv : List (Nat × Value)) (i : Nat) (v : Value) : (i, iv_v sz b v) :: (iv_lv sz b lv).filter (fun q => !(q.1 == i) && !(q.1 + 1 == i && q.2.category == 2)) = iv_lv sz b (iv_st1 lv i v) := by
  simp [iv_lv, iv_st1, List.filter_map, Function.comp_def, iv_cat]
theorem iv_lv_st2 {sz b : Nat} (lv : List (Nat × Value)) (i : Nat) (v : Value) : (i, iv_v sz b v) :: (iv_lv sz b lv).filter (fun q => !(q.1 == i) && (!(q.1 == i + 1) && !(q.1 + 1 == i && q.2.category == 2))) = iv_lv sz b (iv_st2 lv i v) := by
  simp [iv_lv, iv_st2, List.filter_map, Function.comp_def, iv_cat]
theorem iv_ld_mem : ∀ (lv : List (Nat × Value)) (i : Nat) (v : Value), iv_ld lv i = some v → (i, v) ∈ lv
  | [], _, _, h => by simp [iv_ld] at h
  | q :: r, i, v, h => by
    unfold iv_ld at h
    split at h
    · next e => cases h; subst e; exact List.mem_cons_self
    · exact List.mem_cons_of_mem _ (iv_ld_mem r i v h)
theorem iv_ld_at {sz b nL : Nat} {ls : Array Slot} {lv : List (Nat × Value)} {i : Nat} {v : Value} (hl : lv_has ls nL (iv_lv sz b lv)) (h : iv_ld lv i = some v) : ls[i]? = some (.val (iv_v sz b v)) :=
  hl.2.2 (i, iv_v sz b v) (List.mem_map.mpr ⟨(i, v), iv_ld_mem lv i v h, rfl⟩)
theorem iv_ld_k {sz b : Nat} : ∀ (lv : List (Nat × Value)) (i : Nat) (v : Value), iv_ld lv i = some v → ∃ k : Nat, (iv_lv sz b lv)[k]? = some (i, iv_v sz b v) := fun lv i v h =>
  List.getElem?_of_mem (List.mem_map.mpr ⟨(i, v), iv_ld_mem lv i v h, rfl⟩)
theorem iv_args {sz b : Nat} : ∀ (vs : List Value) (i : Nat), lv_args i (vs.map (iv_v sz b)) = iv_lv sz b (lv_args i vs)
  | [], _ => rfl
  | v :: vs, i => by
    simp only [List.map_cons, lv_args, iv_cat]
    rw [iv_args vs]
    rfl
section
variable {sz b : Nat} {tc : Nat → ClassId}
theorem iv_ws_at {w : iv_W} {k : Nat} {e : iv_E} (h : w[k]? = some e) : (iv_ws sz b tc w)[k]? = some (sz + k, iv_e sz b tc e) := by
  simp [iv_ws, List.getElem?_mapIdx, h]
theorem iv_ws_get (w : iv_W) (k : Nat) : (iv_ws sz b tc w)[k]? = (w[k]?).map (fun e => (sz + k, iv_e sz b tc e)) := by
  simp [iv_ws, List.getElem?_mapIdx]
theorem iv_ws_set {w : iv_W} {k : Nat} {e : iv_E} : (iv_ws sz b tc w).set k (sz + k, iv_e sz b tc e) = iv_ws sz b tc (w.set k e) := by
  apply List.ext_getElem?
  intro i
  rw [List.getElem?_set, iv_ws_get, iv_ws_get, List.getElem?_set]
  by_cases h : k = i
  · subst h
    simp only [if_true]
    by_cases hl : k < w.length
    · simp [hl, iv_ws]
    · simp [hl, iv_ws]
  · simp [h]
theorem iv_ws_push {w : iv_W} {e : iv_E} : iv_ws sz b tc w ++ [(sz + w.length, iv_e sz b tc e)] = iv_ws sz b tc (w ++ [e]) := by
  simp [iv_ws, List.mapIdx_append]
theorem iv_D {w : iv_W} : va_D (iv_A sz) (iv_ws sz b tc w) := by
  have key : ∀ (k : Nat) (q : Nat × va_E), (iv_ws sz b tc w)[k]? = some q → q.1 = sz + k := by
    intro k q h
    rw [iv_ws_get] at h
    cases hw : w[k]? with
    | none => rw [hw] at h; cases h
    | some e => rw [hw] at h; cases h; rfl
  refine ⟨fun i j p q hi hj h => ?_, fun k q h => ?_⟩
  · have h1 := key i p hi
    have h2 := key j q hj
    omega
  · have h1 := key k q h
    show sz ≤ q.1
    omega
end
-- the stack
def iv_p1 (st : List Value) : Option (Int32 × List Value) := match st with
  | .int x :: r => some (x, r)
  | _ => none
def iv_p2 (st : List Value) : Option (Int32 × Int32 × List Value) := match st with
  | .int y :: .int x :: r => some (x, y, r)
  | _ => none
def iv_pl (st : List Value) : Option (Int64 × List Value) := match st with
  | .long x :: r => some (x, r)
  | _ => none
def iv_pl2 (st : List Value) : Option (Int64 × Int64 × List Value) := match st with
  | .long y :: .long x :: r => some (x, y, r)
  | _ => none
def iv_pli (st : List Value) : Option (Int64 × Int32 × List Value) := match st with
  | .int y :: .long x :: r => some (x, y, r)
  | _ => none
def iv_pr (st : List Value) : Option (Nat × List Value) := match st with
  | .ref a :: r => some (a, r)
  | _ => none
def iv_pv (st : List Value) : Option (Value × List Value) := match st with
  | v :: r => some (v, r)
  | _ => none
def iv_pvr (st : List Value) : Option (Value × Nat × List Value) := match st with
  | v :: .ref a :: r => some (v, a, r)
  | _ => none
def iv_pir (st : List Value) : Option (Int32 × Nat × List Value) := match st with
  | .int i :: .ref a :: r => some (i, a, r)
  | _ => none
def iv_piir (st : List Value) : Option (Int32 × Int32 × Nat × List Value) := match st with
  | .int x :: .int i :: .ref a :: r => some (x, i, a, r)
  | _ => none
def iv_plir (st : List Value) : Option (Int64 × Int32 × Nat × List Value) := match st with
  | .long x :: .int i :: .ref a :: r => some (x, i, a, r)
  | _ => none
def iv_prir (st : List Value) : Option (Nat × Int32 × Nat × List Value) := match st with
  | .ref x :: .int i :: .ref a :: r => some (x, i, a, r)
  | _ => none
theorem iv_p1_eq {st : List Value} {x : Int32} {r : List Value} (h : iv_p1 st = some (x, r)) : st = .int x :: r := by
  unfold iv_p1 at h; split at h <;> cases h; rfl
theorem iv_p2_eq {st : List Value} {x y : Int32} {r : List Value} (h : iv_p2 st = some (x, y, r)) : st = .int y :: .int x :: r := by
  unfold iv_p2 at h; split at h <;> cases h; rfl
theorem iv_pl_eq {st : List Value} {x : Int64} {r : List Value} (h : iv_pl st = some (x, r)) : st = .long x :: r := by
  unfold iv_pl at h; split at h <;> cases h; rfl
theorem iv_pl2_eq {st : List Value} {x y : Int64} {r : List Value} (h : iv_pl2 st = some (x, y, r)) : st = .long y :: .long x :: r := by
  unfold iv_pl2 at h; split at h <;> cases h; rfl
theorem iv_pli_eq {st : List Value} {x : Int64} {y : Int32} {r : List Value} (h : iv_pli st = some (x, y, r)) : st = .int y :: .long x :: r := by
  unfold iv_pli at h; split at h <;> cases h; rfl
theorem iv_pr_eq {st : List Value} {a : Nat} {r : List Value} (h : iv_pr st = some (a, r)) : st = .ref a :: r := by
  unfold iv_pr at h; split at h <;> cases h; rfl
theorem iv_pv_eq {st : List Value} {v : Value} {r : List Value} (h : iv_pv st = some (v, r)) : st = v :: r := by
  unfold iv_pv at h; split at h <;> cases h; rfl
theorem iv_pvr_eq {st : List Value} {v : Value} {a : Nat} {r : List Value} (h : iv_pvr st = some (v, a, r)) : st = v :: .ref a :: r := by
  unfold iv_pvr at h; split at h <;> cases h; rfl
theorem iv_pir_eq {st : List Value} {i : Int32} {a : Nat} {r : List Value} (h : iv_pir st = some (i, a, r)) : st = .int i :: .ref a :: r := by
  unfold iv_pir at h; split at h <;> cases h; rfl
theorem iv_piir_eq {st : List Value} {x i : Int32} {a : Nat} {r : List Value} (h : iv_piir st = some (x, i, a, r)) : st = .int x :: .int i :: .ref a :: r := by
  unfold iv_piir at h; split at h <;> cases h; rfl
theorem iv_plir_eq {st : List Value} {x : Int64} {i : Int32} {a : Nat} {r : List Value} (h : iv_plir st = some (x, i, a, r)) : st = .long x :: .int i :: .ref a :: r := by
  unfold iv_plir at h; split at h <;> cases h; rfl
theorem iv_prir_eq {st : List Value} {x : Nat} {i : Int32} {a : Nat} {r : List Value} (h : iv_prir st = some (x, i, a, r)) : st = .ref x :: .int i :: .ref a :: r := by
  unfold iv_prir at h; split at h <;> cases h; rfl
-- locals
def iv_ldi (lv : List (Nat × Value)) (i : Nat) : Option Int32 := match iv_ld lv i with
  | some (.int x) => some x
  | _ => none
def iv_ldl (lv : List (Nat × Value)) (i : Nat) : Option Int64 := match iv_ld lv i with
  | some (.long x) => some x
  | _ => none
def iv_lda (lv : List (Nat × Value)) (i : Nat) : Option Nat := match iv_ld lv i with
  | some (.ref x) => some x
  | _ => none
theorem iv_ldi_eq {lv : List (Nat × Value)} {i : Nat} {x : Int32} (h : iv_ldi lv i = some x) : iv_ld lv i = some (.int x) := by
  unfold iv_ldi at h; split at h <;> cases h; assumption
theorem iv_ldl_eq {lv : List (Nat × Value)} {i : Nat} {x : Int64} (h : iv_ldl lv i = some x) : iv_ld lv i = some (.long x) := by
  unfold iv_ldl at h; split at h <;> cases h; assumption
theorem iv_lda_eq {lv : List (Nat × Value)} {i : Nat} {x : Nat} (h : iv_lda lv i = some x) : iv_ld lv i = some (.ref x) := by
  unfold iv_lda at h; split at h <;> cases h; assumption
-- cells
def iv_obj (w : iv_W) (a ci : Nat) : Option (List Value) := match a with
  | 0 => none
  | k + 1 => match w[k]? with
    | some (.inr (c, fs)) => if c = ci then some fs else none
    | _ => none
theorem iv_obj_eq {w : iv_W} {a ci : Nat} {fs : List Value} (h : iv_obj w a ci = some fs) : ∃ k, a = k + 1 ∧ w[k]? = some (.inr (ci, fs)) := by
  unfold iv_obj at h
  split at h
  · cases h
  · split at h
    · split at h
      · next e hw hc => cases h; subst hc; exact ⟨_, rfl, hw⟩
      · cases h
    · cases h
/-- an array's kind: 0 int, 1 boolean, 2 long, 3 references to Folder -/
def iv_ai (w : iv_W) (a t : Nat) : Option (Nat × (Nat → Int32)) := match a with
  | 0 => none
  | k + 1 => match w[k]? with
    | some (.inl (t', n, .inl f)) => if t' = t then some (n, f) else none
    | _ => none
theorem iv_ai_eq {w : iv_W} {a t n : Nat} {f : Nat → Int32} (h : iv_ai w a t = some (n, f)) : ∃ k, a = k + 1 ∧ w[k]? = some (.inl (t, n, .inl f)) := by
  unfold iv_ai at h
  split at h
  · cases h
  · split at h
    · split at h
      · next e hw hc => cases h; subst hc; exact ⟨_, rfl, hw⟩
      · cases h
    · cases h
def iv_al (w : iv_W) (a : Nat) : Option (Nat × (Nat → Int64)) := match a with
  | 0 => none
  | k + 1 => match w[k]? with
    | some (.inl (t', n, .inr (.inl f))) => if t' = 2 then some (n, f) else none
    | _ => none
theorem iv_al_eq {w : iv_W} {a n : Nat} {f : Nat → Int64} (h : iv_al w a = some (n, f)) : ∃ k, a = k + 1 ∧ w[k]? = some (.inl (2, n, .inr (.inl f))) := by
  unfold iv_al at h
  split at h
  · cases h
  · split at h
    · split at h
      · next e hw hc => cases h; subst hc; exact ⟨_, rfl, hw⟩
      · cases h
    · cases h
def iv_aq (w : iv_W) (a : Nat) : Option (Nat × (Nat → Option Nat)) := match a with
  | 0 => none
  | k + 1 => match w[k]? with
    | some (.inl (t', n, .inr (.inr (.inr (.inr f))))) => if t' = 3 then some (n, f) else none
    | _ => none
theorem iv_aq_eq {w : iv_W} {a n : Nat} {f : Nat → Option Nat} (h : iv_aq w a = some (n, f)) : ∃ k, a = k + 1 ∧ w[k]? = some (.inl (3, n, .inr (.inr (.inr (.inr f))))) := by
  unfold iv_aq at h
  split at h
  · cases h
  · split at h
    · split at h
      · next e hw hc => cases h; subst hc; exact ⟨_, rfl, hw⟩
      · cases h
    · cases h
def iv_len (w : iv_W) (a : Nat) : Option (Nat × Nat) := match a with
  | 0 => none
  | k + 1 => match w[k]? with
    | some (.inl (t, x)) => if t < 4 then some (t, x.1) else none
    | _ => none
theorem iv_len_eq {w : iv_W} {a t n : Nat} (h : iv_len w a = some (t, n)) : ∃ k x, a = k + 1 ∧ w[k]? = some (.inl (t, x)) ∧ x.1 = n ∧ t < 4 := by
  unfold iv_len at h
  split at h
  · cases h
  · split at h
    · split at h
      · next e hw hc => cases h; exact ⟨_, _, rfl, hw, rfl, hc⟩
      · cases h
    · cases h
def iv_in (i : Int32) (n : Nat) : Bool := !(decide (i < 0)) && decide (i.toNatClampNeg < n)
theorem iv_in_ok {i : Int32} {n : Nat} (h : iv_in i n = true) : vp_in i n := by
  unfold iv_in at h
  simp only [Bool.and_eq_true, Bool.not_eq_true', decide_eq_false_iff_not, decide_eq_true_eq] at h
  rintro (h1 | h1)
  · exact h.1 h1
  · omega
/-- what a field takes -/
def iv_fit (ty : FieldType) (v : Value) : Bool := match ty, v with
  | .int, .int _ => true
  | .boolean, .int x => x == 0 || x == 1
  | .object _, .ref _ => true
  | .array _, .ref _ => true
  | _, _ => false
theorem iv_fit_ok {sz b : Nat} {ty : FieldType} {v : Value} (h : iv_fit ty v = true) : narrow ty (iv_v sz b v) = iv_v sz b v ∧ fits ty (iv_v sz b v) = true := by
  unfold iv_fit at h
  split at h
  · exact ⟨rfl, rfl⟩
  · next x =>
    simp only [Bool.or_eq_true, beq_iff_eq] at h
    rcases h with rfl | rfl
    · exact ⟨show narrow .boolean (.int 0) = .int 0 by decide, show fits .boolean (.int 0) = true by decide⟩
    · exact ⟨show narrow .boolean (.int 1) = .int 1 by decide, show fits .boolean (.int 1) = true by decide⟩
  · exact ⟨rfl, rfl⟩
  · exact ⟨rfl, rfl⟩
  · cases h
def iv_c0 (c : ClassFile.Cond) (x : Int32) : Bool := match c with
  | .eq => decide (x = 0)
  | .ne => decide (¬ x = 0)
  | .lt => decide (x < 0)
  | .ge => decide (0 ≤ x)
  | .gt => decide (0 < x)
  | .le => decide (x ≤ 0)
def iv_c2 (c : ClassFile.Cond) (x y : Int32) : Bool := match c with
  | .eq => decide (x = y)
  | .ne => decide (¬ x = y)
  | .lt => decide (x < y)
  | .ge => decide (y ≤ x)
  | .gt => decide (y < x)
  | .le => decide (x ≤ y)
