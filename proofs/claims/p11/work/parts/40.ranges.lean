/-! ranges: what is known of a state -/
abbrev ia_T : Type := List (Nat × Int)
/-- an int between two bounds; es: it is that location's int plus a number; us: it is at most that -/
abbrev ia_I : Type := Int × Int × ia_T × ia_T
/-- an int, one of these cells, a long -/
abbrev ia_V : Type := ia_I ⊕ (List Nat ⊕ Unit)
/-- locations: below 100 locals, 100 to 199 the arguments as they came, 200 to 299 marks of the last cut, 1000 + q the int q of the world, 10000 * (a + 1) + j the element j of the array a -/
abbrev ia_S : Type := Nat × List (Nat × ia_V) × List ia_V × Nat × List Nat
/-- a field: an int, a cell -/
abbrev ia_D : Type := Nat ⊕ Nat
/-- a cell: an object, an array, an array of cells, the array of longs -/
abbrev ia_C : Type := (Nat × List ia_D) ⊕ ((Nat × Nat) ⊕ ((Nat × List (Nat × Nat)) ⊕ Nat))
theorem ia_Vc {p : ia_V → Prop} (i : ∀ q, p (Sum.inl q)) (r : ∀ cs, p (Sum.inr (Sum.inl cs))) (l : p (Sum.inr (Sum.inr ()))) (a : ia_V) : p a := match a with
  | Sum.inl q => i q
  | Sum.inr (Sum.inl cs) => r cs
  | Sum.inr (Sum.inr ()) => l
theorem ia_Dc {p : ia_D → Prop} (f : ∀ q, p (Sum.inl q)) (r : ∀ a, p (Sum.inr a)) (d : ia_D) : p d := match d with
  | Sum.inl q => f q
  | Sum.inr a => r a
theorem ia_Cc {p : ia_C → Prop} (o : ∀ ci fs, p (Sum.inl (ci, fs))) (a : ∀ t n, p (Sum.inr (Sum.inl (t, n)))) (q : ∀ n rs, p (Sum.inr (Sum.inr (Sum.inl (n, rs))))) (l : ∀ n, p (Sum.inr (Sum.inr (Sum.inr n)))) (c : ia_C) : p c := match c with
  | Sum.inl (ci, fs) => o ci fs
  | Sum.inr (Sum.inl (t, n)) => a t n
  | Sum.inr (Sum.inr (Sum.inl (n, rs))) => q n rs
  | Sum.inr (Sum.inr (Sum.inr n)) => l n
def ia_sh : List ia_C := [.inl (0, [.inr 2, .inr 6, .inr 10, .inr 20, .inr 23, .inr 25, .inr 29]),
  .inl (3, [.inr 3, .inr 4, .inr 5, .inl 203, .inl 204, .inl 205, .inl 206]),
  .inr (.inl (0, 2048)),
  .inr (.inl (0, 64)),
  .inr (.inl (1, 32)),
  .inl (1, [.inr 7, .inr 8, .inr 9, .inl 603, .inl 604]),
  .inr (.inl (0, 40)),
  .inr (.inl (0, 4)),
  .inr (.inl (0, 4)),
  .inl (7, [.inr 2, .inr 6, .inr 11, .inl 1003]),
  .inr (.inr (.inl (4, [(0, 12), (1, 14), (2, 16), (3, 18)]))),
  .inl (5, [.inr 13, .inl 1201, .inl 1202]),
  .inr (.inl (0, 64)),
  .inl (5, [.inr 15, .inl 1401, .inl 1402]),
  .inr (.inl (0, 64)),
  .inl (5, [.inr 17, .inl 1601, .inl 1602]),
  .inr (.inl (0, 64)),
  .inl (5, [.inr 19, .inl 1801, .inl 1802]),
  .inr (.inl (0, 64)),
  .inl (4, [.inr 2, .inr 21, .inr 22, .inl 2003, .inl 2004]),
  .inr (.inl (0, 256)),
  .inr (.inl (0, 4)),
  .inl (8, [.inr 24]),
  .inr (.inl (0, 3)),
  .inl (2, [.inr 2, .inr 10, .inr 26, .inr 27, .inr 28]),
  .inr (.inl (0, 32)),
  .inr (.inl (1, 32)),
  .inr (.inl (0, 64)),
  .inl (6, [.inr 2, .inr 30, .inr 31, .inr 32, .inr 33]),
  .inr (.inl (1, 32)),
  .inr (.inl (0, 2112)),
  .inr (.inl (0, 3)),
  .inr (.inr (.inl (5, [(0, 34), (1, 36), (2, 38), (3, 40), (4, 42)]))),
  .inl (5, [.inr 35, .inl 3401, .inl 3402]),
  .inr (.inl (0, 64)),
  .inl (5, [.inr 37, .inl 3601, .inl 3602]),
  .inr (.inl (0, 64)),
  .inl (5, [.inr 39, .inl 3801, .inl 3802]),
  .inr (.inl (0, 64)),
  .inl (5, [.inr 41, .inl 4001, .inl 4002]),
  .inr (.inl (0, 64)),
  .inl (5, [.inr 43, .inl 4201, .inl 4202]),
  .inr (.inl (0, 64)),
  .inl (9, [.inl 4400, .inl 4401, .inr 45, .inr 46, .inr 47, .inl 4405, .inl 4406, .inr 48, .inl 4408, .inl 4409, .inl 4410, .inr 49, .inr 50, .inl 4413, .inr 51, .inr 52, .inr 53, .inr 54, .inr 55, .inr 56, .inl 4420, .inr 57, .inr 58, .inr 59, .inr 60, .inr 61, .inr 62, .inr 63, .inr 64]),
  .inr (.inl (0, 40)),
  .inr (.inl (0, 64)),
  .inr (.inl (0, 2048)),
  .inr (.inl (1, 32)),
  .inr (.inl (0, 4)),
  .inr (.inl (0, 4)),
  .inr (.inl (0, 4)),
  .inr (.inl (0, 4)),
  .inr (.inl (0, 32)),
  .inr (.inl (1, 32)),
  .inr (.inl (0, 256)),
  .inr (.inl (0, 256)),
  .inr (.inl (0, 4)),
  .inr (.inl (0, 64)),
  .inr (.inl (0, 3)),
  .inr (.inl (0, 2112)),
  .inr (.inl (1, 32)),
  .inr (.inl (0, 5)),
  .inr (.inl (0, 5)),
  .inr (.inl (0, 5)),
  .inr (.inr (.inr 1))]
def ia_qf (rs : List (Nat × Nat)) : Nat → Option Nat := rs.foldl (fun f p => va_up f p.1 (some p.2)) (fun _ => none)
def ia_fd (F : Nat → Int32) (d : ia_D) : Value := match d with
  | .inl q => .int (F q)
  | .inr a => .ref a
def ia_mk (A : Nat → Nat → Int32) (F : Nat → Int32) (B : Nat → Int64) (k : Nat) (c : ia_C) : iv_E := match c with
  | .inl (ci, fs) => .inr (ci, fs.map (ia_fd F))
  | .inr (.inl (t, n)) => .inl (t, n, .inl (A (k + 1)))
  | .inr (.inr (.inl (n, rs))) => .inl (3, n, .inr (.inr (.inr (.inr (ia_qf rs)))))
  | .inr (.inr (.inr n)) => .inl (2, n, .inr (.inl B))
def ia_mp (A : Nat → Nat → Int32) (F : Nat → Int32) (B : Nat → Int64) : Nat → List ia_C → iv_W
  | _, [] => []
  | k, c :: r => ia_mk A F B k c :: ia_mp A F B (k + 1) r
def ia_wd (A : Nat → Nat → Int32) (F : Nat → Int32) (B : Nat → Int64) : iv_W := ia_mp A F B 0 ia_sh
set_option maxRecDepth 10000 in
theorem ia_wd_eq (A : Nat → Nat → Int32) (F : Nat → Int32) (B : Nat → Int64) : iv_wd A F B = ia_wd A F B := rfl
def ia_rfl : List (Nat × Int × Int) := [(203, 0, 1), (204, 0, 31), (205, 0, 40), (206, 0, 1), (603, 0, 40), (604, 0, 4), (1003, (-1), 3), (1201, 0, 31), (1202, (-1), 7), (1401, 0, 31), (1402, (-1), 7), (1601, 0, 31), (1602, (-1), 7), (1801, 0, 31), (1802, (-1), 7), (2003, 0, 4), (2004, 0, 255), (3401, 0, 31), (3402, (-1), 7), (3601, 0, 31), (3602, (-1), 7), (3801, 0, 31), (3802, (-1), 7), (4001, 0, 31), (4002, (-1), 7), (4201, 0, 31), (4202, (-1), 7), (4401, 0, 40), (4405, 0, 1), (4406, 0, 31), (4408, 0, 40), (4409, 0, 1), (4410, 0, 4), (4413, 0, 3), (4420, 0, 4)]
def ia_ral : List (Nat × Int × Int) := [(3, 0, 255), (4, 0, 255), (5, 0, 1), (7, 0, 255), (8, 0, 40), (9, 0, 10), (13, 0, 255), (15, 0, 255), (17, 0, 255), (19, 0, 255), (21, 0, 255), (22, 0, 31), (24, 0, 255), (26, 0, 255), (27, 0, 1), (28, 0, 255), (30, 0, 1), (31, 0, 255), (32, 0, 31), (35, 0, 255), (37, 0, 255), (39, 0, 255), (41, 0, 255), (43, 0, 255), (45, 0, 255), (46, 0, 255), (47, 0, 255), (48, 0, 1), (49, 0, 40), (50, 0, 10), (51, 0, 31), (52, 0, 31), (53, 0, 255), (54, 0, 1), (55, 0, 255), (56, 0, 255), (57, 0, 31), (58, 0, 255), (59, 0, 255), (60, 0, 255), (61, 0, 1), (62, 0, 31), (63, 0, 9), (64, 0, 8)]
def ia_gr (n : Nat) : List (Nat × Int × Int) → Int × Int
  | [] => (-2147483648, 2147483647)
  | (m, q) :: r => bif Nat.beq m n then q else ia_gr n r
/-- the range of the array a from the element j on -/
def ia_ra (a j : Nat) : Int × Int := bif Nat.beq a 52 && Nat.ble 1 j then (0, 7) else ia_gr a ia_ral
/-- what a location always keeps to -/
def ia_df (n : Nat) : Int × Int := bif Nat.blt n 1000 then (-2147483648, 2147483647) else bif Nat.blt n 10000 then ia_gr (n - 1000) ia_rfl else ia_ra (n / 10000 - 1) (n % 10000)
def ia_w (A : Nat → Nat → Int32) (F : Nat → Int32) (n : Nat) : Int32 := if n < 10000 then F (n - 1000) else A (n / 10000 - 1) (n % 10000)
def ia_ev (lv : List (Nat × Value)) (A : Nat → Nat → Int32) (F g : Nat → Int32) (n : Nat) : Int32 := if n < 100 then (match iv_ld lv n with
  | some (.int x) => x
  | _ => 0) else if n < 1000 then g n else ia_w A F n
def ia_ii (E : Nat → Int32) (q : ia_I) (x : Int32) : Prop := q.1 ≤ x.toInt ∧ x.toInt ≤ q.2.1 ∧ (∀ t ∈ q.2.2.1, x.toInt = (E t.1).toInt + t.2) ∧ (∀ t ∈ q.2.2.2, x.toInt ≤ (E t.1).toInt + t.2)
def ia_in (E : Nat → Int32) (a : ia_V) (v : Value) : Prop := match a, v with
  | .inl q, .int x => ia_ii E q x
  | .inr (.inl cs), .ref k => k ∈ cs
  | (.inr (.inr ())), .long _ => True
  | _, _ => False
def ia_vl (lv : List (Nat × Value)) (E : Nat → Int32) (n : Nat) : Option Value := if n < 100 then iv_ld lv n else some (.int (E n))
def ia_sk (E : Nat → Int32) : List ia_V → List Value → Prop
  | [], [] => True
  | a :: r, v :: s => ia_in E a v ∧ ia_sk E r s
  | _, _ => False
/-- the pairs: a start and its length; br: where this is broken for a moment -/
def ia_inv (A : Nat → Nat → Int32) (F : Nat → Int32) (br : List Nat) : Prop := (∀ n, 1000 ≤ n → (ia_df n).1 ≤ (ia_w A F n).toInt ∧ (ia_w A F n).toInt ≤ (ia_df n).2) ∧ (∀ n, (n / 10000 = 9 ∨ n / 10000 = 50) → n % 10000 < 4 → n ∉ br → (ia_w A F n).toInt + (ia_w A F (n + 10000)).toInt ≤ 40)
def ia_ok (S : ia_S) (lv : List (Nat × Value)) (st : List Value) (A : Nat → Nat → Int32) (F g : Nat → Int32) : Prop := (∀ q ∈ S.2.1, ∃ v, ia_vl lv (ia_ev lv A F g) q.1 = some v ∧ ia_in (ia_ev lv A F g) q.2 v) ∧ ia_sk (ia_ev lv A F g) S.2.2.1 st ∧ ia_inv A F S.2.2.2.2
/-! what the interpreter does -/
def ia_find (n : Nat) : List (Nat × ia_V) → Option ia_V
  | [] => none
  | (m, v) :: r => bif Nat.beq m n then some v else ia_find n r
def ia_rm (n : Nat) (vs : List (Nat × ia_V)) : List (Nat × ia_V) := vs.filter (fun q => !(Nat.beq q.1 n))
/-- what is known of a location -/
def ia_q (vs : List (Nat × ia_V)) (n : Nat) : ia_I := match ia_find n vs with
  | some (.inl q) => q
  | _ => ⟨(ia_df n).1, (ia_df n).2, [], []⟩
def ia_rt (f : Nat → Option Int) (ts : ia_T) : ia_T := ts.filterMap (fun t => (f t.1).map (fun d => (t.1, t.2 - d)))
def ia_rv (f : Nat → Option Int) (a : ia_V) : ia_V := match a with
  | .inl q => .inl ⟨q.1, q.2.1, ia_rt f q.2.2.1, ia_rt f q.2.2.2⟩
  | v => v
def ia_rs (f : Nat → Option Int) (vs : List (Nat × ia_V)) : List (Nat × ia_V) := vs.map (fun q => (q.1, ia_rv f q.2))
def ia_meet (vs : List (Nat × ia_V)) (n : Nat) (lo hi : Int) : List (Nat × ia_V) := match ia_find n vs with
  | some (.inl q) => (n, .inl ⟨max q.1 lo, min q.2.1 hi, q.2.2.1, q.2.2.2⟩) :: ia_rm n vs
  | some _ => vs
  | none => bif Nat.blt n 100 then vs else (n, .inl ⟨max (ia_df n).1 lo, min (ia_df n).2 hi, [], []⟩) :: vs
/-- an int tied to these locations lies between lo and hi; none: that can't be -/
def ia_ref (lo hi : Int) : ia_T → List (Nat × ia_V) → Option (List (Nat × ia_V))
  | [], vs => bif decide (lo ≤ hi) then some vs else none
  | t :: r, vs => bif decide (max (ia_q vs t.1).1 (lo - t.2) ≤ min (ia_q vs t.1).2.1 (hi - t.2)) then ia_ref lo hi r (ia_meet vs t.1 (lo - t.2) (hi - t.2)) else none
def ia_sh1 (ts : ia_T) (d : Int) : ia_T := ts.map (fun t => (t.1, t.2 + d))
/-- locations whose bounds are kept -/
def ia_nt (n : Nat) : Bool := Nat.blt n 100 || Nat.beq n 1603 || Nat.beq n 5401 || Nat.beq (n / 10000) 9 || Nat.beq (n / 10000) 10 || Nat.beq (n / 10000) 50 || Nat.beq (n / 10000) 51
def ia_au1 (us : ia_T) (m : Nat) (c : Int) (q : ia_I) : ia_I :=
  let new := us.filterMap (fun t => bif ia_nt t.1 && !(Nat.beq t.1 m) && !(q.2.2.2.any (fun o => Nat.beq o.1 t.1 && decide (o.2 ≤ t.2 - c))) then some (t.1, t.2 - c) else none)
  ⟨q.1, q.2.1, q.2.2.1, new ++ q.2.2.2.filter (fun o => !(new.any (fun t => Nat.beq t.1 o.1)))⟩
/-- an int tied to these locations is at most each of us -/
def ia_au (us : ia_T) : ia_T → List (Nat × ia_V) → List (Nat × ia_V)
  | [], vs => vs
  | t :: r, vs => match Nat.blt t.1 100, ia_find t.1 vs with
    | true, some (.inl q) => ia_au us r ((t.1, .inl (ia_au1 us t.1 t.2 q)) :: ia_rm t.1 vs)
    | _, _ => ia_au us r vs
/-- the int is at most that location's plus d -/
def ia_ub (vs : List (Nat × ia_V)) (y : ia_I) (n : Nat) (d : Int) : Bool := y.2.2.2.any (fun t => Nat.beq t.1 n && decide (t.2 ≤ d)) || y.2.2.1.any (fun t => Nat.beq t.1 n && decide (t.2 ≤ d)) || decide (y.2.1 ≤ (ia_q vs n).1 + d)
def ia_two (vs : List (Nat × ia_V)) (x y : ia_I) (a b c d : Int) (us1 us2 : ia_T) : Option (List (Nat × ia_V) × ia_I × ia_I) := match ia_ref a b x.2.2.1 vs with
  | none => none
  | some v1 => match ia_ref c d y.2.2.1 v1 with
    | none => none
    | some v2 => some (ia_au us2 y.2.2.1 (ia_au us1 x.2.2.1 v2), ⟨a, b, x.2.2.1, x.2.2.2⟩, ⟨c, d, y.2.2.1, y.2.2.2⟩)
def ia_lt (vs : List (Nat × ia_V)) (x y : ia_I) : Option (List (Nat × ia_V) × ia_I × ia_I) := bif x.2.2.1.any (fun t => ia_ub vs y t.1 t.2) then none else
  ia_two vs x y x.1 (min x.2.1 (y.2.1 - 1)) (max y.1 (x.1 + 1)) y.2.1 (ia_sh1 (y.2.2.1 ++ y.2.2.2) (-1)) []
def ia_le (vs : List (Nat × ia_V)) (x y : ia_I) : Option (List (Nat × ia_V) × ia_I × ia_I) := ia_two vs x y x.1 (min x.2.1 y.2.1) (max y.1 x.1) y.2.1 (y.2.2.1 ++ y.2.2.2) []
def ia_eq (vs : List (Nat × ia_V)) (x y : ia_I) : Option (List (Nat × ia_V) × ia_I × ia_I) := ia_two vs x y (max x.1 y.1) (min x.2.1 y.2.1) (max x.1 y.1) (min x.2.1 y.2.1) (y.2.2.1 ++ y.2.2.2) (x.2.2.1 ++ x.2.2.2)
/-- the bounds of an int that isn't d -/
def ia_nb (lo hi d : Int) : Int × Int := (bif decide (lo = d) then lo + 1 else lo, bif decide (hi = d) then hi - 1 else hi)
def ia_ne (vs : List (Nat × ia_V)) (x y : ia_I) : Option (List (Nat × ia_V) × ia_I × ia_I) :=
  let u1 := (y.2.2.1.filter (fun t => ia_nt t.1 && ia_ub vs x t.1 t.2)).map (fun t => (t.1, t.2 - 1))
  let u2 := (x.2.2.1.filter (fun t => ia_nt t.1 && ia_ub vs y t.1 t.2)).map (fun t => (t.1, t.2 - 1))
  bif decide (y.1 = y.2.1) then ia_two vs x y (ia_nb x.1 x.2.1 y.1).1 (ia_nb x.1 x.2.1 y.1).2 y.1 y.2.1 u1 u2
  else bif decide (x.1 = x.2.1) then ia_two vs x y x.1 x.2.1 (ia_nb y.1 y.2.1 x.1).1 (ia_nb y.1 y.2.1 x.1).2 u1 u2
  else ia_two vs x y x.1 x.2.1 y.1 y.2.1 u1 u2
def ia_sw (o : Option (List (Nat × ia_V) × ia_I × ia_I)) : Option (List (Nat × ia_V) × ia_I × ia_I) := o.map (fun q => (q.1, q.2.2, q.2.1))
def ia_as (c : ClassFile.Cond) (vs : List (Nat × ia_V)) (x y : ia_I) : Option (List (Nat × ia_V) × ia_I × ia_I) := match c with
  | .eq => ia_eq vs x y
  | .ne => ia_ne vs x y
  | .lt => ia_lt vs x y
  | .ge => ia_sw (ia_le vs y x)
  | .gt => ia_sw (ia_lt vs y x)
  | .le => ia_le vs x y
def ia_ng (c : ClassFile.Cond) : ClassFile.Cond := match c with
  | .eq => .ne
  | .ne => .eq
  | .lt => .ge
  | .ge => .lt
  | .gt => .le
  | .le => .gt
def ia_k (n : Int) : ia_I := ⟨n, n, [], []⟩
def ia_top : ia_I := ⟨-2147483648, 2147483647, [], []⟩
def ia_fit (lo hi : Int) : Bool := decide (-2147483648 ≤ lo) && decide (hi ≤ 2147483647)
/-- a start and what is below its length -/
def ia_rb (x y : ia_I) (hi : Int) : Int := (x.2.2.1 ++ x.2.2.2).foldl (fun h t => bif (Nat.beq (t.1 / 10000) 9 || Nat.beq (t.1 / 10000) 50) && Nat.blt (t.1 % 10000) 4 then (y.2.2.1 ++ y.2.2.2).foldl (fun h s => bif Nat.beq s.1 (t.1 + 10000) then min h (40 + t.2 + s.2) else h) h else h) hi
def ia_add (br : List Nat) (x y : ia_I) : ia_I := bif ia_fit (x.1 + y.1) (x.2.1 + y.2.1) then
    (let h := bif br.isEmpty then ia_rb x y (x.2.1 + y.2.1) else x.2.1 + y.2.1
    bif decide (y.1 = y.2.1) then ⟨x.1 + y.1, h, ia_sh1 x.2.2.1 y.1, ia_sh1 x.2.2.2 y.1⟩
    else bif decide (x.1 = x.2.1) then ⟨x.1 + y.1, h, ia_sh1 y.2.2.1 x.1, ia_sh1 y.2.2.2 x.1⟩
    else ⟨x.1 + y.1, h, [], []⟩)
  else ia_top
def ia_sub (x y : ia_I) : ia_I := bif ia_fit (x.1 - y.2.1) (x.2.1 - y.1) then
    (bif decide (y.1 = y.2.1) then ⟨x.1 - y.2.1, x.2.1 - y.1, ia_sh1 x.2.2.1 (-y.1), ia_sh1 x.2.2.2 (-y.1)⟩
    else ⟨x.1 - y.2.1, x.2.1 - y.1, [], []⟩)
  else ia_top
def ia_mul (x y : ia_I) : ia_I := bif decide (x.1 = x.2.1) && decide (0 ≤ x.1) then (bif ia_fit (x.1 * y.1) (x.1 * y.2.1) then ⟨x.1 * y.1, x.1 * y.2.1, [], []⟩ else ia_top)
  else bif decide (y.1 = y.2.1) && decide (0 ≤ y.1) then (bif ia_fit (y.1 * x.1) (y.1 * x.2.1) then ⟨y.1 * x.1, y.1 * x.2.1, [], []⟩ else ia_top)
  else ia_top
def ia_and (y : ia_I) : ia_I := bif decide (y.1 = y.2.1) && decide (0 ≤ y.1) then ⟨0, y.1, [], []⟩ else ia_top
def ia_div (x y : ia_I) : Option ia_I := bif decide (y.1 = y.2.1) && decide (0 < y.1) then (bif decide (0 ≤ x.1) then some ⟨x.1 / y.1, x.2.1 / y.1, [], []⟩ else some ia_top) else none
def ia_rem (x y : ia_I) : Option ia_I := bif decide (y.1 = y.2.1) && decide (0 < y.1) then (bif decide (0 ≤ x.1) then some ⟨0, y.1 - 1, [], []⟩ else some ia_top) else none
/-- the same int, with what is now known of the locations it is tied to -/
def ia_rd (vs : List (Nat × ia_V)) : ia_T → Int × Int → Int × Int
  | [], p => p
  | t :: r, p => ia_rd vs r (max p.1 ((ia_q vs t.1).1 + t.2), min p.2 ((ia_q vs t.1).2.1 + t.2))
def ia_ru (vs : List (Nat × ia_V)) : ia_T → Int → Int
  | [], h => h
  | t :: r, h => ia_ru vs r (min h ((ia_q vs t.1).2.1 + t.2))
