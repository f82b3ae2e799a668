/-! ranges: what is known of a state -/
abbrev ia_T : Type := List (Nat × Int)
/-- an int between two bounds; es: it is that location's int plus a number; us: it is at most that -/
structure ia_I where
  lo : Int
  hi : Int
  es : ia_T
  us : ia_T
inductive ia_V where
  | i (q : ia_I)
  | r (cs : List Nat)
  | l
/-- locations: below 100 locals, 100 to 199 the arguments as they came, 200 to 299 marks of the last cut, 1000 + q the int q of the world, 10000 * (a + 1) + j the element j of the array a -/
structure ia_S where
  pc : Nat
  vs : List (Nat × ia_V)
  st : List ia_V
  c : Nat
  br : List Nat
inductive ia_D where
  | f (q : Nat)
  | r (a : Nat)
inductive ia_C where
  | o (ci : Nat) (fs : List ia_D)
  | a (t n : Nat)
  | q (n : Nat) (rs : List (Nat × Nat))
  | l (n : Nat)
def ia_sh : List ia_C := [.o 0 [.r 2, .r 6, .r 10, .r 20, .r 23, .r 25, .r 29],
  .o 3 [.r 3, .r 4, .r 5, .f 203, .f 204, .f 205, .f 206],
  .a 0 2048,
  .a 0 64,
  .a 1 32,
  .o 1 [.r 7, .r 8, .r 9, .f 603, .f 604],
  .a 0 40,
  .a 0 4,
  .a 0 4,
  .o 7 [.r 2, .r 6, .r 11, .f 1003],
  .q 4 [(0, 12), (1, 14), (2, 16), (3, 18)],
  .o 5 [.r 13, .f 1201, .f 1202],
  .a 0 64,
  .o 5 [.r 15, .f 1401, .f 1402],
  .a 0 64,
  .o 5 [.r 17, .f 1601, .f 1602],
  .a 0 64,
  .o 5 [.r 19, .f 1801, .f 1802],
  .a 0 64,
  .o 4 [.r 2, .r 21, .r 22, .f 2003, .f 2004],
  .a 0 256,
  .a 0 4,
  .o 8 [.r 24],
  .a 0 3,
  .o 2 [.r 2, .r 10, .r 26, .r 27, .r 28],
  .a 0 32,
  .a 1 32,
  .a 0 64,
  .o 6 [.r 2, .r 30, .r 31, .r 32, .r 33],
  .a 1 32,
  .a 0 2112,
  .a 0 3,
  .q 5 [(0, 34), (1, 36), (2, 38), (3, 40), (4, 42)],
  .o 5 [.r 35, .f 3401, .f 3402],
  .a 0 64,
  .o 5 [.r 37, .f 3601, .f 3602],
  .a 0 64,
  .o 5 [.r 39, .f 3801, .f 3802],
  .a 0 64,
  .o 5 [.r 41, .f 4001, .f 4002],
  .a 0 64,
  .o 5 [.r 43, .f 4201, .f 4202],
  .a 0 64,
  .o 9 [.f 4400, .f 4401, .r 45, .r 46, .r 47, .f 4405, .f 4406, .r 48, .f 4408, .f 4409, .f 4410, .r 49, .r 50, .f 4413, .r 51, .r 52, .r 53, .r 54, .r 55, .r 56, .f 4420, .r 57, .r 58, .r 59, .r 60, .r 61, .r 62, .r 63, .r 64],
  .a 0 40,
  .a 0 64,
  .a 0 2048,
  .a 1 32,
  .a 0 4,
  .a 0 4,
  .a 0 4,
  .a 0 4,
  .a 0 32,
  .a 1 32,
  .a 0 256,
  .a 0 256,
  .a 0 4,
  .a 0 64,
  .a 0 3,
  .a 0 2112,
  .a 1 32,
  .a 0 5,
  .a 0 5,
  .a 0 5,
  .l 1]
def ia_qf (rs : List (Nat × Nat)) : Nat → Option Nat := rs.foldl (fun f p => va_up f p.1 (some p.2)) (fun _ => none)
def ia_fd (F : Nat → Int32) (d : ia_D) : Value := match d with
  | .f q => .int (F q)
  | .r a => .ref a
def ia_mk (A : Nat → Nat → Int32) (F : Nat → Int32) (B : Nat → Int64) (k : Nat) (c : ia_C) : iv_E := match c with
  | .o ci fs => .inr (ci, fs.map (ia_fd F))
  | .a t n => .inl (t, n, .inl (A (k + 1)))
  | .q n rs => .inl (3, n, .inr (.inr (.inr (.inr (ia_qf rs)))))
  | .l n => .inl (2, n, .inr (.inl B))
def ia_mp (A : Nat → Nat → Int32) (F : Nat → Int32) (B : Nat → Int64) : Nat → List ia_C → iv_W
  | _, [] => []
  | k, c :: r => ia_mk A F B k c :: ia_mp A F B (k + 1) r
def ia_wd (A : Nat → Nat → Int32) (F : Nat → Int32) (B : Nat → Int64) : iv_W := ia_mp A F B 0 ia_sh
set_option maxRecDepth 10000 in
theorem ia_wd_eq (A : Nat → Nat → Int32) (F : Nat → Int32) (B : Nat → Int64) : iv_wd A F B = ia_wd A F B := rfl
def ia_rfl : List (Nat × Int × Int) := [(203, 0, 1), (204, 0, 31), (205, 0, 40), (206, 0, 1), (603, 0, 40), (604, 0, 4), (1003, (-1), 3), (1201, 0, 31), (1202, (-1), 7), (1401, 0, 31), (1402, (-1), 7), (1601, 0, 31), (1602, (-1), 7), (1801, 0, 31), (1802, (-1), 7), (2003, 0, 4), (2004, 0, 255), (3401, 0, 31), (3402, (-1), 7), (3601, 0, 31), (3602, (-1), 7), (3801, 0, 31), (3802, (-1), 7), (4001, 0, 31), (4002, (-1), 7), (4201, 0, 31), (4202, (-1), 7), (4401, 0, 40), (4405, 0, 1), (4406, 0, 31), (4408, 0, 40), (4409, 0, 1), (4410, 0, 4), (4413, 0, 3), (4420, 0, 4)]
def ia_ral : List (Nat × Int × Int) := [(3, 0, 255), (4, 0, 255), (5, 0, 1), (7, 0, 255), (8, 0, 40), (9, 0, 10), (13, 0, 255), (15, 0, 255), (17, 0, 255), (19, 0, 255), (21, 0, 255), (22, 0, 31), (24, 0, 255), (26, 0, 255), (27, 0, 1), (28, 0, 255), (30, 0, 1), (31, 0, 255), (32, 0, 31), (35, 0, 255), (37, 0, 255), (39, 0, 255), (41, 0, 255), (43, 0, 255), (45, 0, 255), (46, 0, 255), (47, 0, 255), (48, 0, 1), (49, 0, 40), (50, 0, 10), (51, 0, 31), (52, 0, 31), (53, 0, 255), (54, 0, 1), (55, 0, 255), (56, 0, 255), (57, 0, 31), (58, 0, 255), (59, 0, 255), (60, 0, 255), (61, 0, 1), (62, 0, 31), (63, 0, 9), (64, 0, 8)]
def ia_gr (n : Nat) : List (Nat × Int × Int) → Int × Int
  | [] => (-2147483648, 2147483647)
  | (m, q) :: r => bif Nat.beq m n then q else ia_gr n r
/-- the range of the array a from the element j on -/
def ia_ra (a j : Nat) : Int × Int := bif Nat.beq a 52 && Nat.ble 1 j then (0, 7) else ia_gr a ia_ral
/-- what a location always keeps to -/
def ia_df (n : Nat) : Int × Int := bif Nat.blt n 1000 then (-2147483648, 2147483647) else bif Nat.blt n 10000 then ia_gr (n - 1000) ia_rfl else ia_ra (n / 10000 - 1) (n % 10000)
def ia_w (A : Nat → Nat → Int32) (F : Nat → Int32) (n : Nat) : Int32 := if n < 10000 then F (n - 1000) else A (n / 10000 - 1) (n % 10000)
def ia_ev (lv : List (Nat × Value)) (A : Nat → Nat → Int32) (F g : Nat → Int32) (n : Nat) : Int32 := if n < 100 then (match iv_ld lv n with
  | some (.int x) => x
  | _ => 0) else if n < 1000 then g n else ia_w A F n
def ia_ii (E : Nat → Int32) (q : ia_I) (x : Int32) : Prop := q.lo ≤ x.toInt ∧ x.toInt ≤ q.hi ∧ (∀ t ∈ q.es, x.toInt = (E t.1).toInt + t.2) ∧ (∀ t ∈ q.us, x.toInt ≤ (E t.1).toInt + t.2)
def ia_in (E : Nat → Int32) (a : ia_V) (v : Value) : Prop := match a, v with
  | .i q, .int x => ia_ii E q x
  | .r cs, .ref k => k ∈ cs
  | .l, .long _ => True
  | _, _ => False
def ia_vl (lv : List (Nat × Value)) (E : Nat → Int32) (n : Nat) : Option Value := if n < 100 then iv_ld lv n else some (.int (E n))
def ia_sk (E : Nat → Int32) : List ia_V → List Value → Prop
  | [], [] => True
  | a :: r, v :: s => ia_in E a v ∧ ia_sk E r s
  | _, _ => False
/-- the pairs: a start and its length; br: where this is broken for a moment -/
def ia_inv (A : Nat → Nat → Int32) (F : Nat → Int32) (br : List Nat) : Prop := (∀ n, 1000 ≤ n → (ia_df n).1 ≤ (ia_w A F n).toInt ∧ (ia_w A F n).toInt ≤ (ia_df n).2) ∧ (∀ n, (n / 10000 = 9 ∨ n / 10000 = 50) → n % 10000 < 4 → n ∉ br → (ia_w A F n).toInt + (ia_w A F (n + 10000)).toInt ≤ 40)
structure ia_ok (S : ia_S) (lv : List (Nat × Value)) (st : List Value) (A : Nat → Nat → Int32) (F g : Nat → Int32) : Prop where
  vs : ∀ q ∈ S.vs, ∃ v, ia_vl lv (ia_ev lv A F g) q.1 = some v ∧ ia_in (ia_ev lv A F g) q.2 v
  st : ia_sk (ia_ev lv A F g) S.st st
  iv : ia_inv A F S.br
/-! what the interpreter does -/
def ia_find (n : Nat) : List (Nat × ia_V) → Option ia_V
  | [] => none
  | (m, v) :: r => bif Nat.beq m n then some v else ia_find n r
def ia_rm (n : Nat) (vs : List (Nat × ia_V)) : List (Nat × ia_V) := vs.filter (fun q => !(Nat.beq q.1 n))
/-- what is known of a location -/
def ia_q (vs : List (Nat × ia_V)) (n : Nat) : ia_I := match ia_find n vs with
  | some (.i q) => q
  | _ => ⟨(ia_df n).1, (ia_df n).2, [], []⟩
def ia_rt (f : Nat → Option Int) (ts : ia_T) : ia_T := ts.filterMap (fun t => (f t.1).map (fun d => (t.1, t.2 - d)))
def ia_rv (f : Nat → Option Int) (a : ia_V) : ia_V := match a with
  | .i q => .i ⟨q.lo, q.hi, ia_rt f q.es, ia_rt f q.us⟩
  | v => v
def ia_rs (f : Nat → Option Int) (vs : List (Nat × ia_V)) : List (Nat × ia_V) := vs.map (fun q => (q.1, ia_rv f q.2))
def ia_meet (vs : List (Nat × ia_V)) (n : Nat) (lo hi : Int) : List (Nat × ia_V) := match ia_find n vs with
  | some (.i q) => (n, .i ⟨max q.lo lo, min q.hi hi, q.es, q.us⟩) :: ia_rm n vs
  | some _ => vs
  | none => bif Nat.blt n 100 then vs else (n, .i ⟨max (ia_df n).1 lo, min (ia_df n).2 hi, [], []⟩) :: vs
/-- an int tied to these locations lies between lo and hi; none: that can't be -/
def ia_ref (lo hi : Int) : ia_T → List (Nat × ia_V) → Option (List (Nat × ia_V))
  | [], vs => bif decide (lo ≤ hi) then some vs else none
  | t :: r, vs => bif decide (max (ia_q vs t.1).lo (lo - t.2) ≤ min (ia_q vs t.1).hi (hi - t.2)) then ia_ref lo hi r (ia_meet vs t.1 (lo - t.2) (hi - t.2)) else none
def ia_sh1 (ts : ia_T) (d : Int) : ia_T := ts.map (fun t => (t.1, t.2 + d))
/-- locations whose bounds are kept -/
def ia_nt (n : Nat) : Bool := Nat.blt n 100 || Nat.beq n 1603 || Nat.beq n 5401 || Nat.beq (n / 10000) 9 || Nat.beq (n / 10000) 10 || Nat.beq (n / 10000) 50 || Nat.beq (n / 10000) 51
def ia_au1 (us : ia_T) (m : Nat) (c : Int) (q : ia_I) : ia_I :=
  let new := us.filterMap (fun t => bif ia_nt t.1 && !(Nat.beq t.1 m) && !(q.us.any (fun o => Nat.beq o.1 t.1 && decide (o.2 ≤ t.2 - c))) then some (t.1, t.2 - c) else none)
  ⟨q.lo, q.hi, q.es, new ++ q.us.filter (fun o => !(new.any (fun t => Nat.beq t.1 o.1)))⟩
/-- an int tied to these locations is at most each of us -/
def ia_au (us : ia_T) : ia_T → List (Nat × ia_V) → List (Nat × ia_V)
  | [], vs => vs
  | t :: r, vs => match Nat.blt t.1 100, ia_find t.1 vs with
    | true, some (.i q) => ia_au us r ((t.1, .i (ia_au1 us t.1 t.2 q)) :: ia_rm t.1 vs)
    | _, _ => ia_au us r vs
/-- the int is at most that location's plus d -/
def ia_ub (vs : List (Nat × ia_V)) (y : ia_I) (n : Nat) (d : Int) : Bool := y.us.any (fun t => Nat.beq t.1 n && decide (t.2 ≤ d)) || y.es.any (fun t => Nat.beq t.1 n && decide (t.2 ≤ d)) || decide (y.hi ≤ (ia_q vs n).lo + d)
def ia_two (vs : List (Nat × ia_V)) (x y : ia_I) (a b c d : Int) (us1 us2 : ia_T) : Option (List (Nat × ia_V) × ia_I × ia_I) := match ia_ref a b x.es vs with
  | none => none
  | some v1 => match ia_ref c d y.es v1 with
    | none => none
    | some v2 => some (ia_au us2 y.es (ia_au us1 x.es v2), ⟨a, b, x.es, x.us⟩, ⟨c, d, y.es, y.us⟩)
def ia_lt (vs : List (Nat × ia_V)) (x y : ia_I) : Option (List (Nat × ia_V) × ia_I × ia_I) := bif x.es.any (fun t => ia_ub vs y t.1 t.2) then none else
  ia_two vs x y x.lo (min x.hi (y.hi - 1)) (max y.lo (x.lo + 1)) y.hi (ia_sh1 (y.es ++ y.us) (-1)) []
def ia_le (vs : List (Nat × ia_V)) (x y : ia_I) : Option (List (Nat × ia_V) × ia_I × ia_I) := ia_two vs x y x.lo (min x.hi y.hi) (max y.lo x.lo) y.hi (y.es ++ y.us) []
def ia_eq (vs : List (Nat × ia_V)) (x y : ia_I) : Option (List (Nat × ia_V) × ia_I × ia_I) := ia_two vs x y (max x.lo y.lo) (min x.hi y.hi) (max x.lo y.lo) (min x.hi y.hi) (y.es ++ y.us) (x.es ++ x.us)
/-- the bounds of an int that isn't d -/
def ia_nb (lo hi d : Int) : Int × Int := (bif decide (lo = d) then lo + 1 else lo, bif decide (hi = d) then hi - 1 else hi)
def ia_ne (vs : List (Nat × ia_V)) (x y : ia_I) : Option (List (Nat × ia_V) × ia_I × ia_I) :=
  let u1 := (y.es.filter (fun t => ia_nt t.1 && ia_ub vs x t.1 t.2)).map (fun t => (t.1, t.2 - 1))
  let u2 := (x.es.filter (fun t => ia_nt t.1 && ia_ub vs y t.1 t.2)).map (fun t => (t.1, t.2 - 1))
  bif decide (y.lo = y.hi) then ia_two vs x y (ia_nb x.lo x.hi y.lo).1 (ia_nb x.lo x.hi y.lo).2 y.lo y.hi u1 u2
  else bif decide (x.lo = x.hi) then ia_two vs x y x.lo x.hi (ia_nb y.lo y.hi x.lo).1 (ia_nb y.lo y.hi x.lo).2 u1 u2
  else ia_two vs x y x.lo x.hi y.lo y.hi u1 u2
def ia_sw (o : Option (List (Nat × ia_V) × ia_I × ia_I)) : Option (List (Nat × ia_V) × ia_I × ia_I) := o.map (fun q => (q.1, q.2.2, q.2.1))
def ia_as (c : ClassFile.Cond) (vs : List (Nat × ia_V)) (x y : ia_I) : Option (List (Nat × ia_V) × ia_I × ia_I) := match c with
  | .eq => ia_eq vs x y
  | .ne => ia_ne vs x y
  | .lt => ia_lt vs x y
  | .ge => ia_sw (ia_le vs y x)
  | .gt => ia_sw (ia_lt vs y x)
  | .le => ia_le vs x y
def ia_ng (c : ClassFile.Cond) : ClassFile.Cond := match c with
  | .eq => .ne
  | .ne => .eq
  | .lt => .ge
  | .ge => .lt
  | .gt => .le
  | .le => .gt
def ia_k (n : Int) : ia_I := ⟨n, n, [], []⟩
def ia_top : ia_I := ⟨-2147483648, 2147483647, [], []⟩
def ia_fit (lo hi : Int) : Bool := decide (-2147483648 ≤ lo) && decide (hi ≤ 2147483647)
/-- a start and what is below its length -/
def ia_rb (x y : ia_I) (hi : Int) : Int := (x.es ++ x.us).foldl (fun h t => bif (Nat.beq (t.1 / 10000) 9 || Nat.beq (t.1 / 10000) 50) && Nat.blt (t.1 % 10000) 4 then (y.es ++ y.us).foldl (fun h s => bif Nat.beq s.1 (t.1 + 10000) then min h (40 + t.2 + s.2) else h) h else h) hi
def ia_add (br : List Nat) (x y : ia_I) : ia_I := bif ia_fit (x.lo + y.lo) (x.hi + y.hi) then
    (let h := bif br.isEmpty then ia_rb x y (x.hi + y.hi) else x.hi + y.hi
    bif decide (y.lo = y.hi) then ⟨x.lo + y.lo, h, ia_sh1 x.es y.lo, ia_sh1 x.us y.lo⟩
    else bif decide (x.lo = x.hi) then ⟨x.lo + y.lo, h, ia_sh1 y.es x.lo, ia_sh1 y.us x.lo⟩
    else ⟨x.lo + y.lo, h, [], []⟩)
  else ia_top
def ia_sub (x y : ia_I) : ia_I := bif ia_fit (x.lo - y.hi) (x.hi - y.lo) then
    (bif decide (y.lo = y.hi) then ⟨x.lo - y.hi, x.hi - y.lo, ia_sh1 x.es (-y.lo), ia_sh1 x.us (-y.lo)⟩
    else ⟨x.lo - y.hi, x.hi - y.lo, [], []⟩)
  else ia_top
def ia_mul (x y : ia_I) : ia_I := bif decide (x.lo = x.hi) && decide (0 ≤ x.lo) then (bif ia_fit (x.lo * y.lo) (x.lo * y.hi) then ⟨x.lo * y.lo, x.lo * y.hi, [], []⟩ else ia_top)
  else bif decide (y.lo = y.hi) && decide (0 ≤ y.lo) then (bif ia_fit (y.lo * x.lo) (y.lo * x.hi) then ⟨y.lo * x.lo, y.lo * x.hi, [], []⟩ else ia_top)
  else ia_top
def ia_and (y : ia_I) : ia_I := bif decide (y.lo = y.hi) && decide (0 ≤ y.lo) then ⟨0, y.lo, [], []⟩ else ia_top
def ia_div (x y : ia_I) : Option ia_I := bif decide (y.lo = y.hi) && decide (0 < y.lo) then (bif decide (0 ≤ x.lo) then some ⟨x.lo / y.lo, x.hi / y.lo, [], []⟩ else some ia_top) else none
def ia_rem (x y : ia_I) : Option ia_I := bif decide (y.lo = y.hi) && decide (0 < y.lo) then (bif decide (0 ≤ x.lo) then some ⟨0, y.lo - 1, [], []⟩ else some ia_top) else none
/-- the same int, with what is now known of the locations it is tied to -/
def ia_rd (vs : List (Nat × ia_V)) : ia_T → Int × Int → Int × Int
  | [], p => p
  | t :: r, p => ia_rd vs r (max p.1 ((ia_q vs t.1).lo + t.2), min p.2 ((ia_q vs t.1).hi + t.2))
def ia_ru (vs : List (Nat × ia_V)) : ia_T → Int → Int
  | [], h => h
  | t :: r, h => ia_ru vs r (min h ((ia_q vs t.1).hi + t.2))
