/-! one step of the interpreter -/
/-- an end of a method: what it throws, what it returns, what is known then, how many exceptions were made -/
abbrev ia_P : Type := Option Nat × Option ia_V × List (Nat × Int × Int) × Nat
/-- a cut: what is known there, its measure, its key -/
abbrev ia_N : Type := ia_S × Int × List Int × Int
/-- a method in a context: number, depth, arguments, facts, ends, what it may change, elements kept apart, measured locations, cuts (pc, splits, keys), what is known there -/
abbrev ia_M : Type := Nat × Nat × List ia_V × List (Nat × Int × Int) × List ia_P × List Nat × List (Nat × Nat × Nat) × List Nat × List Nat × List (Nat × List Nat × List Nat) × List ia_N
def ia_mem (n : Nat) : List Nat → Bool
  | [] => false
  | m :: r => Nat.beq m n || ia_mem n r
/-- arrays that never change here -/
def ia_fz : List Nat := []
/-- arrays whose changes are told -/
def ia_tka : List Nat := [5, 48, 7, 45, 8, 9, 49, 50, 63, 54, 35, 37, 39, 41, 43, 47, 51]
def ia_cov (am : List (Nat × Nat × Nat)) (a lo hi : Nat) : Bool := !(ia_mem a ia_tka) || am.any (fun t => Nat.beq t.1 a && Nat.ble t.2.1 lo && Nat.ble hi t.2.2)
def ia_fr (md : List Nat) (am : List (Nat × Nat × Nat)) (A : Nat → Nat → Int32) (F : Nat → Int32) (A' : Nat → Nat → Int32) (F' : Nat → Int32) : Prop := (∀ q, ia_mem q md = false → F' q = F q) ∧ (∀ a j, ia_mem a ia_tka = true → (∀ t ∈ am, t.1 = a → ¬ (t.2.1 ≤ j ∧ j ≤ t.2.2)) → A' a j = A a j)
def ia_sd (n : Nat) (a : ia_V) : Option Int := match a with
  | .inl q => match q.2.2.1.find? (fun t => Nat.beq t.1 n) with
    | some t => some t.2
    | none => none
  | _ => none
/-- one of the locals, of one word -/
def ia_one (vs : List (Nat × ia_V)) (m : Nat) : Bool := match ia_find m vs with
  | some (.inl _) => true
  | some (.inr (.inl _)) => true
  | _ => false
def ia_isl (a : ia_V) : Bool := match a with
  | (.inr (.inr ())) => true
  | _ => false
def ia_fl (vs : List (Nat × ia_V)) (k : Nat) (a : ia_V) (m : Nat) : Option Int := bif Nat.beq m k then ia_sd k a else bif Nat.beq (m + 1) k && !(ia_one vs m) then none else some 0
def ia_f0 (f : Nat → Option Int) (k m : Nat) : Option Int := bif Nat.beq m k then none else f m
/-- one of the locals takes a value -/
def ia_stl (vs : List (Nat × ia_V)) (k : Nat) (a : ia_V) : List (Nat × ia_V) := (k, ia_rv (ia_f0 (ia_fl vs k a) k) a) :: ia_rs (ia_fl vs k a) (vs.filter (fun q => !(Nat.beq q.1 k) && !(Nat.beq (q.1 + 1) k && ia_isl q.2)))
/-- a location of the world takes a value -/
def ia_fw (n : Nat) (a : ia_V) (m : Nat) : Option Int := bif Nat.beq m n then ia_sd n a else some 0
def ia_stw (vs : List (Nat × ia_V)) (n : Nat) (a : ia_V) : List (Nat × ia_V) := (n, ia_rv (ia_f0 (ia_fw n a) n) a) :: ia_rs (ia_fw n a) (ia_rm n vs)
/-- locations that are lost -/
def ia_fp (p : Nat → Bool) (m : Nat) : Option Int := bif p m then none else some 0
def ia_drp (p : Nat → Bool) (vs : List (Nat × ia_V)) : List (Nat × ia_V) := ia_rs (ia_fp p) (vs.filter (fun q => !(p q.1)))
def ia_cell (a : Nat) : Option ia_C := match a with
  | 0 => none
  | k + 1 => ia_sh[k]?
def ia_of (a ci x : Nat) : Option ia_D := match ia_cell a with
  | some (.inl (c, fs)) => bif Nat.beq c ci then fs[x]? else none
  | _ => none
def ia_an (a t : Nat) : Option Nat := match ia_cell a with
  | some (.inr (.inl (t', n))) => bif Nat.beq t' t then some n else none
  | _ => none
def ia_hl (u v : ia_V) : Option ia_V := match u, v with
  | .inl p, .inl q => some (.inl ⟨min p.1 q.1, max p.2.1 q.2.1, [], []⟩)
  | .inr (.inl a), .inr (.inl b) => some (.inr (.inl (a ++ b)))
  | _, _ => none
def ia_at (vs : List (Nat × ia_V)) (n : Nat) : ia_I := ⟨(ia_q vs n).1, (ia_q vs n).2.1, (n, 0) :: (ia_q vs n).2.2.1, (ia_q vs n).2.2.2⟩
def ia_gf1 (vs : List (Nat × ia_V)) (ci x a : Nat) : Option ia_V := match ia_of a ci x with
  | some (.inr b) => some (.inr (.inl [b]))
  | some (.inl q) => bif Nat.blt q 9000 then some (.inl (ia_at vs (1000 + q))) else none
  | none => none
def ia_gf (vs : List (Nat × ia_V)) (ci x : Nat) : List Nat → Option ia_V
  | [] => none
  | [a] => ia_gf1 vs ci x a
  | a :: r => match ia_gf1 vs ci x a, ia_gf vs ci x r with
    | some u, some v => ia_hl u v
    | _, _ => none
def ia_wi (q : ia_I) (r : Int × Int) : Bool := decide (r.1 ≤ q.1) && decide (q.2.1 ≤ r.2)
def ia_tyok (ty : FieldType) (q : ia_I) : Bool := match ty with
  | .int => true
  | .boolean => decide (0 ≤ q.1) && decide (q.2.1 ≤ 1)
  | _ => false
def ia_pf1 (md : List Nat) (ci x : Nat) (q : ia_I) (a : Nat) : Bool := match ia_of a ci x with
  | some (.inl p) => Nat.blt p 9000 && ia_mem p md && ia_wi q (ia_gr p ia_rfl)
  | _ => false
def ia_pfp (ci x : Nat) (cs : List Nat) (m : Nat) : Bool := cs.any (fun a => Nat.beq m (1000 + (100 * a + x)))
def ia_pfs (S : ia_S) (pc ci x : Nat) (q : ia_I) (r : List ia_V) (cs : List Nat) : ia_S := match cs with
  | [a] => ⟨pc, ia_stw S.2.1 (1000 + (100 * a + x)) (.inl q), r.map (ia_rv (ia_fw (1000 + (100 * a + x)) (.inl q))), S.2.2.2.1, S.2.2.2.2⟩
  | cs => ⟨pc, ia_drp (ia_pfp ci x cs) S.2.1, r.map (ia_rv (ia_fp (ia_pfp ci x cs))), S.2.2.2.1, S.2.2.2.2⟩
def ia_al1 (vs : List (Nat × ia_V)) (tk : List Nat) (t : Nat) (j : ia_I) (a : Nat) (one : Bool) : Option ia_V := match ia_an a t with
  | some n => bif decide (0 ≤ j.1) && decide (j.2.1 < n) then
      (bif one && ia_mem a tk && decide (j.1 = j.2.1) then some (.inl (ia_at vs (10000 * (a + 1) + j.1.toNat))) else some (.inl ⟨(ia_ra a j.1.toNat).1, (ia_ra a j.1.toNat).2, [], []⟩)) else none
  | none => none
def ia_al (vs : List (Nat × ia_V)) (tk : List Nat) (t : Nat) (j : ia_I) (one : Bool) : List Nat → Option ia_V
  | [] => none
  | [a] => ia_al1 vs tk t j a one
  | a :: r => match ia_al1 vs tk t j a false, ia_al vs tk t j false r with
    | some u, some v => ia_hl u v
    | _, _ => none
def ia_as1 (am : List (Nat × Nat × Nat)) (t : Nat) (j q : ia_I) (a : Nat) : Bool := match ia_an a t with
  | some n => decide (0 ≤ j.1) && decide (j.2.1 < n) && Nat.blt n 10000 && !(ia_mem a ia_fz) && ia_wi q (ia_ra a j.2.1.toNat) && ia_cov am a j.1.toNat j.2.1.toNat
  | none => false
def ia_asp (j : ia_I) (cs : List Nat) (m : Nat) : Bool := Nat.ble 10000 m && cs.any (fun a => Nat.beq (m / 10000) (a + 1)) && decide (j.1 ≤ ((m % 10000 : Nat) : Int)) && decide (((m % 10000 : Nat) : Int) ≤ j.2.1)
def ia_pa (a : Nat) : Bool := Nat.beq a 8 || Nat.beq a 9 || Nat.beq a 49 || Nat.beq a 50
/-- the start's location of the pair that an element belongs to -/
def ia_p0 (a j : Nat) : Nat := bif Nat.beq a 8 || Nat.beq a 49 then 10000 * (a + 1) + j else 10000 * a + j
def ia_br (vs : List (Nat × ia_V)) (br : List Nat) (n : Nat) : List Nat := bif decide ((ia_q vs n).2.1 + (ia_q vs (n + 10000)).2.1 ≤ 40) then br.filter (fun m => !(Nat.beq m n)) else n :: br
def ia_ast (tk : List Nat) (S : ia_S) (pc : Nat) (j q : ia_I) (cs : List Nat) (r : List ia_V) : Option ia_S := match cs with
  | [a] => bif decide (j.1 = j.2.1) && (ia_mem a tk || ia_pa a) then
      (let n := 10000 * (a + 1) + j.1.toNat
      let vs := ia_stw S.2.1 n (.inl q)
      bif ia_pa a then (bif decide (j.2.1 < 4) then some ⟨pc, vs, r.map (ia_rv (ia_fw n (.inl q))), S.2.2.2.1, ia_br vs S.2.2.2.2 (ia_p0 a j.1.toNat)⟩ else none)
      else some ⟨pc, vs, r.map (ia_rv (ia_fw n (.inl q))), S.2.2.2.1, S.2.2.2.2⟩)
    else bif ia_pa a then none else some ⟨pc, ia_drp (ia_asp j [a]) S.2.1, r.map (ia_rv (ia_fp (ia_asp j [a]))), S.2.2.2.1, S.2.2.2.2⟩
  | cs => bif cs.any ia_pa then none else some ⟨pc, ia_drp (ia_asp j cs) S.2.1, r.map (ia_rv (ia_fp (ia_asp j cs))), S.2.2.2.1, S.2.2.2.2⟩
def ia_qck (rs : List (Nat × Nat)) (j : Nat) : Bool := match ia_qf rs j with
  | some b => rs.any (fun p => Nat.beq p.1 j && Nat.beq p.2 b)
  | none => false
def ia_qn (a : Nat) : Option (List (Nat × Nat)) := match ia_cell a with
  | some (.inr (.inr (.inl (n, rs)))) => bif Nat.beq n rs.length && (List.range rs.length).all (ia_qck rs) then some rs else none
  | _ => none
def ia_len (a : Nat) : Option Nat := match ia_cell a with
  | some (.inr (.inl (t, n))) => bif Nat.blt t 4 then some n else none
  | some (.inr (.inr (.inl (n, _)))) => some n
  | _ => none
def ia_lens (n : Nat) (cs : List Nat) : Bool := cs.all (fun a => match ia_len a with
  | some m => Nat.beq m n
  | none => false)
def ia_go (S : ia_S) (pc : Nat) (st : List ia_V) : Option (List ia_S) := some [⟨pc, S.2.1, st, S.2.2.2.1, S.2.2.2.2⟩]
def ia_gs (S : ia_S) (pc : Nat) (k : Nat) (a : ia_V) (r : List ia_V) : Option (List ia_S) := bif Nat.blt k 100 then some [⟨pc, ia_stl S.2.1 k a, r.map (ia_rv (ia_fl S.2.1 k a)), S.2.2.2.1, S.2.2.2.2⟩] else none
def ia_b1 (S : ia_S) (pc : Nat) (r : List ia_V) (o : Option (List (Nat × ia_V) × ia_I × ia_I)) : List ia_S := match o with
  | some q => [⟨pc, q.1, r, S.2.2.2.1, S.2.2.2.2⟩]
  | none => []
def ia_if (S : ia_S) (c : ClassFile.Cond) (x y : ia_I) (p1 p2 : Nat) (r : List ia_V) : Option (List ia_S) := some (ia_b1 S p1 r (ia_as c S.2.1 x y) ++ ia_b1 S p2 r (ia_as (ia_ng c) S.2.1 x y))
def ia_ldv (vs : List (Nat × ia_V)) (k : Nat) : Option ia_V := match ia_find k vs with
  | some (.inl q) => some (.inl ⟨q.1, ia_ru vs q.2.2.2 q.2.1, (k, 0) :: q.2.2.1, q.2.2.2⟩)
  | some a => some a
  | none => none
def ia_lli (S : ia_S) (pc k : Nat) : Option (List ia_S) := match Nat.blt k 100, ia_ldv S.2.1 k with
  | true, some (.inl q) => ia_go S pc (.inl q :: S.2.2.1)
  | _, _ => none
def ia_lla (S : ia_S) (pc k : Nat) : Option (List ia_S) := match Nat.blt k 100, ia_find k S.2.1 with
  | true, some (.inr (.inl cs)) => ia_go S pc (.inr (.inl cs) :: S.2.2.1)
  | _, _ => none
def ia_lll (S : ia_S) (pc k : Nat) : Option (List ia_S) := match Nat.blt k 100, ia_find k S.2.1 with
  | true, some (.inr (.inr ())) => ia_go S pc ((.inr (.inr ())) :: S.2.2.1)
  | _, _ => none
def ia_sti (S : ia_S) (nl pc k : Nat) : Option (List ia_S) := match Nat.blt k nl, S.2.2.1 with
  | true, .inl q :: r => ia_gs S pc k (.inl q) r
  | _, _ => none
def ia_sta (S : ia_S) (nl pc k : Nat) : Option (List ia_S) := match Nat.blt k nl, S.2.2.1 with
  | true, .inr (.inl cs) :: r => ia_gs S pc k (.inr (.inl cs)) r
  | _, _ => none
def ia_num (n : Int) (S : ia_S) (pc : Nat) : Option (List ia_S) := bif ia_fit n n then ia_go S pc (.inl (ia_k n) :: S.2.2.1) else none
def ia_step (md : List Nat) (am : List (Nat × Nat × Nat)) (tk : List Nat) (nl : Nat) (i : Instr) (x : Nat) (S : ia_S) : Option (List ia_S) := match i with
  | .iconst n => ia_num n S (S.1 + 1)
  | .bipush n => bif decide (-128 ≤ n) && decide (n ≤ 127) then ia_num n S (S.1 + 2) else none
  | .sipush n => bif decide (-32768 ≤ n) && decide (n ≤ 32767) then ia_num n S (S.1 + 3) else none
  | .ldc _ => ia_num (x : Int) S (S.1 + 2)
  | .iload_n k => ia_lli S (S.1 + 1) k.val
  | .iload k => ia_lli S (S.1 + 2) k
  | .lload_n k => ia_lll S (S.1 + 1) k.val
  | .lload k => ia_lll S (S.1 + 2) k
  | .aload_n k => ia_lla S (S.1 + 1) k.val
  | .aload k => ia_lla S (S.1 + 2) k
  | .istore_n k => ia_sti S nl (S.1 + 1) k.val
  | .istore k => ia_sti S nl (S.1 + 2) k
  | .astore_n k => ia_sta S nl (S.1 + 1) k.val
  | .astore k => ia_sta S nl (S.1 + 2) k
  | .iinc k n => match Nat.blt k nl && ia_fit n n, ia_find k S.2.1 with
    | true, some (.inl q) => ia_gs S (S.1 + 3) k (.inl (ia_add S.2.2.2.2 ⟨q.1, q.2.1, (k, 0) :: q.2.2.1, q.2.2.2⟩ (ia_k n))) S.2.2.1
    | _, _ => none
  | .iadd => match S.2.2.1 with
    | .inl y :: .inl z :: r => ia_go S (S.1 + 1) (.inl (ia_add S.2.2.2.2 z y) :: r)
    | _ => none
  | .isub => match S.2.2.1 with
    | .inl y :: .inl z :: r => ia_go S (S.1 + 1) (.inl (ia_sub z y) :: r)
    | _ => none
  | .imul => match S.2.2.1 with
    | .inl y :: .inl z :: r => ia_go S (S.1 + 1) (.inl (ia_mul z y) :: r)
    | _ => none
  | .iand => match S.2.2.1 with
    | .inl y :: .inl _ :: r => ia_go S (S.1 + 1) (.inl (ia_and y) :: r)
    | _ => none
  | .idiv => match S.2.2.1 with
    | .inl y :: .inl z :: r => match ia_div z y with
      | some q => ia_go S (S.1 + 1) (.inl q :: r)
      | none => none
    | _ => none
  | .irem => match S.2.2.1 with
    | .inl y :: .inl z :: r => match ia_rem z y with
      | some q => ia_go S (S.1 + 1) (.inl q :: r)
      | none => none
    | _ => none
  | .i2l => match S.2.2.1 with
    | .inl _ :: r => ia_go S (S.1 + 1) ((.inr (.inr ())) :: r)
    | _ => none
  | .l2i => match S.2.2.1 with
    | (.inr (.inr ())) :: r => ia_go S (S.1 + 1) (.inl ia_top :: r)
    | _ => none
  | .lushr => match S.2.2.1 with
    | .inl _ :: (.inr (.inr ())) :: r => ia_go S (S.1 + 1) ((.inr (.inr ())) :: r)
    | _ => none
  | .dup => match S.2.2.1 with
    | .inl q :: r => ia_go S (S.1 + 1) (.inl q :: .inl q :: r)
    | .inr (.inl cs) :: r => ia_go S (S.1 + 1) (.inr (.inl cs) :: .inr (.inl cs) :: r)
    | _ => none
  | .dup2 => match S.2.2.1 with
    | .inl q :: .inr (.inl cs) :: r => ia_go S (S.1 + 1) (.inl q :: .inr (.inl cs) :: .inl q :: .inr (.inl cs) :: r)
    | _ => none
  | .goto _ => ia_go S x S.2.2.1
  | .ifCond c _ => match S.2.2.1 with
    | .inl y :: r => ia_if S c y (ia_k 0) x (S.1 + 3) r
    | _ => none
  | .if_icmp c _ => match S.2.2.1 with
    | .inl z :: .inl y :: r => ia_if S c y z x (S.1 + 3) r
    | _ => none
  | .tableswitch dflt lo hi offs => match S.2.2.1 with
    | .inl _ :: r => bif decide (hi - lo < offs.size) && (dflt :: offs.toList).all (fun o => decide (0 ≤ (S.1 : Int) + o)) then some ((dflt :: offs.toList).map (fun o => ⟨((S.1 : Int) + o).toNat, S.2.1, r, S.2.2.2.1, S.2.2.2.2⟩)) else none
    | _ => none
  | .getfield _ => match S.2.2.1 with
    | .inr (.inl cs) :: r => match ia_gf S.2.1 (x / 100) (x % 100) cs with
      | some a => ia_go S (S.1 + 3) (a :: r)
      | none => none
    | _ => none
  | .putfield _ => match S.2.2.1 with
    | .inl q :: .inr (.inl cs) :: r => bif ia_tyok (iv_ty (x / 100) (x % 100)) q && cs.all (ia_pf1 md (x / 100) (x % 100) q) then
        some [ia_pfs S (S.1 + 3) (x / 100) (x % 100) q r cs] else none
    | _ => none
  | .arraylength => match S.2.2.1 with
    | .inr (.inl (a :: cs)) :: r => match ia_len a with
      | some n => bif ia_lens n (a :: cs) && Nat.blt n 100000 then ia_go S (S.1 + 1) (.inl (ia_k n) :: r) else none
      | none => none
    | _ => none
  | .iaload => match S.2.2.1 with
    | .inl j :: .inr (.inl cs) :: r => match ia_al S.2.1 tk 0 j true cs with
      | some a => ia_go S (S.1 + 1) (a :: r)
      | none => none
    | _ => none
  | .baload => match S.2.2.1 with
    | .inl j :: .inr (.inl cs) :: r => match ia_al S.2.1 tk 1 j true cs with
      | some a => ia_go S (S.1 + 1) (a :: r)
      | none => none
    | _ => none
  | .aaload => match S.2.2.1 with
    | .inl j :: .inr (.inl [a]) :: r => match ia_qn a with
      | some rs => bif decide (0 ≤ j.1) && decide (j.2.1 < rs.length) then ia_go S (S.1 + 1) (.inr (.inl ((rs.filter (fun p => decide (j.1 ≤ (p.1 : Int)) && decide ((p.1 : Int) ≤ j.2.1))).map (fun p => p.2))) :: r) else none
      | none => none
    | _ => none
  | .iastore => match S.2.2.1 with
    | .inl q :: .inl j :: .inr (.inl cs) :: r => bif cs.all (ia_as1 am 0 j q) then (ia_ast tk S (S.1 + 1) j q cs r).map (fun s => [s]) else none
    | _ => none
  | .bastore => match S.2.2.1 with
    | .inl q :: .inl j :: .inr (.inl cs) :: r => bif cs.all (ia_as1 am 1 j q) && ia_wi q (0, 1) then (ia_ast tk S (S.1 + 1) j q cs r).map (fun s => [s]) else none
    | _ => none
  | .lastore => match S.2.2.1 with
    | (.inr (.inr ())) :: .inl j :: .inr (.inl [65]) :: r => bif decide (j.1 = 0) && decide (j.2.1 = 0) then ia_go S (S.1 + 1) r else none
    | _ => none
  | _ => none
def ia_cat (a : ia_V) : Nat := match a with
  | (.inr (.inr ())) => 2
  | _ => 1
def ia_cs : List ia_V → Nat
  | [] => 0
  | a :: r => ia_cat a + ia_cs r
/-- a source of a copy into d -/
def ia_cps (n sp : ia_I) (d s : Nat) : Bool := match ia_an s 0 with
  | some m0 => decide (sp.2.1 + n.2.1 ≤ m0) && decide ((ia_gr d ia_ral).1 ≤ (ia_gr s ia_ral).1) && decide ((ia_gr s ia_ral).2 ≤ (ia_gr d ia_ral).2) && !(Nat.beq s 52)
  | none => false
def ia_cpd (am : List (Nat × Nat × Nat)) (n dp sp : ia_I) (ss : List Nat) (d : Nat) : Bool := match ia_an d 0 with
  | some m => decide (dp.2.1 + n.2.1 ≤ m) && !(ia_mem d ia_fz) && !(ia_pa d) && !(Nat.beq d 52) && ia_cov am d dp.1.toNat (dp.2.1 + n.2.1 - 1).toNat && ss.all (ia_cps n sp d)
  | none => false
def ia_cpp (ds : List Nat) (m : Nat) : Bool := Nat.ble 10000 m && ds.any (fun a => Nat.beq (m / 10000) (a + 1))
/-- Math.max, Math.min, System.arraycopy -/
def ia_lib (am : List (Nat × Nat × Nat)) (x : Nat) (S : ia_S) : Option (List ia_S) := match x, S.2.2.1 with
  | 7000, .inl z :: .inl y :: r => bif Nat.ble (ia_cs r) 8 then some ((match ia_lt S.2.1 y z with
      | some q => [⟨S.1 + 3, q.1, .inl q.2.2 :: r, S.2.2.2.1, S.2.2.2.2⟩]
      | none => []) ++ (match ia_le S.2.1 z y with
      | some q => [⟨S.1 + 3, q.1, .inl q.2.2 :: r, S.2.2.2.1, S.2.2.2.2⟩]
      | none => [])) else none
  | 8000, .inl z :: .inl y :: r => bif Nat.ble (ia_cs r) 8 then some ((match ia_lt S.2.1 z y with
      | some q => [⟨S.1 + 3, q.1, .inl q.2.1 :: r, S.2.2.2.1, S.2.2.2.2⟩]
      | none => []) ++ (match ia_le S.2.1 y z with
      | some q => [⟨S.1 + 3, q.1, .inl q.2.1 :: r, S.2.2.2.1, S.2.2.2.2⟩]
      | none => [])) else none
  | 9000, .inl n :: .inl dp :: .inr (.inl ds) :: .inl sp :: .inr (.inl ss) :: r => bif Nat.ble (ia_cs r) 8 && decide (0 ≤ n.1) && decide (0 ≤ dp.1) && decide (0 ≤ sp.1) && ds.all (ia_cpd am n dp sp ss) then some [⟨S.1 + 3, ia_drp (ia_cpp ds) S.2.1, r.map (ia_rv (ia_fp (ia_cpp ds))), S.2.2.2.1, S.2.2.2.2⟩] else none
  | _, _ => none
