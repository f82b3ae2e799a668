/-! the check of a method in a context -/
def ia_leV (vs : List (Nat × ia_V)) (a b : ia_V) : Bool := match a, b with
  | .i p, .i q => decide (q.lo ≤ p.lo) && decide (p.hi ≤ q.hi) && q.es.all (fun t => p.es.any (fun s => Nat.beq s.1 t.1 && decide (s.2 = t.2))) && q.us.all (fun t => ia_ub vs p t.1 t.2)
  | .r p, .r q => p.all (fun a => ia_mem a q)
  | .l, .l => true
  | _, _ => false
def ia_leL (vs : List (Nat × ia_V)) : List ia_V → List ia_V → Bool
  | [], [] => true
  | a :: r, b :: s => ia_leV vs a b && ia_leL vs r s
  | _, _ => false
/-- all ties are to these locations -/
def ia_tg (p : Nat → Bool) (a : ia_V) : Bool := match a with
  | .i q => q.es.all (fun t => p t.1) && q.us.all (fun t => p t.1)
  | _ => true
def ia_facts (vs : List (Nat × ia_V)) (fs : List (Nat × Int × Int)) : Bool := fs.all (fun f => decide (f.2.1 ≤ (ia_q vs f.1).lo) && decide ((ia_q vs f.1).hi ≤ f.2.2))
def ia_pre (S : ia_S) (as : List ia_V) (M : ia_M) : Bool := ia_leL S.vs as M.ar && ia_facts S.vs M.fa
/-- what a call may change -/
def ia_chp (M : ia_M) (m : Nat) : Bool := bif Nat.blt m 1000 then false else bif Nat.blt m 10000 then ia_mem (m - 1000) M.md else
  !(ia_mem (m / 10000 - 1) ia_tka) || M.am.any (fun t => Nat.beq (m / 10000) (t.1 + 1) && Nat.ble t.2.1 (m % 10000) && Nat.ble (m % 10000) t.2.2)
def ia_slot (t : Nat) : Nat → List ia_V → Option ia_V
  | _, [] => none
  | k, a :: r => bif Nat.beq k t then some a else ia_slot t (k + ia_cat a) r
/-- what an end of a call tells -/
def ia_tell (as : List ia_V) (p : Nat → Bool) : List (Nat × Int × Int) → List (Nat × ia_V) → Option (List (Nat × ia_V))
  | [], vs => some vs
  | f :: r, vs => bif Nat.ble 1000 f.1 then
      (match ia_ref f.2.1 f.2.2 [(f.1, 0)] vs with
      | some v => ia_tell as p r v
      | none => none)
    else bif Nat.ble 100 f.1 && Nat.blt f.1 200 then
      (match ia_slot (f.1 - 100) 0 as with
      | some (.i q) => (match ia_ref (max f.2.1 q.lo) (min f.2.2 q.hi) (ia_rt (ia_fp p) q.es) vs with
        | some v => ia_tell as p r v
        | none => none)
      | _ => ia_tell as p r vs)
    else ia_tell as p r vs
def ia_redu (vs : List (Nat × ia_V)) (a : ia_V) : ia_V := match a with
  | .i q => .i ⟨(ia_rd vs q.es (q.lo, q.hi)).1, (ia_rd vs q.es (q.lo, q.hi)).2, q.es, q.us⟩
  | a => a
def ia_push (vs : List (Nat × ia_V)) (o : Option ia_V) (r : List ia_V) : List ia_V := match o with
  | some a => ia_redu vs a :: r
  | none => r
/-- the state behind a call's end; none: that can't be -/
def ia_aft (S : ia_S) (as rest : List ia_V) (M : ia_M) (P : ia_P) : Option ia_S := match ia_tell as (ia_chp M) P.fs (ia_drp (ia_chp M) S.vs) with
  | some vs => some ⟨S.pc + 3, vs, (match P.th with
    | none => ia_push vs P.re (rest.map (ia_rv (ia_fp (ia_chp M))))
    | some _ => []), S.c + P.n, []⟩
  | none => none
/-- a local is lost -/
def ia_fn (vs : List (Nat × ia_V)) (k : Nat) (m : Nat) : Option Int := bif Nat.beq m k then none else bif Nat.beq (m + 1) k && !(ia_one vs m) then none else some 0
def ia_nol (vs : List (Nat × ia_V)) (k : Nat) : List (Nat × ia_V) := ia_rs (ia_fn vs k) (vs.filter (fun q => !(Nat.beq q.1 k) && !(Nat.beq (q.1 + 1) k && ia_isl q.2)))
-- ends
def ia_ps (M : ia_M) (vs : List (Nat × ia_V)) (th : Option Nat) (re : Option ia_V) (n : Nat) : Bool := M.ps.any (fun P => Nat.beq P.n n && (match P.th, th with
    | none, none => true
    | some a, some b => Nat.beq a b
    | _, _ => false) && (match P.re, re with
    | none, none => true
    | some b, some a => ia_leV vs (ia_redu vs a) b && ia_tg (fun m => Nat.ble 1000 m) b
    | _, _ => false) && P.fs.all (fun f => Nat.ble 1000 f.1 || (Nat.ble 100 f.1 && Nat.blt f.1 200)) && ia_facts vs P.fs)
def ia_rok (M : ia_M) (i : Instr) (S : ia_S) : Bool := S.br.isEmpty && (match i, iv_r M.mu, S.st with
  | .return_, none, [] => ia_ps M S.vs none none S.c
  | .ireturn, some .int, [.i q] => ia_ps M S.vs none (some (.i q)) S.c
  | .ireturn, some .boolean, [.i q] => ia_wi q (0, 1) && ia_ps M S.vs none (some (.i q)) S.c
  | .areturn, some (.object _), [.r cs] => ia_ps M S.vs none (some (.r cs)) S.c
  | .areturn, some (.array _), [.r cs] => ia_ps M S.vs none (some (.r cs)) S.c
  | _, _, _ => false)
-- cuts
def ia_nrm (vs : List (Nat × ia_V)) : List (Nat × ia_V) := vs.map (fun q => match q.2 with
  | .i p => (q.1, .i ⟨p.lo, ia_ru vs p.us p.hi, p.es, p.us⟩)
  | a => (q.1, a))
/-- a split's location: from 1000000 on the element of an array that a local tells -/
def ia_sl (vs : List (Nat × ia_V)) (n : Nat) : Nat := bif Nat.ble 100000000 n then 10000 * ((n - 100000000) / 100 + 1) + (ia_q vs ((n - 100000000) % 100)).lo.toNat else n
def ia_vals (lo : Int) : Nat → List Int
  | 0 => []
  | k + 1 => lo :: ia_vals (lo + 1) k
def ia_sp1 (n : Nat) (vs : List (Nat × ia_V)) : List (List (Nat × ia_V)) := bif decide ((ia_q vs n).lo = (ia_q vs n).hi) then [vs] else
  (ia_vals (ia_q vs n).lo ((ia_q vs n).hi - (ia_q vs n).lo + 1).toNat).filterMap (fun t => ia_ref t t ((n, 0) :: (ia_q vs n).es) vs)
def ia_spl : List Nat → List (Nat × ia_V) → List (List (Nat × ia_V))
  | [], vs => [vs]
  | n :: r, vs => (ia_sp1 (ia_sl vs n) vs).flatMap (ia_spl r)
def ia_cut (pc : Nat) : List (Nat × List Nat × List Nat) → Option (List Nat × List Nat)
  | [] => none
  | c :: r => bif Nat.beq c.1 pc then some c.2 else ia_cut pc r
def ia_ky (vs : List (Nat × ia_V)) (ks : List Nat) : Int := ks.foldl (fun a n => a * 5003 + (bif decide ((ia_q vs (ia_sl vs n)).lo = (ia_q vs (ia_sl vs n)).hi) then (ia_q vs (ia_sl vs n)).lo else -777)) 0
def ia_leS (vs : List (Nat × ia_V)) (st : List ia_V) (N : ia_S) : Bool := N.vs.all (fun q => match ia_find q.1 vs with
    | some a => ia_leV vs a q.2
    | none => Nat.ble 100 q.1 && ia_leV vs (.i (ia_q vs q.1)) q.2) && ia_leL vs st N.st && N.br.isEmpty
def ia_mx (k : Int) (q : ia_I) : Int := bif decide (0 ≤ k) then k * q.hi else k * q.lo
def ia_mn (k : Int) (q : ia_I) : Int := bif decide (0 ≤ k) then k * q.lo else k * q.hi
def ia_d1 (vs : List (Nat × ia_V)) (t n : Nat) (k k0 : Int) : Int := bif decide (k = 0) && decide (k0 = 0) then 0 else match (ia_q vs n).es.find? (fun s => Nat.beq s.1 (200 + t)) with
  | some s => ia_mx (k - k0) (ia_q vs (200 + t)) + k * s.2
  | none => ia_mx k (ia_q vs n) + ia_mx (-k0) (ia_q vs (200 + t))
def ia_dsm (vs : List (Nat × ia_V)) : Nat → List Nat → List Int → List Int → Int
  | t, n :: r, k :: ks, k0 :: ks0 => ia_d1 vs t n k k0 + ia_dsm vs (t + 1) r ks ks0
  | _, _, _, _ => 0
def ia_lsm (vs : List (Nat × ia_V)) : List Nat → List Int → Int
  | n :: r, k :: ks => ia_mn k (ia_q vs n) + ia_lsm vs r ks
  | _, _ => 0
def ia_arr (M : ia_M) (N0 : ia_N) (sp : List Nat × List Nat) (S : ia_S) : Bool := S.br.isEmpty && (ia_spl sp.1 (ia_nrm S.vs)).all (fun vs => M.ns.any (fun N => Nat.beq N.s.pc S.pc && decide (N.ky = ia_ky vs sp.2) && Nat.beq N.s.c S.c && ia_leS vs S.st N.s && decide (N.mc - N0.mc + ia_dsm vs 0 M.ms N.mq N0.mq ≤ -1)))
-- a block
def ia_gh : Nat → List Nat → List (Nat × ia_V) → List (Nat × ia_V)
  | _, [], vs => vs
  | t, n :: r, vs => ia_gh (t + 1) r ((200 + t, .i ⟨(ia_q vs n).lo, (ia_q vs n).hi, [], []⟩) :: (match Nat.blt n 100, ia_find n vs with
    | _, some (.i q) => (n, .i ⟨q.lo, q.hi, (200 + t, 0) :: q.es, q.us⟩) :: ia_rm n vs
    | false, none => (n, .i ⟨(ia_q vs n).lo, (ia_q vs n).hi, [(200 + t, 0)], []⟩) :: vs
    | _, _ => vs))
def ia_gp (m : Nat) : Bool := Nat.ble 200 m && Nat.blt m 300
def ia_st0 (M : ia_M) (S : ia_S) : ia_S := ⟨S.pc, ia_gh 0 M.ms (ia_drp ia_gp S.vs), S.st.map (ia_rv (ia_fp ia_gp)), S.c, S.br⟩
def ia_rcv (k ν : Nat) (as : List ia_V) : Bool := Nat.ble (ia_cs as) (iv_L ν) && (match k, as with
  | 0, .r cs :: _ => cs.all (fun a => match ia_cell a with
    | some (.o c _) => Nat.beq c (iv_cn ν)
    | _ => false)
  | 1, .r cs :: _ => cs.all (fun a => match ia_cell a with
    | some (.o c _) => Nat.beq c (iv_cn ν)
    | _ => false)
  | 2, _ => true
  | 3, _ => true
  | _, _ => false)
/-- the rows from pc on -/
def ia_fs (pc : Nat) : List (Nat × Instr × Nat) → List (Nat × Instr × Nat)
  | [] => []
  | e :: r => bif Nat.beq e.1 pc then e :: r else ia_fs pc r
def ia_sx (pc μ : Nat) (T : List (Nat × Instr × Nat)) : List (Nat × Instr × Nat) := match ia_fs pc T with
  | [] => ia_fs pc (iv_t μ)
  | r => r
def ia_inc : List (Nat × Instr × Nat) → Bool
  | [] => true
  | e :: r => r.all (fun q => Nat.blt e.1 q.1) && ia_inc r
def ia_cal (M : ia_M) (x : Nat) (S : ia_S) (Q : ia_M) : Bool := Nat.ble 1 Q.dp && Nat.blt Q.dp M.dp && Q.md.all (fun q => ia_mem q M.md) && Q.am.all (fun t => ia_cov M.am t.1 t.2.1 t.2.2) && Q.ar.all (ia_tg (fun m => Nat.ble 1000 m)) && Q.ps.all (fun P => match P.re with
  | some b => ia_tg (fun m => Nat.ble 1000 m) b
  | none => true)
/-- an end of a call; ih: the rest of the way -/
def ia_exb (ih : ia_S → Bool) (M : ia_M) (x : Nat) (S : ia_S) (as rest : List ia_V) (Q : ia_M) (P : ia_P) : Bool := match ia_aft S as rest Q P with
  | none => true
  | some S2 => match P.th with
    | none => ih S2
    | some q => Nat.blt x 2000 && (bif (iv_h M.mu).isEmpty then ia_ps M S2.vs (some q) none S2.c else match iv_hd (iv_h M.mu) S.pc q with
      | none => false
      | some pj => Nat.blt pj.2 100 && ih ⟨pj.1, ia_nol S2.vs pj.2, [], S2.c, []⟩)
def ia_exc (ih : ia_S → Bool) (cal : List ia_M) (M : ia_M) (x : Nat) (S : ia_S) (c : Nat) (as rest : List ia_V) : Bool := Nat.beq as.length c && Nat.ble (ia_cs rest) 8 && S.br.isEmpty && ia_rcv (x / 1000) (x % 1000) as && (match cal.find? (fun Q => Nat.beq Q.mu (x % 1000) && ia_pre S as Q) with
  | none => false
  | some Q => ia_cal M x S Q && Q.ps.all (ia_exb ih M x S as rest Q))
def ia_exk (ih : ia_S → Bool) (cal : List ia_M) (M : ia_M) (S : ia_S) (i : Instr) (x : Nat) : Bool := match iv_kd i x with
  | 0 => match ia_step M.md M.am M.tk (iv_L M.mu) i x S with
    | none => false
    | some Ss => Ss.all ih
  | 1 => ia_rok M i S
  | 2 => Nat.blt x 1003 && Nat.ble (ia_cs S.st) 8 && S.br.isEmpty && ia_ps M S.vs (some (x - 1000)) none (S.c + 1)
  | 3 => false
  | 4 => match ia_lib M.am x S with
    | none => false
    | some Ss => Ss.all ih
  | _ => ia_exc ih cal M x S (iv_cv (iv_np (x % 1000)) (x / 1000)) (S.st.take (iv_cv (iv_np (x % 1000)) (x / 1000))).reverse (S.st.drop (iv_cv (iv_np (x % 1000)) (x / 1000)))
def ia_exi (ih : List (Nat × Instr × Nat) → ia_S → Bool) (cal : List ia_M) (M : ia_M) (T : List (Nat × Instr × Nat)) (S : ia_S) : Bool := match ia_sx S.pc M.mu T with
  | [] => false
  | (_, i, x) :: T2 => ia_exk (ih T2) cal M S i x
def ia_exB (cal : List ia_M) (M : ia_M) (N0 : ia_N) (ih : Bool → List (Nat × Instr × Nat) → ia_S → Bool) (first : Bool) (T : List (Nat × Instr × Nat)) (S : ia_S) : Bool := match first with
  | false => (match ia_cut S.pc M.cu with
    | some sp => ia_arr M N0 sp S
    | none => ia_exi (ih false) cal M T S)
  | true => ia_exi (ih false) cal M T S
noncomputable def ia_ex (cal : List ia_M) (M : ia_M) (N0 : ia_N) (f : Nat) : Bool → List (Nat × Instr × Nat) → ia_S → Bool := Nat.rec (fun _ _ _ => false) (fun _ ih => ia_exB cal M N0 ih) f
def ia_ent (M : ia_M) : Nat → List ia_V → List (Nat × ia_V)
  | _, [] => M.fa.map (fun f => (f.1, .i ⟨f.2.1, f.2.2, [], []⟩))
  | k, a :: r => match a with
    | .i q => (k, .i ⟨q.lo, q.hi, (100 + k, 0) :: q.es, q.us⟩) :: (100 + k, .i ⟨q.lo, q.hi, [], []⟩) :: ia_ent M (k + 1) r
    | a => (k, a) :: ia_ent M (k + ia_cat a) r
/-- the beginning as a cut -/
def ia_n0 (M : ia_M) : ia_N := ⟨⟨0, ia_ent M 0 M.ar, [], 0, []⟩, 1000000000000000000000000000000, M.ms.map (fun _ => 0), 0⟩
def ia_fuel : Nat := 100000
def ia_ch1 (M : ia_M) : Bool := M.ar.all (ia_tg (fun m => Nat.ble 1000 m)) && M.fa.all (fun f => Nat.ble 1000 f.1) && Nat.ble 1 M.dp && Nat.blt (ia_cs M.ar) 100 && M.ms.all (fun m => !(ia_gp m)) && Nat.blt M.ms.length 100 &&
  M.ns.all (fun N => decide (0 ≤ N.mc + ia_lsm N.s.vs M.ms N.mq) && Nat.beq N.mq.length M.ms.length)
noncomputable def ia_ch2 (cal : List ia_M) (M : ia_M) (ns : List ia_N) : Bool := ns.all (fun N => ia_ex cal M N ia_fuel true [] (ia_st0 M N.s))
