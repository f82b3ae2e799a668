/-! the check of a method in a context -/
def ia_leV (vs : List (Nat × ia_V)) (a b : ia_V) : Bool := match a, b with
  | .inl p, .inl q => decide (q.1 ≤ p.1) && decide (p.2.1 ≤ q.2.1) && q.2.2.1.all (fun t => p.2.2.1.any (fun s => Nat.beq s.1 t.1 && decide (s.2 = t.2))) && q.2.2.2.all (fun t => ia_ub vs p t.1 t.2)
  | .inr (.inl p), .inr (.inl q) => p.all (fun a => ia_mem a q)
  | (.inr (.inr ())), (.inr (.inr ())) => true
  | _, _ => false
def ia_leL (vs : List (Nat × ia_V)) : List ia_V → List ia_V → Bool
  | [], [] => true
  | a :: r, b :: s => ia_leV vs a b && ia_leL vs r s
  | _, _ => false
/-- all ties are to these locations -/
def ia_tg (p : Nat → Bool) (a : ia_V) : Bool := match a with
  | .inl q => q.2.2.1.all (fun t => p t.1) && q.2.2.2.all (fun t => p t.1)
  | _ => true
def ia_facts (vs : List (Nat × ia_V)) (fs : List (Nat × Int × Int)) : Bool := fs.all (fun f => decide (f.2.1 ≤ (ia_q vs f.1).1) && decide ((ia_q vs f.1).2.1 ≤ f.2.2))
def ia_pre (S : ia_S) (as : List ia_V) (M : ia_M) : Bool := ia_leL S.2.1 as M.2.2.1 && ia_facts S.2.1 M.2.2.2.1
/-- what a call may change -/
def ia_chp (M : ia_M) (m : Nat) : Bool := bif Nat.blt m 1000 then false else bif Nat.blt m 10000 then ia_mem (m - 1000) M.2.2.2.2.2.1 else
  !(ia_mem (m / 10000 - 1) ia_tka) || M.2.2.2.2.2.2.1.any (fun t => Nat.beq (m / 10000) (t.1 + 1) && Nat.ble t.2.1 (m % 10000) && Nat.ble (m % 10000) t.2.2)
def ia_slot (t : Nat) : Nat → List ia_V → Option ia_V
  | _, [] => none
  | k, a :: r => bif Nat.beq k t then some a else ia_slot t (k + ia_cat a) r
/-- what an end of a call tells -/
def ia_tell (as : List ia_V) (p : Nat → Bool) : List (Nat × Int × Int) → List (Nat × ia_V) → Option (List (Nat × ia_V))
  | [], vs => some vs
  | f :: r, vs => bif Nat.ble 1000 f.1 then
      (match ia_ref f.2.1 f.2.2 [(f.1, 0)] vs with
      | some v => ia_tell as p r v
      | none => none)
    else bif Nat.ble 100 f.1 && Nat.blt f.1 200 then
      (match ia_slot (f.1 - 100) 0 as with
      | some (.inl q) => (match ia_ref (max f.2.1 q.1) (min f.2.2 q.2.1) (ia_rt (ia_fp p) q.2.2.1) vs with
        | some v => ia_tell as p r v
        | none => none)
      | _ => ia_tell as p r vs)
    else ia_tell as p r vs
def ia_redu (vs : List (Nat × ia_V)) (a : ia_V) : ia_V := match a with
  | .inl q => .inl ⟨(ia_rd vs q.2.2.1 (q.1, q.2.1)).1, (ia_rd vs q.2.2.1 (q.1, q.2.1)).2, q.2.2.1, q.2.2.2⟩
  | a => a
def ia_push (vs : List (Nat × ia_V)) (o : Option ia_V) (r : List ia_V) : List ia_V := match o with
  | some a => ia_redu vs a :: r
  | none => r
/-- the state behind a call's end; none: that can't be -/
def ia_aft (S : ia_S) (as rest : List ia_V) (M : ia_M) (P : ia_P) : Option ia_S := match ia_tell as (ia_chp M) P.2.2.1 (ia_drp (ia_chp M) S.2.1) with
  | some vs => some ⟨S.1 + 3, vs, (match P.1 with
    | none => ia_push vs P.2.1 (rest.map (ia_rv (ia_fp (ia_chp M))))
    | some _ => []), S.2.2.2.1 + P.2.2.2, []⟩
  | none => none
/-- one of the locals is lost -/
def ia_fn (vs : List (Nat × ia_V)) (k : Nat) (m : Nat) : Option Int := bif Nat.beq m k then none else bif Nat.beq (m + 1) k && !(ia_one vs m) then none else some 0
def ia_nol (vs : List (Nat × ia_V)) (k : Nat) : List (Nat × ia_V) := ia_rs (ia_fn vs k) (vs.filter (fun q => !(Nat.beq q.1 k) && !(Nat.beq (q.1 + 1) k && ia_isl q.2)))
-- ends
def ia_ps (M : ia_M) (vs : List (Nat × ia_V)) (th : Option Nat) (re : Option ia_V) (n : Nat) : Bool := M.2.2.2.2.1.any (fun P => Nat.beq P.2.2.2 n && (match P.1, th with
    | none, none => true
    | some a, some b => Nat.beq a b
    | _, _ => false) && (match P.2.1, re with
    | none, none => true
    | some b, some a => ia_leV vs (ia_redu vs a) b && ia_tg (fun m => Nat.ble 1000 m) b
    | _, _ => false) && P.2.2.1.all (fun f => Nat.ble 1000 f.1 || (Nat.ble 100 f.1 && Nat.blt f.1 200)) && ia_facts vs P.2.2.1)
def ia_rok (M : ia_M) (i : Instr) (S : ia_S) : Bool := S.2.2.2.2.isEmpty && (match i, iv_r M.1, S.2.2.1 with
  | .return_, none, [] => ia_ps M S.2.1 none none S.2.2.2.1
  | .ireturn, some .int, [.inl q] => ia_ps M S.2.1 none (some (.inl q)) S.2.2.2.1
  | .ireturn, some .boolean, [.inl q] => ia_wi q (0, 1) && ia_ps M S.2.1 none (some (.inl q)) S.2.2.2.1
  | .areturn, some (.object _), [.inr (.inl cs)] => ia_ps M S.2.1 none (some (.inr (.inl cs))) S.2.2.2.1
  | .areturn, some (.array _), [.inr (.inl cs)] => ia_ps M S.2.1 none (some (.inr (.inl cs))) S.2.2.2.1
  | _, _, _ => false)
-- cuts
def ia_nrm (vs : List (Nat × ia_V)) : List (Nat × ia_V) := vs.map (fun q => match q.2 with
  | .inl p => (q.1, .inl ⟨p.1, ia_ru vs p.2.2.2 p.2.1, p.2.2.1, p.2.2.2⟩)
  | a => (q.1, a))
/-- a split's location: from 1000000 on the element of an array that one of the locals tells -/
def ia_sl (vs : List (Nat × ia_V)) (n : Nat) : Nat := bif Nat.ble 100000000 n then 10000 * ((n - 100000000) / 100 + 1) + (ia_q vs ((n - 100000000) % 100)).1.toNat else n
def ia_vals (lo : Int) : Nat → List Int
  | 0 => []
  | k + 1 => lo :: ia_vals (lo + 1) k
def ia_sp1 (n : Nat) (vs : List (Nat × ia_V)) : List (List (Nat × ia_V)) := bif decide ((ia_q vs n).1 = (ia_q vs n).2.1) then [vs] else
  (ia_vals (ia_q vs n).1 ((ia_q vs n).2.1 - (ia_q vs n).1 + 1).toNat).filterMap (fun t => ia_ref t t ((n, 0) :: (ia_q vs n).2.2.1) vs)
def ia_spl : List Nat → List (Nat × ia_V) → List (List (Nat × ia_V))
  | [], vs => [vs]
  | n :: r, vs => (ia_sp1 (ia_sl vs n) vs).flatMap (ia_spl r)
def ia_cut (pc : Nat) : List (Nat × List Nat × List Nat) → Option (List Nat × List Nat)
  | [] => none
  | c :: r => bif Nat.beq c.1 pc then some c.2 else ia_cut pc r
def ia_ky (vs : List (Nat × ia_V)) (ks : List Nat) : Int := ks.foldl (fun a n => a * 5003 + (bif decide ((ia_q vs (ia_sl vs n)).1 = (ia_q vs (ia_sl vs n)).2.1) then (ia_q vs (ia_sl vs n)).1 else -777)) 0
def ia_leS (vs : List (Nat × ia_V)) (st : List ia_V) (N : ia_S) : Bool := N.2.1.all (fun q => match ia_find q.1 vs with
    | some a => ia_leV vs a q.2
    | none => Nat.ble 100 q.1 && ia_leV vs (.inl (ia_q vs q.1)) q.2) && ia_leL vs st N.2.2.1 && N.2.2.2.2.isEmpty
def ia_mx (k : Int) (q : ia_I) : Int := bif decide (0 ≤ k) then k * q.2.1 else k * q.1
def ia_mn (k : Int) (q : ia_I) : Int := bif decide (0 ≤ k) then k * q.1 else k * q.2.1
def ia_d1 (vs : List (Nat × ia_V)) (t n : Nat) (k k0 : Int) : Int := bif decide (k = 0) && decide (k0 = 0) then 0 else match (ia_q vs n).2.2.1.find? (fun s => Nat.beq s.1 (200 + t)) with
  | some s => ia_mx (k - k0) (ia_q vs (200 + t)) + k * s.2
  | none => ia_mx k (ia_q vs n) + ia_mx (-k0) (ia_q vs (200 + t))
def ia_dsm (vs : List (Nat × ia_V)) : Nat → List Nat → List Int → List Int → Int
  | t, n :: r, k :: ks, k0 :: ks0 => ia_d1 vs t n k k0 + ia_dsm vs (t + 1) r ks ks0
  | _, _, _, _ => 0
def ia_lsm (vs : List (Nat × ia_V)) : List Nat → List Int → Int
  | n :: r, k :: ks => ia_mn k (ia_q vs n) + ia_lsm vs r ks
  | _, _ => 0
def ia_arr (M : ia_M) (N0 : ia_N) (sp : List Nat × List Nat) (S : ia_S) : Bool := S.2.2.2.2.isEmpty && (ia_spl sp.1 (ia_nrm S.2.1)).all (fun vs => M.2.2.2.2.2.2.2.2.2.2.any (fun N => Nat.beq N.1.1 S.1 && decide (N.2.2.2 = ia_ky vs sp.2) && Nat.beq N.1.2.2.2.1 S.2.2.2.1 && ia_leS vs S.2.2.1 N.1 && decide (N.2.1 - N0.2.1 + ia_dsm vs 0 M.2.2.2.2.2.2.2.2.1 N.2.2.1 N0.2.2.1 ≤ -1)))
-- a block
def ia_gh : Nat → List Nat → List (Nat × ia_V) → List (Nat × ia_V)
  | _, [], vs => vs
  | t, n :: r, vs => ia_gh (t + 1) r ((200 + t, .inl ⟨(ia_q vs n).1, (ia_q vs n).2.1, [], []⟩) :: (match Nat.blt n 100, ia_find n vs with
    | _, some (.inl q) => (n, .inl ⟨q.1, q.2.1, (200 + t, 0) :: q.2.2.1, q.2.2.2⟩) :: ia_rm n vs
    | false, none => (n, .inl ⟨(ia_q vs n).1, (ia_q vs n).2.1, [(200 + t, 0)], []⟩) :: vs
    | _, _ => vs))
def ia_gp (m : Nat) : Bool := Nat.ble 200 m && Nat.blt m 300
def ia_st0 (M : ia_M) (S : ia_S) : ia_S := ⟨S.1, ia_gh 0 M.2.2.2.2.2.2.2.2.1 (ia_drp ia_gp S.2.1), S.2.2.1.map (ia_rv (ia_fp ia_gp)), S.2.2.2.1, S.2.2.2.2⟩
def ia_rcv (k ν : Nat) (as : List ia_V) : Bool := Nat.ble (ia_cs as) (iv_L ν) && (match k, as with
  | 0, .inr (.inl cs) :: _ => cs.all (fun a => match ia_cell a with
    | some (.inl (c, _)) => Nat.beq c (iv_cn ν)
    | _ => false)
  | 1, .inr (.inl cs) :: _ => cs.all (fun a => match ia_cell a with
    | some (.inl (c, _)) => Nat.beq c (iv_cn ν)
    | _ => false)
  | 2, _ => true
  | 3, _ => true
  | _, _ => false)
/-- the rows from pc on -/
def ia_fs (pc : Nat) : List (Nat × Instr × Nat) → List (Nat × Instr × Nat)
  | [] => []
  | e :: r => bif Nat.beq e.1 pc then e :: r else ia_fs pc r
def ia_sx (pc μ : Nat) (T : List (Nat × Instr × Nat)) : List (Nat × Instr × Nat) := match ia_fs pc T with
  | [] => ia_fs pc (iv_t μ)
  | r => r
def ia_inc : List (Nat × Instr × Nat) → Bool
  | [] => true
  | e :: r => r.all (fun q => Nat.blt e.1 q.1) && ia_inc r
def ia_cal (M : ia_M) (x : Nat) (S : ia_S) (Q : ia_M) : Bool := Nat.ble 1 Q.2.1 && Nat.blt Q.2.1 M.2.1 && Q.2.2.2.2.2.1.all (fun q => ia_mem q M.2.2.2.2.2.1) && Q.2.2.2.2.2.2.1.all (fun t => ia_cov M.2.2.2.2.2.2.1 t.1 t.2.1 t.2.2) && Q.2.2.1.all (ia_tg (fun m => Nat.ble 1000 m)) && Q.2.2.2.2.1.all (fun P => match P.2.1 with
  | some b => ia_tg (fun m => Nat.ble 1000 m) b
  | none => true)
/-- an end of a call; ih: the rest of the way -/
def ia_exb (ih : ia_S → Bool) (M : ia_M) (x : Nat) (S : ia_S) (as rest : List ia_V) (Q : ia_M) (P : ia_P) : Bool := match ia_aft S as rest Q P with
  | none => true
  | some S2 => match P.1 with
    | none => ih S2
    | some q => Nat.blt x 2000 && (bif (iv_h M.1).isEmpty then ia_ps M S2.2.1 (some q) none S2.2.2.2.1 else match iv_hd (iv_h M.1) S.1 q with
      | none => false
      | some pj => Nat.blt pj.2 100 && ih ⟨pj.1, ia_nol S2.2.1 pj.2, [], S2.2.2.2.1, []⟩)
def ia_exc (ih : ia_S → Bool) (cal : List ia_M) (M : ia_M) (x : Nat) (S : ia_S) (c : Nat) (as rest : List ia_V) : Bool := Nat.beq as.length c && Nat.ble (ia_cs rest) 8 && S.2.2.2.2.isEmpty && ia_rcv (x / 1000) (x % 1000) as && (match cal.find? (fun Q => Nat.beq Q.1 (x % 1000) && ia_pre S as Q) with
  | none => false
  | some Q => ia_cal M x S Q && Q.2.2.2.2.1.all (ia_exb ih M x S as rest Q))
def ia_exk (ih : ia_S → Bool) (cal : List ia_M) (M : ia_M) (S : ia_S) (i : Instr) (x : Nat) : Bool := match iv_kd i x with
  | 0 => match ia_step M.2.2.2.2.2.1 M.2.2.2.2.2.2.1 M.2.2.2.2.2.2.2.1 (iv_L M.1) i x S with
    | none => false
    | some Ss => Ss.all ih
  | 1 => ia_rok M i S
  | 2 => Nat.blt x 1003 && Nat.ble (ia_cs S.2.2.1) 8 && S.2.2.2.2.isEmpty && ia_ps M S.2.1 (some (x - 1000)) none (S.2.2.2.1 + 1)
  | 3 => false
  | 4 => match ia_lib M.2.2.2.2.2.2.1 x S with
    | none => false
    | some Ss => Ss.all ih
  | _ => ia_exc ih cal M x S (iv_cv (iv_np (x % 1000)) (x / 1000)) (S.2.2.1.take (iv_cv (iv_np (x % 1000)) (x / 1000))).reverse (S.2.2.1.drop (iv_cv (iv_np (x % 1000)) (x / 1000)))
def ia_exi (ih : List (Nat × Instr × Nat) → ia_S → Bool) (cal : List ia_M) (M : ia_M) (T : List (Nat × Instr × Nat)) (S : ia_S) : Bool := match ia_sx S.1 M.1 T with
  | [] => false
  | (_, i, x) :: T2 => ia_exk (ih T2) cal M S i x
def ia_exB (cal : List ia_M) (M : ia_M) (N0 : ia_N) (ih : Bool → List (Nat × Instr × Nat) → ia_S → Bool) (first : Bool) (T : List (Nat × Instr × Nat)) (S : ia_S) : Bool := match first with
  | false => (match ia_cut S.1 M.2.2.2.2.2.2.2.2.2.1 with
    | some sp => ia_arr M N0 sp S
    | none => ia_exi (ih false) cal M T S)
  | true => ia_exi (ih false) cal M T S
noncomputable def ia_ex (cal : List ia_M) (M : ia_M) (N0 : ia_N) (f : Nat) : Bool → List (Nat × Instr × Nat) → ia_S → Bool := Nat.rec (fun _ _ _ => false) (fun _ ih => ia_exB cal M N0 ih) f
def ia_ent (M : ia_M) : Nat → List ia_V → List (Nat × ia_V)
  | _, [] => M.2.2.2.1.map (fun f => (f.1, .inl ⟨f.2.1, f.2.2, [], []⟩))
  | k, a :: r => match a with
    | .inl q => (k, .inl ⟨q.1, q.2.1, (100 + k, 0) :: q.2.2.1, q.2.2.2⟩) :: (100 + k, .inl ⟨q.1, q.2.1, [], []⟩) :: ia_ent M (k + 1) r
    | a => (k, a) :: ia_ent M (k + ia_cat a) r
/-- the beginning as a cut -/
def ia_n0 (M : ia_M) : ia_N := ⟨⟨0, ia_ent M 0 M.2.2.1, [], 0, []⟩, 1000000000000000000000000000000, M.2.2.2.2.2.2.2.2.1.map (fun _ => 0), 0⟩
def ia_fuel : Nat := 100000
def ia_ch1 (M : ia_M) : Bool := M.2.2.1.all (ia_tg (fun m => Nat.ble 1000 m)) && M.2.2.2.1.all (fun f => Nat.ble 1000 f.1) && Nat.ble 1 M.2.1 && Nat.blt (ia_cs M.2.2.1) 100 && M.2.2.2.2.2.2.2.2.1.all (fun m => !(ia_gp m)) && Nat.blt M.2.2.2.2.2.2.2.2.1.length 100 &&
  M.2.2.2.2.2.2.2.2.2.2.all (fun N => decide (0 ≤ N.2.1 + ia_lsm N.1.2.1 M.2.2.2.2.2.2.2.2.1 N.2.2.1) && Nat.beq N.2.2.1.length M.2.2.2.2.2.2.2.2.1.length)
noncomputable def ia_ch2 (cal : List ia_M) (M : ia_M) (ns : List ia_N) : Bool := ns.all (fun N => ia_ex cal M N ia_fuel true [] (ia_st0 M N.1))
