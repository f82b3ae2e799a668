/-! every step -/
section
variable {L : Nat} {xs : Nat → Int32} {μ x : Nat} {i : Instr} {S : ia_S} {Ss : List ia_S} {lv : List (Nat × Value)} {st : List Value} {A : Nat → Nat → Int32} {F g : Nat → Int32} {B : Nat → Int64} {md tk : List Nat} {am : List (Nat × Nat × Nat)}
theorem ia_prS (hok : ia_ok S lv st A F g) (h : S.2.2.2.2.isEmpty = true) : ia_pr (ia_ev lv A F g) := by
  have h1 := hok.2.2
  rw [List.isEmpty_iff.mp h] at h1
  exact ia_pr_ev h1
theorem ia_lli_ok (hok : ia_ok S lv st A F g) {pc2 k : Nat} (h : ia_lli S pc2 k = some Ss) : ∃ y, iv_ldi lv k = some y ∧ ia_res (some (pc2, lv, .int y :: st, ia_wd A F B)) Ss S.2.2.2.1 A F g md am := by
  unfold ia_lli at h
  split at h
  · next q hk e =>
    obtain ⟨y, h1, h2⟩ := ia_ldv_ok hok (ia_blt hk) e
    exact ⟨y, h1, ia_go_ok hok h ⟨h2, hok.2.1⟩⟩
  · cases h
theorem ia_lla_ok (hok : ia_ok S lv st A F g) {pc2 k : Nat} (h : ia_lla S pc2 k = some Ss) : ∃ y, iv_lda lv k = some y ∧ ia_res (some (pc2, lv, .ref y :: st, ia_wd A F B)) Ss S.2.2.2.1 A F g md am := by
  unfold ia_lla at h
  split at h
  · next q hk e =>
    obtain ⟨y, h1, h2⟩ := ia_find_r hok (ia_blt hk) e
    exact ⟨y, h1, ia_go_ok hok h ⟨h2, hok.2.1⟩⟩
  · cases h
theorem ia_lll_ok (hok : ia_ok S lv st A F g) {pc2 k : Nat} (h : ia_lll S pc2 k = some Ss) : ∃ y, iv_ldl lv k = some y ∧ ia_res (some (pc2, lv, .long y :: st, ia_wd A F B)) Ss S.2.2.2.1 A F g md am := by
  unfold ia_lll at h
  split at h
  · next hk e =>
    obtain ⟨y, h1⟩ := ia_find_l hok (ia_blt hk) e
    exact ⟨y, h1, ia_go_ok hok h ⟨trivial, hok.2.1⟩⟩
  · cases h
theorem ia_sti_ok (hok : ia_ok S lv st A F g) {nl pc2 k : Nat} (h : ia_sti S nl pc2 k = some Ss) : ∃ y s, st = .int y :: s ∧ k < nl ∧ ia_res (some (pc2, iv_st1 lv k (.int y), s, ia_wd A F B)) Ss S.2.2.2.1 A F g md am := by
  unfold ia_sti at h
  split at h
  · next q r hk e =>
    have hs := hok.2.1
    rw [e] at hs
    obtain ⟨y, s, rfl, h1, h2⟩ := ia_sk_i hs
    exact ⟨y, s, rfl, ia_blt hk, ia_gs_ok (v := .int y) hok h h1 h2⟩
  · cases h
theorem ia_sta_ok (hok : ia_ok S lv st A F g) {nl pc2 k : Nat} (h : ia_sta S nl pc2 k = some Ss) : ∃ y s, st = .ref y :: s ∧ k < nl ∧ ia_res (some (pc2, iv_st1 lv k (.ref y), s, ia_wd A F B)) Ss S.2.2.2.1 A F g md am := by
  unfold ia_sta at h
  split at h
  · next q r hk e =>
    have hs := hok.2.1
    rw [e] at hs
    obtain ⟨y, s, rfl, h1, h2⟩ := ia_sk_r hs
    exact ⟨y, s, rfl, ia_blt hk, ia_gs_ok (v := .ref y) hok h h1 h2⟩
  · cases h
theorem ia_n8 {n : Int} (h1 : -128 ≤ n) (h2 : n ≤ 127) : ((Int8.ofInt n).toInt32).toInt = n := by
  rw [Int8.toInt_toInt32, Int8.toInt_ofInt]
  have e : ((Int8.size : Nat) : Int) = 256 := rfl
  exact Int.bmod_eq_of_le (by omega) (by omega)
theorem ia_n16 {n : Int} (h1 : -32768 ≤ n) (h2 : n ≤ 32767) : ((Int16.ofInt n).toInt32).toInt = n := by
  rw [Int16.toInt_toInt32, Int16.toInt_ofInt]
  have e : ((Int16.size : Nat) : Int) = 65536 := rfl
  exact Int.bmod_eq_of_le (by omega) (by omega)
theorem ia_n32 {n : Int} (h : ia_fit n n = true) : (Int32.ofInt n).toInt = n := by
  have := ia_fit_ok h
  rw [Int32.toInt_ofInt]
  exact ia_bm (by omega) (by omega)
theorem ia_nn {n : Nat} (h : ia_fit (n : Int) (n : Int) = true) : (Int32.ofNat n).toInt = (n : Int) := by
  have := ia_fit_ok h
  show (BitVec.ofNat 32 n).toInt = _
  rw [BitVec.toInt_ofNat']
  exact ia_bm (by omega) (by omega)
theorem ia_tyok_ok {E : Nat → Int32} {ty : FieldType} {q : ia_I} {v : Int32} (h : ia_tyok ty q = true) (hq : ia_ii E q v) : iv_fit ty (.int v) = true := by
  unfold ia_tyok at h
  split at h
  · rfl
  · rw [Bool.and_eq_true, decide_eq_true_eq, decide_eq_true_eq] at h
    have p1 := hq.1
    have p2 := hq.2.1
    have : v.toInt = 0 ∨ v.toInt = 1 := by omega
    unfold iv_fit
    rw [Bool.or_eq_true, beq_iff_eq, beq_iff_eq]
    rcases this with e | e
    · exact Or.inl (Int32.toInt_inj.mp e)
    · exact Or.inr (Int32.toInt_inj.mp e)
  · cases h
theorem ia_nar {v : Int32} (h1 : 0 ≤ v.toInt) (h2 : v.toInt ≤ 1) : vp_nar .boolean v = v := by
  have : v.toInt = 0 ∨ v.toInt = 1 := by omega
  rcases this with e | e
  · obtain rfl : v = 0 := Int32.toInt_inj.mp e
    decide
  · obtain rfl : v = 1 := Int32.toInt_inj.mp e
    decide
theorem ia_pf_ok (hok : ia_ok S lv st A F g) {pc2 ci f a : Nat} {q : ia_I} {v : Int32} {cs : List Nat} {r : List ia_V} {s : List Value} (hq : ia_ii (ia_ev lv A F g) q v) (hr : ia_sk (ia_ev lv A F g) r s) (ha : a ∈ cs) (ht : ia_tyok (iv_ty ci f) q = true) (hc : cs.all (ia_pf1 md ci f q) = true)
    (h : some [ia_pfs S pc2 ci f q r cs] = some Ss) :
    ∃ fs, iv_obj (ia_wd A F B) a ci = some fs ∧ (f < fs.length ∧ iv_fit (iv_ty ci f) (.int v) = true) ∧ ia_res (some (pc2, lv, s, (ia_wd A F B).set (a - 1) (.inr (ci, fs.set f (.int v))))) Ss S.2.2.2.1 A F g md am := by
  have h1 := List.all_eq_true.mp hc a ha
  unfold ia_pf1 at h1
  split at h1
  · next p e =>
    rw [Bool.and_eq_true, Bool.and_eq_true] at h1
    obtain ⟨⟨h1, h2⟩, h3⟩ := h1
    have hp := ia_blt h1
    have h4 := ia_wi_ok h3 hq
    obtain ⟨k, fs, rfl, e1, e2, e3⟩ := ia_of_ok (A := A) (F := F) (B := B) e
    have e4 := (ia_sh_f e1).2 f p e2
    refine ⟨_, e3, ⟨by rw [List.length_map]; exact (List.getElem?_eq_some_iff.mp e2).1, ia_tyok_ok ht hq⟩, ?_⟩
    rw [Nat.add_sub_cancel, ia_set_fld e1 e2]
    have hE : ∀ m, ia_ev lv A (ia_uF F p v) g m = if m = 1000 + p then v else ia_ev lv A F g m := fun m => ia_ev_F hp m
    have hfr : ia_fr md am A F A (ia_uF F p v) := by
      refine ⟨fun n hn => ?_, fun _ _ _ _ => rfl⟩
      unfold ia_uF
      rw [if_neg]
      rintro rfl
      rw [h2] at hn
      cases hn
    have hin := ia_inv_F hok.2.2 hp h4.1 h4.2
    cases cs with
    | nil => cases ha
    | cons b tl =>
      cases tl with
      | nil =>
        rw [List.mem_singleton] at ha
        subst ha
        cases h
        simp only [ia_pfs]
        rw [← e4]
        have hE1 : ∀ m, m ≠ 1000 + p → ia_ev lv A (ia_uF F p v) g m = ia_ev lv A F g m := fun m hm => by rw [hE m, if_neg hm]
        have hE2 : ia_ev lv A (ia_uF F p v) g (1000 + p) = v := by rw [hE, if_pos rfl]
        exact ⟨_, List.mem_singleton.mpr rfl, lv, s, A, _, B, rfl, ⟨ia_stw_ok (a := .inl q) hok.1 (by omega) hE1 hE2 hq, ia_sk_rv (ia_fw_ok (a := .inl q) hE1 hE2 hq) hr, hin⟩, rfl, hfr⟩
      | cons c tl =>
        cases h
        have hw : ∀ m, ia_pfp ci f (b :: c :: tl) m = false → ia_ev lv A (ia_uF F p v) g m = ia_ev lv A F g m := fun m hm => by
          rw [hE m, if_neg]
          rintro rfl
          have : ia_pfp ci f (b :: c :: tl) (1000 + p) = true := List.any_eq_true.mpr ⟨k + 1, ha, by rw [e4]; exact Nat.beq_refl _⟩
          rw [this] at hm
          cases hm
        exact ⟨_, List.mem_singleton.mpr rfl, lv, s, A, _, B, rfl, ⟨ia_drp_ok hok.1 hw, ia_sk_rv (ia_fp_ok hw) hr, hin⟩, rfl, hfr⟩
  · cases h1
theorem ia_len_ok {a n : Nat} (h : ia_len a = some n) : ∃ t, iv_len (ia_wd A F B) a = some (t, n) := by
  unfold ia_len at h
  split at h
  · next t n' e =>
    cases hb : Nat.blt t 4 with
    | false => rw [hb] at h; cases h
    | true =>
      rw [hb] at h
      cases h
      obtain ⟨k, rfl, hk⟩ := ia_cell_eq e
      refine ⟨t, ?_⟩
      unfold iv_len
      simp only [ia_wd_get, hk, Option.map_some, ia_mk]
      rw [if_pos (ia_blt hb)]
  · next n' rs e =>
    cases h
    obtain ⟨k, rfl, hk⟩ := ia_cell_eq e
    refine ⟨3, ?_⟩
    unfold iv_len
    simp only [ia_wd_get, hk, Option.map_some, ia_mk]
    rw [if_pos (by omega)]
  · cases h
theorem ia_len_ne {a n : Nat} (h : ia_len a = some n) : a ≠ 0 := by
  rintro rfl
  cases h
theorem ia_qn_ok {a : Nat} {rs : List (Nat × Nat)} (h : ia_qn a = some rs) : iv_aq (ia_wd A F B) a = some (rs.length, ia_qf rs) ∧ ∀ j, j < rs.length → ∃ b, ia_qf rs j = some b ∧ (j, b) ∈ rs := by
  unfold ia_qn at h
  split at h
  · next n rs' e =>
    cases hb : (Nat.beq n rs'.length && (List.range rs'.length).all (ia_qck rs')) with
    | false => rw [hb] at h; cases h
    | true =>
      rw [hb] at h
      cases h
      rw [Bool.and_eq_true] at hb
      obtain rfl := Nat.eq_of_beq_eq_true hb.1
      obtain ⟨k, rfl, hk⟩ := ia_cell_eq e
      refine ⟨?_, fun j hj => ?_⟩
      · unfold iv_aq
        simp only [ia_wd_get, hk, Option.map_some, ia_mk, if_true]
      · have h1 := List.all_eq_true.mp hb.2 j (List.mem_range.mpr hj)
        unfold ia_qck at h1
        split at h1
        · next b eb =>
          refine ⟨b, eb, ?_⟩
          obtain ⟨p, hp, h2⟩ := List.any_eq_true.mp h1
          rw [Bool.and_eq_true] at h2
          rw [← Nat.eq_of_beq_eq_true h2.1, ← Nat.eq_of_beq_eq_true h2.2]
          exact hp
        · cases h1
  · cases h
set_option maxHeartbeats 8000000 in
theorem ia_step_ok (hok : ia_ok S lv st A F g) (h : ia_step md am tk (iv_L μ) i x S = some Ss) : ia_res (iv_step L xs μ i x S.1 lv st (ia_wd A F B)) Ss S.2.2.2.1 A F g md am := by
  cases i
  case iconst n =>
    exact ia_num_ok hok h ia_n32
  case bipush n =>
    simp only [ia_step] at h
    cases hb : (decide (-128 ≤ n) && decide (n ≤ 127)) with
    | false => rw [hb] at h; cases h
    | true =>
      rw [hb] at h
      rw [Bool.and_eq_true, decide_eq_true_eq, decide_eq_true_eq] at hb
      exact ia_num_ok hok h (fun _ => ia_n8 hb.1 hb.2)
  case sipush n =>
    simp only [ia_step] at h
    cases hb : (decide (-32768 ≤ n) && decide (n ≤ 32767)) with
    | false => rw [hb] at h; cases h
    | true =>
      rw [hb] at h
      rw [Bool.and_eq_true, decide_eq_true_eq, decide_eq_true_eq] at hb
      exact ia_num_ok hok h (fun _ => ia_n16 hb.1 hb.2)
  case ldc n =>
    exact ia_num_ok hok h ia_nn
  case iload_n k =>
    obtain ⟨y, h1, h2⟩ := ia_lli_ok (B := B) (md := md) (am := am) hok h
    simp only [iv_step, h1]
    exact h2
  case iload k =>
    obtain ⟨y, h1, h2⟩ := ia_lli_ok (B := B) (md := md) (am := am) hok h
    simp only [iv_step, h1]
    exact h2
  case lload_n k =>
    obtain ⟨y, h1, h2⟩ := ia_lll_ok (B := B) (md := md) (am := am) hok h
    simp only [iv_step, h1]
    exact h2
  case lload k =>
    obtain ⟨y, h1, h2⟩ := ia_lll_ok (B := B) (md := md) (am := am) hok h
    simp only [iv_step, h1]
    exact h2
  case aload_n k =>
    obtain ⟨y, h1, h2⟩ := ia_lla_ok (B := B) (md := md) (am := am) hok h
    simp only [iv_step, h1]
    exact h2
  case aload k =>
    obtain ⟨y, h1, h2⟩ := ia_lla_ok (B := B) (md := md) (am := am) hok h
    simp only [iv_step, h1]
    exact h2
  case istore_n k =>
    obtain ⟨y, s, rfl, h1, h2⟩ := ia_sti_ok (B := B) (md := md) (am := am) hok h
    simp only [iv_step, iv_p1]
    rw [if_pos h1]
    exact h2
  case istore k =>
    obtain ⟨y, s, rfl, h1, h2⟩ := ia_sti_ok (B := B) (md := md) (am := am) hok h
    simp only [iv_step, iv_p1]
    rw [if_pos h1]
    exact h2
  case astore_n k =>
    obtain ⟨y, s, rfl, h1, h2⟩ := ia_sta_ok (B := B) (md := md) (am := am) hok h
    simp only [iv_step, iv_pr]
    rw [if_pos h1]
    exact h2
  case astore k =>
    obtain ⟨y, s, rfl, h1, h2⟩ := ia_sta_ok (B := B) (md := md) (am := am) hok h
    simp only [iv_step, iv_pr]
    rw [if_pos h1]
    exact h2
  case iinc k n =>
    simp only [ia_step] at h
    split at h
    · next q hk e =>
      rw [Bool.and_eq_true] at hk
      unfold ia_gs at h
      cases h100 : Nat.blt k 100 with
      | false => rw [h100] at h; cases h
      | true =>
        obtain ⟨v, h1, h2⟩ := hok.1 _ (ia_find_mem e)
        have h3 := ia_vl_int h1 h2
        subst h3
        unfold ia_vl at h1
        rw [if_pos (ia_blt h100)] at h1
        have h4 : iv_ldi lv k = some (ia_ev lv A F g k) := by unfold iv_ldi; rw [h1]
        simp only [iv_step, h4]
        rw [if_pos (ia_blt hk.1)]
        refine ia_gs_ok (v := .int (ia_ev lv A F g k + Int32.ofInt n)) hok (show ia_gs S (S.1 + 3) k _ S.2.2.1 = some Ss from h) (ia_add_ok (ia_prS hok) ⟨h2.1, h2.2.1, fun t ht => ?_, h2.2.2.2⟩ (ia_k_ok (ia_n32 hk.2))) hok.2.1
        rcases List.mem_cons.mp ht with rfl | ht
        · exact (Int.add_zero _).symm
        · exact h2.2.2.1 t ht
    · cases h
  case iadd  =>
    simp only [ia_step] at h
    split at h
    · next y z r e =>
      have hk := hok.2.1
      rw [e] at hk
      obtain ⟨b, s1, rfl, hb, hk1⟩ := ia_sk_i hk
      obtain ⟨a, s2, rfl, ha, hk2⟩ := ia_sk_i hk1
      exact ia_go_ok hok h ⟨ia_add_ok (ia_prS hok) ha hb, hk2⟩
    · cases h
  case isub  =>
    simp only [ia_step] at h
    split at h
    · next y z r e =>
      have hk := hok.2.1
      rw [e] at hk
      obtain ⟨b, s1, rfl, hb, hk1⟩ := ia_sk_i hk
      obtain ⟨a, s2, rfl, ha, hk2⟩ := ia_sk_i hk1
      exact ia_go_ok hok h ⟨ia_sub_ok ha hb, hk2⟩
    · cases h
  case imul  =>
    simp only [ia_step] at h
    split at h
    · next y z r e =>
      have hk := hok.2.1
      rw [e] at hk
      obtain ⟨b, s1, rfl, hb, hk1⟩ := ia_sk_i hk
      obtain ⟨a, s2, rfl, ha, hk2⟩ := ia_sk_i hk1
      exact ia_go_ok hok h ⟨ia_mul_ok ha hb, hk2⟩
    · cases h
  case iand  =>
    simp only [ia_step] at h
    split at h
    · next y z r e =>
      have hk := hok.2.1
      rw [e] at hk
      obtain ⟨b, s1, rfl, hb, hk1⟩ := ia_sk_i hk
      obtain ⟨a, s2, rfl, ha, hk2⟩ := ia_sk_i hk1
      exact ia_go_ok hok h ⟨ia_and_ok hb, hk2⟩
    · cases h
  case idiv  =>
    simp only [ia_step] at h
    split at h
    · next y z r e =>
      have hk := hok.2.1
      rw [e] at hk
      obtain ⟨b, s1, rfl, hb, hk1⟩ := ia_sk_i hk
      obtain ⟨a, s2, rfl, ha, hk2⟩ := ia_sk_i hk1
      split at h
      · next q eq =>
        have h1 := ia_div_ok ha hb eq
        simp only [iv_step, iv_p2]
        rw [if_neg h1.1]
        exact ia_go_ok hok h ⟨h1.2, hk2⟩
      · cases h
    · cases h
  case irem  =>
    simp only [ia_step] at h
    split at h
    · next y z r e =>
      have hk := hok.2.1
      rw [e] at hk
      obtain ⟨b, s1, rfl, hb, hk1⟩ := ia_sk_i hk
      obtain ⟨a, s2, rfl, ha, hk2⟩ := ia_sk_i hk1
      split at h
      · next q eq =>
        have h1 := ia_rem_ok ha hb eq
        simp only [iv_step, iv_p2]
        rw [if_neg h1.1]
        exact ia_go_ok hok h ⟨h1.2, hk2⟩
      · cases h
    · cases h
  case i2l  =>
    simp only [ia_step] at h
    split at h
    · next y r e =>
      have hk := hok.2.1
      rw [e] at hk
      obtain ⟨b, s1, rfl, hb, hk1⟩ := ia_sk_i hk
      exact ia_go_ok hok h ⟨trivial, hk1⟩
    · cases h
  case l2i  =>
    simp only [ia_step] at h
    split at h
    · next r e =>
      have hk := hok.2.1
      rw [e] at hk
      obtain ⟨b, s1, rfl, hk1⟩ := ia_sk_l hk
      exact ia_go_ok hok h ⟨ia_top_ok _, hk1⟩
    · cases h
  case lushr  =>
    simp only [ia_step] at h
    split at h
    · next y r e =>
      have hk := hok.2.1
      rw [e] at hk
      obtain ⟨b, s1, rfl, hb, hk1⟩ := ia_sk_i hk
      obtain ⟨a, s2, rfl, hk2⟩ := ia_sk_l hk1
      exact ia_go_ok hok h ⟨trivial, hk2⟩
    · cases h
  case dup  =>
    simp only [ia_step] at h
    split at h
    · next q r e =>
      have hk := hok.2.1
      rw [e] at hk
      obtain ⟨b, s1, rfl, hb, hz⟩ := ia_sk_i hk
      exact ia_go_ok hok h ⟨hb, hb, hz⟩
    · next q r e =>
      have hk := hok.2.1
      rw [e] at hk
      obtain ⟨b, s1, rfl, hb, hz⟩ := ia_sk_r hk
      exact ia_go_ok hok h ⟨hb, hb, hz⟩
    · cases h
  case dup2  =>
    simp only [ia_step] at h
    split at h
    · next q cs r e =>
      have hk := hok.2.1
      rw [e] at hk
      obtain ⟨b, s1, rfl, hb, hk1⟩ := ia_sk_i hk
      obtain ⟨a, s2, rfl, ha, hk2⟩ := ia_sk_r hk1
      exact ia_go_ok hok h ⟨hb, ha, hb, ha, hk2⟩
    · cases h
  case goto n =>
    exact ia_go_ok hok h hok.2.1
  case ifCond c n =>
    simp only [ia_step] at h
    split at h
    · next y r e =>
      have hk := hok.2.1
      rw [e] at hk
      obtain ⟨b, s1, rfl, hb, hk1⟩ := ia_sk_i hk
      have h1 := ia_if_ok (B := B) (md := md) (am := am) hok hb (ia_k_ok (x := 0) rfl) hk1 h
      rw [← ia_c0] at h1
      exact h1
    · cases h
  case if_icmp c n =>
    simp only [ia_step] at h
    split at h
    · next z y r e =>
      have hk := hok.2.1
      rw [e] at hk
      obtain ⟨b, s1, rfl, hb, hk1⟩ := ia_sk_i hk
      obtain ⟨a, s2, rfl, ha, hk2⟩ := ia_sk_i hk1
      exact ia_if_ok hok ha hb hk2 h
    · cases h
  case tableswitch dflt lo hi offs =>
    simp only [ia_step] at h
    split at h
    · next y r e =>
      have hk := hok.2.1
      rw [e] at hk
      obtain ⟨b, s1, rfl, hb, hk1⟩ := ia_sk_i hk
      cases hc : (decide (hi - lo < (offs.size : Int)) && (dflt :: offs.toList).all (fun o => decide (0 ≤ (S.1 : Int) + o))) with
      | false => rw [hc] at h; cases h
      | true =>
        rw [hc] at h
        cases h
        rw [Bool.and_eq_true, decide_eq_true_eq] at hc
        have key : ∀ o ∈ dflt :: offs.toList, iv_sw S.1 dflt lo hi offs b = (if (S.1 : Int) + o < 0 then none else some ((S.1 : Int) + o).toNat) → ia_res (iv_step L xs μ (.tableswitch dflt lo hi offs) x S.1 lv (.int b :: s1) (ia_wd A F B)) ((dflt :: offs.toList).map (fun o => (⟨((S.1 : Int) + o).toNat, S.2.1, r, S.2.2.2.1, S.2.2.2.2⟩ : ia_S))) S.2.2.2.1 A F g md am := fun o ho hs => by
          have h1 := List.all_eq_true.mp hc.2 o ho
          rw [decide_eq_true_eq] at h1
          rw [if_neg (by omega)] at hs
          refine ⟨⟨((S.1 : Int) + o).toNat, S.2.1, r, S.2.2.2.1, S.2.2.2.2⟩, List.mem_map.mpr ⟨o, ho, rfl⟩, lv, s1, A, F, B, ?_, ⟨hok.1, hk1, hok.2.2⟩, rfl, ia_fr_refl⟩
          simp only [iv_step, iv_p1, hs]
        by_cases h2 : b.toInt < lo ∨ hi < b.toInt
        · exact key dflt List.mem_cons_self (by unfold iv_sw; rw [if_pos h2])
        · have h3 : (b.toInt - lo).toNat < offs.size := by omega
          refine key offs[(b.toInt - lo).toNat] (List.mem_cons_of_mem _ (Array.getElem_mem_toList h3)) ?_
          unfold iv_sw
          rw [if_neg h2, Array.getElem?_eq_getElem h3]
    · cases h
  case getfield n =>
    simp only [ia_step] at h
    split at h
    · next cs r e =>
      have hk := hok.2.1
      rw [e] at hk
      obtain ⟨a, s1, rfl, ha, hk1⟩ := ia_sk_r hk
      split at h
      · next V eV =>
        obtain ⟨fs, v, h1, h2, h3⟩ := ia_gf_ok (B := B) hok eV ha
        simp only [iv_step, iv_pr, h1, h2]
        exact ia_go_ok hok h ⟨h3, hk1⟩
      · cases h
    · cases h
  case putfield n =>
    simp only [ia_step] at h
    split at h
    · next q cs r e =>
      have hk := hok.2.1
      rw [e] at hk
      obtain ⟨v, s1, rfl, hv, hk1⟩ := ia_sk_i hk
      obtain ⟨a, s2, rfl, ha, hk2⟩ := ia_sk_r hk1
      cases hc : (ia_tyok (iv_ty (x / 100) (x % 100)) q && cs.all (ia_pf1 md (x / 100) (x % 100) q)) with
      | false => rw [hc] at h; cases h
      | true =>
        rw [hc] at h
        rw [Bool.and_eq_true] at hc
        obtain ⟨fs, h1, h2, h3⟩ := ia_pf_ok (B := B) (am := am) hok hv hk2 ha hc.1 hc.2 h
        simp only [iv_step, iv_pvr, h1]
        rw [if_pos h2]
        exact h3
    · cases h
  case arraylength  =>
    simp only [ia_step] at h
    split at h
    · next a0 cs r e =>
      have hk := hok.2.1
      rw [e] at hk
      obtain ⟨a, s1, rfl, ha, hk1⟩ := ia_sk_r hk
      split at h
      · next m em =>
        cases hc : (ia_lens m (a0 :: cs) && Nat.blt m 100000) with
        | false => rw [hc] at h; cases h
        | true =>
          rw [hc] at h
          rw [Bool.and_eq_true] at hc
          have h1 := List.all_eq_true.mp hc.1 a ha
          split at h1
          · next m2 em2 =>
            obtain rfl := Nat.eq_of_beq_eq_true h1
            obtain ⟨t, h2⟩ := ia_len_ok (A := A) (F := F) (B := B) em2
            simp only [iv_step, iv_pr]
            rw [if_neg (ia_len_ne em2), h2]
            have := ia_blt hc.2
            refine ia_go_ok hok h ⟨ia_k_ok ?_, hk1⟩
            exact ia_nn (by unfold ia_fit; rw [Bool.and_eq_true, decide_eq_true_eq, decide_eq_true_eq]; omega)
          · cases h1
      · cases h
    · cases h
  case iaload  =>
    simp only [ia_step] at h
    split at h
    · next j cs r e =>
      have hk := hok.2.1
      rw [e] at hk
      obtain ⟨y, s1, rfl, hy, hk1⟩ := ia_sk_i hk
      obtain ⟨a, s2, rfl, ha, hk2⟩ := ia_sk_r hk1
      split at h
      · next V eV =>
        obtain ⟨n, h1, h2, h3, h4⟩ := ia_al_ok hok hy eV ha
        obtain ⟨k, rfl, -, h5⟩ := ia_an_ok (A := A) (F := F) (B := B) h1
        simp only [iv_step, iv_pir, h5]
        rw [if_neg (by omega), if_pos (ia_in_ok h2 h3)]
        exact ia_go_ok hok h ⟨h4, hk2⟩
      · cases h
    · cases h
  case baload  =>
    simp only [ia_step] at h
    split at h
    · next j cs r e =>
      have hk := hok.2.1
      rw [e] at hk
      obtain ⟨y, s1, rfl, hy, hk1⟩ := ia_sk_i hk
      obtain ⟨a, s2, rfl, ha, hk2⟩ := ia_sk_r hk1
      split at h
      · next V eV =>
        obtain ⟨n, h1, h2, h3, h4⟩ := ia_al_ok hok hy eV ha
        obtain ⟨k, rfl, -, h5⟩ := ia_an_ok (A := A) (F := F) (B := B) h1
        simp only [iv_step, iv_pir, h5]
        rw [if_pos (ia_in_ok h2 h3)]
        exact ia_go_ok hok h ⟨h4, hk2⟩
      · cases h
    · cases h
  case aaload  =>
    simp only [ia_step] at h
    split at h
    · next j a0 r e =>
      have hk := hok.2.1
      rw [e] at hk
      obtain ⟨y, s1, rfl, hy, hk1⟩ := ia_sk_i hk
      obtain ⟨a, s2, rfl, ha, hk2⟩ := ia_sk_r hk1
      rw [List.mem_singleton] at ha
      subst ha
      split at h
      · next rs er =>
        cases hc : (decide (0 ≤ j.1) && decide (j.2.1 < (rs.length : Int))) with
        | false => rw [hc] at h; cases h
        | true =>
          rw [hc] at h
          rw [Bool.and_eq_true, decide_eq_true_eq, decide_eq_true_eq] at hc
          have p1 := hy.1
          have p2 := hy.2.1
          obtain ⟨h1, h2⟩ := ia_qn_ok (A := A) (F := F) (B := B) er
          obtain ⟨b, h3, h4⟩ := h2 y.toInt.toNat (by omega)
          simp only [iv_step, iv_pir, h1, ia_tn, h3]
          rw [if_pos (ia_in_ok (by omega) (by omega))]
          refine ia_go_ok hok h ⟨List.mem_map.mpr ⟨(y.toInt.toNat, b), List.mem_filter.mpr ⟨h4, ?_⟩, rfl⟩, hk2⟩
          rw [Bool.and_eq_true, decide_eq_true_eq, decide_eq_true_eq]
          dsimp only
          omega
      · cases h
    · cases h
  case iastore  =>
    simp only [ia_step] at h
    split at h
    · next q j cs r e =>
      have hk := hok.2.1
      rw [e] at hk
      obtain ⟨v, s1, rfl, hv, hk1⟩ := ia_sk_i hk
      obtain ⟨y, s2, rfl, hy, hk2⟩ := ia_sk_i hk1
      obtain ⟨a, s3, rfl, ha, hk3⟩ := ia_sk_r hk2
      cases hc : (cs.all (ia_as1 am 0 j q)) with
      | false => rw [hc] at h; cases h
      | true =>
        rw [hc] at h
        dsimp only [cond_true] at h
        cases hS : ia_ast tk S (S.1 + 1) j q cs r with
        | none => rw [hS] at h; cases h
        | some S2 =>
          rw [hS] at h
          cases h
          have hs := List.all_eq_true.mp hc a ha
          have hs0 := hs
          obtain ⟨h1, h2, h3, h4, h5, h6⟩ := ia_ast_ok (n := 0) (md := md) hok hy hv hk3 ha hs hS
          unfold ia_as1 at hs
          split at hs
          · next n en =>
            rw [Bool.and_eq_true, Bool.and_eq_true, Bool.and_eq_true, Bool.and_eq_true, Bool.and_eq_true, decide_eq_true_eq, decide_eq_true_eq] at hs
            have p2 := hy.2.1
            obtain ⟨k, rfl, h7, h8⟩ := ia_an_ok (A := A) (F := F) (B := B) en
            simp only [iv_step, iv_piir, h8]
            rw [if_pos (ia_in_ok h1 (by omega)), Nat.add_sub_cancel, ia_set_arr h7]
            exact ⟨S2, List.mem_singleton.mpr rfl, lv, s3, _, F, B, by rw [h4]; rfl, h3, h5, h6⟩
          · cases hs
    · cases h
  case bastore  =>
    simp only [ia_step] at h
    split at h
    · next q j cs r e =>
      have hk := hok.2.1
      rw [e] at hk
      obtain ⟨v, s1, rfl, hv, hk1⟩ := ia_sk_i hk
      obtain ⟨y, s2, rfl, hy, hk2⟩ := ia_sk_i hk1
      obtain ⟨a, s3, rfl, ha, hk3⟩ := ia_sk_r hk2
      cases hc : (cs.all (ia_as1 am 1 j q) && ia_wi q (0, 1)) with
      | false => rw [hc] at h; cases h
      | true =>
        rw [hc] at h
        rw [Bool.and_eq_true] at hc
        dsimp only [cond_true] at h
        cases hS : ia_ast tk S (S.1 + 1) j q cs r with
        | none => rw [hS] at h; cases h
        | some S2 =>
          rw [hS] at h
          cases h
          have hs := List.all_eq_true.mp hc.1 a ha
          have hs0 := hs
          obtain ⟨h1, h2, h3, h4, h5, h6⟩ := ia_ast_ok (n := 0) (md := md) hok hy hv hk3 ha hs hS
          unfold ia_as1 at hs
          split at hs
          · next n en =>
            rw [Bool.and_eq_true, Bool.and_eq_true, Bool.and_eq_true, Bool.and_eq_true, Bool.and_eq_true, decide_eq_true_eq, decide_eq_true_eq] at hs
            have p2 := hy.2.1
            obtain ⟨k, rfl, h7, h8⟩ := ia_an_ok (A := A) (F := F) (B := B) en
            simp only [iv_step, iv_piir, h8]
            have hw := ia_wi_ok hc.2 hv
            rw [ia_nar hw.1 hw.2]
            rw [if_pos (ia_in_ok h1 (by omega)), Nat.add_sub_cancel, ia_set_arr h7]
            exact ⟨S2, List.mem_singleton.mpr rfl, lv, s3, _, F, B, by rw [h4]; rfl, h3, h5, h6⟩
          · cases hs
    · cases h
  case lastore  =>
    simp only [ia_step] at h
    split at h
    · next j r e =>
      have hk := hok.2.1
      rw [e] at hk
      obtain ⟨v, s1, rfl, hk1⟩ := ia_sk_l hk
      obtain ⟨y, s2, rfl, hy, hk2⟩ := ia_sk_i hk1
      obtain ⟨a, s3, rfl, ha, hk3⟩ := ia_sk_r hk2
      rw [List.mem_singleton] at ha
      subst ha
      cases hc : (decide (j.1 = 0) && decide (j.2.1 = 0)) with
      | false => rw [hc] at h; cases h
      | true =>
        rw [hc] at h
        rw [Bool.and_eq_true, decide_eq_true_eq, decide_eq_true_eq] at hc
        have p1 := hy.1
        have p2 := hy.2.1
        have hl : ia_sh[64]? = some (.inr (.inr (.inr 1))) := rfl
        have h1 : iv_al (ia_wd A F B) 65 = some (1, B) := by
          unfold iv_al
          simp only [ia_wd_get, hl, Option.map_some, ia_mk, if_true]
        simp only [iv_step, iv_plir, h1]
        rw [if_pos (ia_in_ok (by omega) (by omega)), show (65 - 1 : Nat) = 64 from rfl]
        have e2 : (ia_wd A F B).set 64 (.inl (2, 1, .inr (.inl (vp_updL B y.toNatClampNeg v)))) = ia_wd A F (vp_updL B y.toNatClampNeg v) := by
          refine ia_wd_set (c := .inr (.inr (.inr 1))) hl (fun i c' hi hs => ?_)
          cases c' using ia_Cc with
          | l n => exact (hi (ia_sh_l hs)).elim
          | _ => rfl
        rw [e2]
        exact ia_go_ok hok h hk3
    · cases h
  all_goals exact (by cases (show none = some Ss from h))
end
