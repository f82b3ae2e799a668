/-! the pieces of the check are sound -/
section
variable {lv : List (Nat × Value)} {A A2 : Nat → Nat → Int32} {F F2 g g2 : Nat → Int32} {br : List Nat} {vs : List (Nat × ia_V)}
theorem ia_leV_ok (hv : ia_vk lv A F g vs) (hi : ia_inv A F br) {a b : ia_V} {v : Value} (h : ia_leV vs a b = true) (ha : ia_in (ia_ev lv A F g) a v) : ia_in (ia_ev lv A F g) b v := by
  unfold ia_leV at h
  split at h
  · next p q =>
    rw [Bool.and_eq_true, Bool.and_eq_true, Bool.and_eq_true, decide_eq_true_eq, decide_eq_true_eq] at h
    obtain ⟨⟨⟨h1, h2⟩, h3⟩, h4⟩ := h
    cases v with
    | int x =>
      have p1 := ha.1
      have p2 := ha.2.1
      refine ⟨by omega, by omega, fun t ht => ?_, fun t ht => ia_ub_ok hv hi ha (List.all_eq_true.mp h4 t ht)⟩
      obtain ⟨s, hs, h5⟩ := List.any_eq_true.mp (List.all_eq_true.mp h3 t ht)
      rw [Bool.and_eq_true, decide_eq_true_eq] at h5
      have h6 := ha.2.2.1 s hs
      rw [Nat.eq_of_beq_eq_true h5.1, h5.2] at h6
      exact h6
    | _ => exact ha.elim
  · next p q =>
    cases v with
    | ref x => exact ia_mem_iff.mp (List.all_eq_true.mp h x ha)
    | _ => exact ha.elim
  · exact ha
  · cases h
theorem ia_leL_ok (hv : ia_vk lv A F g vs) (hi : ia_inv A F br) : ∀ {a b : List ia_V} {s : List Value}, ia_leL vs a b = true → ia_sk (ia_ev lv A F g) a s → ia_sk (ia_ev lv A F g) b s
  | [], [], _, _, hs => hs
  | a :: r, b :: r2, [], _, hs => hs.elim
  | a :: r, b :: r2, v :: s, h, hs => by
    unfold ia_leL at h
    rw [Bool.and_eq_true] at h
    exact ⟨ia_leV_ok hv hi h.1 hs.1, ia_leL_ok hv hi h.2 hs.2⟩
  | [], _ :: _, _, h, _ => by cases h
  | _ :: _, [], _, h, _ => by cases h
theorem ia_tg_ok {E E2 : Nat → Int32} {p : Nat → Bool} (hE : ∀ n, p n = true → E2 n = E n) {a : ia_V} {v : Value} (h : ia_tg p a = true) (ha : ia_in E a v) : ia_in E2 a v := by
  unfold ia_tg at h
  split at h
  · next q =>
    rw [Bool.and_eq_true] at h
    cases v with
    | int x =>
      refine ⟨ha.1, ha.2.1, fun t ht => ?_, fun t ht => ?_⟩
      · rw [hE _ (List.all_eq_true.mp h.1 t ht)]; exact ha.2.2.1 t ht
      · rw [hE _ (List.all_eq_true.mp h.2 t ht)]; exact ha.2.2.2 t ht
    | _ => exact ha.elim
  · next hne =>
    cases a using ia_Vc with
    | i q => exact (hne q rfl).elim
    | r cs => cases v <;> exact ha
    | l => cases v <;> exact ha
theorem ia_sk_tg {E E2 : Nat → Int32} {p : Nat → Bool} (hE : ∀ n, p n = true → E2 n = E n) : ∀ {a : List ia_V} {s : List Value}, a.all (ia_tg p) = true → ia_sk E a s → ia_sk E2 a s
  | [], [], _, _ => trivial
  | a :: r, v :: s, h, hs => by
    rw [List.all_cons, Bool.and_eq_true] at h
    exact ⟨ia_tg_ok hE h.1 hs.1, ia_sk_tg hE h.2 hs.2⟩
  | [], _ :: _, _, h => h.elim
  | _ :: _, [], _, h => h.elim
theorem ia_facts_ok (hv : ia_vk lv A F g vs) (hi : ia_inv A F br) {fs : List (Nat × Int × Int)} (h : ia_facts vs fs = true) {f : Nat × Int × Int} (hf : f ∈ fs) : f.2.1 ≤ (ia_ev lv A F g f.1).toInt ∧ (ia_ev lv A F g f.1).toInt ≤ f.2.2 := by
  have h1 := List.all_eq_true.mp h f hf
  rw [Bool.and_eq_true, decide_eq_true_eq, decide_eq_true_eq] at h1
  have h2 := ia_q_ok hv hi f.1
  have := h2.1
  have := h2.2.1
  omega
theorem ia_redu_ok (hv : ia_vk lv A F g vs) (hi : ia_inv A F br) {a : ia_V} {v : Value} (h : ia_in (ia_ev lv A F g) a v) : ia_in (ia_ev lv A F g) (ia_redu vs a) v := by
  cases a using ia_Vc with
  | i q =>
    cases v with
    | int x =>
      have h1 := ia_rd_ok (vs := vs) (y := x.toInt) (fun n => ⟨(ia_q_ok hv hi n).1, (ia_q_ok hv hi n).2.1⟩) q.2.2.1 (q.1, q.2.1) h.1 h.2.1 h.2.2.1
      exact ⟨h1.1, h1.2, h.2.2⟩
    | _ => exact h.elim
  | r cs => exact h
  | l => exact h
theorem ia_nrm_ok (hv : ia_vk lv A F g vs) (hi : ia_inv A F br) : ia_vk lv A F g (ia_nrm vs) := fun q hq => by
  obtain ⟨s, hs, rfl⟩ := List.mem_map.mp hq
  obtain ⟨v, h1, h2⟩ := hv s hs
  cases hs2 : s.2 using ia_Vc with
  | i p =>
    rw [hs2] at h2
    refine ⟨v, h1, ?_⟩
    cases v with
    | int x => exact ⟨h2.1, ia_ru_ok (fun n => (ia_q_ok hv hi n).2.1) _ _ h2.2.1 h2.2.2.2, h2.2.2⟩
    | _ => exact h2.elim
  | r cs => rw [hs2] at h2; exact ⟨v, h1, h2⟩
  | l => rw [hs2] at h2; exact ⟨v, h1, h2⟩
theorem ia_vals_mem : ∀ (k : Nat) (lo t : Int), lo ≤ t → t < lo + k → t ∈ ia_vals lo k
  | 0, lo, t, h1, h2 => by omega
  | k + 1, lo, t, h1, h2 => by
    unfold ia_vals
    by_cases e : t = lo
    · subst e; exact List.mem_cons_self
    · exact List.mem_cons_of_mem _ (ia_vals_mem k (lo + 1) t (by omega) (by omega))
theorem ia_sp1_ok (hv : ia_vk lv A F g vs) (hi : ia_inv A F br) (n : Nat) : ∃ v2 ∈ ia_sp1 n vs, ia_vk lv A F g v2 := by
  unfold ia_sp1
  have h := ia_q_ok hv hi n
  have h1 := h.1
  have h2 := h.2.1
  by_cases e : (ia_q vs n).1 = (ia_q vs n).2.1
  · rw [decide_eq_true e]
    exact ⟨vs, List.mem_singleton.mpr rfl, hv⟩
  · rw [decide_eq_false e]
    obtain ⟨v2, e2, k⟩ := ia_ref_ok hi (Int.le_refl (ia_ev lv A F g n).toInt) (Int.le_refl _) ((n, 0) :: (ia_q vs n).2.2.1) hv (fun t ht => by
      rcases List.mem_cons.mp ht with rfl | ht
      · exact (Int.add_zero _).symm
      · exact h.2.2.1 t ht)
    exact ⟨v2, List.mem_filterMap.mpr ⟨_, ia_vals_mem _ _ (ia_ev lv A F g n).toInt h1 (by omega), e2⟩, k⟩
theorem ia_spl_ok (hi : ia_inv A F br) : ∀ (ns : List Nat) {vs : List (Nat × ia_V)}, ia_vk lv A F g vs → ∃ v2 ∈ ia_spl ns vs, ia_vk lv A F g v2
  | [], vs, hv => ⟨vs, List.mem_singleton.mpr rfl, hv⟩
  | n :: r, vs, hv => by
    obtain ⟨v1, h1, k1⟩ := ia_sp1_ok hv hi (ia_sl vs n)
    obtain ⟨v2, h2, k2⟩ := ia_spl_ok hi r k1
    exact ⟨v2, List.mem_flatMap.mpr ⟨v1, h1, h2⟩, k2⟩
theorem ia_leS_ok (hv : ia_vk lv A F g vs) (hi : ia_inv A F []) {s1 : List ia_V} {s : List Value} (hs : ia_sk (ia_ev lv A F g) s1 s) {N : ia_S} (h : ia_leS vs s1 N = true) : ia_ok N lv s A F g := by
  unfold ia_leS at h
  rw [Bool.and_eq_true, Bool.and_eq_true] at h
  obtain ⟨⟨h1, h2⟩, h3⟩ := h
  refine ⟨fun q hq => ?_, ia_leL_ok hv hi h2 hs, by rw [List.isEmpty_iff.mp h3]; exact hi⟩
  have h4 := List.all_eq_true.mp h1 q hq
  split at h4
  · next a e =>
    obtain ⟨v, k1, k2⟩ := hv _ (ia_find_mem e)
    exact ⟨v, k1, ia_leV_ok hv hi h4 k2⟩
  · next e =>
    rw [Bool.and_eq_true] at h4
    exact ⟨_, ia_vl_ge (Nat.le_of_ble_eq_true h4.1) _, ia_leV_ok (v := .int (ia_ev lv A F g q.1)) hv hi h4.2 (ia_q_ok hv hi q.1)⟩
-- measures
def ia_msm (E : Nat → Int32) : List Nat → List Int → Int
  | n :: r, k :: ks => k * (E n).toInt + ia_msm E r ks
  | _, _ => 0
def ia_gsm (E : Nat → Int32) : Nat → List Int → Int
  | _, [] => 0
  | t, k :: ks => k * (E (200 + t)).toInt + ia_gsm E (t + 1) ks
theorem ia_mx_ok {E : Nat → Int32} {q : ia_I} {x : Int32} (h : ia_ii E q x) (k : Int) : k * x.toInt ≤ ia_mx k q := by
  unfold ia_mx
  by_cases e : 0 ≤ k
  · rw [decide_eq_true e]
    exact Int.mul_le_mul_of_nonneg_left h.2.1 e
  · rw [decide_eq_false e]
    exact Int.mul_le_mul_of_nonpos_left (by omega) h.1
theorem ia_mn_ok {E : Nat → Int32} {q : ia_I} {x : Int32} (h : ia_ii E q x) (k : Int) : ia_mn k q ≤ k * x.toInt := by
  unfold ia_mn
  by_cases e : 0 ≤ k
  · rw [decide_eq_true e]
    exact Int.mul_le_mul_of_nonneg_left h.1 e
  · rw [decide_eq_false e]
    exact Int.mul_le_mul_of_nonpos_left (by omega) h.2.1
theorem ia_d1_ok (hv : ia_vk lv A F g vs) (hi : ia_inv A F br) (t n : Nat) (k k0 : Int) : k * (ia_ev lv A F g n).toInt - k0 * (ia_ev lv A F g (200 + t)).toInt ≤ ia_d1 vs t n k k0 := by
  unfold ia_d1
  cases hc : (decide (k = 0) && decide (k0 = 0)) with
  | true =>
    rw [Bool.and_eq_true, decide_eq_true_eq, decide_eq_true_eq] at hc
    rw [hc.1, hc.2]
    show _ ≤ (0 : Int)
    omega
  | false =>
    dsimp only [cond_false]
    split
    · next s e =>
      have h1 := (ia_q_ok hv hi n).2.2.1 s (List.mem_of_find?_eq_some e)
      have h2 := List.find?_some e
      rw [Nat.eq_of_beq_eq_true h2] at h1
      have h3 := ia_mx_ok (ia_q_ok hv hi (200 + t)) (k - k0)
      rw [h1, Int.mul_add]
      rw [Int.sub_mul] at h3
      omega
    · have h3 := ia_mx_ok (ia_q_ok hv hi n) k
      have h4 := ia_mx_ok (ia_q_ok hv hi (200 + t)) (-k0)
      rw [Int.neg_mul] at h4
      omega
theorem ia_dsm_ok (hv : ia_vk lv A F g vs) (hi : ia_inv A F br) : ∀ (ms : List Nat) (t : Nat) (ks ks0 : List Int), ks.length = ms.length → ks0.length = ms.length → ia_msm (ia_ev lv A F g) ms ks - ia_gsm (ia_ev lv A F g) t ks0 ≤ ia_dsm vs t ms ks ks0
  | [], t, [], [], _, _ => by unfold ia_msm ia_gsm ia_dsm; omega
  | n :: r, t, k :: ks, k0 :: ks0, h1, h2 => by
    have e1 := ia_d1_ok hv hi t n k k0
    have e2 := ia_dsm_ok hv hi r (t + 1) ks ks0 (by simpa using h1) (by simpa using h2)
    simp only [ia_msm, ia_gsm, ia_dsm]
    omega
theorem ia_lsm_ok (hv : ia_vk lv A F g vs) (hi : ia_inv A F br) : ∀ (ms : List Nat) (ks : List Int), ia_lsm vs ms ks ≤ ia_msm (ia_ev lv A F g) ms ks
  | [], [] => by unfold ia_lsm ia_msm; omega
  | [], _ :: _ => by unfold ia_lsm ia_msm; omega
  | _ :: _, [] => by unfold ia_lsm ia_msm; omega
  | n :: r, k :: ks => by
    have e1 := ia_mn_ok (ia_q_ok hv hi n) k
    have e2 := ia_lsm_ok hv hi r ks
    simp only [ia_msm, ia_lsm]
    omega
-- the marks of a block
def ia_gw (E g : Nat → Int32) (ms : List Nat) (m : Nat) : Int32 := if 200 ≤ m ∧ m < 300 then (match ms[m - 200]? with
  | some n => E n
  | none => 0) else g m
theorem ia_gw_ev {ms : List Nat} (m : Nat) (h : ia_gp m = false) : ia_ev lv A F (ia_gw (ia_ev lv A F g) g ms) m = ia_ev lv A F g m := by
  have h2 : ¬ (200 ≤ m ∧ m < 300) := fun e => by
    have : ia_gp m = true := by
      unfold ia_gp
      rw [Bool.and_eq_true]
      exact ⟨Nat.ble_eq_true_of_le e.1, Nat.ble_eq_true_of_le e.2⟩
    rw [this] at h
    cases h
  unfold ia_ev
  split
  · rfl
  · split
    · unfold ia_gw
      rw [if_neg h2]
    · rfl
theorem ia_drp_g (hv : ia_vk lv A F g vs) {p : Nat → Bool} (hE : ∀ m, p m = false → ia_ev lv A F g2 m = ia_ev lv A F g m) : ia_vk lv A F g2 (ia_drp p vs) := fun q hq => by
  obtain ⟨s, hs, rfl⟩ := List.mem_map.mp hq
  obtain ⟨h1, h2⟩ := List.mem_filter.mp hs
  rw [Bool.not_eq_true'] at h2
  obtain ⟨u, h3, h4⟩ := hv s h1
  exact ⟨u, by rw [ia_vl_same (hE s.1 h2)]; exact h3, ia_rv_in (ia_fp_ok hE) h4⟩
theorem ia_gh_ok (hi : ia_inv A F br) : ∀ (ms : List Nat) (t : Nat) {vs : List (Nat × ia_V)}, ia_vk lv A F g vs → (∀ i n, ms[i]? = some n → ia_ev lv A F g (200 + (t + i)) = ia_ev lv A F g n) → ia_vk lv A F g (ia_gh t ms vs)
  | [], _, _, hv, _ => hv
  | n :: r, t, vs, hv, hm => by
    have e0 : ia_ev lv A F g (200 + t) = ia_ev lv A F g n := hm 0 n rfl
    have hq := ia_q_ok hv hi n
    unfold ia_gh
    refine ia_gh_ok hi r (t + 1) (fun q hq2 => ?_) (fun i m h => by rw [show t + 1 + i = t + (i + 1) by omega]; exact hm (i + 1) m h)
    rcases List.mem_cons.mp hq2 with rfl | hq2
    · refine ⟨.int (ia_ev lv A F g (200 + t)), ia_vl_ge (by omega) _, ?_⟩
      rw [e0]
      exact ia_nil hq.1 hq.2.1
    · split at hq2
      · next b q2 e =>
        rcases List.mem_cons.mp hq2 with rfl | hq2
        · obtain ⟨v, k1, k2⟩ := hv _ (ia_find_mem e)
          have k3 := ia_vl_int k1 k2
          subst k3
          refine ⟨_, k1, k2.1, k2.2.1, fun s hs => ?_, k2.2.2.2⟩
          rcases List.mem_cons.mp hs with rfl | hs
          · show (ia_ev lv A F g n).toInt = (ia_ev lv A F g (200 + t)).toInt + 0
            rw [e0, Int.add_zero]
          · exact k2.2.2.1 s hs
        · exact hv _ (ia_rm_sub hq2)
      · next hb e =>
        rcases List.mem_cons.mp hq2 with rfl | hq2
        · refine ⟨.int (ia_ev lv A F g n), ia_vl_ge ?_ _, hq.1, hq.2.1, fun s hs => ?_, fun s hs => by cases hs⟩
          · cases hn : Nat.blt n 100 with
            | true => rw [hn] at hb; cases hb
            | false =>
              have : ¬ n < 100 := fun h => by
                have := Nat.ble_eq_true_of_le h
                rw [show Nat.ble n.succ 100 = Nat.blt n 100 from rfl, hn] at this
                cases this
              show 100 ≤ n
              omega
          · rcases List.mem_cons.mp hs with rfl | hs
            · show (ia_ev lv A F g n).toInt = (ia_ev lv A F g (200 + t)).toInt + 0
              rw [e0, Int.add_zero]
            · cases hs
        · exact hv _ hq2
      · exact hv _ hq2
theorem ia_st0_ok {M : ia_M} {S : ia_S} {st : List Value} (hok : ia_ok S lv st A F g) (hm : M.2.2.2.2.2.2.2.2.1.all (fun m => !(ia_gp m)) = true) (hl : M.2.2.2.2.2.2.2.2.1.length < 100) : ia_ok (ia_st0 M S) lv st A F (ia_gw (ia_ev lv A F g) g M.2.2.2.2.2.2.2.2.1) := by
  have hE := fun m h => ia_gw_ev (lv := lv) (A := A) (F := F) (g := g) (ms := M.2.2.2.2.2.2.2.2.1) m h
  refine ⟨ia_gh_ok hok.2.2 M.2.2.2.2.2.2.2.2.1 0 (ia_drp_g hok.1 hE) (fun i n h => ?_), ia_sk_rv (ia_fp_ok hE) hok.2.1, hok.2.2⟩
  have hil : i < M.2.2.2.2.2.2.2.2.1.length := (List.getElem?_eq_some_iff.mp h).1
  have h1 := List.all_eq_true.mp hm n (List.mem_of_getElem? h)
  rw [Bool.not_eq_true'] at h1
  rw [hE n h1]
  conv => lhs; unfold ia_ev
  rw [if_neg (by omega), if_pos (by omega)]
  unfold ia_gw
  rw [if_pos (by omega), show 200 + (0 + i) - 200 = i by omega, h]
  rfl
theorem ia_gsm_ok {ms : List Nat} : ∀ (r : List Nat) (t : Nat) (ks : List Int), (∀ i n, r[i]? = some n → ia_ev lv A F g2 (200 + (t + i)) = ia_ev lv A F g n) → ks.length = r.length → ia_gsm (ia_ev lv A F g2) t ks = ia_msm (ia_ev lv A F g) r ks
  | [], _, [], _, _ => rfl
  | n :: r, t, k :: ks, h, hl => by
    simp only [ia_gsm, ia_msm]
    have e0 : ia_ev lv A F g2 (200 + t) = ia_ev lv A F g n := h 0 n rfl
    rw [e0, ia_gsm_ok (ms := ms) r (t + 1) ks (fun i m hm => by rw [show t + 1 + i = t + (i + 1) by omega]; exact h (i + 1) m hm) (by simpa using hl)]
  | [], _, _ :: _, _, hl => by simp at hl
  | _ :: _, _, [], _, hl => by simp at hl
end
