/-! laid by wip/whole/gG.py: the reference: a unit; what waits, by itself -/
def GU (K0 B : Nat) (v v' : Nat → Nat → Int32) : Prop := (∀ c, c ≠ 388 → c ≠ 413 → c ≠ 414 → c ≠ 415 → v' c = v c) ∧ (∀ k, k ≠ 11 → k ≠ 13 → k ≠ 14 → k ≠ 15 → k ≠ 16 → k ≠ 39 → k ≠ 43 → k ≠ 12 → v' 388 k = v 388 k) ∧ ∀ k, (k < B ∨ K0 + 420 ≤ k) → v' 413 k = v 413 k ∧ v' 414 k = v 414 k
theorem GU_r {K0 B : Nat} {v : Nat → Nat → Int32} : GU K0 B v v := ⟨fun _ _ _ _ _ => rfl, fun _ _ _ _ _ _ _ _ _ => rfl, fun _ _ => ⟨rfl, rfl⟩⟩
theorem GU_t {K0 B : Nat} {v v' v'' : Nat → Nat → Int32} (h : GU K0 B v v') (h' : GU K0 B v' v'') : GU K0 B v v'' := ⟨fun c a1 a2 a3 a4 => (h'.1 c a1 a2 a3 a4).trans (h.1 c a1 a2 a3 a4), fun k a1 a2 a3 a4 a5 a6 a7 a8 => (h'.2.1 k a1 a2 a3 a4 a5 a6 a7 a8).trans (h.2.1 k a1 a2 a3 a4 a5 a6 a7 a8), fun k hk => ⟨(h'.2.2 k hk).1.trans (h.2.2 k hk).1, (h'.2.2 k hk).2.trans (h.2.2 k hk).2⟩⟩
theorem GU_8 {K0 B : Nat} {v v' : Nat → Nat → Int32} (h : G8 v v') : GU K0 B v v' := ⟨fun c a1 _ _ _ => h.1 c a1, fun k a1 a2 a3 a4 a5 _ _ _ => h.2 k a1 a2 a3 a4 a5, fun k _ => ⟨by rw [h.1 413 (by omega)], by rw [h.1 414 (by omega)]⟩⟩
theorem GU_O {K0 B : Nat} {v v' : Nat → Nat → Int32} (h : GO K0 B v v') : GU K0 B v v' := ⟨fun c a1 a2 a3 _ => h.1 c a1 a2 a3, fun k _ _ _ _ _ a6 a7 _ => h.2.1 k a6 a7, h.2.2⟩
theorem ME_U {E : ENV} {K0 B : Nat} {v v' : Nat → Nat → Int32} {w : Nat → Nat → Int64} (h : ME E v w) (e : GU K0 B v v') : ME E v' w := ME_w h (e.1 391 (by omega) (by omega) (by omega) (by omega)) (e.1 392 (by omega) (by omega) (by omega) (by omega)) (e.1 393 (by omega) (by omega) (by omega) (by omega))
theorem MS_O {E : ENV} {K0 B : Nat} {v v' : Nat → Nat → Int32} {s : SG} (h : MS' E v s) (e : GO K0 B v v') : MS' E v' s := MS_w h (fun k hk => e.2.1 k (by omega) (by omega))
theorem CX_8 {B : Nat} {C : CL} {v v' : Nat → Nat → Int32} (h : CXm v B C) (e : G8 v v') : CXm v' B C := by
  unfold CXm at *
  rw [e.1 413 (by omega), e.1 414 (by omega), e.2 39 (by omega) (by omega) (by omega) (by omega) (by omega)]
  exact h
theorem WX_8 {W : List Nat} {v v' : Nat → Nat → Int32} (h : WXm v W) (e : G8 v v') : WXm v' W := by
  unfold WXm at *
  rw [e.1 415 (by omega), e.2 43 (by omega) (by omega) (by omega) (by omega) (by omega)]
  exact h
/-- what waits stands in good order -/
def wfW : List Nat → Prop
  | [] => True
  | x :: W => (x = 6 ∨ ((x = 8 ∨ x = 9) ∧ WS W) ∨ ((x = 10 ∨ x = 15) ∧ WP W)) ∧ wfW W
theorem wf_ok : ∀ W, wfW W → okW W := by
  intro W
  induction W with
  | nil => intro _ x hx; cases hx
  | cons y W ih =>
    intro h x hx
    obtain ⟨h1, h2⟩ := h
    rcases List.mem_cons.mp hx with rfl | hx
    · unfold opK
      omega
    · exact ih h2 x hx
theorem wf_len : ∀ W, wfW W → W.length ≤ 3 * opn W + 2 ∧ (WP W → W.length ≤ 3 * opn W + 1) ∧ (WS W → W.length ≤ 3 * opn W) := by
  intro W
  induction W with
  | nil => intro _; exact ⟨by show 0 ≤ _; omega, fun _ => by show 0 ≤ _; omega, fun _ => by show 0 ≤ _; omega⟩
  | cons x W ih =>
    intro h
    obtain ⟨h1, h2⟩ := h
    obtain ⟨i1, i2, i3⟩ := ih h2
    rw [List.length_cons]
    rcases h1 with rfl | ⟨hx, hw⟩ | ⟨hx, hw⟩
    · rw [opn_6]
      exact ⟨by omega, fun _ => by omega, fun _ => by omega⟩
    · rw [opn_x (by omega)]
      have := i3 hw
      refine ⟨by omega, fun _ => by omega, fun z => ?_⟩
      rcases z with z | ⟨W', z⟩
      · cases z
      · cases z; omega
    · rw [opn_x (by omega)]
      have := i2 hw
      refine ⟨by omega, fun z => ?_, fun z => ?_⟩
      · rcases z with z | ⟨y, W', z, hy⟩
        · cases z
        · cases z; omega
      · rcases z with z | ⟨W', z⟩
        · cases z
        · cases z; omega
theorem pf_wf : ∀ (W : List Nat) (C : CL), wfW W → wfW (popF W C).1 ∧ WS (popF W C).1 ∧ opn (popF W C).1 = opn W ∧ (popF W C).2.length + opsN (popF W C).1 = C.length + opsN W := by
  intro W
  induction W with
  | nil => intro C _; exact ⟨trivial, Or.inl rfl, rfl, rfl⟩
  | cons x W ih =>
    intro C h
    by_cases e : x = 6
    · rw [show popF (x :: W) C = (x :: W, C) from if_pos e]
      exact ⟨h, Or.inr ⟨W, by rw [e]⟩, rfl, rfl⟩
    · rw [pop_x e]
      obtain ⟨i1, i2, i3, i4⟩ := ih (C ++ [(opc x, nI 0)]) h.2
      refine ⟨i1, i2, by rw [i3, opn_x e], ?_⟩
      rw [i4, len_1]
      show _ = C.length + ((if x = 6 then 0 else 1) + opsN W)
      rw [if_neg e]
      omega
theorem ps_wf : ∀ (W : List Nat) (C : CL), wfW W → wfW (popS W C).1 ∧ WP (popS W C).1 ∧ opn (popS W C).1 = opn W ∧ (popS W C).2.length + opsN (popS W C).1 = C.length + opsN W := by
  intro W
  induction W with
  | nil => intro C _; exact ⟨trivial, Or.inl rfl, rfl, rfl⟩
  | cons x W ih =>
    intro C h
    by_cases e : x = 6 ∨ x = 8 ∨ x = 9
    · rw [show popS (x :: W) C = (x :: W, C) from if_pos e]
      exact ⟨h, Or.inr ⟨x, W, rfl, e⟩, rfl, rfl⟩
    · rw [pops_x (by omega)]
      obtain ⟨i1, i2, i3, i4⟩ := ih (C ++ [(opc x, nI 0)]) h.2
      refine ⟨i1, i2, by rw [i3, opn_x (by omega)], ?_⟩
      rw [i4, len_1]
      show _ = C.length + ((if x = 6 then 0 else 1) + opsN W)
      rw [if_neg (by omega)]
      omega
theorem r_unit {d : Nat} {v : Nat → Nat → Int32} {w : Nat → Nat → Int64} {Q : Option Value → am_H → Prop} {E : ENV} {t l p B K0 : Nat} {W : List Nat} {C : CL} (hE : ME E v w) (hs : MG E v t l p) (hC : CXm v B C) (hB : B + C.length < K0 + 420) (hK4 : K0 ≤ 420) (hK6 : eK E t ≠ 6) (q0 : ∀ v' cd, GU K0 B v v' → MG E v' (t + 1) l p → CXm v' B (C ++ [cd]) → v' 415 = v 415 → v' 388 43 = v 388 43 → v' 388 12 = v 388 12 → stX E (false, t, W, C) = .inl (true, t + 1, W, C ++ [cd]) → Q none (428, 26053, KD, RF, v', w)) (q1 : ∀ v' k p', GU K0 B v v' → MB v' k p' → stX E (false, t, W, C) = .inr (.inl (k, p')) → Q none (428, 26053, KD, RF, v', w)) : am_Ca (d + 3) M_Model_unit [.ref 388] (428, 26053, KD, RF, v, w) Q := by
  have hs0 : MS' E v (.inr t, l, p) := hs
  obtain ⟨g11, gt, g13, g15, gl, g16⟩ := hs
  obtain ⟨gk, gp, gv, gn⟩ := hE.2 t gt
  have gL := hE.1.1
  have h37 := (hE.1.2.2.2.1 t).1
  refine ca_in (k := k_Model_unit) (nL := 1) rfl (Nat.le_of_ble_eq_true rfl) ?_
  show am_Go am_X0 _ k_Model_unit 0 ([.ref 388], [], _) _
  by_cases hK : eK E t = 2
  · have gv2 := gv hK
    refine go_at (blk := b_Model_unit_0) rfl ?_
    simp (disch := omega) only [b_Model_unit_0, be_6, be_1, be_57_1, kc_388, List.getD_cons_zero, List.getD_cons_succ, List.set_cons_zero, List.set_cons_succ, List.length_cons, List.length_nil, pk_I, pk_A, pr_A, pi_I, st_s, st_n, if_true, if_false, eq_self, d_if, d_ju, d_re, d_ca, cat0, cat1, cat2, cat3, fr_z, fr_s, cc_I, cc_A, cc_N, Nat.reduceAdd, Nat.reduceLT, Nat.reduceLeDiff, Nat.reduceEqDiff, not_true, not_false_iff, z1_0, z1_1, Bool.and_self, Bool.true_and, Bool.and_true, nI_add, pk_mul, nI_clamp, decide_true, Nat.le_refl, bI_eq, bI_z1, nI_ltI, nI_leI, g11, gv2, nI_eq]
    refine r_is (s := (.inr t, l, p)) hE hs0 (by omega) (by omega) ?_
    rw [show decide (kdR E (.inr t, l, p) = 2) = true from decide_eq_true hK]
    refine go_at (blk := b_Model_unit_5) rfl ?_
    simp (disch := omega) only [b_Model_unit_5, be_50_0, List.getD_cons_zero, List.getD_cons_succ, List.set_cons_zero, List.set_cons_succ, List.length_cons, List.length_nil, pk_I, pk_A, pr_A, pi_I, st_s, st_n, if_true, if_false, eq_self, d_if, d_ju, d_re, d_ca, cat0, cat1, cat2, cat3, fr_z, fr_s, cc_I, cc_A, cc_N, Nat.reduceAdd, Nat.reduceLT, Nat.reduceLeDiff, Nat.reduceEqDiff, not_true, not_false_iff, z1_0, z1_1, Bool.and_self, Bool.true_and, Bool.and_true, nI_add, pk_mul, nI_clamp, decide_true, Nat.le_refl, bI_eq, bI_z1, nI_ltI, nI_leI, g11, gv2, nI_eq]
    refine go_at (blk := b_Model_unit_8) rfl ?_
    simp (disch := omega) only [b_Model_unit_8, be_6, be_1, be_34, be_33, be_38, be_57_2, kc_388, rf_388_7, ka_393, List.getD_cons_zero, List.getD_cons_succ, List.set_cons_zero, List.set_cons_succ, List.length_cons, List.length_nil, pk_I, pk_A, pr_A, pi_I, st_s, st_n, if_true, if_false, eq_self, d_if, d_ju, d_re, d_ca, cat0, cat1, cat2, cat3, fr_z, fr_s, cc_I, cc_A, cc_N, Nat.reduceAdd, Nat.reduceLT, Nat.reduceLeDiff, Nat.reduceEqDiff, not_true, not_false_iff, z1_0, z1_1, Bool.and_self, Bool.true_and, Bool.and_true, nI_add, pk_mul, nI_clamp, decide_true, Nat.le_refl, bI_eq, bI_z1, nI_ltI, nI_leI, g11, gv2, nI_eq]
    refine r_emit (K0 := K0) (k := 0) hC hB hK4 ?_
    intro v1 f1 g1 c1
    have hE1 := ME_U hE (GU_O f1)
    have s1 : MS' E v1 (.inr t, l, p) := MS_O hs0 f1
    refine go_at (blk := b_Model_unit_22) rfl ?_
    simp (disch := omega) only [b_Model_unit_22, be_6, be_57_0, kc_388, List.getD_cons_zero, List.getD_cons_succ, List.set_cons_zero, List.set_cons_succ, List.length_cons, List.length_nil, pk_I, pk_A, pr_A, pi_I, st_s, st_n, if_true, if_false, eq_self, d_if, d_ju, d_re, d_ca, cat0, cat1, cat2, cat3, fr_z, fr_s, cc_I, cc_A, cc_N, Nat.reduceAdd, Nat.reduceLT, Nat.reduceLeDiff, Nat.reduceEqDiff, not_true, not_false_iff, z1_0, z1_1, Bool.and_self, Bool.true_and, Bool.and_true, nI_add, pk_mul, nI_clamp, decide_true, Nat.le_refl, bI_eq, bI_z1, nI_ltI, nI_leI, g11, gv2, nI_eq]
    refine r_goesOn hE1 s1 (fun t' ht => ?_) ?_
    · have e9 : t = t' := by simpa using ht
      subst e9
      exact ⟨by omega, by omega⟩
    intro v2 f2 s2
    refine go_at (blk := b_Model_unit_26) rfl ?_
    simp (disch := omega) only [b_Model_unit_26, be_51, List.getD_cons_zero, List.getD_cons_succ, List.set_cons_zero, List.set_cons_succ, List.length_cons, List.length_nil, pk_I, pk_A, pr_A, pi_I, st_s, st_n, if_true, if_false, eq_self, d_if, d_ju, d_re, d_ca, cat0, cat1, cat2, cat3, fr_z, fr_s, cc_I, cc_A, cc_N, Nat.reduceAdd, Nat.reduceLT, Nat.reduceLeDiff, Nat.reduceEqDiff, not_true, not_false_iff, z1_0, z1_1, Bool.and_self, Bool.true_and, Bool.and_true, nI_add, pk_mul, nI_clamp, decide_true, Nat.le_refl, bI_eq, bI_z1, nI_ltI, nI_leI, g11, gv2, nI_eq]
    refine go_at (blk := b_Model_unit_93) rfl ?_
    simp (disch := omega) only [b_Model_unit_93, be_56, List.getD_cons_zero, List.getD_cons_succ, List.set_cons_zero, List.set_cons_succ, List.length_cons, List.length_nil, pk_I, pk_A, pr_A, pi_I, st_s, st_n, if_true, if_false, eq_self, d_if, d_ju, d_re, d_ca, cat0, cat1, cat2, cat3, fr_z, fr_s, cc_I, cc_A, cc_N, Nat.reduceAdd, Nat.reduceLT, Nat.reduceLeDiff, Nat.reduceEqDiff, not_true, not_false_iff, z1_0, z1_1, Bool.and_self, Bool.true_and, Bool.and_true, nI_add, pk_mul, nI_clamp, decide_true, Nat.le_refl, bI_eq, bI_z1, nI_ltI, nI_leI, g11, gv2, nI_eq]
    by_cases ht : t < 400
    · rw [tk_1 ht] at s2
      exact q0 v2 _ (GU_t (GU_O f1) (GU_8 f2)) s2 (CX_8 c1 f2) (by rw [f2.1 415 (by omega), f1.1 415 (by omega) (by omega) (by omega)]) (by rw [f2.2 43 (by omega) (by omega) (by omega) (by omega) (by omega)]; exact g1) (by rw [f2.2 12 (by omega) (by omega) (by omega) (by omega) (by omega)]; exact f1.2.1 12 (by omega) (by omega)) (st_int hK ht)
    · rw [tk_2 ht] at s2
      exact q1 v2 _ _ (GU_t (GU_O f1) (GU_8 f2)) s2 (st_int4 hK ht)
  · by_cases hK2 : 29 ≤ eK E t
    · have hv1 : ¬ eK E t < 29 := by omega
      have hv2 : ¬ 36 < eK E t := by omega
      refine go_at (blk := b_Model_unit_0) rfl ?_
      simp (disch := omega) only [b_Model_unit_0, be_6, be_1, be_57_1, kc_388, List.getD_cons_zero, List.getD_cons_succ, List.set_cons_zero, List.set_cons_succ, List.length_cons, List.length_nil, pk_I, pk_A, pr_A, pi_I, st_s, st_n, if_true, if_false, eq_self, d_if, d_ju, d_re, d_ca, cat0, cat1, cat2, cat3, fr_z, fr_s, cc_I, cc_A, cc_N, Nat.reduceAdd, Nat.reduceLT, Nat.reduceLeDiff, Nat.reduceEqDiff, not_true, not_false_iff, z1_0, z1_1, Bool.and_self, Bool.true_and, Bool.and_true, nI_add, pk_mul, nI_clamp, decide_true, Nat.le_refl, bI_eq, bI_z1, nI_ltI, nI_leI, g11, gk, g13, hv1, hv2, pk_sub, nI_eq, nI_z, z_le, z_lt]
      refine r_is (s := (.inr t, l, p)) hE hs0 (by omega) (by omega) ?_
      rw [show decide (kdR E (.inr t, l, p) = 2) = false from decide_eq_false (by show ¬ eK E t = 2; omega)]
      refine go_at (blk := b_Model_unit_5) rfl ?_
      simp (disch := omega) only [b_Model_unit_5, be_50_0, List.getD_cons_zero, List.getD_cons_succ, List.set_cons_zero, List.set_cons_succ, List.length_cons, List.length_nil, pk_I, pk_A, pr_A, pi_I, st_s, st_n, if_true, if_false, eq_self, d_if, d_ju, d_re, d_ca, cat0, cat1, cat2, cat3, fr_z, fr_s, cc_I, cc_A, cc_N, Nat.reduceAdd, Nat.reduceLT, Nat.reduceLeDiff, Nat.reduceEqDiff, not_true, not_false_iff, z1_0, z1_1, Bool.and_self, Bool.true_and, Bool.and_true, nI_add, pk_mul, nI_clamp, decide_true, Nat.le_refl, bI_eq, bI_z1, nI_ltI, nI_leI, g11, gk, g13, hv1, hv2, pk_sub, nI_eq, nI_z, z_le, z_lt]
      refine go_at (blk := b_Model_unit_29) rfl ?_
      simp (disch := omega) only [b_Model_unit_29, be_6, be_33, be_50_1, kc_388, List.getD_cons_zero, List.getD_cons_succ, List.set_cons_zero, List.set_cons_succ, List.length_cons, List.length_nil, pk_I, pk_A, pr_A, pi_I, st_s, st_n, if_true, if_false, eq_self, d_if, d_ju, d_re, d_ca, cat0, cat1, cat2, cat3, fr_z, fr_s, cc_I, cc_A, cc_N, Nat.reduceAdd, Nat.reduceLT, Nat.reduceLeDiff, Nat.reduceEqDiff, not_true, not_false_iff, z1_0, z1_1, Bool.and_self, Bool.true_and, Bool.and_true, nI_add, pk_mul, nI_clamp, decide_true, Nat.le_refl, bI_eq, bI_z1, nI_ltI, nI_leI, g11, gk, g13, hv1, hv2, pk_sub, nI_eq, nI_z, z_le, z_lt]
      refine go_at (blk := b_Model_unit_36) rfl ?_
      simp (disch := omega) only [b_Model_unit_36, be_6, be_34, be_33, be_38, be_1, be_49_2, kc_388, rf_388_5, ka_391, List.getD_cons_zero, List.getD_cons_succ, List.set_cons_zero, List.set_cons_succ, List.length_cons, List.length_nil, pk_I, pk_A, pr_A, pi_I, st_s, st_n, if_true, if_false, eq_self, d_if, d_ju, d_re, d_ca, cat0, cat1, cat2, cat3, fr_z, fr_s, cc_I, cc_A, cc_N, Nat.reduceAdd, Nat.reduceLT, Nat.reduceLeDiff, Nat.reduceEqDiff, not_true, not_false_iff, z1_0, z1_1, Bool.and_self, Bool.true_and, Bool.and_true, nI_add, pk_mul, nI_clamp, decide_true, Nat.le_refl, bI_eq, bI_z1, nI_ltI, nI_leI, g11, gk, g13, hv1, hv2, pk_sub, nI_eq, nI_z, z_le, z_lt]
      refine go_at (blk := b_Model_unit_50) rfl ?_
      simp (disch := omega) only [b_Model_unit_50, be_6, be_34, be_33, be_38, be_1, be_49_4, kc_388, rf_388_5, ka_391, List.getD_cons_zero, List.getD_cons_succ, List.set_cons_zero, List.set_cons_succ, List.length_cons, List.length_nil, pk_I, pk_A, pr_A, pi_I, st_s, st_n, if_true, if_false, eq_self, d_if, d_ju, d_re, d_ca, cat0, cat1, cat2, cat3, fr_z, fr_s, cc_I, cc_A, cc_N, Nat.reduceAdd, Nat.reduceLT, Nat.reduceLeDiff, Nat.reduceEqDiff, not_true, not_false_iff, z1_0, z1_1, Bool.and_self, Bool.true_and, Bool.and_true, nI_add, pk_mul, nI_clamp, decide_true, Nat.le_refl, bI_eq, bI_z1, nI_ltI, nI_leI, g11, gk, g13, hv1, hv2, pk_sub, nI_eq, nI_z, z_le, z_lt]
      refine go_at (blk := b_Model_unit_64) rfl ?_
      simp (disch := omega) only [b_Model_unit_64, be_6, be_1, be_34, be_33, be_38, be_13, be_57_2, kc_388, rf_388_5, ka_391, List.getD_cons_zero, List.getD_cons_succ, List.set_cons_zero, List.set_cons_succ, List.length_cons, List.length_nil, pk_I, pk_A, pr_A, pi_I, st_s, st_n, if_true, if_false, eq_self, d_if, d_ju, d_re, d_ca, cat0, cat1, cat2, cat3, fr_z, fr_s, cc_I, cc_A, cc_N, Nat.reduceAdd, Nat.reduceLT, Nat.reduceLeDiff, Nat.reduceEqDiff, not_true, not_false_iff, z1_0, z1_1, Bool.and_self, Bool.true_and, Bool.and_true, nI_add, pk_mul, nI_clamp, decide_true, Nat.le_refl, bI_eq, bI_z1, nI_ltI, nI_leI, g11, gk, g13, hv1, hv2, pk_sub, nI_eq, nI_z, z_le, z_lt]
      refine r_emit (K0 := K0) (k := 1) hC hB hK4 ?_
      intro v1 f1 g1 c1
      have hE1 := ME_U hE (GU_O f1)
      have s1 : MS' E v1 (.inr t, l, p) := MS_O hs0 f1
      refine go_at (blk := b_Model_unit_81) rfl ?_
      simp (disch := omega) only [b_Model_unit_81, be_6, be_57_0, kc_388, List.getD_cons_zero, List.getD_cons_succ, List.set_cons_zero, List.set_cons_succ, List.length_cons, List.length_nil, pk_I, pk_A, pr_A, pi_I, st_s, st_n, if_true, if_false, eq_self, d_if, d_ju, d_re, d_ca, cat0, cat1, cat2, cat3, fr_z, fr_s, cc_I, cc_A, cc_N, Nat.reduceAdd, Nat.reduceLT, Nat.reduceLeDiff, Nat.reduceEqDiff, not_true, not_false_iff, z1_0, z1_1, Bool.and_self, Bool.true_and, Bool.and_true, nI_add, pk_mul, nI_clamp, decide_true, Nat.le_refl, bI_eq, bI_z1, nI_ltI, nI_leI, g11, gk, g13, hv1, hv2, pk_sub, nI_eq, nI_z, z_le, z_lt]
      refine r_goesOn hE1 s1 (fun t' ht => ?_) ?_
      · have e9 : t = t' := by simpa using ht
        subst e9
        exact ⟨by omega, by omega⟩
      intro v2 f2 s2
      refine go_at (blk := b_Model_unit_85) rfl ?_
      simp (disch := omega) only [b_Model_unit_85, be_51, List.getD_cons_zero, List.getD_cons_succ, List.set_cons_zero, List.set_cons_succ, List.length_cons, List.length_nil, pk_I, pk_A, pr_A, pi_I, st_s, st_n, if_true, if_false, eq_self, d_if, d_ju, d_re, d_ca, cat0, cat1, cat2, cat3, fr_z, fr_s, cc_I, cc_A, cc_N, Nat.reduceAdd, Nat.reduceLT, Nat.reduceLeDiff, Nat.reduceEqDiff, not_true, not_false_iff, z1_0, z1_1, Bool.and_self, Bool.true_and, Bool.and_true, nI_add, pk_mul, nI_clamp, decide_true, Nat.le_refl, bI_eq, bI_z1, nI_ltI, nI_leI, g11, gk, g13, hv1, hv2, pk_sub, nI_eq, nI_z, z_le, z_lt]
      refine go_at (blk := b_Model_unit_93) rfl ?_
      simp (disch := omega) only [b_Model_unit_93, be_56, List.getD_cons_zero, List.getD_cons_succ, List.set_cons_zero, List.set_cons_succ, List.length_cons, List.length_nil, pk_I, pk_A, pr_A, pi_I, st_s, st_n, if_true, if_false, eq_self, d_if, d_ju, d_re, d_ca, cat0, cat1, cat2, cat3, fr_z, fr_s, cc_I, cc_A, cc_N, Nat.reduceAdd, Nat.reduceLT, Nat.reduceLeDiff, Nat.reduceEqDiff, not_true, not_false_iff, z1_0, z1_1, Bool.and_self, Bool.true_and, Bool.and_true, nI_add, pk_mul, nI_clamp, decide_true, Nat.le_refl, bI_eq, bI_z1, nI_ltI, nI_leI, g11, gk, g13, hv1, hv2, pk_sub, nI_eq, nI_z, z_le, z_lt]
      by_cases ht : t < 400
      · rw [tk_1 ht] at s2
        exact q0 v2 _ (GU_t (GU_O f1) (GU_8 f2)) s2 (CX_8 c1 f2) (by rw [f2.1 415 (by omega), f1.1 415 (by omega) (by omega) (by omega)]) (by rw [f2.2 43 (by omega) (by omega) (by omega) (by omega) (by omega)]; exact g1) (by rw [f2.2 12 (by omega) (by omega) (by omega) (by omega) (by omega)]; exact f1.2.1 12 (by omega) (by omega)) (st_var hK2 ht)
      · rw [tk_2 ht] at s2
        exact q1 v2 _ _ (GU_t (GU_O f1) (GU_8 f2)) s2 (st_var4 hK2 ht)
    · have hv1 : eK E t < 29 := by omega
      refine go_at (blk := b_Model_unit_0) rfl ?_
      simp (disch := omega) only [b_Model_unit_0, be_6, be_1, be_57_1, kc_388, List.getD_cons_zero, List.getD_cons_succ, List.set_cons_zero, List.set_cons_succ, List.length_cons, List.length_nil, pk_I, pk_A, pr_A, pi_I, st_s, st_n, if_true, if_false, eq_self, d_if, d_ju, d_re, d_ca, cat0, cat1, cat2, cat3, fr_z, fr_s, cc_I, cc_A, cc_N, Nat.reduceAdd, Nat.reduceLT, Nat.reduceLeDiff, Nat.reduceEqDiff, not_true, not_false_iff, z1_0, z1_1, Bool.and_self, Bool.true_and, Bool.and_true, nI_add, pk_mul, nI_clamp, decide_true, Nat.le_refl, bI_eq, bI_z1, nI_ltI, nI_leI, g11, gk, g13, hv1, nI_eq, nI_z, z_le, z_lt]
      refine r_is (s := (.inr t, l, p)) hE hs0 (by omega) (by omega) ?_
      rw [show decide (kdR E (.inr t, l, p) = 2) = false from decide_eq_false (by show ¬ eK E t = 2; omega)]
      refine go_at (blk := b_Model_unit_5) rfl ?_
      simp (disch := omega) only [b_Model_unit_5, be_50_0, List.getD_cons_zero, List.getD_cons_succ, List.set_cons_zero, List.set_cons_succ, List.length_cons, List.length_nil, pk_I, pk_A, pr_A, pi_I, st_s, st_n, if_true, if_false, eq_self, d_if, d_ju, d_re, d_ca, cat0, cat1, cat2, cat3, fr_z, fr_s, cc_I, cc_A, cc_N, Nat.reduceAdd, Nat.reduceLT, Nat.reduceLeDiff, Nat.reduceEqDiff, not_true, not_false_iff, z1_0, z1_1, Bool.and_self, Bool.true_and, Bool.and_true, nI_add, pk_mul, nI_clamp, decide_true, Nat.le_refl, bI_eq, bI_z1, nI_ltI, nI_leI, g11, gk, g13, hv1, nI_eq, nI_z, z_le, z_lt]
      refine go_at (blk := b_Model_unit_29) rfl ?_
      simp (disch := omega) only [b_Model_unit_29, be_6, be_33, be_50_1, kc_388, List.getD_cons_zero, List.getD_cons_succ, List.set_cons_zero, List.set_cons_succ, List.length_cons, List.length_nil, pk_I, pk_A, pr_A, pi_I, st_s, st_n, if_true, if_false, eq_self, d_if, d_ju, d_re, d_ca, cat0, cat1, cat2, cat3, fr_z, fr_s, cc_I, cc_A, cc_N, Nat.reduceAdd, Nat.reduceLT, Nat.reduceLeDiff, Nat.reduceEqDiff, not_true, not_false_iff, z1_0, z1_1, Bool.and_self, Bool.true_and, Bool.and_true, nI_add, pk_mul, nI_clamp, decide_true, Nat.le_refl, bI_eq, bI_z1, nI_ltI, nI_leI, g11, gk, g13, hv1, nI_eq, nI_z, z_le, z_lt]
      refine go_at (blk := b_Model_unit_36) rfl ?_
      simp (disch := omega) only [b_Model_unit_36, be_6, be_34, be_33, be_38, be_1, be_49_2, kc_388, rf_388_5, ka_391, List.getD_cons_zero, List.getD_cons_succ, List.set_cons_zero, List.set_cons_succ, List.length_cons, List.length_nil, pk_I, pk_A, pr_A, pi_I, st_s, st_n, if_true, if_false, eq_self, d_if, d_ju, d_re, d_ca, cat0, cat1, cat2, cat3, fr_z, fr_s, cc_I, cc_A, cc_N, Nat.reduceAdd, Nat.reduceLT, Nat.reduceLeDiff, Nat.reduceEqDiff, not_true, not_false_iff, z1_0, z1_1, Bool.and_self, Bool.true_and, Bool.and_true, nI_add, pk_mul, nI_clamp, decide_true, Nat.le_refl, bI_eq, bI_z1, nI_ltI, nI_leI, g11, gk, g13, hv1, nI_eq, nI_z, z_le, z_lt]
      refine go_at (blk := b_Model_unit_88) rfl ?_
      simp (disch := omega) only [b_Model_unit_88, be_6, be_1, be_57_1, kc_388, List.getD_cons_zero, List.getD_cons_succ, List.set_cons_zero, List.set_cons_succ, List.length_cons, List.length_nil, pk_I, pk_A, pr_A, pi_I, st_s, st_n, if_true, if_false, eq_self, d_if, d_ju, d_re, d_ca, cat0, cat1, cat2, cat3, fr_z, fr_s, cc_I, cc_A, cc_N, Nat.reduceAdd, Nat.reduceLT, Nat.reduceLeDiff, Nat.reduceEqDiff, not_true, not_false_iff, z1_0, z1_1, Bool.and_self, Bool.true_and, Bool.and_true, nI_add, pk_mul, nI_clamp, decide_true, Nat.le_refl, bI_eq, bI_z1, nI_ltI, nI_leI, g11, gk, g13, hv1, nI_eq, nI_z, z_le, z_lt]
      refine r_fail hE hs0 (by omega) (by omega) ?_
      intro v1 f1 s1
      refine go_at (blk := b_Model_unit_93) rfl ?_
      simp (disch := omega) only [b_Model_unit_93, be_56, List.getD_cons_zero, List.getD_cons_succ, List.set_cons_zero, List.set_cons_succ, List.length_cons, List.length_nil, pk_I, pk_A, pr_A, pi_I, st_s, st_n, if_true, if_false, eq_self, d_if, d_ju, d_re, d_ca, cat0, cat1, cat2, cat3, fr_z, fr_s, cc_I, cc_A, cc_N, Nat.reduceAdd, Nat.reduceLT, Nat.reduceLeDiff, Nat.reduceEqDiff, not_true, not_false_iff, z1_0, z1_1, Bool.and_self, Bool.true_and, Bool.and_true, nI_add, pk_mul, nI_clamp, decide_true, Nat.le_refl, bI_eq, bI_z1, nI_ltI, nI_leI, g11, gk, g13, hv1, nI_eq, nI_z, z_le, z_lt]
      exact q1 v1 _ _ (GU_8 f1) s1 (st_no hK6 hK (by omega))
theorem r_unitB {d : Nat} {v : Nat → Nat → Int32} {w : Nat → Nat → Int64} {Q : Option Value → am_H → Prop} {E : ENV} {l p : Nat} {e : Nat × Nat} (hE : ME E v w) (hs : MS' E v (.inl e, l, p)) (hQ : ∀ v', G8 v v' → MS' E v' (.inl e, l, p) → Q none (428, 26053, KD, RF, v', w)) : am_Ca (d + 2) M_Model_unit [.ref 388] (428, 26053, KD, RF, v, w) Q := by
  have b13 : v 388 13 = nI e.1 := hs.1
  have hk0 : ¬ nI e.1 = 0 := nI_ne0 hs.2.1 (by have := hs.2.2.1; omega)
  refine ca_in (k := k_Model_unit) (nL := 1) rfl (Nat.le_of_ble_eq_true rfl) ?_
  show am_Go am_X0 _ k_Model_unit 0 ([.ref 388], [], _) _
  refine go_at (blk := b_Model_unit_0) rfl ?_
  simp (disch := omega) only [b_Model_unit_0, be_6, be_1, be_57_1, kc_388, List.getD_cons_zero, List.getD_cons_succ, List.set_cons_zero, List.set_cons_succ, List.length_cons, List.length_nil, pk_I, pk_A, pr_A, pi_I, st_s, st_n, if_true, if_false, eq_self, d_if, d_ju, d_re, d_ca, cat0, cat1, cat2, cat3, fr_z, fr_s, cc_I, cc_A, cc_N, Nat.reduceAdd, Nat.reduceLT, Nat.reduceLeDiff, Nat.reduceEqDiff, not_true, not_false_iff, z1_0, z1_1, Bool.and_self, Bool.true_and, Bool.and_true, nI_add, pk_mul, nI_clamp, decide_true, Nat.le_refl, bI_eq, bI_z1, nI_ltI, nI_leI, b13, hk0]
  refine r_is (s := (.inl e, l, p)) hE hs (by omega) (by omega) ?_
  rw [show decide (kdR E (.inl e, l, p) = 2) = false from rfl]
  refine go_at (blk := b_Model_unit_5) rfl ?_
  simp (disch := omega) only [b_Model_unit_5, be_50_0, List.getD_cons_zero, List.getD_cons_succ, List.set_cons_zero, List.set_cons_succ, List.length_cons, List.length_nil, pk_I, pk_A, pr_A, pi_I, st_s, st_n, if_true, if_false, eq_self, d_if, d_ju, d_re, d_ca, cat0, cat1, cat2, cat3, fr_z, fr_s, cc_I, cc_A, cc_N, Nat.reduceAdd, Nat.reduceLT, Nat.reduceLeDiff, Nat.reduceEqDiff, not_true, not_false_iff, z1_0, z1_1, Bool.and_self, Bool.true_and, Bool.and_true, nI_add, pk_mul, nI_clamp, decide_true, Nat.le_refl, bI_eq, bI_z1, nI_ltI, nI_leI, b13, hk0]
  refine go_at (blk := b_Model_unit_29) rfl ?_
  simp (disch := omega) only [b_Model_unit_29, be_6, be_33, be_50_1, kc_388, List.getD_cons_zero, List.getD_cons_succ, List.set_cons_zero, List.set_cons_succ, List.length_cons, List.length_nil, pk_I, pk_A, pr_A, pi_I, st_s, st_n, if_true, if_false, eq_self, d_if, d_ju, d_re, d_ca, cat0, cat1, cat2, cat3, fr_z, fr_s, cc_I, cc_A, cc_N, Nat.reduceAdd, Nat.reduceLT, Nat.reduceLeDiff, Nat.reduceEqDiff, not_true, not_false_iff, z1_0, z1_1, Bool.and_self, Bool.true_and, Bool.and_true, nI_add, pk_mul, nI_clamp, decide_true, Nat.le_refl, bI_eq, bI_z1, nI_ltI, nI_leI, b13, hk0]
  refine go_at (blk := b_Model_unit_88) rfl ?_
  simp (disch := omega) only [b_Model_unit_88, be_6, be_1, be_57_1, kc_388, List.getD_cons_zero, List.getD_cons_succ, List.set_cons_zero, List.set_cons_succ, List.length_cons, List.length_nil, pk_I, pk_A, pr_A, pi_I, st_s, st_n, if_true, if_false, eq_self, d_if, d_ju, d_re, d_ca, cat0, cat1, cat2, cat3, fr_z, fr_s, cc_I, cc_A, cc_N, Nat.reduceAdd, Nat.reduceLT, Nat.reduceLeDiff, Nat.reduceEqDiff, not_true, not_false_iff, z1_0, z1_1, Bool.and_self, Bool.true_and, Bool.and_true, nI_add, pk_mul, nI_clamp, decide_true, Nat.le_refl, bI_eq, bI_z1, nI_ltI, nI_leI, b13, hk0]
  refine r_fail hE hs (by omega) (by omega) ?_
  intro v1 f1 s1
  refine go_at (blk := b_Model_unit_93) rfl ?_
  simp (disch := omega) only [b_Model_unit_93, be_56, List.getD_cons_zero, List.getD_cons_succ, List.set_cons_zero, List.set_cons_succ, List.length_cons, List.length_nil, pk_I, pk_A, pr_A, pi_I, st_s, st_n, if_true, if_false, eq_self, d_if, d_ju, d_re, d_ca, cat0, cat1, cat2, cat3, fr_z, fr_s, cc_I, cc_A, cc_N, Nat.reduceAdd, Nat.reduceLT, Nat.reduceLeDiff, Nat.reduceEqDiff, not_true, not_false_iff, z1_0, z1_1, Bool.and_self, Bool.true_and, Bool.and_true, nI_add, pk_mul, nI_clamp, decide_true, Nat.le_refl, bI_eq, bI_z1, nI_ltI, nI_leI, b13, hk0]
  exact hQ v1 f1 s1
