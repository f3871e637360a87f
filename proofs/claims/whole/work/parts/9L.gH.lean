/-! laid by wip/whole/gH.py: the reference: an E -/
def EXI (E : ENV) (w : Nat → Nat → Int64) (l p B K0 : Nat) (v : Nat → Nat → Int32) (t : Nat) (W : List Nat) (C : CL) : Prop := ME E v w ∧ MG E v t l p ∧ WXm v W ∧ CXm v B C ∧ v 388 12 = nI (opn W) ∧ wfW W ∧ opn W ≤ 6 ∧ B + C.length + opsN W ≤ K0 + t ∧ K0 ≤ 420
theorem r_exB23 {d : Nat} {v : Nat → Nat → Int32} {w : Nat → Nat → Int64} {Q : Option Value → am_H → Prop} {E : ENV} {l p B K0 : Nat} {e : Nat × Nat} (hE : ME E v w) (hs : MS' E v (.inl e, l, p)) {x : Int32} (hQ : ∀ v', GU K0 B v v' → MS' E v' (.inl e, l, p) → Q none (428, 26053, KD, RF, v', w)) : am_Go am_X0 (d + 2) k_Model_expression 23 ([.ref 388, .int (nI 0), .int x], [], (428, 26053, KD, RF, v, w)) Q := by
  have hk1 : ¬ nI e.1 ≤ 0 := nI_nle hs.2.1 (by have := hs.2.2.1; omega)
  refine go_at (blk := b_Model_expression_23) rfl ?_
  simp (disch := omega) only [b_Model_expression_23, be_6, be_1, be_57_1, kc_388, List.getD_cons_zero, List.getD_cons_succ, List.set_cons_zero, List.set_cons_succ, List.length_cons, List.length_nil, pk_I, pk_A, pr_A, pi_I, st_s, st_n, if_true, if_false, eq_self, d_if, d_ju, d_re, d_ca, cat0, cat1, cat2, cat3, fr_z, fr_s, cc_I, cc_A, cc_N, Nat.reduceAdd, Nat.reduceLT, Nat.reduceLeDiff, Nat.reduceEqDiff, not_true, not_false_iff, z1_0, z1_1, Bool.and_self, Bool.true_and, Bool.and_true, nI_add, pk_mul, nI_clamp, decide_true, Nat.le_refl, bI_eq, bI_z1, nI_ltI, nI_leI, hk1]
  refine r_is (s := (.inl e, l, p)) hE hs (by omega) (by omega) ?_
  rw [show decide (kdR E (.inl e, l, p) = 6) = false from rfl]
  refine go_at (blk := b_Model_expression_29) rfl ?_
  simp (disch := omega) only [b_Model_expression_29, be_50_0, List.getD_cons_zero, List.getD_cons_succ, List.set_cons_zero, List.set_cons_succ, List.length_cons, List.length_nil, pk_I, pk_A, pr_A, pi_I, st_s, st_n, if_true, if_false, eq_self, d_if, d_ju, d_re, d_ca, cat0, cat1, cat2, cat3, fr_z, fr_s, cc_I, cc_A, cc_N, Nat.reduceAdd, Nat.reduceLT, Nat.reduceLeDiff, Nat.reduceEqDiff, not_true, not_false_iff, z1_0, z1_1, Bool.and_self, Bool.true_and, Bool.and_true, nI_add, pk_mul, nI_clamp, decide_true, Nat.le_refl, bI_eq, bI_z1, nI_ltI, nI_leI, hk1]
  refine go_at (blk := b_Model_expression_84) rfl ?_
  simp (disch := omega) only [b_Model_expression_84, be_6, be_57_0, kc_388, List.getD_cons_zero, List.getD_cons_succ, List.set_cons_zero, List.set_cons_succ, List.length_cons, List.length_nil, pk_I, pk_A, pr_A, pi_I, st_s, st_n, if_true, if_false, eq_self, d_if, d_ju, d_re, d_ca, cat0, cat1, cat2, cat3, fr_z, fr_s, cc_I, cc_A, cc_N, Nat.reduceAdd, Nat.reduceLT, Nat.reduceLeDiff, Nat.reduceEqDiff, not_true, not_false_iff, z1_0, z1_1, Bool.and_self, Bool.true_and, Bool.and_true, nI_add, pk_mul, nI_clamp, decide_true, Nat.le_refl, bI_eq, bI_z1, nI_ltI, nI_leI, hk1]
  refine r_unitB hE hs ?_
  intro v1 f1 s1
  have b13 : v1 388 13 = nI e.1 := s1.1
  refine go_at (blk := b_Model_expression_88) rfl ?_
  simp (disch := omega) only [b_Model_expression_88, be_6, be_33, be_50_5, kc_388, List.getD_cons_zero, List.getD_cons_succ, List.set_cons_zero, List.set_cons_succ, List.length_cons, List.length_nil, pk_I, pk_A, pr_A, pi_I, st_s, st_n, if_true, if_false, eq_self, d_if, d_ju, d_re, d_ca, cat0, cat1, cat2, cat3, fr_z, fr_s, cc_I, cc_A, cc_N, Nat.reduceAdd, Nat.reduceLT, Nat.reduceLeDiff, Nat.reduceEqDiff, not_true, not_false_iff, z1_0, z1_1, Bool.and_self, Bool.true_and, Bool.and_true, nI_add, pk_mul, nI_clamp, decide_true, Nat.le_refl, bI_eq, bI_z1, nI_ltI, nI_leI, hk1, b13]
  refine go_at (blk := b_Model_expression_95) rfl ?_
  simp (disch := omega) only [b_Model_expression_95, be_56, List.getD_cons_zero, List.getD_cons_succ, List.set_cons_zero, List.set_cons_succ, List.length_cons, List.length_nil, pk_I, pk_A, pr_A, pi_I, st_s, st_n, if_true, if_false, eq_self, d_if, d_ju, d_re, d_ca, cat0, cat1, cat2, cat3, fr_z, fr_s, cc_I, cc_A, cc_N, Nat.reduceAdd, Nat.reduceLT, Nat.reduceLeDiff, Nat.reduceEqDiff, not_true, not_false_iff, z1_0, z1_1, Bool.and_self, Bool.true_and, Bool.and_true, nI_add, pk_mul, nI_clamp, decide_true, Nat.le_refl, bI_eq, bI_z1, nI_ltI, nI_leI, hk1, b13]
  exact hQ v1 (GU_8 f1) s1
theorem r_exB96 {d : Nat} {v : Nat → Nat → Int32} {w : Nat → Nat → Int64} {Q : Option Value → am_H → Prop} {E : ENV} {l p B K0 : Nat} {e : Nat × Nat} (hE : ME E v w) (hs : MS' E v (.inl e, l, p)) {W : List Nat} {C : CL} {n : Nat} (hW : WXm v W) (hC : CXm v B C) (hK4 : K0 ≤ 420) (hB : B + C.length + opsN W < K0 + 420) (hok : okW W) (hl : W.length ≤ 64) (h12 : v 388 12 = nI n) (hn : n ≤ 10) (hQ : ∀ v', GU K0 B v v' → MS' E v' (.inl e, l, p) → Q none (428, 26053, KD, RF, v', w)) : am_Go am_X0 (d + 2) k_Model_expression 96 ([.ref 388, .int (nI 0), .int (nI 1)], [], (428, 26053, KD, RF, v, w)) Q := by
  refine go_at (blk := b_Model_expression_96) rfl ?_
  simp (disch := omega) only [b_Model_expression_96, be_6, be_1, be_57_1, kc_388, List.getD_cons_zero, List.getD_cons_succ, List.set_cons_zero, List.set_cons_succ, List.length_cons, List.length_nil, pk_I, pk_A, pr_A, pi_I, st_s, st_n, if_true, if_false, eq_self, d_if, d_ju, d_re, d_ca, cat0, cat1, cat2, cat3, fr_z, fr_s, cc_I, cc_A, cc_N, Nat.reduceAdd, Nat.reduceLT, Nat.reduceLeDiff, Nat.reduceEqDiff, not_true, not_false_iff, z1_0, z1_1, Bool.and_self, Bool.true_and, Bool.and_true, nI_add, pk_mul, nI_clamp, decide_true, Nat.le_refl, bI_eq, bI_z1, nI_ltI, nI_leI, h12, nI_z]
  refine r_is (s := (.inl e, l, p)) hE hs (by omega) (by omega) ?_
  rw [show decide (kdR E (.inl e, l, p) = 7) = false from rfl]
  refine go_at (blk := b_Model_expression_102) rfl ?_
  simp (disch := omega) only [b_Model_expression_102, be_50_0, List.getD_cons_zero, List.getD_cons_succ, List.set_cons_zero, List.set_cons_succ, List.length_cons, List.length_nil, pk_I, pk_A, pr_A, pi_I, st_s, st_n, if_true, if_false, eq_self, d_if, d_ju, d_re, d_ca, cat0, cat1, cat2, cat3, fr_z, fr_s, cc_I, cc_A, cc_N, Nat.reduceAdd, Nat.reduceLT, Nat.reduceLeDiff, Nat.reduceEqDiff, not_true, not_false_iff, z1_0, z1_1, Bool.and_self, Bool.true_and, Bool.and_true, nI_add, pk_mul, nI_clamp, decide_true, Nat.le_refl, bI_eq, bI_z1, nI_ltI, nI_leI, h12, nI_z]
  refine go_at (blk := b_Model_expression_145) rfl ?_
  simp (disch := omega) only [b_Model_expression_145, be_6, be_1, be_57_1, kc_388, List.getD_cons_zero, List.getD_cons_succ, List.set_cons_zero, List.set_cons_succ, List.length_cons, List.length_nil, pk_I, pk_A, pr_A, pi_I, st_s, st_n, if_true, if_false, eq_self, d_if, d_ju, d_re, d_ca, cat0, cat1, cat2, cat3, fr_z, fr_s, cc_I, cc_A, cc_N, Nat.reduceAdd, Nat.reduceLT, Nat.reduceLeDiff, Nat.reduceEqDiff, not_true, not_false_iff, z1_0, z1_1, Bool.and_self, Bool.true_and, Bool.and_true, nI_add, pk_mul, nI_clamp, decide_true, Nat.le_refl, bI_eq, bI_z1, nI_ltI, nI_leI, h12, nI_z]
  refine r_is (s := (.inl e, l, p)) hE hs (by omega) (by omega) ?_
  rw [show decide (kdR E (.inl e, l, p) = 8) = false from rfl]
  refine go_at (blk := b_Model_expression_151) rfl ?_
  simp (disch := omega) only [b_Model_expression_151, be_50_1, List.getD_cons_zero, List.getD_cons_succ, List.set_cons_zero, List.set_cons_succ, List.length_cons, List.length_nil, pk_I, pk_A, pr_A, pi_I, st_s, st_n, if_true, if_false, eq_self, d_if, d_ju, d_re, d_ca, cat0, cat1, cat2, cat3, fr_z, fr_s, cc_I, cc_A, cc_N, Nat.reduceAdd, Nat.reduceLT, Nat.reduceLeDiff, Nat.reduceEqDiff, not_true, not_false_iff, z1_0, z1_1, Bool.and_self, Bool.true_and, Bool.and_true, nI_add, pk_mul, nI_clamp, decide_true, Nat.le_refl, bI_eq, bI_z1, nI_ltI, nI_leI, h12, nI_z]
  refine go_at (blk := b_Model_expression_154) rfl ?_
  simp (disch := omega) only [b_Model_expression_154, be_6, be_1, be_57_1, kc_388, List.getD_cons_zero, List.getD_cons_succ, List.set_cons_zero, List.set_cons_succ, List.length_cons, List.length_nil, pk_I, pk_A, pr_A, pi_I, st_s, st_n, if_true, if_false, eq_self, d_if, d_ju, d_re, d_ca, cat0, cat1, cat2, cat3, fr_z, fr_s, cc_I, cc_A, cc_N, Nat.reduceAdd, Nat.reduceLT, Nat.reduceLeDiff, Nat.reduceEqDiff, not_true, not_false_iff, z1_0, z1_1, Bool.and_self, Bool.true_and, Bool.and_true, nI_add, pk_mul, nI_clamp, decide_true, Nat.le_refl, bI_eq, bI_z1, nI_ltI, nI_leI, h12, nI_z]
  refine r_is (s := (.inl e, l, p)) hE hs (by omega) (by omega) ?_
  rw [show decide (kdR E (.inl e, l, p) = 9) = false from rfl]
  refine go_at (blk := b_Model_expression_160) rfl ?_
  simp (disch := omega) only [b_Model_expression_160, be_50_1, List.getD_cons_zero, List.getD_cons_succ, List.set_cons_zero, List.set_cons_succ, List.length_cons, List.length_nil, pk_I, pk_A, pr_A, pi_I, st_s, st_n, if_true, if_false, eq_self, d_if, d_ju, d_re, d_ca, cat0, cat1, cat2, cat3, fr_z, fr_s, cc_I, cc_A, cc_N, Nat.reduceAdd, Nat.reduceLT, Nat.reduceLeDiff, Nat.reduceEqDiff, not_true, not_false_iff, z1_0, z1_1, Bool.and_self, Bool.true_and, Bool.and_true, nI_add, pk_mul, nI_clamp, decide_true, Nat.le_refl, bI_eq, bI_z1, nI_ltI, nI_leI, h12, nI_z]
  refine go_at (blk := b_Model_expression_163) rfl ?_
  simp (disch := omega) only [b_Model_expression_163, be_6, be_1, be_57_1, kc_388, List.getD_cons_zero, List.getD_cons_succ, List.set_cons_zero, List.set_cons_succ, List.length_cons, List.length_nil, pk_I, pk_A, pr_A, pi_I, st_s, st_n, if_true, if_false, eq_self, d_if, d_ju, d_re, d_ca, cat0, cat1, cat2, cat3, fr_z, fr_s, cc_I, cc_A, cc_N, Nat.reduceAdd, Nat.reduceLT, Nat.reduceLeDiff, Nat.reduceEqDiff, not_true, not_false_iff, z1_0, z1_1, Bool.and_self, Bool.true_and, Bool.and_true, nI_add, pk_mul, nI_clamp, decide_true, Nat.le_refl, bI_eq, bI_z1, nI_ltI, nI_leI, h12, nI_z]
  refine r_is (s := (.inl e, l, p)) hE hs (by omega) (by omega) ?_
  rw [show decide (kdR E (.inl e, l, p) = 10) = false from rfl]
  refine go_at (blk := b_Model_expression_169) rfl ?_
  simp (disch := omega) only [b_Model_expression_169, be_50_1, List.getD_cons_zero, List.getD_cons_succ, List.set_cons_zero, List.set_cons_succ, List.length_cons, List.length_nil, pk_I, pk_A, pr_A, pi_I, st_s, st_n, if_true, if_false, eq_self, d_if, d_ju, d_re, d_ca, cat0, cat1, cat2, cat3, fr_z, fr_s, cc_I, cc_A, cc_N, Nat.reduceAdd, Nat.reduceLT, Nat.reduceLeDiff, Nat.reduceEqDiff, not_true, not_false_iff, z1_0, z1_1, Bool.and_self, Bool.true_and, Bool.and_true, nI_add, pk_mul, nI_clamp, decide_true, Nat.le_refl, bI_eq, bI_z1, nI_ltI, nI_leI, h12, nI_z]
  refine go_at (blk := b_Model_expression_172) rfl ?_
  simp (disch := omega) only [b_Model_expression_172, be_6, be_1, be_57_1, kc_388, List.getD_cons_zero, List.getD_cons_succ, List.set_cons_zero, List.set_cons_succ, List.length_cons, List.length_nil, pk_I, pk_A, pr_A, pi_I, st_s, st_n, if_true, if_false, eq_self, d_if, d_ju, d_re, d_ca, cat0, cat1, cat2, cat3, fr_z, fr_s, cc_I, cc_A, cc_N, Nat.reduceAdd, Nat.reduceLT, Nat.reduceLeDiff, Nat.reduceEqDiff, not_true, not_false_iff, z1_0, z1_1, Bool.and_self, Bool.true_and, Bool.and_true, nI_add, pk_mul, nI_clamp, decide_true, Nat.le_refl, bI_eq, bI_z1, nI_ltI, nI_leI, h12, nI_z]
  refine r_is (s := (.inl e, l, p)) hE hs (by omega) (by omega) ?_
  rw [show decide (kdR E (.inl e, l, p) = 15) = false from rfl]
  refine go_at (blk := b_Model_expression_178) rfl ?_
  simp (disch := omega) only [b_Model_expression_178, be_50_0, List.getD_cons_zero, List.getD_cons_succ, List.set_cons_zero, List.set_cons_succ, List.length_cons, List.length_nil, pk_I, pk_A, pr_A, pi_I, st_s, st_n, if_true, if_false, eq_self, d_if, d_ju, d_re, d_ca, cat0, cat1, cat2, cat3, fr_z, fr_s, cc_I, cc_A, cc_N, Nat.reduceAdd, Nat.reduceLT, Nat.reduceLeDiff, Nat.reduceEqDiff, not_true, not_false_iff, z1_0, z1_1, Bool.and_self, Bool.true_and, Bool.and_true, nI_add, pk_mul, nI_clamp, decide_true, Nat.le_refl, bI_eq, bI_z1, nI_ltI, nI_leI, h12, nI_z]
  refine go_at (blk := b_Model_expression_185) rfl ?_
  simp (disch := omega) only [b_Model_expression_185, be_1, be_0, List.getD_cons_zero, List.getD_cons_succ, List.set_cons_zero, List.set_cons_succ, List.length_cons, List.length_nil, pk_I, pk_A, pr_A, pi_I, st_s, st_n, if_true, if_false, eq_self, d_if, d_ju, d_re, d_ca, cat0, cat1, cat2, cat3, fr_z, fr_s, cc_I, cc_A, cc_N, Nat.reduceAdd, Nat.reduceLT, Nat.reduceLeDiff, Nat.reduceEqDiff, not_true, not_false_iff, z1_0, z1_1, Bool.and_self, Bool.true_and, Bool.and_true, nI_add, pk_mul, nI_clamp, decide_true, Nat.le_refl, bI_eq, bI_z1, nI_ltI, nI_leI, h12, nI_z]
  refine go_at (blk := b_Model_expression_186) rfl ?_
  simp (disch := omega) only [b_Model_expression_186, be_7, be_4, be_50_1, List.getD_cons_zero, List.getD_cons_succ, List.set_cons_zero, List.set_cons_succ, List.length_cons, List.length_nil, pk_I, pk_A, pr_A, pi_I, st_s, st_n, if_true, if_false, eq_self, d_if, d_ju, d_re, d_ca, cat0, cat1, cat2, cat3, fr_z, fr_s, cc_I, cc_A, cc_N, Nat.reduceAdd, Nat.reduceLT, Nat.reduceLeDiff, Nat.reduceEqDiff, not_true, not_false_iff, z1_0, z1_1, Bool.and_self, Bool.true_and, Bool.and_true, nI_add, pk_mul, nI_clamp, decide_true, Nat.le_refl, bI_eq, bI_z1, nI_ltI, nI_leI, h12, nI_z]
  refine go_at (blk := b_Model_expression_191) rfl ?_
  simp (disch := omega) only [b_Model_expression_191, be_6, be_33, be_4, be_49_5, kc_388, List.getD_cons_zero, List.getD_cons_succ, List.set_cons_zero, List.set_cons_succ, List.length_cons, List.length_nil, pk_I, pk_A, pr_A, pi_I, st_s, st_n, if_true, if_false, eq_self, d_if, d_ju, d_re, d_ca, cat0, cat1, cat2, cat3, fr_z, fr_s, cc_I, cc_A, cc_N, Nat.reduceAdd, Nat.reduceLT, Nat.reduceLeDiff, Nat.reduceEqDiff, not_true, not_false_iff, z1_0, z1_1, Bool.and_self, Bool.true_and, Bool.and_true, nI_add, pk_mul, nI_clamp, decide_true, Nat.le_refl, bI_eq, bI_z1, nI_ltI, nI_leI, h12, nI_z]
  split
  · rename_i h0
    refine go_at (blk := b_Model_expression_204) rfl ?_
    simp (disch := omega) only [b_Model_expression_204, be_6, be_1, be_57_1, kc_388, List.getD_cons_zero, List.getD_cons_succ, List.set_cons_zero, List.set_cons_succ, List.length_cons, List.length_nil, pk_I, pk_A, pr_A, pi_I, st_s, st_n, if_true, if_false, eq_self, d_if, d_ju, d_re, d_ca, cat0, cat1, cat2, cat3, fr_z, fr_s, cc_I, cc_A, cc_N, Nat.reduceAdd, Nat.reduceLT, Nat.reduceLeDiff, Nat.reduceEqDiff, not_true, not_false_iff, z1_0, z1_1, Bool.and_self, Bool.true_and, Bool.and_true, nI_add, pk_mul, nI_clamp, decide_true, Nat.le_refl, bI_eq, bI_z1, nI_ltI, nI_leI, h12, nI_z]
    refine r_out0 hK4 hW hC hB hok hl ?_
    intro v2 f2 w2 c2
    refine go_at (blk := b_Model_expression_209) rfl ?_
    simp (disch := omega) only [b_Model_expression_209, be_56, List.getD_cons_zero, List.getD_cons_succ, List.set_cons_zero, List.set_cons_succ, List.length_cons, List.length_nil, pk_I, pk_A, pr_A, pi_I, st_s, st_n, if_true, if_false, eq_self, d_if, d_ju, d_re, d_ca, cat0, cat1, cat2, cat3, fr_z, fr_s, cc_I, cc_A, cc_N, Nat.reduceAdd, Nat.reduceLT, Nat.reduceLeDiff, Nat.reduceEqDiff, not_true, not_false_iff, z1_0, z1_1, Bool.and_self, Bool.true_and, Bool.and_true, nI_add, pk_mul, nI_clamp, decide_true, Nat.le_refl, bI_eq, bI_z1, nI_ltI, nI_leI, h12, nI_z]
    exact hQ v2 (GU_O f2) (MS_O hs f2)
  · rename_i h0
    refine go_at (blk := b_Model_expression_199) rfl ?_
    simp (disch := omega) only [b_Model_expression_199, be_6, be_1, be_57_1, kc_388, List.getD_cons_zero, List.getD_cons_succ, List.set_cons_zero, List.set_cons_succ, List.length_cons, List.length_nil, pk_I, pk_A, pr_A, pi_I, st_s, st_n, if_true, if_false, eq_self, d_if, d_ju, d_re, d_ca, cat0, cat1, cat2, cat3, fr_z, fr_s, cc_I, cc_A, cc_N, Nat.reduceAdd, Nat.reduceLT, Nat.reduceLeDiff, Nat.reduceEqDiff, not_true, not_false_iff, z1_0, z1_1, Bool.and_self, Bool.true_and, Bool.and_true, nI_add, pk_mul, nI_clamp, decide_true, Nat.le_refl, bI_eq, bI_z1, nI_ltI, nI_leI, h12, nI_z]
    refine r_fail hE hs (by omega) (by omega) ?_
    intro v1 f1 s1
    refine go_at (blk := b_Model_expression_204) rfl ?_
    simp (disch := omega) only [b_Model_expression_204, be_6, be_1, be_57_1, kc_388, List.getD_cons_zero, List.getD_cons_succ, List.set_cons_zero, List.set_cons_succ, List.length_cons, List.length_nil, pk_I, pk_A, pr_A, pi_I, st_s, st_n, if_true, if_false, eq_self, d_if, d_ju, d_re, d_ca, cat0, cat1, cat2, cat3, fr_z, fr_s, cc_I, cc_A, cc_N, Nat.reduceAdd, Nat.reduceLT, Nat.reduceLeDiff, Nat.reduceEqDiff, not_true, not_false_iff, z1_0, z1_1, Bool.and_self, Bool.true_and, Bool.and_true, nI_add, pk_mul, nI_clamp, decide_true, Nat.le_refl, bI_eq, bI_z1, nI_ltI, nI_leI, h12, nI_z]
    refine r_out0 hK4 (WX_8 hW f1) (CX_8 hC f1) hB hok hl ?_
    intro v2 f2 w2 c2
    refine go_at (blk := b_Model_expression_209) rfl ?_
    simp (disch := omega) only [b_Model_expression_209, be_56, List.getD_cons_zero, List.getD_cons_succ, List.set_cons_zero, List.set_cons_succ, List.length_cons, List.length_nil, pk_I, pk_A, pr_A, pi_I, st_s, st_n, if_true, if_false, eq_self, d_if, d_ju, d_re, d_ca, cat0, cat1, cat2, cat3, fr_z, fr_s, cc_I, cc_A, cc_N, Nat.reduceAdd, Nat.reduceLT, Nat.reduceLeDiff, Nat.reduceEqDiff, not_true, not_false_iff, z1_0, z1_1, Bool.and_self, Bool.true_and, Bool.and_true, nI_add, pk_mul, nI_clamp, decide_true, Nat.le_refl, bI_eq, bI_z1, nI_ltI, nI_leI, h12, nI_z]
    exact hQ v2 (GU_t (GU_8 f1) (GU_O f2)) (MS_O (s := (.inl e, l, p)) s1 f2)
theorem xr_d {E : ENV} {n : Nat} {s : XS} {r R : RXr} (h : stX E s = .inr r) (hx : xrun E (n + 1) s = some R) : R = r := by
  have h1 : (match stX E s with
    | .inr r => some r
    | .inl s' => xrun E n s') = some R := hx
  rw [h] at h1
  exact (Option.some.inj h1).symm
theorem xr_s {E : ENV} {n : Nat} {s s' : XS} {R : RXr} (h : stX E s = .inl s') (hx : xrun E (n + 1) s = some R) : xrun E n s' = some R := by
  have h1 : (match stX E s with
    | .inr r => some r
    | .inl s' => xrun E n s') = some R := hx
  rw [h] at h1
  exact h1
set_option maxHeartbeats 2000000 in
theorem r_exU {d n : Nat} {v : Nat → Nat → Int32} {w : Nat → Nat → Int64} {Q : Option Value → am_H → Prop} {E : ENV} {l p B K0 t : Nat} {W : List Nat} {C : CL} {R : RXr} (hI : EXI E w l p B K0 v t W C) (hx : xrun E (n + 1) (false, t, W, C) = some R) (ih : ∀ (m' : Bool) (t : Nat) (W : List Nat) (C : CL) (v : Nat → Nat → Int32), xrun E n (m', t, W, C) = some R → EXI E w l p B K0 v t W C → (∀ v' t' C', GU K0 B v v' → MG E v' t' l p → CXm v' B C' → v' 388 12 = nI 0 → B + C'.length ≤ K0 + t' → R = .inr (t', C') → Q none (428, 26053, KD, RF, v', w)) → (∀ v' k p', GU K0 B v v' → MB v' k p' → R = .inl (k, p') → Q none (428, 26053, KD, RF, v', w)) → am_Go am_X0 (d + 4) k_Model_expression (if m' = true then 96 else 23) ([.ref 388, .int (nI 0), .int (nI 1)], [], (428, 26053, KD, RF, v, w)) Q) (q0 : ∀ v' t' C', GU K0 B v v' → MG E v' t' l p → CXm v' B C' → v' 388 12 = nI 0 → B + C'.length ≤ K0 + t' → R = .inr (t', C') → Q none (428, 26053, KD, RF, v', w)) (q1 : ∀ v' k p', GU K0 B v v' → MB v' k p' → R = .inl (k, p') → Q none (428, 26053, KD, RF, v', w)) : am_Go am_X0 (d + 4) k_Model_expression 23 ([.ref 388, .int (nI 0), .int (nI 1)], [], (428, 26053, KD, RF, v, w)) Q := by
  obtain ⟨hE, hG, hW, hC, h12, hwf, ho6, hbd, hK0⟩ := hI
  have hs : MS' E v (.inr t, l, p) := hG
  obtain ⟨g11, gt, g13, g15, gl, g16⟩ := hG
  obtain ⟨gk, gp, gv, gn⟩ := hE.2 t gt
  have gL := hE.1.1
  have h37 := (hE.1.2.2.2.1 t).1
  have hok := wf_ok W hwf
  have hlen := (wf_len W hwf).1
  by_cases hK : eK E t = 6
  · by_cases ho : opn W < 6
    · have h12n : ¬ opn W = 6 := by omega
      refine go_at (blk := b_Model_expression_23) rfl ?_
      simp (disch := omega) only [b_Model_expression_23, be_6, be_1, be_57_1, kc_388, List.getD_cons_zero, List.getD_cons_succ, List.set_cons_zero, List.set_cons_succ, List.length_cons, List.length_nil, pk_I, pk_A, pr_A, pi_I, st_s, st_n, if_true, if_false, eq_self, d_if, d_ju, d_re, d_ca, cat0, cat1, cat2, cat3, fr_z, fr_s, cc_I, cc_A, cc_N, Nat.reduceAdd, Nat.reduceLT, Nat.reduceLeDiff, Nat.reduceEqDiff, not_true, not_false_iff, z1_0, z1_1, Bool.and_self, Bool.true_and, Bool.and_true, nI_add, pk_mul, nI_clamp, decide_true, Nat.le_refl, bI_eq, bI_z1, nI_ltI, nI_leI, am_u_at, am_u_ne, upd_at, upd_ne, h12, h12n, nI_eq, nI_z]
      refine r_is (s := (.inr t, l, p)) hE hs (by omega) (by omega) ?_
      rw [show decide (kdR E (.inr t, l, p) = 6) = true from decide_eq_true hK]
      refine go_at (blk := b_Model_expression_29) rfl ?_
      simp (disch := omega) only [b_Model_expression_29, be_50_0, List.getD_cons_zero, List.getD_cons_succ, List.set_cons_zero, List.set_cons_succ, List.length_cons, List.length_nil, pk_I, pk_A, pr_A, pi_I, st_s, st_n, if_true, if_false, eq_self, d_if, d_ju, d_re, d_ca, cat0, cat1, cat2, cat3, fr_z, fr_s, cc_I, cc_A, cc_N, Nat.reduceAdd, Nat.reduceLT, Nat.reduceLeDiff, Nat.reduceEqDiff, not_true, not_false_iff, z1_0, z1_1, Bool.and_self, Bool.true_and, Bool.and_true, nI_add, pk_mul, nI_clamp, decide_true, Nat.le_refl, bI_eq, bI_z1, nI_ltI, nI_leI, am_u_at, am_u_ne, upd_at, upd_ne, h12, h12n, nI_eq, nI_z]
      refine go_at (blk := b_Model_expression_32) rfl ?_
      simp (disch := omega) only [b_Model_expression_32, be_6, be_33, be_1, be_49_1, kc_388, List.getD_cons_zero, List.getD_cons_succ, List.set_cons_zero, List.set_cons_succ, List.length_cons, List.length_nil, pk_I, pk_A, pr_A, pi_I, st_s, st_n, if_true, if_false, eq_self, d_if, d_ju, d_re, d_ca, cat0, cat1, cat2, cat3, fr_z, fr_s, cc_I, cc_A, cc_N, Nat.reduceAdd, Nat.reduceLT, Nat.reduceLeDiff, Nat.reduceEqDiff, not_true, not_false_iff, z1_0, z1_1, Bool.and_self, Bool.true_and, Bool.and_true, nI_add, pk_mul, nI_clamp, decide_true, Nat.le_refl, bI_eq, bI_z1, nI_ltI, nI_leI, am_u_at, am_u_ne, upd_at, upd_ne, h12, h12n, nI_eq, nI_z]
      refine go_at (blk := b_Model_expression_46) rfl ?_
      simp (disch := omega) only [b_Model_expression_46, be_6, be_30I, be_30A, be_33, be_1, be_12, be_35, be_57_0, kc_388, List.getD_cons_zero, List.getD_cons_succ, List.set_cons_zero, List.set_cons_succ, List.length_cons, List.length_nil, pk_I, pk_A, pr_A, pi_I, st_s, st_n, if_true, if_false, eq_self, d_if, d_ju, d_re, d_ca, cat0, cat1, cat2, cat3, fr_z, fr_s, cc_I, cc_A, cc_N, Nat.reduceAdd, Nat.reduceLT, Nat.reduceLeDiff, Nat.reduceEqDiff, not_true, not_false_iff, z1_0, z1_1, Bool.and_self, Bool.true_and, Bool.and_true, nI_add, pk_mul, nI_clamp, decide_true, Nat.le_refl, bI_eq, bI_z1, nI_ltI, nI_leI, am_u_at, am_u_ne, upd_at, upd_ne, h12, h12n, nI_eq, nI_z]
      refine r_goesOn (s := (.inr t, l, p)) (ME_w hE (by rw [am_u_ne (by omega)]) (by rw [am_u_ne (by omega)]) (by rw [am_u_ne (by omega)])) (MS_w hs (fun k hk => by rw [am_u_at, upd_ne (by omega)])) (fun t' ht => ?_) ?_
      · have e9 : t = t' := by simpa using ht
        subst e9
        exact ⟨by omega, by omega⟩
      intro v1 f1 s1
      have h43 : v1 388 43 = nI W.length := by rw [f1.2 43 (by omega) (by omega) (by omega) (by omega) (by omega), am_u_at, upd_ne (by omega)]; exact hW.1
      have fr : GU K0 B v v1 := GU_t ⟨fun c c1 _ _ _ => am_u_ne c1, fun k _ _ _ _ _ _ _ k8 => by rw [am_u_at, upd_ne k8], fun k _ => ⟨by rw [am_u_ne (by omega)], by rw [am_u_ne (by omega)]⟩⟩ (GU_8 f1)
      refine go_at (blk := b_Model_expression_60) rfl ?_
      simp (disch := omega) only [b_Model_expression_60, be_6, be_34, be_33, be_1, be_43, be_30I, be_30A, be_12, be_35, be_51, kc_388, rf_388_42, ka_415, List.getD_cons_zero, List.getD_cons_succ, List.set_cons_zero, List.set_cons_succ, List.length_cons, List.length_nil, pk_I, pk_A, pr_A, pi_I, st_s, st_n, if_true, if_false, eq_self, d_if, d_ju, d_re, d_ca, cat0, cat1, cat2, cat3, fr_z, fr_s, cc_I, cc_A, cc_N, Nat.reduceAdd, Nat.reduceLT, Nat.reduceLeDiff, Nat.reduceEqDiff, not_true, not_false_iff, z1_0, z1_1, Bool.and_self, Bool.true_and, Bool.and_true, nI_add, pk_mul, nI_clamp, decide_true, Nat.le_refl, bI_eq, bI_z1, nI_ltI, nI_leI, am_u_at, am_u_ne, upd_at, upd_ne, h12, h12n, h43, nI_eq, nI_z]
      have fr2 : GU K0 B v1 (am_u (am_u v1 415 W.length (nI 6)) 388 43 (nI (W.length + 1))) := ⟨fun c c1 _ _ c4 => by rw [am_u_ne c1, am_u_ne c4], fun k _ _ _ _ _ _ k7 _ => by rw [am_u_at, upd_ne k7, am_u_ne (by omega)], fun k _ => ⟨by rw [am_u_ne (by omega), am_u_ne (by omega)], by rw [am_u_ne (by omega), am_u_ne (by omega)]⟩⟩
      have hE2 : ME E (am_u (am_u v1 415 W.length (nI 6)) 388 43 (nI (W.length + 1))) w := ME_U (ME_U hE fr) fr2
      by_cases ht : t < 400
      · rw [tk_1 ht] at s1
        have hst := st_open (C := C) hK ho ht
        refine ih false (t + 1) (6 :: W) C _ (xr_s hst hx) ⟨hE2, ?_, ⟨?_, fun j hj => ?_⟩, ?_, ?_, ⟨Or.inl rfl, hwf⟩, by rw [opn_6]; omega, ?_, hK0⟩ (fun v' t' C' a1 a2 a3 a4 a5 a6 => q0 v' t' C' (GU_t fr (GU_t fr2 a1)) a2 a3 a4 a5 a6) (fun v' k p' a1 a2 a3 => q1 v' k p' (GU_t fr (GU_t fr2 a1)) a2 a3)
        · exact MS_w (s := (.inr (t + 1), l, p)) s1 (fun k hk => by rw [am_u_at, upd_ne (by omega), am_u_ne (by omega)])
        · rw [am_u_at, upd_at]
          rfl
        · rw [am_u_ne (by omega), am_u_at]
          have hj' : j < W.length + 1 := hj
          cases j with
          | zero =>
            rw [show (6 :: W).length - 1 - 0 = W.length from rfl, upd_at]
            rfl
          | succ j =>
            rw [show (6 :: W).length - 1 - (j + 1) = W.length - 1 - j by show W.length + 1 - 1 - (j + 1) = _; omega, upd_ne (by omega), f1.1 415 (by omega), am_u_ne (by omega)]
            exact hW.2 j (by omega)
        · refine ⟨?_, fun j hj => ?_⟩
          · rw [am_u_at, upd_ne (by omega), am_u_ne (by omega), f1.2 39 (by omega) (by omega) (by omega) (by omega) (by omega), am_u_at, upd_ne (by omega)]
            exact hC.1
          · rw [am_u_ne (by omega), am_u_ne (by omega), am_u_ne (by omega), am_u_ne (by omega), f1.1 413 (by omega), f1.1 414 (by omega), am_u_ne (by omega), am_u_ne (by omega)]
            exact hC.2 j hj
        · rw [am_u_at, upd_ne (by omega), am_u_ne (by omega), f1.2 12 (by omega) (by omega) (by omega) (by omega) (by omega), am_u_at, upd_at, opn_6, Nat.add_comm]
        · show B + C.length + ((if 6 = 6 then 0 else 1) + opsN W) ≤ K0 + (t + 1)
          rw [if_pos rfl]
          omega
      · rw [tk_2 ht] at s1
        exact r_exB23 (e := (2, eP E t)) (l := l) (p := p) (B := B) (K0 := K0) hE2 (MS_w s1 (fun k hk => by rw [am_u_at, upd_ne (by omega), am_u_ne (by omega)])) (fun v3 f3 s3 => q1 v3 _ _ (GU_t fr (GU_t fr2 f3)) s3 (xr_d (st_open4 hK ht) hx))
    · rw [show opn W = 6 by omega] at h12
      refine go_at (blk := b_Model_expression_23) rfl ?_
      simp (disch := omega) only [b_Model_expression_23, be_6, be_1, be_57_1, kc_388, List.getD_cons_zero, List.getD_cons_succ, List.set_cons_zero, List.set_cons_succ, List.length_cons, List.length_nil, pk_I, pk_A, pr_A, pi_I, st_s, st_n, if_true, if_false, eq_self, d_if, d_ju, d_re, d_ca, cat0, cat1, cat2, cat3, fr_z, fr_s, cc_I, cc_A, cc_N, Nat.reduceAdd, Nat.reduceLT, Nat.reduceLeDiff, Nat.reduceEqDiff, not_true, not_false_iff, z1_0, z1_1, Bool.and_self, Bool.true_and, Bool.and_true, nI_add, pk_mul, nI_clamp, decide_true, Nat.le_refl, bI_eq, bI_z1, nI_ltI, nI_leI, am_u_at, am_u_ne, upd_at, upd_ne, h12, nI_eq, nI_z]
      refine r_is (s := (.inr t, l, p)) hE hs (by omega) (by omega) ?_
      rw [show decide (kdR E (.inr t, l, p) = 6) = true from decide_eq_true hK]
      refine go_at (blk := b_Model_expression_29) rfl ?_
      simp (disch := omega) only [b_Model_expression_29, be_50_0, List.getD_cons_zero, List.getD_cons_succ, List.set_cons_zero, List.set_cons_succ, List.length_cons, List.length_nil, pk_I, pk_A, pr_A, pi_I, st_s, st_n, if_true, if_false, eq_self, d_if, d_ju, d_re, d_ca, cat0, cat1, cat2, cat3, fr_z, fr_s, cc_I, cc_A, cc_N, Nat.reduceAdd, Nat.reduceLT, Nat.reduceLeDiff, Nat.reduceEqDiff, not_true, not_false_iff, z1_0, z1_1, Bool.and_self, Bool.true_and, Bool.and_true, nI_add, pk_mul, nI_clamp, decide_true, Nat.le_refl, bI_eq, bI_z1, nI_ltI, nI_leI, am_u_at, am_u_ne, upd_at, upd_ne, h12, nI_eq, nI_z]
      refine go_at (blk := b_Model_expression_32) rfl ?_
      simp (disch := omega) only [b_Model_expression_32, be_6, be_33, be_1, be_49_1, kc_388, List.getD_cons_zero, List.getD_cons_succ, List.set_cons_zero, List.set_cons_succ, List.length_cons, List.length_nil, pk_I, pk_A, pr_A, pi_I, st_s, st_n, if_true, if_false, eq_self, d_if, d_ju, d_re, d_ca, cat0, cat1, cat2, cat3, fr_z, fr_s, cc_I, cc_A, cc_N, Nat.reduceAdd, Nat.reduceLT, Nat.reduceLeDiff, Nat.reduceEqDiff, not_true, not_false_iff, z1_0, z1_1, Bool.and_self, Bool.true_and, Bool.and_true, nI_add, pk_mul, nI_clamp, decide_true, Nat.le_refl, bI_eq, bI_z1, nI_ltI, nI_leI, am_u_at, am_u_ne, upd_at, upd_ne, h12, nI_eq, nI_z]
      refine go_at (blk := b_Model_expression_41) rfl ?_
      simp (disch := omega) only [b_Model_expression_41, be_6, be_1, be_57_1, kc_388, List.getD_cons_zero, List.getD_cons_succ, List.set_cons_zero, List.set_cons_succ, List.length_cons, List.length_nil, pk_I, pk_A, pr_A, pi_I, st_s, st_n, if_true, if_false, eq_self, d_if, d_ju, d_re, d_ca, cat0, cat1, cat2, cat3, fr_z, fr_s, cc_I, cc_A, cc_N, Nat.reduceAdd, Nat.reduceLT, Nat.reduceLeDiff, Nat.reduceEqDiff, not_true, not_false_iff, z1_0, z1_1, Bool.and_self, Bool.true_and, Bool.and_true, nI_add, pk_mul, nI_clamp, decide_true, Nat.le_refl, bI_eq, bI_z1, nI_ltI, nI_leI, am_u_at, am_u_ne, upd_at, upd_ne, h12, nI_eq, nI_z]
      refine r_fail hE hs (by omega) (by omega) ?_
      intro v0 f0 s0
      have h12' : v0 388 12 = nI 6 := by rw [f0.2 12 (by omega) (by omega) (by omega) (by omega) (by omega), h12]
      refine go_at (blk := b_Model_expression_46) rfl ?_
      simp (disch := omega) only [b_Model_expression_46, be_6, be_30I, be_30A, be_33, be_1, be_12, be_35, be_57_0, kc_388, List.getD_cons_zero, List.getD_cons_succ, List.set_cons_zero, List.set_cons_succ, List.length_cons, List.length_nil, pk_I, pk_A, pr_A, pi_I, st_s, st_n, if_true, if_false, eq_self, d_if, d_ju, d_re, d_ca, cat0, cat1, cat2, cat3, fr_z, fr_s, cc_I, cc_A, cc_N, Nat.reduceAdd, Nat.reduceLT, Nat.reduceLeDiff, Nat.reduceEqDiff, not_true, not_false_iff, z1_0, z1_1, Bool.and_self, Bool.true_and, Bool.and_true, nI_add, pk_mul, nI_clamp, decide_true, Nat.le_refl, bI_eq, bI_z1, nI_ltI, nI_leI, am_u_at, am_u_ne, upd_at, upd_ne, h12, nI_eq, nI_z, h12']
      refine r_goesOn (s := (.inl (2, eP E t), l, p)) (ME_w (ME_8 hE f0) (by rw [am_u_ne (by omega)]) (by rw [am_u_ne (by omega)]) (by rw [am_u_ne (by omega)])) (MS_w s0 (fun k hk => by rw [am_u_at, upd_ne (by omega)])) (fun t' ht => by cases ht) ?_
      intro v1 f1 s1
      have h43 : v1 388 43 = nI W.length := by rw [f1.2 43 (by omega) (by omega) (by omega) (by omega) (by omega), am_u_at, upd_ne (by omega), f0.2 43 (by omega) (by omega) (by omega) (by omega) (by omega)]; exact hW.1
      have fr : GU K0 B v v1 := GU_t (GU_8 f0) (GU_t ⟨fun c c1 _ _ _ => am_u_ne c1, fun k _ _ _ _ _ _ _ k8 => by rw [am_u_at, upd_ne k8], fun k _ => ⟨by rw [am_u_ne (by omega)], by rw [am_u_ne (by omega)]⟩⟩ (GU_8 f1))
      refine go_at (blk := b_Model_expression_60) rfl ?_
      simp (disch := omega) only [b_Model_expression_60, be_6, be_34, be_33, be_1, be_43, be_30I, be_30A, be_12, be_35, be_51, kc_388, rf_388_42, ka_415, List.getD_cons_zero, List.getD_cons_succ, List.set_cons_zero, List.set_cons_succ, List.length_cons, List.length_nil, pk_I, pk_A, pr_A, pi_I, st_s, st_n, if_true, if_false, eq_self, d_if, d_ju, d_re, d_ca, cat0, cat1, cat2, cat3, fr_z, fr_s, cc_I, cc_A, cc_N, Nat.reduceAdd, Nat.reduceLT, Nat.reduceLeDiff, Nat.reduceEqDiff, not_true, not_false_iff, z1_0, z1_1, Bool.and_self, Bool.true_and, Bool.and_true, nI_add, pk_mul, nI_clamp, decide_true, Nat.le_refl, bI_eq, bI_z1, nI_ltI, nI_leI, am_u_at, am_u_ne, upd_at, upd_ne, h12, h43, nI_eq, nI_z, h12']
      have fr2 : GU K0 B v1 (am_u (am_u v1 415 W.length (nI 6)) 388 43 (nI (W.length + 1))) := ⟨fun c c1 _ _ c4 => by rw [am_u_ne c1, am_u_ne c4], fun k _ _ _ _ _ _ k7 _ => by rw [am_u_at, upd_ne k7, am_u_ne (by omega)], fun k _ => ⟨by rw [am_u_ne (by omega), am_u_ne (by omega)], by rw [am_u_ne (by omega), am_u_ne (by omega)]⟩⟩
      have hE2 : ME E (am_u (am_u v1 415 W.length (nI 6)) 388 43 (nI (W.length + 1))) w := ME_U (ME_U hE fr) fr2
      exact r_exB23 (e := (2, eP E t)) (l := l) (p := p) (B := B) (K0 := K0) hE2 (MS_w s1 (fun k hk => by rw [am_u_at, upd_ne (by omega), am_u_ne (by omega)])) (fun v3 f3 s3 => q1 v3 _ _ (GU_t fr (GU_t fr2 f3)) s3 (xr_d (st_open6 hK (by omega)) hx))
  · refine go_at (blk := b_Model_expression_23) rfl ?_
    simp (disch := omega) only [b_Model_expression_23, be_6, be_1, be_57_1, kc_388, List.getD_cons_zero, List.getD_cons_succ, List.set_cons_zero, List.set_cons_succ, List.length_cons, List.length_nil, pk_I, pk_A, pr_A, pi_I, st_s, st_n, if_true, if_false, eq_self, d_if, d_ju, d_re, d_ca, cat0, cat1, cat2, cat3, fr_z, fr_s, cc_I, cc_A, cc_N, Nat.reduceAdd, Nat.reduceLT, Nat.reduceLeDiff, Nat.reduceEqDiff, not_true, not_false_iff, z1_0, z1_1, Bool.and_self, Bool.true_and, Bool.and_true, nI_add, pk_mul, nI_clamp, decide_true, Nat.le_refl, bI_eq, bI_z1, nI_ltI, nI_leI, nI_z, z_le, z_lt]
    refine r_is (s := (.inr t, l, p)) hE hs (by omega) (by omega) ?_
    rw [show decide (kdR E (.inr t, l, p) = 6) = false from decide_eq_false (by show ¬ eK E t = 6; omega)]
    refine go_at (blk := b_Model_expression_29) rfl ?_
    simp (disch := omega) only [b_Model_expression_29, be_50_0, List.getD_cons_zero, List.getD_cons_succ, List.set_cons_zero, List.set_cons_succ, List.length_cons, List.length_nil, pk_I, pk_A, pr_A, pi_I, st_s, st_n, if_true, if_false, eq_self, d_if, d_ju, d_re, d_ca, cat0, cat1, cat2, cat3, fr_z, fr_s, cc_I, cc_A, cc_N, Nat.reduceAdd, Nat.reduceLT, Nat.reduceLeDiff, Nat.reduceEqDiff, not_true, not_false_iff, z1_0, z1_1, Bool.and_self, Bool.true_and, Bool.and_true, nI_add, pk_mul, nI_clamp, decide_true, Nat.le_refl, bI_eq, bI_z1, nI_ltI, nI_leI, nI_z, z_le, z_lt]
    refine go_at (blk := b_Model_expression_84) rfl ?_
    simp (disch := omega) only [b_Model_expression_84, be_6, be_57_0, kc_388, List.getD_cons_zero, List.getD_cons_succ, List.set_cons_zero, List.set_cons_succ, List.length_cons, List.length_nil, pk_I, pk_A, pr_A, pi_I, st_s, st_n, if_true, if_false, eq_self, d_if, d_ju, d_re, d_ca, cat0, cat1, cat2, cat3, fr_z, fr_s, cc_I, cc_A, cc_N, Nat.reduceAdd, Nat.reduceLT, Nat.reduceLeDiff, Nat.reduceEqDiff, not_true, not_false_iff, z1_0, z1_1, Bool.and_self, Bool.true_and, Bool.and_true, nI_add, pk_mul, nI_clamp, decide_true, Nat.le_refl, bI_eq, bI_z1, nI_ltI, nI_leI, nI_z, z_le, z_lt]
    refine r_unit (W := W) (K0 := K0) hE ⟨g11, gt, g13, g15, gl, g16⟩ hC (by omega) hK0 hK ?_ ?_
    · intro v1 cd f1 s1 c1 e415 e43 e12 hst
      have b13 : v1 388 13 = nI 0 := s1.2.2.1
      refine go_at (blk := b_Model_expression_88) rfl ?_
      simp (disch := omega) only [b_Model_expression_88, be_6, be_33, be_50_5, kc_388, List.getD_cons_zero, List.getD_cons_succ, List.set_cons_zero, List.set_cons_succ, List.length_cons, List.length_nil, pk_I, pk_A, pr_A, pi_I, st_s, st_n, if_true, if_false, eq_self, d_if, d_ju, d_re, d_ca, cat0, cat1, cat2, cat3, fr_z, fr_s, cc_I, cc_A, cc_N, Nat.reduceAdd, Nat.reduceLT, Nat.reduceLeDiff, Nat.reduceEqDiff, not_true, not_false_iff, z1_0, z1_1, Bool.and_self, Bool.true_and, Bool.and_true, nI_add, pk_mul, nI_clamp, decide_true, Nat.le_refl, bI_eq, bI_z1, nI_ltI, nI_leI, b13, nI_z, z_le, z_lt]
      refine ih true (t + 1) W (C ++ [cd]) v1 (xr_s hst hx) ⟨ME_U hE f1, s1, ⟨by rw [e43]; exact hW.1, fun j hj => by rw [e415]; exact hW.2 j hj⟩, c1, by rw [e12]; exact h12, hwf, ho6, by rw [len_1]; omega, hK0⟩ (fun v' t' C' a1 a2 a3 a4 a5 a6 => q0 v' t' C' (GU_t f1 a1) a2 a3 a4 a5 a6) (fun v' k p' a1 a2 a3 => q1 v' k p' (GU_t f1 a1) a2 a3)
    · intro v1 k1 p1 f1 s1 hst
      have b13 : v1 388 13 = nI k1 := s1.1
      have hk1 : ¬ nI k1 ≤ 0 := nI_nle s1.2.1 (by have := s1.2.2.1; omega)
      refine go_at (blk := b_Model_expression_88) rfl ?_
      simp (disch := omega) only [b_Model_expression_88, be_6, be_33, be_50_5, kc_388, List.getD_cons_zero, List.getD_cons_succ, List.set_cons_zero, List.set_cons_succ, List.length_cons, List.length_nil, pk_I, pk_A, pr_A, pi_I, st_s, st_n, if_true, if_false, eq_self, d_if, d_ju, d_re, d_ca, cat0, cat1, cat2, cat3, fr_z, fr_s, cc_I, cc_A, cc_N, Nat.reduceAdd, Nat.reduceLT, Nat.reduceLeDiff, Nat.reduceEqDiff, not_true, not_false_iff, z1_0, z1_1, Bool.and_self, Bool.true_and, Bool.and_true, nI_add, pk_mul, nI_clamp, decide_true, Nat.le_refl, bI_eq, bI_z1, nI_ltI, nI_leI, b13, hk1]
      refine go_at (blk := b_Model_expression_95) rfl ?_
      simp (disch := omega) only [b_Model_expression_95, be_56, List.getD_cons_zero, List.getD_cons_succ, List.set_cons_zero, List.set_cons_succ, List.length_cons, List.length_nil, pk_I, pk_A, pr_A, pi_I, st_s, st_n, if_true, if_false, eq_self, d_if, d_ju, d_re, d_ca, cat0, cat1, cat2, cat3, fr_z, fr_s, cc_I, cc_A, cc_N, Nat.reduceAdd, Nat.reduceLT, Nat.reduceLeDiff, Nat.reduceEqDiff, not_true, not_false_iff, z1_0, z1_1, Bool.and_self, Bool.true_and, Bool.and_true, nI_add, pk_mul, nI_clamp, decide_true, Nat.le_refl, bI_eq, bI_z1, nI_ltI, nI_leI, b13, hk1]
      exact q1 v1 _ _ f1 s1 (xr_d hst hx)
