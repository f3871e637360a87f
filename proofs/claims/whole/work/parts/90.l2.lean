/-! laid by wip/whole/l2.py: the class: TOKENS: letters, digits, words -/
theorem k_isLetter {d : Nat} {h : am_H} {Q : Option Value → am_H → Prop} {x : Int32} (hQ : Q (some (.int (bI (leB x)))) h) : am_Ca (d + 1) M_Tokens_isLetter [.int x] h Q := by
  refine ca_in (k := k_Tokens_isLetter) (nL := 1) rfl (Nat.le_of_ble_eq_true rfl) ?_
  show am_Go am_X0 _ k_Tokens_isLetter 0 ([.int x], [], _) _
  refine go_at (blk := b_Tokens_isLetter_0) rfl ?_
  simp (disch := omega) only [b_Tokens_isLetter_0, be_4, be_1, be_49_2, List.getD_cons_zero, List.getD_cons_succ, List.set_cons_zero, List.set_cons_succ, List.length_cons, List.length_nil, pk_I, pk_A, pr_A, pi_I, st_s, st_n, if_true, if_false, eq_self, d_if, d_ju, d_re, d_ca, cat0, cat1, cat2, cat3, fr_z, fr_s, cc_I, cc_A, cc_N, Nat.reduceAdd, Nat.reduceLT, Nat.reduceLeDiff, Nat.reduceEqDiff, not_true, not_false_iff, z1_0, z1_1, Bool.and_self, Bool.true_and, Bool.and_true, nI_add, pk_mul, nI_clamp, decide_true, Nat.le_refl, bI_eq, bI_z1]
  split
  · rename_i h1
    refine go_at (blk := b_Tokens_isLetter_16) rfl ?_
    simp (disch := omega) only [b_Tokens_isLetter_16, be_1, be_0, List.getD_cons_zero, List.getD_cons_succ, List.set_cons_zero, List.set_cons_succ, List.length_cons, List.length_nil, pk_I, pk_A, pr_A, pi_I, st_s, st_n, if_true, if_false, eq_self, d_if, d_ju, d_re, d_ca, cat0, cat1, cat2, cat3, fr_z, fr_s, cc_I, cc_A, cc_N, Nat.reduceAdd, Nat.reduceLT, Nat.reduceLeDiff, Nat.reduceEqDiff, not_true, not_false_iff, z1_0, z1_1, Bool.and_self, Bool.true_and, Bool.and_true, nI_add, pk_mul, nI_clamp, decide_true, Nat.le_refl, bI_eq, bI_z1]
    refine go_at (blk := b_Tokens_isLetter_17) rfl ?_
    simp (disch := omega) only [b_Tokens_isLetter_17, be_73, List.getD_cons_zero, List.getD_cons_succ, List.set_cons_zero, List.set_cons_succ, List.length_cons, List.length_nil, pk_I, pk_A, pr_A, pi_I, st_s, st_n, if_true, if_false, eq_self, d_if, d_ju, d_re, d_ca, cat0, cat1, cat2, cat3, fr_z, fr_s, cc_I, cc_A, cc_N, Nat.reduceAdd, Nat.reduceLT, Nat.reduceLeDiff, Nat.reduceEqDiff, not_true, not_false_iff, z1_0, z1_1, Bool.and_self, Bool.true_and, Bool.and_true, nI_add, pk_mul, nI_clamp, decide_true, Nat.le_refl, bI_eq, bI_z1]
    rw [show leB x = false by unfold leB; rw [decide_eq_true h1]; simp] at hQ
    exact hQ
  · rename_i h1
    refine go_at (blk := b_Tokens_isLetter_6) rfl ?_
    simp (disch := omega) only [b_Tokens_isLetter_6, be_4, be_1, be_49_4, List.getD_cons_zero, List.getD_cons_succ, List.set_cons_zero, List.set_cons_succ, List.length_cons, List.length_nil, pk_I, pk_A, pr_A, pi_I, st_s, st_n, if_true, if_false, eq_self, d_if, d_ju, d_re, d_ca, cat0, cat1, cat2, cat3, fr_z, fr_s, cc_I, cc_A, cc_N, Nat.reduceAdd, Nat.reduceLT, Nat.reduceLeDiff, Nat.reduceEqDiff, not_true, not_false_iff, z1_0, z1_1, Bool.and_self, Bool.true_and, Bool.and_true, nI_add, pk_mul, nI_clamp, decide_true, Nat.le_refl, bI_eq, bI_z1]
    split
    · rename_i h2
      refine go_at (blk := b_Tokens_isLetter_16) rfl ?_
      simp (disch := omega) only [b_Tokens_isLetter_16, be_1, be_0, List.getD_cons_zero, List.getD_cons_succ, List.set_cons_zero, List.set_cons_succ, List.length_cons, List.length_nil, pk_I, pk_A, pr_A, pi_I, st_s, st_n, if_true, if_false, eq_self, d_if, d_ju, d_re, d_ca, cat0, cat1, cat2, cat3, fr_z, fr_s, cc_I, cc_A, cc_N, Nat.reduceAdd, Nat.reduceLT, Nat.reduceLeDiff, Nat.reduceEqDiff, not_true, not_false_iff, z1_0, z1_1, Bool.and_self, Bool.true_and, Bool.and_true, nI_add, pk_mul, nI_clamp, decide_true, Nat.le_refl, bI_eq, bI_z1]
      refine go_at (blk := b_Tokens_isLetter_17) rfl ?_
      simp (disch := omega) only [b_Tokens_isLetter_17, be_73, List.getD_cons_zero, List.getD_cons_succ, List.set_cons_zero, List.set_cons_succ, List.length_cons, List.length_nil, pk_I, pk_A, pr_A, pi_I, st_s, st_n, if_true, if_false, eq_self, d_if, d_ju, d_re, d_ca, cat0, cat1, cat2, cat3, fr_z, fr_s, cc_I, cc_A, cc_N, Nat.reduceAdd, Nat.reduceLT, Nat.reduceLeDiff, Nat.reduceEqDiff, not_true, not_false_iff, z1_0, z1_1, Bool.and_self, Bool.true_and, Bool.and_true, nI_add, pk_mul, nI_clamp, decide_true, Nat.le_refl, bI_eq, bI_z1]
      rw [show leB x = false by unfold leB; rw [decide_eq_true h2]; simp] at hQ
      exact hQ
    · rename_i h2
      refine go_at (blk := b_Tokens_isLetter_12) rfl ?_
      simp (disch := omega) only [b_Tokens_isLetter_12, be_1, be_51, List.getD_cons_zero, List.getD_cons_succ, List.set_cons_zero, List.set_cons_succ, List.length_cons, List.length_nil, pk_I, pk_A, pr_A, pi_I, st_s, st_n, if_true, if_false, eq_self, d_if, d_ju, d_re, d_ca, cat0, cat1, cat2, cat3, fr_z, fr_s, cc_I, cc_A, cc_N, Nat.reduceAdd, Nat.reduceLT, Nat.reduceLeDiff, Nat.reduceEqDiff, not_true, not_false_iff, z1_0, z1_1, Bool.and_self, Bool.true_and, Bool.and_true, nI_add, pk_mul, nI_clamp, decide_true, Nat.le_refl, bI_eq, bI_z1]
      refine go_at (blk := b_Tokens_isLetter_17) rfl ?_
      simp (disch := omega) only [b_Tokens_isLetter_17, be_73, List.getD_cons_zero, List.getD_cons_succ, List.set_cons_zero, List.set_cons_succ, List.length_cons, List.length_nil, pk_I, pk_A, pr_A, pi_I, st_s, st_n, if_true, if_false, eq_self, d_if, d_ju, d_re, d_ca, cat0, cat1, cat2, cat3, fr_z, fr_s, cc_I, cc_A, cc_N, Nat.reduceAdd, Nat.reduceLT, Nat.reduceLeDiff, Nat.reduceEqDiff, not_true, not_false_iff, z1_0, z1_1, Bool.and_self, Bool.true_and, Bool.and_true, nI_add, pk_mul, nI_clamp, decide_true, Nat.le_refl, bI_eq, bI_z1]
      rw [show leB x = true by unfold leB; rw [decide_eq_false h1, decide_eq_false h2]; rfl] at hQ
      exact hQ
theorem m_isLetter {d : Nat} {h : am_H} {Q : Option Value → am_H → Prop} {x : Int32} (hQ : Q (some (.int (bI (leB x)))) h) : am_Ca (d + 1) M_Model_isLetter [.int x] h Q := by
  refine ca_in (k := k_Model_isLetter) (nL := 1) rfl (Nat.le_of_ble_eq_true rfl) ?_
  show am_Go am_X0 _ k_Model_isLetter 0 ([.int x], [], _) _
  refine go_at (blk := b_Model_isLetter_0) rfl ?_
  simp (disch := omega) only [b_Model_isLetter_0, be_4, be_1, be_49_2, List.getD_cons_zero, List.getD_cons_succ, List.set_cons_zero, List.set_cons_succ, List.length_cons, List.length_nil, pk_I, pk_A, pr_A, pi_I, st_s, st_n, if_true, if_false, eq_self, d_if, d_ju, d_re, d_ca, cat0, cat1, cat2, cat3, fr_z, fr_s, cc_I, cc_A, cc_N, Nat.reduceAdd, Nat.reduceLT, Nat.reduceLeDiff, Nat.reduceEqDiff, not_true, not_false_iff, z1_0, z1_1, Bool.and_self, Bool.true_and, Bool.and_true, nI_add, pk_mul, nI_clamp, decide_true, Nat.le_refl, bI_eq, bI_z1]
  split
  · rename_i h1
    refine go_at (blk := b_Model_isLetter_16) rfl ?_
    simp (disch := omega) only [b_Model_isLetter_16, be_1, be_0, List.getD_cons_zero, List.getD_cons_succ, List.set_cons_zero, List.set_cons_succ, List.length_cons, List.length_nil, pk_I, pk_A, pr_A, pi_I, st_s, st_n, if_true, if_false, eq_self, d_if, d_ju, d_re, d_ca, cat0, cat1, cat2, cat3, fr_z, fr_s, cc_I, cc_A, cc_N, Nat.reduceAdd, Nat.reduceLT, Nat.reduceLeDiff, Nat.reduceEqDiff, not_true, not_false_iff, z1_0, z1_1, Bool.and_self, Bool.true_and, Bool.and_true, nI_add, pk_mul, nI_clamp, decide_true, Nat.le_refl, bI_eq, bI_z1]
    refine go_at (blk := b_Model_isLetter_17) rfl ?_
    simp (disch := omega) only [b_Model_isLetter_17, be_73, List.getD_cons_zero, List.getD_cons_succ, List.set_cons_zero, List.set_cons_succ, List.length_cons, List.length_nil, pk_I, pk_A, pr_A, pi_I, st_s, st_n, if_true, if_false, eq_self, d_if, d_ju, d_re, d_ca, cat0, cat1, cat2, cat3, fr_z, fr_s, cc_I, cc_A, cc_N, Nat.reduceAdd, Nat.reduceLT, Nat.reduceLeDiff, Nat.reduceEqDiff, not_true, not_false_iff, z1_0, z1_1, Bool.and_self, Bool.true_and, Bool.and_true, nI_add, pk_mul, nI_clamp, decide_true, Nat.le_refl, bI_eq, bI_z1]
    rw [show leB x = false by unfold leB; rw [decide_eq_true h1]; simp] at hQ
    exact hQ
  · rename_i h1
    refine go_at (blk := b_Model_isLetter_6) rfl ?_
    simp (disch := omega) only [b_Model_isLetter_6, be_4, be_1, be_49_4, List.getD_cons_zero, List.getD_cons_succ, List.set_cons_zero, List.set_cons_succ, List.length_cons, List.length_nil, pk_I, pk_A, pr_A, pi_I, st_s, st_n, if_true, if_false, eq_self, d_if, d_ju, d_re, d_ca, cat0, cat1, cat2, cat3, fr_z, fr_s, cc_I, cc_A, cc_N, Nat.reduceAdd, Nat.reduceLT, Nat.reduceLeDiff, Nat.reduceEqDiff, not_true, not_false_iff, z1_0, z1_1, Bool.and_self, Bool.true_and, Bool.and_true, nI_add, pk_mul, nI_clamp, decide_true, Nat.le_refl, bI_eq, bI_z1]
    split
    · rename_i h2
      refine go_at (blk := b_Model_isLetter_16) rfl ?_
      simp (disch := omega) only [b_Model_isLetter_16, be_1, be_0, List.getD_cons_zero, List.getD_cons_succ, List.set_cons_zero, List.set_cons_succ, List.length_cons, List.length_nil, pk_I, pk_A, pr_A, pi_I, st_s, st_n, if_true, if_false, eq_self, d_if, d_ju, d_re, d_ca, cat0, cat1, cat2, cat3, fr_z, fr_s, cc_I, cc_A, cc_N, Nat.reduceAdd, Nat.reduceLT, Nat.reduceLeDiff, Nat.reduceEqDiff, not_true, not_false_iff, z1_0, z1_1, Bool.and_self, Bool.true_and, Bool.and_true, nI_add, pk_mul, nI_clamp, decide_true, Nat.le_refl, bI_eq, bI_z1]
      refine go_at (blk := b_Model_isLetter_17) rfl ?_
      simp (disch := omega) only [b_Model_isLetter_17, be_73, List.getD_cons_zero, List.getD_cons_succ, List.set_cons_zero, List.set_cons_succ, List.length_cons, List.length_nil, pk_I, pk_A, pr_A, pi_I, st_s, st_n, if_true, if_false, eq_self, d_if, d_ju, d_re, d_ca, cat0, cat1, cat2, cat3, fr_z, fr_s, cc_I, cc_A, cc_N, Nat.reduceAdd, Nat.reduceLT, Nat.reduceLeDiff, Nat.reduceEqDiff, not_true, not_false_iff, z1_0, z1_1, Bool.and_self, Bool.true_and, Bool.and_true, nI_add, pk_mul, nI_clamp, decide_true, Nat.le_refl, bI_eq, bI_z1]
      rw [show leB x = false by unfold leB; rw [decide_eq_true h2]; simp] at hQ
      exact hQ
    · rename_i h2
      refine go_at (blk := b_Model_isLetter_12) rfl ?_
      simp (disch := omega) only [b_Model_isLetter_12, be_1, be_51, List.getD_cons_zero, List.getD_cons_succ, List.set_cons_zero, List.set_cons_succ, List.length_cons, List.length_nil, pk_I, pk_A, pr_A, pi_I, st_s, st_n, if_true, if_false, eq_self, d_if, d_ju, d_re, d_ca, cat0, cat1, cat2, cat3, fr_z, fr_s, cc_I, cc_A, cc_N, Nat.reduceAdd, Nat.reduceLT, Nat.reduceLeDiff, Nat.reduceEqDiff, not_true, not_false_iff, z1_0, z1_1, Bool.and_self, Bool.true_and, Bool.and_true, nI_add, pk_mul, nI_clamp, decide_true, Nat.le_refl, bI_eq, bI_z1]
      refine go_at (blk := b_Model_isLetter_17) rfl ?_
      simp (disch := omega) only [b_Model_isLetter_17, be_73, List.getD_cons_zero, List.getD_cons_succ, List.set_cons_zero, List.set_cons_succ, List.length_cons, List.length_nil, pk_I, pk_A, pr_A, pi_I, st_s, st_n, if_true, if_false, eq_self, d_if, d_ju, d_re, d_ca, cat0, cat1, cat2, cat3, fr_z, fr_s, cc_I, cc_A, cc_N, Nat.reduceAdd, Nat.reduceLT, Nat.reduceLeDiff, Nat.reduceEqDiff, not_true, not_false_iff, z1_0, z1_1, Bool.and_self, Bool.true_and, Bool.and_true, nI_add, pk_mul, nI_clamp, decide_true, Nat.le_refl, bI_eq, bI_z1]
      rw [show leB x = true by unfold leB; rw [decide_eq_false h1, decide_eq_false h2]; rfl] at hQ
      exact hQ
theorem k_isDigit {d : Nat} {h : am_H} {Q : Option Value → am_H → Prop} {x : Int32} (hQ : Q (some (.int (bI (diB x)))) h) : am_Ca (d + 1) M_Tokens_isDigit [.int x] h Q := by
  refine ca_in (k := k_Tokens_isDigit) (nL := 1) rfl (Nat.le_of_ble_eq_true rfl) ?_
  show am_Go am_X0 _ k_Tokens_isDigit 0 ([.int x], [], _) _
  refine go_at (blk := b_Tokens_isDigit_0) rfl ?_
  simp (disch := omega) only [b_Tokens_isDigit_0, be_4, be_1, be_49_2, List.getD_cons_zero, List.getD_cons_succ, List.set_cons_zero, List.set_cons_succ, List.length_cons, List.length_nil, pk_I, pk_A, pr_A, pi_I, st_s, st_n, if_true, if_false, eq_self, d_if, d_ju, d_re, d_ca, cat0, cat1, cat2, cat3, fr_z, fr_s, cc_I, cc_A, cc_N, Nat.reduceAdd, Nat.reduceLT, Nat.reduceLeDiff, Nat.reduceEqDiff, not_true, not_false_iff, z1_0, z1_1, Bool.and_self, Bool.true_and, Bool.and_true, nI_add, pk_mul, nI_clamp, decide_true, Nat.le_refl, bI_eq, bI_z1]
  split
  · rename_i h1
    refine go_at (blk := b_Tokens_isDigit_16) rfl ?_
    simp (disch := omega) only [b_Tokens_isDigit_16, be_1, be_0, List.getD_cons_zero, List.getD_cons_succ, List.set_cons_zero, List.set_cons_succ, List.length_cons, List.length_nil, pk_I, pk_A, pr_A, pi_I, st_s, st_n, if_true, if_false, eq_self, d_if, d_ju, d_re, d_ca, cat0, cat1, cat2, cat3, fr_z, fr_s, cc_I, cc_A, cc_N, Nat.reduceAdd, Nat.reduceLT, Nat.reduceLeDiff, Nat.reduceEqDiff, not_true, not_false_iff, z1_0, z1_1, Bool.and_self, Bool.true_and, Bool.and_true, nI_add, pk_mul, nI_clamp, decide_true, Nat.le_refl, bI_eq, bI_z1]
    refine go_at (blk := b_Tokens_isDigit_17) rfl ?_
    simp (disch := omega) only [b_Tokens_isDigit_17, be_73, List.getD_cons_zero, List.getD_cons_succ, List.set_cons_zero, List.set_cons_succ, List.length_cons, List.length_nil, pk_I, pk_A, pr_A, pi_I, st_s, st_n, if_true, if_false, eq_self, d_if, d_ju, d_re, d_ca, cat0, cat1, cat2, cat3, fr_z, fr_s, cc_I, cc_A, cc_N, Nat.reduceAdd, Nat.reduceLT, Nat.reduceLeDiff, Nat.reduceEqDiff, not_true, not_false_iff, z1_0, z1_1, Bool.and_self, Bool.true_and, Bool.and_true, nI_add, pk_mul, nI_clamp, decide_true, Nat.le_refl, bI_eq, bI_z1]
    rw [show diB x = false by unfold diB; rw [decide_eq_true h1]; simp] at hQ
    exact hQ
  · rename_i h1
    refine go_at (blk := b_Tokens_isDigit_6) rfl ?_
    simp (disch := omega) only [b_Tokens_isDigit_6, be_4, be_1, be_49_4, List.getD_cons_zero, List.getD_cons_succ, List.set_cons_zero, List.set_cons_succ, List.length_cons, List.length_nil, pk_I, pk_A, pr_A, pi_I, st_s, st_n, if_true, if_false, eq_self, d_if, d_ju, d_re, d_ca, cat0, cat1, cat2, cat3, fr_z, fr_s, cc_I, cc_A, cc_N, Nat.reduceAdd, Nat.reduceLT, Nat.reduceLeDiff, Nat.reduceEqDiff, not_true, not_false_iff, z1_0, z1_1, Bool.and_self, Bool.true_and, Bool.and_true, nI_add, pk_mul, nI_clamp, decide_true, Nat.le_refl, bI_eq, bI_z1]
    split
    · rename_i h2
      refine go_at (blk := b_Tokens_isDigit_16) rfl ?_
      simp (disch := omega) only [b_Tokens_isDigit_16, be_1, be_0, List.getD_cons_zero, List.getD_cons_succ, List.set_cons_zero, List.set_cons_succ, List.length_cons, List.length_nil, pk_I, pk_A, pr_A, pi_I, st_s, st_n, if_true, if_false, eq_self, d_if, d_ju, d_re, d_ca, cat0, cat1, cat2, cat3, fr_z, fr_s, cc_I, cc_A, cc_N, Nat.reduceAdd, Nat.reduceLT, Nat.reduceLeDiff, Nat.reduceEqDiff, not_true, not_false_iff, z1_0, z1_1, Bool.and_self, Bool.true_and, Bool.and_true, nI_add, pk_mul, nI_clamp, decide_true, Nat.le_refl, bI_eq, bI_z1]
      refine go_at (blk := b_Tokens_isDigit_17) rfl ?_
      simp (disch := omega) only [b_Tokens_isDigit_17, be_73, List.getD_cons_zero, List.getD_cons_succ, List.set_cons_zero, List.set_cons_succ, List.length_cons, List.length_nil, pk_I, pk_A, pr_A, pi_I, st_s, st_n, if_true, if_false, eq_self, d_if, d_ju, d_re, d_ca, cat0, cat1, cat2, cat3, fr_z, fr_s, cc_I, cc_A, cc_N, Nat.reduceAdd, Nat.reduceLT, Nat.reduceLeDiff, Nat.reduceEqDiff, not_true, not_false_iff, z1_0, z1_1, Bool.and_self, Bool.true_and, Bool.and_true, nI_add, pk_mul, nI_clamp, decide_true, Nat.le_refl, bI_eq, bI_z1]
      rw [show diB x = false by unfold diB; rw [decide_eq_true h2]; simp] at hQ
      exact hQ
    · rename_i h2
      refine go_at (blk := b_Tokens_isDigit_12) rfl ?_
      simp (disch := omega) only [b_Tokens_isDigit_12, be_1, be_51, List.getD_cons_zero, List.getD_cons_succ, List.set_cons_zero, List.set_cons_succ, List.length_cons, List.length_nil, pk_I, pk_A, pr_A, pi_I, st_s, st_n, if_true, if_false, eq_self, d_if, d_ju, d_re, d_ca, cat0, cat1, cat2, cat3, fr_z, fr_s, cc_I, cc_A, cc_N, Nat.reduceAdd, Nat.reduceLT, Nat.reduceLeDiff, Nat.reduceEqDiff, not_true, not_false_iff, z1_0, z1_1, Bool.and_self, Bool.true_and, Bool.and_true, nI_add, pk_mul, nI_clamp, decide_true, Nat.le_refl, bI_eq, bI_z1]
      refine go_at (blk := b_Tokens_isDigit_17) rfl ?_
      simp (disch := omega) only [b_Tokens_isDigit_17, be_73, List.getD_cons_zero, List.getD_cons_succ, List.set_cons_zero, List.set_cons_succ, List.length_cons, List.length_nil, pk_I, pk_A, pr_A, pi_I, st_s, st_n, if_true, if_false, eq_self, d_if, d_ju, d_re, d_ca, cat0, cat1, cat2, cat3, fr_z, fr_s, cc_I, cc_A, cc_N, Nat.reduceAdd, Nat.reduceLT, Nat.reduceLeDiff, Nat.reduceEqDiff, not_true, not_false_iff, z1_0, z1_1, Bool.and_self, Bool.true_and, Bool.and_true, nI_add, pk_mul, nI_clamp, decide_true, Nat.le_refl, bI_eq, bI_z1]
      rw [show diB x = true by unfold diB; rw [decide_eq_false h1, decide_eq_false h2]; rfl] at hQ
      exact hQ
theorem m_isDigit {d : Nat} {h : am_H} {Q : Option Value → am_H → Prop} {x : Int32} (hQ : Q (some (.int (bI (diB x)))) h) : am_Ca (d + 1) M_Model_isDigit [.int x] h Q := by
  refine ca_in (k := k_Model_isDigit) (nL := 1) rfl (Nat.le_of_ble_eq_true rfl) ?_
  show am_Go am_X0 _ k_Model_isDigit 0 ([.int x], [], _) _
  refine go_at (blk := b_Model_isDigit_0) rfl ?_
  simp (disch := omega) only [b_Model_isDigit_0, be_4, be_1, be_49_2, List.getD_cons_zero, List.getD_cons_succ, List.set_cons_zero, List.set_cons_succ, List.length_cons, List.length_nil, pk_I, pk_A, pr_A, pi_I, st_s, st_n, if_true, if_false, eq_self, d_if, d_ju, d_re, d_ca, cat0, cat1, cat2, cat3, fr_z, fr_s, cc_I, cc_A, cc_N, Nat.reduceAdd, Nat.reduceLT, Nat.reduceLeDiff, Nat.reduceEqDiff, not_true, not_false_iff, z1_0, z1_1, Bool.and_self, Bool.true_and, Bool.and_true, nI_add, pk_mul, nI_clamp, decide_true, Nat.le_refl, bI_eq, bI_z1]
  split
  · rename_i h1
    refine go_at (blk := b_Model_isDigit_16) rfl ?_
    simp (disch := omega) only [b_Model_isDigit_16, be_1, be_0, List.getD_cons_zero, List.getD_cons_succ, List.set_cons_zero, List.set_cons_succ, List.length_cons, List.length_nil, pk_I, pk_A, pr_A, pi_I, st_s, st_n, if_true, if_false, eq_self, d_if, d_ju, d_re, d_ca, cat0, cat1, cat2, cat3, fr_z, fr_s, cc_I, cc_A, cc_N, Nat.reduceAdd, Nat.reduceLT, Nat.reduceLeDiff, Nat.reduceEqDiff, not_true, not_false_iff, z1_0, z1_1, Bool.and_self, Bool.true_and, Bool.and_true, nI_add, pk_mul, nI_clamp, decide_true, Nat.le_refl, bI_eq, bI_z1]
    refine go_at (blk := b_Model_isDigit_17) rfl ?_
    simp (disch := omega) only [b_Model_isDigit_17, be_73, List.getD_cons_zero, List.getD_cons_succ, List.set_cons_zero, List.set_cons_succ, List.length_cons, List.length_nil, pk_I, pk_A, pr_A, pi_I, st_s, st_n, if_true, if_false, eq_self, d_if, d_ju, d_re, d_ca, cat0, cat1, cat2, cat3, fr_z, fr_s, cc_I, cc_A, cc_N, Nat.reduceAdd, Nat.reduceLT, Nat.reduceLeDiff, Nat.reduceEqDiff, not_true, not_false_iff, z1_0, z1_1, Bool.and_self, Bool.true_and, Bool.and_true, nI_add, pk_mul, nI_clamp, decide_true, Nat.le_refl, bI_eq, bI_z1]
    rw [show diB x = false by unfold diB; rw [decide_eq_true h1]; simp] at hQ
    exact hQ
  · rename_i h1
    refine go_at (blk := b_Model_isDigit_6) rfl ?_
    simp (disch := omega) only [b_Model_isDigit_6, be_4, be_1, be_49_4, List.getD_cons_zero, List.getD_cons_succ, List.set_cons_zero, List.set_cons_succ, List.length_cons, List.length_nil, pk_I, pk_A, pr_A, pi_I, st_s, st_n, if_true, if_false, eq_self, d_if, d_ju, d_re, d_ca, cat0, cat1, cat2, cat3, fr_z, fr_s, cc_I, cc_A, cc_N, Nat.reduceAdd, Nat.reduceLT, Nat.reduceLeDiff, Nat.reduceEqDiff, not_true, not_false_iff, z1_0, z1_1, Bool.and_self, Bool.true_and, Bool.and_true, nI_add, pk_mul, nI_clamp, decide_true, Nat.le_refl, bI_eq, bI_z1]
    split
    · rename_i h2
      refine go_at (blk := b_Model_isDigit_16) rfl ?_
      simp (disch := omega) only [b_Model_isDigit_16, be_1, be_0, List.getD_cons_zero, List.getD_cons_succ, List.set_cons_zero, List.set_cons_succ, List.length_cons, List.length_nil, pk_I, pk_A, pr_A, pi_I, st_s, st_n, if_true, if_false, eq_self, d_if, d_ju, d_re, d_ca, cat0, cat1, cat2, cat3, fr_z, fr_s, cc_I, cc_A, cc_N, Nat.reduceAdd, Nat.reduceLT, Nat.reduceLeDiff, Nat.reduceEqDiff, not_true, not_false_iff, z1_0, z1_1, Bool.and_self, Bool.true_and, Bool.and_true, nI_add, pk_mul, nI_clamp, decide_true, Nat.le_refl, bI_eq, bI_z1]
      refine go_at (blk := b_Model_isDigit_17) rfl ?_
      simp (disch := omega) only [b_Model_isDigit_17, be_73, List.getD_cons_zero, List.getD_cons_succ, List.set_cons_zero, List.set_cons_succ, List.length_cons, List.length_nil, pk_I, pk_A, pr_A, pi_I, st_s, st_n, if_true, if_false, eq_self, d_if, d_ju, d_re, d_ca, cat0, cat1, cat2, cat3, fr_z, fr_s, cc_I, cc_A, cc_N, Nat.reduceAdd, Nat.reduceLT, Nat.reduceLeDiff, Nat.reduceEqDiff, not_true, not_false_iff, z1_0, z1_1, Bool.and_self, Bool.true_and, Bool.and_true, nI_add, pk_mul, nI_clamp, decide_true, Nat.le_refl, bI_eq, bI_z1]
      rw [show diB x = false by unfold diB; rw [decide_eq_true h2]; simp] at hQ
      exact hQ
    · rename_i h2
      refine go_at (blk := b_Model_isDigit_12) rfl ?_
      simp (disch := omega) only [b_Model_isDigit_12, be_1, be_51, List.getD_cons_zero, List.getD_cons_succ, List.set_cons_zero, List.set_cons_succ, List.length_cons, List.length_nil, pk_I, pk_A, pr_A, pi_I, st_s, st_n, if_true, if_false, eq_self, d_if, d_ju, d_re, d_ca, cat0, cat1, cat2, cat3, fr_z, fr_s, cc_I, cc_A, cc_N, Nat.reduceAdd, Nat.reduceLT, Nat.reduceLeDiff, Nat.reduceEqDiff, not_true, not_false_iff, z1_0, z1_1, Bool.and_self, Bool.true_and, Bool.and_true, nI_add, pk_mul, nI_clamp, decide_true, Nat.le_refl, bI_eq, bI_z1]
      refine go_at (blk := b_Model_isDigit_17) rfl ?_
      simp (disch := omega) only [b_Model_isDigit_17, be_73, List.getD_cons_zero, List.getD_cons_succ, List.set_cons_zero, List.set_cons_succ, List.length_cons, List.length_nil, pk_I, pk_A, pr_A, pi_I, st_s, st_n, if_true, if_false, eq_self, d_if, d_ju, d_re, d_ca, cat0, cat1, cat2, cat3, fr_z, fr_s, cc_I, cc_A, cc_N, Nat.reduceAdd, Nat.reduceLT, Nat.reduceLeDiff, Nat.reduceEqDiff, not_true, not_false_iff, z1_0, z1_1, Bool.and_self, Bool.true_and, Bool.and_true, nI_add, pk_mul, nI_clamp, decide_true, Nat.le_refl, bI_eq, bI_z1]
      rw [show diB x = true by unfold diB; rw [decide_eq_false h1, decide_eq_false h2]; rfl] at hQ
      exact hQ
theorem k_isBlank {d : Nat} {h : am_H} {Q : Option Value → am_H → Prop} {x : Int32} (hQ : Q (some (.int (bI (blB x)))) h) : am_Ca (d + 1) M_Tokens_isBlank [.int x] h Q := by
  refine ca_in (k := k_Tokens_isBlank) (nL := 1) rfl (Nat.le_of_ble_eq_true rfl) ?_
  show am_Go am_X0 _ k_Tokens_isBlank 0 ([.int x], [], _) _
  refine go_at (blk := b_Tokens_isBlank_0) rfl ?_
  simp (disch := omega) only [b_Tokens_isBlank_0, be_4, be_1, be_49_0, List.getD_cons_zero, List.getD_cons_succ, List.set_cons_zero, List.set_cons_succ, List.length_cons, List.length_nil, pk_I, pk_A, pr_A, pi_I, st_s, st_n, if_true, if_false, eq_self, d_if, d_ju, d_re, d_ca, cat0, cat1, cat2, cat3, fr_z, fr_s, cc_I, cc_A, cc_N, Nat.reduceAdd, Nat.reduceLT, Nat.reduceLeDiff, Nat.reduceEqDiff, not_true, not_false_iff, z1_0, z1_1, Bool.and_self, Bool.true_and, Bool.and_true, nI_add, pk_mul, nI_clamp, decide_true, Nat.le_refl, bI_eq, bI_z1]
  split
  · rename_i h1
    refine go_at (blk := b_Tokens_isBlank_24) rfl ?_
    simp (disch := omega) only [b_Tokens_isBlank_24, be_1, be_51, List.getD_cons_zero, List.getD_cons_succ, List.set_cons_zero, List.set_cons_succ, List.length_cons, List.length_nil, pk_I, pk_A, pr_A, pi_I, st_s, st_n, if_true, if_false, eq_self, d_if, d_ju, d_re, d_ca, cat0, cat1, cat2, cat3, fr_z, fr_s, cc_I, cc_A, cc_N, Nat.reduceAdd, Nat.reduceLT, Nat.reduceLeDiff, Nat.reduceEqDiff, not_true, not_false_iff, z1_0, z1_1, Bool.and_self, Bool.true_and, Bool.and_true, nI_add, pk_mul, nI_clamp, decide_true, Nat.le_refl, bI_eq, bI_z1]
    refine go_at (blk := b_Tokens_isBlank_29) rfl ?_
    simp (disch := omega) only [b_Tokens_isBlank_29, be_73, List.getD_cons_zero, List.getD_cons_succ, List.set_cons_zero, List.set_cons_succ, List.length_cons, List.length_nil, pk_I, pk_A, pr_A, pi_I, st_s, st_n, if_true, if_false, eq_self, d_if, d_ju, d_re, d_ca, cat0, cat1, cat2, cat3, fr_z, fr_s, cc_I, cc_A, cc_N, Nat.reduceAdd, Nat.reduceLT, Nat.reduceLeDiff, Nat.reduceEqDiff, not_true, not_false_iff, z1_0, z1_1, Bool.and_self, Bool.true_and, Bool.and_true, nI_add, pk_mul, nI_clamp, decide_true, Nat.le_refl, bI_eq, bI_z1]
    rw [show blB x = true by unfold blB; rw [decide_eq_true h1]; simp] at hQ
    exact hQ
  · rename_i h1
    refine go_at (blk := b_Tokens_isBlank_6) rfl ?_
    simp (disch := omega) only [b_Tokens_isBlank_6, be_4, be_1, be_49_0, List.getD_cons_zero, List.getD_cons_succ, List.set_cons_zero, List.set_cons_succ, List.length_cons, List.length_nil, pk_I, pk_A, pr_A, pi_I, st_s, st_n, if_true, if_false, eq_self, d_if, d_ju, d_re, d_ca, cat0, cat1, cat2, cat3, fr_z, fr_s, cc_I, cc_A, cc_N, Nat.reduceAdd, Nat.reduceLT, Nat.reduceLeDiff, Nat.reduceEqDiff, not_true, not_false_iff, z1_0, z1_1, Bool.and_self, Bool.true_and, Bool.and_true, nI_add, pk_mul, nI_clamp, decide_true, Nat.le_refl, bI_eq, bI_z1]
    split
    · rename_i h2
      refine go_at (blk := b_Tokens_isBlank_24) rfl ?_
      simp (disch := omega) only [b_Tokens_isBlank_24, be_1, be_51, List.getD_cons_zero, List.getD_cons_succ, List.set_cons_zero, List.set_cons_succ, List.length_cons, List.length_nil, pk_I, pk_A, pr_A, pi_I, st_s, st_n, if_true, if_false, eq_self, d_if, d_ju, d_re, d_ca, cat0, cat1, cat2, cat3, fr_z, fr_s, cc_I, cc_A, cc_N, Nat.reduceAdd, Nat.reduceLT, Nat.reduceLeDiff, Nat.reduceEqDiff, not_true, not_false_iff, z1_0, z1_1, Bool.and_self, Bool.true_and, Bool.and_true, nI_add, pk_mul, nI_clamp, decide_true, Nat.le_refl, bI_eq, bI_z1]
      refine go_at (blk := b_Tokens_isBlank_29) rfl ?_
      simp (disch := omega) only [b_Tokens_isBlank_29, be_73, List.getD_cons_zero, List.getD_cons_succ, List.set_cons_zero, List.set_cons_succ, List.length_cons, List.length_nil, pk_I, pk_A, pr_A, pi_I, st_s, st_n, if_true, if_false, eq_self, d_if, d_ju, d_re, d_ca, cat0, cat1, cat2, cat3, fr_z, fr_s, cc_I, cc_A, cc_N, Nat.reduceAdd, Nat.reduceLT, Nat.reduceLeDiff, Nat.reduceEqDiff, not_true, not_false_iff, z1_0, z1_1, Bool.and_self, Bool.true_and, Bool.and_true, nI_add, pk_mul, nI_clamp, decide_true, Nat.le_refl, bI_eq, bI_z1]
      rw [show blB x = true by unfold blB; rw [decide_eq_true h2]; simp] at hQ
      exact hQ
    · rename_i h2
      refine go_at (blk := b_Tokens_isBlank_12) rfl ?_
      simp (disch := omega) only [b_Tokens_isBlank_12, be_4, be_1, be_49_0, List.getD_cons_zero, List.getD_cons_succ, List.set_cons_zero, List.set_cons_succ, List.length_cons, List.length_nil, pk_I, pk_A, pr_A, pi_I, st_s, st_n, if_true, if_false, eq_self, d_if, d_ju, d_re, d_ca, cat0, cat1, cat2, cat3, fr_z, fr_s, cc_I, cc_A, cc_N, Nat.reduceAdd, Nat.reduceLT, Nat.reduceLeDiff, Nat.reduceEqDiff, not_true, not_false_iff, z1_0, z1_1, Bool.and_self, Bool.true_and, Bool.and_true, nI_add, pk_mul, nI_clamp, decide_true, Nat.le_refl, bI_eq, bI_z1]
      split
      · rename_i h3
        refine go_at (blk := b_Tokens_isBlank_24) rfl ?_
        simp (disch := omega) only [b_Tokens_isBlank_24, be_1, be_51, List.getD_cons_zero, List.getD_cons_succ, List.set_cons_zero, List.set_cons_succ, List.length_cons, List.length_nil, pk_I, pk_A, pr_A, pi_I, st_s, st_n, if_true, if_false, eq_self, d_if, d_ju, d_re, d_ca, cat0, cat1, cat2, cat3, fr_z, fr_s, cc_I, cc_A, cc_N, Nat.reduceAdd, Nat.reduceLT, Nat.reduceLeDiff, Nat.reduceEqDiff, not_true, not_false_iff, z1_0, z1_1, Bool.and_self, Bool.true_and, Bool.and_true, nI_add, pk_mul, nI_clamp, decide_true, Nat.le_refl, bI_eq, bI_z1]
        refine go_at (blk := b_Tokens_isBlank_29) rfl ?_
        simp (disch := omega) only [b_Tokens_isBlank_29, be_73, List.getD_cons_zero, List.getD_cons_succ, List.set_cons_zero, List.set_cons_succ, List.length_cons, List.length_nil, pk_I, pk_A, pr_A, pi_I, st_s, st_n, if_true, if_false, eq_self, d_if, d_ju, d_re, d_ca, cat0, cat1, cat2, cat3, fr_z, fr_s, cc_I, cc_A, cc_N, Nat.reduceAdd, Nat.reduceLT, Nat.reduceLeDiff, Nat.reduceEqDiff, not_true, not_false_iff, z1_0, z1_1, Bool.and_self, Bool.true_and, Bool.and_true, nI_add, pk_mul, nI_clamp, decide_true, Nat.le_refl, bI_eq, bI_z1]
        rw [show blB x = true by unfold blB; rw [decide_eq_true h3]; simp] at hQ
        exact hQ
      · rename_i h3
        refine go_at (blk := b_Tokens_isBlank_18) rfl ?_
        simp (disch := omega) only [b_Tokens_isBlank_18, be_4, be_1, be_49_1, List.getD_cons_zero, List.getD_cons_succ, List.set_cons_zero, List.set_cons_succ, List.length_cons, List.length_nil, pk_I, pk_A, pr_A, pi_I, st_s, st_n, if_true, if_false, eq_self, d_if, d_ju, d_re, d_ca, cat0, cat1, cat2, cat3, fr_z, fr_s, cc_I, cc_A, cc_N, Nat.reduceAdd, Nat.reduceLT, Nat.reduceLeDiff, Nat.reduceEqDiff, not_true, not_false_iff, z1_0, z1_1, Bool.and_self, Bool.true_and, Bool.and_true, nI_add, pk_mul, nI_clamp, decide_true, Nat.le_refl, bI_eq, bI_z1]
        split
        · rename_i h4
          refine go_at (blk := b_Tokens_isBlank_28) rfl ?_
          simp (disch := omega) only [b_Tokens_isBlank_28, be_1, be_0, List.getD_cons_zero, List.getD_cons_succ, List.set_cons_zero, List.set_cons_succ, List.length_cons, List.length_nil, pk_I, pk_A, pr_A, pi_I, st_s, st_n, if_true, if_false, eq_self, d_if, d_ju, d_re, d_ca, cat0, cat1, cat2, cat3, fr_z, fr_s, cc_I, cc_A, cc_N, Nat.reduceAdd, Nat.reduceLT, Nat.reduceLeDiff, Nat.reduceEqDiff, not_true, not_false_iff, z1_0, z1_1, Bool.and_self, Bool.true_and, Bool.and_true, nI_add, pk_mul, nI_clamp, decide_true, Nat.le_refl, bI_eq, bI_z1]
          refine go_at (blk := b_Tokens_isBlank_29) rfl ?_
          simp (disch := omega) only [b_Tokens_isBlank_29, be_73, List.getD_cons_zero, List.getD_cons_succ, List.set_cons_zero, List.set_cons_succ, List.length_cons, List.length_nil, pk_I, pk_A, pr_A, pi_I, st_s, st_n, if_true, if_false, eq_self, d_if, d_ju, d_re, d_ca, cat0, cat1, cat2, cat3, fr_z, fr_s, cc_I, cc_A, cc_N, Nat.reduceAdd, Nat.reduceLT, Nat.reduceLeDiff, Nat.reduceEqDiff, not_true, not_false_iff, z1_0, z1_1, Bool.and_self, Bool.true_and, Bool.and_true, nI_add, pk_mul, nI_clamp, decide_true, Nat.le_refl, bI_eq, bI_z1]
          rw [show blB x = false by unfold blB; rw [decide_eq_false h1, decide_eq_false h2, decide_eq_false h3, decide_eq_false h4]; rfl] at hQ
          exact hQ
        · rename_i h4
          refine go_at (blk := b_Tokens_isBlank_24) rfl ?_
          simp (disch := omega) only [b_Tokens_isBlank_24, be_1, be_51, List.getD_cons_zero, List.getD_cons_succ, List.set_cons_zero, List.set_cons_succ, List.length_cons, List.length_nil, pk_I, pk_A, pr_A, pi_I, st_s, st_n, if_true, if_false, eq_self, d_if, d_ju, d_re, d_ca, cat0, cat1, cat2, cat3, fr_z, fr_s, cc_I, cc_A, cc_N, Nat.reduceAdd, Nat.reduceLT, Nat.reduceLeDiff, Nat.reduceEqDiff, not_true, not_false_iff, z1_0, z1_1, Bool.and_self, Bool.true_and, Bool.and_true, nI_add, pk_mul, nI_clamp, decide_true, Nat.le_refl, bI_eq, bI_z1]
          refine go_at (blk := b_Tokens_isBlank_29) rfl ?_
          simp (disch := omega) only [b_Tokens_isBlank_29, be_73, List.getD_cons_zero, List.getD_cons_succ, List.set_cons_zero, List.set_cons_succ, List.length_cons, List.length_nil, pk_I, pk_A, pr_A, pi_I, st_s, st_n, if_true, if_false, eq_self, d_if, d_ju, d_re, d_ca, cat0, cat1, cat2, cat3, fr_z, fr_s, cc_I, cc_A, cc_N, Nat.reduceAdd, Nat.reduceLT, Nat.reduceLeDiff, Nat.reduceEqDiff, not_true, not_false_iff, z1_0, z1_1, Bool.and_self, Bool.true_and, Bool.and_true, nI_add, pk_mul, nI_clamp, decide_true, Nat.le_refl, bI_eq, bI_z1]
          rw [show blB x = true by unfold blB; rw [decide_eq_true (Decidable.not_not.mp h4)]; simp] at hQ
          exact hQ
theorem k_behind {d : Nat} {v : Nat → Nat → Int32} {w : Nat → Nat → Int64} {Q : Option Value → am_H → Prop} {b : Nat → Int32} {len i : Nat} (hb : v 1 = b) (hl : len ≤ 2000) (hi : i ≤ len) (hQ : Q (some (.int (nI (bk b len i)))) (428, 26053, KD, RF, v, w)) : am_Ca (d + 2) M_Tokens_behindBlanks [.ref 1, .int (nI i), .int (nI len)] (428, 26053, KD, RF, v, w) Q := by
  refine ca_in (k := k_Tokens_behindBlanks) (nL := 4) rfl (Nat.le_of_ble_eq_true rfl) ?_
  show am_Go am_X0 _ k_Tokens_behindBlanks 0 ([.ref 1, .int (nI i), .int (nI len), .null], [], _) _
  refine go_at (blk := b_Tokens_behindBlanks_0) rfl ?_
  simp (disch := omega) only [b_Tokens_behindBlanks_0, be_4, be_7, be_0, List.getD_cons_zero, List.getD_cons_succ, List.set_cons_zero, List.set_cons_succ, List.length_cons, List.length_nil, pk_I, pk_A, pr_A, pi_I, st_s, st_n, if_true, if_false, eq_self, d_if, d_ju, d_re, d_ca, cat0, cat1, cat2, cat3, fr_z, fr_s, cc_I, cc_A, cc_N, Nat.reduceAdd, Nat.reduceLT, Nat.reduceLeDiff, Nat.reduceEqDiff, not_true, not_false_iff, z1_0, z1_1, Bool.and_self, Bool.true_and, Bool.and_true, nI_add, pk_mul, nI_clamp, decide_true, Nat.le_refl, bI_eq, bI_z1]
  refine go_loopA (α := Unit) (fun n u => ([.ref 1, .int (nI i), .int (nI len), .int (nI (i + n))], [], (428, 26053, KD, RF, v, w))) (fun n u => True) (rl blB b len i) ?_ ?_ () trivial
  · intro n _ hn _ ih
    try dsimp only at *
    have hle := rl_le (P := blB) (b := b) hi
    have hn1 : ¬ len ≤ i + n := by omega
    refine go_at (blk := b_Tokens_behindBlanks_2) rfl ?_
    simp (disch := omega) only [b_Tokens_behindBlanks_2, be_4, be_49_3, List.getD_cons_zero, List.getD_cons_succ, List.set_cons_zero, List.set_cons_succ, List.length_cons, List.length_nil, pk_I, pk_A, pr_A, pi_I, st_s, st_n, if_true, if_false, eq_self, d_if, d_ju, d_re, d_ca, cat0, cat1, cat2, cat3, fr_z, fr_s, cc_I, cc_A, cc_N, Nat.reduceAdd, Nat.reduceLT, Nat.reduceLeDiff, Nat.reduceEqDiff, not_true, not_false_iff, z1_0, z1_1, Bool.and_self, Bool.true_and, Bool.and_true, nI_add, pk_mul, nI_clamp, decide_true, Nat.le_refl, bI_eq, bI_z1, nI_ltI, nI_leI, hn1, hb]
    refine go_at (blk := b_Tokens_behindBlanks_7) rfl ?_
    simp (disch := omega) only [b_Tokens_behindBlanks_7, be_6, be_4, be_39, be_58_1, ka_1, List.getD_cons_zero, List.getD_cons_succ, List.set_cons_zero, List.set_cons_succ, List.length_cons, List.length_nil, pk_I, pk_A, pr_A, pi_I, st_s, st_n, if_true, if_false, eq_self, d_if, d_ju, d_re, d_ca, cat0, cat1, cat2, cat3, fr_z, fr_s, cc_I, cc_A, cc_N, Nat.reduceAdd, Nat.reduceLT, Nat.reduceLeDiff, Nat.reduceEqDiff, not_true, not_false_iff, z1_0, z1_1, Bool.and_self, Bool.true_and, Bool.and_true, nI_add, pk_mul, nI_clamp, decide_true, Nat.le_refl, bI_eq, bI_z1, nI_ltI, nI_leI, hn1, hb]
    refine k_isBlank ?_
    rw [rl_in hn]
    refine go_at (blk := b_Tokens_behindBlanks_13) rfl ?_
    simp (disch := omega) only [b_Tokens_behindBlanks_13, be_50_0, List.getD_cons_zero, List.getD_cons_succ, List.set_cons_zero, List.set_cons_succ, List.length_cons, List.length_nil, pk_I, pk_A, pr_A, pi_I, st_s, st_n, if_true, if_false, eq_self, d_if, d_ju, d_re, d_ca, cat0, cat1, cat2, cat3, fr_z, fr_s, cc_I, cc_A, cc_N, Nat.reduceAdd, Nat.reduceLT, Nat.reduceLeDiff, Nat.reduceEqDiff, not_true, not_false_iff, z1_0, z1_1, Bool.and_self, Bool.true_and, Bool.and_true, nI_add, pk_mul, nI_clamp, decide_true, Nat.le_refl, bI_eq, bI_z1, nI_ltI, nI_leI, hn1, hb]
    refine go_at (blk := b_Tokens_behindBlanks_16) rfl ?_
    simp (disch := omega) only [b_Tokens_behindBlanks_16, be_10, be_51, List.getD_cons_zero, List.getD_cons_succ, List.set_cons_zero, List.set_cons_succ, List.length_cons, List.length_nil, pk_I, pk_A, pr_A, pi_I, st_s, st_n, if_true, if_false, eq_self, d_if, d_ju, d_re, d_ca, cat0, cat1, cat2, cat3, fr_z, fr_s, cc_I, cc_A, cc_N, Nat.reduceAdd, Nat.reduceLT, Nat.reduceLeDiff, Nat.reduceEqDiff, not_true, not_false_iff, z1_0, z1_1, Bool.and_self, Bool.true_and, Bool.and_true, nI_add, pk_mul, nI_clamp, decide_true, Nat.le_refl, bI_eq, bI_z1, nI_ltI, nI_leI, hn1, hb]
    exact ih () trivial
  · intro _ _
    try dsimp only at *
    have hle := rl_le (P := blB) (b := b) hi
    refine go_at (blk := b_Tokens_behindBlanks_2) rfl ?_
    simp (disch := omega) only [b_Tokens_behindBlanks_2, be_4, be_49_3, List.getD_cons_zero, List.getD_cons_succ, List.set_cons_zero, List.set_cons_succ, List.length_cons, List.length_nil, pk_I, pk_A, pr_A, pi_I, st_s, st_n, if_true, if_false, eq_self, d_if, d_ju, d_re, d_ca, cat0, cat1, cat2, cat3, fr_z, fr_s, cc_I, cc_A, cc_N, Nat.reduceAdd, Nat.reduceLT, Nat.reduceLeDiff, Nat.reduceEqDiff, not_true, not_false_iff, z1_0, z1_1, Bool.and_self, Bool.true_and, Bool.and_true, nI_add, pk_mul, nI_clamp, decide_true, Nat.le_refl, bI_eq, bI_z1, nI_ltI, nI_leI, hb]
    split
    · rename_i hc
      refine go_at (blk := b_Tokens_behindBlanks_22) rfl ?_
      simp (disch := omega) only [b_Tokens_behindBlanks_22, be_4, be_54, List.getD_cons_zero, List.getD_cons_succ, List.set_cons_zero, List.set_cons_succ, List.length_cons, List.length_nil, pk_I, pk_A, pr_A, pi_I, st_s, st_n, if_true, if_false, eq_self, d_if, d_ju, d_re, d_ca, cat0, cat1, cat2, cat3, fr_z, fr_s, cc_I, cc_A, cc_N, Nat.reduceAdd, Nat.reduceLT, Nat.reduceLeDiff, Nat.reduceEqDiff, not_true, not_false_iff, z1_0, z1_1, Bool.and_self, Bool.true_and, Bool.and_true, nI_add, pk_mul, nI_clamp, decide_true, Nat.le_refl, bI_eq, bI_z1, nI_ltI, nI_leI, hb]
      exact hQ
    · rename_i hc
      refine go_at (blk := b_Tokens_behindBlanks_7) rfl ?_
      simp (disch := omega) only [b_Tokens_behindBlanks_7, be_6, be_4, be_39, be_58_1, ka_1, List.getD_cons_zero, List.getD_cons_succ, List.set_cons_zero, List.set_cons_succ, List.length_cons, List.length_nil, pk_I, pk_A, pr_A, pi_I, st_s, st_n, if_true, if_false, eq_self, d_if, d_ju, d_re, d_ca, cat0, cat1, cat2, cat3, fr_z, fr_s, cc_I, cc_A, cc_N, Nat.reduceAdd, Nat.reduceLT, Nat.reduceLeDiff, Nat.reduceEqDiff, not_true, not_false_iff, z1_0, z1_1, Bool.and_self, Bool.true_and, Bool.and_true, nI_add, pk_mul, nI_clamp, decide_true, Nat.le_refl, bI_eq, bI_z1, nI_ltI, nI_leI, hb]
      refine k_isBlank ?_
      rw [show blB (b (i + rl blB b len i)) = false from bk_nb (Nat.lt_of_not_le hc)]
      refine go_at (blk := b_Tokens_behindBlanks_13) rfl ?_
      simp (disch := omega) only [b_Tokens_behindBlanks_13, be_50_0, List.getD_cons_zero, List.getD_cons_succ, List.set_cons_zero, List.set_cons_succ, List.length_cons, List.length_nil, pk_I, pk_A, pr_A, pi_I, st_s, st_n, if_true, if_false, eq_self, d_if, d_ju, d_re, d_ca, cat0, cat1, cat2, cat3, fr_z, fr_s, cc_I, cc_A, cc_N, Nat.reduceAdd, Nat.reduceLT, Nat.reduceLeDiff, Nat.reduceEqDiff, not_true, not_false_iff, z1_0, z1_1, Bool.and_self, Bool.true_and, Bool.and_true, nI_add, pk_mul, nI_clamp, decide_true, Nat.le_refl, bI_eq, bI_z1, nI_ltI, nI_leI, hb]
      refine go_at (blk := b_Tokens_behindBlanks_22) rfl ?_
      simp (disch := omega) only [b_Tokens_behindBlanks_22, be_4, be_54, List.getD_cons_zero, List.getD_cons_succ, List.set_cons_zero, List.set_cons_succ, List.length_cons, List.length_nil, pk_I, pk_A, pr_A, pi_I, st_s, st_n, if_true, if_false, eq_self, d_if, d_ju, d_re, d_ca, cat0, cat1, cat2, cat3, fr_z, fr_s, cc_I, cc_A, cc_N, Nat.reduceAdd, Nat.reduceLT, Nat.reduceLeDiff, Nat.reduceEqDiff, not_true, not_false_iff, z1_0, z1_1, Bool.and_self, Bool.true_and, Bool.and_true, nI_add, pk_mul, nI_clamp, decide_true, Nat.le_refl, bI_eq, bI_z1, nI_ltI, nI_leI, hb]
      exact hQ
def tx1 (w j : Nat) : Nat := (am_tx 1).getD (w * 8 + j) 0
def wlN (w : Nat) : Nat := if w = 0 then 5 else if w = 1 then 7 else if w = 2 then 6 else if w = 3 then 5 else if w = 4 then 3 else if w = 5 then 3 else if w = 6 then 2 else if w = 7 then 4 else if w = 8 then 4 else if w = 9 then 5 else if w = 10 then 5 else if w = 11 then 5 else if w = 12 then 6 else if w = 13 then 2 else if w = 14 then 4 else if w = 15 then 4 else 5
theorem wd_ok : ∀ w, w < 17 → wlN w ≤ 7 ∧ (∀ j, j < wlN w → 97 ≤ tx1 w j ∧ tx1 w j ≤ 122) ∧ (∀ j, j < 8 → wlN w ≤ j → tx1 w j = 32) ∧ cKey w = vl (fun j => tx1 w j - 96) (wlN w) := by decide +kernel
theorem vl_cg {d e : Nat → Nat} : ∀ n, (∀ i, i < n → d i = e i) → vl d n = vl e n := by
  intro n
  induction n with
  | zero => intro _; rfl
  | succ n ih =>
    intro h
    show vl d n * 27 + d n = vl e n * 27 + e n
    rw [ih (fun i hi => h i (by omega)), h n (by omega)]
/-- what stands at a place of a word, ' ' behind its end -/
def chN (b : Nat → Int32) (i n j : Nat) : Nat := if j < n then 96 + eN (b (i + j)) else 32
theorem wd_iff {b : Nat → Int32} {i n w : Nat} (hw : w < 17) (hn : n ≤ 8) (hb : ∀ j, j < n → leB (b (i + j)) = true) : (∀ j, j < 8 → tx1 w j = chN b i n j) ↔ cKey w = vlN b i n := by
  obtain ⟨w1, w2, w3, w4⟩ := wd_ok w hw
  have hd : ∀ j, j < n → 1 ≤ eN (b (i + j)) ∧ eN (b (i + j)) ≤ 26 := by
    intro j hj
    obtain ⟨d, d1, d2, e⟩ := le_of (hb j hj)
    rw [e, eN_n d2]
    exact ⟨d1, d2⟩
  constructor
  · intro h
    have e : wlN w = n := by
      rcases Nat.lt_trichotomy (wlN w) n with hl | hl | hl
      · have h1 := h (wlN w) (by omega)
        rw [w3 _ (by omega) (Nat.le_refl _)] at h1
        unfold chN at h1
        rw [if_pos hl] at h1
        omega
      · exact hl
      · have h1 := h n (by omega)
        unfold chN at h1
        rw [if_neg (by omega)] at h1
        have := w2 n hl
        omega
    rw [w4, e]
    refine vl_cg n (fun j hj => ?_)
    have h1 := h j (by omega)
    unfold chN at h1
    rw [if_pos hj] at h1
    omega
  · intro h
    rw [w4] at h
    obtain ⟨a1, a2⟩ := vl_inj _ _ _ _ (fun j hj => by have := w2 j hj; omega) hd h
    intro j hj
    unfold chN
    by_cases hjn : j < n
    · rw [if_pos hjn]
      have h1 : tx1 w j - 96 = eN (b (i + j)) := a2 j (by omega)
      have := w2 j (by omega)
      omega
    · rw [if_neg hjn]
      exact w3 j hj (by omega)
theorem tx_l136 : (am_tx 1).length = 136 := by decide +kernel
theorem tx_in : ∀ k, k < 136 → am_in (nI k) 136 = true := by decide +kernel
theorem cw_t : ∀ w, w < 17 → cK (wkN (cKey w)) = 256 + w := by decide +kernel
theorem kc_w : ∀ k, k < 17 → ∃ w, w < 17 ∧ keyN k = cKey w := by
  intro k hk
  exact (show ∀ k, k < 17 → keyN k = cKey (cK (20 + k) - 256) ∧ cK (20 + k) - 256 < 17 by decide +kernel) k hk |> fun h => ⟨_, h.2, h.1⟩
theorem kl_n {N : Nat} (h : ∀ k, k < 17 → ¬ keyN k = N) : ∀ j, j ≤ 17 → klp N j = 1 := by
  intro j
  induction j with
  | zero => intro _; rfl
  | succ j ih =>
    intro hj
    exact (if_neg (h j (by omega))).trans (ih (by omega))
theorem cw_n {N : Nat} (h : ∀ w, w < 17 → ¬ cKey w = N) : cK (wkN N) = 300 := by
  have : wkN N = 1 := kl_n (fun k hk => by
    obtain ⟨w, h1, h2⟩ := kc_w k hk
    rw [h2]
    exact h w h1) 17 (Nat.le_refl _)
  rw [this]
  rfl
set_option maxHeartbeats 1000000 in
theorem k_isWord {d : Nat} {v : Nat → Nat → Int32} {w : Nat → Nat → Int64} {Q : Option Value → am_H → Prop} {b : Nat → Int32} {len i n w' : Nat} (hb : v 1 = b) (hl : len ≤ 2000) (hw : w' < 17) (hn8 : n ≤ 8) (hlt : ∀ j, j < n → leB (b (i + j)) = true) (hin : i + n ≤ len) (hQ : Q (some (.int (bI (decide (cKey w' = vlN b i n))))) (428, 26053, KD, RF, v, w)) : am_Ca (d + 1) M_Tokens_isWord [.int (nI w'), .ref 1, .int (nI i), .int (nI (i + n))] (428, 26053, KD, RF, v, w) Q := by
  refine ca_in (k := k_Tokens_isWord) (nL := 6) rfl (Nat.le_of_ble_eq_true rfl) ?_
  show am_Go am_X0 _ k_Tokens_isWord 0 ([.int (nI w'), .ref 1, .int (nI i), .int (nI (i + n)), .null, .null], [], _) _
  refine go_at (blk := b_Tokens_isWord_0) rfl ?_
  simp (disch := omega) only [b_Tokens_isWord_0, be_1, be_7, be_0, List.getD_cons_zero, List.getD_cons_succ, List.set_cons_zero, List.set_cons_succ, List.length_cons, List.length_nil, pk_I, pk_A, pr_A, pi_I, st_s, st_n, if_true, if_false, eq_self, d_if, d_ju, d_re, d_ca, cat0, cat1, cat2, cat3, fr_z, fr_s, cc_I, cc_A, cc_N, Nat.reduceAdd, Nat.reduceLT, Nat.reduceLeDiff, Nat.reduceEqDiff, not_true, not_false_iff, z1_0, z1_1, Bool.and_self, Bool.true_and, Bool.and_true, nI_add, pk_mul, nI_clamp, decide_true, Nat.le_refl, bI_eq, bI_z1]
  refine go_loopA (α := Value) (fun j x => ([.int (nI w'), .ref 1, .int (nI i), .int (nI (i + n)), .int (nI j), x], [], (428, 26053, KD, RF, v, w))) (fun j x => am_cc x = true ∧ ∀ j', j' < j → tx1 w' j' = chN b i n j') (8) ?_ ?_ .null ⟨rfl, fun _ h => absurd h (Nat.not_lt_zero _)⟩
  · intro j x hj ⟨x1, x2⟩ ih
    try dsimp only at *
    have hni : ¬ 8 ≤ j := by omega
    have htx : am_in (nI (w' * 8 + j)) (am_tx 1).length = true := tx_in _ (by omega)
    have hgd : (am_tx 1).getD (w' * 8 + j) 0 = tx1 w' j := rfl
    have hch : chN b i n j < 200 := by
      unfold chN
      split
      · rename_i hq
        obtain ⟨d', d1, d2, e⟩ := le_of (hlt j hq)
        rw [e, eN_n d2]
        omega
      · omega
    have htl : tx1 w' j < 200 := by
      obtain ⟨w1, w2, w3, w4⟩ := wd_ok w' hw
      by_cases hq : j < wlN w'
      · have := w2 j hq
        omega
      · have := w3 j hj (by omega)
        omega
    by_cases hjn0 : j < n
    · have hjn : ¬ i + n ≤ i + j := by omega
      have e1 : b (i + j) = nI (chN b i n j) := by
        obtain ⟨d', d1, d2, e⟩ := le_of (hlt j hjn0)
        unfold chN
        rw [if_pos hjn0, e, eN_n d2]
      refine go_at (blk := b_Tokens_isWord_3) rfl ?_
      simp (disch := omega) only [b_Tokens_isWord_3, be_4, be_1, be_49_3, List.getD_cons_zero, List.getD_cons_succ, List.set_cons_zero, List.set_cons_succ, List.length_cons, List.length_nil, pk_I, pk_A, pr_A, pi_I, st_s, st_n, if_true, if_false, eq_self, d_if, d_ju, d_re, d_ca, cat0, cat1, cat2, cat3, fr_z, fr_s, cc_I, cc_A, cc_N, Nat.reduceAdd, Nat.reduceLT, Nat.reduceLeDiff, Nat.reduceEqDiff, not_true, not_false_iff, z1_0, z1_1, Bool.and_self, Bool.true_and, Bool.and_true, nI_add, pk_mul, nI_clamp, decide_true, Nat.le_refl, bI_eq, bI_z1, nI_ltI, nI_leI, hni, hb, htx, hgd, x1, e1, nI_eq, hjn]
      refine go_at (blk := b_Tokens_isWord_10) rfl ?_
      simp (disch := omega) only [b_Tokens_isWord_10, be_4, be_12, be_49_3, List.getD_cons_zero, List.getD_cons_succ, List.set_cons_zero, List.set_cons_succ, List.length_cons, List.length_nil, pk_I, pk_A, pr_A, pi_I, st_s, st_n, if_true, if_false, eq_self, d_if, d_ju, d_re, d_ca, cat0, cat1, cat2, cat3, fr_z, fr_s, cc_I, cc_A, cc_N, Nat.reduceAdd, Nat.reduceLT, Nat.reduceLeDiff, Nat.reduceEqDiff, not_true, not_false_iff, z1_0, z1_1, Bool.and_self, Bool.true_and, Bool.and_true, nI_add, pk_mul, nI_clamp, decide_true, Nat.le_refl, bI_eq, bI_z1, nI_ltI, nI_leI, hni, hb, htx, hgd, x1, e1, nI_eq, hjn]
      refine go_at (blk := b_Tokens_isWord_18) rfl ?_
      simp (disch := omega) only [b_Tokens_isWord_18, be_6, be_4, be_12, be_39, be_51, ka_1, List.getD_cons_zero, List.getD_cons_succ, List.set_cons_zero, List.set_cons_succ, List.length_cons, List.length_nil, pk_I, pk_A, pr_A, pi_I, st_s, st_n, if_true, if_false, eq_self, d_if, d_ju, d_re, d_ca, cat0, cat1, cat2, cat3, fr_z, fr_s, cc_I, cc_A, cc_N, Nat.reduceAdd, Nat.reduceLT, Nat.reduceLeDiff, Nat.reduceEqDiff, not_true, not_false_iff, z1_0, z1_1, Bool.and_self, Bool.true_and, Bool.and_true, nI_add, pk_mul, nI_clamp, decide_true, Nat.le_refl, bI_eq, bI_z1, nI_ltI, nI_leI, hni, hb, htx, hgd, x1, e1, nI_eq, hjn]
      refine go_at (blk := b_Tokens_isWord_29) rfl ?_
      simp (disch := omega) only [b_Tokens_isWord_29, be_7, be_67, be_4, be_1, be_14, be_12, be_69, be_49_0, List.getD_cons_zero, List.getD_cons_succ, List.set_cons_zero, List.set_cons_succ, List.length_cons, List.length_nil, pk_I, pk_A, pr_A, pi_I, st_s, st_n, if_true, if_false, eq_self, d_if, d_ju, d_re, d_ca, cat0, cat1, cat2, cat3, fr_z, fr_s, cc_I, cc_A, cc_N, Nat.reduceAdd, Nat.reduceLT, Nat.reduceLeDiff, Nat.reduceEqDiff, not_true, not_false_iff, z1_0, z1_1, Bool.and_self, Bool.true_and, Bool.and_true, nI_add, pk_mul, nI_clamp, decide_true, Nat.le_refl, bI_eq, bI_z1, nI_ltI, nI_leI, hni, hb, htx, hgd, x1, e1, nI_eq, hjn]
      split
      · rename_i hc
        refine go_at (blk := b_Tokens_isWord_50) rfl ?_
        simp (disch := omega) only [b_Tokens_isWord_50, be_10, be_51, List.getD_cons_zero, List.getD_cons_succ, List.set_cons_zero, List.set_cons_succ, List.length_cons, List.length_nil, pk_I, pk_A, pr_A, pi_I, st_s, st_n, if_true, if_false, eq_self, d_if, d_ju, d_re, d_ca, cat0, cat1, cat2, cat3, fr_z, fr_s, cc_I, cc_A, cc_N, Nat.reduceAdd, Nat.reduceLT, Nat.reduceLeDiff, Nat.reduceEqDiff, not_true, not_false_iff, z1_0, z1_1, Bool.and_self, Bool.true_and, Bool.and_true, nI_add, pk_mul, nI_clamp, decide_true, Nat.le_refl, bI_eq, bI_z1, nI_ltI, nI_leI, hni, hb, htx, hgd, x1, e1, nI_eq, hjn]
        exact ih (.int _) ⟨rfl, fun j' hj' => by
          by_cases hq : j' = j
          · subst hq
            exact hc
          · exact x2 j' (by omega)⟩
      · rename_i hc
        refine go_at (blk := b_Tokens_isWord_48) rfl ?_
        simp (disch := omega) only [b_Tokens_isWord_48, be_1, be_73, List.getD_cons_zero, List.getD_cons_succ, List.set_cons_zero, List.set_cons_succ, List.length_cons, List.length_nil, pk_I, pk_A, pr_A, pi_I, st_s, st_n, if_true, if_false, eq_self, d_if, d_ju, d_re, d_ca, cat0, cat1, cat2, cat3, fr_z, fr_s, cc_I, cc_A, cc_N, Nat.reduceAdd, Nat.reduceLT, Nat.reduceLeDiff, Nat.reduceEqDiff, not_true, not_false_iff, z1_0, z1_1, Bool.and_self, Bool.true_and, Bool.and_true, nI_add, pk_mul, nI_clamp, decide_true, Nat.le_refl, bI_eq, bI_z1, nI_ltI, nI_leI, hni, hb, htx, hgd, x1, e1, nI_eq, hjn]
        have hf : decide (cKey w' = vlN b i n) = false := decide_eq_false (fun z => hc ((wd_iff hw hn8 hlt).mpr z j hj))
        rw [hf] at hQ
        exact hQ
    · have hjn : i + n ≤ i + j := by omega
      have e1 : nI 32 = nI (chN b i n j) := by
        unfold chN
        rw [if_neg hjn0]
      refine go_at (blk := b_Tokens_isWord_3) rfl ?_
      simp (disch := omega) only [b_Tokens_isWord_3, be_4, be_1, be_49_3, List.getD_cons_zero, List.getD_cons_succ, List.set_cons_zero, List.set_cons_succ, List.length_cons, List.length_nil, pk_I, pk_A, pr_A, pi_I, st_s, st_n, if_true, if_false, eq_self, d_if, d_ju, d_re, d_ca, cat0, cat1, cat2, cat3, fr_z, fr_s, cc_I, cc_A, cc_N, Nat.reduceAdd, Nat.reduceLT, Nat.reduceLeDiff, Nat.reduceEqDiff, not_true, not_false_iff, z1_0, z1_1, Bool.and_self, Bool.true_and, Bool.and_true, nI_add, pk_mul, nI_clamp, decide_true, Nat.le_refl, bI_eq, bI_z1, nI_ltI, nI_leI, hni, hb, htx, hgd, x1, e1, nI_eq, hjn]
      refine go_at (blk := b_Tokens_isWord_10) rfl ?_
      simp (disch := omega) only [b_Tokens_isWord_10, be_4, be_12, be_49_3, List.getD_cons_zero, List.getD_cons_succ, List.set_cons_zero, List.set_cons_succ, List.length_cons, List.length_nil, pk_I, pk_A, pr_A, pi_I, st_s, st_n, if_true, if_false, eq_self, d_if, d_ju, d_re, d_ca, cat0, cat1, cat2, cat3, fr_z, fr_s, cc_I, cc_A, cc_N, Nat.reduceAdd, Nat.reduceLT, Nat.reduceLeDiff, Nat.reduceEqDiff, not_true, not_false_iff, z1_0, z1_1, Bool.and_self, Bool.true_and, Bool.and_true, nI_add, pk_mul, nI_clamp, decide_true, Nat.le_refl, bI_eq, bI_z1, nI_ltI, nI_leI, hni, hb, htx, hgd, x1, e1, nI_eq, hjn]
      refine go_at (blk := b_Tokens_isWord_27) rfl ?_
      simp (disch := omega) only [b_Tokens_isWord_27, be_1, be_0, List.getD_cons_zero, List.getD_cons_succ, List.set_cons_zero, List.set_cons_succ, List.length_cons, List.length_nil, pk_I, pk_A, pr_A, pi_I, st_s, st_n, if_true, if_false, eq_self, d_if, d_ju, d_re, d_ca, cat0, cat1, cat2, cat3, fr_z, fr_s, cc_I, cc_A, cc_N, Nat.reduceAdd, Nat.reduceLT, Nat.reduceLeDiff, Nat.reduceEqDiff, not_true, not_false_iff, z1_0, z1_1, Bool.and_self, Bool.true_and, Bool.and_true, nI_add, pk_mul, nI_clamp, decide_true, Nat.le_refl, bI_eq, bI_z1, nI_ltI, nI_leI, hni, hb, htx, hgd, x1, e1, nI_eq, hjn]
      refine go_at (blk := b_Tokens_isWord_29) rfl ?_
      simp (disch := omega) only [b_Tokens_isWord_29, be_7, be_67, be_4, be_1, be_14, be_12, be_69, be_49_0, List.getD_cons_zero, List.getD_cons_succ, List.set_cons_zero, List.set_cons_succ, List.length_cons, List.length_nil, pk_I, pk_A, pr_A, pi_I, st_s, st_n, if_true, if_false, eq_self, d_if, d_ju, d_re, d_ca, cat0, cat1, cat2, cat3, fr_z, fr_s, cc_I, cc_A, cc_N, Nat.reduceAdd, Nat.reduceLT, Nat.reduceLeDiff, Nat.reduceEqDiff, not_true, not_false_iff, z1_0, z1_1, Bool.and_self, Bool.true_and, Bool.and_true, nI_add, pk_mul, nI_clamp, decide_true, Nat.le_refl, bI_eq, bI_z1, nI_ltI, nI_leI, hni, hb, htx, hgd, x1, e1, nI_eq, hjn]
      split
      · rename_i hc
        refine go_at (blk := b_Tokens_isWord_50) rfl ?_
        simp (disch := omega) only [b_Tokens_isWord_50, be_10, be_51, List.getD_cons_zero, List.getD_cons_succ, List.set_cons_zero, List.set_cons_succ, List.length_cons, List.length_nil, pk_I, pk_A, pr_A, pi_I, st_s, st_n, if_true, if_false, eq_self, d_if, d_ju, d_re, d_ca, cat0, cat1, cat2, cat3, fr_z, fr_s, cc_I, cc_A, cc_N, Nat.reduceAdd, Nat.reduceLT, Nat.reduceLeDiff, Nat.reduceEqDiff, not_true, not_false_iff, z1_0, z1_1, Bool.and_self, Bool.true_and, Bool.and_true, nI_add, pk_mul, nI_clamp, decide_true, Nat.le_refl, bI_eq, bI_z1, nI_ltI, nI_leI, hni, hb, htx, hgd, x1, e1, nI_eq, hjn]
        exact ih (.int _) ⟨rfl, fun j' hj' => by
          by_cases hq : j' = j
          · subst hq
            exact hc
          · exact x2 j' (by omega)⟩
      · rename_i hc
        refine go_at (blk := b_Tokens_isWord_48) rfl ?_
        simp (disch := omega) only [b_Tokens_isWord_48, be_1, be_73, List.getD_cons_zero, List.getD_cons_succ, List.set_cons_zero, List.set_cons_succ, List.length_cons, List.length_nil, pk_I, pk_A, pr_A, pi_I, st_s, st_n, if_true, if_false, eq_self, d_if, d_ju, d_re, d_ca, cat0, cat1, cat2, cat3, fr_z, fr_s, cc_I, cc_A, cc_N, Nat.reduceAdd, Nat.reduceLT, Nat.reduceLeDiff, Nat.reduceEqDiff, not_true, not_false_iff, z1_0, z1_1, Bool.and_self, Bool.true_and, Bool.and_true, nI_add, pk_mul, nI_clamp, decide_true, Nat.le_refl, bI_eq, bI_z1, nI_ltI, nI_leI, hni, hb, htx, hgd, x1, e1, nI_eq, hjn]
        have hf : decide (cKey w' = vlN b i n) = false := decide_eq_false (fun z => hc ((wd_iff hw hn8 hlt).mpr z j hj))
        rw [hf] at hQ
        exact hQ
  · intro x ⟨x1, x2⟩
    try dsimp only at *
    refine go_at (blk := b_Tokens_isWord_3) rfl ?_
    simp (disch := omega) only [b_Tokens_isWord_3, be_4, be_1, be_49_3, List.getD_cons_zero, List.getD_cons_succ, List.set_cons_zero, List.set_cons_succ, List.length_cons, List.length_nil, pk_I, pk_A, pr_A, pi_I, st_s, st_n, if_true, if_false, eq_self, d_if, d_ju, d_re, d_ca, cat0, cat1, cat2, cat3, fr_z, fr_s, cc_I, cc_A, cc_N, Nat.reduceAdd, Nat.reduceLT, Nat.reduceLeDiff, Nat.reduceEqDiff, not_true, not_false_iff, z1_0, z1_1, Bool.and_self, Bool.true_and, Bool.and_true, nI_add, pk_mul, nI_clamp, decide_true, Nat.le_refl, bI_eq, bI_z1, nI_ltI, nI_leI]
    refine go_at (blk := b_Tokens_isWord_56) rfl ?_
    simp (disch := omega) only [b_Tokens_isWord_56, be_1, be_73, List.getD_cons_zero, List.getD_cons_succ, List.set_cons_zero, List.set_cons_succ, List.length_cons, List.length_nil, pk_I, pk_A, pr_A, pi_I, st_s, st_n, if_true, if_false, eq_self, d_if, d_ju, d_re, d_ca, cat0, cat1, cat2, cat3, fr_z, fr_s, cc_I, cc_A, cc_N, Nat.reduceAdd, Nat.reduceLT, Nat.reduceLeDiff, Nat.reduceEqDiff, not_true, not_false_iff, z1_0, z1_1, Bool.and_self, Bool.true_and, Bool.and_true, nI_add, pk_mul, nI_clamp, decide_true, Nat.le_refl, bI_eq, bI_z1, nI_ltI, nI_leI]
    have hf : decide (cKey w' = vlN b i n) = true := decide_eq_true ((wd_iff hw hn8 hlt).mp (fun j hj => x2 j hj))
    rw [hf] at hQ
    exact hQ
set_option maxHeartbeats 1000000 in
theorem k_wordKind {d : Nat} {v : Nat → Nat → Int32} {w : Nat → Nat → Int64} {Q : Option Value → am_H → Prop} {b : Nat → Int32} {len i n : Nat} (hb : v 1 = b) (hl : len ≤ 2000) (hn8 : n ≤ 8) (hlt : ∀ j, j < n → leB (b (i + j)) = true) (hin : i + n ≤ len) (hQ : Q (some (.int (nI (cK (wkN (vlN b i n)))))) (428, 26053, KD, RF, v, w)) : am_Ca (d + 2) M_Tokens_wordKind [.ref 1, .int (nI i), .int (nI (i + n))] (428, 26053, KD, RF, v, w) Q := by
  refine ca_in (k := k_Tokens_wordKind) (nL := 4) rfl (Nat.le_of_ble_eq_true rfl) ?_
  show am_Go am_X0 _ k_Tokens_wordKind 0 ([.ref 1, .int (nI i), .int (nI (i + n)), .null], [], _) _
  refine go_at (blk := b_Tokens_wordKind_0) rfl ?_
  simp (disch := omega) only [b_Tokens_wordKind_0, be_1, be_7, be_0, List.getD_cons_zero, List.getD_cons_succ, List.set_cons_zero, List.set_cons_succ, List.length_cons, List.length_nil, pk_I, pk_A, pr_A, pi_I, st_s, st_n, if_true, if_false, eq_self, d_if, d_ju, d_re, d_ca, cat0, cat1, cat2, cat3, fr_z, fr_s, cc_I, cc_A, cc_N, Nat.reduceAdd, Nat.reduceLT, Nat.reduceLeDiff, Nat.reduceEqDiff, not_true, not_false_iff, z1_0, z1_1, Bool.and_self, Bool.true_and, Bool.and_true, nI_add, pk_mul, nI_clamp, decide_true, Nat.le_refl, bI_eq, bI_z1]
  refine go_loopA (α := Unit) (fun j u => ([.ref 1, .int (nI i), .int (nI (i + n)), .int (nI j)], [], (428, 26053, KD, RF, v, w))) (fun j u => ∀ w1, w1 < j → ¬ cKey w1 = vlN b i n) (17) ?_ ?_ () (fun _ h => absurd h (Nat.not_lt_zero _))
  · intro j _ hj x1 ih
    try dsimp only at *
    have hni2 : ¬ 136 ≤ j * 8 := by omega
    refine go_at (blk := b_Tokens_wordKind_2) rfl ?_
    simp (disch := omega) only [b_Tokens_wordKind_2, be_4, be_1, be_14, be_67, be_68, be_49_3, List.getD_cons_zero, List.getD_cons_succ, List.set_cons_zero, List.set_cons_succ, List.length_cons, List.length_nil, pk_I, pk_A, pr_A, pi_I, st_s, st_n, if_true, if_false, eq_self, d_if, d_ju, d_re, d_ca, cat0, cat1, cat2, cat3, fr_z, fr_s, cc_I, cc_A, cc_N, Nat.reduceAdd, Nat.reduceLT, Nat.reduceLeDiff, Nat.reduceEqDiff, not_true, not_false_iff, z1_0, z1_1, Bool.and_self, Bool.true_and, Bool.and_true, nI_add, pk_mul, nI_clamp, decide_true, Nat.le_refl, bI_eq, bI_z1, nI_ltI, nI_leI, hni2, tx_l136]
    refine go_at (blk := b_Tokens_wordKind_14) rfl ?_
    simp (disch := omega) only [b_Tokens_wordKind_14, be_4, be_6, be_58_4, List.getD_cons_zero, List.getD_cons_succ, List.set_cons_zero, List.set_cons_succ, List.length_cons, List.length_nil, pk_I, pk_A, pr_A, pi_I, st_s, st_n, if_true, if_false, eq_self, d_if, d_ju, d_re, d_ca, cat0, cat1, cat2, cat3, fr_z, fr_s, cc_I, cc_A, cc_N, Nat.reduceAdd, Nat.reduceLT, Nat.reduceLeDiff, Nat.reduceEqDiff, not_true, not_false_iff, z1_0, z1_1, Bool.and_self, Bool.true_and, Bool.and_true, nI_add, pk_mul, nI_clamp, decide_true, Nat.le_refl, bI_eq, bI_z1, nI_ltI, nI_leI, hni2, tx_l136]
    refine k_isWord (len := len) hb hl hj hn8 hlt hin ?_
    refine go_at (blk := b_Tokens_wordKind_21) rfl ?_
    simp (disch := omega) only [b_Tokens_wordKind_21, be_50_0, List.getD_cons_zero, List.getD_cons_succ, List.set_cons_zero, List.set_cons_succ, List.length_cons, List.length_nil, pk_I, pk_A, pr_A, pi_I, st_s, st_n, if_true, if_false, eq_self, d_if, d_ju, d_re, d_ca, cat0, cat1, cat2, cat3, fr_z, fr_s, cc_I, cc_A, cc_N, Nat.reduceAdd, Nat.reduceLT, Nat.reduceLeDiff, Nat.reduceEqDiff, not_true, not_false_iff, z1_0, z1_1, Bool.and_self, Bool.true_and, Bool.and_true, nI_add, pk_mul, nI_clamp, decide_true, Nat.le_refl, bI_eq, bI_z1, nI_ltI, nI_leI, hni2, tx_l136]
    split
    · rename_i hc
      refine go_at (blk := b_Tokens_wordKind_30) rfl ?_
      simp (disch := omega) only [b_Tokens_wordKind_30, be_10, be_51, List.getD_cons_zero, List.getD_cons_succ, List.set_cons_zero, List.set_cons_succ, List.length_cons, List.length_nil, pk_I, pk_A, pr_A, pi_I, st_s, st_n, if_true, if_false, eq_self, d_if, d_ju, d_re, d_ca, cat0, cat1, cat2, cat3, fr_z, fr_s, cc_I, cc_A, cc_N, Nat.reduceAdd, Nat.reduceLT, Nat.reduceLeDiff, Nat.reduceEqDiff, not_true, not_false_iff, z1_0, z1_1, Bool.and_self, Bool.true_and, Bool.and_true, nI_add, pk_mul, nI_clamp, decide_true, Nat.le_refl, bI_eq, bI_z1, nI_ltI, nI_leI, hni2, tx_l136]
      exact ih () (fun w1 hw1 => by
        by_cases hq : w1 = j
        · subst hq
          simpa using hc
        · exact x1 w1 (by omega))
    · rename_i hc
      have hc : cKey j = vlN b i n := by simpa using hc
      rw [← hc, cw_t j hj] at hQ
      refine go_at (blk := b_Tokens_wordKind_24) rfl ?_
      simp (disch := omega) only [b_Tokens_wordKind_24, be_1, be_4, be_12, be_54, List.getD_cons_zero, List.getD_cons_succ, List.set_cons_zero, List.set_cons_succ, List.length_cons, List.length_nil, pk_I, pk_A, pr_A, pi_I, st_s, st_n, if_true, if_false, eq_self, d_if, d_ju, d_re, d_ca, cat0, cat1, cat2, cat3, fr_z, fr_s, cc_I, cc_A, cc_N, Nat.reduceAdd, Nat.reduceLT, Nat.reduceLeDiff, Nat.reduceEqDiff, not_true, not_false_iff, z1_0, z1_1, Bool.and_self, Bool.true_and, Bool.and_true, nI_add, pk_mul, nI_clamp, decide_true, Nat.le_refl, bI_eq, bI_z1, nI_ltI, nI_leI, hni2, tx_l136]
      exact hQ
  · intro _ x1
    try dsimp only at *
    refine go_at (blk := b_Tokens_wordKind_2) rfl ?_
    simp (disch := omega) only [b_Tokens_wordKind_2, be_4, be_1, be_14, be_67, be_68, be_49_3, List.getD_cons_zero, List.getD_cons_succ, List.set_cons_zero, List.set_cons_succ, List.length_cons, List.length_nil, pk_I, pk_A, pr_A, pi_I, st_s, st_n, if_true, if_false, eq_self, d_if, d_ju, d_re, d_ca, cat0, cat1, cat2, cat3, fr_z, fr_s, cc_I, cc_A, cc_N, Nat.reduceAdd, Nat.reduceLT, Nat.reduceLeDiff, Nat.reduceEqDiff, not_true, not_false_iff, z1_0, z1_1, Bool.and_self, Bool.true_and, Bool.and_true, nI_add, pk_mul, nI_clamp, decide_true, Nat.le_refl, bI_eq, bI_z1, nI_ltI, nI_leI, tx_l136]
    refine go_at (blk := b_Tokens_wordKind_36) rfl ?_
    simp (disch := omega) only [b_Tokens_wordKind_36, be_1, be_54, List.getD_cons_zero, List.getD_cons_succ, List.set_cons_zero, List.set_cons_succ, List.length_cons, List.length_nil, pk_I, pk_A, pr_A, pi_I, st_s, st_n, if_true, if_false, eq_self, d_if, d_ju, d_re, d_ca, cat0, cat1, cat2, cat3, fr_z, fr_s, cc_I, cc_A, cc_N, Nat.reduceAdd, Nat.reduceLT, Nat.reduceLeDiff, Nat.reduceEqDiff, not_true, not_false_iff, z1_0, z1_1, Bool.and_self, Bool.true_and, Bool.and_true, nI_add, pk_mul, nI_clamp, decide_true, Nat.le_refl, bI_eq, bI_z1, nI_ltI, nI_leI, tx_l136]
    rw [cw_n (fun w1 hw1 => x1 w1 hw1)] at hQ
    exact hQ
