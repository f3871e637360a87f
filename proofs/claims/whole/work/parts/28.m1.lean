/-! laid by wip/whole/m1.py: the reference: its smallest methods -/
theorem m_in {d : Nat} {x a b : Int32} {h : am_H} {Q : Option Value → am_H → Prop} (hq : (x < a ∨ b < x) → Q (some (.int (nI 0))) h) (hq1 : (¬ x < a ∧ ¬ b < x) → Q (some (.int (nI 1))) h) : am_Ca (d + 1) M_Model_in [.int x, .int a, .int b] h Q := by
  refine ca_in (k := k_Model_in) (nL := 3) rfl (Nat.le_of_ble_eq_true rfl) ?_
  show am_Go am_X0 _ k_Model_in 0 ([.int x, .int a, .int b], [], _) _
  refine go_at (blk := b_Model_in_0) rfl ?_
  simp (disch := omega) only [b_Model_in_0, be_4, be_49_2, List.getD_cons_zero, List.getD_cons_succ, List.set_cons_zero, List.set_cons_succ, List.length_cons, List.length_nil, pk_I, pk_A, pr_A, pi_I, st_s, st_n, if_true, if_false, eq_self, d_if, d_ju, d_re, d_ca, cat0, cat1, cat2, cat3, fr_z, fr_s, cc_I, cc_A, cc_N, z1_0, z1_1, Bool.and_self, Bool.true_and, Bool.and_true, nI_add, nI_clamp, decide_true]
  split
  · rename_i hc
    refine go_at (blk := b_Model_in_14) rfl ?_
    simp (disch := omega) only [b_Model_in_14, be_1, be_0, List.getD_cons_zero, List.getD_cons_succ, List.set_cons_zero, List.set_cons_succ, List.length_cons, List.length_nil, pk_I, pk_A, pr_A, pi_I, st_s, st_n, if_true, if_false, eq_self, d_if, d_ju, d_re, d_ca, cat0, cat1, cat2, cat3, fr_z, fr_s, cc_I, cc_A, cc_N, z1_0, z1_1, Bool.and_self, Bool.true_and, Bool.and_true, nI_add, nI_clamp, decide_true]
    refine go_at (blk := b_Model_in_15) rfl ?_
    simp (disch := omega) only [b_Model_in_15, be_73, List.getD_cons_zero, List.getD_cons_succ, List.set_cons_zero, List.set_cons_succ, List.length_cons, List.length_nil, pk_I, pk_A, pr_A, pi_I, st_s, st_n, if_true, if_false, eq_self, d_if, d_ju, d_re, d_ca, cat0, cat1, cat2, cat3, fr_z, fr_s, cc_I, cc_A, cc_N, z1_0, z1_1, Bool.and_self, Bool.true_and, Bool.and_true, nI_add, nI_clamp, decide_true]
    exact hq (Or.inl hc)
  · rename_i hc
    refine go_at (blk := b_Model_in_5) rfl ?_
    simp (disch := omega) only [b_Model_in_5, be_4, be_49_4, List.getD_cons_zero, List.getD_cons_succ, List.set_cons_zero, List.set_cons_succ, List.length_cons, List.length_nil, pk_I, pk_A, pr_A, pi_I, st_s, st_n, if_true, if_false, eq_self, d_if, d_ju, d_re, d_ca, cat0, cat1, cat2, cat3, fr_z, fr_s, cc_I, cc_A, cc_N, z1_0, z1_1, Bool.and_self, Bool.true_and, Bool.and_true, nI_add, nI_clamp, decide_true]
    split
    · rename_i hc2
      refine go_at (blk := b_Model_in_14) rfl ?_
      simp (disch := omega) only [b_Model_in_14, be_1, be_0, List.getD_cons_zero, List.getD_cons_succ, List.set_cons_zero, List.set_cons_succ, List.length_cons, List.length_nil, pk_I, pk_A, pr_A, pi_I, st_s, st_n, if_true, if_false, eq_self, d_if, d_ju, d_re, d_ca, cat0, cat1, cat2, cat3, fr_z, fr_s, cc_I, cc_A, cc_N, z1_0, z1_1, Bool.and_self, Bool.true_and, Bool.and_true, nI_add, nI_clamp, decide_true]
      refine go_at (blk := b_Model_in_15) rfl ?_
      simp (disch := omega) only [b_Model_in_15, be_73, List.getD_cons_zero, List.getD_cons_succ, List.set_cons_zero, List.set_cons_succ, List.length_cons, List.length_nil, pk_I, pk_A, pr_A, pi_I, st_s, st_n, if_true, if_false, eq_self, d_if, d_ju, d_re, d_ca, cat0, cat1, cat2, cat3, fr_z, fr_s, cc_I, cc_A, cc_N, z1_0, z1_1, Bool.and_self, Bool.true_and, Bool.and_true, nI_add, nI_clamp, decide_true]
      exact hq (Or.inr hc2)
    · rename_i hc2
      refine go_at (blk := b_Model_in_10) rfl ?_
      simp (disch := omega) only [b_Model_in_10, be_1, be_51, List.getD_cons_zero, List.getD_cons_succ, List.set_cons_zero, List.set_cons_succ, List.length_cons, List.length_nil, pk_I, pk_A, pr_A, pi_I, st_s, st_n, if_true, if_false, eq_self, d_if, d_ju, d_re, d_ca, cat0, cat1, cat2, cat3, fr_z, fr_s, cc_I, cc_A, cc_N, z1_0, z1_1, Bool.and_self, Bool.true_and, Bool.and_true, nI_add, nI_clamp, decide_true]
      refine go_at (blk := b_Model_in_15) rfl ?_
      simp (disch := omega) only [b_Model_in_15, be_73, List.getD_cons_zero, List.getD_cons_succ, List.set_cons_zero, List.set_cons_succ, List.length_cons, List.length_nil, pk_I, pk_A, pr_A, pi_I, st_s, st_n, if_true, if_false, eq_self, d_if, d_ju, d_re, d_ca, cat0, cat1, cat2, cat3, fr_z, fr_s, cc_I, cc_A, cc_N, z1_0, z1_1, Bool.and_self, Bool.true_and, Bool.and_true, nI_add, nI_clamp, decide_true]
      exact hq1 ⟨hc, hc2⟩
theorem m_plainly {d : Nat} {v : Nat → Nat → Int32} {w : Nat → Nat → Int64} {Q : Option Value → am_H → Prop} (hq : Q none (428, 26053, KD, RF, am_u (am_u v 388 49 (-1)) 388 50 (nI 0), w)) : am_Ca (d + 1) M_Model_plainly [.ref 388] (428, 26053, KD, RF, v, w) Q := by
  refine ca_in (k := k_Model_plainly) (nL := 1) rfl (Nat.le_of_ble_eq_true rfl) ?_
  show am_Go am_X0 _ k_Model_plainly 0 ([.ref 388], [], _) _
  refine go_at (blk := b_Model_plainly_0) rfl ?_
  simp (disch := omega) only [b_Model_plainly_0, be_6, be_2, be_35, be_1, be_56, kc_388, List.getD_cons_zero, List.getD_cons_succ, List.set_cons_zero, List.set_cons_succ, List.length_cons, List.length_nil, pk_I, pk_A, pr_A, pi_I, st_s, st_n, if_true, if_false, eq_self, d_if, d_ju, d_re, d_ca, cat0, cat1, cat2, cat3, fr_z, fr_s, cc_I, cc_A, cc_N, z1_0, z1_1, Bool.and_self, Bool.true_and, Bool.and_true, nI_add, nI_clamp, decide_true]
  exact hq
theorem m_isOn {d : Nat} {p : Nat} (hp : p < 8) {v : Nat → Nat → Int32} {w : Nat → Nat → Int64} {Q : Option Value → am_H → Prop} (hq0 : (¬ v 419 (32 + p) = -1 ∨ nI p = v 388 49) → Q (some (.int (nI 0))) (428, 26053, KD, RF, v, w)) (hq1 : ¬ ¬ v 419 (32 + p) = -1 → ¬ nI p = v 388 49 → Q (some (.int (nI 1))) (428, 26053, KD, RF, v, w)) : am_Ca (d + 1) M_Model_isOn [.ref 388, .int (nI p)] (428, 26053, KD, RF, v, w) Q := by
  refine ca_in (k := k_Model_isOn) (nL := 2) rfl (Nat.le_of_ble_eq_true rfl) ?_
  show am_Go am_X0 _ k_Model_isOn 0 ([.ref 388, .int (nI p)], [], _) _
  refine go_at (blk := b_Model_isOn_0) rfl ?_
  simp (disch := omega) only [b_Model_isOn_0, be_6, be_34, be_1, be_4, be_12, be_38, be_2, be_49_1, kc_388, rf_388_48, ka_419, List.getD_cons_zero, List.getD_cons_succ, List.set_cons_zero, List.set_cons_succ, List.length_cons, List.length_nil, pk_I, pk_A, pr_A, pi_I, st_s, st_n, if_true, if_false, eq_self, d_if, d_ju, d_re, d_ca, cat0, cat1, cat2, cat3, fr_z, fr_s, cc_I, cc_A, cc_N, z1_0, z1_1, Bool.and_self, Bool.true_and, Bool.and_true, nI_add, nI_clamp, decide_true]
  split
  · rename_i hc
    refine go_at (blk := b_Model_isOn_25) rfl ?_
    simp (disch := omega) only [b_Model_isOn_25, be_1, be_0, List.getD_cons_zero, List.getD_cons_succ, List.set_cons_zero, List.set_cons_succ, List.length_cons, List.length_nil, pk_I, pk_A, pr_A, pi_I, st_s, st_n, if_true, if_false, eq_self, d_if, d_ju, d_re, d_ca, cat0, cat1, cat2, cat3, fr_z, fr_s, cc_I, cc_A, cc_N, z1_0, z1_1, Bool.and_self, Bool.true_and, Bool.and_true, nI_add, nI_clamp, decide_true]
    refine go_at (blk := b_Model_isOn_26) rfl ?_
    simp (disch := omega) only [b_Model_isOn_26, be_73, List.getD_cons_zero, List.getD_cons_succ, List.set_cons_zero, List.set_cons_succ, List.length_cons, List.length_nil, pk_I, pk_A, pr_A, pi_I, st_s, st_n, if_true, if_false, eq_self, d_if, d_ju, d_re, d_ca, cat0, cat1, cat2, cat3, fr_z, fr_s, cc_I, cc_A, cc_N, z1_0, z1_1, Bool.and_self, Bool.true_and, Bool.and_true, nI_add, nI_clamp, decide_true]
    exact hq0 (Or.inl hc)
  · rename_i hc
    refine go_at (blk := b_Model_isOn_13) rfl ?_
    simp (disch := omega) only [b_Model_isOn_13, be_4, be_6, be_33, be_49_0, kc_388, List.getD_cons_zero, List.getD_cons_succ, List.set_cons_zero, List.set_cons_succ, List.length_cons, List.length_nil, pk_I, pk_A, pr_A, pi_I, st_s, st_n, if_true, if_false, eq_self, d_if, d_ju, d_re, d_ca, cat0, cat1, cat2, cat3, fr_z, fr_s, cc_I, cc_A, cc_N, z1_0, z1_1, Bool.and_self, Bool.true_and, Bool.and_true, nI_add, nI_clamp, decide_true]
    split
    · rename_i hc2
      refine go_at (blk := b_Model_isOn_25) rfl ?_
      simp (disch := omega) only [b_Model_isOn_25, be_1, be_0, List.getD_cons_zero, List.getD_cons_succ, List.set_cons_zero, List.set_cons_succ, List.length_cons, List.length_nil, pk_I, pk_A, pr_A, pi_I, st_s, st_n, if_true, if_false, eq_self, d_if, d_ju, d_re, d_ca, cat0, cat1, cat2, cat3, fr_z, fr_s, cc_I, cc_A, cc_N, z1_0, z1_1, Bool.and_self, Bool.true_and, Bool.and_true, nI_add, nI_clamp, decide_true]
      refine go_at (blk := b_Model_isOn_26) rfl ?_
      simp (disch := omega) only [b_Model_isOn_26, be_73, List.getD_cons_zero, List.getD_cons_succ, List.set_cons_zero, List.set_cons_succ, List.length_cons, List.length_nil, pk_I, pk_A, pr_A, pi_I, st_s, st_n, if_true, if_false, eq_self, d_if, d_ju, d_re, d_ca, cat0, cat1, cat2, cat3, fr_z, fr_s, cc_I, cc_A, cc_N, z1_0, z1_1, Bool.and_self, Bool.true_and, Bool.and_true, nI_add, nI_clamp, decide_true]
      exact hq0 (Or.inr hc2)
    · rename_i hc2
      refine go_at (blk := b_Model_isOn_21) rfl ?_
      simp (disch := omega) only [b_Model_isOn_21, be_1, be_51, List.getD_cons_zero, List.getD_cons_succ, List.set_cons_zero, List.set_cons_succ, List.length_cons, List.length_nil, pk_I, pk_A, pr_A, pi_I, st_s, st_n, if_true, if_false, eq_self, d_if, d_ju, d_re, d_ca, cat0, cat1, cat2, cat3, fr_z, fr_s, cc_I, cc_A, cc_N, z1_0, z1_1, Bool.and_self, Bool.true_and, Bool.and_true, nI_add, nI_clamp, decide_true]
      refine go_at (blk := b_Model_isOn_26) rfl ?_
      simp (disch := omega) only [b_Model_isOn_26, be_73, List.getD_cons_zero, List.getD_cons_succ, List.set_cons_zero, List.set_cons_succ, List.length_cons, List.length_nil, pk_I, pk_A, pr_A, pi_I, st_s, st_n, if_true, if_false, eq_self, d_if, d_ju, d_re, d_ca, cat0, cat1, cat2, cat3, fr_z, fr_s, cc_I, cc_A, cc_N, z1_0, z1_1, Bool.and_self, Bool.true_and, Bool.and_true, nI_add, nI_clamp, decide_true]
      exact hq1 hc hc2
