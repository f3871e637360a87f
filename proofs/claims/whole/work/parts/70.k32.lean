/-! laid by wip/whole/k32.py: the class: feed -/
/-- a tape with five words written behind t -/
def fdS (t : Nat) (a b c d e : Int32) (P : Nat → Int32) : Nat → Int32 := ptS (t + 4 + 4 + 4 + 4) e (ptS (t + 4 + 4 + 4) d (ptS (t + 4 + 4) c (ptS (t + 4) b (ptS t a P 4) 4) 4) 4) 4
theorem p_feed {d : Nat} {v : Nat → Nat → Int32} {w : Nat → Nat → Int64} {Q : Option Value → am_H → Prop} {P : Nat → Int32} {t : Nat} {a b c e g : Int32} (ht : t ≤ 2000) (q0 : 2000 < t + 20 → Q (some (.int (-1))) (428, 26053, KD, RF, twS v P (nI t), w)) (q1 : t + 20 ≤ 2000 → Q (some (.int (nI (t + 4 + 4 + 4 + 4 + 4)))) (428, 26053, KD, RF, twS v (fdS t a b c e g P) (nI (t + 4 + 4 + 4 + 4 + 4)), w)) : am_Ca (d + 2) M_KneeStair_feed [.ref 0, .int a, .int b, .int c, .int e, .int g] (428, 26053, KD, RF, twS v P (nI t), w) Q := by
  refine ca_in (k := k_KneeStair_feed) (nL := 6) rfl (Nat.le_of_ble_eq_true rfl) ?_
  show am_Go am_X0 _ k_KneeStair_feed 0 ([.ref 0, .int a, .int b, .int c, .int e, .int g], [], _) _
  refine go_at (blk := b_KneeStair_feed_0) rfl ?_
  simp (disch := omega) only [b_KneeStair_feed_0, be_6, be_33, be_1, be_12, be_49_5, kc_0, List.getD_cons_zero, List.getD_cons_succ, List.set_cons_zero, List.set_cons_succ, List.length_cons, List.length_nil, pk_I, pk_A, pr_A, pi_I, st_s, st_n, if_true, if_false, eq_self, d_if, d_ju, d_re, d_ca, cat0, cat1, cat2, cat3, fr_z, fr_s, cc_I, cc_A, cc_N, Nat.reduceAdd, Nat.reduceLT, Nat.reduceLeDiff, Nat.reduceEqDiff, not_true, not_false_iff, z1_0, z1_1, Bool.and_self, Bool.true_and, Bool.and_true, nI_add, pk_mul, nI_clamp, decide_true, Nat.le_refl, bI_eq, bI_z1, nI_ltI, nI_leI, tw_01]
  split
  · rename_i h0
    refine go_at (blk := b_KneeStair_feed_15) rfl ?_
    simp (disch := omega) only [b_KneeStair_feed_15, be_6, be_4, be_57_1, kc_0, List.getD_cons_zero, List.getD_cons_succ, List.set_cons_zero, List.set_cons_succ, List.length_cons, List.length_nil, pk_I, pk_A, pr_A, pi_I, st_s, st_n, if_true, if_false, eq_self, d_if, d_ju, d_re, d_ca, cat0, cat1, cat2, cat3, fr_z, fr_s, cc_I, cc_A, cc_N, Nat.reduceAdd, Nat.reduceLT, Nat.reduceLeDiff, Nat.reduceEqDiff, not_true, not_false_iff, z1_0, z1_1, Bool.and_self, Bool.true_and, Bool.and_true, nI_add, pk_mul, nI_clamp, decide_true, Nat.le_refl, bI_eq, bI_z1, nI_ltI, nI_leI, tw_01]
    refine k_putWord (by omega) ?_
    refine go_at (blk := b_KneeStair_feed_20) rfl ?_
    simp (disch := omega) only [b_KneeStair_feed_20, be_6, be_4, be_57_1, kc_0, List.getD_cons_zero, List.getD_cons_succ, List.set_cons_zero, List.set_cons_succ, List.length_cons, List.length_nil, pk_I, pk_A, pr_A, pi_I, st_s, st_n, if_true, if_false, eq_self, d_if, d_ju, d_re, d_ca, cat0, cat1, cat2, cat3, fr_z, fr_s, cc_I, cc_A, cc_N, Nat.reduceAdd, Nat.reduceLT, Nat.reduceLeDiff, Nat.reduceEqDiff, not_true, not_false_iff, z1_0, z1_1, Bool.and_self, Bool.true_and, Bool.and_true, nI_add, pk_mul, nI_clamp, decide_true, Nat.le_refl, bI_eq, bI_z1, nI_ltI, nI_leI, tw_01]
    refine k_putWord (by omega) ?_
    refine go_at (blk := b_KneeStair_feed_25) rfl ?_
    simp (disch := omega) only [b_KneeStair_feed_25, be_6, be_4, be_57_1, kc_0, List.getD_cons_zero, List.getD_cons_succ, List.set_cons_zero, List.set_cons_succ, List.length_cons, List.length_nil, pk_I, pk_A, pr_A, pi_I, st_s, st_n, if_true, if_false, eq_self, d_if, d_ju, d_re, d_ca, cat0, cat1, cat2, cat3, fr_z, fr_s, cc_I, cc_A, cc_N, Nat.reduceAdd, Nat.reduceLT, Nat.reduceLeDiff, Nat.reduceEqDiff, not_true, not_false_iff, z1_0, z1_1, Bool.and_self, Bool.true_and, Bool.and_true, nI_add, pk_mul, nI_clamp, decide_true, Nat.le_refl, bI_eq, bI_z1, nI_ltI, nI_leI, tw_01]
    refine k_putWord (by omega) ?_
    refine go_at (blk := b_KneeStair_feed_30) rfl ?_
    simp (disch := omega) only [b_KneeStair_feed_30, be_6, be_4, be_57_1, kc_0, List.getD_cons_zero, List.getD_cons_succ, List.set_cons_zero, List.set_cons_succ, List.length_cons, List.length_nil, pk_I, pk_A, pr_A, pi_I, st_s, st_n, if_true, if_false, eq_self, d_if, d_ju, d_re, d_ca, cat0, cat1, cat2, cat3, fr_z, fr_s, cc_I, cc_A, cc_N, Nat.reduceAdd, Nat.reduceLT, Nat.reduceLeDiff, Nat.reduceEqDiff, not_true, not_false_iff, z1_0, z1_1, Bool.and_self, Bool.true_and, Bool.and_true, nI_add, pk_mul, nI_clamp, decide_true, Nat.le_refl, bI_eq, bI_z1, nI_ltI, nI_leI, tw_01]
    refine k_putWord (by omega) ?_
    refine go_at (blk := b_KneeStair_feed_36) rfl ?_
    simp (disch := omega) only [b_KneeStair_feed_36, be_6, be_4, be_57_1, kc_0, List.getD_cons_zero, List.getD_cons_succ, List.set_cons_zero, List.set_cons_succ, List.length_cons, List.length_nil, pk_I, pk_A, pr_A, pi_I, st_s, st_n, if_true, if_false, eq_self, d_if, d_ju, d_re, d_ca, cat0, cat1, cat2, cat3, fr_z, fr_s, cc_I, cc_A, cc_N, Nat.reduceAdd, Nat.reduceLT, Nat.reduceLeDiff, Nat.reduceEqDiff, not_true, not_false_iff, z1_0, z1_1, Bool.and_self, Bool.true_and, Bool.and_true, nI_add, pk_mul, nI_clamp, decide_true, Nat.le_refl, bI_eq, bI_z1, nI_ltI, nI_leI, tw_01]
    refine k_putWord (by omega) ?_
    refine go_at (blk := b_KneeStair_feed_42) rfl ?_
    simp (disch := omega) only [b_KneeStair_feed_42, be_6, be_33, be_54, kc_0, List.getD_cons_zero, List.getD_cons_succ, List.set_cons_zero, List.set_cons_succ, List.length_cons, List.length_nil, pk_I, pk_A, pr_A, pi_I, st_s, st_n, if_true, if_false, eq_self, d_if, d_ju, d_re, d_ca, cat0, cat1, cat2, cat3, fr_z, fr_s, cc_I, cc_A, cc_N, Nat.reduceAdd, Nat.reduceLT, Nat.reduceLeDiff, Nat.reduceEqDiff, not_true, not_false_iff, z1_0, z1_1, Bool.and_self, Bool.true_and, Bool.and_true, nI_add, pk_mul, nI_clamp, decide_true, Nat.le_refl, bI_eq, bI_z1, nI_ltI, nI_leI, tw_01]
    exact q1 (by omega)
  · rename_i h0
    refine go_at (blk := b_KneeStair_feed_13) rfl ?_
    simp (disch := omega) only [b_KneeStair_feed_13, be_2, be_54, List.getD_cons_zero, List.getD_cons_succ, List.set_cons_zero, List.set_cons_succ, List.length_cons, List.length_nil, pk_I, pk_A, pr_A, pi_I, st_s, st_n, if_true, if_false, eq_self, d_if, d_ju, d_re, d_ca, cat0, cat1, cat2, cat3, fr_z, fr_s, cc_I, cc_A, cc_N, Nat.reduceAdd, Nat.reduceLT, Nat.reduceLeDiff, Nat.reduceEqDiff, not_true, not_false_iff, z1_0, z1_1, Bool.and_self, Bool.true_and, Bool.and_true, nI_add, pk_mul, nI_clamp, decide_true, Nat.le_refl, bI_eq, bI_z1, nI_ltI, nI_leI, tw_01]
    exact q0 (by omega)
