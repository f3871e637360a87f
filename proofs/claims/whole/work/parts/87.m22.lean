/-! laid by wip/whole/m22.py: the reference: feed -/
/-- the reference's tape and how much of it is written -/
def mtS (v : Nat → Nat → Int32) (P : Nat → Int32) (t : Int32) : Nat → Nat → Int32 := fun c => if c = 389 then P else if c = 388 then upd (v 388) 2 t else v c
section
variable {v : Nat → Nat → Int32} {P : Nat → Int32} {t b : Int32} {k c : Nat}
theorem mt_1 : mtS v P t 389 = P := rfl
theorem mt_2 : mtS v P t 388 2 = t := by simp [mtS, upd]
theorem mt_o (h0 : c ≠ 388) (h1 : c ≠ 389) : mtS v P t c = v c := by simp [mtS, h0, h1]
theorem mt_n (h : k ≠ 2) : mtS v P t 388 k = v 388 k := by simp [mtS, upd, h]
theorem mt_u1 : am_u (mtS v P t) 389 k b = mtS v (upd P k b) t := by
  funext d
  unfold am_u
  by_cases h : d = 389
  · subst h; simp [mtS]
  · simp [mtS, h]
theorem mt_u0 : am_u (mtS v P t) 388 2 b = mtS v P b := by
  funext d
  unfold am_u
  by_cases h : d = 388
  · subst h
    simp only [if_true]
    funext j
    by_cases hj : j = 2
    · subst hj; simp [mtS, upd]
    · simp [mtS, upd, hj]
  · simp [mtS, h]
theorem mt_self : mtS v (v 389) (v 388 2) = v := by
  funext d
  unfold mtS
  split
  · rename_i h; rw [h]
  · split
    · rename_i h
      rw [h]
      funext j
      unfold upd
      split
      · rename_i h; rw [h]
      · rfl
    · rfl
end
theorem r_put {d : Nat} {v : Nat → Nat → Int32} {w : Nat → Nat → Int64} {Q : Option Value → am_H → Prop} {P : Nat → Int32} {t : Nat} {x : Int32} (ht : t + 4 ≤ 2000) (hQ : Q none (428, 26053, KD, RF, mtS v (ptS t x P 4) (nI (t + 4)), w)) : am_Ca (d + 1) M_Model_put [.ref 388, .int x] (428, 26053, KD, RF, mtS v P (nI t), w) Q := by
  refine ca_in (k := k_Model_put) (nL := 3) rfl (Nat.le_of_ble_eq_true rfl) ?_
  show am_Go am_X0 _ k_Model_put 0 ([.ref 388, .int x, .null], [], _) _
  refine go_at (blk := b_Model_put_0) rfl ?_
  simp (disch := omega) only [b_Model_put_0, be_1, be_7, be_0, List.getD_cons_zero, List.getD_cons_succ, List.set_cons_zero, List.set_cons_succ, List.length_cons, List.length_nil, pk_I, pk_A, pr_A, pi_I, st_s, st_n, if_true, if_false, eq_self, d_if, d_ju, d_re, d_ca, cat0, cat1, cat2, cat3, fr_z, fr_s, cc_I, cc_A, cc_N, Nat.reduceAdd, Nat.reduceLT, Nat.reduceLeDiff, Nat.reduceEqDiff, not_true, not_false_iff, z1_0, z1_1, Bool.and_self, Bool.true_and, Bool.and_true, nI_add, pk_mul, nI_clamp, decide_true, Nat.le_refl, bI_eq, bI_z1]
  refine go_loop (fun i => ([.ref 388, .int x, .int (nI (32 - 8 * i) + (-8))], [], (428, 26053, KD, RF, mtS v (ptS t x P i) (nI (t + i)), w))) 4 ?_ ?_
  · intro i hi ih
    have e1 := sh_n i hi
    have e2 := sh_g i hi
    try dsimp only at ih ⊢
    refine go_at (blk := b_Model_put_3) rfl ?_
    simp (disch := omega) only [b_Model_put_3, be_4, be_50_2, List.getD_cons_zero, List.getD_cons_succ, List.set_cons_zero, List.set_cons_succ, List.length_cons, List.length_nil, pk_I, pk_A, pr_A, pi_I, st_s, st_n, if_true, if_false, eq_self, d_if, d_ju, d_re, d_ca, cat0, cat1, cat2, cat3, fr_z, fr_s, cc_I, cc_A, cc_N, Nat.reduceAdd, Nat.reduceLT, Nat.reduceLeDiff, Nat.reduceEqDiff, not_true, not_false_iff, z1_0, z1_1, Bool.and_self, Bool.true_and, Bool.and_true, nI_add, pk_mul, nI_clamp, decide_true, Nat.le_refl, bI_eq, bI_z1, nI_ltI, nI_leI, e1, e2, mt_1, mt_2, mt_u1, mt_u0]
    refine go_at (blk := b_Model_put_7) rfl ?_
    simp (disch := omega) only [b_Model_put_7, be_6, be_34, be_33, be_4, be_22, be_28, be_44, be_30I, be_30A, be_1, be_12, be_35, be_11, be_51, kc_388, rf_388_1, ka_389, List.getD_cons_zero, List.getD_cons_succ, List.set_cons_zero, List.set_cons_succ, List.length_cons, List.length_nil, pk_I, pk_A, pr_A, pi_I, st_s, st_n, if_true, if_false, eq_self, d_if, d_ju, d_re, d_ca, cat0, cat1, cat2, cat3, fr_z, fr_s, cc_I, cc_A, cc_N, Nat.reduceAdd, Nat.reduceLT, Nat.reduceLeDiff, Nat.reduceEqDiff, not_true, not_false_iff, z1_0, z1_1, Bool.and_self, Bool.true_and, Bool.and_true, nI_add, pk_mul, nI_clamp, decide_true, Nat.le_refl, bI_eq, bI_z1, nI_ltI, nI_leI, e1, e2, mt_1, mt_2, mt_u1, mt_u0]
    rw [← sh_d i hi] at ih
    exact ih
  · try dsimp only
    refine go_at (blk := b_Model_put_3) rfl ?_
    simp (disch := omega) only [b_Model_put_3, be_4, be_50_2, List.getD_cons_zero, List.getD_cons_succ, List.set_cons_zero, List.set_cons_succ, List.length_cons, List.length_nil, pk_I, pk_A, pr_A, pi_I, st_s, st_n, if_true, if_false, eq_self, d_if, d_ju, d_re, d_ca, cat0, cat1, cat2, cat3, fr_z, fr_s, cc_I, cc_A, cc_N, Nat.reduceAdd, Nat.reduceLT, Nat.reduceLeDiff, Nat.reduceEqDiff, not_true, not_false_iff, z1_0, z1_1, Bool.and_self, Bool.true_and, Bool.and_true, nI_add, pk_mul, nI_clamp, decide_true, Nat.le_refl, bI_eq, bI_z1, sh_e]
    refine go_at (blk := b_Model_put_36) rfl ?_
    simp (disch := omega) only [b_Model_put_36, be_56, List.getD_cons_zero, List.getD_cons_succ, List.set_cons_zero, List.set_cons_succ, List.length_cons, List.length_nil, pk_I, pk_A, pr_A, pi_I, st_s, st_n, if_true, if_false, eq_self, d_if, d_ju, d_re, d_ca, cat0, cat1, cat2, cat3, fr_z, fr_s, cc_I, cc_A, cc_N, Nat.reduceAdd, Nat.reduceLT, Nat.reduceLeDiff, Nat.reduceEqDiff, not_true, not_false_iff, z1_0, z1_1, Bool.and_self, Bool.true_and, Bool.and_true, nI_add, pk_mul, nI_clamp, decide_true, Nat.le_refl, bI_eq, bI_z1, sh_e]
    exact hQ
theorem r_feed {d : Nat} {v : Nat → Nat → Int32} {w : Nat → Nat → Int64} {Q : Option Value → am_H → Prop} {P : Nat → Int32} {t : Nat} {a b c e g : Int32} (ht : t ≤ 2000) (q0 : 2000 < t + 20 → Q (some (.int (-1))) (428, 26053, KD, RF, mtS v P (nI t), w)) (q1 : t + 20 ≤ 2000 → Q (some (.int (nI (t + 4 + 4 + 4 + 4 + 4)))) (428, 26053, KD, RF, mtS v (fdS t a b c e g P) (nI (t + 4 + 4 + 4 + 4 + 4)), w)) : am_Ca (d + 2) M_Model_feed [.ref 388, .int a, .int b, .int c, .int e, .int g] (428, 26053, KD, RF, mtS v P (nI t), w) Q := by
  refine ca_in (k := k_Model_feed) (nL := 6) rfl (Nat.le_of_ble_eq_true rfl) ?_
  show am_Go am_X0 _ k_Model_feed 0 ([.ref 388, .int a, .int b, .int c, .int e, .int g], [], _) _
  refine go_at (blk := b_Model_feed_0) rfl ?_
  simp (disch := omega) only [b_Model_feed_0, be_6, be_33, be_1, be_12, be_49_5, kc_388, List.getD_cons_zero, List.getD_cons_succ, List.set_cons_zero, List.set_cons_succ, List.length_cons, List.length_nil, pk_I, pk_A, pr_A, pi_I, st_s, st_n, if_true, if_false, eq_self, d_if, d_ju, d_re, d_ca, cat0, cat1, cat2, cat3, fr_z, fr_s, cc_I, cc_A, cc_N, Nat.reduceAdd, Nat.reduceLT, Nat.reduceLeDiff, Nat.reduceEqDiff, not_true, not_false_iff, z1_0, z1_1, Bool.and_self, Bool.true_and, Bool.and_true, nI_add, pk_mul, nI_clamp, decide_true, Nat.le_refl, bI_eq, bI_z1, nI_ltI, nI_leI, mt_2]
  split
  · rename_i h0
    refine go_at (blk := b_Model_feed_15) rfl ?_
    simp (disch := omega) only [b_Model_feed_15, be_6, be_4, be_57_1, kc_388, List.getD_cons_zero, List.getD_cons_succ, List.set_cons_zero, List.set_cons_succ, List.length_cons, List.length_nil, pk_I, pk_A, pr_A, pi_I, st_s, st_n, if_true, if_false, eq_self, d_if, d_ju, d_re, d_ca, cat0, cat1, cat2, cat3, fr_z, fr_s, cc_I, cc_A, cc_N, Nat.reduceAdd, Nat.reduceLT, Nat.reduceLeDiff, Nat.reduceEqDiff, not_true, not_false_iff, z1_0, z1_1, Bool.and_self, Bool.true_and, Bool.and_true, nI_add, pk_mul, nI_clamp, decide_true, Nat.le_refl, bI_eq, bI_z1, nI_ltI, nI_leI, mt_2]
    refine r_put (by omega) ?_
    refine go_at (blk := b_Model_feed_20) rfl ?_
    simp (disch := omega) only [b_Model_feed_20, be_6, be_4, be_57_1, kc_388, List.getD_cons_zero, List.getD_cons_succ, List.set_cons_zero, List.set_cons_succ, List.length_cons, List.length_nil, pk_I, pk_A, pr_A, pi_I, st_s, st_n, if_true, if_false, eq_self, d_if, d_ju, d_re, d_ca, cat0, cat1, cat2, cat3, fr_z, fr_s, cc_I, cc_A, cc_N, Nat.reduceAdd, Nat.reduceLT, Nat.reduceLeDiff, Nat.reduceEqDiff, not_true, not_false_iff, z1_0, z1_1, Bool.and_self, Bool.true_and, Bool.and_true, nI_add, pk_mul, nI_clamp, decide_true, Nat.le_refl, bI_eq, bI_z1, nI_ltI, nI_leI, mt_2]
    refine r_put (by omega) ?_
    refine go_at (blk := b_Model_feed_25) rfl ?_
    simp (disch := omega) only [b_Model_feed_25, be_6, be_4, be_57_1, kc_388, List.getD_cons_zero, List.getD_cons_succ, List.set_cons_zero, List.set_cons_succ, List.length_cons, List.length_nil, pk_I, pk_A, pr_A, pi_I, st_s, st_n, if_true, if_false, eq_self, d_if, d_ju, d_re, d_ca, cat0, cat1, cat2, cat3, fr_z, fr_s, cc_I, cc_A, cc_N, Nat.reduceAdd, Nat.reduceLT, Nat.reduceLeDiff, Nat.reduceEqDiff, not_true, not_false_iff, z1_0, z1_1, Bool.and_self, Bool.true_and, Bool.and_true, nI_add, pk_mul, nI_clamp, decide_true, Nat.le_refl, bI_eq, bI_z1, nI_ltI, nI_leI, mt_2]
    refine r_put (by omega) ?_
    refine go_at (blk := b_Model_feed_30) rfl ?_
    simp (disch := omega) only [b_Model_feed_30, be_6, be_4, be_57_1, kc_388, List.getD_cons_zero, List.getD_cons_succ, List.set_cons_zero, List.set_cons_succ, List.length_cons, List.length_nil, pk_I, pk_A, pr_A, pi_I, st_s, st_n, if_true, if_false, eq_self, d_if, d_ju, d_re, d_ca, cat0, cat1, cat2, cat3, fr_z, fr_s, cc_I, cc_A, cc_N, Nat.reduceAdd, Nat.reduceLT, Nat.reduceLeDiff, Nat.reduceEqDiff, not_true, not_false_iff, z1_0, z1_1, Bool.and_self, Bool.true_and, Bool.and_true, nI_add, pk_mul, nI_clamp, decide_true, Nat.le_refl, bI_eq, bI_z1, nI_ltI, nI_leI, mt_2]
    refine r_put (by omega) ?_
    refine go_at (blk := b_Model_feed_36) rfl ?_
    simp (disch := omega) only [b_Model_feed_36, be_6, be_4, be_57_1, kc_388, List.getD_cons_zero, List.getD_cons_succ, List.set_cons_zero, List.set_cons_succ, List.length_cons, List.length_nil, pk_I, pk_A, pr_A, pi_I, st_s, st_n, if_true, if_false, eq_self, d_if, d_ju, d_re, d_ca, cat0, cat1, cat2, cat3, fr_z, fr_s, cc_I, cc_A, cc_N, Nat.reduceAdd, Nat.reduceLT, Nat.reduceLeDiff, Nat.reduceEqDiff, not_true, not_false_iff, z1_0, z1_1, Bool.and_self, Bool.true_and, Bool.and_true, nI_add, pk_mul, nI_clamp, decide_true, Nat.le_refl, bI_eq, bI_z1, nI_ltI, nI_leI, mt_2]
    refine r_put (by omega) ?_
    refine go_at (blk := b_Model_feed_42) rfl ?_
    simp (disch := omega) only [b_Model_feed_42, be_6, be_33, be_54, kc_388, List.getD_cons_zero, List.getD_cons_succ, List.set_cons_zero, List.set_cons_succ, List.length_cons, List.length_nil, pk_I, pk_A, pr_A, pi_I, st_s, st_n, if_true, if_false, eq_self, d_if, d_ju, d_re, d_ca, cat0, cat1, cat2, cat3, fr_z, fr_s, cc_I, cc_A, cc_N, Nat.reduceAdd, Nat.reduceLT, Nat.reduceLeDiff, Nat.reduceEqDiff, not_true, not_false_iff, z1_0, z1_1, Bool.and_self, Bool.true_and, Bool.and_true, nI_add, pk_mul, nI_clamp, decide_true, Nat.le_refl, bI_eq, bI_z1, nI_ltI, nI_leI, mt_2]
    exact q1 (by omega)
  · rename_i h0
    refine go_at (blk := b_Model_feed_13) rfl ?_
    simp (disch := omega) only [b_Model_feed_13, be_2, be_54, List.getD_cons_zero, List.getD_cons_succ, List.set_cons_zero, List.set_cons_succ, List.length_cons, List.length_nil, pk_I, pk_A, pr_A, pi_I, st_s, st_n, if_true, if_false, eq_self, d_if, d_ju, d_re, d_ca, cat0, cat1, cat2, cat3, fr_z, fr_s, cc_I, cc_A, cc_N, Nat.reduceAdd, Nat.reduceLT, Nat.reduceLeDiff, Nat.reduceEqDiff, not_true, not_false_iff, z1_0, z1_1, Bool.and_self, Bool.true_and, Bool.and_true, nI_add, pk_mul, nI_clamp, decide_true, Nat.le_refl, bI_eq, bI_z1, nI_ltI, nI_leI, mt_2]
    exact q0 (by omega)
