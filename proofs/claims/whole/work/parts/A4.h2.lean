/-! laid by wip/whole/h2.py: the law: calls that ask -/
set_option maxHeartbeats 2000000 in
theorem s_arrives {d i : Nat} {X : am_X} {u : UInt32} {v : Nat → Nat → Int32} {w : Nat → Nat → Int64} {Q : Option Value → am_H → Prop} {B : Int} (hX : X.1 ≤ 3072) (hi : i + 6 ≤ X.1) (hL : LI B v w) (hB : B + 300 ≤ 200000) (hn : ∀ v' w', LI (B + 300) v' w' → am_Go X (d + 29) k_law 1233 ([.float u, .ref 0, .ref 388, .int (nI i)], [], (428, 26053, KD, RF, v', w')) Q) : am_Go X (d + 29) k_law 482 ([.float u, .ref 0, .ref 388, .int (nI i)], [], (428, 26053, KD, RF, v, w)) Q := by
  obtain ⟨T, f, sz, h, m, tp, tm, ts, hd, hs, len, P, pl, ck, cm, cp⟩ := hL
  refine go_at (blk := b_law_482) rfl ?_
  simp (disch := omega) only [b_law_482, be_6, be_4, be_1, be_12, be_71, be_57_1, kc_0, List.getD_cons_zero, List.getD_cons_succ, List.set_cons_zero, List.set_cons_succ, List.length_cons, List.length_nil, pk_I, pk_A, pr_A, pi_I, st_s, st_n, if_true, if_false, eq_self, d_if, d_ju, d_re, d_ca, cat0, cat1, cat2, cat3, fr_z, fr_s, cc_I, cc_A, cc_N, Nat.reduceAdd, Nat.reduceLT, Nat.reduceLeDiff, Nat.reduceEqDiff, not_true, not_false_iff, z1_0, z1_1, Bool.and_self, Bool.true_and, Bool.and_true, nI_add, pk_mul, nI_clamp, decide_true, Nat.le_refl, bI_eq, bI_z1, in_nI, pk_F]
  refine p_arrives ck.1 ?_
  intro v1 q1
  have ck1 := CK_w ck (QW_q q1)
  have cm1 := CM_f (w' := w) cm (QW_8 (QW_q q1)) rfl
  refine go_at (blk := b_law_491) rfl ?_
  simp (disch := omega) only [b_law_491, be_6, be_4, be_1, be_12, be_71, be_57_1, kc_388, List.getD_cons_zero, List.getD_cons_succ, List.set_cons_zero, List.set_cons_succ, List.length_cons, List.length_nil, pk_I, pk_A, pr_A, pi_I, st_s, st_n, if_true, if_false, eq_self, d_if, d_ju, d_re, d_ca, cat0, cat1, cat2, cat3, fr_z, fr_s, cc_I, cc_A, cc_N, Nat.reduceAdd, Nat.reduceLT, Nat.reduceLeDiff, Nat.reduceEqDiff, not_true, not_false_iff, z1_0, z1_1, Bool.and_self, Bool.true_and, Bool.and_true, nI_add, pk_mul, nI_clamp, decide_true, Nat.le_refl, bI_eq, bI_z1, in_nI, pk_F]
  have cm0 := cm1
  obtain ⟨lv, o0, o1, mi, hx, wm, hh, _⟩ := cm0
  refine r_arrives mi ?_
  intro v2 g2
  have ck2 := CK_f ck1 (MW_8 (MW_f g2))
  have cm2 := CM_w cm1 (MW_f g2)
  refine go_at (blk := b_law_500) rfl ?_
  simp (disch := omega) only [b_law_500, be_49_0, List.getD_cons_zero, List.getD_cons_succ, List.set_cons_zero, List.set_cons_succ, List.length_cons, List.length_nil, pk_I, pk_A, pr_A, pi_I, st_s, st_n, if_true, if_false, eq_self, d_if, d_ju, d_re, d_ca, cat0, cat1, cat2, cat3, fr_z, fr_s, cc_I, cc_A, cc_N, Nat.reduceAdd, Nat.reduceLT, Nat.reduceLeDiff, Nat.reduceEqDiff, not_true, not_false_iff, z1_0, z1_1, Bool.and_self, Bool.true_and, Bool.and_true, nI_add, pk_mul, nI_clamp, decide_true, Nat.le_refl, bI_eq, bI_z1, in_nI, pk_F]
  exact hn _ w (LI_le ⟨_, _, _, _, _, _, _, _, _, _, _, _, _, ck2, cm2, cp⟩ (by omega) hB)
set_option maxHeartbeats 2000000 in
theorem s_still {d i : Nat} {X : am_X} {u : UInt32} {v : Nat → Nat → Int32} {w : Nat → Nat → Int64} {Q : Option Value → am_H → Prop} {B : Int} (hX : X.1 ≤ 3072) (hi : i + 6 ≤ X.1) (hL : LI B v w) (hB : B + 300 ≤ 200000) (hn : ∀ v' w', LI (B + 300) v' w' → am_Go X (d + 29) k_law 1233 ([.float u, .ref 0, .ref 388, .int (nI i)], [], (428, 26053, KD, RF, v', w')) Q) : am_Go X (d + 29) k_law 505 ([.float u, .ref 0, .ref 388, .int (nI i)], [], (428, 26053, KD, RF, v, w)) Q := by
  obtain ⟨T, f, sz, h, m, tp, tm, ts, hd, hs, len, P, pl, ck, cm, cp⟩ := hL
  refine go_at (blk := b_law_505) rfl ?_
  simp (disch := omega) only [b_law_505, be_6, be_57_0, kc_0, List.getD_cons_zero, List.getD_cons_succ, List.set_cons_zero, List.set_cons_succ, List.length_cons, List.length_nil, pk_I, pk_A, pr_A, pi_I, st_s, st_n, if_true, if_false, eq_self, d_if, d_ju, d_re, d_ca, cat0, cat1, cat2, cat3, fr_z, fr_s, cc_I, cc_A, cc_N, Nat.reduceAdd, Nat.reduceLT, Nat.reduceLeDiff, Nat.reduceEqDiff, not_true, not_false_iff, z1_0, z1_1, Bool.and_self, Bool.true_and, Bool.and_true, nI_add, pk_mul, nI_clamp, decide_true, Nat.le_refl, bI_eq, bI_z1, in_nI, pk_F]
  refine p_still ck.1 ?_
  intro v1 q1
  have ck1 := CK_w ck (QW_q q1)
  have cm1 := CM_f (w' := w) cm (QW_8 (QW_q q1)) rfl
  refine go_at (blk := b_law_509) rfl ?_
  simp (disch := omega) only [b_law_509, be_6, be_57_0, kc_388, List.getD_cons_zero, List.getD_cons_succ, List.set_cons_zero, List.set_cons_succ, List.length_cons, List.length_nil, pk_I, pk_A, pr_A, pi_I, st_s, st_n, if_true, if_false, eq_self, d_if, d_ju, d_re, d_ca, cat0, cat1, cat2, cat3, fr_z, fr_s, cc_I, cc_A, cc_N, Nat.reduceAdd, Nat.reduceLT, Nat.reduceLeDiff, Nat.reduceEqDiff, not_true, not_false_iff, z1_0, z1_1, Bool.and_self, Bool.true_and, Bool.and_true, nI_add, pk_mul, nI_clamp, decide_true, Nat.le_refl, bI_eq, bI_z1, in_nI, pk_F]
  have cm0 := cm1
  obtain ⟨lv, o0, o1, mi, hx, wm, hh, _⟩ := cm0
  refine r_still mi ?_
  intro v2 g2
  have ck2 := CK_f ck1 (MW_8 (MW_f g2))
  have cm2 := CM_w cm1 (MW_f g2)
  refine go_at (blk := b_law_513) rfl ?_
  simp (disch := omega) only [b_law_513, be_49_0, List.getD_cons_zero, List.getD_cons_succ, List.set_cons_zero, List.set_cons_succ, List.length_cons, List.length_nil, pk_I, pk_A, pr_A, pi_I, st_s, st_n, if_true, if_false, eq_self, d_if, d_ju, d_re, d_ca, cat0, cat1, cat2, cat3, fr_z, fr_s, cc_I, cc_A, cc_N, Nat.reduceAdd, Nat.reduceLT, Nat.reduceLeDiff, Nat.reduceEqDiff, not_true, not_false_iff, z1_0, z1_1, Bool.and_self, Bool.true_and, Bool.and_true, nI_add, pk_mul, nI_clamp, decide_true, Nat.le_refl, bI_eq, bI_z1, in_nI, pk_F]
  exact hn _ w (LI_le ⟨_, _, _, _, _, _, _, _, _, _, _, _, _, ck2, cm2, cp⟩ (by omega) hB)
set_option maxHeartbeats 2000000 in
theorem s_highest {d i : Nat} {X : am_X} {u : UInt32} {v : Nat → Nat → Int32} {w : Nat → Nat → Int64} {Q : Option Value → am_H → Prop} {B : Int} (hX : X.1 ≤ 3072) (hi : i + 6 ≤ X.1) (hL : LI B v w) (hB : B + 300 ≤ 200000) (hn : ∀ v' w', LI (B + 300) v' w' → am_Go X (d + 29) k_law 1233 ([.float u, .ref 0, .ref 388, .int (nI i)], [], (428, 26053, KD, RF, v', w')) Q) : am_Go X (d + 29) k_law 518 ([.float u, .ref 0, .ref 388, .int (nI i)], [], (428, 26053, KD, RF, v, w)) Q := by
  obtain ⟨T, f, sz, h, m, tp, tm, ts, hd, hs, len, P, pl, ck, cm, cp⟩ := hL
  refine go_at (blk := b_law_518) rfl ?_
  simp (disch := omega) only [b_law_518, be_6, be_4, be_1, be_12, be_71, be_57_2, kc_0, List.getD_cons_zero, List.getD_cons_succ, List.set_cons_zero, List.set_cons_succ, List.length_cons, List.length_nil, pk_I, pk_A, pr_A, pi_I, st_s, st_n, if_true, if_false, eq_self, d_if, d_ju, d_re, d_ca, cat0, cat1, cat2, cat3, fr_z, fr_s, cc_I, cc_A, cc_N, Nat.reduceAdd, Nat.reduceLT, Nat.reduceLeDiff, Nat.reduceEqDiff, not_true, not_false_iff, z1_0, z1_1, Bool.and_self, Bool.true_and, Bool.and_true, nI_add, pk_mul, nI_clamp, decide_true, Nat.le_refl, bI_eq, bI_z1, in_nI, pk_F]
  refine p_highest ck.1 ?_
  intro v1 q1
  have ck1 := CK_w ck (QW_q q1)
  have cm1 := CM_f (w' := w) cm (QW_8 (QW_q q1)) rfl
  refine go_at (blk := b_law_532) rfl ?_
  simp (disch := omega) only [b_law_532, be_6, be_4, be_1, be_12, be_71, be_57_2, kc_388, List.getD_cons_zero, List.getD_cons_succ, List.set_cons_zero, List.set_cons_succ, List.length_cons, List.length_nil, pk_I, pk_A, pr_A, pi_I, st_s, st_n, if_true, if_false, eq_self, d_if, d_ju, d_re, d_ca, cat0, cat1, cat2, cat3, fr_z, fr_s, cc_I, cc_A, cc_N, Nat.reduceAdd, Nat.reduceLT, Nat.reduceLeDiff, Nat.reduceEqDiff, not_true, not_false_iff, z1_0, z1_1, Bool.and_self, Bool.true_and, Bool.and_true, nI_add, pk_mul, nI_clamp, decide_true, Nat.le_refl, bI_eq, bI_z1, in_nI, pk_F]
  have cm0 := cm1
  obtain ⟨lv, o0, o1, mi, hx, wm, hh, _⟩ := cm0
  refine r_highest mi ?_
  intro v2 g2
  have ck2 := CK_f ck1 (MW_8 (MW_f g2))
  have cm2 := CM_w cm1 (MW_f g2)
  refine go_at (blk := b_law_546) rfl ?_
  simp (disch := omega) only [b_law_546, be_49_0, List.getD_cons_zero, List.getD_cons_succ, List.set_cons_zero, List.set_cons_succ, List.length_cons, List.length_nil, pk_I, pk_A, pr_A, pi_I, st_s, st_n, if_true, if_false, eq_self, d_if, d_ju, d_re, d_ca, cat0, cat1, cat2, cat3, fr_z, fr_s, cc_I, cc_A, cc_N, Nat.reduceAdd, Nat.reduceLT, Nat.reduceLeDiff, Nat.reduceEqDiff, not_true, not_false_iff, z1_0, z1_1, Bool.and_self, Bool.true_and, Bool.and_true, nI_add, pk_mul, nI_clamp, decide_true, Nat.le_refl, bI_eq, bI_z1, in_nI, pk_F]
  exact hn _ w (LI_le ⟨_, _, _, _, _, _, _, _, _, _, _, _, _, ck2, cm2, cp⟩ (by omega) hB)
set_option maxHeartbeats 2000000 in
theorem s_first {d i : Nat} {X : am_X} {u : UInt32} {v : Nat → Nat → Int32} {w : Nat → Nat → Int64} {Q : Option Value → am_H → Prop} {B : Int} (hX : X.1 ≤ 3072) (hi : i + 6 ≤ X.1) (hL : LI B v w) (hB : B + 300 ≤ 200000) (hn : ∀ v' w', LI (B + 300) v' w' → am_Go X (d + 29) k_law 1233 ([.float u, .ref 0, .ref 388, .int (nI i)], [], (428, 26053, KD, RF, v', w')) Q) : am_Go X (d + 29) k_law 551 ([.float u, .ref 0, .ref 388, .int (nI i)], [], (428, 26053, KD, RF, v, w)) Q := by
  obtain ⟨T, f, sz, h, m, tp, tm, ts, hd, hs, len, P, pl, ck, cm, cp⟩ := hL
  refine go_at (blk := b_law_551) rfl ?_
  simp (disch := omega) only [b_law_551, be_6, be_4, be_1, be_12, be_71, be_57_1, kc_0, List.getD_cons_zero, List.getD_cons_succ, List.set_cons_zero, List.set_cons_succ, List.length_cons, List.length_nil, pk_I, pk_A, pr_A, pi_I, st_s, st_n, if_true, if_false, eq_self, d_if, d_ju, d_re, d_ca, cat0, cat1, cat2, cat3, fr_z, fr_s, cc_I, cc_A, cc_N, Nat.reduceAdd, Nat.reduceLT, Nat.reduceLeDiff, Nat.reduceEqDiff, not_true, not_false_iff, z1_0, z1_1, Bool.and_self, Bool.true_and, Bool.and_true, nI_add, pk_mul, nI_clamp, decide_true, Nat.le_refl, bI_eq, bI_z1, in_nI, pk_F]
  refine p_first ck.1 ?_
  intro v1 q1
  have ck1 := CK_w ck (QW_q q1)
  have cm1 := CM_f (w' := w) cm (QW_8 (QW_q q1)) rfl
  refine go_at (blk := b_law_560) rfl ?_
  simp (disch := omega) only [b_law_560, be_6, be_4, be_1, be_12, be_71, be_57_1, kc_388, List.getD_cons_zero, List.getD_cons_succ, List.set_cons_zero, List.set_cons_succ, List.length_cons, List.length_nil, pk_I, pk_A, pr_A, pi_I, st_s, st_n, if_true, if_false, eq_self, d_if, d_ju, d_re, d_ca, cat0, cat1, cat2, cat3, fr_z, fr_s, cc_I, cc_A, cc_N, Nat.reduceAdd, Nat.reduceLT, Nat.reduceLeDiff, Nat.reduceEqDiff, not_true, not_false_iff, z1_0, z1_1, Bool.and_self, Bool.true_and, Bool.and_true, nI_add, pk_mul, nI_clamp, decide_true, Nat.le_refl, bI_eq, bI_z1, in_nI, pk_F]
  have cm0 := cm1
  obtain ⟨lv, o0, o1, mi, hx, wm, hh, _⟩ := cm0
  refine r_first mi ?_
  intro v2 g2
  have ck2 := CK_f ck1 (MW_8 (MW_f g2))
  have cm2 := CM_w cm1 (MW_f g2)
  refine go_at (blk := b_law_569) rfl ?_
  simp (disch := omega) only [b_law_569, be_49_0, List.getD_cons_zero, List.getD_cons_succ, List.set_cons_zero, List.set_cons_succ, List.length_cons, List.length_nil, pk_I, pk_A, pr_A, pi_I, st_s, st_n, if_true, if_false, eq_self, d_if, d_ju, d_re, d_ca, cat0, cat1, cat2, cat3, fr_z, fr_s, cc_I, cc_A, cc_N, Nat.reduceAdd, Nat.reduceLT, Nat.reduceLeDiff, Nat.reduceEqDiff, not_true, not_false_iff, z1_0, z1_1, Bool.and_self, Bool.true_and, Bool.and_true, nI_add, pk_mul, nI_clamp, decide_true, Nat.le_refl, bI_eq, bI_z1, in_nI, pk_F]
  exact hn _ w (LI_le ⟨_, _, _, _, _, _, _, _, _, _, _, _, _, ck2, cm2, cp⟩ (by omega) hB)
set_option maxHeartbeats 2000000 in
theorem s_means {d i : Nat} {X : am_X} {u : UInt32} {v : Nat → Nat → Int32} {w : Nat → Nat → Int64} {Q : Option Value → am_H → Prop} {B : Int} (hX : X.1 ≤ 3072) (hi : i + 6 ≤ X.1) (hL : LI B v w) (hB : B + 300 ≤ 200000) (hn : ∀ v' w', LI (B + 300) v' w' → am_Go X (d + 29) k_law 1233 ([.float u, .ref 0, .ref 388, .int (nI i)], [], (428, 26053, KD, RF, v', w')) Q) : am_Go X (d + 29) k_law 574 ([.float u, .ref 0, .ref 388, .int (nI i)], [], (428, 26053, KD, RF, v, w)) Q := by
  obtain ⟨T, f, sz, h, m, tp, tm, ts, hd, hs, len, P, pl, ck, cm, cp⟩ := hL
  refine go_at (blk := b_law_574) rfl ?_
  simp (disch := omega) only [b_law_574, be_6, be_4, be_1, be_12, be_71, be_57_3, kc_0, List.getD_cons_zero, List.getD_cons_succ, List.set_cons_zero, List.set_cons_succ, List.length_cons, List.length_nil, pk_I, pk_A, pr_A, pi_I, st_s, st_n, if_true, if_false, eq_self, d_if, d_ju, d_re, d_ca, cat0, cat1, cat2, cat3, fr_z, fr_s, cc_I, cc_A, cc_N, Nat.reduceAdd, Nat.reduceLT, Nat.reduceLeDiff, Nat.reduceEqDiff, not_true, not_false_iff, z1_0, z1_1, Bool.and_self, Bool.true_and, Bool.and_true, nI_add, pk_mul, nI_clamp, decide_true, Nat.le_refl, bI_eq, bI_z1, in_nI, pk_F]
  refine p_means ck.1 ?_
  intro v1 q1
  have ck1 := CK_w ck (QW_q q1)
  have cm1 := CM_f (w' := w) cm (QW_8 (QW_q q1)) rfl
  refine go_at (blk := b_law_593) rfl ?_
  simp (disch := omega) only [b_law_593, be_6, be_4, be_1, be_12, be_71, be_57_3, kc_388, List.getD_cons_zero, List.getD_cons_succ, List.set_cons_zero, List.set_cons_succ, List.length_cons, List.length_nil, pk_I, pk_A, pr_A, pi_I, st_s, st_n, if_true, if_false, eq_self, d_if, d_ju, d_re, d_ca, cat0, cat1, cat2, cat3, fr_z, fr_s, cc_I, cc_A, cc_N, Nat.reduceAdd, Nat.reduceLT, Nat.reduceLeDiff, Nat.reduceEqDiff, not_true, not_false_iff, z1_0, z1_1, Bool.and_self, Bool.true_and, Bool.and_true, nI_add, pk_mul, nI_clamp, decide_true, Nat.le_refl, bI_eq, bI_z1, in_nI, pk_F]
  have cm0 := cm1
  obtain ⟨lv, o0, o1, mi, hx, wm, hh, _⟩ := cm0
  refine r_means mi ?_
  intro v2 g2
  have ck2 := CK_f ck1 (MW_8 (MW_f g2))
  have cm2 := CM_w cm1 (MW_f g2)
  refine go_at (blk := b_law_612) rfl ?_
  simp (disch := omega) only [b_law_612, be_49_0, List.getD_cons_zero, List.getD_cons_succ, List.set_cons_zero, List.set_cons_succ, List.length_cons, List.length_nil, pk_I, pk_A, pr_A, pi_I, st_s, st_n, if_true, if_false, eq_self, d_if, d_ju, d_re, d_ca, cat0, cat1, cat2, cat3, fr_z, fr_s, cc_I, cc_A, cc_N, Nat.reduceAdd, Nat.reduceLT, Nat.reduceLeDiff, Nat.reduceEqDiff, not_true, not_false_iff, z1_0, z1_1, Bool.and_self, Bool.true_and, Bool.and_true, nI_add, pk_mul, nI_clamp, decide_true, Nat.le_refl, bI_eq, bI_z1, in_nI, pk_F]
  exact hn _ w (LI_le ⟨_, _, _, _, _, _, _, _, _, _, _, _, _, ck2, cm2, cp⟩ (by omega) hB)
set_option maxHeartbeats 2000000 in
theorem s_oiled {d i : Nat} {X : am_X} {u : UInt32} {v : Nat → Nat → Int32} {w : Nat → Nat → Int64} {Q : Option Value → am_H → Prop} {B : Int} (hX : X.1 ≤ 3072) (hi : i + 6 ≤ X.1) (hL : LI B v w) (hB : B + 300 ≤ 200000) (hn : ∀ v' w', LI (B + 300) v' w' → am_Go X (d + 29) k_law 1233 ([.float u, .ref 0, .ref 388, .int (nI i)], [], (428, 26053, KD, RF, v', w')) Q) : am_Go X (d + 29) k_law 617 ([.float u, .ref 0, .ref 388, .int (nI i)], [], (428, 26053, KD, RF, v, w)) Q := by
  obtain ⟨T, f, sz, h, m, tp, tm, ts, hd, hs, len, P, pl, ck, cm, cp⟩ := hL
  refine go_at (blk := b_law_617) rfl ?_
  simp (disch := omega) only [b_law_617, be_6, be_4, be_1, be_12, be_71, be_57_2, kc_0, List.getD_cons_zero, List.getD_cons_succ, List.set_cons_zero, List.set_cons_succ, List.length_cons, List.length_nil, pk_I, pk_A, pr_A, pi_I, st_s, st_n, if_true, if_false, eq_self, d_if, d_ju, d_re, d_ca, cat0, cat1, cat2, cat3, fr_z, fr_s, cc_I, cc_A, cc_N, Nat.reduceAdd, Nat.reduceLT, Nat.reduceLeDiff, Nat.reduceEqDiff, not_true, not_false_iff, z1_0, z1_1, Bool.and_self, Bool.true_and, Bool.and_true, nI_add, pk_mul, nI_clamp, decide_true, Nat.le_refl, bI_eq, bI_z1, in_nI, pk_F]
  refine p_oiled ck.1 ?_
  intro v1 q1
  have ck1 := CK_w ck (QW_q q1)
  have cm1 := CM_f (w' := w) cm (QW_8 (QW_q q1)) rfl
  refine go_at (blk := b_law_631) rfl ?_
  simp (disch := omega) only [b_law_631, be_6, be_4, be_1, be_12, be_71, be_57_2, kc_388, List.getD_cons_zero, List.getD_cons_succ, List.set_cons_zero, List.set_cons_succ, List.length_cons, List.length_nil, pk_I, pk_A, pr_A, pi_I, st_s, st_n, if_true, if_false, eq_self, d_if, d_ju, d_re, d_ca, cat0, cat1, cat2, cat3, fr_z, fr_s, cc_I, cc_A, cc_N, Nat.reduceAdd, Nat.reduceLT, Nat.reduceLeDiff, Nat.reduceEqDiff, not_true, not_false_iff, z1_0, z1_1, Bool.and_self, Bool.true_and, Bool.and_true, nI_add, pk_mul, nI_clamp, decide_true, Nat.le_refl, bI_eq, bI_z1, in_nI, pk_F]
  have cm0 := cm1
  obtain ⟨lv, o0, o1, mi, hx, wm, hh, _⟩ := cm0
  refine r_oiled mi ?_
  intro v2 g2
  have ck2 := CK_f ck1 (MW_8 (MW_f g2))
  have cm2 := CM_w cm1 (MW_f g2)
  refine go_at (blk := b_law_645) rfl ?_
  simp (disch := omega) only [b_law_645, be_49_0, List.getD_cons_zero, List.getD_cons_succ, List.set_cons_zero, List.set_cons_succ, List.length_cons, List.length_nil, pk_I, pk_A, pr_A, pi_I, st_s, st_n, if_true, if_false, eq_self, d_if, d_ju, d_re, d_ca, cat0, cat1, cat2, cat3, fr_z, fr_s, cc_I, cc_A, cc_N, Nat.reduceAdd, Nat.reduceLT, Nat.reduceLeDiff, Nat.reduceEqDiff, not_true, not_false_iff, z1_0, z1_1, Bool.and_self, Bool.true_and, Bool.and_true, nI_add, pk_mul, nI_clamp, decide_true, Nat.le_refl, bI_eq, bI_z1, in_nI, pk_F]
  exact hn _ w (LI_le ⟨_, _, _, _, _, _, _, _, _, _, _, _, _, ck2, cm2, cp⟩ (by omega) hB)
set_option maxHeartbeats 2000000 in
theorem s_doubted {d i : Nat} {X : am_X} {u : UInt32} {v : Nat → Nat → Int32} {w : Nat → Nat → Int64} {Q : Option Value → am_H → Prop} {B : Int} (hX : X.1 ≤ 3072) (hi : i + 6 ≤ X.1) (hL : LI B v w) (hB : B + 300 ≤ 200000) (hn : ∀ v' w', LI (B + 300) v' w' → am_Go X (d + 29) k_law 1233 ([.float u, .ref 0, .ref 388, .int (nI i)], [], (428, 26053, KD, RF, v', w')) Q) : am_Go X (d + 29) k_law 650 ([.float u, .ref 0, .ref 388, .int (nI i)], [], (428, 26053, KD, RF, v, w)) Q := by
  obtain ⟨T, f, sz, h, m, tp, tm, ts, hd, hs, len, P, pl, ck, cm, cp⟩ := hL
  refine go_at (blk := b_law_650) rfl ?_
  simp (disch := omega) only [b_law_650, be_6, be_4, be_1, be_12, be_71, be_57_2, kc_0, List.getD_cons_zero, List.getD_cons_succ, List.set_cons_zero, List.set_cons_succ, List.length_cons, List.length_nil, pk_I, pk_A, pr_A, pi_I, st_s, st_n, if_true, if_false, eq_self, d_if, d_ju, d_re, d_ca, cat0, cat1, cat2, cat3, fr_z, fr_s, cc_I, cc_A, cc_N, Nat.reduceAdd, Nat.reduceLT, Nat.reduceLeDiff, Nat.reduceEqDiff, not_true, not_false_iff, z1_0, z1_1, Bool.and_self, Bool.true_and, Bool.and_true, nI_add, pk_mul, nI_clamp, decide_true, Nat.le_refl, bI_eq, bI_z1, in_nI, pk_F]
  refine p_doubted ck.1 ?_
  intro v1 q1
  have ck1 := CK_w ck (QW_q q1)
  have cm1 := CM_f (w' := w) cm (QW_8 (QW_q q1)) rfl
  refine go_at (blk := b_law_664) rfl ?_
  simp (disch := omega) only [b_law_664, be_6, be_4, be_1, be_12, be_71, be_57_2, kc_388, List.getD_cons_zero, List.getD_cons_succ, List.set_cons_zero, List.set_cons_succ, List.length_cons, List.length_nil, pk_I, pk_A, pr_A, pi_I, st_s, st_n, if_true, if_false, eq_self, d_if, d_ju, d_re, d_ca, cat0, cat1, cat2, cat3, fr_z, fr_s, cc_I, cc_A, cc_N, Nat.reduceAdd, Nat.reduceLT, Nat.reduceLeDiff, Nat.reduceEqDiff, not_true, not_false_iff, z1_0, z1_1, Bool.and_self, Bool.true_and, Bool.and_true, nI_add, pk_mul, nI_clamp, decide_true, Nat.le_refl, bI_eq, bI_z1, in_nI, pk_F]
  have cm0 := cm1
  obtain ⟨lv, o0, o1, mi, hx, wm, hh, _⟩ := cm0
  refine r_doubted mi ?_
  intro v2 g2
  have ck2 := CK_f ck1 (MW_8 (MW_f g2))
  have cm2 := CM_w cm1 (MW_f g2)
  refine go_at (blk := b_law_678) rfl ?_
  simp (disch := omega) only [b_law_678, be_49_0, List.getD_cons_zero, List.getD_cons_succ, List.set_cons_zero, List.set_cons_succ, List.length_cons, List.length_nil, pk_I, pk_A, pr_A, pi_I, st_s, st_n, if_true, if_false, eq_self, d_if, d_ju, d_re, d_ca, cat0, cat1, cat2, cat3, fr_z, fr_s, cc_I, cc_A, cc_N, Nat.reduceAdd, Nat.reduceLT, Nat.reduceLeDiff, Nat.reduceEqDiff, not_true, not_false_iff, z1_0, z1_1, Bool.and_self, Bool.true_and, Bool.and_true, nI_add, pk_mul, nI_clamp, decide_true, Nat.le_refl, bI_eq, bI_z1, in_nI, pk_F]
  exact hn _ w (LI_le ⟨_, _, _, _, _, _, _, _, _, _, _, _, _, ck2, cm2, cp⟩ (by omega) hB)
set_option maxHeartbeats 2000000 in
theorem s_bestStart {d i : Nat} {X : am_X} {u : UInt32} {v : Nat → Nat → Int32} {w : Nat → Nat → Int64} {Q : Option Value → am_H → Prop} {B : Int} (hX : X.1 ≤ 3072) (hi : i + 6 ≤ X.1) (hL : LI B v w) (hB : B + 300 ≤ 200000) (hn : ∀ v' w', LI (B + 300) v' w' → am_Go X (d + 29) k_law 1233 ([.float u, .ref 0, .ref 388, .int (nI i)], [], (428, 26053, KD, RF, v', w')) Q) : am_Go X (d + 29) k_law 683 ([.float u, .ref 0, .ref 388, .int (nI i)], [], (428, 26053, KD, RF, v, w)) Q := by
  obtain ⟨T, f, sz, h, m, tp, tm, ts, hd, hs, len, P, pl, ck, cm, cp⟩ := hL
  refine go_at (blk := b_law_683) rfl ?_
  simp (disch := omega) only [b_law_683, be_6, be_4, be_1, be_12, be_71, be_57_3, kc_0, List.getD_cons_zero, List.getD_cons_succ, List.set_cons_zero, List.set_cons_succ, List.length_cons, List.length_nil, pk_I, pk_A, pr_A, pi_I, st_s, st_n, if_true, if_false, eq_self, d_if, d_ju, d_re, d_ca, cat0, cat1, cat2, cat3, fr_z, fr_s, cc_I, cc_A, cc_N, Nat.reduceAdd, Nat.reduceLT, Nat.reduceLeDiff, Nat.reduceEqDiff, not_true, not_false_iff, z1_0, z1_1, Bool.and_self, Bool.true_and, Bool.and_true, nI_add, pk_mul, nI_clamp, decide_true, Nat.le_refl, bI_eq, bI_z1, in_nI, pk_F]
  refine p_bestStart ck.1 ?_
  intro v1 q1
  have ck1 := CK_w ck (QW_q q1)
  have cm1 := CM_f (w' := w) cm (QW_8 (QW_q q1)) rfl
  refine go_at (blk := b_law_702) rfl ?_
  simp (disch := omega) only [b_law_702, be_6, be_4, be_1, be_12, be_71, be_57_3, kc_388, List.getD_cons_zero, List.getD_cons_succ, List.set_cons_zero, List.set_cons_succ, List.length_cons, List.length_nil, pk_I, pk_A, pr_A, pi_I, st_s, st_n, if_true, if_false, eq_self, d_if, d_ju, d_re, d_ca, cat0, cat1, cat2, cat3, fr_z, fr_s, cc_I, cc_A, cc_N, Nat.reduceAdd, Nat.reduceLT, Nat.reduceLeDiff, Nat.reduceEqDiff, not_true, not_false_iff, z1_0, z1_1, Bool.and_self, Bool.true_and, Bool.and_true, nI_add, pk_mul, nI_clamp, decide_true, Nat.le_refl, bI_eq, bI_z1, in_nI, pk_F]
  have cm0 := cm1
  obtain ⟨lv, o0, o1, mi, hx, wm, hh, _⟩ := cm0
  refine r_bestStart mi ?_
  intro v2 g2
  have ck2 := CK_f ck1 (MW_8 (MW_f g2))
  have cm2 := CM_w cm1 (MW_f g2)
  refine go_at (blk := b_law_721) rfl ?_
  simp (disch := omega) only [b_law_721, be_49_0, List.getD_cons_zero, List.getD_cons_succ, List.set_cons_zero, List.set_cons_succ, List.length_cons, List.length_nil, pk_I, pk_A, pr_A, pi_I, st_s, st_n, if_true, if_false, eq_self, d_if, d_ju, d_re, d_ca, cat0, cat1, cat2, cat3, fr_z, fr_s, cc_I, cc_A, cc_N, Nat.reduceAdd, Nat.reduceLT, Nat.reduceLeDiff, Nat.reduceEqDiff, not_true, not_false_iff, z1_0, z1_1, Bool.and_self, Bool.true_and, Bool.and_true, nI_add, pk_mul, nI_clamp, decide_true, Nat.le_refl, bI_eq, bI_z1, in_nI, pk_F]
  exact hn _ w (LI_le ⟨_, _, _, _, _, _, _, _, _, _, _, _, _, ck2, cm2, cp⟩ (by omega) hB)
set_option maxHeartbeats 2000000 in
theorem s_meet {d i : Nat} {X : am_X} {u : UInt32} {v : Nat → Nat → Int32} {w : Nat → Nat → Int64} {Q : Option Value → am_H → Prop} {B : Int} (hX : X.1 ≤ 3072) (hi : i + 6 ≤ X.1) (hL : LI B v w) (hB : B + 300 ≤ 200000) (hn : ∀ v' w', LI (B + 300) v' w' → am_Go X (d + 29) k_law 1233 ([.float u, .ref 0, .ref 388, .int (nI i)], [], (428, 26053, KD, RF, v', w')) Q) : am_Go X (d + 29) k_law 726 ([.float u, .ref 0, .ref 388, .int (nI i)], [], (428, 26053, KD, RF, v, w)) Q := by
  obtain ⟨T, f, sz, h, m, tp, tm, ts, hd, hs, len, P, pl, ck, cm, cp⟩ := hL
  refine go_at (blk := b_law_726) rfl ?_
  simp (disch := omega) only [b_law_726, be_6, be_4, be_1, be_12, be_71, be_57_2, kc_0, List.getD_cons_zero, List.getD_cons_succ, List.set_cons_zero, List.set_cons_succ, List.length_cons, List.length_nil, pk_I, pk_A, pr_A, pi_I, st_s, st_n, if_true, if_false, eq_self, d_if, d_ju, d_re, d_ca, cat0, cat1, cat2, cat3, fr_z, fr_s, cc_I, cc_A, cc_N, Nat.reduceAdd, Nat.reduceLT, Nat.reduceLeDiff, Nat.reduceEqDiff, not_true, not_false_iff, z1_0, z1_1, Bool.and_self, Bool.true_and, Bool.and_true, nI_add, pk_mul, nI_clamp, decide_true, Nat.le_refl, bI_eq, bI_z1, in_nI, pk_F]
  refine p_meet ck.1 ?_
  intro v1 q1
  have ck1 := CK_w ck (QW_q q1)
  have cm1 := CM_f (w' := w) cm (QW_8 (QW_q q1)) rfl
  refine go_at (blk := b_law_740) rfl ?_
  simp (disch := omega) only [b_law_740, be_6, be_4, be_1, be_12, be_71, be_57_2, kc_388, List.getD_cons_zero, List.getD_cons_succ, List.set_cons_zero, List.set_cons_succ, List.length_cons, List.length_nil, pk_I, pk_A, pr_A, pi_I, st_s, st_n, if_true, if_false, eq_self, d_if, d_ju, d_re, d_ca, cat0, cat1, cat2, cat3, fr_z, fr_s, cc_I, cc_A, cc_N, Nat.reduceAdd, Nat.reduceLT, Nat.reduceLeDiff, Nat.reduceEqDiff, not_true, not_false_iff, z1_0, z1_1, Bool.and_self, Bool.true_and, Bool.and_true, nI_add, pk_mul, nI_clamp, decide_true, Nat.le_refl, bI_eq, bI_z1, in_nI, pk_F]
  have cm0 := cm1
  obtain ⟨lv, o0, o1, mi, hx, wm, hh, _⟩ := cm0
  refine r_meet mi ?_
  intro v2 g2
  have ck2 := CK_f ck1 (MW_8 (MW_f g2))
  have cm2 := CM_w cm1 (MW_f g2)
  refine go_at (blk := b_law_754) rfl ?_
  simp (disch := omega) only [b_law_754, be_49_0, List.getD_cons_zero, List.getD_cons_succ, List.set_cons_zero, List.set_cons_succ, List.length_cons, List.length_nil, pk_I, pk_A, pr_A, pi_I, st_s, st_n, if_true, if_false, eq_self, d_if, d_ju, d_re, d_ca, cat0, cat1, cat2, cat3, fr_z, fr_s, cc_I, cc_A, cc_N, Nat.reduceAdd, Nat.reduceLT, Nat.reduceLeDiff, Nat.reduceEqDiff, not_true, not_false_iff, z1_0, z1_1, Bool.and_self, Bool.true_and, Bool.and_true, nI_add, pk_mul, nI_clamp, decide_true, Nat.le_refl, bI_eq, bI_z1, in_nI, pk_F]
  exact hn _ w (LI_le ⟨_, _, _, _, _, _, _, _, _, _, _, _, _, ck2, cm2, cp⟩ (by omega) hB)
set_option maxHeartbeats 2000000 in
theorem s_lowest {d i : Nat} {X : am_X} {u : UInt32} {v : Nat → Nat → Int32} {w : Nat → Nat → Int64} {Q : Option Value → am_H → Prop} {B : Int} (hX : X.1 ≤ 3072) (hi : i + 6 ≤ X.1) (hL : LI B v w) (hB : B + 300 ≤ 200000) (hn : ∀ v' w', LI (B + 300) v' w' → am_Go X (d + 29) k_law 1233 ([.float u, .ref 0, .ref 388, .int (nI i)], [], (428, 26053, KD, RF, v', w')) Q) : am_Go X (d + 29) k_law 782 ([.float u, .ref 0, .ref 388, .int (nI i)], [], (428, 26053, KD, RF, v, w)) Q := by
  obtain ⟨T, f, sz, h, m, tp, tm, ts, hd, hs, len, P, pl, ck, cm, cp⟩ := hL
  refine go_at (blk := b_law_782) rfl ?_
  simp (disch := omega) only [b_law_782, be_6, be_4, be_1, be_12, be_71, be_57_1, kc_0, List.getD_cons_zero, List.getD_cons_succ, List.set_cons_zero, List.set_cons_succ, List.length_cons, List.length_nil, pk_I, pk_A, pr_A, pi_I, st_s, st_n, if_true, if_false, eq_self, d_if, d_ju, d_re, d_ca, cat0, cat1, cat2, cat3, fr_z, fr_s, cc_I, cc_A, cc_N, Nat.reduceAdd, Nat.reduceLT, Nat.reduceLeDiff, Nat.reduceEqDiff, not_true, not_false_iff, z1_0, z1_1, Bool.and_self, Bool.true_and, Bool.and_true, nI_add, pk_mul, nI_clamp, decide_true, Nat.le_refl, bI_eq, bI_z1, in_nI, pk_F]
  refine p_lowest ck.1 ?_
  intro v1 q1
  have ck1 := CK_w ck (QW_q q1)
  have cm1 := CM_f (w' := w) cm (QW_8 (QW_q q1)) rfl
  refine go_at (blk := b_law_791) rfl ?_
  simp (disch := omega) only [b_law_791, be_6, be_4, be_1, be_12, be_71, be_57_1, kc_388, List.getD_cons_zero, List.getD_cons_succ, List.set_cons_zero, List.set_cons_succ, List.length_cons, List.length_nil, pk_I, pk_A, pr_A, pi_I, st_s, st_n, if_true, if_false, eq_self, d_if, d_ju, d_re, d_ca, cat0, cat1, cat2, cat3, fr_z, fr_s, cc_I, cc_A, cc_N, Nat.reduceAdd, Nat.reduceLT, Nat.reduceLeDiff, Nat.reduceEqDiff, not_true, not_false_iff, z1_0, z1_1, Bool.and_self, Bool.true_and, Bool.and_true, nI_add, pk_mul, nI_clamp, decide_true, Nat.le_refl, bI_eq, bI_z1, in_nI, pk_F]
  have cm0 := cm1
  obtain ⟨lv, o0, o1, mi, hx, wm, hh, _⟩ := cm0
  refine r_lowest mi ?_
  intro v2 g2
  have ck2 := CK_f ck1 (MW_8 (MW_f g2))
  have cm2 := CM_w cm1 (MW_f g2)
  refine go_at (blk := b_law_800) rfl ?_
  simp (disch := omega) only [b_law_800, be_49_0, List.getD_cons_zero, List.getD_cons_succ, List.set_cons_zero, List.set_cons_succ, List.length_cons, List.length_nil, pk_I, pk_A, pr_A, pi_I, st_s, st_n, if_true, if_false, eq_self, d_if, d_ju, d_re, d_ca, cat0, cat1, cat2, cat3, fr_z, fr_s, cc_I, cc_A, cc_N, Nat.reduceAdd, Nat.reduceLT, Nat.reduceLeDiff, Nat.reduceEqDiff, not_true, not_false_iff, z1_0, z1_1, Bool.and_self, Bool.true_and, Bool.and_true, nI_add, pk_mul, nI_clamp, decide_true, Nat.le_refl, bI_eq, bI_z1, in_nI, pk_F]
  exact hn _ w (LI_le ⟨_, _, _, _, _, _, _, _, _, _, _, _, _, ck2, cm2, cp⟩ (by omega) hB)
set_option maxHeartbeats 2000000 in
theorem s_bestTwo {d i : Nat} {X : am_X} {u : UInt32} {v : Nat → Nat → Int32} {w : Nat → Nat → Int64} {Q : Option Value → am_H → Prop} {B : Int} (hX : X.1 ≤ 3072) (hi : i + 6 ≤ X.1) (hL : LI B v w) (hB : B + 300 ≤ 200000) (hn : ∀ v' w', LI (B + 300) v' w' → am_Go X (d + 29) k_law 1233 ([.float u, .ref 0, .ref 388, .int (nI i)], [], (428, 26053, KD, RF, v', w')) Q) : am_Go X (d + 29) k_law 805 ([.float u, .ref 0, .ref 388, .int (nI i)], [], (428, 26053, KD, RF, v, w)) Q := by
  obtain ⟨T, f, sz, h, m, tp, tm, ts, hd, hs, len, P, pl, ck, cm, cp⟩ := hL
  refine go_at (blk := b_law_805) rfl ?_
  simp (disch := omega) only [b_law_805, be_6, be_4, be_1, be_12, be_71, be_57_2, kc_0, List.getD_cons_zero, List.getD_cons_succ, List.set_cons_zero, List.set_cons_succ, List.length_cons, List.length_nil, pk_I, pk_A, pr_A, pi_I, st_s, st_n, if_true, if_false, eq_self, d_if, d_ju, d_re, d_ca, cat0, cat1, cat2, cat3, fr_z, fr_s, cc_I, cc_A, cc_N, Nat.reduceAdd, Nat.reduceLT, Nat.reduceLeDiff, Nat.reduceEqDiff, not_true, not_false_iff, z1_0, z1_1, Bool.and_self, Bool.true_and, Bool.and_true, nI_add, pk_mul, nI_clamp, decide_true, Nat.le_refl, bI_eq, bI_z1, in_nI, pk_F]
  refine p_bestTwo ck.1 ?_
  intro v1 q1
  have ck1 := CK_w ck (QW_q q1)
  have cm1 := CM_f (w' := w) cm (QW_8 (QW_q q1)) rfl
  refine go_at (blk := b_law_819) rfl ?_
  simp (disch := omega) only [b_law_819, be_6, be_4, be_1, be_12, be_71, be_57_2, kc_388, List.getD_cons_zero, List.getD_cons_succ, List.set_cons_zero, List.set_cons_succ, List.length_cons, List.length_nil, pk_I, pk_A, pr_A, pi_I, st_s, st_n, if_true, if_false, eq_self, d_if, d_ju, d_re, d_ca, cat0, cat1, cat2, cat3, fr_z, fr_s, cc_I, cc_A, cc_N, Nat.reduceAdd, Nat.reduceLT, Nat.reduceLeDiff, Nat.reduceEqDiff, not_true, not_false_iff, z1_0, z1_1, Bool.and_self, Bool.true_and, Bool.and_true, nI_add, pk_mul, nI_clamp, decide_true, Nat.le_refl, bI_eq, bI_z1, in_nI, pk_F]
  have cm0 := cm1
  obtain ⟨lv, o0, o1, mi, hx, wm, hh, _⟩ := cm0
  refine r_bestTwo mi ?_
  intro v2 g2
  have ck2 := CK_f ck1 (MW_8 (MW_f g2))
  have cm2 := CM_w cm1 (MW_f g2)
  refine go_at (blk := b_law_833) rfl ?_
  simp (disch := omega) only [b_law_833, be_49_0, List.getD_cons_zero, List.getD_cons_succ, List.set_cons_zero, List.set_cons_succ, List.length_cons, List.length_nil, pk_I, pk_A, pr_A, pi_I, st_s, st_n, if_true, if_false, eq_self, d_if, d_ju, d_re, d_ca, cat0, cat1, cat2, cat3, fr_z, fr_s, cc_I, cc_A, cc_N, Nat.reduceAdd, Nat.reduceLT, Nat.reduceLeDiff, Nat.reduceEqDiff, not_true, not_false_iff, z1_0, z1_1, Bool.and_self, Bool.true_and, Bool.and_true, nI_add, pk_mul, nI_clamp, decide_true, Nat.le_refl, bI_eq, bI_z1, in_nI, pk_F]
  exact hn _ w (LI_le ⟨_, _, _, _, _, _, _, _, _, _, _, _, _, ck2, cm2, cp⟩ (by omega) hB)
set_option maxHeartbeats 2000000 in
theorem s_exchange {d i : Nat} {X : am_X} {u : UInt32} {v : Nat → Nat → Int32} {w : Nat → Nat → Int64} {Q : Option Value → am_H → Prop} {B : Int} (hX : X.1 ≤ 3072) (hi : i + 6 ≤ X.1) (hL : LI B v w) (hB : B + 300 ≤ 200000) (hn : ∀ v' w', LI (B + 300) v' w' → am_Go X (d + 29) k_law 1233 ([.float u, .ref 0, .ref 388, .int (nI i)], [], (428, 26053, KD, RF, v', w')) Q) : am_Go X (d + 29) k_law 838 ([.float u, .ref 0, .ref 388, .int (nI i)], [], (428, 26053, KD, RF, v, w)) Q := by
  obtain ⟨T, f, sz, h, m, tp, tm, ts, hd, hs, len, P, pl, ck, cm, cp⟩ := hL
  refine go_at (blk := b_law_838) rfl ?_
  simp (disch := omega) only [b_law_838, be_6, be_4, be_1, be_12, be_71, be_57_3, kc_0, List.getD_cons_zero, List.getD_cons_succ, List.set_cons_zero, List.set_cons_succ, List.length_cons, List.length_nil, pk_I, pk_A, pr_A, pi_I, st_s, st_n, if_true, if_false, eq_self, d_if, d_ju, d_re, d_ca, cat0, cat1, cat2, cat3, fr_z, fr_s, cc_I, cc_A, cc_N, Nat.reduceAdd, Nat.reduceLT, Nat.reduceLeDiff, Nat.reduceEqDiff, not_true, not_false_iff, z1_0, z1_1, Bool.and_self, Bool.true_and, Bool.and_true, nI_add, pk_mul, nI_clamp, decide_true, Nat.le_refl, bI_eq, bI_z1, in_nI, pk_F]
  refine p_exchange ck.1 ?_
  intro v1 q1
  have ck1 := CK_w ck (QW_q q1)
  have cm1 := CM_f (w' := w) cm (QW_8 (QW_q q1)) rfl
  refine go_at (blk := b_law_857) rfl ?_
  simp (disch := omega) only [b_law_857, be_6, be_4, be_1, be_12, be_71, be_57_3, kc_388, List.getD_cons_zero, List.getD_cons_succ, List.set_cons_zero, List.set_cons_succ, List.length_cons, List.length_nil, pk_I, pk_A, pr_A, pi_I, st_s, st_n, if_true, if_false, eq_self, d_if, d_ju, d_re, d_ca, cat0, cat1, cat2, cat3, fr_z, fr_s, cc_I, cc_A, cc_N, Nat.reduceAdd, Nat.reduceLT, Nat.reduceLeDiff, Nat.reduceEqDiff, not_true, not_false_iff, z1_0, z1_1, Bool.and_self, Bool.true_and, Bool.and_true, nI_add, pk_mul, nI_clamp, decide_true, Nat.le_refl, bI_eq, bI_z1, in_nI, pk_F]
  have cm0 := cm1
  obtain ⟨lv, o0, o1, mi, hx, wm, hh, _⟩ := cm0
  refine r_exchange mi ?_
  intro v2 g2
  have ck2 := CK_f ck1 (MW_8 (MW_f g2))
  have cm2 := CM_w cm1 (MW_f g2)
  refine go_at (blk := b_law_876) rfl ?_
  simp (disch := omega) only [b_law_876, be_49_0, List.getD_cons_zero, List.getD_cons_succ, List.set_cons_zero, List.set_cons_succ, List.length_cons, List.length_nil, pk_I, pk_A, pr_A, pi_I, st_s, st_n, if_true, if_false, eq_self, d_if, d_ju, d_re, d_ca, cat0, cat1, cat2, cat3, fr_z, fr_s, cc_I, cc_A, cc_N, Nat.reduceAdd, Nat.reduceLT, Nat.reduceLeDiff, Nat.reduceEqDiff, not_true, not_false_iff, z1_0, z1_1, Bool.and_self, Bool.true_and, Bool.and_true, nI_add, pk_mul, nI_clamp, decide_true, Nat.le_refl, bI_eq, bI_z1, in_nI, pk_F]
  exact hn _ w (LI_le ⟨_, _, _, _, _, _, _, _, _, _, _, _, _, ck2, cm2, cp⟩ (by omega) hB)
set_option maxHeartbeats 2000000 in
theorem s_kneelers {d i : Nat} {X : am_X} {u : UInt32} {v : Nat → Nat → Int32} {w : Nat → Nat → Int64} {Q : Option Value → am_H → Prop} {B : Int} (hX : X.1 ≤ 3072) (hi : i + 6 ≤ X.1) (hL : LI B v w) (hB : B + 300 ≤ 200000) (hn : ∀ v' w', LI (B + 300) v' w' → am_Go X (d + 29) k_law 1233 ([.float u, .ref 0, .ref 388, .int (nI i)], [], (428, 26053, KD, RF, v', w')) Q) : am_Go X (d + 29) k_law 976 ([.float u, .ref 0, .ref 388, .int (nI i)], [], (428, 26053, KD, RF, v, w)) Q := by
  obtain ⟨T, f, sz, h, m, tp, tm, ts, hd, hs, len, P, pl, ck, cm, cp⟩ := hL
  refine go_at (blk := b_law_976) rfl ?_
  simp (disch := omega) only [b_law_976, be_6, be_4, be_1, be_12, be_71, be_57_3, kc_0, List.getD_cons_zero, List.getD_cons_succ, List.set_cons_zero, List.set_cons_succ, List.length_cons, List.length_nil, pk_I, pk_A, pr_A, pi_I, st_s, st_n, if_true, if_false, eq_self, d_if, d_ju, d_re, d_ca, cat0, cat1, cat2, cat3, fr_z, fr_s, cc_I, cc_A, cc_N, Nat.reduceAdd, Nat.reduceLT, Nat.reduceLeDiff, Nat.reduceEqDiff, not_true, not_false_iff, z1_0, z1_1, Bool.and_self, Bool.true_and, Bool.and_true, nI_add, pk_mul, nI_clamp, decide_true, Nat.le_refl, bI_eq, bI_z1, in_nI, pk_F]
  refine p_kneelers ck.1 ?_
  intro v1 q1
  have ck1 := CK_w ck (QW_q q1)
  have cm1 := CM_f (w' := w) cm (QW_8 (QW_q q1)) rfl
  refine go_at (blk := b_law_995) rfl ?_
  simp (disch := omega) only [b_law_995, be_6, be_4, be_1, be_12, be_71, be_57_3, kc_388, List.getD_cons_zero, List.getD_cons_succ, List.set_cons_zero, List.set_cons_succ, List.length_cons, List.length_nil, pk_I, pk_A, pr_A, pi_I, st_s, st_n, if_true, if_false, eq_self, d_if, d_ju, d_re, d_ca, cat0, cat1, cat2, cat3, fr_z, fr_s, cc_I, cc_A, cc_N, Nat.reduceAdd, Nat.reduceLT, Nat.reduceLeDiff, Nat.reduceEqDiff, not_true, not_false_iff, z1_0, z1_1, Bool.and_self, Bool.true_and, Bool.and_true, nI_add, pk_mul, nI_clamp, decide_true, Nat.le_refl, bI_eq, bI_z1, in_nI, pk_F]
  have cm0 := cm1
  obtain ⟨lv, o0, o1, mi, hx, wm, hh, _⟩ := cm0
  refine r_kneelers mi ?_
  intro v2 g2
  have ck2 := CK_f ck1 (MW_8 (MW_f g2))
  have cm2 := CM_w cm1 (MW_f g2)
  refine go_at (blk := b_law_1014) rfl ?_
  simp (disch := omega) only [b_law_1014, be_49_0, List.getD_cons_zero, List.getD_cons_succ, List.set_cons_zero, List.set_cons_succ, List.length_cons, List.length_nil, pk_I, pk_A, pr_A, pi_I, st_s, st_n, if_true, if_false, eq_self, d_if, d_ju, d_re, d_ca, cat0, cat1, cat2, cat3, fr_z, fr_s, cc_I, cc_A, cc_N, Nat.reduceAdd, Nat.reduceLT, Nat.reduceLeDiff, Nat.reduceEqDiff, not_true, not_false_iff, z1_0, z1_1, Bool.and_self, Bool.true_and, Bool.and_true, nI_add, pk_mul, nI_clamp, decide_true, Nat.le_refl, bI_eq, bI_z1, in_nI, pk_F]
  exact hn _ w (LI_le ⟨_, _, _, _, _, _, _, _, _, _, _, _, _, ck2, cm2, cp⟩ (by omega) hB)
set_option maxHeartbeats 2000000 in
theorem s_pilgrim {d i : Nat} {X : am_X} {u : UInt32} {v : Nat → Nat → Int32} {w : Nat → Nat → Int64} {Q : Option Value → am_H → Prop} {B : Int} (hX : X.1 ≤ 3072) (hi : i + 6 ≤ X.1) (hL : LI B v w) (hB : B + 300 ≤ 200000) (hn : ∀ v' w', LI (B + 300) v' w' → am_Go X (d + 29) k_law 1233 ([.float u, .ref 0, .ref 388, .int (nI i)], [], (428, 26053, KD, RF, v', w')) Q) : am_Go X (d + 29) k_law 308 ([.float u, .ref 0, .ref 388, .int (nI i)], [], (428, 26053, KD, RF, v, w)) Q := by
  obtain ⟨T, f, sz, h, m, tp, tm, ts, hd, hs, len, P, pl, ck, cm, cp⟩ := hL
  refine go_at (blk := b_law_308) rfl ?_
  simp (disch := omega) only [b_law_308, be_6, be_4, be_1, be_12, be_71, be_57_2, kc_0, List.getD_cons_zero, List.getD_cons_succ, List.set_cons_zero, List.set_cons_succ, List.length_cons, List.length_nil, pk_I, pk_A, pr_A, pi_I, st_s, st_n, if_true, if_false, eq_self, d_if, d_ju, d_re, d_ca, cat0, cat1, cat2, cat3, fr_z, fr_s, cc_I, cc_A, cc_N, Nat.reduceAdd, Nat.reduceLT, Nat.reduceLeDiff, Nat.reduceEqDiff, not_true, not_false_iff, z1_0, z1_1, Bool.and_self, Bool.true_and, Bool.and_true, nI_add, pk_mul, nI_clamp, decide_true, Nat.le_refl, bI_eq, bI_z1, in_nI, pk_F]
  refine p_pilgrim ck.1 ?_
  intro v1 q1
  have ck1 := CK_w ck (QW_q q1)
  have cm1 := CM_f (w' := w) cm (QW_8 (QW_q q1)) rfl
  refine go_at (blk := b_law_322) rfl ?_
  simp (disch := omega) only [b_law_322, be_6, be_4, be_1, be_12, be_71, be_57_2, kc_388, List.getD_cons_zero, List.getD_cons_succ, List.set_cons_zero, List.set_cons_succ, List.length_cons, List.length_nil, pk_I, pk_A, pr_A, pi_I, st_s, st_n, if_true, if_false, eq_self, d_if, d_ju, d_re, d_ca, cat0, cat1, cat2, cat3, fr_z, fr_s, cc_I, cc_A, cc_N, Nat.reduceAdd, Nat.reduceLT, Nat.reduceLeDiff, Nat.reduceEqDiff, not_true, not_false_iff, z1_0, z1_1, Bool.and_self, Bool.true_and, Bool.and_true, nI_add, pk_mul, nI_clamp, decide_true, Nat.le_refl, bI_eq, bI_z1, in_nI, pk_F]
  have cm0 := cm1
  obtain ⟨lv, o0, o1, mi, hx, wm, hh, _⟩ := cm0
  refine r_pilgrim mi ?_
  intro v2 g2
  have ck2 := CK_f ck1 (MW_8 (MW_f g2))
  have cm2 := CM_w cm1 (MW_f g2)
  refine go_at (blk := b_law_336) rfl ?_
  simp (disch := omega) only [b_law_336, be_49_0, List.getD_cons_zero, List.getD_cons_succ, List.set_cons_zero, List.set_cons_succ, List.length_cons, List.length_nil, pk_I, pk_A, pr_A, pi_I, st_s, st_n, if_true, if_false, eq_self, d_if, d_ju, d_re, d_ca, cat0, cat1, cat2, cat3, fr_z, fr_s, cc_I, cc_A, cc_N, Nat.reduceAdd, Nat.reduceLT, Nat.reduceLeDiff, Nat.reduceEqDiff, not_true, not_false_iff, z1_0, z1_1, Bool.and_self, Bool.true_and, Bool.and_true, nI_add, pk_mul, nI_clamp, decide_true, Nat.le_refl, bI_eq, bI_z1, in_nI, pk_F]
  exact hn _ w (LI_le ⟨_, _, _, _, _, _, _, _, _, _, _, _, _, ck2, cm2, cp⟩ (by omega) hB)
set_option maxHeartbeats 2000000 in
theorem s_moves {d i : Nat} {X : am_X} {u : UInt32} {v : Nat → Nat → Int32} {w : Nat → Nat → Int64} {Q : Option Value → am_H → Prop} {B : Int} (hX : X.1 ≤ 3072) (hi : i + 6 ≤ X.1) (hL : LI B v w) (hB : B + 300 ≤ 200000) (hn : ∀ v' w', LI (B + 300) v' w' → am_Go X (d + 29) k_law 1233 ([.float u, .ref 0, .ref 388, .int (nI i)], [], (428, 26053, KD, RF, v', w')) Q) : am_Go X (d + 29) k_law 341 ([.float u, .ref 0, .ref 388, .int (nI i)], [], (428, 26053, KD, RF, v, w)) Q := by
  obtain ⟨T, f, sz, h, m, tp, tm, ts, hd, hs, len, P, pl, ck, cm, cp⟩ := hL
  refine go_at (blk := b_law_341) rfl ?_
  simp (disch := omega) only [b_law_341, be_6, be_57_0, kc_0, List.getD_cons_zero, List.getD_cons_succ, List.set_cons_zero, List.set_cons_succ, List.length_cons, List.length_nil, pk_I, pk_A, pr_A, pi_I, st_s, st_n, if_true, if_false, eq_self, d_if, d_ju, d_re, d_ca, cat0, cat1, cat2, cat3, fr_z, fr_s, cc_I, cc_A, cc_N, Nat.reduceAdd, Nat.reduceLT, Nat.reduceLeDiff, Nat.reduceEqDiff, not_true, not_false_iff, z1_0, z1_1, Bool.and_self, Bool.true_and, Bool.and_true, nI_add, pk_mul, nI_clamp, decide_true, Nat.le_refl, bI_eq, bI_z1, in_nI, pk_F]
  refine p_moves ck.1 ?_
  intro v1 q1
  have ck1 := CK_w ck (QW_q q1)
  have cm1 := CM_f (w' := w) cm (QW_8 (QW_q q1)) rfl
  refine go_at (blk := b_law_345) rfl ?_
  simp (disch := omega) only [b_law_345, be_6, be_57_0, kc_388, List.getD_cons_zero, List.getD_cons_succ, List.set_cons_zero, List.set_cons_succ, List.length_cons, List.length_nil, pk_I, pk_A, pr_A, pi_I, st_s, st_n, if_true, if_false, eq_self, d_if, d_ju, d_re, d_ca, cat0, cat1, cat2, cat3, fr_z, fr_s, cc_I, cc_A, cc_N, Nat.reduceAdd, Nat.reduceLT, Nat.reduceLeDiff, Nat.reduceEqDiff, not_true, not_false_iff, z1_0, z1_1, Bool.and_self, Bool.true_and, Bool.and_true, nI_add, pk_mul, nI_clamp, decide_true, Nat.le_refl, bI_eq, bI_z1, in_nI, pk_F]
  have cm0 := cm1
  obtain ⟨lv, o0, o1, mi, hx, wm, hh, _⟩ := cm0
  refine r_movesP mi ?_
  intro v2 g2
  have ck2 := CK_f ck1 (MW_8 (MW_f g2))
  have cm2 := CM_w cm1 (MW_f g2)
  refine go_at (blk := b_law_349) rfl ?_
  simp (disch := omega) only [b_law_349, be_49_0, List.getD_cons_zero, List.getD_cons_succ, List.set_cons_zero, List.set_cons_succ, List.length_cons, List.length_nil, pk_I, pk_A, pr_A, pi_I, st_s, st_n, if_true, if_false, eq_self, d_if, d_ju, d_re, d_ca, cat0, cat1, cat2, cat3, fr_z, fr_s, cc_I, cc_A, cc_N, Nat.reduceAdd, Nat.reduceLT, Nat.reduceLeDiff, Nat.reduceEqDiff, not_true, not_false_iff, z1_0, z1_1, Bool.and_self, Bool.true_and, Bool.and_true, nI_add, pk_mul, nI_clamp, decide_true, Nat.le_refl, bI_eq, bI_z1, in_nI, pk_F]
  exact hn _ w (LI_le ⟨_, _, _, _, _, _, _, _, _, _, _, _, _, ck2, cm2, cp⟩ (by omega) hB)
set_option maxHeartbeats 2000000 in
theorem s_most {d i : Nat} {X : am_X} {u : UInt32} {v : Nat → Nat → Int32} {w : Nat → Nat → Int64} {Q : Option Value → am_H → Prop} {B : Int} (hX : X.1 ≤ 3072) (hi : i + 6 ≤ X.1) (hL : LI B v w) (hB : B + 300 ≤ 200000) (hn : ∀ v' w', LI (B + 300) v' w' → am_Go X (d + 29) k_law 1233 ([.float u, .ref 0, .ref 388, .int (nI i)], [], (428, 26053, KD, RF, v', w')) Q) : am_Go X (d + 29) k_law 759 ([.float u, .ref 0, .ref 388, .int (nI i)], [], (428, 26053, KD, RF, v, w)) Q := by
  obtain ⟨T, f, sz, h, m, tp, tm, ts, hd, hs, len, P, pl, ck, cm, cp⟩ := hL
  refine go_at (blk := b_law_759) rfl ?_
  simp (disch := omega) only [b_law_759, be_6, be_4, be_1, be_12, be_71, be_57_1, kc_0, List.getD_cons_zero, List.getD_cons_succ, List.set_cons_zero, List.set_cons_succ, List.length_cons, List.length_nil, pk_I, pk_A, pr_A, pi_I, st_s, st_n, if_true, if_false, eq_self, d_if, d_ju, d_re, d_ca, cat0, cat1, cat2, cat3, fr_z, fr_s, cc_I, cc_A, cc_N, Nat.reduceAdd, Nat.reduceLT, Nat.reduceLeDiff, Nat.reduceEqDiff, not_true, not_false_iff, z1_0, z1_1, Bool.and_self, Bool.true_and, Bool.and_true, nI_add, pk_mul, nI_clamp, decide_true, Nat.le_refl, bI_eq, bI_z1, in_nI, pk_F]
  refine p_most ck.1 ?_
  have ck1 := ck
  have cm1 := cm
  refine go_at (blk := b_law_768) rfl ?_
  simp (disch := omega) only [b_law_768, be_6, be_4, be_1, be_12, be_71, be_57_1, kc_388, List.getD_cons_zero, List.getD_cons_succ, List.set_cons_zero, List.set_cons_succ, List.length_cons, List.length_nil, pk_I, pk_A, pr_A, pi_I, st_s, st_n, if_true, if_false, eq_self, d_if, d_ju, d_re, d_ca, cat0, cat1, cat2, cat3, fr_z, fr_s, cc_I, cc_A, cc_N, Nat.reduceAdd, Nat.reduceLT, Nat.reduceLeDiff, Nat.reduceEqDiff, not_true, not_false_iff, z1_0, z1_1, Bool.and_self, Bool.true_and, Bool.and_true, nI_add, pk_mul, nI_clamp, decide_true, Nat.le_refl, bI_eq, bI_z1, in_nI, pk_F]
  have cm0 := cm1
  obtain ⟨lv, o0, o1, mi, hx, wm, hh, _⟩ := cm0
  refine r_most mi ?_
  have ck2 := ck1
  have cm2 := cm1
  refine go_at (blk := b_law_777) rfl ?_
  simp (disch := omega) only [b_law_777, be_49_0, List.getD_cons_zero, List.getD_cons_succ, List.set_cons_zero, List.set_cons_succ, List.length_cons, List.length_nil, pk_I, pk_A, pr_A, pi_I, st_s, st_n, if_true, if_false, eq_self, d_if, d_ju, d_re, d_ca, cat0, cat1, cat2, cat3, fr_z, fr_s, cc_I, cc_A, cc_N, Nat.reduceAdd, Nat.reduceLT, Nat.reduceLeDiff, Nat.reduceEqDiff, not_true, not_false_iff, z1_0, z1_1, Bool.and_self, Bool.true_and, Bool.and_true, nI_add, pk_mul, nI_clamp, decide_true, Nat.le_refl, bI_eq, bI_z1, in_nI, pk_F]
  exact hn _ w (LI_le ⟨_, _, _, _, _, _, _, _, _, _, _, _, _, ck2, cm2, cp⟩ (by omega) hB)
set_option maxHeartbeats 2000000 in
theorem s_rank {d i : Nat} {X : am_X} {u : UInt32} {v : Nat → Nat → Int32} {w : Nat → Nat → Int64} {Q : Option Value → am_H → Prop} {B : Int} (hX : X.1 ≤ 3072) (hi : i + 6 ≤ X.1) (hL : LI B v w) (hB : B + 300 ≤ 200000) (hn : ∀ v' w', LI (B + 300) v' w' → am_Go X (d + 29) k_law 1233 ([.float u, .ref 0, .ref 388, .int (nI i)], [], (428, 26053, KD, RF, v', w')) Q) : am_Go X (d + 29) k_law 881 ([.float u, .ref 0, .ref 388, .int (nI i)], [], (428, 26053, KD, RF, v, w)) Q := by
  obtain ⟨T, f, sz, h, m, tp, tm, ts, hd, hs, len, P, pl, ck, cm, cp⟩ := hL
  refine go_at (blk := b_law_881) rfl ?_
  simp (disch := omega) only [b_law_881, be_6, be_4, be_1, be_12, be_71, be_57_1, kc_0, List.getD_cons_zero, List.getD_cons_succ, List.set_cons_zero, List.set_cons_succ, List.length_cons, List.length_nil, pk_I, pk_A, pr_A, pi_I, st_s, st_n, if_true, if_false, eq_self, d_if, d_ju, d_re, d_ca, cat0, cat1, cat2, cat3, fr_z, fr_s, cc_I, cc_A, cc_N, Nat.reduceAdd, Nat.reduceLT, Nat.reduceLeDiff, Nat.reduceEqDiff, not_true, not_false_iff, z1_0, z1_1, Bool.and_self, Bool.true_and, Bool.and_true, nI_add, pk_mul, nI_clamp, decide_true, Nat.le_refl, bI_eq, bI_z1, in_nI, pk_F]
  refine p_rank ck.1 ?_
  have ck1 := ck
  have cm1 := cm
  refine go_at (blk := b_law_890) rfl ?_
  simp (disch := omega) only [b_law_890, be_6, be_4, be_1, be_12, be_71, be_57_1, kc_388, List.getD_cons_zero, List.getD_cons_succ, List.set_cons_zero, List.set_cons_succ, List.length_cons, List.length_nil, pk_I, pk_A, pr_A, pi_I, st_s, st_n, if_true, if_false, eq_self, d_if, d_ju, d_re, d_ca, cat0, cat1, cat2, cat3, fr_z, fr_s, cc_I, cc_A, cc_N, Nat.reduceAdd, Nat.reduceLT, Nat.reduceLeDiff, Nat.reduceEqDiff, not_true, not_false_iff, z1_0, z1_1, Bool.and_self, Bool.true_and, Bool.and_true, nI_add, pk_mul, nI_clamp, decide_true, Nat.le_refl, bI_eq, bI_z1, in_nI, pk_F]
  have cm0 := cm1
  obtain ⟨lv, o0, o1, mi, hx, wm, hh, _⟩ := cm0
  refine r_rank mi ?_
  have ck2 := ck1
  have cm2 := cm1
  refine go_at (blk := b_law_899) rfl ?_
  simp (disch := omega) only [b_law_899, be_49_0, List.getD_cons_zero, List.getD_cons_succ, List.set_cons_zero, List.set_cons_succ, List.length_cons, List.length_nil, pk_I, pk_A, pr_A, pi_I, st_s, st_n, if_true, if_false, eq_self, d_if, d_ju, d_re, d_ca, cat0, cat1, cat2, cat3, fr_z, fr_s, cc_I, cc_A, cc_N, Nat.reduceAdd, Nat.reduceLT, Nat.reduceLeDiff, Nat.reduceEqDiff, not_true, not_false_iff, z1_0, z1_1, Bool.and_self, Bool.true_and, Bool.and_true, nI_add, pk_mul, nI_clamp, decide_true, Nat.le_refl, bI_eq, bI_z1, in_nI, pk_F]
  exact hn _ w (LI_le ⟨_, _, _, _, _, _, _, _, _, _, _, _, _, ck2, cm2, cp⟩ (by omega) hB)
set_option maxHeartbeats 2000000 in
theorem s_there {d i : Nat} {X : am_X} {u : UInt32} {v : Nat → Nat → Int32} {w : Nat → Nat → Int64} {Q : Option Value → am_H → Prop} {B : Int} (hX : X.1 ≤ 3072) (hi : i + 6 ≤ X.1) (hL : LI B v w) (hB : B + 300 ≤ 200000) (hn : ∀ v' w', LI (B + 300) v' w' → am_Go X (d + 29) k_law 1233 ([.float u, .ref 0, .ref 388, .int (nI i)], [], (428, 26053, KD, RF, v', w')) Q) : am_Go X (d + 29) k_law 953 ([.float u, .ref 0, .ref 388, .int (nI i)], [], (428, 26053, KD, RF, v, w)) Q := by
  obtain ⟨T, f, sz, h, m, tp, tm, ts, hd, hs, len, P, pl, ck, cm, cp⟩ := hL
  refine go_at (blk := b_law_953) rfl ?_
  simp (disch := omega) only [b_law_953, be_6, be_4, be_1, be_12, be_71, be_57_1, kc_0, List.getD_cons_zero, List.getD_cons_succ, List.set_cons_zero, List.set_cons_succ, List.length_cons, List.length_nil, pk_I, pk_A, pr_A, pi_I, st_s, st_n, if_true, if_false, eq_self, d_if, d_ju, d_re, d_ca, cat0, cat1, cat2, cat3, fr_z, fr_s, cc_I, cc_A, cc_N, Nat.reduceAdd, Nat.reduceLT, Nat.reduceLeDiff, Nat.reduceEqDiff, not_true, not_false_iff, z1_0, z1_1, Bool.and_self, Bool.true_and, Bool.and_true, nI_add, pk_mul, nI_clamp, decide_true, Nat.le_refl, bI_eq, bI_z1, in_nI, pk_F]
  refine p_there ck.1 ?_
  have ck1 := ck
  have cm1 := cm
  refine go_at (blk := b_law_962) rfl ?_
  simp (disch := omega) only [b_law_962, be_6, be_4, be_1, be_12, be_71, be_57_1, kc_388, List.getD_cons_zero, List.getD_cons_succ, List.set_cons_zero, List.set_cons_succ, List.length_cons, List.length_nil, pk_I, pk_A, pr_A, pi_I, st_s, st_n, if_true, if_false, eq_self, d_if, d_ju, d_re, d_ca, cat0, cat1, cat2, cat3, fr_z, fr_s, cc_I, cc_A, cc_N, Nat.reduceAdd, Nat.reduceLT, Nat.reduceLeDiff, Nat.reduceEqDiff, not_true, not_false_iff, z1_0, z1_1, Bool.and_self, Bool.true_and, Bool.and_true, nI_add, pk_mul, nI_clamp, decide_true, Nat.le_refl, bI_eq, bI_z1, in_nI, pk_F]
  have cm0 := cm1
  obtain ⟨lv, o0, o1, mi, hx, wm, hh, _⟩ := cm0
  refine r_there mi ?_
  have ck2 := ck1
  have cm2 := cm1
  refine go_at (blk := b_law_971) rfl ?_
  simp (disch := omega) only [b_law_971, be_49_0, List.getD_cons_zero, List.getD_cons_succ, List.set_cons_zero, List.set_cons_succ, List.length_cons, List.length_nil, pk_I, pk_A, pr_A, pi_I, st_s, st_n, if_true, if_false, eq_self, d_if, d_ju, d_re, d_ca, cat0, cat1, cat2, cat3, fr_z, fr_s, cc_I, cc_A, cc_N, Nat.reduceAdd, Nat.reduceLT, Nat.reduceLeDiff, Nat.reduceEqDiff, not_true, not_false_iff, z1_0, z1_1, Bool.and_self, Bool.true_and, Bool.and_true, nI_add, pk_mul, nI_clamp, decide_true, Nat.le_refl, bI_eq, bI_z1, in_nI, pk_F]
  exact hn _ w (LI_le ⟨_, _, _, _, _, _, _, _, _, _, _, _, _, ck2, cm2, cp⟩ (by omega) hB)
set_option maxHeartbeats 2000000 in
theorem s_rests {d i : Nat} {X : am_X} {u : UInt32} {v : Nat → Nat → Int32} {w : Nat → Nat → Int64} {Q : Option Value → am_H → Prop} {B : Int} (hX : X.1 ≤ 3072) (hi : i + 6 ≤ X.1) (hL : LI B v w) (hB : B + 300 ≤ 200000) (hn : ∀ v' w', LI (B + 300) v' w' → am_Go X (d + 29) k_law 1233 ([.float u, .ref 0, .ref 388, .int (nI i)], [], (428, 26053, KD, RF, v', w')) Q) : am_Go X (d + 29) k_law 1019 ([.float u, .ref 0, .ref 388, .int (nI i)], [], (428, 26053, KD, RF, v, w)) Q := by
  obtain ⟨T, f, sz, h, m, tp, tm, ts, hd, hs, len, P, pl, ck, cm, cp⟩ := hL
  refine go_at (blk := b_law_1019) rfl ?_
  simp (disch := omega) only [b_law_1019, be_6, be_4, be_1, be_12, be_71, be_57_2, kc_0, List.getD_cons_zero, List.getD_cons_succ, List.set_cons_zero, List.set_cons_succ, List.length_cons, List.length_nil, pk_I, pk_A, pr_A, pi_I, st_s, st_n, if_true, if_false, eq_self, d_if, d_ju, d_re, d_ca, cat0, cat1, cat2, cat3, fr_z, fr_s, cc_I, cc_A, cc_N, Nat.reduceAdd, Nat.reduceLT, Nat.reduceLeDiff, Nat.reduceEqDiff, not_true, not_false_iff, z1_0, z1_1, Bool.and_self, Bool.true_and, Bool.and_true, nI_add, pk_mul, nI_clamp, decide_true, Nat.le_refl, bI_eq, bI_z1, in_nI, pk_F]
  refine p_rests ck.1 ?_
  intro v1 q1
  have ck1 := CK_w ck q1
  have cm1 := CM_f (w' := w) cm (QW_8 q1) rfl
  refine go_at (blk := b_law_1033) rfl ?_
  simp (disch := omega) only [b_law_1033, be_6, be_4, be_1, be_12, be_71, be_57_2, kc_388, List.getD_cons_zero, List.getD_cons_succ, List.set_cons_zero, List.set_cons_succ, List.length_cons, List.length_nil, pk_I, pk_A, pr_A, pi_I, st_s, st_n, if_true, if_false, eq_self, d_if, d_ju, d_re, d_ca, cat0, cat1, cat2, cat3, fr_z, fr_s, cc_I, cc_A, cc_N, Nat.reduceAdd, Nat.reduceLT, Nat.reduceLeDiff, Nat.reduceEqDiff, not_true, not_false_iff, z1_0, z1_1, Bool.and_self, Bool.true_and, Bool.and_true, nI_add, pk_mul, nI_clamp, decide_true, Nat.le_refl, bI_eq, bI_z1, in_nI, pk_F]
  have cm0 := cm1
  obtain ⟨lv, o0, o1, mi, hx, wm, hh, _⟩ := cm0
  refine r_rests mi ?_
  intro v2 g2
  have ck2 := CK_f ck1 (MW_8 g2)
  have cm2 := CM_w cm1 g2
  refine go_at (blk := b_law_1047) rfl ?_
  simp (disch := omega) only [b_law_1047, be_49_0, List.getD_cons_zero, List.getD_cons_succ, List.set_cons_zero, List.set_cons_succ, List.length_cons, List.length_nil, pk_I, pk_A, pr_A, pi_I, st_s, st_n, if_true, if_false, eq_self, d_if, d_ju, d_re, d_ca, cat0, cat1, cat2, cat3, fr_z, fr_s, cc_I, cc_A, cc_N, Nat.reduceAdd, Nat.reduceLT, Nat.reduceLeDiff, Nat.reduceEqDiff, not_true, not_false_iff, z1_0, z1_1, Bool.and_self, Bool.true_and, Bool.and_true, nI_add, pk_mul, nI_clamp, decide_true, Nat.le_refl, bI_eq, bI_z1, in_nI, pk_F]
  exact hn _ w (LI_le ⟨_, _, _, _, _, _, _, _, _, _, _, _, _, ck2, cm2, cp⟩ (by omega) hB)
set_option maxHeartbeats 2000000 in
theorem s_secret {d i : Nat} {X : am_X} {u : UInt32} {v : Nat → Nat → Int32} {w : Nat → Nat → Int64} {Q : Option Value → am_H → Prop} {B : Int} (hX : X.1 ≤ 3072) (hi : i + 6 ≤ X.1) (hL : LI B v w) (hB : B + 300 ≤ 200000) (hn : ∀ v' w', LI (B + 300) v' w' → am_Go X (d + 29) k_law 1233 ([.float u, .ref 0, .ref 388, .int (nI i)], [], (428, 26053, KD, RF, v', w')) Q) : am_Go X (d + 29) k_law 1108 ([.float u, .ref 0, .ref 388, .int (nI i)], [], (428, 26053, KD, RF, v, w)) Q := by
  obtain ⟨T, f, sz, h, m, tp, tm, ts, hd, hs, len, P, pl, ck, cm, cp⟩ := hL
  refine go_at (blk := b_law_1108) rfl ?_
  simp (disch := omega) only [b_law_1108, be_6, be_4, be_1, be_12, be_71, be_57_2, kc_0, List.getD_cons_zero, List.getD_cons_succ, List.set_cons_zero, List.set_cons_succ, List.length_cons, List.length_nil, pk_I, pk_A, pr_A, pi_I, st_s, st_n, if_true, if_false, eq_self, d_if, d_ju, d_re, d_ca, cat0, cat1, cat2, cat3, fr_z, fr_s, cc_I, cc_A, cc_N, Nat.reduceAdd, Nat.reduceLT, Nat.reduceLeDiff, Nat.reduceEqDiff, not_true, not_false_iff, z1_0, z1_1, Bool.and_self, Bool.true_and, Bool.and_true, nI_add, pk_mul, nI_clamp, decide_true, Nat.le_refl, bI_eq, bI_z1, in_nI, pk_F]
  refine p_secret ck.1 ck.2.2.1 ?_
  intro v1 q1
  have ck1 := CK_w ck (QW_q q1)
  have cm1 := CM_f (w' := w) cm (QW_8 (QW_q q1)) rfl
  refine go_at (blk := b_law_1122) rfl ?_
  simp (disch := omega) only [b_law_1122, be_6, be_4, be_1, be_12, be_71, be_57_2, kc_388, List.getD_cons_zero, List.getD_cons_succ, List.set_cons_zero, List.set_cons_succ, List.length_cons, List.length_nil, pk_I, pk_A, pr_A, pi_I, st_s, st_n, if_true, if_false, eq_self, d_if, d_ju, d_re, d_ca, cat0, cat1, cat2, cat3, fr_z, fr_s, cc_I, cc_A, cc_N, Nat.reduceAdd, Nat.reduceLT, Nat.reduceLeDiff, Nat.reduceEqDiff, not_true, not_false_iff, z1_0, z1_1, Bool.and_self, Bool.true_and, Bool.and_true, nI_add, pk_mul, nI_clamp, decide_true, Nat.le_refl, bI_eq, bI_z1, in_nI, pk_F]
  have cm0 := cm1
  obtain ⟨lv, o0, o1, mi, hx, wm, hh, _⟩ := cm0
  refine r_secret mi wm cp.1.2.2.2 ?_
  intro v2 g2
  have ck2 := CK_f ck1 (MW_8 (MW_f g2))
  have cm2 := CM_w cm1 (MW_f g2)
  refine go_at (blk := b_law_1136) rfl ?_
  simp (disch := omega) only [b_law_1136, be_49_0, List.getD_cons_zero, List.getD_cons_succ, List.set_cons_zero, List.set_cons_succ, List.length_cons, List.length_nil, pk_I, pk_A, pr_A, pi_I, st_s, st_n, if_true, if_false, eq_self, d_if, d_ju, d_re, d_ca, cat0, cat1, cat2, cat3, fr_z, fr_s, cc_I, cc_A, cc_N, Nat.reduceAdd, Nat.reduceLT, Nat.reduceLeDiff, Nat.reduceEqDiff, not_true, not_false_iff, z1_0, z1_1, Bool.and_self, Bool.true_and, Bool.and_true, nI_add, pk_mul, nI_clamp, decide_true, Nat.le_refl, bI_eq, bI_z1, in_nI, pk_F]
  exact hn _ w (LI_le ⟨_, _, _, _, _, _, _, _, _, _, _, _, _, ck2, cm2, cp⟩ (by omega) hB)
set_option maxHeartbeats 2000000 in
theorem s_off {d i : Nat} {X : am_X} {u : UInt32} {v : Nat → Nat → Int32} {w : Nat → Nat → Int64} {Q : Option Value → am_H → Prop} {B : Int} (hX : X.1 ≤ 3072) (hi : i + 6 ≤ X.1) (hL : LI B v w) (hB : B + 300 ≤ 200000) (hn : ∀ v' w', LI (B + 300) v' w' → am_Go X (d + 29) k_law 1233 ([.float u, .ref 0, .ref 388, .int (nI i)], [], (428, 26053, KD, RF, v', w')) Q) : am_Go X (d + 29) k_law 1141 ([.float u, .ref 0, .ref 388, .int (nI i)], [], (428, 26053, KD, RF, v, w)) Q := by
  obtain ⟨T, f, sz, h, m, tp, tm, ts, hd, hs, len, P, pl, ck, cm, cp⟩ := hL
  refine go_at (blk := b_law_1141) rfl ?_
  simp (disch := omega) only [b_law_1141, be_6, be_4, be_1, be_12, be_71, be_57_1, kc_0, List.getD_cons_zero, List.getD_cons_succ, List.set_cons_zero, List.set_cons_succ, List.length_cons, List.length_nil, pk_I, pk_A, pr_A, pi_I, st_s, st_n, if_true, if_false, eq_self, d_if, d_ju, d_re, d_ca, cat0, cat1, cat2, cat3, fr_z, fr_s, cc_I, cc_A, cc_N, Nat.reduceAdd, Nat.reduceLT, Nat.reduceLeDiff, Nat.reduceEqDiff, not_true, not_false_iff, z1_0, z1_1, Bool.and_self, Bool.true_and, Bool.and_true, nI_add, pk_mul, nI_clamp, decide_true, Nat.le_refl, bI_eq, bI_z1, in_nI, pk_F]
  refine p_off ck.1 ck.2.2.1 ?_
  intro v1 q1
  have ck1 := CK_w ck (QW_q q1)
  have cm1 := CM_f (w' := w) cm (QW_8 (QW_q q1)) rfl
  refine go_at (blk := b_law_1150) rfl ?_
  simp (disch := omega) only [b_law_1150, be_6, be_4, be_1, be_12, be_71, be_57_1, kc_388, List.getD_cons_zero, List.getD_cons_succ, List.set_cons_zero, List.set_cons_succ, List.length_cons, List.length_nil, pk_I, pk_A, pr_A, pi_I, st_s, st_n, if_true, if_false, eq_self, d_if, d_ju, d_re, d_ca, cat0, cat1, cat2, cat3, fr_z, fr_s, cc_I, cc_A, cc_N, Nat.reduceAdd, Nat.reduceLT, Nat.reduceLeDiff, Nat.reduceEqDiff, not_true, not_false_iff, z1_0, z1_1, Bool.and_self, Bool.true_and, Bool.and_true, nI_add, pk_mul, nI_clamp, decide_true, Nat.le_refl, bI_eq, bI_z1, in_nI, pk_F]
  have cm0 := cm1
  obtain ⟨lv, o0, o1, mi, hx, wm, hh, _⟩ := cm0
  refine r_off mi wm cp.1.2.2.2 ?_
  intro v2 g2
  have ck2 := CK_f ck1 (MW_8 (MW_f g2))
  have cm2 := CM_w cm1 (MW_f g2)
  refine go_at (blk := b_law_1159) rfl ?_
  simp (disch := omega) only [b_law_1159, be_49_0, List.getD_cons_zero, List.getD_cons_succ, List.set_cons_zero, List.set_cons_succ, List.length_cons, List.length_nil, pk_I, pk_A, pr_A, pi_I, st_s, st_n, if_true, if_false, eq_self, d_if, d_ju, d_re, d_ca, cat0, cat1, cat2, cat3, fr_z, fr_s, cc_I, cc_A, cc_N, Nat.reduceAdd, Nat.reduceLT, Nat.reduceLeDiff, Nat.reduceEqDiff, not_true, not_false_iff, z1_0, z1_1, Bool.and_self, Bool.true_and, Bool.and_true, nI_add, pk_mul, nI_clamp, decide_true, Nat.le_refl, bI_eq, bI_z1, in_nI, pk_F]
  exact hn _ w (LI_le ⟨_, _, _, _, _, _, _, _, _, _, _, _, _, ck2, cm2, cp⟩ (by omega) hB)
