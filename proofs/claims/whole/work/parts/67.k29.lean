/-! laid by wip/whole/k29.py: the class: count -/
theorem swc_0 : am_swt 0 150 [60, 68, 76, 84, 100, 108, 116, 124, 129, 137, 145] (nI 0) = 60 := by decide
theorem swc_1 : am_swt 0 150 [60, 68, 76, 84, 100, 108, 116, 124, 129, 137, 145] (nI 1) = 68 := by decide
theorem swc_2 : am_swt 0 150 [60, 68, 76, 84, 100, 108, 116, 124, 129, 137, 145] (nI 2) = 76 := by decide
theorem swc_3 : am_swt 0 150 [60, 68, 76, 84, 100, 108, 116, 124, 129, 137, 145] (nI 3) = 84 := by decide
theorem swc_4 : am_swt 0 150 [60, 68, 76, 84, 100, 108, 116, 124, 129, 137, 145] (nI 4) = 100 := by decide
theorem swc_5 : am_swt 0 150 [60, 68, 76, 84, 100, 108, 116, 124, 129, 137, 145] (nI 5) = 108 := by decide
theorem swc_6 : am_swt 0 150 [60, 68, 76, 84, 100, 108, 116, 124, 129, 137, 145] (nI 6) = 116 := by decide
theorem swc_7 : am_swt 0 150 [60, 68, 76, 84, 100, 108, 116, 124, 129, 137, 145] (nI 7) = 124 := by decide
theorem swc_8 : am_swt 0 150 [60, 68, 76, 84, 100, 108, 116, 124, 129, 137, 145] (nI 8) = 129 := by decide
theorem swc_9 : am_swt 0 150 [60, 68, 76, 84, 100, 108, 116, 124, 129, 137, 145] (nI 9) = 137 := by decide
theorem swc_10 : am_swt 0 150 [60, 68, 76, 84, 100, 108, 116, 124, 129, 137, 145] (nI 10) = 145 := by decide
theorem swc_d {z : Int32} (h : ¬ (0 ≤ z.toInt ∧ z.toInt < 11)) : am_swt 0 150 [60, 68, 76, 84, 100, 108, 116, 124, 129, 137, 145] z = 150 := by
  unfold am_swt
  rw [if_pos ?_]
  simp
  omega
def coS (T : TXT) (f : Nat → Int32) (tp pz ws : Int32) (hh : Nat) (z : Int32) : Int32 := if z = nI 0 then nI (tN T) else if z = nI 1 then tT T else if z = nI 2 then f 41 else if z = nI 3 then nI (tN T) - nI (cnt (fun p => !onB f (-1) p) (tN T)) else if z = nI 4 then nI (cnt (fun p => !decide (f (8 + p) = 0)) (tN T)) else if z = nI 5 then f 40 else if z = nI 6 then f 42 else if z = nI 7 then tp else if z = nI 8 then pz else if z = nI 9 then ws else if z = nI 10 then nI hh else -10000
theorem co_d {T : TXT} {f : Nat → Int32} {tp pz ws : Int32} {hh : Nat} {z : Int32} (h : ¬ (0 ≤ z.toInt ∧ z.toInt < 11)) : coS T f tp pz ws hh z = -10000 := by
  have hz : ∀ k, k < 11 → ¬ z = nI k := by
    intro k hk e
    rw [e, nI_toInt (by omega)] at h
    omega
  unfold coS
  rw [if_neg (hz 0 (by omega)), if_neg (hz 1 (by omega)), if_neg (hz 2 (by omega)), if_neg (hz 3 (by omega)), if_neg (hz 4 (by omega)), if_neg (hz 5 (by omega)), if_neg (hz 6 (by omega)), if_neg (hz 7 (by omega)), if_neg (hz 8 (by omega)), if_neg (hz 9 (by omega)), if_neg (hz 10 (by omega))]
set_option maxHeartbeats 1000000 in
theorem p_count {d : Nat} {v : Nat → Nat → Int32} {w : Nat → Nat → Int64} {Q : Option Value → am_H → Prop} {T : TXT} {f : Nat → Int32} {B : Int} (hK : KI B v T f) {z : Int32} (hQ : Q (some (.int (coS T f (v 0 1) (v 48 2) (v 358 5) (hhN (v 369) 3) z))) (428, 26053, KD, RF, v, w)) : am_Ca (d + 3) M_KneeStair_count [.ref 0, .int z] (428, 26053, KD, RF, v, w) Q := by
  have h8 := hK.1.1
  have k1 := hK.1.2.1
  have k2 := hK.1.2.2.1
  have a6 : v 42 6 = f 40 := hK.2.1.2.1
  have a7 : v 42 7 = f 41 := hK.2.1.2.2.1
  have a8 : v 42 8 = f 42 := hK.2.1.2.2.2.1
  refine ca_in (k := k_KneeStair_count) (nL := 2) rfl (Nat.le_of_ble_eq_true rfl) ?_
  show am_Go am_X0 _ k_KneeStair_count 0 ([.ref 0, .int z], [], _) _
  by_cases hz : 0 ≤ z.toInt ∧ z.toInt < 11
  · obtain ⟨k, hk, rfl⟩ := sw_of (m := 11) (by omega) hz
    rcases (show k = 0 ∨ k = 1 ∨ k = 2 ∨ k = 3 ∨ k = 4 ∨ k = 5 ∨ k = 6 ∨ k = 7 ∨ k = 8 ∨ k = 9 ∨ k = 10 by omega) with rfl | rfl | rfl | rfl | rfl | rfl | rfl | rfl | rfl | rfl | rfl
    · show am_Go am_X0 _ k_KneeStair_count 0 _ _
      refine go_at (blk := b_KneeStair_count_0) rfl ?_
      simp (disch := omega) only [b_KneeStair_count_0, be_4, be_52, List.getD_cons_zero, List.getD_cons_succ, List.set_cons_zero, List.set_cons_succ, List.length_cons, List.length_nil, pk_I, pk_A, pr_A, pi_I, st_s, st_n, if_true, if_false, eq_self, d_if, d_ju, d_re, d_ca, cat0, cat1, cat2, cat3, fr_z, fr_s, cc_I, cc_A, cc_N, Nat.reduceAdd, Nat.reduceLT, Nat.reduceLeDiff, Nat.reduceEqDiff, not_true, not_false_iff, z1_0, z1_1, Bool.and_self, Bool.true_and, Bool.and_true, nI_add, pk_mul, nI_clamp, decide_true, Nat.le_refl, bI_eq, bI_z1, swc_0, k1]
      refine go_at (blk := b_KneeStair_count_60) rfl ?_
      simp (disch := omega) only [b_KneeStair_count_60, be_6, be_34, be_33, be_54, kc_0, rf_0_4, kc_25, List.getD_cons_zero, List.getD_cons_succ, List.set_cons_zero, List.set_cons_succ, List.length_cons, List.length_nil, pk_I, pk_A, pr_A, pi_I, st_s, st_n, if_true, if_false, eq_self, d_if, d_ju, d_re, d_ca, cat0, cat1, cat2, cat3, fr_z, fr_s, cc_I, cc_A, cc_N, Nat.reduceAdd, Nat.reduceLT, Nat.reduceLeDiff, Nat.reduceEqDiff, not_true, not_false_iff, z1_0, z1_1, Bool.and_self, Bool.true_and, Bool.and_true, nI_add, pk_mul, nI_clamp, decide_true, Nat.le_refl, bI_eq, bI_z1, swc_0, k1]
      exact hQ
    · show am_Go am_X0 _ k_KneeStair_count 0 _ _
      refine go_at (blk := b_KneeStair_count_0) rfl ?_
      simp (disch := omega) only [b_KneeStair_count_0, be_4, be_52, List.getD_cons_zero, List.getD_cons_succ, List.set_cons_zero, List.set_cons_succ, List.length_cons, List.length_nil, pk_I, pk_A, pr_A, pi_I, st_s, st_n, if_true, if_false, eq_self, d_if, d_ju, d_re, d_ca, cat0, cat1, cat2, cat3, fr_z, fr_s, cc_I, cc_A, cc_N, Nat.reduceAdd, Nat.reduceLT, Nat.reduceLeDiff, Nat.reduceEqDiff, not_true, not_false_iff, z1_0, z1_1, Bool.and_self, Bool.true_and, Bool.and_true, nI_add, pk_mul, nI_clamp, decide_true, Nat.le_refl, bI_eq, bI_z1, swc_1, k2]
      refine go_at (blk := b_KneeStair_count_68) rfl ?_
      simp (disch := omega) only [b_KneeStair_count_68, be_6, be_34, be_33, be_54, kc_0, rf_0_4, kc_25, List.getD_cons_zero, List.getD_cons_succ, List.set_cons_zero, List.set_cons_succ, List.length_cons, List.length_nil, pk_I, pk_A, pr_A, pi_I, st_s, st_n, if_true, if_false, eq_self, d_if, d_ju, d_re, d_ca, cat0, cat1, cat2, cat3, fr_z, fr_s, cc_I, cc_A, cc_N, Nat.reduceAdd, Nat.reduceLT, Nat.reduceLeDiff, Nat.reduceEqDiff, not_true, not_false_iff, z1_0, z1_1, Bool.and_self, Bool.true_and, Bool.and_true, nI_add, pk_mul, nI_clamp, decide_true, Nat.le_refl, bI_eq, bI_z1, swc_1, k2]
      exact hQ
    · show am_Go am_X0 _ k_KneeStair_count 0 _ _
      refine go_at (blk := b_KneeStair_count_0) rfl ?_
      simp (disch := omega) only [b_KneeStair_count_0, be_4, be_52, List.getD_cons_zero, List.getD_cons_succ, List.set_cons_zero, List.set_cons_succ, List.length_cons, List.length_nil, pk_I, pk_A, pr_A, pi_I, st_s, st_n, if_true, if_false, eq_self, d_if, d_ju, d_re, d_ca, cat0, cat1, cat2, cat3, fr_z, fr_s, cc_I, cc_A, cc_N, Nat.reduceAdd, Nat.reduceLT, Nat.reduceLeDiff, Nat.reduceEqDiff, not_true, not_false_iff, z1_0, z1_1, Bool.and_self, Bool.true_and, Bool.and_true, nI_add, pk_mul, nI_clamp, decide_true, Nat.le_refl, bI_eq, bI_z1, swc_2, a7]
      refine go_at (blk := b_KneeStair_count_76) rfl ?_
      simp (disch := omega) only [b_KneeStair_count_76, be_6, be_34, be_33, be_54, kc_0, rf_0_5, kc_42, List.getD_cons_zero, List.getD_cons_succ, List.set_cons_zero, List.set_cons_succ, List.length_cons, List.length_nil, pk_I, pk_A, pr_A, pi_I, st_s, st_n, if_true, if_false, eq_self, d_if, d_ju, d_re, d_ca, cat0, cat1, cat2, cat3, fr_z, fr_s, cc_I, cc_A, cc_N, Nat.reduceAdd, Nat.reduceLT, Nat.reduceLeDiff, Nat.reduceEqDiff, not_true, not_false_iff, z1_0, z1_1, Bool.and_self, Bool.true_and, Bool.and_true, nI_add, pk_mul, nI_clamp, decide_true, Nat.le_refl, bI_eq, bI_z1, swc_2, a7]
      exact hQ
    · show am_Go am_X0 _ k_KneeStair_count 0 _ _
      refine go_at (blk := b_KneeStair_count_0) rfl ?_
      simp (disch := omega) only [b_KneeStair_count_0, be_4, be_52, List.getD_cons_zero, List.getD_cons_succ, List.set_cons_zero, List.set_cons_succ, List.length_cons, List.length_nil, pk_I, pk_A, pr_A, pi_I, st_s, st_n, if_true, if_false, eq_self, d_if, d_ju, d_re, d_ca, cat0, cat1, cat2, cat3, fr_z, fr_s, cc_I, cc_A, cc_N, Nat.reduceAdd, Nat.reduceLT, Nat.reduceLeDiff, Nat.reduceEqDiff, not_true, not_false_iff, z1_0, z1_1, Bool.and_self, Bool.true_and, Bool.and_true, nI_add, pk_mul, nI_clamp, decide_true, Nat.le_refl, bI_eq, bI_z1, swc_3, k1]
      refine go_at (blk := b_KneeStair_count_84) rfl ?_
      simp (disch := omega) only [b_KneeStair_count_84, be_6, be_34, be_33, be_57_0, kc_0, rf_0_4, kc_25, rf_0_5, kc_42, List.getD_cons_zero, List.getD_cons_succ, List.set_cons_zero, List.set_cons_succ, List.length_cons, List.length_nil, pk_I, pk_A, pr_A, pi_I, st_s, st_n, if_true, if_false, eq_self, d_if, d_ju, d_re, d_ca, cat0, cat1, cat2, cat3, fr_z, fr_s, cc_I, cc_A, cc_N, Nat.reduceAdd, Nat.reduceLT, Nat.reduceLeDiff, Nat.reduceEqDiff, not_true, not_false_iff, z1_0, z1_1, Bool.and_self, Bool.true_and, Bool.and_true, nI_add, pk_mul, nI_clamp, decide_true, Nat.le_refl, bI_eq, bI_z1, swc_3, k1]
      refine k_arrived st_42 hK.1 hK.2.1 hK.2.2.1 ?_
      refine go_at (blk := b_KneeStair_count_98) rfl ?_
      simp (disch := omega) only [b_KneeStair_count_98, be_13, be_54, List.getD_cons_zero, List.getD_cons_succ, List.set_cons_zero, List.set_cons_succ, List.length_cons, List.length_nil, pk_I, pk_A, pr_A, pi_I, st_s, st_n, if_true, if_false, eq_self, d_if, d_ju, d_re, d_ca, cat0, cat1, cat2, cat3, fr_z, fr_s, cc_I, cc_A, cc_N, Nat.reduceAdd, Nat.reduceLT, Nat.reduceLeDiff, Nat.reduceEqDiff, not_true, not_false_iff, z1_0, z1_1, Bool.and_self, Bool.true_and, Bool.and_true, nI_add, pk_mul, nI_clamp, decide_true, Nat.le_refl, bI_eq, bI_z1, swc_3, k1]
      exact hQ
    · show am_Go am_X0 _ k_KneeStair_count 0 _ _
      refine go_at (blk := b_KneeStair_count_0) rfl ?_
      simp (disch := omega) only [b_KneeStair_count_0, be_4, be_52, List.getD_cons_zero, List.getD_cons_succ, List.set_cons_zero, List.set_cons_succ, List.length_cons, List.length_nil, pk_I, pk_A, pr_A, pi_I, st_s, st_n, if_true, if_false, eq_self, d_if, d_ju, d_re, d_ca, cat0, cat1, cat2, cat3, fr_z, fr_s, cc_I, cc_A, cc_N, Nat.reduceAdd, Nat.reduceLT, Nat.reduceLeDiff, Nat.reduceEqDiff, not_true, not_false_iff, z1_0, z1_1, Bool.and_self, Bool.true_and, Bool.and_true, nI_add, pk_mul, nI_clamp, decide_true, Nat.le_refl, bI_eq, bI_z1, swc_4]
      refine go_at (blk := b_KneeStair_count_100) rfl ?_
      simp (disch := omega) only [b_KneeStair_count_100, be_6, be_34, be_57_0, kc_0, rf_0_5, kc_42, List.getD_cons_zero, List.getD_cons_succ, List.set_cons_zero, List.set_cons_succ, List.length_cons, List.length_nil, pk_I, pk_A, pr_A, pi_I, st_s, st_n, if_true, if_false, eq_self, d_if, d_ju, d_re, d_ca, cat0, cat1, cat2, cat3, fr_z, fr_s, cc_I, cc_A, cc_N, Nat.reduceAdd, Nat.reduceLT, Nat.reduceLeDiff, Nat.reduceEqDiff, not_true, not_false_iff, z1_0, z1_1, Bool.and_self, Bool.true_and, Bool.and_true, nI_add, pk_mul, nI_clamp, decide_true, Nat.le_refl, bI_eq, bI_z1, swc_4]
      refine k_kneel st_42 hK.1 hK.2.1 hK.2.2.1 ?_
      refine go_at (blk := b_KneeStair_count_107) rfl ?_
      simp (disch := omega) only [b_KneeStair_count_107, be_54, List.getD_cons_zero, List.getD_cons_succ, List.set_cons_zero, List.set_cons_succ, List.length_cons, List.length_nil, pk_I, pk_A, pr_A, pi_I, st_s, st_n, if_true, if_false, eq_self, d_if, d_ju, d_re, d_ca, cat0, cat1, cat2, cat3, fr_z, fr_s, cc_I, cc_A, cc_N, Nat.reduceAdd, Nat.reduceLT, Nat.reduceLeDiff, Nat.reduceEqDiff, not_true, not_false_iff, z1_0, z1_1, Bool.and_self, Bool.true_and, Bool.and_true, nI_add, pk_mul, nI_clamp, decide_true, Nat.le_refl, bI_eq, bI_z1, swc_4]
      exact hQ
    · show am_Go am_X0 _ k_KneeStair_count 0 _ _
      refine go_at (blk := b_KneeStair_count_0) rfl ?_
      simp (disch := omega) only [b_KneeStair_count_0, be_4, be_52, List.getD_cons_zero, List.getD_cons_succ, List.set_cons_zero, List.set_cons_succ, List.length_cons, List.length_nil, pk_I, pk_A, pr_A, pi_I, st_s, st_n, if_true, if_false, eq_self, d_if, d_ju, d_re, d_ca, cat0, cat1, cat2, cat3, fr_z, fr_s, cc_I, cc_A, cc_N, Nat.reduceAdd, Nat.reduceLT, Nat.reduceLeDiff, Nat.reduceEqDiff, not_true, not_false_iff, z1_0, z1_1, Bool.and_self, Bool.true_and, Bool.and_true, nI_add, pk_mul, nI_clamp, decide_true, Nat.le_refl, bI_eq, bI_z1, swc_5, a6]
      refine go_at (blk := b_KneeStair_count_108) rfl ?_
      simp (disch := omega) only [b_KneeStair_count_108, be_6, be_34, be_33, be_54, kc_0, rf_0_5, kc_42, List.getD_cons_zero, List.getD_cons_succ, List.set_cons_zero, List.set_cons_succ, List.length_cons, List.length_nil, pk_I, pk_A, pr_A, pi_I, st_s, st_n, if_true, if_false, eq_self, d_if, d_ju, d_re, d_ca, cat0, cat1, cat2, cat3, fr_z, fr_s, cc_I, cc_A, cc_N, Nat.reduceAdd, Nat.reduceLT, Nat.reduceLeDiff, Nat.reduceEqDiff, not_true, not_false_iff, z1_0, z1_1, Bool.and_self, Bool.true_and, Bool.and_true, nI_add, pk_mul, nI_clamp, decide_true, Nat.le_refl, bI_eq, bI_z1, swc_5, a6]
      exact hQ
    · show am_Go am_X0 _ k_KneeStair_count 0 _ _
      refine go_at (blk := b_KneeStair_count_0) rfl ?_
      simp (disch := omega) only [b_KneeStair_count_0, be_4, be_52, List.getD_cons_zero, List.getD_cons_succ, List.set_cons_zero, List.set_cons_succ, List.length_cons, List.length_nil, pk_I, pk_A, pr_A, pi_I, st_s, st_n, if_true, if_false, eq_self, d_if, d_ju, d_re, d_ca, cat0, cat1, cat2, cat3, fr_z, fr_s, cc_I, cc_A, cc_N, Nat.reduceAdd, Nat.reduceLT, Nat.reduceLeDiff, Nat.reduceEqDiff, not_true, not_false_iff, z1_0, z1_1, Bool.and_self, Bool.true_and, Bool.and_true, nI_add, pk_mul, nI_clamp, decide_true, Nat.le_refl, bI_eq, bI_z1, swc_6, a8]
      refine go_at (blk := b_KneeStair_count_116) rfl ?_
      simp (disch := omega) only [b_KneeStair_count_116, be_6, be_34, be_33, be_54, kc_0, rf_0_5, kc_42, List.getD_cons_zero, List.getD_cons_succ, List.set_cons_zero, List.set_cons_succ, List.length_cons, List.length_nil, pk_I, pk_A, pr_A, pi_I, st_s, st_n, if_true, if_false, eq_self, d_if, d_ju, d_re, d_ca, cat0, cat1, cat2, cat3, fr_z, fr_s, cc_I, cc_A, cc_N, Nat.reduceAdd, Nat.reduceLT, Nat.reduceLeDiff, Nat.reduceEqDiff, not_true, not_false_iff, z1_0, z1_1, Bool.and_self, Bool.true_and, Bool.and_true, nI_add, pk_mul, nI_clamp, decide_true, Nat.le_refl, bI_eq, bI_z1, swc_6, a8]
      exact hQ
    · show am_Go am_X0 _ k_KneeStair_count 0 _ _
      refine go_at (blk := b_KneeStair_count_0) rfl ?_
      simp (disch := omega) only [b_KneeStair_count_0, be_4, be_52, List.getD_cons_zero, List.getD_cons_succ, List.set_cons_zero, List.set_cons_succ, List.length_cons, List.length_nil, pk_I, pk_A, pr_A, pi_I, st_s, st_n, if_true, if_false, eq_self, d_if, d_ju, d_re, d_ca, cat0, cat1, cat2, cat3, fr_z, fr_s, cc_I, cc_A, cc_N, Nat.reduceAdd, Nat.reduceLT, Nat.reduceLeDiff, Nat.reduceEqDiff, not_true, not_false_iff, z1_0, z1_1, Bool.and_self, Bool.true_and, Bool.and_true, nI_add, pk_mul, nI_clamp, decide_true, Nat.le_refl, bI_eq, bI_z1, swc_7]
      refine go_at (blk := b_KneeStair_count_124) rfl ?_
      simp (disch := omega) only [b_KneeStair_count_124, be_6, be_33, be_54, kc_0, List.getD_cons_zero, List.getD_cons_succ, List.set_cons_zero, List.set_cons_succ, List.length_cons, List.length_nil, pk_I, pk_A, pr_A, pi_I, st_s, st_n, if_true, if_false, eq_self, d_if, d_ju, d_re, d_ca, cat0, cat1, cat2, cat3, fr_z, fr_s, cc_I, cc_A, cc_N, Nat.reduceAdd, Nat.reduceLT, Nat.reduceLeDiff, Nat.reduceEqDiff, not_true, not_false_iff, z1_0, z1_1, Bool.and_self, Bool.true_and, Bool.and_true, nI_add, pk_mul, nI_clamp, decide_true, Nat.le_refl, bI_eq, bI_z1, swc_7]
      exact hQ
    · show am_Go am_X0 _ k_KneeStair_count 0 _ _
      refine go_at (blk := b_KneeStair_count_0) rfl ?_
      simp (disch := omega) only [b_KneeStair_count_0, be_4, be_52, List.getD_cons_zero, List.getD_cons_succ, List.set_cons_zero, List.set_cons_succ, List.length_cons, List.length_nil, pk_I, pk_A, pr_A, pi_I, st_s, st_n, if_true, if_false, eq_self, d_if, d_ju, d_re, d_ca, cat0, cat1, cat2, cat3, fr_z, fr_s, cc_I, cc_A, cc_N, Nat.reduceAdd, Nat.reduceLT, Nat.reduceLeDiff, Nat.reduceEqDiff, not_true, not_false_iff, z1_0, z1_1, Bool.and_self, Bool.true_and, Bool.and_true, nI_add, pk_mul, nI_clamp, decide_true, Nat.le_refl, bI_eq, bI_z1, swc_8]
      refine go_at (blk := b_KneeStair_count_129) rfl ?_
      simp (disch := omega) only [b_KneeStair_count_129, be_6, be_34, be_33, be_54, kc_0, rf_0_6, kc_48, List.getD_cons_zero, List.getD_cons_succ, List.set_cons_zero, List.set_cons_succ, List.length_cons, List.length_nil, pk_I, pk_A, pr_A, pi_I, st_s, st_n, if_true, if_false, eq_self, d_if, d_ju, d_re, d_ca, cat0, cat1, cat2, cat3, fr_z, fr_s, cc_I, cc_A, cc_N, Nat.reduceAdd, Nat.reduceLT, Nat.reduceLeDiff, Nat.reduceEqDiff, not_true, not_false_iff, z1_0, z1_1, Bool.and_self, Bool.true_and, Bool.and_true, nI_add, pk_mul, nI_clamp, decide_true, Nat.le_refl, bI_eq, bI_z1, swc_8]
      exact hQ
    · show am_Go am_X0 _ k_KneeStair_count 0 _ _
      refine go_at (blk := b_KneeStair_count_0) rfl ?_
      simp (disch := omega) only [b_KneeStair_count_0, be_4, be_52, List.getD_cons_zero, List.getD_cons_succ, List.set_cons_zero, List.set_cons_succ, List.length_cons, List.length_nil, pk_I, pk_A, pr_A, pi_I, st_s, st_n, if_true, if_false, eq_self, d_if, d_ju, d_re, d_ca, cat0, cat1, cat2, cat3, fr_z, fr_s, cc_I, cc_A, cc_N, Nat.reduceAdd, Nat.reduceLT, Nat.reduceLeDiff, Nat.reduceEqDiff, not_true, not_false_iff, z1_0, z1_1, Bool.and_self, Bool.true_and, Bool.and_true, nI_add, pk_mul, nI_clamp, decide_true, Nat.le_refl, bI_eq, bI_z1, swc_9]
      refine go_at (blk := b_KneeStair_count_137) rfl ?_
      simp (disch := omega) only [b_KneeStair_count_137, be_6, be_34, be_33, be_54, kc_0, rf_0_8, kc_358, List.getD_cons_zero, List.getD_cons_succ, List.set_cons_zero, List.set_cons_succ, List.length_cons, List.length_nil, pk_I, pk_A, pr_A, pi_I, st_s, st_n, if_true, if_false, eq_self, d_if, d_ju, d_re, d_ca, cat0, cat1, cat2, cat3, fr_z, fr_s, cc_I, cc_A, cc_N, Nat.reduceAdd, Nat.reduceLT, Nat.reduceLeDiff, Nat.reduceEqDiff, not_true, not_false_iff, z1_0, z1_1, Bool.and_self, Bool.true_and, Bool.and_true, nI_add, pk_mul, nI_clamp, decide_true, Nat.le_refl, bI_eq, bI_z1, swc_9]
      exact hQ
    · show am_Go am_X0 _ k_KneeStair_count 0 _ _
      refine go_at (blk := b_KneeStair_count_0) rfl ?_
      simp (disch := omega) only [b_KneeStair_count_0, be_4, be_52, List.getD_cons_zero, List.getD_cons_succ, List.set_cons_zero, List.set_cons_succ, List.length_cons, List.length_nil, pk_I, pk_A, pr_A, pi_I, st_s, st_n, if_true, if_false, eq_self, d_if, d_ju, d_re, d_ca, cat0, cat1, cat2, cat3, fr_z, fr_s, cc_I, cc_A, cc_N, Nat.reduceAdd, Nat.reduceLT, Nat.reduceLeDiff, Nat.reduceEqDiff, not_true, not_false_iff, z1_0, z1_1, Bool.and_self, Bool.true_and, Bool.and_true, nI_add, pk_mul, nI_clamp, decide_true, Nat.le_refl, bI_eq, bI_z1, swc_10]
      refine go_at (blk := b_KneeStair_count_145) rfl ?_
      simp (disch := omega) only [b_KneeStair_count_145, be_6, be_57_0, kc_0, List.getD_cons_zero, List.getD_cons_succ, List.set_cons_zero, List.set_cons_succ, List.length_cons, List.length_nil, pk_I, pk_A, pr_A, pi_I, st_s, st_n, if_true, if_false, eq_self, d_if, d_ju, d_re, d_ca, cat0, cat1, cat2, cat3, fr_z, fr_s, cc_I, cc_A, cc_N, Nat.reduceAdd, Nat.reduceLT, Nat.reduceLeDiff, Nat.reduceEqDiff, not_true, not_false_iff, z1_0, z1_1, Bool.and_self, Bool.true_and, Bool.and_true, nI_add, pk_mul, nI_clamp, decide_true, Nat.le_refl, bI_eq, bI_z1, swc_10]
      refine k_held ?_
      refine go_at (blk := b_KneeStair_count_149) rfl ?_
      simp (disch := omega) only [b_KneeStair_count_149, be_54, List.getD_cons_zero, List.getD_cons_succ, List.set_cons_zero, List.set_cons_succ, List.length_cons, List.length_nil, pk_I, pk_A, pr_A, pi_I, st_s, st_n, if_true, if_false, eq_self, d_if, d_ju, d_re, d_ca, cat0, cat1, cat2, cat3, fr_z, fr_s, cc_I, cc_A, cc_N, Nat.reduceAdd, Nat.reduceLT, Nat.reduceLeDiff, Nat.reduceEqDiff, not_true, not_false_iff, z1_0, z1_1, Bool.and_self, Bool.true_and, Bool.and_true, nI_add, pk_mul, nI_clamp, decide_true, Nat.le_refl, bI_eq, bI_z1, swc_10]
      exact hQ
  · have hsw := swc_d hz
    refine go_at (blk := b_KneeStair_count_0) rfl ?_
    simp (disch := omega) only [b_KneeStair_count_0, be_4, be_52, List.getD_cons_zero, List.getD_cons_succ, List.set_cons_zero, List.set_cons_succ, List.length_cons, List.length_nil, pk_I, pk_A, pr_A, pi_I, st_s, st_n, if_true, if_false, eq_self, d_if, d_ju, d_re, d_ca, cat0, cat1, cat2, cat3, fr_z, fr_s, cc_I, cc_A, cc_N, Nat.reduceAdd, Nat.reduceLT, Nat.reduceLeDiff, Nat.reduceEqDiff, not_true, not_false_iff, z1_0, z1_1, Bool.and_self, Bool.true_and, Bool.and_true, nI_add, pk_mul, nI_clamp, decide_true, Nat.le_refl, bI_eq, bI_z1, hsw]
    refine go_at (blk := b_KneeStair_count_150) rfl ?_
    simp (disch := omega) only [b_KneeStair_count_150, be_2, be_54, List.getD_cons_zero, List.getD_cons_succ, List.set_cons_zero, List.set_cons_succ, List.length_cons, List.length_nil, pk_I, pk_A, pr_A, pi_I, st_s, st_n, if_true, if_false, eq_self, d_if, d_ju, d_re, d_ca, cat0, cat1, cat2, cat3, fr_z, fr_s, cc_I, cc_A, cc_N, Nat.reduceAdd, Nat.reduceLT, Nat.reduceLeDiff, Nat.reduceEqDiff, not_true, not_false_iff, z1_0, z1_1, Bool.and_self, Bool.true_and, Bool.and_true, nI_add, pk_mul, nI_clamp, decide_true, Nat.le_refl, bI_eq, bI_z1, hsw]
    rw [co_d hz] at hQ
    exact hQ
