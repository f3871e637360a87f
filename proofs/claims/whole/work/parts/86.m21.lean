/-! laid by wip/whole/m21.py: the reference: count, tell, hold, restore, feed -/
theorem swm_0 : am_swt 0 210 [64, 74, 84, 92, 97, 134, 142, 150, 155, 160, 165] (nI 0) = 64 := by decide
theorem swm_1 : am_swt 0 210 [64, 74, 84, 92, 97, 134, 142, 150, 155, 160, 165] (nI 1) = 74 := by decide
theorem swm_2 : am_swt 0 210 [64, 74, 84, 92, 97, 134, 142, 150, 155, 160, 165] (nI 2) = 84 := by decide
theorem swm_3 : am_swt 0 210 [64, 74, 84, 92, 97, 134, 142, 150, 155, 160, 165] (nI 3) = 92 := by decide
theorem swm_4 : am_swt 0 210 [64, 74, 84, 92, 97, 134, 142, 150, 155, 160, 165] (nI 4) = 97 := by decide
theorem swm_5 : am_swt 0 210 [64, 74, 84, 92, 97, 134, 142, 150, 155, 160, 165] (nI 5) = 134 := by decide
theorem swm_6 : am_swt 0 210 [64, 74, 84, 92, 97, 134, 142, 150, 155, 160, 165] (nI 6) = 142 := by decide
theorem swm_7 : am_swt 0 210 [64, 74, 84, 92, 97, 134, 142, 150, 155, 160, 165] (nI 7) = 150 := by decide
theorem swm_8 : am_swt 0 210 [64, 74, 84, 92, 97, 134, 142, 150, 155, 160, 165] (nI 8) = 155 := by decide
theorem swm_9 : am_swt 0 210 [64, 74, 84, 92, 97, 134, 142, 150, 155, 160, 165] (nI 9) = 160 := by decide
theorem swm_10 : am_swt 0 210 [64, 74, 84, 92, 97, 134, 142, 150, 155, 160, 165] (nI 10) = 165 := by decide
theorem swm_d {z : Int32} (h : ¬ (0 ≤ z.toInt ∧ z.toInt < 11)) : am_swt 0 210 [64, 74, 84, 92, 97, 134, 142, 150, 155, 160, 165] z = 210 := by
  unfold am_swt
  rw [if_pos ?_]
  simp
  omega
theorem cn_3 {g : Nat → Bool} {n : Nat} : nI n - nI (cnt (fun p => !g p) n) = nI (cnt g n) := by
  have h := cnt_not g n
  rw [show nI n = nI (cnt g n + cnt (fun p => !g p) n) by rw [h], ← nI_add]
  exact Int32.add_sub_cancel _ _
theorem cn_4 {B : Int} {n : Nat} {f : Nat → Int32} (h : GR B n f) : ∀ i, i ≤ n → smI 0 (fun p => f (8 + p)) i = nI (cnt (fun p => !decide (f (8 + p) = 0)) i) := by
  intro i
  induction i with
  | zero => intro _; rfl
  | succ i ih =>
    intro hi
    show smI 0 (fun p => f (8 + p)) i + f (8 + i) = _
    rw [ih (by omega)]
    rcases (h.1 i (by omega)).1 with e | e
    · rw [cnt_f (g := fun p => !decide (f (8 + p) = 0)) (by simp [e]), e, Int32.add_zero]
    · rw [cnt_t (g := fun p => !decide (f (8 + p) = 0)) (by simp [e]), e]
      exact nI_add _ 1
theorem hh_3 {g : Nat → Int32} : hhN g 3 = (if g 0 = 0 then 0 else 1) + (if g 1 = 0 then 0 else 1) + (if g 2 = 0 then 0 else 1) := by
  unfold hhN cnt cnt cnt cnt
  simp only [Nat.zero_add, Bool.not_eq_true', decide_eq_false_iff_not, ite_not]
set_option maxHeartbeats 1000000 in
theorem r_count {d : Nat} {v : Nat → Nat → Int32} {w : Nat → Nat → Int64} {Q : Option Value → am_H → Prop} {T : TXT} {lv : Nat} {f : Nat → Int32} {B : Int} (hM : MI B v T lv f) {z : Int32} (hQ : ∀ v', MF v v' → Q (some (.int (coS T f (v 388 2) (v 388 51) (v 388 55) (hhN (v 426) 3) z))) (428, 26053, KD, RF, v', w)) : am_Ca (d + 4) M_Model_count [.ref 388, .int z] (428, 26053, KD, RF, v, w) Q := by
  have h8 := hM.2.2.2.2.1.1
  refine ca_in (k := k_Model_count) (nL := 4) rfl (Nat.le_of_ble_eq_true rfl) ?_
  show am_Go am_X0 _ k_Model_count 0 ([.ref 388, .int z, .null, .null], [], _) _
  refine go_at (blk := b_Model_count_0) rfl ?_
  simp (disch := omega) only [b_Model_count_0, be_6, be_57_0, kc_388, List.getD_cons_zero, List.getD_cons_succ, List.set_cons_zero, List.set_cons_succ, List.length_cons, List.length_nil, pk_I, pk_A, pr_A, pi_I, st_s, st_n, if_true, if_false, eq_self, d_if, d_ju, d_re, d_ca, cat0, cat1, cat2, cat3, fr_z, fr_s, cc_I, cc_A, cc_N, Nat.reduceAdd, Nat.reduceLT, Nat.reduceLeDiff, Nat.reduceEqDiff, not_true, not_false_iff, z1_0, z1_1, Bool.and_self, Bool.true_and, Bool.and_true, nI_add, pk_mul, nI_clamp, decide_true, Nat.le_refl, bI_eq, bI_z1]
  refine rm_copies hM ?_
  intro v1 q1 r1
  have e1 : v1 419 = f := r1.1
  obtain ⟨k18, hlv, k398, _⟩ := (MI_f hM q1).1.1
  have k397 : v1 397 lv = tT T := (MI_f hM q1).1.2.1
  have e2 : v1 388 2 = v 388 2 := q1.2.1 2 (by omega) (by omega) (by omega)
  have e51 : v1 388 51 = v 388 51 := q1.2.1 51 (by omega) (by omega) (by omega)
  have e55 : v1 388 55 = v 388 55 := q1.2.1 55 (by omega) (by omega) (by omega)
  have e426 : v1 426 = v 426 := q1.1 426 (by omega) (by omega) (by omega) (by omega)
  by_cases hz : 0 ≤ z.toInt ∧ z.toInt < 11
  · obtain ⟨k, hk, rfl⟩ := sw_of (m := 11) (by omega) hz
    rcases (show k = 0 ∨ k = 1 ∨ k = 2 ∨ k = 3 ∨ k = 4 ∨ k = 5 ∨ k = 6 ∨ k = 7 ∨ k = 8 ∨ k = 9 ∨ k = 10 by omega) with rfl | rfl | rfl | rfl | rfl | rfl | rfl | rfl | rfl | rfl | rfl
    · show am_Go am_X0 _ k_Model_count 4 _ _
      refine go_at (blk := b_Model_count_4) rfl ?_
      simp (disch := omega) only [b_Model_count_4, be_4, be_52, List.getD_cons_zero, List.getD_cons_succ, List.set_cons_zero, List.set_cons_succ, List.length_cons, List.length_nil, pk_I, pk_A, pr_A, pi_I, st_s, st_n, if_true, if_false, eq_self, d_if, d_ju, d_re, d_ca, cat0, cat1, cat2, cat3, fr_z, fr_s, cc_I, cc_A, cc_N, Nat.reduceAdd, Nat.reduceLT, Nat.reduceLeDiff, Nat.reduceEqDiff, not_true, not_false_iff, z1_0, z1_1, Bool.and_self, Bool.true_and, Bool.and_true, nI_add, pk_mul, nI_clamp, decide_true, Nat.le_refl, bI_eq, bI_z1, nI_ltI, nI_leI, e1, k18, k398, swm_0]
      refine go_at (blk := b_Model_count_64) rfl ?_
      simp (disch := omega) only [b_Model_count_64, be_6, be_34, be_33, be_38, be_54, kc_388, rf_388_23, ka_398, List.getD_cons_zero, List.getD_cons_succ, List.set_cons_zero, List.set_cons_succ, List.length_cons, List.length_nil, pk_I, pk_A, pr_A, pi_I, st_s, st_n, if_true, if_false, eq_self, d_if, d_ju, d_re, d_ca, cat0, cat1, cat2, cat3, fr_z, fr_s, cc_I, cc_A, cc_N, Nat.reduceAdd, Nat.reduceLT, Nat.reduceLeDiff, Nat.reduceEqDiff, not_true, not_false_iff, z1_0, z1_1, Bool.and_self, Bool.true_and, Bool.and_true, nI_add, pk_mul, nI_clamp, decide_true, Nat.le_refl, bI_eq, bI_z1, nI_ltI, nI_leI, e1, k18, k398, swm_0]
      exact hQ v1 q1
    · show am_Go am_X0 _ k_Model_count 4 _ _
      refine go_at (blk := b_Model_count_4) rfl ?_
      simp (disch := omega) only [b_Model_count_4, be_4, be_52, List.getD_cons_zero, List.getD_cons_succ, List.set_cons_zero, List.set_cons_succ, List.length_cons, List.length_nil, pk_I, pk_A, pr_A, pi_I, st_s, st_n, if_true, if_false, eq_self, d_if, d_ju, d_re, d_ca, cat0, cat1, cat2, cat3, fr_z, fr_s, cc_I, cc_A, cc_N, Nat.reduceAdd, Nat.reduceLT, Nat.reduceLeDiff, Nat.reduceEqDiff, not_true, not_false_iff, z1_0, z1_1, Bool.and_self, Bool.true_and, Bool.and_true, nI_add, pk_mul, nI_clamp, decide_true, Nat.le_refl, bI_eq, bI_z1, nI_ltI, nI_leI, e1, k18, k398, swm_1, k397]
      refine go_at (blk := b_Model_count_74) rfl ?_
      simp (disch := omega) only [b_Model_count_74, be_6, be_34, be_33, be_38, be_54, kc_388, rf_388_22, ka_397, List.getD_cons_zero, List.getD_cons_succ, List.set_cons_zero, List.set_cons_succ, List.length_cons, List.length_nil, pk_I, pk_A, pr_A, pi_I, st_s, st_n, if_true, if_false, eq_self, d_if, d_ju, d_re, d_ca, cat0, cat1, cat2, cat3, fr_z, fr_s, cc_I, cc_A, cc_N, Nat.reduceAdd, Nat.reduceLT, Nat.reduceLeDiff, Nat.reduceEqDiff, not_true, not_false_iff, z1_0, z1_1, Bool.and_self, Bool.true_and, Bool.and_true, nI_add, pk_mul, nI_clamp, decide_true, Nat.le_refl, bI_eq, bI_z1, nI_ltI, nI_leI, e1, k18, k398, swm_1, k397]
      exact hQ v1 q1
    · show am_Go am_X0 _ k_Model_count 4 _ _
      refine go_at (blk := b_Model_count_4) rfl ?_
      simp (disch := omega) only [b_Model_count_4, be_4, be_52, List.getD_cons_zero, List.getD_cons_succ, List.set_cons_zero, List.set_cons_succ, List.length_cons, List.length_nil, pk_I, pk_A, pr_A, pi_I, st_s, st_n, if_true, if_false, eq_self, d_if, d_ju, d_re, d_ca, cat0, cat1, cat2, cat3, fr_z, fr_s, cc_I, cc_A, cc_N, Nat.reduceAdd, Nat.reduceLT, Nat.reduceLeDiff, Nat.reduceEqDiff, not_true, not_false_iff, z1_0, z1_1, Bool.and_self, Bool.true_and, Bool.and_true, nI_add, pk_mul, nI_clamp, decide_true, Nat.le_refl, bI_eq, bI_z1, nI_ltI, nI_leI, e1, k18, k398, swm_2]
      refine go_at (blk := b_Model_count_84) rfl ?_
      simp (disch := omega) only [b_Model_count_84, be_6, be_34, be_1, be_38, be_54, kc_388, rf_388_48, ka_419, List.getD_cons_zero, List.getD_cons_succ, List.set_cons_zero, List.set_cons_succ, List.length_cons, List.length_nil, pk_I, pk_A, pr_A, pi_I, st_s, st_n, if_true, if_false, eq_self, d_if, d_ju, d_re, d_ca, cat0, cat1, cat2, cat3, fr_z, fr_s, cc_I, cc_A, cc_N, Nat.reduceAdd, Nat.reduceLT, Nat.reduceLeDiff, Nat.reduceEqDiff, not_true, not_false_iff, z1_0, z1_1, Bool.and_self, Bool.true_and, Bool.and_true, nI_add, pk_mul, nI_clamp, decide_true, Nat.le_refl, bI_eq, bI_z1, nI_ltI, nI_leI, e1, k18, k398, swm_2]
      exact hQ v1 q1
    · show am_Go am_X0 _ k_Model_count 4 _ _
      refine go_at (blk := b_Model_count_4) rfl ?_
      simp (disch := omega) only [b_Model_count_4, be_4, be_52, List.getD_cons_zero, List.getD_cons_succ, List.set_cons_zero, List.set_cons_succ, List.length_cons, List.length_nil, pk_I, pk_A, pr_A, pi_I, st_s, st_n, if_true, if_false, eq_self, d_if, d_ju, d_re, d_ca, cat0, cat1, cat2, cat3, fr_z, fr_s, cc_I, cc_A, cc_N, Nat.reduceAdd, Nat.reduceLT, Nat.reduceLeDiff, Nat.reduceEqDiff, not_true, not_false_iff, z1_0, z1_1, Bool.and_self, Bool.true_and, Bool.and_true, nI_add, pk_mul, nI_clamp, decide_true, Nat.le_refl, bI_eq, bI_z1, nI_ltI, nI_leI, e1, k18, k398, swm_3]
      refine go_at (blk := b_Model_count_92) rfl ?_
      simp (disch := omega) only [b_Model_count_92, be_6, be_57_0, kc_388, List.getD_cons_zero, List.getD_cons_succ, List.set_cons_zero, List.set_cons_succ, List.length_cons, List.length_nil, pk_I, pk_A, pr_A, pi_I, st_s, st_n, if_true, if_false, eq_self, d_if, d_ju, d_re, d_ca, cat0, cat1, cat2, cat3, fr_z, fr_s, cc_I, cc_A, cc_N, Nat.reduceAdd, Nat.reduceLT, Nat.reduceLeDiff, Nat.reduceEqDiff, not_true, not_false_iff, z1_0, z1_1, Bool.and_self, Bool.true_and, Bool.and_true, nI_add, pk_mul, nI_clamp, decide_true, Nat.le_refl, bI_eq, bI_z1, nI_ltI, nI_leI, e1, k18, k398, swm_3]
      refine r_onAll (MI_f hM q1).1 r1 ?_
      refine go_at (blk := b_Model_count_96) rfl ?_
      simp (disch := omega) only [b_Model_count_96, be_54, List.getD_cons_zero, List.getD_cons_succ, List.set_cons_zero, List.set_cons_succ, List.length_cons, List.length_nil, pk_I, pk_A, pr_A, pi_I, st_s, st_n, if_true, if_false, eq_self, d_if, d_ju, d_re, d_ca, cat0, cat1, cat2, cat3, fr_z, fr_s, cc_I, cc_A, cc_N, Nat.reduceAdd, Nat.reduceLT, Nat.reduceLeDiff, Nat.reduceEqDiff, not_true, not_false_iff, z1_0, z1_1, Bool.and_self, Bool.true_and, Bool.and_true, nI_add, pk_mul, nI_clamp, decide_true, Nat.le_refl, bI_eq, bI_z1, nI_ltI, nI_leI, e1, k18, k398, swm_3]
      have hr : coS T f (v 388 2) (v 388 51) (v 388 55) (hhN (v 426) 3) (nI 3) = nI (cnt (onB f (-1)) (tN T)) := (show coS T f (v 388 2) (v 388 51) (v 388 55) (hhN (v 426) 3) (nI 3) = nI (tN T) - nI (cnt (fun p => !onB f (-1) p) (tN T)) from rfl).trans cn_3
      rw [hr] at hQ
      exact hQ v1 q1
    · show am_Go am_X0 _ k_Model_count 4 _ _
      refine go_at (blk := b_Model_count_4) rfl ?_
      simp (disch := omega) only [b_Model_count_4, be_4, be_52, List.getD_cons_zero, List.getD_cons_succ, List.set_cons_zero, List.set_cons_succ, List.length_cons, List.length_nil, pk_I, pk_A, pr_A, pi_I, st_s, st_n, if_true, if_false, eq_self, d_if, d_ju, d_re, d_ca, cat0, cat1, cat2, cat3, fr_z, fr_s, cc_I, cc_A, cc_N, Nat.reduceAdd, Nat.reduceLT, Nat.reduceLeDiff, Nat.reduceEqDiff, not_true, not_false_iff, z1_0, z1_1, Bool.and_self, Bool.true_and, Bool.and_true, nI_add, pk_mul, nI_clamp, decide_true, Nat.le_refl, bI_eq, bI_z1, nI_ltI, nI_leI, e1, k18, k398, swm_4]
      refine go_at (blk := b_Model_count_97) rfl ?_
      simp (disch := omega) only [b_Model_count_97, be_1, be_7, be_0, List.getD_cons_zero, List.getD_cons_succ, List.set_cons_zero, List.set_cons_succ, List.length_cons, List.length_nil, pk_I, pk_A, pr_A, pi_I, st_s, st_n, if_true, if_false, eq_self, d_if, d_ju, d_re, d_ca, cat0, cat1, cat2, cat3, fr_z, fr_s, cc_I, cc_A, cc_N, Nat.reduceAdd, Nat.reduceLT, Nat.reduceLeDiff, Nat.reduceEqDiff, not_true, not_false_iff, z1_0, z1_1, Bool.and_self, Bool.true_and, Bool.and_true, nI_add, pk_mul, nI_clamp, decide_true, Nat.le_refl, bI_eq, bI_z1, nI_ltI, nI_leI, e1, k18, k398, swm_4]
      refine go_loopA (α := Unit) (fun i u => ([.ref 388, .int (nI 4), .int (smI 0 (fun p => f (8 + p)) i), .int (nI i)], [], (428, 26053, KD, RF, v1, w))) (fun i u => True) (tN T) ?_ ?_ () trivial
      · intro i _ hi _ ih
        try dsimp only at *
        have hni : ¬ tN T ≤ i := by omega
        refine go_at (blk := b_Model_count_101) rfl ?_
        simp (disch := omega) only [b_Model_count_101, be_4, be_6, be_34, be_33, be_38, be_49_3, kc_388, rf_388_23, ka_398, List.getD_cons_zero, List.getD_cons_succ, List.set_cons_zero, List.set_cons_succ, List.length_cons, List.length_nil, pk_I, pk_A, pr_A, pi_I, st_s, st_n, if_true, if_false, eq_self, d_if, d_ju, d_re, d_ca, cat0, cat1, cat2, cat3, fr_z, fr_s, cc_I, cc_A, cc_N, Nat.reduceAdd, Nat.reduceLT, Nat.reduceLeDiff, Nat.reduceEqDiff, not_true, not_false_iff, z1_0, z1_1, Bool.and_self, Bool.true_and, Bool.and_true, nI_add, pk_mul, nI_clamp, decide_true, Nat.le_refl, bI_eq, bI_z1, nI_ltI, nI_leI, e1, k18, k398, hni]
        refine go_at (blk := b_Model_count_114) rfl ?_
        simp (disch := omega) only [b_Model_count_114, be_4, be_6, be_34, be_1, be_12, be_38, be_7, be_10, be_51, kc_388, rf_388_48, ka_419, List.getD_cons_zero, List.getD_cons_succ, List.set_cons_zero, List.set_cons_succ, List.length_cons, List.length_nil, pk_I, pk_A, pr_A, pi_I, st_s, st_n, if_true, if_false, eq_self, d_if, d_ju, d_re, d_ca, cat0, cat1, cat2, cat3, fr_z, fr_s, cc_I, cc_A, cc_N, Nat.reduceAdd, Nat.reduceLT, Nat.reduceLeDiff, Nat.reduceEqDiff, not_true, not_false_iff, z1_0, z1_1, Bool.and_self, Bool.true_and, Bool.and_true, nI_add, pk_mul, nI_clamp, decide_true, Nat.le_refl, bI_eq, bI_z1, nI_ltI, nI_leI, e1, k18, k398, hni]
        exact ih () trivial
      · intro _ _
        try dsimp only at *
        refine go_at (blk := b_Model_count_101) rfl ?_
        simp (disch := omega) only [b_Model_count_101, be_4, be_6, be_34, be_33, be_38, be_49_3, kc_388, rf_388_23, ka_398, List.getD_cons_zero, List.getD_cons_succ, List.set_cons_zero, List.set_cons_succ, List.length_cons, List.length_nil, pk_I, pk_A, pr_A, pi_I, st_s, st_n, if_true, if_false, eq_self, d_if, d_ju, d_re, d_ca, cat0, cat1, cat2, cat3, fr_z, fr_s, cc_I, cc_A, cc_N, Nat.reduceAdd, Nat.reduceLT, Nat.reduceLeDiff, Nat.reduceEqDiff, not_true, not_false_iff, z1_0, z1_1, Bool.and_self, Bool.true_and, Bool.and_true, nI_add, pk_mul, nI_clamp, decide_true, Nat.le_refl, bI_eq, bI_z1, nI_ltI, nI_leI, e1, k18, k398]
        refine go_at (blk := b_Model_count_132) rfl ?_
        simp (disch := omega) only [b_Model_count_132, be_4, be_54, List.getD_cons_zero, List.getD_cons_succ, List.set_cons_zero, List.set_cons_succ, List.length_cons, List.length_nil, pk_I, pk_A, pr_A, pi_I, st_s, st_n, if_true, if_false, eq_self, d_if, d_ju, d_re, d_ca, cat0, cat1, cat2, cat3, fr_z, fr_s, cc_I, cc_A, cc_N, Nat.reduceAdd, Nat.reduceLT, Nat.reduceLeDiff, Nat.reduceEqDiff, not_true, not_false_iff, z1_0, z1_1, Bool.and_self, Bool.true_and, Bool.and_true, nI_add, pk_mul, nI_clamp, decide_true, Nat.le_refl, bI_eq, bI_z1, nI_ltI, nI_leI, e1, k18, k398]
        have hr : coS T f (v 388 2) (v 388 51) (v 388 55) (hhN (v 426) 3) (nI 4) = nI (cnt (fun p => !decide (f (8 + p) = 0)) (tN T)) := rfl
        rw [hr, ← cn_4 hM.2.2.2.1 (tN T) (Nat.le_refl _)] at hQ
        exact hQ v1 q1
    · show am_Go am_X0 _ k_Model_count 4 _ _
      refine go_at (blk := b_Model_count_4) rfl ?_
      simp (disch := omega) only [b_Model_count_4, be_4, be_52, List.getD_cons_zero, List.getD_cons_succ, List.set_cons_zero, List.set_cons_succ, List.length_cons, List.length_nil, pk_I, pk_A, pr_A, pi_I, st_s, st_n, if_true, if_false, eq_self, d_if, d_ju, d_re, d_ca, cat0, cat1, cat2, cat3, fr_z, fr_s, cc_I, cc_A, cc_N, Nat.reduceAdd, Nat.reduceLT, Nat.reduceLeDiff, Nat.reduceEqDiff, not_true, not_false_iff, z1_0, z1_1, Bool.and_self, Bool.true_and, Bool.and_true, nI_add, pk_mul, nI_clamp, decide_true, Nat.le_refl, bI_eq, bI_z1, nI_ltI, nI_leI, e1, k18, k398, swm_5]
      refine go_at (blk := b_Model_count_134) rfl ?_
      simp (disch := omega) only [b_Model_count_134, be_6, be_34, be_1, be_38, be_54, kc_388, rf_388_48, ka_419, List.getD_cons_zero, List.getD_cons_succ, List.set_cons_zero, List.set_cons_succ, List.length_cons, List.length_nil, pk_I, pk_A, pr_A, pi_I, st_s, st_n, if_true, if_false, eq_self, d_if, d_ju, d_re, d_ca, cat0, cat1, cat2, cat3, fr_z, fr_s, cc_I, cc_A, cc_N, Nat.reduceAdd, Nat.reduceLT, Nat.reduceLeDiff, Nat.reduceEqDiff, not_true, not_false_iff, z1_0, z1_1, Bool.and_self, Bool.true_and, Bool.and_true, nI_add, pk_mul, nI_clamp, decide_true, Nat.le_refl, bI_eq, bI_z1, nI_ltI, nI_leI, e1, k18, k398, swm_5]
      exact hQ v1 q1
    · show am_Go am_X0 _ k_Model_count 4 _ _
      refine go_at (blk := b_Model_count_4) rfl ?_
      simp (disch := omega) only [b_Model_count_4, be_4, be_52, List.getD_cons_zero, List.getD_cons_succ, List.set_cons_zero, List.set_cons_succ, List.length_cons, List.length_nil, pk_I, pk_A, pr_A, pi_I, st_s, st_n, if_true, if_false, eq_self, d_if, d_ju, d_re, d_ca, cat0, cat1, cat2, cat3, fr_z, fr_s, cc_I, cc_A, cc_N, Nat.reduceAdd, Nat.reduceLT, Nat.reduceLeDiff, Nat.reduceEqDiff, not_true, not_false_iff, z1_0, z1_1, Bool.and_self, Bool.true_and, Bool.and_true, nI_add, pk_mul, nI_clamp, decide_true, Nat.le_refl, bI_eq, bI_z1, nI_ltI, nI_leI, e1, k18, k398, swm_6]
      refine go_at (blk := b_Model_count_142) rfl ?_
      simp (disch := omega) only [b_Model_count_142, be_6, be_34, be_1, be_38, be_54, kc_388, rf_388_48, ka_419, List.getD_cons_zero, List.getD_cons_succ, List.set_cons_zero, List.set_cons_succ, List.length_cons, List.length_nil, pk_I, pk_A, pr_A, pi_I, st_s, st_n, if_true, if_false, eq_self, d_if, d_ju, d_re, d_ca, cat0, cat1, cat2, cat3, fr_z, fr_s, cc_I, cc_A, cc_N, Nat.reduceAdd, Nat.reduceLT, Nat.reduceLeDiff, Nat.reduceEqDiff, not_true, not_false_iff, z1_0, z1_1, Bool.and_self, Bool.true_and, Bool.and_true, nI_add, pk_mul, nI_clamp, decide_true, Nat.le_refl, bI_eq, bI_z1, nI_ltI, nI_leI, e1, k18, k398, swm_6]
      exact hQ v1 q1
    · show am_Go am_X0 _ k_Model_count 4 _ _
      refine go_at (blk := b_Model_count_4) rfl ?_
      simp (disch := omega) only [b_Model_count_4, be_4, be_52, List.getD_cons_zero, List.getD_cons_succ, List.set_cons_zero, List.set_cons_succ, List.length_cons, List.length_nil, pk_I, pk_A, pr_A, pi_I, st_s, st_n, if_true, if_false, eq_self, d_if, d_ju, d_re, d_ca, cat0, cat1, cat2, cat3, fr_z, fr_s, cc_I, cc_A, cc_N, Nat.reduceAdd, Nat.reduceLT, Nat.reduceLeDiff, Nat.reduceEqDiff, not_true, not_false_iff, z1_0, z1_1, Bool.and_self, Bool.true_and, Bool.and_true, nI_add, pk_mul, nI_clamp, decide_true, Nat.le_refl, bI_eq, bI_z1, nI_ltI, nI_leI, e1, k18, k398, swm_7, e2]
      refine go_at (blk := b_Model_count_150) rfl ?_
      simp (disch := omega) only [b_Model_count_150, be_6, be_33, be_54, kc_388, List.getD_cons_zero, List.getD_cons_succ, List.set_cons_zero, List.set_cons_succ, List.length_cons, List.length_nil, pk_I, pk_A, pr_A, pi_I, st_s, st_n, if_true, if_false, eq_self, d_if, d_ju, d_re, d_ca, cat0, cat1, cat2, cat3, fr_z, fr_s, cc_I, cc_A, cc_N, Nat.reduceAdd, Nat.reduceLT, Nat.reduceLeDiff, Nat.reduceEqDiff, not_true, not_false_iff, z1_0, z1_1, Bool.and_self, Bool.true_and, Bool.and_true, nI_add, pk_mul, nI_clamp, decide_true, Nat.le_refl, bI_eq, bI_z1, nI_ltI, nI_leI, e1, k18, k398, swm_7, e2]
      exact hQ v1 q1
    · show am_Go am_X0 _ k_Model_count 4 _ _
      refine go_at (blk := b_Model_count_4) rfl ?_
      simp (disch := omega) only [b_Model_count_4, be_4, be_52, List.getD_cons_zero, List.getD_cons_succ, List.set_cons_zero, List.set_cons_succ, List.length_cons, List.length_nil, pk_I, pk_A, pr_A, pi_I, st_s, st_n, if_true, if_false, eq_self, d_if, d_ju, d_re, d_ca, cat0, cat1, cat2, cat3, fr_z, fr_s, cc_I, cc_A, cc_N, Nat.reduceAdd, Nat.reduceLT, Nat.reduceLeDiff, Nat.reduceEqDiff, not_true, not_false_iff, z1_0, z1_1, Bool.and_self, Bool.true_and, Bool.and_true, nI_add, pk_mul, nI_clamp, decide_true, Nat.le_refl, bI_eq, bI_z1, nI_ltI, nI_leI, e1, k18, k398, swm_8, e51]
      refine go_at (blk := b_Model_count_155) rfl ?_
      simp (disch := omega) only [b_Model_count_155, be_6, be_33, be_54, kc_388, List.getD_cons_zero, List.getD_cons_succ, List.set_cons_zero, List.set_cons_succ, List.length_cons, List.length_nil, pk_I, pk_A, pr_A, pi_I, st_s, st_n, if_true, if_false, eq_self, d_if, d_ju, d_re, d_ca, cat0, cat1, cat2, cat3, fr_z, fr_s, cc_I, cc_A, cc_N, Nat.reduceAdd, Nat.reduceLT, Nat.reduceLeDiff, Nat.reduceEqDiff, not_true, not_false_iff, z1_0, z1_1, Bool.and_self, Bool.true_and, Bool.and_true, nI_add, pk_mul, nI_clamp, decide_true, Nat.le_refl, bI_eq, bI_z1, nI_ltI, nI_leI, e1, k18, k398, swm_8, e51]
      exact hQ v1 q1
    · show am_Go am_X0 _ k_Model_count 4 _ _
      refine go_at (blk := b_Model_count_4) rfl ?_
      simp (disch := omega) only [b_Model_count_4, be_4, be_52, List.getD_cons_zero, List.getD_cons_succ, List.set_cons_zero, List.set_cons_succ, List.length_cons, List.length_nil, pk_I, pk_A, pr_A, pi_I, st_s, st_n, if_true, if_false, eq_self, d_if, d_ju, d_re, d_ca, cat0, cat1, cat2, cat3, fr_z, fr_s, cc_I, cc_A, cc_N, Nat.reduceAdd, Nat.reduceLT, Nat.reduceLeDiff, Nat.reduceEqDiff, not_true, not_false_iff, z1_0, z1_1, Bool.and_self, Bool.true_and, Bool.and_true, nI_add, pk_mul, nI_clamp, decide_true, Nat.le_refl, bI_eq, bI_z1, nI_ltI, nI_leI, e1, k18, k398, swm_9, e55]
      refine go_at (blk := b_Model_count_160) rfl ?_
      simp (disch := omega) only [b_Model_count_160, be_6, be_33, be_54, kc_388, List.getD_cons_zero, List.getD_cons_succ, List.set_cons_zero, List.set_cons_succ, List.length_cons, List.length_nil, pk_I, pk_A, pr_A, pi_I, st_s, st_n, if_true, if_false, eq_self, d_if, d_ju, d_re, d_ca, cat0, cat1, cat2, cat3, fr_z, fr_s, cc_I, cc_A, cc_N, Nat.reduceAdd, Nat.reduceLT, Nat.reduceLeDiff, Nat.reduceEqDiff, not_true, not_false_iff, z1_0, z1_1, Bool.and_self, Bool.true_and, Bool.and_true, nI_add, pk_mul, nI_clamp, decide_true, Nat.le_refl, bI_eq, bI_z1, nI_ltI, nI_leI, e1, k18, k398, swm_9, e55]
      exact hQ v1 q1
    · show am_Go am_X0 _ k_Model_count 4 _ _
      refine go_at (blk := b_Model_count_4) rfl ?_
      simp (disch := omega) only [b_Model_count_4, be_4, be_52, List.getD_cons_zero, List.getD_cons_succ, List.set_cons_zero, List.set_cons_succ, List.length_cons, List.length_nil, pk_I, pk_A, pr_A, pi_I, st_s, st_n, if_true, if_false, eq_self, d_if, d_ju, d_re, d_ca, cat0, cat1, cat2, cat3, fr_z, fr_s, cc_I, cc_A, cc_N, Nat.reduceAdd, Nat.reduceLT, Nat.reduceLeDiff, Nat.reduceEqDiff, not_true, not_false_iff, z1_0, z1_1, Bool.and_self, Bool.true_and, Bool.and_true, nI_add, pk_mul, nI_clamp, decide_true, Nat.le_refl, bI_eq, bI_z1, nI_ltI, nI_leI, e1, k18, k398, swm_10, e426]
      refine go_at (blk := b_Model_count_165) rfl ?_
      simp (disch := omega) only [b_Model_count_165, be_6, be_34, be_1, be_40, be_50_0, kc_388, rf_388_59, ka_426, List.getD_cons_zero, List.getD_cons_succ, List.set_cons_zero, List.set_cons_succ, List.length_cons, List.length_nil, pk_I, pk_A, pr_A, pi_I, st_s, st_n, if_true, if_false, eq_self, d_if, d_ju, d_re, d_ca, cat0, cat1, cat2, cat3, fr_z, fr_s, cc_I, cc_A, cc_N, Nat.reduceAdd, Nat.reduceLT, Nat.reduceLeDiff, Nat.reduceEqDiff, not_true, not_false_iff, z1_0, z1_1, Bool.and_self, Bool.true_and, Bool.and_true, nI_add, pk_mul, nI_clamp, decide_true, Nat.le_refl, bI_eq, bI_z1, nI_ltI, nI_leI, e1, k18, k398, swm_10, e426]
      split
      · rename_i h0
        refine go_at (blk := b_Model_count_178) rfl ?_
        simp (disch := omega) only [b_Model_count_178, be_1, be_0, List.getD_cons_zero, List.getD_cons_succ, List.set_cons_zero, List.set_cons_succ, List.length_cons, List.length_nil, pk_I, pk_A, pr_A, pi_I, st_s, st_n, if_true, if_false, eq_self, d_if, d_ju, d_re, d_ca, cat0, cat1, cat2, cat3, fr_z, fr_s, cc_I, cc_A, cc_N, Nat.reduceAdd, Nat.reduceLT, Nat.reduceLeDiff, Nat.reduceEqDiff, not_true, not_false_iff, z1_0, z1_1, Bool.and_self, Bool.true_and, Bool.and_true, nI_add, pk_mul, nI_clamp, decide_true, Nat.le_refl, bI_eq, bI_z1, nI_ltI, nI_leI, e1, k18, k398, swm_10, e426]
        refine go_at (blk := b_Model_count_179) rfl ?_
        simp (disch := omega) only [b_Model_count_179, be_6, be_34, be_1, be_40, be_50_0, kc_388, rf_388_59, ka_426, List.getD_cons_zero, List.getD_cons_succ, List.set_cons_zero, List.set_cons_succ, List.length_cons, List.length_nil, pk_I, pk_A, pr_A, pi_I, st_s, st_n, if_true, if_false, eq_self, d_if, d_ju, d_re, d_ca, cat0, cat1, cat2, cat3, fr_z, fr_s, cc_I, cc_A, cc_N, Nat.reduceAdd, Nat.reduceLT, Nat.reduceLeDiff, Nat.reduceEqDiff, not_true, not_false_iff, z1_0, z1_1, Bool.and_self, Bool.true_and, Bool.and_true, nI_add, pk_mul, nI_clamp, decide_true, Nat.le_refl, bI_eq, bI_z1, nI_ltI, nI_leI, e1, k18, k398, swm_10, e426]
        split
        · rename_i h1
          refine go_at (blk := b_Model_count_192) rfl ?_
          simp (disch := omega) only [b_Model_count_192, be_1, be_0, List.getD_cons_zero, List.getD_cons_succ, List.set_cons_zero, List.set_cons_succ, List.length_cons, List.length_nil, pk_I, pk_A, pr_A, pi_I, st_s, st_n, if_true, if_false, eq_self, d_if, d_ju, d_re, d_ca, cat0, cat1, cat2, cat3, fr_z, fr_s, cc_I, cc_A, cc_N, Nat.reduceAdd, Nat.reduceLT, Nat.reduceLeDiff, Nat.reduceEqDiff, not_true, not_false_iff, z1_0, z1_1, Bool.and_self, Bool.true_and, Bool.and_true, nI_add, pk_mul, nI_clamp, decide_true, Nat.le_refl, bI_eq, bI_z1, nI_ltI, nI_leI, e1, k18, k398, swm_10, e426]
          refine go_at (blk := b_Model_count_193) rfl ?_
          simp (disch := omega) only [b_Model_count_193, be_12, be_6, be_34, be_1, be_40, be_50_0, kc_388, rf_388_59, ka_426, List.getD_cons_zero, List.getD_cons_succ, List.set_cons_zero, List.set_cons_succ, List.length_cons, List.length_nil, pk_I, pk_A, pr_A, pi_I, st_s, st_n, if_true, if_false, eq_self, d_if, d_ju, d_re, d_ca, cat0, cat1, cat2, cat3, fr_z, fr_s, cc_I, cc_A, cc_N, Nat.reduceAdd, Nat.reduceLT, Nat.reduceLeDiff, Nat.reduceEqDiff, not_true, not_false_iff, z1_0, z1_1, Bool.and_self, Bool.true_and, Bool.and_true, nI_add, pk_mul, nI_clamp, decide_true, Nat.le_refl, bI_eq, bI_z1, nI_ltI, nI_leI, e1, k18, k398, swm_10, e426]
          split
          · rename_i h2
            refine go_at (blk := b_Model_count_207) rfl ?_
            simp (disch := omega) only [b_Model_count_207, be_1, be_0, List.getD_cons_zero, List.getD_cons_succ, List.set_cons_zero, List.set_cons_succ, List.length_cons, List.length_nil, pk_I, pk_A, pr_A, pi_I, st_s, st_n, if_true, if_false, eq_self, d_if, d_ju, d_re, d_ca, cat0, cat1, cat2, cat3, fr_z, fr_s, cc_I, cc_A, cc_N, Nat.reduceAdd, Nat.reduceLT, Nat.reduceLeDiff, Nat.reduceEqDiff, not_true, not_false_iff, z1_0, z1_1, Bool.and_self, Bool.true_and, Bool.and_true, nI_add, pk_mul, nI_clamp, decide_true, Nat.le_refl, bI_eq, bI_z1, nI_ltI, nI_leI, e1, k18, k398, swm_10, e426]
            refine go_at (blk := b_Model_count_208) rfl ?_
            simp (disch := omega) only [b_Model_count_208, be_12, be_54, List.getD_cons_zero, List.getD_cons_succ, List.set_cons_zero, List.set_cons_succ, List.length_cons, List.length_nil, pk_I, pk_A, pr_A, pi_I, st_s, st_n, if_true, if_false, eq_self, d_if, d_ju, d_re, d_ca, cat0, cat1, cat2, cat3, fr_z, fr_s, cc_I, cc_A, cc_N, Nat.reduceAdd, Nat.reduceLT, Nat.reduceLeDiff, Nat.reduceEqDiff, not_true, not_false_iff, z1_0, z1_1, Bool.and_self, Bool.true_and, Bool.and_true, nI_add, pk_mul, nI_clamp, decide_true, Nat.le_refl, bI_eq, bI_z1, nI_ltI, nI_leI, e1, k18, k398, swm_10, e426]
            have hr : coS T f (v 388 2) (v 388 51) (v 388 55) (hhN (v 426) 3) (nI 10) = nI 0 := by show nI (hhN (v 426) 3) = nI 0; rw [hh_3, if_pos h0, if_pos h1, if_pos h2]
            rw [hr] at hQ
            exact hQ v1 q1
          · rename_i h2
            refine go_at (blk := b_Model_count_203) rfl ?_
            simp (disch := omega) only [b_Model_count_203, be_1, be_51, List.getD_cons_zero, List.getD_cons_succ, List.set_cons_zero, List.set_cons_succ, List.length_cons, List.length_nil, pk_I, pk_A, pr_A, pi_I, st_s, st_n, if_true, if_false, eq_self, d_if, d_ju, d_re, d_ca, cat0, cat1, cat2, cat3, fr_z, fr_s, cc_I, cc_A, cc_N, Nat.reduceAdd, Nat.reduceLT, Nat.reduceLeDiff, Nat.reduceEqDiff, not_true, not_false_iff, z1_0, z1_1, Bool.and_self, Bool.true_and, Bool.and_true, nI_add, pk_mul, nI_clamp, decide_true, Nat.le_refl, bI_eq, bI_z1, nI_ltI, nI_leI, e1, k18, k398, swm_10, e426]
            refine go_at (blk := b_Model_count_208) rfl ?_
            simp (disch := omega) only [b_Model_count_208, be_12, be_54, List.getD_cons_zero, List.getD_cons_succ, List.set_cons_zero, List.set_cons_succ, List.length_cons, List.length_nil, pk_I, pk_A, pr_A, pi_I, st_s, st_n, if_true, if_false, eq_self, d_if, d_ju, d_re, d_ca, cat0, cat1, cat2, cat3, fr_z, fr_s, cc_I, cc_A, cc_N, Nat.reduceAdd, Nat.reduceLT, Nat.reduceLeDiff, Nat.reduceEqDiff, not_true, not_false_iff, z1_0, z1_1, Bool.and_self, Bool.true_and, Bool.and_true, nI_add, pk_mul, nI_clamp, decide_true, Nat.le_refl, bI_eq, bI_z1, nI_ltI, nI_leI, e1, k18, k398, swm_10, e426]
            have hr : coS T f (v 388 2) (v 388 51) (v 388 55) (hhN (v 426) 3) (nI 10) = nI 1 := by show nI (hhN (v 426) 3) = nI 1; rw [hh_3, if_pos h0, if_pos h1, if_neg h2]
            rw [hr] at hQ
            exact hQ v1 q1
        · rename_i h1
          refine go_at (blk := b_Model_count_188) rfl ?_
          simp (disch := omega) only [b_Model_count_188, be_1, be_51, List.getD_cons_zero, List.getD_cons_succ, List.set_cons_zero, List.set_cons_succ, List.length_cons, List.length_nil, pk_I, pk_A, pr_A, pi_I, st_s, st_n, if_true, if_false, eq_self, d_if, d_ju, d_re, d_ca, cat0, cat1, cat2, cat3, fr_z, fr_s, cc_I, cc_A, cc_N, Nat.reduceAdd, Nat.reduceLT, Nat.reduceLeDiff, Nat.reduceEqDiff, not_true, not_false_iff, z1_0, z1_1, Bool.and_self, Bool.true_and, Bool.and_true, nI_add, pk_mul, nI_clamp, decide_true, Nat.le_refl, bI_eq, bI_z1, nI_ltI, nI_leI, e1, k18, k398, swm_10, e426]
          refine go_at (blk := b_Model_count_193) rfl ?_
          simp (disch := omega) only [b_Model_count_193, be_12, be_6, be_34, be_1, be_40, be_50_0, kc_388, rf_388_59, ka_426, List.getD_cons_zero, List.getD_cons_succ, List.set_cons_zero, List.set_cons_succ, List.length_cons, List.length_nil, pk_I, pk_A, pr_A, pi_I, st_s, st_n, if_true, if_false, eq_self, d_if, d_ju, d_re, d_ca, cat0, cat1, cat2, cat3, fr_z, fr_s, cc_I, cc_A, cc_N, Nat.reduceAdd, Nat.reduceLT, Nat.reduceLeDiff, Nat.reduceEqDiff, not_true, not_false_iff, z1_0, z1_1, Bool.and_self, Bool.true_and, Bool.and_true, nI_add, pk_mul, nI_clamp, decide_true, Nat.le_refl, bI_eq, bI_z1, nI_ltI, nI_leI, e1, k18, k398, swm_10, e426]
          split
          · rename_i h2
            refine go_at (blk := b_Model_count_207) rfl ?_
            simp (disch := omega) only [b_Model_count_207, be_1, be_0, List.getD_cons_zero, List.getD_cons_succ, List.set_cons_zero, List.set_cons_succ, List.length_cons, List.length_nil, pk_I, pk_A, pr_A, pi_I, st_s, st_n, if_true, if_false, eq_self, d_if, d_ju, d_re, d_ca, cat0, cat1, cat2, cat3, fr_z, fr_s, cc_I, cc_A, cc_N, Nat.reduceAdd, Nat.reduceLT, Nat.reduceLeDiff, Nat.reduceEqDiff, not_true, not_false_iff, z1_0, z1_1, Bool.and_self, Bool.true_and, Bool.and_true, nI_add, pk_mul, nI_clamp, decide_true, Nat.le_refl, bI_eq, bI_z1, nI_ltI, nI_leI, e1, k18, k398, swm_10, e426]
            refine go_at (blk := b_Model_count_208) rfl ?_
            simp (disch := omega) only [b_Model_count_208, be_12, be_54, List.getD_cons_zero, List.getD_cons_succ, List.set_cons_zero, List.set_cons_succ, List.length_cons, List.length_nil, pk_I, pk_A, pr_A, pi_I, st_s, st_n, if_true, if_false, eq_self, d_if, d_ju, d_re, d_ca, cat0, cat1, cat2, cat3, fr_z, fr_s, cc_I, cc_A, cc_N, Nat.reduceAdd, Nat.reduceLT, Nat.reduceLeDiff, Nat.reduceEqDiff, not_true, not_false_iff, z1_0, z1_1, Bool.and_self, Bool.true_and, Bool.and_true, nI_add, pk_mul, nI_clamp, decide_true, Nat.le_refl, bI_eq, bI_z1, nI_ltI, nI_leI, e1, k18, k398, swm_10, e426]
            have hr : coS T f (v 388 2) (v 388 51) (v 388 55) (hhN (v 426) 3) (nI 10) = nI 1 := by show nI (hhN (v 426) 3) = nI 1; rw [hh_3, if_pos h0, if_neg h1, if_pos h2]
            rw [hr] at hQ
            exact hQ v1 q1
          · rename_i h2
            refine go_at (blk := b_Model_count_203) rfl ?_
            simp (disch := omega) only [b_Model_count_203, be_1, be_51, List.getD_cons_zero, List.getD_cons_succ, List.set_cons_zero, List.set_cons_succ, List.length_cons, List.length_nil, pk_I, pk_A, pr_A, pi_I, st_s, st_n, if_true, if_false, eq_self, d_if, d_ju, d_re, d_ca, cat0, cat1, cat2, cat3, fr_z, fr_s, cc_I, cc_A, cc_N, Nat.reduceAdd, Nat.reduceLT, Nat.reduceLeDiff, Nat.reduceEqDiff, not_true, not_false_iff, z1_0, z1_1, Bool.and_self, Bool.true_and, Bool.and_true, nI_add, pk_mul, nI_clamp, decide_true, Nat.le_refl, bI_eq, bI_z1, nI_ltI, nI_leI, e1, k18, k398, swm_10, e426]
            refine go_at (blk := b_Model_count_208) rfl ?_
            simp (disch := omega) only [b_Model_count_208, be_12, be_54, List.getD_cons_zero, List.getD_cons_succ, List.set_cons_zero, List.set_cons_succ, List.length_cons, List.length_nil, pk_I, pk_A, pr_A, pi_I, st_s, st_n, if_true, if_false, eq_self, d_if, d_ju, d_re, d_ca, cat0, cat1, cat2, cat3, fr_z, fr_s, cc_I, cc_A, cc_N, Nat.reduceAdd, Nat.reduceLT, Nat.reduceLeDiff, Nat.reduceEqDiff, not_true, not_false_iff, z1_0, z1_1, Bool.and_self, Bool.true_and, Bool.and_true, nI_add, pk_mul, nI_clamp, decide_true, Nat.le_refl, bI_eq, bI_z1, nI_ltI, nI_leI, e1, k18, k398, swm_10, e426]
            have hr : coS T f (v 388 2) (v 388 51) (v 388 55) (hhN (v 426) 3) (nI 10) = nI 2 := by show nI (hhN (v 426) 3) = nI 2; rw [hh_3, if_pos h0, if_neg h1, if_neg h2]
            rw [hr] at hQ
            exact hQ v1 q1
      · rename_i h0
        refine go_at (blk := b_Model_count_174) rfl ?_
        simp (disch := omega) only [b_Model_count_174, be_1, be_51, List.getD_cons_zero, List.getD_cons_succ, List.set_cons_zero, List.set_cons_succ, List.length_cons, List.length_nil, pk_I, pk_A, pr_A, pi_I, st_s, st_n, if_true, if_false, eq_self, d_if, d_ju, d_re, d_ca, cat0, cat1, cat2, cat3, fr_z, fr_s, cc_I, cc_A, cc_N, Nat.reduceAdd, Nat.reduceLT, Nat.reduceLeDiff, Nat.reduceEqDiff, not_true, not_false_iff, z1_0, z1_1, Bool.and_self, Bool.true_and, Bool.and_true, nI_add, pk_mul, nI_clamp, decide_true, Nat.le_refl, bI_eq, bI_z1, nI_ltI, nI_leI, e1, k18, k398, swm_10, e426]
        refine go_at (blk := b_Model_count_179) rfl ?_
        simp (disch := omega) only [b_Model_count_179, be_6, be_34, be_1, be_40, be_50_0, kc_388, rf_388_59, ka_426, List.getD_cons_zero, List.getD_cons_succ, List.set_cons_zero, List.set_cons_succ, List.length_cons, List.length_nil, pk_I, pk_A, pr_A, pi_I, st_s, st_n, if_true, if_false, eq_self, d_if, d_ju, d_re, d_ca, cat0, cat1, cat2, cat3, fr_z, fr_s, cc_I, cc_A, cc_N, Nat.reduceAdd, Nat.reduceLT, Nat.reduceLeDiff, Nat.reduceEqDiff, not_true, not_false_iff, z1_0, z1_1, Bool.and_self, Bool.true_and, Bool.and_true, nI_add, pk_mul, nI_clamp, decide_true, Nat.le_refl, bI_eq, bI_z1, nI_ltI, nI_leI, e1, k18, k398, swm_10, e426]
        split
        · rename_i h1
          refine go_at (blk := b_Model_count_192) rfl ?_
          simp (disch := omega) only [b_Model_count_192, be_1, be_0, List.getD_cons_zero, List.getD_cons_succ, List.set_cons_zero, List.set_cons_succ, List.length_cons, List.length_nil, pk_I, pk_A, pr_A, pi_I, st_s, st_n, if_true, if_false, eq_self, d_if, d_ju, d_re, d_ca, cat0, cat1, cat2, cat3, fr_z, fr_s, cc_I, cc_A, cc_N, Nat.reduceAdd, Nat.reduceLT, Nat.reduceLeDiff, Nat.reduceEqDiff, not_true, not_false_iff, z1_0, z1_1, Bool.and_self, Bool.true_and, Bool.and_true, nI_add, pk_mul, nI_clamp, decide_true, Nat.le_refl, bI_eq, bI_z1, nI_ltI, nI_leI, e1, k18, k398, swm_10, e426]
          refine go_at (blk := b_Model_count_193) rfl ?_
          simp (disch := omega) only [b_Model_count_193, be_12, be_6, be_34, be_1, be_40, be_50_0, kc_388, rf_388_59, ka_426, List.getD_cons_zero, List.getD_cons_succ, List.set_cons_zero, List.set_cons_succ, List.length_cons, List.length_nil, pk_I, pk_A, pr_A, pi_I, st_s, st_n, if_true, if_false, eq_self, d_if, d_ju, d_re, d_ca, cat0, cat1, cat2, cat3, fr_z, fr_s, cc_I, cc_A, cc_N, Nat.reduceAdd, Nat.reduceLT, Nat.reduceLeDiff, Nat.reduceEqDiff, not_true, not_false_iff, z1_0, z1_1, Bool.and_self, Bool.true_and, Bool.and_true, nI_add, pk_mul, nI_clamp, decide_true, Nat.le_refl, bI_eq, bI_z1, nI_ltI, nI_leI, e1, k18, k398, swm_10, e426]
          split
          · rename_i h2
            refine go_at (blk := b_Model_count_207) rfl ?_
            simp (disch := omega) only [b_Model_count_207, be_1, be_0, List.getD_cons_zero, List.getD_cons_succ, List.set_cons_zero, List.set_cons_succ, List.length_cons, List.length_nil, pk_I, pk_A, pr_A, pi_I, st_s, st_n, if_true, if_false, eq_self, d_if, d_ju, d_re, d_ca, cat0, cat1, cat2, cat3, fr_z, fr_s, cc_I, cc_A, cc_N, Nat.reduceAdd, Nat.reduceLT, Nat.reduceLeDiff, Nat.reduceEqDiff, not_true, not_false_iff, z1_0, z1_1, Bool.and_self, Bool.true_and, Bool.and_true, nI_add, pk_mul, nI_clamp, decide_true, Nat.le_refl, bI_eq, bI_z1, nI_ltI, nI_leI, e1, k18, k398, swm_10, e426]
            refine go_at (blk := b_Model_count_208) rfl ?_
            simp (disch := omega) only [b_Model_count_208, be_12, be_54, List.getD_cons_zero, List.getD_cons_succ, List.set_cons_zero, List.set_cons_succ, List.length_cons, List.length_nil, pk_I, pk_A, pr_A, pi_I, st_s, st_n, if_true, if_false, eq_self, d_if, d_ju, d_re, d_ca, cat0, cat1, cat2, cat3, fr_z, fr_s, cc_I, cc_A, cc_N, Nat.reduceAdd, Nat.reduceLT, Nat.reduceLeDiff, Nat.reduceEqDiff, not_true, not_false_iff, z1_0, z1_1, Bool.and_self, Bool.true_and, Bool.and_true, nI_add, pk_mul, nI_clamp, decide_true, Nat.le_refl, bI_eq, bI_z1, nI_ltI, nI_leI, e1, k18, k398, swm_10, e426]
            have hr : coS T f (v 388 2) (v 388 51) (v 388 55) (hhN (v 426) 3) (nI 10) = nI 1 := by show nI (hhN (v 426) 3) = nI 1; rw [hh_3, if_neg h0, if_pos h1, if_pos h2]
            rw [hr] at hQ
            exact hQ v1 q1
          · rename_i h2
            refine go_at (blk := b_Model_count_203) rfl ?_
            simp (disch := omega) only [b_Model_count_203, be_1, be_51, List.getD_cons_zero, List.getD_cons_succ, List.set_cons_zero, List.set_cons_succ, List.length_cons, List.length_nil, pk_I, pk_A, pr_A, pi_I, st_s, st_n, if_true, if_false, eq_self, d_if, d_ju, d_re, d_ca, cat0, cat1, cat2, cat3, fr_z, fr_s, cc_I, cc_A, cc_N, Nat.reduceAdd, Nat.reduceLT, Nat.reduceLeDiff, Nat.reduceEqDiff, not_true, not_false_iff, z1_0, z1_1, Bool.and_self, Bool.true_and, Bool.and_true, nI_add, pk_mul, nI_clamp, decide_true, Nat.le_refl, bI_eq, bI_z1, nI_ltI, nI_leI, e1, k18, k398, swm_10, e426]
            refine go_at (blk := b_Model_count_208) rfl ?_
            simp (disch := omega) only [b_Model_count_208, be_12, be_54, List.getD_cons_zero, List.getD_cons_succ, List.set_cons_zero, List.set_cons_succ, List.length_cons, List.length_nil, pk_I, pk_A, pr_A, pi_I, st_s, st_n, if_true, if_false, eq_self, d_if, d_ju, d_re, d_ca, cat0, cat1, cat2, cat3, fr_z, fr_s, cc_I, cc_A, cc_N, Nat.reduceAdd, Nat.reduceLT, Nat.reduceLeDiff, Nat.reduceEqDiff, not_true, not_false_iff, z1_0, z1_1, Bool.and_self, Bool.true_and, Bool.and_true, nI_add, pk_mul, nI_clamp, decide_true, Nat.le_refl, bI_eq, bI_z1, nI_ltI, nI_leI, e1, k18, k398, swm_10, e426]
            have hr : coS T f (v 388 2) (v 388 51) (v 388 55) (hhN (v 426) 3) (nI 10) = nI 2 := by show nI (hhN (v 426) 3) = nI 2; rw [hh_3, if_neg h0, if_pos h1, if_neg h2]
            rw [hr] at hQ
            exact hQ v1 q1
        · rename_i h1
          refine go_at (blk := b_Model_count_188) rfl ?_
          simp (disch := omega) only [b_Model_count_188, be_1, be_51, List.getD_cons_zero, List.getD_cons_succ, List.set_cons_zero, List.set_cons_succ, List.length_cons, List.length_nil, pk_I, pk_A, pr_A, pi_I, st_s, st_n, if_true, if_false, eq_self, d_if, d_ju, d_re, d_ca, cat0, cat1, cat2, cat3, fr_z, fr_s, cc_I, cc_A, cc_N, Nat.reduceAdd, Nat.reduceLT, Nat.reduceLeDiff, Nat.reduceEqDiff, not_true, not_false_iff, z1_0, z1_1, Bool.and_self, Bool.true_and, Bool.and_true, nI_add, pk_mul, nI_clamp, decide_true, Nat.le_refl, bI_eq, bI_z1, nI_ltI, nI_leI, e1, k18, k398, swm_10, e426]
          refine go_at (blk := b_Model_count_193) rfl ?_
          simp (disch := omega) only [b_Model_count_193, be_12, be_6, be_34, be_1, be_40, be_50_0, kc_388, rf_388_59, ka_426, List.getD_cons_zero, List.getD_cons_succ, List.set_cons_zero, List.set_cons_succ, List.length_cons, List.length_nil, pk_I, pk_A, pr_A, pi_I, st_s, st_n, if_true, if_false, eq_self, d_if, d_ju, d_re, d_ca, cat0, cat1, cat2, cat3, fr_z, fr_s, cc_I, cc_A, cc_N, Nat.reduceAdd, Nat.reduceLT, Nat.reduceLeDiff, Nat.reduceEqDiff, not_true, not_false_iff, z1_0, z1_1, Bool.and_self, Bool.true_and, Bool.and_true, nI_add, pk_mul, nI_clamp, decide_true, Nat.le_refl, bI_eq, bI_z1, nI_ltI, nI_leI, e1, k18, k398, swm_10, e426]
          split
          · rename_i h2
            refine go_at (blk := b_Model_count_207) rfl ?_
            simp (disch := omega) only [b_Model_count_207, be_1, be_0, List.getD_cons_zero, List.getD_cons_succ, List.set_cons_zero, List.set_cons_succ, List.length_cons, List.length_nil, pk_I, pk_A, pr_A, pi_I, st_s, st_n, if_true, if_false, eq_self, d_if, d_ju, d_re, d_ca, cat0, cat1, cat2, cat3, fr_z, fr_s, cc_I, cc_A, cc_N, Nat.reduceAdd, Nat.reduceLT, Nat.reduceLeDiff, Nat.reduceEqDiff, not_true, not_false_iff, z1_0, z1_1, Bool.and_self, Bool.true_and, Bool.and_true, nI_add, pk_mul, nI_clamp, decide_true, Nat.le_refl, bI_eq, bI_z1, nI_ltI, nI_leI, e1, k18, k398, swm_10, e426]
            refine go_at (blk := b_Model_count_208) rfl ?_
            simp (disch := omega) only [b_Model_count_208, be_12, be_54, List.getD_cons_zero, List.getD_cons_succ, List.set_cons_zero, List.set_cons_succ, List.length_cons, List.length_nil, pk_I, pk_A, pr_A, pi_I, st_s, st_n, if_true, if_false, eq_self, d_if, d_ju, d_re, d_ca, cat0, cat1, cat2, cat3, fr_z, fr_s, cc_I, cc_A, cc_N, Nat.reduceAdd, Nat.reduceLT, Nat.reduceLeDiff, Nat.reduceEqDiff, not_true, not_false_iff, z1_0, z1_1, Bool.and_self, Bool.true_and, Bool.and_true, nI_add, pk_mul, nI_clamp, decide_true, Nat.le_refl, bI_eq, bI_z1, nI_ltI, nI_leI, e1, k18, k398, swm_10, e426]
            have hr : coS T f (v 388 2) (v 388 51) (v 388 55) (hhN (v 426) 3) (nI 10) = nI 2 := by show nI (hhN (v 426) 3) = nI 2; rw [hh_3, if_neg h0, if_neg h1, if_pos h2]
            rw [hr] at hQ
            exact hQ v1 q1
          · rename_i h2
            refine go_at (blk := b_Model_count_203) rfl ?_
            simp (disch := omega) only [b_Model_count_203, be_1, be_51, List.getD_cons_zero, List.getD_cons_succ, List.set_cons_zero, List.set_cons_succ, List.length_cons, List.length_nil, pk_I, pk_A, pr_A, pi_I, st_s, st_n, if_true, if_false, eq_self, d_if, d_ju, d_re, d_ca, cat0, cat1, cat2, cat3, fr_z, fr_s, cc_I, cc_A, cc_N, Nat.reduceAdd, Nat.reduceLT, Nat.reduceLeDiff, Nat.reduceEqDiff, not_true, not_false_iff, z1_0, z1_1, Bool.and_self, Bool.true_and, Bool.and_true, nI_add, pk_mul, nI_clamp, decide_true, Nat.le_refl, bI_eq, bI_z1, nI_ltI, nI_leI, e1, k18, k398, swm_10, e426]
            refine go_at (blk := b_Model_count_208) rfl ?_
            simp (disch := omega) only [b_Model_count_208, be_12, be_54, List.getD_cons_zero, List.getD_cons_succ, List.set_cons_zero, List.set_cons_succ, List.length_cons, List.length_nil, pk_I, pk_A, pr_A, pi_I, st_s, st_n, if_true, if_false, eq_self, d_if, d_ju, d_re, d_ca, cat0, cat1, cat2, cat3, fr_z, fr_s, cc_I, cc_A, cc_N, Nat.reduceAdd, Nat.reduceLT, Nat.reduceLeDiff, Nat.reduceEqDiff, not_true, not_false_iff, z1_0, z1_1, Bool.and_self, Bool.true_and, Bool.and_true, nI_add, pk_mul, nI_clamp, decide_true, Nat.le_refl, bI_eq, bI_z1, nI_ltI, nI_leI, e1, k18, k398, swm_10, e426]
            have hr : coS T f (v 388 2) (v 388 51) (v 388 55) (hhN (v 426) 3) (nI 10) = nI 3 := by show nI (hhN (v 426) 3) = nI 3; rw [hh_3, if_neg h0, if_neg h1, if_neg h2]
            rw [hr] at hQ
            exact hQ v1 q1
  · have hsw := swm_d hz
    refine go_at (blk := b_Model_count_4) rfl ?_
    simp (disch := omega) only [b_Model_count_4, be_4, be_52, List.getD_cons_zero, List.getD_cons_succ, List.set_cons_zero, List.set_cons_succ, List.length_cons, List.length_nil, pk_I, pk_A, pr_A, pi_I, st_s, st_n, if_true, if_false, eq_self, d_if, d_ju, d_re, d_ca, cat0, cat1, cat2, cat3, fr_z, fr_s, cc_I, cc_A, cc_N, Nat.reduceAdd, Nat.reduceLT, Nat.reduceLeDiff, Nat.reduceEqDiff, not_true, not_false_iff, z1_0, z1_1, Bool.and_self, Bool.true_and, Bool.and_true, nI_add, pk_mul, nI_clamp, decide_true, Nat.le_refl, bI_eq, bI_z1, hsw]
    refine go_at (blk := b_Model_count_210) rfl ?_
    simp (disch := omega) only [b_Model_count_210, be_2, be_54, List.getD_cons_zero, List.getD_cons_succ, List.set_cons_zero, List.set_cons_succ, List.length_cons, List.length_nil, pk_I, pk_A, pr_A, pi_I, st_s, st_n, if_true, if_false, eq_self, d_if, d_ju, d_re, d_ca, cat0, cat1, cat2, cat3, fr_z, fr_s, cc_I, cc_A, cc_N, Nat.reduceAdd, Nat.reduceLT, Nat.reduceLeDiff, Nat.reduceEqDiff, not_true, not_false_iff, z1_0, z1_1, Bool.and_self, Bool.true_and, Bool.and_true, nI_add, pk_mul, nI_clamp, decide_true, Nat.le_refl, bI_eq, bI_z1, hsw]
    rw [co_d hz] at hQ
    exact hQ v1 q1
set_option maxHeartbeats 1000000 in
theorem r_tell {d : Nat} {v : Nat → Nat → Int32} {w : Nat → Nat → Int64} {Q : Option Value → am_H → Prop} {T : TXT} {lv : Nat} {f : Nat → Int32} {B : Int} (hM : MI B v T lv f) {m : Nat} {tp tm : Nat → Nat} {ts : Nat → Int32} (hW : WM v (tN T) m tp tm ts) {y a b : Int32} (q0 : (m = 20 ∨ teB (tN T) y a b = false) → Q (some (.int (-1))) (428, 26053, KD, RF, v, w)) (q1 : m < 20 → teB (tN T) y a b = true → Q (some (.int (nI m))) (428, 26053, KD, RF, am_u (am_u (am_u (am_u v 423 m y) 424 m a) 425 m b) 388 55 (nI (m + 1)), w)) : am_Ca (d + 3) M_Model_tell_ [.ref 388, .int y, .int a, .int b] (428, 26053, KD, RF, v, w) Q := by
  have h8 := hM.2.2.2.2.1.1
  have hm20 := hW.2.1
  have w1 := hW.1
  refine ca_in (k := k_Model_tell_) (nL := 4) rfl (Nat.le_of_ble_eq_true rfl) ?_
  show am_Go am_X0 _ k_Model_tell_ 0 ([.ref 388, .int y, .int a, .int b], [], _) _
  refine go_at (blk := b_Model_tell__0) rfl ?_
  simp (disch := omega) only [b_Model_tell__0, be_6, be_33, be_1, be_49_0, kc_388, List.getD_cons_zero, List.getD_cons_succ, List.set_cons_zero, List.set_cons_succ, List.length_cons, List.length_nil, pk_I, pk_A, pr_A, pi_I, st_s, st_n, if_true, if_false, eq_self, d_if, d_ju, d_re, d_ca, cat0, cat1, cat2, cat3, fr_z, fr_s, cc_I, cc_A, cc_N, Nat.reduceAdd, Nat.reduceLT, Nat.reduceLeDiff, Nat.reduceEqDiff, not_true, not_false_iff, z1_0, z1_1, Bool.and_self, Bool.true_and, Bool.and_true, nI_add, pk_mul, nI_clamp, decide_true, Nat.le_refl, bI_eq, bI_z1, w1, nI_eq, vb_0, vb_1, am_u_at, am_u_ne, upd_at, upd_ne, nI_sb1]
  split
  · rename_i hm
    refine go_at (blk := b_Model_tell__37) rfl ?_
    simp (disch := omega) only [b_Model_tell__37, be_2, be_54, List.getD_cons_zero, List.getD_cons_succ, List.set_cons_zero, List.set_cons_succ, List.length_cons, List.length_nil, pk_I, pk_A, pr_A, pi_I, st_s, st_n, if_true, if_false, eq_self, d_if, d_ju, d_re, d_ca, cat0, cat1, cat2, cat3, fr_z, fr_s, cc_I, cc_A, cc_N, Nat.reduceAdd, Nat.reduceLT, Nat.reduceLeDiff, Nat.reduceEqDiff, not_true, not_false_iff, z1_0, z1_1, Bool.and_self, Bool.true_and, Bool.and_true, nI_add, pk_mul, nI_clamp, decide_true, Nat.le_refl, bI_eq, bI_z1, w1, nI_eq, vb_0, vb_1, am_u_at, am_u_ne, upd_at, upd_ne, nI_sb1]
    exact q0 (Or.inl hm)
  · rename_i hm
    refine go_at (blk := b_Model_tell__9) rfl ?_
    simp (disch := omega) only [b_Model_tell__9, be_6, be_4, be_57_1, kc_388, List.getD_cons_zero, List.getD_cons_succ, List.set_cons_zero, List.set_cons_succ, List.length_cons, List.length_nil, pk_I, pk_A, pr_A, pi_I, st_s, st_n, if_true, if_false, eq_self, d_if, d_ju, d_re, d_ca, cat0, cat1, cat2, cat3, fr_z, fr_s, cc_I, cc_A, cc_N, Nat.reduceAdd, Nat.reduceLT, Nat.reduceLeDiff, Nat.reduceEqDiff, not_true, not_false_iff, z1_0, z1_1, Bool.and_self, Bool.true_and, Bool.and_true, nI_add, pk_mul, nI_clamp, decide_true, Nat.le_refl, bI_eq, bI_z1, w1, nI_eq, vb_0, vb_1, am_u_at, am_u_ne, upd_at, upd_ne, nI_sb1]
    refine r_isPil hM.1 ?_
    refine go_at (blk := b_Model_tell__14) rfl ?_
    simp (disch := omega) only [b_Model_tell__14, be_50_0, List.getD_cons_zero, List.getD_cons_succ, List.set_cons_zero, List.set_cons_succ, List.length_cons, List.length_nil, pk_I, pk_A, pr_A, pi_I, st_s, st_n, if_true, if_false, eq_self, d_if, d_ju, d_re, d_ca, cat0, cat1, cat2, cat3, fr_z, fr_s, cc_I, cc_A, cc_N, Nat.reduceAdd, Nat.reduceLT, Nat.reduceLeDiff, Nat.reduceEqDiff, not_true, not_false_iff, z1_0, z1_1, Bool.and_self, Bool.true_and, Bool.and_true, nI_add, pk_mul, nI_clamp, decide_true, Nat.le_refl, bI_eq, bI_z1, w1, nI_eq, vb_0, vb_1, am_u_at, am_u_ne, upd_at, upd_ne, nI_sb1]
    split
    · rename_i h0
      have h0 : pilB (tN T) y = false := by simpa using h0
      refine go_at (blk := b_Model_tell__37) rfl ?_
      simp (disch := omega) only [b_Model_tell__37, be_2, be_54, List.getD_cons_zero, List.getD_cons_succ, List.set_cons_zero, List.set_cons_succ, List.length_cons, List.length_nil, pk_I, pk_A, pr_A, pi_I, st_s, st_n, if_true, if_false, eq_self, d_if, d_ju, d_re, d_ca, cat0, cat1, cat2, cat3, fr_z, fr_s, cc_I, cc_A, cc_N, Nat.reduceAdd, Nat.reduceLT, Nat.reduceLeDiff, Nat.reduceEqDiff, not_true, not_false_iff, z1_0, z1_1, Bool.and_self, Bool.true_and, Bool.and_true, nI_add, pk_mul, nI_clamp, decide_true, Nat.le_refl, bI_eq, bI_z1, w1, nI_eq, vb_0, vb_1, am_u_at, am_u_ne, upd_at, upd_ne, nI_sb1]
      exact q0 (Or.inr (by unfold teB; rw [h0]; simp))
    · rename_i h0
      have h0 : pilB (tN T) y = true := by simpa using h0
      refine go_at (blk := b_Model_tell__17) rfl ?_
      simp (disch := omega) only [b_Model_tell__17, be_4, be_1, be_58_3, List.getD_cons_zero, List.getD_cons_succ, List.set_cons_zero, List.set_cons_succ, List.length_cons, List.length_nil, pk_I, pk_A, pr_A, pi_I, st_s, st_n, if_true, if_false, eq_self, d_if, d_ju, d_re, d_ca, cat0, cat1, cat2, cat3, fr_z, fr_s, cc_I, cc_A, cc_N, Nat.reduceAdd, Nat.reduceLT, Nat.reduceLeDiff, Nat.reduceEqDiff, not_true, not_false_iff, z1_0, z1_1, Bool.and_self, Bool.true_and, Bool.and_true, nI_add, pk_mul, nI_clamp, decide_true, Nat.le_refl, bI_eq, bI_z1, w1, nI_eq, vb_0, vb_1, am_u_at, am_u_ne, upd_at, upd_ne, nI_sb1]
      refine m_in ?_
      rw [show inB a (nI 0) (nI 99) = (!decide (a < 0) && !decide (nI 99 < a)) from rfl]
      refine go_at (blk := b_Model_tell__24) rfl ?_
      simp (disch := omega) only [b_Model_tell__24, be_50_0, List.getD_cons_zero, List.getD_cons_succ, List.set_cons_zero, List.set_cons_succ, List.length_cons, List.length_nil, pk_I, pk_A, pr_A, pi_I, st_s, st_n, if_true, if_false, eq_self, d_if, d_ju, d_re, d_ca, cat0, cat1, cat2, cat3, fr_z, fr_s, cc_I, cc_A, cc_N, Nat.reduceAdd, Nat.reduceLT, Nat.reduceLeDiff, Nat.reduceEqDiff, not_true, not_false_iff, z1_0, z1_1, Bool.and_self, Bool.true_and, Bool.and_true, nI_add, pk_mul, nI_clamp, decide_true, Nat.le_refl, bI_eq, bI_z1, w1, nI_eq, vb_0, vb_1, am_u_at, am_u_ne, upd_at, upd_ne, nI_sb1]
      split
      · rename_i h1
        have h1 : (!decide (a < 0) && !decide (nI 99 < a)) = false := by simpa using h1
        refine go_at (blk := b_Model_tell__37) rfl ?_
        simp (disch := omega) only [b_Model_tell__37, be_2, be_54, List.getD_cons_zero, List.getD_cons_succ, List.set_cons_zero, List.set_cons_succ, List.length_cons, List.length_nil, pk_I, pk_A, pr_A, pi_I, st_s, st_n, if_true, if_false, eq_self, d_if, d_ju, d_re, d_ca, cat0, cat1, cat2, cat3, fr_z, fr_s, cc_I, cc_A, cc_N, Nat.reduceAdd, Nat.reduceLT, Nat.reduceLeDiff, Nat.reduceEqDiff, not_true, not_false_iff, z1_0, z1_1, Bool.and_self, Bool.true_and, Bool.and_true, nI_add, pk_mul, nI_clamp, decide_true, Nat.le_refl, bI_eq, bI_z1, w1, nI_eq, vb_0, vb_1, am_u_at, am_u_ne, upd_at, upd_ne, nI_sb1]
        exact q0 (Or.inr (by unfold teB; rw [h1]; simp))
      · rename_i h1
        have h1 : (!decide (a < 0) && !decide (nI 99 < a)) = true := by simpa using h1
        refine go_at (blk := b_Model_tell__27) rfl ?_
        simp (disch := omega) only [b_Model_tell__27, be_4, be_1, be_58_3, List.getD_cons_zero, List.getD_cons_succ, List.set_cons_zero, List.set_cons_succ, List.length_cons, List.length_nil, pk_I, pk_A, pr_A, pi_I, st_s, st_n, if_true, if_false, eq_self, d_if, d_ju, d_re, d_ca, cat0, cat1, cat2, cat3, fr_z, fr_s, cc_I, cc_A, cc_N, Nat.reduceAdd, Nat.reduceLT, Nat.reduceLeDiff, Nat.reduceEqDiff, not_true, not_false_iff, z1_0, z1_1, Bool.and_self, Bool.true_and, Bool.and_true, nI_add, pk_mul, nI_clamp, decide_true, Nat.le_refl, bI_eq, bI_z1, w1, nI_eq, vb_0, vb_1, am_u_at, am_u_ne, upd_at, upd_ne, nI_sb1]
        refine m_in ?_
        rw [show inB b (nI 0) (nI 99) = (!decide (b < 0) && !decide (nI 99 < b)) from rfl]
        refine go_at (blk := b_Model_tell__34) rfl ?_
        simp (disch := omega) only [b_Model_tell__34, be_50_1, List.getD_cons_zero, List.getD_cons_succ, List.set_cons_zero, List.set_cons_succ, List.length_cons, List.length_nil, pk_I, pk_A, pr_A, pi_I, st_s, st_n, if_true, if_false, eq_self, d_if, d_ju, d_re, d_ca, cat0, cat1, cat2, cat3, fr_z, fr_s, cc_I, cc_A, cc_N, Nat.reduceAdd, Nat.reduceLT, Nat.reduceLeDiff, Nat.reduceEqDiff, not_true, not_false_iff, z1_0, z1_1, Bool.and_self, Bool.true_and, Bool.and_true, nI_add, pk_mul, nI_clamp, decide_true, Nat.le_refl, bI_eq, bI_z1, w1, nI_eq, vb_0, vb_1, am_u_at, am_u_ne, upd_at, upd_ne, nI_sb1]
        split
        · rename_i h2
          have h2 : (!decide (b < 0) && !decide (nI 99 < b)) = true := by simpa using h2
          have hm2 : m < 20 := by omega
          refine go_at (blk := b_Model_tell__39) rfl ?_
          simp (disch := omega) only [b_Model_tell__39, be_6, be_34, be_33, be_4, be_43, be_30I, be_30A, be_1, be_12, be_35, be_13, be_54, kc_388, rf_388_56, ka_423, rf_388_57, ka_424, rf_388_58, ka_425, List.getD_cons_zero, List.getD_cons_succ, List.set_cons_zero, List.set_cons_succ, List.length_cons, List.length_nil, pk_I, pk_A, pr_A, pi_I, st_s, st_n, if_true, if_false, eq_self, d_if, d_ju, d_re, d_ca, cat0, cat1, cat2, cat3, fr_z, fr_s, cc_I, cc_A, cc_N, Nat.reduceAdd, Nat.reduceLT, Nat.reduceLeDiff, Nat.reduceEqDiff, not_true, not_false_iff, z1_0, z1_1, Bool.and_self, Bool.true_and, Bool.and_true, nI_add, pk_mul, nI_clamp, decide_true, Nat.le_refl, bI_eq, bI_z1, w1, nI_eq, vb_0, vb_1, am_u_at, am_u_ne, upd_at, upd_ne, nI_sb1]
          exact q1 hm2 (by unfold teB; rw [h0, h1, h2]; rfl)
        · rename_i h2
          have h2 : (!decide (b < 0) && !decide (nI 99 < b)) = false := by simpa using h2
          refine go_at (blk := b_Model_tell__37) rfl ?_
          simp (disch := omega) only [b_Model_tell__37, be_2, be_54, List.getD_cons_zero, List.getD_cons_succ, List.set_cons_zero, List.set_cons_succ, List.length_cons, List.length_nil, pk_I, pk_A, pr_A, pi_I, st_s, st_n, if_true, if_false, eq_self, d_if, d_ju, d_re, d_ca, cat0, cat1, cat2, cat3, fr_z, fr_s, cc_I, cc_A, cc_N, Nat.reduceAdd, Nat.reduceLT, Nat.reduceLeDiff, Nat.reduceEqDiff, not_true, not_false_iff, z1_0, z1_1, Bool.and_self, Bool.true_and, Bool.and_true, nI_add, pk_mul, nI_clamp, decide_true, Nat.le_refl, bI_eq, bI_z1, w1, nI_eq, vb_0, vb_1, am_u_at, am_u_ne, upd_at, upd_ne, nI_sb1]
          exact q0 (Or.inr (by unfold teB; rw [h2]; simp))
theorem r_forget {d : Nat} {v : Nat → Nat → Int32} {w : Nat → Nat → Int64} {Q : Option Value → am_H → Prop} (hQ : Q (some (.int (v 388 55))) (428, 26053, KD, RF, am_u v 388 55 (nI 0), w)) : am_Ca (d + 1) M_Model_forget [.ref 388] (428, 26053, KD, RF, v, w) Q := by
  refine ca_in (k := k_Model_forget) (nL := 2) rfl (Nat.le_of_ble_eq_true rfl) ?_
  show am_Go am_X0 _ k_Model_forget 0 ([.ref 388, .null], [], _) _
  refine go_at (blk := b_Model_forget_0) rfl ?_
  simp (disch := omega) only [b_Model_forget_0, be_6, be_33, be_7, be_1, be_35, be_4, be_54, kc_388, List.getD_cons_zero, List.getD_cons_succ, List.set_cons_zero, List.set_cons_succ, List.length_cons, List.length_nil, pk_I, pk_A, pr_A, pi_I, st_s, st_n, if_true, if_false, eq_self, d_if, d_ju, d_re, d_ca, cat0, cat1, cat2, cat3, fr_z, fr_s, cc_I, cc_A, cc_N, Nat.reduceAdd, Nat.reduceLT, Nat.reduceLeDiff, Nat.reduceEqDiff, not_true, not_false_iff, z1_0, z1_1, Bool.and_self, Bool.true_and, Bool.and_true, nI_add, pk_mul, nI_clamp, decide_true, Nat.le_refl, bI_eq, bI_z1]
  exact hQ
theorem r_place {d : Nat} {v : Nat → Nat → Int32} {w : Nat → Nat → Int64} {Q : Option Value → am_H → Prop} (hQ : Q (some (.int (v 388 17))) (428, 26053, KD, RF, v, w)) : am_Ca (d + 1) M_Model_place [.ref 388] (428, 26053, KD, RF, v, w) Q := by
  refine ca_in (k := k_Model_place) (nL := 1) rfl (Nat.le_of_ble_eq_true rfl) ?_
  show am_Go am_X0 _ k_Model_place 0 ([.ref 388], [], _) _
  refine go_at (blk := b_Model_place_0) rfl ?_
  simp (disch := omega) only [b_Model_place_0, be_6, be_33, be_54, kc_388, List.getD_cons_zero, List.getD_cons_succ, List.set_cons_zero, List.set_cons_succ, List.length_cons, List.length_nil, pk_I, pk_A, pr_A, pi_I, st_s, st_n, if_true, if_false, eq_self, d_if, d_ju, d_re, d_ca, cat0, cat1, cat2, cat3, fr_z, fr_s, cc_I, cc_A, cc_N, Nat.reduceAdd, Nat.reduceLT, Nat.reduceLeDiff, Nat.reduceEqDiff, not_true, not_false_iff, z1_0, z1_1, Bool.and_self, Bool.true_and, Bool.and_true, nI_add, pk_mul, nI_clamp, decide_true, Nat.le_refl, bI_eq, bI_z1]
  exact hQ
theorem r_back {d : Nat} {v : Nat → Nat → Int32} {w : Nat → Nat → Int64} {Q : Option Value → am_H → Prop} {x t : Int32} (a1 : v 388 2 = t) (q0 : (x < 0 ∨ t < x) → Q (some (.int (-1))) (428, 26053, KD, RF, v, w)) (q1 : ¬ x < 0 → x ≤ t → Q (some (.int (t - x))) (428, 26053, KD, RF, am_u v 388 2 (t - x), w)) : am_Ca (d + 1) M_Model_back [.ref 388, .int x] (428, 26053, KD, RF, v, w) Q := by
  refine ca_in (k := k_Model_back) (nL := 2) rfl (Nat.le_of_ble_eq_true rfl) ?_
  show am_Go am_X0 _ k_Model_back 0 ([.ref 388, .int x], [], _) _
  refine go_at (blk := b_Model_back_0) rfl ?_
  simp (disch := omega) only [b_Model_back_0, be_4, be_50_2, List.getD_cons_zero, List.getD_cons_succ, List.set_cons_zero, List.set_cons_succ, List.length_cons, List.length_nil, pk_I, pk_A, pr_A, pi_I, st_s, st_n, if_true, if_false, eq_self, d_if, d_ju, d_re, d_ca, cat0, cat1, cat2, cat3, fr_z, fr_s, cc_I, cc_A, cc_N, Nat.reduceAdd, Nat.reduceLT, Nat.reduceLeDiff, Nat.reduceEqDiff, not_true, not_false_iff, z1_0, z1_1, Bool.and_self, Bool.true_and, Bool.and_true, nI_add, pk_mul, nI_clamp, decide_true, Nat.le_refl, bI_eq, bI_z1, a1, vb_0, vb_1, am_u_at, am_u_ne, upd_at, upd_ne]
  split
  · rename_i h0
    refine go_at (blk := b_Model_back_12) rfl ?_
    simp (disch := omega) only [b_Model_back_12, be_2, be_54, List.getD_cons_zero, List.getD_cons_succ, List.set_cons_zero, List.set_cons_succ, List.length_cons, List.length_nil, pk_I, pk_A, pr_A, pi_I, st_s, st_n, if_true, if_false, eq_self, d_if, d_ju, d_re, d_ca, cat0, cat1, cat2, cat3, fr_z, fr_s, cc_I, cc_A, cc_N, Nat.reduceAdd, Nat.reduceLT, Nat.reduceLeDiff, Nat.reduceEqDiff, not_true, not_false_iff, z1_0, z1_1, Bool.and_self, Bool.true_and, Bool.and_true, nI_add, pk_mul, nI_clamp, decide_true, Nat.le_refl, bI_eq, bI_z1, a1, vb_0, vb_1, am_u_at, am_u_ne, upd_at, upd_ne]
    exact q0 (Or.inl h0)
  · rename_i h0
    refine go_at (blk := b_Model_back_4) rfl ?_
    simp (disch := omega) only [b_Model_back_4, be_4, be_6, be_33, be_49_5, kc_388, List.getD_cons_zero, List.getD_cons_succ, List.set_cons_zero, List.set_cons_succ, List.length_cons, List.length_nil, pk_I, pk_A, pr_A, pi_I, st_s, st_n, if_true, if_false, eq_self, d_if, d_ju, d_re, d_ca, cat0, cat1, cat2, cat3, fr_z, fr_s, cc_I, cc_A, cc_N, Nat.reduceAdd, Nat.reduceLT, Nat.reduceLeDiff, Nat.reduceEqDiff, not_true, not_false_iff, z1_0, z1_1, Bool.and_self, Bool.true_and, Bool.and_true, nI_add, pk_mul, nI_clamp, decide_true, Nat.le_refl, bI_eq, bI_z1, a1, vb_0, vb_1, am_u_at, am_u_ne, upd_at, upd_ne]
    split
    · rename_i h1
      refine go_at (blk := b_Model_back_14) rfl ?_
      simp (disch := omega) only [b_Model_back_14, be_6, be_30I, be_30A, be_33, be_4, be_13, be_35, be_54, kc_388, List.getD_cons_zero, List.getD_cons_succ, List.set_cons_zero, List.set_cons_succ, List.length_cons, List.length_nil, pk_I, pk_A, pr_A, pi_I, st_s, st_n, if_true, if_false, eq_self, d_if, d_ju, d_re, d_ca, cat0, cat1, cat2, cat3, fr_z, fr_s, cc_I, cc_A, cc_N, Nat.reduceAdd, Nat.reduceLT, Nat.reduceLeDiff, Nat.reduceEqDiff, not_true, not_false_iff, z1_0, z1_1, Bool.and_self, Bool.true_and, Bool.and_true, nI_add, pk_mul, nI_clamp, decide_true, Nat.le_refl, bI_eq, bI_z1, a1, vb_0, vb_1, am_u_at, am_u_ne, upd_at, upd_ne]
      exact q1 h0 h1
    · rename_i h1
      refine go_at (blk := b_Model_back_12) rfl ?_
      simp (disch := omega) only [b_Model_back_12, be_2, be_54, List.getD_cons_zero, List.getD_cons_succ, List.set_cons_zero, List.set_cons_succ, List.length_cons, List.length_nil, pk_I, pk_A, pr_A, pi_I, st_s, st_n, if_true, if_false, eq_self, d_if, d_ju, d_re, d_ca, cat0, cat1, cat2, cat3, fr_z, fr_s, cc_I, cc_A, cc_N, Nat.reduceAdd, Nat.reduceLT, Nat.reduceLeDiff, Nat.reduceEqDiff, not_true, not_false_iff, z1_0, z1_1, Bool.and_self, Bool.true_and, Bool.and_true, nI_add, pk_mul, nI_clamp, decide_true, Nat.le_refl, bI_eq, bI_z1, a1, vb_0, vb_1, am_u_at, am_u_ne, upd_at, upd_ne]
      exact q0 (Or.inr (Int32.not_le.mp h1))
set_option maxHeartbeats 1000000 in
theorem r_hold {d : Nat} {v : Nat → Nat → Int32} {w : Nat → Nat → Int64} {Q : Option Value → am_H → Prop} {T : TXT} {lv : Nat} {f : Nat → Int32} {B : Int} (hM : MI B v T lv f) {x : Int32} (q0 : (x < 0 ∨ nI 2 < x) → Q (some (.int (nI 0))) (428, 26053, KD, RF, v, w)) (q1 : ∀ s v', s < 3 → x = nI s → (∀ c, c ≠ 426 → c ≠ 427 → v' c = v c) → v' 426 = upd (v 426) s (nI 1) → v' 427 = plR f (v 427) (50 * s) 50 → Q (some (.int (nI 1))) (428, 26053, KD, RF, v', w)) : am_Ca (d + 2) M_Model_hold [.ref 388, .int x] (428, 26053, KD, RF, v, w) Q := by
  have h8 := hM.2.2.2.2.1.1
  refine ca_in (k := k_Model_hold) (nL := 3) rfl (Nat.le_of_ble_eq_true rfl) ?_
  show am_Go am_X0 _ k_Model_hold 0 ([.ref 388, .int x, .null], [], _) _
  refine go_at (blk := b_Model_hold_0) rfl ?_
  simp (disch := omega) only [b_Model_hold_0, be_4, be_1, be_58_3, List.getD_cons_zero, List.getD_cons_succ, List.set_cons_zero, List.set_cons_succ, List.length_cons, List.length_nil, pk_I, pk_A, pr_A, pi_I, st_s, st_n, if_true, if_false, eq_self, d_if, d_ju, d_re, d_ca, cat0, cat1, cat2, cat3, fr_z, fr_s, cc_I, cc_A, cc_N, Nat.reduceAdd, Nat.reduceLT, Nat.reduceLeDiff, Nat.reduceEqDiff, not_true, not_false_iff, z1_0, z1_1, Bool.and_self, Bool.true_and, Bool.and_true, nI_add, pk_mul, nI_clamp, decide_true, Nat.le_refl, bI_eq, bI_z1, vb_1]
  refine m_in ?_
  rw [show inB x (nI 0) (nI 2) = (!decide (x < 0) && !decide (nI 2 < x)) from rfl]
  refine go_at (blk := b_Model_hold_6) rfl ?_
  simp (disch := omega) only [b_Model_hold_6, be_50_1, List.getD_cons_zero, List.getD_cons_succ, List.set_cons_zero, List.set_cons_succ, List.length_cons, List.length_nil, pk_I, pk_A, pr_A, pi_I, st_s, st_n, if_true, if_false, eq_self, d_if, d_ju, d_re, d_ca, cat0, cat1, cat2, cat3, fr_z, fr_s, cc_I, cc_A, cc_N, Nat.reduceAdd, Nat.reduceLT, Nat.reduceLeDiff, Nat.reduceEqDiff, not_true, not_false_iff, z1_0, z1_1, Bool.and_self, Bool.true_and, Bool.and_true, nI_add, pk_mul, nI_clamp, decide_true, Nat.le_refl, bI_eq, bI_z1, vb_1]
  split
  · rename_i h0
    have h0 : (!decide (x < 0) && !decide (nI 2 < x)) = true := by simpa using h0
    obtain ⟨s, hs0, rfl, e⟩ := in_of (m := 2) (by omega) h0
    have hs : s < 3 := by omega
    refine go_at (blk := b_Model_hold_11) rfl ?_
    simp (disch := omega) only [b_Model_hold_11, be_6, be_34, be_4, be_1, be_45, be_7, be_0, kc_388, rf_388_59, ka_426, List.getD_cons_zero, List.getD_cons_succ, List.set_cons_zero, List.set_cons_succ, List.length_cons, List.length_nil, pk_I, pk_A, pr_A, pi_I, st_s, st_n, if_true, if_false, eq_self, d_if, d_ju, d_re, d_ca, cat0, cat1, cat2, cat3, fr_z, fr_s, cc_I, cc_A, cc_N, Nat.reduceAdd, Nat.reduceLT, Nat.reduceLeDiff, Nat.reduceEqDiff, not_true, not_false_iff, z1_0, z1_1, Bool.and_self, Bool.true_and, Bool.and_true, nI_add, pk_mul, nI_clamp, decide_true, Nat.le_refl, bI_eq, bI_z1, vb_1]
    obtain ⟨v1, hv1⟩ : ∃ v1, v1 = am_u v 426 s (nI 1) := ⟨_, rfl⟩
    rw [← hv1]
    have k418 : v1 418 = f := by rw [hv1, am_u_ne (by omega)]; exact hM.2.1
    have e0 : sA v1 427 (plR f (v 427) (50 * s) 0) = v1 := by rw [pl_0, show v 427 = v1 427 by rw [hv1, am_u_ne (by omega)], sA_self]
    have hh2 : am_Go am_X0 (d + 1) k_Model_hold 20 ([.ref 388, .int (nI s), .int (nI 0)], [], (428, 26053, KD, RF, sA v1 427 (plR f (v 427) (50 * s) 0), w)) Q := by
      refine go_loopA (α := Unit) (fun i u => ([.ref 388, .int (nI s), .int (nI i)], [], (428, 26053, KD, RF, sA v1 427 (plR f (v 427) (50 * s) i), w))) (fun i u => True) (50) ?_ ?_ () trivial
      · intro i _ hi _ ih
        try dsimp only at *
        have hni : ¬ 50 ≤ i := by omega
        refine go_at (blk := b_Model_hold_20) rfl ?_
        simp (disch := omega) only [b_Model_hold_20, be_4, be_1, be_49_3, List.getD_cons_zero, List.getD_cons_succ, List.set_cons_zero, List.set_cons_succ, List.length_cons, List.length_nil, pk_I, pk_A, pr_A, pi_I, st_s, st_n, if_true, if_false, eq_self, d_if, d_ju, d_re, d_ca, cat0, cat1, cat2, cat3, fr_z, fr_s, cc_I, cc_A, cc_N, Nat.reduceAdd, Nat.reduceLT, Nat.reduceLeDiff, Nat.reduceEqDiff, not_true, not_false_iff, z1_0, z1_1, Bool.and_self, Bool.true_and, Bool.and_true, nI_add, pk_mul, nI_clamp, decide_true, Nat.le_refl, bI_eq, bI_z1, nI_ltI, nI_leI, sA_ne, sA_at, sA_u, pl_s, k418, hni]
        refine go_at (blk := b_Model_hold_26) rfl ?_
        simp (disch := omega) only [b_Model_hold_26, be_6, be_34, be_1, be_4, be_14, be_12, be_38, be_43, be_10, be_51, kc_388, rf_388_60, rf_388_47, ka_418, ka_427, List.getD_cons_zero, List.getD_cons_succ, List.set_cons_zero, List.set_cons_succ, List.length_cons, List.length_nil, pk_I, pk_A, pr_A, pi_I, st_s, st_n, if_true, if_false, eq_self, d_if, d_ju, d_re, d_ca, cat0, cat1, cat2, cat3, fr_z, fr_s, cc_I, cc_A, cc_N, Nat.reduceAdd, Nat.reduceLT, Nat.reduceLeDiff, Nat.reduceEqDiff, not_true, not_false_iff, z1_0, z1_1, Bool.and_self, Bool.true_and, Bool.and_true, nI_add, pk_mul, nI_clamp, decide_true, Nat.le_refl, bI_eq, bI_z1, nI_ltI, nI_leI, sA_ne, sA_at, sA_u, pl_s, k418, hni]
        exact ih () trivial
      · intro _ _
        try dsimp only at *
        have e1 : ∀ c, c ≠ 426 → c ≠ 427 → sA v1 427 (plR f (v 427) (50 * s) 50) c = v c := fun c c1 c2 => by rw [sA_ne c2, hv1, am_u_ne c1]
        have e2 : sA v1 427 (plR f (v 427) (50 * s) 50) 426 = upd (v 426) s (nI 1) := by rw [sA_ne (by omega), hv1, am_u_at]
        have e3 : sA v1 427 (plR f (v 427) (50 * s) 50) 427 = plR f (v 427) (50 * s) 50 := sA_at
        refine go_at (blk := b_Model_hold_20) rfl ?_
        simp (disch := omega) only [b_Model_hold_20, be_4, be_1, be_49_3, List.getD_cons_zero, List.getD_cons_succ, List.set_cons_zero, List.set_cons_succ, List.length_cons, List.length_nil, pk_I, pk_A, pr_A, pi_I, st_s, st_n, if_true, if_false, eq_self, d_if, d_ju, d_re, d_ca, cat0, cat1, cat2, cat3, fr_z, fr_s, cc_I, cc_A, cc_N, Nat.reduceAdd, Nat.reduceLT, Nat.reduceLeDiff, Nat.reduceEqDiff, not_true, not_false_iff, z1_0, z1_1, Bool.and_self, Bool.true_and, Bool.and_true, nI_add, pk_mul, nI_clamp, decide_true, Nat.le_refl, bI_eq, bI_z1, nI_ltI, nI_leI]
        refine go_at (blk := b_Model_hold_49) rfl ?_
        simp (disch := omega) only [b_Model_hold_49, be_1, be_73, List.getD_cons_zero, List.getD_cons_succ, List.set_cons_zero, List.set_cons_succ, List.length_cons, List.length_nil, pk_I, pk_A, pr_A, pi_I, st_s, st_n, if_true, if_false, eq_self, d_if, d_ju, d_re, d_ca, cat0, cat1, cat2, cat3, fr_z, fr_s, cc_I, cc_A, cc_N, Nat.reduceAdd, Nat.reduceLT, Nat.reduceLeDiff, Nat.reduceEqDiff, not_true, not_false_iff, z1_0, z1_1, Bool.and_self, Bool.true_and, Bool.and_true, nI_add, pk_mul, nI_clamp, decide_true, Nat.le_refl, bI_eq, bI_z1, nI_ltI, nI_leI]
        exact q1 s _ hs rfl e1 e2 e3
    rw [e0] at hh2
    exact hh2
  · rename_i h0
    have h0 : (!decide (x < 0) && !decide (nI 2 < x)) = false := by simpa using h0
    refine go_at (blk := b_Model_hold_9) rfl ?_
    simp (disch := omega) only [b_Model_hold_9, be_1, be_73, List.getD_cons_zero, List.getD_cons_succ, List.set_cons_zero, List.set_cons_succ, List.length_cons, List.length_nil, pk_I, pk_A, pr_A, pi_I, st_s, st_n, if_true, if_false, eq_self, d_if, d_ju, d_re, d_ca, cat0, cat1, cat2, cat3, fr_z, fr_s, cc_I, cc_A, cc_N, Nat.reduceAdd, Nat.reduceLT, Nat.reduceLeDiff, Nat.reduceEqDiff, not_true, not_false_iff, z1_0, z1_1, Bool.and_self, Bool.true_and, Bool.and_true, nI_add, pk_mul, nI_clamp, decide_true, Nat.le_refl, bI_eq, bI_z1, vb_1]
    refine q0 ?_
    rw [Bool.and_eq_false_iff] at h0
    rcases h0 with h0 | h0
    · exact Or.inl (by simpa using h0)
    · exact Or.inr (by simpa using h0)
set_option maxHeartbeats 1000000 in
theorem r_restore {d : Nat} {v : Nat → Nat → Int32} {w : Nat → Nat → Int64} {Q : Option Value → am_H → Prop} {T : TXT} {lv : Nat} {f : Nat → Int32} {B : Int} (hM : MI B v T lv f) {x : Int32} {gs : Nat → Nat → Int32} (hG : ∀ s, s < 3 → ¬ v 426 s = 0 → (∀ k, k < 50 → v 427 (50 * s + k) = gs s k) ∧ ∀ j, 50 ≤ j → v 418 j = gs s j) (q0 : (x < 0 ∨ nI 2 < x) → Q (some (.int (nI 0))) (428, 26053, KD, RF, v, w)) (q1 : ∀ s, s < 3 → x = nI s → v 426 s = 0 → Q (some (.int (nI 0))) (428, 26053, KD, RF, v, w)) (q2 : ∀ s v', s < 3 → x = nI s → ¬ v 426 s = 0 → (∀ c, c ≠ 418 → c ≠ 388 → v' c = v c) → (∀ k, k ≠ 51 → v' 388 k = v 388 k) → v' 388 51 = nI 0 → v' 418 = gs s → Q (some (.int (nI 1))) (428, 26053, KD, RF, v', w)) : am_Ca (d + 2) M_Model_restore [.ref 388, .int x] (428, 26053, KD, RF, v, w) Q := by
  have h8 := hM.2.2.2.2.1.1
  refine ca_in (k := k_Model_restore) (nL := 3) rfl (Nat.le_of_ble_eq_true rfl) ?_
  show am_Go am_X0 _ k_Model_restore 0 ([.ref 388, .int x, .null], [], _) _
  refine go_at (blk := b_Model_restore_0) rfl ?_
  simp (disch := omega) only [b_Model_restore_0, be_4, be_1, be_58_3, List.getD_cons_zero, List.getD_cons_succ, List.set_cons_zero, List.set_cons_succ, List.length_cons, List.length_nil, pk_I, pk_A, pr_A, pi_I, st_s, st_n, if_true, if_false, eq_self, d_if, d_ju, d_re, d_ca, cat0, cat1, cat2, cat3, fr_z, fr_s, cc_I, cc_A, cc_N, Nat.reduceAdd, Nat.reduceLT, Nat.reduceLeDiff, Nat.reduceEqDiff, not_true, not_false_iff, z1_0, z1_1, Bool.and_self, Bool.true_and, Bool.and_true, nI_add, pk_mul, nI_clamp, decide_true, Nat.le_refl, bI_eq, bI_z1]
  refine m_in ?_
  rw [show inB x (nI 0) (nI 2) = (!decide (x < 0) && !decide (nI 2 < x)) from rfl]
  refine go_at (blk := b_Model_restore_6) rfl ?_
  simp (disch := omega) only [b_Model_restore_6, be_50_0, List.getD_cons_zero, List.getD_cons_succ, List.set_cons_zero, List.set_cons_succ, List.length_cons, List.length_nil, pk_I, pk_A, pr_A, pi_I, st_s, st_n, if_true, if_false, eq_self, d_if, d_ju, d_re, d_ca, cat0, cat1, cat2, cat3, fr_z, fr_s, cc_I, cc_A, cc_N, Nat.reduceAdd, Nat.reduceLT, Nat.reduceLeDiff, Nat.reduceEqDiff, not_true, not_false_iff, z1_0, z1_1, Bool.and_self, Bool.true_and, Bool.and_true, nI_add, pk_mul, nI_clamp, decide_true, Nat.le_refl, bI_eq, bI_z1]
  split
  · rename_i h0
    have h0 : (!decide (x < 0) && !decide (nI 2 < x)) = false := by simpa using h0
    refine go_at (blk := b_Model_restore_18) rfl ?_
    simp (disch := omega) only [b_Model_restore_18, be_1, be_73, List.getD_cons_zero, List.getD_cons_succ, List.set_cons_zero, List.set_cons_succ, List.length_cons, List.length_nil, pk_I, pk_A, pr_A, pi_I, st_s, st_n, if_true, if_false, eq_self, d_if, d_ju, d_re, d_ca, cat0, cat1, cat2, cat3, fr_z, fr_s, cc_I, cc_A, cc_N, Nat.reduceAdd, Nat.reduceLT, Nat.reduceLeDiff, Nat.reduceEqDiff, not_true, not_false_iff, z1_0, z1_1, Bool.and_self, Bool.true_and, Bool.and_true, nI_add, pk_mul, nI_clamp, decide_true, Nat.le_refl, bI_eq, bI_z1]
    refine q0 ?_
    rw [Bool.and_eq_false_iff] at h0
    rcases h0 with h0 | h0
    · exact Or.inl (by simpa using h0)
    · exact Or.inr (by simpa using h0)
  · rename_i h0
    have h0 : (!decide (x < 0) && !decide (nI 2 < x)) = true := by simpa using h0
    obtain ⟨s, hs0, rfl, e⟩ := in_of (m := 2) (by omega) h0
    have hs : s < 3 := by omega
    refine go_at (blk := b_Model_restore_9) rfl ?_
    simp (disch := omega) only [b_Model_restore_9, be_6, be_34, be_4, be_40, be_50_1, kc_388, rf_388_59, ka_426, List.getD_cons_zero, List.getD_cons_succ, List.set_cons_zero, List.set_cons_succ, List.length_cons, List.length_nil, pk_I, pk_A, pr_A, pi_I, st_s, st_n, if_true, if_false, eq_self, d_if, d_ju, d_re, d_ca, cat0, cat1, cat2, cat3, fr_z, fr_s, cc_I, cc_A, cc_N, Nat.reduceAdd, Nat.reduceLT, Nat.reduceLeDiff, Nat.reduceEqDiff, not_true, not_false_iff, z1_0, z1_1, Bool.and_self, Bool.true_and, Bool.and_true, nI_add, pk_mul, nI_clamp, decide_true, Nat.le_refl, bI_eq, bI_z1]
    split
    · rename_i h1
      refine go_at (blk := b_Model_restore_20) rfl ?_
      simp (disch := omega) only [b_Model_restore_20, be_1, be_7, be_0, List.getD_cons_zero, List.getD_cons_succ, List.set_cons_zero, List.set_cons_succ, List.length_cons, List.length_nil, pk_I, pk_A, pr_A, pi_I, st_s, st_n, if_true, if_false, eq_self, d_if, d_ju, d_re, d_ca, cat0, cat1, cat2, cat3, fr_z, fr_s, cc_I, cc_A, cc_N, Nat.reduceAdd, Nat.reduceLT, Nat.reduceLeDiff, Nat.reduceEqDiff, not_true, not_false_iff, z1_0, z1_1, Bool.and_self, Bool.true_and, Bool.and_true, nI_add, pk_mul, nI_clamp, decide_true, Nat.le_refl, bI_eq, bI_z1]
      have e0 : sA v 418 (cpR (gs s) (v 418) 0) = v := by rw [cp_0, sA_self]
      have hh2 : am_Go am_X0 (d + 1) k_Model_restore 22 ([.ref 388, .int (nI s), .int (nI 0)], [], (428, 26053, KD, RF, sA v 418 (cpR (gs s) (v 418) 0), w)) Q := by
        refine go_loopA (α := Unit) (fun i u => ([.ref 388, .int (nI s), .int (nI i)], [], (428, 26053, KD, RF, sA v 418 (cpR (gs s) (v 418) i), w))) (fun i u => True) (50) ?_ ?_ () trivial
        · intro i _ hi _ ih
          try dsimp only at *
          have hni : ¬ 50 ≤ i := by omega
          have hr : v 427 (50 * s + i) = gs s i := (hG s hs h1).1 i hi
          refine go_at (blk := b_Model_restore_22) rfl ?_
          simp (disch := omega) only [b_Model_restore_22, be_4, be_1, be_49_3, List.getD_cons_zero, List.getD_cons_succ, List.set_cons_zero, List.set_cons_succ, List.length_cons, List.length_nil, pk_I, pk_A, pr_A, pi_I, st_s, st_n, if_true, if_false, eq_self, d_if, d_ju, d_re, d_ca, cat0, cat1, cat2, cat3, fr_z, fr_s, cc_I, cc_A, cc_N, Nat.reduceAdd, Nat.reduceLT, Nat.reduceLeDiff, Nat.reduceEqDiff, not_true, not_false_iff, z1_0, z1_1, Bool.and_self, Bool.true_and, Bool.and_true, nI_add, pk_mul, nI_clamp, decide_true, Nat.le_refl, bI_eq, bI_z1, nI_ltI, nI_leI, sA_ne, sA_at, sA_u, cp_s, hr, hni]
          refine go_at (blk := b_Model_restore_28) rfl ?_
          simp (disch := omega) only [b_Model_restore_28, be_6, be_34, be_4, be_1, be_14, be_12, be_38, be_43, be_10, be_51, kc_388, rf_388_47, rf_388_60, ka_427, ka_418, List.getD_cons_zero, List.getD_cons_succ, List.set_cons_zero, List.set_cons_succ, List.length_cons, List.length_nil, pk_I, pk_A, pr_A, pi_I, st_s, st_n, if_true, if_false, eq_self, d_if, d_ju, d_re, d_ca, cat0, cat1, cat2, cat3, fr_z, fr_s, cc_I, cc_A, cc_N, Nat.reduceAdd, Nat.reduceLT, Nat.reduceLeDiff, Nat.reduceEqDiff, not_true, not_false_iff, z1_0, z1_1, Bool.and_self, Bool.true_and, Bool.and_true, nI_add, pk_mul, nI_clamp, decide_true, Nat.le_refl, bI_eq, bI_z1, nI_ltI, nI_leI, sA_ne, sA_at, sA_u, cp_s, hr, hni]
          exact ih () trivial
        · intro _ _
          try dsimp only at *
          rw [cp_e (hG s hs h1).2]
          have e1 : ∀ c, c ≠ 418 → c ≠ 388 → am_u (sA v 418 (gs s)) 388 51 (nI 0) c = v c := fun c c1 c2 => by rw [am_u_ne c2, sA_ne c1]
          have e2 : ∀ k, k ≠ 51 → am_u (sA v 418 (gs s)) 388 51 (nI 0) 388 k = v 388 k := fun k k1 => by rw [am_u_at, upd_ne k1, sA_ne (by omega)]
          have e3 : am_u (sA v 418 (gs s)) 388 51 (nI 0) 388 51 = nI 0 := by rw [am_u_at, upd_at]
          have e4 : am_u (sA v 418 (gs s)) 388 51 (nI 0) 418 = gs s := by rw [am_u_ne (by omega), sA_at]
          refine go_at (blk := b_Model_restore_22) rfl ?_
          simp (disch := omega) only [b_Model_restore_22, be_4, be_1, be_49_3, List.getD_cons_zero, List.getD_cons_succ, List.set_cons_zero, List.set_cons_succ, List.length_cons, List.length_nil, pk_I, pk_A, pr_A, pi_I, st_s, st_n, if_true, if_false, eq_self, d_if, d_ju, d_re, d_ca, cat0, cat1, cat2, cat3, fr_z, fr_s, cc_I, cc_A, cc_N, Nat.reduceAdd, Nat.reduceLT, Nat.reduceLeDiff, Nat.reduceEqDiff, not_true, not_false_iff, z1_0, z1_1, Bool.and_self, Bool.true_and, Bool.and_true, nI_add, pk_mul, nI_clamp, decide_true, Nat.le_refl, bI_eq, bI_z1, nI_ltI, nI_leI]
          refine go_at (blk := b_Model_restore_51) rfl ?_
          simp (disch := omega) only [b_Model_restore_51, be_6, be_1, be_35, be_73, kc_388, List.getD_cons_zero, List.getD_cons_succ, List.set_cons_zero, List.set_cons_succ, List.length_cons, List.length_nil, pk_I, pk_A, pr_A, pi_I, st_s, st_n, if_true, if_false, eq_self, d_if, d_ju, d_re, d_ca, cat0, cat1, cat2, cat3, fr_z, fr_s, cc_I, cc_A, cc_N, Nat.reduceAdd, Nat.reduceLT, Nat.reduceLeDiff, Nat.reduceEqDiff, not_true, not_false_iff, z1_0, z1_1, Bool.and_self, Bool.true_and, Bool.and_true, nI_add, pk_mul, nI_clamp, decide_true, Nat.le_refl, bI_eq, bI_z1, nI_ltI, nI_leI]
          exact q2 s _ hs rfl h1 e1 e2 e3 e4
      rw [e0] at hh2
      exact hh2
    · rename_i h1
      refine go_at (blk := b_Model_restore_18) rfl ?_
      simp (disch := omega) only [b_Model_restore_18, be_1, be_73, List.getD_cons_zero, List.getD_cons_succ, List.set_cons_zero, List.set_cons_succ, List.length_cons, List.length_nil, pk_I, pk_A, pr_A, pi_I, st_s, st_n, if_true, if_false, eq_self, d_if, d_ju, d_re, d_ca, cat0, cat1, cat2, cat3, fr_z, fr_s, cc_I, cc_A, cc_N, Nat.reduceAdd, Nat.reduceLT, Nat.reduceLeDiff, Nat.reduceEqDiff, not_true, not_false_iff, z1_0, z1_1, Bool.and_self, Bool.true_and, Bool.and_true, nI_add, pk_mul, nI_clamp, decide_true, Nat.le_refl, bI_eq, bI_z1]
      exact q1 s hs rfl (Decidable.not_not.mp h1)
