/-! laid by wip/whole/m18.py: the reference: what is done and undone -/
/-- rows are 0 behind their end -/
def Z50 (f : Nat → Int32) : Prop := ∀ j, 50 ≤ j → f j = 0
theorem Z_u {f : Nat → Int32} {k : Nat} {x : Int32} (h : Z50 f) (hk : k < 50) : Z50 (upd f k x) := fun j hj => by rw [upd_ne (by omega)]; exact h j hj
theorem Z_m {T : TXT} {no md : Int32} {f : Nat → Int32} (h : Z50 f) : Z50 (mnT T no md f) := fun j hj => (minR_ge (by omega)).trans (h j hj)
theorem Z_i {T : TXT} {no md : Int32} {f : Nat → Int32} (h : Z50 f) (k : Nat) : Z50 (itT T no md k f) := by
  induction k with
  | zero => exact h
  | succ k ih => exact Z_m ih
theorem Z_e {f g : Nat → Int32} (h : Z50 f) (h' : Z50 g) : ∀ j, 50 ≤ j → g j = f j := fun j hj => (h' j hj).trans (h j hj).symm
set_option maxHeartbeats 1000000 in
theorem r_kneel {d : Nat} {v : Nat → Nat → Int32} {w : Nat → Nat → Int64} {Q : Option Value → am_H → Prop} {T : TXT} {lv : Nat} {f : Nat → Int32} {B : Int} (hM : MI B v T lv f) {sz : Nat} {h : Nat → Nat → Int32} (hH : HX v sz h) (hZ : Z50 f) {y : Int32} (q0 : ∀ v', knO T f y = none → MF v v' → Q (some (.int (nI 0))) (428, 26053, KD, RF, v', w)) (q1 : ∀ f' v', knO T f y = some f' → MK v v' → v' 418 = f' → v' 419 = f' → HX v' (if sz < 50 then sz + 1 else 50) (coH f h) → Q (some (.int (nI 1))) (428, 26053, KD, RF, v', w)) : am_Ca (d + 3) M_Model_kneel [.ref 388, .int y] (428, 26053, KD, RF, v, w) Q := by
  have h8 := hM.2.2.2.2.1.1
  have k418 : v 418 = f := hM.2.1
  have hgr := hM.2.2.2.1
  refine ca_in (k := k_Model_kneel) (nL := 2) rfl (Nat.le_of_ble_eq_true rfl) ?_
  show am_Go am_X0 _ k_Model_kneel 0 ([.ref 388, .int y], [], _) _
  refine go_at (blk := b_Model_kneel_0) rfl ?_
  simp (disch := omega) only [b_Model_kneel_0, be_6, be_4, be_57_1, kc_388, List.getD_cons_zero, List.getD_cons_succ, List.set_cons_zero, List.set_cons_succ, List.length_cons, List.length_nil, pk_I, pk_A, pr_A, pi_I, st_s, st_n, if_true, if_false, eq_self, d_if, d_ju, d_re, d_ca, cat0, cat1, cat2, cat3, fr_z, fr_s, cc_I, cc_A, cc_N, Nat.reduceAdd, Nat.reduceLT, Nat.reduceLeDiff, Nat.reduceEqDiff, not_true, not_false_iff, z1_0, z1_1, Bool.and_self, Bool.true_and, Bool.and_true, nI_add, pk_mul, nI_clamp, decide_true, Nat.le_refl, bI_eq, bI_z1]
  refine r_isPil hM.1 ?_
  refine go_at (blk := b_Model_kneel_5) rfl ?_
  simp (disch := omega) only [b_Model_kneel_5, be_50_1, List.getD_cons_zero, List.getD_cons_succ, List.set_cons_zero, List.set_cons_succ, List.length_cons, List.length_nil, pk_I, pk_A, pr_A, pi_I, st_s, st_n, if_true, if_false, eq_self, d_if, d_ju, d_re, d_ca, cat0, cat1, cat2, cat3, fr_z, fr_s, cc_I, cc_A, cc_N, Nat.reduceAdd, Nat.reduceLT, Nat.reduceLeDiff, Nat.reduceEqDiff, not_true, not_false_iff, z1_0, z1_1, Bool.and_self, Bool.true_and, Bool.and_true, nI_add, pk_mul, nI_clamp, decide_true, Nat.le_refl, bI_eq, bI_z1]
  split
  · rename_i h0
    have h0 : pilB (tN T) y = true := by simpa using h0
    obtain ⟨p, hp, rfl, ep⟩ := pil_of h8 h0
    refine go_at (blk := b_Model_kneel_10) rfl ?_
    simp (disch := omega) only [b_Model_kneel_10, be_6, be_57_0, kc_388, List.getD_cons_zero, List.getD_cons_succ, List.set_cons_zero, List.set_cons_succ, List.length_cons, List.length_nil, pk_I, pk_A, pr_A, pi_I, st_s, st_n, if_true, if_false, eq_self, d_if, d_ju, d_re, d_ca, cat0, cat1, cat2, cat3, fr_z, fr_s, cc_I, cc_A, cc_N, Nat.reduceAdd, Nat.reduceLT, Nat.reduceLeDiff, Nat.reduceEqDiff, not_true, not_false_iff, z1_0, z1_1, Bool.and_self, Bool.true_and, Bool.and_true, nI_add, pk_mul, nI_clamp, decide_true, Nat.le_refl, bI_eq, bI_z1]
    refine rm_copies hM ?_
    intro v1 q1' r1
    have e1 : v1 419 = f := r1.1
    refine go_at (blk := b_Model_kneel_14) rfl ?_
    simp (disch := omega) only [b_Model_kneel_14, be_6, be_34, be_1, be_4, be_12, be_38, be_49_0, kc_388, rf_388_48, ka_419, List.getD_cons_zero, List.getD_cons_succ, List.set_cons_zero, List.set_cons_succ, List.length_cons, List.length_nil, pk_I, pk_A, pr_A, pi_I, st_s, st_n, if_true, if_false, eq_self, d_if, d_ju, d_re, d_ca, cat0, cat1, cat2, cat3, fr_z, fr_s, cc_I, cc_A, cc_N, Nat.reduceAdd, Nat.reduceLT, Nat.reduceLeDiff, Nat.reduceEqDiff, not_true, not_false_iff, z1_0, z1_1, Bool.and_self, Bool.true_and, Bool.and_true, nI_add, pk_mul, nI_clamp, decide_true, Nat.le_refl, bI_eq, bI_z1, e1]
    split
    · rename_i h1
      have h1 : ¬ f (8 + cN (nI p)) = 0 := by rw [ep, h1]; decide
      refine go_at (blk := b_Model_kneel_35) rfl ?_
      simp (disch := omega) only [b_Model_kneel_35, be_1, be_73, List.getD_cons_zero, List.getD_cons_succ, List.set_cons_zero, List.set_cons_succ, List.length_cons, List.length_nil, pk_I, pk_A, pr_A, pi_I, st_s, st_n, if_true, if_false, eq_self, d_if, d_ju, d_re, d_ca, cat0, cat1, cat2, cat3, fr_z, fr_s, cc_I, cc_A, cc_N, Nat.reduceAdd, Nat.reduceLT, Nat.reduceLeDiff, Nat.reduceEqDiff, not_true, not_false_iff, z1_0, z1_1, Bool.and_self, Bool.true_and, Bool.and_true, nI_add, pk_mul, nI_clamp, decide_true, Nat.le_refl, bI_eq, bI_z1, e1]
      exact q0 v1 (by unfold knO; rw [if_neg (by rw [decide_eq_false h1]; simp)]) q1'
    · rename_i h1
      have h1 : f (8 + cN (nI p)) = 0 := by rw [ep]; exact (hgr.1 p hp).1.resolve_right h1
      refine go_at (blk := b_Model_kneel_27) rfl ?_
      simp (disch := omega) only [b_Model_kneel_27, be_6, be_4, be_57_1, kc_388, List.getD_cons_zero, List.getD_cons_succ, List.set_cons_zero, List.set_cons_succ, List.length_cons, List.length_nil, pk_I, pk_A, pr_A, pi_I, st_s, st_n, if_true, if_false, eq_self, d_if, d_ju, d_re, d_ca, cat0, cat1, cat2, cat3, fr_z, fr_s, cc_I, cc_A, cc_N, Nat.reduceAdd, Nat.reduceLT, Nat.reduceLeDiff, Nat.reduceEqDiff, not_true, not_false_iff, z1_0, z1_1, Bool.and_self, Bool.true_and, Bool.and_true, nI_add, pk_mul, nI_clamp, decide_true, Nat.le_refl, bI_eq, bI_z1, e1]
      refine r_may (by omega) (MX_f hM.1 q1') r1 ?_
      refine go_at (blk := b_Model_kneel_32) rfl ?_
      simp (disch := omega) only [b_Model_kneel_32, be_50_1, List.getD_cons_zero, List.getD_cons_succ, List.set_cons_zero, List.set_cons_succ, List.length_cons, List.length_nil, pk_I, pk_A, pr_A, pi_I, st_s, st_n, if_true, if_false, eq_self, d_if, d_ju, d_re, d_ca, cat0, cat1, cat2, cat3, fr_z, fr_s, cc_I, cc_A, cc_N, Nat.reduceAdd, Nat.reduceLT, Nat.reduceLeDiff, Nat.reduceEqDiff, not_true, not_false_iff, z1_0, z1_1, Bool.and_self, Bool.true_and, Bool.and_true, nI_add, pk_mul, nI_clamp, decide_true, Nat.le_refl, bI_eq, bI_z1, e1]
      split
      · rename_i h2
        have h2 : mayB f (-1) (tS T) (cN (nI p)) = true := by rw [ep]; simpa using h2
        have r2 : MR (am_u v1 419 (8 + p) (nI 1)) (upd f (8 + p) 1) (-1) 0 := MR_row r1
        have f2 : MF v (am_u v1 419 (8 + p) (nI 1)) := MF_t q1' (MF_row (by omega))
        refine go_at (blk := b_Model_kneel_37) rfl ?_
        simp (disch := omega) only [b_Model_kneel_37, be_6, be_34, be_1, be_4, be_12, be_43, be_57_0, kc_388, rf_388_48, ka_419, List.getD_cons_zero, List.getD_cons_succ, List.set_cons_zero, List.set_cons_succ, List.length_cons, List.length_nil, pk_I, pk_A, pr_A, pi_I, st_s, st_n, if_true, if_false, eq_self, d_if, d_ju, d_re, d_ca, cat0, cat1, cat2, cat3, fr_z, fr_s, cc_I, cc_A, cc_N, Nat.reduceAdd, Nat.reduceLT, Nat.reduceLeDiff, Nat.reduceEqDiff, not_true, not_false_iff, z1_0, z1_1, Bool.and_self, Bool.true_and, Bool.and_true, nI_add, pk_mul, nI_clamp, decide_true, Nat.le_refl, bI_eq, bI_z1, e1]
        refine r_keeps (f := f) (g := upd f (8 + p) 1) ((MI_f hM f2).2.1) r2.1 (Z_e hZ (Z_u hZ (by omega))) (HX_f hH f2) ?_
        intro v3 m1 m2 m3 m4
        refine go_at (blk := b_Model_kneel_51) rfl ?_
        simp (disch := omega) only [b_Model_kneel_51, be_1, be_73, List.getD_cons_zero, List.getD_cons_succ, List.set_cons_zero, List.set_cons_succ, List.length_cons, List.length_nil, pk_I, pk_A, pr_A, pi_I, st_s, st_n, if_true, if_false, eq_self, d_if, d_ju, d_re, d_ca, cat0, cat1, cat2, cat3, fr_z, fr_s, cc_I, cc_A, cc_N, Nat.reduceAdd, Nat.reduceLT, Nat.reduceLeDiff, Nat.reduceEqDiff, not_true, not_false_iff, z1_0, z1_1, Bool.and_self, Bool.true_and, Bool.and_true, nI_add, pk_mul, nI_clamp, decide_true, Nat.le_refl, bI_eq, bI_z1, e1]
        exact q1 _ v3 (by unfold knO; rw [if_pos (by rw [h0, decide_eq_true h1, h2]; rfl), ep]) (MK_t (MK_f f2) m1) m2 m3 m4
      · rename_i h2
        have h2 : mayB f (-1) (tS T) (cN (nI p)) = false := by rw [ep]; simpa using h2
        refine go_at (blk := b_Model_kneel_35) rfl ?_
        simp (disch := omega) only [b_Model_kneel_35, be_1, be_73, List.getD_cons_zero, List.getD_cons_succ, List.set_cons_zero, List.set_cons_succ, List.length_cons, List.length_nil, pk_I, pk_A, pr_A, pi_I, st_s, st_n, if_true, if_false, eq_self, d_if, d_ju, d_re, d_ca, cat0, cat1, cat2, cat3, fr_z, fr_s, cc_I, cc_A, cc_N, Nat.reduceAdd, Nat.reduceLT, Nat.reduceLeDiff, Nat.reduceEqDiff, not_true, not_false_iff, z1_0, z1_1, Bool.and_self, Bool.true_and, Bool.and_true, nI_add, pk_mul, nI_clamp, decide_true, Nat.le_refl, bI_eq, bI_z1, e1]
        exact q0 v1 (by unfold knO; rw [if_neg (by rw [h2]; simp)]) q1'
  · rename_i h0
    have h0 : pilB (tN T) y = false := by simpa using h0
    refine go_at (blk := b_Model_kneel_8) rfl ?_
    simp (disch := omega) only [b_Model_kneel_8, be_1, be_73, List.getD_cons_zero, List.getD_cons_succ, List.set_cons_zero, List.set_cons_succ, List.length_cons, List.length_nil, pk_I, pk_A, pr_A, pi_I, st_s, st_n, if_true, if_false, eq_self, d_if, d_ju, d_re, d_ca, cat0, cat1, cat2, cat3, fr_z, fr_s, cc_I, cc_A, cc_N, Nat.reduceAdd, Nat.reduceLT, Nat.reduceLeDiff, Nat.reduceEqDiff, not_true, not_false_iff, z1_0, z1_1, Bool.and_self, Bool.true_and, Bool.and_true, nI_add, pk_mul, nI_clamp, decide_true, Nat.le_refl, bI_eq, bI_z1]
    exact q0 v (by unfold knO; rw [if_neg (by rw [h0]; simp)]) MF_r
set_option maxHeartbeats 1000000 in
theorem r_rise {d : Nat} {v : Nat → Nat → Int32} {w : Nat → Nat → Int64} {Q : Option Value → am_H → Prop} {T : TXT} {lv : Nat} {f : Nat → Int32} {B : Int} (hM : MI B v T lv f) {sz : Nat} {h : Nat → Nat → Int32} (hH : HX v sz h) (hZ : Z50 f) {y : Int32} (q0 : ∀ v', riO T f y = none → MF v v' → Q (some (.int (nI 0))) (428, 26053, KD, RF, v', w)) (q1 : ∀ f' v', riO T f y = some f' → MK v v' → v' 418 = f' → v' 419 = f' → HX v' (if sz < 50 then sz + 1 else 50) (coH f h) → Q (some (.int (nI 1))) (428, 26053, KD, RF, v', w)) : am_Ca (d + 3) M_Model_rise [.ref 388, .int y] (428, 26053, KD, RF, v, w) Q := by
  have h8 := hM.2.2.2.2.1.1
  have k418 : v 418 = f := hM.2.1
  have hgr := hM.2.2.2.1
  refine ca_in (k := k_Model_rise) (nL := 2) rfl (Nat.le_of_ble_eq_true rfl) ?_
  show am_Go am_X0 _ k_Model_rise 0 ([.ref 388, .int y], [], _) _
  refine go_at (blk := b_Model_rise_0) rfl ?_
  simp (disch := omega) only [b_Model_rise_0, be_6, be_4, be_57_1, kc_388, List.getD_cons_zero, List.getD_cons_succ, List.set_cons_zero, List.set_cons_succ, List.length_cons, List.length_nil, pk_I, pk_A, pr_A, pi_I, st_s, st_n, if_true, if_false, eq_self, d_if, d_ju, d_re, d_ca, cat0, cat1, cat2, cat3, fr_z, fr_s, cc_I, cc_A, cc_N, Nat.reduceAdd, Nat.reduceLT, Nat.reduceLeDiff, Nat.reduceEqDiff, not_true, not_false_iff, z1_0, z1_1, Bool.and_self, Bool.true_and, Bool.and_true, nI_add, pk_mul, nI_clamp, decide_true, Nat.le_refl, bI_eq, bI_z1, k418]
  refine r_isPil hM.1 ?_
  refine go_at (blk := b_Model_rise_5) rfl ?_
  simp (disch := omega) only [b_Model_rise_5, be_50_0, List.getD_cons_zero, List.getD_cons_succ, List.set_cons_zero, List.set_cons_succ, List.length_cons, List.length_nil, pk_I, pk_A, pr_A, pi_I, st_s, st_n, if_true, if_false, eq_self, d_if, d_ju, d_re, d_ca, cat0, cat1, cat2, cat3, fr_z, fr_s, cc_I, cc_A, cc_N, Nat.reduceAdd, Nat.reduceLT, Nat.reduceLeDiff, Nat.reduceEqDiff, not_true, not_false_iff, z1_0, z1_1, Bool.and_self, Bool.true_and, Bool.and_true, nI_add, pk_mul, nI_clamp, decide_true, Nat.le_refl, bI_eq, bI_z1, k418]
  split
  · rename_i h0
    have h0 : pilB (tN T) y = false := by simpa using h0
    refine go_at (blk := b_Model_rise_20) rfl ?_
    simp (disch := omega) only [b_Model_rise_20, be_1, be_73, List.getD_cons_zero, List.getD_cons_succ, List.set_cons_zero, List.set_cons_succ, List.length_cons, List.length_nil, pk_I, pk_A, pr_A, pi_I, st_s, st_n, if_true, if_false, eq_self, d_if, d_ju, d_re, d_ca, cat0, cat1, cat2, cat3, fr_z, fr_s, cc_I, cc_A, cc_N, Nat.reduceAdd, Nat.reduceLT, Nat.reduceLeDiff, Nat.reduceEqDiff, not_true, not_false_iff, z1_0, z1_1, Bool.and_self, Bool.true_and, Bool.and_true, nI_add, pk_mul, nI_clamp, decide_true, Nat.le_refl, bI_eq, bI_z1, k418]
    exact q0 v (by unfold riO; rw [if_neg (by rw [h0]; simp)]) MF_r
  · rename_i h0
    have h0 : pilB (tN T) y = true := by simpa using h0
    obtain ⟨p, hp, rfl, ep⟩ := pil_of h8 h0
    refine go_at (blk := b_Model_rise_8) rfl ?_
    simp (disch := omega) only [b_Model_rise_8, be_6, be_34, be_1, be_4, be_12, be_38, be_50_1, kc_388, rf_388_47, ka_418, List.getD_cons_zero, List.getD_cons_succ, List.set_cons_zero, List.set_cons_succ, List.length_cons, List.length_nil, pk_I, pk_A, pr_A, pi_I, st_s, st_n, if_true, if_false, eq_self, d_if, d_ju, d_re, d_ca, cat0, cat1, cat2, cat3, fr_z, fr_s, cc_I, cc_A, cc_N, Nat.reduceAdd, Nat.reduceLT, Nat.reduceLeDiff, Nat.reduceEqDiff, not_true, not_false_iff, z1_0, z1_1, Bool.and_self, Bool.true_and, Bool.and_true, nI_add, pk_mul, nI_clamp, decide_true, Nat.le_refl, bI_eq, bI_z1, k418]
    split
    · rename_i h1
      have h1 : ¬ f (8 + cN (nI p)) = 0 := by rw [ep]; exact h1
      refine go_at (blk := b_Model_rise_22) rfl ?_
      simp (disch := omega) only [b_Model_rise_22, be_6, be_57_0, kc_388, List.getD_cons_zero, List.getD_cons_succ, List.set_cons_zero, List.set_cons_succ, List.length_cons, List.length_nil, pk_I, pk_A, pr_A, pi_I, st_s, st_n, if_true, if_false, eq_self, d_if, d_ju, d_re, d_ca, cat0, cat1, cat2, cat3, fr_z, fr_s, cc_I, cc_A, cc_N, Nat.reduceAdd, Nat.reduceLT, Nat.reduceLeDiff, Nat.reduceEqDiff, not_true, not_false_iff, z1_0, z1_1, Bool.and_self, Bool.true_and, Bool.and_true, nI_add, pk_mul, nI_clamp, decide_true, Nat.le_refl, bI_eq, bI_z1, k418]
      refine rm_copies hM ?_
      intro v1 q1' r1
      have r2 : MR (am_u v1 419 (8 + p) (nI 0)) (upd f (8 + p) 0) (-1) 0 := MR_row r1
      have f2 : MF v (am_u v1 419 (8 + p) (nI 0)) := MF_t q1' (MF_row (by omega))
      refine go_at (blk := b_Model_rise_26) rfl ?_
      simp (disch := omega) only [b_Model_rise_26, be_6, be_34, be_1, be_4, be_12, be_43, be_57_0, kc_388, rf_388_48, ka_419, List.getD_cons_zero, List.getD_cons_succ, List.set_cons_zero, List.set_cons_succ, List.length_cons, List.length_nil, pk_I, pk_A, pr_A, pi_I, st_s, st_n, if_true, if_false, eq_self, d_if, d_ju, d_re, d_ca, cat0, cat1, cat2, cat3, fr_z, fr_s, cc_I, cc_A, cc_N, Nat.reduceAdd, Nat.reduceLT, Nat.reduceLeDiff, Nat.reduceEqDiff, not_true, not_false_iff, z1_0, z1_1, Bool.and_self, Bool.true_and, Bool.and_true, nI_add, pk_mul, nI_clamp, decide_true, Nat.le_refl, bI_eq, bI_z1, k418]
      refine r_keeps (f := f) (g := upd f (8 + p) 0) ((MI_f hM f2).2.1) r2.1 (Z_e hZ (Z_u hZ (by omega))) (HX_f hH f2) ?_
      intro v3 m1 m2 m3 m4
      refine go_at (blk := b_Model_rise_40) rfl ?_
      simp (disch := omega) only [b_Model_rise_40, be_1, be_73, List.getD_cons_zero, List.getD_cons_succ, List.set_cons_zero, List.set_cons_succ, List.length_cons, List.length_nil, pk_I, pk_A, pr_A, pi_I, st_s, st_n, if_true, if_false, eq_self, d_if, d_ju, d_re, d_ca, cat0, cat1, cat2, cat3, fr_z, fr_s, cc_I, cc_A, cc_N, Nat.reduceAdd, Nat.reduceLT, Nat.reduceLeDiff, Nat.reduceEqDiff, not_true, not_false_iff, z1_0, z1_1, Bool.and_self, Bool.true_and, Bool.and_true, nI_add, pk_mul, nI_clamp, decide_true, Nat.le_refl, bI_eq, bI_z1, k418]
      exact q1 _ v3 (by unfold riO; rw [if_pos (by rw [h0, decide_eq_false h1]; rfl), ep]) (MK_t (MK_f f2) m1) m2 m3 m4
    · rename_i h1
      have h1 : f (8 + cN (nI p)) = 0 := by rw [ep]; exact Decidable.not_not.mp h1
      refine go_at (blk := b_Model_rise_20) rfl ?_
      simp (disch := omega) only [b_Model_rise_20, be_1, be_73, List.getD_cons_zero, List.getD_cons_succ, List.set_cons_zero, List.set_cons_succ, List.length_cons, List.length_nil, pk_I, pk_A, pr_A, pi_I, st_s, st_n, if_true, if_false, eq_self, d_if, d_ju, d_re, d_ca, cat0, cat1, cat2, cat3, fr_z, fr_s, cc_I, cc_A, cc_N, Nat.reduceAdd, Nat.reduceLT, Nat.reduceLeDiff, Nat.reduceEqDiff, not_true, not_false_iff, z1_0, z1_1, Bool.and_self, Bool.true_and, Bool.and_true, nI_add, pk_mul, nI_clamp, decide_true, Nat.le_refl, bI_eq, bI_z1, k418]
      exact q0 v (by unfold riO; rw [if_neg (by rw [decide_eq_true h1]; simp)]) MF_r
set_option maxHeartbeats 1000000 in
theorem r_board {d : Nat} {v : Nat → Nat → Int32} {w : Nat → Nat → Int64} {Q : Option Value → am_H → Prop} {T : TXT} {lv : Nat} {f : Nat → Int32} {B : Int} (hM : MI B v T lv f) {sz : Nat} {h : Nat → Nat → Int32} (hH : HX v sz h) (hZ : Z50 f) {y : Int32} (q0 : ∀ v', boO T f y = none → MF v v' → Q (some (.int (nI 0))) (428, 26053, KD, RF, v', w)) (q1 : ∀ f' v', boO T f y = some f' → MK v v' → v' 418 = f' → v' 419 = f' → HX v' (if sz < 50 then sz + 1 else 50) (coH f h) → Q (some (.int (nI 1))) (428, 26053, KD, RF, v', w)) : am_Ca (d + 3) M_Model_board [.ref 388, .int y] (428, 26053, KD, RF, v, w) Q := by
  have h8 := hM.2.2.2.2.1.1
  have k418 : v 418 = f := hM.2.1
  have hgr := hM.2.2.2.1
  refine ca_in (k := k_Model_board) (nL := 2) rfl (Nat.le_of_ble_eq_true rfl) ?_
  show am_Go am_X0 _ k_Model_board 0 ([.ref 388, .int y], [], _) _
  refine go_at (blk := b_Model_board_0) rfl ?_
  simp (disch := omega) only [b_Model_board_0, be_6, be_4, be_57_1, kc_388, List.getD_cons_zero, List.getD_cons_succ, List.set_cons_zero, List.set_cons_succ, List.length_cons, List.length_nil, pk_I, pk_A, pr_A, pi_I, st_s, st_n, if_true, if_false, eq_self, d_if, d_ju, d_re, d_ca, cat0, cat1, cat2, cat3, fr_z, fr_s, cc_I, cc_A, cc_N, Nat.reduceAdd, Nat.reduceLT, Nat.reduceLeDiff, Nat.reduceEqDiff, not_true, not_false_iff, z1_0, z1_1, Bool.and_self, Bool.true_and, Bool.and_true, nI_add, pk_mul, nI_clamp, decide_true, Nat.le_refl, bI_eq, bI_z1, k418]
  refine r_isPil hM.1 ?_
  refine go_at (blk := b_Model_board_5) rfl ?_
  simp (disch := omega) only [b_Model_board_5, be_50_0, List.getD_cons_zero, List.getD_cons_succ, List.set_cons_zero, List.set_cons_succ, List.length_cons, List.length_nil, pk_I, pk_A, pr_A, pi_I, st_s, st_n, if_true, if_false, eq_self, d_if, d_ju, d_re, d_ca, cat0, cat1, cat2, cat3, fr_z, fr_s, cc_I, cc_A, cc_N, Nat.reduceAdd, Nat.reduceLT, Nat.reduceLeDiff, Nat.reduceEqDiff, not_true, not_false_iff, z1_0, z1_1, Bool.and_self, Bool.true_and, Bool.and_true, nI_add, pk_mul, nI_clamp, decide_true, Nat.le_refl, bI_eq, bI_z1, k418]
  split
  · rename_i h0
    have h0 : pilB (tN T) y = false := by simpa using h0
    refine go_at (blk := b_Model_board_21) rfl ?_
    simp (disch := omega) only [b_Model_board_21, be_1, be_73, List.getD_cons_zero, List.getD_cons_succ, List.set_cons_zero, List.set_cons_succ, List.length_cons, List.length_nil, pk_I, pk_A, pr_A, pi_I, st_s, st_n, if_true, if_false, eq_self, d_if, d_ju, d_re, d_ca, cat0, cat1, cat2, cat3, fr_z, fr_s, cc_I, cc_A, cc_N, Nat.reduceAdd, Nat.reduceLT, Nat.reduceLeDiff, Nat.reduceEqDiff, not_true, not_false_iff, z1_0, z1_1, Bool.and_self, Bool.true_and, Bool.and_true, nI_add, pk_mul, nI_clamp, decide_true, Nat.le_refl, bI_eq, bI_z1, k418]
    exact q0 v (by unfold boO; rw [if_neg (by rw [h0]; simp)]) MF_r
  · rename_i h0
    have h0 : pilB (tN T) y = true := by simpa using h0
    obtain ⟨p, hp, rfl, ep⟩ := pil_of h8 h0
    refine go_at (blk := b_Model_board_8) rfl ?_
    simp (disch := omega) only [b_Model_board_8, be_6, be_34, be_1, be_4, be_12, be_38, be_2, be_49_1, kc_388, rf_388_47, ka_418, List.getD_cons_zero, List.getD_cons_succ, List.set_cons_zero, List.set_cons_succ, List.length_cons, List.length_nil, pk_I, pk_A, pr_A, pi_I, st_s, st_n, if_true, if_false, eq_self, d_if, d_ju, d_re, d_ca, cat0, cat1, cat2, cat3, fr_z, fr_s, cc_I, cc_A, cc_N, Nat.reduceAdd, Nat.reduceLT, Nat.reduceLeDiff, Nat.reduceEqDiff, not_true, not_false_iff, z1_0, z1_1, Bool.and_self, Bool.true_and, Bool.and_true, nI_add, pk_mul, nI_clamp, decide_true, Nat.le_refl, bI_eq, bI_z1, k418]
    split
    · rename_i h1
      have h1 : onB f (-1) (cN (nI p)) = false := by rw [ep]; unfold onB; rw [decide_eq_false h1, Bool.false_and]
      refine go_at (blk := b_Model_board_23) rfl ?_
      simp (disch := omega) only [b_Model_board_23, be_6, be_57_0, kc_388, List.getD_cons_zero, List.getD_cons_succ, List.set_cons_zero, List.set_cons_succ, List.length_cons, List.length_nil, pk_I, pk_A, pr_A, pi_I, st_s, st_n, if_true, if_false, eq_self, d_if, d_ju, d_re, d_ca, cat0, cat1, cat2, cat3, fr_z, fr_s, cc_I, cc_A, cc_N, Nat.reduceAdd, Nat.reduceLT, Nat.reduceLeDiff, Nat.reduceEqDiff, not_true, not_false_iff, z1_0, z1_1, Bool.and_self, Bool.true_and, Bool.and_true, nI_add, pk_mul, nI_clamp, decide_true, Nat.le_refl, bI_eq, bI_z1, k418]
      refine rm_copies hM ?_
      intro v1 q1' r1
      have r2 : MR (am_u (am_u (am_u v1 419 p (nI 0)) 419 (8 + p) (nI 0)) 419 (32 + p) (-1)) (upd (upd (upd f p 0) (8 + p) 0) (32 + p) (-1)) (-1) 0 := MR_row (MR_row (MR_row r1))
      have f2 : MF v (am_u (am_u (am_u v1 419 p (nI 0)) 419 (8 + p) (nI 0)) 419 (32 + p) (-1)) := MF_t q1' (MF_t (MF_row (by omega)) (MF_t (MF_row (by omega)) (MF_row (by omega))))
      refine go_at (blk := b_Model_board_27) rfl ?_
      simp (disch := omega) only [b_Model_board_27, be_6, be_34, be_4, be_1, be_43, be_12, be_2, be_57_0, kc_388, rf_388_48, ka_419, List.getD_cons_zero, List.getD_cons_succ, List.set_cons_zero, List.set_cons_succ, List.length_cons, List.length_nil, pk_I, pk_A, pr_A, pi_I, st_s, st_n, if_true, if_false, eq_self, d_if, d_ju, d_re, d_ca, cat0, cat1, cat2, cat3, fr_z, fr_s, cc_I, cc_A, cc_N, Nat.reduceAdd, Nat.reduceLT, Nat.reduceLeDiff, Nat.reduceEqDiff, not_true, not_false_iff, z1_0, z1_1, Bool.and_self, Bool.true_and, Bool.and_true, nI_add, pk_mul, nI_clamp, decide_true, Nat.le_refl, bI_eq, bI_z1, k418]
      refine r_keeps (f := f) (g := upd (upd (upd f p 0) (8 + p) 0) (32 + p) (-1)) ((MI_f hM f2).2.1) r2.1 (Z_e hZ (Z_u (Z_u (Z_u hZ (by omega)) (by omega)) (by omega))) (HX_f hH f2) ?_
      intro v3 m1 m2 m3 m4
      refine go_at (blk := b_Model_board_58) rfl ?_
      simp (disch := omega) only [b_Model_board_58, be_1, be_73, List.getD_cons_zero, List.getD_cons_succ, List.set_cons_zero, List.set_cons_succ, List.length_cons, List.length_nil, pk_I, pk_A, pr_A, pi_I, st_s, st_n, if_true, if_false, eq_self, d_if, d_ju, d_re, d_ca, cat0, cat1, cat2, cat3, fr_z, fr_s, cc_I, cc_A, cc_N, Nat.reduceAdd, Nat.reduceLT, Nat.reduceLeDiff, Nat.reduceEqDiff, not_true, not_false_iff, z1_0, z1_1, Bool.and_self, Bool.true_and, Bool.and_true, nI_add, pk_mul, nI_clamp, decide_true, Nat.le_refl, bI_eq, bI_z1, k418]
      exact q1 _ v3 (by unfold boO; rw [if_pos (by rw [h0, h1]; rfl), ep]) (MK_t (MK_f f2) m1) m2 m3 m4
    · rename_i h1
      have h1 : onB f (-1) (cN (nI p)) = true := by rw [ep]; exact on_m1 (by omega) (Decidable.not_not.mp h1)
      refine go_at (blk := b_Model_board_21) rfl ?_
      simp (disch := omega) only [b_Model_board_21, be_1, be_73, List.getD_cons_zero, List.getD_cons_succ, List.set_cons_zero, List.set_cons_succ, List.length_cons, List.length_nil, pk_I, pk_A, pr_A, pi_I, st_s, st_n, if_true, if_false, eq_self, d_if, d_ju, d_re, d_ca, cat0, cat1, cat2, cat3, fr_z, fr_s, cc_I, cc_A, cc_N, Nat.reduceAdd, Nat.reduceLT, Nat.reduceLeDiff, Nat.reduceEqDiff, not_true, not_false_iff, z1_0, z1_1, Bool.and_self, Bool.true_and, Bool.and_true, nI_add, pk_mul, nI_clamp, decide_true, Nat.le_refl, bI_eq, bI_z1, k418]
      exact q0 v (by unfold boO; rw [if_neg (by rw [h1]; simp)]) MF_r
set_option maxHeartbeats 1000000 in
theorem r_oil {d : Nat} {v : Nat → Nat → Int32} {w : Nat → Nat → Int64} {Q : Option Value → am_H → Prop} {T : TXT} {lv : Nat} {f : Nat → Int32} {B : Int} (hM : MI B v T lv f) {sz : Nat} {h : Nat → Nat → Int32} (hH : HX v sz h) (hZ : Z50 f) {x : Int32} (q0 : ∀ v', oiO f x = none → MF v v' → Q (some (.int (-1))) (428, 26053, KD, RF, v', w)) (q1 : ∀ f' v', oiO f x = some f' → MK v v' → v' 418 = f' → v' 419 = f' → HX v' (if sz < 50 then sz + 1 else 50) (coH f h) → Q (some (.int (f 40 + x))) (428, 26053, KD, RF, v', w)) : am_Ca (d + 3) M_Model_oil [.ref 388, .int x] (428, 26053, KD, RF, v, w) Q := by
  have h8 := hM.2.2.2.2.1.1
  have k418 : v 418 = f := hM.2.1
  have hgr := hM.2.2.2.1
  refine ca_in (k := k_Model_oil) (nL := 2) rfl (Nat.le_of_ble_eq_true rfl) ?_
  show am_Go am_X0 _ k_Model_oil 0 ([.ref 388, .int x], [], _) _
  refine go_at (blk := b_Model_oil_0) rfl ?_
  simp (disch := omega) only [b_Model_oil_0, be_4, be_1, be_58_3, List.getD_cons_zero, List.getD_cons_succ, List.set_cons_zero, List.set_cons_succ, List.length_cons, List.length_nil, pk_I, pk_A, pr_A, pi_I, st_s, st_n, if_true, if_false, eq_self, d_if, d_ju, d_re, d_ca, cat0, cat1, cat2, cat3, fr_z, fr_s, cc_I, cc_A, cc_N, Nat.reduceAdd, Nat.reduceLT, Nat.reduceLeDiff, Nat.reduceEqDiff, not_true, not_false_iff, z1_0, z1_1, Bool.and_self, Bool.true_and, Bool.and_true, nI_add, pk_mul, nI_clamp, decide_true, Nat.le_refl, bI_eq, bI_z1, k418]
  refine m_in ?_
  rw [show inB x (nI 1) (nI 99) = (!decide (x < nI 1) && !decide (nI 99 < x)) from rfl]
  refine go_at (blk := b_Model_oil_7) rfl ?_
  simp (disch := omega) only [b_Model_oil_7, be_50_0, List.getD_cons_zero, List.getD_cons_succ, List.set_cons_zero, List.set_cons_succ, List.length_cons, List.length_nil, pk_I, pk_A, pr_A, pi_I, st_s, st_n, if_true, if_false, eq_self, d_if, d_ju, d_re, d_ca, cat0, cat1, cat2, cat3, fr_z, fr_s, cc_I, cc_A, cc_N, Nat.reduceAdd, Nat.reduceLT, Nat.reduceLeDiff, Nat.reduceEqDiff, not_true, not_false_iff, z1_0, z1_1, Bool.and_self, Bool.true_and, Bool.and_true, nI_add, pk_mul, nI_clamp, decide_true, Nat.le_refl, bI_eq, bI_z1, k418]
  split
  · rename_i h0
    have h0 : (!decide (x < nI 1) && !decide (nI 99 < x)) = false := by simpa using h0
    refine go_at (blk := b_Model_oil_25) rfl ?_
    simp (disch := omega) only [b_Model_oil_25, be_2, be_54, List.getD_cons_zero, List.getD_cons_succ, List.set_cons_zero, List.set_cons_succ, List.length_cons, List.length_nil, pk_I, pk_A, pr_A, pi_I, st_s, st_n, if_true, if_false, eq_self, d_if, d_ju, d_re, d_ca, cat0, cat1, cat2, cat3, fr_z, fr_s, cc_I, cc_A, cc_N, Nat.reduceAdd, Nat.reduceLT, Nat.reduceLeDiff, Nat.reduceEqDiff, not_true, not_false_iff, z1_0, z1_1, Bool.and_self, Bool.true_and, Bool.and_true, nI_add, pk_mul, nI_clamp, decide_true, Nat.le_refl, bI_eq, bI_z1, k418]
    exact q0 v (by unfold oiO; rw [if_neg (by rw [h0]; simp)]) MF_r
  · rename_i h0
    have h0 : (!decide (x < nI 1) && !decide (nI 99 < x)) = true := by simpa using h0
    refine go_at (blk := b_Model_oil_10) rfl ?_
    simp (disch := omega) only [b_Model_oil_10, be_6, be_34, be_1, be_38, be_4, be_12, be_49_5, kc_388, rf_388_47, ka_418, List.getD_cons_zero, List.getD_cons_succ, List.set_cons_zero, List.set_cons_succ, List.length_cons, List.length_nil, pk_I, pk_A, pr_A, pi_I, st_s, st_n, if_true, if_false, eq_self, d_if, d_ju, d_re, d_ca, cat0, cat1, cat2, cat3, fr_z, fr_s, cc_I, cc_A, cc_N, Nat.reduceAdd, Nat.reduceLT, Nat.reduceLeDiff, Nat.reduceEqDiff, not_true, not_false_iff, z1_0, z1_1, Bool.and_self, Bool.true_and, Bool.and_true, nI_add, pk_mul, nI_clamp, decide_true, Nat.le_refl, bI_eq, bI_z1, k418]
    split
    · rename_i h1
      have h1 : ¬ nI 999 < f 40 + x := Int32.not_lt.mpr h1
      refine go_at (blk := b_Model_oil_27) rfl ?_
      simp (disch := omega) only [b_Model_oil_27, be_6, be_57_0, kc_388, List.getD_cons_zero, List.getD_cons_succ, List.set_cons_zero, List.set_cons_succ, List.length_cons, List.length_nil, pk_I, pk_A, pr_A, pi_I, st_s, st_n, if_true, if_false, eq_self, d_if, d_ju, d_re, d_ca, cat0, cat1, cat2, cat3, fr_z, fr_s, cc_I, cc_A, cc_N, Nat.reduceAdd, Nat.reduceLT, Nat.reduceLeDiff, Nat.reduceEqDiff, not_true, not_false_iff, z1_0, z1_1, Bool.and_self, Bool.true_and, Bool.and_true, nI_add, pk_mul, nI_clamp, decide_true, Nat.le_refl, bI_eq, bI_z1, k418]
      refine rm_copies hM ?_
      intro v1 q1' r1
      have e1 : v1 419 = f := r1.1
      have r2 : MR (am_u v1 419 40 (f 40 + x)) (upd f 40 (f 40 + x)) (-1) 0 := MR_row r1
      have f2 : MF v (am_u v1 419 40 (f 40 + x)) := MF_t q1' (MF_row (by omega))
      refine go_at (blk := b_Model_oil_31) rfl ?_
      simp (disch := omega) only [b_Model_oil_31, be_6, be_34, be_1, be_32, be_38, be_4, be_12, be_43, be_57_0, kc_388, rf_388_48, ka_419, List.getD_cons_zero, List.getD_cons_succ, List.set_cons_zero, List.set_cons_succ, List.length_cons, List.length_nil, pk_I, pk_A, pr_A, pi_I, st_s, st_n, if_true, if_false, eq_self, d_if, d_ju, d_re, d_ca, cat0, cat1, cat2, cat3, fr_z, fr_s, cc_I, cc_A, cc_N, Nat.reduceAdd, Nat.reduceLT, Nat.reduceLeDiff, Nat.reduceEqDiff, not_true, not_false_iff, z1_0, z1_1, Bool.and_self, Bool.true_and, Bool.and_true, nI_add, pk_mul, nI_clamp, decide_true, Nat.le_refl, bI_eq, bI_z1, k418, e1]
      refine r_keeps (f := f) (g := upd f 40 (f 40 + x)) ((MI_f hM f2).2.1) r2.1 (Z_e hZ (Z_u hZ (by omega))) (HX_f hH f2) ?_
      intro v3 m1 m2 m3 m4
      refine go_at (blk := b_Model_oil_46) rfl ?_
      simp (disch := omega) only [b_Model_oil_46, be_6, be_34, be_1, be_38, be_54, kc_388, rf_388_47, ka_418, List.getD_cons_zero, List.getD_cons_succ, List.set_cons_zero, List.set_cons_succ, List.length_cons, List.length_nil, pk_I, pk_A, pr_A, pi_I, st_s, st_n, if_true, if_false, eq_self, d_if, d_ju, d_re, d_ca, cat0, cat1, cat2, cat3, fr_z, fr_s, cc_I, cc_A, cc_N, Nat.reduceAdd, Nat.reduceLT, Nat.reduceLeDiff, Nat.reduceEqDiff, not_true, not_false_iff, z1_0, z1_1, Bool.and_self, Bool.true_and, Bool.and_true, nI_add, pk_mul, nI_clamp, decide_true, Nat.le_refl, bI_eq, bI_z1, k418, e1, m2, upd_at]
      exact q1 _ v3 (by unfold oiO; rw [if_pos (by rw [h0, decide_eq_false h1]; rfl)]) (MK_t (MK_f f2) m1) m2 m3 m4
    · rename_i h1
      have h1 : nI 999 < f 40 + x := Int32.not_le.mp h1
      refine go_at (blk := b_Model_oil_25) rfl ?_
      simp (disch := omega) only [b_Model_oil_25, be_2, be_54, List.getD_cons_zero, List.getD_cons_succ, List.set_cons_zero, List.set_cons_succ, List.length_cons, List.length_nil, pk_I, pk_A, pr_A, pi_I, st_s, st_n, if_true, if_false, eq_self, d_if, d_ju, d_re, d_ca, cat0, cat1, cat2, cat3, fr_z, fr_s, cc_I, cc_A, cc_N, Nat.reduceAdd, Nat.reduceLT, Nat.reduceLeDiff, Nat.reduceEqDiff, not_true, not_false_iff, z1_0, z1_1, Bool.and_self, Bool.true_and, Bool.and_true, nI_add, pk_mul, nI_clamp, decide_true, Nat.le_refl, bI_eq, bI_z1, k418]
      exact q0 v (by unfold oiO; rw [if_neg (by rw [decide_eq_true h1]; simp)]) MF_r
set_option maxHeartbeats 1000000 in
theorem r_run {d : Nat} {v : Nat → Nat → Int32} {w : Nat → Nat → Int64} {Q : Option Value → am_H → Prop} {T : TXT} {lv : Nat} {f : Nat → Int32} {B : Int} (hM : MI B v T lv f) {sz : Nat} {h : Nat → Nat → Int32} (hH : HX v sz h) (hZ : Z50 f) {x : Int32} (q0 : (x < 0 ∨ nI 300 < x) → Q (some (.int (-1))) (428, 26053, KD, RF, v, w)) (q1 : x = 0 → Q (some (.int (f 41))) (428, 26053, KD, RF, v, w)) (q2 : ∀ k v', 1 ≤ k → k ≤ 300 → x = nI k → MK v v' → v' 418 = itT T (-1) 0 k f → v' 419 = itT T (-1) 0 k f → HX v' (if sz < 50 then sz + 1 else 50) (coH f h) → Q (some (.int (itT T (-1) 0 k f 41))) (428, 26053, KD, RF, v', w)) : am_Ca (d + 7) M_Model_run [.ref 388, .int x] (428, 26053, KD, RF, v, w) Q := by
  have h8 := hM.2.2.2.2.1.1
  have k418 : v 418 = f := hM.2.1
  have hgr := hM.2.2.2.1
  refine ca_in (k := k_Model_run) (nL := 2) rfl (Nat.le_of_ble_eq_true rfl) ?_
  show am_Go am_X0 _ k_Model_run 0 ([.ref 388, .int x], [], _) _
  refine go_at (blk := b_Model_run_0) rfl ?_
  simp (disch := omega) only [b_Model_run_0, be_4, be_1, be_58_3, List.getD_cons_zero, List.getD_cons_succ, List.set_cons_zero, List.set_cons_succ, List.length_cons, List.length_nil, pk_I, pk_A, pr_A, pi_I, st_s, st_n, if_true, if_false, eq_self, d_if, d_ju, d_re, d_ca, cat0, cat1, cat2, cat3, fr_z, fr_s, cc_I, cc_A, cc_N, Nat.reduceAdd, Nat.reduceLT, Nat.reduceLeDiff, Nat.reduceEqDiff, not_true, not_false_iff, z1_0, z1_1, Bool.and_self, Bool.true_and, Bool.and_true, nI_add, pk_mul, nI_clamp, decide_true, Nat.le_refl, bI_eq, bI_z1, k418]
  refine m_in ?_
  rw [show inB x (nI 0) (nI 300) = (!decide (x < 0) && !decide (nI 300 < x)) from rfl]
  refine go_at (blk := b_Model_run_8) rfl ?_
  simp (disch := omega) only [b_Model_run_8, be_50_1, List.getD_cons_zero, List.getD_cons_succ, List.set_cons_zero, List.set_cons_succ, List.length_cons, List.length_nil, pk_I, pk_A, pr_A, pi_I, st_s, st_n, if_true, if_false, eq_self, d_if, d_ju, d_re, d_ca, cat0, cat1, cat2, cat3, fr_z, fr_s, cc_I, cc_A, cc_N, Nat.reduceAdd, Nat.reduceLT, Nat.reduceLeDiff, Nat.reduceEqDiff, not_true, not_false_iff, z1_0, z1_1, Bool.and_self, Bool.true_and, Bool.and_true, nI_add, pk_mul, nI_clamp, decide_true, Nat.le_refl, bI_eq, bI_z1, k418]
  split
  · rename_i h0
    have h0 : (!decide (x < 0) && !decide (nI 300 < x)) = true := by simpa using h0
    refine go_at (blk := b_Model_run_13) rfl ?_
    simp (disch := omega) only [b_Model_run_13, be_4, be_50_1, List.getD_cons_zero, List.getD_cons_succ, List.set_cons_zero, List.set_cons_succ, List.length_cons, List.length_nil, pk_I, pk_A, pr_A, pi_I, st_s, st_n, if_true, if_false, eq_self, d_if, d_ju, d_re, d_ca, cat0, cat1, cat2, cat3, fr_z, fr_s, cc_I, cc_A, cc_N, Nat.reduceAdd, Nat.reduceLT, Nat.reduceLeDiff, Nat.reduceEqDiff, not_true, not_false_iff, z1_0, z1_1, Bool.and_self, Bool.true_and, Bool.and_true, nI_add, pk_mul, nI_clamp, decide_true, Nat.le_refl, bI_eq, bI_z1, k418]
    split
    · rename_i h1
      obtain ⟨k, hk, rfl, ek⟩ := in_of (m := 300) (by omega) h0
      have hk0 : 1 ≤ k := Nat.one_le_iff_ne_zero.mpr (fun z => h1 (by rw [z]; rfl))
      refine go_at (blk := b_Model_run_25) rfl ?_
      simp (disch := omega) only [b_Model_run_25, be_6, be_57_0, kc_388, List.getD_cons_zero, List.getD_cons_succ, List.set_cons_zero, List.set_cons_succ, List.length_cons, List.length_nil, pk_I, pk_A, pr_A, pi_I, st_s, st_n, if_true, if_false, eq_self, d_if, d_ju, d_re, d_ca, cat0, cat1, cat2, cat3, fr_z, fr_s, cc_I, cc_A, cc_N, Nat.reduceAdd, Nat.reduceLT, Nat.reduceLeDiff, Nat.reduceEqDiff, not_true, not_false_iff, z1_0, z1_1, Bool.and_self, Bool.true_and, Bool.and_true, nI_add, pk_mul, nI_clamp, decide_true, Nat.le_refl, bI_eq, bI_z1, k418]
      refine rm_copies hM ?_
      intro v1 q1' r1
      refine go_at (blk := b_Model_run_29) rfl ?_
      simp (disch := omega) only [b_Model_run_29, be_6, be_4, be_57_1, kc_388, List.getD_cons_zero, List.getD_cons_succ, List.set_cons_zero, List.set_cons_succ, List.length_cons, List.length_nil, pk_I, pk_A, pr_A, pi_I, st_s, st_n, if_true, if_false, eq_self, d_if, d_ju, d_re, d_ca, cat0, cat1, cat2, cat3, fr_z, fr_s, cc_I, cc_A, cc_N, Nat.reduceAdd, Nat.reduceLT, Nat.reduceLeDiff, Nat.reduceEqDiff, not_true, not_false_iff, z1_0, z1_1, Bool.and_self, Bool.true_and, Bool.and_true, nI_add, pk_mul, nI_clamp, decide_true, Nat.le_refl, bI_eq, bI_z1, k418]
      refine r_goes (k := k) (by omega) (MX_f hM.1 q1') r1 ?_
      intro v2 q2' r2
      have f2 := MF_t q1' q2'
      refine go_at (blk := b_Model_run_34) rfl ?_
      simp (disch := omega) only [b_Model_run_34, be_6, be_57_0, kc_388, List.getD_cons_zero, List.getD_cons_succ, List.set_cons_zero, List.set_cons_succ, List.length_cons, List.length_nil, pk_I, pk_A, pr_A, pi_I, st_s, st_n, if_true, if_false, eq_self, d_if, d_ju, d_re, d_ca, cat0, cat1, cat2, cat3, fr_z, fr_s, cc_I, cc_A, cc_N, Nat.reduceAdd, Nat.reduceLT, Nat.reduceLeDiff, Nat.reduceEqDiff, not_true, not_false_iff, z1_0, z1_1, Bool.and_self, Bool.true_and, Bool.and_true, nI_add, pk_mul, nI_clamp, decide_true, Nat.le_refl, bI_eq, bI_z1, k418]
      refine r_keeps (f := f) (g := itT T (-1) 0 k f) ((MI_f hM f2).2.1) r2.1 (Z_e hZ (Z_i hZ k)) (HX_f hH f2) ?_
      intro v3 m1 m2 m3 m4
      refine go_at (blk := b_Model_run_38) rfl ?_
      simp (disch := omega) only [b_Model_run_38, be_6, be_34, be_1, be_38, be_54, kc_388, rf_388_47, ka_418, List.getD_cons_zero, List.getD_cons_succ, List.set_cons_zero, List.set_cons_succ, List.length_cons, List.length_nil, pk_I, pk_A, pr_A, pi_I, st_s, st_n, if_true, if_false, eq_self, d_if, d_ju, d_re, d_ca, cat0, cat1, cat2, cat3, fr_z, fr_s, cc_I, cc_A, cc_N, Nat.reduceAdd, Nat.reduceLT, Nat.reduceLeDiff, Nat.reduceEqDiff, not_true, not_false_iff, z1_0, z1_1, Bool.and_self, Bool.true_and, Bool.and_true, nI_add, pk_mul, nI_clamp, decide_true, Nat.le_refl, bI_eq, bI_z1, k418, m2]
      exact q2 k v3 hk0 hk rfl (MK_t (MK_f f2) m1) m2 m3 m4
    · rename_i h1
      refine go_at (blk := b_Model_run_17) rfl ?_
      simp (disch := omega) only [b_Model_run_17, be_6, be_34, be_1, be_38, be_54, kc_388, rf_388_47, ka_418, List.getD_cons_zero, List.getD_cons_succ, List.set_cons_zero, List.set_cons_succ, List.length_cons, List.length_nil, pk_I, pk_A, pr_A, pi_I, st_s, st_n, if_true, if_false, eq_self, d_if, d_ju, d_re, d_ca, cat0, cat1, cat2, cat3, fr_z, fr_s, cc_I, cc_A, cc_N, Nat.reduceAdd, Nat.reduceLT, Nat.reduceLeDiff, Nat.reduceEqDiff, not_true, not_false_iff, z1_0, z1_1, Bool.and_self, Bool.true_and, Bool.and_true, nI_add, pk_mul, nI_clamp, decide_true, Nat.le_refl, bI_eq, bI_z1, k418]
      exact q1 (Decidable.not_not.mp h1)
  · rename_i h0
    have h0 : (!decide (x < 0) && !decide (nI 300 < x)) = false := by simpa using h0
    refine go_at (blk := b_Model_run_11) rfl ?_
    simp (disch := omega) only [b_Model_run_11, be_2, be_54, List.getD_cons_zero, List.getD_cons_succ, List.set_cons_zero, List.set_cons_succ, List.length_cons, List.length_nil, pk_I, pk_A, pr_A, pi_I, st_s, st_n, if_true, if_false, eq_self, d_if, d_ju, d_re, d_ca, cat0, cat1, cat2, cat3, fr_z, fr_s, cc_I, cc_A, cc_N, Nat.reduceAdd, Nat.reduceLT, Nat.reduceLeDiff, Nat.reduceEqDiff, not_true, not_false_iff, z1_0, z1_1, Bool.and_self, Bool.true_and, Bool.and_true, nI_add, pk_mul, nI_clamp, decide_true, Nat.le_refl, bI_eq, bI_z1, k418]
    refine q0 ?_
    rw [Bool.and_eq_false_iff] at h0
    rcases h0 with h0 | h0
    · exact Or.inl (by simpa using h0)
    · exact Or.inr (by simpa using h0)
theorem r_undo0 {d : Nat} {v : Nat → Nat → Int32} {w : Nat → Nat → Int64} {Q : Option Value → am_H → Prop} {h : Nat → Nat → Int32} (hH : HX v 0 h) (hQ : Q (some (.int (nI 0))) (428, 26053, KD, RF, v, w)) : am_Ca (d + 1) M_Model_undo [.ref 388] (428, 26053, KD, RF, v, w) Q := by
  have h51 := hH.1
  refine ca_in (k := k_Model_undo) (nL := 2) rfl (Nat.le_of_ble_eq_true rfl) ?_
  show am_Go am_X0 _ k_Model_undo 0 ([.ref 388, .null], [], _) _
  refine go_at (blk := b_Model_undo_0) rfl ?_
  simp (disch := omega) only [b_Model_undo_0, be_6, be_33, be_50_1, kc_388, List.getD_cons_zero, List.getD_cons_succ, List.set_cons_zero, List.set_cons_succ, List.length_cons, List.length_nil, pk_I, pk_A, pr_A, pi_I, st_s, st_n, if_true, if_false, eq_self, d_if, d_ju, d_re, d_ca, cat0, cat1, cat2, cat3, fr_z, fr_s, cc_I, cc_A, cc_N, Nat.reduceAdd, Nat.reduceLT, Nat.reduceLeDiff, Nat.reduceEqDiff, not_true, not_false_iff, z1_0, z1_1, Bool.and_self, Bool.true_and, Bool.and_true, nI_add, pk_mul, nI_clamp, decide_true, Nat.le_refl, bI_eq, bI_z1, h51, nI_z]
  refine go_at (blk := b_Model_undo_7) rfl ?_
  simp (disch := omega) only [b_Model_undo_7, be_1, be_73, List.getD_cons_zero, List.getD_cons_succ, List.set_cons_zero, List.set_cons_succ, List.length_cons, List.length_nil, pk_I, pk_A, pr_A, pi_I, st_s, st_n, if_true, if_false, eq_self, d_if, d_ju, d_re, d_ca, cat0, cat1, cat2, cat3, fr_z, fr_s, cc_I, cc_A, cc_N, Nat.reduceAdd, Nat.reduceLT, Nat.reduceLeDiff, Nat.reduceEqDiff, not_true, not_false_iff, z1_0, z1_1, Bool.and_self, Bool.true_and, Bool.and_true, nI_add, pk_mul, nI_clamp, decide_true, Nat.le_refl, bI_eq, bI_z1, h51, nI_z]
  exact hQ
theorem nI_sb1 {n : Nat} : nI (n + 1) - nI 1 = nI n := by rw [← nI_add]; exact Int32.add_sub_cancel _ _
theorem nI_e1 {n : Nat} (h : n ≤ 1000) : (nI (n + 1) = 0) ↔ False := by
  constructor
  · intro z
    have := congrArg Int32.toInt z
    rw [nI_toInt (by omega), show (0 : Int32).toInt = 0 from rfl] at this
    omega
  · intro z
    exact z.elim
set_option maxHeartbeats 1000000 in
theorem r_undo1 {d : Nat} {v : Nat → Nat → Int32} {w : Nat → Nat → Int64} {Q : Option Value → am_H → Prop} {sz : Nat} {h : Nat → Nat → Int32} (hH : HX v (sz + 1) h) (hz : ∀ j, 50 ≤ j → v 418 j = h 0 j) (hQ : ∀ v', (∀ c, c ≠ 418 → c ≠ 388 → v' c = v c) → (∀ k, k ≠ 51 → v' 388 k = v 388 k) → v' 418 = h 0 → HX v' sz (fun j => h (j + 1)) → Q (some (.int (nI 1))) (428, 26053, KD, RF, v', w)) : am_Ca (d + 1) M_Model_undo [.ref 388] (428, 26053, KD, RF, v, w) Q := by
  have h51 := hH.1
  have hsz := hH.2.1
  refine ca_in (k := k_Model_undo) (nL := 2) rfl (Nat.le_of_ble_eq_true rfl) ?_
  show am_Go am_X0 _ k_Model_undo 0 ([.ref 388, .null], [], _) _
  refine go_at (blk := b_Model_undo_0) rfl ?_
  simp (disch := omega) only [b_Model_undo_0, be_6, be_33, be_50_1, kc_388, List.getD_cons_zero, List.getD_cons_succ, List.set_cons_zero, List.set_cons_succ, List.length_cons, List.length_nil, pk_I, pk_A, pr_A, pi_I, st_s, st_n, if_true, if_false, eq_self, d_if, d_ju, d_re, d_ca, cat0, cat1, cat2, cat3, fr_z, fr_s, cc_I, cc_A, cc_N, Nat.reduceAdd, Nat.reduceLT, Nat.reduceLeDiff, Nat.reduceEqDiff, not_true, not_false_iff, z1_0, z1_1, Bool.and_self, Bool.true_and, Bool.and_true, nI_add, pk_mul, nI_clamp, decide_true, Nat.le_refl, bI_eq, bI_z1, h51, nI_sb1, nI_e1]
  refine go_at (blk := b_Model_undo_9) rfl ?_
  simp (disch := omega) only [b_Model_undo_9, be_6, be_30I, be_30A, be_33, be_1, be_13, be_35, be_7, be_0, kc_388, List.getD_cons_zero, List.getD_cons_succ, List.set_cons_zero, List.set_cons_succ, List.length_cons, List.length_nil, pk_I, pk_A, pr_A, pi_I, st_s, st_n, if_true, if_false, eq_self, d_if, d_ju, d_re, d_ca, cat0, cat1, cat2, cat3, fr_z, fr_s, cc_I, cc_A, cc_N, Nat.reduceAdd, Nat.reduceLT, Nat.reduceLeDiff, Nat.reduceEqDiff, not_true, not_false_iff, z1_0, z1_1, Bool.and_self, Bool.true_and, Bool.and_true, nI_add, pk_mul, nI_clamp, decide_true, Nat.le_refl, bI_eq, bI_z1, h51, nI_sb1, nI_e1]
  obtain ⟨v1, hv1⟩ : ∃ v1, v1 = am_u v 388 51 (nI sz) := ⟨_, rfl⟩
  rw [← hv1]
  have g418 : v1 418 = v 418 := by rw [hv1, am_u_ne (by omega)]
  have g51 : v1 388 51 = nI sz := by rw [hv1, am_u_at, upd_at]
  have e0 : sA v1 418 (cpR (h 0) (v 418) 0) = v1 := by rw [cp_0, ← g418, sA_self]
  have hh2 : am_Go am_X0 d k_Model_undo 21 ([.ref 388, .int (nI 0)], [], (428, 26053, KD, RF, sA v1 418 (cpR (h 0) (v 418) 0), w)) Q := by
    refine go_loopA (α := Unit) (fun i u => ([.ref 388, .int (nI i)], [], (428, 26053, KD, RF, sA v1 418 (cpR (h 0) (v 418) i), w))) (fun i u => True) (50) ?_ ?_ () trivial
    · intro i _ hi _ ih
      try dsimp only at *
      have hni : ¬ 50 ≤ i := by omega
      have hr : v1 420 (50 * sz + i) = h 0 i := by rw [hv1, am_u_ne (by omega)]; exact hH.2.2 0 (by omega) i hi
      refine go_at (blk := b_Model_undo_21) rfl ?_
      simp (disch := omega) only [b_Model_undo_21, be_4, be_1, be_49_3, List.getD_cons_zero, List.getD_cons_succ, List.set_cons_zero, List.set_cons_succ, List.length_cons, List.length_nil, pk_I, pk_A, pr_A, pi_I, st_s, st_n, if_true, if_false, eq_self, d_if, d_ju, d_re, d_ca, cat0, cat1, cat2, cat3, fr_z, fr_s, cc_I, cc_A, cc_N, Nat.reduceAdd, Nat.reduceLT, Nat.reduceLeDiff, Nat.reduceEqDiff, not_true, not_false_iff, z1_0, z1_1, Bool.and_self, Bool.true_and, Bool.and_true, nI_add, pk_mul, nI_clamp, decide_true, Nat.le_refl, bI_eq, bI_z1, nI_ltI, nI_leI, sA_ne, sA_at, sA_u, cp_s, hr, g51, hni]
      refine go_at (blk := b_Model_undo_27) rfl ?_
      simp (disch := omega) only [b_Model_undo_27, be_6, be_34, be_4, be_1, be_33, be_14, be_12, be_38, be_43, be_10, be_51, kc_388, rf_388_47, rf_388_52, ka_420, ka_418, List.getD_cons_zero, List.getD_cons_succ, List.set_cons_zero, List.set_cons_succ, List.length_cons, List.length_nil, pk_I, pk_A, pr_A, pi_I, st_s, st_n, if_true, if_false, eq_self, d_if, d_ju, d_re, d_ca, cat0, cat1, cat2, cat3, fr_z, fr_s, cc_I, cc_A, cc_N, Nat.reduceAdd, Nat.reduceLT, Nat.reduceLeDiff, Nat.reduceEqDiff, not_true, not_false_iff, z1_0, z1_1, Bool.and_self, Bool.true_and, Bool.and_true, nI_add, pk_mul, nI_clamp, decide_true, Nat.le_refl, bI_eq, bI_z1, nI_ltI, nI_leI, sA_ne, sA_at, sA_u, cp_s, hr, g51, hni]
      exact ih () trivial
    · intro _ _
      try dsimp only at *
      rw [cp_e hz]
      have e1 : ∀ c, c ≠ 418 → c ≠ 388 → sA v1 418 (h 0) c = v c := fun c c1 c2 => by rw [sA_ne c1, hv1, am_u_ne c2]
      have e2 : ∀ k, k ≠ 51 → sA v1 418 (h 0) 388 k = v 388 k := fun k k1 => by rw [sA_ne (by omega), hv1, am_u_at, upd_ne k1]
      have e3 : sA v1 418 (h 0) 418 = h 0 := sA_at
      have e4 : HX (sA v1 418 (h 0)) sz (fun j => h (j + 1)) := by
        refine ⟨by rw [sA_ne (by omega)]; exact g51, by have := hH.2.1; omega, fun j hj k hk => ?_⟩
        rw [sA_ne (by omega), hv1, am_u_ne (by omega)]
        have := hH.2.2 (j + 1) (by omega) k hk
        rw [show sz + 1 - 1 - (j + 1) = sz - 1 - j by omega] at this
        exact this
      refine go_at (blk := b_Model_undo_21) rfl ?_
      simp (disch := omega) only [b_Model_undo_21, be_4, be_1, be_49_3, List.getD_cons_zero, List.getD_cons_succ, List.set_cons_zero, List.set_cons_succ, List.length_cons, List.length_nil, pk_I, pk_A, pr_A, pi_I, st_s, st_n, if_true, if_false, eq_self, d_if, d_ju, d_re, d_ca, cat0, cat1, cat2, cat3, fr_z, fr_s, cc_I, cc_A, cc_N, Nat.reduceAdd, Nat.reduceLT, Nat.reduceLeDiff, Nat.reduceEqDiff, not_true, not_false_iff, z1_0, z1_1, Bool.and_self, Bool.true_and, Bool.and_true, nI_add, pk_mul, nI_clamp, decide_true, Nat.le_refl, bI_eq, bI_z1, nI_ltI, nI_leI]
      refine go_at (blk := b_Model_undo_53) rfl ?_
      simp (disch := omega) only [b_Model_undo_53, be_1, be_73, List.getD_cons_zero, List.getD_cons_succ, List.set_cons_zero, List.set_cons_succ, List.length_cons, List.length_nil, pk_I, pk_A, pr_A, pi_I, st_s, st_n, if_true, if_false, eq_self, d_if, d_ju, d_re, d_ca, cat0, cat1, cat2, cat3, fr_z, fr_s, cc_I, cc_A, cc_N, Nat.reduceAdd, Nat.reduceLT, Nat.reduceLeDiff, Nat.reduceEqDiff, not_true, not_false_iff, z1_0, z1_1, Bool.and_self, Bool.true_and, Bool.and_true, nI_add, pk_mul, nI_clamp, decide_true, Nat.le_refl, bI_eq, bI_z1, nI_ltI, nI_leI]
      exact hQ _ e1 e2 e3 e4
  rw [e0] at hh2
  exact hh2
