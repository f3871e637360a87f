/-! laid by wip/whole/k21.py: the class: what is now -/
theorem RX_b {v : Nat → Nat → Int32} {a n p : Nat} {no md : Int32} {g : Nat → Int32} (h : RX v a n no md g) (hp : p < n) (hn : nI p ≠ no) : v (a + 4) p = g (24 + p) := ((h.1 p hp).1 hn).2.2.2.1
set_option maxHeartbeats 1000000 in
theorem p_moves {d : Nat} {v : Nat → Nat → Int32} {w : Nat → Nat → Int64} {Q : Option Value → am_H → Prop} {T : TXT} {f : Nat → Int32} {B : Int} (hK : KI B v T f) (hQ : ∀ v', QF v v' → Q (some (.int (mvT T (-1) 0 f))) (428, 26053, KD, RF, v', w)) : am_Ca (d + 4) M_KneeStair_moves [.ref 0] (428, 26053, KD, RF, v, w) Q := by
  refine ca_in (k := k_KneeStair_moves) (nL := 1) rfl (Nat.le_of_ble_eq_true rfl) ?_
  show am_Go am_X0 _ k_KneeStair_moves 0 ([.ref 0], [], _) _
  refine go_at (blk := b_KneeStair_moves_0) rfl ?_
  simp (disch := omega) only [b_KneeStair_moves_0, be_6, be_34, be_57_0, kc_0, rf_0_5, kc_42, List.getD_cons_zero, List.getD_cons_succ, List.set_cons_zero, List.set_cons_succ, List.length_cons, List.length_nil, pk_I, pk_A, pr_A, pi_I, st_s, st_n, if_true, if_false, eq_self, d_if, d_ju, d_re, d_ca, cat0, cat1, cat2, cat3, fr_z, fr_s, cc_I, cc_A, cc_N, Nat.reduceAdd, Nat.reduceLT, Nat.reduceLeDiff, Nat.reduceEqDiff, not_true, not_false_iff, z1_0, z1_1, Bool.and_self, Bool.true_and, Bool.and_true, nI_add, pk_mul, nI_clamp, decide_true, Nat.le_refl, bI_eq, bI_z1]
  refine k_movesNow st_42 hK.1 hK.2.1 hK.2.2.1 ?_
  intro v2 q2
  refine go_at (blk := b_KneeStair_moves_7) rfl ?_
  simp (disch := omega) only [b_KneeStair_moves_7, be_54, List.getD_cons_zero, List.getD_cons_succ, List.set_cons_zero, List.set_cons_succ, List.length_cons, List.length_nil, pk_I, pk_A, pr_A, pi_I, st_s, st_n, if_true, if_false, eq_self, d_if, d_ju, d_re, d_ca, cat0, cat1, cat2, cat3, fr_z, fr_s, cc_I, cc_A, cc_N, Nat.reduceAdd, Nat.reduceLT, Nat.reduceLeDiff, Nat.reduceEqDiff, not_true, not_false_iff, z1_0, z1_1, Bool.and_self, Bool.true_and, Bool.and_true, nI_add, pk_mul, nI_clamp, decide_true, Nat.le_refl, bI_eq, bI_z1]
  exact hQ v2 (QF_m q2)
def mwN (f : Nat → Int32) : Nat → Nat
  | 0 => 0
  | i + 1 => if f (24 + mwN f i) < f (24 + (i + 1)) then i + 1 else mwN f i
theorem mw_le {f : Nat → Int32} (i : Nat) : mwN f i ≤ i := by
  induction i with
  | zero => exact Nat.le_refl _
  | succ i ih =>
    show (if f (24 + mwN f i) < f (24 + (i + 1)) then i + 1 else mwN f i) ≤ i + 1
    split <;> omega
theorem mw_t {f : Nat → Int32} {i : Nat} (h : f (24 + mwN f i) < f (24 + (i + 1))) : mwN f (i + 1) = i + 1 := if_pos h
theorem mw_f {f : Nat → Int32} {i : Nat} (h : ¬ f (24 + mwN f i) < f (24 + (i + 1))) : mwN f (i + 1) = mwN f i := if_neg h
def moA (T : TXT) (f : Nat → Int32) (z : Int32) : Int32 := if twoB z = true then (if tN T = 0 then -2 else if z = 0 then nI (mwN f (tN T - 1)) else f (24 + mwN f (tN T - 1))) else -1
set_option maxHeartbeats 1000000 in
theorem p_most {d : Nat} {v : Nat → Nat → Int32} {w : Nat → Nat → Int64} {Q : Option Value → am_H → Prop} {T : TXT} {f : Nat → Int32} {B : Int} (hK : KI B v T f) {z : Int32} (hQ : Q (some (.int (moA T f z))) (428, 26053, KD, RF, v, w)) : am_Ca (d + 2) M_KneeStair_most [.ref 0, .int z] (428, 26053, KD, RF, v, w) Q := by
  have h8 := hK.1.1
  have k1 := hK.1.2.1
  refine ca_in (k := k_KneeStair_most) (nL := 4) rfl (Nat.le_of_ble_eq_true rfl) ?_
  show am_Go am_X0 _ k_KneeStair_most 0 ([.ref 0, .int z, .null, .null], [], _) _
  refine go_at (blk := b_KneeStair_most_0) rfl ?_
  simp (disch := omega) only [b_KneeStair_most_0, be_4, be_58_1, List.getD_cons_zero, List.getD_cons_succ, List.set_cons_zero, List.set_cons_succ, List.length_cons, List.length_nil, pk_I, pk_A, pr_A, pi_I, st_s, st_n, if_true, if_false, eq_self, d_if, d_ju, d_re, d_ca, cat0, cat1, cat2, cat3, fr_z, fr_s, cc_I, cc_A, cc_N, Nat.reduceAdd, Nat.reduceLT, Nat.reduceLeDiff, Nat.reduceEqDiff, not_true, not_false_iff, z1_0, z1_1, Bool.and_self, Bool.true_and, Bool.and_true, nI_add, pk_mul, nI_clamp, decide_true, Nat.le_refl, bI_eq, bI_z1, nI_ltI, nI_leI, k1, nI_e0]
  refine k_isTwo ?_
  refine go_at (blk := b_KneeStair_most_4) rfl ?_
  simp (disch := omega) only [b_KneeStair_most_4, be_50_1, List.getD_cons_zero, List.getD_cons_succ, List.set_cons_zero, List.set_cons_succ, List.length_cons, List.length_nil, pk_I, pk_A, pr_A, pi_I, st_s, st_n, if_true, if_false, eq_self, d_if, d_ju, d_re, d_ca, cat0, cat1, cat2, cat3, fr_z, fr_s, cc_I, cc_A, cc_N, Nat.reduceAdd, Nat.reduceLT, Nat.reduceLeDiff, Nat.reduceEqDiff, not_true, not_false_iff, z1_0, z1_1, Bool.and_self, Bool.true_and, Bool.and_true, nI_add, pk_mul, nI_clamp, decide_true, Nat.le_refl, bI_eq, bI_z1, nI_ltI, nI_leI, k1, nI_e0]
  split
  · rename_i hb
    have hb : twoB z = true := by simpa using hb
    unfold moA at hQ
    rw [if_pos hb] at hQ
    refine go_at (blk := b_KneeStair_most_9) rfl ?_
    simp (disch := omega) only [b_KneeStair_most_9, be_6, be_34, be_33, be_50_1, kc_0, rf_0_4, kc_25, List.getD_cons_zero, List.getD_cons_succ, List.set_cons_zero, List.set_cons_succ, List.length_cons, List.length_nil, pk_I, pk_A, pr_A, pi_I, st_s, st_n, if_true, if_false, eq_self, d_if, d_ju, d_re, d_ca, cat0, cat1, cat2, cat3, fr_z, fr_s, cc_I, cc_A, cc_N, Nat.reduceAdd, Nat.reduceLT, Nat.reduceLeDiff, Nat.reduceEqDiff, not_true, not_false_iff, z1_0, z1_1, Bool.and_self, Bool.true_and, Bool.and_true, nI_add, pk_mul, nI_clamp, decide_true, Nat.le_refl, bI_eq, bI_z1, nI_ltI, nI_leI, k1, nI_e0]
    split
    · rename_i hn
      refine go_at (blk := b_KneeStair_most_22) rfl ?_
      simp (disch := omega) only [b_KneeStair_most_22, be_1, be_7, be_0, List.getD_cons_zero, List.getD_cons_succ, List.set_cons_zero, List.set_cons_succ, List.length_cons, List.length_nil, pk_I, pk_A, pr_A, pi_I, st_s, st_n, if_true, if_false, eq_self, d_if, d_ju, d_re, d_ca, cat0, cat1, cat2, cat3, fr_z, fr_s, cc_I, cc_A, cc_N, Nat.reduceAdd, Nat.reduceLT, Nat.reduceLeDiff, Nat.reduceEqDiff, not_true, not_false_iff, z1_0, z1_1, Bool.and_self, Bool.true_and, Bool.and_true, nI_add, pk_mul, nI_clamp, decide_true, Nat.le_refl, bI_eq, bI_z1, nI_ltI, nI_leI, k1, nI_e0]
      rw [if_neg hn] at hQ
      refine go_loop (fun i => ([.ref 0, .int z, .int (nI (mwN f i)), .int (nI (i + 1))], [], (428, 26053, KD, RF, v, w))) (tN T - 1) ?_ ?_
      · intro i hi ih
        have hni : ¬ tN T - 1 ≤ i := by omega
        have hwl := mw_le (f := f) i
        have hni2 : ¬ tN T ≤ i + 1 := by omega
        have e1 : v 46 (i + 1) = f (24 + (i + 1)) := RX_b hK.2.1 (by omega) (nI_m (by omega))
        have e2 : v 46 (mwN f i) = f (24 + mwN f i) := RX_b hK.2.1 (by omega) (nI_m (by omega))
        have hge : (1 : Nat) = 1 := rfl
        try dsimp only at ih ⊢
        refine go_at (blk := b_KneeStair_most_26) rfl ?_
        simp (disch := omega) only [b_KneeStair_most_26, be_4, be_6, be_34, be_33, be_49_3, kc_0, rf_0_4, kc_25, List.getD_cons_zero, List.getD_cons_succ, List.set_cons_zero, List.set_cons_succ, List.length_cons, List.length_nil, pk_I, pk_A, pr_A, pi_I, st_s, st_n, if_true, if_false, eq_self, d_if, d_ju, d_re, d_ca, cat0, cat1, cat2, cat3, fr_z, fr_s, cc_I, cc_A, cc_N, Nat.reduceAdd, Nat.reduceLT, Nat.reduceLeDiff, Nat.reduceEqDiff, not_true, not_false_iff, z1_0, z1_1, Bool.and_self, Bool.true_and, Bool.and_true, nI_add, pk_mul, nI_clamp, decide_true, Nat.le_refl, bI_eq, bI_z1, nI_ltI, nI_leI, k1, hge, e1, e2, hni2]
        refine go_at (blk := b_KneeStair_most_37) rfl ?_
        simp (disch := omega) only [b_KneeStair_most_37, be_6, be_34, be_4, be_38, be_49_5, kc_0, rf_0_5, kc_42, rf_42_4, ka_46, List.getD_cons_zero, List.getD_cons_succ, List.set_cons_zero, List.set_cons_succ, List.length_cons, List.length_nil, pk_I, pk_A, pr_A, pi_I, st_s, st_n, if_true, if_false, eq_self, d_if, d_ju, d_re, d_ca, cat0, cat1, cat2, cat3, fr_z, fr_s, cc_I, cc_A, cc_N, Nat.reduceAdd, Nat.reduceLT, Nat.reduceLeDiff, Nat.reduceEqDiff, not_true, not_false_iff, z1_0, z1_1, Bool.and_self, Bool.true_and, Bool.and_true, nI_add, pk_mul, nI_clamp, decide_true, Nat.le_refl, bI_eq, bI_z1, nI_ltI, nI_leI, k1, hge, e1, e2, hni2]
        split
        · rename_i hc
          refine go_at (blk := b_KneeStair_most_60) rfl ?_
          simp (disch := omega) only [b_KneeStair_most_60, be_10, be_51, List.getD_cons_zero, List.getD_cons_succ, List.set_cons_zero, List.set_cons_succ, List.length_cons, List.length_nil, pk_I, pk_A, pr_A, pi_I, st_s, st_n, if_true, if_false, eq_self, d_if, d_ju, d_re, d_ca, cat0, cat1, cat2, cat3, fr_z, fr_s, cc_I, cc_A, cc_N, Nat.reduceAdd, Nat.reduceLT, Nat.reduceLeDiff, Nat.reduceEqDiff, not_true, not_false_iff, z1_0, z1_1, Bool.and_self, Bool.true_and, Bool.and_true, nI_add, pk_mul, nI_clamp, decide_true, Nat.le_refl, bI_eq, bI_z1, nI_ltI, nI_leI, k1, hge, e1, e2, hni2]
          rw [mw_f (Int32.not_lt.mpr hc)] at ih
          exact ih
        · rename_i hc
          refine go_at (blk := b_KneeStair_most_58) rfl ?_
          simp (disch := omega) only [b_KneeStair_most_58, be_4, be_7, be_0, List.getD_cons_zero, List.getD_cons_succ, List.set_cons_zero, List.set_cons_succ, List.length_cons, List.length_nil, pk_I, pk_A, pr_A, pi_I, st_s, st_n, if_true, if_false, eq_self, d_if, d_ju, d_re, d_ca, cat0, cat1, cat2, cat3, fr_z, fr_s, cc_I, cc_A, cc_N, Nat.reduceAdd, Nat.reduceLT, Nat.reduceLeDiff, Nat.reduceEqDiff, not_true, not_false_iff, z1_0, z1_1, Bool.and_self, Bool.true_and, Bool.and_true, nI_add, pk_mul, nI_clamp, decide_true, Nat.le_refl, bI_eq, bI_z1, nI_ltI, nI_leI, k1, hge, e1, e2, hni2]
          refine go_at (blk := b_KneeStair_most_60) rfl ?_
          simp (disch := omega) only [b_KneeStair_most_60, be_10, be_51, List.getD_cons_zero, List.getD_cons_succ, List.set_cons_zero, List.set_cons_succ, List.length_cons, List.length_nil, pk_I, pk_A, pr_A, pi_I, st_s, st_n, if_true, if_false, eq_self, d_if, d_ju, d_re, d_ca, cat0, cat1, cat2, cat3, fr_z, fr_s, cc_I, cc_A, cc_N, Nat.reduceAdd, Nat.reduceLT, Nat.reduceLeDiff, Nat.reduceEqDiff, not_true, not_false_iff, z1_0, z1_1, Bool.and_self, Bool.true_and, Bool.and_true, nI_add, pk_mul, nI_clamp, decide_true, Nat.le_refl, bI_eq, bI_z1, nI_ltI, nI_leI, k1, hge, e1, e2, hni2]
          rw [mw_t (Int32.not_le.mp hc)] at ih
          exact ih
      · have hwl := mw_le (f := f) (tN T - 1)
        have e1 : (1 : Nat) = 1 := rfl
        have e2 : v 46 (mwN f (tN T - 1)) = f (24 + mwN f (tN T - 1)) := RX_b hK.2.1 (by omega) (nI_m (by omega))
        have hge : tN T ≤ tN T - 1 + 1 := by omega
        try dsimp only
        refine go_at (blk := b_KneeStair_most_26) rfl ?_
        simp (disch := omega) only [b_KneeStair_most_26, be_4, be_6, be_34, be_33, be_49_3, kc_0, rf_0_4, kc_25, List.getD_cons_zero, List.getD_cons_succ, List.set_cons_zero, List.set_cons_succ, List.length_cons, List.length_nil, pk_I, pk_A, pr_A, pi_I, st_s, st_n, if_true, if_false, eq_self, d_if, d_ju, d_re, d_ca, cat0, cat1, cat2, cat3, fr_z, fr_s, cc_I, cc_A, cc_N, Nat.reduceAdd, Nat.reduceLT, Nat.reduceLeDiff, Nat.reduceEqDiff, not_true, not_false_iff, z1_0, z1_1, Bool.and_self, Bool.true_and, Bool.and_true, nI_add, pk_mul, nI_clamp, decide_true, Nat.le_refl, bI_eq, bI_z1, nI_ltI, nI_leI, k1, hge, e1, e2]
        refine go_at (blk := b_KneeStair_most_66) rfl ?_
        simp (disch := omega) only [b_KneeStair_most_66, be_4, be_50_1, List.getD_cons_zero, List.getD_cons_succ, List.set_cons_zero, List.set_cons_succ, List.length_cons, List.length_nil, pk_I, pk_A, pr_A, pi_I, st_s, st_n, if_true, if_false, eq_self, d_if, d_ju, d_re, d_ca, cat0, cat1, cat2, cat3, fr_z, fr_s, cc_I, cc_A, cc_N, Nat.reduceAdd, Nat.reduceLT, Nat.reduceLeDiff, Nat.reduceEqDiff, not_true, not_false_iff, z1_0, z1_1, Bool.and_self, Bool.true_and, Bool.and_true, nI_add, pk_mul, nI_clamp, decide_true, Nat.le_refl, bI_eq, bI_z1, nI_ltI, nI_leI, k1, hge, e1, e2]
        split
        · rename_i hw
          refine go_at (blk := b_KneeStair_most_74) rfl ?_
          simp (disch := omega) only [b_KneeStair_most_74, be_6, be_34, be_4, be_38, be_0, kc_0, rf_0_5, kc_42, rf_42_4, ka_46, List.getD_cons_zero, List.getD_cons_succ, List.set_cons_zero, List.set_cons_succ, List.length_cons, List.length_nil, pk_I, pk_A, pr_A, pi_I, st_s, st_n, if_true, if_false, eq_self, d_if, d_ju, d_re, d_ca, cat0, cat1, cat2, cat3, fr_z, fr_s, cc_I, cc_A, cc_N, Nat.reduceAdd, Nat.reduceLT, Nat.reduceLeDiff, Nat.reduceEqDiff, not_true, not_false_iff, z1_0, z1_1, Bool.and_self, Bool.true_and, Bool.and_true, nI_add, pk_mul, nI_clamp, decide_true, Nat.le_refl, bI_eq, bI_z1, nI_ltI, nI_leI, k1, hge, e1, e2]
          refine go_at (blk := b_KneeStair_most_83) rfl ?_
          simp (disch := omega) only [b_KneeStair_most_83, be_54, List.getD_cons_zero, List.getD_cons_succ, List.set_cons_zero, List.set_cons_succ, List.length_cons, List.length_nil, pk_I, pk_A, pr_A, pi_I, st_s, st_n, if_true, if_false, eq_self, d_if, d_ju, d_re, d_ca, cat0, cat1, cat2, cat3, fr_z, fr_s, cc_I, cc_A, cc_N, Nat.reduceAdd, Nat.reduceLT, Nat.reduceLeDiff, Nat.reduceEqDiff, not_true, not_false_iff, z1_0, z1_1, Bool.and_self, Bool.true_and, Bool.and_true, nI_add, pk_mul, nI_clamp, decide_true, Nat.le_refl, bI_eq, bI_z1, nI_ltI, nI_leI, k1, hge, e1, e2]
          rw [if_neg hw] at hQ
          exact hQ
        · rename_i hw
          refine go_at (blk := b_KneeStair_most_70) rfl ?_
          simp (disch := omega) only [b_KneeStair_most_70, be_4, be_51, List.getD_cons_zero, List.getD_cons_succ, List.set_cons_zero, List.set_cons_succ, List.length_cons, List.length_nil, pk_I, pk_A, pr_A, pi_I, st_s, st_n, if_true, if_false, eq_self, d_if, d_ju, d_re, d_ca, cat0, cat1, cat2, cat3, fr_z, fr_s, cc_I, cc_A, cc_N, Nat.reduceAdd, Nat.reduceLT, Nat.reduceLeDiff, Nat.reduceEqDiff, not_true, not_false_iff, z1_0, z1_1, Bool.and_self, Bool.true_and, Bool.and_true, nI_add, pk_mul, nI_clamp, decide_true, Nat.le_refl, bI_eq, bI_z1, nI_ltI, nI_leI, k1, hge, e1, e2]
          refine go_at (blk := b_KneeStair_most_83) rfl ?_
          simp (disch := omega) only [b_KneeStair_most_83, be_54, List.getD_cons_zero, List.getD_cons_succ, List.set_cons_zero, List.set_cons_succ, List.length_cons, List.length_nil, pk_I, pk_A, pr_A, pi_I, st_s, st_n, if_true, if_false, eq_self, d_if, d_ju, d_re, d_ca, cat0, cat1, cat2, cat3, fr_z, fr_s, cc_I, cc_A, cc_N, Nat.reduceAdd, Nat.reduceLT, Nat.reduceLeDiff, Nat.reduceEqDiff, not_true, not_false_iff, z1_0, z1_1, Bool.and_self, Bool.true_and, Bool.and_true, nI_add, pk_mul, nI_clamp, decide_true, Nat.le_refl, bI_eq, bI_z1, nI_ltI, nI_leI, k1, hge, e1, e2]
          rw [if_pos (Decidable.not_not.mp hw)] at hQ
          exact hQ
    · rename_i hn
      refine go_at (blk := b_KneeStair_most_19) rfl ?_
      simp (disch := omega) only [b_KneeStair_most_19, be_2, be_54, List.getD_cons_zero, List.getD_cons_succ, List.set_cons_zero, List.set_cons_succ, List.length_cons, List.length_nil, pk_I, pk_A, pr_A, pi_I, st_s, st_n, if_true, if_false, eq_self, d_if, d_ju, d_re, d_ca, cat0, cat1, cat2, cat3, fr_z, fr_s, cc_I, cc_A, cc_N, Nat.reduceAdd, Nat.reduceLT, Nat.reduceLeDiff, Nat.reduceEqDiff, not_true, not_false_iff, z1_0, z1_1, Bool.and_self, Bool.true_and, Bool.and_true, nI_add, pk_mul, nI_clamp, decide_true, Nat.le_refl, bI_eq, bI_z1, nI_ltI, nI_leI, k1, nI_e0]
      rw [if_pos (Decidable.not_not.mp hn)] at hQ
      exact hQ
  · rename_i hb
    refine go_at (blk := b_KneeStair_most_7) rfl ?_
    simp (disch := omega) only [b_KneeStair_most_7, be_2, be_54, List.getD_cons_zero, List.getD_cons_succ, List.set_cons_zero, List.set_cons_succ, List.length_cons, List.length_nil, pk_I, pk_A, pr_A, pi_I, st_s, st_n, if_true, if_false, eq_self, d_if, d_ju, d_re, d_ca, cat0, cat1, cat2, cat3, fr_z, fr_s, cc_I, cc_A, cc_N, Nat.reduceAdd, Nat.reduceLT, Nat.reduceLeDiff, Nat.reduceEqDiff, not_true, not_false_iff, z1_0, z1_1, Bool.and_self, Bool.true_and, Bool.and_true, nI_add, pk_mul, nI_clamp, decide_true, Nat.le_refl, bI_eq, bI_z1, nI_ltI, nI_leI, k1, nI_e0]
    unfold moA at hQ
    rw [if_neg (by have hb := hb; rw [show twoB z = false by simpa using hb]; decide)] at hQ
    exact hQ
def thA (T : TXT) (f : Nat → Int32) (x : Int32) : Int32 := if (!decide (x < 0) && !decide (nI 99 < x)) = true then nI (cnt (fun p => decide (f p = x)) (tN T)) else -1
set_option maxHeartbeats 1000000 in
theorem p_there {d : Nat} {v : Nat → Nat → Int32} {w : Nat → Nat → Int64} {Q : Option Value → am_H → Prop} {T : TXT} {f : Nat → Int32} {B : Int} (hK : KI B v T f) {x : Int32} (hQ : Q (some (.int (thA T f x))) (428, 26053, KD, RF, v, w)) : am_Ca (d + 1) M_KneeStair_there [.ref 0, .int x] (428, 26053, KD, RF, v, w) Q := by
  have h8 := hK.1.1
  have k1 := hK.1.2.1
  refine ca_in (k := k_KneeStair_there) (nL := 4) rfl (Nat.le_of_ble_eq_true rfl) ?_
  show am_Go am_X0 _ k_KneeStair_there 0 ([.ref 0, .int x, .null, .null], [], _) _
  refine go_at (blk := b_KneeStair_there_0) rfl ?_
  simp (disch := omega) only [b_KneeStair_there_0, be_4, be_50_2, List.getD_cons_zero, List.getD_cons_succ, List.set_cons_zero, List.set_cons_succ, List.length_cons, List.length_nil, pk_I, pk_A, pr_A, pi_I, st_s, st_n, if_true, if_false, eq_self, d_if, d_ju, d_re, d_ca, cat0, cat1, cat2, cat3, fr_z, fr_s, cc_I, cc_A, cc_N, Nat.reduceAdd, Nat.reduceLT, Nat.reduceLeDiff, Nat.reduceEqDiff, not_true, not_false_iff, z1_0, z1_1, Bool.and_self, Bool.true_and, Bool.and_true, nI_add, pk_mul, nI_clamp, decide_true, Nat.le_refl, bI_eq, bI_z1]
  split
  · rename_i h0
    refine go_at (blk := b_KneeStair_there_10) rfl ?_
    simp (disch := omega) only [b_KneeStair_there_10, be_2, be_54, List.getD_cons_zero, List.getD_cons_succ, List.set_cons_zero, List.set_cons_succ, List.length_cons, List.length_nil, pk_I, pk_A, pr_A, pi_I, st_s, st_n, if_true, if_false, eq_self, d_if, d_ju, d_re, d_ca, cat0, cat1, cat2, cat3, fr_z, fr_s, cc_I, cc_A, cc_N, Nat.reduceAdd, Nat.reduceLT, Nat.reduceLeDiff, Nat.reduceEqDiff, not_true, not_false_iff, z1_0, z1_1, Bool.and_self, Bool.true_and, Bool.and_true, nI_add, pk_mul, nI_clamp, decide_true, Nat.le_refl, bI_eq, bI_z1]
    unfold thA at hQ
    rw [if_neg (by rw [decide_eq_true h0]; simp)] at hQ
    exact hQ
  · rename_i h0
    refine go_at (blk := b_KneeStair_there_4) rfl ?_
    simp (disch := omega) only [b_KneeStair_there_4, be_4, be_1, be_49_5, List.getD_cons_zero, List.getD_cons_succ, List.set_cons_zero, List.set_cons_succ, List.length_cons, List.length_nil, pk_I, pk_A, pr_A, pi_I, st_s, st_n, if_true, if_false, eq_self, d_if, d_ju, d_re, d_ca, cat0, cat1, cat2, cat3, fr_z, fr_s, cc_I, cc_A, cc_N, Nat.reduceAdd, Nat.reduceLT, Nat.reduceLeDiff, Nat.reduceEqDiff, not_true, not_false_iff, z1_0, z1_1, Bool.and_self, Bool.true_and, Bool.and_true, nI_add, pk_mul, nI_clamp, decide_true, Nat.le_refl, bI_eq, bI_z1]
    split
    · rename_i h1
      refine go_at (blk := b_KneeStair_there_12) rfl ?_
      simp (disch := omega) only [b_KneeStair_there_12, be_1, be_7, be_0, List.getD_cons_zero, List.getD_cons_succ, List.set_cons_zero, List.set_cons_succ, List.length_cons, List.length_nil, pk_I, pk_A, pr_A, pi_I, st_s, st_n, if_true, if_false, eq_self, d_if, d_ju, d_re, d_ca, cat0, cat1, cat2, cat3, fr_z, fr_s, cc_I, cc_A, cc_N, Nat.reduceAdd, Nat.reduceLT, Nat.reduceLeDiff, Nat.reduceEqDiff, not_true, not_false_iff, z1_0, z1_1, Bool.and_self, Bool.true_and, Bool.and_true, nI_add, pk_mul, nI_clamp, decide_true, Nat.le_refl, bI_eq, bI_z1]
      unfold thA at hQ
      rw [if_pos (by rw [decide_eq_false h0, decide_eq_false (p := nI 99 < x) (Int32.not_lt.mpr h1)]; rfl)] at hQ
      refine go_loop (fun i => ([.ref 0, .int x, .int (nI (cnt (fun p => decide (f p = x)) i)), .int (nI i)], [], (428, 26053, KD, RF, v, w))) (tN T) ?_ ?_
      · intro i hi ih
        have hni : ¬ tN T ≤ i := by omega
        have e1 : v 43 i = f i := RX_st hK.2.1 hi (nI_m (by omega))
        try dsimp only at ih ⊢
        refine go_at (blk := b_KneeStair_there_16) rfl ?_
        simp (disch := omega) only [b_KneeStair_there_16, be_4, be_6, be_34, be_33, be_49_3, kc_0, rf_0_4, kc_25, List.getD_cons_zero, List.getD_cons_succ, List.set_cons_zero, List.set_cons_succ, List.length_cons, List.length_nil, pk_I, pk_A, pr_A, pi_I, st_s, st_n, if_true, if_false, eq_self, d_if, d_ju, d_re, d_ca, cat0, cat1, cat2, cat3, fr_z, fr_s, cc_I, cc_A, cc_N, Nat.reduceAdd, Nat.reduceLT, Nat.reduceLeDiff, Nat.reduceEqDiff, not_true, not_false_iff, z1_0, z1_1, Bool.and_self, Bool.true_and, Bool.and_true, nI_add, pk_mul, nI_clamp, decide_true, Nat.le_refl, bI_eq, bI_z1, nI_ltI, nI_leI, k1, e1, hni]
        refine go_at (blk := b_KneeStair_there_27) rfl ?_
        simp (disch := omega) only [b_KneeStair_there_27, be_6, be_34, be_4, be_38, be_49_1, kc_0, rf_0_5, kc_42, rf_42_1, ka_43, List.getD_cons_zero, List.getD_cons_succ, List.set_cons_zero, List.set_cons_succ, List.length_cons, List.length_nil, pk_I, pk_A, pr_A, pi_I, st_s, st_n, if_true, if_false, eq_self, d_if, d_ju, d_re, d_ca, cat0, cat1, cat2, cat3, fr_z, fr_s, cc_I, cc_A, cc_N, Nat.reduceAdd, Nat.reduceLT, Nat.reduceLeDiff, Nat.reduceEqDiff, not_true, not_false_iff, z1_0, z1_1, Bool.and_self, Bool.true_and, Bool.and_true, nI_add, pk_mul, nI_clamp, decide_true, Nat.le_refl, bI_eq, bI_z1, nI_ltI, nI_leI, k1, e1, hni]
        split
        · rename_i hb
          refine go_at (blk := b_KneeStair_there_43) rfl ?_
          simp (disch := omega) only [b_KneeStair_there_43, be_10, be_51, List.getD_cons_zero, List.getD_cons_succ, List.set_cons_zero, List.set_cons_succ, List.length_cons, List.length_nil, pk_I, pk_A, pr_A, pi_I, st_s, st_n, if_true, if_false, eq_self, d_if, d_ju, d_re, d_ca, cat0, cat1, cat2, cat3, fr_z, fr_s, cc_I, cc_A, cc_N, Nat.reduceAdd, Nat.reduceLT, Nat.reduceLeDiff, Nat.reduceEqDiff, not_true, not_false_iff, z1_0, z1_1, Bool.and_self, Bool.true_and, Bool.and_true, nI_add, pk_mul, nI_clamp, decide_true, Nat.le_refl, bI_eq, bI_z1, nI_ltI, nI_leI, k1, e1, hni]
          rw [cnt_f (g := (fun p => decide (f p = x))) (decide_eq_false hb)] at ih
          exact ih
        · rename_i hb
          refine go_at (blk := b_KneeStair_there_40) rfl ?_
          simp (disch := omega) only [b_KneeStair_there_40, be_10, be_0, List.getD_cons_zero, List.getD_cons_succ, List.set_cons_zero, List.set_cons_succ, List.length_cons, List.length_nil, pk_I, pk_A, pr_A, pi_I, st_s, st_n, if_true, if_false, eq_self, d_if, d_ju, d_re, d_ca, cat0, cat1, cat2, cat3, fr_z, fr_s, cc_I, cc_A, cc_N, Nat.reduceAdd, Nat.reduceLT, Nat.reduceLeDiff, Nat.reduceEqDiff, not_true, not_false_iff, z1_0, z1_1, Bool.and_self, Bool.true_and, Bool.and_true, nI_add, pk_mul, nI_clamp, decide_true, Nat.le_refl, bI_eq, bI_z1, nI_ltI, nI_leI, k1, e1, hni]
          refine go_at (blk := b_KneeStair_there_43) rfl ?_
          simp (disch := omega) only [b_KneeStair_there_43, be_10, be_51, List.getD_cons_zero, List.getD_cons_succ, List.set_cons_zero, List.set_cons_succ, List.length_cons, List.length_nil, pk_I, pk_A, pr_A, pi_I, st_s, st_n, if_true, if_false, eq_self, d_if, d_ju, d_re, d_ca, cat0, cat1, cat2, cat3, fr_z, fr_s, cc_I, cc_A, cc_N, Nat.reduceAdd, Nat.reduceLT, Nat.reduceLeDiff, Nat.reduceEqDiff, not_true, not_false_iff, z1_0, z1_1, Bool.and_self, Bool.true_and, Bool.and_true, nI_add, pk_mul, nI_clamp, decide_true, Nat.le_refl, bI_eq, bI_z1, nI_ltI, nI_leI, k1, e1, hni]
          rw [cnt_t (g := (fun p => decide (f p = x))) (decide_eq_true (Decidable.not_not.mp hb))] at ih
          exact ih
      · have e1 : (1 : Nat) = 1 := rfl
        try dsimp only
        refine go_at (blk := b_KneeStair_there_16) rfl ?_
        simp (disch := omega) only [b_KneeStair_there_16, be_4, be_6, be_34, be_33, be_49_3, kc_0, rf_0_4, kc_25, List.getD_cons_zero, List.getD_cons_succ, List.set_cons_zero, List.set_cons_succ, List.length_cons, List.length_nil, pk_I, pk_A, pr_A, pi_I, st_s, st_n, if_true, if_false, eq_self, d_if, d_ju, d_re, d_ca, cat0, cat1, cat2, cat3, fr_z, fr_s, cc_I, cc_A, cc_N, Nat.reduceAdd, Nat.reduceLT, Nat.reduceLeDiff, Nat.reduceEqDiff, not_true, not_false_iff, z1_0, z1_1, Bool.and_self, Bool.true_and, Bool.and_true, nI_add, pk_mul, nI_clamp, decide_true, Nat.le_refl, bI_eq, bI_z1, nI_ltI, nI_leI, k1, e1]
        refine go_at (blk := b_KneeStair_there_49) rfl ?_
        simp (disch := omega) only [b_KneeStair_there_49, be_4, be_54, List.getD_cons_zero, List.getD_cons_succ, List.set_cons_zero, List.set_cons_succ, List.length_cons, List.length_nil, pk_I, pk_A, pr_A, pi_I, st_s, st_n, if_true, if_false, eq_self, d_if, d_ju, d_re, d_ca, cat0, cat1, cat2, cat3, fr_z, fr_s, cc_I, cc_A, cc_N, Nat.reduceAdd, Nat.reduceLT, Nat.reduceLeDiff, Nat.reduceEqDiff, not_true, not_false_iff, z1_0, z1_1, Bool.and_self, Bool.true_and, Bool.and_true, nI_add, pk_mul, nI_clamp, decide_true, Nat.le_refl, bI_eq, bI_z1, nI_ltI, nI_leI, k1, e1]
        exact hQ
    · rename_i h1
      refine go_at (blk := b_KneeStair_there_10) rfl ?_
      simp (disch := omega) only [b_KneeStair_there_10, be_2, be_54, List.getD_cons_zero, List.getD_cons_succ, List.set_cons_zero, List.set_cons_succ, List.length_cons, List.length_nil, pk_I, pk_A, pr_A, pi_I, st_s, st_n, if_true, if_false, eq_self, d_if, d_ju, d_re, d_ca, cat0, cat1, cat2, cat3, fr_z, fr_s, cc_I, cc_A, cc_N, Nat.reduceAdd, Nat.reduceLT, Nat.reduceLeDiff, Nat.reduceEqDiff, not_true, not_false_iff, z1_0, z1_1, Bool.and_self, Bool.true_and, Bool.and_true, nI_add, pk_mul, nI_clamp, decide_true, Nat.le_refl, bI_eq, bI_z1]
      unfold thA at hQ
      rw [if_neg (by rw [decide_eq_true (p := nI 99 < x) (Int32.not_le.mp h1)]; simp)] at hQ
      exact hQ
