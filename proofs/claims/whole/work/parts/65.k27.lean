/-! laid by wip/whole/k27.py: the class: hold, restore, forget -/
theorem st_sl {s : Nat} (h : s < 3) : ST (370 + 6 * s) := by
  unfold ST
  omega
theorem sl_of {x : Int32} (h0 : ¬ x < 0) (h1 : x < nI 3) : ∃ s, s < 3 ∧ x = nI s := by
  obtain ⟨j, hj, rfl⟩ := nI_of h0
  exact ⟨j, (nI_ltI hj (by omega)).mp h1, rfl⟩
set_option maxHeartbeats 1000000 in
theorem p_hold {d : Nat} {v : Nat → Nat → Int32} {w : Nat → Nat → Int64} {Q : Option Value → am_H → Prop} {T : TXT} {f : Nat → Int32} {B : Int} (hK : KI B v T f) {x : Int32} (q0 : (x < 0 ∨ nI 3 ≤ x) → Q (some (.int (nI 0))) (428, 26053, KD, RF, v, w)) (q1 : ∀ s v', s < 3 → x = nI s → (∀ c, c ≠ 369 → (c < 370 + 6 * s ∨ 370 + 6 * s + 5 < c) → v' c = v c) → v' 369 = upd (v 369) s (nI 1) → RX v' (370 + 6 * s) (tN T) (-1) 0 f → Q (some (.int (nI 1))) (428, 26053, KD, RF, v', w)) : am_Ca (d + 2) M_KneeStair_hold [.ref 0, .int x] (428, 26053, KD, RF, v, w) Q := by
  have h8 := hK.1.1
  have k1 := hK.1.2.1
  refine ca_in (k := k_KneeStair_hold) (nL := 2) rfl (Nat.le_of_ble_eq_true rfl) ?_
  show am_Go am_X0 _ k_KneeStair_hold 0 ([.ref 0, .int x], [], _) _
  refine go_at (blk := b_KneeStair_hold_0) rfl ?_
  simp (disch := omega) only [b_KneeStair_hold_0, be_4, be_50_2, List.getD_cons_zero, List.getD_cons_succ, List.set_cons_zero, List.set_cons_succ, List.length_cons, List.length_nil, pk_I, pk_A, pr_A, pi_I, st_s, st_n, if_true, if_false, eq_self, d_if, d_ju, d_re, d_ca, cat0, cat1, cat2, cat3, fr_z, fr_s, cc_I, cc_A, cc_N, Nat.reduceAdd, Nat.reduceLT, Nat.reduceLeDiff, Nat.reduceEqDiff, not_true, not_false_iff, z1_0, z1_1, Bool.and_self, Bool.true_and, Bool.and_true, nI_add, pk_mul, nI_clamp, decide_true, Nat.le_refl, bI_eq, bI_z1, rf_368, vb_1]
  split
  · rename_i h0
    refine go_at (blk := b_KneeStair_hold_9) rfl ?_
    simp (disch := omega) only [b_KneeStair_hold_9, be_1, be_73, List.getD_cons_zero, List.getD_cons_succ, List.set_cons_zero, List.set_cons_succ, List.length_cons, List.length_nil, pk_I, pk_A, pr_A, pi_I, st_s, st_n, if_true, if_false, eq_self, d_if, d_ju, d_re, d_ca, cat0, cat1, cat2, cat3, fr_z, fr_s, cc_I, cc_A, cc_N, Nat.reduceAdd, Nat.reduceLT, Nat.reduceLeDiff, Nat.reduceEqDiff, not_true, not_false_iff, z1_0, z1_1, Bool.and_self, Bool.true_and, Bool.and_true, nI_add, pk_mul, nI_clamp, decide_true, Nat.le_refl, bI_eq, bI_z1, rf_368, vb_1]
    exact q0 (Or.inl h0)
  · rename_i h0
    refine go_at (blk := b_KneeStair_hold_4) rfl ?_
    simp (disch := omega) only [b_KneeStair_hold_4, be_4, be_1, be_49_2, List.getD_cons_zero, List.getD_cons_succ, List.set_cons_zero, List.set_cons_succ, List.length_cons, List.length_nil, pk_I, pk_A, pr_A, pi_I, st_s, st_n, if_true, if_false, eq_self, d_if, d_ju, d_re, d_ca, cat0, cat1, cat2, cat3, fr_z, fr_s, cc_I, cc_A, cc_N, Nat.reduceAdd, Nat.reduceLT, Nat.reduceLeDiff, Nat.reduceEqDiff, not_true, not_false_iff, z1_0, z1_1, Bool.and_self, Bool.true_and, Bool.and_true, nI_add, pk_mul, nI_clamp, decide_true, Nat.le_refl, bI_eq, bI_z1, rf_368, vb_1]
    split
    · rename_i h1
      obtain ⟨s, hs3, rfl⟩ := sl_of h0 h1
      have hs := st_sl hs3
      refine go_at (blk := b_KneeStair_hold_11) rfl ?_
      simp (disch := omega) only [b_KneeStair_hold_11, be_6, be_34, be_4, be_42, be_57_1, kc_0, rf_0_9, ka_368, rf_0_5, List.getD_cons_zero, List.getD_cons_succ, List.set_cons_zero, List.set_cons_succ, List.length_cons, List.length_nil, pk_I, pk_A, pr_A, pi_I, st_s, st_n, if_true, if_false, eq_self, d_if, d_ju, d_re, d_ca, cat0, cat1, cat2, cat3, fr_z, fr_s, cc_I, cc_A, cc_N, Nat.reduceAdd, Nat.reduceLT, Nat.reduceLeDiff, Nat.reduceEqDiff, not_true, not_false_iff, z1_0, z1_1, Bool.and_self, Bool.true_and, Bool.and_true, nI_add, pk_mul, nI_clamp, decide_true, Nat.le_refl, bI_eq, bI_z1, rf_368, vb_1, kc_st hs]
      refine k_copyFrom hs st_42 (by omega) hK.1 hK.2.1 hK.2.2.1 ?_
      intro v1 c1 r1
      refine go_at (blk := b_KneeStair_hold_24) rfl ?_
      simp (disch := omega) only [b_KneeStair_hold_24, be_6, be_34, be_4, be_1, be_45, be_73, kc_0, rf_0_10, ka_369, List.getD_cons_zero, List.getD_cons_succ, List.set_cons_zero, List.set_cons_succ, List.length_cons, List.length_nil, pk_I, pk_A, pr_A, pi_I, st_s, st_n, if_true, if_false, eq_self, d_if, d_ju, d_re, d_ca, cat0, cat1, cat2, cat3, fr_z, fr_s, cc_I, cc_A, cc_N, Nat.reduceAdd, Nat.reduceLT, Nat.reduceLeDiff, Nat.reduceEqDiff, not_true, not_false_iff, z1_0, z1_1, Bool.and_self, Bool.true_and, Bool.and_true, nI_add, pk_mul, nI_clamp, decide_true, Nat.le_refl, bI_eq, bI_z1, rf_368, vb_1, kc_st hs]
      refine q1 s _ hs3 rfl ?_ ?_ (RX_w r1 (fun c _ _ => am_u_ne (by omega)))
      · intro c d1 d2
        rw [am_u_ne d1]
        exact c1 c (by omega)
      · rw [am_u_at, c1 369 (by omega)]
    · rename_i h1
      refine go_at (blk := b_KneeStair_hold_9) rfl ?_
      simp (disch := omega) only [b_KneeStair_hold_9, be_1, be_73, List.getD_cons_zero, List.getD_cons_succ, List.set_cons_zero, List.set_cons_succ, List.length_cons, List.length_nil, pk_I, pk_A, pr_A, pi_I, st_s, st_n, if_true, if_false, eq_self, d_if, d_ju, d_re, d_ca, cat0, cat1, cat2, cat3, fr_z, fr_s, cc_I, cc_A, cc_N, Nat.reduceAdd, Nat.reduceLT, Nat.reduceLeDiff, Nat.reduceEqDiff, not_true, not_false_iff, z1_0, z1_1, Bool.and_self, Bool.true_and, Bool.and_true, nI_add, pk_mul, nI_clamp, decide_true, Nat.le_refl, bI_eq, bI_z1, rf_368, vb_1]
      exact q0 (Or.inr (Int32.not_lt.mp h1))
set_option maxHeartbeats 1000000 in
theorem p_restore {d : Nat} {v : Nat → Nat → Int32} {w : Nat → Nat → Int64} {Q : Option Value → am_H → Prop} {T : TXT} {f : Nat → Int32} {B : Int} (hK : KI B v T f) {x : Int32} {gs : Nat → Nat → Int32} {C : Int} (hH : ∀ s, s < 3 → ¬ v 369 s = 0 → RX v (370 + 6 * s) (tN T) (-1) 0 (gs s) ∧ GR C (tN T) (gs s)) (q0 : (x < 0 ∨ nI 3 ≤ x) → Q (some (.int (nI 0))) (428, 26053, KD, RF, v, w)) (q1 : ∀ s, s < 3 → x = nI s → v 369 s = 0 → Q (some (.int (nI 0))) (428, 26053, KD, RF, v, w)) (q2 : ∀ s v', s < 3 → x = nI s → ¬ v 369 s = 0 → (∀ c, c ≠ 48 → (c < 42 ∨ 47 < c) → v' c = v c) → v' 48 = upd (v 48) 2 (nI 0) → RX v' 42 (tN T) (-1) 0 (gs s) → Q (some (.int (nI 1))) (428, 26053, KD, RF, v', w)) : am_Ca (d + 2) M_KneeStair_restore [.ref 0, .int x] (428, 26053, KD, RF, v, w) Q := by
  have h8 := hK.1.1
  have k1 := hK.1.2.1
  refine ca_in (k := k_KneeStair_restore) (nL := 2) rfl (Nat.le_of_ble_eq_true rfl) ?_
  show am_Go am_X0 _ k_KneeStair_restore 0 ([.ref 0, .int x], [], _) _
  refine go_at (blk := b_KneeStair_restore_0) rfl ?_
  simp (disch := omega) only [b_KneeStair_restore_0, be_4, be_50_2, List.getD_cons_zero, List.getD_cons_succ, List.set_cons_zero, List.set_cons_succ, List.length_cons, List.length_nil, pk_I, pk_A, pr_A, pi_I, st_s, st_n, if_true, if_false, eq_self, d_if, d_ju, d_re, d_ca, cat0, cat1, cat2, cat3, fr_z, fr_s, cc_I, cc_A, cc_N, Nat.reduceAdd, Nat.reduceLT, Nat.reduceLeDiff, Nat.reduceEqDiff, not_true, not_false_iff, z1_0, z1_1, Bool.and_self, Bool.true_and, Bool.and_true, nI_add, pk_mul, nI_clamp, decide_true, Nat.le_refl, bI_eq, bI_z1, rf_368]
  split
  · rename_i h0
    refine go_at (blk := b_KneeStair_restore_18) rfl ?_
    simp (disch := omega) only [b_KneeStair_restore_18, be_1, be_73, List.getD_cons_zero, List.getD_cons_succ, List.set_cons_zero, List.set_cons_succ, List.length_cons, List.length_nil, pk_I, pk_A, pr_A, pi_I, st_s, st_n, if_true, if_false, eq_self, d_if, d_ju, d_re, d_ca, cat0, cat1, cat2, cat3, fr_z, fr_s, cc_I, cc_A, cc_N, Nat.reduceAdd, Nat.reduceLT, Nat.reduceLeDiff, Nat.reduceEqDiff, not_true, not_false_iff, z1_0, z1_1, Bool.and_self, Bool.true_and, Bool.and_true, nI_add, pk_mul, nI_clamp, decide_true, Nat.le_refl, bI_eq, bI_z1, rf_368]
    exact q0 (Or.inl h0)
  · rename_i h0
    refine go_at (blk := b_KneeStair_restore_4) rfl ?_
    simp (disch := omega) only [b_KneeStair_restore_4, be_4, be_1, be_49_3, List.getD_cons_zero, List.getD_cons_succ, List.set_cons_zero, List.set_cons_succ, List.length_cons, List.length_nil, pk_I, pk_A, pr_A, pi_I, st_s, st_n, if_true, if_false, eq_self, d_if, d_ju, d_re, d_ca, cat0, cat1, cat2, cat3, fr_z, fr_s, cc_I, cc_A, cc_N, Nat.reduceAdd, Nat.reduceLT, Nat.reduceLeDiff, Nat.reduceEqDiff, not_true, not_false_iff, z1_0, z1_1, Bool.and_self, Bool.true_and, Bool.and_true, nI_add, pk_mul, nI_clamp, decide_true, Nat.le_refl, bI_eq, bI_z1, rf_368]
    split
    · rename_i h1
      refine go_at (blk := b_KneeStair_restore_18) rfl ?_
      simp (disch := omega) only [b_KneeStair_restore_18, be_1, be_73, List.getD_cons_zero, List.getD_cons_succ, List.set_cons_zero, List.set_cons_succ, List.length_cons, List.length_nil, pk_I, pk_A, pr_A, pi_I, st_s, st_n, if_true, if_false, eq_self, d_if, d_ju, d_re, d_ca, cat0, cat1, cat2, cat3, fr_z, fr_s, cc_I, cc_A, cc_N, Nat.reduceAdd, Nat.reduceLT, Nat.reduceLeDiff, Nat.reduceEqDiff, not_true, not_false_iff, z1_0, z1_1, Bool.and_self, Bool.true_and, Bool.and_true, nI_add, pk_mul, nI_clamp, decide_true, Nat.le_refl, bI_eq, bI_z1, rf_368]
      exact q0 (Or.inr h1)
    · rename_i h1
      obtain ⟨s, hs3, rfl⟩ := sl_of h0 (Int32.not_le.mp h1)
      have hs := st_sl hs3
      refine go_at (blk := b_KneeStair_restore_9) rfl ?_
      simp (disch := omega) only [b_KneeStair_restore_9, be_6, be_34, be_4, be_40, be_50_1, kc_0, rf_0_10, ka_369, List.getD_cons_zero, List.getD_cons_succ, List.set_cons_zero, List.set_cons_succ, List.length_cons, List.length_nil, pk_I, pk_A, pr_A, pi_I, st_s, st_n, if_true, if_false, eq_self, d_if, d_ju, d_re, d_ca, cat0, cat1, cat2, cat3, fr_z, fr_s, cc_I, cc_A, cc_N, Nat.reduceAdd, Nat.reduceLT, Nat.reduceLeDiff, Nat.reduceEqDiff, not_true, not_false_iff, z1_0, z1_1, Bool.and_self, Bool.true_and, Bool.and_true, nI_add, pk_mul, nI_clamp, decide_true, Nat.le_refl, bI_eq, bI_z1, rf_368, kc_st hs]
      split
      · rename_i h2
        obtain ⟨hr, hg⟩ := hH s hs3 h2
        refine go_at (blk := b_KneeStair_restore_20) rfl ?_
        simp (disch := omega) only [b_KneeStair_restore_20, be_6, be_34, be_4, be_42, be_57_1, kc_0, rf_0_5, rf_0_9, ka_368, kc_42, List.getD_cons_zero, List.getD_cons_succ, List.set_cons_zero, List.set_cons_succ, List.length_cons, List.length_nil, pk_I, pk_A, pr_A, pi_I, st_s, st_n, if_true, if_false, eq_self, d_if, d_ju, d_re, d_ca, cat0, cat1, cat2, cat3, fr_z, fr_s, cc_I, cc_A, cc_N, Nat.reduceAdd, Nat.reduceLT, Nat.reduceLeDiff, Nat.reduceEqDiff, not_true, not_false_iff, z1_0, z1_1, Bool.and_self, Bool.true_and, Bool.and_true, nI_add, pk_mul, nI_clamp, decide_true, Nat.le_refl, bI_eq, bI_z1, rf_368, kc_st hs]
        refine k_copyFrom st_42 hs (by omega) hK.1 hr hg ?_
        intro v1 c1 r1
        refine go_at (blk := b_KneeStair_restore_33) rfl ?_
        simp (disch := omega) only [b_KneeStair_restore_33, be_6, be_34, be_57_0, kc_0, rf_0_6, kc_48, List.getD_cons_zero, List.getD_cons_succ, List.set_cons_zero, List.set_cons_succ, List.length_cons, List.length_nil, pk_I, pk_A, pr_A, pi_I, st_s, st_n, if_true, if_false, eq_self, d_if, d_ju, d_re, d_ca, cat0, cat1, cat2, cat3, fr_z, fr_s, cc_I, cc_A, cc_N, Nat.reduceAdd, Nat.reduceLT, Nat.reduceLeDiff, Nat.reduceEqDiff, not_true, not_false_iff, z1_0, z1_1, Bool.and_self, Bool.true_and, Bool.and_true, nI_add, pk_mul, nI_clamp, decide_true, Nat.le_refl, bI_eq, bI_z1, rf_368, kc_st hs]
        refine k_pastClear ?_
        refine go_at (blk := b_KneeStair_restore_40) rfl ?_
        simp (disch := omega) only [b_KneeStair_restore_40, be_1, be_73, List.getD_cons_zero, List.getD_cons_succ, List.set_cons_zero, List.set_cons_succ, List.length_cons, List.length_nil, pk_I, pk_A, pr_A, pi_I, st_s, st_n, if_true, if_false, eq_self, d_if, d_ju, d_re, d_ca, cat0, cat1, cat2, cat3, fr_z, fr_s, cc_I, cc_A, cc_N, Nat.reduceAdd, Nat.reduceLT, Nat.reduceLeDiff, Nat.reduceEqDiff, not_true, not_false_iff, z1_0, z1_1, Bool.and_self, Bool.true_and, Bool.and_true, nI_add, pk_mul, nI_clamp, decide_true, Nat.le_refl, bI_eq, bI_z1, rf_368, kc_st hs]
        refine q2 s _ hs3 rfl h2 ?_ ?_ (RX_w r1 (fun c _ _ => am_u_ne (by omega)))
        · intro c d1 d2
          rw [am_u_ne d1]
          exact c1 c (by omega)
        · rw [am_u_at, c1 48 (by omega)]
      · rename_i h2
        refine go_at (blk := b_KneeStair_restore_18) rfl ?_
        simp (disch := omega) only [b_KneeStair_restore_18, be_1, be_73, List.getD_cons_zero, List.getD_cons_succ, List.set_cons_zero, List.set_cons_succ, List.length_cons, List.length_nil, pk_I, pk_A, pr_A, pi_I, st_s, st_n, if_true, if_false, eq_self, d_if, d_ju, d_re, d_ca, cat0, cat1, cat2, cat3, fr_z, fr_s, cc_I, cc_A, cc_N, Nat.reduceAdd, Nat.reduceLT, Nat.reduceLeDiff, Nat.reduceEqDiff, not_true, not_false_iff, z1_0, z1_1, Bool.and_self, Bool.true_and, Bool.and_true, nI_add, pk_mul, nI_clamp, decide_true, Nat.le_refl, bI_eq, bI_z1, rf_368, kc_st hs]
        exact q1 s hs3 rfl (Decidable.not_not.mp h2)
theorem p_forget {d : Nat} {v : Nat → Nat → Int32} {w : Nat → Nat → Int64} {Q : Option Value → am_H → Prop} (hQ : Q (some (.int (v 358 5))) (428, 26053, KD, RF, am_u v 358 5 (nI 0), w)) : am_Ca (d + 2) M_KneeStair_forget [.ref 0] (428, 26053, KD, RF, v, w) Q := by
  refine ca_in (k := k_KneeStair_forget) (nL := 2) rfl (Nat.le_of_ble_eq_true rfl) ?_
  show am_Go am_X0 _ k_KneeStair_forget 0 ([.ref 0, .null], [], _) _
  refine go_at (blk := b_KneeStair_forget_0) rfl ?_
  simp (disch := omega) only [b_KneeStair_forget_0, be_6, be_34, be_33, be_7, be_57_0, kc_0, rf_0_8, kc_358, List.getD_cons_zero, List.getD_cons_succ, List.set_cons_zero, List.set_cons_succ, List.length_cons, List.length_nil, pk_I, pk_A, pr_A, pi_I, st_s, st_n, if_true, if_false, eq_self, d_if, d_ju, d_re, d_ca, cat0, cat1, cat2, cat3, fr_z, fr_s, cc_I, cc_A, cc_N, Nat.reduceAdd, Nat.reduceLT, Nat.reduceLeDiff, Nat.reduceEqDiff, not_true, not_false_iff, z1_0, z1_1, Bool.and_self, Bool.true_and, Bool.and_true, nI_add, pk_mul, nI_clamp, decide_true, Nat.le_refl, bI_eq, bI_z1]
  refine k_witClear ?_
  refine go_at (blk := b_KneeStair_forget_15) rfl ?_
  simp (disch := omega) only [b_KneeStair_forget_15, be_4, be_54, List.getD_cons_zero, List.getD_cons_succ, List.set_cons_zero, List.set_cons_succ, List.length_cons, List.length_nil, pk_I, pk_A, pr_A, pi_I, st_s, st_n, if_true, if_false, eq_self, d_if, d_ju, d_re, d_ca, cat0, cat1, cat2, cat3, fr_z, fr_s, cc_I, cc_A, cc_N, Nat.reduceAdd, Nat.reduceLT, Nat.reduceLeDiff, Nat.reduceEqDiff, not_true, not_false_iff, z1_0, z1_1, Bool.and_self, Bool.true_and, Bool.and_true, nI_add, pk_mul, nI_clamp, decide_true, Nat.le_refl, bI_eq, bI_z1]
  exact hQ
theorem k_add0 {d : Nat} {v : Nat → Nat → Int32} {w : Nat → Nat → Int64} {Q : Option Value → am_H → Prop} {a b c : Int32} (w1 : v 358 5 = nI 20) (hQ : Q (some (.int (-1))) (428, 26053, KD, RF, v, w)) : am_Ca (d + 1) M_Witness_add [.ref 358, .int a, .int b, .int c] (428, 26053, KD, RF, v, w) Q := by
  have hfull : ¬ (20 : Nat) < 20 := by omega
  refine ca_in (k := k_Witness_add) (nL := 4) rfl (Nat.le_of_ble_eq_true rfl) ?_
  show am_Go am_X0 _ k_Witness_add 0 ([.ref 358, .int a, .int b, .int c], [], _) _
  refine go_at (blk := b_Witness_add_0) rfl ?_
  simp (disch := omega) only [b_Witness_add_0, be_6, be_33, be_1, be_49_2, kc_358, List.getD_cons_zero, List.getD_cons_succ, List.set_cons_zero, List.set_cons_succ, List.length_cons, List.length_nil, pk_I, pk_A, pr_A, pi_I, st_s, st_n, if_true, if_false, eq_self, d_if, d_ju, d_re, d_ca, cat0, cat1, cat2, cat3, fr_z, fr_s, cc_I, cc_A, cc_N, Nat.reduceAdd, Nat.reduceLT, Nat.reduceLeDiff, Nat.reduceEqDiff, not_true, not_false_iff, z1_0, z1_1, Bool.and_self, Bool.true_and, Bool.and_true, nI_add, pk_mul, nI_clamp, decide_true, Nat.le_refl, bI_eq, bI_z1, nI_ltI, nI_leI, w1, hfull]
  refine go_at (blk := b_Witness_add_9) rfl ?_
  simp (disch := omega) only [b_Witness_add_9, be_2, be_54, List.getD_cons_zero, List.getD_cons_succ, List.set_cons_zero, List.set_cons_succ, List.length_cons, List.length_nil, pk_I, pk_A, pr_A, pi_I, st_s, st_n, if_true, if_false, eq_self, d_if, d_ju, d_re, d_ca, cat0, cat1, cat2, cat3, fr_z, fr_s, cc_I, cc_A, cc_N, Nat.reduceAdd, Nat.reduceLT, Nat.reduceLeDiff, Nat.reduceEqDiff, not_true, not_false_iff, z1_0, z1_1, Bool.and_self, Bool.true_and, Bool.and_true, nI_add, pk_mul, nI_clamp, decide_true, Nat.le_refl, bI_eq, bI_z1, nI_ltI, nI_leI, w1, hfull]
  exact hQ
theorem k_add1 {d : Nat} {v : Nat → Nat → Int32} {w : Nat → Nat → Int64} {Q : Option Value → am_H → Prop} {a b c : Int32} {m : Nat} (w1 : v 358 5 = nI m) (hm : m < 20) (hQ : Q (some (.int (nI m))) (428, 26053, KD, RF, am_u (am_u (am_u (am_u v 359 m a) 360 m b) 361 m c) 358 5 (nI (m + 1)), w)) : am_Ca (d + 1) M_Witness_add [.ref 358, .int a, .int b, .int c] (428, 26053, KD, RF, v, w) Q := by
  refine ca_in (k := k_Witness_add) (nL := 4) rfl (Nat.le_of_ble_eq_true rfl) ?_
  show am_Go am_X0 _ k_Witness_add 0 ([.ref 358, .int a, .int b, .int c], [], _) _
  refine go_at (blk := b_Witness_add_0) rfl ?_
  simp (disch := omega) only [b_Witness_add_0, be_6, be_33, be_1, be_49_2, kc_358, List.getD_cons_zero, List.getD_cons_succ, List.set_cons_zero, List.set_cons_succ, List.length_cons, List.length_nil, pk_I, pk_A, pr_A, pi_I, st_s, st_n, if_true, if_false, eq_self, d_if, d_ju, d_re, d_ca, cat0, cat1, cat2, cat3, fr_z, fr_s, cc_I, cc_A, cc_N, Nat.reduceAdd, Nat.reduceLT, Nat.reduceLeDiff, Nat.reduceEqDiff, not_true, not_false_iff, z1_0, z1_1, Bool.and_self, Bool.true_and, Bool.and_true, nI_add, pk_mul, nI_clamp, decide_true, Nat.le_refl, bI_eq, bI_z1, nI_ltI, nI_leI, w1, hm, am_u_at, am_u_ne, upd_at, upd_ne, nI_s1]
  refine go_at (blk := b_Witness_add_11) rfl ?_
  simp (disch := omega) only [b_Witness_add_11, be_6, be_34, be_33, be_4, be_43, be_30I, be_30A, be_1, be_12, be_35, be_13, be_54, kc_358, rf_358_2, ka_359, rf_358_3, ka_360, rf_358_4, ka_361, List.getD_cons_zero, List.getD_cons_succ, List.set_cons_zero, List.set_cons_succ, List.length_cons, List.length_nil, pk_I, pk_A, pr_A, pi_I, st_s, st_n, if_true, if_false, eq_self, d_if, d_ju, d_re, d_ca, cat0, cat1, cat2, cat3, fr_z, fr_s, cc_I, cc_A, cc_N, Nat.reduceAdd, Nat.reduceLT, Nat.reduceLeDiff, Nat.reduceEqDiff, not_true, not_false_iff, z1_0, z1_1, Bool.and_self, Bool.true_and, Bool.and_true, nI_add, pk_mul, nI_clamp, decide_true, Nat.le_refl, bI_eq, bI_z1, nI_ltI, nI_leI, w1, hm, am_u_at, am_u_ne, upd_at, upd_ne, nI_s1]
  exact hQ
