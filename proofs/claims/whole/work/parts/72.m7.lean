/-! laid by wip/whole/m7.py: the reference: copies, goes, isPilgrim -/
/-- the first i places of one row put over another -/
def cpR (a b : Nat → Int32) (i j : Nat) : Int32 := if j < i then a j else b j
theorem cp_0 {a b : Nat → Int32} : cpR a b 0 = b := by
  funext j
  exact if_neg (by omega)
theorem cp_s {a b : Nat → Int32} {i : Nat} : upd (cpR a b i) i (a i) = cpR a b (i + 1) := by
  funext j
  unfold upd cpR
  by_cases h : j = i
  · rw [if_pos h, if_pos (by omega), h]
  · rw [if_neg h]
    by_cases h2 : j < i
    · rw [if_pos h2, if_pos (by omega)]
    · rw [if_neg h2, if_neg (by omega)]
theorem cp_e {a b : Nat → Int32} {n : Nat} (h : ∀ j, n ≤ j → b j = a j) : cpR a b n = a := by
  funext j
  unfold cpR
  split
  · rfl
  · exact h j (by omega)
theorem r_plainly {d : Nat} {v : Nat → Nat → Int32} {w : Nat → Nat → Int64} {Q : Option Value → am_H → Prop} (hQ : Q none (428, 26053, KD, RF, am_u (am_u v 388 49 (-1)) 388 50 (nI 0), w)) : am_Ca (d + 1) M_Model_plainly [.ref 388] (428, 26053, KD, RF, v, w) Q := by
  refine ca_in (k := k_Model_plainly) (nL := 1) rfl (Nat.le_of_ble_eq_true rfl) ?_
  show am_Go am_X0 _ k_Model_plainly 0 ([.ref 388], [], _) _
  refine go_at (blk := b_Model_plainly_0) rfl ?_
  simp (disch := omega) only [b_Model_plainly_0, be_6, be_2, be_35, be_1, be_56, kc_388, List.getD_cons_zero, List.getD_cons_succ, List.set_cons_zero, List.set_cons_succ, List.length_cons, List.length_nil, pk_I, pk_A, pr_A, pi_I, st_s, st_n, if_true, if_false, eq_self, d_if, d_ju, d_re, d_ca, cat0, cat1, cat2, cat3, fr_z, fr_s, cc_I, cc_A, cc_N, Nat.reduceAdd, Nat.reduceLT, Nat.reduceLeDiff, Nat.reduceEqDiff, not_true, not_false_iff, z1_0, z1_1, Bool.and_self, Bool.true_and, Bool.and_true, nI_add, pk_mul, nI_clamp, decide_true, Nat.le_refl, bI_eq, bI_z1]
  exact hQ
theorem r_copies {d : Nat} {v : Nat → Nat → Int32} {w : Nat → Nat → Int64} {Q : Option Value → am_H → Prop} (hz : ∀ j, 50 ≤ j → v 419 j = v 418 j) (hQ : ∀ v', MF v v' → MR v' (v 418) (-1) 0 → Q none (428, 26053, KD, RF, v', w)) : am_Ca (d + 2) M_Model_copies [.ref 388] (428, 26053, KD, RF, v, w) Q := by
  refine ca_in (k := k_Model_copies) (nL := 2) rfl (Nat.le_of_ble_eq_true rfl) ?_
  show am_Go am_X0 _ k_Model_copies 0 ([.ref 388, .null], [], _) _
  refine go_at (blk := b_Model_copies_0) rfl ?_
  simp (disch := omega) only [b_Model_copies_0, be_1, be_7, be_0, List.getD_cons_zero, List.getD_cons_succ, List.set_cons_zero, List.set_cons_succ, List.length_cons, List.length_nil, pk_I, pk_A, pr_A, pi_I, st_s, st_n, if_true, if_false, eq_self, d_if, d_ju, d_re, d_ca, cat0, cat1, cat2, cat3, fr_z, fr_s, cc_I, cc_A, cc_N, Nat.reduceAdd, Nat.reduceLT, Nat.reduceLeDiff, Nat.reduceEqDiff, not_true, not_false_iff, z1_0, z1_1, Bool.and_self, Bool.true_and, Bool.and_true, nI_add, pk_mul, nI_clamp, decide_true, Nat.le_refl, bI_eq, bI_z1]
  have e0 : sA v 419 (cpR (v 418) (v 419) 0) = v := by rw [cp_0, sA_self]
  have hh : am_Go am_X0 (d + 1) k_Model_copies 2 ([.ref 388, .int (nI 0)], [], (428, 26053, KD, RF, sA v 419 (cpR (v 418) (v 419) 0), w)) Q := by
    refine go_loop (fun i => ([.ref 388, .int (nI i)], [], (428, 26053, KD, RF, sA v 419 (cpR (v 418) (v 419) i), w))) 50 ?_ ?_
    · intro i hi ih
      have hni : ¬ 50 ≤ i := by omega
      try dsimp only at ih ⊢
      refine go_at (blk := b_Model_copies_2) rfl ?_
      simp (disch := omega) only [b_Model_copies_2, be_4, be_1, be_49_3, List.getD_cons_zero, List.getD_cons_succ, List.set_cons_zero, List.set_cons_succ, List.length_cons, List.length_nil, pk_I, pk_A, pr_A, pi_I, st_s, st_n, if_true, if_false, eq_self, d_if, d_ju, d_re, d_ca, cat0, cat1, cat2, cat3, fr_z, fr_s, cc_I, cc_A, cc_N, Nat.reduceAdd, Nat.reduceLT, Nat.reduceLeDiff, Nat.reduceEqDiff, not_true, not_false_iff, z1_0, z1_1, Bool.and_self, Bool.true_and, Bool.and_true, nI_add, pk_mul, nI_clamp, decide_true, Nat.le_refl, bI_eq, bI_z1, nI_ltI, nI_leI, hni, sA_ne, sA_at, sA_u, cp_s]
      refine go_at (blk := b_Model_copies_8) rfl ?_
      simp (disch := omega) only [b_Model_copies_8, be_6, be_34, be_4, be_38, be_43, be_10, be_51, kc_388, rf_388_48, rf_388_47, ka_418, ka_419, List.getD_cons_zero, List.getD_cons_succ, List.set_cons_zero, List.set_cons_succ, List.length_cons, List.length_nil, pk_I, pk_A, pr_A, pi_I, st_s, st_n, if_true, if_false, eq_self, d_if, d_ju, d_re, d_ca, cat0, cat1, cat2, cat3, fr_z, fr_s, cc_I, cc_A, cc_N, Nat.reduceAdd, Nat.reduceLT, Nat.reduceLeDiff, Nat.reduceEqDiff, not_true, not_false_iff, z1_0, z1_1, Bool.and_self, Bool.true_and, Bool.and_true, nI_add, pk_mul, nI_clamp, decide_true, Nat.le_refl, bI_eq, bI_z1, nI_ltI, nI_leI, hni, sA_ne, sA_at, sA_u, cp_s]
      exact ih
    · try dsimp only
      refine go_at (blk := b_Model_copies_2) rfl ?_
      simp (disch := omega) only [b_Model_copies_2, be_4, be_1, be_49_3, List.getD_cons_zero, List.getD_cons_succ, List.set_cons_zero, List.set_cons_succ, List.length_cons, List.length_nil, pk_I, pk_A, pr_A, pi_I, st_s, st_n, if_true, if_false, eq_self, d_if, d_ju, d_re, d_ca, cat0, cat1, cat2, cat3, fr_z, fr_s, cc_I, cc_A, cc_N, Nat.reduceAdd, Nat.reduceLT, Nat.reduceLeDiff, Nat.reduceEqDiff, not_true, not_false_iff, z1_0, z1_1, Bool.and_self, Bool.true_and, Bool.and_true, nI_add, pk_mul, nI_clamp, decide_true, Nat.le_refl, bI_eq, bI_z1, nI_ltI, nI_leI]
      refine go_at (blk := b_Model_copies_26) rfl ?_
      simp (disch := omega) only [b_Model_copies_26, be_6, be_57_0, kc_388, List.getD_cons_zero, List.getD_cons_succ, List.set_cons_zero, List.set_cons_succ, List.length_cons, List.length_nil, pk_I, pk_A, pr_A, pi_I, st_s, st_n, if_true, if_false, eq_self, d_if, d_ju, d_re, d_ca, cat0, cat1, cat2, cat3, fr_z, fr_s, cc_I, cc_A, cc_N, Nat.reduceAdd, Nat.reduceLT, Nat.reduceLeDiff, Nat.reduceEqDiff, not_true, not_false_iff, z1_0, z1_1, Bool.and_self, Bool.true_and, Bool.and_true, nI_add, pk_mul, nI_clamp, decide_true, Nat.le_refl, bI_eq, bI_z1, nI_ltI, nI_leI]
      refine r_plainly ?_
      refine go_at (blk := b_Model_copies_30) rfl ?_
      simp (disch := omega) only [b_Model_copies_30, be_56, List.getD_cons_zero, List.getD_cons_succ, List.set_cons_zero, List.set_cons_succ, List.length_cons, List.length_nil, pk_I, pk_A, pr_A, pi_I, st_s, st_n, if_true, if_false, eq_self, d_if, d_ju, d_re, d_ca, cat0, cat1, cat2, cat3, fr_z, fr_s, cc_I, cc_A, cc_N, Nat.reduceAdd, Nat.reduceLT, Nat.reduceLeDiff, Nat.reduceEqDiff, not_true, not_false_iff, z1_0, z1_1, Bool.and_self, Bool.true_and, Bool.and_true, nI_add, pk_mul, nI_clamp, decide_true, Nat.le_refl, bI_eq, bI_z1, nI_ltI, nI_leI]
      refine hQ _ ⟨?_, ?_, ?_⟩ ⟨?_, ?_, ?_⟩
      · intro c c1 c2 c3 c4
        rw [am_u_ne c4, am_u_ne c4, sA_ne c3]
      · intro k a1 a2 a3
        rw [am_u_at, upd_ne a3, am_u_at, upd_ne a2, sA_ne (by omega)]
      · intro j hj
        rw [am_u_ne (by omega), am_u_ne (by omega), sA_at, cp_e hz, hz j hj]
      · rw [am_u_ne (by omega), am_u_ne (by omega), sA_at, cp_e hz]
      · rw [am_u_at, upd_ne (by omega), am_u_at, upd_at]
      · rw [am_u_at, upd_at]
        rfl
  rw [e0] at hh
  exact hh
