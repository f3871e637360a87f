/-! laid by wip/whole/k2.py: the class: a stair: what it tells -/
theorem k_isOn {d : Nat} {v : Nat → Nat → Int32} {w : Nat → Nat → Int64} {Q : Option Value → am_H → Prop} {a : Nat} (ha : ST a) {p : Nat} (hp : p < 8) (hQ : Q (some (.int (bI (decide (v (a + 5) p = -2))))) (428, 26053, KD, RF, v, w)) : am_Ca (d + 1) M_Stair_isOn [.ref a, .int (nI p)] (428, 26053, KD, RF, v, w) Q := by
  refine ca_in (k := k_Stair_isOn) (nL := 2) rfl (Nat.le_of_ble_eq_true rfl) ?_
  show am_Go am_X0 _ k_Stair_isOn 0 ([.ref a, .int (nI p)], [], _) _
  refine go_at (blk := b_Stair_isOn_0) rfl ?_
  simp (disch := omega) only [b_Stair_isOn_0, be_6, be_34, be_4, be_38, be_2, be_49_1, kc_st ha, st_r5 ha, ka_st5 ha, List.getD_cons_zero, List.getD_cons_succ, List.set_cons_zero, List.set_cons_succ, List.length_cons, List.length_nil, pk_I, pk_A, pr_A, pi_I, st_s, st_n, if_true, if_false, eq_self, d_if, d_ju, d_re, d_ca, cat0, cat1, cat2, cat3, fr_z, fr_s, cc_I, cc_A, cc_N, Nat.reduceAdd, Nat.reduceLT, Nat.reduceLeDiff, Nat.reduceEqDiff, not_true, not_false_iff, z1_0, z1_1, Bool.and_self, Bool.true_and, Bool.and_true, nI_add, pk_mul, nI_clamp, decide_true, Nat.le_refl, bI_eq, bI_z1]
  split
  · rename_i hc
    refine go_at (blk := b_Stair_isOn_15) rfl ?_
    simp (disch := omega) only [b_Stair_isOn_15, be_1, be_0, List.getD_cons_zero, List.getD_cons_succ, List.set_cons_zero, List.set_cons_succ, List.length_cons, List.length_nil, pk_I, pk_A, pr_A, pi_I, st_s, st_n, if_true, if_false, eq_self, d_if, d_ju, d_re, d_ca, cat0, cat1, cat2, cat3, fr_z, fr_s, cc_I, cc_A, cc_N, Nat.reduceAdd, Nat.reduceLT, Nat.reduceLeDiff, Nat.reduceEqDiff, not_true, not_false_iff, z1_0, z1_1, Bool.and_self, Bool.true_and, Bool.and_true, nI_add, pk_mul, nI_clamp, decide_true, Nat.le_refl, bI_eq, bI_z1]
    refine go_at (blk := b_Stair_isOn_16) rfl ?_
    simp (disch := omega) only [b_Stair_isOn_16, be_73, List.getD_cons_zero, List.getD_cons_succ, List.set_cons_zero, List.set_cons_succ, List.length_cons, List.length_nil, pk_I, pk_A, pr_A, pi_I, st_s, st_n, if_true, if_false, eq_self, d_if, d_ju, d_re, d_ca, cat0, cat1, cat2, cat3, fr_z, fr_s, cc_I, cc_A, cc_N, Nat.reduceAdd, Nat.reduceLT, Nat.reduceLeDiff, Nat.reduceEqDiff, not_true, not_false_iff, z1_0, z1_1, Bool.and_self, Bool.true_and, Bool.and_true, nI_add, pk_mul, nI_clamp, decide_true, Nat.le_refl, bI_eq, bI_z1]
    rw [show decide (v (a + 5) p = -2) = false by simp [hc]] at hQ
    exact hQ
  · rename_i hc
    refine go_at (blk := b_Stair_isOn_11) rfl ?_
    simp (disch := omega) only [b_Stair_isOn_11, be_1, be_51, List.getD_cons_zero, List.getD_cons_succ, List.set_cons_zero, List.set_cons_succ, List.length_cons, List.length_nil, pk_I, pk_A, pr_A, pi_I, st_s, st_n, if_true, if_false, eq_self, d_if, d_ju, d_re, d_ca, cat0, cat1, cat2, cat3, fr_z, fr_s, cc_I, cc_A, cc_N, Nat.reduceAdd, Nat.reduceLT, Nat.reduceLeDiff, Nat.reduceEqDiff, not_true, not_false_iff, z1_0, z1_1, Bool.and_self, Bool.true_and, Bool.and_true, nI_add, pk_mul, nI_clamp, decide_true, Nat.le_refl, bI_eq, bI_z1]
    refine go_at (blk := b_Stair_isOn_16) rfl ?_
    simp (disch := omega) only [b_Stair_isOn_16, be_73, List.getD_cons_zero, List.getD_cons_succ, List.set_cons_zero, List.set_cons_succ, List.length_cons, List.length_nil, pk_I, pk_A, pr_A, pi_I, st_s, st_n, if_true, if_false, eq_self, d_if, d_ju, d_re, d_ca, cat0, cat1, cat2, cat3, fr_z, fr_s, cc_I, cc_A, cc_N, Nat.reduceAdd, Nat.reduceLT, Nat.reduceLeDiff, Nat.reduceEqDiff, not_true, not_false_iff, z1_0, z1_1, Bool.and_self, Bool.true_and, Bool.and_true, nI_add, pk_mul, nI_clamp, decide_true, Nat.le_refl, bI_eq, bI_z1]
    rw [show decide (v (a + 5) p = -2) = true by simp; exact Decidable.not_not.mp hc] at hQ
    exact hQ
theorem k_mayKneel {d : Nat} {v : Nat → Nat → Int32} {w : Nat → Nat → Int64} {Q : Option Value → am_H → Prop} {a : Nat} (ha : ST a) {p : Nat} (hp : p < 8) (hQ : Q (some (.int (bI (decide (v (a + 5) p = -2) && decide (v (a + 3) p < v 29 p))))) (428, 26053, KD, RF, v, w)) : am_Ca (d + 2) M_Stair_mayKneel [.ref a, .int (nI p)] (428, 26053, KD, RF, v, w) Q := by
  refine ca_in (k := k_Stair_mayKneel) (nL := 2) rfl (Nat.le_of_ble_eq_true rfl) ?_
  show am_Go am_X0 _ k_Stair_mayKneel 0 ([.ref a, .int (nI p)], [], _) _
  refine go_at (blk := b_Stair_mayKneel_0) rfl ?_
  simp (disch := omega) only [b_Stair_mayKneel_0, be_6, be_4, be_57_1, kc_st ha, List.getD_cons_zero, List.getD_cons_succ, List.set_cons_zero, List.set_cons_succ, List.length_cons, List.length_nil, pk_I, pk_A, pr_A, pi_I, st_s, st_n, if_true, if_false, eq_self, d_if, d_ju, d_re, d_ca, cat0, cat1, cat2, cat3, fr_z, fr_s, cc_I, cc_A, cc_N, Nat.reduceAdd, Nat.reduceLT, Nat.reduceLeDiff, Nat.reduceEqDiff, not_true, not_false_iff, z1_0, z1_1, Bool.and_self, Bool.true_and, Bool.and_true, nI_add, pk_mul, nI_clamp, decide_true, Nat.le_refl, bI_eq, bI_z1]
  refine k_isOn ha hp ?_
  refine go_at (blk := b_Stair_mayKneel_5) rfl ?_
  simp (disch := omega) only [b_Stair_mayKneel_5, be_50_0, List.getD_cons_zero, List.getD_cons_succ, List.set_cons_zero, List.set_cons_succ, List.length_cons, List.length_nil, pk_I, pk_A, pr_A, pi_I, st_s, st_n, if_true, if_false, eq_self, d_if, d_ju, d_re, d_ca, cat0, cat1, cat2, cat3, fr_z, fr_s, cc_I, cc_A, cc_N, Nat.reduceAdd, Nat.reduceLT, Nat.reduceLeDiff, Nat.reduceEqDiff, not_true, not_false_iff, z1_0, z1_1, Bool.and_self, Bool.true_and, Bool.and_true, nI_add, pk_mul, nI_clamp, decide_true, Nat.le_refl, bI_eq, bI_z1]
  split
  · rename_i hc
    refine go_at (blk := b_Stair_mayKneel_30) rfl ?_
    simp (disch := omega) only [b_Stair_mayKneel_30, be_1, be_0, List.getD_cons_zero, List.getD_cons_succ, List.set_cons_zero, List.set_cons_succ, List.length_cons, List.length_nil, pk_I, pk_A, pr_A, pi_I, st_s, st_n, if_true, if_false, eq_self, d_if, d_ju, d_re, d_ca, cat0, cat1, cat2, cat3, fr_z, fr_s, cc_I, cc_A, cc_N, Nat.reduceAdd, Nat.reduceLT, Nat.reduceLeDiff, Nat.reduceEqDiff, not_true, not_false_iff, z1_0, z1_1, Bool.and_self, Bool.true_and, Bool.and_true, nI_add, pk_mul, nI_clamp, decide_true, Nat.le_refl, bI_eq, bI_z1]
    refine go_at (blk := b_Stair_mayKneel_31) rfl ?_
    simp (disch := omega) only [b_Stair_mayKneel_31, be_73, List.getD_cons_zero, List.getD_cons_succ, List.set_cons_zero, List.set_cons_succ, List.length_cons, List.length_nil, pk_I, pk_A, pr_A, pi_I, st_s, st_n, if_true, if_false, eq_self, d_if, d_ju, d_re, d_ca, cat0, cat1, cat2, cat3, fr_z, fr_s, cc_I, cc_A, cc_N, Nat.reduceAdd, Nat.reduceLT, Nat.reduceLeDiff, Nat.reduceEqDiff, not_true, not_false_iff, z1_0, z1_1, Bool.and_self, Bool.true_and, Bool.and_true, nI_add, pk_mul, nI_clamp, decide_true, Nat.le_refl, bI_eq, bI_z1]
    rw [show (decide (v (a + 5) p = -2) && decide (v (a + 3) p < v 29 p)) = false by rw [hc]; rfl] at hQ
    exact hQ
  · rename_i hc
    have hc1 : decide (v (a + 5) p = -2) = true := by simpa using hc
    refine go_at (blk := b_Stair_mayKneel_8) rfl ?_
    simp (disch := omega) only [b_Stair_mayKneel_8, be_6, be_34, be_4, be_38, be_49_3, kc_st ha, st_r3 ha, ka_st3 ha, st_r0 ha, kc_25, rf_25_6, ka_29, List.getD_cons_zero, List.getD_cons_succ, List.set_cons_zero, List.set_cons_succ, List.length_cons, List.length_nil, pk_I, pk_A, pr_A, pi_I, st_s, st_n, if_true, if_false, eq_self, d_if, d_ju, d_re, d_ca, cat0, cat1, cat2, cat3, fr_z, fr_s, cc_I, cc_A, cc_N, Nat.reduceAdd, Nat.reduceLT, Nat.reduceLeDiff, Nat.reduceEqDiff, not_true, not_false_iff, z1_0, z1_1, Bool.and_self, Bool.true_and, Bool.and_true, nI_add, pk_mul, nI_clamp, decide_true, Nat.le_refl, bI_eq, bI_z1]
    split
    · rename_i hc2
      refine go_at (blk := b_Stair_mayKneel_30) rfl ?_
      simp (disch := omega) only [b_Stair_mayKneel_30, be_1, be_0, List.getD_cons_zero, List.getD_cons_succ, List.set_cons_zero, List.set_cons_succ, List.length_cons, List.length_nil, pk_I, pk_A, pr_A, pi_I, st_s, st_n, if_true, if_false, eq_self, d_if, d_ju, d_re, d_ca, cat0, cat1, cat2, cat3, fr_z, fr_s, cc_I, cc_A, cc_N, Nat.reduceAdd, Nat.reduceLT, Nat.reduceLeDiff, Nat.reduceEqDiff, not_true, not_false_iff, z1_0, z1_1, Bool.and_self, Bool.true_and, Bool.and_true, nI_add, pk_mul, nI_clamp, decide_true, Nat.le_refl, bI_eq, bI_z1]
      refine go_at (blk := b_Stair_mayKneel_31) rfl ?_
      simp (disch := omega) only [b_Stair_mayKneel_31, be_73, List.getD_cons_zero, List.getD_cons_succ, List.set_cons_zero, List.set_cons_succ, List.length_cons, List.length_nil, pk_I, pk_A, pr_A, pi_I, st_s, st_n, if_true, if_false, eq_self, d_if, d_ju, d_re, d_ca, cat0, cat1, cat2, cat3, fr_z, fr_s, cc_I, cc_A, cc_N, Nat.reduceAdd, Nat.reduceLT, Nat.reduceLeDiff, Nat.reduceEqDiff, not_true, not_false_iff, z1_0, z1_1, Bool.and_self, Bool.true_and, Bool.and_true, nI_add, pk_mul, nI_clamp, decide_true, Nat.le_refl, bI_eq, bI_z1]
      rw [show (decide (v (a + 5) p = -2) && decide (v (a + 3) p < v 29 p)) = false by simp [hc2]] at hQ
      exact hQ
    · rename_i hc2
      refine go_at (blk := b_Stair_mayKneel_26) rfl ?_
      simp (disch := omega) only [b_Stair_mayKneel_26, be_1, be_51, List.getD_cons_zero, List.getD_cons_succ, List.set_cons_zero, List.set_cons_succ, List.length_cons, List.length_nil, pk_I, pk_A, pr_A, pi_I, st_s, st_n, if_true, if_false, eq_self, d_if, d_ju, d_re, d_ca, cat0, cat1, cat2, cat3, fr_z, fr_s, cc_I, cc_A, cc_N, Nat.reduceAdd, Nat.reduceLT, Nat.reduceLeDiff, Nat.reduceEqDiff, not_true, not_false_iff, z1_0, z1_1, Bool.and_self, Bool.true_and, Bool.and_true, nI_add, pk_mul, nI_clamp, decide_true, Nat.le_refl, bI_eq, bI_z1]
      refine go_at (blk := b_Stair_mayKneel_31) rfl ?_
      simp (disch := omega) only [b_Stair_mayKneel_31, be_73, List.getD_cons_zero, List.getD_cons_succ, List.set_cons_zero, List.set_cons_succ, List.length_cons, List.length_nil, pk_I, pk_A, pr_A, pi_I, st_s, st_n, if_true, if_false, eq_self, d_if, d_ju, d_re, d_ca, cat0, cat1, cat2, cat3, fr_z, fr_s, cc_I, cc_A, cc_N, Nat.reduceAdd, Nat.reduceLT, Nat.reduceLeDiff, Nat.reduceEqDiff, not_true, not_false_iff, z1_0, z1_1, Bool.and_self, Bool.true_and, Bool.and_true, nI_add, pk_mul, nI_clamp, decide_true, Nat.le_refl, bI_eq, bI_z1]
      rw [show (decide (v (a + 5) p = -2) && decide (v (a + 3) p < v 29 p)) = true by rw [hc1]; simpa using hc2] at hQ
      exact hQ
theorem k_heldTo {d : Nat} {m y : Int32} {h : am_H} {Q : Option Value → am_H → Prop} (hQ : Q (some (.int (hdS m y))) h) : am_Ca (d + 1) M_Stair_heldTo [.int m, .int y] h Q := by
  refine ca_in (k := k_Stair_heldTo) (nL := 2) rfl (Nat.le_of_ble_eq_true rfl) ?_
  show am_Go am_X0 _ k_Stair_heldTo 0 ([.int m, .int y], [], _) _
  refine go_at (blk := b_Stair_heldTo_0) rfl ?_
  simp (disch := omega) only [b_Stair_heldTo_0, be_4, be_17, be_65, be_64, be_54, List.getD_cons_zero, List.getD_cons_succ, List.set_cons_zero, List.set_cons_succ, List.length_cons, List.length_nil, pk_I, pk_A, pr_A, pi_I, st_s, st_n, if_true, if_false, eq_self, d_if, d_ju, d_re, d_ca, cat0, cat1, cat2, cat3, fr_z, fr_s, cc_I, cc_A, cc_N, Nat.reduceAdd, Nat.reduceLT, Nat.reduceLeDiff, Nat.reduceEqDiff, not_true, not_false_iff, z1_0, z1_1, Bool.and_self, Bool.true_and, Bool.and_true, nI_add, pk_mul, nI_clamp, decide_true, Nat.le_refl, bI_eq, bI_z1]
  exact hQ
theorem u_sA {v : Nat → Nat → Int32} {c k : Nat} {t : Int32} : am_u v c k t = sA v c (upd (v c) k t) := by
  funext d
  unfold am_u sA
  split <;> rfl
theorem lw_le {q : Nat} (h : LW q) : q ≤ 37 := by rcases h with rfl | rfl | rfl | rfl <;> omega
theorem k_lookAround {d : Nat} {v : Nat → Nat → Int32} {w : Nat → Nat → Int64} {Q : Option Value → am_H → Prop} {a : Nat} (ha : ST a) {q : Nat} (hq : LW q) {T : TXT} {no md : Int32} {f : Nat → Int32} {B : Int} (hk : KX v T) (hr : RX v a (tN T) no md f) (hg : GR B (tN T) f) (hQ : Q none (428, 26053, KD, RF, sA v (q + 3) (upd (upd (upd (upd (upd (v (q + 3)) 0 (smI 0 (knG f no (tK T)) (tN T))) 1 (smI md (dbG f no (tD T)) (tN T))) 2 (f 40)) 3 (f 41)) 4 (nI (cnt (onB f no) (tN T)))), w)) : am_Ca (d + 2) M_Stair_lookAround [.ref a, .ref (q + 3)] (428, 26053, KD, RF, v, w) Q := by
  obtain ⟨hlo, hhi⟩ := st_lo ha
  obtain ⟨k0, k1, k2, k3, k4, _⟩ := hk
  obtain ⟨r0, r1, r2, r3, r4⟩ := hr
  have hql := lw_le hq
  refine ca_in (k := k_Stair_lookAround) (nL := 6) rfl (Nat.le_of_ble_eq_true rfl) ?_
  show am_Go am_X0 _ k_Stair_lookAround 0 ([.ref a, .ref (q + 3), .null, .null, .null, .null], [], _) _
  refine go_at (blk := b_Stair_lookAround_0) rfl ?_
  simp (disch := omega) only [b_Stair_lookAround_0, be_1, be_7, be_6, be_33, be_0, kc_st ha, List.getD_cons_zero, List.getD_cons_succ, List.set_cons_zero, List.set_cons_succ, List.length_cons, List.length_nil, pk_I, pk_A, pr_A, pi_I, st_s, st_n, if_true, if_false, eq_self, d_if, d_ju, d_re, d_ca, cat0, cat1, cat2, cat3, fr_z, fr_s, cc_I, cc_A, cc_N, Nat.reduceAdd, Nat.reduceLT, Nat.reduceLeDiff, Nat.reduceEqDiff, not_true, not_false_iff, z1_0, z1_1, Bool.and_self, Bool.true_and, Bool.and_true, nI_add, pk_mul, nI_clamp, decide_true, Nat.le_refl, bI_eq, bI_z1, r4]
  refine go_loop (fun i => ([.ref a, .ref (q + 3), .int (smI 0 (knG f no (tK T)) i), .int (smI md (dbG f no (tD T)) i), .int (nI (cnt (onB f no) i)), .int (nI i)], [], (428, 26053, KD, RF, v, w))) (tN T) ?_ ?_
  · intro i hi ih
    have hni : ¬ tN T ≤ i := by omega
    try dsimp only at ih ⊢
    refine go_at (blk := b_Stair_lookAround_13) rfl ?_
    simp (disch := omega) only [b_Stair_lookAround_13, be_4, be_6, be_34, be_33, be_49_3, kc_st ha, st_r0 ha, kc_25, List.getD_cons_zero, List.getD_cons_succ, List.set_cons_zero, List.set_cons_succ, List.length_cons, List.length_nil, pk_I, pk_A, pr_A, pi_I, st_s, st_n, if_true, if_false, eq_self, d_if, d_ju, d_re, d_ca, cat0, cat1, cat2, cat3, fr_z, fr_s, cc_I, cc_A, cc_N, Nat.reduceAdd, Nat.reduceLT, Nat.reduceLeDiff, Nat.reduceEqDiff, not_true, not_false_iff, z1_0, z1_1, Bool.and_self, Bool.true_and, Bool.and_true, nI_add, pk_mul, nI_clamp, decide_true, Nat.le_refl, bI_eq, bI_z1, k1, nI_leI, hni]
    refine go_at (blk := b_Stair_lookAround_25) rfl ?_
    simp (disch := omega) only [b_Stair_lookAround_25, be_6, be_4, be_57_1, kc_st ha, List.getD_cons_zero, List.getD_cons_succ, List.set_cons_zero, List.set_cons_succ, List.length_cons, List.length_nil, pk_I, pk_A, pr_A, pi_I, st_s, st_n, if_true, if_false, eq_self, d_if, d_ju, d_re, d_ca, cat0, cat1, cat2, cat3, fr_z, fr_s, cc_I, cc_A, cc_N, Nat.reduceAdd, Nat.reduceLT, Nat.reduceLeDiff, Nat.reduceEqDiff, not_true, not_false_iff, z1_0, z1_1, Bool.and_self, Bool.true_and, Bool.and_true, nI_add, pk_mul, nI_clamp, decide_true, Nat.le_refl, bI_eq, bI_z1, k1, nI_leI, hni]
    refine k_isOn ha (by omega) ?_
    rw [PX_on (r0 i hi) hg hi]
    refine go_at (blk := b_Stair_lookAround_31) rfl ?_
    simp (disch := omega) only [b_Stair_lookAround_31, be_50_0, List.getD_cons_zero, List.getD_cons_succ, List.set_cons_zero, List.set_cons_succ, List.length_cons, List.length_nil, pk_I, pk_A, pr_A, pi_I, st_s, st_n, if_true, if_false, eq_self, d_if, d_ju, d_re, d_ca, cat0, cat1, cat2, cat3, fr_z, fr_s, cc_I, cc_A, cc_N, Nat.reduceAdd, Nat.reduceLT, Nat.reduceLeDiff, Nat.reduceEqDiff, not_true, not_false_iff, z1_0, z1_1, Bool.and_self, Bool.true_and, Bool.and_true, nI_add, pk_mul, nI_clamp, decide_true, Nat.le_refl, bI_eq, bI_z1, k1, nI_leI, hni]
    split
    · rename_i hb
      refine go_at (blk := b_Stair_lookAround_91) rfl ?_
      simp (disch := omega) only [b_Stair_lookAround_91, be_10, be_51, List.getD_cons_zero, List.getD_cons_succ, List.set_cons_zero, List.set_cons_succ, List.length_cons, List.length_nil, pk_I, pk_A, pr_A, pi_I, st_s, st_n, if_true, if_false, eq_self, d_if, d_ju, d_re, d_ca, cat0, cat1, cat2, cat3, fr_z, fr_s, cc_I, cc_A, cc_N, Nat.reduceAdd, Nat.reduceLT, Nat.reduceLeDiff, Nat.reduceEqDiff, not_true, not_false_iff, z1_0, z1_1, Bool.and_self, Bool.true_and, Bool.and_true, nI_add, pk_mul, nI_clamp, decide_true, Nat.le_refl, bI_eq, bI_z1, k1, nI_leI, hni]
      rw [show smI 0 (knG f no (tK T)) (i + 1) = smI 0 (knG f no (tK T)) i by simp [smI, knG, hb], show smI md (dbG f no (tD T)) (i + 1) = smI md (dbG f no (tD T)) i by simp [smI, dbG, hb], show cnt (onB f no) (i + 1) = cnt (onB f no) i by simp [cnt, hb]] at ih
      exact ih
    · rename_i hb
      have hb : onB f no i = true := by simpa using hb
      obtain ⟨e1, e2, e3, e4, e5⟩ := (r0 i hi).1 (onB_no hb).1
      have f2 := (k4 i hi).2.1
      have f3 := (k4 i hi).2.2.1
      have hg8 := (hg.1 i hi).1
      have hcl := cnt_le (onB f no) i
      refine go_at (blk := b_Stair_lookAround_34) rfl ?_
      simp (disch := omega) only [b_Stair_lookAround_34, be_10, be_4, be_6, be_34, be_40, be_50_0, kc_st ha, st_r2 ha, ka_st2 ha, List.getD_cons_zero, List.getD_cons_succ, List.set_cons_zero, List.set_cons_succ, List.length_cons, List.length_nil, pk_I, pk_A, pr_A, pi_I, st_s, st_n, if_true, if_false, eq_self, d_if, d_ju, d_re, d_ca, cat0, cat1, cat2, cat3, fr_z, fr_s, cc_I, cc_A, cc_N, Nat.reduceAdd, Nat.reduceLT, Nat.reduceLeDiff, Nat.reduceEqDiff, not_true, not_false_iff, z1_0, z1_1, Bool.and_self, Bool.true_and, Bool.and_true, nI_add, pk_mul, nI_clamp, decide_true, Nat.le_refl, bI_eq, bI_z1, k1, nI_leI, hni, e2]
      split
      · rename_i h8
        
        refine go_at (blk := b_Stair_lookAround_61) rfl ?_
        simp (disch := omega) only [b_Stair_lookAround_61, be_1, be_0, List.getD_cons_zero, List.getD_cons_succ, List.set_cons_zero, List.set_cons_succ, List.length_cons, List.length_nil, pk_I, pk_A, pr_A, pi_I, st_s, st_n, if_true, if_false, eq_self, d_if, d_ju, d_re, d_ca, cat0, cat1, cat2, cat3, fr_z, fr_s, cc_I, cc_A, cc_N, Nat.reduceAdd, Nat.reduceLT, Nat.reduceLeDiff, Nat.reduceEqDiff, not_true, not_false_iff, z1_0, z1_1, Bool.and_self, Bool.true_and, Bool.and_true, nI_add, pk_mul, nI_clamp, decide_true, Nat.le_refl, bI_eq, bI_z1, k1, nI_leI, hni, h8, e2, f3]
        refine go_at (blk := b_Stair_lookAround_62) rfl ?_
        simp (disch := omega) only [b_Stair_lookAround_62, be_12, be_7, be_4, be_6, be_34, be_40, be_50_0, kc_st ha, st_r2 ha, ka_st2 ha, List.getD_cons_zero, List.getD_cons_succ, List.set_cons_zero, List.set_cons_succ, List.length_cons, List.length_nil, pk_I, pk_A, pr_A, pi_I, st_s, st_n, if_true, if_false, eq_self, d_if, d_ju, d_re, d_ca, cat0, cat1, cat2, cat3, fr_z, fr_s, cc_I, cc_A, cc_N, Nat.reduceAdd, Nat.reduceLT, Nat.reduceLeDiff, Nat.reduceEqDiff, not_true, not_false_iff, z1_0, z1_1, Bool.and_self, Bool.true_and, Bool.and_true, nI_add, pk_mul, nI_clamp, decide_true, Nat.le_refl, bI_eq, bI_z1, k1, nI_leI, hni, h8, e2, f3]
        refine go_at (blk := b_Stair_lookAround_79) rfl ?_
        simp (disch := omega) only [b_Stair_lookAround_79, be_6, be_34, be_4, be_38, be_0, kc_st ha, st_r0 ha, kc_25, rf_25_5, ka_28, List.getD_cons_zero, List.getD_cons_succ, List.set_cons_zero, List.set_cons_succ, List.length_cons, List.length_nil, pk_I, pk_A, pr_A, pi_I, st_s, st_n, if_true, if_false, eq_self, d_if, d_ju, d_re, d_ca, cat0, cat1, cat2, cat3, fr_z, fr_s, cc_I, cc_A, cc_N, Nat.reduceAdd, Nat.reduceLT, Nat.reduceLeDiff, Nat.reduceEqDiff, not_true, not_false_iff, z1_0, z1_1, Bool.and_self, Bool.true_and, Bool.and_true, nI_add, pk_mul, nI_clamp, decide_true, Nat.le_refl, bI_eq, bI_z1, k1, nI_leI, hni, h8, e2, f3]
        refine go_at (blk := b_Stair_lookAround_89) rfl ?_
        simp (disch := omega) only [b_Stair_lookAround_89, be_12, be_7, be_0, List.getD_cons_zero, List.getD_cons_succ, List.set_cons_zero, List.set_cons_succ, List.length_cons, List.length_nil, pk_I, pk_A, pr_A, pi_I, st_s, st_n, if_true, if_false, eq_self, d_if, d_ju, d_re, d_ca, cat0, cat1, cat2, cat3, fr_z, fr_s, cc_I, cc_A, cc_N, Nat.reduceAdd, Nat.reduceLT, Nat.reduceLeDiff, Nat.reduceEqDiff, not_true, not_false_iff, z1_0, z1_1, Bool.and_self, Bool.true_and, Bool.and_true, nI_add, pk_mul, nI_clamp, decide_true, Nat.le_refl, bI_eq, bI_z1, k1, nI_leI, hni, h8, e2, f3]
        refine go_at (blk := b_Stair_lookAround_91) rfl ?_
        simp (disch := omega) only [b_Stair_lookAround_91, be_10, be_51, List.getD_cons_zero, List.getD_cons_succ, List.set_cons_zero, List.set_cons_succ, List.length_cons, List.length_nil, pk_I, pk_A, pr_A, pi_I, st_s, st_n, if_true, if_false, eq_self, d_if, d_ju, d_re, d_ca, cat0, cat1, cat2, cat3, fr_z, fr_s, cc_I, cc_A, cc_N, Nat.reduceAdd, Nat.reduceLT, Nat.reduceLeDiff, Nat.reduceEqDiff, not_true, not_false_iff, z1_0, z1_1, Bool.and_self, Bool.true_and, Bool.and_true, nI_add, pk_mul, nI_clamp, decide_true, Nat.le_refl, bI_eq, bI_z1, k1, nI_leI, hni, h8, e2, f3]
        rw [show smI 0 (knG f no (tK T)) (i + 1) = smI 0 (knG f no (tK T)) i + nI 0 by simp [smI, knG, h8, nI_z], show smI md (dbG f no (tD T)) (i + 1) = smI md (dbG f no (tD T)) i + tD T i by simp [smI, dbG, h8, hb], show cnt (onB f no) (i + 1) = cnt (onB f no) i + 1 by simp [cnt, hb]] at ih
        exact ih
      · rename_i h8
        have h8n : f (8 + i) = 1 := hg8.resolve_left h8
        refine go_at (blk := b_Stair_lookAround_48) rfl ?_
        simp (disch := omega) only [b_Stair_lookAround_48, be_6, be_34, be_4, be_38, be_51, kc_st ha, st_r0 ha, kc_25, rf_25_4, ka_27, List.getD_cons_zero, List.getD_cons_succ, List.set_cons_zero, List.set_cons_succ, List.length_cons, List.length_nil, pk_I, pk_A, pr_A, pi_I, st_s, st_n, if_true, if_false, eq_self, d_if, d_ju, d_re, d_ca, cat0, cat1, cat2, cat3, fr_z, fr_s, cc_I, cc_A, cc_N, Nat.reduceAdd, Nat.reduceLT, Nat.reduceLeDiff, Nat.reduceEqDiff, not_true, not_false_iff, z1_0, z1_1, Bool.and_self, Bool.true_and, Bool.and_true, nI_add, pk_mul, nI_clamp, decide_true, Nat.le_refl, bI_eq, bI_z1, k1, nI_leI, hni, h8, e2, f2]
        refine go_at (blk := b_Stair_lookAround_62) rfl ?_
        simp (disch := omega) only [b_Stair_lookAround_62, be_12, be_7, be_4, be_6, be_34, be_40, be_50_0, kc_st ha, st_r2 ha, ka_st2 ha, List.getD_cons_zero, List.getD_cons_succ, List.set_cons_zero, List.set_cons_succ, List.length_cons, List.length_nil, pk_I, pk_A, pr_A, pi_I, st_s, st_n, if_true, if_false, eq_self, d_if, d_ju, d_re, d_ca, cat0, cat1, cat2, cat3, fr_z, fr_s, cc_I, cc_A, cc_N, Nat.reduceAdd, Nat.reduceLT, Nat.reduceLeDiff, Nat.reduceEqDiff, not_true, not_false_iff, z1_0, z1_1, Bool.and_self, Bool.true_and, Bool.and_true, nI_add, pk_mul, nI_clamp, decide_true, Nat.le_refl, bI_eq, bI_z1, k1, nI_leI, hni, h8, e2, f2]
        refine go_at (blk := b_Stair_lookAround_75) rfl ?_
        simp (disch := omega) only [b_Stair_lookAround_75, be_1, be_51, List.getD_cons_zero, List.getD_cons_succ, List.set_cons_zero, List.set_cons_succ, List.length_cons, List.length_nil, pk_I, pk_A, pr_A, pi_I, st_s, st_n, if_true, if_false, eq_self, d_if, d_ju, d_re, d_ca, cat0, cat1, cat2, cat3, fr_z, fr_s, cc_I, cc_A, cc_N, Nat.reduceAdd, Nat.reduceLT, Nat.reduceLeDiff, Nat.reduceEqDiff, not_true, not_false_iff, z1_0, z1_1, Bool.and_self, Bool.true_and, Bool.and_true, nI_add, pk_mul, nI_clamp, decide_true, Nat.le_refl, bI_eq, bI_z1, k1, nI_leI, hni, h8, e2, f2]
        refine go_at (blk := b_Stair_lookAround_89) rfl ?_
        simp (disch := omega) only [b_Stair_lookAround_89, be_12, be_7, be_0, List.getD_cons_zero, List.getD_cons_succ, List.set_cons_zero, List.set_cons_succ, List.length_cons, List.length_nil, pk_I, pk_A, pr_A, pi_I, st_s, st_n, if_true, if_false, eq_self, d_if, d_ju, d_re, d_ca, cat0, cat1, cat2, cat3, fr_z, fr_s, cc_I, cc_A, cc_N, Nat.reduceAdd, Nat.reduceLT, Nat.reduceLeDiff, Nat.reduceEqDiff, not_true, not_false_iff, z1_0, z1_1, Bool.and_self, Bool.true_and, Bool.and_true, nI_add, pk_mul, nI_clamp, decide_true, Nat.le_refl, bI_eq, bI_z1, k1, nI_leI, hni, h8, e2, f2]
        refine go_at (blk := b_Stair_lookAround_91) rfl ?_
        simp (disch := omega) only [b_Stair_lookAround_91, be_10, be_51, List.getD_cons_zero, List.getD_cons_succ, List.set_cons_zero, List.set_cons_succ, List.length_cons, List.length_nil, pk_I, pk_A, pr_A, pi_I, st_s, st_n, if_true, if_false, eq_self, d_if, d_ju, d_re, d_ca, cat0, cat1, cat2, cat3, fr_z, fr_s, cc_I, cc_A, cc_N, Nat.reduceAdd, Nat.reduceLT, Nat.reduceLeDiff, Nat.reduceEqDiff, not_true, not_false_iff, z1_0, z1_1, Bool.and_self, Bool.true_and, Bool.and_true, nI_add, pk_mul, nI_clamp, decide_true, Nat.le_refl, bI_eq, bI_z1, k1, nI_leI, hni, h8, e2, f2]
        rw [show smI 0 (knG f no (tK T)) (i + 1) = smI 0 (knG f no (tK T)) i + tK T i by simp [smI, knG, h8n, hb], show smI md (dbG f no (tD T)) (i + 1) = smI md (dbG f no (tD T)) i + nI 0 by simp [smI, dbG, h8n, nI_z], show cnt (onB f no) (i + 1) = cnt (onB f no) i + 1 by simp [cnt, hb]] at ih
        exact ih
  · try dsimp only
    refine go_at (blk := b_Stair_lookAround_13) rfl ?_
    simp (disch := omega) only [b_Stair_lookAround_13, be_4, be_6, be_34, be_33, be_49_3, kc_st ha, st_r0 ha, kc_25, List.getD_cons_zero, List.getD_cons_succ, List.set_cons_zero, List.set_cons_succ, List.length_cons, List.length_nil, pk_I, pk_A, pr_A, pi_I, st_s, st_n, if_true, if_false, eq_self, d_if, d_ju, d_re, d_ca, cat0, cat1, cat2, cat3, fr_z, fr_s, cc_I, cc_A, cc_N, Nat.reduceAdd, Nat.reduceLT, Nat.reduceLeDiff, Nat.reduceEqDiff, not_true, not_false_iff, z1_0, z1_1, Bool.and_self, Bool.true_and, Bool.and_true, nI_add, pk_mul, nI_clamp, decide_true, Nat.le_refl, bI_eq, bI_z1, k1, nI_leI, am_u_ne, r1, r2]
    refine go_at (blk := b_Stair_lookAround_97) rfl ?_
    simp (disch := omega) only [b_Stair_lookAround_97, be_6, be_1, be_4, be_43, be_33, be_56, ka_lw3 hq, kc_st ha, List.getD_cons_zero, List.getD_cons_succ, List.set_cons_zero, List.set_cons_succ, List.length_cons, List.length_nil, pk_I, pk_A, pr_A, pi_I, st_s, st_n, if_true, if_false, eq_self, d_if, d_ju, d_re, d_ca, cat0, cat1, cat2, cat3, fr_z, fr_s, cc_I, cc_A, cc_N, Nat.reduceAdd, Nat.reduceLT, Nat.reduceLeDiff, Nat.reduceEqDiff, not_true, not_false_iff, z1_0, z1_1, Bool.and_self, Bool.true_and, Bool.and_true, nI_add, pk_mul, nI_clamp, decide_true, Nat.le_refl, bI_eq, bI_z1, k1, nI_leI, am_u_ne, r1, r2]
    rw [u_sA (v := v), sA_u, sA_u, sA_u, sA_u]
    exact hQ
theorem vr_eq {x : Nat → Int32} {T : TXT} {no md : Int32} {f : Nat → Int32} {s t u : Int32} : ∀ k, k < 8 → (upd (upd (upd (upd (upd (upd (upd (upd x 0 (smI 0 (knG f no (tK T)) (tN T))) 1 (smI md (dbG f no (tD T)) (tN T))) 2 (f 40)) 3 (f 41)) 4 (nI (cnt (onB f no) (tN T)))) 5 s) 6 t) 7 u) k = vrT T no md f s t u k := by
  intro k hk
  unfold vrT vars
  rcases (show k = 0 ∨ k = 1 ∨ k = 2 ∨ k = 3 ∨ k = 4 ∨ k = 5 ∨ k = 6 ∨ k = 7 by omega) with rfl | rfl | rfl | rfl | rfl | rfl | rfl | rfl <;> simp [upd]
theorem ctS_sA {v : Nat → Nat → Int32} {q k c : Nat} {x y : Nat → Int32} (h1 : c ≠ q + 1) (h2 : c ≠ q + 2) : ctS (sA v c y) q k x = ctS v q k x := by
  unfold ctS
  rw [sA_ne (Ne.symm h1), sA_ne (Ne.symm h2)]
theorem k_movesNow {d : Nat} {v : Nat → Nat → Int32} {w : Nat → Nat → Int64} {Q : Option Value → am_H → Prop} {a : Nat} (ha : ST a) {T : TXT} {no md : Int32} {f : Nat → Int32} {B : Int} (hk : KX v T) (hr : RX v a (tN T) no md f) (hg : GR B (tN T) f) (hQ : ∀ v', (∀ c, c ≠ 35 → c ≠ 36 → v' c = v c) → Q (some (.int (mvT T no md f))) (428, 26053, KD, RF, v', w)) : am_Ca (d + 3) M_Stair_movesNow [.ref a] (428, 26053, KD, RF, v, w) Q := by
  obtain ⟨hlo, hhi⟩ := st_lo ha
  have hk0 := hk
  obtain ⟨k0, k1, k2, k3, k4, ⟨l, l1, l2, l3⟩, _⟩ := hk0
  refine ca_in (k := k_Stair_movesNow) (nL := 2) rfl (Nat.le_of_ble_eq_true rfl) ?_
  show am_Go am_X0 _ k_Stair_movesNow 0 ([.ref a, .null], [], _) _
  refine go_at (blk := b_Stair_movesNow_0) rfl ?_
  simp (disch := omega) only [b_Stair_movesNow_0, be_6, be_34, be_9, be_57_1, kc_st ha, st_r0 ha, kc_25, rf_25_9, kc_32, rf_32_3, List.getD_cons_zero, List.getD_cons_succ, List.set_cons_zero, List.set_cons_succ, List.length_cons, List.length_nil, pk_I, pk_A, pr_A, pi_I, st_s, st_n, if_true, if_false, eq_self, d_if, d_ju, d_re, d_ca, cat0, cat1, cat2, cat3, fr_z, fr_s, cc_I, cc_A, cc_N, Nat.reduceAdd, Nat.reduceLT, Nat.reduceLeDiff, Nat.reduceEqDiff, not_true, not_false_iff, z1_0, z1_1, Bool.and_self, Bool.true_and, Bool.and_true, nI_add, pk_mul, nI_clamp, decide_true, Nat.le_refl, bI_eq, bI_z1, sA_ne, sA_at, sA_u]
  refine k_lookAround ha (q := 32) (by unfold LW; omega) hk hr hg ?_
  refine go_at (blk := b_Stair_movesNow_16) rfl ?_
  simp (disch := omega) only [b_Stair_movesNow_16, be_6, be_1, be_43, be_34, be_57_0, ka_35, kc_st ha, st_r0 ha, kc_25, rf_25_9, kc_32, List.getD_cons_zero, List.getD_cons_succ, List.set_cons_zero, List.set_cons_succ, List.length_cons, List.length_nil, pk_I, pk_A, pr_A, pi_I, st_s, st_n, if_true, if_false, eq_self, d_if, d_ju, d_re, d_ca, cat0, cat1, cat2, cat3, fr_z, fr_s, cc_I, cc_A, cc_N, Nat.reduceAdd, Nat.reduceLT, Nat.reduceLeDiff, Nat.reduceEqDiff, not_true, not_false_iff, z1_0, z1_1, Bool.and_self, Bool.true_and, Bool.and_true, nI_add, pk_mul, nI_clamp, decide_true, Nat.le_refl, bI_eq, bI_z1, sA_ne, sA_at, sA_u]
  refine k_tellsNow (q := 32) (len := l) (by unfold LW; omega) (by rw [sA_ne (by decide)]; exact l1) (by rw [sA_ne (by decide), sA_ne (by decide)]; exact l2) ?_
  intro y1
  rw [ctS_sA (by decide) (by decide), sA_at]
  refine go_at (blk := b_Stair_movesNow_42) rfl ?_
  simp (disch := omega) only [b_Stair_movesNow_42, be_58_2, List.getD_cons_zero, List.getD_cons_succ, List.set_cons_zero, List.set_cons_succ, List.length_cons, List.length_nil, pk_I, pk_A, pr_A, pi_I, st_s, st_n, if_true, if_false, eq_self, d_if, d_ju, d_re, d_ca, cat0, cat1, cat2, cat3, fr_z, fr_s, cc_I, cc_A, cc_N, Nat.reduceAdd, Nat.reduceLT, Nat.reduceLeDiff, Nat.reduceEqDiff, not_true, not_false_iff, z1_0, z1_1, Bool.and_self, Bool.true_and, Bool.and_true, nI_add, pk_mul, nI_clamp, decide_true, Nat.le_refl, bI_eq, bI_z1, sA_ne, sA_at, sA_u]
  refine k_heldTo ?_
  rw [hd_9, show clS _ _ (ctS v 32 l _) = mvT T no md f by rw [show ctS v 32 l _ = ctS v 32 l (vrT T no md f 0 0 0) from ctE_cong (vr_eq (s := nI 0) (t := nI 0) (u := nI 0)) _ _ _, l3]; rfl]
  refine go_at (blk := b_Stair_movesNow_45) rfl ?_
  simp (disch := omega) only [b_Stair_movesNow_45, be_54, List.getD_cons_zero, List.getD_cons_succ, List.set_cons_zero, List.set_cons_succ, List.length_cons, List.length_nil, pk_I, pk_A, pr_A, pi_I, st_s, st_n, if_true, if_false, eq_self, d_if, d_ju, d_re, d_ca, cat0, cat1, cat2, cat3, fr_z, fr_s, cc_I, cc_A, cc_N, Nat.reduceAdd, Nat.reduceLT, Nat.reduceLeDiff, Nat.reduceEqDiff, not_true, not_false_iff, z1_0, z1_1, Bool.and_self, Bool.true_and, Bool.and_true, nI_add, pk_mul, nI_clamp, decide_true, Nat.le_refl, bI_eq, bI_z1, sA_ne, sA_at, sA_u]
  refine hQ _ ?_
  intro c h1 h2
  rw [sA_ne (by omega), sA_ne (by omega)]
theorem k_hasNow {d : Nat} {v : Nat → Nat → Int32} {w : Nat → Nat → Int64} {Q : Option Value → am_H → Prop} {a : Nat} (ha : ST a) {T : TXT} {no md : Int32} {f : Nat → Int32} {B : Int} (hk : KX v T) (hr : RX v a (tN T) no md f) (hg : GR B (tN T) f) {p : Nat} (hp : p < tN T) (hno : nI p ≠ no) (hQ : ∀ v', (∀ c, c ≠ 40 → c ≠ 41 → v' c = v c) → Q (some (.int (hsT T no md f p))) (428, 26053, KD, RF, v', w)) : am_Ca (d + 3) M_Stair_hasNow [.ref a, .int (nI p)] (428, 26053, KD, RF, v, w) Q := by
  obtain ⟨hlo, hhi⟩ := st_lo ha
  have hk0 := hk
  obtain ⟨k0, k1, k2, k3, k4, _, ⟨l, l1, l2, l3⟩⟩ := hk0
  obtain ⟨e1, e2, e3, e4, e5⟩ := (hr.1 p hp).1 hno
  refine ca_in (k := k_Stair_hasNow) (nL := 3) rfl (Nat.le_of_ble_eq_true rfl) ?_
  show am_Go am_X0 _ k_Stair_hasNow 0 ([.ref a, .int (nI p), .null], [], _) _
  refine go_at (blk := b_Stair_hasNow_0) rfl ?_
  simp (disch := omega) only [b_Stair_hasNow_0, be_6, be_34, be_9, be_57_1, kc_st ha, st_r0 ha, kc_25, rf_25_10, kc_37, rf_37_3, List.getD_cons_zero, List.getD_cons_succ, List.set_cons_zero, List.set_cons_succ, List.length_cons, List.length_nil, pk_I, pk_A, pr_A, pi_I, st_s, st_n, if_true, if_false, eq_self, d_if, d_ju, d_re, d_ca, cat0, cat1, cat2, cat3, fr_z, fr_s, cc_I, cc_A, cc_N, Nat.reduceAdd, Nat.reduceLT, Nat.reduceLeDiff, Nat.reduceEqDiff, not_true, not_false_iff, z1_0, z1_1, Bool.and_self, Bool.true_and, Bool.and_true, nI_add, pk_mul, nI_clamp, decide_true, Nat.le_refl, bI_eq, bI_z1, sA_ne, sA_at, sA_u, e1, e3, e4]
  refine k_lookAround ha (q := 37) (by unfold LW; omega) hk hr hg ?_
  refine go_at (blk := b_Stair_hasNow_16) rfl ?_
  simp (disch := omega) only [b_Stair_hasNow_16, be_6, be_1, be_34, be_4, be_38, be_43, be_57_0, kc_st ha, st_r1 ha, ka_st1 ha, ka_40, st_r3 ha, ka_st3 ha, st_r4 ha, ka_st4 ha, st_r0 ha, kc_25, rf_25_10, kc_37, List.getD_cons_zero, List.getD_cons_succ, List.set_cons_zero, List.set_cons_succ, List.length_cons, List.length_nil, pk_I, pk_A, pr_A, pi_I, st_s, st_n, if_true, if_false, eq_self, d_if, d_ju, d_re, d_ca, cat0, cat1, cat2, cat3, fr_z, fr_s, cc_I, cc_A, cc_N, Nat.reduceAdd, Nat.reduceLT, Nat.reduceLeDiff, Nat.reduceEqDiff, not_true, not_false_iff, z1_0, z1_1, Bool.and_self, Bool.true_and, Bool.and_true, nI_add, pk_mul, nI_clamp, decide_true, Nat.le_refl, bI_eq, bI_z1, sA_ne, sA_at, sA_u, e1, e3, e4]
  refine k_tellsNow (q := 37) (len := l) (by unfold LW; omega) (by rw [sA_ne (by decide)]; exact l1) (by rw [sA_ne (by decide), sA_ne (by decide)]; exact l2) ?_
  intro y1
  rw [ctS_sA (by decide) (by decide), sA_at]
  refine go_at (blk := b_Stair_hasNow_58) rfl ?_
  simp (disch := omega) only [b_Stair_hasNow_58, be_58_2, List.getD_cons_zero, List.getD_cons_succ, List.set_cons_zero, List.set_cons_succ, List.length_cons, List.length_nil, pk_I, pk_A, pr_A, pi_I, st_s, st_n, if_true, if_false, eq_self, d_if, d_ju, d_re, d_ca, cat0, cat1, cat2, cat3, fr_z, fr_s, cc_I, cc_A, cc_N, Nat.reduceAdd, Nat.reduceLT, Nat.reduceLeDiff, Nat.reduceEqDiff, not_true, not_false_iff, z1_0, z1_1, Bool.and_self, Bool.true_and, Bool.and_true, nI_add, pk_mul, nI_clamp, decide_true, Nat.le_refl, bI_eq, bI_z1, sA_ne, sA_at, sA_u, e1, e3, e4]
  refine k_heldTo ?_
  rw [hd_9999, show clS _ _ (ctS v 37 l _) = hsT T no md f p by rw [show ctS v 37 l _ = ctS v 37 l (vrT T no md f (f p) (f (16 + p)) (f (24 + p))) from ctE_cong (vr_eq (s := (f p)) (t := (f (16 + p))) (u := (f (24 + p)))) _ _ _, l3]; rfl]
  refine go_at (blk := b_Stair_hasNow_61) rfl ?_
  simp (disch := omega) only [b_Stair_hasNow_61, be_54, List.getD_cons_zero, List.getD_cons_succ, List.set_cons_zero, List.set_cons_succ, List.length_cons, List.length_nil, pk_I, pk_A, pr_A, pi_I, st_s, st_n, if_true, if_false, eq_self, d_if, d_ju, d_re, d_ca, cat0, cat1, cat2, cat3, fr_z, fr_s, cc_I, cc_A, cc_N, Nat.reduceAdd, Nat.reduceLT, Nat.reduceLeDiff, Nat.reduceEqDiff, not_true, not_false_iff, z1_0, z1_1, Bool.and_self, Bool.true_and, Bool.and_true, nI_add, pk_mul, nI_clamp, decide_true, Nat.le_refl, bI_eq, bI_z1, sA_ne, sA_at, sA_u, e1, e3, e4]
  refine hQ _ ?_
  intro c h1 h2
  rw [sA_ne (by omega), sA_ne (by omega)]
