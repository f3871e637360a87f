/-! laid by wip/whole/k26.py: the class: run, undo, place, back -/
theorem le_0 {x : Int32} (h : ¬ x < 0) (h2 : x ≤ 0) : x = 0 := by
  rw [Int32.lt_iff_toInt_lt, show (0 : Int32).toInt = 0 from rfl] at h
  rw [Int32.le_iff_toInt_le, show (0 : Int32).toInt = 0 from rfl] at h2
  apply Int32.toInt_inj.mp
  rw [show (0 : Int32).toInt = 0 from rfl]
  omega
set_option maxHeartbeats 1000000 in
theorem p_run {d : Nat} {v : Nat → Nat → Int32} {w : Nat → Nat → Int64} {Q : Option Value → am_H → Prop} {T : TXT} {f : Nat → Int32} {B : Int} (hK : KI B v T f) {nx sz : Nat} {h : Nat → Nat → Int32} (hP : PI v (tN T) nx sz h) {x : Int32} (q0 : (x < 0 ∨ nI 300 < x) → Q (some (.int (-1))) (428, 26053, KD, RF, v, w)) (q1 : x = 0 → Q (some (.int (f 41))) (428, 26053, KD, RF, v, w)) (q2 : ∀ k v', 1 ≤ k → k ≤ 300 → x = nI k → FM v v' → RX v' 42 (tN T) (-1) 0 (itT T (-1) 0 k f) → PI v' (tN T) ((nx + 1) % 50) (if sz < 50 then sz + 1 else 50) (coH f h) → Q (some (.int (itT T (-1) 0 k f 41))) (428, 26053, KD, RF, v', w)) : am_Ca (d + 5) M_KneeStair_run [.ref 0, .int x] (428, 26053, KD, RF, v, w) Q := by
  have h8 := hK.1.1
  have k1 := hK.1.2.1
  have a7 : v 42 7 = f 41 := hK.2.1.2.2.1
  have hBB := hK.2.2.2.2.2
  refine ca_in (k := k_KneeStair_run) (nL := 2) rfl (Nat.le_of_ble_eq_true rfl) ?_
  show am_Go am_X0 _ k_KneeStair_run 0 ([.ref 0, .int x], [], _) _
  refine go_at (blk := b_KneeStair_run_0) rfl ?_
  simp (disch := omega) only [b_KneeStair_run_0, be_4, be_50_2, List.getD_cons_zero, List.getD_cons_succ, List.set_cons_zero, List.set_cons_succ, List.length_cons, List.length_nil, pk_I, pk_A, pr_A, pi_I, st_s, st_n, if_true, if_false, eq_self, d_if, d_ju, d_re, d_ca, cat0, cat1, cat2, cat3, fr_z, fr_s, cc_I, cc_A, cc_N, Nat.reduceAdd, Nat.reduceLT, Nat.reduceLeDiff, Nat.reduceEqDiff, not_true, not_false_iff, z1_0, z1_1, Bool.and_self, Bool.true_and, Bool.and_true, nI_add, pk_mul, nI_clamp, decide_true, Nat.le_refl, bI_eq, bI_z1, a7]
  split
  · rename_i h0
    refine go_at (blk := b_KneeStair_run_11) rfl ?_
    simp (disch := omega) only [b_KneeStair_run_11, be_2, be_54, List.getD_cons_zero, List.getD_cons_succ, List.set_cons_zero, List.set_cons_succ, List.length_cons, List.length_nil, pk_I, pk_A, pr_A, pi_I, st_s, st_n, if_true, if_false, eq_self, d_if, d_ju, d_re, d_ca, cat0, cat1, cat2, cat3, fr_z, fr_s, cc_I, cc_A, cc_N, Nat.reduceAdd, Nat.reduceLT, Nat.reduceLeDiff, Nat.reduceEqDiff, not_true, not_false_iff, z1_0, z1_1, Bool.and_self, Bool.true_and, Bool.and_true, nI_add, pk_mul, nI_clamp, decide_true, Nat.le_refl, bI_eq, bI_z1, a7]
    exact q0 (Or.inl h0)
  · rename_i h0
    refine go_at (blk := b_KneeStair_run_4) rfl ?_
    simp (disch := omega) only [b_KneeStair_run_4, be_4, be_1, be_49_5, List.getD_cons_zero, List.getD_cons_succ, List.set_cons_zero, List.set_cons_succ, List.length_cons, List.length_nil, pk_I, pk_A, pr_A, pi_I, st_s, st_n, if_true, if_false, eq_self, d_if, d_ju, d_re, d_ca, cat0, cat1, cat2, cat3, fr_z, fr_s, cc_I, cc_A, cc_N, Nat.reduceAdd, Nat.reduceLT, Nat.reduceLeDiff, Nat.reduceEqDiff, not_true, not_false_iff, z1_0, z1_1, Bool.and_self, Bool.true_and, Bool.and_true, nI_add, pk_mul, nI_clamp, decide_true, Nat.le_refl, bI_eq, bI_z1, a7]
    split
    · rename_i h1
      refine go_at (blk := b_KneeStair_run_13) rfl ?_
      simp (disch := omega) only [b_KneeStair_run_13, be_4, be_50_5, List.getD_cons_zero, List.getD_cons_succ, List.set_cons_zero, List.set_cons_succ, List.length_cons, List.length_nil, pk_I, pk_A, pr_A, pi_I, st_s, st_n, if_true, if_false, eq_self, d_if, d_ju, d_re, d_ca, cat0, cat1, cat2, cat3, fr_z, fr_s, cc_I, cc_A, cc_N, Nat.reduceAdd, Nat.reduceLT, Nat.reduceLeDiff, Nat.reduceEqDiff, not_true, not_false_iff, z1_0, z1_1, Bool.and_self, Bool.true_and, Bool.and_true, nI_add, pk_mul, nI_clamp, decide_true, Nat.le_refl, bI_eq, bI_z1, a7]
      split
      · rename_i h2
        refine go_at (blk := b_KneeStair_run_36) rfl ?_
        simp (disch := omega) only [b_KneeStair_run_36, be_6, be_34, be_33, be_54, kc_0, rf_0_5, kc_42, List.getD_cons_zero, List.getD_cons_succ, List.set_cons_zero, List.set_cons_succ, List.length_cons, List.length_nil, pk_I, pk_A, pr_A, pi_I, st_s, st_n, if_true, if_false, eq_self, d_if, d_ju, d_re, d_ca, cat0, cat1, cat2, cat3, fr_z, fr_s, cc_I, cc_A, cc_N, Nat.reduceAdd, Nat.reduceLT, Nat.reduceLeDiff, Nat.reduceEqDiff, not_true, not_false_iff, z1_0, z1_1, Bool.and_self, Bool.true_and, Bool.and_true, nI_add, pk_mul, nI_clamp, decide_true, Nat.le_refl, bI_eq, bI_z1, a7]
        exact q1 (le_0 h0 h2)
      · rename_i h2
        obtain ⟨k, hk, rfl, e⟩ := lim_of (m := 300) (by omega) h0 h1
        have hk1 : 1 ≤ k := by
          rcases Nat.eq_zero_or_pos k with z | z
          · subst z; exact absurd (Int32.le_refl 0) h2
          · exact z
        refine go_at (blk := b_KneeStair_run_17) rfl ?_
        simp (disch := omega) only [b_KneeStair_run_17, be_6, be_34, be_57_1, kc_0, rf_0_6, rf_0_5, kc_48, List.getD_cons_zero, List.getD_cons_succ, List.set_cons_zero, List.set_cons_succ, List.length_cons, List.length_nil, pk_I, pk_A, pr_A, pi_I, st_s, st_n, if_true, if_false, eq_self, d_if, d_ju, d_re, d_ca, cat0, cat1, cat2, cat3, fr_z, fr_s, cc_I, cc_A, cc_N, Nat.reduceAdd, Nat.reduceLT, Nat.reduceLeDiff, Nat.reduceEqDiff, not_true, not_false_iff, z1_0, z1_1, Bool.and_self, Bool.true_and, Bool.and_true, nI_add, pk_mul, nI_clamp, decide_true, Nat.le_refl, bI_eq, bI_z1, a7]
        refine k_keep hK hP ?_
        intro v1 c1 p1
        have hK1 := KI_p hK c1
        refine go_at (blk := b_KneeStair_run_28) rfl ?_
        simp (disch := omega) only [b_KneeStair_run_28, be_6, be_34, be_4, be_57_1, kc_0, rf_0_5, kc_42, List.getD_cons_zero, List.getD_cons_succ, List.set_cons_zero, List.set_cons_succ, List.length_cons, List.length_nil, pk_I, pk_A, pr_A, pi_I, st_s, st_n, if_true, if_false, eq_self, d_if, d_ju, d_re, d_ca, cat0, cat1, cat2, cat3, fr_z, fr_s, cc_I, cc_A, cc_N, Nat.reduceAdd, Nat.reduceLT, Nat.reduceLeDiff, Nat.reduceEqDiff, not_true, not_false_iff, z1_0, z1_1, Bool.and_self, Bool.true_and, Bool.and_true, nI_add, pk_mul, nI_clamp, decide_true, Nat.le_refl, bI_eq, bI_z1, a7]
        refine k_pass st_42 hK1.1 hK1.2.1 hK.2.2.1 (by omega) hK.2.2.2.1 (by omega) ?_
        intro v2 s2 r2
        have b7 : v2 42 7 = itT T (-1) 0 k f 41 := r2.2.2.1
        refine go_at (blk := b_KneeStair_run_36) rfl ?_
        simp (disch := omega) only [b_KneeStair_run_36, be_6, be_34, be_33, be_54, kc_0, rf_0_5, kc_42, List.getD_cons_zero, List.getD_cons_succ, List.set_cons_zero, List.set_cons_succ, List.length_cons, List.length_nil, pk_I, pk_A, pr_A, pi_I, st_s, st_n, if_true, if_false, eq_self, d_if, d_ju, d_re, d_ca, cat0, cat1, cat2, cat3, fr_z, fr_s, cc_I, cc_A, cc_N, Nat.reduceAdd, Nat.reduceLT, Nat.reduceLeDiff, Nat.reduceEqDiff, not_true, not_false_iff, z1_0, z1_1, Bool.and_self, Bool.true_and, Bool.and_true, nI_add, pk_mul, nI_clamp, decide_true, Nat.le_refl, bI_eq, bI_z1, a7, b7]
        refine q2 k v2 hk1 hk rfl ?_ r2 (PI_w p1 (fun c _ _ => s2 c (by omega) (by omega) (by omega) (by omega) (by omega)))
        intro c d1 d2 d3 d4 d5 d6
        rw [s2 c (by omega) d1 d2 d3 d4]
        exact c1 c (by omega) d6
    · rename_i h1
      refine go_at (blk := b_KneeStair_run_11) rfl ?_
      simp (disch := omega) only [b_KneeStair_run_11, be_2, be_54, List.getD_cons_zero, List.getD_cons_succ, List.set_cons_zero, List.set_cons_succ, List.length_cons, List.length_nil, pk_I, pk_A, pr_A, pi_I, st_s, st_n, if_true, if_false, eq_self, d_if, d_ju, d_re, d_ca, cat0, cat1, cat2, cat3, fr_z, fr_s, cc_I, cc_A, cc_N, Nat.reduceAdd, Nat.reduceLT, Nat.reduceLeDiff, Nat.reduceEqDiff, not_true, not_false_iff, z1_0, z1_1, Bool.and_self, Bool.true_and, Bool.and_true, nI_add, pk_mul, nI_clamp, decide_true, Nat.le_refl, bI_eq, bI_z1, a7]
      exact q0 (Or.inr (Int32.not_le.mp h1))
set_option maxHeartbeats 1000000 in
theorem p_undo0 {d : Nat} {v : Nat → Nat → Int32} {w : Nat → Nat → Int64} {Q : Option Value → am_H → Prop} {T : TXT} {f : Nat → Int32} {B : Int} (hK : KI B v T f) {nx : Nat} {h : Nat → Nat → Int32} (hP : PI v (tN T) nx 0 h) (hQ : Q (some (.int (nI 0))) (428, 26053, KD, RF, v, w)) : am_Ca (d + 3) M_KneeStair_undo [.ref 0] (428, 26053, KD, RF, v, w) Q := by
  refine ca_in (k := k_KneeStair_undo) (nL := 1) rfl (Nat.le_of_ble_eq_true rfl) ?_
  show am_Go am_X0 _ k_KneeStair_undo 0 ([.ref 0], [], _) _
  refine go_at (blk := b_KneeStair_undo_0) rfl ?_
  simp (disch := omega) only [b_KneeStair_undo_0, be_6, be_34, be_57_1, kc_0, rf_0_6, rf_0_5, kc_48, List.getD_cons_zero, List.getD_cons_succ, List.set_cons_zero, List.set_cons_succ, List.length_cons, List.length_nil, pk_I, pk_A, pr_A, pi_I, st_s, st_n, if_true, if_false, eq_self, d_if, d_ju, d_re, d_ca, cat0, cat1, cat2, cat3, fr_z, fr_s, cc_I, cc_A, cc_N, Nat.reduceAdd, Nat.reduceLT, Nat.reduceLeDiff, Nat.reduceEqDiff, not_true, not_false_iff, z1_0, z1_1, Bool.and_self, Bool.true_and, Bool.and_true, nI_add, pk_mul, nI_clamp, decide_true, Nat.le_refl, bI_eq, bI_z1]
  refine k_giveBack0 hK hP ?_
  refine go_at (blk := b_KneeStair_undo_11) rfl ?_
  simp (disch := omega) only [b_KneeStair_undo_11, be_73, List.getD_cons_zero, List.getD_cons_succ, List.set_cons_zero, List.set_cons_succ, List.length_cons, List.length_nil, pk_I, pk_A, pr_A, pi_I, st_s, st_n, if_true, if_false, eq_self, d_if, d_ju, d_re, d_ca, cat0, cat1, cat2, cat3, fr_z, fr_s, cc_I, cc_A, cc_N, Nat.reduceAdd, Nat.reduceLT, Nat.reduceLeDiff, Nat.reduceEqDiff, not_true, not_false_iff, z1_0, z1_1, Bool.and_self, Bool.true_and, Bool.and_true, nI_add, pk_mul, nI_clamp, decide_true, Nat.le_refl, bI_eq, bI_z1]
  exact hQ
set_option maxHeartbeats 1000000 in
theorem p_undo1 {d : Nat} {v : Nat → Nat → Int32} {w : Nat → Nat → Int64} {Q : Option Value → am_H → Prop} {T : TXT} {f : Nat → Int32} {B : Int} (hK : KI B v T f) {nx sz : Nat} {h : Nat → Nat → Int32} {C : Int} (hP : PI v (tN T) nx (sz + 1) h) (hg : GR C (tN T) (h 0)) (hQ : ∀ v', (∀ c, c ≠ 48 → (c < 42 ∨ 47 < c) → v' c = v c) → PI v' (tN T) ((nx + 49) % 50) sz (fun j => h (j + 1)) → RX v' 42 (tN T) (-1) 0 (h 0) → Q (some (.int (nI 1))) (428, 26053, KD, RF, v', w)) : am_Ca (d + 3) M_KneeStair_undo [.ref 0] (428, 26053, KD, RF, v, w) Q := by
  refine ca_in (k := k_KneeStair_undo) (nL := 1) rfl (Nat.le_of_ble_eq_true rfl) ?_
  show am_Go am_X0 _ k_KneeStair_undo 0 ([.ref 0], [], _) _
  refine go_at (blk := b_KneeStair_undo_0) rfl ?_
  simp (disch := omega) only [b_KneeStair_undo_0, be_6, be_34, be_57_1, kc_0, rf_0_6, rf_0_5, kc_48, List.getD_cons_zero, List.getD_cons_succ, List.set_cons_zero, List.set_cons_succ, List.length_cons, List.length_nil, pk_I, pk_A, pr_A, pi_I, st_s, st_n, if_true, if_false, eq_self, d_if, d_ju, d_re, d_ca, cat0, cat1, cat2, cat3, fr_z, fr_s, cc_I, cc_A, cc_N, Nat.reduceAdd, Nat.reduceLT, Nat.reduceLeDiff, Nat.reduceEqDiff, not_true, not_false_iff, z1_0, z1_1, Bool.and_self, Bool.true_and, Bool.and_true, nI_add, pk_mul, nI_clamp, decide_true, Nat.le_refl, bI_eq, bI_z1]
  refine k_giveBack1 hK hP hg ?_
  intro v1 c1 p1 r1
  refine go_at (blk := b_KneeStair_undo_11) rfl ?_
  simp (disch := omega) only [b_KneeStair_undo_11, be_73, List.getD_cons_zero, List.getD_cons_succ, List.set_cons_zero, List.set_cons_succ, List.length_cons, List.length_nil, pk_I, pk_A, pr_A, pi_I, st_s, st_n, if_true, if_false, eq_self, d_if, d_ju, d_re, d_ca, cat0, cat1, cat2, cat3, fr_z, fr_s, cc_I, cc_A, cc_N, Nat.reduceAdd, Nat.reduceLT, Nat.reduceLeDiff, Nat.reduceEqDiff, not_true, not_false_iff, z1_0, z1_1, Bool.and_self, Bool.true_and, Bool.and_true, nI_add, pk_mul, nI_clamp, decide_true, Nat.le_refl, bI_eq, bI_z1]
  exact hQ v1 c1 p1 r1
theorem p_place {d : Nat} {v : Nat → Nat → Int32} {w : Nat → Nat → Int64} {Q : Option Value → am_H → Prop} (hQ : Q (some (.int (v 0 2))) (428, 26053, KD, RF, v, w)) : am_Ca (d + 1) M_KneeStair_place [.ref 0] (428, 26053, KD, RF, v, w) Q := by
  refine ca_in (k := k_KneeStair_place) (nL := 1) rfl (Nat.le_of_ble_eq_true rfl) ?_
  show am_Go am_X0 _ k_KneeStair_place 0 ([.ref 0], [], _) _
  refine go_at (blk := b_KneeStair_place_0) rfl ?_
  simp (disch := omega) only [b_KneeStair_place_0, be_6, be_33, be_54, kc_0, List.getD_cons_zero, List.getD_cons_succ, List.set_cons_zero, List.set_cons_succ, List.length_cons, List.length_nil, pk_I, pk_A, pr_A, pi_I, st_s, st_n, if_true, if_false, eq_self, d_if, d_ju, d_re, d_ca, cat0, cat1, cat2, cat3, fr_z, fr_s, cc_I, cc_A, cc_N, Nat.reduceAdd, Nat.reduceLT, Nat.reduceLeDiff, Nat.reduceEqDiff, not_true, not_false_iff, z1_0, z1_1, Bool.and_self, Bool.true_and, Bool.and_true, nI_add, pk_mul, nI_clamp, decide_true, Nat.le_refl, bI_eq, bI_z1]
  exact hQ
theorem p_back {d : Nat} {v : Nat → Nat → Int32} {w : Nat → Nat → Int64} {Q : Option Value → am_H → Prop} {x t : Int32} (a1 : v 0 1 = t) (q0 : (x < 0 ∨ t < x) → Q (some (.int (-1))) (428, 26053, KD, RF, v, w)) (q1 : ¬ x < 0 → x ≤ t → Q (some (.int (t - x))) (428, 26053, KD, RF, am_u v 0 1 (t - x), w)) : am_Ca (d + 1) M_KneeStair_back [.ref 0, .int x] (428, 26053, KD, RF, v, w) Q := by
  refine ca_in (k := k_KneeStair_back) (nL := 2) rfl (Nat.le_of_ble_eq_true rfl) ?_
  show am_Go am_X0 _ k_KneeStair_back 0 ([.ref 0, .int x], [], _) _
  refine go_at (blk := b_KneeStair_back_0) rfl ?_
  simp (disch := omega) only [b_KneeStair_back_0, be_4, be_50_2, List.getD_cons_zero, List.getD_cons_succ, List.set_cons_zero, List.set_cons_succ, List.length_cons, List.length_nil, pk_I, pk_A, pr_A, pi_I, st_s, st_n, if_true, if_false, eq_self, d_if, d_ju, d_re, d_ca, cat0, cat1, cat2, cat3, fr_z, fr_s, cc_I, cc_A, cc_N, Nat.reduceAdd, Nat.reduceLT, Nat.reduceLeDiff, Nat.reduceEqDiff, not_true, not_false_iff, z1_0, z1_1, Bool.and_self, Bool.true_and, Bool.and_true, nI_add, pk_mul, nI_clamp, decide_true, Nat.le_refl, bI_eq, bI_z1, a1, am_u_at, upd_at]
  split
  · rename_i h0
    refine go_at (blk := b_KneeStair_back_12) rfl ?_
    simp (disch := omega) only [b_KneeStair_back_12, be_2, be_54, List.getD_cons_zero, List.getD_cons_succ, List.set_cons_zero, List.set_cons_succ, List.length_cons, List.length_nil, pk_I, pk_A, pr_A, pi_I, st_s, st_n, if_true, if_false, eq_self, d_if, d_ju, d_re, d_ca, cat0, cat1, cat2, cat3, fr_z, fr_s, cc_I, cc_A, cc_N, Nat.reduceAdd, Nat.reduceLT, Nat.reduceLeDiff, Nat.reduceEqDiff, not_true, not_false_iff, z1_0, z1_1, Bool.and_self, Bool.true_and, Bool.and_true, nI_add, pk_mul, nI_clamp, decide_true, Nat.le_refl, bI_eq, bI_z1, a1, am_u_at, upd_at]
    exact q0 (Or.inl h0)
  · rename_i h0
    refine go_at (blk := b_KneeStair_back_4) rfl ?_
    simp (disch := omega) only [b_KneeStair_back_4, be_4, be_6, be_33, be_49_5, kc_0, List.getD_cons_zero, List.getD_cons_succ, List.set_cons_zero, List.set_cons_succ, List.length_cons, List.length_nil, pk_I, pk_A, pr_A, pi_I, st_s, st_n, if_true, if_false, eq_self, d_if, d_ju, d_re, d_ca, cat0, cat1, cat2, cat3, fr_z, fr_s, cc_I, cc_A, cc_N, Nat.reduceAdd, Nat.reduceLT, Nat.reduceLeDiff, Nat.reduceEqDiff, not_true, not_false_iff, z1_0, z1_1, Bool.and_self, Bool.true_and, Bool.and_true, nI_add, pk_mul, nI_clamp, decide_true, Nat.le_refl, bI_eq, bI_z1, a1, am_u_at, upd_at]
    split
    · rename_i h1
      refine go_at (blk := b_KneeStair_back_14) rfl ?_
      simp (disch := omega) only [b_KneeStair_back_14, be_6, be_30I, be_30A, be_33, be_4, be_13, be_35, be_54, kc_0, List.getD_cons_zero, List.getD_cons_succ, List.set_cons_zero, List.set_cons_succ, List.length_cons, List.length_nil, pk_I, pk_A, pr_A, pi_I, st_s, st_n, if_true, if_false, eq_self, d_if, d_ju, d_re, d_ca, cat0, cat1, cat2, cat3, fr_z, fr_s, cc_I, cc_A, cc_N, Nat.reduceAdd, Nat.reduceLT, Nat.reduceLeDiff, Nat.reduceEqDiff, not_true, not_false_iff, z1_0, z1_1, Bool.and_self, Bool.true_and, Bool.and_true, nI_add, pk_mul, nI_clamp, decide_true, Nat.le_refl, bI_eq, bI_z1, a1, am_u_at, upd_at]
      exact q1 h0 h1
    · rename_i h1
      refine go_at (blk := b_KneeStair_back_12) rfl ?_
      simp (disch := omega) only [b_KneeStair_back_12, be_2, be_54, List.getD_cons_zero, List.getD_cons_succ, List.set_cons_zero, List.set_cons_succ, List.length_cons, List.length_nil, pk_I, pk_A, pr_A, pi_I, st_s, st_n, if_true, if_false, eq_self, d_if, d_ju, d_re, d_ca, cat0, cat1, cat2, cat3, fr_z, fr_s, cc_I, cc_A, cc_N, Nat.reduceAdd, Nat.reduceLT, Nat.reduceLeDiff, Nat.reduceEqDiff, not_true, not_false_iff, z1_0, z1_1, Bool.and_self, Bool.true_and, Bool.and_true, nI_add, pk_mul, nI_clamp, decide_true, Nat.le_refl, bI_eq, bI_z1, a1, am_u_at, upd_at]
      exact q0 (Or.inr (Int32.not_le.mp h1))
