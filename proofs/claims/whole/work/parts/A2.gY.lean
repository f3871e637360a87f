/-! laid by wip/whole/gY.py: the class: read -/
set_option maxHeartbeats 4000000 in
theorem p_read {d : Nat} {v : Nat → Nat → Int32} {w : Nat → Nat → Int64} {Q : Option Value → am_H → Prop} {b : Nat → Int32} {len : Nat} (h01 : v 0 1 = nI len) (hb : v 1 = b) (hy : BY b len) (hl : len ≤ 2000) (qF : ∀ v' w' L R r pl, LX b len L → FIN (mkE b len L) 0 0 0 D0 R → ((∃ f, R = .inl f ∧ r = nI f.1 ∧ pl = nI f.2) ∨ ∃ l p D, R = .inr (l, p, D) ∧ l ≠ 0 ∧ r = nI l ∧ pl = nI p) → (∀ c, (c = 1 ∨ 22 < c) → v' c = v c) → v' 0 1 = nI 0 → v' 0 2 = pl → (∀ c, c ≠ 23 → c ≠ 24 → w' c = w c) → Q (some (.int r)) (428, 26053, KD, RF, v', w')) (qS : ∀ v' w' L p D, LX b len L → FIN (mkE b len L) 0 0 0 D0 (.inr (0, p, D)) → TXD v' D → (lwc dM D.2.2.2.2.1).length ≤ 400 → (lwc dH D.2.2.2.2.2).length ≤ 400 → RX v' 42 D.2.2.1 (-1) 0 (bgT (mkT0 D)) → v' 48 1 = v 48 1 → v' 48 2 = nI 0 → v' 358 5 = nI 0 → (∀ s, s < 3 → v' 369 s = 0) → v' 0 1 = nI 0 → v' 0 2 = -1 → (∀ c, (c = 1 ∨ 388 ≤ c) → v' c = v c) → (∀ c, c ≠ 23 → c ≠ 24 → w' c = w c) → Q (some (.int (nI 0))) (428, 26053, KD, RF, v', w')) : am_Ca (d + 29) M_KneeStair_read [.ref 0] (428, 26053, KD, RF, v, w) Q := by
  refine ca_in (k := k_KneeStair_read) (nL := 2) rfl (Nat.le_of_ble_eq_true rfl) ?_
  show am_Go am_X0 _ k_KneeStair_read 0 ([.ref 0, .null], [], _) _
  refine go_at (blk := b_KneeStair_read_0) rfl ?_
  simp (disch := omega) only [b_KneeStair_read_0, be_6, be_34, be_33, be_57_2, kc_0, rf_0_3, rf_0_0, kc_2, List.getD_cons_zero, List.getD_cons_succ, List.set_cons_zero, List.set_cons_succ, List.length_cons, List.length_nil, pk_I, pk_A, pr_A, pi_I, st_s, st_n, if_true, if_false, eq_self, d_if, d_ju, d_re, d_ca, cat0, cat1, cat2, cat3, fr_z, fr_s, cc_I, cc_A, cc_N, Nat.reduceAdd, Nat.reduceLT, Nat.reduceLeDiff, Nat.reduceEqDiff, not_true, not_false_iff, z1_0, z1_1, Bool.and_self, Bool.true_and, Bool.and_true, nI_add, pk_mul, nI_clamp, decide_true, Nat.le_refl, bI_eq, bI_z1, nI_ltI, nI_leI, am_u_at, am_u_ne, upd_at, upd_ne, h01]
  refine k_readTape (b := b) (len := len) hb hy hl ?_
  intro v1 w1 L r R hLX f1 e1 hF hZ
  cases R with
  | inl f =>
    obtain ⟨z1, z2, z3, z4⟩ := hZ
    have hne : ¬ r = 0 := by rw [z1]; exact nI_ne0 z2 (by omega)
    refine go_at (blk := b_KneeStair_read_15) rfl ?_
    simp (disch := omega) only [b_KneeStair_read_15, be_7, be_6, be_1, be_35, be_34, be_33, be_4, be_50_1, kc_0, rf_0_3, kc_2, List.getD_cons_zero, List.getD_cons_succ, List.set_cons_zero, List.set_cons_succ, List.length_cons, List.length_nil, pk_I, pk_A, pr_A, pi_I, st_s, st_n, if_true, if_false, eq_self, d_if, d_ju, d_re, d_ca, cat0, cat1, cat2, cat3, fr_z, fr_s, cc_I, cc_A, cc_N, Nat.reduceAdd, Nat.reduceLT, Nat.reduceLeDiff, Nat.reduceEqDiff, not_true, not_false_iff, z1_0, z1_1, Bool.and_self, Bool.true_and, Bool.and_true, nI_add, pk_mul, nI_clamp, decide_true, Nat.le_refl, bI_eq, bI_z1, nI_ltI, nI_leI, am_u_at, am_u_ne, upd_at, upd_ne, hne]
    refine go_at (blk := b_KneeStair_read_75) rfl ?_
    simp (disch := omega) only [b_KneeStair_read_75, be_4, be_54, List.getD_cons_zero, List.getD_cons_succ, List.set_cons_zero, List.set_cons_succ, List.length_cons, List.length_nil, pk_I, pk_A, pr_A, pi_I, st_s, st_n, if_true, if_false, eq_self, d_if, d_ju, d_re, d_ca, cat0, cat1, cat2, cat3, fr_z, fr_s, cc_I, cc_A, cc_N, Nat.reduceAdd, Nat.reduceLT, Nat.reduceLeDiff, Nat.reduceEqDiff, not_true, not_false_iff, z1_0, z1_1, Bool.and_self, Bool.true_and, Bool.and_true, nI_add, pk_mul, nI_clamp, decide_true, Nat.le_refl, bI_eq, bI_z1, nI_ltI, nI_leI, am_u_at, am_u_ne, upd_at, upd_ne, hne]
    refine qF _ w1 L _ r (v1 2 1) hLX hF (Or.inl ⟨f, rfl, z1, z4⟩) (fun c hc => ?_) ?_ ?_ (fun c c1 c2 => e1 c c2 c1)
    · rw [am_u_ne (by omega), am_u_ne (by omega)]
      exact f1 c (by omega) (by omega)
    · rw [am_u_at, upd_ne (by omega), am_u_at, upd_at]
    · rw [am_u_at, upd_at]
  | inr y =>
    obtain ⟨l, p, D⟩ := y
    unfold ZR at hZ
    dsimp only at hZ
    by_cases hl0 : l = 0
    · subst hl0
      rw [if_pos rfl] at hZ
      obtain ⟨z1, z2, hD⟩ := hZ
      obtain ⟨o0, o1, r0⟩ := fin_0 (mkE_ok hl hLX) hF
      have hR0 : R0 D := r0 rfl
      subst z1
      refine go_at (blk := b_KneeStair_read_15) rfl ?_
      simp (disch := omega) only [b_KneeStair_read_15, be_7, be_6, be_1, be_35, be_34, be_33, be_4, be_50_1, kc_0, rf_0_3, kc_2, List.getD_cons_zero, List.getD_cons_succ, List.set_cons_zero, List.set_cons_succ, List.length_cons, List.length_nil, pk_I, pk_A, pr_A, pi_I, st_s, st_n, if_true, if_false, eq_self, d_if, d_ju, d_re, d_ca, cat0, cat1, cat2, cat3, fr_z, fr_s, cc_I, cc_A, cc_N, Nat.reduceAdd, Nat.reduceLT, Nat.reduceLeDiff, Nat.reduceEqDiff, not_true, not_false_iff, z1_0, z1_1, Bool.and_self, Bool.true_and, Bool.and_true, nI_add, pk_mul, nI_clamp, decide_true, Nat.le_refl, bI_eq, bI_z1, nI_ltI, nI_leI, am_u_at, am_u_ne, upd_at, upd_ne, nI_z]
      refine go_at (blk := b_KneeStair_read_36) rfl ?_
      simp (disch := omega) only [b_KneeStair_read_36, be_6, be_34, be_57_1, kc_0, rf_0_4, rf_0_3, kc_2, rf_2_0, kc_25, List.getD_cons_zero, List.getD_cons_succ, List.set_cons_zero, List.set_cons_succ, List.length_cons, List.length_nil, pk_I, pk_A, pr_A, pi_I, st_s, st_n, if_true, if_false, eq_self, d_if, d_ju, d_re, d_ca, cat0, cat1, cat2, cat3, fr_z, fr_s, cc_I, cc_A, cc_N, Nat.reduceAdd, Nat.reduceLT, Nat.reduceLeDiff, Nat.reduceEqDiff, not_true, not_false_iff, z1_0, z1_1, Bool.and_self, Bool.true_and, Bool.and_true, nI_add, pk_mul, nI_clamp, decide_true, Nat.le_refl, bI_eq, bI_z1, nI_ltI, nI_leI, am_u_at, am_u_ne, upd_at, upd_ne, nI_z]
      refine k_tcopy (D := D) ?_ (fun p hp => (hR0.2.2.2 p hp).2.2.2.2.2) ?_
      · obtain ⟨d1, d2, d3, d4, d5, d6, d7, d8⟩ := hD
        exact ⟨by rw [am_u_ne (by omega), am_u_ne (by omega)]; exact d1, by rw [am_u_ne (by omega), am_u_ne (by omega)]; exact d2, ⟨by rw [am_u_ne (by omega), am_u_ne (by omega)]; exact d3.1, d3.2⟩, fun p hp => by simp (disch := omega) only [am_u_ne]; exact d4 p hp, ⟨by rw [am_u_ne (by omega), am_u_ne (by omega)]; exact d5.1, fun j hj => by rw [am_u_ne (by omega), am_u_ne (by omega), am_u_ne (by omega), am_u_ne (by omega)]; exact d5.2 j hj⟩, d6, ⟨by rw [am_u_ne (by omega), am_u_ne (by omega)]; exact d7.1, fun j hj => by rw [am_u_ne (by omega), am_u_ne (by omega), am_u_ne (by omega), am_u_ne (by omega)]; exact d7.2 j hj⟩, d8⟩
      intro v2 f2 x2
      have hKX : KX v2 (mkT0 D) := mk_KX x2 mkT0_TD hR0.2.2.1 hD.2.2.2.2.2.1 hD.2.2.2.2.2.2.2 o0 o1
      refine go_at (blk := b_KneeStair_read_50) rfl ?_
      simp (disch := omega) only [b_KneeStair_read_50, be_6, be_34, be_57_0, kc_0, rf_0_5, kc_42, List.getD_cons_zero, List.getD_cons_succ, List.set_cons_zero, List.set_cons_succ, List.length_cons, List.length_nil, pk_I, pk_A, pr_A, pi_I, st_s, st_n, if_true, if_false, eq_self, d_if, d_ju, d_re, d_ca, cat0, cat1, cat2, cat3, fr_z, fr_s, cc_I, cc_A, cc_N, Nat.reduceAdd, Nat.reduceLT, Nat.reduceLeDiff, Nat.reduceEqDiff, not_true, not_false_iff, z1_0, z1_1, Bool.and_self, Bool.true_and, Bool.and_true, nI_add, pk_mul, nI_clamp, decide_true, Nat.le_refl, bI_eq, bI_z1, nI_ltI, nI_leI, am_u_at, am_u_ne, upd_at, upd_ne, nI_z]
      refine k_begin (Or.inl rfl) hKX (mk_GT mkT0_TD hR0) ?_
      intro v3 f3 r3
      refine go_at (blk := b_KneeStair_read_57) rfl ?_
      simp (disch := omega) only [b_KneeStair_read_57, be_6, be_34, be_57_0, kc_0, rf_0_6, kc_48, List.getD_cons_zero, List.getD_cons_succ, List.set_cons_zero, List.set_cons_succ, List.length_cons, List.length_nil, pk_I, pk_A, pr_A, pi_I, st_s, st_n, if_true, if_false, eq_self, d_if, d_ju, d_re, d_ca, cat0, cat1, cat2, cat3, fr_z, fr_s, cc_I, cc_A, cc_N, Nat.reduceAdd, Nat.reduceLT, Nat.reduceLeDiff, Nat.reduceEqDiff, not_true, not_false_iff, z1_0, z1_1, Bool.and_self, Bool.true_and, Bool.and_true, nI_add, pk_mul, nI_clamp, decide_true, Nat.le_refl, bI_eq, bI_z1, nI_ltI, nI_leI, am_u_at, am_u_ne, upd_at, upd_ne, nI_z]
      refine k_pastClear ?_
      refine go_at (blk := b_KneeStair_read_64) rfl ?_
      simp (disch := omega) only [b_KneeStair_read_64, be_6, be_34, be_57_0, kc_0, rf_0_8, kc_358, List.getD_cons_zero, List.getD_cons_succ, List.set_cons_zero, List.set_cons_succ, List.length_cons, List.length_nil, pk_I, pk_A, pr_A, pi_I, st_s, st_n, if_true, if_false, eq_self, d_if, d_ju, d_re, d_ca, cat0, cat1, cat2, cat3, fr_z, fr_s, cc_I, cc_A, cc_N, Nat.reduceAdd, Nat.reduceLT, Nat.reduceLeDiff, Nat.reduceEqDiff, not_true, not_false_iff, z1_0, z1_1, Bool.and_self, Bool.true_and, Bool.and_true, nI_add, pk_mul, nI_clamp, decide_true, Nat.le_refl, bI_eq, bI_z1, nI_ltI, nI_leI, am_u_at, am_u_ne, upd_at, upd_ne, nI_z]
      refine k_witClear ?_
      refine go_at (blk := b_KneeStair_read_71) rfl ?_
      simp (disch := omega) only [b_KneeStair_read_71, be_6, be_57_0, kc_0, List.getD_cons_zero, List.getD_cons_succ, List.set_cons_zero, List.set_cons_succ, List.length_cons, List.length_nil, pk_I, pk_A, pr_A, pi_I, st_s, st_n, if_true, if_false, eq_self, d_if, d_ju, d_re, d_ca, cat0, cat1, cat2, cat3, fr_z, fr_s, cc_I, cc_A, cc_N, Nat.reduceAdd, Nat.reduceLT, Nat.reduceLeDiff, Nat.reduceEqDiff, not_true, not_false_iff, z1_0, z1_1, Bool.and_self, Bool.true_and, Bool.and_true, nI_add, pk_mul, nI_clamp, decide_true, Nat.le_refl, bI_eq, bI_z1, nI_ltI, nI_leI, am_u_at, am_u_ne, upd_at, upd_ne, nI_z]
      refine k_empty ?_
      intro v4 f4 s4
      refine go_at (blk := b_KneeStair_read_75) rfl ?_
      simp (disch := omega) only [b_KneeStair_read_75, be_4, be_54, List.getD_cons_zero, List.getD_cons_succ, List.set_cons_zero, List.set_cons_succ, List.length_cons, List.length_nil, pk_I, pk_A, pr_A, pi_I, st_s, st_n, if_true, if_false, eq_self, d_if, d_ju, d_re, d_ca, cat0, cat1, cat2, cat3, fr_z, fr_s, cc_I, cc_A, cc_N, Nat.reduceAdd, Nat.reduceLT, Nat.reduceLeDiff, Nat.reduceEqDiff, not_true, not_false_iff, z1_0, z1_1, Bool.and_self, Bool.true_and, Bool.and_true, nI_add, pk_mul, nI_clamp, decide_true, Nat.le_refl, bI_eq, bI_z1, nI_ltI, nI_leI, am_u_at, am_u_ne, upd_at, upd_ne, nI_z]
      have fr : ∀ c, (c < 25 ∨ 48 < c) → c ≠ 0 → c ≠ 358 → c ≠ 369 → v4 c = v1 c := by
        intro c c1 c2 c3 c4
        rw [f4 c c4, am_u_ne (by omega), am_u_ne (by omega), f3 c (by omega), f2 c (by omega), am_u_ne (by omega), am_u_ne (by omega)]
      have e4 : ∀ c, 25 ≤ c → c ≤ 39 → v4 c = v2 c := by
        intro c c1 c2
        rw [f4 c (by omega), am_u_ne (by omega), am_u_ne (by omega), f3 c (by omega)]
      have e0 : ∀ k, v4 0 k = upd (upd (v1 0) 1 (nI 0)) 2 (v1 2 1) k := by
        intro k
        rw [f4 0 (by omega), am_u_ne (by omega), am_u_ne (by omega), f3 0 (by omega), f2 0 (by omega), am_u_at, am_u_at]
        rfl
      refine qS v4 w1 L p D hLX hF ?_ hD.2.2.2.2.2.1 hD.2.2.2.2.2.2.2 ?_ ?_ ?_ ?_ s4 ?_ ?_ (fun c hc => ?_) (fun c c1 c2 => e1 c c2 c1)
      · obtain ⟨x1, x3, x4, x5, x6, x7⟩ := x2
        refine ⟨by rw [e4 25 (by omega) (by omega)]; exact x1, by rw [e4 25 (by omega) (by omega)]; exact x3, by rw [e4 25 (by omega) (by omega)]; exact x4, fun p hp => ?_, ⟨by rw [e4 32 (by omega) (by omega)]; exact x6.1, fun j hj => ?_⟩, ⟨by rw [e4 37 (by omega) (by omega)]; exact x7.1, fun j hj => ?_⟩⟩
        · rw [e4 26 (by omega) (by omega), e4 27 (by omega) (by omega), e4 28 (by omega) (by omega), e4 29 (by omega) (by omega), e4 30 (by omega) (by omega), e4 31 (by omega) (by omega)]
          exact x5 p hp
        · rw [e4 33 (by omega) (by omega), e4 34 (by omega) (by omega)]
          exact x6.2 j hj
        · rw [e4 38 (by omega) (by omega), e4 39 (by omega) (by omega)]
          exact x7.2 j hj
      · refine RX_w r3 (fun c c1 c2 => ?_)
        rw [f4 c (by omega), am_u_ne (by omega), am_u_ne (by omega)]
      · rw [f4 48 (by omega), am_u_ne (by omega), am_u_at, upd_ne (by omega), f3 48 (by omega), f2 48 (by omega), am_u_ne (by omega), am_u_ne (by omega), f1 48 (by omega) (by omega)]
      · rw [f4 48 (by omega), am_u_ne (by omega), am_u_at, upd_at]
        rfl
      · rw [f4 358 (by omega), am_u_at, upd_at]
        rfl
      · rw [e0, upd_ne (by omega), upd_at]
      · rw [e0, upd_at]
        exact z2
      · rw [fr c (by omega) (by omega) (by omega) (by omega)]
        exact f1 c (by omega) (by omega)
    · rw [if_neg hl0] at hZ
      obtain ⟨z1, z2, z3⟩ := hZ
      have hne : ¬ r = 0 := by rw [z1]; exact nI_ne0 (by omega) (by omega)
      refine go_at (blk := b_KneeStair_read_15) rfl ?_
      simp (disch := omega) only [b_KneeStair_read_15, be_7, be_6, be_1, be_35, be_34, be_33, be_4, be_50_1, kc_0, rf_0_3, kc_2, List.getD_cons_zero, List.getD_cons_succ, List.set_cons_zero, List.set_cons_succ, List.length_cons, List.length_nil, pk_I, pk_A, pr_A, pi_I, st_s, st_n, if_true, if_false, eq_self, d_if, d_ju, d_re, d_ca, cat0, cat1, cat2, cat3, fr_z, fr_s, cc_I, cc_A, cc_N, Nat.reduceAdd, Nat.reduceLT, Nat.reduceLeDiff, Nat.reduceEqDiff, not_true, not_false_iff, z1_0, z1_1, Bool.and_self, Bool.true_and, Bool.and_true, nI_add, pk_mul, nI_clamp, decide_true, Nat.le_refl, bI_eq, bI_z1, nI_ltI, nI_leI, am_u_at, am_u_ne, upd_at, upd_ne, hne]
      refine go_at (blk := b_KneeStair_read_75) rfl ?_
      simp (disch := omega) only [b_KneeStair_read_75, be_4, be_54, List.getD_cons_zero, List.getD_cons_succ, List.set_cons_zero, List.set_cons_succ, List.length_cons, List.length_nil, pk_I, pk_A, pr_A, pi_I, st_s, st_n, if_true, if_false, eq_self, d_if, d_ju, d_re, d_ca, cat0, cat1, cat2, cat3, fr_z, fr_s, cc_I, cc_A, cc_N, Nat.reduceAdd, Nat.reduceLT, Nat.reduceLeDiff, Nat.reduceEqDiff, not_true, not_false_iff, z1_0, z1_1, Bool.and_self, Bool.true_and, Bool.and_true, nI_add, pk_mul, nI_clamp, decide_true, Nat.le_refl, bI_eq, bI_z1, nI_ltI, nI_leI, am_u_at, am_u_ne, upd_at, upd_ne, hne]
      refine qF _ w1 L _ r (v1 2 1) hLX hF (Or.inr ⟨l, p, D, rfl, hl0, z1, z3⟩) (fun c hc => ?_) ?_ ?_ (fun c c1 c2 => e1 c c2 c1)
      · rw [am_u_ne (by omega), am_u_ne (by omega)]
        exact f1 c (by omega) (by omega)
      · rw [am_u_at, upd_ne (by omega), am_u_at, upd_at]
      · rw [am_u_at, upd_at]
