/-! laid by wip/whole/gE.py: the reference: numbers -/
theorem r_failW {d : Nat} {v : Nat → Nat → Int32} {w : Nat → Nat → Int64} {Q : Option Value → am_H → Prop} {E : ENV} {t : Nat} (hE : ME E v w) (g11 : v 388 11 = nI t) (gt : t ≤ eL E) (g13 : v 388 13 = nI 0) {j : Nat} (h1 : 1 ≤ j) (h5 : j ≤ 5) (hQ : ∀ v', G8 v v' → MB v' j (eP E t) → Q none (428, 26053, KD, RF, v', w)) : am_Ca (d + 1) M_Model_fail [.ref 388, .int (nI j)] (428, 26053, KD, RF, v, w) Q := by
  obtain ⟨gk, gp, gv, gn⟩ := hE.2 t gt
  have gL := hE.1.1
  refine ca_in (k := k_Model_fail) (nL := 2) rfl (Nat.le_of_ble_eq_true rfl) ?_
  show am_Go am_X0 _ k_Model_fail 0 ([.ref 388, .int (nI j)], [], _) _
  refine go_at (blk := b_Model_fail_0) rfl ?_
  simp (disch := omega) only [b_Model_fail_0, be_6, be_33, be_50_5, kc_388, List.getD_cons_zero, List.getD_cons_succ, List.set_cons_zero, List.set_cons_succ, List.length_cons, List.length_nil, pk_I, pk_A, pr_A, pi_I, st_s, st_n, if_true, if_false, eq_self, d_if, d_ju, d_re, d_ca, cat0, cat1, cat2, cat3, fr_z, fr_s, cc_I, cc_A, cc_N, Nat.reduceAdd, Nat.reduceLT, Nat.reduceLeDiff, Nat.reduceEqDiff, not_true, not_false_iff, z1_0, z1_1, Bool.and_self, Bool.true_and, Bool.and_true, nI_add, pk_mul, nI_clamp, decide_true, Nat.le_refl, bI_eq, bI_z1, am_u_at, am_u_ne, upd_at, upd_ne, g13, g11, gp, nI_z, z_le, z_lt]
  refine go_at (blk := b_Model_fail_8) rfl ?_
  simp (disch := omega) only [b_Model_fail_8, be_6, be_4, be_35, be_34, be_33, be_38, be_56, kc_388, rf_388_6, ka_392, List.getD_cons_zero, List.getD_cons_succ, List.set_cons_zero, List.set_cons_succ, List.length_cons, List.length_nil, pk_I, pk_A, pr_A, pi_I, st_s, st_n, if_true, if_false, eq_self, d_if, d_ju, d_re, d_ca, cat0, cat1, cat2, cat3, fr_z, fr_s, cc_I, cc_A, cc_N, Nat.reduceAdd, Nat.reduceLT, Nat.reduceLeDiff, Nat.reduceEqDiff, not_true, not_false_iff, z1_0, z1_1, Bool.and_self, Bool.true_and, Bool.and_true, nI_add, pk_mul, nI_clamp, decide_true, Nat.le_refl, bI_eq, bI_z1, am_u_at, am_u_ne, upd_at, upd_ne, g13, g11, gp, nI_z, z_le, z_lt]
  refine hQ _ ⟨fun c hc => by rw [am_u_ne hc, am_u_ne hc], fun k k1 k2 k3 _ _ => by rw [am_u_at, upd_ne k3, am_u_at, upd_ne k2]⟩ ⟨?_, h1, h5, ?_, (hE.1.2.2.2.2.1 t gt).1, t, by omega, ?_⟩
  · rw [am_u_at, upd_ne (by omega), am_u_at, upd_at]
  · rw [am_u_at, upd_at]
  · rw [am_u_at, upd_ne (by omega), am_u_at, upd_ne (by omega)]
    exact g11
theorem r_goOnW {d : Nat} {v : Nat → Nat → Int32} {w : Nat → Nat → Int64} {Q : Option Value → am_H → Prop} {E : ENV} {t l p : Nat} (hE : ME E v w) (g11 : v 388 11 = nI t) (gt : t ≤ eL E) (g13 : v 388 13 = nI 0) (g15 : v 388 15 = nI l) (gl : l ≤ 5) (g16 : l ≠ 0 → v 388 16 = nI p ∧ p ≤ eP E t) (h0 : eK E t ≠ 0) (h3 : eK E t ≠ 3) (hQ : ∀ v', G8 v v' → MS' E v' (takeS E (.inr t, l, p)) → Q none (428, 26053, KD, RF, v', w)) : am_Ca (d + 2) M_Model_goesOn [.ref 388] (428, 26053, KD, RF, v, w) Q := by
  have gL := hE.1.1
  refine ca_in (k := k_Model_goesOn) (nL := 1) rfl (Nat.le_of_ble_eq_true rfl) ?_
  show am_Go am_X0 _ k_Model_goesOn 0 ([.ref 388], [], _) _
  by_cases ht : t < 400
  · have h4 : ¬ t = 400 := by omega
    refine go_at (blk := b_Model_goesOn_0) rfl ?_
    simp (disch := omega) only [b_Model_goesOn_0, be_6, be_33, be_1, be_49_1, kc_388, List.getD_cons_zero, List.getD_cons_succ, List.set_cons_zero, List.set_cons_succ, List.length_cons, List.length_nil, pk_I, pk_A, pr_A, pi_I, st_s, st_n, if_true, if_false, eq_self, d_if, d_ju, d_re, d_ca, cat0, cat1, cat2, cat3, fr_z, fr_s, cc_I, cc_A, cc_N, Nat.reduceAdd, Nat.reduceLT, Nat.reduceLeDiff, Nat.reduceEqDiff, not_true, not_false_iff, z1_0, z1_1, Bool.and_self, Bool.true_and, Bool.and_true, nI_add, pk_mul, nI_clamp, decide_true, Nat.le_refl, bI_eq, bI_z1, nI_ltI, nI_leI, am_u_at, am_u_ne, upd_at, upd_ne, g11, h4, nI_eq]
    refine go_at (blk := b_Model_goesOn_18) rfl ?_
    simp (disch := omega) only [b_Model_goesOn_18, be_6, be_30I, be_30A, be_33, be_1, be_12, be_35, be_0, kc_388, List.getD_cons_zero, List.getD_cons_succ, List.set_cons_zero, List.set_cons_succ, List.length_cons, List.length_nil, pk_I, pk_A, pr_A, pi_I, st_s, st_n, if_true, if_false, eq_self, d_if, d_ju, d_re, d_ca, cat0, cat1, cat2, cat3, fr_z, fr_s, cc_I, cc_A, cc_N, Nat.reduceAdd, Nat.reduceLT, Nat.reduceLeDiff, Nat.reduceEqDiff, not_true, not_false_iff, z1_0, z1_1, Bool.and_self, Bool.true_and, Bool.and_true, nI_add, pk_mul, nI_clamp, decide_true, Nat.le_refl, bI_eq, bI_z1, nI_ltI, nI_leI, am_u_at, am_u_ne, upd_at, upd_ne, g11, h4, nI_eq]
    refine go_at (blk := b_Model_goesOn_28) rfl ?_
    simp (disch := omega) only [b_Model_goesOn_28, be_56, List.getD_cons_zero, List.getD_cons_succ, List.set_cons_zero, List.set_cons_succ, List.length_cons, List.length_nil, pk_I, pk_A, pr_A, pi_I, st_s, st_n, if_true, if_false, eq_self, d_if, d_ju, d_re, d_ca, cat0, cat1, cat2, cat3, fr_z, fr_s, cc_I, cc_A, cc_N, Nat.reduceAdd, Nat.reduceLT, Nat.reduceLeDiff, Nat.reduceEqDiff, not_true, not_false_iff, z1_0, z1_1, Bool.and_self, Bool.true_and, Bool.and_true, nI_add, pk_mul, nI_clamp, decide_true, Nat.le_refl, bI_eq, bI_z1, nI_ltI, nI_leI, am_u_at, am_u_ne, upd_at, upd_ne, g11, h4, nI_eq]
    refine hQ _ ⟨fun c hc => by rw [am_u_ne hc], fun k k1 _ _ _ _ => by rw [am_u_at, upd_ne k1]⟩ ?_
    rw [tk_1 ht]
    have hs1 := ev_s hE.1 gt h0 h3 ht
    refine ⟨?_, hs1, ?_, ?_, gl, fun z => ⟨?_, ?_⟩⟩
    · rw [am_u_at, upd_at]
    · rw [am_u_at, upd_ne (by omega)]; exact g13
    · rw [am_u_at, upd_ne (by omega)]; exact g15
    · rw [am_u_at, upd_ne (by omega)]; exact (g16 z).1
    · exact Nat.lt_of_le_of_lt (g16 z).2 (hE.1.2.2.2.2.2 t (t + 1) (by omega) hs1)
  · have h4 : t = 400 := by omega
    refine go_at (blk := b_Model_goesOn_0) rfl ?_
    simp (disch := omega) only [b_Model_goesOn_0, be_6, be_33, be_1, be_49_1, kc_388, List.getD_cons_zero, List.getD_cons_succ, List.set_cons_zero, List.set_cons_succ, List.length_cons, List.length_nil, pk_I, pk_A, pr_A, pi_I, st_s, st_n, if_true, if_false, eq_self, d_if, d_ju, d_re, d_ca, cat0, cat1, cat2, cat3, fr_z, fr_s, cc_I, cc_A, cc_N, Nat.reduceAdd, Nat.reduceLT, Nat.reduceLeDiff, Nat.reduceEqDiff, not_true, not_false_iff, z1_0, z1_1, Bool.and_self, Bool.true_and, Bool.and_true, nI_add, pk_mul, nI_clamp, decide_true, Nat.le_refl, bI_eq, bI_z1, nI_ltI, nI_leI, g11, h4, nI_eq]
    refine go_at (blk := b_Model_goesOn_10) rfl ?_
    simp (disch := omega) only [b_Model_goesOn_10, be_6, be_1, be_57_1, kc_388, List.getD_cons_zero, List.getD_cons_succ, List.set_cons_zero, List.set_cons_succ, List.length_cons, List.length_nil, pk_I, pk_A, pr_A, pi_I, st_s, st_n, if_true, if_false, eq_self, d_if, d_ju, d_re, d_ca, cat0, cat1, cat2, cat3, fr_z, fr_s, cc_I, cc_A, cc_N, Nat.reduceAdd, Nat.reduceLT, Nat.reduceLeDiff, Nat.reduceEqDiff, not_true, not_false_iff, z1_0, z1_1, Bool.and_self, Bool.true_and, Bool.and_true, nI_add, pk_mul, nI_clamp, decide_true, Nat.le_refl, bI_eq, bI_z1, nI_ltI, nI_leI, g11, h4, nI_eq]
    refine r_failW hE g11 gt g13 (by omega) (by omega) ?_
    intro v' f1 f2
    refine go_at (blk := b_Model_goesOn_15) rfl ?_
    simp (disch := omega) only [b_Model_goesOn_15, be_51, List.getD_cons_zero, List.getD_cons_succ, List.set_cons_zero, List.set_cons_succ, List.length_cons, List.length_nil, pk_I, pk_A, pr_A, pi_I, st_s, st_n, if_true, if_false, eq_self, d_if, d_ju, d_re, d_ca, cat0, cat1, cat2, cat3, fr_z, fr_s, cc_I, cc_A, cc_N, Nat.reduceAdd, Nat.reduceLT, Nat.reduceLeDiff, Nat.reduceEqDiff, not_true, not_false_iff, z1_0, z1_1, Bool.and_self, Bool.true_and, Bool.and_true, nI_add, pk_mul, nI_clamp, decide_true, Nat.le_refl, bI_eq, bI_z1, nI_ltI, nI_leI, g11, h4, nI_eq]
    refine go_at (blk := b_Model_goesOn_28) rfl ?_
    simp (disch := omega) only [b_Model_goesOn_28, be_56, List.getD_cons_zero, List.getD_cons_succ, List.set_cons_zero, List.set_cons_succ, List.length_cons, List.length_nil, pk_I, pk_A, pr_A, pi_I, st_s, st_n, if_true, if_false, eq_self, d_if, d_ju, d_re, d_ca, cat0, cat1, cat2, cat3, fr_z, fr_s, cc_I, cc_A, cc_N, Nat.reduceAdd, Nat.reduceLT, Nat.reduceLeDiff, Nat.reduceEqDiff, not_true, not_false_iff, z1_0, z1_1, Bool.and_self, Bool.true_and, Bool.and_true, nI_add, pk_mul, nI_clamp, decide_true, Nat.le_refl, bI_eq, bI_z1, nI_ltI, nI_leI, g11, h4, nI_eq]
    refine hQ v' f1 ?_
    rw [tk_2 ht]
    exact f2
theorem r_bounded {d : Nat} {v : Nat → Nat → Int32} {w : Nat → Nat → Int64} {Q : Option Value → am_H → Prop} {E : ENV} {s : SG} (hE : ME E v w) (hs : MS' E v s) {lo hi : Nat} (hlo9 : lo ≤ 1000) (hhi9 : hi ≤ 1000) (hQ : ∀ v', G8 v v' → MS' E v' (numS E lo hi s) → Q (some (.int (nI (numV E lo s)))) (428, 26053, KD, RF, v', w)) : am_Ca (d + 3) M_Model_bounded [.ref 388, .int (nI lo), .int (nI hi)] (428, 26053, KD, RF, v, w) Q := by
  obtain ⟨r, l, p⟩ := s
  cases r with
  | inl e =>
    obtain ⟨k, p'⟩ := e
    obtain ⟨b13, bk1, bk5, b14, bp, t, bt, b11⟩ := hs
    have hk1 : ¬ nI k ≤ 0 := nI_nle (by omega) (by omega)
    have hk2 : 0 < nI k := Int32.not_le.mp hk1
    refine ca_in (k := k_Model_bounded) (nL := 4) rfl (Nat.le_of_ble_eq_true rfl) ?_
    show am_Go am_X0 _ k_Model_bounded 0 ([.ref 388, .int (nI lo), .int (nI hi), .null], [], _) _
    refine go_at (blk := b_Model_bounded_0) rfl ?_
    simp (disch := omega) only [b_Model_bounded_0, be_6, be_33, be_50_4, kc_388, List.getD_cons_zero, List.getD_cons_succ, List.set_cons_zero, List.set_cons_succ, List.length_cons, List.length_nil, pk_I, pk_A, pr_A, pi_I, st_s, st_n, if_true, if_false, eq_self, d_if, d_ju, d_re, d_ca, cat0, cat1, cat2, cat3, fr_z, fr_s, cc_I, cc_A, cc_N, Nat.reduceAdd, Nat.reduceLT, Nat.reduceLeDiff, Nat.reduceEqDiff, not_true, not_false_iff, z1_0, z1_1, Bool.and_self, Bool.true_and, Bool.and_true, nI_add, pk_mul, nI_clamp, decide_true, Nat.le_refl, bI_eq, bI_z1, b13, hk2]
    refine go_at (blk := b_Model_bounded_15) rfl ?_
    simp (disch := omega) only [b_Model_bounded_15, be_6, be_1, be_57_1, kc_388, List.getD_cons_zero, List.getD_cons_succ, List.set_cons_zero, List.set_cons_succ, List.length_cons, List.length_nil, pk_I, pk_A, pr_A, pi_I, st_s, st_n, if_true, if_false, eq_self, d_if, d_ju, d_re, d_ca, cat0, cat1, cat2, cat3, fr_z, fr_s, cc_I, cc_A, cc_N, Nat.reduceAdd, Nat.reduceLT, Nat.reduceLeDiff, Nat.reduceEqDiff, not_true, not_false_iff, z1_0, z1_1, Bool.and_self, Bool.true_and, Bool.and_true, nI_add, pk_mul, nI_clamp, decide_true, Nat.le_refl, bI_eq, bI_z1, b13, hk2]
    refine r_fail (s := (.inl (k, p'), l, p)) hE ⟨b13, bk1, bk5, b14, bp, t, bt, b11⟩ (by omega) (by omega) ?_
    intro v2 f2 g2
    refine go_at (blk := b_Model_bounded_20) rfl ?_
    simp (disch := omega) only [b_Model_bounded_20, be_4, be_54, List.getD_cons_zero, List.getD_cons_succ, List.set_cons_zero, List.set_cons_succ, List.length_cons, List.length_nil, pk_I, pk_A, pr_A, pi_I, st_s, st_n, if_true, if_false, eq_self, d_if, d_ju, d_re, d_ca, cat0, cat1, cat2, cat3, fr_z, fr_s, cc_I, cc_A, cc_N, Nat.reduceAdd, Nat.reduceLT, Nat.reduceLeDiff, Nat.reduceEqDiff, not_true, not_false_iff, z1_0, z1_1, Bool.and_self, Bool.true_and, Bool.and_true, nI_add, pk_mul, nI_clamp, decide_true, Nat.le_refl, bI_eq, bI_z1, b13, hk2]
    exact hQ v2 f2 g2
  | inr t =>
    have hs0 := hs
    obtain ⟨g11, gt, g13, g15, gl, g16⟩ := hs
    obtain ⟨gk, gp, gv, gn⟩ := hE.2 t gt
    have gL := hE.1.1
    refine ca_in (k := k_Model_bounded) (nL := 4) rfl (Nat.le_of_ble_eq_true rfl) ?_
    show am_Go am_X0 _ k_Model_bounded 0 ([.ref 388, .int (nI lo), .int (nI hi), .null], [], _) _
    refine go_at (blk := b_Model_bounded_0) rfl ?_
    simp (disch := omega) only [b_Model_bounded_0, be_6, be_33, be_50_4, kc_388, List.getD_cons_zero, List.getD_cons_succ, List.set_cons_zero, List.set_cons_succ, List.length_cons, List.length_nil, pk_I, pk_A, pr_A, pi_I, st_s, st_n, if_true, if_false, eq_self, d_if, d_ju, d_re, d_ca, cat0, cat1, cat2, cat3, fr_z, fr_s, cc_I, cc_A, cc_N, Nat.reduceAdd, Nat.reduceLT, Nat.reduceLeDiff, Nat.reduceEqDiff, not_true, not_false_iff, z1_0, z1_1, Bool.and_self, Bool.true_and, Bool.and_true, nI_add, pk_mul, nI_clamp, decide_true, Nat.le_refl, bI_eq, bI_z1, nI_ltI, nI_leI, g13, g11, nI_eq, nI_z, z_le, z_lt]
    refine go_at (blk := b_Model_bounded_7) rfl ?_
    simp (disch := omega) only [b_Model_bounded_7, be_6, be_1, be_57_1, kc_388, List.getD_cons_zero, List.getD_cons_succ, List.set_cons_zero, List.set_cons_succ, List.length_cons, List.length_nil, pk_I, pk_A, pr_A, pi_I, st_s, st_n, if_true, if_false, eq_self, d_if, d_ju, d_re, d_ca, cat0, cat1, cat2, cat3, fr_z, fr_s, cc_I, cc_A, cc_N, Nat.reduceAdd, Nat.reduceLT, Nat.reduceLeDiff, Nat.reduceEqDiff, not_true, not_false_iff, z1_0, z1_1, Bool.and_self, Bool.true_and, Bool.and_true, nI_add, pk_mul, nI_clamp, decide_true, Nat.le_refl, bI_eq, bI_z1, nI_ltI, nI_leI, g13, g11, nI_eq, nI_z, z_le, z_lt]
    refine r_is hE hs0 (by omega) (by omega) ?_
    refine go_at (blk := b_Model_bounded_12) rfl ?_
    simp (disch := omega) only [b_Model_bounded_12, be_50_1, List.getD_cons_zero, List.getD_cons_succ, List.set_cons_zero, List.set_cons_succ, List.length_cons, List.length_nil, pk_I, pk_A, pr_A, pi_I, st_s, st_n, if_true, if_false, eq_self, d_if, d_ju, d_re, d_ca, cat0, cat1, cat2, cat3, fr_z, fr_s, cc_I, cc_A, cc_N, Nat.reduceAdd, Nat.reduceLT, Nat.reduceLeDiff, Nat.reduceEqDiff, not_true, not_false_iff, z1_0, z1_1, Bool.and_self, Bool.true_and, Bool.and_true, nI_add, pk_mul, nI_clamp, decide_true, Nat.le_refl, bI_eq, bI_z1, nI_ltI, nI_leI, g13, g11, nI_eq, nI_z, z_le, z_lt]
    split
    · rename_i hc
      have hc : eK E t = 2 := (show kdR E (.inr t, l, p) = 2 by simpa using hc)
      have gv2 := gv hc
      have gv9 := (hE.1.2.2.2.2.1 t gt).2.1 hc
      refine go_at (blk := b_Model_bounded_22) rfl ?_
      simp (disch := omega) only [b_Model_bounded_22, be_6, be_34, be_33, be_38, be_7, be_4, be_49_2, kc_388, rf_388_7, ka_393, List.getD_cons_zero, List.getD_cons_succ, List.set_cons_zero, List.set_cons_succ, List.length_cons, List.length_nil, pk_I, pk_A, pr_A, pi_I, st_s, st_n, if_true, if_false, eq_self, d_if, d_ju, d_re, d_ca, cat0, cat1, cat2, cat3, fr_z, fr_s, cc_I, cc_A, cc_N, Nat.reduceAdd, Nat.reduceLT, Nat.reduceLeDiff, Nat.reduceEqDiff, not_true, not_false_iff, z1_0, z1_1, Bool.and_self, Bool.true_and, Bool.and_true, nI_add, pk_mul, nI_clamp, decide_true, Nat.le_refl, bI_eq, bI_z1, nI_ltI, nI_leI, g13, g11, nI_eq, nI_z, z_le, z_lt, gv2]
      split
      · rename_i hlo
        refine go_at (blk := b_Model_bounded_42) rfl ?_
        simp (disch := omega) only [b_Model_bounded_42, be_6, be_1, be_33, be_57_2, kc_388, List.getD_cons_zero, List.getD_cons_succ, List.set_cons_zero, List.set_cons_succ, List.length_cons, List.length_nil, pk_I, pk_A, pr_A, pi_I, st_s, st_n, if_true, if_false, eq_self, d_if, d_ju, d_re, d_ca, cat0, cat1, cat2, cat3, fr_z, fr_s, cc_I, cc_A, cc_N, Nat.reduceAdd, Nat.reduceLT, Nat.reduceLeDiff, Nat.reduceEqDiff, not_true, not_false_iff, z1_0, z1_1, Bool.and_self, Bool.true_and, Bool.and_true, nI_add, pk_mul, nI_clamp, decide_true, Nat.le_refl, bI_eq, bI_z1, nI_ltI, nI_leI, g13, g11, nI_eq, nI_z, z_le, z_lt, gv2]
        refine r_wrong (j := t) hE gt g11 g13 g15 gl g16 (by omega) ?_
        intro v2 f2 g2
        obtain ⟨l2, p2, e2, a1, a2, a3, a4, a5⟩ : ∃ l2 p2, lateS E 5 (.inr t, l, p) = (.inr t, l2, p2) ∧ v2 388 11 = nI t ∧ v2 388 13 = nI 0 ∧ v2 388 15 = nI l2 ∧ l2 ≤ 5 ∧ (l2 ≠ 0 → v2 388 16 = nI p2 ∧ p2 ≤ eP E t) := by
          unfold lateS
          dsimp only
          by_cases hl0 : l = 0
          · rw [if_pos hl0] at g2 ⊢
            exact ⟨5, eP E t, rfl, g2.1, g2.2.1, g2.2.2.1, g2.2.2.2.1, fun _ => ⟨g2.2.2.2.2, Nat.le_refl _⟩⟩
          · rw [if_neg hl0] at g2 ⊢
            exact ⟨l, p, rfl, g2.1, g2.2.1, g2.2.2.1, g2.2.2.2.1, fun _ => ⟨g2.2.2.2.2, Nat.le_of_lt (g16 hl0).2⟩⟩
        refine go_at (blk := b_Model_bounded_51) rfl ?_
        simp (disch := omega) only [b_Model_bounded_51, be_6, be_57_0, kc_388, List.getD_cons_zero, List.getD_cons_succ, List.set_cons_zero, List.set_cons_succ, List.length_cons, List.length_nil, pk_I, pk_A, pr_A, pi_I, st_s, st_n, if_true, if_false, eq_self, d_if, d_ju, d_re, d_ca, cat0, cat1, cat2, cat3, fr_z, fr_s, cc_I, cc_A, cc_N, Nat.reduceAdd, Nat.reduceLT, Nat.reduceLeDiff, Nat.reduceEqDiff, not_true, not_false_iff, z1_0, z1_1, Bool.and_self, Bool.true_and, Bool.and_true, nI_add, pk_mul, nI_clamp, decide_true, Nat.le_refl, bI_eq, bI_z1, nI_ltI, nI_leI, g13, g11, nI_eq, nI_z, z_le, z_lt, gv2]
        refine r_goOnW (ME_8 hE f2) a1 gt a2 a3 a4 a5 (by omega) (by omega) ?_
        intro v3 f3 g3
        refine go_at (blk := b_Model_bounded_55) rfl ?_
        simp (disch := omega) only [b_Model_bounded_55, be_4, be_54, List.getD_cons_zero, List.getD_cons_succ, List.set_cons_zero, List.set_cons_succ, List.length_cons, List.length_nil, pk_I, pk_A, pr_A, pi_I, st_s, st_n, if_true, if_false, eq_self, d_if, d_ju, d_re, d_ca, cat0, cat1, cat2, cat3, fr_z, fr_s, cc_I, cc_A, cc_N, Nat.reduceAdd, Nat.reduceLT, Nat.reduceLeDiff, Nat.reduceEqDiff, not_true, not_false_iff, z1_0, z1_1, Bool.and_self, Bool.true_and, Bool.and_true, nI_add, pk_mul, nI_clamp, decide_true, Nat.le_refl, bI_eq, bI_z1, nI_ltI, nI_leI, g13, g11, nI_eq, nI_z, z_le, z_lt, gv2]
        rw [show numV E lo (.inr t, l, p) = eV E t from if_pos hc, show numS E lo hi (.inr t, l, p) = takeS E (lateS E 5 (.inr t, l, p)) from (if_pos hc).trans (by rw [if_pos (Or.inl hlo)]), e2] at hQ
        exact hQ v3 (G8_t f2 f3) g3
      · rename_i hlo
        refine go_at (blk := b_Model_bounded_37) rfl ?_
        simp (disch := omega) only [b_Model_bounded_37, be_4, be_49_5, List.getD_cons_zero, List.getD_cons_succ, List.set_cons_zero, List.set_cons_succ, List.length_cons, List.length_nil, pk_I, pk_A, pr_A, pi_I, st_s, st_n, if_true, if_false, eq_self, d_if, d_ju, d_re, d_ca, cat0, cat1, cat2, cat3, fr_z, fr_s, cc_I, cc_A, cc_N, Nat.reduceAdd, Nat.reduceLT, Nat.reduceLeDiff, Nat.reduceEqDiff, not_true, not_false_iff, z1_0, z1_1, Bool.and_self, Bool.true_and, Bool.and_true, nI_add, pk_mul, nI_clamp, decide_true, Nat.le_refl, bI_eq, bI_z1, nI_ltI, nI_leI, g13, g11, nI_eq, nI_z, z_le, z_lt, gv2]
        split
        · rename_i hhi
          refine go_at (blk := b_Model_bounded_51) rfl ?_
          simp (disch := omega) only [b_Model_bounded_51, be_6, be_57_0, kc_388, List.getD_cons_zero, List.getD_cons_succ, List.set_cons_zero, List.set_cons_succ, List.length_cons, List.length_nil, pk_I, pk_A, pr_A, pi_I, st_s, st_n, if_true, if_false, eq_self, d_if, d_ju, d_re, d_ca, cat0, cat1, cat2, cat3, fr_z, fr_s, cc_I, cc_A, cc_N, Nat.reduceAdd, Nat.reduceLT, Nat.reduceLeDiff, Nat.reduceEqDiff, not_true, not_false_iff, z1_0, z1_1, Bool.and_self, Bool.true_and, Bool.and_true, nI_add, pk_mul, nI_clamp, decide_true, Nat.le_refl, bI_eq, bI_z1, nI_ltI, nI_leI, g13, g11, nI_eq, nI_z, z_le, z_lt, gv2]
          refine r_goOnW hE g11 gt g13 g15 gl (fun z => ⟨(g16 z).1, Nat.le_of_lt (g16 z).2⟩) (by omega) (by omega) ?_
          intro v3 f3 g3
          refine go_at (blk := b_Model_bounded_55) rfl ?_
          simp (disch := omega) only [b_Model_bounded_55, be_4, be_54, List.getD_cons_zero, List.getD_cons_succ, List.set_cons_zero, List.set_cons_succ, List.length_cons, List.length_nil, pk_I, pk_A, pr_A, pi_I, st_s, st_n, if_true, if_false, eq_self, d_if, d_ju, d_re, d_ca, cat0, cat1, cat2, cat3, fr_z, fr_s, cc_I, cc_A, cc_N, Nat.reduceAdd, Nat.reduceLT, Nat.reduceLeDiff, Nat.reduceEqDiff, not_true, not_false_iff, z1_0, z1_1, Bool.and_self, Bool.true_and, Bool.and_true, nI_add, pk_mul, nI_clamp, decide_true, Nat.le_refl, bI_eq, bI_z1, nI_ltI, nI_leI, g13, g11, nI_eq, nI_z, z_le, z_lt, gv2]
          rw [show numV E lo (.inr t, l, p) = eV E t from if_pos hc, show numS E lo hi (.inr t, l, p) = takeS E (.inr t, l, p) from (if_pos hc).trans (by rw [if_neg (by omega)])] at hQ
          exact hQ v3 f3 g3
        · rename_i hhi
          refine go_at (blk := b_Model_bounded_42) rfl ?_
          simp (disch := omega) only [b_Model_bounded_42, be_6, be_1, be_33, be_57_2, kc_388, List.getD_cons_zero, List.getD_cons_succ, List.set_cons_zero, List.set_cons_succ, List.length_cons, List.length_nil, pk_I, pk_A, pr_A, pi_I, st_s, st_n, if_true, if_false, eq_self, d_if, d_ju, d_re, d_ca, cat0, cat1, cat2, cat3, fr_z, fr_s, cc_I, cc_A, cc_N, Nat.reduceAdd, Nat.reduceLT, Nat.reduceLeDiff, Nat.reduceEqDiff, not_true, not_false_iff, z1_0, z1_1, Bool.and_self, Bool.true_and, Bool.and_true, nI_add, pk_mul, nI_clamp, decide_true, Nat.le_refl, bI_eq, bI_z1, nI_ltI, nI_leI, g13, g11, nI_eq, nI_z, z_le, z_lt, gv2]
          refine r_wrong (j := t) hE gt g11 g13 g15 gl g16 (by omega) ?_
          intro v2 f2 g2
          obtain ⟨l2, p2, e2, a1, a2, a3, a4, a5⟩ : ∃ l2 p2, lateS E 5 (.inr t, l, p) = (.inr t, l2, p2) ∧ v2 388 11 = nI t ∧ v2 388 13 = nI 0 ∧ v2 388 15 = nI l2 ∧ l2 ≤ 5 ∧ (l2 ≠ 0 → v2 388 16 = nI p2 ∧ p2 ≤ eP E t) := by
            unfold lateS
            dsimp only
            by_cases hl0 : l = 0
            · rw [if_pos hl0] at g2 ⊢
              exact ⟨5, eP E t, rfl, g2.1, g2.2.1, g2.2.2.1, g2.2.2.2.1, fun _ => ⟨g2.2.2.2.2, Nat.le_refl _⟩⟩
            · rw [if_neg hl0] at g2 ⊢
              exact ⟨l, p, rfl, g2.1, g2.2.1, g2.2.2.1, g2.2.2.2.1, fun _ => ⟨g2.2.2.2.2, Nat.le_of_lt (g16 hl0).2⟩⟩
          refine go_at (blk := b_Model_bounded_51) rfl ?_
          simp (disch := omega) only [b_Model_bounded_51, be_6, be_57_0, kc_388, List.getD_cons_zero, List.getD_cons_succ, List.set_cons_zero, List.set_cons_succ, List.length_cons, List.length_nil, pk_I, pk_A, pr_A, pi_I, st_s, st_n, if_true, if_false, eq_self, d_if, d_ju, d_re, d_ca, cat0, cat1, cat2, cat3, fr_z, fr_s, cc_I, cc_A, cc_N, Nat.reduceAdd, Nat.reduceLT, Nat.reduceLeDiff, Nat.reduceEqDiff, not_true, not_false_iff, z1_0, z1_1, Bool.and_self, Bool.true_and, Bool.and_true, nI_add, pk_mul, nI_clamp, decide_true, Nat.le_refl, bI_eq, bI_z1, nI_ltI, nI_leI, g13, g11, nI_eq, nI_z, z_le, z_lt, gv2]
          refine r_goOnW (ME_8 hE f2) a1 gt a2 a3 a4 a5 (by omega) (by omega) ?_
          intro v3 f3 g3
          refine go_at (blk := b_Model_bounded_55) rfl ?_
          simp (disch := omega) only [b_Model_bounded_55, be_4, be_54, List.getD_cons_zero, List.getD_cons_succ, List.set_cons_zero, List.set_cons_succ, List.length_cons, List.length_nil, pk_I, pk_A, pr_A, pi_I, st_s, st_n, if_true, if_false, eq_self, d_if, d_ju, d_re, d_ca, cat0, cat1, cat2, cat3, fr_z, fr_s, cc_I, cc_A, cc_N, Nat.reduceAdd, Nat.reduceLT, Nat.reduceLeDiff, Nat.reduceEqDiff, not_true, not_false_iff, z1_0, z1_1, Bool.and_self, Bool.true_and, Bool.and_true, nI_add, pk_mul, nI_clamp, decide_true, Nat.le_refl, bI_eq, bI_z1, nI_ltI, nI_leI, g13, g11, nI_eq, nI_z, z_le, z_lt, gv2]
          rw [show numV E lo (.inr t, l, p) = eV E t from if_pos hc, show numS E lo hi (.inr t, l, p) = takeS E (lateS E 5 (.inr t, l, p)) from (if_pos hc).trans (by rw [if_pos (Or.inr (by omega))]), e2] at hQ
          exact hQ v3 (G8_t f2 f3) g3
    · rename_i hc
      have hc : ¬ eK E t = 2 := (show ¬ kdR E (.inr t, l, p) = 2 by simpa using hc)
      refine go_at (blk := b_Model_bounded_15) rfl ?_
      simp (disch := omega) only [b_Model_bounded_15, be_6, be_1, be_57_1, kc_388, List.getD_cons_zero, List.getD_cons_succ, List.set_cons_zero, List.set_cons_succ, List.length_cons, List.length_nil, pk_I, pk_A, pr_A, pi_I, st_s, st_n, if_true, if_false, eq_self, d_if, d_ju, d_re, d_ca, cat0, cat1, cat2, cat3, fr_z, fr_s, cc_I, cc_A, cc_N, Nat.reduceAdd, Nat.reduceLT, Nat.reduceLeDiff, Nat.reduceEqDiff, not_true, not_false_iff, z1_0, z1_1, Bool.and_self, Bool.true_and, Bool.and_true, nI_add, pk_mul, nI_clamp, decide_true, Nat.le_refl, bI_eq, bI_z1, nI_ltI, nI_leI, g13, g11, nI_eq, nI_z, z_le, z_lt]
      refine r_fail hE hs0 (by omega) (by omega) ?_
      intro v2 f2 g2
      refine go_at (blk := b_Model_bounded_20) rfl ?_
      simp (disch := omega) only [b_Model_bounded_20, be_4, be_54, List.getD_cons_zero, List.getD_cons_succ, List.set_cons_zero, List.set_cons_succ, List.length_cons, List.length_nil, pk_I, pk_A, pr_A, pi_I, st_s, st_n, if_true, if_false, eq_self, d_if, d_ju, d_re, d_ca, cat0, cat1, cat2, cat3, fr_z, fr_s, cc_I, cc_A, cc_N, Nat.reduceAdd, Nat.reduceLT, Nat.reduceLeDiff, Nat.reduceEqDiff, not_true, not_false_iff, z1_0, z1_1, Bool.and_self, Bool.true_and, Bool.and_true, nI_add, pk_mul, nI_clamp, decide_true, Nat.le_refl, bI_eq, bI_z1, nI_ltI, nI_leI, g13, g11, nI_eq, nI_z, z_le, z_lt]
      rw [show numV E lo (.inr t, l, p) = lo from if_neg hc, show numS E lo hi (.inr t, l, p) = failS E 1 (.inr t, l, p) from if_neg hc] at hQ
      exact hQ v2 f2 g2
