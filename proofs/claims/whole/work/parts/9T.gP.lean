/-! laid by wip/whole/gP.py: the reference: a pilgrim told -/
theorem pl_nm {E : ENV} {nm : Nat → Nat} {n t' : Nat} {s : SG} (h : (wantS E 4 (pl8 E nm n s)).1 = .inr t') : ∃ t1, (pl1 E s).1 = .inr t1 ∧ eK E t1 = 1 := by
  obtain ⟨t8, h8, _⟩ := mo_want h
  have h7 : ∃ t7, (pl7 E nm n s).1 = .inr t7 := by
    unfold pl8 at h8
    split at h8
    · obtain ⟨t7, h7, _⟩ := mo_take h8
      exact ⟨t7, h7⟩
    · exact ⟨t8, h8⟩
  obtain ⟨t7, h7⟩ := h7
  obtain ⟨t6, h6, _⟩ := mo_num h7
  obtain ⟨t5, h5, _⟩ := mo_num h6
  obtain ⟨t4, h4, _⟩ := mo_num h5
  obtain ⟨t3, h3, _⟩ := mo_num h4
  obtain ⟨t2, h2, _⟩ := mo_num h3
  unfold pl2 nameS at h2
  cases h1 : (pl1 E s).1 with
  | inl f =>
    rw [h1] at h2
    dsimp only at h2
    rw [h1] at h2
    cases h2
  | inr t1 =>
    rw [h1] at h2
    dsimp only at h2
    by_cases hk : eK E t1 = 1
    · exact ⟨t1, rfl, hk⟩
    · rw [if_neg hk] at h2
      unfold failS at h2
      rw [h1] at h2
      cases h2
set_option maxHeartbeats 2000000 in
theorem r_pl186 {d : Nat} {v : Nat → Nat → Int32} {w : Nat → Nat → Int64} {Q : Option Value → am_H → Prop} {E : ENV} {n sd : Nat} {nm : Nat → Nat} {s : SG} {tok : Int32} {x3 : Value} (hE : ME E v w) (hsd : sd < 2) (hn : n < 8) (h19 : v 388 19 = nI sd) (h20 : v 388 20 = nI n) (h398 : v 398 sd = nI n) (htok : ∀ t1, (pl1 E s).1 = .inr t1 → tok = nI t1 ∧ t1 ≤ eL E) {v1 : Nat → Nat → Int32} (g1 : G8 (am_u (am_u (am_u (am_u (am_u (am_u v 399 (8 * sd + n) (nI (numV E 0 (pl2 E nm n s)))) 400 (8 * sd + n) (nI (numV E 0 (pl3 E nm n s)))) 401 (8 * sd + n) (nI (numV E 0 (pl4 E nm n s)))) 402 (8 * sd + n) (nI (numV E 1 (pl5 E nm n s)))) 403 (8 * sd + n) (nI (numV E 0 (pl6 E nm n s)))) 404 (8 * sd + n) (bI (plK E nm n s))) v1) (s1 : MS' E v1 (wantS E 4 (pl8 E nm n s))) (hB : ∀ v' f, G8 (am_u (am_u (am_u (am_u (am_u (am_u v 399 (8 * sd + n) (nI (numV E 0 (pl2 E nm n s)))) 400 (8 * sd + n) (nI (numV E 0 (pl3 E nm n s)))) 401 (8 * sd + n) (nI (numV E 0 (pl4 E nm n s)))) 402 (8 * sd + n) (nI (numV E 1 (pl5 E nm n s)))) 403 (8 * sd + n) (nI (numV E 0 (pl6 E nm n s)))) 404 (8 * sd + n) (bI (plK E nm n s))) v' → MS' E v' (wantS E 4 (pl8 E nm n s)) → (wantS E 4 (pl8 E nm n s)).1 = .inl f → Q none (428, 26053, KD, RF, v', w)) (hG : ∀ v' t', G8 (am_u (am_u (am_u (am_u (am_u (am_u v 399 (8 * sd + n) (nI (numV E 0 (pl2 E nm n s)))) 400 (8 * sd + n) (nI (numV E 0 (pl3 E nm n s)))) 401 (8 * sd + n) (nI (numV E 0 (pl4 E nm n s)))) 402 (8 * sd + n) (nI (numV E 1 (pl5 E nm n s)))) 403 (8 * sd + n) (nI (numV E 0 (pl6 E nm n s)))) 404 (8 * sd + n) (bI (plK E nm n s))) v' → MS' E v' (wantS E 4 (pl8 E nm n s)) → (wantS E 4 (pl8 E nm n s)).1 = .inr t' → Q none (428, 26053, KD, RF, am_u (am_u v' 388 20 (nI (n + 1))) 398 sd (nI (n + 1)), am_uL w 396 n (lN (nameV E (pl1 E s))))) : am_Go am_X0 (d + 3) k_Model_tellPilgrim 186 ([.ref 388, .int (nI (8 * sd + n)), .int tok, x3], [], (428, 26053, KD, RF, v1, w)) Q := by
  have gL := hE.1.1
  cases hr : (wantS E 4 (pl8 E nm n s)).1 with
  | inl f =>
    have s2 : MB v1 f.1 f.2 := by have s2 := s1; unfold MS' at s2; rw [hr] at s2; exact s2
    have b13 : v1 388 13 = nI f.1 := s2.1
    have hk1 : ¬ nI f.1 ≤ 0 := nI_nle s2.2.1 (by have := s2.2.2.1; omega)
    refine go_at (blk := b_Model_tellPilgrim_186) rfl ?_
    simp (disch := omega) only [b_Model_tellPilgrim_186, be_6, be_33, be_50_5, kc_388, List.getD_cons_zero, List.getD_cons_succ, List.set_cons_zero, List.set_cons_succ, List.length_cons, List.length_nil, pk_I, pk_A, pr_A, pi_I, st_s, st_n, if_true, if_false, eq_self, d_if, d_ju, d_re, d_ca, cat0, cat1, cat2, cat3, fr_z, fr_s, cc_I, cc_A, cc_N, Nat.reduceAdd, Nat.reduceLT, Nat.reduceLeDiff, Nat.reduceEqDiff, not_true, not_false_iff, z1_0, z1_1, Bool.and_self, Bool.true_and, Bool.and_true, nI_add, pk_mul, nI_clamp, decide_true, Nat.le_refl, bI_eq, bI_z1, nI_ltI, nI_leI, am_u_at, am_u_ne, upd_at, upd_ne, pk_L, cc_L, nI_eq, nI_z, z_le, z_lt, b13, hk1]
    refine go_at (blk := b_Model_tellPilgrim_193) rfl ?_
    simp (disch := omega) only [b_Model_tellPilgrim_193, be_56, List.getD_cons_zero, List.getD_cons_succ, List.set_cons_zero, List.set_cons_succ, List.length_cons, List.length_nil, pk_I, pk_A, pr_A, pi_I, st_s, st_n, if_true, if_false, eq_self, d_if, d_ju, d_re, d_ca, cat0, cat1, cat2, cat3, fr_z, fr_s, cc_I, cc_A, cc_N, Nat.reduceAdd, Nat.reduceLT, Nat.reduceLeDiff, Nat.reduceEqDiff, not_true, not_false_iff, z1_0, z1_1, Bool.and_self, Bool.true_and, Bool.and_true, nI_add, pk_mul, nI_clamp, decide_true, Nat.le_refl, bI_eq, bI_z1, nI_ltI, nI_leI, am_u_at, am_u_ne, upd_at, upd_ne, pk_L, cc_L, nI_eq, nI_z, z_le, z_lt, b13, hk1]
    exact hB v1 f g1 s1 hr
  | inr t' =>
    have s2 : MG E v1 t' (wantS E 4 (pl8 E nm n s)).2.1 (wantS E 4 (pl8 E nm n s)).2.2 := by have s2 := s1; unfold MS' at s2; rw [hr] at s2; exact s2
    have b13 : v1 388 13 = nI 0 := s2.2.2.1
    obtain ⟨t1, h1, hk1⟩ := pl_nm hr
    obtain ⟨etk, ht1⟩ := htok t1 h1
    have e20 : v1 388 20 = nI n := by rw [g1.2 20 (by omega) (by omega) (by omega) (by omega) (by omega)]; simp (disch := omega) only [am_u_ne]; exact h20
    have e19 : v1 388 19 = nI sd := by rw [g1.2 19 (by omega) (by omega) (by omega) (by omega) (by omega)]; simp (disch := omega) only [am_u_ne]; exact h19
    have e398 : v1 398 sd = nI n := by rw [g1.1 398 (by omega)]; simp (disch := omega) only [am_u_ne]; exact h398
    have ew : w 394 t1 = lN (nameV E (pl1 E s)) := by
      unfold nameV
      rw [h1]
      dsimp only
      rw [if_pos hk1]
      exact (hE.2 t1 ht1).2.2.2 hk1
    subst etk
    refine go_at (blk := b_Model_tellPilgrim_186) rfl ?_
    simp (disch := omega) only [b_Model_tellPilgrim_186, be_6, be_33, be_50_5, kc_388, List.getD_cons_zero, List.getD_cons_succ, List.set_cons_zero, List.set_cons_succ, List.length_cons, List.length_nil, pk_I, pk_A, pr_A, pi_I, st_s, st_n, if_true, if_false, eq_self, d_if, d_ju, d_re, d_ca, cat0, cat1, cat2, cat3, fr_z, fr_s, cc_I, cc_A, cc_N, Nat.reduceAdd, Nat.reduceLT, Nat.reduceLeDiff, Nat.reduceEqDiff, not_true, not_false_iff, z1_0, z1_1, Bool.and_self, Bool.true_and, Bool.and_true, nI_add, pk_mul, nI_clamp, decide_true, Nat.le_refl, bI_eq, bI_z1, nI_ltI, nI_leI, am_u_at, am_u_ne, upd_at, upd_ne, pk_L, cc_L, nI_eq, nI_z, z_le, z_lt, b13, e20, e398, e19, ew]
    refine go_at (blk := b_Model_tellPilgrim_194) rfl ?_
    simp (disch := omega) only [b_Model_tellPilgrim_194, be_6, be_34, be_33, be_4, be_41, be_46, be_30I, be_30A, be_1, be_12, be_35, be_32, be_38, be_43, be_56, kc_388, rf_388_21, rf_388_8, ka_394, ka_396, rf_388_23, ka_398, List.getD_cons_zero, List.getD_cons_succ, List.set_cons_zero, List.set_cons_succ, List.length_cons, List.length_nil, pk_I, pk_A, pr_A, pi_I, st_s, st_n, if_true, if_false, eq_self, d_if, d_ju, d_re, d_ca, cat0, cat1, cat2, cat3, fr_z, fr_s, cc_I, cc_A, cc_N, Nat.reduceAdd, Nat.reduceLT, Nat.reduceLeDiff, Nat.reduceEqDiff, not_true, not_false_iff, z1_0, z1_1, Bool.and_self, Bool.true_and, Bool.and_true, nI_add, pk_mul, nI_clamp, decide_true, Nat.le_refl, bI_eq, bI_z1, nI_ltI, nI_leI, am_u_at, am_u_ne, upd_at, upd_ne, pk_L, cc_L, nI_eq, nI_z, z_le, z_lt, b13, e20, e398, e19, ew]
    exact hG v1 t' g1 s1 hr
set_option maxHeartbeats 2000000 in
theorem r_pl34b {d : Nat} {v : Nat → Nat → Int32} {w : Nat → Nat → Int64} {Q : Option Value → am_H → Prop} {kx n k p : Nat} {tok : Int32} (hn : n ≤ 8) (h20 : v 388 20 = nI n) (hB : MB v k p) (hQ : am_Go am_X0 d k_Model_tellPilgrim 77 ([.ref 388, .int (nI kx), .int tok, .int (nI 0)], [], (428, 26053, KD, RF, v, w)) Q) : am_Go am_X0 d k_Model_tellPilgrim 34 ([.ref 388, .int (nI kx), .int tok, .int (nI 0)], [], (428, 26053, KD, RF, v, w)) Q := by
  have b13 : v 388 13 = nI k := hB.1
  have hk0 : ¬ nI k = 0 := nI_ne0 hB.2.1 (by have := hB.2.2.1; omega)
  by_cases h0 : 0 < n
  · have h0' : ¬ n ≤ 0 := by omega
    refine go_at (blk := b_Model_tellPilgrim_34) rfl ?_
    simp (disch := omega) only [b_Model_tellPilgrim_34, be_4, be_6, be_33, be_49_3, kc_388, List.getD_cons_zero, List.getD_cons_succ, List.set_cons_zero, List.set_cons_succ, List.length_cons, List.length_nil, pk_I, pk_A, pr_A, pi_I, st_s, st_n, if_true, if_false, eq_self, d_if, d_ju, d_re, d_ca, cat0, cat1, cat2, cat3, fr_z, fr_s, cc_I, cc_A, cc_N, Nat.reduceAdd, Nat.reduceLT, Nat.reduceLeDiff, Nat.reduceEqDiff, not_true, not_false_iff, z1_0, z1_1, Bool.and_self, Bool.true_and, Bool.and_true, nI_add, pk_mul, nI_clamp, decide_true, Nat.le_refl, bI_eq, bI_z1, nI_ltI, nI_leI, am_u_at, am_u_ne, upd_at, upd_ne, nI_eq, h20, b13, hk0, h0']
    refine go_at (blk := b_Model_tellPilgrim_42) rfl ?_
    simp (disch := omega) only [b_Model_tellPilgrim_42, be_6, be_33, be_50_1, kc_388, List.getD_cons_zero, List.getD_cons_succ, List.set_cons_zero, List.set_cons_succ, List.length_cons, List.length_nil, pk_I, pk_A, pr_A, pi_I, st_s, st_n, if_true, if_false, eq_self, d_if, d_ju, d_re, d_ca, cat0, cat1, cat2, cat3, fr_z, fr_s, cc_I, cc_A, cc_N, Nat.reduceAdd, Nat.reduceLT, Nat.reduceLeDiff, Nat.reduceEqDiff, not_true, not_false_iff, z1_0, z1_1, Bool.and_self, Bool.true_and, Bool.and_true, nI_add, pk_mul, nI_clamp, decide_true, Nat.le_refl, bI_eq, bI_z1, nI_ltI, nI_leI, am_u_at, am_u_ne, upd_at, upd_ne, nI_eq, h20, b13, hk0, h0']
    exact hQ
  · have h0' : n ≤ 0 := by omega
    refine go_at (blk := b_Model_tellPilgrim_34) rfl ?_
    simp (disch := omega) only [b_Model_tellPilgrim_34, be_4, be_6, be_33, be_49_3, kc_388, List.getD_cons_zero, List.getD_cons_succ, List.set_cons_zero, List.set_cons_succ, List.length_cons, List.length_nil, pk_I, pk_A, pr_A, pi_I, st_s, st_n, if_true, if_false, eq_self, d_if, d_ju, d_re, d_ca, cat0, cat1, cat2, cat3, fr_z, fr_s, cc_I, cc_A, cc_N, Nat.reduceAdd, Nat.reduceLT, Nat.reduceLeDiff, Nat.reduceEqDiff, not_true, not_false_iff, z1_0, z1_1, Bool.and_self, Bool.true_and, Bool.and_true, nI_add, pk_mul, nI_clamp, decide_true, Nat.le_refl, bI_eq, bI_z1, nI_ltI, nI_leI, am_u_at, am_u_ne, upd_at, upd_ne, nI_eq, h20, h0']
    exact hQ
set_option maxHeartbeats 2000000 in
theorem r_tellPil {d : Nat} {v : Nat → Nat → Int32} {w : Nat → Nat → Int64} {Q : Option Value → am_H → Prop} {E : ENV} {n sd : Nat} {nm : Nat → Nat} {s : SG} (hE : ME E v w) (hs : MS' E v s) (hk : ∀ t, s.1 = .inr t → eK E t ≠ 0 ∧ eK E t ≠ 3) (hsd : sd < 2) (hn : n < 8) (h19 : v 388 19 = nI sd) (h20 : v 388 20 = nI n) (h398 : v 398 sd = nI n) (hnm : ∀ i, i < n → w 396 i = lN (nm i) ∧ nm i < 2 ^ 63) (hB : ∀ v' f, G8 (am_u (am_u (am_u (am_u (am_u (am_u v 399 (8 * sd + n) (nI (numV E 0 (pl2 E nm n s)))) 400 (8 * sd + n) (nI (numV E 0 (pl3 E nm n s)))) 401 (8 * sd + n) (nI (numV E 0 (pl4 E nm n s)))) 402 (8 * sd + n) (nI (numV E 1 (pl5 E nm n s)))) 403 (8 * sd + n) (nI (numV E 0 (pl6 E nm n s)))) 404 (8 * sd + n) (bI (plK E nm n s))) v' → MS' E v' (wantS E 4 (pl8 E nm n s)) → (wantS E 4 (pl8 E nm n s)).1 = .inl f → Q none (428, 26053, KD, RF, v', w)) (hG : ∀ v' t', G8 (am_u (am_u (am_u (am_u (am_u (am_u v 399 (8 * sd + n) (nI (numV E 0 (pl2 E nm n s)))) 400 (8 * sd + n) (nI (numV E 0 (pl3 E nm n s)))) 401 (8 * sd + n) (nI (numV E 0 (pl4 E nm n s)))) 402 (8 * sd + n) (nI (numV E 1 (pl5 E nm n s)))) 403 (8 * sd + n) (nI (numV E 0 (pl6 E nm n s)))) 404 (8 * sd + n) (bI (plK E nm n s))) v' → MS' E v' (wantS E 4 (pl8 E nm n s)) → (wantS E 4 (pl8 E nm n s)).1 = .inr t' → Q none (428, 26053, KD, RF, am_u (am_u v' 388 20 (nI (n + 1))) 398 sd (nI (n + 1)), am_uL w 396 n (lN (nameV E (pl1 E s))))) : am_Ca (d + 4) M_Model_tellPilgrim [.ref 388] (428, 26053, KD, RF, v, w) Q := by
  refine ca_in (k := k_Model_tellPilgrim) (nL := 4) rfl (Nat.le_of_ble_eq_true rfl) ?_
  show am_Go am_X0 _ k_Model_tellPilgrim 0 ([.ref 388, .null, .null, .null], [], _) _
  refine go_at (blk := b_Model_tellPilgrim_0) rfl ?_
  simp (disch := omega) only [b_Model_tellPilgrim_0, be_6, be_57_0, kc_388, List.getD_cons_zero, List.getD_cons_succ, List.set_cons_zero, List.set_cons_succ, List.length_cons, List.length_nil, pk_I, pk_A, pr_A, pi_I, st_s, st_n, if_true, if_false, eq_self, d_if, d_ju, d_re, d_ca, cat0, cat1, cat2, cat3, fr_z, fr_s, cc_I, cc_A, cc_N, Nat.reduceAdd, Nat.reduceLT, Nat.reduceLeDiff, Nat.reduceEqDiff, not_true, not_false_iff, z1_0, z1_1, Bool.and_self, Bool.true_and, Bool.and_true, nI_add, pk_mul, nI_clamp, decide_true, Nat.le_refl, bI_eq, bI_z1, nI_ltI, nI_leI, am_u_at, am_u_ne, upd_at, upd_ne, pk_L, cc_L, nI_eq, nI_z, z_le, z_lt]
  refine r_goesOn (s := s) hE hs hk ?_
  intro v1 f1 s1
  have hE1 := ME_8 hE f1
  have e19 : v1 388 19 = nI sd := by rw [f1.2 19 (by omega) (by omega) (by omega) (by omega) (by omega)]; exact h19
  have e398 : v1 398 sd = nI n := by rw [f1.1 398 (by omega)]; exact h398
  have htok : ∀ t1, (pl1 E s).1 = .inr t1 → v1 388 11 = nI t1 ∧ t1 ≤ eL E := by
    intro t1 h1
    have s2 : MS' E v1 (pl1 E s) := s1
    unfold MS' at s2
    rw [h1] at s2
    exact ⟨s2.1, s2.2.1⟩
  have hkx : 8 * sd + n < 16 := by omega
  refine go_at (blk := b_Model_tellPilgrim_4) rfl ?_
  simp (disch := omega) only [b_Model_tellPilgrim_4, be_1, be_6, be_33, be_14, be_34, be_38, be_12, be_7, be_57_1, kc_388, rf_388_23, ka_398, List.getD_cons_zero, List.getD_cons_succ, List.set_cons_zero, List.set_cons_succ, List.length_cons, List.length_nil, pk_I, pk_A, pr_A, pi_I, st_s, st_n, if_true, if_false, eq_self, d_if, d_ju, d_re, d_ca, cat0, cat1, cat2, cat3, fr_z, fr_s, cc_I, cc_A, cc_N, Nat.reduceAdd, Nat.reduceLT, Nat.reduceLeDiff, Nat.reduceEqDiff, not_true, not_false_iff, z1_0, z1_1, Bool.and_self, Bool.true_and, Bool.and_true, nI_add, pk_mul, nI_clamp, decide_true, Nat.le_refl, bI_eq, bI_z1, nI_ltI, nI_leI, am_u_at, am_u_ne, upd_at, upd_ne, pk_L, cc_L, nI_eq, nI_z, z_le, z_lt, e19, e398]
  refine r_must (s := pl1 E s) (j := 1) hE1 s1 (by omega) (by omega) (by omega) ?_
  intro v2 f2 s2
  have f12 := G8_t f1 f2
  have hE2 := ME_8 hE1 f2
  have e20 : v2 388 20 = nI n := by rw [f12.2 20 (by omega) (by omega) (by omega) (by omega) (by omega)]; exact h20
  refine go_at (blk := b_Model_tellPilgrim_32) rfl ?_
  simp (disch := omega) only [b_Model_tellPilgrim_32, be_1, be_7, be_0, List.getD_cons_zero, List.getD_cons_succ, List.set_cons_zero, List.set_cons_succ, List.length_cons, List.length_nil, pk_I, pk_A, pr_A, pi_I, st_s, st_n, if_true, if_false, eq_self, d_if, d_ju, d_re, d_ca, cat0, cat1, cat2, cat3, fr_z, fr_s, cc_I, cc_A, cc_N, Nat.reduceAdd, Nat.reduceLT, Nat.reduceLeDiff, Nat.reduceEqDiff, not_true, not_false_iff, z1_0, z1_1, Bool.and_self, Bool.true_and, Bool.and_true, nI_add, pk_mul, nI_clamp, decide_true, Nat.le_refl, bI_eq, bI_z1, nI_ltI, nI_leI, am_u_at, am_u_ne, upd_at, upd_ne, pk_L, cc_L, nI_eq, nI_z, z_le, z_lt, e19, e398]
  have nx : ∀ v3 x3, G8 v v3 → MS' E v3 (pl2 E nm n s) → am_Go am_X0 (d + 3) k_Model_tellPilgrim 77 ([.ref 388, .int (nI (8 * sd + n)), .int (v1 388 11), x3], [], (428, 26053, KD, RF, v3, w)) Q := by
    intro v3 x3 f3 s3
    refine r_pl77 (s := s) (nm := nm) (n := n) (ME_8 hE f3) s3 hkx ?_
    intro v9 f9 s9
    refine r_pl186 (n := n) (sd := sd) (nm := nm) (s := s) hE hsd hn h19 h20 h398 htok ?_ s9 hB hG
    exact G8_t (G8_u (G8_u (G8_u (G8_u (G8_u (G8_u f3 (by omega)) (by omega)) (by omega)) (by omega)) (by omega)) (by omega)) f9
  cases h1 : (pl1 E s).1 with
  | inl f =>
    have e2 : MS' E v2 (pl2 E nm n s) := by
      unfold MS' wantS at s2
      rw [h1] at s2
      unfold MS' pl2 nameS
      rw [h1]
      dsimp only
      rw [h1]
      exact s2
    have b2 : MB v2 f.1 f.2 := by
      unfold MS' wantS at s2
      rw [h1] at s2
      exact s2
    exact r_pl34b (n := n) (by omega) e20 b2 (nx v2 _ f12 e2)
  | inr t1 =>
    obtain ⟨et1, hl1⟩ := htok t1 h1
    have g1 : MG E v1 t1 (pl1 E s).2.1 (pl1 E s).2.2 := by
      have s3 : MS' E v1 (pl1 E s) := s1
      unfold MS' at s3
      rw [h1] at s3
      exact s3
    by_cases hk1 : eK E t1 = 1
    · cases hr : tkR E t1 with
      | inl f =>
        have b2 : MB v2 f.1 f.2 := by
          unfold MS' wantS at s2
          rw [h1] at s2
          dsimp only [bR] at s2
          unfold wnt at s2
          rw [if_pos hk1, hr] at s2
          exact s2
        have e2 : MS' E v2 (pl2 E nm n s) := by
          have e3 : (pl2 E nm n s).1 = .inl f := by
            unfold pl2 nameS
            rw [h1]
            dsimp only
            rw [if_pos hk1]
            have e4 : ∀ x : SG, x.1 = .inr t1 → (takeS E x).1 = .inl f := by
              intro x hx
              unfold takeS
              rw [hx]
              exact hr
            split
            · exact e4 _ (by rw [la_1]; exact h1)
            · exact e4 _ h1
          unfold MS'
          rw [e3]
          exact b2
        exact r_pl34b (n := n) (by omega) e20 b2 (nx v2 _ f12 e2)
      | inr t2 =>
        obtain ⟨rfl, ht4⟩ := tk_lt hr
        have g2 : MG E v2 (t1 + 1) (pl1 E s).2.1 (pl1 E s).2.2 := by
          unfold MS' wantS at s2
          rw [h1] at s2
          dsimp only [bR] at s2
          unfold wnt at s2
          rw [if_pos hk1, hr] at s2
          exact s2
        rw [et1]
        refine r_names (nm := nm) (n := n) hE2 g2 g2.2.1 (fun z => (g1.2.2.2.2.2 z).2) e20 (by omega) hnm hk1 ?_
        intro v3 f3 g3
        rw [← et1]
        refine nx v3 _ (G8_t f12 f3) ?_
        have e3 : pl2 E nm n s = (.inr (t1 + 1), (ltP E t1 (pl1 E s).2.1 (pl1 E s).2.2 (toldB nm n (eM E t1)))) := by
          rcases hx1 : pl1 E s with ⟨r1, l1, p1⟩
          unfold pl2
          rw [hx1] at h1 ⊢
          have h1 : r1 = .inr t1 := h1
          rw [h1]
          unfold nameS
          dsimp only
          rw [if_pos hk1]
          cases hb : toldB nm n (eM E t1) with
          | true =>
            rw [if_pos rfl]
            unfold takeS
            rw [la_1, ltP_l]
            show (tkR E t1, _) = _
            rw [hr]
          | false =>
            rw [if_neg (by decide)]
            unfold takeS ltP
            rw [if_neg (by decide)]
            show (tkR E t1, _) = _
            rw [hr]
        unfold MS'
        rw [e3]
        exact g3
    · have b2 : MB v2 1 (eP E t1) := by
        unfold MS' wantS at s2
        rw [h1] at s2
        dsimp only [bR] at s2
        unfold wnt at s2
        rw [if_neg hk1] at s2
        exact s2
      have e2 : MS' E v2 (pl2 E nm n s) := by
        have e3 : (pl2 E nm n s).1 = .inl (1, eP E t1) := by
          unfold pl2 nameS
          rw [h1]
          dsimp only
          rw [if_neg hk1]
          unfold failS
          rw [h1]
          rfl
        unfold MS'
        rw [e3]
        exact b2
      exact r_pl34b (n := n) (by omega) e20 b2 (nx v2 _ f12 e2)
