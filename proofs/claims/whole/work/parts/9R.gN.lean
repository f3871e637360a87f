/-! laid by wip/whole/gN.py: the reference: a pilgrim, from his step on -/
theorem r_wrong2 {d : Nat} {v : Nat → Nat → Int32} {w : Nat → Nat → Int64} {Q : Option Value → am_H → Prop} {E : ENV} {j : Nat} (hE : ME E v w) (hj : j ≤ eL E) (g13 : v 388 13 = nI 0) (g15 : v 388 15 = nI 3) (g16 : v 388 16 = nI (eP E j)) (hQ : Q none (428, 26053, KD, RF, v, w)) : am_Ca (d + 1) M_Model_wrong [.ref 388, .int (nI 3), .int (nI j)] (428, 26053, KD, RF, v, w) Q := by
  obtain ⟨gk, gp, gv, gn⟩ := hE.2 j hj
  have gL := hE.1.1
  have gp9 := (hE.1.2.2.2.2.1 j hj).1
  have n3z : ¬ nI 3 = 0 := by decide
  refine ca_in (k := k_Model_wrong) (nL := 4) rfl (Nat.le_of_ble_eq_true rfl) ?_
  show am_Go am_X0 _ k_Model_wrong 0 ([.ref 388, .int (nI 3), .int (nI j), .null], [], _) _
  refine go_at (blk := b_Model_wrong_0) rfl ?_
  simp (disch := omega) only [b_Model_wrong_0, be_6, be_34, be_4, be_38, be_7, be_33, be_50_4, kc_388, rf_388_6, ka_392, List.getD_cons_zero, List.getD_cons_succ, List.set_cons_zero, List.set_cons_succ, List.length_cons, List.length_nil, pk_I, pk_A, pr_A, pi_I, st_s, st_n, if_true, if_false, eq_self, d_if, d_ju, d_re, d_ca, cat0, cat1, cat2, cat3, fr_z, fr_s, cc_I, cc_A, cc_N, Nat.reduceAdd, Nat.reduceLT, Nat.reduceLeDiff, Nat.reduceEqDiff, not_true, not_false_iff, z1_0, z1_1, Bool.and_self, Bool.true_and, Bool.and_true, nI_add, pk_mul, nI_clamp, decide_true, Nat.le_refl, bI_eq, bI_z1, nI_ltI, nI_leI, gp, g13, g15, g16, nI_eq, Nat.lt_irrefl, n3z, nI_z, z_le, z_lt]
  refine go_at (blk := b_Model_wrong_14) rfl ?_
  simp (disch := omega) only [b_Model_wrong_14, be_6, be_33, be_50_0, kc_388, List.getD_cons_zero, List.getD_cons_succ, List.set_cons_zero, List.set_cons_succ, List.length_cons, List.length_nil, pk_I, pk_A, pr_A, pi_I, st_s, st_n, if_true, if_false, eq_self, d_if, d_ju, d_re, d_ca, cat0, cat1, cat2, cat3, fr_z, fr_s, cc_I, cc_A, cc_N, Nat.reduceAdd, Nat.reduceLT, Nat.reduceLeDiff, Nat.reduceEqDiff, not_true, not_false_iff, z1_0, z1_1, Bool.and_self, Bool.true_and, Bool.and_true, nI_add, pk_mul, nI_clamp, decide_true, Nat.le_refl, bI_eq, bI_z1, nI_ltI, nI_leI, gp, g13, g15, g16, nI_eq, Nat.lt_irrefl, n3z, nI_z, z_le, z_lt]
  refine go_at (blk := b_Model_wrong_21) rfl ?_
  simp (disch := omega) only [b_Model_wrong_21, be_4, be_6, be_33, be_49_4, kc_388, List.getD_cons_zero, List.getD_cons_succ, List.set_cons_zero, List.set_cons_succ, List.length_cons, List.length_nil, pk_I, pk_A, pr_A, pi_I, st_s, st_n, if_true, if_false, eq_self, d_if, d_ju, d_re, d_ca, cat0, cat1, cat2, cat3, fr_z, fr_s, cc_I, cc_A, cc_N, Nat.reduceAdd, Nat.reduceLT, Nat.reduceLeDiff, Nat.reduceEqDiff, not_true, not_false_iff, z1_0, z1_1, Bool.and_self, Bool.true_and, Bool.and_true, nI_add, pk_mul, nI_clamp, decide_true, Nat.le_refl, bI_eq, bI_z1, nI_ltI, nI_leI, gp, g13, g15, g16, nI_eq, Nat.lt_irrefl, n3z, nI_z, z_le, z_lt]
  refine go_at (blk := b_Model_wrong_29) rfl ?_
  simp (disch := omega) only [b_Model_wrong_29, be_4, be_6, be_33, be_49_1, kc_388, List.getD_cons_zero, List.getD_cons_succ, List.set_cons_zero, List.set_cons_succ, List.length_cons, List.length_nil, pk_I, pk_A, pr_A, pi_I, st_s, st_n, if_true, if_false, eq_self, d_if, d_ju, d_re, d_ca, cat0, cat1, cat2, cat3, fr_z, fr_s, cc_I, cc_A, cc_N, Nat.reduceAdd, Nat.reduceLT, Nat.reduceLeDiff, Nat.reduceEqDiff, not_true, not_false_iff, z1_0, z1_1, Bool.and_self, Bool.true_and, Bool.and_true, nI_add, pk_mul, nI_clamp, decide_true, Nat.le_refl, bI_eq, bI_z1, nI_ltI, nI_leI, gp, g13, g15, g16, nI_eq, Nat.lt_irrefl, n3z, nI_z, z_le, z_lt]
  refine go_at (blk := b_Model_wrong_37) rfl ?_
  simp (disch := omega) only [b_Model_wrong_37, be_4, be_6, be_33, be_49_2, kc_388, List.getD_cons_zero, List.getD_cons_succ, List.set_cons_zero, List.set_cons_succ, List.length_cons, List.length_nil, pk_I, pk_A, pr_A, pi_I, st_s, st_n, if_true, if_false, eq_self, d_if, d_ju, d_re, d_ca, cat0, cat1, cat2, cat3, fr_z, fr_s, cc_I, cc_A, cc_N, Nat.reduceAdd, Nat.reduceLT, Nat.reduceLeDiff, Nat.reduceEqDiff, not_true, not_false_iff, z1_0, z1_1, Bool.and_self, Bool.true_and, Bool.and_true, nI_add, pk_mul, nI_clamp, decide_true, Nat.le_refl, bI_eq, bI_z1, nI_ltI, nI_leI, gp, g13, g15, g16, nI_eq, Nat.lt_irrefl, n3z, nI_z, z_le, z_lt]
  refine go_at (blk := b_Model_wrong_45) rfl ?_
  simp (disch := omega) only [b_Model_wrong_45, be_56, List.getD_cons_zero, List.getD_cons_succ, List.set_cons_zero, List.set_cons_succ, List.length_cons, List.length_nil, pk_I, pk_A, pr_A, pi_I, st_s, st_n, if_true, if_false, eq_self, d_if, d_ju, d_re, d_ca, cat0, cat1, cat2, cat3, fr_z, fr_s, cc_I, cc_A, cc_N, Nat.reduceAdd, Nat.reduceLT, Nat.reduceLeDiff, Nat.reduceEqDiff, not_true, not_false_iff, z1_0, z1_1, Bool.and_self, Bool.true_and, Bool.and_true, nI_add, pk_mul, nI_clamp, decide_true, Nat.le_refl, bI_eq, bI_z1, nI_ltI, nI_leI, gp, g13, g15, g16, nI_eq, Nat.lt_irrefl, n3z, nI_z, z_le, z_lt]
  exact hQ
theorem G8_u {V V' : Nat → Nat → Int32} {c0 k : Nat} {x : Int32} (h : G8 V V') (hc : c0 ≠ 388) : G8 (am_u V c0 k x) (am_u V' c0 k x) := by
  refine ⟨fun c h2 => ?_, fun j a1 a2 a3 a4 a5 => ?_⟩
  · by_cases e : c = c0
    · rw [e, am_u_at, am_u_at, h.1 c0 hc]
    · rw [am_u_ne e, am_u_ne e, h.1 c h2]
  · rw [am_u_ne (by omega), am_u_ne (by omega)]
    exact h.2 j a1 a2 a3 a4 a5
theorem told_s {nm : Nat → Nat} {i x : Nat} : toldB nm (i + 1) x = (toldB nm i x || decide (nm i = x)) := by
  have h := pF_no (P := fun i => decide (nm i = x)) (m := i)
  unfold toldB
  cases h1 : pF (fun i => decide (nm i = x)) (i + 1) 0 with
  | none =>
    rw [h1] at h
    cases h2 : pF (fun i => decide (nm i = x)) i 0 with
    | none =>
      rw [h2] at h
      have h3 : decide (nm i = x) = false := by simpa using h
      rw [h3]
      rfl
    | some y =>
      rw [h2] at h
      cases h
  | some z =>
    rw [h1] at h
    cases h2 : pF (fun i => decide (nm i = x)) i 0 with
    | none =>
      rw [h2] at h
      have h3 : decide (nm i = x) = true := by simpa using h
      rw [h3]
      rfl
    | some y => rfl
set_option maxHeartbeats 2000000 in
theorem r_pl77 {d : Nat} {v : Nat → Nat → Int32} {w : Nat → Nat → Int64} {Q : Option Value → am_H → Prop} {E : ENV} {n kx : Nat} {nm : Nat → Nat} {s : SG} {tok : Int32} {x3 : Value} (hE : ME E v w) (hs : MS' E v (pl2 E nm n s)) (hkx : kx < 16) (hQ : ∀ v', G8 (am_u (am_u (am_u (am_u (am_u (am_u v 399 kx (nI (numV E 0 (pl2 E nm n s)))) 400 kx (nI (numV E 0 (pl3 E nm n s)))) 401 kx (nI (numV E 0 (pl4 E nm n s)))) 402 kx (nI (numV E 1 (pl5 E nm n s)))) 403 kx (nI (numV E 0 (pl6 E nm n s)))) 404 kx (bI (plK E nm n s))) v' → MS' E v' (wantS E 4 (pl8 E nm n s)) → am_Go am_X0 (d + 3) k_Model_tellPilgrim 186 ([.ref 388, .int (nI kx), .int tok, x3], [], (428, 26053, KD, RF, v', w)) Q) : am_Go am_X0 (d + 3) k_Model_tellPilgrim 77 ([.ref 388, .int (nI kx), .int tok, x3], [], (428, 26053, KD, RF, v, w)) Q := by
  refine go_at (blk := b_Model_tellPilgrim_77) rfl ?_
  simp (disch := omega) only [b_Model_tellPilgrim_77, be_6, be_34, be_4, be_1, be_57_2, kc_388, rf_388_24, List.getD_cons_zero, List.getD_cons_succ, List.set_cons_zero, List.set_cons_succ, List.length_cons, List.length_nil, pk_I, pk_A, pr_A, pi_I, st_s, st_n, if_true, if_false, eq_self, d_if, d_ju, d_re, d_ca, cat0, cat1, cat2, cat3, fr_z, fr_s, cc_I, cc_A, cc_N, Nat.reduceAdd, Nat.reduceLT, Nat.reduceLeDiff, Nat.reduceEqDiff, not_true, not_false_iff, z1_0, z1_1, Bool.and_self, Bool.true_and, Bool.and_true, nI_add, pk_mul, nI_clamp, decide_true, Nat.le_refl, bI_eq, bI_z1, nI_ltI, nI_leI, am_u_at, am_u_ne, upd_at, upd_ne, nI_eq]
  refine r_bounded (lo := 0) (hi := 99) (s := pl2 E nm n s) hE hs (by omega) (by omega) ?_
  intro v3 f3 s3
  have hE3 : ME E (am_u v3 399 kx (nI (numV E 0 (pl2 E nm n s)))) w := ME_w (ME_8 hE f3) (by rw [am_u_ne (by omega)]) (by rw [am_u_ne (by omega)]) (by rw [am_u_ne (by omega)])
  have t3 : MS' E (am_u v3 399 kx (nI (numV E 0 (pl2 E nm n s)))) (pl3 E nm n s) := MS_w s3 (fun k hk => by rw [am_u_ne (by omega)])
  refine go_at (blk := b_Model_tellPilgrim_89) rfl ?_
  simp (disch := omega) only [b_Model_tellPilgrim_89, be_43, be_6, be_34, be_4, be_1, be_57_2, ka_399, kc_388, rf_388_25, List.getD_cons_zero, List.getD_cons_succ, List.set_cons_zero, List.set_cons_succ, List.length_cons, List.length_nil, pk_I, pk_A, pr_A, pi_I, st_s, st_n, if_true, if_false, eq_self, d_if, d_ju, d_re, d_ca, cat0, cat1, cat2, cat3, fr_z, fr_s, cc_I, cc_A, cc_N, Nat.reduceAdd, Nat.reduceLT, Nat.reduceLeDiff, Nat.reduceEqDiff, not_true, not_false_iff, z1_0, z1_1, Bool.and_self, Bool.true_and, Bool.and_true, nI_add, pk_mul, nI_clamp, decide_true, Nat.le_refl, bI_eq, bI_z1, nI_ltI, nI_leI, am_u_at, am_u_ne, upd_at, upd_ne, nI_eq]
  refine r_bounded (lo := 0) (hi := 4) (s := pl3 E nm n s) hE3 t3 (by omega) (by omega) ?_
  intro v4 f4 s4
  have hE4 : ME E (am_u v4 400 kx (nI (numV E 0 (pl3 E nm n s)))) w := ME_w (ME_8 hE3 f4) (by rw [am_u_ne (by omega)]) (by rw [am_u_ne (by omega)]) (by rw [am_u_ne (by omega)])
  have t4 : MS' E (am_u v4 400 kx (nI (numV E 0 (pl3 E nm n s)))) (pl4 E nm n s) := MS_w s4 (fun k hk => by rw [am_u_ne (by omega)])
  refine go_at (blk := b_Model_tellPilgrim_101) rfl ?_
  simp (disch := omega) only [b_Model_tellPilgrim_101, be_43, be_6, be_34, be_4, be_1, be_57_2, ka_400, kc_388, rf_388_26, List.getD_cons_zero, List.getD_cons_succ, List.set_cons_zero, List.set_cons_succ, List.length_cons, List.length_nil, pk_I, pk_A, pr_A, pi_I, st_s, st_n, if_true, if_false, eq_self, d_if, d_ju, d_re, d_ca, cat0, cat1, cat2, cat3, fr_z, fr_s, cc_I, cc_A, cc_N, Nat.reduceAdd, Nat.reduceLT, Nat.reduceLeDiff, Nat.reduceEqDiff, not_true, not_false_iff, z1_0, z1_1, Bool.and_self, Bool.true_and, Bool.and_true, nI_add, pk_mul, nI_clamp, decide_true, Nat.le_refl, bI_eq, bI_z1, nI_ltI, nI_leI, am_u_at, am_u_ne, upd_at, upd_ne, nI_eq]
  refine r_bounded (lo := 0) (hi := 9) (s := pl4 E nm n s) hE4 t4 (by omega) (by omega) ?_
  intro v5 f5 s5
  have hE5 : ME E (am_u v5 401 kx (nI (numV E 0 (pl4 E nm n s)))) w := ME_w (ME_8 hE4 f5) (by rw [am_u_ne (by omega)]) (by rw [am_u_ne (by omega)]) (by rw [am_u_ne (by omega)])
  have t5 : MS' E (am_u v5 401 kx (nI (numV E 0 (pl4 E nm n s)))) (pl5 E nm n s) := MS_w s5 (fun k hk => by rw [am_u_ne (by omega)])
  refine go_at (blk := b_Model_tellPilgrim_114) rfl ?_
  simp (disch := omega) only [b_Model_tellPilgrim_114, be_43, be_6, be_34, be_4, be_1, be_57_2, ka_401, kc_388, rf_388_27, List.getD_cons_zero, List.getD_cons_succ, List.set_cons_zero, List.set_cons_succ, List.length_cons, List.length_nil, pk_I, pk_A, pr_A, pi_I, st_s, st_n, if_true, if_false, eq_self, d_if, d_ju, d_re, d_ca, cat0, cat1, cat2, cat3, fr_z, fr_s, cc_I, cc_A, cc_N, Nat.reduceAdd, Nat.reduceLT, Nat.reduceLeDiff, Nat.reduceEqDiff, not_true, not_false_iff, z1_0, z1_1, Bool.and_self, Bool.true_and, Bool.and_true, nI_add, pk_mul, nI_clamp, decide_true, Nat.le_refl, bI_eq, bI_z1, nI_ltI, nI_leI, am_u_at, am_u_ne, upd_at, upd_ne, nI_eq]
  refine r_bounded (lo := 1) (hi := 99) (s := pl5 E nm n s) hE5 t5 (by omega) (by omega) ?_
  intro v6 f6 s6
  have hE6 : ME E (am_u v6 402 kx (nI (numV E 1 (pl5 E nm n s)))) w := ME_w (ME_8 hE5 f6) (by rw [am_u_ne (by omega)]) (by rw [am_u_ne (by omega)]) (by rw [am_u_ne (by omega)])
  have t6 : MS' E (am_u v6 402 kx (nI (numV E 1 (pl5 E nm n s)))) (pl6 E nm n s) := MS_w s6 (fun k hk => by rw [am_u_ne (by omega)])
  refine go_at (blk := b_Model_tellPilgrim_127) rfl ?_
  simp (disch := omega) only [b_Model_tellPilgrim_127, be_43, be_6, be_34, be_4, be_1, be_57_2, ka_402, kc_388, rf_388_28, List.getD_cons_zero, List.getD_cons_succ, List.set_cons_zero, List.set_cons_succ, List.length_cons, List.length_nil, pk_I, pk_A, pr_A, pi_I, st_s, st_n, if_true, if_false, eq_self, d_if, d_ju, d_re, d_ca, cat0, cat1, cat2, cat3, fr_z, fr_s, cc_I, cc_A, cc_N, Nat.reduceAdd, Nat.reduceLT, Nat.reduceLeDiff, Nat.reduceEqDiff, not_true, not_false_iff, z1_0, z1_1, Bool.and_self, Bool.true_and, Bool.and_true, nI_add, pk_mul, nI_clamp, decide_true, Nat.le_refl, bI_eq, bI_z1, nI_ltI, nI_leI, am_u_at, am_u_ne, upd_at, upd_ne, nI_eq]
  refine r_bounded (lo := 0) (hi := 99) (s := pl6 E nm n s) hE6 t6 (by omega) (by omega) ?_
  intro v7 f7 s7
  have hE7 : ME E (am_u v7 403 kx (nI (numV E 0 (pl6 E nm n s)))) w := ME_w (ME_8 hE6 f7) (by rw [am_u_ne (by omega)]) (by rw [am_u_ne (by omega)]) (by rw [am_u_ne (by omega)])
  have t7 : MS' E (am_u v7 403 kx (nI (numV E 0 (pl6 E nm n s)))) (pl7 E nm n s) := MS_w s7 (fun k hk => by rw [am_u_ne (by omega)])
  have r7 : G8 (am_u (am_u (am_u (am_u (am_u v 399 kx (nI (numV E 0 (pl2 E nm n s)))) 400 kx (nI (numV E 0 (pl3 E nm n s)))) 401 kx (nI (numV E 0 (pl4 E nm n s)))) 402 kx (nI (numV E 1 (pl5 E nm n s)))) 403 kx (nI (numV E 0 (pl6 E nm n s)))) (am_u v7 403 kx (nI (numV E 0 (pl6 E nm n s)))) := (G8_u (G8_t (G8_u (G8_t (G8_u (G8_t (G8_u (G8_t (G8_u f3 (by omega)) f4) (by omega)) f5) (by omega)) f6) (by omega)) f7) (by omega))
  cases hr : (pl7 E nm n s).1 with
  | inl f =>
    have t7b : MB (am_u v7 403 kx (nI (numV E 0 (pl6 E nm n s)))) f.1 f.2 := by unfold MS' at t7; rw [hr] at t7; exact t7
    have b13 : v7 388 13 = nI f.1 := by have := t7b.1; rw [am_u_ne (by omega)] at this; exact this
    have hk0 : ¬ nI f.1 = 0 := nI_ne0 t7b.2.1 (by have := t7b.2.2.1; omega)
    refine go_at (blk := b_Model_tellPilgrim_140) rfl ?_
    simp (disch := omega) only [b_Model_tellPilgrim_140, be_43, be_6, be_34, be_4, be_33, be_50_1, ka_403, kc_388, rf_388_29, List.getD_cons_zero, List.getD_cons_succ, List.set_cons_zero, List.set_cons_succ, List.length_cons, List.length_nil, pk_I, pk_A, pr_A, pi_I, st_s, st_n, if_true, if_false, eq_self, d_if, d_ju, d_re, d_ca, cat0, cat1, cat2, cat3, fr_z, fr_s, cc_I, cc_A, cc_N, Nat.reduceAdd, Nat.reduceLT, Nat.reduceLeDiff, Nat.reduceEqDiff, not_true, not_false_iff, z1_0, z1_1, Bool.and_self, Bool.true_and, Bool.and_true, nI_add, pk_mul, nI_clamp, decide_true, Nat.le_refl, bI_eq, bI_z1, nI_ltI, nI_leI, am_u_at, am_u_ne, upd_at, upd_ne, b13, hk0, vb_0, nI_z]
    refine go_at (blk := b_Model_tellPilgrim_166) rfl ?_
    simp (disch := omega) only [b_Model_tellPilgrim_166, be_1, be_0, List.getD_cons_zero, List.getD_cons_succ, List.set_cons_zero, List.set_cons_succ, List.length_cons, List.length_nil, pk_I, pk_A, pr_A, pi_I, st_s, st_n, if_true, if_false, eq_self, d_if, d_ju, d_re, d_ca, cat0, cat1, cat2, cat3, fr_z, fr_s, cc_I, cc_A, cc_N, Nat.reduceAdd, Nat.reduceLT, Nat.reduceLeDiff, Nat.reduceEqDiff, not_true, not_false_iff, z1_0, z1_1, Bool.and_self, Bool.true_and, Bool.and_true, nI_add, pk_mul, nI_clamp, decide_true, Nat.le_refl, bI_eq, bI_z1, nI_ltI, nI_leI, am_u_at, am_u_ne, upd_at, upd_ne, b13, hk0, vb_0, nI_z]
    refine go_at (blk := b_Model_tellPilgrim_167) rfl ?_
    simp (disch := omega) only [b_Model_tellPilgrim_167, be_45, be_6, be_34, be_4, be_40, be_50_0, ka_404, kc_388, rf_388_29, List.getD_cons_zero, List.getD_cons_succ, List.set_cons_zero, List.set_cons_succ, List.length_cons, List.length_nil, pk_I, pk_A, pr_A, pi_I, st_s, st_n, if_true, if_false, eq_self, d_if, d_ju, d_re, d_ca, cat0, cat1, cat2, cat3, fr_z, fr_s, cc_I, cc_A, cc_N, Nat.reduceAdd, Nat.reduceLT, Nat.reduceLeDiff, Nat.reduceEqDiff, not_true, not_false_iff, z1_0, z1_1, Bool.and_self, Bool.true_and, Bool.and_true, nI_add, pk_mul, nI_clamp, decide_true, Nat.le_refl, bI_eq, bI_z1, nI_ltI, nI_leI, am_u_at, am_u_ne, upd_at, upd_ne, b13, hk0, vb_0, nI_z]
    refine go_at (blk := b_Model_tellPilgrim_181) rfl ?_
    simp (disch := omega) only [b_Model_tellPilgrim_181, be_6, be_1, be_57_1, kc_388, List.getD_cons_zero, List.getD_cons_succ, List.set_cons_zero, List.set_cons_succ, List.length_cons, List.length_nil, pk_I, pk_A, pr_A, pi_I, st_s, st_n, if_true, if_false, eq_self, d_if, d_ju, d_re, d_ca, cat0, cat1, cat2, cat3, fr_z, fr_s, cc_I, cc_A, cc_N, Nat.reduceAdd, Nat.reduceLT, Nat.reduceLeDiff, Nat.reduceEqDiff, not_true, not_false_iff, z1_0, z1_1, Bool.and_self, Bool.true_and, Bool.and_true, nI_add, pk_mul, nI_clamp, decide_true, Nat.le_refl, bI_eq, bI_z1, nI_ltI, nI_leI, am_u_at, am_u_ne, upd_at, upd_ne, b13, hk0, vb_0, nI_z]
    have hK : plK E nm n s = false := by unfold plK kdR; rw [hr]; rfl
    refine r_must (s := pl8 E nm n s) (j := 4) (ME_w hE7 (by rw [am_u_ne (by omega)]) (by rw [am_u_ne (by omega)]) (by rw [am_u_ne (by omega)])) (MS_w (s := pl8 E nm n s) (by unfold pl8; rw [hK, if_neg (by decide)]; exact t7) (fun k hk => by rw [am_u_ne (by omega)])) (by omega) (by omega) (by omega) ?_
    intro v9 f9 s9
    exact hQ v9 (G8_t (by rw [hK]; exact G8_u r7 (by omega)) f9) s9
  | inr t9 =>
    have t7g : MG E (am_u v7 403 kx (nI (numV E 0 (pl6 E nm n s)))) t9 (pl7 E nm n s).2.1 (pl7 E nm n s).2.2 := by unfold MS' at t7; rw [hr] at t7; exact t7
    have g13 : v7 388 13 = nI 0 := by have := t7g.2.2.1; rw [am_u_ne (by omega)] at this; exact this
    refine go_at (blk := b_Model_tellPilgrim_140) rfl ?_
    simp (disch := omega) only [b_Model_tellPilgrim_140, be_43, be_6, be_34, be_4, be_33, be_50_1, ka_403, kc_388, rf_388_29, List.getD_cons_zero, List.getD_cons_succ, List.set_cons_zero, List.set_cons_succ, List.length_cons, List.length_nil, pk_I, pk_A, pr_A, pi_I, st_s, st_n, if_true, if_false, eq_self, d_if, d_ju, d_re, d_ca, cat0, cat1, cat2, cat3, fr_z, fr_s, cc_I, cc_A, cc_N, Nat.reduceAdd, Nat.reduceLT, Nat.reduceLeDiff, Nat.reduceEqDiff, not_true, not_false_iff, z1_0, z1_1, Bool.and_self, Bool.true_and, Bool.and_true, nI_add, pk_mul, nI_clamp, decide_true, Nat.le_refl, bI_eq, bI_z1, nI_ltI, nI_leI, am_u_at, am_u_ne, upd_at, upd_ne, g13, vb_1, vb_0, z_10, bI_t, bI_f, nI_z, z_le, z_lt]
    refine go_at (blk := b_Model_tellPilgrim_153) rfl ?_
    simp (disch := omega) only [b_Model_tellPilgrim_153, be_6, be_1, be_57_1, kc_388, List.getD_cons_zero, List.getD_cons_succ, List.set_cons_zero, List.set_cons_succ, List.length_cons, List.length_nil, pk_I, pk_A, pr_A, pi_I, st_s, st_n, if_true, if_false, eq_self, d_if, d_ju, d_re, d_ca, cat0, cat1, cat2, cat3, fr_z, fr_s, cc_I, cc_A, cc_N, Nat.reduceAdd, Nat.reduceLT, Nat.reduceLeDiff, Nat.reduceEqDiff, not_true, not_false_iff, z1_0, z1_1, Bool.and_self, Bool.true_and, Bool.and_true, nI_add, pk_mul, nI_clamp, decide_true, Nat.le_refl, bI_eq, bI_z1, nI_ltI, nI_leI, am_u_at, am_u_ne, upd_at, upd_ne, g13, vb_1, vb_0, z_10, bI_t, bI_f, nI_z, z_le, z_lt]
    refine r_is hE7 t7 (j := 25) (by omega) (by omega) ?_
    refine go_at (blk := b_Model_tellPilgrim_159) rfl ?_
    simp (disch := omega) only [b_Model_tellPilgrim_159, be_50_0, List.getD_cons_zero, List.getD_cons_succ, List.set_cons_zero, List.set_cons_succ, List.length_cons, List.length_nil, pk_I, pk_A, pr_A, pi_I, st_s, st_n, if_true, if_false, eq_self, d_if, d_ju, d_re, d_ca, cat0, cat1, cat2, cat3, fr_z, fr_s, cc_I, cc_A, cc_N, Nat.reduceAdd, Nat.reduceLT, Nat.reduceLeDiff, Nat.reduceEqDiff, not_true, not_false_iff, z1_0, z1_1, Bool.and_self, Bool.true_and, Bool.and_true, nI_add, pk_mul, nI_clamp, decide_true, Nat.le_refl, bI_eq, bI_z1, nI_ltI, nI_leI, am_u_at, am_u_ne, upd_at, upd_ne, g13, vb_1, vb_0, z_10, bI_t, bI_f, nI_z, z_le, z_lt]
    split
    · rename_i hc
      have hc : ¬ kdR E (pl7 E nm n s) = 25 := by simpa using hc
      have hK : plK E nm n s = false := decide_eq_false hc
      refine go_at (blk := b_Model_tellPilgrim_166) rfl ?_
      simp (disch := omega) only [b_Model_tellPilgrim_166, be_1, be_0, List.getD_cons_zero, List.getD_cons_succ, List.set_cons_zero, List.set_cons_succ, List.length_cons, List.length_nil, pk_I, pk_A, pr_A, pi_I, st_s, st_n, if_true, if_false, eq_self, d_if, d_ju, d_re, d_ca, cat0, cat1, cat2, cat3, fr_z, fr_s, cc_I, cc_A, cc_N, Nat.reduceAdd, Nat.reduceLT, Nat.reduceLeDiff, Nat.reduceEqDiff, not_true, not_false_iff, z1_0, z1_1, Bool.and_self, Bool.true_and, Bool.and_true, nI_add, pk_mul, nI_clamp, decide_true, Nat.le_refl, bI_eq, bI_z1, nI_ltI, nI_leI, am_u_at, am_u_ne, upd_at, upd_ne, g13, vb_1, vb_0, z_10, bI_t, bI_f, nI_z, z_le, z_lt]
      refine go_at (blk := b_Model_tellPilgrim_167) rfl ?_
      simp (disch := omega) only [b_Model_tellPilgrim_167, be_45, be_6, be_34, be_4, be_40, be_50_0, ka_404, kc_388, rf_388_29, List.getD_cons_zero, List.getD_cons_succ, List.set_cons_zero, List.set_cons_succ, List.length_cons, List.length_nil, pk_I, pk_A, pr_A, pi_I, st_s, st_n, if_true, if_false, eq_self, d_if, d_ju, d_re, d_ca, cat0, cat1, cat2, cat3, fr_z, fr_s, cc_I, cc_A, cc_N, Nat.reduceAdd, Nat.reduceLT, Nat.reduceLeDiff, Nat.reduceEqDiff, not_true, not_false_iff, z1_0, z1_1, Bool.and_self, Bool.true_and, Bool.and_true, nI_add, pk_mul, nI_clamp, decide_true, Nat.le_refl, bI_eq, bI_z1, nI_ltI, nI_leI, am_u_at, am_u_ne, upd_at, upd_ne, g13, vb_1, vb_0, z_10, bI_t, bI_f, nI_z, z_le, z_lt]
      refine go_at (blk := b_Model_tellPilgrim_181) rfl ?_
      simp (disch := omega) only [b_Model_tellPilgrim_181, be_6, be_1, be_57_1, kc_388, List.getD_cons_zero, List.getD_cons_succ, List.set_cons_zero, List.set_cons_succ, List.length_cons, List.length_nil, pk_I, pk_A, pr_A, pi_I, st_s, st_n, if_true, if_false, eq_self, d_if, d_ju, d_re, d_ca, cat0, cat1, cat2, cat3, fr_z, fr_s, cc_I, cc_A, cc_N, Nat.reduceAdd, Nat.reduceLT, Nat.reduceLeDiff, Nat.reduceEqDiff, not_true, not_false_iff, z1_0, z1_1, Bool.and_self, Bool.true_and, Bool.and_true, nI_add, pk_mul, nI_clamp, decide_true, Nat.le_refl, bI_eq, bI_z1, nI_ltI, nI_leI, am_u_at, am_u_ne, upd_at, upd_ne, g13, vb_1, vb_0, z_10, bI_t, bI_f, nI_z, z_le, z_lt]
      refine r_must (s := pl8 E nm n s) (j := 4) (ME_w hE7 (by rw [am_u_ne (by omega)]) (by rw [am_u_ne (by omega)]) (by rw [am_u_ne (by omega)])) (MS_w (s := pl8 E nm n s) (by unfold pl8; rw [hK, if_neg (by decide)]; exact t7) (fun k hk => by rw [am_u_ne (by omega)])) (by omega) (by omega) (by omega) ?_
      intro v9 f9 s9
      exact hQ v9 (G8_t (by rw [hK]; exact G8_u r7 (by omega)) f9) s9
    · rename_i hc
      have hc : kdR E (pl7 E nm n s) = 25 := by simpa using hc
      have hK : plK E nm n s = true := decide_eq_true hc
      refine go_at (blk := b_Model_tellPilgrim_162) rfl ?_
      simp (disch := omega) only [b_Model_tellPilgrim_162, be_1, be_51, List.getD_cons_zero, List.getD_cons_succ, List.set_cons_zero, List.set_cons_succ, List.length_cons, List.length_nil, pk_I, pk_A, pr_A, pi_I, st_s, st_n, if_true, if_false, eq_self, d_if, d_ju, d_re, d_ca, cat0, cat1, cat2, cat3, fr_z, fr_s, cc_I, cc_A, cc_N, Nat.reduceAdd, Nat.reduceLT, Nat.reduceLeDiff, Nat.reduceEqDiff, not_true, not_false_iff, z1_0, z1_1, Bool.and_self, Bool.true_and, Bool.and_true, nI_add, pk_mul, nI_clamp, decide_true, Nat.le_refl, bI_eq, bI_z1, nI_ltI, nI_leI, am_u_at, am_u_ne, upd_at, upd_ne, g13, vb_1, vb_0, z_10, bI_t, bI_f, nI_z, z_le, z_lt]
      refine go_at (blk := b_Model_tellPilgrim_167) rfl ?_
      simp (disch := omega) only [b_Model_tellPilgrim_167, be_45, be_6, be_34, be_4, be_40, be_50_0, ka_404, kc_388, rf_388_29, List.getD_cons_zero, List.getD_cons_succ, List.set_cons_zero, List.set_cons_succ, List.length_cons, List.length_nil, pk_I, pk_A, pr_A, pi_I, st_s, st_n, if_true, if_false, eq_self, d_if, d_ju, d_re, d_ca, cat0, cat1, cat2, cat3, fr_z, fr_s, cc_I, cc_A, cc_N, Nat.reduceAdd, Nat.reduceLT, Nat.reduceLeDiff, Nat.reduceEqDiff, not_true, not_false_iff, z1_0, z1_1, Bool.and_self, Bool.true_and, Bool.and_true, nI_add, pk_mul, nI_clamp, decide_true, Nat.le_refl, bI_eq, bI_z1, nI_ltI, nI_leI, am_u_at, am_u_ne, upd_at, upd_ne, g13, vb_1, vb_0, z_10, bI_t, bI_f, nI_z, z_le, z_lt]
      refine go_at (blk := b_Model_tellPilgrim_177) rfl ?_
      simp (disch := omega) only [b_Model_tellPilgrim_177, be_6, be_57_0, kc_388, List.getD_cons_zero, List.getD_cons_succ, List.set_cons_zero, List.set_cons_succ, List.length_cons, List.length_nil, pk_I, pk_A, pr_A, pi_I, st_s, st_n, if_true, if_false, eq_self, d_if, d_ju, d_re, d_ca, cat0, cat1, cat2, cat3, fr_z, fr_s, cc_I, cc_A, cc_N, Nat.reduceAdd, Nat.reduceLT, Nat.reduceLeDiff, Nat.reduceEqDiff, not_true, not_false_iff, z1_0, z1_1, Bool.and_self, Bool.true_and, Bool.and_true, nI_add, pk_mul, nI_clamp, decide_true, Nat.le_refl, bI_eq, bI_z1, nI_ltI, nI_leI, am_u_at, am_u_ne, upd_at, upd_ne, g13, vb_1, vb_0, z_10, bI_t, bI_f, nI_z, z_le, z_lt]
      refine r_goesOn (s := pl7 E nm n s) (ME_w hE7 (by rw [am_u_ne (by omega)]) (by rw [am_u_ne (by omega)]) (by rw [am_u_ne (by omega)])) (MS_w t7 (fun k hk => by rw [am_u_ne (by omega)])) (fun t' ht => ?_) ?_
      · unfold kdR at hc
        rw [ht] at hc
        dsimp only at hc
        rw [hc]
        exact ⟨by omega, by omega⟩
      intro v8 f8 s8
      have hE8 : ME E v8 w := ME_8 (ME_w hE7 (by rw [am_u_ne (by omega)]) (by rw [am_u_ne (by omega)]) (by rw [am_u_ne (by omega)])) f8
      refine go_at (blk := b_Model_tellPilgrim_181) rfl ?_
      simp (disch := omega) only [b_Model_tellPilgrim_181, be_6, be_1, be_57_1, kc_388, List.getD_cons_zero, List.getD_cons_succ, List.set_cons_zero, List.set_cons_succ, List.length_cons, List.length_nil, pk_I, pk_A, pr_A, pi_I, st_s, st_n, if_true, if_false, eq_self, d_if, d_ju, d_re, d_ca, cat0, cat1, cat2, cat3, fr_z, fr_s, cc_I, cc_A, cc_N, Nat.reduceAdd, Nat.reduceLT, Nat.reduceLeDiff, Nat.reduceEqDiff, not_true, not_false_iff, z1_0, z1_1, Bool.and_self, Bool.true_and, Bool.and_true, nI_add, pk_mul, nI_clamp, decide_true, Nat.le_refl, bI_eq, bI_z1, nI_ltI, nI_leI, am_u_at, am_u_ne, upd_at, upd_ne, g13, vb_1, vb_0, z_10, bI_t, bI_f, nI_z, z_le, z_lt]
      refine r_must (s := pl8 E nm n s) (j := 4) hE8 (by unfold pl8; rw [hK, if_pos rfl]; exact s8) (by omega) (by omega) (by omega) ?_
      intro v9 f9 s9
      exact hQ v9 (G8_t (G8_t (by rw [hK]; exact G8_u r7 (by omega)) f8) f9) s9
