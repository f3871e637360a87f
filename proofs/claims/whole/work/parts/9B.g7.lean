/-! laid by wip/whole/g7.py: the class: readLaw -/
theorem lawB12 {d : Nat} {v : Nat → Nat → Int32} {w : Nat → Nat → Int64} {Q : Option Value → am_H → Prop} {E : ENV} {q l p : Nat} {e : Nat × Nat} (hq' : LD q) (hE : CE E v w) (hs : CS E v (.inl e, l, p)) (hL : LL v q) {i : Nat} (hi : i ≤ 5) {x : Value} (hx : am_cc x = true) (hQ : ∀ v', FX q v v' → CS E v' (.inl e, l, p) → LL v' q → Q none (428, 26053, KD, RF, v', w)) : am_Go am_X0 (d + 4) k_Reader_readLaw 12 ([.ref 2, .ref q, .int (nI i), x], [], (428, 26053, KD, RF, v, w)) Q := by
  have hq := LD_W hq'
  have hk3 : nI (cK (kdR E (.inl e, l, p))) = nI 303 := rfl
  by_cases h5 : 4 < i
  · refine go_at (blk := b_Reader_readLaw_12) rfl ?_
    simp (disch := omega) only [b_Reader_readLaw_12, be_4, be_1, be_49_4, List.getD_cons_zero, List.getD_cons_succ, List.set_cons_zero, List.set_cons_succ, List.length_cons, List.length_nil, pk_I, pk_A, pr_A, pi_I, st_s, st_n, if_true, if_false, eq_self, d_if, d_ju, d_re, d_ca, cat0, cat1, cat2, cat3, fr_z, fr_s, cc_I, cc_A, cc_N, Nat.reduceAdd, Nat.reduceLT, Nat.reduceLeDiff, Nat.reduceEqDiff, not_true, not_false_iff, z1_0, z1_1, Bool.and_self, Bool.true_and, Bool.and_true, nI_add, pk_mul, nI_clamp, decide_true, Nat.le_refl, bI_eq, bI_z1, nI_ltI, nI_leI, nI_eq, h5]
    refine go_at (blk := b_Reader_readLaw_107) rfl ?_
    simp (disch := omega) only [b_Reader_readLaw_107, be_6, be_1, be_57_2, kc_2, List.getD_cons_zero, List.getD_cons_succ, List.set_cons_zero, List.set_cons_succ, List.length_cons, List.length_nil, pk_I, pk_A, pr_A, pi_I, st_s, st_n, if_true, if_false, eq_self, d_if, d_ju, d_re, d_ca, cat0, cat1, cat2, cat3, fr_z, fr_s, cc_I, cc_A, cc_N, Nat.reduceAdd, Nat.reduceLT, Nat.reduceLeDiff, Nat.reduceEqDiff, not_true, not_false_iff, z1_0, z1_1, Bool.and_self, Bool.true_and, Bool.and_true, nI_add, pk_mul, nI_clamp, decide_true, Nat.le_refl, bI_eq, bI_z1, nI_ltI, nI_leI, nI_eq, h5]
    refine k_sumB hq' hE hs hL ?_
    intro v1 f1 s1 l1
    refine go_at (blk := b_Reader_readLaw_113) rfl ?_
    simp (disch := omega) only [b_Reader_readLaw_113, be_56, List.getD_cons_zero, List.getD_cons_succ, List.set_cons_zero, List.set_cons_succ, List.length_cons, List.length_nil, pk_I, pk_A, pr_A, pi_I, st_s, st_n, if_true, if_false, eq_self, d_if, d_ju, d_re, d_ca, cat0, cat1, cat2, cat3, fr_z, fr_s, cc_I, cc_A, cc_N, Nat.reduceAdd, Nat.reduceLT, Nat.reduceLeDiff, Nat.reduceEqDiff, not_true, not_false_iff, z1_0, z1_1, Bool.and_self, Bool.true_and, Bool.and_true, nI_add, pk_mul, nI_clamp, decide_true, Nat.le_refl, bI_eq, bI_z1, nI_ltI, nI_leI, nI_eq, h5]
    exact hQ v1 f1 s1 l1
  · refine go_at (blk := b_Reader_readLaw_12) rfl ?_
    simp (disch := omega) only [b_Reader_readLaw_12, be_4, be_1, be_49_4, List.getD_cons_zero, List.getD_cons_succ, List.set_cons_zero, List.set_cons_succ, List.length_cons, List.length_nil, pk_I, pk_A, pr_A, pi_I, st_s, st_n, if_true, if_false, eq_self, d_if, d_ju, d_re, d_ca, cat0, cat1, cat2, cat3, fr_z, fr_s, cc_I, cc_A, cc_N, Nat.reduceAdd, Nat.reduceLT, Nat.reduceLeDiff, Nat.reduceEqDiff, not_true, not_false_iff, z1_0, z1_1, Bool.and_self, Bool.true_and, Bool.and_true, nI_add, pk_mul, nI_clamp, decide_true, Nat.le_refl, bI_eq, bI_z1, nI_ltI, nI_leI, nI_eq, h5, hk3]
    refine go_at (blk := b_Reader_readLaw_17) rfl ?_
    simp (disch := omega) only [b_Reader_readLaw_17, be_6, be_57_0, kc_2, List.getD_cons_zero, List.getD_cons_succ, List.set_cons_zero, List.set_cons_succ, List.length_cons, List.length_nil, pk_I, pk_A, pr_A, pi_I, st_s, st_n, if_true, if_false, eq_self, d_if, d_ju, d_re, d_ca, cat0, cat1, cat2, cat3, fr_z, fr_s, cc_I, cc_A, cc_N, Nat.reduceAdd, Nat.reduceLT, Nat.reduceLeDiff, Nat.reduceEqDiff, not_true, not_false_iff, z1_0, z1_1, Bool.and_self, Bool.true_and, Bool.and_true, nI_add, pk_mul, nI_clamp, decide_true, Nat.le_refl, bI_eq, bI_z1, nI_ltI, nI_leI, nI_eq, h5, hk3]
    refine k_kind hE hs ?_
    refine go_at (blk := b_Reader_readLaw_21) rfl ?_
    simp (disch := omega) only [b_Reader_readLaw_21, be_1, be_49_1, List.getD_cons_zero, List.getD_cons_succ, List.set_cons_zero, List.set_cons_succ, List.length_cons, List.length_nil, pk_I, pk_A, pr_A, pi_I, st_s, st_n, if_true, if_false, eq_self, d_if, d_ju, d_re, d_ca, cat0, cat1, cat2, cat3, fr_z, fr_s, cc_I, cc_A, cc_N, Nat.reduceAdd, Nat.reduceLT, Nat.reduceLeDiff, Nat.reduceEqDiff, not_true, not_false_iff, z1_0, z1_1, Bool.and_self, Bool.true_and, Bool.and_true, nI_add, pk_mul, nI_clamp, decide_true, Nat.le_refl, bI_eq, bI_z1, nI_ltI, nI_leI, nI_eq, h5, hk3]
    refine go_at (blk := b_Reader_readLaw_107) rfl ?_
    simp (disch := omega) only [b_Reader_readLaw_107, be_6, be_1, be_57_2, kc_2, List.getD_cons_zero, List.getD_cons_succ, List.set_cons_zero, List.set_cons_succ, List.length_cons, List.length_nil, pk_I, pk_A, pr_A, pi_I, st_s, st_n, if_true, if_false, eq_self, d_if, d_ju, d_re, d_ca, cat0, cat1, cat2, cat3, fr_z, fr_s, cc_I, cc_A, cc_N, Nat.reduceAdd, Nat.reduceLT, Nat.reduceLeDiff, Nat.reduceEqDiff, not_true, not_false_iff, z1_0, z1_1, Bool.and_self, Bool.true_and, Bool.and_true, nI_add, pk_mul, nI_clamp, decide_true, Nat.le_refl, bI_eq, bI_z1, nI_ltI, nI_leI, nI_eq, h5, hk3]
    refine k_sumB hq' hE hs hL ?_
    intro v1 f1 s1 l1
    refine go_at (blk := b_Reader_readLaw_113) rfl ?_
    simp (disch := omega) only [b_Reader_readLaw_113, be_56, List.getD_cons_zero, List.getD_cons_succ, List.set_cons_zero, List.set_cons_succ, List.length_cons, List.length_nil, pk_I, pk_A, pr_A, pi_I, st_s, st_n, if_true, if_false, eq_self, d_if, d_ju, d_re, d_ca, cat0, cat1, cat2, cat3, fr_z, fr_s, cc_I, cc_A, cc_N, Nat.reduceAdd, Nat.reduceLT, Nat.reduceLeDiff, Nat.reduceEqDiff, not_true, not_false_iff, z1_0, z1_1, Bool.and_self, Bool.true_and, Bool.and_true, nI_add, pk_mul, nI_clamp, decide_true, Nat.le_refl, bI_eq, bI_z1, nI_ltI, nI_leI, nI_eq, h5, hk3]
    exact hQ v1 f1 s1 l1
theorem lawB101 {d : Nat} {v : Nat → Nat → Int32} {w : Nat → Nat → Int64} {Q : Option Value → am_H → Prop} {E : ENV} {q l p : Nat} {e : Nat × Nat} (hq' : LD q) (hE : CE E v w) (hs : CS E v (.inl e, l, p)) (hL : LL v q) {i : Nat} (hi : i ≤ 5) {x : Value} (hx : am_cc x = true) (hi4 : i ≤ 4) (hQ : ∀ v', FX q v v' → CS E v' (.inl e, l, p) → LL v' q → Q none (428, 26053, KD, RF, v', w)) : am_Go am_X0 (d + 4) k_Reader_readLaw 101 ([.ref 2, .ref q, .int (nI i), x], [], (428, 26053, KD, RF, v, w)) Q := by
  have hq := LD_W hq'
  refine go_at (blk := b_Reader_readLaw_101) rfl ?_
  simp (disch := omega) only [b_Reader_readLaw_101, be_10, be_51, List.getD_cons_zero, List.getD_cons_succ, List.set_cons_zero, List.set_cons_succ, List.length_cons, List.length_nil, pk_I, pk_A, pr_A, pi_I, st_s, st_n, if_true, if_false, eq_self, d_if, d_ju, d_re, d_ca, cat0, cat1, cat2, cat3, fr_z, fr_s, cc_I, cc_A, cc_N, Nat.reduceAdd, Nat.reduceLT, Nat.reduceLeDiff, Nat.reduceEqDiff, not_true, not_false_iff, z1_0, z1_1, Bool.and_self, Bool.true_and, Bool.and_true, nI_add, pk_mul, nI_clamp, decide_true, Nat.le_refl, bI_eq, bI_z1, nI_ltI, nI_leI, nI_eq]
  exact lawB12 hq' hE hs hL (by omega) hx hQ
theorem lawB88 {d : Nat} {v : Nat → Nat → Int32} {w : Nat → Nat → Int64} {Q : Option Value → am_H → Prop} {E : ENV} {q l p : Nat} {e : Nat × Nat} (hq' : LD q) (hE : CE E v w) (hs : CS E v (.inl e, l, p)) (hL : LL v q) {i : Nat} (hi : i ≤ 5) {x : Value} (hx : am_cc x = true) (hi4 : i ≤ 4) (hxi : ∃ z, x = .int z) (hQ : ∀ v', FX q v v' → CS E v' (.inl e, l, p) → LL v' q → Q none (428, 26053, KD, RF, v', w)) : am_Go am_X0 (d + 4) k_Reader_readLaw 88 ([.ref 2, .ref q, .int (nI i), x], [], (428, 26053, KD, RF, v, w)) Q := by
  have hq := LD_W hq'
  obtain ⟨z, rfl⟩ := hxi
  refine go_at (blk := b_Reader_readLaw_88) rfl ?_
  simp (disch := omega) only [b_Reader_readLaw_88, be_6, be_1, be_57_2, kc_lw hq, List.getD_cons_zero, List.getD_cons_succ, List.set_cons_zero, List.set_cons_succ, List.length_cons, List.length_nil, pk_I, pk_A, pr_A, pi_I, st_s, st_n, if_true, if_false, eq_self, d_if, d_ju, d_re, d_ca, cat0, cat1, cat2, cat3, fr_z, fr_s, cc_I, cc_A, cc_N, Nat.reduceAdd, Nat.reduceLT, Nat.reduceLeDiff, Nat.reduceEqDiff, not_true, not_false_iff, z1_0, z1_1, Bool.and_self, Bool.true_and, Bool.and_true, nI_add, pk_mul, nI_clamp, decide_true, Nat.le_refl, bI_eq, bI_z1, nI_ltI, nI_leI, nI_eq]
  refine k_putB hq' hL ?_
  intro v1 y1 f1 l1
  refine go_at (blk := b_Reader_readLaw_95) rfl ?_
  simp (disch := omega) only [b_Reader_readLaw_95, be_31I, be_6, be_4, be_57_1, kc_lw hq, List.getD_cons_zero, List.getD_cons_succ, List.set_cons_zero, List.set_cons_succ, List.length_cons, List.length_nil, pk_I, pk_A, pr_A, pi_I, st_s, st_n, if_true, if_false, eq_self, d_if, d_ju, d_re, d_ca, cat0, cat1, cat2, cat3, fr_z, fr_s, cc_I, cc_A, cc_N, Nat.reduceAdd, Nat.reduceLT, Nat.reduceLeDiff, Nat.reduceEqDiff, not_true, not_false_iff, z1_0, z1_1, Bool.and_self, Bool.true_and, Bool.and_true, nI_add, pk_mul, nI_clamp, decide_true, Nat.le_refl, bI_eq, bI_z1, nI_ltI, nI_leI, nI_eq]
  refine k_skipB hq' l1 ?_
  intro v2 f2 l2
  exact lawB101 hq' (CE_3 hq' (CE_3 hq' hE f1) f2) (CS_3 hq' (CS_3 hq' hs f1) f2) l2 hi rfl hi4 (fun v3 f3 s3 l3 => hQ v3 (FX_t (FX_3 f1) (FX_t (FX_3 f2) f3)) s3 l3)
theorem lawB81 {d : Nat} {v : Nat → Nat → Int32} {w : Nat → Nat → Int64} {Q : Option Value → am_H → Prop} {E : ENV} {q l p : Nat} {e : Nat × Nat} (hq' : LD q) (hE : CE E v w) (hs : CS E v (.inl e, l, p)) (hL : LL v q) {i : Nat} (hi : i ≤ 5) {x : Value} (hx : am_cc x = true) (hi4 : i ≤ 4) (hxi : ∃ z, x = .int z) (hQ : ∀ v', FX q v v' → CS E v' (.inl e, l, p) → LL v' q → Q none (428, 26053, KD, RF, v', w)) : am_Go am_X0 (d + 4) k_Reader_readLaw 81 ([.ref 2, .ref q, .int (nI i), x], [], (428, 26053, KD, RF, v, w)) Q := by
  have hq := LD_W hq'
  refine go_at (blk := b_Reader_readLaw_81) rfl ?_
  simp (disch := omega) only [b_Reader_readLaw_81, be_6, be_1, be_57_1, kc_2, List.getD_cons_zero, List.getD_cons_succ, List.set_cons_zero, List.set_cons_succ, List.length_cons, List.length_nil, pk_I, pk_A, pr_A, pi_I, st_s, st_n, if_true, if_false, eq_self, d_if, d_ju, d_re, d_ca, cat0, cat1, cat2, cat3, fr_z, fr_s, cc_I, cc_A, cc_N, Nat.reduceAdd, Nat.reduceLT, Nat.reduceLeDiff, Nat.reduceEqDiff, not_true, not_false_iff, z1_0, z1_1, Bool.and_self, Bool.true_and, Bool.and_true, nI_add, pk_mul, nI_clamp, decide_true, Nat.le_refl, bI_eq, bI_z1, nI_ltI, nI_leI, nI_eq]
  refine k_want (j := 28) hE hs (by omega) rfl (by omega) (by omega) ?_
  intro v1 f1 s1
  exact lawB88 hq' (CE_2 hE f1) s1 (LL_2 hq' hL f1) hi hx hi4 hxi (fun v2 f2 s2 l2 => hQ v2 (FX_t (FX_2 f1) f2) s2 l2)
theorem lawB75 {d : Nat} {v : Nat → Nat → Int32} {w : Nat → Nat → Int64} {Q : Option Value → am_H → Prop} {E : ENV} {q l p : Nat} {e : Nat × Nat} (hq' : LD q) (hE : CE E v w) (hs : CS E v (.inl e, l, p)) (hL : LL v q) {i : Nat} (hi : i ≤ 5) {x : Value} (hx : am_cc x = true) (hi4 : i ≤ 4) (hxi : ∃ z, x = .int z) (hQ : ∀ v', FX q v v' → CS E v' (.inl e, l, p) → LL v' q → Q none (428, 26053, KD, RF, v', w)) : am_Go am_X0 (d + 4) k_Reader_readLaw 75 ([.ref 2, .ref q, .int (nI i), x], [], (428, 26053, KD, RF, v, w)) Q := by
  have hq := LD_W hq'
  refine go_at (blk := b_Reader_readLaw_75) rfl ?_
  simp (disch := omega) only [b_Reader_readLaw_75, be_6, be_1, be_57_2, kc_2, List.getD_cons_zero, List.getD_cons_succ, List.set_cons_zero, List.set_cons_succ, List.length_cons, List.length_nil, pk_I, pk_A, pr_A, pi_I, st_s, st_n, if_true, if_false, eq_self, d_if, d_ju, d_re, d_ca, cat0, cat1, cat2, cat3, fr_z, fr_s, cc_I, cc_A, cc_N, Nat.reduceAdd, Nat.reduceLT, Nat.reduceLeDiff, Nat.reduceEqDiff, not_true, not_false_iff, z1_0, z1_1, Bool.and_self, Bool.true_and, Bool.and_true, nI_add, pk_mul, nI_clamp, decide_true, Nat.le_refl, bI_eq, bI_z1, nI_ltI, nI_leI, nI_eq]
  refine k_sumB hq' hE hs hL ?_
  intro v1 f1 s1 l1
  exact lawB81 hq' (CE_X hq' hE f1) s1 l1 hi hx hi4 hxi (fun v2 f2 s2 l2 => hQ v2 (FX_t f1 f2) s2 l2)
theorem lawB60 {d : Nat} {v : Nat → Nat → Int32} {w : Nat → Nat → Int64} {Q : Option Value → am_H → Prop} {E : ENV} {q l p : Nat} {e : Nat × Nat} (hq' : LD q) (hE : CE E v w) (hs : CS E v (.inl e, l, p)) (hL : LL v q) {i : Nat} (hi : i ≤ 5) {x : Value} (hx : am_cc x = true) (hi4 : i ≤ 4) (hQ : ∀ v', FX q v v' → CS E v' (.inl e, l, p) → LL v' q → Q none (428, 26053, KD, RF, v', w)) : am_Go am_X0 (d + 4) k_Reader_readLaw 60 ([.ref 2, .ref q, .int (nI i), x], [], (428, 26053, KD, RF, v, w)) Q := by
  have hq := LD_W hq'
  refine go_at (blk := b_Reader_readLaw_60) rfl ?_
  simp (disch := omega) only [b_Reader_readLaw_60, be_6, be_1, be_57_2, kc_lw hq, List.getD_cons_zero, List.getD_cons_succ, List.set_cons_zero, List.set_cons_succ, List.length_cons, List.length_nil, pk_I, pk_A, pr_A, pi_I, st_s, st_n, if_true, if_false, eq_self, d_if, d_ju, d_re, d_ca, cat0, cat1, cat2, cat3, fr_z, fr_s, cc_I, cc_A, cc_N, Nat.reduceAdd, Nat.reduceLT, Nat.reduceLeDiff, Nat.reduceEqDiff, not_true, not_false_iff, z1_0, z1_1, Bool.and_self, Bool.true_and, Bool.and_true, nI_add, pk_mul, nI_clamp, decide_true, Nat.le_refl, bI_eq, bI_z1, nI_ltI, nI_leI, nI_eq]
  refine k_putB hq' hL ?_
  intro v1 y1 f1 l1
  refine go_at (blk := b_Reader_readLaw_67) rfl ?_
  simp (disch := omega) only [b_Reader_readLaw_67, be_7, be_6, be_1, be_57_1, kc_2, List.getD_cons_zero, List.getD_cons_succ, List.set_cons_zero, List.set_cons_succ, List.length_cons, List.length_nil, pk_I, pk_A, pr_A, pi_I, st_s, st_n, if_true, if_false, eq_self, d_if, d_ju, d_re, d_ca, cat0, cat1, cat2, cat3, fr_z, fr_s, cc_I, cc_A, cc_N, Nat.reduceAdd, Nat.reduceLT, Nat.reduceLeDiff, Nat.reduceEqDiff, not_true, not_false_iff, z1_0, z1_1, Bool.and_self, Bool.true_and, Bool.and_true, nI_add, pk_mul, nI_clamp, decide_true, Nat.le_refl, bI_eq, bI_z1, nI_ltI, nI_leI, nI_eq]
  refine k_want (j := 27) (CE_3 hq' hE f1) (CS_3 hq' hs f1) (by omega) rfl (by omega) (by omega) ?_
  intro v2 f2 s2
  exact lawB75 hq' (CE_2 (CE_3 hq' hE f1) f2) s2 (LL_2 hq' l1 f2) hi rfl hi4 ⟨_, rfl⟩ (fun v3 f3 s3 l3 => hQ v3 (FX_t (FX_3 f1) (FX_t (FX_2 f2) f3)) s3 l3)
theorem lawB54 {d : Nat} {v : Nat → Nat → Int32} {w : Nat → Nat → Int64} {Q : Option Value → am_H → Prop} {E : ENV} {q l p : Nat} {e : Nat × Nat} (hq' : LD q) (hE : CE E v w) (hs : CS E v (.inl e, l, p)) (hL : LL v q) {i : Nat} (hi : i ≤ 5) {x : Value} (hx : am_cc x = true) (hi4 : i ≤ 4) (hQ : ∀ v', FX q v v' → CS E v' (.inl e, l, p) → LL v' q → Q none (428, 26053, KD, RF, v', w)) : am_Go am_X0 (d + 4) k_Reader_readLaw 54 ([.ref 2, .ref q, .int (nI i), x], [], (428, 26053, KD, RF, v, w)) Q := by
  have hq := LD_W hq'
  refine go_at (blk := b_Reader_readLaw_54) rfl ?_
  simp (disch := omega) only [b_Reader_readLaw_54, be_6, be_1, be_57_2, kc_2, List.getD_cons_zero, List.getD_cons_succ, List.set_cons_zero, List.set_cons_succ, List.length_cons, List.length_nil, pk_I, pk_A, pr_A, pi_I, st_s, st_n, if_true, if_false, eq_self, d_if, d_ju, d_re, d_ca, cat0, cat1, cat2, cat3, fr_z, fr_s, cc_I, cc_A, cc_N, Nat.reduceAdd, Nat.reduceLT, Nat.reduceLeDiff, Nat.reduceEqDiff, not_true, not_false_iff, z1_0, z1_1, Bool.and_self, Bool.true_and, Bool.and_true, nI_add, pk_mul, nI_clamp, decide_true, Nat.le_refl, bI_eq, bI_z1, nI_ltI, nI_leI, nI_eq]
  refine k_sumB hq' hE hs hL ?_
  intro v1 f1 s1 l1
  exact lawB60 hq' (CE_X hq' hE f1) s1 l1 hi hx hi4 (fun v2 f2 s2 l2 => hQ v2 (FX_t f1 f2) s2 l2)
theorem lawB48 {d : Nat} {v : Nat → Nat → Int32} {w : Nat → Nat → Int64} {Q : Option Value → am_H → Prop} {E : ENV} {q l p : Nat} {e : Nat × Nat} (hq' : LD q) (hE : CE E v w) (hs : CS E v (.inl e, l, p)) (hL : LL v q) {i : Nat} (hi : i ≤ 5) {x : Value} (hx : am_cc x = true) (hi4 : i ≤ 4) (hQ : ∀ v', FX q v v' → CS E v' (.inl e, l, p) → LL v' q → Q none (428, 26053, KD, RF, v', w)) : am_Go am_X0 (d + 4) k_Reader_readLaw 48 ([.ref 2, .ref q, .int (nI i), x], [], (428, 26053, KD, RF, v, w)) Q := by
  have hq := LD_W hq'
  refine go_at (blk := b_Reader_readLaw_48) rfl ?_
  simp (disch := omega) only [b_Reader_readLaw_48, be_6, be_1, be_57_1, kc_2, List.getD_cons_zero, List.getD_cons_succ, List.set_cons_zero, List.set_cons_succ, List.length_cons, List.length_nil, pk_I, pk_A, pr_A, pi_I, st_s, st_n, if_true, if_false, eq_self, d_if, d_ju, d_re, d_ca, cat0, cat1, cat2, cat3, fr_z, fr_s, cc_I, cc_A, cc_N, Nat.reduceAdd, Nat.reduceLT, Nat.reduceLeDiff, Nat.reduceEqDiff, not_true, not_false_iff, z1_0, z1_1, Bool.and_self, Bool.true_and, Bool.and_true, nI_add, pk_mul, nI_clamp, decide_true, Nat.le_refl, bI_eq, bI_z1, nI_ltI, nI_leI, nI_eq]
  refine k_want (j := 13) hE hs (by omega) rfl (by omega) (by omega) ?_
  intro v1 f1 s1
  exact lawB54 hq' (CE_2 hE f1) s1 (LL_2 hq' hL f1) hi hx hi4 (fun v2 f2 s2 l2 => hQ v2 (FX_t (FX_2 f1) f2) s2 l2)
theorem lawB42 {d : Nat} {v : Nat → Nat → Int32} {w : Nat → Nat → Int64} {Q : Option Value → am_H → Prop} {E : ENV} {q l p : Nat} {e : Nat × Nat} (hq' : LD q) (hE : CE E v w) (hs : CS E v (.inl e, l, p)) (hL : LL v q) {i : Nat} (hi : i ≤ 5) {x : Value} (hx : am_cc x = true) (hi4 : i ≤ 4) (hQ : ∀ v', FX q v v' → CS E v' (.inl e, l, p) → LL v' q → Q none (428, 26053, KD, RF, v', w)) : am_Go am_X0 (d + 4) k_Reader_readLaw 42 ([.ref 2, .ref q, .int (nI i), x], [], (428, 26053, KD, RF, v, w)) Q := by
  have hq := LD_W hq'
  refine go_at (blk := b_Reader_readLaw_42) rfl ?_
  simp (disch := omega) only [b_Reader_readLaw_42, be_6, be_1, be_57_2, kc_2, List.getD_cons_zero, List.getD_cons_succ, List.set_cons_zero, List.set_cons_succ, List.length_cons, List.length_nil, pk_I, pk_A, pr_A, pi_I, st_s, st_n, if_true, if_false, eq_self, d_if, d_ju, d_re, d_ca, cat0, cat1, cat2, cat3, fr_z, fr_s, cc_I, cc_A, cc_N, Nat.reduceAdd, Nat.reduceLT, Nat.reduceLeDiff, Nat.reduceEqDiff, not_true, not_false_iff, z1_0, z1_1, Bool.and_self, Bool.true_and, Bool.and_true, nI_add, pk_mul, nI_clamp, decide_true, Nat.le_refl, bI_eq, bI_z1, nI_ltI, nI_leI, nI_eq]
  refine k_sumB hq' hE hs hL ?_
  intro v1 f1 s1 l1
  exact lawB48 hq' (CE_X hq' hE f1) s1 l1 hi hx hi4 (fun v2 f2 s2 l2 => hQ v2 (FX_t f1 f2) s2 l2)
/-- a sum, as a whole -/
theorem k_sum0 {d : Nat} {v : Nat → Nat → Int32} {w : Nat → Nat → Int64} {Q : Option Value → am_H → Prop} {E : ENV} {q t l p : Nat} {pre : CL} (hq' : LD q) (hE : CE E v w) (hG : CG E v t l p) (hC : LC v q pre) (hl : pre.length + 2 ≤ t) (q0 : ∀ v' t' C, FX q v v' → CG E v' t' l p → LC v' q (pre ++ C) → (pre ++ C).length + 2 ≤ t' → t < t' → XX E (false, t, [], []) (.inr (t', C)) → Q none (428, 26053, KD, RF, v', w)) (q1 : ∀ v' k p', FX q v v' → CB v' k p' → LL v' q → XX E (false, t, [], []) (.inl (k, p')) → Q none (428, 26053, KD, RF, v', w)) : am_Ca (d + 25) M_Reader_readSum [.ref 2, .ref q, .int (nI 0)] (428, 26053, KD, RF, v, w) Q := by
  refine sum_0 v w Q E q t l p [] [] pre 2 hq' hE hG (by rw [List.append_nil]; exact hC) (by rw [List.append_nil]; exact hl) (by omega) rfl (Or.inl rfl) ?_ q1
  intro v' t' C' f1 s1 c1 l1 tt n1 x1
  exact q0 v' t' C' f1 s1 c1 l1 tt (x1 _ (X_d (st_end n1 (by decide))))
