/-! laid by wip/whole/g3.py: the class: a LAW's codes; units -/
def LC (v : Nat → Nat → Int32) (q : Nat) (l : CL) : Prop := v q 2 = nI l.length ∧ ∀ j, j < l.length → v (q + 1) j = nI (l.getD j (0, 0)).1 ∧ v (q + 2) j = (l.getD j (0, 0)).2
def LL (v : Nat → Nat → Int32) (q : Nat) : Prop := ∃ n, n ≤ 400 ∧ v q 2 = nI n
def F3 (q : Nat) (v v' : Nat → Nat → Int32) : Prop := ∀ c, c ≠ q → c ≠ q + 1 → c ≠ q + 2 → v' c = v c
def FX (q : Nat) (v v' : Nat → Nat → Int32) : Prop := ∀ c, c ≠ 2 → c ≠ q → c ≠ q + 1 → c ≠ q + 2 → v' c = v c
theorem FX_r {q : Nat} {v : Nat → Nat → Int32} : FX q v v := fun _ _ _ _ _ => rfl
theorem FX_t {q : Nat} {v v' v'' : Nat → Nat → Int32} (h : FX q v v') (h' : FX q v' v'') : FX q v v'' := fun c a1 a2 a3 a4 => (h' c a1 a2 a3 a4).trans (h c a1 a2 a3 a4)
theorem FX_2 {q : Nat} {v v' : Nat → Nat → Int32} (h : F2 v v') : FX q v v' := fun c a _ _ _ => h c a
theorem FX_3 {q : Nat} {v v' : Nat → Nat → Int32} (h : F3 q v v') : FX q v v' := fun c _ a1 a2 a3 => h c a1 a2 a3
/-- a law of the draft -/
def LD (q : Nat) : Prop := q = 10 ∨ q = 15
theorem LD_W {q : Nat} (h : LD q) : LW q := by
  rcases h with h | h
  · exact Or.inl h
  · exact Or.inr (Or.inl h)
theorem LC_L {v : Nat → Nat → Int32} {q : Nat} {l : CL} (h : LC v q l) (hl : l.length ≤ 400) : LL v q := ⟨_, hl, h.1⟩
theorem LC_2 {v v' : Nat → Nat → Int32} {q : Nat} {l : CL} (hq : LD q) (h : LC v q l) (e : F2 v v') : LC v' q l := by
  unfold LC LD at *
  rw [e q (by omega), e (q + 1) (by omega), e (q + 2) (by omega)]
  exact h
theorem LL_2 {v v' : Nat → Nat → Int32} {q : Nat} (hq : LD q) (h : LL v q) (e : F2 v v') : LL v' q := by
  unfold LL LD at *
  rw [e q (by omega)]
  exact h
theorem CE_3 {E : ENV} {q : Nat} {v v' : Nat → Nat → Int32} {w : Nat → Nat → Int64} (hq : LD q) (h : CE E v w) (e : F3 q v v') : CE E v' w := by
  unfold LD at hq
  exact CE_w h (e 21 (by omega) (by omega) (by omega)) (e 22 (by omega) (by omega) (by omega))
theorem CE_X {E : ENV} {q : Nat} {v v' : Nat → Nat → Int32} {w : Nat → Nat → Int64} (hq : LD q) (h : CE E v w) (e : FX q v v') : CE E v' w := by
  unfold LD at hq
  exact CE_w h (e 21 (by omega) (by omega) (by omega) (by omega)) (e 22 (by omega) (by omega) (by omega) (by omega))
theorem CS_3 {E : ENV} {q : Nat} {v v' : Nat → Nat → Int32} {s : SG} (hq : LD q) (h : CS E v s) (e : F3 q v v') : CS E v' s := by
  unfold LD at hq
  exact CS_w h (e 2 (by omega) (by omega) (by omega))
theorem gd_l {l : CL} {a d : Nat × Int32} {j : Nat} (h : j < l.length) : (l ++ [a]).getD j d = l.getD j d := by
  rw [List.getD_eq_getElem?_getD, List.getD_eq_getElem?_getD, List.getElem?_append_left h]
theorem gd_r {l : CL} {a d : Nat × Int32} : (l ++ [a]).getD l.length d = a := by
  rw [List.getD_eq_getElem?_getD, List.getElem?_append_right (Nat.le_refl _)]
  simp
theorem len_1 {l : CL} {a : Nat × Int32} : (l ++ [a]).length = l.length + 1 := by simp
theorem k_put {d : Nat} {v : Nat → Nat → Int32} {w : Nat → Nat → Int64} {Q : Option Value → am_H → Prop} {q : Nat} (hq' : LD q) {l : CL} {k : Nat} {x : Int32} (hC : LC v q l) (hl : l.length < 400) (hQ : ∀ v', F3 q v v' → LC v' q (l ++ [(k, x)]) → Q (some (.int (nI l.length))) (428, 26053, KD, RF, v', w)) : am_Ca (d + 1) M_Law_put [.ref q, .int (nI k), .int x] (428, 26053, KD, RF, v, w) Q := by
  have hq := LD_W hq'
  obtain ⟨h2, h3⟩ := hC
  have hlt : ¬ 400 ≤ l.length := by omega
  refine ca_in (k := k_Law_put) (nL := 3) rfl (Nat.le_of_ble_eq_true rfl) ?_
  show am_Go am_X0 _ k_Law_put 0 ([.ref q, .int (nI k), .int x], [], _) _
  refine go_at (blk := b_Law_put_0) rfl ?_
  simp (disch := omega) only [b_Law_put_0, be_6, be_33, be_1, be_49_3, kc_lw hq, List.getD_cons_zero, List.getD_cons_succ, List.set_cons_zero, List.set_cons_succ, List.length_cons, List.length_nil, pk_I, pk_A, pr_A, pi_I, st_s, st_n, if_true, if_false, eq_self, d_if, d_ju, d_re, d_ca, cat0, cat1, cat2, cat3, fr_z, fr_s, cc_I, cc_A, cc_N, Nat.reduceAdd, Nat.reduceLT, Nat.reduceLeDiff, Nat.reduceEqDiff, not_true, not_false_iff, z1_0, z1_1, Bool.and_self, Bool.true_and, Bool.and_true, nI_add, pk_mul, nI_clamp, decide_true, Nat.le_refl, bI_eq, bI_z1, nI_ltI, nI_leI, am_u_at, am_u_ne, upd_at, upd_ne, h2, hlt, nI_sb1]
  refine go_at (blk := b_Law_put_10) rfl ?_
  simp (disch := omega) only [b_Law_put_10, be_6, be_34, be_33, be_4, be_43, be_30I, be_30A, be_1, be_12, be_35, be_0, kc_lw hq, lq_r0 hq, ka_lw1 hq, lq_r1 hq, ka_lw2 hq, List.getD_cons_zero, List.getD_cons_succ, List.set_cons_zero, List.set_cons_succ, List.length_cons, List.length_nil, pk_I, pk_A, pr_A, pi_I, st_s, st_n, if_true, if_false, eq_self, d_if, d_ju, d_re, d_ca, cat0, cat1, cat2, cat3, fr_z, fr_s, cc_I, cc_A, cc_N, Nat.reduceAdd, Nat.reduceLT, Nat.reduceLeDiff, Nat.reduceEqDiff, not_true, not_false_iff, z1_0, z1_1, Bool.and_self, Bool.true_and, Bool.and_true, nI_add, pk_mul, nI_clamp, decide_true, Nat.le_refl, bI_eq, bI_z1, nI_ltI, nI_leI, am_u_at, am_u_ne, upd_at, upd_ne, h2, hlt, nI_sb1]
  refine go_at (blk := b_Law_put_40) rfl ?_
  simp (disch := omega) only [b_Law_put_40, be_6, be_33, be_1, be_13, be_54, kc_lw hq, List.getD_cons_zero, List.getD_cons_succ, List.set_cons_zero, List.set_cons_succ, List.length_cons, List.length_nil, pk_I, pk_A, pr_A, pi_I, st_s, st_n, if_true, if_false, eq_self, d_if, d_ju, d_re, d_ca, cat0, cat1, cat2, cat3, fr_z, fr_s, cc_I, cc_A, cc_N, Nat.reduceAdd, Nat.reduceLT, Nat.reduceLeDiff, Nat.reduceEqDiff, not_true, not_false_iff, z1_0, z1_1, Bool.and_self, Bool.true_and, Bool.and_true, nI_add, pk_mul, nI_clamp, decide_true, Nat.le_refl, bI_eq, bI_z1, nI_ltI, nI_leI, am_u_at, am_u_ne, upd_at, upd_ne, h2, hlt, nI_sb1]
  refine hQ _ (fun c c1 c2 c3 => by rw [am_u_ne c1, am_u_ne c3, am_u_ne c2]) ⟨?_, fun j hj => ?_⟩
  · rw [am_u_at, upd_at, len_1]
  · rw [len_1] at hj
    rw [am_u_ne (by omega), am_u_ne (by omega), am_u_at, am_u_ne (by omega), am_u_at, am_u_ne (by omega)]
    by_cases hjl : j = l.length
    · rw [hjl, upd_at, upd_at, gd_r]
      exact ⟨rfl, rfl⟩
    · rw [upd_ne hjl, upd_ne hjl, gd_l (by omega)]
      exact h3 j (by omega)
theorem k_putB {d : Nat} {v : Nat → Nat → Int32} {w : Nat → Nat → Int64} {Q : Option Value → am_H → Prop} {q : Nat} (hq' : LD q) {k x : Int32} (hL : LL v q) (hQ : ∀ v' y, F3 q v v' → LL v' q → Q (some (.int y)) (428, 26053, KD, RF, v', w)) : am_Ca (d + 1) M_Law_put [.ref q, .int k, .int x] (428, 26053, KD, RF, v, w) Q := by
  have hq := LD_W hq'
  obtain ⟨n, hn, h2⟩ := hL
  refine ca_in (k := k_Law_put) (nL := 3) rfl (Nat.le_of_ble_eq_true rfl) ?_
  show am_Go am_X0 _ k_Law_put 0 ([.ref q, .int k, .int x], [], _) _
  by_cases hl : n < 400
  · have hlt : ¬ 400 ≤ n := by omega
    refine go_at (blk := b_Law_put_0) rfl ?_
    simp (disch := omega) only [b_Law_put_0, be_6, be_33, be_1, be_49_3, kc_lw hq, List.getD_cons_zero, List.getD_cons_succ, List.set_cons_zero, List.set_cons_succ, List.length_cons, List.length_nil, pk_I, pk_A, pr_A, pi_I, st_s, st_n, if_true, if_false, eq_self, d_if, d_ju, d_re, d_ca, cat0, cat1, cat2, cat3, fr_z, fr_s, cc_I, cc_A, cc_N, Nat.reduceAdd, Nat.reduceLT, Nat.reduceLeDiff, Nat.reduceEqDiff, not_true, not_false_iff, z1_0, z1_1, Bool.and_self, Bool.true_and, Bool.and_true, nI_add, pk_mul, nI_clamp, decide_true, Nat.le_refl, bI_eq, bI_z1, nI_ltI, nI_leI, am_u_at, am_u_ne, upd_at, upd_ne, h2, hlt, nI_sb1]
    refine go_at (blk := b_Law_put_10) rfl ?_
    simp (disch := omega) only [b_Law_put_10, be_6, be_34, be_33, be_4, be_43, be_30I, be_30A, be_1, be_12, be_35, be_0, kc_lw hq, lq_r0 hq, ka_lw1 hq, lq_r1 hq, ka_lw2 hq, List.getD_cons_zero, List.getD_cons_succ, List.set_cons_zero, List.set_cons_succ, List.length_cons, List.length_nil, pk_I, pk_A, pr_A, pi_I, st_s, st_n, if_true, if_false, eq_self, d_if, d_ju, d_re, d_ca, cat0, cat1, cat2, cat3, fr_z, fr_s, cc_I, cc_A, cc_N, Nat.reduceAdd, Nat.reduceLT, Nat.reduceLeDiff, Nat.reduceEqDiff, not_true, not_false_iff, z1_0, z1_1, Bool.and_self, Bool.true_and, Bool.and_true, nI_add, pk_mul, nI_clamp, decide_true, Nat.le_refl, bI_eq, bI_z1, nI_ltI, nI_leI, am_u_at, am_u_ne, upd_at, upd_ne, h2, hlt, nI_sb1]
    refine go_at (blk := b_Law_put_40) rfl ?_
    simp (disch := omega) only [b_Law_put_40, be_6, be_33, be_1, be_13, be_54, kc_lw hq, List.getD_cons_zero, List.getD_cons_succ, List.set_cons_zero, List.set_cons_succ, List.length_cons, List.length_nil, pk_I, pk_A, pr_A, pi_I, st_s, st_n, if_true, if_false, eq_self, d_if, d_ju, d_re, d_ca, cat0, cat1, cat2, cat3, fr_z, fr_s, cc_I, cc_A, cc_N, Nat.reduceAdd, Nat.reduceLT, Nat.reduceLeDiff, Nat.reduceEqDiff, not_true, not_false_iff, z1_0, z1_1, Bool.and_self, Bool.true_and, Bool.and_true, nI_add, pk_mul, nI_clamp, decide_true, Nat.le_refl, bI_eq, bI_z1, nI_ltI, nI_leI, am_u_at, am_u_ne, upd_at, upd_ne, h2, hlt, nI_sb1]
    exact hQ _ _ (fun c c1 c2 c3 => by rw [am_u_ne c1, am_u_ne c3, am_u_ne c2]) ⟨n + 1, by omega, by rw [am_u_at, upd_at]⟩
  · have hlt : 400 ≤ n := by omega
    refine go_at (blk := b_Law_put_0) rfl ?_
    simp (disch := omega) only [b_Law_put_0, be_6, be_33, be_1, be_49_3, kc_lw hq, List.getD_cons_zero, List.getD_cons_succ, List.set_cons_zero, List.set_cons_succ, List.length_cons, List.length_nil, pk_I, pk_A, pr_A, pi_I, st_s, st_n, if_true, if_false, eq_self, d_if, d_ju, d_re, d_ca, cat0, cat1, cat2, cat3, fr_z, fr_s, cc_I, cc_A, cc_N, Nat.reduceAdd, Nat.reduceLT, Nat.reduceLeDiff, Nat.reduceEqDiff, not_true, not_false_iff, z1_0, z1_1, Bool.and_self, Bool.true_and, Bool.and_true, nI_add, pk_mul, nI_clamp, decide_true, Nat.le_refl, bI_eq, bI_z1, nI_ltI, nI_leI, am_u_at, am_u_ne, upd_at, upd_ne, h2, hlt]
    refine go_at (blk := b_Law_put_40) rfl ?_
    simp (disch := omega) only [b_Law_put_40, be_6, be_33, be_1, be_13, be_54, kc_lw hq, List.getD_cons_zero, List.getD_cons_succ, List.set_cons_zero, List.set_cons_succ, List.length_cons, List.length_nil, pk_I, pk_A, pr_A, pi_I, st_s, st_n, if_true, if_false, eq_self, d_if, d_ju, d_re, d_ca, cat0, cat1, cat2, cat3, fr_z, fr_s, cc_I, cc_A, cc_N, Nat.reduceAdd, Nat.reduceLT, Nat.reduceLeDiff, Nat.reduceEqDiff, not_true, not_false_iff, z1_0, z1_1, Bool.and_self, Bool.true_and, Bool.and_true, nI_add, pk_mul, nI_clamp, decide_true, Nat.le_refl, bI_eq, bI_z1, nI_ltI, nI_leI, am_u_at, am_u_ne, upd_at, upd_ne, h2, hlt]
    exact hQ _ _ (fun c _ _ _ => rfl) ⟨n, hn, h2⟩
theorem k_unitB {d : Nat} {v : Nat → Nat → Int32} {w : Nat → Nat → Int64} {Q : Option Value → am_H → Prop} {E : ENV} {q l p : Nat} {e : Nat × Nat} (hq' : LD q) (hE : CE E v w) (hs : CS E v (.inl e, l, p)) (hL : LL v q) {o : Int32} (hQ : ∀ v', FX q v v' → CS E v' (.inl e, l, p) → LL v' q → Q none (428, 26053, KD, RF, v', w)) : am_Ca (d + 2) M_Reader_readUnit [.ref 2, .ref q, .int o] (428, 26053, KD, RF, v, w) Q := by
  have hq := LD_W hq'
  refine ca_in (k := k_Reader_readUnit) (nL := 4) rfl (Nat.le_of_ble_eq_true rfl) ?_
  show am_Go am_X0 _ k_Reader_readUnit 0 ([.ref 2, .ref q, .int o, .null], [], _) _
  refine go_at (blk := b_Reader_readUnit_0) rfl ?_
  simp (disch := omega) only [b_Reader_readUnit_0, be_6, be_57_0, kc_2, List.getD_cons_zero, List.getD_cons_succ, List.set_cons_zero, List.set_cons_succ, List.length_cons, List.length_nil, pk_I, pk_A, pr_A, pi_I, st_s, st_n, if_true, if_false, eq_self, d_if, d_ju, d_re, d_ca, cat0, cat1, cat2, cat3, fr_z, fr_s, cc_I, cc_A, cc_N, Nat.reduceAdd, Nat.reduceLT, Nat.reduceLeDiff, Nat.reduceEqDiff, not_true, not_false_iff, z1_0, z1_1, Bool.and_self, Bool.true_and, Bool.and_true, nI_add, pk_mul, nI_clamp, decide_true, Nat.le_refl, bI_eq, bI_z1, nI_ltI, nI_leI, nI_eq]
  refine k_kind hE hs ?_
  have hk3 : nI (cK (kdR E (.inl e, l, p))) = nI 303 := rfl
  refine go_at (blk := b_Reader_readUnit_4) rfl ?_
  simp (disch := omega) only [b_Reader_readUnit_4, be_7, be_4, be_1, be_49_1, List.getD_cons_zero, List.getD_cons_succ, List.set_cons_zero, List.set_cons_succ, List.length_cons, List.length_nil, pk_I, pk_A, pr_A, pi_I, st_s, st_n, if_true, if_false, eq_self, d_if, d_ju, d_re, d_ca, cat0, cat1, cat2, cat3, fr_z, fr_s, cc_I, cc_A, cc_N, Nat.reduceAdd, Nat.reduceLT, Nat.reduceLeDiff, Nat.reduceEqDiff, not_true, not_false_iff, z1_0, z1_1, Bool.and_self, Bool.true_and, Bool.and_true, nI_add, pk_mul, nI_clamp, decide_true, Nat.le_refl, bI_eq, bI_z1, nI_ltI, nI_leI, hk3, nI_eq]
  refine go_at (blk := b_Reader_readUnit_38) rfl ?_
  simp (disch := omega) only [b_Reader_readUnit_38, be_4, be_1, be_49_2, List.getD_cons_zero, List.getD_cons_succ, List.set_cons_zero, List.set_cons_succ, List.length_cons, List.length_nil, pk_I, pk_A, pr_A, pi_I, st_s, st_n, if_true, if_false, eq_self, d_if, d_ju, d_re, d_ca, cat0, cat1, cat2, cat3, fr_z, fr_s, cc_I, cc_A, cc_N, Nat.reduceAdd, Nat.reduceLT, Nat.reduceLeDiff, Nat.reduceEqDiff, not_true, not_false_iff, z1_0, z1_1, Bool.and_self, Bool.true_and, Bool.and_true, nI_add, pk_mul, nI_clamp, decide_true, Nat.le_refl, bI_eq, bI_z1, nI_ltI, nI_leI, hk3, nI_eq]
  refine go_at (blk := b_Reader_readUnit_45) rfl ?_
  simp (disch := omega) only [b_Reader_readUnit_45, be_4, be_1, be_49_3, List.getD_cons_zero, List.getD_cons_succ, List.set_cons_zero, List.set_cons_succ, List.length_cons, List.length_nil, pk_I, pk_A, pr_A, pi_I, st_s, st_n, if_true, if_false, eq_self, d_if, d_ju, d_re, d_ca, cat0, cat1, cat2, cat3, fr_z, fr_s, cc_I, cc_A, cc_N, Nat.reduceAdd, Nat.reduceLT, Nat.reduceLeDiff, Nat.reduceEqDiff, not_true, not_false_iff, z1_0, z1_1, Bool.and_self, Bool.true_and, Bool.and_true, nI_add, pk_mul, nI_clamp, decide_true, Nat.le_refl, bI_eq, bI_z1, nI_ltI, nI_leI, hk3, nI_eq]
  refine go_at (blk := b_Reader_readUnit_70) rfl ?_
  simp (disch := omega) only [b_Reader_readUnit_70, be_4, be_1, be_49_0, List.getD_cons_zero, List.getD_cons_succ, List.set_cons_zero, List.set_cons_succ, List.length_cons, List.length_nil, pk_I, pk_A, pr_A, pi_I, st_s, st_n, if_true, if_false, eq_self, d_if, d_ju, d_re, d_ca, cat0, cat1, cat2, cat3, fr_z, fr_s, cc_I, cc_A, cc_N, Nat.reduceAdd, Nat.reduceLT, Nat.reduceLeDiff, Nat.reduceEqDiff, not_true, not_false_iff, z1_0, z1_1, Bool.and_self, Bool.true_and, Bool.and_true, nI_add, pk_mul, nI_clamp, decide_true, Nat.le_refl, bI_eq, bI_z1, nI_ltI, nI_leI, hk3, nI_eq]
  refine go_at (blk := b_Reader_readUnit_76) rfl ?_
  simp (disch := omega) only [b_Reader_readUnit_76, be_6, be_1, be_57_1, kc_2, List.getD_cons_zero, List.getD_cons_succ, List.set_cons_zero, List.set_cons_succ, List.length_cons, List.length_nil, pk_I, pk_A, pr_A, pi_I, st_s, st_n, if_true, if_false, eq_self, d_if, d_ju, d_re, d_ca, cat0, cat1, cat2, cat3, fr_z, fr_s, cc_I, cc_A, cc_N, Nat.reduceAdd, Nat.reduceLT, Nat.reduceLeDiff, Nat.reduceEqDiff, not_true, not_false_iff, z1_0, z1_1, Bool.and_self, Bool.true_and, Bool.and_true, nI_add, pk_mul, nI_clamp, decide_true, Nat.le_refl, bI_eq, bI_z1, nI_ltI, nI_leI, hk3, nI_eq]
  refine k_fail hE hs (by omega) (by omega) ?_
  intro v' f1 f2
  refine go_at (blk := b_Reader_readUnit_81) rfl ?_
  simp (disch := omega) only [b_Reader_readUnit_81, be_51, List.getD_cons_zero, List.getD_cons_succ, List.set_cons_zero, List.set_cons_succ, List.length_cons, List.length_nil, pk_I, pk_A, pr_A, pi_I, st_s, st_n, if_true, if_false, eq_self, d_if, d_ju, d_re, d_ca, cat0, cat1, cat2, cat3, fr_z, fr_s, cc_I, cc_A, cc_N, Nat.reduceAdd, Nat.reduceLT, Nat.reduceLeDiff, Nat.reduceEqDiff, not_true, not_false_iff, z1_0, z1_1, Bool.and_self, Bool.true_and, Bool.and_true, nI_add, pk_mul, nI_clamp, decide_true, Nat.le_refl, bI_eq, bI_z1, nI_ltI, nI_leI, hk3, nI_eq]
  refine go_at (blk := b_Reader_readUnit_116) rfl ?_
  simp (disch := omega) only [b_Reader_readUnit_116, be_56, List.getD_cons_zero, List.getD_cons_succ, List.set_cons_zero, List.set_cons_succ, List.length_cons, List.length_nil, pk_I, pk_A, pr_A, pi_I, st_s, st_n, if_true, if_false, eq_self, d_if, d_ju, d_re, d_ca, cat0, cat1, cat2, cat3, fr_z, fr_s, cc_I, cc_A, cc_N, Nat.reduceAdd, Nat.reduceLT, Nat.reduceLeDiff, Nat.reduceEqDiff, not_true, not_false_iff, z1_0, z1_1, Bool.and_self, Bool.true_and, Bool.and_true, nI_add, pk_mul, nI_clamp, decide_true, Nat.le_refl, bI_eq, bI_z1, nI_ltI, nI_leI, hk3, nI_eq]
  exact hQ v' (FX_2 f1) f2 (LL_2 hq' hL f1)
theorem k_prodBh {d : Nat} {v : Nat → Nat → Int32} {w : Nat → Nat → Int64} {Q : Option Value → am_H → Prop} {E : ENV} {q l p : Nat} {e : Nat × Nat} (hq' : LD q) (hE : CE E v w) (hs : CS E v (.inl e, l, p)) (hL : LL v q) {o i : Int32} {x : Value} (hQ : ∀ v', FX q v v' → CS E v' (.inl e, l, p) → LL v' q → Q none (428, 26053, KD, RF, v', w)) : am_Go am_X0 (d + 1) k_Reader_readProduct 8 ([.ref 2, .ref q, .int o, .int i, x], [], (428, 26053, KD, RF, v, w)) Q := by
  have hq := LD_W hq'
  have hk3 : nI (cK (kdR E (.inl e, l, p))) = nI 303 := rfl
  refine go_at (blk := b_Reader_readProduct_8) rfl ?_
  simp (disch := omega) only [b_Reader_readProduct_8, be_4, be_1, be_49_3, List.getD_cons_zero, List.getD_cons_succ, List.set_cons_zero, List.set_cons_succ, List.length_cons, List.length_nil, pk_I, pk_A, pr_A, pi_I, st_s, st_n, if_true, if_false, eq_self, d_if, d_ju, d_re, d_ca, cat0, cat1, cat2, cat3, fr_z, fr_s, cc_I, cc_A, cc_N, Nat.reduceAdd, Nat.reduceLT, Nat.reduceLeDiff, Nat.reduceEqDiff, not_true, not_false_iff, z1_0, z1_1, Bool.and_self, Bool.true_and, Bool.and_true, nI_add, pk_mul, nI_clamp, decide_true, Nat.le_refl, bI_eq, bI_z1, nI_ltI, nI_leI, hk3, nI_eq]
  split
  · rename_i hi
    refine go_at (blk := b_Reader_readProduct_73) rfl ?_
    simp (disch := omega) only [b_Reader_readProduct_73, be_56, List.getD_cons_zero, List.getD_cons_succ, List.set_cons_zero, List.set_cons_succ, List.length_cons, List.length_nil, pk_I, pk_A, pr_A, pi_I, st_s, st_n, if_true, if_false, eq_self, d_if, d_ju, d_re, d_ca, cat0, cat1, cat2, cat3, fr_z, fr_s, cc_I, cc_A, cc_N, Nat.reduceAdd, Nat.reduceLT, Nat.reduceLeDiff, Nat.reduceEqDiff, not_true, not_false_iff, z1_0, z1_1, Bool.and_self, Bool.true_and, Bool.and_true, nI_add, pk_mul, nI_clamp, decide_true, Nat.le_refl, bI_eq, bI_z1, nI_ltI, nI_leI, hk3, nI_eq]
    exact hQ v FX_r hs hL
  · rename_i hi
    refine go_at (blk := b_Reader_readProduct_15) rfl ?_
    simp (disch := omega) only [b_Reader_readProduct_15, be_6, be_57_0, kc_2, List.getD_cons_zero, List.getD_cons_succ, List.set_cons_zero, List.set_cons_succ, List.length_cons, List.length_nil, pk_I, pk_A, pr_A, pi_I, st_s, st_n, if_true, if_false, eq_self, d_if, d_ju, d_re, d_ca, cat0, cat1, cat2, cat3, fr_z, fr_s, cc_I, cc_A, cc_N, Nat.reduceAdd, Nat.reduceLT, Nat.reduceLeDiff, Nat.reduceEqDiff, not_true, not_false_iff, z1_0, z1_1, Bool.and_self, Bool.true_and, Bool.and_true, nI_add, pk_mul, nI_clamp, decide_true, Nat.le_refl, bI_eq, bI_z1, nI_ltI, nI_leI, hk3, nI_eq]
    refine k_kind hE hs ?_
    refine go_at (blk := b_Reader_readProduct_19) rfl ?_
    simp (disch := omega) only [b_Reader_readProduct_19, be_1, be_49_0, List.getD_cons_zero, List.getD_cons_succ, List.set_cons_zero, List.set_cons_succ, List.length_cons, List.length_nil, pk_I, pk_A, pr_A, pi_I, st_s, st_n, if_true, if_false, eq_self, d_if, d_ju, d_re, d_ca, cat0, cat1, cat2, cat3, fr_z, fr_s, cc_I, cc_A, cc_N, Nat.reduceAdd, Nat.reduceLT, Nat.reduceLeDiff, Nat.reduceEqDiff, not_true, not_false_iff, z1_0, z1_1, Bool.and_self, Bool.true_and, Bool.and_true, nI_add, pk_mul, nI_clamp, decide_true, Nat.le_refl, bI_eq, bI_z1, nI_ltI, nI_leI, hk3, nI_eq]
    refine go_at (blk := b_Reader_readProduct_24) rfl ?_
    simp (disch := omega) only [b_Reader_readProduct_24, be_6, be_57_0, kc_2, List.getD_cons_zero, List.getD_cons_succ, List.set_cons_zero, List.set_cons_succ, List.length_cons, List.length_nil, pk_I, pk_A, pr_A, pi_I, st_s, st_n, if_true, if_false, eq_self, d_if, d_ju, d_re, d_ca, cat0, cat1, cat2, cat3, fr_z, fr_s, cc_I, cc_A, cc_N, Nat.reduceAdd, Nat.reduceLT, Nat.reduceLeDiff, Nat.reduceEqDiff, not_true, not_false_iff, z1_0, z1_1, Bool.and_self, Bool.true_and, Bool.and_true, nI_add, pk_mul, nI_clamp, decide_true, Nat.le_refl, bI_eq, bI_z1, nI_ltI, nI_leI, hk3, nI_eq]
    refine k_kind hE hs ?_
    refine go_at (blk := b_Reader_readProduct_28) rfl ?_
    simp (disch := omega) only [b_Reader_readProduct_28, be_1, be_49_1, List.getD_cons_zero, List.getD_cons_succ, List.set_cons_zero, List.set_cons_succ, List.length_cons, List.length_nil, pk_I, pk_A, pr_A, pi_I, st_s, st_n, if_true, if_false, eq_self, d_if, d_ju, d_re, d_ca, cat0, cat1, cat2, cat3, fr_z, fr_s, cc_I, cc_A, cc_N, Nat.reduceAdd, Nat.reduceLT, Nat.reduceLeDiff, Nat.reduceEqDiff, not_true, not_false_iff, z1_0, z1_1, Bool.and_self, Bool.true_and, Bool.and_true, nI_add, pk_mul, nI_clamp, decide_true, Nat.le_refl, bI_eq, bI_z1, nI_ltI, nI_leI, hk3, nI_eq]
    refine go_at (blk := b_Reader_readProduct_73) rfl ?_
    simp (disch := omega) only [b_Reader_readProduct_73, be_56, List.getD_cons_zero, List.getD_cons_succ, List.set_cons_zero, List.set_cons_succ, List.length_cons, List.length_nil, pk_I, pk_A, pr_A, pi_I, st_s, st_n, if_true, if_false, eq_self, d_if, d_ju, d_re, d_ca, cat0, cat1, cat2, cat3, fr_z, fr_s, cc_I, cc_A, cc_N, Nat.reduceAdd, Nat.reduceLT, Nat.reduceLeDiff, Nat.reduceEqDiff, not_true, not_false_iff, z1_0, z1_1, Bool.and_self, Bool.true_and, Bool.and_true, nI_add, pk_mul, nI_clamp, decide_true, Nat.le_refl, bI_eq, bI_z1, nI_ltI, nI_leI, hk3, nI_eq]
    exact hQ v FX_r hs hL
theorem k_prodB {d : Nat} {v : Nat → Nat → Int32} {w : Nat → Nat → Int64} {Q : Option Value → am_H → Prop} {E : ENV} {q l p : Nat} {e : Nat × Nat} (hq' : LD q) (hE : CE E v w) (hs : CS E v (.inl e, l, p)) (hL : LL v q) {o : Int32} (hQ : ∀ v', FX q v v' → CS E v' (.inl e, l, p) → LL v' q → Q none (428, 26053, KD, RF, v', w)) : am_Ca (d + 3) M_Reader_readProduct [.ref 2, .ref q, .int o] (428, 26053, KD, RF, v, w) Q := by
  have hq := LD_W hq'
  refine ca_in (k := k_Reader_readProduct) (nL := 5) rfl (Nat.le_of_ble_eq_true rfl) ?_
  show am_Go am_X0 _ k_Reader_readProduct 0 ([.ref 2, .ref q, .int o, .null, .null], [], _) _
  refine go_at (blk := b_Reader_readProduct_0) rfl ?_
  simp (disch := omega) only [b_Reader_readProduct_0, be_6, be_4, be_57_2, kc_2, List.getD_cons_zero, List.getD_cons_succ, List.set_cons_zero, List.set_cons_succ, List.length_cons, List.length_nil, pk_I, pk_A, pr_A, pi_I, st_s, st_n, if_true, if_false, eq_self, d_if, d_ju, d_re, d_ca, cat0, cat1, cat2, cat3, fr_z, fr_s, cc_I, cc_A, cc_N, Nat.reduceAdd, Nat.reduceLT, Nat.reduceLeDiff, Nat.reduceEqDiff, not_true, not_false_iff, z1_0, z1_1, Bool.and_self, Bool.true_and, Bool.and_true, nI_add, pk_mul, nI_clamp, decide_true, Nat.le_refl, bI_eq, bI_z1]
  refine k_unitB hq' hE hs hL ?_
  intro v1 f1 s1 l1
  refine go_at (blk := b_Reader_readProduct_6) rfl ?_
  simp (disch := omega) only [b_Reader_readProduct_6, be_1, be_7, be_0, List.getD_cons_zero, List.getD_cons_succ, List.set_cons_zero, List.set_cons_succ, List.length_cons, List.length_nil, pk_I, pk_A, pr_A, pi_I, st_s, st_n, if_true, if_false, eq_self, d_if, d_ju, d_re, d_ca, cat0, cat1, cat2, cat3, fr_z, fr_s, cc_I, cc_A, cc_N, Nat.reduceAdd, Nat.reduceLT, Nat.reduceLeDiff, Nat.reduceEqDiff, not_true, not_false_iff, z1_0, z1_1, Bool.and_self, Bool.true_and, Bool.and_true, nI_add, pk_mul, nI_clamp, decide_true, Nat.le_refl, bI_eq, bI_z1]
  exact k_prodBh hq' (CE_X hq' hE f1) s1 l1 (fun v2 f2 s2 l2 => hQ v2 (FX_t f1 f2) s2 l2)
theorem k_sumBh {d : Nat} {v : Nat → Nat → Int32} {w : Nat → Nat → Int64} {Q : Option Value → am_H → Prop} {E : ENV} {q l p : Nat} {e : Nat × Nat} (hq' : LD q) (hE : CE E v w) (hs : CS E v (.inl e, l, p)) (hL : LL v q) {o i : Int32} {x : Value} (hQ : ∀ v', FX q v v' → CS E v' (.inl e, l, p) → LL v' q → Q none (428, 26053, KD, RF, v', w)) : am_Go am_X0 (d + 1) k_Reader_readSum 8 ([.ref 2, .ref q, .int o, .int i, x], [], (428, 26053, KD, RF, v, w)) Q := by
  have hq := LD_W hq'
  have hk3 : nI (cK (kdR E (.inl e, l, p))) = nI 303 := rfl
  refine go_at (blk := b_Reader_readSum_8) rfl ?_
  simp (disch := omega) only [b_Reader_readSum_8, be_4, be_1, be_49_3, List.getD_cons_zero, List.getD_cons_succ, List.set_cons_zero, List.set_cons_succ, List.length_cons, List.length_nil, pk_I, pk_A, pr_A, pi_I, st_s, st_n, if_true, if_false, eq_self, d_if, d_ju, d_re, d_ca, cat0, cat1, cat2, cat3, fr_z, fr_s, cc_I, cc_A, cc_N, Nat.reduceAdd, Nat.reduceLT, Nat.reduceLeDiff, Nat.reduceEqDiff, not_true, not_false_iff, z1_0, z1_1, Bool.and_self, Bool.true_and, Bool.and_true, nI_add, pk_mul, nI_clamp, decide_true, Nat.le_refl, bI_eq, bI_z1, nI_ltI, nI_leI, hk3, nI_eq]
  split
  · rename_i hi
    refine go_at (blk := b_Reader_readSum_73) rfl ?_
    simp (disch := omega) only [b_Reader_readSum_73, be_56, List.getD_cons_zero, List.getD_cons_succ, List.set_cons_zero, List.set_cons_succ, List.length_cons, List.length_nil, pk_I, pk_A, pr_A, pi_I, st_s, st_n, if_true, if_false, eq_self, d_if, d_ju, d_re, d_ca, cat0, cat1, cat2, cat3, fr_z, fr_s, cc_I, cc_A, cc_N, Nat.reduceAdd, Nat.reduceLT, Nat.reduceLeDiff, Nat.reduceEqDiff, not_true, not_false_iff, z1_0, z1_1, Bool.and_self, Bool.true_and, Bool.and_true, nI_add, pk_mul, nI_clamp, decide_true, Nat.le_refl, bI_eq, bI_z1, nI_ltI, nI_leI, hk3, nI_eq]
    exact hQ v FX_r hs hL
  · rename_i hi
    refine go_at (blk := b_Reader_readSum_15) rfl ?_
    simp (disch := omega) only [b_Reader_readSum_15, be_6, be_57_0, kc_2, List.getD_cons_zero, List.getD_cons_succ, List.set_cons_zero, List.set_cons_succ, List.length_cons, List.length_nil, pk_I, pk_A, pr_A, pi_I, st_s, st_n, if_true, if_false, eq_self, d_if, d_ju, d_re, d_ca, cat0, cat1, cat2, cat3, fr_z, fr_s, cc_I, cc_A, cc_N, Nat.reduceAdd, Nat.reduceLT, Nat.reduceLeDiff, Nat.reduceEqDiff, not_true, not_false_iff, z1_0, z1_1, Bool.and_self, Bool.true_and, Bool.and_true, nI_add, pk_mul, nI_clamp, decide_true, Nat.le_refl, bI_eq, bI_z1, nI_ltI, nI_leI, hk3, nI_eq]
    refine k_kind hE hs ?_
    refine go_at (blk := b_Reader_readSum_19) rfl ?_
    simp (disch := omega) only [b_Reader_readSum_19, be_1, be_49_0, List.getD_cons_zero, List.getD_cons_succ, List.set_cons_zero, List.set_cons_succ, List.length_cons, List.length_nil, pk_I, pk_A, pr_A, pi_I, st_s, st_n, if_true, if_false, eq_self, d_if, d_ju, d_re, d_ca, cat0, cat1, cat2, cat3, fr_z, fr_s, cc_I, cc_A, cc_N, Nat.reduceAdd, Nat.reduceLT, Nat.reduceLeDiff, Nat.reduceEqDiff, not_true, not_false_iff, z1_0, z1_1, Bool.and_self, Bool.true_and, Bool.and_true, nI_add, pk_mul, nI_clamp, decide_true, Nat.le_refl, bI_eq, bI_z1, nI_ltI, nI_leI, hk3, nI_eq]
    refine go_at (blk := b_Reader_readSum_24) rfl ?_
    simp (disch := omega) only [b_Reader_readSum_24, be_6, be_57_0, kc_2, List.getD_cons_zero, List.getD_cons_succ, List.set_cons_zero, List.set_cons_succ, List.length_cons, List.length_nil, pk_I, pk_A, pr_A, pi_I, st_s, st_n, if_true, if_false, eq_self, d_if, d_ju, d_re, d_ca, cat0, cat1, cat2, cat3, fr_z, fr_s, cc_I, cc_A, cc_N, Nat.reduceAdd, Nat.reduceLT, Nat.reduceLeDiff, Nat.reduceEqDiff, not_true, not_false_iff, z1_0, z1_1, Bool.and_self, Bool.true_and, Bool.and_true, nI_add, pk_mul, nI_clamp, decide_true, Nat.le_refl, bI_eq, bI_z1, nI_ltI, nI_leI, hk3, nI_eq]
    refine k_kind hE hs ?_
    refine go_at (blk := b_Reader_readSum_28) rfl ?_
    simp (disch := omega) only [b_Reader_readSum_28, be_1, be_49_1, List.getD_cons_zero, List.getD_cons_succ, List.set_cons_zero, List.set_cons_succ, List.length_cons, List.length_nil, pk_I, pk_A, pr_A, pi_I, st_s, st_n, if_true, if_false, eq_self, d_if, d_ju, d_re, d_ca, cat0, cat1, cat2, cat3, fr_z, fr_s, cc_I, cc_A, cc_N, Nat.reduceAdd, Nat.reduceLT, Nat.reduceLeDiff, Nat.reduceEqDiff, not_true, not_false_iff, z1_0, z1_1, Bool.and_self, Bool.true_and, Bool.and_true, nI_add, pk_mul, nI_clamp, decide_true, Nat.le_refl, bI_eq, bI_z1, nI_ltI, nI_leI, hk3, nI_eq]
    refine go_at (blk := b_Reader_readSum_73) rfl ?_
    simp (disch := omega) only [b_Reader_readSum_73, be_56, List.getD_cons_zero, List.getD_cons_succ, List.set_cons_zero, List.set_cons_succ, List.length_cons, List.length_nil, pk_I, pk_A, pr_A, pi_I, st_s, st_n, if_true, if_false, eq_self, d_if, d_ju, d_re, d_ca, cat0, cat1, cat2, cat3, fr_z, fr_s, cc_I, cc_A, cc_N, Nat.reduceAdd, Nat.reduceLT, Nat.reduceLeDiff, Nat.reduceEqDiff, not_true, not_false_iff, z1_0, z1_1, Bool.and_self, Bool.true_and, Bool.and_true, nI_add, pk_mul, nI_clamp, decide_true, Nat.le_refl, bI_eq, bI_z1, nI_ltI, nI_leI, hk3, nI_eq]
    exact hQ v FX_r hs hL
theorem k_sumB {d : Nat} {v : Nat → Nat → Int32} {w : Nat → Nat → Int64} {Q : Option Value → am_H → Prop} {E : ENV} {q l p : Nat} {e : Nat × Nat} (hq' : LD q) (hE : CE E v w) (hs : CS E v (.inl e, l, p)) (hL : LL v q) {o : Int32} (hQ : ∀ v', FX q v v' → CS E v' (.inl e, l, p) → LL v' q → Q none (428, 26053, KD, RF, v', w)) : am_Ca (d + 4) M_Reader_readSum [.ref 2, .ref q, .int o] (428, 26053, KD, RF, v, w) Q := by
  have hq := LD_W hq'
  refine ca_in (k := k_Reader_readSum) (nL := 5) rfl (Nat.le_of_ble_eq_true rfl) ?_
  show am_Go am_X0 _ k_Reader_readSum 0 ([.ref 2, .ref q, .int o, .null, .null], [], _) _
  refine go_at (blk := b_Reader_readSum_0) rfl ?_
  simp (disch := omega) only [b_Reader_readSum_0, be_6, be_4, be_57_2, kc_2, List.getD_cons_zero, List.getD_cons_succ, List.set_cons_zero, List.set_cons_succ, List.length_cons, List.length_nil, pk_I, pk_A, pr_A, pi_I, st_s, st_n, if_true, if_false, eq_self, d_if, d_ju, d_re, d_ca, cat0, cat1, cat2, cat3, fr_z, fr_s, cc_I, cc_A, cc_N, Nat.reduceAdd, Nat.reduceLT, Nat.reduceLeDiff, Nat.reduceEqDiff, not_true, not_false_iff, z1_0, z1_1, Bool.and_self, Bool.true_and, Bool.and_true, nI_add, pk_mul, nI_clamp, decide_true, Nat.le_refl, bI_eq, bI_z1]
  refine k_prodB hq' hE hs hL ?_
  intro v1 f1 s1 l1
  refine go_at (blk := b_Reader_readSum_6) rfl ?_
  simp (disch := omega) only [b_Reader_readSum_6, be_1, be_7, be_0, List.getD_cons_zero, List.getD_cons_succ, List.set_cons_zero, List.set_cons_succ, List.length_cons, List.length_nil, pk_I, pk_A, pr_A, pi_I, st_s, st_n, if_true, if_false, eq_self, d_if, d_ju, d_re, d_ca, cat0, cat1, cat2, cat3, fr_z, fr_s, cc_I, cc_A, cc_N, Nat.reduceAdd, Nat.reduceLT, Nat.reduceLeDiff, Nat.reduceEqDiff, not_true, not_false_iff, z1_0, z1_1, Bool.and_self, Bool.true_and, Bool.and_true, nI_add, pk_mul, nI_clamp, decide_true, Nat.le_refl, bI_eq, bI_z1]
  exact k_sumBh hq' (CE_X hq' hE f1) s1 l1 (fun v2 f2 s2 l2 => hQ v2 (FX_t f1 f2) s2 l2)
