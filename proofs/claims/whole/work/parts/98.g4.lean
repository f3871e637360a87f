/-! laid by wip/whole/g4.py: the class: an E -/
/-- what a method that reads a part of an E does -/
def EXC (M d o : Nat) (wok : List Nat → Prop) (nxt : Nat → Prop) : Prop := ∀ (v : Nat → Nat → Int32) (w : Nat → Nat → Int64) (Q : Option Value → am_H → Prop) (E : ENV) (q t l p : Nat) (W : List Nat) (C pre : CL) (sl : Nat), LD q → CE E v w → CG E v t l p → LC v q (pre ++ C) → (pre ++ C).length + sl ≤ t → 2 ≤ sl → opn W = o → wok W →
  (∀ v' t' C', FX q v v' → CG E v' t' l p → LC v' q (pre ++ C') → (pre ++ C').length + sl ≤ t' → t < t' → nxt (eK E t') → (∀ R, XX E (true, t', W, C') R → XX E (false, t, W, C) R) → Q none (428, 26053, KD, RF, v', w)) →
  (∀ v' k p', FX q v v' → CB v' k p' → LL v' q → XX E (false, t, W, C) (.inl (k, p')) → Q none (428, 26053, KD, RF, v', w)) →
  am_Ca d M [.ref 2, .ref q, .int (nI o)] (428, 26053, KD, RF, v, w) Q
def nxP (k : Nat) : Prop := k ≠ 10 ∧ k ≠ 15
def nxS (k : Nat) : Prop := ¬ opK k
def UNIT (d o : Nat) : Prop := EXC M_Reader_readUnit d o (fun _ => True) (fun _ => True)
def PROD (d o : Nat) : Prop := EXC M_Reader_readProduct d o WP nxP
def SUMX (d o : Nat) : Prop := EXC M_Reader_readSum d o WS nxS
theorem ck_v : ∀ i, i < 8 → cK (29 + i) = 265 + i := by decide +kernel
theorem ck_o : ∀ k, k < 37 → (okK k = true ∧ k ≠ 2 ∧ k ≠ 6 ∧ k < 29) → (cK k ≠ 301 ∧ cK k ≠ 40 ∧ (cK k < 265 ∨ 273 ≤ cK k)) := by decide +kernel
theorem tk_1 {E : ENV} {t l p : Nat} (h : t < 400) : takeS E (.inr t, l, p) = (.inr (t + 1), l, p) := by
  unfold takeS bR tkR
  dsimp only
  rw [if_pos h]
theorem tk_2 {E : ENV} {t l p : Nat} (h : ¬ t < 400) : takeS E (.inr t, l, p) = (.inl (2, eP E t), l, p) := by
  unfold takeS bR tkR
  dsimp only
  rw [if_neg h]
theorem wt_1 {E : ENV} {j t l p : Nat} (h : eK E t = j) (h4 : t < 400) : wantS E j (.inr t, l, p) = (.inr (t + 1), l, p) := by
  unfold wantS bR wnt tkR
  dsimp only
  rw [if_pos h, if_pos h4]
theorem wt_2 {E : ENV} {j t l p : Nat} (h : eK E t = j) (h4 : ¬ t < 400) : wantS E j (.inr t, l, p) = (.inl (2, eP E t), l, p) := by
  unfold wantS bR wnt tkR
  dsimp only
  rw [if_pos h, if_neg h4]
theorem wt_3 {E : ENV} {j t l p : Nat} (h : eK E t ≠ j) : wantS E j (.inr t, l, p) = (.inl (1, eP E t), l, p) := by
  unfold wantS bR wnt
  dsimp only
  rw [if_neg h]
theorem pre_1 {pre C : CL} {a : Nat × Int32} : pre ++ (C ++ [a]) = pre ++ C ++ [a] := (List.append_assoc _ _ _).symm
set_option maxHeartbeats 2000000 in
theorem unit_of {d o : Nat} (ho9 : o ≤ 6) (hS : o < 6 → SUMX (d + 4) (o + 1)) : UNIT (d + 5) o := by
  intro v w Q E q t l p W C pre sl hq' hE hG hC hsl hs2 hoW hW q0 q1
  have hq := LD_W hq'
  have hs : CS E v (.inr t, l, p) := hG
  obtain ⟨g1, g4, gt, g5, g6, gl, g7⟩ := hG
  have gL := hE.1.1
  refine ca_in (k := k_Reader_readUnit) (nL := 4) rfl (Nat.le_of_ble_eq_true rfl) ?_
  show am_Go am_X0 _ k_Reader_readUnit 0 ([.ref 2, .ref q, .int (nI o), .null], [], _) _
  by_cases hK : eK E t = 2
  · have gv := (hE.2 t gt).2.2.2 hK
    refine go_at (blk := b_Reader_readUnit_0) rfl ?_
    simp (disch := omega) only [b_Reader_readUnit_0, be_6, be_57_0, kc_2, List.getD_cons_zero, List.getD_cons_succ, List.set_cons_zero, List.set_cons_succ, List.length_cons, List.length_nil, pk_I, pk_A, pr_A, pi_I, st_s, st_n, if_true, if_false, eq_self, d_if, d_ju, d_re, d_ca, cat0, cat1, cat2, cat3, fr_z, fr_s, cc_I, cc_A, cc_N, Nat.reduceAdd, Nat.reduceLT, Nat.reduceLeDiff, Nat.reduceEqDiff, not_true, not_false_iff, z1_0, z1_1, Bool.and_self, Bool.true_and, Bool.and_true, nI_add, pk_mul, nI_clamp, decide_true, Nat.le_refl, bI_eq, bI_z1, nI_ltI, nI_leI, nI_eq, lN_i, gv, pk_L, g4]
    refine k_kind hE hs ?_
    rw [show kdR E (.inr t, l, p) = eK E t from rfl, hK, show cK 2 = 301 from rfl]
    refine go_at (blk := b_Reader_readUnit_4) rfl ?_
    simp (disch := omega) only [b_Reader_readUnit_4, be_7, be_4, be_1, be_49_1, List.getD_cons_zero, List.getD_cons_succ, List.set_cons_zero, List.set_cons_succ, List.length_cons, List.length_nil, pk_I, pk_A, pr_A, pi_I, st_s, st_n, if_true, if_false, eq_self, d_if, d_ju, d_re, d_ca, cat0, cat1, cat2, cat3, fr_z, fr_s, cc_I, cc_A, cc_N, Nat.reduceAdd, Nat.reduceLT, Nat.reduceLeDiff, Nat.reduceEqDiff, not_true, not_false_iff, z1_0, z1_1, Bool.and_self, Bool.true_and, Bool.and_true, nI_add, pk_mul, nI_clamp, decide_true, Nat.le_refl, bI_eq, bI_z1, nI_ltI, nI_leI, nI_eq, lN_i, gv, pk_L, g4]
    refine go_at (blk := b_Reader_readUnit_12) rfl ?_
    simp (disch := omega) only [b_Reader_readUnit_12, be_6, be_1, be_34, be_33, be_41, be_27, be_57_2, kc_2, rf_2_2, kc_20, rf_20_2, ka_23, kc_lw hq, List.getD_cons_zero, List.getD_cons_succ, List.set_cons_zero, List.set_cons_succ, List.length_cons, List.length_nil, pk_I, pk_A, pr_A, pi_I, st_s, st_n, if_true, if_false, eq_self, d_if, d_ju, d_re, d_ca, cat0, cat1, cat2, cat3, fr_z, fr_s, cc_I, cc_A, cc_N, Nat.reduceAdd, Nat.reduceLT, Nat.reduceLeDiff, Nat.reduceEqDiff, not_true, not_false_iff, z1_0, z1_1, Bool.and_self, Bool.true_and, Bool.and_true, nI_add, pk_mul, nI_clamp, decide_true, Nat.le_refl, bI_eq, bI_z1, nI_ltI, nI_leI, nI_eq, lN_i, gv, pk_L, g4]
    refine k_put hq' hC (by omega) ?_
    intro v1 f1 c1
    have hE1 := CE_3 hq' hE f1
    have s1 := CS_3 hq' hs f1
    refine go_at (blk := b_Reader_readUnit_30) rfl ?_
    simp (disch := omega) only [b_Reader_readUnit_30, be_31I, be_6, be_57_0, kc_2, List.getD_cons_zero, List.getD_cons_succ, List.set_cons_zero, List.set_cons_succ, List.length_cons, List.length_nil, pk_I, pk_A, pr_A, pi_I, st_s, st_n, if_true, if_false, eq_self, d_if, d_ju, d_re, d_ca, cat0, cat1, cat2, cat3, fr_z, fr_s, cc_I, cc_A, cc_N, Nat.reduceAdd, Nat.reduceLT, Nat.reduceLeDiff, Nat.reduceEqDiff, not_true, not_false_iff, z1_0, z1_1, Bool.and_self, Bool.true_and, Bool.and_true, nI_add, pk_mul, nI_clamp, decide_true, Nat.le_refl, bI_eq, bI_z1, nI_ltI, nI_leI, nI_eq, lN_i, gv, pk_L, g4]
    refine k_take hE1 s1 (fun t' ht => ?_) ?_
    · have e9 : t = t' := by simpa using ht
      subst e9
      exact ⟨by omega, by omega⟩
    intro v2 f2 s2
    refine go_at (blk := b_Reader_readUnit_35) rfl ?_
    simp (disch := omega) only [b_Reader_readUnit_35, be_51, List.getD_cons_zero, List.getD_cons_succ, List.set_cons_zero, List.set_cons_succ, List.length_cons, List.length_nil, pk_I, pk_A, pr_A, pi_I, st_s, st_n, if_true, if_false, eq_self, d_if, d_ju, d_re, d_ca, cat0, cat1, cat2, cat3, fr_z, fr_s, cc_I, cc_A, cc_N, Nat.reduceAdd, Nat.reduceLT, Nat.reduceLeDiff, Nat.reduceEqDiff, not_true, not_false_iff, z1_0, z1_1, Bool.and_self, Bool.true_and, Bool.and_true, nI_add, pk_mul, nI_clamp, decide_true, Nat.le_refl, bI_eq, bI_z1, nI_ltI, nI_leI, nI_eq, lN_i, gv, pk_L, g4]
    refine go_at (blk := b_Reader_readUnit_116) rfl ?_
    simp (disch := omega) only [b_Reader_readUnit_116, be_56, List.getD_cons_zero, List.getD_cons_succ, List.set_cons_zero, List.set_cons_succ, List.length_cons, List.length_nil, pk_I, pk_A, pr_A, pi_I, st_s, st_n, if_true, if_false, eq_self, d_if, d_ju, d_re, d_ca, cat0, cat1, cat2, cat3, fr_z, fr_s, cc_I, cc_A, cc_N, Nat.reduceAdd, Nat.reduceLT, Nat.reduceLeDiff, Nat.reduceEqDiff, not_true, not_false_iff, z1_0, z1_1, Bool.and_self, Bool.true_and, Bool.and_true, nI_add, pk_mul, nI_clamp, decide_true, Nat.le_refl, bI_eq, bI_z1, nI_ltI, nI_leI, nI_eq, lN_i, gv, pk_L, g4]
    by_cases ht : t < 400
    · rw [tk_1 ht] at s2
      exact q0 v2 (t + 1) (C ++ [(0, nI (eV E t))]) (FX_t (FX_3 f1) (FX_2 f2)) s2 (by rw [pre_1]; exact LC_2 hq' c1 f2) (by rw [pre_1, len_1]; omega) (by omega) trivial (fun R hR => X_s (st_int hK ht) hR)
    · rw [tk_2 ht] at s2
      exact q1 v2 _ _ (FX_t (FX_3 f1) (FX_2 f2)) s2 (LC_L (LC_2 hq' c1 f2) (by rw [len_1]; omega)) (X_d (st_int4 hK ht))
  · by_cases hK2 : 29 ≤ eK E t
    · obtain ⟨i, hi8, hi⟩ : ∃ i, i < 8 ∧ eK E t = 29 + i := ⟨eK E t - 29, by have := (hE.1.2.2.2.1 t).1; omega, by omega⟩
      have hv1 : ¬ 265 + i = 301 := by omega
      have hv2 : ¬ 265 + i < 265 := by omega
      have hv3 : ¬ 273 ≤ 265 + i := by omega
      have pk_s265 : 265 + i - 265 = eK E t - 29 := by omega
      refine go_at (blk := b_Reader_readUnit_0) rfl ?_
      simp (disch := omega) only [b_Reader_readUnit_0, be_6, be_57_0, kc_2, List.getD_cons_zero, List.getD_cons_succ, List.set_cons_zero, List.set_cons_succ, List.length_cons, List.length_nil, pk_I, pk_A, pr_A, pi_I, st_s, st_n, if_true, if_false, eq_self, d_if, d_ju, d_re, d_ca, cat0, cat1, cat2, cat3, fr_z, fr_s, cc_I, cc_A, cc_N, Nat.reduceAdd, Nat.reduceLT, Nat.reduceLeDiff, Nat.reduceEqDiff, not_true, not_false_iff, z1_0, z1_1, Bool.and_self, Bool.true_and, Bool.and_true, nI_add, pk_mul, nI_clamp, decide_true, Nat.le_refl, bI_eq, bI_z1, nI_ltI, nI_leI, nI_eq, hv1, hv2, hv3, pk_sub, pk_s265]
      refine k_kind hE hs ?_
      rw [show kdR E (.inr t, l, p) = eK E t from rfl, hi, ck_v i hi8]
      refine go_at (blk := b_Reader_readUnit_4) rfl ?_
      simp (disch := omega) only [b_Reader_readUnit_4, be_7, be_4, be_1, be_49_1, List.getD_cons_zero, List.getD_cons_succ, List.set_cons_zero, List.set_cons_succ, List.length_cons, List.length_nil, pk_I, pk_A, pr_A, pi_I, st_s, st_n, if_true, if_false, eq_self, d_if, d_ju, d_re, d_ca, cat0, cat1, cat2, cat3, fr_z, fr_s, cc_I, cc_A, cc_N, Nat.reduceAdd, Nat.reduceLT, Nat.reduceLeDiff, Nat.reduceEqDiff, not_true, not_false_iff, z1_0, z1_1, Bool.and_self, Bool.true_and, Bool.and_true, nI_add, pk_mul, nI_clamp, decide_true, Nat.le_refl, bI_eq, bI_z1, nI_ltI, nI_leI, nI_eq, hv1, hv2, hv3, pk_sub, pk_s265]
      refine go_at (blk := b_Reader_readUnit_38) rfl ?_
      simp (disch := omega) only [b_Reader_readUnit_38, be_4, be_1, be_49_2, List.getD_cons_zero, List.getD_cons_succ, List.set_cons_zero, List.set_cons_succ, List.length_cons, List.length_nil, pk_I, pk_A, pr_A, pi_I, st_s, st_n, if_true, if_false, eq_self, d_if, d_ju, d_re, d_ca, cat0, cat1, cat2, cat3, fr_z, fr_s, cc_I, cc_A, cc_N, Nat.reduceAdd, Nat.reduceLT, Nat.reduceLeDiff, Nat.reduceEqDiff, not_true, not_false_iff, z1_0, z1_1, Bool.and_self, Bool.true_and, Bool.and_true, nI_add, pk_mul, nI_clamp, decide_true, Nat.le_refl, bI_eq, bI_z1, nI_ltI, nI_leI, nI_eq, hv1, hv2, hv3, pk_sub, pk_s265]
      refine go_at (blk := b_Reader_readUnit_45) rfl ?_
      simp (disch := omega) only [b_Reader_readUnit_45, be_4, be_1, be_49_3, List.getD_cons_zero, List.getD_cons_succ, List.set_cons_zero, List.set_cons_succ, List.length_cons, List.length_nil, pk_I, pk_A, pr_A, pi_I, st_s, st_n, if_true, if_false, eq_self, d_if, d_ju, d_re, d_ca, cat0, cat1, cat2, cat3, fr_z, fr_s, cc_I, cc_A, cc_N, Nat.reduceAdd, Nat.reduceLT, Nat.reduceLeDiff, Nat.reduceEqDiff, not_true, not_false_iff, z1_0, z1_1, Bool.and_self, Bool.true_and, Bool.and_true, nI_add, pk_mul, nI_clamp, decide_true, Nat.le_refl, bI_eq, bI_z1, nI_ltI, nI_leI, nI_eq, hv1, hv2, hv3, pk_sub, pk_s265]
      refine go_at (blk := b_Reader_readUnit_52) rfl ?_
      simp (disch := omega) only [b_Reader_readUnit_52, be_6, be_1, be_4, be_13, be_57_2, kc_lw hq, List.getD_cons_zero, List.getD_cons_succ, List.set_cons_zero, List.set_cons_succ, List.length_cons, List.length_nil, pk_I, pk_A, pr_A, pi_I, st_s, st_n, if_true, if_false, eq_self, d_if, d_ju, d_re, d_ca, cat0, cat1, cat2, cat3, fr_z, fr_s, cc_I, cc_A, cc_N, Nat.reduceAdd, Nat.reduceLT, Nat.reduceLeDiff, Nat.reduceEqDiff, not_true, not_false_iff, z1_0, z1_1, Bool.and_self, Bool.true_and, Bool.and_true, nI_add, pk_mul, nI_clamp, decide_true, Nat.le_refl, bI_eq, bI_z1, nI_ltI, nI_leI, nI_eq, hv1, hv2, hv3, pk_sub, pk_s265]
      refine k_put hq' hC (by omega) ?_
      intro v1 f1 c1
      have hE1 := CE_3 hq' hE f1
      have s1 := CS_3 hq' hs f1
      refine go_at (blk := b_Reader_readUnit_62) rfl ?_
      simp (disch := omega) only [b_Reader_readUnit_62, be_31I, be_6, be_57_0, kc_2, List.getD_cons_zero, List.getD_cons_succ, List.set_cons_zero, List.set_cons_succ, List.length_cons, List.length_nil, pk_I, pk_A, pr_A, pi_I, st_s, st_n, if_true, if_false, eq_self, d_if, d_ju, d_re, d_ca, cat0, cat1, cat2, cat3, fr_z, fr_s, cc_I, cc_A, cc_N, Nat.reduceAdd, Nat.reduceLT, Nat.reduceLeDiff, Nat.reduceEqDiff, not_true, not_false_iff, z1_0, z1_1, Bool.and_self, Bool.true_and, Bool.and_true, nI_add, pk_mul, nI_clamp, decide_true, Nat.le_refl, bI_eq, bI_z1, nI_ltI, nI_leI, nI_eq, hv1, hv2, hv3, pk_sub, pk_s265]
      refine k_take hE1 s1 (fun t' ht => ?_) ?_
      · have e9 : t = t' := by simpa using ht
        subst e9
        exact ⟨by omega, by omega⟩
      intro v2 f2 s2
      refine go_at (blk := b_Reader_readUnit_67) rfl ?_
      simp (disch := omega) only [b_Reader_readUnit_67, be_51, List.getD_cons_zero, List.getD_cons_succ, List.set_cons_zero, List.set_cons_succ, List.length_cons, List.length_nil, pk_I, pk_A, pr_A, pi_I, st_s, st_n, if_true, if_false, eq_self, d_if, d_ju, d_re, d_ca, cat0, cat1, cat2, cat3, fr_z, fr_s, cc_I, cc_A, cc_N, Nat.reduceAdd, Nat.reduceLT, Nat.reduceLeDiff, Nat.reduceEqDiff, not_true, not_false_iff, z1_0, z1_1, Bool.and_self, Bool.true_and, Bool.and_true, nI_add, pk_mul, nI_clamp, decide_true, Nat.le_refl, bI_eq, bI_z1, nI_ltI, nI_leI, nI_eq, hv1, hv2, hv3, pk_sub, pk_s265]
      refine go_at (blk := b_Reader_readUnit_116) rfl ?_
      simp (disch := omega) only [b_Reader_readUnit_116, be_56, List.getD_cons_zero, List.getD_cons_succ, List.set_cons_zero, List.set_cons_succ, List.length_cons, List.length_nil, pk_I, pk_A, pr_A, pi_I, st_s, st_n, if_true, if_false, eq_self, d_if, d_ju, d_re, d_ca, cat0, cat1, cat2, cat3, fr_z, fr_s, cc_I, cc_A, cc_N, Nat.reduceAdd, Nat.reduceLT, Nat.reduceLeDiff, Nat.reduceEqDiff, not_true, not_false_iff, z1_0, z1_1, Bool.and_self, Bool.true_and, Bool.and_true, nI_add, pk_mul, nI_clamp, decide_true, Nat.le_refl, bI_eq, bI_z1, nI_ltI, nI_leI, nI_eq, hv1, hv2, hv3, pk_sub, pk_s265]
      by_cases ht : t < 400
      · rw [tk_1 ht] at s2
        exact q0 v2 (t + 1) (C ++ [(1, nI (eK E t - 29))]) (FX_t (FX_3 f1) (FX_2 f2)) s2 (by rw [pre_1]; exact LC_2 hq' c1 f2) (by rw [pre_1, len_1]; omega) (by omega) trivial (fun R hR => X_s (st_var hK2 ht) hR)
      · rw [tk_2 ht] at s2
        exact q1 v2 _ _ (FX_t (FX_3 f1) (FX_2 f2)) s2 (LC_L (LC_2 hq' c1 f2) (by rw [len_1]; omega)) (X_d (st_var4 hK2 ht))
    · by_cases hK6 : eK E t = 6
      · by_cases ho : o < 6
        · have ho6 : o < 6 := ho
          refine go_at (blk := b_Reader_readUnit_0) rfl ?_
          simp (disch := omega) only [b_Reader_readUnit_0, be_6, be_57_0, kc_2, List.getD_cons_zero, List.getD_cons_succ, List.set_cons_zero, List.set_cons_succ, List.length_cons, List.length_nil, pk_I, pk_A, pr_A, pi_I, st_s, st_n, if_true, if_false, eq_self, d_if, d_ju, d_re, d_ca, cat0, cat1, cat2, cat3, fr_z, fr_s, cc_I, cc_A, cc_N, Nat.reduceAdd, Nat.reduceLT, Nat.reduceLeDiff, Nat.reduceEqDiff, not_true, not_false_iff, z1_0, z1_1, Bool.and_self, Bool.true_and, Bool.and_true, nI_add, pk_mul, nI_clamp, decide_true, Nat.le_refl, bI_eq, bI_z1, nI_ltI, nI_leI, nI_eq, ho6]
          refine k_kind hE hs ?_
          rw [show kdR E (.inr t, l, p) = eK E t from rfl, hK6, show cK 6 = 40 from rfl]
          refine go_at (blk := b_Reader_readUnit_4) rfl ?_
          simp (disch := omega) only [b_Reader_readUnit_4, be_7, be_4, be_1, be_49_1, List.getD_cons_zero, List.getD_cons_succ, List.set_cons_zero, List.set_cons_succ, List.length_cons, List.length_nil, pk_I, pk_A, pr_A, pi_I, st_s, st_n, if_true, if_false, eq_self, d_if, d_ju, d_re, d_ca, cat0, cat1, cat2, cat3, fr_z, fr_s, cc_I, cc_A, cc_N, Nat.reduceAdd, Nat.reduceLT, Nat.reduceLeDiff, Nat.reduceEqDiff, not_true, not_false_iff, z1_0, z1_1, Bool.and_self, Bool.true_and, Bool.and_true, nI_add, pk_mul, nI_clamp, decide_true, Nat.le_refl, bI_eq, bI_z1, nI_ltI, nI_leI, nI_eq, ho6]
          refine go_at (blk := b_Reader_readUnit_38) rfl ?_
          simp (disch := omega) only [b_Reader_readUnit_38, be_4, be_1, be_49_2, List.getD_cons_zero, List.getD_cons_succ, List.set_cons_zero, List.set_cons_succ, List.length_cons, List.length_nil, pk_I, pk_A, pr_A, pi_I, st_s, st_n, if_true, if_false, eq_self, d_if, d_ju, d_re, d_ca, cat0, cat1, cat2, cat3, fr_z, fr_s, cc_I, cc_A, cc_N, Nat.reduceAdd, Nat.reduceLT, Nat.reduceLeDiff, Nat.reduceEqDiff, not_true, not_false_iff, z1_0, z1_1, Bool.and_self, Bool.true_and, Bool.and_true, nI_add, pk_mul, nI_clamp, decide_true, Nat.le_refl, bI_eq, bI_z1, nI_ltI, nI_leI, nI_eq, ho6]
          refine go_at (blk := b_Reader_readUnit_70) rfl ?_
          simp (disch := omega) only [b_Reader_readUnit_70, be_4, be_1, be_49_0, List.getD_cons_zero, List.getD_cons_succ, List.set_cons_zero, List.set_cons_succ, List.length_cons, List.length_nil, pk_I, pk_A, pr_A, pi_I, st_s, st_n, if_true, if_false, eq_self, d_if, d_ju, d_re, d_ca, cat0, cat1, cat2, cat3, fr_z, fr_s, cc_I, cc_A, cc_N, Nat.reduceAdd, Nat.reduceLT, Nat.reduceLeDiff, Nat.reduceEqDiff, not_true, not_false_iff, z1_0, z1_1, Bool.and_self, Bool.true_and, Bool.and_true, nI_add, pk_mul, nI_clamp, decide_true, Nat.le_refl, bI_eq, bI_z1, nI_ltI, nI_leI, nI_eq, ho6]
          refine go_at (blk := b_Reader_readUnit_84) rfl ?_
          simp (disch := omega) only [b_Reader_readUnit_84, be_4, be_1, be_49_2, List.getD_cons_zero, List.getD_cons_succ, List.set_cons_zero, List.set_cons_succ, List.length_cons, List.length_nil, pk_I, pk_A, pr_A, pi_I, st_s, st_n, if_true, if_false, eq_self, d_if, d_ju, d_re, d_ca, cat0, cat1, cat2, cat3, fr_z, fr_s, cc_I, cc_A, cc_N, Nat.reduceAdd, Nat.reduceLT, Nat.reduceLeDiff, Nat.reduceEqDiff, not_true, not_false_iff, z1_0, z1_1, Bool.and_self, Bool.true_and, Bool.and_true, nI_add, pk_mul, nI_clamp, decide_true, Nat.le_refl, bI_eq, bI_z1, nI_ltI, nI_leI, nI_eq, ho6]
          refine go_at (blk := b_Reader_readUnit_98) rfl ?_
          simp (disch := omega) only [b_Reader_readUnit_98, be_6, be_57_0, kc_2, List.getD_cons_zero, List.getD_cons_succ, List.set_cons_zero, List.set_cons_succ, List.length_cons, List.length_nil, pk_I, pk_A, pr_A, pi_I, st_s, st_n, if_true, if_false, eq_self, d_if, d_ju, d_re, d_ca, cat0, cat1, cat2, cat3, fr_z, fr_s, cc_I, cc_A, cc_N, Nat.reduceAdd, Nat.reduceLT, Nat.reduceLeDiff, Nat.reduceEqDiff, not_true, not_false_iff, z1_0, z1_1, Bool.and_self, Bool.true_and, Bool.and_true, nI_add, pk_mul, nI_clamp, decide_true, Nat.le_refl, bI_eq, bI_z1, nI_ltI, nI_leI, nI_eq, ho6]
          refine k_take hE hs (fun t' ht => ?_) ?_
          · have e9 : t = t' := by simpa using ht
            subst e9
            exact ⟨by omega, by omega⟩
          intro v1 f1 s1
          have hE1 := CE_2 hE f1
          have c1 := LC_2 hq' hC f1
          by_cases ht : t < 400
          · rw [tk_1 ht] at s1
            refine go_at (blk := b_Reader_readUnit_102) rfl ?_
            simp (disch := omega) only [b_Reader_readUnit_102, be_6, be_4, be_1, be_12, be_57_2, kc_2, List.getD_cons_zero, List.getD_cons_succ, List.set_cons_zero, List.set_cons_succ, List.length_cons, List.length_nil, pk_I, pk_A, pr_A, pi_I, st_s, st_n, if_true, if_false, eq_self, d_if, d_ju, d_re, d_ca, cat0, cat1, cat2, cat3, fr_z, fr_s, cc_I, cc_A, cc_N, Nat.reduceAdd, Nat.reduceLT, Nat.reduceLeDiff, Nat.reduceEqDiff, not_true, not_false_iff, z1_0, z1_1, Bool.and_self, Bool.true_and, Bool.and_true, nI_add, pk_mul, nI_clamp, decide_true, Nat.le_refl, bI_eq, bI_z1]
            refine hS (by omega) v1 w _ E q (t + 1) l p (6 :: W) C pre (sl + 1) hq' hE1 s1 c1 (by omega) (by omega) (by rw [opn_6]; omega) (Or.inr ⟨W, rfl⟩) ?_ ?_
            · intro v2 t2 C2 f2 s2 c2 l2 tt2 n2 x2
              have hE2 := CE_X hq' hE1 f2
              have hs2' : CS E v2 (.inr t2, l, p) := s2
              refine go_at (blk := b_Reader_readUnit_110) rfl ?_
              simp (disch := omega) only [b_Reader_readUnit_110, be_6, be_1, be_57_1, kc_2, List.getD_cons_zero, List.getD_cons_succ, List.set_cons_zero, List.set_cons_succ, List.length_cons, List.length_nil, pk_I, pk_A, pr_A, pi_I, st_s, st_n, if_true, if_false, eq_self, d_if, d_ju, d_re, d_ca, cat0, cat1, cat2, cat3, fr_z, fr_s, cc_I, cc_A, cc_N, Nat.reduceAdd, Nat.reduceLT, Nat.reduceLeDiff, Nat.reduceEqDiff, not_true, not_false_iff, z1_0, z1_1, Bool.and_self, Bool.true_and, Bool.and_true, nI_add, pk_mul, nI_clamp, decide_true, Nat.le_refl, bI_eq, bI_z1]
              refine k_want (j := 7) hE2 hs2' (by omega) rfl (by omega) (by omega) ?_
              intro v3 f3 s3
              refine go_at (blk := b_Reader_readUnit_116) rfl ?_
              simp (disch := omega) only [b_Reader_readUnit_116, be_56, List.getD_cons_zero, List.getD_cons_succ, List.set_cons_zero, List.set_cons_succ, List.length_cons, List.length_nil, pk_I, pk_A, pr_A, pi_I, st_s, st_n, if_true, if_false, eq_self, d_if, d_ju, d_re, d_ca, cat0, cat1, cat2, cat3, fr_z, fr_s, cc_I, cc_A, cc_N, Nat.reduceAdd, Nat.reduceLT, Nat.reduceLeDiff, Nat.reduceEqDiff, not_true, not_false_iff, z1_0, z1_1, Bool.and_self, Bool.true_and, Bool.and_true, nI_add, pk_mul, nI_clamp, decide_true, Nat.le_refl, bI_eq, bI_z1]
              have ff := FX_t (FX_2 (q := q) f1) (FX_t f2 (FX_2 f3))
              have xx : ∀ R, XX E (true, t2, 6 :: W, C2) R → XX E (false, t, W, C) R := fun R hR => X_s (st_open hK6 (by omega) ht) (x2 R hR)
              have ep : popF (6 :: W) C2 = (6 :: W, C2) := if_pos rfl
              have eo : 0 < opn (6 :: W) := by rw [opn_6]; omega
              by_cases hk7 : eK E t2 = 7
              · by_cases ht2 : t2 < 400
                · rw [wt_1 hk7 ht2] at s3
                  refine q0 v3 (t2 + 1) C2 ff s3 (LC_2 hq' c2 f3) (by omega) (by omega) trivial (fun R hR => xx R (X_s (st_close hk7 eo ht2) ?_))
                  rw [ep]
                  exact hR
                · rw [wt_2 hk7 ht2] at s3
                  exact q1 v3 _ _ ff s3 (LC_L (LC_2 hq' c2 f3) (by have := s2.2.2.1; omega)) (xx _ (X_d (st_close4 hk7 eo ht2)))
              · rw [wt_3 hk7] at s3
                exact q1 v3 _ _ ff s3 (LC_L (LC_2 hq' c2 f3) (by have := s2.2.2.1; omega)) (xx _ (X_d (st_un n2 hk7 eo)))
            · intro v2 k2 p2 f2 s2 c2 x2
              have hE2 := CE_X hq' hE1 f2
              have hs2' : CS E v2 (.inl (k2, p2), l, p) := s2
              refine go_at (blk := b_Reader_readUnit_110) rfl ?_
              simp (disch := omega) only [b_Reader_readUnit_110, be_6, be_1, be_57_1, kc_2, List.getD_cons_zero, List.getD_cons_succ, List.set_cons_zero, List.set_cons_succ, List.length_cons, List.length_nil, pk_I, pk_A, pr_A, pi_I, st_s, st_n, if_true, if_false, eq_self, d_if, d_ju, d_re, d_ca, cat0, cat1, cat2, cat3, fr_z, fr_s, cc_I, cc_A, cc_N, Nat.reduceAdd, Nat.reduceLT, Nat.reduceLeDiff, Nat.reduceEqDiff, not_true, not_false_iff, z1_0, z1_1, Bool.and_self, Bool.true_and, Bool.and_true, nI_add, pk_mul, nI_clamp, decide_true, Nat.le_refl, bI_eq, bI_z1]
              refine k_want (j := 7) hE2 hs2' (by omega) rfl (by omega) (by omega) ?_
              intro v3 f3 s3
              refine go_at (blk := b_Reader_readUnit_116) rfl ?_
              simp (disch := omega) only [b_Reader_readUnit_116, be_56, List.getD_cons_zero, List.getD_cons_succ, List.set_cons_zero, List.set_cons_succ, List.length_cons, List.length_nil, pk_I, pk_A, pr_A, pi_I, st_s, st_n, if_true, if_false, eq_self, d_if, d_ju, d_re, d_ca, cat0, cat1, cat2, cat3, fr_z, fr_s, cc_I, cc_A, cc_N, Nat.reduceAdd, Nat.reduceLT, Nat.reduceLeDiff, Nat.reduceEqDiff, not_true, not_false_iff, z1_0, z1_1, Bool.and_self, Bool.true_and, Bool.and_true, nI_add, pk_mul, nI_clamp, decide_true, Nat.le_refl, bI_eq, bI_z1]
              exact q1 v3 _ _ (FX_t (FX_2 f1) (FX_t f2 (FX_2 f3))) s3 (LL_2 hq' c2 f3) (X_s (st_open hK6 (by omega) ht) x2)
          · rw [tk_2 ht] at s1
            refine go_at (blk := b_Reader_readUnit_102) rfl ?_
            simp (disch := omega) only [b_Reader_readUnit_102, be_6, be_4, be_1, be_12, be_57_2, kc_2, List.getD_cons_zero, List.getD_cons_succ, List.set_cons_zero, List.set_cons_succ, List.length_cons, List.length_nil, pk_I, pk_A, pr_A, pi_I, st_s, st_n, if_true, if_false, eq_self, d_if, d_ju, d_re, d_ca, cat0, cat1, cat2, cat3, fr_z, fr_s, cc_I, cc_A, cc_N, Nat.reduceAdd, Nat.reduceLT, Nat.reduceLeDiff, Nat.reduceEqDiff, not_true, not_false_iff, z1_0, z1_1, Bool.and_self, Bool.true_and, Bool.and_true, nI_add, pk_mul, nI_clamp, decide_true, Nat.le_refl, bI_eq, bI_z1, nI_ltI, nI_leI]
            refine k_sumB hq' hE1 s1 (LC_L c1 (by omega)) ?_
            intro v2 f2 s2 l2
            have hE2 := CE_X hq' hE1 f2
            refine go_at (blk := b_Reader_readUnit_110) rfl ?_
            simp (disch := omega) only [b_Reader_readUnit_110, be_6, be_1, be_57_1, kc_2, List.getD_cons_zero, List.getD_cons_succ, List.set_cons_zero, List.set_cons_succ, List.length_cons, List.length_nil, pk_I, pk_A, pr_A, pi_I, st_s, st_n, if_true, if_false, eq_self, d_if, d_ju, d_re, d_ca, cat0, cat1, cat2, cat3, fr_z, fr_s, cc_I, cc_A, cc_N, Nat.reduceAdd, Nat.reduceLT, Nat.reduceLeDiff, Nat.reduceEqDiff, not_true, not_false_iff, z1_0, z1_1, Bool.and_self, Bool.true_and, Bool.and_true, nI_add, pk_mul, nI_clamp, decide_true, Nat.le_refl, bI_eq, bI_z1, nI_ltI, nI_leI]
            refine k_want (j := 7) hE2 s2 (by omega) rfl (by omega) (by omega) ?_
            intro v3 f3 s3
            refine go_at (blk := b_Reader_readUnit_116) rfl ?_
            simp (disch := omega) only [b_Reader_readUnit_116, be_56, List.getD_cons_zero, List.getD_cons_succ, List.set_cons_zero, List.set_cons_succ, List.length_cons, List.length_nil, pk_I, pk_A, pr_A, pi_I, st_s, st_n, if_true, if_false, eq_self, d_if, d_ju, d_re, d_ca, cat0, cat1, cat2, cat3, fr_z, fr_s, cc_I, cc_A, cc_N, Nat.reduceAdd, Nat.reduceLT, Nat.reduceLeDiff, Nat.reduceEqDiff, not_true, not_false_iff, z1_0, z1_1, Bool.and_self, Bool.true_and, Bool.and_true, nI_add, pk_mul, nI_clamp, decide_true, Nat.le_refl, bI_eq, bI_z1, nI_ltI, nI_leI]
            exact q1 v3 _ _ (FX_t (FX_2 f1) (FX_t f2 (FX_2 f3))) s3 (LL_2 hq' l2 f3) (X_d (st_open4 hK6 ht))
        · have ho6 : ¬ o < 6 := by omega
          refine go_at (blk := b_Reader_readUnit_0) rfl ?_
          simp (disch := omega) only [b_Reader_readUnit_0, be_6, be_57_0, kc_2, List.getD_cons_zero, List.getD_cons_succ, List.set_cons_zero, List.set_cons_succ, List.length_cons, List.length_nil, pk_I, pk_A, pr_A, pi_I, st_s, st_n, if_true, if_false, eq_self, d_if, d_ju, d_re, d_ca, cat0, cat1, cat2, cat3, fr_z, fr_s, cc_I, cc_A, cc_N, Nat.reduceAdd, Nat.reduceLT, Nat.reduceLeDiff, Nat.reduceEqDiff, not_true, not_false_iff, z1_0, z1_1, Bool.and_self, Bool.true_and, Bool.and_true, nI_add, pk_mul, nI_clamp, decide_true, Nat.le_refl, bI_eq, bI_z1, nI_ltI, nI_leI, nI_eq, ho6]
          refine k_kind hE hs ?_
          rw [show kdR E (.inr t, l, p) = eK E t from rfl, hK6, show cK 6 = 40 from rfl]
          refine go_at (blk := b_Reader_readUnit_4) rfl ?_
          simp (disch := omega) only [b_Reader_readUnit_4, be_7, be_4, be_1, be_49_1, List.getD_cons_zero, List.getD_cons_succ, List.set_cons_zero, List.set_cons_succ, List.length_cons, List.length_nil, pk_I, pk_A, pr_A, pi_I, st_s, st_n, if_true, if_false, eq_self, d_if, d_ju, d_re, d_ca, cat0, cat1, cat2, cat3, fr_z, fr_s, cc_I, cc_A, cc_N, Nat.reduceAdd, Nat.reduceLT, Nat.reduceLeDiff, Nat.reduceEqDiff, not_true, not_false_iff, z1_0, z1_1, Bool.and_self, Bool.true_and, Bool.and_true, nI_add, pk_mul, nI_clamp, decide_true, Nat.le_refl, bI_eq, bI_z1, nI_ltI, nI_leI, nI_eq, ho6]
          refine go_at (blk := b_Reader_readUnit_38) rfl ?_
          simp (disch := omega) only [b_Reader_readUnit_38, be_4, be_1, be_49_2, List.getD_cons_zero, List.getD_cons_succ, List.set_cons_zero, List.set_cons_succ, List.length_cons, List.length_nil, pk_I, pk_A, pr_A, pi_I, st_s, st_n, if_true, if_false, eq_self, d_if, d_ju, d_re, d_ca, cat0, cat1, cat2, cat3, fr_z, fr_s, cc_I, cc_A, cc_N, Nat.reduceAdd, Nat.reduceLT, Nat.reduceLeDiff, Nat.reduceEqDiff, not_true, not_false_iff, z1_0, z1_1, Bool.and_self, Bool.true_and, Bool.and_true, nI_add, pk_mul, nI_clamp, decide_true, Nat.le_refl, bI_eq, bI_z1, nI_ltI, nI_leI, nI_eq, ho6]
          refine go_at (blk := b_Reader_readUnit_70) rfl ?_
          simp (disch := omega) only [b_Reader_readUnit_70, be_4, be_1, be_49_0, List.getD_cons_zero, List.getD_cons_succ, List.set_cons_zero, List.set_cons_succ, List.length_cons, List.length_nil, pk_I, pk_A, pr_A, pi_I, st_s, st_n, if_true, if_false, eq_self, d_if, d_ju, d_re, d_ca, cat0, cat1, cat2, cat3, fr_z, fr_s, cc_I, cc_A, cc_N, Nat.reduceAdd, Nat.reduceLT, Nat.reduceLeDiff, Nat.reduceEqDiff, not_true, not_false_iff, z1_0, z1_1, Bool.and_self, Bool.true_and, Bool.and_true, nI_add, pk_mul, nI_clamp, decide_true, Nat.le_refl, bI_eq, bI_z1, nI_ltI, nI_leI, nI_eq, ho6]
          refine go_at (blk := b_Reader_readUnit_84) rfl ?_
          simp (disch := omega) only [b_Reader_readUnit_84, be_4, be_1, be_49_2, List.getD_cons_zero, List.getD_cons_succ, List.set_cons_zero, List.set_cons_succ, List.length_cons, List.length_nil, pk_I, pk_A, pr_A, pi_I, st_s, st_n, if_true, if_false, eq_self, d_if, d_ju, d_re, d_ca, cat0, cat1, cat2, cat3, fr_z, fr_s, cc_I, cc_A, cc_N, Nat.reduceAdd, Nat.reduceLT, Nat.reduceLeDiff, Nat.reduceEqDiff, not_true, not_false_iff, z1_0, z1_1, Bool.and_self, Bool.true_and, Bool.and_true, nI_add, pk_mul, nI_clamp, decide_true, Nat.le_refl, bI_eq, bI_z1, nI_ltI, nI_leI, nI_eq, ho6]
          refine go_at (blk := b_Reader_readUnit_90) rfl ?_
          simp (disch := omega) only [b_Reader_readUnit_90, be_6, be_1, be_57_1, kc_2, List.getD_cons_zero, List.getD_cons_succ, List.set_cons_zero, List.set_cons_succ, List.length_cons, List.length_nil, pk_I, pk_A, pr_A, pi_I, st_s, st_n, if_true, if_false, eq_self, d_if, d_ju, d_re, d_ca, cat0, cat1, cat2, cat3, fr_z, fr_s, cc_I, cc_A, cc_N, Nat.reduceAdd, Nat.reduceLT, Nat.reduceLeDiff, Nat.reduceEqDiff, not_true, not_false_iff, z1_0, z1_1, Bool.and_self, Bool.true_and, Bool.and_true, nI_add, pk_mul, nI_clamp, decide_true, Nat.le_refl, bI_eq, bI_z1, nI_ltI, nI_leI, nI_eq, ho6]
          refine k_fail hE hs (by omega) (by omega) ?_
          intro v1 f1 s1
          refine go_at (blk := b_Reader_readUnit_95) rfl ?_
          simp (disch := omega) only [b_Reader_readUnit_95, be_51, List.getD_cons_zero, List.getD_cons_succ, List.set_cons_zero, List.set_cons_succ, List.length_cons, List.length_nil, pk_I, pk_A, pr_A, pi_I, st_s, st_n, if_true, if_false, eq_self, d_if, d_ju, d_re, d_ca, cat0, cat1, cat2, cat3, fr_z, fr_s, cc_I, cc_A, cc_N, Nat.reduceAdd, Nat.reduceLT, Nat.reduceLeDiff, Nat.reduceEqDiff, not_true, not_false_iff, z1_0, z1_1, Bool.and_self, Bool.true_and, Bool.and_true, nI_add, pk_mul, nI_clamp, decide_true, Nat.le_refl, bI_eq, bI_z1, nI_ltI, nI_leI, nI_eq, ho6]
          refine go_at (blk := b_Reader_readUnit_116) rfl ?_
          simp (disch := omega) only [b_Reader_readUnit_116, be_56, List.getD_cons_zero, List.getD_cons_succ, List.set_cons_zero, List.set_cons_succ, List.length_cons, List.length_nil, pk_I, pk_A, pr_A, pi_I, st_s, st_n, if_true, if_false, eq_self, d_if, d_ju, d_re, d_ca, cat0, cat1, cat2, cat3, fr_z, fr_s, cc_I, cc_A, cc_N, Nat.reduceAdd, Nat.reduceLT, Nat.reduceLeDiff, Nat.reduceEqDiff, not_true, not_false_iff, z1_0, z1_1, Bool.and_self, Bool.true_and, Bool.and_true, nI_add, pk_mul, nI_clamp, decide_true, Nat.le_refl, bI_eq, bI_z1, nI_ltI, nI_leI, nI_eq, ho6]
          exact q1 v1 _ _ (FX_2 f1) s1 (LC_L (LC_2 hq' hC f1) (by omega)) (X_d (st_open6 hK6 (by omega)))
      · obtain ⟨hx1, hx2, hx3'⟩ := ck_o _ (hE.1.2.2.2.1 t).1 ⟨(hE.1.2.2.2.1 t).2, hK, hK6, by omega⟩
        obtain ⟨c9, hcc⟩ : ∃ c9, c9 = cK (eK E t) := ⟨_, rfl⟩
        have hc9 := ck_lt9 _ (hE.1.2.2.2.1 t).1
        rw [← hcc] at hx1 hx2 hx3' hc9
        rcases hx3' with hx3 | hx4
        · refine go_at (blk := b_Reader_readUnit_0) rfl ?_
          simp (disch := omega) only [b_Reader_readUnit_0, be_6, be_57_0, kc_2, List.getD_cons_zero, List.getD_cons_succ, List.set_cons_zero, List.set_cons_succ, List.length_cons, List.length_nil, pk_I, pk_A, pr_A, pi_I, st_s, st_n, if_true, if_false, eq_self, d_if, d_ju, d_re, d_ca, cat0, cat1, cat2, cat3, fr_z, fr_s, cc_I, cc_A, cc_N, Nat.reduceAdd, Nat.reduceLT, Nat.reduceLeDiff, Nat.reduceEqDiff, not_true, not_false_iff, z1_0, z1_1, Bool.and_self, Bool.true_and, Bool.and_true, nI_add, pk_mul, nI_clamp, decide_true, Nat.le_refl, bI_eq, bI_z1, nI_ltI, nI_leI, nI_eq, hx1, hx2, hx3]
          refine k_kind hE hs ?_
          rw [show kdR E (.inr t, l, p) = eK E t from rfl, ← hcc]
          refine go_at (blk := b_Reader_readUnit_4) rfl ?_
          simp (disch := omega) only [b_Reader_readUnit_4, be_7, be_4, be_1, be_49_1, List.getD_cons_zero, List.getD_cons_succ, List.set_cons_zero, List.set_cons_succ, List.length_cons, List.length_nil, pk_I, pk_A, pr_A, pi_I, st_s, st_n, if_true, if_false, eq_self, d_if, d_ju, d_re, d_ca, cat0, cat1, cat2, cat3, fr_z, fr_s, cc_I, cc_A, cc_N, Nat.reduceAdd, Nat.reduceLT, Nat.reduceLeDiff, Nat.reduceEqDiff, not_true, not_false_iff, z1_0, z1_1, Bool.and_self, Bool.true_and, Bool.and_true, nI_add, pk_mul, nI_clamp, decide_true, Nat.le_refl, bI_eq, bI_z1, nI_ltI, nI_leI, nI_eq, hx1, hx2, hx3]
          refine go_at (blk := b_Reader_readUnit_38) rfl ?_
          simp (disch := omega) only [b_Reader_readUnit_38, be_4, be_1, be_49_2, List.getD_cons_zero, List.getD_cons_succ, List.set_cons_zero, List.set_cons_succ, List.length_cons, List.length_nil, pk_I, pk_A, pr_A, pi_I, st_s, st_n, if_true, if_false, eq_self, d_if, d_ju, d_re, d_ca, cat0, cat1, cat2, cat3, fr_z, fr_s, cc_I, cc_A, cc_N, Nat.reduceAdd, Nat.reduceLT, Nat.reduceLeDiff, Nat.reduceEqDiff, not_true, not_false_iff, z1_0, z1_1, Bool.and_self, Bool.true_and, Bool.and_true, nI_add, pk_mul, nI_clamp, decide_true, Nat.le_refl, bI_eq, bI_z1, nI_ltI, nI_leI, nI_eq, hx1, hx2, hx3]
          refine go_at (blk := b_Reader_readUnit_70) rfl ?_
          simp (disch := omega) only [b_Reader_readUnit_70, be_4, be_1, be_49_0, List.getD_cons_zero, List.getD_cons_succ, List.set_cons_zero, List.set_cons_succ, List.length_cons, List.length_nil, pk_I, pk_A, pr_A, pi_I, st_s, st_n, if_true, if_false, eq_self, d_if, d_ju, d_re, d_ca, cat0, cat1, cat2, cat3, fr_z, fr_s, cc_I, cc_A, cc_N, Nat.reduceAdd, Nat.reduceLT, Nat.reduceLeDiff, Nat.reduceEqDiff, not_true, not_false_iff, z1_0, z1_1, Bool.and_self, Bool.true_and, Bool.and_true, nI_add, pk_mul, nI_clamp, decide_true, Nat.le_refl, bI_eq, bI_z1, nI_ltI, nI_leI, nI_eq, hx1, hx2, hx3]
          refine go_at (blk := b_Reader_readUnit_76) rfl ?_
          simp (disch := omega) only [b_Reader_readUnit_76, be_6, be_1, be_57_1, kc_2, List.getD_cons_zero, List.getD_cons_succ, List.set_cons_zero, List.set_cons_succ, List.length_cons, List.length_nil, pk_I, pk_A, pr_A, pi_I, st_s, st_n, if_true, if_false, eq_self, d_if, d_ju, d_re, d_ca, cat0, cat1, cat2, cat3, fr_z, fr_s, cc_I, cc_A, cc_N, Nat.reduceAdd, Nat.reduceLT, Nat.reduceLeDiff, Nat.reduceEqDiff, not_true, not_false_iff, z1_0, z1_1, Bool.and_self, Bool.true_and, Bool.and_true, nI_add, pk_mul, nI_clamp, decide_true, Nat.le_refl, bI_eq, bI_z1, nI_ltI, nI_leI, nI_eq, hx1, hx2, hx3]
          refine k_fail hE hs (by omega) (by omega) ?_
          intro v1 f1 s1
          refine go_at (blk := b_Reader_readUnit_81) rfl ?_
          simp (disch := omega) only [b_Reader_readUnit_81, be_51, List.getD_cons_zero, List.getD_cons_succ, List.set_cons_zero, List.set_cons_succ, List.length_cons, List.length_nil, pk_I, pk_A, pr_A, pi_I, st_s, st_n, if_true, if_false, eq_self, d_if, d_ju, d_re, d_ca, cat0, cat1, cat2, cat3, fr_z, fr_s, cc_I, cc_A, cc_N, Nat.reduceAdd, Nat.reduceLT, Nat.reduceLeDiff, Nat.reduceEqDiff, not_true, not_false_iff, z1_0, z1_1, Bool.and_self, Bool.true_and, Bool.and_true, nI_add, pk_mul, nI_clamp, decide_true, Nat.le_refl, bI_eq, bI_z1, nI_ltI, nI_leI, nI_eq, hx1, hx2, hx3]
          refine go_at (blk := b_Reader_readUnit_116) rfl ?_
          simp (disch := omega) only [b_Reader_readUnit_116, be_56, List.getD_cons_zero, List.getD_cons_succ, List.set_cons_zero, List.set_cons_succ, List.length_cons, List.length_nil, pk_I, pk_A, pr_A, pi_I, st_s, st_n, if_true, if_false, eq_self, d_if, d_ju, d_re, d_ca, cat0, cat1, cat2, cat3, fr_z, fr_s, cc_I, cc_A, cc_N, Nat.reduceAdd, Nat.reduceLT, Nat.reduceLeDiff, Nat.reduceEqDiff, not_true, not_false_iff, z1_0, z1_1, Bool.and_self, Bool.true_and, Bool.and_true, nI_add, pk_mul, nI_clamp, decide_true, Nat.le_refl, bI_eq, bI_z1, nI_ltI, nI_leI, nI_eq, hx1, hx2, hx3]
          exact q1 v1 _ _ (FX_2 f1) s1 (LC_L (LC_2 hq' hC f1) (by omega)) (X_d (st_no hK6 hK (by omega)))
        · have hx3 : ¬ c9 < 265 := by omega
          refine go_at (blk := b_Reader_readUnit_0) rfl ?_
          simp (disch := omega) only [b_Reader_readUnit_0, be_6, be_57_0, kc_2, List.getD_cons_zero, List.getD_cons_succ, List.set_cons_zero, List.set_cons_succ, List.length_cons, List.length_nil, pk_I, pk_A, pr_A, pi_I, st_s, st_n, if_true, if_false, eq_self, d_if, d_ju, d_re, d_ca, cat0, cat1, cat2, cat3, fr_z, fr_s, cc_I, cc_A, cc_N, Nat.reduceAdd, Nat.reduceLT, Nat.reduceLeDiff, Nat.reduceEqDiff, not_true, not_false_iff, z1_0, z1_1, Bool.and_self, Bool.true_and, Bool.and_true, nI_add, pk_mul, nI_clamp, decide_true, Nat.le_refl, bI_eq, bI_z1, nI_ltI, nI_leI, nI_eq, hx1, hx2, hx3, hx4]
          refine k_kind hE hs ?_
          rw [show kdR E (.inr t, l, p) = eK E t from rfl, ← hcc]
          refine go_at (blk := b_Reader_readUnit_4) rfl ?_
          simp (disch := omega) only [b_Reader_readUnit_4, be_7, be_4, be_1, be_49_1, List.getD_cons_zero, List.getD_cons_succ, List.set_cons_zero, List.set_cons_succ, List.length_cons, List.length_nil, pk_I, pk_A, pr_A, pi_I, st_s, st_n, if_true, if_false, eq_self, d_if, d_ju, d_re, d_ca, cat0, cat1, cat2, cat3, fr_z, fr_s, cc_I, cc_A, cc_N, Nat.reduceAdd, Nat.reduceLT, Nat.reduceLeDiff, Nat.reduceEqDiff, not_true, not_false_iff, z1_0, z1_1, Bool.and_self, Bool.true_and, Bool.and_true, nI_add, pk_mul, nI_clamp, decide_true, Nat.le_refl, bI_eq, bI_z1, nI_ltI, nI_leI, nI_eq, hx1, hx2, hx3, hx4]
          refine go_at (blk := b_Reader_readUnit_38) rfl ?_
          simp (disch := omega) only [b_Reader_readUnit_38, be_4, be_1, be_49_2, List.getD_cons_zero, List.getD_cons_succ, List.set_cons_zero, List.set_cons_succ, List.length_cons, List.length_nil, pk_I, pk_A, pr_A, pi_I, st_s, st_n, if_true, if_false, eq_self, d_if, d_ju, d_re, d_ca, cat0, cat1, cat2, cat3, fr_z, fr_s, cc_I, cc_A, cc_N, Nat.reduceAdd, Nat.reduceLT, Nat.reduceLeDiff, Nat.reduceEqDiff, not_true, not_false_iff, z1_0, z1_1, Bool.and_self, Bool.true_and, Bool.and_true, nI_add, pk_mul, nI_clamp, decide_true, Nat.le_refl, bI_eq, bI_z1, nI_ltI, nI_leI, nI_eq, hx1, hx2, hx3, hx4]
          refine go_at (blk := b_Reader_readUnit_45) rfl ?_
          simp (disch := omega) only [b_Reader_readUnit_45, be_4, be_1, be_49_3, List.getD_cons_zero, List.getD_cons_succ, List.set_cons_zero, List.set_cons_succ, List.length_cons, List.length_nil, pk_I, pk_A, pr_A, pi_I, st_s, st_n, if_true, if_false, eq_self, d_if, d_ju, d_re, d_ca, cat0, cat1, cat2, cat3, fr_z, fr_s, cc_I, cc_A, cc_N, Nat.reduceAdd, Nat.reduceLT, Nat.reduceLeDiff, Nat.reduceEqDiff, not_true, not_false_iff, z1_0, z1_1, Bool.and_self, Bool.true_and, Bool.and_true, nI_add, pk_mul, nI_clamp, decide_true, Nat.le_refl, bI_eq, bI_z1, nI_ltI, nI_leI, nI_eq, hx1, hx2, hx3, hx4]
          refine go_at (blk := b_Reader_readUnit_70) rfl ?_
          simp (disch := omega) only [b_Reader_readUnit_70, be_4, be_1, be_49_0, List.getD_cons_zero, List.getD_cons_succ, List.set_cons_zero, List.set_cons_succ, List.length_cons, List.length_nil, pk_I, pk_A, pr_A, pi_I, st_s, st_n, if_true, if_false, eq_self, d_if, d_ju, d_re, d_ca, cat0, cat1, cat2, cat3, fr_z, fr_s, cc_I, cc_A, cc_N, Nat.reduceAdd, Nat.reduceLT, Nat.reduceLeDiff, Nat.reduceEqDiff, not_true, not_false_iff, z1_0, z1_1, Bool.and_self, Bool.true_and, Bool.and_true, nI_add, pk_mul, nI_clamp, decide_true, Nat.le_refl, bI_eq, bI_z1, nI_ltI, nI_leI, nI_eq, hx1, hx2, hx3, hx4]
          refine go_at (blk := b_Reader_readUnit_76) rfl ?_
          simp (disch := omega) only [b_Reader_readUnit_76, be_6, be_1, be_57_1, kc_2, List.getD_cons_zero, List.getD_cons_succ, List.set_cons_zero, List.set_cons_succ, List.length_cons, List.length_nil, pk_I, pk_A, pr_A, pi_I, st_s, st_n, if_true, if_false, eq_self, d_if, d_ju, d_re, d_ca, cat0, cat1, cat2, cat3, fr_z, fr_s, cc_I, cc_A, cc_N, Nat.reduceAdd, Nat.reduceLT, Nat.reduceLeDiff, Nat.reduceEqDiff, not_true, not_false_iff, z1_0, z1_1, Bool.and_self, Bool.true_and, Bool.and_true, nI_add, pk_mul, nI_clamp, decide_true, Nat.le_refl, bI_eq, bI_z1, nI_ltI, nI_leI, nI_eq, hx1, hx2, hx3, hx4]
          refine k_fail hE hs (by omega) (by omega) ?_
          intro v1 f1 s1
          refine go_at (blk := b_Reader_readUnit_81) rfl ?_
          simp (disch := omega) only [b_Reader_readUnit_81, be_51, List.getD_cons_zero, List.getD_cons_succ, List.set_cons_zero, List.set_cons_succ, List.length_cons, List.length_nil, pk_I, pk_A, pr_A, pi_I, st_s, st_n, if_true, if_false, eq_self, d_if, d_ju, d_re, d_ca, cat0, cat1, cat2, cat3, fr_z, fr_s, cc_I, cc_A, cc_N, Nat.reduceAdd, Nat.reduceLT, Nat.reduceLeDiff, Nat.reduceEqDiff, not_true, not_false_iff, z1_0, z1_1, Bool.and_self, Bool.true_and, Bool.and_true, nI_add, pk_mul, nI_clamp, decide_true, Nat.le_refl, bI_eq, bI_z1, nI_ltI, nI_leI, nI_eq, hx1, hx2, hx3, hx4]
          refine go_at (blk := b_Reader_readUnit_116) rfl ?_
          simp (disch := omega) only [b_Reader_readUnit_116, be_56, List.getD_cons_zero, List.getD_cons_succ, List.set_cons_zero, List.set_cons_succ, List.length_cons, List.length_nil, pk_I, pk_A, pr_A, pi_I, st_s, st_n, if_true, if_false, eq_self, d_if, d_ju, d_re, d_ca, cat0, cat1, cat2, cat3, fr_z, fr_s, cc_I, cc_A, cc_N, Nat.reduceAdd, Nat.reduceLT, Nat.reduceLeDiff, Nat.reduceEqDiff, not_true, not_false_iff, z1_0, z1_1, Bool.and_self, Bool.true_and, Bool.and_true, nI_add, pk_mul, nI_clamp, decide_true, Nat.le_refl, bI_eq, bI_z1, nI_ltI, nI_leI, nI_eq, hx1, hx2, hx3, hx4]
          exact q1 v1 _ _ (FX_2 f1) s1 (LC_L (LC_2 hq' hC f1) (by omega)) (X_d (st_no hK6 hK (by omega)))
