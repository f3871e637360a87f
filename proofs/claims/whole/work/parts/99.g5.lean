/-! laid by wip/whole/g5.py: the class: products, sums -/
theorem ck_ne {E : ENV} (h : EV E) {t j : Nat} (hj : j < 37) (hoj : okK j = true) (hn : eK E t ≠ j) : cK (eK E t) ≠ cK j := fun z => hn (ck_inj _ (h.2.2.2.1 t).1 (h.2.2.2.1 t).2 j hj hoj z)
set_option maxHeartbeats 2000000 in
theorem prod_of {d o : Nat} (ho9 : o ≤ 6) (hU : UNIT (d + 5) o) : PROD (d + 6) o := by
  intro v w Q E q t l p W C pre sl hq' hE hG hC hsl hs2 hoW hW q0 q1
  have hq := LD_W hq'
  have hs : CS E v (.inr t, l, p) := hG
  have gL := hE.1.1
  refine ca_in (k := k_Reader_readProduct) (nL := 5) rfl (Nat.le_of_ble_eq_true rfl) ?_
  show am_Go am_X0 _ k_Reader_readProduct 0 ([.ref 2, .ref q, .int (nI o), .null, .null], [], _) _
  refine go_at (blk := b_Reader_readProduct_0) rfl ?_
  simp (disch := omega) only [b_Reader_readProduct_0, be_6, be_4, be_57_2, kc_2, List.getD_cons_zero, List.getD_cons_succ, List.set_cons_zero, List.set_cons_succ, List.length_cons, List.length_nil, pk_I, pk_A, pr_A, pi_I, st_s, st_n, if_true, if_false, eq_self, d_if, d_ju, d_re, d_ca, cat0, cat1, cat2, cat3, fr_z, fr_s, cc_I, cc_A, cc_N, Nat.reduceAdd, Nat.reduceLT, Nat.reduceLeDiff, Nat.reduceEqDiff, not_true, not_false_iff, z1_0, z1_1, Bool.and_self, Bool.true_and, Bool.and_true, nI_add, pk_mul, nI_clamp, decide_true, Nat.le_refl, bI_eq, bI_z1]
  refine hU v w _ E q t l p W C pre sl hq' hE hG hC hsl hs2 hoW trivial ?_ ?_
  · intro v1 t1 C1 f1 s1 c1 l1 tt1 n1 y1
    refine go_at (blk := b_Reader_readProduct_6) rfl ?_
    simp (disch := omega) only [b_Reader_readProduct_6, be_1, be_7, be_0, List.getD_cons_zero, List.getD_cons_succ, List.set_cons_zero, List.set_cons_succ, List.length_cons, List.length_nil, pk_I, pk_A, pr_A, pi_I, st_s, st_n, if_true, if_false, eq_self, d_if, d_ju, d_re, d_ca, cat0, cat1, cat2, cat3, fr_z, fr_s, cc_I, cc_A, cc_N, Nat.reduceAdd, Nat.reduceLT, Nat.reduceLeDiff, Nat.reduceEqDiff, not_true, not_false_iff, z1_0, z1_1, Bool.and_self, Bool.true_and, Bool.and_true, nI_add, pk_mul, nI_clamp, decide_true, Nat.le_refl, bI_eq, bI_z1]
    refine go_loopA (α := (Nat → Nat → Int32) × Nat × CL × Value) (fun i x => ([.ref 2, .ref q, .int (nI o), .int (nI i), x.2.2.2], [], (428, 26053, KD, RF, x.1, w))) (fun i x => FX q v x.1 ∧ CG E x.1 x.2.1 l p ∧ LC x.1 q (pre ++ x.2.2.1) ∧ (pre ++ x.2.2.1).length + sl ≤ x.2.1 ∧ t < x.2.1 ∧ i < x.2.1 ∧ (∀ R, XX E (true, x.2.1, W, x.2.2.1) R → XX E (false, t, W, C) R) ∧ am_cc x.2.2.2 = true) (400) ?_ ?_ (v1, t1, C1, .null) ⟨f1, s1, c1, l1, tt1, (show 0 < t1 by omega), y1, rfl⟩
    · intro i x hi ⟨x1, x2, x3, x4, x5, x6, x7, x8⟩ ih
      try dsimp only at *
      have hni : ¬ 400 ≤ i := by omega
      have hEx : CE E x.1 w := CE_X hq' hE x1
      have hsx : CS E x.1 (.inr x.2.1, l, p) := x2
      have gtx := x2.2.2.1
      by_cases h1 : eK E x.2.1 = 10
      · refine go_at (blk := b_Reader_readProduct_8) rfl ?_
        simp (disch := omega) only [b_Reader_readProduct_8, be_4, be_1, be_49_3, List.getD_cons_zero, List.getD_cons_succ, List.set_cons_zero, List.set_cons_succ, List.length_cons, List.length_nil, pk_I, pk_A, pr_A, pi_I, st_s, st_n, if_true, if_false, eq_self, d_if, d_ju, d_re, d_ca, cat0, cat1, cat2, cat3, fr_z, fr_s, cc_I, cc_A, cc_N, Nat.reduceAdd, Nat.reduceLT, Nat.reduceLeDiff, Nat.reduceEqDiff, not_true, not_false_iff, z1_0, z1_1, Bool.and_self, Bool.true_and, Bool.and_true, nI_add, pk_mul, nI_clamp, decide_true, Nat.le_refl, bI_eq, bI_z1, nI_ltI, nI_leI, nI_eq, hni, x8]
        refine go_at (blk := b_Reader_readProduct_15) rfl ?_
        simp (disch := omega) only [b_Reader_readProduct_15, be_6, be_57_0, kc_2, List.getD_cons_zero, List.getD_cons_succ, List.set_cons_zero, List.set_cons_succ, List.length_cons, List.length_nil, pk_I, pk_A, pr_A, pi_I, st_s, st_n, if_true, if_false, eq_self, d_if, d_ju, d_re, d_ca, cat0, cat1, cat2, cat3, fr_z, fr_s, cc_I, cc_A, cc_N, Nat.reduceAdd, Nat.reduceLT, Nat.reduceLeDiff, Nat.reduceEqDiff, not_true, not_false_iff, z1_0, z1_1, Bool.and_self, Bool.true_and, Bool.and_true, nI_add, pk_mul, nI_clamp, decide_true, Nat.le_refl, bI_eq, bI_z1, nI_ltI, nI_leI, nI_eq, hni, x8]
        refine k_kind hEx hsx ?_
        rw [show kdR E (.inr x.2.1, l, p) = eK E x.2.1 from rfl, h1, show cK 10 = 42 from rfl]
        refine go_at (blk := b_Reader_readProduct_19) rfl ?_
        simp (disch := omega) only [b_Reader_readProduct_19, be_1, be_49_0, List.getD_cons_zero, List.getD_cons_succ, List.set_cons_zero, List.set_cons_succ, List.length_cons, List.length_nil, pk_I, pk_A, pr_A, pi_I, st_s, st_n, if_true, if_false, eq_self, d_if, d_ju, d_re, d_ca, cat0, cat1, cat2, cat3, fr_z, fr_s, cc_I, cc_A, cc_N, Nat.reduceAdd, Nat.reduceLT, Nat.reduceLeDiff, Nat.reduceEqDiff, not_true, not_false_iff, z1_0, z1_1, Bool.and_self, Bool.true_and, Bool.and_true, nI_add, pk_mul, nI_clamp, decide_true, Nat.le_refl, bI_eq, bI_z1, nI_ltI, nI_leI, nI_eq, hni, x8]
        refine go_at (blk := b_Reader_readProduct_33) rfl ?_
        simp (disch := omega) only [b_Reader_readProduct_33, be_6, be_57_0, kc_2, List.getD_cons_zero, List.getD_cons_succ, List.set_cons_zero, List.set_cons_succ, List.length_cons, List.length_nil, pk_I, pk_A, pr_A, pi_I, st_s, st_n, if_true, if_false, eq_self, d_if, d_ju, d_re, d_ca, cat0, cat1, cat2, cat3, fr_z, fr_s, cc_I, cc_A, cc_N, Nat.reduceAdd, Nat.reduceLT, Nat.reduceLeDiff, Nat.reduceEqDiff, not_true, not_false_iff, z1_0, z1_1, Bool.and_self, Bool.true_and, Bool.and_true, nI_add, pk_mul, nI_clamp, decide_true, Nat.le_refl, bI_eq, bI_z1, nI_ltI, nI_leI, nI_eq, hni, x8]
        refine k_kind hEx hsx ?_
        rw [show kdR E (.inr x.2.1, l, p) = eK E x.2.1 from rfl, h1, show cK 10 = 42 from rfl]
        refine go_at (blk := b_Reader_readProduct_37) rfl ?_
        simp (disch := omega) only [b_Reader_readProduct_37, be_1, be_49_1, List.getD_cons_zero, List.getD_cons_succ, List.set_cons_zero, List.set_cons_succ, List.length_cons, List.length_nil, pk_I, pk_A, pr_A, pi_I, st_s, st_n, if_true, if_false, eq_self, d_if, d_ju, d_re, d_ca, cat0, cat1, cat2, cat3, fr_z, fr_s, cc_I, cc_A, cc_N, Nat.reduceAdd, Nat.reduceLT, Nat.reduceLeDiff, Nat.reduceEqDiff, not_true, not_false_iff, z1_0, z1_1, Bool.and_self, Bool.true_and, Bool.and_true, nI_add, pk_mul, nI_clamp, decide_true, Nat.le_refl, bI_eq, bI_z1, nI_ltI, nI_leI, nI_eq, hni, x8]
        refine go_at (blk := b_Reader_readProduct_42) rfl ?_
        simp (disch := omega) only [b_Reader_readProduct_42, be_1, be_51, List.getD_cons_zero, List.getD_cons_succ, List.set_cons_zero, List.set_cons_succ, List.length_cons, List.length_nil, pk_I, pk_A, pr_A, pi_I, st_s, st_n, if_true, if_false, eq_self, d_if, d_ju, d_re, d_ca, cat0, cat1, cat2, cat3, fr_z, fr_s, cc_I, cc_A, cc_N, Nat.reduceAdd, Nat.reduceLT, Nat.reduceLeDiff, Nat.reduceEqDiff, not_true, not_false_iff, z1_0, z1_1, Bool.and_self, Bool.true_and, Bool.and_true, nI_add, pk_mul, nI_clamp, decide_true, Nat.le_refl, bI_eq, bI_z1, nI_ltI, nI_leI, nI_eq, hni, x8]
        refine go_at (blk := b_Reader_readProduct_47) rfl ?_
        simp (disch := omega) only [b_Reader_readProduct_47, be_7, be_6, be_57_0, kc_2, List.getD_cons_zero, List.getD_cons_succ, List.set_cons_zero, List.set_cons_succ, List.length_cons, List.length_nil, pk_I, pk_A, pr_A, pi_I, st_s, st_n, if_true, if_false, eq_self, d_if, d_ju, d_re, d_ca, cat0, cat1, cat2, cat3, fr_z, fr_s, cc_I, cc_A, cc_N, Nat.reduceAdd, Nat.reduceLT, Nat.reduceLeDiff, Nat.reduceEqDiff, not_true, not_false_iff, z1_0, z1_1, Bool.and_self, Bool.true_and, Bool.and_true, nI_add, pk_mul, nI_clamp, decide_true, Nat.le_refl, bI_eq, bI_z1, nI_ltI, nI_leI, nI_eq, hni, x8]
        refine k_take hEx hsx (fun t' ht => ?_) ?_
        · have e9 : x.2.1 = t' := by simpa using ht
          subst e9
          exact ⟨by omega, by omega⟩
        intro v1 f1 s1
        have hE1 := CE_2 hEx f1
        have c1 := LC_2 hq' x3 f1
        by_cases ht : x.2.1 < 400
        · rw [tk_1 ht] at s1
          refine go_at (blk := b_Reader_readProduct_53) rfl ?_
          simp (disch := omega) only [b_Reader_readProduct_53, be_6, be_4, be_57_2, kc_2, List.getD_cons_zero, List.getD_cons_succ, List.set_cons_zero, List.set_cons_succ, List.length_cons, List.length_nil, pk_I, pk_A, pr_A, pi_I, st_s, st_n, if_true, if_false, eq_self, d_if, d_ju, d_re, d_ca, cat0, cat1, cat2, cat3, fr_z, fr_s, cc_I, cc_A, cc_N, Nat.reduceAdd, Nat.reduceLT, Nat.reduceLeDiff, Nat.reduceEqDiff, not_true, not_false_iff, z1_0, z1_1, Bool.and_self, Bool.true_and, Bool.and_true, nI_add, pk_mul, nI_clamp, decide_true, Nat.le_refl, bI_eq, bI_z1, nI_ltI, nI_leI]
          refine hU v1 w _ E q (x.2.1 + 1) l p (eK E x.2.1 :: W) x.2.2.1 pre (sl + 1) hq' hE1 s1 c1 (by omega) (by omega) (by rw [opn_x (by omega)]; exact hoW) trivial ?_ ?_
          · intro v2 t2 C2 f2 s2 c2 l2 tt2 n2 y2
            refine go_at (blk := b_Reader_readProduct_59) rfl ?_
            simp (disch := omega) only [b_Reader_readProduct_59, be_6, be_4, be_1, be_57_2, kc_lw hq, List.getD_cons_zero, List.getD_cons_succ, List.set_cons_zero, List.set_cons_succ, List.length_cons, List.length_nil, pk_I, pk_A, pr_A, pi_I, st_s, st_n, if_true, if_false, eq_self, d_if, d_ju, d_re, d_ca, cat0, cat1, cat2, cat3, fr_z, fr_s, cc_I, cc_A, cc_N, Nat.reduceAdd, Nat.reduceLT, Nat.reduceLeDiff, Nat.reduceEqDiff, not_true, not_false_iff, z1_0, z1_1, Bool.and_self, Bool.true_and, Bool.and_true, nI_add, pk_mul, nI_clamp, decide_true, Nat.le_refl, bI_eq, bI_z1, nI_ltI, nI_leI]
            refine k_put hq' c2 (by have := s2.2.2.1; omega) ?_
            intro v3 f3 c3
            refine go_at (blk := b_Reader_readProduct_66) rfl ?_
            simp (disch := omega) only [b_Reader_readProduct_66, be_31I, be_10, be_51, List.getD_cons_zero, List.getD_cons_succ, List.set_cons_zero, List.set_cons_succ, List.length_cons, List.length_nil, pk_I, pk_A, pr_A, pi_I, st_s, st_n, if_true, if_false, eq_self, d_if, d_ju, d_re, d_ca, cat0, cat1, cat2, cat3, fr_z, fr_s, cc_I, cc_A, cc_N, Nat.reduceAdd, Nat.reduceLT, Nat.reduceLeDiff, Nat.reduceEqDiff, not_true, not_false_iff, z1_0, z1_1, Bool.and_self, Bool.true_and, Bool.and_true, nI_add, pk_mul, nI_clamp, decide_true, Nat.le_refl, bI_eq, bI_z1, nI_ltI, nI_leI]
            refine ih (v3, t2, C2 ++ [(4, nI 0)], .int _) ⟨FX_t x1 (FX_t (FX_2 f1) (FX_t f2 (FX_3 f3))), ?_, by rw [pre_1]; exact c3, by rw [pre_1, len_1]; dsimp only; omega, by dsimp only; omega, by dsimp only; omega, fun R hR => x7 R (X_s (st_md (by omega) ht) ?_), rfl⟩
            · exact CS_3 (s := (.inr t2, l, p)) hq' s2 f3
            · rw [wp_pop hW]
              refine y2 R (X_e (st_mul (by omega)) ?_)
              rw [show opc (eK E x.2.1) = 4 by rw [h1]; rfl]
              exact hR
          · intro v2 k2 p2 f2 s2 l2 y2
            refine go_at (blk := b_Reader_readProduct_59) rfl ?_
            simp (disch := omega) only [b_Reader_readProduct_59, be_6, be_4, be_1, be_57_2, kc_lw hq, List.getD_cons_zero, List.getD_cons_succ, List.set_cons_zero, List.set_cons_succ, List.length_cons, List.length_nil, pk_I, pk_A, pr_A, pi_I, st_s, st_n, if_true, if_false, eq_self, d_if, d_ju, d_re, d_ca, cat0, cat1, cat2, cat3, fr_z, fr_s, cc_I, cc_A, cc_N, Nat.reduceAdd, Nat.reduceLT, Nat.reduceLeDiff, Nat.reduceEqDiff, not_true, not_false_iff, z1_0, z1_1, Bool.and_self, Bool.true_and, Bool.and_true, nI_add, pk_mul, nI_clamp, decide_true, Nat.le_refl, bI_eq, bI_z1, nI_ltI, nI_leI]
            refine k_putB hq' l2 ?_
            intro v3 y3 f3 l3
            refine go_at (blk := b_Reader_readProduct_66) rfl ?_
            simp (disch := omega) only [b_Reader_readProduct_66, be_31I, be_10, be_51, List.getD_cons_zero, List.getD_cons_succ, List.set_cons_zero, List.set_cons_succ, List.length_cons, List.length_nil, pk_I, pk_A, pr_A, pi_I, st_s, st_n, if_true, if_false, eq_self, d_if, d_ju, d_re, d_ca, cat0, cat1, cat2, cat3, fr_z, fr_s, cc_I, cc_A, cc_N, Nat.reduceAdd, Nat.reduceLT, Nat.reduceLeDiff, Nat.reduceEqDiff, not_true, not_false_iff, z1_0, z1_1, Bool.and_self, Bool.true_and, Bool.and_true, nI_add, pk_mul, nI_clamp, decide_true, Nat.le_refl, bI_eq, bI_z1, nI_ltI, nI_leI]
            exact k_prodBh hq' (CE_3 hq' (CE_X hq' hE1 f2) f3) (CS_3 (s := (.inl (k2, p2), l, p)) hq' s2 f3) l3 (fun v4 f4 s4 l4 => q1 v4 _ _ (FX_t x1 (FX_t (FX_2 f1) (FX_t f2 (FX_t (FX_3 f3) f4)))) s4 l4 (x7 _ (X_s (st_md (by omega) ht) (by rw [wp_pop hW]; exact y2))))
        · rw [tk_2 ht] at s1
          refine go_at (blk := b_Reader_readProduct_53) rfl ?_
          simp (disch := omega) only [b_Reader_readProduct_53, be_6, be_4, be_57_2, kc_2, List.getD_cons_zero, List.getD_cons_succ, List.set_cons_zero, List.set_cons_succ, List.length_cons, List.length_nil, pk_I, pk_A, pr_A, pi_I, st_s, st_n, if_true, if_false, eq_self, d_if, d_ju, d_re, d_ca, cat0, cat1, cat2, cat3, fr_z, fr_s, cc_I, cc_A, cc_N, Nat.reduceAdd, Nat.reduceLT, Nat.reduceLeDiff, Nat.reduceEqDiff, not_true, not_false_iff, z1_0, z1_1, Bool.and_self, Bool.true_and, Bool.and_true, nI_add, pk_mul, nI_clamp, decide_true, Nat.le_refl, bI_eq, bI_z1, nI_ltI, nI_leI]
          refine k_unitB hq' hE1 s1 (LC_L c1 (by omega)) ?_
          intro v2 f2 s2 l2
          refine go_at (blk := b_Reader_readProduct_59) rfl ?_
          simp (disch := omega) only [b_Reader_readProduct_59, be_6, be_4, be_1, be_57_2, kc_lw hq, List.getD_cons_zero, List.getD_cons_succ, List.set_cons_zero, List.set_cons_succ, List.length_cons, List.length_nil, pk_I, pk_A, pr_A, pi_I, st_s, st_n, if_true, if_false, eq_self, d_if, d_ju, d_re, d_ca, cat0, cat1, cat2, cat3, fr_z, fr_s, cc_I, cc_A, cc_N, Nat.reduceAdd, Nat.reduceLT, Nat.reduceLeDiff, Nat.reduceEqDiff, not_true, not_false_iff, z1_0, z1_1, Bool.and_self, Bool.true_and, Bool.and_true, nI_add, pk_mul, nI_clamp, decide_true, Nat.le_refl, bI_eq, bI_z1, nI_ltI, nI_leI]
          refine k_putB hq' l2 ?_
          intro v3 y3 f3 l3
          refine go_at (blk := b_Reader_readProduct_66) rfl ?_
          simp (disch := omega) only [b_Reader_readProduct_66, be_31I, be_10, be_51, List.getD_cons_zero, List.getD_cons_succ, List.set_cons_zero, List.set_cons_succ, List.length_cons, List.length_nil, pk_I, pk_A, pr_A, pi_I, st_s, st_n, if_true, if_false, eq_self, d_if, d_ju, d_re, d_ca, cat0, cat1, cat2, cat3, fr_z, fr_s, cc_I, cc_A, cc_N, Nat.reduceAdd, Nat.reduceLT, Nat.reduceLeDiff, Nat.reduceEqDiff, not_true, not_false_iff, z1_0, z1_1, Bool.and_self, Bool.true_and, Bool.and_true, nI_add, pk_mul, nI_clamp, decide_true, Nat.le_refl, bI_eq, bI_z1, nI_ltI, nI_leI]
          exact k_prodBh hq' (CE_3 hq' (CE_X hq' hE1 f2) f3) (CS_3 hq' s2 f3) l3 (fun v4 f4 s4 l4 => q1 v4 _ _ (FX_t x1 (FX_t (FX_2 f1) (FX_t f2 (FX_t (FX_3 f3) f4)))) s4 l4 (x7 _ (X_d (st_md4 (by omega) ht))))
      · by_cases h2 : eK E x.2.1 = 15
        · refine go_at (blk := b_Reader_readProduct_8) rfl ?_
          simp (disch := omega) only [b_Reader_readProduct_8, be_4, be_1, be_49_3, List.getD_cons_zero, List.getD_cons_succ, List.set_cons_zero, List.set_cons_succ, List.length_cons, List.length_nil, pk_I, pk_A, pr_A, pi_I, st_s, st_n, if_true, if_false, eq_self, d_if, d_ju, d_re, d_ca, cat0, cat1, cat2, cat3, fr_z, fr_s, cc_I, cc_A, cc_N, Nat.reduceAdd, Nat.reduceLT, Nat.reduceLeDiff, Nat.reduceEqDiff, not_true, not_false_iff, z1_0, z1_1, Bool.and_self, Bool.true_and, Bool.and_true, nI_add, pk_mul, nI_clamp, decide_true, Nat.le_refl, bI_eq, bI_z1, nI_ltI, nI_leI, nI_eq, hni, x8]
          refine go_at (blk := b_Reader_readProduct_15) rfl ?_
          simp (disch := omega) only [b_Reader_readProduct_15, be_6, be_57_0, kc_2, List.getD_cons_zero, List.getD_cons_succ, List.set_cons_zero, List.set_cons_succ, List.length_cons, List.length_nil, pk_I, pk_A, pr_A, pi_I, st_s, st_n, if_true, if_false, eq_self, d_if, d_ju, d_re, d_ca, cat0, cat1, cat2, cat3, fr_z, fr_s, cc_I, cc_A, cc_N, Nat.reduceAdd, Nat.reduceLT, Nat.reduceLeDiff, Nat.reduceEqDiff, not_true, not_false_iff, z1_0, z1_1, Bool.and_self, Bool.true_and, Bool.and_true, nI_add, pk_mul, nI_clamp, decide_true, Nat.le_refl, bI_eq, bI_z1, nI_ltI, nI_leI, nI_eq, hni, x8]
          refine k_kind hEx hsx ?_
          rw [show kdR E (.inr x.2.1, l, p) = eK E x.2.1 from rfl, h2, show cK 15 = 47 from rfl]
          refine go_at (blk := b_Reader_readProduct_19) rfl ?_
          simp (disch := omega) only [b_Reader_readProduct_19, be_1, be_49_0, List.getD_cons_zero, List.getD_cons_succ, List.set_cons_zero, List.set_cons_succ, List.length_cons, List.length_nil, pk_I, pk_A, pr_A, pi_I, st_s, st_n, if_true, if_false, eq_self, d_if, d_ju, d_re, d_ca, cat0, cat1, cat2, cat3, fr_z, fr_s, cc_I, cc_A, cc_N, Nat.reduceAdd, Nat.reduceLT, Nat.reduceLeDiff, Nat.reduceEqDiff, not_true, not_false_iff, z1_0, z1_1, Bool.and_self, Bool.true_and, Bool.and_true, nI_add, pk_mul, nI_clamp, decide_true, Nat.le_refl, bI_eq, bI_z1, nI_ltI, nI_leI, nI_eq, hni, x8]
          refine go_at (blk := b_Reader_readProduct_24) rfl ?_
          simp (disch := omega) only [b_Reader_readProduct_24, be_6, be_57_0, kc_2, List.getD_cons_zero, List.getD_cons_succ, List.set_cons_zero, List.set_cons_succ, List.length_cons, List.length_nil, pk_I, pk_A, pr_A, pi_I, st_s, st_n, if_true, if_false, eq_self, d_if, d_ju, d_re, d_ca, cat0, cat1, cat2, cat3, fr_z, fr_s, cc_I, cc_A, cc_N, Nat.reduceAdd, Nat.reduceLT, Nat.reduceLeDiff, Nat.reduceEqDiff, not_true, not_false_iff, z1_0, z1_1, Bool.and_self, Bool.true_and, Bool.and_true, nI_add, pk_mul, nI_clamp, decide_true, Nat.le_refl, bI_eq, bI_z1, nI_ltI, nI_leI, nI_eq, hni, x8]
          refine k_kind hEx hsx ?_
          rw [show kdR E (.inr x.2.1, l, p) = eK E x.2.1 from rfl, h2, show cK 15 = 47 from rfl]
          refine go_at (blk := b_Reader_readProduct_28) rfl ?_
          simp (disch := omega) only [b_Reader_readProduct_28, be_1, be_49_1, List.getD_cons_zero, List.getD_cons_succ, List.set_cons_zero, List.set_cons_succ, List.length_cons, List.length_nil, pk_I, pk_A, pr_A, pi_I, st_s, st_n, if_true, if_false, eq_self, d_if, d_ju, d_re, d_ca, cat0, cat1, cat2, cat3, fr_z, fr_s, cc_I, cc_A, cc_N, Nat.reduceAdd, Nat.reduceLT, Nat.reduceLeDiff, Nat.reduceEqDiff, not_true, not_false_iff, z1_0, z1_1, Bool.and_self, Bool.true_and, Bool.and_true, nI_add, pk_mul, nI_clamp, decide_true, Nat.le_refl, bI_eq, bI_z1, nI_ltI, nI_leI, nI_eq, hni, x8]
          refine go_at (blk := b_Reader_readProduct_33) rfl ?_
          simp (disch := omega) only [b_Reader_readProduct_33, be_6, be_57_0, kc_2, List.getD_cons_zero, List.getD_cons_succ, List.set_cons_zero, List.set_cons_succ, List.length_cons, List.length_nil, pk_I, pk_A, pr_A, pi_I, st_s, st_n, if_true, if_false, eq_self, d_if, d_ju, d_re, d_ca, cat0, cat1, cat2, cat3, fr_z, fr_s, cc_I, cc_A, cc_N, Nat.reduceAdd, Nat.reduceLT, Nat.reduceLeDiff, Nat.reduceEqDiff, not_true, not_false_iff, z1_0, z1_1, Bool.and_self, Bool.true_and, Bool.and_true, nI_add, pk_mul, nI_clamp, decide_true, Nat.le_refl, bI_eq, bI_z1, nI_ltI, nI_leI, nI_eq, hni, x8]
          refine k_kind hEx hsx ?_
          rw [show kdR E (.inr x.2.1, l, p) = eK E x.2.1 from rfl, h2, show cK 15 = 47 from rfl]
          refine go_at (blk := b_Reader_readProduct_37) rfl ?_
          simp (disch := omega) only [b_Reader_readProduct_37, be_1, be_49_1, List.getD_cons_zero, List.getD_cons_succ, List.set_cons_zero, List.set_cons_succ, List.length_cons, List.length_nil, pk_I, pk_A, pr_A, pi_I, st_s, st_n, if_true, if_false, eq_self, d_if, d_ju, d_re, d_ca, cat0, cat1, cat2, cat3, fr_z, fr_s, cc_I, cc_A, cc_N, Nat.reduceAdd, Nat.reduceLT, Nat.reduceLeDiff, Nat.reduceEqDiff, not_true, not_false_iff, z1_0, z1_1, Bool.and_self, Bool.true_and, Bool.and_true, nI_add, pk_mul, nI_clamp, decide_true, Nat.le_refl, bI_eq, bI_z1, nI_ltI, nI_leI, nI_eq, hni, x8]
          refine go_at (blk := b_Reader_readProduct_46) rfl ?_
          simp (disch := omega) only [b_Reader_readProduct_46, be_1, be_0, List.getD_cons_zero, List.getD_cons_succ, List.set_cons_zero, List.set_cons_succ, List.length_cons, List.length_nil, pk_I, pk_A, pr_A, pi_I, st_s, st_n, if_true, if_false, eq_self, d_if, d_ju, d_re, d_ca, cat0, cat1, cat2, cat3, fr_z, fr_s, cc_I, cc_A, cc_N, Nat.reduceAdd, Nat.reduceLT, Nat.reduceLeDiff, Nat.reduceEqDiff, not_true, not_false_iff, z1_0, z1_1, Bool.and_self, Bool.true_and, Bool.and_true, nI_add, pk_mul, nI_clamp, decide_true, Nat.le_refl, bI_eq, bI_z1, nI_ltI, nI_leI, nI_eq, hni, x8]
          refine go_at (blk := b_Reader_readProduct_47) rfl ?_
          simp (disch := omega) only [b_Reader_readProduct_47, be_7, be_6, be_57_0, kc_2, List.getD_cons_zero, List.getD_cons_succ, List.set_cons_zero, List.set_cons_succ, List.length_cons, List.length_nil, pk_I, pk_A, pr_A, pi_I, st_s, st_n, if_true, if_false, eq_self, d_if, d_ju, d_re, d_ca, cat0, cat1, cat2, cat3, fr_z, fr_s, cc_I, cc_A, cc_N, Nat.reduceAdd, Nat.reduceLT, Nat.reduceLeDiff, Nat.reduceEqDiff, not_true, not_false_iff, z1_0, z1_1, Bool.and_self, Bool.true_and, Bool.and_true, nI_add, pk_mul, nI_clamp, decide_true, Nat.le_refl, bI_eq, bI_z1, nI_ltI, nI_leI, nI_eq, hni, x8]
          refine k_take hEx hsx (fun t' ht => ?_) ?_
          · have e9 : x.2.1 = t' := by simpa using ht
            subst e9
            exact ⟨by omega, by omega⟩
          intro v1 f1 s1
          have hE1 := CE_2 hEx f1
          have c1 := LC_2 hq' x3 f1
          by_cases ht : x.2.1 < 400
          · rw [tk_1 ht] at s1
            refine go_at (blk := b_Reader_readProduct_53) rfl ?_
            simp (disch := omega) only [b_Reader_readProduct_53, be_6, be_4, be_57_2, kc_2, List.getD_cons_zero, List.getD_cons_succ, List.set_cons_zero, List.set_cons_succ, List.length_cons, List.length_nil, pk_I, pk_A, pr_A, pi_I, st_s, st_n, if_true, if_false, eq_self, d_if, d_ju, d_re, d_ca, cat0, cat1, cat2, cat3, fr_z, fr_s, cc_I, cc_A, cc_N, Nat.reduceAdd, Nat.reduceLT, Nat.reduceLeDiff, Nat.reduceEqDiff, not_true, not_false_iff, z1_0, z1_1, Bool.and_self, Bool.true_and, Bool.and_true, nI_add, pk_mul, nI_clamp, decide_true, Nat.le_refl, bI_eq, bI_z1, nI_ltI, nI_leI]
            refine hU v1 w _ E q (x.2.1 + 1) l p (eK E x.2.1 :: W) x.2.2.1 pre (sl + 1) hq' hE1 s1 c1 (by omega) (by omega) (by rw [opn_x (by omega)]; exact hoW) trivial ?_ ?_
            · intro v2 t2 C2 f2 s2 c2 l2 tt2 n2 y2
              refine go_at (blk := b_Reader_readProduct_59) rfl ?_
              simp (disch := omega) only [b_Reader_readProduct_59, be_6, be_4, be_1, be_57_2, kc_lw hq, List.getD_cons_zero, List.getD_cons_succ, List.set_cons_zero, List.set_cons_succ, List.length_cons, List.length_nil, pk_I, pk_A, pr_A, pi_I, st_s, st_n, if_true, if_false, eq_self, d_if, d_ju, d_re, d_ca, cat0, cat1, cat2, cat3, fr_z, fr_s, cc_I, cc_A, cc_N, Nat.reduceAdd, Nat.reduceLT, Nat.reduceLeDiff, Nat.reduceEqDiff, not_true, not_false_iff, z1_0, z1_1, Bool.and_self, Bool.true_and, Bool.and_true, nI_add, pk_mul, nI_clamp, decide_true, Nat.le_refl, bI_eq, bI_z1, nI_ltI, nI_leI]
              refine k_put hq' c2 (by have := s2.2.2.1; omega) ?_
              intro v3 f3 c3
              refine go_at (blk := b_Reader_readProduct_66) rfl ?_
              simp (disch := omega) only [b_Reader_readProduct_66, be_31I, be_10, be_51, List.getD_cons_zero, List.getD_cons_succ, List.set_cons_zero, List.set_cons_succ, List.length_cons, List.length_nil, pk_I, pk_A, pr_A, pi_I, st_s, st_n, if_true, if_false, eq_self, d_if, d_ju, d_re, d_ca, cat0, cat1, cat2, cat3, fr_z, fr_s, cc_I, cc_A, cc_N, Nat.reduceAdd, Nat.reduceLT, Nat.reduceLeDiff, Nat.reduceEqDiff, not_true, not_false_iff, z1_0, z1_1, Bool.and_self, Bool.true_and, Bool.and_true, nI_add, pk_mul, nI_clamp, decide_true, Nat.le_refl, bI_eq, bI_z1, nI_ltI, nI_leI]
              refine ih (v3, t2, C2 ++ [(5, nI 0)], .int _) ⟨FX_t x1 (FX_t (FX_2 f1) (FX_t f2 (FX_3 f3))), ?_, by rw [pre_1]; exact c3, by rw [pre_1, len_1]; dsimp only; omega, by dsimp only; omega, by dsimp only; omega, fun R hR => x7 R (X_s (st_md (by omega) ht) ?_), rfl⟩
              · exact CS_3 (s := (.inr t2, l, p)) hq' s2 f3
              · rw [wp_pop hW]
                refine y2 R (X_e (st_mul (by omega)) ?_)
                rw [show opc (eK E x.2.1) = 5 by rw [h2]; rfl]
                exact hR
            · intro v2 k2 p2 f2 s2 l2 y2
              refine go_at (blk := b_Reader_readProduct_59) rfl ?_
              simp (disch := omega) only [b_Reader_readProduct_59, be_6, be_4, be_1, be_57_2, kc_lw hq, List.getD_cons_zero, List.getD_cons_succ, List.set_cons_zero, List.set_cons_succ, List.length_cons, List.length_nil, pk_I, pk_A, pr_A, pi_I, st_s, st_n, if_true, if_false, eq_self, d_if, d_ju, d_re, d_ca, cat0, cat1, cat2, cat3, fr_z, fr_s, cc_I, cc_A, cc_N, Nat.reduceAdd, Nat.reduceLT, Nat.reduceLeDiff, Nat.reduceEqDiff, not_true, not_false_iff, z1_0, z1_1, Bool.and_self, Bool.true_and, Bool.and_true, nI_add, pk_mul, nI_clamp, decide_true, Nat.le_refl, bI_eq, bI_z1, nI_ltI, nI_leI]
              refine k_putB hq' l2 ?_
              intro v3 y3 f3 l3
              refine go_at (blk := b_Reader_readProduct_66) rfl ?_
              simp (disch := omega) only [b_Reader_readProduct_66, be_31I, be_10, be_51, List.getD_cons_zero, List.getD_cons_succ, List.set_cons_zero, List.set_cons_succ, List.length_cons, List.length_nil, pk_I, pk_A, pr_A, pi_I, st_s, st_n, if_true, if_false, eq_self, d_if, d_ju, d_re, d_ca, cat0, cat1, cat2, cat3, fr_z, fr_s, cc_I, cc_A, cc_N, Nat.reduceAdd, Nat.reduceLT, Nat.reduceLeDiff, Nat.reduceEqDiff, not_true, not_false_iff, z1_0, z1_1, Bool.and_self, Bool.true_and, Bool.and_true, nI_add, pk_mul, nI_clamp, decide_true, Nat.le_refl, bI_eq, bI_z1, nI_ltI, nI_leI]
              exact k_prodBh hq' (CE_3 hq' (CE_X hq' hE1 f2) f3) (CS_3 (s := (.inl (k2, p2), l, p)) hq' s2 f3) l3 (fun v4 f4 s4 l4 => q1 v4 _ _ (FX_t x1 (FX_t (FX_2 f1) (FX_t f2 (FX_t (FX_3 f3) f4)))) s4 l4 (x7 _ (X_s (st_md (by omega) ht) (by rw [wp_pop hW]; exact y2))))
          · rw [tk_2 ht] at s1
            refine go_at (blk := b_Reader_readProduct_53) rfl ?_
            simp (disch := omega) only [b_Reader_readProduct_53, be_6, be_4, be_57_2, kc_2, List.getD_cons_zero, List.getD_cons_succ, List.set_cons_zero, List.set_cons_succ, List.length_cons, List.length_nil, pk_I, pk_A, pr_A, pi_I, st_s, st_n, if_true, if_false, eq_self, d_if, d_ju, d_re, d_ca, cat0, cat1, cat2, cat3, fr_z, fr_s, cc_I, cc_A, cc_N, Nat.reduceAdd, Nat.reduceLT, Nat.reduceLeDiff, Nat.reduceEqDiff, not_true, not_false_iff, z1_0, z1_1, Bool.and_self, Bool.true_and, Bool.and_true, nI_add, pk_mul, nI_clamp, decide_true, Nat.le_refl, bI_eq, bI_z1, nI_ltI, nI_leI]
            refine k_unitB hq' hE1 s1 (LC_L c1 (by omega)) ?_
            intro v2 f2 s2 l2
            refine go_at (blk := b_Reader_readProduct_59) rfl ?_
            simp (disch := omega) only [b_Reader_readProduct_59, be_6, be_4, be_1, be_57_2, kc_lw hq, List.getD_cons_zero, List.getD_cons_succ, List.set_cons_zero, List.set_cons_succ, List.length_cons, List.length_nil, pk_I, pk_A, pr_A, pi_I, st_s, st_n, if_true, if_false, eq_self, d_if, d_ju, d_re, d_ca, cat0, cat1, cat2, cat3, fr_z, fr_s, cc_I, cc_A, cc_N, Nat.reduceAdd, Nat.reduceLT, Nat.reduceLeDiff, Nat.reduceEqDiff, not_true, not_false_iff, z1_0, z1_1, Bool.and_self, Bool.true_and, Bool.and_true, nI_add, pk_mul, nI_clamp, decide_true, Nat.le_refl, bI_eq, bI_z1, nI_ltI, nI_leI]
            refine k_putB hq' l2 ?_
            intro v3 y3 f3 l3
            refine go_at (blk := b_Reader_readProduct_66) rfl ?_
            simp (disch := omega) only [b_Reader_readProduct_66, be_31I, be_10, be_51, List.getD_cons_zero, List.getD_cons_succ, List.set_cons_zero, List.set_cons_succ, List.length_cons, List.length_nil, pk_I, pk_A, pr_A, pi_I, st_s, st_n, if_true, if_false, eq_self, d_if, d_ju, d_re, d_ca, cat0, cat1, cat2, cat3, fr_z, fr_s, cc_I, cc_A, cc_N, Nat.reduceAdd, Nat.reduceLT, Nat.reduceLeDiff, Nat.reduceEqDiff, not_true, not_false_iff, z1_0, z1_1, Bool.and_self, Bool.true_and, Bool.and_true, nI_add, pk_mul, nI_clamp, decide_true, Nat.le_refl, bI_eq, bI_z1, nI_ltI, nI_leI]
            exact k_prodBh hq' (CE_3 hq' (CE_X hq' hE1 f2) f3) (CS_3 hq' s2 f3) l3 (fun v4 f4 s4 l4 => q1 v4 _ _ (FX_t x1 (FX_t (FX_2 f1) (FX_t f2 (FX_t (FX_3 f3) f4)))) s4 l4 (x7 _ (X_d (st_md4 (by omega) ht))))
        · have hy1' : cK (eK E x.2.1) ≠ 42 := ck_ne hE.1 (j := 10) (by omega) rfl h1
          have hy2' : cK (eK E x.2.1) ≠ 47 := ck_ne hE.1 (j := 15) (by omega) rfl h2
          have hc9' := ck_lt9 _ (hE.1.2.2.2.1 x.2.1).1
          obtain ⟨c9, hcc⟩ : ∃ c9, c9 = cK (eK E x.2.1) := ⟨_, rfl⟩
          rw [← hcc] at hy1' hy2' hc9'
          have hy1 : ¬ c9 = 42 := hy1'
          have hy2 : ¬ c9 = 47 := hy2'
          refine go_at (blk := b_Reader_readProduct_8) rfl ?_
          simp (disch := omega) only [b_Reader_readProduct_8, be_4, be_1, be_49_3, List.getD_cons_zero, List.getD_cons_succ, List.set_cons_zero, List.set_cons_succ, List.length_cons, List.length_nil, pk_I, pk_A, pr_A, pi_I, st_s, st_n, if_true, if_false, eq_self, d_if, d_ju, d_re, d_ca, cat0, cat1, cat2, cat3, fr_z, fr_s, cc_I, cc_A, cc_N, Nat.reduceAdd, Nat.reduceLT, Nat.reduceLeDiff, Nat.reduceEqDiff, not_true, not_false_iff, z1_0, z1_1, Bool.and_self, Bool.true_and, Bool.and_true, nI_add, pk_mul, nI_clamp, decide_true, Nat.le_refl, bI_eq, bI_z1, nI_ltI, nI_leI, nI_eq, hni, hy1, hy2]
          refine go_at (blk := b_Reader_readProduct_15) rfl ?_
          simp (disch := omega) only [b_Reader_readProduct_15, be_6, be_57_0, kc_2, List.getD_cons_zero, List.getD_cons_succ, List.set_cons_zero, List.set_cons_succ, List.length_cons, List.length_nil, pk_I, pk_A, pr_A, pi_I, st_s, st_n, if_true, if_false, eq_self, d_if, d_ju, d_re, d_ca, cat0, cat1, cat2, cat3, fr_z, fr_s, cc_I, cc_A, cc_N, Nat.reduceAdd, Nat.reduceLT, Nat.reduceLeDiff, Nat.reduceEqDiff, not_true, not_false_iff, z1_0, z1_1, Bool.and_self, Bool.true_and, Bool.and_true, nI_add, pk_mul, nI_clamp, decide_true, Nat.le_refl, bI_eq, bI_z1, nI_ltI, nI_leI, nI_eq, hni, hy1, hy2]
          refine k_kind hEx hsx ?_
          rw [show kdR E (.inr x.2.1, l, p) = eK E x.2.1 from rfl, ← hcc]
          refine go_at (blk := b_Reader_readProduct_19) rfl ?_
          simp (disch := omega) only [b_Reader_readProduct_19, be_1, be_49_0, List.getD_cons_zero, List.getD_cons_succ, List.set_cons_zero, List.set_cons_succ, List.length_cons, List.length_nil, pk_I, pk_A, pr_A, pi_I, st_s, st_n, if_true, if_false, eq_self, d_if, d_ju, d_re, d_ca, cat0, cat1, cat2, cat3, fr_z, fr_s, cc_I, cc_A, cc_N, Nat.reduceAdd, Nat.reduceLT, Nat.reduceLeDiff, Nat.reduceEqDiff, not_true, not_false_iff, z1_0, z1_1, Bool.and_self, Bool.true_and, Bool.and_true, nI_add, pk_mul, nI_clamp, decide_true, Nat.le_refl, bI_eq, bI_z1, nI_ltI, nI_leI, nI_eq, hni, hy1, hy2]
          refine go_at (blk := b_Reader_readProduct_24) rfl ?_
          simp (disch := omega) only [b_Reader_readProduct_24, be_6, be_57_0, kc_2, List.getD_cons_zero, List.getD_cons_succ, List.set_cons_zero, List.set_cons_succ, List.length_cons, List.length_nil, pk_I, pk_A, pr_A, pi_I, st_s, st_n, if_true, if_false, eq_self, d_if, d_ju, d_re, d_ca, cat0, cat1, cat2, cat3, fr_z, fr_s, cc_I, cc_A, cc_N, Nat.reduceAdd, Nat.reduceLT, Nat.reduceLeDiff, Nat.reduceEqDiff, not_true, not_false_iff, z1_0, z1_1, Bool.and_self, Bool.true_and, Bool.and_true, nI_add, pk_mul, nI_clamp, decide_true, Nat.le_refl, bI_eq, bI_z1, nI_ltI, nI_leI, nI_eq, hni, hy1, hy2]
          refine k_kind hEx hsx ?_
          rw [show kdR E (.inr x.2.1, l, p) = eK E x.2.1 from rfl, ← hcc]
          refine go_at (blk := b_Reader_readProduct_28) rfl ?_
          simp (disch := omega) only [b_Reader_readProduct_28, be_1, be_49_1, List.getD_cons_zero, List.getD_cons_succ, List.set_cons_zero, List.set_cons_succ, List.length_cons, List.length_nil, pk_I, pk_A, pr_A, pi_I, st_s, st_n, if_true, if_false, eq_self, d_if, d_ju, d_re, d_ca, cat0, cat1, cat2, cat3, fr_z, fr_s, cc_I, cc_A, cc_N, Nat.reduceAdd, Nat.reduceLT, Nat.reduceLeDiff, Nat.reduceEqDiff, not_true, not_false_iff, z1_0, z1_1, Bool.and_self, Bool.true_and, Bool.and_true, nI_add, pk_mul, nI_clamp, decide_true, Nat.le_refl, bI_eq, bI_z1, nI_ltI, nI_leI, nI_eq, hni, hy1, hy2]
          refine go_at (blk := b_Reader_readProduct_73) rfl ?_
          simp (disch := omega) only [b_Reader_readProduct_73, be_56, List.getD_cons_zero, List.getD_cons_succ, List.set_cons_zero, List.set_cons_succ, List.length_cons, List.length_nil, pk_I, pk_A, pr_A, pi_I, st_s, st_n, if_true, if_false, eq_self, d_if, d_ju, d_re, d_ca, cat0, cat1, cat2, cat3, fr_z, fr_s, cc_I, cc_A, cc_N, Nat.reduceAdd, Nat.reduceLT, Nat.reduceLeDiff, Nat.reduceEqDiff, not_true, not_false_iff, z1_0, z1_1, Bool.and_self, Bool.true_and, Bool.and_true, nI_add, pk_mul, nI_clamp, decide_true, Nat.le_refl, bI_eq, bI_z1, nI_ltI, nI_leI, nI_eq, hni, hy1, hy2]
          exact q0 x.1 x.2.1 x.2.2.1 x1 x2 x3 x4 x5 ⟨h1, h2⟩ x7
    · intro x ⟨x1, x2, x3, x4, x5, x6, x7, x8⟩
      try dsimp only at *
      have := x2.2.2.1
      exfalso
      omega
  · intro v1 k1 p1 f1 s1 l1 y1
    refine go_at (blk := b_Reader_readProduct_6) rfl ?_
    simp (disch := omega) only [b_Reader_readProduct_6, be_1, be_7, be_0, List.getD_cons_zero, List.getD_cons_succ, List.set_cons_zero, List.set_cons_succ, List.length_cons, List.length_nil, pk_I, pk_A, pr_A, pi_I, st_s, st_n, if_true, if_false, eq_self, d_if, d_ju, d_re, d_ca, cat0, cat1, cat2, cat3, fr_z, fr_s, cc_I, cc_A, cc_N, Nat.reduceAdd, Nat.reduceLT, Nat.reduceLeDiff, Nat.reduceEqDiff, not_true, not_false_iff, z1_0, z1_1, Bool.and_self, Bool.true_and, Bool.and_true, nI_add, pk_mul, nI_clamp, decide_true, Nat.le_refl, bI_eq, bI_z1]
    exact k_prodBh (l := l) (p := p) hq' (CE_X hq' hE f1) (show CS E v1 (.inl (k1, p1), l, p) from s1) l1 (fun v2 f2 s2 l2 => q1 v2 _ _ (FX_t f1 f2) s2 l2 y1)
set_option maxHeartbeats 2000000 in
theorem sum_of {d o : Nat} (ho9 : o ≤ 6) (hU : PROD (d + 6) o) : SUMX (d + 7) o := by
  intro v w Q E q t l p W C pre sl hq' hE hG hC hsl hs2 hoW hW q0 q1
  have hq := LD_W hq'
  have hs : CS E v (.inr t, l, p) := hG
  have gL := hE.1.1
  refine ca_in (k := k_Reader_readSum) (nL := 5) rfl (Nat.le_of_ble_eq_true rfl) ?_
  show am_Go am_X0 _ k_Reader_readSum 0 ([.ref 2, .ref q, .int (nI o), .null, .null], [], _) _
  refine go_at (blk := b_Reader_readSum_0) rfl ?_
  simp (disch := omega) only [b_Reader_readSum_0, be_6, be_4, be_57_2, kc_2, List.getD_cons_zero, List.getD_cons_succ, List.set_cons_zero, List.set_cons_succ, List.length_cons, List.length_nil, pk_I, pk_A, pr_A, pi_I, st_s, st_n, if_true, if_false, eq_self, d_if, d_ju, d_re, d_ca, cat0, cat1, cat2, cat3, fr_z, fr_s, cc_I, cc_A, cc_N, Nat.reduceAdd, Nat.reduceLT, Nat.reduceLeDiff, Nat.reduceEqDiff, not_true, not_false_iff, z1_0, z1_1, Bool.and_self, Bool.true_and, Bool.and_true, nI_add, pk_mul, nI_clamp, decide_true, Nat.le_refl, bI_eq, bI_z1]
  refine hU v w _ E q t l p W C pre sl hq' hE hG hC hsl hs2 hoW (ws_wp hW) ?_ ?_
  · intro v1 t1 C1 f1 s1 c1 l1 tt1 n1 y1
    refine go_at (blk := b_Reader_readSum_6) rfl ?_
    simp (disch := omega) only [b_Reader_readSum_6, be_1, be_7, be_0, List.getD_cons_zero, List.getD_cons_succ, List.set_cons_zero, List.set_cons_succ, List.length_cons, List.length_nil, pk_I, pk_A, pr_A, pi_I, st_s, st_n, if_true, if_false, eq_self, d_if, d_ju, d_re, d_ca, cat0, cat1, cat2, cat3, fr_z, fr_s, cc_I, cc_A, cc_N, Nat.reduceAdd, Nat.reduceLT, Nat.reduceLeDiff, Nat.reduceEqDiff, not_true, not_false_iff, z1_0, z1_1, Bool.and_self, Bool.true_and, Bool.and_true, nI_add, pk_mul, nI_clamp, decide_true, Nat.le_refl, bI_eq, bI_z1]
    refine go_loopA (α := (Nat → Nat → Int32) × Nat × CL × Value) (fun i x => ([.ref 2, .ref q, .int (nI o), .int (nI i), x.2.2.2], [], (428, 26053, KD, RF, x.1, w))) (fun i x => FX q v x.1 ∧ CG E x.1 x.2.1 l p ∧ LC x.1 q (pre ++ x.2.2.1) ∧ (pre ++ x.2.2.1).length + sl ≤ x.2.1 ∧ t < x.2.1 ∧ i < x.2.1 ∧ (∀ R, XX E (true, x.2.1, W, x.2.2.1) R → XX E (false, t, W, C) R) ∧ am_cc x.2.2.2 = true ∧ nxP (eK E x.2.1)) (400) ?_ ?_ (v1, t1, C1, .null) ⟨f1, s1, c1, l1, tt1, (show 0 < t1 by omega), y1, rfl, n1⟩
    · intro i x hi ⟨x1, x2, x3, x4, x5, x6, x7, x8, x9⟩ ih
      try dsimp only at *
      have hni : ¬ 400 ≤ i := by omega
      have hEx : CE E x.1 w := CE_X hq' hE x1
      have hsx : CS E x.1 (.inr x.2.1, l, p) := x2
      have gtx := x2.2.2.1
      by_cases h1 : eK E x.2.1 = 8
      · refine go_at (blk := b_Reader_readSum_8) rfl ?_
        simp (disch := omega) only [b_Reader_readSum_8, be_4, be_1, be_49_3, List.getD_cons_zero, List.getD_cons_succ, List.set_cons_zero, List.set_cons_succ, List.length_cons, List.length_nil, pk_I, pk_A, pr_A, pi_I, st_s, st_n, if_true, if_false, eq_self, d_if, d_ju, d_re, d_ca, cat0, cat1, cat2, cat3, fr_z, fr_s, cc_I, cc_A, cc_N, Nat.reduceAdd, Nat.reduceLT, Nat.reduceLeDiff, Nat.reduceEqDiff, not_true, not_false_iff, z1_0, z1_1, Bool.and_self, Bool.true_and, Bool.and_true, nI_add, pk_mul, nI_clamp, decide_true, Nat.le_refl, bI_eq, bI_z1, nI_ltI, nI_leI, nI_eq, hni, x8]
        refine go_at (blk := b_Reader_readSum_15) rfl ?_
        simp (disch := omega) only [b_Reader_readSum_15, be_6, be_57_0, kc_2, List.getD_cons_zero, List.getD_cons_succ, List.set_cons_zero, List.set_cons_succ, List.length_cons, List.length_nil, pk_I, pk_A, pr_A, pi_I, st_s, st_n, if_true, if_false, eq_self, d_if, d_ju, d_re, d_ca, cat0, cat1, cat2, cat3, fr_z, fr_s, cc_I, cc_A, cc_N, Nat.reduceAdd, Nat.reduceLT, Nat.reduceLeDiff, Nat.reduceEqDiff, not_true, not_false_iff, z1_0, z1_1, Bool.and_self, Bool.true_and, Bool.and_true, nI_add, pk_mul, nI_clamp, decide_true, Nat.le_refl, bI_eq, bI_z1, nI_ltI, nI_leI, nI_eq, hni, x8]
        refine k_kind hEx hsx ?_
        rw [show kdR E (.inr x.2.1, l, p) = eK E x.2.1 from rfl, h1, show cK 8 = 43 from rfl]
        refine go_at (blk := b_Reader_readSum_19) rfl ?_
        simp (disch := omega) only [b_Reader_readSum_19, be_1, be_49_0, List.getD_cons_zero, List.getD_cons_succ, List.set_cons_zero, List.set_cons_succ, List.length_cons, List.length_nil, pk_I, pk_A, pr_A, pi_I, st_s, st_n, if_true, if_false, eq_self, d_if, d_ju, d_re, d_ca, cat0, cat1, cat2, cat3, fr_z, fr_s, cc_I, cc_A, cc_N, Nat.reduceAdd, Nat.reduceLT, Nat.reduceLeDiff, Nat.reduceEqDiff, not_true, not_false_iff, z1_0, z1_1, Bool.and_self, Bool.true_and, Bool.and_true, nI_add, pk_mul, nI_clamp, decide_true, Nat.le_refl, bI_eq, bI_z1, nI_ltI, nI_leI, nI_eq, hni, x8]
        refine go_at (blk := b_Reader_readSum_33) rfl ?_
        simp (disch := omega) only [b_Reader_readSum_33, be_6, be_57_0, kc_2, List.getD_cons_zero, List.getD_cons_succ, List.set_cons_zero, List.set_cons_succ, List.length_cons, List.length_nil, pk_I, pk_A, pr_A, pi_I, st_s, st_n, if_true, if_false, eq_self, d_if, d_ju, d_re, d_ca, cat0, cat1, cat2, cat3, fr_z, fr_s, cc_I, cc_A, cc_N, Nat.reduceAdd, Nat.reduceLT, Nat.reduceLeDiff, Nat.reduceEqDiff, not_true, not_false_iff, z1_0, z1_1, Bool.and_self, Bool.true_and, Bool.and_true, nI_add, pk_mul, nI_clamp, decide_true, Nat.le_refl, bI_eq, bI_z1, nI_ltI, nI_leI, nI_eq, hni, x8]
        refine k_kind hEx hsx ?_
        rw [show kdR E (.inr x.2.1, l, p) = eK E x.2.1 from rfl, h1, show cK 8 = 43 from rfl]
        refine go_at (blk := b_Reader_readSum_37) rfl ?_
        simp (disch := omega) only [b_Reader_readSum_37, be_1, be_49_1, List.getD_cons_zero, List.getD_cons_succ, List.set_cons_zero, List.set_cons_succ, List.length_cons, List.length_nil, pk_I, pk_A, pr_A, pi_I, st_s, st_n, if_true, if_false, eq_self, d_if, d_ju, d_re, d_ca, cat0, cat1, cat2, cat3, fr_z, fr_s, cc_I, cc_A, cc_N, Nat.reduceAdd, Nat.reduceLT, Nat.reduceLeDiff, Nat.reduceEqDiff, not_true, not_false_iff, z1_0, z1_1, Bool.and_self, Bool.true_and, Bool.and_true, nI_add, pk_mul, nI_clamp, decide_true, Nat.le_refl, bI_eq, bI_z1, nI_ltI, nI_leI, nI_eq, hni, x8]
        refine go_at (blk := b_Reader_readSum_42) rfl ?_
        simp (disch := omega) only [b_Reader_readSum_42, be_1, be_51, List.getD_cons_zero, List.getD_cons_succ, List.set_cons_zero, List.set_cons_succ, List.length_cons, List.length_nil, pk_I, pk_A, pr_A, pi_I, st_s, st_n, if_true, if_false, eq_self, d_if, d_ju, d_re, d_ca, cat0, cat1, cat2, cat3, fr_z, fr_s, cc_I, cc_A, cc_N, Nat.reduceAdd, Nat.reduceLT, Nat.reduceLeDiff, Nat.reduceEqDiff, not_true, not_false_iff, z1_0, z1_1, Bool.and_self, Bool.true_and, Bool.and_true, nI_add, pk_mul, nI_clamp, decide_true, Nat.le_refl, bI_eq, bI_z1, nI_ltI, nI_leI, nI_eq, hni, x8]
        refine go_at (blk := b_Reader_readSum_47) rfl ?_
        simp (disch := omega) only [b_Reader_readSum_47, be_7, be_6, be_57_0, kc_2, List.getD_cons_zero, List.getD_cons_succ, List.set_cons_zero, List.set_cons_succ, List.length_cons, List.length_nil, pk_I, pk_A, pr_A, pi_I, st_s, st_n, if_true, if_false, eq_self, d_if, d_ju, d_re, d_ca, cat0, cat1, cat2, cat3, fr_z, fr_s, cc_I, cc_A, cc_N, Nat.reduceAdd, Nat.reduceLT, Nat.reduceLeDiff, Nat.reduceEqDiff, not_true, not_false_iff, z1_0, z1_1, Bool.and_self, Bool.true_and, Bool.and_true, nI_add, pk_mul, nI_clamp, decide_true, Nat.le_refl, bI_eq, bI_z1, nI_ltI, nI_leI, nI_eq, hni, x8]
        refine k_take hEx hsx (fun t' ht => ?_) ?_
        · have e9 : x.2.1 = t' := by simpa using ht
          subst e9
          exact ⟨by omega, by omega⟩
        intro v1 f1 s1
        have hE1 := CE_2 hEx f1
        have c1 := LC_2 hq' x3 f1
        by_cases ht : x.2.1 < 400
        · rw [tk_1 ht] at s1
          refine go_at (blk := b_Reader_readSum_53) rfl ?_
          simp (disch := omega) only [b_Reader_readSum_53, be_6, be_4, be_57_2, kc_2, List.getD_cons_zero, List.getD_cons_succ, List.set_cons_zero, List.set_cons_succ, List.length_cons, List.length_nil, pk_I, pk_A, pr_A, pi_I, st_s, st_n, if_true, if_false, eq_self, d_if, d_ju, d_re, d_ca, cat0, cat1, cat2, cat3, fr_z, fr_s, cc_I, cc_A, cc_N, Nat.reduceAdd, Nat.reduceLT, Nat.reduceLeDiff, Nat.reduceEqDiff, not_true, not_false_iff, z1_0, z1_1, Bool.and_self, Bool.true_and, Bool.and_true, nI_add, pk_mul, nI_clamp, decide_true, Nat.le_refl, bI_eq, bI_z1, nI_ltI, nI_leI]
          refine hU v1 w _ E q (x.2.1 + 1) l p (eK E x.2.1 :: W) x.2.2.1 pre (sl + 1) hq' hE1 s1 c1 (by omega) (by omega) (by rw [opn_x (by omega)]; exact hoW) (Or.inr ⟨_, W, rfl, by omega⟩) ?_ ?_
          · intro v2 t2 C2 f2 s2 c2 l2 tt2 n2 y2
            refine go_at (blk := b_Reader_readSum_59) rfl ?_
            simp (disch := omega) only [b_Reader_readSum_59, be_6, be_4, be_1, be_57_2, kc_lw hq, List.getD_cons_zero, List.getD_cons_succ, List.set_cons_zero, List.set_cons_succ, List.length_cons, List.length_nil, pk_I, pk_A, pr_A, pi_I, st_s, st_n, if_true, if_false, eq_self, d_if, d_ju, d_re, d_ca, cat0, cat1, cat2, cat3, fr_z, fr_s, cc_I, cc_A, cc_N, Nat.reduceAdd, Nat.reduceLT, Nat.reduceLeDiff, Nat.reduceEqDiff, not_true, not_false_iff, z1_0, z1_1, Bool.and_self, Bool.true_and, Bool.and_true, nI_add, pk_mul, nI_clamp, decide_true, Nat.le_refl, bI_eq, bI_z1, nI_ltI, nI_leI]
            refine k_put hq' c2 (by have := s2.2.2.1; omega) ?_
            intro v3 f3 c3
            refine go_at (blk := b_Reader_readSum_66) rfl ?_
            simp (disch := omega) only [b_Reader_readSum_66, be_31I, be_10, be_51, List.getD_cons_zero, List.getD_cons_succ, List.set_cons_zero, List.set_cons_succ, List.length_cons, List.length_nil, pk_I, pk_A, pr_A, pi_I, st_s, st_n, if_true, if_false, eq_self, d_if, d_ju, d_re, d_ca, cat0, cat1, cat2, cat3, fr_z, fr_s, cc_I, cc_A, cc_N, Nat.reduceAdd, Nat.reduceLT, Nat.reduceLeDiff, Nat.reduceEqDiff, not_true, not_false_iff, z1_0, z1_1, Bool.and_self, Bool.true_and, Bool.and_true, nI_add, pk_mul, nI_clamp, decide_true, Nat.le_refl, bI_eq, bI_z1, nI_ltI, nI_leI]
            refine ih (v3, t2, C2 ++ [(2, nI 0)], .int _) ⟨FX_t x1 (FX_t (FX_2 f1) (FX_t f2 (FX_3 f3))), ?_, by rw [pre_1]; exact c3, by rw [pre_1, len_1]; dsimp only; omega, by dsimp only; omega, by dsimp only; omega, fun R hR => x7 R (X_s (st_pm (by omega) ht) ?_), rfl, n2⟩
            · exact CS_3 (s := (.inr t2, l, p)) hq' s2 f3
            · rw [ws_pop hW]
              refine y2 R (X_e (st_add (by omega) n2) ?_)
              rw [show opc (eK E x.2.1) = 2 by rw [h1]; rfl]
              exact hR
          · intro v2 k2 p2 f2 s2 l2 y2
            refine go_at (blk := b_Reader_readSum_59) rfl ?_
            simp (disch := omega) only [b_Reader_readSum_59, be_6, be_4, be_1, be_57_2, kc_lw hq, List.getD_cons_zero, List.getD_cons_succ, List.set_cons_zero, List.set_cons_succ, List.length_cons, List.length_nil, pk_I, pk_A, pr_A, pi_I, st_s, st_n, if_true, if_false, eq_self, d_if, d_ju, d_re, d_ca, cat0, cat1, cat2, cat3, fr_z, fr_s, cc_I, cc_A, cc_N, Nat.reduceAdd, Nat.reduceLT, Nat.reduceLeDiff, Nat.reduceEqDiff, not_true, not_false_iff, z1_0, z1_1, Bool.and_self, Bool.true_and, Bool.and_true, nI_add, pk_mul, nI_clamp, decide_true, Nat.le_refl, bI_eq, bI_z1, nI_ltI, nI_leI]
            refine k_putB hq' l2 ?_
            intro v3 y3 f3 l3
            refine go_at (blk := b_Reader_readSum_66) rfl ?_
            simp (disch := omega) only [b_Reader_readSum_66, be_31I, be_10, be_51, List.getD_cons_zero, List.getD_cons_succ, List.set_cons_zero, List.set_cons_succ, List.length_cons, List.length_nil, pk_I, pk_A, pr_A, pi_I, st_s, st_n, if_true, if_false, eq_self, d_if, d_ju, d_re, d_ca, cat0, cat1, cat2, cat3, fr_z, fr_s, cc_I, cc_A, cc_N, Nat.reduceAdd, Nat.reduceLT, Nat.reduceLeDiff, Nat.reduceEqDiff, not_true, not_false_iff, z1_0, z1_1, Bool.and_self, Bool.true_and, Bool.and_true, nI_add, pk_mul, nI_clamp, decide_true, Nat.le_refl, bI_eq, bI_z1, nI_ltI, nI_leI]
            exact k_sumBh hq' (CE_3 hq' (CE_X hq' hE1 f2) f3) (CS_3 (s := (.inl (k2, p2), l, p)) hq' s2 f3) l3 (fun v4 f4 s4 l4 => q1 v4 _ _ (FX_t x1 (FX_t (FX_2 f1) (FX_t f2 (FX_t (FX_3 f3) f4)))) s4 l4 (x7 _ (X_s (st_pm (by omega) ht) (by rw [ws_pop hW]; exact y2))))
        · rw [tk_2 ht] at s1
          refine go_at (blk := b_Reader_readSum_53) rfl ?_
          simp (disch := omega) only [b_Reader_readSum_53, be_6, be_4, be_57_2, kc_2, List.getD_cons_zero, List.getD_cons_succ, List.set_cons_zero, List.set_cons_succ, List.length_cons, List.length_nil, pk_I, pk_A, pr_A, pi_I, st_s, st_n, if_true, if_false, eq_self, d_if, d_ju, d_re, d_ca, cat0, cat1, cat2, cat3, fr_z, fr_s, cc_I, cc_A, cc_N, Nat.reduceAdd, Nat.reduceLT, Nat.reduceLeDiff, Nat.reduceEqDiff, not_true, not_false_iff, z1_0, z1_1, Bool.and_self, Bool.true_and, Bool.and_true, nI_add, pk_mul, nI_clamp, decide_true, Nat.le_refl, bI_eq, bI_z1, nI_ltI, nI_leI]
          refine k_prodB hq' hE1 s1 (LC_L c1 (by omega)) ?_
          intro v2 f2 s2 l2
          refine go_at (blk := b_Reader_readSum_59) rfl ?_
          simp (disch := omega) only [b_Reader_readSum_59, be_6, be_4, be_1, be_57_2, kc_lw hq, List.getD_cons_zero, List.getD_cons_succ, List.set_cons_zero, List.set_cons_succ, List.length_cons, List.length_nil, pk_I, pk_A, pr_A, pi_I, st_s, st_n, if_true, if_false, eq_self, d_if, d_ju, d_re, d_ca, cat0, cat1, cat2, cat3, fr_z, fr_s, cc_I, cc_A, cc_N, Nat.reduceAdd, Nat.reduceLT, Nat.reduceLeDiff, Nat.reduceEqDiff, not_true, not_false_iff, z1_0, z1_1, Bool.and_self, Bool.true_and, Bool.and_true, nI_add, pk_mul, nI_clamp, decide_true, Nat.le_refl, bI_eq, bI_z1, nI_ltI, nI_leI]
          refine k_putB hq' l2 ?_
          intro v3 y3 f3 l3
          refine go_at (blk := b_Reader_readSum_66) rfl ?_
          simp (disch := omega) only [b_Reader_readSum_66, be_31I, be_10, be_51, List.getD_cons_zero, List.getD_cons_succ, List.set_cons_zero, List.set_cons_succ, List.length_cons, List.length_nil, pk_I, pk_A, pr_A, pi_I, st_s, st_n, if_true, if_false, eq_self, d_if, d_ju, d_re, d_ca, cat0, cat1, cat2, cat3, fr_z, fr_s, cc_I, cc_A, cc_N, Nat.reduceAdd, Nat.reduceLT, Nat.reduceLeDiff, Nat.reduceEqDiff, not_true, not_false_iff, z1_0, z1_1, Bool.and_self, Bool.true_and, Bool.and_true, nI_add, pk_mul, nI_clamp, decide_true, Nat.le_refl, bI_eq, bI_z1, nI_ltI, nI_leI]
          exact k_sumBh hq' (CE_3 hq' (CE_X hq' hE1 f2) f3) (CS_3 hq' s2 f3) l3 (fun v4 f4 s4 l4 => q1 v4 _ _ (FX_t x1 (FX_t (FX_2 f1) (FX_t f2 (FX_t (FX_3 f3) f4)))) s4 l4 (x7 _ (X_d (st_pm4 (by omega) ht))))
      · by_cases h2 : eK E x.2.1 = 9
        · refine go_at (blk := b_Reader_readSum_8) rfl ?_
          simp (disch := omega) only [b_Reader_readSum_8, be_4, be_1, be_49_3, List.getD_cons_zero, List.getD_cons_succ, List.set_cons_zero, List.set_cons_succ, List.length_cons, List.length_nil, pk_I, pk_A, pr_A, pi_I, st_s, st_n, if_true, if_false, eq_self, d_if, d_ju, d_re, d_ca, cat0, cat1, cat2, cat3, fr_z, fr_s, cc_I, cc_A, cc_N, Nat.reduceAdd, Nat.reduceLT, Nat.reduceLeDiff, Nat.reduceEqDiff, not_true, not_false_iff, z1_0, z1_1, Bool.and_self, Bool.true_and, Bool.and_true, nI_add, pk_mul, nI_clamp, decide_true, Nat.le_refl, bI_eq, bI_z1, nI_ltI, nI_leI, nI_eq, hni, x8]
          refine go_at (blk := b_Reader_readSum_15) rfl ?_
          simp (disch := omega) only [b_Reader_readSum_15, be_6, be_57_0, kc_2, List.getD_cons_zero, List.getD_cons_succ, List.set_cons_zero, List.set_cons_succ, List.length_cons, List.length_nil, pk_I, pk_A, pr_A, pi_I, st_s, st_n, if_true, if_false, eq_self, d_if, d_ju, d_re, d_ca, cat0, cat1, cat2, cat3, fr_z, fr_s, cc_I, cc_A, cc_N, Nat.reduceAdd, Nat.reduceLT, Nat.reduceLeDiff, Nat.reduceEqDiff, not_true, not_false_iff, z1_0, z1_1, Bool.and_self, Bool.true_and, Bool.and_true, nI_add, pk_mul, nI_clamp, decide_true, Nat.le_refl, bI_eq, bI_z1, nI_ltI, nI_leI, nI_eq, hni, x8]
          refine k_kind hEx hsx ?_
          rw [show kdR E (.inr x.2.1, l, p) = eK E x.2.1 from rfl, h2, show cK 9 = 45 from rfl]
          refine go_at (blk := b_Reader_readSum_19) rfl ?_
          simp (disch := omega) only [b_Reader_readSum_19, be_1, be_49_0, List.getD_cons_zero, List.getD_cons_succ, List.set_cons_zero, List.set_cons_succ, List.length_cons, List.length_nil, pk_I, pk_A, pr_A, pi_I, st_s, st_n, if_true, if_false, eq_self, d_if, d_ju, d_re, d_ca, cat0, cat1, cat2, cat3, fr_z, fr_s, cc_I, cc_A, cc_N, Nat.reduceAdd, Nat.reduceLT, Nat.reduceLeDiff, Nat.reduceEqDiff, not_true, not_false_iff, z1_0, z1_1, Bool.and_self, Bool.true_and, Bool.and_true, nI_add, pk_mul, nI_clamp, decide_true, Nat.le_refl, bI_eq, bI_z1, nI_ltI, nI_leI, nI_eq, hni, x8]
          refine go_at (blk := b_Reader_readSum_24) rfl ?_
          simp (disch := omega) only [b_Reader_readSum_24, be_6, be_57_0, kc_2, List.getD_cons_zero, List.getD_cons_succ, List.set_cons_zero, List.set_cons_succ, List.length_cons, List.length_nil, pk_I, pk_A, pr_A, pi_I, st_s, st_n, if_true, if_false, eq_self, d_if, d_ju, d_re, d_ca, cat0, cat1, cat2, cat3, fr_z, fr_s, cc_I, cc_A, cc_N, Nat.reduceAdd, Nat.reduceLT, Nat.reduceLeDiff, Nat.reduceEqDiff, not_true, not_false_iff, z1_0, z1_1, Bool.and_self, Bool.true_and, Bool.and_true, nI_add, pk_mul, nI_clamp, decide_true, Nat.le_refl, bI_eq, bI_z1, nI_ltI, nI_leI, nI_eq, hni, x8]
          refine k_kind hEx hsx ?_
          rw [show kdR E (.inr x.2.1, l, p) = eK E x.2.1 from rfl, h2, show cK 9 = 45 from rfl]
          refine go_at (blk := b_Reader_readSum_28) rfl ?_
          simp (disch := omega) only [b_Reader_readSum_28, be_1, be_49_1, List.getD_cons_zero, List.getD_cons_succ, List.set_cons_zero, List.set_cons_succ, List.length_cons, List.length_nil, pk_I, pk_A, pr_A, pi_I, st_s, st_n, if_true, if_false, eq_self, d_if, d_ju, d_re, d_ca, cat0, cat1, cat2, cat3, fr_z, fr_s, cc_I, cc_A, cc_N, Nat.reduceAdd, Nat.reduceLT, Nat.reduceLeDiff, Nat.reduceEqDiff, not_true, not_false_iff, z1_0, z1_1, Bool.and_self, Bool.true_and, Bool.and_true, nI_add, pk_mul, nI_clamp, decide_true, Nat.le_refl, bI_eq, bI_z1, nI_ltI, nI_leI, nI_eq, hni, x8]
          refine go_at (blk := b_Reader_readSum_33) rfl ?_
          simp (disch := omega) only [b_Reader_readSum_33, be_6, be_57_0, kc_2, List.getD_cons_zero, List.getD_cons_succ, List.set_cons_zero, List.set_cons_succ, List.length_cons, List.length_nil, pk_I, pk_A, pr_A, pi_I, st_s, st_n, if_true, if_false, eq_self, d_if, d_ju, d_re, d_ca, cat0, cat1, cat2, cat3, fr_z, fr_s, cc_I, cc_A, cc_N, Nat.reduceAdd, Nat.reduceLT, Nat.reduceLeDiff, Nat.reduceEqDiff, not_true, not_false_iff, z1_0, z1_1, Bool.and_self, Bool.true_and, Bool.and_true, nI_add, pk_mul, nI_clamp, decide_true, Nat.le_refl, bI_eq, bI_z1, nI_ltI, nI_leI, nI_eq, hni, x8]
          refine k_kind hEx hsx ?_
          rw [show kdR E (.inr x.2.1, l, p) = eK E x.2.1 from rfl, h2, show cK 9 = 45 from rfl]
          refine go_at (blk := b_Reader_readSum_37) rfl ?_
          simp (disch := omega) only [b_Reader_readSum_37, be_1, be_49_1, List.getD_cons_zero, List.getD_cons_succ, List.set_cons_zero, List.set_cons_succ, List.length_cons, List.length_nil, pk_I, pk_A, pr_A, pi_I, st_s, st_n, if_true, if_false, eq_self, d_if, d_ju, d_re, d_ca, cat0, cat1, cat2, cat3, fr_z, fr_s, cc_I, cc_A, cc_N, Nat.reduceAdd, Nat.reduceLT, Nat.reduceLeDiff, Nat.reduceEqDiff, not_true, not_false_iff, z1_0, z1_1, Bool.and_self, Bool.true_and, Bool.and_true, nI_add, pk_mul, nI_clamp, decide_true, Nat.le_refl, bI_eq, bI_z1, nI_ltI, nI_leI, nI_eq, hni, x8]
          refine go_at (blk := b_Reader_readSum_46) rfl ?_
          simp (disch := omega) only [b_Reader_readSum_46, be_1, be_0, List.getD_cons_zero, List.getD_cons_succ, List.set_cons_zero, List.set_cons_succ, List.length_cons, List.length_nil, pk_I, pk_A, pr_A, pi_I, st_s, st_n, if_true, if_false, eq_self, d_if, d_ju, d_re, d_ca, cat0, cat1, cat2, cat3, fr_z, fr_s, cc_I, cc_A, cc_N, Nat.reduceAdd, Nat.reduceLT, Nat.reduceLeDiff, Nat.reduceEqDiff, not_true, not_false_iff, z1_0, z1_1, Bool.and_self, Bool.true_and, Bool.and_true, nI_add, pk_mul, nI_clamp, decide_true, Nat.le_refl, bI_eq, bI_z1, nI_ltI, nI_leI, nI_eq, hni, x8]
          refine go_at (blk := b_Reader_readSum_47) rfl ?_
          simp (disch := omega) only [b_Reader_readSum_47, be_7, be_6, be_57_0, kc_2, List.getD_cons_zero, List.getD_cons_succ, List.set_cons_zero, List.set_cons_succ, List.length_cons, List.length_nil, pk_I, pk_A, pr_A, pi_I, st_s, st_n, if_true, if_false, eq_self, d_if, d_ju, d_re, d_ca, cat0, cat1, cat2, cat3, fr_z, fr_s, cc_I, cc_A, cc_N, Nat.reduceAdd, Nat.reduceLT, Nat.reduceLeDiff, Nat.reduceEqDiff, not_true, not_false_iff, z1_0, z1_1, Bool.and_self, Bool.true_and, Bool.and_true, nI_add, pk_mul, nI_clamp, decide_true, Nat.le_refl, bI_eq, bI_z1, nI_ltI, nI_leI, nI_eq, hni, x8]
          refine k_take hEx hsx (fun t' ht => ?_) ?_
          · have e9 : x.2.1 = t' := by simpa using ht
            subst e9
            exact ⟨by omega, by omega⟩
          intro v1 f1 s1
          have hE1 := CE_2 hEx f1
          have c1 := LC_2 hq' x3 f1
          by_cases ht : x.2.1 < 400
          · rw [tk_1 ht] at s1
            refine go_at (blk := b_Reader_readSum_53) rfl ?_
            simp (disch := omega) only [b_Reader_readSum_53, be_6, be_4, be_57_2, kc_2, List.getD_cons_zero, List.getD_cons_succ, List.set_cons_zero, List.set_cons_succ, List.length_cons, List.length_nil, pk_I, pk_A, pr_A, pi_I, st_s, st_n, if_true, if_false, eq_self, d_if, d_ju, d_re, d_ca, cat0, cat1, cat2, cat3, fr_z, fr_s, cc_I, cc_A, cc_N, Nat.reduceAdd, Nat.reduceLT, Nat.reduceLeDiff, Nat.reduceEqDiff, not_true, not_false_iff, z1_0, z1_1, Bool.and_self, Bool.true_and, Bool.and_true, nI_add, pk_mul, nI_clamp, decide_true, Nat.le_refl, bI_eq, bI_z1, nI_ltI, nI_leI]
            refine hU v1 w _ E q (x.2.1 + 1) l p (eK E x.2.1 :: W) x.2.2.1 pre (sl + 1) hq' hE1 s1 c1 (by omega) (by omega) (by rw [opn_x (by omega)]; exact hoW) (Or.inr ⟨_, W, rfl, by omega⟩) ?_ ?_
            · intro v2 t2 C2 f2 s2 c2 l2 tt2 n2 y2
              refine go_at (blk := b_Reader_readSum_59) rfl ?_
              simp (disch := omega) only [b_Reader_readSum_59, be_6, be_4, be_1, be_57_2, kc_lw hq, List.getD_cons_zero, List.getD_cons_succ, List.set_cons_zero, List.set_cons_succ, List.length_cons, List.length_nil, pk_I, pk_A, pr_A, pi_I, st_s, st_n, if_true, if_false, eq_self, d_if, d_ju, d_re, d_ca, cat0, cat1, cat2, cat3, fr_z, fr_s, cc_I, cc_A, cc_N, Nat.reduceAdd, Nat.reduceLT, Nat.reduceLeDiff, Nat.reduceEqDiff, not_true, not_false_iff, z1_0, z1_1, Bool.and_self, Bool.true_and, Bool.and_true, nI_add, pk_mul, nI_clamp, decide_true, Nat.le_refl, bI_eq, bI_z1, nI_ltI, nI_leI]
              refine k_put hq' c2 (by have := s2.2.2.1; omega) ?_
              intro v3 f3 c3
              refine go_at (blk := b_Reader_readSum_66) rfl ?_
              simp (disch := omega) only [b_Reader_readSum_66, be_31I, be_10, be_51, List.getD_cons_zero, List.getD_cons_succ, List.set_cons_zero, List.set_cons_succ, List.length_cons, List.length_nil, pk_I, pk_A, pr_A, pi_I, st_s, st_n, if_true, if_false, eq_self, d_if, d_ju, d_re, d_ca, cat0, cat1, cat2, cat3, fr_z, fr_s, cc_I, cc_A, cc_N, Nat.reduceAdd, Nat.reduceLT, Nat.reduceLeDiff, Nat.reduceEqDiff, not_true, not_false_iff, z1_0, z1_1, Bool.and_self, Bool.true_and, Bool.and_true, nI_add, pk_mul, nI_clamp, decide_true, Nat.le_refl, bI_eq, bI_z1, nI_ltI, nI_leI]
              refine ih (v3, t2, C2 ++ [(3, nI 0)], .int _) ⟨FX_t x1 (FX_t (FX_2 f1) (FX_t f2 (FX_3 f3))), ?_, by rw [pre_1]; exact c3, by rw [pre_1, len_1]; dsimp only; omega, by dsimp only; omega, by dsimp only; omega, fun R hR => x7 R (X_s (st_pm (by omega) ht) ?_), rfl, n2⟩
              · exact CS_3 (s := (.inr t2, l, p)) hq' s2 f3
              · rw [ws_pop hW]
                refine y2 R (X_e (st_add (by omega) n2) ?_)
                rw [show opc (eK E x.2.1) = 3 by rw [h2]; rfl]
                exact hR
            · intro v2 k2 p2 f2 s2 l2 y2
              refine go_at (blk := b_Reader_readSum_59) rfl ?_
              simp (disch := omega) only [b_Reader_readSum_59, be_6, be_4, be_1, be_57_2, kc_lw hq, List.getD_cons_zero, List.getD_cons_succ, List.set_cons_zero, List.set_cons_succ, List.length_cons, List.length_nil, pk_I, pk_A, pr_A, pi_I, st_s, st_n, if_true, if_false, eq_self, d_if, d_ju, d_re, d_ca, cat0, cat1, cat2, cat3, fr_z, fr_s, cc_I, cc_A, cc_N, Nat.reduceAdd, Nat.reduceLT, Nat.reduceLeDiff, Nat.reduceEqDiff, not_true, not_false_iff, z1_0, z1_1, Bool.and_self, Bool.true_and, Bool.and_true, nI_add, pk_mul, nI_clamp, decide_true, Nat.le_refl, bI_eq, bI_z1, nI_ltI, nI_leI]
              refine k_putB hq' l2 ?_
              intro v3 y3 f3 l3
              refine go_at (blk := b_Reader_readSum_66) rfl ?_
              simp (disch := omega) only [b_Reader_readSum_66, be_31I, be_10, be_51, List.getD_cons_zero, List.getD_cons_succ, List.set_cons_zero, List.set_cons_succ, List.length_cons, List.length_nil, pk_I, pk_A, pr_A, pi_I, st_s, st_n, if_true, if_false, eq_self, d_if, d_ju, d_re, d_ca, cat0, cat1, cat2, cat3, fr_z, fr_s, cc_I, cc_A, cc_N, Nat.reduceAdd, Nat.reduceLT, Nat.reduceLeDiff, Nat.reduceEqDiff, not_true, not_false_iff, z1_0, z1_1, Bool.and_self, Bool.true_and, Bool.and_true, nI_add, pk_mul, nI_clamp, decide_true, Nat.le_refl, bI_eq, bI_z1, nI_ltI, nI_leI]
              exact k_sumBh hq' (CE_3 hq' (CE_X hq' hE1 f2) f3) (CS_3 (s := (.inl (k2, p2), l, p)) hq' s2 f3) l3 (fun v4 f4 s4 l4 => q1 v4 _ _ (FX_t x1 (FX_t (FX_2 f1) (FX_t f2 (FX_t (FX_3 f3) f4)))) s4 l4 (x7 _ (X_s (st_pm (by omega) ht) (by rw [ws_pop hW]; exact y2))))
          · rw [tk_2 ht] at s1
            refine go_at (blk := b_Reader_readSum_53) rfl ?_
            simp (disch := omega) only [b_Reader_readSum_53, be_6, be_4, be_57_2, kc_2, List.getD_cons_zero, List.getD_cons_succ, List.set_cons_zero, List.set_cons_succ, List.length_cons, List.length_nil, pk_I, pk_A, pr_A, pi_I, st_s, st_n, if_true, if_false, eq_self, d_if, d_ju, d_re, d_ca, cat0, cat1, cat2, cat3, fr_z, fr_s, cc_I, cc_A, cc_N, Nat.reduceAdd, Nat.reduceLT, Nat.reduceLeDiff, Nat.reduceEqDiff, not_true, not_false_iff, z1_0, z1_1, Bool.and_self, Bool.true_and, Bool.and_true, nI_add, pk_mul, nI_clamp, decide_true, Nat.le_refl, bI_eq, bI_z1, nI_ltI, nI_leI]
            refine k_prodB hq' hE1 s1 (LC_L c1 (by omega)) ?_
            intro v2 f2 s2 l2
            refine go_at (blk := b_Reader_readSum_59) rfl ?_
            simp (disch := omega) only [b_Reader_readSum_59, be_6, be_4, be_1, be_57_2, kc_lw hq, List.getD_cons_zero, List.getD_cons_succ, List.set_cons_zero, List.set_cons_succ, List.length_cons, List.length_nil, pk_I, pk_A, pr_A, pi_I, st_s, st_n, if_true, if_false, eq_self, d_if, d_ju, d_re, d_ca, cat0, cat1, cat2, cat3, fr_z, fr_s, cc_I, cc_A, cc_N, Nat.reduceAdd, Nat.reduceLT, Nat.reduceLeDiff, Nat.reduceEqDiff, not_true, not_false_iff, z1_0, z1_1, Bool.and_self, Bool.true_and, Bool.and_true, nI_add, pk_mul, nI_clamp, decide_true, Nat.le_refl, bI_eq, bI_z1, nI_ltI, nI_leI]
            refine k_putB hq' l2 ?_
            intro v3 y3 f3 l3
            refine go_at (blk := b_Reader_readSum_66) rfl ?_
            simp (disch := omega) only [b_Reader_readSum_66, be_31I, be_10, be_51, List.getD_cons_zero, List.getD_cons_succ, List.set_cons_zero, List.set_cons_succ, List.length_cons, List.length_nil, pk_I, pk_A, pr_A, pi_I, st_s, st_n, if_true, if_false, eq_self, d_if, d_ju, d_re, d_ca, cat0, cat1, cat2, cat3, fr_z, fr_s, cc_I, cc_A, cc_N, Nat.reduceAdd, Nat.reduceLT, Nat.reduceLeDiff, Nat.reduceEqDiff, not_true, not_false_iff, z1_0, z1_1, Bool.and_self, Bool.true_and, Bool.and_true, nI_add, pk_mul, nI_clamp, decide_true, Nat.le_refl, bI_eq, bI_z1, nI_ltI, nI_leI]
            exact k_sumBh hq' (CE_3 hq' (CE_X hq' hE1 f2) f3) (CS_3 hq' s2 f3) l3 (fun v4 f4 s4 l4 => q1 v4 _ _ (FX_t x1 (FX_t (FX_2 f1) (FX_t f2 (FX_t (FX_3 f3) f4)))) s4 l4 (x7 _ (X_d (st_pm4 (by omega) ht))))
        · have hy1' : cK (eK E x.2.1) ≠ 43 := ck_ne hE.1 (j := 8) (by omega) rfl h1
          have hy2' : cK (eK E x.2.1) ≠ 45 := ck_ne hE.1 (j := 9) (by omega) rfl h2
          have hc9' := ck_lt9 _ (hE.1.2.2.2.1 x.2.1).1
          obtain ⟨c9, hcc⟩ : ∃ c9, c9 = cK (eK E x.2.1) := ⟨_, rfl⟩
          rw [← hcc] at hy1' hy2' hc9'
          have hy1 : ¬ c9 = 43 := hy1'
          have hy2 : ¬ c9 = 45 := hy2'
          refine go_at (blk := b_Reader_readSum_8) rfl ?_
          simp (disch := omega) only [b_Reader_readSum_8, be_4, be_1, be_49_3, List.getD_cons_zero, List.getD_cons_succ, List.set_cons_zero, List.set_cons_succ, List.length_cons, List.length_nil, pk_I, pk_A, pr_A, pi_I, st_s, st_n, if_true, if_false, eq_self, d_if, d_ju, d_re, d_ca, cat0, cat1, cat2, cat3, fr_z, fr_s, cc_I, cc_A, cc_N, Nat.reduceAdd, Nat.reduceLT, Nat.reduceLeDiff, Nat.reduceEqDiff, not_true, not_false_iff, z1_0, z1_1, Bool.and_self, Bool.true_and, Bool.and_true, nI_add, pk_mul, nI_clamp, decide_true, Nat.le_refl, bI_eq, bI_z1, nI_ltI, nI_leI, nI_eq, hni, hy1, hy2]
          refine go_at (blk := b_Reader_readSum_15) rfl ?_
          simp (disch := omega) only [b_Reader_readSum_15, be_6, be_57_0, kc_2, List.getD_cons_zero, List.getD_cons_succ, List.set_cons_zero, List.set_cons_succ, List.length_cons, List.length_nil, pk_I, pk_A, pr_A, pi_I, st_s, st_n, if_true, if_false, eq_self, d_if, d_ju, d_re, d_ca, cat0, cat1, cat2, cat3, fr_z, fr_s, cc_I, cc_A, cc_N, Nat.reduceAdd, Nat.reduceLT, Nat.reduceLeDiff, Nat.reduceEqDiff, not_true, not_false_iff, z1_0, z1_1, Bool.and_self, Bool.true_and, Bool.and_true, nI_add, pk_mul, nI_clamp, decide_true, Nat.le_refl, bI_eq, bI_z1, nI_ltI, nI_leI, nI_eq, hni, hy1, hy2]
          refine k_kind hEx hsx ?_
          rw [show kdR E (.inr x.2.1, l, p) = eK E x.2.1 from rfl, ← hcc]
          refine go_at (blk := b_Reader_readSum_19) rfl ?_
          simp (disch := omega) only [b_Reader_readSum_19, be_1, be_49_0, List.getD_cons_zero, List.getD_cons_succ, List.set_cons_zero, List.set_cons_succ, List.length_cons, List.length_nil, pk_I, pk_A, pr_A, pi_I, st_s, st_n, if_true, if_false, eq_self, d_if, d_ju, d_re, d_ca, cat0, cat1, cat2, cat3, fr_z, fr_s, cc_I, cc_A, cc_N, Nat.reduceAdd, Nat.reduceLT, Nat.reduceLeDiff, Nat.reduceEqDiff, not_true, not_false_iff, z1_0, z1_1, Bool.and_self, Bool.true_and, Bool.and_true, nI_add, pk_mul, nI_clamp, decide_true, Nat.le_refl, bI_eq, bI_z1, nI_ltI, nI_leI, nI_eq, hni, hy1, hy2]
          refine go_at (blk := b_Reader_readSum_24) rfl ?_
          simp (disch := omega) only [b_Reader_readSum_24, be_6, be_57_0, kc_2, List.getD_cons_zero, List.getD_cons_succ, List.set_cons_zero, List.set_cons_succ, List.length_cons, List.length_nil, pk_I, pk_A, pr_A, pi_I, st_s, st_n, if_true, if_false, eq_self, d_if, d_ju, d_re, d_ca, cat0, cat1, cat2, cat3, fr_z, fr_s, cc_I, cc_A, cc_N, Nat.reduceAdd, Nat.reduceLT, Nat.reduceLeDiff, Nat.reduceEqDiff, not_true, not_false_iff, z1_0, z1_1, Bool.and_self, Bool.true_and, Bool.and_true, nI_add, pk_mul, nI_clamp, decide_true, Nat.le_refl, bI_eq, bI_z1, nI_ltI, nI_leI, nI_eq, hni, hy1, hy2]
          refine k_kind hEx hsx ?_
          rw [show kdR E (.inr x.2.1, l, p) = eK E x.2.1 from rfl, ← hcc]
          refine go_at (blk := b_Reader_readSum_28) rfl ?_
          simp (disch := omega) only [b_Reader_readSum_28, be_1, be_49_1, List.getD_cons_zero, List.getD_cons_succ, List.set_cons_zero, List.set_cons_succ, List.length_cons, List.length_nil, pk_I, pk_A, pr_A, pi_I, st_s, st_n, if_true, if_false, eq_self, d_if, d_ju, d_re, d_ca, cat0, cat1, cat2, cat3, fr_z, fr_s, cc_I, cc_A, cc_N, Nat.reduceAdd, Nat.reduceLT, Nat.reduceLeDiff, Nat.reduceEqDiff, not_true, not_false_iff, z1_0, z1_1, Bool.and_self, Bool.true_and, Bool.and_true, nI_add, pk_mul, nI_clamp, decide_true, Nat.le_refl, bI_eq, bI_z1, nI_ltI, nI_leI, nI_eq, hni, hy1, hy2]
          refine go_at (blk := b_Reader_readSum_73) rfl ?_
          simp (disch := omega) only [b_Reader_readSum_73, be_56, List.getD_cons_zero, List.getD_cons_succ, List.set_cons_zero, List.set_cons_succ, List.length_cons, List.length_nil, pk_I, pk_A, pr_A, pi_I, st_s, st_n, if_true, if_false, eq_self, d_if, d_ju, d_re, d_ca, cat0, cat1, cat2, cat3, fr_z, fr_s, cc_I, cc_A, cc_N, Nat.reduceAdd, Nat.reduceLT, Nat.reduceLeDiff, Nat.reduceEqDiff, not_true, not_false_iff, z1_0, z1_1, Bool.and_self, Bool.true_and, Bool.and_true, nI_add, pk_mul, nI_clamp, decide_true, Nat.le_refl, bI_eq, bI_z1, nI_ltI, nI_leI, nI_eq, hni, hy1, hy2]
          exact q0 x.1 x.2.1 x.2.2.1 x1 x2 x3 x4 x5 (by unfold nxS opK; have := x9; unfold nxP at this; omega) x7
    · intro x ⟨x1, x2, x3, x4, x5, x6, x7, x8, x9⟩
      try dsimp only at *
      have := x2.2.2.1
      exfalso
      omega
  · intro v1 k1 p1 f1 s1 l1 y1
    refine go_at (blk := b_Reader_readSum_6) rfl ?_
    simp (disch := omega) only [b_Reader_readSum_6, be_1, be_7, be_0, List.getD_cons_zero, List.getD_cons_succ, List.set_cons_zero, List.set_cons_succ, List.length_cons, List.length_nil, pk_I, pk_A, pr_A, pi_I, st_s, st_n, if_true, if_false, eq_self, d_if, d_ju, d_re, d_ca, cat0, cat1, cat2, cat3, fr_z, fr_s, cc_I, cc_A, cc_N, Nat.reduceAdd, Nat.reduceLT, Nat.reduceLeDiff, Nat.reduceEqDiff, not_true, not_false_iff, z1_0, z1_1, Bool.and_self, Bool.true_and, Bool.and_true, nI_add, pk_mul, nI_clamp, decide_true, Nat.le_refl, bI_eq, bI_z1]
    exact k_sumBh (l := l) (p := p) hq' (CE_X hq' hE f1) (show CS E v1 (.inl (k1, p1), l, p) from s1) l1 (fun v2 f2 s2 l2 => q1 v2 _ _ (FX_t f1 f2) s2 l2 y1)
theorem sum_all : ∀ n, n ≤ 6 → ∀ d, SUMX (d + 7 + 3 * n) (6 - n) := by
  intro n
  induction n with
  | zero =>
    intro _ d
    have h1 := unit_of (d := d) (o := 6) (by omega) (fun h => absurd h (by omega))
    exact sum_of (d := d) (by omega) (prod_of (d := d) (by omega) h1)
  | succ n ih =>
    intro hn d
    have h0 : SUMX ((d + 3 * (n + 1)) + 4) ((6 - (n + 1)) + 1) := by
      have h := ih (by omega) d
      rw [show (d + 3 * (n + 1)) + 4 = d + 7 + 3 * n by omega, show (6 - (n + 1)) + 1 = 6 - n by omega]
      exact h
    have h1 := unit_of (d := d + 3 * (n + 1)) (o := 6 - (n + 1)) (by omega) (fun _ => h0)
    have h2 := sum_of (d := d + 3 * (n + 1)) (by omega) (prod_of (d := d + 3 * (n + 1)) (by omega) h1)
    rw [show d + 7 + 3 * (n + 1) = d + 3 * (n + 1) + 7 by omega]
    exact h2
theorem sum_0 {d : Nat} : SUMX (d + 25) 0 := sum_all 6 (by omega) d
