/-! laid by wip/whole/g8.py: the class: readLaw, in good order -/
theorem bT_g {r : RT} {t : Nat} {k : Nat → Prop} {bad : Nat × Nat → Prop} (h : r = .inr t) (hk : k t) : bT r k bad := by
  rw [h]
  exact hk
theorem bT_b {r : RT} {f : Nat × Nat} {k : Nat → Prop} {bad : Nat × Nat → Prop} (h : r = .inl f) (hb : bad f) : bT r k bad := by
  rw [h]
  exact hb
theorem bX_g {E : ENV} {t t' : Nat} {C : CL} {k : Nat → CL → Prop} {bad : Nat × Nat → Prop} (h : XX E (false, t, [], []) (.inr (t', C))) (hk : k t' C) : bX E t k bad := Or.inr ⟨t', C, h, hk⟩
theorem bX_b {E : ENV} {t : Nat} {f : Nat × Nat} {k : Nat → CL → Prop} {bad : Nat × Nat → Prop} (h : XX E (false, t, [], []) (.inl f)) (hb : bad f) : bX E t k bad := Or.inl ⟨f, h, hb⟩
theorem lw_no {E : ENV} {n t : Nat} {R : RL} (h : ¬ eK E t = 26) (hx : bX E t (fun t' D => R = .inr (t', [], D)) (fun f => R = .inl f)) : LWR E n t R := by
  cases n with
  | zero =>
    unfold LWR
    rw [if_neg h]
    exact hx
  | succ n =>
    unfold LWR
    rw [if_neg h]
    exact hx
theorem lw_0 {E : ENV} {t : Nat} (h : eK E t = 26) : LWR E 0 t (.inl (2, eP E t)) := by
  unfold LWR
  rw [if_pos h]
theorem lw_if {E : ENV} {n t : Nat} {R : RL} (h : eK E t = 26) (hx : BR1 E t (fun t' b => ∃ R', LWR E n t' R' ∧ R = addB b R') (fun f => R = .inl f)) : LWR E (n + 1) t R := by
  unfold LWR
  rw [if_pos h]
  exact hx
theorem tk_lt {E : ENV} {t t' : Nat} (h : tkR E t = .inr t') : t' = t + 1 ∧ t < 400 := by
  unfold tkR at h
  split at h
  · cases h
    omega
  · cases h
theorem wn_lt {E : ENV} {j t t' : Nat} (h : wnt E j t = .inr t') : t' = t + 1 ∧ t < 400 ∧ eK E t = j := by
  unfold wnt at h
  split at h
  · rename_i hk
    exact ⟨(tk_lt h).1, (tk_lt h).2, hk⟩
  · cases h
set_option maxHeartbeats 2000000 in
theorem k_readLaw {d : Nat} {v : Nat → Nat → Int32} {w : Nat → Nat → Int64} {Q : Option Value → am_H → Prop} {E : ENV} {q t l p : Nat} (hq' : LD q) (hE : CE E v w) (hG : CG E v t l p) (ht1 : 1 ≤ t) (q0 : ∀ v' t' bs D, FX q v v' → CG E v' t' l p → LC v' q (lcode 0 bs D) → (lcode 0 bs D).length + 2 ≤ t' → t < t' → LAWR E t (.inr (t', bs, D)) → Q none (428, 26053, KD, RF, v', w)) (q1 : ∀ v' k p', FX q v v' → CB v' k p' → LL v' q → LAWR E t (.inl (k, p')) → Q none (428, 26053, KD, RF, v', w)) : am_Ca (d + 26) M_Reader_readLaw [.ref 2, .ref q] (428, 26053, KD, RF, v, w) Q := by
  have hq := LD_W hq'
  refine ca_in (k := k_Reader_readLaw) (nL := 4) rfl (Nat.le_of_ble_eq_true rfl) ?_
  show am_Go am_X0 _ k_Reader_readLaw 0 ([.ref 2, .ref q, .null, .null], [], _) _
  refine go_at (blk := b_Reader_readLaw_0) rfl ?_
  simp (disch := omega) only [b_Reader_readLaw_0, be_6, be_57_0, kc_lw hq, List.getD_cons_zero, List.getD_cons_succ, List.set_cons_zero, List.set_cons_succ, List.length_cons, List.length_nil, pk_I, pk_A, pr_A, pi_I, st_s, st_n, if_true, if_false, eq_self, d_if, d_ju, d_re, d_ca, cat0, cat1, cat2, cat3, fr_z, fr_s, cc_I, cc_A, cc_N, Nat.reduceAdd, Nat.reduceLT, Nat.reduceLeDiff, Nat.reduceEqDiff, not_true, not_false_iff, z1_0, z1_1, Bool.and_self, Bool.true_and, Bool.and_true, nI_add, pk_mul, nI_clamp, decide_true, Nat.le_refl, bI_eq, bI_z1]
  refine k_lclear hq' ?_
  intro v1 f1 c1
  have hs1 : CS E v1 (.inr t, l, p) := CS_3 hq' (show CS E v (.inr t, l, p) from hG) f1
  refine go_at (blk := b_Reader_readLaw_4) rfl ?_
  simp (disch := omega) only [b_Reader_readLaw_4, be_6, be_1, be_57_1, kc_2, List.getD_cons_zero, List.getD_cons_succ, List.set_cons_zero, List.set_cons_succ, List.length_cons, List.length_nil, pk_I, pk_A, pr_A, pi_I, st_s, st_n, if_true, if_false, eq_self, d_if, d_ju, d_re, d_ca, cat0, cat1, cat2, cat3, fr_z, fr_s, cc_I, cc_A, cc_N, Nat.reduceAdd, Nat.reduceLT, Nat.reduceLeDiff, Nat.reduceEqDiff, not_true, not_false_iff, z1_0, z1_1, Bool.and_self, Bool.true_and, Bool.and_true, nI_add, pk_mul, nI_clamp, decide_true, Nat.le_refl, bI_eq, bI_z1]
  refine k_want (j := 5) (CE_3 hq' hE f1) hs1 (by omega) rfl (by omega) (by omega) ?_
  intro v2 f2 s2
  rw [show wantS E 5 (.inr t, l, p) = (wnt E 5 t, l, p) from rfl] at s2
  refine go_at (blk := b_Reader_readLaw_10) rfl ?_
  simp (disch := omega) only [b_Reader_readLaw_10, be_1, be_7, be_0, List.getD_cons_zero, List.getD_cons_succ, List.set_cons_zero, List.set_cons_succ, List.length_cons, List.length_nil, pk_I, pk_A, pr_A, pi_I, st_s, st_n, if_true, if_false, eq_self, d_if, d_ju, d_re, d_ca, cat0, cat1, cat2, cat3, fr_z, fr_s, cc_I, cc_A, cc_N, Nat.reduceAdd, Nat.reduceLT, Nat.reduceLeDiff, Nat.reduceEqDiff, not_true, not_false_iff, z1_0, z1_1, Bool.and_self, Bool.true_and, Bool.and_true, nI_add, pk_mul, nI_clamp, decide_true, Nat.le_refl, bI_eq, bI_z1]
  cases hw : wnt E 5 t with
  | inl f =>
    rw [hw] at s2
    exact lawB12 (i := 0) hq' (CE_2 (CE_3 hq' hE f1) f2) s2 (LL_2 hq' (LC_L c1 (Nat.zero_le _)) f2) (by omega) rfl (fun v3 f3 s3 l3 => q1 v3 _ _ (FX_t (FX_3 f1) (FX_t (FX_2 f2) f3)) s3 l3 (bT_b hw rfl))
  | inr t1 =>
    rw [hw] at s2
    obtain ⟨rfl, ht4, _⟩ := wn_lt hw
    refine go_loopA (α := (Nat → Nat → Int32) × Nat × List BRD × Value) (fun i x => ([.ref 2, .ref q, .int (nI i), x.2.2.2], [], (428, 26053, KD, RF, x.1, w))) (fun i x => FX q v x.1 ∧ CG E x.1 x.2.1 l p ∧ LC x.1 q (lcode 0 x.2.2.1 []) ∧ brs x.2.2.1 + 2 ≤ x.2.1 ∧ (∀ R, LWR E (4 - i) x.2.1 R → LWR E 4 (t + 1) (addBs x.2.2.1 R)) ∧ am_cc x.2.2.2 = true ∧ t < x.2.1) (4) ?_ ?_ (v2, t + 1, [], .null) ⟨FX_t (FX_3 f1) (FX_2 f2), s2, LC_2 hq' c1 f2, (show 0 + 2 ≤ t + 1 by omega), fun R hR => by rw [ab_0]; exact hR, rfl, (show t < t + 1 by omega)⟩
    · intro i x hi ⟨x1, x2, x3, x4, x5, x6, x7⟩ ih
      try dsimp only at *
      have hEx : CE E x.1 w := CE_X hq' hE x1
      have hsx : CS E x.1 (.inr x.2.1, l, p) := x2
      have gtx := x2.2.2.1
      have gL := hE.1.1
      have hni4 : ¬ 4 < i := by omega
      have hi4 : ¬ i = 4 := by omega
      by_cases hIF : eK E x.2.1 = 26
      · refine go_at (blk := b_Reader_readLaw_12) rfl ?_
        simp (disch := omega) only [b_Reader_readLaw_12, be_4, be_1, be_49_4, List.getD_cons_zero, List.getD_cons_succ, List.set_cons_zero, List.set_cons_succ, List.length_cons, List.length_nil, pk_I, pk_A, pr_A, pi_I, st_s, st_n, if_true, if_false, eq_self, d_if, d_ju, d_re, d_ca, cat0, cat1, cat2, cat3, fr_z, fr_s, cc_I, cc_A, cc_N, Nat.reduceAdd, Nat.reduceLT, Nat.reduceLeDiff, Nat.reduceEqDiff, not_true, not_false_iff, z1_0, z1_1, Bool.and_self, Bool.true_and, Bool.and_true, nI_add, pk_mul, nI_clamp, decide_true, Nat.le_refl, bI_eq, bI_z1, nI_ltI, nI_leI, nI_eq, hni4, hi4, x6]
        refine go_at (blk := b_Reader_readLaw_17) rfl ?_
        simp (disch := omega) only [b_Reader_readLaw_17, be_6, be_57_0, kc_2, List.getD_cons_zero, List.getD_cons_succ, List.set_cons_zero, List.set_cons_succ, List.length_cons, List.length_nil, pk_I, pk_A, pr_A, pi_I, st_s, st_n, if_true, if_false, eq_self, d_if, d_ju, d_re, d_ca, cat0, cat1, cat2, cat3, fr_z, fr_s, cc_I, cc_A, cc_N, Nat.reduceAdd, Nat.reduceLT, Nat.reduceLeDiff, Nat.reduceEqDiff, not_true, not_false_iff, z1_0, z1_1, Bool.and_self, Bool.true_and, Bool.and_true, nI_add, pk_mul, nI_clamp, decide_true, Nat.le_refl, bI_eq, bI_z1, nI_ltI, nI_leI, nI_eq, hni4, hi4, x6]
        refine k_kind hEx hsx ?_
        rw [show kdR E (.inr x.2.1, l, p) = eK E x.2.1 from rfl, hIF, show cK 26 = 262 from rfl]
        refine go_at (blk := b_Reader_readLaw_21) rfl ?_
        simp (disch := omega) only [b_Reader_readLaw_21, be_1, be_49_1, List.getD_cons_zero, List.getD_cons_succ, List.set_cons_zero, List.set_cons_succ, List.length_cons, List.length_nil, pk_I, pk_A, pr_A, pi_I, st_s, st_n, if_true, if_false, eq_self, d_if, d_ju, d_re, d_ca, cat0, cat1, cat2, cat3, fr_z, fr_s, cc_I, cc_A, cc_N, Nat.reduceAdd, Nat.reduceLT, Nat.reduceLeDiff, Nat.reduceEqDiff, not_true, not_false_iff, z1_0, z1_1, Bool.and_self, Bool.true_and, Bool.and_true, nI_add, pk_mul, nI_clamp, decide_true, Nat.le_refl, bI_eq, bI_z1, nI_ltI, nI_leI, nI_eq, hni4, hi4, x6]
        refine go_at (blk := b_Reader_readLaw_27) rfl ?_
        simp (disch := omega) only [b_Reader_readLaw_27, be_4, be_1, be_49_1, List.getD_cons_zero, List.getD_cons_succ, List.set_cons_zero, List.set_cons_succ, List.length_cons, List.length_nil, pk_I, pk_A, pr_A, pi_I, st_s, st_n, if_true, if_false, eq_self, d_if, d_ju, d_re, d_ca, cat0, cat1, cat2, cat3, fr_z, fr_s, cc_I, cc_A, cc_N, Nat.reduceAdd, Nat.reduceLT, Nat.reduceLeDiff, Nat.reduceEqDiff, not_true, not_false_iff, z1_0, z1_1, Bool.and_self, Bool.true_and, Bool.and_true, nI_add, pk_mul, nI_clamp, decide_true, Nat.le_refl, bI_eq, bI_z1, nI_ltI, nI_leI, nI_eq, hni4, hi4, x6]
        refine go_at (blk := b_Reader_readLaw_38) rfl ?_
        simp (disch := omega) only [b_Reader_readLaw_38, be_6, be_57_0, kc_2, List.getD_cons_zero, List.getD_cons_succ, List.set_cons_zero, List.set_cons_succ, List.length_cons, List.length_nil, pk_I, pk_A, pr_A, pi_I, st_s, st_n, if_true, if_false, eq_self, d_if, d_ju, d_re, d_ca, cat0, cat1, cat2, cat3, fr_z, fr_s, cc_I, cc_A, cc_N, Nat.reduceAdd, Nat.reduceLT, Nat.reduceLeDiff, Nat.reduceEqDiff, not_true, not_false_iff, z1_0, z1_1, Bool.and_self, Bool.true_and, Bool.and_true, nI_add, pk_mul, nI_clamp, decide_true, Nat.le_refl, bI_eq, bI_z1, nI_ltI, nI_leI, nI_eq, hni4, hi4, x6]
        refine k_take hEx hsx (fun t' ht => ?_) ?_
        · have e9 : x.2.1 = t' := by simpa using ht
          subst e9
          exact ⟨by omega, by omega⟩
        intro v1 f1 s1
        have c1 := LC_2 hq' x3 f1
        rw [show takeS E (.inr x.2.1, l, p) = (tkR E x.2.1, l, p) from rfl] at s1
        cases h0 : tkR E x.2.1 with
        | inl f =>
          rw [h0] at s1
          exact lawB42 (l := l) (p := p) hq' (CE_X hq' hE (FX_t x1 (FX_2 f1))) s1 (LC_L c1 (by rw [lc_len]; omega)) (by omega) x6 (by omega) (fun v9 f9 s9 l9 => q1 v9 _ _ (FX_t (FX_t x1 (FX_2 f1)) f9) s9 l9 (bT_g hw (x5 (.inl _) (by rw [show 4 - i = (4 - (i + 1)) + 1 by omega]; exact lw_if hIF (bT_b h0 rfl)))))
        | inr t1 =>
          rw [h0] at s1
          obtain ⟨rfl, ht0⟩ := tk_lt h0
          refine go_at (blk := b_Reader_readLaw_42) rfl ?_
          simp (disch := omega) only [b_Reader_readLaw_42, be_6, be_1, be_57_2, kc_2, List.getD_cons_zero, List.getD_cons_succ, List.set_cons_zero, List.set_cons_succ, List.length_cons, List.length_nil, pk_I, pk_A, pr_A, pi_I, st_s, st_n, if_true, if_false, eq_self, d_if, d_ju, d_re, d_ca, cat0, cat1, cat2, cat3, fr_z, fr_s, cc_I, cc_A, cc_N, Nat.reduceAdd, Nat.reduceLT, Nat.reduceLeDiff, Nat.reduceEqDiff, not_true, not_false_iff, z1_0, z1_1, Bool.and_self, Bool.true_and, Bool.and_true, nI_add, pk_mul, nI_clamp, decide_true, Nat.le_refl, bI_eq, bI_z1, nI_ltI, nI_leI, nI_eq]
          refine k_sum0 (pre := (lcode 0 x.2.2.1 [])) hq' (CE_X hq' hE (FX_t x1 (FX_2 f1))) s1 c1 (by rw [lc_len]; omega) ?_ ?_
          · intro v2 t2 A f2 s2 c2 l2 tt2 xA
            refine go_at (blk := b_Reader_readLaw_48) rfl ?_
            simp (disch := omega) only [b_Reader_readLaw_48, be_6, be_1, be_57_1, kc_2, List.getD_cons_zero, List.getD_cons_succ, List.set_cons_zero, List.set_cons_succ, List.length_cons, List.length_nil, pk_I, pk_A, pr_A, pi_I, st_s, st_n, if_true, if_false, eq_self, d_if, d_ju, d_re, d_ca, cat0, cat1, cat2, cat3, fr_z, fr_s, cc_I, cc_A, cc_N, Nat.reduceAdd, Nat.reduceLT, Nat.reduceLeDiff, Nat.reduceEqDiff, not_true, not_false_iff, z1_0, z1_1, Bool.and_self, Bool.true_and, Bool.and_true, nI_add, pk_mul, nI_clamp, decide_true, Nat.le_refl, bI_eq, bI_z1, nI_ltI, nI_leI, nI_eq]
            refine k_want (j := 13) (CE_X hq' hE (FX_t x1 (FX_t (FX_2 f1) f2))) (s := (.inr t2, l, p)) s2 (by omega) rfl (by omega) (by omega) ?_
            intro v3 f3 s3
            have c3 := LC_2 hq' c2 f3
            rw [show wantS E 13 (.inr t2, l, p) = (wnt E 13 t2, l, p) from rfl] at s3
            cases h1 : wnt E 13 t2 with
            | inl f =>
              rw [h1] at s3
              exact lawB54 (l := l) (p := p) hq' (CE_X hq' hE (FX_t x1 (FX_t (FX_2 f1) (FX_t f2 (FX_2 f3))))) s3 (LC_L c3 (by have := s2.2.2.1; omega)) (by omega) x6 (by omega) (fun v9 f9 s9 l9 => q1 v9 _ _ (FX_t (FX_t x1 (FX_t (FX_2 f1) (FX_t f2 (FX_2 f3)))) f9) s9 l9 (bT_g hw (x5 (.inl _) (by rw [show 4 - i = (4 - (i + 1)) + 1 by omega]; exact lw_if hIF (bT_g h0 (bX_g xA (bT_b h1 rfl)))))))
            | inr t3 =>
              rw [h1] at s3
              obtain ⟨rfl, h14, _⟩ := wn_lt h1
              refine go_at (blk := b_Reader_readLaw_54) rfl ?_
              simp (disch := omega) only [b_Reader_readLaw_54, be_6, be_1, be_57_2, kc_2, List.getD_cons_zero, List.getD_cons_succ, List.set_cons_zero, List.set_cons_succ, List.length_cons, List.length_nil, pk_I, pk_A, pr_A, pi_I, st_s, st_n, if_true, if_false, eq_self, d_if, d_ju, d_re, d_ca, cat0, cat1, cat2, cat3, fr_z, fr_s, cc_I, cc_A, cc_N, Nat.reduceAdd, Nat.reduceLT, Nat.reduceLeDiff, Nat.reduceEqDiff, not_true, not_false_iff, z1_0, z1_1, Bool.and_self, Bool.true_and, Bool.and_true, nI_add, pk_mul, nI_clamp, decide_true, Nat.le_refl, bI_eq, bI_z1, nI_ltI, nI_leI, nI_eq]
              refine k_sum0 (pre := (lcode 0 x.2.2.1 []) ++ A) hq' (CE_X hq' hE (FX_t x1 (FX_t (FX_2 f1) (FX_t f2 (FX_2 f3))))) s3 c3 (by skip; omega) ?_ ?_
              · intro v4 t4 B f4 s4 c4 l4 tt4 xB
                refine go_at (blk := b_Reader_readLaw_60) rfl ?_
                simp (disch := omega) only [b_Reader_readLaw_60, be_6, be_1, be_57_2, kc_lw hq, List.getD_cons_zero, List.getD_cons_succ, List.set_cons_zero, List.set_cons_succ, List.length_cons, List.length_nil, pk_I, pk_A, pr_A, pi_I, st_s, st_n, if_true, if_false, eq_self, d_if, d_ju, d_re, d_ca, cat0, cat1, cat2, cat3, fr_z, fr_s, cc_I, cc_A, cc_N, Nat.reduceAdd, Nat.reduceLT, Nat.reduceLeDiff, Nat.reduceEqDiff, not_true, not_false_iff, z1_0, z1_1, Bool.and_self, Bool.true_and, Bool.and_true, nI_add, pk_mul, nI_clamp, decide_true, Nat.le_refl, bI_eq, bI_z1, nI_ltI, nI_leI, nI_eq, x6]
                refine k_put hq' c4 (by have := s4.2.2.1; omega) ?_
                intro v5 f5 c5
                have s5 := CS_3 (s := (.inr t4, l, p)) hq' s4 f5
                refine go_at (blk := b_Reader_readLaw_67) rfl ?_
                simp (disch := omega) only [b_Reader_readLaw_67, be_7, be_6, be_1, be_57_1, kc_2, List.getD_cons_zero, List.getD_cons_succ, List.set_cons_zero, List.set_cons_succ, List.length_cons, List.length_nil, pk_I, pk_A, pr_A, pi_I, st_s, st_n, if_true, if_false, eq_self, d_if, d_ju, d_re, d_ca, cat0, cat1, cat2, cat3, fr_z, fr_s, cc_I, cc_A, cc_N, Nat.reduceAdd, Nat.reduceLT, Nat.reduceLeDiff, Nat.reduceEqDiff, not_true, not_false_iff, z1_0, z1_1, Bool.and_self, Bool.true_and, Bool.and_true, nI_add, pk_mul, nI_clamp, decide_true, Nat.le_refl, bI_eq, bI_z1, nI_ltI, nI_leI, nI_eq, x6]
                refine k_want (j := 27) (CE_X hq' hE (FX_t x1 (FX_t (FX_2 f1) (FX_t f2 (FX_t (FX_2 f3) (FX_t f4 (FX_3 f5))))))) (s := (.inr t4, l, p)) s5 (by omega) rfl (by omega) (by omega) ?_
                intro v6 f6 s6
                have c6 := LC_2 hq' c5 f6
                rw [show wantS E 27 (.inr t4, l, p) = (wnt E 27 t4, l, p) from rfl] at s6
                cases h2 : wnt E 27 t4 with
                | inl f =>
                  rw [h2] at s6
                  exact lawB75 (l := l) (p := p) hq' (CE_X hq' hE (FX_t x1 (FX_t (FX_2 f1) (FX_t f2 (FX_t (FX_2 f3) (FX_t f4 (FX_t (FX_3 f5) (FX_2 f6)))))))) s6 (LC_L c6 (by rw [len_1]; have := s4.2.2.1; omega)) (by omega) rfl (by omega) ⟨_, rfl⟩ (fun v9 f9 s9 l9 => q1 v9 _ _ (FX_t (FX_t x1 (FX_t (FX_2 f1) (FX_t f2 (FX_t (FX_2 f3) (FX_t f4 (FX_t (FX_3 f5) (FX_2 f6))))))) f9) s9 l9 (bT_g hw (x5 (.inl _) (by rw [show 4 - i = (4 - (i + 1)) + 1 by omega]; exact lw_if hIF (bT_g h0 (bX_g xA (bT_g h1 (bX_g xB (bT_b h2 rfl)))))))))
                | inr t6 =>
                  rw [h2] at s6
                  obtain ⟨rfl, h24, _⟩ := wn_lt h2
                  refine go_at (blk := b_Reader_readLaw_75) rfl ?_
                  simp (disch := omega) only [b_Reader_readLaw_75, be_6, be_1, be_57_2, kc_2, List.getD_cons_zero, List.getD_cons_succ, List.set_cons_zero, List.set_cons_succ, List.length_cons, List.length_nil, pk_I, pk_A, pr_A, pi_I, st_s, st_n, if_true, if_false, eq_self, d_if, d_ju, d_re, d_ca, cat0, cat1, cat2, cat3, fr_z, fr_s, cc_I, cc_A, cc_N, Nat.reduceAdd, Nat.reduceLT, Nat.reduceLeDiff, Nat.reduceEqDiff, not_true, not_false_iff, z1_0, z1_1, Bool.and_self, Bool.true_and, Bool.and_true, nI_add, pk_mul, nI_clamp, decide_true, Nat.le_refl, bI_eq, bI_z1, nI_ltI, nI_leI, nI_eq]
                  refine k_sum0 (pre := (lcode 0 x.2.2.1 []) ++ A ++ B ++ [(6, nI 0)]) hq' (CE_X hq' hE (FX_t x1 (FX_t (FX_2 f1) (FX_t f2 (FX_t (FX_2 f3) (FX_t f4 (FX_t (FX_3 f5) (FX_2 f6)))))))) s6 c6 (by rw [len_1]; omega) ?_ ?_
                  · intro v7 t7 C f7 s7 c7 l7 tt7 xC
                    refine go_at (blk := b_Reader_readLaw_81) rfl ?_
                    simp (disch := omega) only [b_Reader_readLaw_81, be_6, be_1, be_57_1, kc_2, List.getD_cons_zero, List.getD_cons_succ, List.set_cons_zero, List.set_cons_succ, List.length_cons, List.length_nil, pk_I, pk_A, pr_A, pi_I, st_s, st_n, if_true, if_false, eq_self, d_if, d_ju, d_re, d_ca, cat0, cat1, cat2, cat3, fr_z, fr_s, cc_I, cc_A, cc_N, Nat.reduceAdd, Nat.reduceLT, Nat.reduceLeDiff, Nat.reduceEqDiff, not_true, not_false_iff, z1_0, z1_1, Bool.and_self, Bool.true_and, Bool.and_true, nI_add, pk_mul, nI_clamp, decide_true, Nat.le_refl, bI_eq, bI_z1, nI_ltI, nI_leI, nI_eq]
                    refine k_want (j := 28) (CE_X hq' hE (FX_t x1 (FX_t (FX_2 f1) (FX_t f2 (FX_t (FX_2 f3) (FX_t f4 (FX_t (FX_3 f5) (FX_t (FX_2 f6) f7)))))))) (s := (.inr t7, l, p)) s7 (by omega) rfl (by omega) (by omega) ?_
                    intro v8 f8 s8
                    have c8 := LC_2 hq' c7 f8
                    rw [show wantS E 28 (.inr t7, l, p) = (wnt E 28 t7, l, p) from rfl] at s8
                    cases h3 : wnt E 28 t7 with
                    | inl f =>
                      rw [h3] at s8
                      exact lawB88 (l := l) (p := p) hq' (CE_X hq' hE (FX_t x1 (FX_t (FX_2 f1) (FX_t f2 (FX_t (FX_2 f3) (FX_t f4 (FX_t (FX_3 f5) (FX_t (FX_2 f6) (FX_t f7 (FX_2 f8)))))))))) s8 (LC_L c8 (by have := s7.2.2.1; omega)) (by omega) rfl (by omega) ⟨_, rfl⟩ (fun v9 f9 s9 l9 => q1 v9 _ _ (FX_t (FX_t x1 (FX_t (FX_2 f1) (FX_t f2 (FX_t (FX_2 f3) (FX_t f4 (FX_t (FX_3 f5) (FX_t (FX_2 f6) (FX_t f7 (FX_2 f8))))))))) f9) s9 l9 (bT_g hw (x5 (.inl _) (by rw [show 4 - i = (4 - (i + 1)) + 1 by omega]; exact lw_if hIF (bT_g h0 (bX_g xA (bT_g h1 (bX_g xB (bT_g h2 (bX_g xC (bT_b h3 rfl)))))))))))
                    | inr t8 =>
                      rw [h3] at s8
                      obtain ⟨rfl, h34, _⟩ := wn_lt h3
                      refine go_at (blk := b_Reader_readLaw_88) rfl ?_
                      simp (disch := omega) only [b_Reader_readLaw_88, be_6, be_1, be_57_2, kc_lw hq, List.getD_cons_zero, List.getD_cons_succ, List.set_cons_zero, List.set_cons_succ, List.length_cons, List.length_nil, pk_I, pk_A, pr_A, pi_I, st_s, st_n, if_true, if_false, eq_self, d_if, d_ju, d_re, d_ca, cat0, cat1, cat2, cat3, fr_z, fr_s, cc_I, cc_A, cc_N, Nat.reduceAdd, Nat.reduceLT, Nat.reduceLeDiff, Nat.reduceEqDiff, not_true, not_false_iff, z1_0, z1_1, Bool.and_self, Bool.true_and, Bool.and_true, nI_add, pk_mul, nI_clamp, decide_true, Nat.le_refl, bI_eq, bI_z1, nI_ltI, nI_leI, nI_eq]
                      refine k_put hq' c8 (by have := s7.2.2.1; omega) ?_
                      intro v9 f9 c9
                      rw [List.append_assoc ((lcode 0 x.2.2.1 []) ++ A ++ B ++ [(6, nI 0)])] at c9
                      refine go_at (blk := b_Reader_readLaw_95) rfl ?_
                      simp (disch := omega) only [b_Reader_readLaw_95, be_31I, be_6, be_4, be_57_1, kc_lw hq, List.getD_cons_zero, List.getD_cons_succ, List.set_cons_zero, List.set_cons_succ, List.length_cons, List.length_nil, pk_I, pk_A, pr_A, pi_I, st_s, st_n, if_true, if_false, eq_self, d_if, d_ju, d_re, d_ca, cat0, cat1, cat2, cat3, fr_z, fr_s, cc_I, cc_A, cc_N, Nat.reduceAdd, Nat.reduceLT, Nat.reduceLeDiff, Nat.reduceEqDiff, not_true, not_false_iff, z1_0, z1_1, Bool.and_self, Bool.true_and, Bool.and_true, nI_add, pk_mul, nI_clamp, decide_true, Nat.le_refl, bI_eq, bI_z1, nI_ltI, nI_leI, nI_eq]
                      have hlP := lc_len (bs := x.2.2.1) 0
                      have hlX : ((lcode 0 x.2.2.1 []) ++ A ++ B).length = brs x.2.2.1 + A.length + B.length := by simp only [List.length_append]; omega
                      have hlY : (C ++ [(7, nI 0)]).length = C.length + 1 := by simp only [List.length_append, List.length_cons, List.length_nil]
                      have hl7 : ((lcode 0 x.2.2.1 []) ++ A ++ B ++ [(6, nI 0)] ++ C).length = brs x.2.2.1 + A.length + B.length + 1 + C.length := by simp only [List.length_append, List.length_cons, List.length_nil]; omega
                      have ht7 := s7.2.2.1
                      refine k_skip (n := brs x.2.2.1 + A.length + B.length + C.length + 2) hq' (by omega) (by omega) c9 ?_
                      intro v10 f10 c10
                      refine go_at (blk := b_Reader_readLaw_101) rfl ?_
                      simp (disch := omega) only [b_Reader_readLaw_101, be_10, be_51, List.getD_cons_zero, List.getD_cons_succ, List.set_cons_zero, List.set_cons_succ, List.length_cons, List.length_nil, pk_I, pk_A, pr_A, pi_I, st_s, st_n, if_true, if_false, eq_self, d_if, d_ju, d_re, d_ca, cat0, cat1, cat2, cat3, fr_z, fr_s, cc_I, cc_A, cc_N, Nat.reduceAdd, Nat.reduceLT, Nat.reduceLeDiff, Nat.reduceEqDiff, not_true, not_false_iff, z1_0, z1_1, Bool.and_self, Bool.true_and, Bool.and_true, nI_add, pk_mul, nI_clamp, decide_true, Nat.le_refl, bI_eq, bI_z1, nI_ltI, nI_leI, nI_eq]
                      refine ih (v10, t7 + 1, x.2.2.1 ++ [(A, B, C)], .int _) ⟨FX_t (FX_t x1 (FX_t (FX_2 f1) (FX_t f2 (FX_t (FX_2 f3) (FX_t f4 (FX_t (FX_3 f5) (FX_t (FX_2 f6) (FX_t f7 (FX_2 f8))))))))) (FX_t (FX_3 f9) (FX_3 f10)), ?_, ?_, ?_, fun R hR => ?_, rfl, (show t < t7 + 1 by omega)⟩
                      · exact CS_3 (s := (.inr (t7 + 1), l, p)) hq' (CS_3 (s := (.inr (t7 + 1), l, p)) hq' s8 f9) f10
                      · dsimp only
                        rw [lc_snoc]
                        have e8 : lcode 0 x.2.2.1 [] ++ (brc (0 + brs x.2.2.1) (A, B, C) ++ []) = (lcode 0 x.2.2.1 []) ++ A ++ B ++ [(6, nI (brs x.2.2.1 + A.length + B.length + C.length + 2))] ++ (C ++ [(7, nI 0)]) := by
                          unfold brc
                          simp only [List.append_assoc, List.append_nil, Nat.zero_add]
                        rw [e8]
                        exact c10
                      · dsimp only
                        have e9 : brs (x.2.2.1 ++ [(A, B, C)]) = brs x.2.2.1 + brn (A, B, C) := by
                          have := lc_len (bs := x.2.2.1 ++ [(A, B, C)]) 0
                          rw [lc_snoc, List.length_append, lc_len, List.append_nil, brc_len] at this
                          exact this.symm
                        rw [e9]
                        unfold brn
                        dsimp only
                        omega
                      · dsimp only at hR ⊢
                        rw [← ab_s]
                        refine x5 _ ?_
                        rw [show 4 - i = (4 - (i + 1)) + 1 by omega]
                        exact lw_if hIF (bT_g h0 (bX_g xA (bT_g h1 (bX_g xB (bT_g h2 (bX_g xC (bT_g h3 ⟨R, hR, rfl⟩)))))))
                  · intro v7 k7 p7 f7 s7 l7 xC
                    exact lawB81 (l := l) (p := p) (e := (k7, p7)) hq' (CE_X hq' hE (FX_t x1 (FX_t (FX_2 f1) (FX_t f2 (FX_t (FX_2 f3) (FX_t f4 (FX_t (FX_3 f5) (FX_t (FX_2 f6) f7)))))))) s7 (l7) (by omega) rfl (by omega) ⟨_, rfl⟩ (fun v9 f9 s9 l9 => q1 v9 _ _ (FX_t (FX_t x1 (FX_t (FX_2 f1) (FX_t f2 (FX_t (FX_2 f3) (FX_t f4 (FX_t (FX_3 f5) (FX_t (FX_2 f6) f7))))))) f9) s9 l9 (bT_g hw (x5 (.inl _) (by rw [show 4 - i = (4 - (i + 1)) + 1 by omega]; exact lw_if hIF (bT_g h0 (bX_g xA (bT_g h1 (bX_g xB (bT_g h2 (bX_b xC rfl))))))))))
              · intro v4 k4 p4 f4 s4 l4 xB
                exact lawB60 (l := l) (p := p) (e := (k4, p4)) hq' (CE_X hq' hE (FX_t x1 (FX_t (FX_2 f1) (FX_t f2 (FX_t (FX_2 f3) f4))))) s4 (l4) (by omega) x6 (by omega) (fun v9 f9 s9 l9 => q1 v9 _ _ (FX_t (FX_t x1 (FX_t (FX_2 f1) (FX_t f2 (FX_t (FX_2 f3) f4)))) f9) s9 l9 (bT_g hw (x5 (.inl _) (by rw [show 4 - i = (4 - (i + 1)) + 1 by omega]; exact lw_if hIF (bT_g h0 (bX_g xA (bT_g h1 (bX_b xB rfl))))))))
          · intro v2 k2 p2 f2 s2 l2 xA
            exact lawB48 (l := l) (p := p) (e := (k2, p2)) hq' (CE_X hq' hE (FX_t x1 (FX_t (FX_2 f1) f2))) s2 (l2) (by omega) x6 (by omega) (fun v9 f9 s9 l9 => q1 v9 _ _ (FX_t (FX_t x1 (FX_t (FX_2 f1) f2)) f9) s9 l9 (bT_g hw (x5 (.inl _) (by rw [show 4 - i = (4 - (i + 1)) + 1 by omega]; exact lw_if hIF (bT_g h0 (bX_b xA rfl))))))
      · have hc9 := ck_lt9 _ (hE.1.2.2.2.1 x.2.1).1
        have hcn' : cK (eK E x.2.1) ≠ 262 := ck_ne hE.1 (j := 26) (by omega) rfl hIF
        obtain ⟨c9, hcc⟩ : ∃ c9, c9 = cK (eK E x.2.1) := ⟨_, rfl⟩
        rw [← hcc] at hcn' hc9
        have hcn : ¬ c9 = 262 := hcn'
        refine go_at (blk := b_Reader_readLaw_12) rfl ?_
        simp (disch := omega) only [b_Reader_readLaw_12, be_4, be_1, be_49_4, List.getD_cons_zero, List.getD_cons_succ, List.set_cons_zero, List.set_cons_succ, List.length_cons, List.length_nil, pk_I, pk_A, pr_A, pi_I, st_s, st_n, if_true, if_false, eq_self, d_if, d_ju, d_re, d_ca, cat0, cat1, cat2, cat3, fr_z, fr_s, cc_I, cc_A, cc_N, Nat.reduceAdd, Nat.reduceLT, Nat.reduceLeDiff, Nat.reduceEqDiff, not_true, not_false_iff, z1_0, z1_1, Bool.and_self, Bool.true_and, Bool.and_true, nI_add, pk_mul, nI_clamp, decide_true, Nat.le_refl, bI_eq, bI_z1, nI_ltI, nI_leI, nI_eq, hni4, hcn, x6]
        refine go_at (blk := b_Reader_readLaw_17) rfl ?_
        simp (disch := omega) only [b_Reader_readLaw_17, be_6, be_57_0, kc_2, List.getD_cons_zero, List.getD_cons_succ, List.set_cons_zero, List.set_cons_succ, List.length_cons, List.length_nil, pk_I, pk_A, pr_A, pi_I, st_s, st_n, if_true, if_false, eq_self, d_if, d_ju, d_re, d_ca, cat0, cat1, cat2, cat3, fr_z, fr_s, cc_I, cc_A, cc_N, Nat.reduceAdd, Nat.reduceLT, Nat.reduceLeDiff, Nat.reduceEqDiff, not_true, not_false_iff, z1_0, z1_1, Bool.and_self, Bool.true_and, Bool.and_true, nI_add, pk_mul, nI_clamp, decide_true, Nat.le_refl, bI_eq, bI_z1, nI_ltI, nI_leI, nI_eq, hni4, hcn, x6]
        refine k_kind hEx hsx ?_
        rw [show kdR E (.inr x.2.1, l, p) = eK E x.2.1 from rfl, ← hcc]
        refine go_at (blk := b_Reader_readLaw_21) rfl ?_
        simp (disch := omega) only [b_Reader_readLaw_21, be_1, be_49_1, List.getD_cons_zero, List.getD_cons_succ, List.set_cons_zero, List.set_cons_succ, List.length_cons, List.length_nil, pk_I, pk_A, pr_A, pi_I, st_s, st_n, if_true, if_false, eq_self, d_if, d_ju, d_re, d_ca, cat0, cat1, cat2, cat3, fr_z, fr_s, cc_I, cc_A, cc_N, Nat.reduceAdd, Nat.reduceLT, Nat.reduceLeDiff, Nat.reduceEqDiff, not_true, not_false_iff, z1_0, z1_1, Bool.and_self, Bool.true_and, Bool.and_true, nI_add, pk_mul, nI_clamp, decide_true, Nat.le_refl, bI_eq, bI_z1, nI_ltI, nI_leI, nI_eq, hni4, hcn, x6]
        refine go_at (blk := b_Reader_readLaw_107) rfl ?_
        simp (disch := omega) only [b_Reader_readLaw_107, be_6, be_1, be_57_2, kc_2, List.getD_cons_zero, List.getD_cons_succ, List.set_cons_zero, List.set_cons_succ, List.length_cons, List.length_nil, pk_I, pk_A, pr_A, pi_I, st_s, st_n, if_true, if_false, eq_self, d_if, d_ju, d_re, d_ca, cat0, cat1, cat2, cat3, fr_z, fr_s, cc_I, cc_A, cc_N, Nat.reduceAdd, Nat.reduceLT, Nat.reduceLeDiff, Nat.reduceEqDiff, not_true, not_false_iff, z1_0, z1_1, Bool.and_self, Bool.true_and, Bool.and_true, nI_add, pk_mul, nI_clamp, decide_true, Nat.le_refl, bI_eq, bI_z1, nI_ltI, nI_leI, nI_eq, hni4, hcn, x6]
        refine k_sum0 (pre := (lcode 0 x.2.2.1 [])) hq' hEx x2 x3 (by rw [lc_len]; omega) ?_ ?_
        · intro v2 t2 D f2 s2 c2 l2 tt2 xD
          refine go_at (blk := b_Reader_readLaw_113) rfl ?_
          simp (disch := omega) only [b_Reader_readLaw_113, be_56, List.getD_cons_zero, List.getD_cons_succ, List.set_cons_zero, List.set_cons_succ, List.length_cons, List.length_nil, pk_I, pk_A, pr_A, pi_I, st_s, st_n, if_true, if_false, eq_self, d_if, d_ju, d_re, d_ca, cat0, cat1, cat2, cat3, fr_z, fr_s, cc_I, cc_A, cc_N, Nat.reduceAdd, Nat.reduceLT, Nat.reduceLeDiff, Nat.reduceEqDiff, not_true, not_false_iff, z1_0, z1_1, Bool.and_self, Bool.true_and, Bool.and_true, nI_add, pk_mul, nI_clamp, decide_true, Nat.le_refl, bI_eq, bI_z1, nI_ltI, nI_leI, nI_eq]
          refine q0 v2 t2 x.2.2.1 D (FX_t x1 f2) s2 (by rw [lc_end]; exact c2) (by rw [lc_end]; exact l2) (by omega) (bT_g hw ?_)
          have h9 := x5 (.inr (t2, [], D)) (lw_no hIF (bX_g xD rfl))
          rw [show addBs x.2.2.1 (.inr (t2, [], D)) = .inr (t2, x.2.2.1 ++ [], D) from rfl, List.append_nil] at h9
          exact h9
        · intro v2 k2 p2 f2 s2 l2 xD
          refine go_at (blk := b_Reader_readLaw_113) rfl ?_
          simp (disch := omega) only [b_Reader_readLaw_113, be_56, List.getD_cons_zero, List.getD_cons_succ, List.set_cons_zero, List.set_cons_succ, List.length_cons, List.length_nil, pk_I, pk_A, pr_A, pi_I, st_s, st_n, if_true, if_false, eq_self, d_if, d_ju, d_re, d_ca, cat0, cat1, cat2, cat3, fr_z, fr_s, cc_I, cc_A, cc_N, Nat.reduceAdd, Nat.reduceLT, Nat.reduceLeDiff, Nat.reduceEqDiff, not_true, not_false_iff, z1_0, z1_1, Bool.and_self, Bool.true_and, Bool.and_true, nI_add, pk_mul, nI_clamp, decide_true, Nat.le_refl, bI_eq, bI_z1, nI_ltI, nI_leI, nI_eq]
          exact q1 v2 _ _ (FX_t x1 f2) s2 l2 (bT_g hw (x5 (.inl _) (lw_no hIF (bX_b xD rfl))))
    · intro x ⟨x1, x2, x3, x4, x5, x6, x7⟩
      try dsimp only at *
      have hEx : CE E x.1 w := CE_X hq' hE x1
      have hsx : CS E x.1 (.inr x.2.1, l, p) := x2
      have gtx := x2.2.2.1
      have gL := hE.1.1
      by_cases hIF : eK E x.2.1 = 26
      · refine go_at (blk := b_Reader_readLaw_12) rfl ?_
        simp (disch := omega) only [b_Reader_readLaw_12, be_4, be_1, be_49_4, List.getD_cons_zero, List.getD_cons_succ, List.set_cons_zero, List.set_cons_succ, List.length_cons, List.length_nil, pk_I, pk_A, pr_A, pi_I, st_s, st_n, if_true, if_false, eq_self, d_if, d_ju, d_re, d_ca, cat0, cat1, cat2, cat3, fr_z, fr_s, cc_I, cc_A, cc_N, Nat.reduceAdd, Nat.reduceLT, Nat.reduceLeDiff, Nat.reduceEqDiff, not_true, not_false_iff, z1_0, z1_1, Bool.and_self, Bool.true_and, Bool.and_true, nI_add, pk_mul, nI_clamp, decide_true, Nat.le_refl, bI_eq, bI_z1, nI_ltI, nI_leI, nI_eq, x6]
        refine go_at (blk := b_Reader_readLaw_17) rfl ?_
        simp (disch := omega) only [b_Reader_readLaw_17, be_6, be_57_0, kc_2, List.getD_cons_zero, List.getD_cons_succ, List.set_cons_zero, List.set_cons_succ, List.length_cons, List.length_nil, pk_I, pk_A, pr_A, pi_I, st_s, st_n, if_true, if_false, eq_self, d_if, d_ju, d_re, d_ca, cat0, cat1, cat2, cat3, fr_z, fr_s, cc_I, cc_A, cc_N, Nat.reduceAdd, Nat.reduceLT, Nat.reduceLeDiff, Nat.reduceEqDiff, not_true, not_false_iff, z1_0, z1_1, Bool.and_self, Bool.true_and, Bool.and_true, nI_add, pk_mul, nI_clamp, decide_true, Nat.le_refl, bI_eq, bI_z1, nI_ltI, nI_leI, nI_eq, x6]
        refine k_kind hEx hsx ?_
        rw [show kdR E (.inr x.2.1, l, p) = eK E x.2.1 from rfl, hIF, show cK 26 = 262 from rfl]
        refine go_at (blk := b_Reader_readLaw_21) rfl ?_
        simp (disch := omega) only [b_Reader_readLaw_21, be_1, be_49_1, List.getD_cons_zero, List.getD_cons_succ, List.set_cons_zero, List.set_cons_succ, List.length_cons, List.length_nil, pk_I, pk_A, pr_A, pi_I, st_s, st_n, if_true, if_false, eq_self, d_if, d_ju, d_re, d_ca, cat0, cat1, cat2, cat3, fr_z, fr_s, cc_I, cc_A, cc_N, Nat.reduceAdd, Nat.reduceLT, Nat.reduceLeDiff, Nat.reduceEqDiff, not_true, not_false_iff, z1_0, z1_1, Bool.and_self, Bool.true_and, Bool.and_true, nI_add, pk_mul, nI_clamp, decide_true, Nat.le_refl, bI_eq, bI_z1, nI_ltI, nI_leI, nI_eq, x6]
        refine go_at (blk := b_Reader_readLaw_27) rfl ?_
        simp (disch := omega) only [b_Reader_readLaw_27, be_4, be_1, be_49_1, List.getD_cons_zero, List.getD_cons_succ, List.set_cons_zero, List.set_cons_succ, List.length_cons, List.length_nil, pk_I, pk_A, pr_A, pi_I, st_s, st_n, if_true, if_false, eq_self, d_if, d_ju, d_re, d_ca, cat0, cat1, cat2, cat3, fr_z, fr_s, cc_I, cc_A, cc_N, Nat.reduceAdd, Nat.reduceLT, Nat.reduceLeDiff, Nat.reduceEqDiff, not_true, not_false_iff, z1_0, z1_1, Bool.and_self, Bool.true_and, Bool.and_true, nI_add, pk_mul, nI_clamp, decide_true, Nat.le_refl, bI_eq, bI_z1, nI_ltI, nI_leI, nI_eq, x6]
        refine go_at (blk := b_Reader_readLaw_32) rfl ?_
        simp (disch := omega) only [b_Reader_readLaw_32, be_6, be_1, be_57_1, kc_2, List.getD_cons_zero, List.getD_cons_succ, List.set_cons_zero, List.set_cons_succ, List.length_cons, List.length_nil, pk_I, pk_A, pr_A, pi_I, st_s, st_n, if_true, if_false, eq_self, d_if, d_ju, d_re, d_ca, cat0, cat1, cat2, cat3, fr_z, fr_s, cc_I, cc_A, cc_N, Nat.reduceAdd, Nat.reduceLT, Nat.reduceLeDiff, Nat.reduceEqDiff, not_true, not_false_iff, z1_0, z1_1, Bool.and_self, Bool.true_and, Bool.and_true, nI_add, pk_mul, nI_clamp, decide_true, Nat.le_refl, bI_eq, bI_z1, nI_ltI, nI_leI, nI_eq, x6]
        refine k_fail hEx hsx (by omega) (by omega) ?_
        intro v1 f1 s1
        refine go_at (blk := b_Reader_readLaw_37) rfl ?_
        simp (disch := omega) only [b_Reader_readLaw_37, be_56, List.getD_cons_zero, List.getD_cons_succ, List.set_cons_zero, List.set_cons_succ, List.length_cons, List.length_nil, pk_I, pk_A, pr_A, pi_I, st_s, st_n, if_true, if_false, eq_self, d_if, d_ju, d_re, d_ca, cat0, cat1, cat2, cat3, fr_z, fr_s, cc_I, cc_A, cc_N, Nat.reduceAdd, Nat.reduceLT, Nat.reduceLeDiff, Nat.reduceEqDiff, not_true, not_false_iff, z1_0, z1_1, Bool.and_self, Bool.true_and, Bool.and_true, nI_add, pk_mul, nI_clamp, decide_true, Nat.le_refl, bI_eq, bI_z1, nI_ltI, nI_leI, nI_eq, x6]
        exact q1 v1 _ _ (FX_t x1 (FX_2 f1)) s1 (LL_2 hq' (LC_L x3 (by rw [lc_len]; omega)) f1) (bT_g hw (x5 (.inl _) (lw_0 hIF)))
      · have hc9 := ck_lt9 _ (hE.1.2.2.2.1 x.2.1).1
        have hcn' : cK (eK E x.2.1) ≠ 262 := ck_ne hE.1 (j := 26) (by omega) rfl hIF
        obtain ⟨c9, hcc⟩ : ∃ c9, c9 = cK (eK E x.2.1) := ⟨_, rfl⟩
        rw [← hcc] at hcn' hc9
        have hcn : ¬ c9 = 262 := hcn'
        refine go_at (blk := b_Reader_readLaw_12) rfl ?_
        simp (disch := omega) only [b_Reader_readLaw_12, be_4, be_1, be_49_4, List.getD_cons_zero, List.getD_cons_succ, List.set_cons_zero, List.set_cons_succ, List.length_cons, List.length_nil, pk_I, pk_A, pr_A, pi_I, st_s, st_n, if_true, if_false, eq_self, d_if, d_ju, d_re, d_ca, cat0, cat1, cat2, cat3, fr_z, fr_s, cc_I, cc_A, cc_N, Nat.reduceAdd, Nat.reduceLT, Nat.reduceLeDiff, Nat.reduceEqDiff, not_true, not_false_iff, z1_0, z1_1, Bool.and_self, Bool.true_and, Bool.and_true, nI_add, pk_mul, nI_clamp, decide_true, Nat.le_refl, bI_eq, bI_z1, nI_ltI, nI_leI, nI_eq, hcn, x6]
        refine go_at (blk := b_Reader_readLaw_17) rfl ?_
        simp (disch := omega) only [b_Reader_readLaw_17, be_6, be_57_0, kc_2, List.getD_cons_zero, List.getD_cons_succ, List.set_cons_zero, List.set_cons_succ, List.length_cons, List.length_nil, pk_I, pk_A, pr_A, pi_I, st_s, st_n, if_true, if_false, eq_self, d_if, d_ju, d_re, d_ca, cat0, cat1, cat2, cat3, fr_z, fr_s, cc_I, cc_A, cc_N, Nat.reduceAdd, Nat.reduceLT, Nat.reduceLeDiff, Nat.reduceEqDiff, not_true, not_false_iff, z1_0, z1_1, Bool.and_self, Bool.true_and, Bool.and_true, nI_add, pk_mul, nI_clamp, decide_true, Nat.le_refl, bI_eq, bI_z1, nI_ltI, nI_leI, nI_eq, hcn, x6]
        refine k_kind hEx hsx ?_
        rw [show kdR E (.inr x.2.1, l, p) = eK E x.2.1 from rfl, ← hcc]
        refine go_at (blk := b_Reader_readLaw_21) rfl ?_
        simp (disch := omega) only [b_Reader_readLaw_21, be_1, be_49_1, List.getD_cons_zero, List.getD_cons_succ, List.set_cons_zero, List.set_cons_succ, List.length_cons, List.length_nil, pk_I, pk_A, pr_A, pi_I, st_s, st_n, if_true, if_false, eq_self, d_if, d_ju, d_re, d_ca, cat0, cat1, cat2, cat3, fr_z, fr_s, cc_I, cc_A, cc_N, Nat.reduceAdd, Nat.reduceLT, Nat.reduceLeDiff, Nat.reduceEqDiff, not_true, not_false_iff, z1_0, z1_1, Bool.and_self, Bool.true_and, Bool.and_true, nI_add, pk_mul, nI_clamp, decide_true, Nat.le_refl, bI_eq, bI_z1, nI_ltI, nI_leI, nI_eq, hcn, x6]
        refine go_at (blk := b_Reader_readLaw_107) rfl ?_
        simp (disch := omega) only [b_Reader_readLaw_107, be_6, be_1, be_57_2, kc_2, List.getD_cons_zero, List.getD_cons_succ, List.set_cons_zero, List.set_cons_succ, List.length_cons, List.length_nil, pk_I, pk_A, pr_A, pi_I, st_s, st_n, if_true, if_false, eq_self, d_if, d_ju, d_re, d_ca, cat0, cat1, cat2, cat3, fr_z, fr_s, cc_I, cc_A, cc_N, Nat.reduceAdd, Nat.reduceLT, Nat.reduceLeDiff, Nat.reduceEqDiff, not_true, not_false_iff, z1_0, z1_1, Bool.and_self, Bool.true_and, Bool.and_true, nI_add, pk_mul, nI_clamp, decide_true, Nat.le_refl, bI_eq, bI_z1, nI_ltI, nI_leI, nI_eq, hcn, x6]
        refine k_sum0 (pre := (lcode 0 x.2.2.1 [])) hq' hEx x2 x3 (by rw [lc_len]; omega) ?_ ?_
        · intro v2 t2 D f2 s2 c2 l2 tt2 xD
          refine go_at (blk := b_Reader_readLaw_113) rfl ?_
          simp (disch := omega) only [b_Reader_readLaw_113, be_56, List.getD_cons_zero, List.getD_cons_succ, List.set_cons_zero, List.set_cons_succ, List.length_cons, List.length_nil, pk_I, pk_A, pr_A, pi_I, st_s, st_n, if_true, if_false, eq_self, d_if, d_ju, d_re, d_ca, cat0, cat1, cat2, cat3, fr_z, fr_s, cc_I, cc_A, cc_N, Nat.reduceAdd, Nat.reduceLT, Nat.reduceLeDiff, Nat.reduceEqDiff, not_true, not_false_iff, z1_0, z1_1, Bool.and_self, Bool.true_and, Bool.and_true, nI_add, pk_mul, nI_clamp, decide_true, Nat.le_refl, bI_eq, bI_z1, nI_ltI, nI_leI, nI_eq]
          refine q0 v2 t2 x.2.2.1 D (FX_t x1 f2) s2 (by rw [lc_end]; exact c2) (by rw [lc_end]; exact l2) (by omega) (bT_g hw ?_)
          have h9 := x5 (.inr (t2, [], D)) (lw_no hIF (bX_g xD rfl))
          rw [show addBs x.2.2.1 (.inr (t2, [], D)) = .inr (t2, x.2.2.1 ++ [], D) from rfl, List.append_nil] at h9
          exact h9
        · intro v2 k2 p2 f2 s2 l2 xD
          refine go_at (blk := b_Reader_readLaw_113) rfl ?_
          simp (disch := omega) only [b_Reader_readLaw_113, be_56, List.getD_cons_zero, List.getD_cons_succ, List.set_cons_zero, List.set_cons_succ, List.length_cons, List.length_nil, pk_I, pk_A, pr_A, pi_I, st_s, st_n, if_true, if_false, eq_self, d_if, d_ju, d_re, d_ca, cat0, cat1, cat2, cat3, fr_z, fr_s, cc_I, cc_A, cc_N, Nat.reduceAdd, Nat.reduceLT, Nat.reduceLeDiff, Nat.reduceEqDiff, not_true, not_false_iff, z1_0, z1_1, Bool.and_self, Bool.true_and, Bool.and_true, nI_add, pk_mul, nI_clamp, decide_true, Nat.le_refl, bI_eq, bI_z1, nI_ltI, nI_leI, nI_eq]
          exact q1 v2 _ _ (FX_t x1 f2) s2 l2 (bT_g hw (x5 (.inl _) (lw_no hIF (bX_b xD rfl))))
theorem k_readLawB {d : Nat} {v : Nat → Nat → Int32} {w : Nat → Nat → Int64} {Q : Option Value → am_H → Prop} {E : ENV} {q l p : Nat} {e : Nat × Nat} (hq' : LD q) (hE : CE E v w) (hs : CS E v (.inl e, l, p)) (hQ : ∀ v', FX q v v' → CS E v' (.inl e, l, p) → LL v' q → Q none (428, 26053, KD, RF, v', w)) : am_Ca (d + 5) M_Reader_readLaw [.ref 2, .ref q] (428, 26053, KD, RF, v, w) Q := by
  have hq := LD_W hq'
  refine ca_in (k := k_Reader_readLaw) (nL := 4) rfl (Nat.le_of_ble_eq_true rfl) ?_
  show am_Go am_X0 _ k_Reader_readLaw 0 ([.ref 2, .ref q, .null, .null], [], _) _
  refine go_at (blk := b_Reader_readLaw_0) rfl ?_
  simp (disch := omega) only [b_Reader_readLaw_0, be_6, be_57_0, kc_lw hq, List.getD_cons_zero, List.getD_cons_succ, List.set_cons_zero, List.set_cons_succ, List.length_cons, List.length_nil, pk_I, pk_A, pr_A, pi_I, st_s, st_n, if_true, if_false, eq_self, d_if, d_ju, d_re, d_ca, cat0, cat1, cat2, cat3, fr_z, fr_s, cc_I, cc_A, cc_N, Nat.reduceAdd, Nat.reduceLT, Nat.reduceLeDiff, Nat.reduceEqDiff, not_true, not_false_iff, z1_0, z1_1, Bool.and_self, Bool.true_and, Bool.and_true, nI_add, pk_mul, nI_clamp, decide_true, Nat.le_refl, bI_eq, bI_z1]
  refine k_lclear hq' ?_
  intro v1 f1 c1
  have hs1 := CS_3 hq' hs f1
  refine go_at (blk := b_Reader_readLaw_4) rfl ?_
  simp (disch := omega) only [b_Reader_readLaw_4, be_6, be_1, be_57_1, kc_2, List.getD_cons_zero, List.getD_cons_succ, List.set_cons_zero, List.set_cons_succ, List.length_cons, List.length_nil, pk_I, pk_A, pr_A, pi_I, st_s, st_n, if_true, if_false, eq_self, d_if, d_ju, d_re, d_ca, cat0, cat1, cat2, cat3, fr_z, fr_s, cc_I, cc_A, cc_N, Nat.reduceAdd, Nat.reduceLT, Nat.reduceLeDiff, Nat.reduceEqDiff, not_true, not_false_iff, z1_0, z1_1, Bool.and_self, Bool.true_and, Bool.and_true, nI_add, pk_mul, nI_clamp, decide_true, Nat.le_refl, bI_eq, bI_z1]
  refine k_want (j := 5) (CE_3 hq' hE f1) hs1 (by omega) rfl (by omega) (by omega) ?_
  intro v2 f2 s2
  refine go_at (blk := b_Reader_readLaw_10) rfl ?_
  simp (disch := omega) only [b_Reader_readLaw_10, be_1, be_7, be_0, List.getD_cons_zero, List.getD_cons_succ, List.set_cons_zero, List.set_cons_succ, List.length_cons, List.length_nil, pk_I, pk_A, pr_A, pi_I, st_s, st_n, if_true, if_false, eq_self, d_if, d_ju, d_re, d_ca, cat0, cat1, cat2, cat3, fr_z, fr_s, cc_I, cc_A, cc_N, Nat.reduceAdd, Nat.reduceLT, Nat.reduceLeDiff, Nat.reduceEqDiff, not_true, not_false_iff, z1_0, z1_1, Bool.and_self, Bool.true_and, Bool.and_true, nI_add, pk_mul, nI_clamp, decide_true, Nat.le_refl, bI_eq, bI_z1]
  exact lawB12 (i := 0) hq' (CE_2 (CE_3 hq' hE f1) f2) s2 (LL_2 hq' (LC_L c1 (Nat.zero_le _)) f2) (by omega) rfl (fun v3 f3 s3 l3 => hQ v3 (FX_t (FX_3 f1) (FX_t (FX_2 f2) f3)) s3 l3)
