/-! laid by wip/whole/gS.py: the reference: a TELL, whole -/
set_option maxHeartbeats 4000000 in
theorem r_tell22 {d : Nat} {v : Nat → Nat → Int32} {w : Nat → Nat → Int64} {Q : Option Value → am_H → Prop} {E : ENV} {t l p sd : Nat} {D D' : DRF} {s' : SG} (hE : ME E v w) (hG : MG E v t l p) (hD : MDX sd v w D t) (hsd : sd < 2) (hk0 : eK E t ≠ 0) (hK : eK E t = 22) (hx : LTL E t l p s' (fun x => D' = (D.1, D.2.1, D.2.2.1, D.2.2.2.1, some x, D.2.2.2.2.2))) (hB : ∀ v' w' f, GS sd v v' → (∀ c, c ≠ 396 → w' c = w c) → s'.1 = .inl f → MB v' f.1 f.2 → Q none (428, 26053, KD, RF, v', w')) (hQ : ∀ v' w' t', GS sd v v' → (∀ c, c ≠ 396 → w' c = w c) → s'.1 = .inr t' → t < t' → MG E v' t' s'.2.1 s'.2.2 → MDX sd v' w' D' t' → Q none (428, 26053, KD, RF, v', w')) : am_Ca (d + 9) M_Model_tell [.ref 388] (428, 26053, KD, RF, v, w) Q := by
  have hs : MS' E v (.inr t, l, p) := hG
  have g11 : v 388 11 = nI t := hG.1
  have gt : t ≤ eL E := hG.2.1
  have gL := hE.1.1
  have gk : v 391 t = nI (eK E t) := (hE.2 t gt).1
  have hkk : ∀ t', ((.inr t, l, p) : SG).1 = .inr t' → eK E t' ≠ 0 ∧ eK E t' ≠ 3 := by
    intro t' ht
    cases ht
    exact ⟨by omega, by omega⟩
  refine ca_in (k := k_Model_tell) (nL := 2) rfl (Nat.le_of_ble_eq_true rfl) ?_
  show am_Go am_X0 _ k_Model_tell 0 ([.ref 388, .null], [], _) _
  refine go_at (blk := b_Model_tell_0) rfl ?_
  simp (disch := omega) only [b_Model_tell_0, be_6, be_34, be_33, be_38, be_52, kc_388, rf_388_5, ka_391, List.getD_cons_zero, List.getD_cons_succ, List.set_cons_zero, List.set_cons_succ, List.length_cons, List.length_nil, pk_I, pk_A, pr_A, pi_I, st_s, st_n, if_true, if_false, eq_self, d_if, d_ju, d_re, d_ca, cat0, cat1, cat2, cat3, fr_z, fr_s, cc_I, cc_A, cc_N, Nat.reduceAdd, Nat.reduceLT, Nat.reduceLeDiff, Nat.reduceEqDiff, not_true, not_false_iff, z1_0, z1_1, Bool.and_self, Bool.true_and, Bool.and_true, nI_add, pk_mul, nI_clamp, decide_true, Nat.le_refl, bI_eq, bI_z1, nI_ltI, nI_leI, am_u_at, am_u_ne, upd_at, upd_ne, nI_z, z_le, z_lt, g11, gk, hK, swm_22, m22_0]
  refine go_at (blk := b_Model_tell_105) rfl ?_
  simp (disch := omega) only [b_Model_tell_105, be_6, be_34, be_33, be_38, be_1, be_13, be_7, be_57_0, kc_388, rf_388_5, ka_391, List.getD_cons_zero, List.getD_cons_succ, List.set_cons_zero, List.set_cons_succ, List.length_cons, List.length_nil, pk_I, pk_A, pr_A, pi_I, st_s, st_n, if_true, if_false, eq_self, d_if, d_ju, d_re, d_ca, cat0, cat1, cat2, cat3, fr_z, fr_s, cc_I, cc_A, cc_N, Nat.reduceAdd, Nat.reduceLT, Nat.reduceLeDiff, Nat.reduceEqDiff, not_true, not_false_iff, z1_0, z1_1, Bool.and_self, Bool.true_and, Bool.and_true, nI_add, pk_mul, nI_clamp, decide_true, Nat.le_refl, bI_eq, bI_z1, nI_ltI, nI_leI, am_u_at, am_u_ne, upd_at, upd_ne, nI_z, z_le, z_lt, g11, gk, hK, swm_22, m22_0]
  refine r_goesOn (s := (.inr t, l, p)) hE hs hkk ?_
  intro v1 f1 s1
  have hE1 := ME_8 hE f1
  rw [show takeS E (.inr t, l, p) = (tkR E t, l, p) from rfl] at s1
  obtain ⟨hP, h12, h19, h20, h5, a, br, h39, h33, h8, h9, h10, h11, hL0, hL1⟩ := MDX_8 hD f1 (Nat.le_refl _)
  rcases hx with ⟨f, h0, rfl⟩ | ⟨h0, hx⟩
  · rw [h0] at s1
    refine go_at (blk := b_Model_tell_122) rfl ?_
    simp (disch := omega) only [b_Model_tell_122, be_6, be_4, be_57_1, kc_388, List.getD_cons_zero, List.getD_cons_succ, List.set_cons_zero, List.set_cons_succ, List.length_cons, List.length_nil, pk_I, pk_A, pr_A, pi_I, st_s, st_n, if_true, if_false, eq_self, d_if, d_ju, d_re, d_ca, cat0, cat1, cat2, cat3, fr_z, fr_s, cc_I, cc_A, cc_N, Nat.reduceAdd, Nat.reduceLT, Nat.reduceLeDiff, Nat.reduceEqDiff, not_true, not_false_iff, z1_0, z1_1, Bool.and_self, Bool.true_and, Bool.and_true, nI_add, pk_mul, nI_clamp, decide_true, Nat.le_refl, bI_eq, bI_z1, nI_ltI, nI_leI]
    refine r_tellLawB (K0 := 420 * sd) (J0 := 130 * sd) (a := a) (br := br) (x := 2 * sd + 0) (by omega) (ME_8 hE f1) s1 h33 (by omega) ?_
    intro v2 f2 s2
    refine go_at (blk := b_Model_tell_127) rfl ?_
    simp (disch := omega) only [b_Model_tell_127, be_51, List.getD_cons_zero, List.getD_cons_succ, List.set_cons_zero, List.set_cons_succ, List.length_cons, List.length_nil, pk_I, pk_A, pr_A, pi_I, st_s, st_n, if_true, if_false, eq_self, d_if, d_ju, d_re, d_ca, cat0, cat1, cat2, cat3, fr_z, fr_s, cc_I, cc_A, cc_N, Nat.reduceAdd, Nat.reduceLT, Nat.reduceLeDiff, Nat.reduceEqDiff, not_true, not_false_iff, z1_0, z1_1, Bool.and_self, Bool.true_and, Bool.and_true, nI_add, pk_mul, nI_clamp, decide_true, Nat.le_refl, bI_eq, bI_z1, nI_ltI, nI_leI]
    refine go_at (blk := b_Model_tell_163) rfl ?_
    simp (disch := omega) only [b_Model_tell_163, be_56, List.getD_cons_zero, List.getD_cons_succ, List.set_cons_zero, List.set_cons_succ, List.length_cons, List.length_nil, pk_I, pk_A, pr_A, pi_I, st_s, st_n, if_true, if_false, eq_self, d_if, d_ju, d_re, d_ca, cat0, cat1, cat2, cat3, fr_z, fr_s, cc_I, cc_A, cc_N, Nat.reduceAdd, Nat.reduceLT, Nat.reduceLeDiff, Nat.reduceEqDiff, not_true, not_false_iff, z1_0, z1_1, Bool.and_self, Bool.true_and, Bool.and_true, nI_add, pk_mul, nI_clamp, decide_true, Nat.le_refl, bI_eq, bI_z1, nI_ltI, nI_leI]
    exact hB v2 w f (GS_t (GS_8 f1) (GS_L f2 (by omega) h8 h10)) (fun _ _ => rfl) rfl s2
  · rw [h0] at s1
    have hE1 := ME_8 hE f1
    rcases hx with ⟨f, hR, rfl⟩ | ⟨t2, bs, C, hR, rfl, rfl⟩
    ·
      refine go_at (blk := b_Model_tell_122) rfl ?_
      simp (disch := omega) only [b_Model_tell_122, be_6, be_4, be_57_1, kc_388, List.getD_cons_zero, List.getD_cons_succ, List.set_cons_zero, List.set_cons_succ, List.length_cons, List.length_nil, pk_I, pk_A, pr_A, pi_I, st_s, st_n, if_true, if_false, eq_self, d_if, d_ju, d_re, d_ca, cat0, cat1, cat2, cat3, fr_z, fr_s, cc_I, cc_A, cc_N, Nat.reduceAdd, Nat.reduceLT, Nat.reduceLeDiff, Nat.reduceEqDiff, not_true, not_false_iff, z1_0, z1_1, Bool.and_self, Bool.true_and, Bool.and_true, nI_add, pk_mul, nI_clamp, decide_true, Nat.le_refl, bI_eq, bI_z1, nI_ltI, nI_leI]
      refine r_tellLaw (K0 := 420 * sd) (J0 := 130 * sd) (a := a) (br := br) (sd := sd) (kk := 0) (by omega) hE1 s1 h12 h39 h33 h19 hsd (by omega) (by omega) (by omega) (by omega) hR ?_ ?_
      · intro v2 t3 bs2 C2 f2 s2 i12 i39 i33 iL i406 i407 ia ix
        obtain ⟨t4, e4, _⟩ := ix
        cases e4
      · intro v2 k2 p2 f2 s2 ix
        refine go_at (blk := b_Model_tell_127) rfl ?_
        simp (disch := omega) only [b_Model_tell_127, be_51, List.getD_cons_zero, List.getD_cons_succ, List.set_cons_zero, List.set_cons_succ, List.length_cons, List.length_nil, pk_I, pk_A, pr_A, pi_I, st_s, st_n, if_true, if_false, eq_self, d_if, d_ju, d_re, d_ca, cat0, cat1, cat2, cat3, fr_z, fr_s, cc_I, cc_A, cc_N, Nat.reduceAdd, Nat.reduceLT, Nat.reduceLeDiff, Nat.reduceEqDiff, not_true, not_false_iff, z1_0, z1_1, Bool.and_self, Bool.true_and, Bool.and_true, nI_add, pk_mul, nI_clamp, decide_true, Nat.le_refl, bI_eq, bI_z1, nI_ltI, nI_leI]
        refine go_at (blk := b_Model_tell_163) rfl ?_
        simp (disch := omega) only [b_Model_tell_163, be_56, List.getD_cons_zero, List.getD_cons_succ, List.set_cons_zero, List.set_cons_succ, List.length_cons, List.length_nil, pk_I, pk_A, pr_A, pi_I, st_s, st_n, if_true, if_false, eq_self, d_if, d_ju, d_re, d_ca, cat0, cat1, cat2, cat3, fr_z, fr_s, cc_I, cc_A, cc_N, Nat.reduceAdd, Nat.reduceLT, Nat.reduceLeDiff, Nat.reduceEqDiff, not_true, not_false_iff, z1_0, z1_1, Bool.and_self, Bool.true_and, Bool.and_true, nI_add, pk_mul, nI_clamp, decide_true, Nat.le_refl, bI_eq, bI_z1, nI_ltI, nI_leI]
        rcases ix with e4 | ⟨t4, bs4, D4, e4, _⟩
        · cases e4
          exact hB v2 w (k2, p2) (GS_t (GS_8 f1) (GS_L f2 (by omega) h8 h10)) (fun _ _ => rfl) rfl s2
        · cases e4
    ·
      refine go_at (blk := b_Model_tell_122) rfl ?_
      simp (disch := omega) only [b_Model_tell_122, be_6, be_4, be_57_1, kc_388, List.getD_cons_zero, List.getD_cons_succ, List.set_cons_zero, List.set_cons_succ, List.length_cons, List.length_nil, pk_I, pk_A, pr_A, pi_I, st_s, st_n, if_true, if_false, eq_self, d_if, d_ju, d_re, d_ca, cat0, cat1, cat2, cat3, fr_z, fr_s, cc_I, cc_A, cc_N, Nat.reduceAdd, Nat.reduceLT, Nat.reduceLeDiff, Nat.reduceEqDiff, not_true, not_false_iff, z1_0, z1_1, Bool.and_self, Bool.true_and, Bool.and_true, nI_add, pk_mul, nI_clamp, decide_true, Nat.le_refl, bI_eq, bI_z1, nI_ltI, nI_leI]
      refine r_tellLaw (K0 := 420 * sd) (J0 := 130 * sd) (a := a) (br := br) (sd := sd) (kk := 0) (by omega) hE1 s1 h12 h39 h33 h19 hsd (by omega) (by omega) (by omega) (by omega) hR ?_ ?_
      · intro v2 t3 bs2 C2 f2 s2 i12 i39 i33 iL i406 i407 ia ix
        refine go_at (blk := b_Model_tell_127) rfl ?_
        simp (disch := omega) only [b_Model_tell_127, be_51, List.getD_cons_zero, List.getD_cons_succ, List.set_cons_zero, List.set_cons_succ, List.length_cons, List.length_nil, pk_I, pk_A, pr_A, pi_I, st_s, st_n, if_true, if_false, eq_self, d_if, d_ju, d_re, d_ca, cat0, cat1, cat2, cat3, fr_z, fr_s, cc_I, cc_A, cc_N, Nat.reduceAdd, Nat.reduceLT, Nat.reduceLeDiff, Nat.reduceEqDiff, not_true, not_false_iff, z1_0, z1_1, Bool.and_self, Bool.true_and, Bool.and_true, nI_add, pk_mul, nI_clamp, decide_true, Nat.le_refl, bI_eq, bI_z1, nI_ltI, nI_leI]
        refine go_at (blk := b_Model_tell_163) rfl ?_
        simp (disch := omega) only [b_Model_tell_163, be_56, List.getD_cons_zero, List.getD_cons_succ, List.set_cons_zero, List.set_cons_succ, List.length_cons, List.length_nil, pk_I, pk_A, pr_A, pi_I, st_s, st_n, if_true, if_false, eq_self, d_if, d_ju, d_re, d_ca, cat0, cat1, cat2, cat3, fr_z, fr_s, cc_I, cc_A, cc_N, Nat.reduceAdd, Nat.reduceLT, Nat.reduceLeDiff, Nat.reduceEqDiff, not_true, not_false_iff, z1_0, z1_1, Bool.and_self, Bool.true_and, Bool.and_true, nI_add, pk_mul, nI_clamp, decide_true, Nat.le_refl, bI_eq, bI_z1, nI_ltI, nI_leI]
        obtain ⟨t4, e4, h4⟩ := ix
        cases e4
        have hlw := lw_law hR
        have ht3 := wn_1 h4
        have hr : (wantS E 4 (.inr t2, l, p)).1 = .inr t3 := h4
        refine hQ v2 w t3 (GS_t (GS_8 f1) (GS_L f2 (by omega) h8 h10)) (fun _ _ => rfl) hr (by omega) s2 ?_
        refine ⟨PDX_w hP (fun c c1 c2 => f2.1 c (by omega) (by omega)), i12, ?_, ?_, h5, a + lbl bs C, br + bs.length + 1, i39, i33, by omega, ia, by omega, by omega, ⟨br, a, i406, i407, iL, h10, Nat.le_refl _, h8, Nat.le_refl _, hlw.2⟩, LWX_f hL1 (f2.2.2.2.2 _ (by omega)) (fun k _ k2 => f2.2.2.1 k (Or.inl k2)) (fun k _ k2 => f2.2.2.2.1 k (Or.inl k2)) (by omega) (by omega)⟩
        · rw [f2.2.1 19 (by omega) (by omega) (by omega) (by omega) (by omega) (by omega) (by omega) (by omega) (by omega)]
          exact h19
        · rw [f2.2.1 20 (by omega) (by omega) (by omega) (by omega) (by omega) (by omega) (by omega) (by omega) (by omega)]
          exact h20
      · intro v2 k2 p2 f2 s2 ix
        refine go_at (blk := b_Model_tell_127) rfl ?_
        simp (disch := omega) only [b_Model_tell_127, be_51, List.getD_cons_zero, List.getD_cons_succ, List.set_cons_zero, List.set_cons_succ, List.length_cons, List.length_nil, pk_I, pk_A, pr_A, pi_I, st_s, st_n, if_true, if_false, eq_self, d_if, d_ju, d_re, d_ca, cat0, cat1, cat2, cat3, fr_z, fr_s, cc_I, cc_A, cc_N, Nat.reduceAdd, Nat.reduceLT, Nat.reduceLeDiff, Nat.reduceEqDiff, not_true, not_false_iff, z1_0, z1_1, Bool.and_self, Bool.true_and, Bool.and_true, nI_add, pk_mul, nI_clamp, decide_true, Nat.le_refl, bI_eq, bI_z1, nI_ltI, nI_leI]
        refine go_at (blk := b_Model_tell_163) rfl ?_
        simp (disch := omega) only [b_Model_tell_163, be_56, List.getD_cons_zero, List.getD_cons_succ, List.set_cons_zero, List.set_cons_succ, List.length_cons, List.length_nil, pk_I, pk_A, pr_A, pi_I, st_s, st_n, if_true, if_false, eq_self, d_if, d_ju, d_re, d_ca, cat0, cat1, cat2, cat3, fr_z, fr_s, cc_I, cc_A, cc_N, Nat.reduceAdd, Nat.reduceLT, Nat.reduceLeDiff, Nat.reduceEqDiff, not_true, not_false_iff, z1_0, z1_1, Bool.and_self, Bool.true_and, Bool.and_true, nI_add, pk_mul, nI_clamp, decide_true, Nat.le_refl, bI_eq, bI_z1, nI_ltI, nI_leI]
        rcases ix with e4 | ⟨t4, bs4, D4, e4, h4⟩
        · cases e4
        · cases e4
          exact hB v2 w (k2, p2) (GS_t (GS_8 f1) (GS_L f2 (by omega) h8 h10)) (fun _ _ => rfl) h4 s2
set_option maxHeartbeats 4000000 in
theorem r_tell23 {d : Nat} {v : Nat → Nat → Int32} {w : Nat → Nat → Int64} {Q : Option Value → am_H → Prop} {E : ENV} {t l p sd : Nat} {D D' : DRF} {s' : SG} (hE : ME E v w) (hG : MG E v t l p) (hD : MDX sd v w D t) (hsd : sd < 2) (hk0 : eK E t ≠ 0) (hK : eK E t = 23) (hx : LTL E t l p s' (fun x => D' = (D.1, D.2.1, D.2.2.1, D.2.2.2.1, D.2.2.2.2.1, some x))) (hB : ∀ v' w' f, GS sd v v' → (∀ c, c ≠ 396 → w' c = w c) → s'.1 = .inl f → MB v' f.1 f.2 → Q none (428, 26053, KD, RF, v', w')) (hQ : ∀ v' w' t', GS sd v v' → (∀ c, c ≠ 396 → w' c = w c) → s'.1 = .inr t' → t < t' → MG E v' t' s'.2.1 s'.2.2 → MDX sd v' w' D' t' → Q none (428, 26053, KD, RF, v', w')) : am_Ca (d + 9) M_Model_tell [.ref 388] (428, 26053, KD, RF, v, w) Q := by
  have hs : MS' E v (.inr t, l, p) := hG
  have g11 : v 388 11 = nI t := hG.1
  have gt : t ≤ eL E := hG.2.1
  have gL := hE.1.1
  have gk : v 391 t = nI (eK E t) := (hE.2 t gt).1
  have hkk : ∀ t', ((.inr t, l, p) : SG).1 = .inr t' → eK E t' ≠ 0 ∧ eK E t' ≠ 3 := by
    intro t' ht
    cases ht
    exact ⟨by omega, by omega⟩
  refine ca_in (k := k_Model_tell) (nL := 2) rfl (Nat.le_of_ble_eq_true rfl) ?_
  show am_Go am_X0 _ k_Model_tell 0 ([.ref 388, .null], [], _) _
  refine go_at (blk := b_Model_tell_0) rfl ?_
  simp (disch := omega) only [b_Model_tell_0, be_6, be_34, be_33, be_38, be_52, kc_388, rf_388_5, ka_391, List.getD_cons_zero, List.getD_cons_succ, List.set_cons_zero, List.set_cons_succ, List.length_cons, List.length_nil, pk_I, pk_A, pr_A, pi_I, st_s, st_n, if_true, if_false, eq_self, d_if, d_ju, d_re, d_ca, cat0, cat1, cat2, cat3, fr_z, fr_s, cc_I, cc_A, cc_N, Nat.reduceAdd, Nat.reduceLT, Nat.reduceLeDiff, Nat.reduceEqDiff, not_true, not_false_iff, z1_0, z1_1, Bool.and_self, Bool.true_and, Bool.and_true, nI_add, pk_mul, nI_clamp, decide_true, Nat.le_refl, bI_eq, bI_z1, nI_ltI, nI_leI, am_u_at, am_u_ne, upd_at, upd_ne, nI_z, z_le, z_lt, g11, gk, hK, swm_23, m22_1]
  refine go_at (blk := b_Model_tell_105) rfl ?_
  simp (disch := omega) only [b_Model_tell_105, be_6, be_34, be_33, be_38, be_1, be_13, be_7, be_57_0, kc_388, rf_388_5, ka_391, List.getD_cons_zero, List.getD_cons_succ, List.set_cons_zero, List.set_cons_succ, List.length_cons, List.length_nil, pk_I, pk_A, pr_A, pi_I, st_s, st_n, if_true, if_false, eq_self, d_if, d_ju, d_re, d_ca, cat0, cat1, cat2, cat3, fr_z, fr_s, cc_I, cc_A, cc_N, Nat.reduceAdd, Nat.reduceLT, Nat.reduceLeDiff, Nat.reduceEqDiff, not_true, not_false_iff, z1_0, z1_1, Bool.and_self, Bool.true_and, Bool.and_true, nI_add, pk_mul, nI_clamp, decide_true, Nat.le_refl, bI_eq, bI_z1, nI_ltI, nI_leI, am_u_at, am_u_ne, upd_at, upd_ne, nI_z, z_le, z_lt, g11, gk, hK, swm_23, m22_1]
  refine r_goesOn (s := (.inr t, l, p)) hE hs hkk ?_
  intro v1 f1 s1
  have hE1 := ME_8 hE f1
  rw [show takeS E (.inr t, l, p) = (tkR E t, l, p) from rfl] at s1
  obtain ⟨hP, h12, h19, h20, h5, a, br, h39, h33, h8, h9, h10, h11, hL0, hL1⟩ := MDX_8 hD f1 (Nat.le_refl _)
  rcases hx with ⟨f, h0, rfl⟩ | ⟨h0, hx⟩
  · rw [h0] at s1
    refine go_at (blk := b_Model_tell_122) rfl ?_
    simp (disch := omega) only [b_Model_tell_122, be_6, be_4, be_57_1, kc_388, List.getD_cons_zero, List.getD_cons_succ, List.set_cons_zero, List.set_cons_succ, List.length_cons, List.length_nil, pk_I, pk_A, pr_A, pi_I, st_s, st_n, if_true, if_false, eq_self, d_if, d_ju, d_re, d_ca, cat0, cat1, cat2, cat3, fr_z, fr_s, cc_I, cc_A, cc_N, Nat.reduceAdd, Nat.reduceLT, Nat.reduceLeDiff, Nat.reduceEqDiff, not_true, not_false_iff, z1_0, z1_1, Bool.and_self, Bool.true_and, Bool.and_true, nI_add, pk_mul, nI_clamp, decide_true, Nat.le_refl, bI_eq, bI_z1, nI_ltI, nI_leI]
    refine r_tellLawB (K0 := 420 * sd) (J0 := 130 * sd) (a := a) (br := br) (x := 2 * sd + 1) (by omega) (ME_8 hE f1) s1 h33 (by omega) ?_
    intro v2 f2 s2
    refine go_at (blk := b_Model_tell_127) rfl ?_
    simp (disch := omega) only [b_Model_tell_127, be_51, List.getD_cons_zero, List.getD_cons_succ, List.set_cons_zero, List.set_cons_succ, List.length_cons, List.length_nil, pk_I, pk_A, pr_A, pi_I, st_s, st_n, if_true, if_false, eq_self, d_if, d_ju, d_re, d_ca, cat0, cat1, cat2, cat3, fr_z, fr_s, cc_I, cc_A, cc_N, Nat.reduceAdd, Nat.reduceLT, Nat.reduceLeDiff, Nat.reduceEqDiff, not_true, not_false_iff, z1_0, z1_1, Bool.and_self, Bool.true_and, Bool.and_true, nI_add, pk_mul, nI_clamp, decide_true, Nat.le_refl, bI_eq, bI_z1, nI_ltI, nI_leI]
    refine go_at (blk := b_Model_tell_163) rfl ?_
    simp (disch := omega) only [b_Model_tell_163, be_56, List.getD_cons_zero, List.getD_cons_succ, List.set_cons_zero, List.set_cons_succ, List.length_cons, List.length_nil, pk_I, pk_A, pr_A, pi_I, st_s, st_n, if_true, if_false, eq_self, d_if, d_ju, d_re, d_ca, cat0, cat1, cat2, cat3, fr_z, fr_s, cc_I, cc_A, cc_N, Nat.reduceAdd, Nat.reduceLT, Nat.reduceLeDiff, Nat.reduceEqDiff, not_true, not_false_iff, z1_0, z1_1, Bool.and_self, Bool.true_and, Bool.and_true, nI_add, pk_mul, nI_clamp, decide_true, Nat.le_refl, bI_eq, bI_z1, nI_ltI, nI_leI]
    exact hB v2 w f (GS_t (GS_8 f1) (GS_L f2 (by omega) h8 h10)) (fun _ _ => rfl) rfl s2
  · rw [h0] at s1
    have hE1 := ME_8 hE f1
    rcases hx with ⟨f, hR, rfl⟩ | ⟨t2, bs, C, hR, rfl, rfl⟩
    ·
      refine go_at (blk := b_Model_tell_122) rfl ?_
      simp (disch := omega) only [b_Model_tell_122, be_6, be_4, be_57_1, kc_388, List.getD_cons_zero, List.getD_cons_succ, List.set_cons_zero, List.set_cons_succ, List.length_cons, List.length_nil, pk_I, pk_A, pr_A, pi_I, st_s, st_n, if_true, if_false, eq_self, d_if, d_ju, d_re, d_ca, cat0, cat1, cat2, cat3, fr_z, fr_s, cc_I, cc_A, cc_N, Nat.reduceAdd, Nat.reduceLT, Nat.reduceLeDiff, Nat.reduceEqDiff, not_true, not_false_iff, z1_0, z1_1, Bool.and_self, Bool.true_and, Bool.and_true, nI_add, pk_mul, nI_clamp, decide_true, Nat.le_refl, bI_eq, bI_z1, nI_ltI, nI_leI]
      refine r_tellLaw (K0 := 420 * sd) (J0 := 130 * sd) (a := a) (br := br) (sd := sd) (kk := 1) (by omega) hE1 s1 h12 h39 h33 h19 hsd (by omega) (by omega) (by omega) (by omega) hR ?_ ?_
      · intro v2 t3 bs2 C2 f2 s2 i12 i39 i33 iL i406 i407 ia ix
        obtain ⟨t4, e4, _⟩ := ix
        cases e4
      · intro v2 k2 p2 f2 s2 ix
        refine go_at (blk := b_Model_tell_127) rfl ?_
        simp (disch := omega) only [b_Model_tell_127, be_51, List.getD_cons_zero, List.getD_cons_succ, List.set_cons_zero, List.set_cons_succ, List.length_cons, List.length_nil, pk_I, pk_A, pr_A, pi_I, st_s, st_n, if_true, if_false, eq_self, d_if, d_ju, d_re, d_ca, cat0, cat1, cat2, cat3, fr_z, fr_s, cc_I, cc_A, cc_N, Nat.reduceAdd, Nat.reduceLT, Nat.reduceLeDiff, Nat.reduceEqDiff, not_true, not_false_iff, z1_0, z1_1, Bool.and_self, Bool.true_and, Bool.and_true, nI_add, pk_mul, nI_clamp, decide_true, Nat.le_refl, bI_eq, bI_z1, nI_ltI, nI_leI]
        refine go_at (blk := b_Model_tell_163) rfl ?_
        simp (disch := omega) only [b_Model_tell_163, be_56, List.getD_cons_zero, List.getD_cons_succ, List.set_cons_zero, List.set_cons_succ, List.length_cons, List.length_nil, pk_I, pk_A, pr_A, pi_I, st_s, st_n, if_true, if_false, eq_self, d_if, d_ju, d_re, d_ca, cat0, cat1, cat2, cat3, fr_z, fr_s, cc_I, cc_A, cc_N, Nat.reduceAdd, Nat.reduceLT, Nat.reduceLeDiff, Nat.reduceEqDiff, not_true, not_false_iff, z1_0, z1_1, Bool.and_self, Bool.true_and, Bool.and_true, nI_add, pk_mul, nI_clamp, decide_true, Nat.le_refl, bI_eq, bI_z1, nI_ltI, nI_leI]
        rcases ix with e4 | ⟨t4, bs4, D4, e4, _⟩
        · cases e4
          exact hB v2 w (k2, p2) (GS_t (GS_8 f1) (GS_L f2 (by omega) h8 h10)) (fun _ _ => rfl) rfl s2
        · cases e4
    ·
      refine go_at (blk := b_Model_tell_122) rfl ?_
      simp (disch := omega) only [b_Model_tell_122, be_6, be_4, be_57_1, kc_388, List.getD_cons_zero, List.getD_cons_succ, List.set_cons_zero, List.set_cons_succ, List.length_cons, List.length_nil, pk_I, pk_A, pr_A, pi_I, st_s, st_n, if_true, if_false, eq_self, d_if, d_ju, d_re, d_ca, cat0, cat1, cat2, cat3, fr_z, fr_s, cc_I, cc_A, cc_N, Nat.reduceAdd, Nat.reduceLT, Nat.reduceLeDiff, Nat.reduceEqDiff, not_true, not_false_iff, z1_0, z1_1, Bool.and_self, Bool.true_and, Bool.and_true, nI_add, pk_mul, nI_clamp, decide_true, Nat.le_refl, bI_eq, bI_z1, nI_ltI, nI_leI]
      refine r_tellLaw (K0 := 420 * sd) (J0 := 130 * sd) (a := a) (br := br) (sd := sd) (kk := 1) (by omega) hE1 s1 h12 h39 h33 h19 hsd (by omega) (by omega) (by omega) (by omega) hR ?_ ?_
      · intro v2 t3 bs2 C2 f2 s2 i12 i39 i33 iL i406 i407 ia ix
        refine go_at (blk := b_Model_tell_127) rfl ?_
        simp (disch := omega) only [b_Model_tell_127, be_51, List.getD_cons_zero, List.getD_cons_succ, List.set_cons_zero, List.set_cons_succ, List.length_cons, List.length_nil, pk_I, pk_A, pr_A, pi_I, st_s, st_n, if_true, if_false, eq_self, d_if, d_ju, d_re, d_ca, cat0, cat1, cat2, cat3, fr_z, fr_s, cc_I, cc_A, cc_N, Nat.reduceAdd, Nat.reduceLT, Nat.reduceLeDiff, Nat.reduceEqDiff, not_true, not_false_iff, z1_0, z1_1, Bool.and_self, Bool.true_and, Bool.and_true, nI_add, pk_mul, nI_clamp, decide_true, Nat.le_refl, bI_eq, bI_z1, nI_ltI, nI_leI]
        refine go_at (blk := b_Model_tell_163) rfl ?_
        simp (disch := omega) only [b_Model_tell_163, be_56, List.getD_cons_zero, List.getD_cons_succ, List.set_cons_zero, List.set_cons_succ, List.length_cons, List.length_nil, pk_I, pk_A, pr_A, pi_I, st_s, st_n, if_true, if_false, eq_self, d_if, d_ju, d_re, d_ca, cat0, cat1, cat2, cat3, fr_z, fr_s, cc_I, cc_A, cc_N, Nat.reduceAdd, Nat.reduceLT, Nat.reduceLeDiff, Nat.reduceEqDiff, not_true, not_false_iff, z1_0, z1_1, Bool.and_self, Bool.true_and, Bool.and_true, nI_add, pk_mul, nI_clamp, decide_true, Nat.le_refl, bI_eq, bI_z1, nI_ltI, nI_leI]
        obtain ⟨t4, e4, h4⟩ := ix
        cases e4
        have hlw := lw_law hR
        have ht3 := wn_1 h4
        have hr : (wantS E 4 (.inr t2, l, p)).1 = .inr t3 := h4
        refine hQ v2 w t3 (GS_t (GS_8 f1) (GS_L f2 (by omega) h8 h10)) (fun _ _ => rfl) hr (by omega) s2 ?_
        refine ⟨PDX_w hP (fun c c1 c2 => f2.1 c (by omega) (by omega)), i12, ?_, ?_, h5, a + lbl bs C, br + bs.length + 1, i39, i33, by omega, ia, by omega, by omega, LWX_f hL0 (f2.2.2.2.2 _ (by omega)) (fun k _ k2 => f2.2.2.1 k (Or.inl k2)) (fun k _ k2 => f2.2.2.2.1 k (Or.inl k2)) (by omega) (by omega), ⟨br, a, i406, i407, iL, h10, Nat.le_refl _, h8, Nat.le_refl _, hlw.2⟩⟩
        · rw [f2.2.1 19 (by omega) (by omega) (by omega) (by omega) (by omega) (by omega) (by omega) (by omega) (by omega)]
          exact h19
        · rw [f2.2.1 20 (by omega) (by omega) (by omega) (by omega) (by omega) (by omega) (by omega) (by omega) (by omega)]
          exact h20
      · intro v2 k2 p2 f2 s2 ix
        refine go_at (blk := b_Model_tell_127) rfl ?_
        simp (disch := omega) only [b_Model_tell_127, be_51, List.getD_cons_zero, List.getD_cons_succ, List.set_cons_zero, List.set_cons_succ, List.length_cons, List.length_nil, pk_I, pk_A, pr_A, pi_I, st_s, st_n, if_true, if_false, eq_self, d_if, d_ju, d_re, d_ca, cat0, cat1, cat2, cat3, fr_z, fr_s, cc_I, cc_A, cc_N, Nat.reduceAdd, Nat.reduceLT, Nat.reduceLeDiff, Nat.reduceEqDiff, not_true, not_false_iff, z1_0, z1_1, Bool.and_self, Bool.true_and, Bool.and_true, nI_add, pk_mul, nI_clamp, decide_true, Nat.le_refl, bI_eq, bI_z1, nI_ltI, nI_leI]
        refine go_at (blk := b_Model_tell_163) rfl ?_
        simp (disch := omega) only [b_Model_tell_163, be_56, List.getD_cons_zero, List.getD_cons_succ, List.set_cons_zero, List.set_cons_succ, List.length_cons, List.length_nil, pk_I, pk_A, pr_A, pi_I, st_s, st_n, if_true, if_false, eq_self, d_if, d_ju, d_re, d_ca, cat0, cat1, cat2, cat3, fr_z, fr_s, cc_I, cc_A, cc_N, Nat.reduceAdd, Nat.reduceLT, Nat.reduceLeDiff, Nat.reduceEqDiff, not_true, not_false_iff, z1_0, z1_1, Bool.and_self, Bool.true_and, Bool.and_true, nI_add, pk_mul, nI_clamp, decide_true, Nat.le_refl, bI_eq, bI_z1, nI_ltI, nI_leI]
        rcases ix with e4 | ⟨t4, bs4, D4, e4, h4⟩
        · cases e4
        · cases e4
          exact hB v2 w (k2, p2) (GS_t (GS_8 f1) (GS_L f2 (by omega) h8 h10)) (fun _ _ => rfl) h4 s2
set_option maxHeartbeats 2000000 in
theorem r_tellX {d : Nat} {v : Nat → Nat → Int32} {w : Nat → Nat → Int64} {Q : Option Value → am_H → Prop} {E : ENV} {t l p sd : Nat} {D : DRF} (hE : ME E v w) (hG : MG E v t l p) (hD : MDX sd v w D t) (hsd : sd < 2) (hk0 : eK E t ≠ 0) (hsw : am_swt 20 158 [44, 72, 105, 105, 130] (nI (eK E t)) = 158) (hB : ∀ v' w' f, GS sd v v' → (∀ c, c ≠ 396 → w' c = w c) → ((.inl (1, eP E t), l, p) : SG).1 = .inl f → MB v' f.1 f.2 → Q none (428, 26053, KD, RF, v', w')) : am_Ca (d + 9) M_Model_tell [.ref 388] (428, 26053, KD, RF, v, w) Q := by
  have hs : MS' E v (.inr t, l, p) := hG
  have g11 : v 388 11 = nI t := hG.1
  have gt : t ≤ eL E := hG.2.1
  have gL := hE.1.1
  have gk : v 391 t = nI (eK E t) := (hE.2 t gt).1
  refine ca_in (k := k_Model_tell) (nL := 2) rfl (Nat.le_of_ble_eq_true rfl) ?_
  show am_Go am_X0 _ k_Model_tell 0 ([.ref 388, .null], [], _) _
  refine go_at (blk := b_Model_tell_0) rfl ?_
  simp (disch := omega) only [b_Model_tell_0, be_6, be_34, be_33, be_38, be_52, kc_388, rf_388_5, ka_391, List.getD_cons_zero, List.getD_cons_succ, List.set_cons_zero, List.set_cons_succ, List.length_cons, List.length_nil, pk_I, pk_A, pr_A, pi_I, st_s, st_n, if_true, if_false, eq_self, d_if, d_ju, d_re, d_ca, cat0, cat1, cat2, cat3, fr_z, fr_s, cc_I, cc_A, cc_N, Nat.reduceAdd, Nat.reduceLT, Nat.reduceLeDiff, Nat.reduceEqDiff, not_true, not_false_iff, z1_0, z1_1, Bool.and_self, Bool.true_and, Bool.and_true, nI_add, pk_mul, nI_clamp, decide_true, Nat.le_refl, bI_eq, bI_z1, nI_ltI, nI_leI, am_u_at, am_u_ne, upd_at, upd_ne, nI_z, z_le, z_lt, g11, gk, hsw]
  refine go_at (blk := b_Model_tell_158) rfl ?_
  simp (disch := omega) only [b_Model_tell_158, be_6, be_1, be_57_1, kc_388, List.getD_cons_zero, List.getD_cons_succ, List.set_cons_zero, List.set_cons_succ, List.length_cons, List.length_nil, pk_I, pk_A, pr_A, pi_I, st_s, st_n, if_true, if_false, eq_self, d_if, d_ju, d_re, d_ca, cat0, cat1, cat2, cat3, fr_z, fr_s, cc_I, cc_A, cc_N, Nat.reduceAdd, Nat.reduceLT, Nat.reduceLeDiff, Nat.reduceEqDiff, not_true, not_false_iff, z1_0, z1_1, Bool.and_self, Bool.true_and, Bool.and_true, nI_add, pk_mul, nI_clamp, decide_true, Nat.le_refl, bI_eq, bI_z1, nI_ltI, nI_leI, am_u_at, am_u_ne, upd_at, upd_ne, nI_z, z_le, z_lt, g11, gk, hsw]
  refine r_fail (s := (.inr t, l, p)) hE hs (by omega) (by omega) ?_
  intro v1 f1 s1
  have s1 : MB v1 1 (eP E t) := s1
  refine go_at (blk := b_Model_tell_163) rfl ?_
  simp (disch := omega) only [b_Model_tell_163, be_56, List.getD_cons_zero, List.getD_cons_succ, List.set_cons_zero, List.set_cons_succ, List.length_cons, List.length_nil, pk_I, pk_A, pr_A, pi_I, st_s, st_n, if_true, if_false, eq_self, d_if, d_ju, d_re, d_ca, cat0, cat1, cat2, cat3, fr_z, fr_s, cc_I, cc_A, cc_N, Nat.reduceAdd, Nat.reduceLT, Nat.reduceLeDiff, Nat.reduceEqDiff, not_true, not_false_iff, z1_0, z1_1, Bool.and_self, Bool.true_and, Bool.and_true, nI_add, pk_mul, nI_clamp, decide_true, Nat.le_refl, bI_eq, bI_z1, nI_ltI, nI_leI, am_u_at, am_u_ne, upd_at, upd_ne, nI_z, z_le, z_lt, g11, gk, hsw]
  exact hB v1 w (1, eP E t) (GS_8 f1) (fun _ _ => rfl) rfl s1
set_option maxHeartbeats 1000000 in
theorem r_tell0 {d : Nat} {v : Nat → Nat → Int32} {w : Nat → Nat → Int64} {Q : Option Value → am_H → Prop} {E : ENV} {t l p sd : Nat} {D D' : DRF} {s' : SG} (hE : ME E v w) (hG : MG E v t l p) (hD : MDX sd v w D t) (hsd : sd < 2) (hk0 : eK E t ≠ 0) (hx : TLR E t l p D s' D') (hB : ∀ v' w' f, GS sd v v' → (∀ c, c ≠ 396 → w' c = w c) → s'.1 = .inl f → MB v' f.1 f.2 → Q none (428, 26053, KD, RF, v', w')) (hQ : ∀ v' w' t', GS sd v v' → (∀ c, c ≠ 396 → w' c = w c) → s'.1 = .inr t' → t < t' → MG E v' t' s'.2.1 s'.2.2 → MDX sd v' w' D' t' → Q none (428, 26053, KD, RF, v', w')) : am_Ca (d + 9) M_Model_tell [.ref 388] (428, 26053, KD, RF, v, w) Q := by
  rcases hx with ⟨hK, rfl, rfl⟩ | ⟨hK, h8, rfl⟩ | ⟨hK, h8, rfl, rfl⟩ | ⟨hK, hx⟩ | ⟨hK, hx⟩ | ⟨hK, rfl, rfl⟩ | ⟨h20, h21, h22, h23, h24, rfl⟩
  · exact r_tell20 hE hG hD hsd hk0 hK hB hQ
  · exact r_tell21f hE hG hD hsd hk0 hK h8 hB
  · exact r_tell21 hE hG hD hsd hk0 hK h8 hB hQ
  · exact r_tell22 hE hG hD hsd hk0 hK hx hB hQ
  · exact r_tell23 hE hG hD hsd hk0 hK hx hB hQ
  · exact r_tell24 hE hG hD hsd hk0 hK hB hQ
  · exact r_tellX hE hG hD hsd hk0 (swt_d _ (hE.1.2.2.2.1 t).1 ⟨h20, h21, h22, h23, h24⟩) hB
