/-! laid by wip/whole/gR.py: the reference: a TELL -/
set_option maxHeartbeats 2000000 in
theorem r_tellLawB {d : Nat} {v : Nat → Nat → Int32} {w : Nat → Nat → Int64} {Q : Option Value → am_H → Prop} {E : ENV} {l p a br K0 J0 x : Nat} {e : Nat × Nat} {k : Int32} (hJ : J0 ≤ 130) (hE : ME E v w) (hs : MS' E v (.inl e, l, p)) (h33 : v 388 33 = nI br) (hbr : br + 6 ≤ J0 + 130) (hQ : ∀ v', GL K0 J0 a br x v v' → MS' E v' (.inl e, l, p) → Q none (428, 26053, KD, RF, v', w)) : am_Ca (d + 8) M_Model_tellLaw [.ref 388, .int k] (428, 26053, KD, RF, v, w) Q := by
  refine ca_in (k := k_Model_tellLaw) (nL := 4) rfl (Nat.le_of_ble_eq_true rfl) ?_
  show am_Go am_X0 _ k_Model_tellLaw 0 ([.ref 388, .int k, .null, .null], [], _) _
  refine go_at (blk := b_Model_tellLaw_0) rfl ?_
  simp (disch := omega) only [b_Model_tellLaw_0, be_6, be_1, be_57_1, kc_388, List.getD_cons_zero, List.getD_cons_succ, List.set_cons_zero, List.set_cons_succ, List.length_cons, List.length_nil, pk_I, pk_A, pr_A, pi_I, st_s, st_n, if_true, if_false, eq_self, d_if, d_ju, d_re, d_ca, cat0, cat1, cat2, cat3, fr_z, fr_s, cc_I, cc_A, cc_N, Nat.reduceAdd, Nat.reduceLT, Nat.reduceLeDiff, Nat.reduceEqDiff, not_true, not_false_iff, z1_0, z1_1, Bool.and_self, Bool.true_and, Bool.and_true, nI_add, pk_mul, nI_clamp, decide_true, Nat.le_refl, bI_eq, bI_z1, nI_ltI, nI_leI, am_u_at, am_u_ne, upd_at, upd_ne, nI_eq, nI_z, z_le, z_lt]
  refine r_must (s := (.inl e, l, p)) (j := 5) hE hs (by omega) (by omega) (by omega) ?_
  intro v1 f1 s1
  have s1 : MS' E v1 (.inl e, l, p) := s1
  have e33 : v1 388 33 = nI br := by rw [f1.2 33 (by omega) (by omega) (by omega) (by omega) (by omega)]; exact h33
  refine go_at (blk := b_Model_tellLaw_5) rfl ?_
  simp (disch := omega) only [b_Model_tellLaw_5, be_6, be_33, be_7, be_1, be_0, kc_388, List.getD_cons_zero, List.getD_cons_succ, List.set_cons_zero, List.set_cons_succ, List.length_cons, List.length_nil, pk_I, pk_A, pr_A, pi_I, st_s, st_n, if_true, if_false, eq_self, d_if, d_ju, d_re, d_ca, cat0, cat1, cat2, cat3, fr_z, fr_s, cc_I, cc_A, cc_N, Nat.reduceAdd, Nat.reduceLT, Nat.reduceLeDiff, Nat.reduceEqDiff, not_true, not_false_iff, z1_0, z1_1, Bool.and_self, Bool.true_and, Bool.and_true, nI_add, pk_mul, nI_clamp, decide_true, Nat.le_refl, bI_eq, bI_z1, nI_ltI, nI_leI, am_u_at, am_u_ne, upd_at, upd_ne, nI_eq, nI_z, z_le, z_lt, e33]
  exact lawM12 hJ (B := a) (K0 := K0) (b0 := br) (ME_8 hE f1) s1 e33 (Nat.le_refl _) (by omega) (fun v9 f9 s9 => hQ v9 (GL_B (GB_t (GB_8 f1) f9)) s9)
theorem swm_20 : am_swt 20 158 [44, 72, 105, 105, 130] (nI 20) = 44 := by decide
theorem swm_21 : am_swt 20 158 [44, 72, 105, 105, 130] (nI 21) = 72 := by decide
theorem swm_22 : am_swt 20 158 [44, 72, 105, 105, 130] (nI 22) = 105 := by decide
theorem swm_23 : am_swt 20 158 [44, 72, 105, 105, 130] (nI 23) = 105 := by decide
theorem swm_24 : am_swt 20 158 [44, 72, 105, 105, 130] (nI 24) = 130 := by decide
theorem swt_d : ∀ k, k < 37 → (k ≠ 20 ∧ k ≠ 21 ∧ k ≠ 22 ∧ k ≠ 23 ∧ k ≠ 24) → am_swt 20 158 [44, 72, 105, 105, 130] (nI k) = 158 := by decide +kernel
theorem m22_0 : nI 22 - nI 22 = nI 0 := by decide
theorem m22_1 : nI 23 - nI 22 = nI 1 := by decide
theorem bI_n {b : Bool} : bI b = nI (if b = true then 1 else 0) := by cases b <;> rfl
set_option maxHeartbeats 2000000 in
theorem r_tell20 {d : Nat} {v : Nat → Nat → Int32} {w : Nat → Nat → Int64} {Q : Option Value → am_H → Prop} {E : ENV} {t l p sd : Nat} {D : DRF} (hE : ME E v w) (hG : MG E v t l p) (hD : MDX sd v w D t) (hsd : sd < 2) (hk0 : eK E t ≠ 0) (hK : eK E t = 20) (hB : ∀ v' w' f, GS sd v v' → (∀ c, c ≠ 396 → w' c = w c) → (wantS E 4 (numS E 1 99 (takeS E (.inr t, l, p)))).1 = .inl f → MB v' f.1 f.2 → Q none (428, 26053, KD, RF, v', w')) (hQ : ∀ v' w' t', GS sd v v' → (∀ c, c ≠ 396 → w' c = w c) → (wantS E 4 (numS E 1 99 (takeS E (.inr t, l, p)))).1 = .inr t' → t < t' → MG E v' t' (wantS E 4 (numS E 1 99 (takeS E (.inr t, l, p)))).2.1 (wantS E 4 (numS E 1 99 (takeS E (.inr t, l, p)))).2.2 → MDX sd v' w' (numV E 1 (takeS E (.inr t, l, p)), D.2) t' → Q none (428, 26053, KD, RF, v', w')) : am_Ca (d + 9) M_Model_tell [.ref 388] (428, 26053, KD, RF, v, w) Q := by
  have hs : MS' E v (.inr t, l, p) := hG
  have g11 : v 388 11 = nI t := hG.1
  have gt : t ≤ eL E := hG.2.1
  have gL := hE.1.1
  have gk : v 391 t = nI (eK E t) := (hE.2 t gt).1
  have hkk : ∀ t', ((.inr t, l, p) : SG).1 = .inr t' → eK E t' ≠ 0 ∧ eK E t' ≠ 3 := by
    intro t' ht
    cases ht
    exact ⟨by omega, by omega⟩
  refine ca_in (k := k_Model_tell) (nL := 2) rfl (Nat.le_of_ble_eq_true rfl) ?_
  show am_Go am_X0 _ k_Model_tell 0 ([.ref 388, .null], [], _) _
  refine go_at (blk := b_Model_tell_0) rfl ?_
  simp (disch := omega) only [b_Model_tell_0, be_6, be_34, be_33, be_38, be_52, kc_388, rf_388_5, ka_391, List.getD_cons_zero, List.getD_cons_succ, List.set_cons_zero, List.set_cons_succ, List.length_cons, List.length_nil, pk_I, pk_A, pr_A, pi_I, st_s, st_n, if_true, if_false, eq_self, d_if, d_ju, d_re, d_ca, cat0, cat1, cat2, cat3, fr_z, fr_s, cc_I, cc_A, cc_N, Nat.reduceAdd, Nat.reduceLT, Nat.reduceLeDiff, Nat.reduceEqDiff, not_true, not_false_iff, z1_0, z1_1, Bool.and_self, Bool.true_and, Bool.and_true, nI_add, pk_mul, nI_clamp, decide_true, Nat.le_refl, bI_eq, bI_z1, nI_ltI, nI_leI, am_u_at, am_u_ne, upd_at, upd_ne, nI_z, z_le, z_lt, g11, gk, hK, swm_20]
  refine go_at (blk := b_Model_tell_44) rfl ?_
  simp (disch := omega) only [b_Model_tell_44, be_6, be_57_0, kc_388, List.getD_cons_zero, List.getD_cons_succ, List.set_cons_zero, List.set_cons_succ, List.length_cons, List.length_nil, pk_I, pk_A, pr_A, pi_I, st_s, st_n, if_true, if_false, eq_self, d_if, d_ju, d_re, d_ca, cat0, cat1, cat2, cat3, fr_z, fr_s, cc_I, cc_A, cc_N, Nat.reduceAdd, Nat.reduceLT, Nat.reduceLeDiff, Nat.reduceEqDiff, not_true, not_false_iff, z1_0, z1_1, Bool.and_self, Bool.true_and, Bool.and_true, nI_add, pk_mul, nI_clamp, decide_true, Nat.le_refl, bI_eq, bI_z1, nI_ltI, nI_leI, am_u_at, am_u_ne, upd_at, upd_ne, nI_z, z_le, z_lt, g11, gk, hK, swm_20]
  refine r_goesOn (s := (.inr t, l, p)) hE hs hkk ?_
  intro v1 f1 s1
  have hE1 := ME_8 hE f1
  have e19 : v1 388 19 = nI sd := by rw [f1.2 19 (by omega) (by omega) (by omega) (by omega) (by omega)]; exact hD.2.2.1
  refine go_at (blk := b_Model_tell_48) rfl ?_
  simp (disch := omega) only [b_Model_tell_48, be_6, be_34, be_33, be_1, be_57_2, kc_388, rf_388_22, List.getD_cons_zero, List.getD_cons_succ, List.set_cons_zero, List.set_cons_succ, List.length_cons, List.length_nil, pk_I, pk_A, pr_A, pi_I, st_s, st_n, if_true, if_false, eq_self, d_if, d_ju, d_re, d_ca, cat0, cat1, cat2, cat3, fr_z, fr_s, cc_I, cc_A, cc_N, Nat.reduceAdd, Nat.reduceLT, Nat.reduceLeDiff, Nat.reduceEqDiff, not_true, not_false_iff, z1_0, z1_1, Bool.and_self, Bool.true_and, Bool.and_true, nI_add, pk_mul, nI_clamp, decide_true, Nat.le_refl, bI_eq, bI_z1, nI_ltI, nI_leI, am_u_at, am_u_ne, upd_at, upd_ne, nI_z, z_le, z_lt, g11, gk, hK, swm_20, e19]
  refine r_bounded (lo := 1) (hi := 99) (s := takeS E (.inr t, l, p)) hE1 s1 (by omega) (by omega) ?_
  intro v2 f2 s2
  have f12 := G8_t f1 f2
  have gu : GS sd v2 (am_u v2 397 sd (nI (numV E 1 (takeS E (.inr t, l, p))))) := GS_u (Or.inr (Or.inl ⟨by omega, rfl⟩))
  have hE2 : ME E (am_u v2 397 sd (nI (numV E 1 (takeS E (.inr t, l, p))))) w := ME_S (ME_8 hE1 f2) gu (fun _ _ => rfl)
  have t2 : MS' E (am_u v2 397 sd (nI (numV E 1 (takeS E (.inr t, l, p))))) (numS E 1 99 (takeS E (.inr t, l, p))) := MS_w s2 (fun k hk => by rw [am_u_ne (by omega)])
  refine go_at (blk := b_Model_tell_63) rfl ?_
  simp (disch := omega) only [b_Model_tell_63, be_43, be_6, be_1, be_57_1, ka_397, kc_388, List.getD_cons_zero, List.getD_cons_succ, List.set_cons_zero, List.set_cons_succ, List.length_cons, List.length_nil, pk_I, pk_A, pr_A, pi_I, st_s, st_n, if_true, if_false, eq_self, d_if, d_ju, d_re, d_ca, cat0, cat1, cat2, cat3, fr_z, fr_s, cc_I, cc_A, cc_N, Nat.reduceAdd, Nat.reduceLT, Nat.reduceLeDiff, Nat.reduceEqDiff, not_true, not_false_iff, z1_0, z1_1, Bool.and_self, Bool.true_and, Bool.and_true, nI_add, pk_mul, nI_clamp, decide_true, Nat.le_refl, bI_eq, bI_z1, nI_ltI, nI_leI, am_u_at, am_u_ne, upd_at, upd_ne, nI_z, z_le, z_lt, g11, gk, hK, swm_20, e19]
  refine r_must (s := numS E 1 99 (takeS E (.inr t, l, p))) (j := 4) hE2 t2 (by omega) (by omega) (by omega) ?_
  intro v3 f3 s3
  refine go_at (blk := b_Model_tell_69) rfl ?_
  simp (disch := omega) only [b_Model_tell_69, be_51, List.getD_cons_zero, List.getD_cons_succ, List.set_cons_zero, List.set_cons_succ, List.length_cons, List.length_nil, pk_I, pk_A, pr_A, pi_I, st_s, st_n, if_true, if_false, eq_self, d_if, d_ju, d_re, d_ca, cat0, cat1, cat2, cat3, fr_z, fr_s, cc_I, cc_A, cc_N, Nat.reduceAdd, Nat.reduceLT, Nat.reduceLeDiff, Nat.reduceEqDiff, not_true, not_false_iff, z1_0, z1_1, Bool.and_self, Bool.true_and, Bool.and_true, nI_add, pk_mul, nI_clamp, decide_true, Nat.le_refl, bI_eq, bI_z1, nI_ltI, nI_leI, am_u_at, am_u_ne, upd_at, upd_ne, nI_z, z_le, z_lt, g11, gk, hK, swm_20, e19]
  refine go_at (blk := b_Model_tell_163) rfl ?_
  simp (disch := omega) only [b_Model_tell_163, be_56, List.getD_cons_zero, List.getD_cons_succ, List.set_cons_zero, List.set_cons_succ, List.length_cons, List.length_nil, pk_I, pk_A, pr_A, pi_I, st_s, st_n, if_true, if_false, eq_self, d_if, d_ju, d_re, d_ca, cat0, cat1, cat2, cat3, fr_z, fr_s, cc_I, cc_A, cc_N, Nat.reduceAdd, Nat.reduceLT, Nat.reduceLeDiff, Nat.reduceEqDiff, not_true, not_false_iff, z1_0, z1_1, Bool.and_self, Bool.true_and, Bool.and_true, nI_add, pk_mul, nI_clamp, decide_true, Nat.le_refl, bI_eq, bI_z1, nI_ltI, nI_leI, am_u_at, am_u_ne, upd_at, upd_ne, nI_z, z_le, z_lt, g11, gk, hK, swm_20, e19]
  have gs : GS sd v v3 := GS_t (GS_8 f12) (GS_t gu (GS_8 f3))
  cases hr : (wantS E 4 (numS E 1 99 (takeS E (.inr t, l, p)))).1 with
  | inl f =>
    unfold MS' at s3
    rw [hr] at s3
    exact hB v3 w f gs (fun _ _ => rfl) hr s3
  | inr t' =>
    have hlt : t < t' := by
      obtain ⟨t1, e1, l1⟩ := mo_want hr
      obtain ⟨t2, e2, l2⟩ := mo_num e1
      obtain ⟨t3, e3, l3⟩ := mo_take e2
      cases e3
      omega
    have s3' : MG E v3 t' (wantS E 4 (numS E 1 99 (takeS E (.inr t, l, p)))).2.1 (wantS E 4 (numS E 1 99 (takeS E (.inr t, l, p)))).2.2 := by
      unfold MS' at s3
      rw [hr] at s3
      exact s3
    refine hQ v3 w t' gs (fun _ _ => rfl) hr hlt s3' (MDX_8 (t := t) ?_ f3 (by omega))
    obtain ⟨⟨p1, p2, p3, p4, p5⟩, h2, h3, h4, h5, a, br, h6, h7, h8, h9, h10, h11, h12, h13⟩ := MDX_8 hD f12 (Nat.le_refl _)
    refine ⟨⟨by rw [am_u_at, upd_at], by rw [am_u_ne (by omega)]; exact p2, by rw [am_u_ne (by omega)]; exact p3, p4, fun k k1 k6 p hp => by rw [am_u_ne (by omega)]; exact p5 k k1 k6 p hp⟩, by rw [am_u_ne (by omega)]; exact h2, by rw [am_u_ne (by omega)]; exact h3, by rw [am_u_ne (by omega)]; exact h4, h5, a, br, by rw [am_u_ne (by omega)]; exact h6, by rw [am_u_ne (by omega)]; exact h7, h8, h9, h10, h11, LWX_f h12 ⟨by rw [am_u_ne (by omega)], by rw [am_u_ne (by omega)]⟩ (fun k _ _ => ⟨by rw [am_u_ne (by omega)], by rw [am_u_ne (by omega)]⟩) (fun k _ _ => ⟨by rw [am_u_ne (by omega)], by rw [am_u_ne (by omega)], by rw [am_u_ne (by omega)], by rw [am_u_ne (by omega)], by rw [am_u_ne (by omega)]⟩) (Nat.le_refl _) (Nat.le_refl _), LWX_f h13 ⟨by rw [am_u_ne (by omega)], by rw [am_u_ne (by omega)]⟩ (fun k _ _ => ⟨by rw [am_u_ne (by omega)], by rw [am_u_ne (by omega)]⟩) (fun k _ _ => ⟨by rw [am_u_ne (by omega)], by rw [am_u_ne (by omega)], by rw [am_u_ne (by omega)], by rw [am_u_ne (by omega)], by rw [am_u_ne (by omega)]⟩) (Nat.le_refl _) (Nat.le_refl _)⟩
set_option maxHeartbeats 2000000 in
theorem r_tell24 {d : Nat} {v : Nat → Nat → Int32} {w : Nat → Nat → Int64} {Q : Option Value → am_H → Prop} {E : ENV} {t l p sd : Nat} {D : DRF} (hE : ME E v w) (hG : MG E v t l p) (hD : MDX sd v w D t) (hsd : sd < 2) (hk0 : eK E t ≠ 0) (hK : eK E t = 24) (hB : ∀ v' w' f, GS sd v v' → (∀ c, c ≠ 396 → w' c = w c) → (wantS E 4 (numS E 0 99 (takeS E (.inr t, l, p)))).1 = .inl f → MB v' f.1 f.2 → Q none (428, 26053, KD, RF, v', w')) (hQ : ∀ v' w' t', GS sd v v' → (∀ c, c ≠ 396 → w' c = w c) → (wantS E 4 (numS E 0 99 (takeS E (.inr t, l, p)))).1 = .inr t' → t < t' → MG E v' t' (wantS E 4 (numS E 0 99 (takeS E (.inr t, l, p)))).2.1 (wantS E 4 (numS E 0 99 (takeS E (.inr t, l, p)))).2.2 → MDX sd v' w' (D.1, numV E 0 (takeS E (.inr t, l, p)), D.2.2) t' → Q none (428, 26053, KD, RF, v', w')) : am_Ca (d + 9) M_Model_tell [.ref 388] (428, 26053, KD, RF, v, w) Q := by
  have hs : MS' E v (.inr t, l, p) := hG
  have g11 : v 388 11 = nI t := hG.1
  have gt : t ≤ eL E := hG.2.1
  have gL := hE.1.1
  have gk : v 391 t = nI (eK E t) := (hE.2 t gt).1
  have hkk : ∀ t', ((.inr t, l, p) : SG).1 = .inr t' → eK E t' ≠ 0 ∧ eK E t' ≠ 3 := by
    intro t' ht
    cases ht
    exact ⟨by omega, by omega⟩
  refine ca_in (k := k_Model_tell) (nL := 2) rfl (Nat.le_of_ble_eq_true rfl) ?_
  show am_Go am_X0 _ k_Model_tell 0 ([.ref 388, .null], [], _) _
  refine go_at (blk := b_Model_tell_0) rfl ?_
  simp (disch := omega) only [b_Model_tell_0, be_6, be_34, be_33, be_38, be_52, kc_388, rf_388_5, ka_391, List.getD_cons_zero, List.getD_cons_succ, List.set_cons_zero, List.set_cons_succ, List.length_cons, List.length_nil, pk_I, pk_A, pr_A, pi_I, st_s, st_n, if_true, if_false, eq_self, d_if, d_ju, d_re, d_ca, cat0, cat1, cat2, cat3, fr_z, fr_s, cc_I, cc_A, cc_N, Nat.reduceAdd, Nat.reduceLT, Nat.reduceLeDiff, Nat.reduceEqDiff, not_true, not_false_iff, z1_0, z1_1, Bool.and_self, Bool.true_and, Bool.and_true, nI_add, pk_mul, nI_clamp, decide_true, Nat.le_refl, bI_eq, bI_z1, nI_ltI, nI_leI, am_u_at, am_u_ne, upd_at, upd_ne, nI_z, z_le, z_lt, g11, gk, hK, swm_24]
  refine go_at (blk := b_Model_tell_130) rfl ?_
  simp (disch := omega) only [b_Model_tell_130, be_6, be_57_0, kc_388, List.getD_cons_zero, List.getD_cons_succ, List.set_cons_zero, List.set_cons_succ, List.length_cons, List.length_nil, pk_I, pk_A, pr_A, pi_I, st_s, st_n, if_true, if_false, eq_self, d_if, d_ju, d_re, d_ca, cat0, cat1, cat2, cat3, fr_z, fr_s, cc_I, cc_A, cc_N, Nat.reduceAdd, Nat.reduceLT, Nat.reduceLeDiff, Nat.reduceEqDiff, not_true, not_false_iff, z1_0, z1_1, Bool.and_self, Bool.true_and, Bool.and_true, nI_add, pk_mul, nI_clamp, decide_true, Nat.le_refl, bI_eq, bI_z1, nI_ltI, nI_leI, am_u_at, am_u_ne, upd_at, upd_ne, nI_z, z_le, z_lt, g11, gk, hK, swm_24]
  refine r_goesOn (s := (.inr t, l, p)) hE hs hkk ?_
  intro v1 f1 s1
  have hE1 := ME_8 hE f1
  have e19 : v1 388 19 = nI sd := by rw [f1.2 19 (by omega) (by omega) (by omega) (by omega) (by omega)]; exact hD.2.2.1
  refine go_at (blk := b_Model_tell_134) rfl ?_
  simp (disch := omega) only [b_Model_tell_134, be_6, be_34, be_33, be_1, be_57_2, kc_388, rf_388_30, List.getD_cons_zero, List.getD_cons_succ, List.set_cons_zero, List.set_cons_succ, List.length_cons, List.length_nil, pk_I, pk_A, pr_A, pi_I, st_s, st_n, if_true, if_false, eq_self, d_if, d_ju, d_re, d_ca, cat0, cat1, cat2, cat3, fr_z, fr_s, cc_I, cc_A, cc_N, Nat.reduceAdd, Nat.reduceLT, Nat.reduceLeDiff, Nat.reduceEqDiff, not_true, not_false_iff, z1_0, z1_1, Bool.and_self, Bool.true_and, Bool.and_true, nI_add, pk_mul, nI_clamp, decide_true, Nat.le_refl, bI_eq, bI_z1, nI_ltI, nI_leI, am_u_at, am_u_ne, upd_at, upd_ne, nI_z, z_le, z_lt, g11, gk, hK, swm_24, e19]
  refine r_bounded (lo := 0) (hi := 99) (s := takeS E (.inr t, l, p)) hE1 s1 (by omega) (by omega) ?_
  intro v2 f2 s2
  have f12 := G8_t f1 f2
  have gu : GS sd v2 (am_u v2 405 sd (nI (numV E 0 (takeS E (.inr t, l, p))))) := GS_u (Or.inr (Or.inl ⟨by omega, rfl⟩))
  have hE2 : ME E (am_u v2 405 sd (nI (numV E 0 (takeS E (.inr t, l, p))))) w := ME_S (ME_8 hE1 f2) gu (fun _ _ => rfl)
  have t2 : MS' E (am_u v2 405 sd (nI (numV E 0 (takeS E (.inr t, l, p))))) (numS E 0 99 (takeS E (.inr t, l, p))) := MS_w s2 (fun k hk => by rw [am_u_ne (by omega)])
  refine go_at (blk := b_Model_tell_149) rfl ?_
  simp (disch := omega) only [b_Model_tell_149, be_43, be_6, be_1, be_57_1, ka_405, kc_388, List.getD_cons_zero, List.getD_cons_succ, List.set_cons_zero, List.set_cons_succ, List.length_cons, List.length_nil, pk_I, pk_A, pr_A, pi_I, st_s, st_n, if_true, if_false, eq_self, d_if, d_ju, d_re, d_ca, cat0, cat1, cat2, cat3, fr_z, fr_s, cc_I, cc_A, cc_N, Nat.reduceAdd, Nat.reduceLT, Nat.reduceLeDiff, Nat.reduceEqDiff, not_true, not_false_iff, z1_0, z1_1, Bool.and_self, Bool.true_and, Bool.and_true, nI_add, pk_mul, nI_clamp, decide_true, Nat.le_refl, bI_eq, bI_z1, nI_ltI, nI_leI, am_u_at, am_u_ne, upd_at, upd_ne, nI_z, z_le, z_lt, g11, gk, hK, swm_24, e19]
  refine r_must (s := numS E 0 99 (takeS E (.inr t, l, p))) (j := 4) hE2 t2 (by omega) (by omega) (by omega) ?_
  intro v3 f3 s3
  refine go_at (blk := b_Model_tell_155) rfl ?_
  simp (disch := omega) only [b_Model_tell_155, be_51, List.getD_cons_zero, List.getD_cons_succ, List.set_cons_zero, List.set_cons_succ, List.length_cons, List.length_nil, pk_I, pk_A, pr_A, pi_I, st_s, st_n, if_true, if_false, eq_self, d_if, d_ju, d_re, d_ca, cat0, cat1, cat2, cat3, fr_z, fr_s, cc_I, cc_A, cc_N, Nat.reduceAdd, Nat.reduceLT, Nat.reduceLeDiff, Nat.reduceEqDiff, not_true, not_false_iff, z1_0, z1_1, Bool.and_self, Bool.true_and, Bool.and_true, nI_add, pk_mul, nI_clamp, decide_true, Nat.le_refl, bI_eq, bI_z1, nI_ltI, nI_leI, am_u_at, am_u_ne, upd_at, upd_ne, nI_z, z_le, z_lt, g11, gk, hK, swm_24, e19]
  refine go_at (blk := b_Model_tell_163) rfl ?_
  simp (disch := omega) only [b_Model_tell_163, be_56, List.getD_cons_zero, List.getD_cons_succ, List.set_cons_zero, List.set_cons_succ, List.length_cons, List.length_nil, pk_I, pk_A, pr_A, pi_I, st_s, st_n, if_true, if_false, eq_self, d_if, d_ju, d_re, d_ca, cat0, cat1, cat2, cat3, fr_z, fr_s, cc_I, cc_A, cc_N, Nat.reduceAdd, Nat.reduceLT, Nat.reduceLeDiff, Nat.reduceEqDiff, not_true, not_false_iff, z1_0, z1_1, Bool.and_self, Bool.true_and, Bool.and_true, nI_add, pk_mul, nI_clamp, decide_true, Nat.le_refl, bI_eq, bI_z1, nI_ltI, nI_leI, am_u_at, am_u_ne, upd_at, upd_ne, nI_z, z_le, z_lt, g11, gk, hK, swm_24, e19]
  have gs : GS sd v v3 := GS_t (GS_8 f12) (GS_t gu (GS_8 f3))
  cases hr : (wantS E 4 (numS E 0 99 (takeS E (.inr t, l, p)))).1 with
  | inl f =>
    unfold MS' at s3
    rw [hr] at s3
    exact hB v3 w f gs (fun _ _ => rfl) hr s3
  | inr t' =>
    have hlt : t < t' := by
      obtain ⟨t1, e1, l1⟩ := mo_want hr
      obtain ⟨t2, e2, l2⟩ := mo_num e1
      obtain ⟨t3, e3, l3⟩ := mo_take e2
      cases e3
      omega
    have s3' : MG E v3 t' (wantS E 4 (numS E 0 99 (takeS E (.inr t, l, p)))).2.1 (wantS E 4 (numS E 0 99 (takeS E (.inr t, l, p)))).2.2 := by
      unfold MS' at s3
      rw [hr] at s3
      exact s3
    refine hQ v3 w t' gs (fun _ _ => rfl) hr hlt s3' (MDX_8 (t := t) ?_ f3 (by omega))
    obtain ⟨⟨p1, p2, p3, p4, p5⟩, h2, h3, h4, h5, a, br, h6, h7, h8, h9, h10, h11, h12, h13⟩ := MDX_8 hD f12 (Nat.le_refl _)
    refine ⟨⟨by rw [am_u_ne (by omega)]; exact p1, by rw [am_u_at, upd_at], by rw [am_u_ne (by omega)]; exact p3, p4, fun k k1 k6 p hp => by rw [am_u_ne (by omega)]; exact p5 k k1 k6 p hp⟩, by rw [am_u_ne (by omega)]; exact h2, by rw [am_u_ne (by omega)]; exact h3, by rw [am_u_ne (by omega)]; exact h4, h5, a, br, by rw [am_u_ne (by omega)]; exact h6, by rw [am_u_ne (by omega)]; exact h7, h8, h9, h10, h11, LWX_f h12 ⟨by rw [am_u_ne (by omega)], by rw [am_u_ne (by omega)]⟩ (fun k _ _ => ⟨by rw [am_u_ne (by omega)], by rw [am_u_ne (by omega)]⟩) (fun k _ _ => ⟨by rw [am_u_ne (by omega)], by rw [am_u_ne (by omega)], by rw [am_u_ne (by omega)], by rw [am_u_ne (by omega)], by rw [am_u_ne (by omega)]⟩) (Nat.le_refl _) (Nat.le_refl _), LWX_f h13 ⟨by rw [am_u_ne (by omega)], by rw [am_u_ne (by omega)]⟩ (fun k _ _ => ⟨by rw [am_u_ne (by omega)], by rw [am_u_ne (by omega)]⟩) (fun k _ _ => ⟨by rw [am_u_ne (by omega)], by rw [am_u_ne (by omega)], by rw [am_u_ne (by omega)], by rw [am_u_ne (by omega)], by rw [am_u_ne (by omega)]⟩) (Nat.le_refl _) (Nat.le_refl _)⟩
set_option maxHeartbeats 2000000 in
theorem r_tell21f {d : Nat} {v : Nat → Nat → Int32} {w : Nat → Nat → Int64} {Q : Option Value → am_H → Prop} {E : ENV} {t l p sd : Nat} {D : DRF} (hE : ME E v w) (hG : MG E v t l p) (hD : MDX sd v w D t) (hsd : sd < 2) (hk0 : eK E t ≠ 0) (hK : eK E t = 21) (h8 : D.2.2.1 = 8) (hB : ∀ v' w' f, GS sd v v' → (∀ c, c ≠ 396 → w' c = w c) → ((.inl (2, eP E t), l, p) : SG).1 = .inl f → MB v' f.1 f.2 → Q none (428, 26053, KD, RF, v', w')) : am_Ca (d + 9) M_Model_tell [.ref 388] (428, 26053, KD, RF, v, w) Q := by
  have hs : MS' E v (.inr t, l, p) := hG
  have g11 : v 388 11 = nI t := hG.1
  have gt : t ≤ eL E := hG.2.1
  have gL := hE.1.1
  have gk : v 391 t = nI (eK E t) := (hE.2 t gt).1
  have h19 : v 388 19 = nI sd := hD.2.2.1
  have h398 : v 398 sd = nI D.2.2.1 := hD.1.2.2.1
  refine ca_in (k := k_Model_tell) (nL := 2) rfl (Nat.le_of_ble_eq_true rfl) ?_
  show am_Go am_X0 _ k_Model_tell 0 ([.ref 388, .null], [], _) _
  refine go_at (blk := b_Model_tell_0) rfl ?_
  simp (disch := omega) only [b_Model_tell_0, be_6, be_34, be_33, be_38, be_52, kc_388, rf_388_5, ka_391, List.getD_cons_zero, List.getD_cons_succ, List.set_cons_zero, List.set_cons_succ, List.length_cons, List.length_nil, pk_I, pk_A, pr_A, pi_I, st_s, st_n, if_true, if_false, eq_self, d_if, d_ju, d_re, d_ca, cat0, cat1, cat2, cat3, fr_z, fr_s, cc_I, cc_A, cc_N, Nat.reduceAdd, Nat.reduceLT, Nat.reduceLeDiff, Nat.reduceEqDiff, not_true, not_false_iff, z1_0, z1_1, Bool.and_self, Bool.true_and, Bool.and_true, nI_add, pk_mul, nI_clamp, decide_true, Nat.le_refl, bI_eq, bI_z1, nI_ltI, nI_leI, am_u_at, am_u_ne, upd_at, upd_ne, nI_z, z_le, z_lt, g11, gk, hK, swm_21, h19, h398, h8]
  refine go_at (blk := b_Model_tell_72) rfl ?_
  simp (disch := omega) only [b_Model_tell_72, be_6, be_34, be_33, be_38, be_1, be_49_1, kc_388, rf_388_23, ka_398, List.getD_cons_zero, List.getD_cons_succ, List.set_cons_zero, List.set_cons_succ, List.length_cons, List.length_nil, pk_I, pk_A, pr_A, pi_I, st_s, st_n, if_true, if_false, eq_self, d_if, d_ju, d_re, d_ca, cat0, cat1, cat2, cat3, fr_z, fr_s, cc_I, cc_A, cc_N, Nat.reduceAdd, Nat.reduceLT, Nat.reduceLeDiff, Nat.reduceEqDiff, not_true, not_false_iff, z1_0, z1_1, Bool.and_self, Bool.true_and, Bool.and_true, nI_add, pk_mul, nI_clamp, decide_true, Nat.le_refl, bI_eq, bI_z1, nI_ltI, nI_leI, am_u_at, am_u_ne, upd_at, upd_ne, nI_z, z_le, z_lt, g11, gk, hK, swm_21, h19, h398, h8]
  refine go_at (blk := b_Model_tell_86) rfl ?_
  simp (disch := omega) only [b_Model_tell_86, be_6, be_1, be_57_1, kc_388, List.getD_cons_zero, List.getD_cons_succ, List.set_cons_zero, List.set_cons_succ, List.length_cons, List.length_nil, pk_I, pk_A, pr_A, pi_I, st_s, st_n, if_true, if_false, eq_self, d_if, d_ju, d_re, d_ca, cat0, cat1, cat2, cat3, fr_z, fr_s, cc_I, cc_A, cc_N, Nat.reduceAdd, Nat.reduceLT, Nat.reduceLeDiff, Nat.reduceEqDiff, not_true, not_false_iff, z1_0, z1_1, Bool.and_self, Bool.true_and, Bool.and_true, nI_add, pk_mul, nI_clamp, decide_true, Nat.le_refl, bI_eq, bI_z1, nI_ltI, nI_leI, am_u_at, am_u_ne, upd_at, upd_ne, nI_z, z_le, z_lt, g11, gk, hK, swm_21, h19, h398, h8]
  refine r_fail (s := (.inr t, l, p)) hE hs (by omega) (by omega) ?_
  intro v1 f1 s1
  have s1 : MB v1 2 (eP E t) := s1
  have b13 : v1 388 13 = nI 2 := s1.1
  have b2 : ¬ nI 2 = 0 := by decide
  refine go_at (blk := b_Model_tell_91) rfl ?_
  simp (disch := omega) only [b_Model_tell_91, be_6, be_33, be_50_1, kc_388, List.getD_cons_zero, List.getD_cons_succ, List.set_cons_zero, List.set_cons_succ, List.length_cons, List.length_nil, pk_I, pk_A, pr_A, pi_I, st_s, st_n, if_true, if_false, eq_self, d_if, d_ju, d_re, d_ca, cat0, cat1, cat2, cat3, fr_z, fr_s, cc_I, cc_A, cc_N, Nat.reduceAdd, Nat.reduceLT, Nat.reduceLeDiff, Nat.reduceEqDiff, not_true, not_false_iff, z1_0, z1_1, Bool.and_self, Bool.true_and, Bool.and_true, nI_add, pk_mul, nI_clamp, decide_true, Nat.le_refl, bI_eq, bI_z1, nI_ltI, nI_leI, am_u_at, am_u_ne, upd_at, upd_ne, nI_z, z_le, z_lt, g11, gk, hK, swm_21, h19, h398, h8, b13, b2]
  refine go_at (blk := b_Model_tell_163) rfl ?_
  simp (disch := omega) only [b_Model_tell_163, be_56, List.getD_cons_zero, List.getD_cons_succ, List.set_cons_zero, List.set_cons_succ, List.length_cons, List.length_nil, pk_I, pk_A, pr_A, pi_I, st_s, st_n, if_true, if_false, eq_self, d_if, d_ju, d_re, d_ca, cat0, cat1, cat2, cat3, fr_z, fr_s, cc_I, cc_A, cc_N, Nat.reduceAdd, Nat.reduceLT, Nat.reduceLeDiff, Nat.reduceEqDiff, not_true, not_false_iff, z1_0, z1_1, Bool.and_self, Bool.true_and, Bool.and_true, nI_add, pk_mul, nI_clamp, decide_true, Nat.le_refl, bI_eq, bI_z1, nI_ltI, nI_leI, am_u_at, am_u_ne, upd_at, upd_ne, nI_z, z_le, z_lt, g11, gk, hK, swm_21, h19, h398, h8, b13, b2]
  exact hB v1 w (2, eP E t) (GS_8 f1) (fun _ _ => rfl) rfl s1
set_option maxHeartbeats 4000000 in
theorem r_tell21 {d : Nat} {v : Nat → Nat → Int32} {w : Nat → Nat → Int64} {Q : Option Value → am_H → Prop} {E : ENV} {t l p sd : Nat} {D : DRF} (hE : ME E v w) (hG : MG E v t l p) (hD : MDX sd v w D t) (hsd : sd < 2) (hk0 : eK E t ≠ 0) (hK : eK E t = 21) (h8 : D.2.2.1 < 8) (hB : ∀ v' w' f, GS sd v v' → (∀ c, c ≠ 396 → w' c = w c) → (wantS E 4 (pl8 E (D.2.2.2.1 0) D.2.2.1 (.inr t, l, p))).1 = .inl f → MB v' f.1 f.2 → Q none (428, 26053, KD, RF, v', w')) (hQ : ∀ v' w' t', GS sd v v' → (∀ c, c ≠ 396 → w' c = w c) → (wantS E 4 (pl8 E (D.2.2.2.1 0) D.2.2.1 (.inr t, l, p))).1 = .inr t' → t < t' → MG E v' t' (wantS E 4 (pl8 E (D.2.2.2.1 0) D.2.2.1 (.inr t, l, p))).2.1 (wantS E 4 (pl8 E (D.2.2.2.1 0) D.2.2.1 (.inr t, l, p))).2.2 → MDX sd v' w' (D.1, D.2.1, D.2.2.1 + 1, updR D.2.2.2.1 D.2.2.1 (plF E (D.2.2.2.1 0) D.2.2.1 (.inr t, l, p)), D.2.2.2.2) t' → Q none (428, 26053, KD, RF, v', w')) : am_Ca (d + 9) M_Model_tell [.ref 388] (428, 26053, KD, RF, v, w) Q := by
  have hs : MS' E v (.inr t, l, p) := hG
  have g11 : v 388 11 = nI t := hG.1
  have gt : t ≤ eL E := hG.2.1
  have gL := hE.1.1
  have gk : v 391 t = nI (eK E t) := (hE.2 t gt).1
  have hkk : ∀ t', ((.inr t, l, p) : SG).1 = .inr t' → eK E t' ≠ 0 ∧ eK E t' ≠ 3 := by
    intro t' ht
    cases ht
    exact ⟨by omega, by omega⟩
  obtain ⟨⟨p1, p2, h398, p4, p5⟩, h2, h19, h20, h5, hlw⟩ := hD
  have hne : ¬ D.2.2.1 = 8 := by omega
  have g13 : v 388 13 = nI 0 := hG.2.2.1
  refine ca_in (k := k_Model_tell) (nL := 2) rfl (Nat.le_of_ble_eq_true rfl) ?_
  show am_Go am_X0 _ k_Model_tell 0 ([.ref 388, .null], [], _) _
  refine go_at (blk := b_Model_tell_0) rfl ?_
  simp (disch := omega) only [b_Model_tell_0, be_6, be_34, be_33, be_38, be_52, kc_388, rf_388_5, ka_391, List.getD_cons_zero, List.getD_cons_succ, List.set_cons_zero, List.set_cons_succ, List.length_cons, List.length_nil, pk_I, pk_A, pr_A, pi_I, st_s, st_n, if_true, if_false, eq_self, d_if, d_ju, d_re, d_ca, cat0, cat1, cat2, cat3, fr_z, fr_s, cc_I, cc_A, cc_N, Nat.reduceAdd, Nat.reduceLT, Nat.reduceLeDiff, Nat.reduceEqDiff, not_true, not_false_iff, z1_0, z1_1, Bool.and_self, Bool.true_and, Bool.and_true, nI_add, pk_mul, nI_clamp, decide_true, Nat.le_refl, bI_eq, bI_z1, nI_ltI, nI_leI, am_u_at, am_u_ne, upd_at, upd_ne, nI_z, z_le, z_lt, g11, gk, hK, swm_21, h19, h398, hne, g13, nI_eq]
  refine go_at (blk := b_Model_tell_72) rfl ?_
  simp (disch := omega) only [b_Model_tell_72, be_6, be_34, be_33, be_38, be_1, be_49_1, kc_388, rf_388_23, ka_398, List.getD_cons_zero, List.getD_cons_succ, List.set_cons_zero, List.set_cons_succ, List.length_cons, List.length_nil, pk_I, pk_A, pr_A, pi_I, st_s, st_n, if_true, if_false, eq_self, d_if, d_ju, d_re, d_ca, cat0, cat1, cat2, cat3, fr_z, fr_s, cc_I, cc_A, cc_N, Nat.reduceAdd, Nat.reduceLT, Nat.reduceLeDiff, Nat.reduceEqDiff, not_true, not_false_iff, z1_0, z1_1, Bool.and_self, Bool.true_and, Bool.and_true, nI_add, pk_mul, nI_clamp, decide_true, Nat.le_refl, bI_eq, bI_z1, nI_ltI, nI_leI, am_u_at, am_u_ne, upd_at, upd_ne, nI_z, z_le, z_lt, g11, gk, hK, swm_21, h19, h398, hne, g13, nI_eq]
  refine go_at (blk := b_Model_tell_91) rfl ?_
  simp (disch := omega) only [b_Model_tell_91, be_6, be_33, be_50_1, kc_388, List.getD_cons_zero, List.getD_cons_succ, List.set_cons_zero, List.set_cons_succ, List.length_cons, List.length_nil, pk_I, pk_A, pr_A, pi_I, st_s, st_n, if_true, if_false, eq_self, d_if, d_ju, d_re, d_ca, cat0, cat1, cat2, cat3, fr_z, fr_s, cc_I, cc_A, cc_N, Nat.reduceAdd, Nat.reduceLT, Nat.reduceLeDiff, Nat.reduceEqDiff, not_true, not_false_iff, z1_0, z1_1, Bool.and_self, Bool.true_and, Bool.and_true, nI_add, pk_mul, nI_clamp, decide_true, Nat.le_refl, bI_eq, bI_z1, nI_ltI, nI_leI, am_u_at, am_u_ne, upd_at, upd_ne, nI_z, z_le, z_lt, g11, gk, hK, swm_21, h19, h398, hne, g13, nI_eq]
  refine go_at (blk := b_Model_tell_98) rfl ?_
  simp (disch := omega) only [b_Model_tell_98, be_6, be_57_0, kc_388, List.getD_cons_zero, List.getD_cons_succ, List.set_cons_zero, List.set_cons_succ, List.length_cons, List.length_nil, pk_I, pk_A, pr_A, pi_I, st_s, st_n, if_true, if_false, eq_self, d_if, d_ju, d_re, d_ca, cat0, cat1, cat2, cat3, fr_z, fr_s, cc_I, cc_A, cc_N, Nat.reduceAdd, Nat.reduceLT, Nat.reduceLeDiff, Nat.reduceEqDiff, not_true, not_false_iff, z1_0, z1_1, Bool.and_self, Bool.true_and, Bool.and_true, nI_add, pk_mul, nI_clamp, decide_true, Nat.le_refl, bI_eq, bI_z1, nI_ltI, nI_leI, am_u_at, am_u_ne, upd_at, upd_ne, nI_z, z_le, z_lt, g11, gk, hK, swm_21, h19, h398, hne, g13, nI_eq]
  refine r_tellPil (s := (.inr t, l, p)) (nm := D.2.2.2.1 0) (n := D.2.2.1) (sd := sd) hE hs hkk hsd h8 h19 h20 h398 h5 (fun v1 f g1 s1 hr => ?_) (fun v1 t' g1 s1 hr => ?_)
  ·
    refine go_at (blk := b_Model_tell_102) rfl ?_
    simp (disch := omega) only [b_Model_tell_102, be_51, List.getD_cons_zero, List.getD_cons_succ, List.set_cons_zero, List.set_cons_succ, List.length_cons, List.length_nil, pk_I, pk_A, pr_A, pi_I, st_s, st_n, if_true, if_false, eq_self, d_if, d_ju, d_re, d_ca, cat0, cat1, cat2, cat3, fr_z, fr_s, cc_I, cc_A, cc_N, Nat.reduceAdd, Nat.reduceLT, Nat.reduceLeDiff, Nat.reduceEqDiff, not_true, not_false_iff, z1_0, z1_1, Bool.and_self, Bool.true_and, Bool.and_true, nI_add, pk_mul, nI_clamp, decide_true, Nat.le_refl, bI_eq, bI_z1, nI_ltI, nI_leI]
    refine go_at (blk := b_Model_tell_163) rfl ?_
    simp (disch := omega) only [b_Model_tell_163, be_56, List.getD_cons_zero, List.getD_cons_succ, List.set_cons_zero, List.set_cons_succ, List.length_cons, List.length_nil, pk_I, pk_A, pr_A, pi_I, st_s, st_n, if_true, if_false, eq_self, d_if, d_ju, d_re, d_ca, cat0, cat1, cat2, cat3, fr_z, fr_s, cc_I, cc_A, cc_N, Nat.reduceAdd, Nat.reduceLT, Nat.reduceLeDiff, Nat.reduceEqDiff, not_true, not_false_iff, z1_0, z1_1, Bool.and_self, Bool.true_and, Bool.and_true, nI_add, pk_mul, nI_clamp, decide_true, Nat.le_refl, bI_eq, bI_z1, nI_ltI, nI_leI]
    unfold MS' at s1
    rw [hr] at s1
    exact hB v1 w f (GS_t (GS_t (GS_t (GS_t (GS_t (GS_t (GS_t (GS_u (Or.inr (Or.inr (Or.inl ⟨by omega, by omega, by omega, by omega⟩)))) (GS_u (Or.inr (Or.inr (Or.inl ⟨by omega, by omega, by omega, by omega⟩))))) (GS_u (Or.inr (Or.inr (Or.inl ⟨by omega, by omega, by omega, by omega⟩))))) (GS_u (Or.inr (Or.inr (Or.inl ⟨by omega, by omega, by omega, by omega⟩))))) (GS_u (Or.inr (Or.inr (Or.inl ⟨by omega, by omega, by omega, by omega⟩))))) (GS_u (Or.inr (Or.inr (Or.inl ⟨by omega, by omega, by omega, by omega⟩))))) (GS_8 g1)) GS_r) (fun _ _ => rfl) hr s1
  ·
    refine go_at (blk := b_Model_tell_102) rfl ?_
    simp (disch := omega) only [b_Model_tell_102, be_51, List.getD_cons_zero, List.getD_cons_succ, List.set_cons_zero, List.set_cons_succ, List.length_cons, List.length_nil, pk_I, pk_A, pr_A, pi_I, st_s, st_n, if_true, if_false, eq_self, d_if, d_ju, d_re, d_ca, cat0, cat1, cat2, cat3, fr_z, fr_s, cc_I, cc_A, cc_N, Nat.reduceAdd, Nat.reduceLT, Nat.reduceLeDiff, Nat.reduceEqDiff, not_true, not_false_iff, z1_0, z1_1, Bool.and_self, Bool.true_and, Bool.and_true, nI_add, pk_mul, nI_clamp, decide_true, Nat.le_refl, bI_eq, bI_z1, nI_ltI, nI_leI]
    refine go_at (blk := b_Model_tell_163) rfl ?_
    simp (disch := omega) only [b_Model_tell_163, be_56, List.getD_cons_zero, List.getD_cons_succ, List.set_cons_zero, List.set_cons_succ, List.length_cons, List.length_nil, pk_I, pk_A, pr_A, pi_I, st_s, st_n, if_true, if_false, eq_self, d_if, d_ju, d_re, d_ca, cat0, cat1, cat2, cat3, fr_z, fr_s, cc_I, cc_A, cc_N, Nat.reduceAdd, Nat.reduceLT, Nat.reduceLeDiff, Nat.reduceEqDiff, not_true, not_false_iff, z1_0, z1_1, Bool.and_self, Bool.true_and, Bool.and_true, nI_add, pk_mul, nI_clamp, decide_true, Nat.le_refl, bI_eq, bI_z1, nI_ltI, nI_leI]
    have hlt : t < t' := by
      obtain ⟨t1, e1, l1⟩ := mo_want hr
      obtain ⟨t2, e2, l2⟩ := mo_pl e1
      cases e2
      omega
    have s2 : MG E v1 t' (wantS E 4 (pl8 E (D.2.2.2.1 0) D.2.2.1 (.inr t, l, p))).2.1 (wantS E 4 (pl8 E (D.2.2.2.1 0) D.2.2.1 (.inr t, l, p))).2.2 := by
      unfold MS' at s1
      rw [hr] at s1
      exact s1
    have gs1 : GS sd v v1 := GS_t (GS_t (GS_t (GS_t (GS_t (GS_t (GS_t (GS_u (Or.inr (Or.inr (Or.inl ⟨by omega, by omega, by omega, by omega⟩)))) (GS_u (Or.inr (Or.inr (Or.inl ⟨by omega, by omega, by omega, by omega⟩))))) (GS_u (Or.inr (Or.inr (Or.inl ⟨by omega, by omega, by omega, by omega⟩))))) (GS_u (Or.inr (Or.inr (Or.inl ⟨by omega, by omega, by omega, by omega⟩))))) (GS_u (Or.inr (Or.inr (Or.inl ⟨by omega, by omega, by omega, by omega⟩))))) (GS_u (Or.inr (Or.inr (Or.inl ⟨by omega, by omega, by omega, by omega⟩))))) (GS_8 g1)) GS_r
    have gs2 : GS sd v1 (am_u (am_u v1 388 20 (nI (D.2.2.1 + 1))) 398 sd (nI (D.2.2.1 + 1))) := GS_t (GS_u (Or.inl ⟨rfl, rfl⟩)) (GS_u (Or.inr (Or.inl ⟨by omega, rfl⟩)))
    refine hQ (am_u (am_u v1 388 20 (nI (D.2.2.1 + 1))) 398 sd (nI (D.2.2.1 + 1))) _ t' (GS_t gs1 gs2) (fun c hc => by rw [uL_ne hc]) hr hlt ?_ ?_
    · exact MS_w (s := (.inr t', (wantS E 4 (pl8 E (D.2.2.2.1 0) D.2.2.1 (.inr t, l, p))).2)) s2 (fun k hk => by rw [am_u_ne (by omega), am_u_at, upd_ne (by omega)])
    obtain ⟨a, br, h6, h7, h8', h9, h10, h11, h12, h13⟩ := hlw
    have fc : ∀ c, 405 ≤ c → c ≤ 414 → (am_u (am_u v1 388 20 (nI (D.2.2.1 + 1))) 398 sd (nI (D.2.2.1 + 1))) c = v c := by
      intro c c1 c2
      rw [am_u_ne (by omega), am_u_ne (by omega), g1.1 c (by omega)]
      simp (disch := omega) only [am_u_ne]
    have f8 : ∀ k, k ≠ 11 → k ≠ 13 → k ≠ 14 → k ≠ 15 → k ≠ 16 → k ≠ 20 → (am_u (am_u v1 388 20 (nI (D.2.2.1 + 1))) 398 sd (nI (D.2.2.1 + 1))) 388 k = v 388 k := by
      intro k k1 k2 k3 k4 k5 k6
      rw [am_u_ne (by omega), am_u_at, upd_ne k6, g1.2 k k1 k2 k3 k4 k5]
      simp (disch := omega) only [am_u_ne]
    have e0 : ∀ x, (am_u (am_u v1 388 20 (nI (D.2.2.1 + 1))) 398 sd (nI (D.2.2.1 + 1))) 406 x = v 406 x ∧ (am_u (am_u v1 388 20 (nI (D.2.2.1 + 1))) 398 sd (nI (D.2.2.1 + 1))) 407 x = v 407 x := fun x => ⟨by rw [fc 406 (by omega) (by omega)], by rw [fc 407 (by omega) (by omega)]⟩
    have e1 : ∀ k, (am_u (am_u v1 388 20 (nI (D.2.2.1 + 1))) 398 sd (nI (D.2.2.1 + 1))) 413 k = v 413 k ∧ (am_u (am_u v1 388 20 (nI (D.2.2.1 + 1))) 398 sd (nI (D.2.2.1 + 1))) 414 k = v 414 k := fun x => ⟨by rw [fc 413 (by omega) (by omega)], by rw [fc 414 (by omega) (by omega)]⟩
    have e2 : ∀ k, (am_u (am_u v1 388 20 (nI (D.2.2.1 + 1))) 398 sd (nI (D.2.2.1 + 1))) 408 k = v 408 k ∧ (am_u (am_u v1 388 20 (nI (D.2.2.1 + 1))) 398 sd (nI (D.2.2.1 + 1))) 409 k = v 409 k ∧ (am_u (am_u v1 388 20 (nI (D.2.2.1 + 1))) 398 sd (nI (D.2.2.1 + 1))) 410 k = v 410 k ∧ (am_u (am_u v1 388 20 (nI (D.2.2.1 + 1))) 398 sd (nI (D.2.2.1 + 1))) 411 k = v 411 k ∧ (am_u (am_u v1 388 20 (nI (D.2.2.1 + 1))) 398 sd (nI (D.2.2.1 + 1))) 412 k = v 412 k := fun k => ⟨by rw [fc 408 (by omega) (by omega)], by rw [fc 409 (by omega) (by omega)], by rw [fc 410 (by omega) (by omega)], by rw [fc 411 (by omega) (by omega)], by rw [fc 412 (by omega) (by omega)]⟩
    refine ⟨⟨?_, ?_, ?_, ?_, ?_⟩, ?_, ?_, ?_, ?_, a, br, ?_, ?_, h8', by omega, h10, by omega, LWX_f h12 (e0 _) (fun k _ _ => e1 k) (fun k _ _ => e2 k) (Nat.le_refl _) (Nat.le_refl _), LWX_f h13 (e0 _) (fun k _ _ => e1 k) (fun k _ _ => e2 k) (Nat.le_refl _) (Nat.le_refl _)⟩
    · rw [am_u_ne (by omega), am_u_ne (by omega), g1.1 397 (by omega)]
      simp (disch := omega) only [am_u_ne]
      exact p1
    · rw [fc 405 (by omega) (by omega)]
      exact p2
    · rw [am_u_at, upd_at]
    · show D.2.2.1 + 1 ≤ 8
      omega
    · intro k k1 k6 q hq
      dsimp only at hq ⊢
      rw [am_u_ne (by omega), am_u_ne (by omega), g1.1 (398 + k) (by omega)]
      unfold updR
      by_cases e : q = D.2.2.1
      · rw [e, if_pos rfl]
        have z6 : k = 1 ∨ k = 2 ∨ k = 3 ∨ k = 4 ∨ k = 5 ∨ k = 6 := by omega
        rcases z6 with rfl | rfl | rfl | rfl | rfl | rfl <;> simp (disch := omega) only [Nat.reduceAdd, am_u_ne, am_u_at, upd_at] <;> first | rfl | (unfold plF; rw [if_neg (by omega), if_neg (by omega), if_neg (by omega), if_neg (by omega), if_neg (by omega), if_neg (by omega)]; exact bI_n)
      · rw [if_neg e, ← p5 k k1 k6 q (by omega)]
        have z6 : k = 1 ∨ k = 2 ∨ k = 3 ∨ k = 4 ∨ k = 5 ∨ k = 6 := by omega
        rcases z6 with rfl | rfl | rfl | rfl | rfl | rfl <;> simp (disch := omega) only [Nat.reduceAdd, am_u_ne, am_u_at, upd_ne]
    · rw [f8 12 (by omega) (by omega) (by omega) (by omega) (by omega) (by omega)]
      exact h2
    · rw [f8 19 (by omega) (by omega) (by omega) (by omega) (by omega) (by omega)]
      exact h19
    · rw [am_u_ne (by omega), am_u_at, upd_at]
    · intro i hi
      rw [uL_at]
      dsimp only at hi ⊢
      unfold updR
      by_cases e : i = D.2.2.1
      · rw [e, pk_uLs, if_pos rfl]
        refine ⟨rfl, ?_⟩
        show nameV E (pl1 E (.inr t, l, p)) < 2 ^ 63
        exact nm_lt hE.1 (fun t' ht => by
          obtain ⟨t0, e0, l0⟩ := mo_take ht
          cases e0
          have := ev_s hE.1 gt hk0 (by omega) (by
            have := tk_lt ht
            omega)
          omega)
      · rw [pk_uLn e, if_neg e]
        exact h5 i (by omega)
    · rw [f8 39 (by omega) (by omega) (by omega) (by omega) (by omega) (by omega)]
      exact h6
    · rw [f8 33 (by omega) (by omega) (by omega) (by omega) (by omega) (by omega)]
      exact h7
