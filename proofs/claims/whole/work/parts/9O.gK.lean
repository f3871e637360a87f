/-! laid by wip/whole/gK.py: the reference: a LAW, behind a fault -/
theorem GB_m {K0 J0 B b0 br : Nat} {v v' : Nat → Nat → Int32} (h : GB K0 J0 B br v v') (hb : b0 ≤ br) : GB K0 J0 B b0 v v' := ⟨h.1, h.2.1, h.2.2.1, fun k hk => h.2.2.2 k (by omega)⟩
theorem GB_8 {K0 J0 B br : Nat} {v v' : Nat → Nat → Int32} (h : G8 v v') : GB K0 J0 B br v v' := GB_U (GU_8 h)
theorem lawM143 {d : Nat} {v : Nat → Nat → Int32} {w : Nat → Nat → Int64} {Q : Option Value → am_H → Prop} {E : ENV} {l p B b0 br K0 J0 : Nat} (hJ : J0 ≤ 130) {e : Nat × Nat} {k f0 i0 : Int32} (hE : ME E v w) (hs : MS' E v (.inl e, l, p)) (h33 : v 388 33 = nI br) (hb0 : b0 ≤ br) (hbr : br ≤ J0 + 130) (hQ : ∀ v', GB K0 J0 B b0 v v' → MS' E v' (.inl e, l, p) → Q none (428, 26053, KD, RF, v', w)) : am_Go am_X0 (d + 5) k_Model_tellLaw 143 ([.ref 388, .int k, .int f0, .int i0], [], (428, 26053, KD, RF, v, w)) Q := by
  have hk0 : ¬ nI e.1 = 0 := nI_ne0 hs.2.1 (by have := hs.2.2.1; omega)
  have hk1 : ¬ nI e.1 ≤ 0 := nI_nle hs.2.1 (by have := hs.2.2.1; omega)
  refine go_at (blk := b_Model_tellLaw_143) rfl ?_
  simp (disch := omega) only [b_Model_tellLaw_143, be_6, be_1, be_57_1, kc_388, List.getD_cons_zero, List.getD_cons_succ, List.set_cons_zero, List.set_cons_succ, List.length_cons, List.length_nil, pk_I, pk_A, pr_A, pi_I, st_s, st_n, if_true, if_false, eq_self, d_if, d_ju, d_re, d_ca, cat0, cat1, cat2, cat3, fr_z, fr_s, cc_I, cc_A, cc_N, Nat.reduceAdd, Nat.reduceLT, Nat.reduceLeDiff, Nat.reduceEqDiff, not_true, not_false_iff, z1_0, z1_1, Bool.and_self, Bool.true_and, Bool.and_true, nI_add, pk_mul, nI_clamp, decide_true, Nat.le_refl, bI_eq, bI_z1, nI_ltI, nI_leI, hk1]
  refine r_must (j := 4) hE hs (by omega) (by omega) (by omega) ?_
  intro v1 f1 s1
  have s1 : MS' E v1 (.inl e, l, p) := s1
  have e33 : v1 388 33 = nI br := by rw [f1.2 33 (by omega) (by omega) (by omega) (by omega) (by omega)]; exact h33
  have b13 : v1 388 13 = nI e.1 := s1.1
  refine go_at (blk := b_Model_tellLaw_148) rfl ?_
  simp (disch := omega) only [b_Model_tellLaw_148, be_6, be_33, be_50_5, kc_388, List.getD_cons_zero, List.getD_cons_succ, List.set_cons_zero, List.set_cons_succ, List.length_cons, List.length_nil, pk_I, pk_A, pr_A, pi_I, st_s, st_n, if_true, if_false, eq_self, d_if, d_ju, d_re, d_ca, cat0, cat1, cat2, cat3, fr_z, fr_s, cc_I, cc_A, cc_N, Nat.reduceAdd, Nat.reduceLT, Nat.reduceLeDiff, Nat.reduceEqDiff, not_true, not_false_iff, z1_0, z1_1, Bool.and_self, Bool.true_and, Bool.and_true, nI_add, pk_mul, nI_clamp, decide_true, Nat.le_refl, bI_eq, bI_z1, nI_ltI, nI_leI, hk1, b13]
  refine go_at (blk := b_Model_tellLaw_155) rfl ?_
  simp (disch := omega) only [b_Model_tellLaw_155, be_56, List.getD_cons_zero, List.getD_cons_succ, List.set_cons_zero, List.set_cons_succ, List.length_cons, List.length_nil, pk_I, pk_A, pr_A, pi_I, st_s, st_n, if_true, if_false, eq_self, d_if, d_ju, d_re, d_ca, cat0, cat1, cat2, cat3, fr_z, fr_s, cc_I, cc_A, cc_N, Nat.reduceAdd, Nat.reduceLT, Nat.reduceLeDiff, Nat.reduceEqDiff, not_true, not_false_iff, z1_0, z1_1, Bool.and_self, Bool.true_and, Bool.and_true, nI_add, pk_mul, nI_clamp, decide_true, Nat.le_refl, bI_eq, bI_z1, nI_ltI, nI_leI, hk1, b13]
  exact hQ v1 (GB_8 f1) s1
theorem lawM129 {d : Nat} {v : Nat → Nat → Int32} {w : Nat → Nat → Int64} {Q : Option Value → am_H → Prop} {E : ENV} {l p B b0 br K0 J0 : Nat} (hJ : J0 ≤ 130) {e : Nat × Nat} {k f0 i0 : Int32} (hE : ME E v w) (hs : MS' E v (.inl e, l, p)) (h33 : v 388 33 = nI br) (hb0 : b0 ≤ br) (hbr : br + 1 ≤ J0 + 130) (hQ : ∀ v', GB K0 J0 B b0 v v' → MS' E v' (.inl e, l, p) → Q none (428, 26053, KD, RF, v', w)) : am_Go am_X0 (d + 5) k_Model_tellLaw 129 ([.ref 388, .int k, .int f0, .int i0], [], (428, 26053, KD, RF, v, w)) Q := by
  have b13 : v 388 13 = nI e.1 := hs.1
  have hk0 : ¬ nI e.1 = 0 := nI_ne0 hs.2.1 (by have := hs.2.2.1; omega)
  have hk1 : ¬ nI e.1 ≤ 0 := nI_nle hs.2.1 (by have := hs.2.2.1; omega)
  refine go_at (blk := b_Model_tellLaw_129) rfl ?_
  simp (disch := omega) only [b_Model_tellLaw_129, be_6, be_34, be_33, be_1, be_45, be_57_0, kc_388, rf_388_34, ka_408, List.getD_cons_zero, List.getD_cons_succ, List.set_cons_zero, List.set_cons_succ, List.length_cons, List.length_nil, pk_I, pk_A, pr_A, pi_I, st_s, st_n, if_true, if_false, eq_self, d_if, d_ju, d_re, d_ca, cat0, cat1, cat2, cat3, fr_z, fr_s, cc_I, cc_A, cc_N, Nat.reduceAdd, Nat.reduceLT, Nat.reduceLeDiff, Nat.reduceEqDiff, not_true, not_false_iff, z1_0, z1_1, Bool.and_self, Bool.true_and, Bool.and_true, nI_add, pk_mul, nI_clamp, decide_true, Nat.le_refl, bI_eq, bI_z1, nI_ltI, nI_leI, am_u_at, am_u_ne, upd_at, upd_ne, b13, hk0, hk1, h33, vb_0]
  refine r_termB (B := B) (K0 := K0) (J0 := J0) (ME_w hE (by rw [am_u_ne (by omega)]) (by rw [am_u_ne (by omega)]) (by rw [am_u_ne (by omega)])) (MS_w hs (fun k hk => by rw [am_u_ne (by omega)])) (by rw [am_u_ne (by omega)]; exact h33) (by omega) hJ ?_
  intro v1 f1 s1 e33
  have ff : GB K0 J0 B b0 v v1 := GB_t (GB_a (by omega) hb0 (by omega)) (GB_m f1 hb0)
  exact lawM143 hJ (ME_B hE ff) s1 e33 (by omega) (by omega) (fun v9 f9 s9 => hQ v9 (GB_t ff f9) s9)
theorem lawM12 {d : Nat} {v : Nat → Nat → Int32} {w : Nat → Nat → Int64} {Q : Option Value → am_H → Prop} {E : ENV} {l p B b0 br K0 J0 : Nat} (hJ : J0 ≤ 130) {e : Nat × Nat} {k f0 i0 : Int32} (hE : ME E v w) (hs : MS' E v (.inl e, l, p)) (h33 : v 388 33 = nI br) (hb0 : b0 ≤ br) (hbr : br + 1 ≤ J0 + 130) (hQ : ∀ v', GB K0 J0 B b0 v v' → MS' E v' (.inl e, l, p) → Q none (428, 26053, KD, RF, v', w)) : am_Go am_X0 (d + 5) k_Model_tellLaw 12 ([.ref 388, .int k, .int f0, .int i0], [], (428, 26053, KD, RF, v, w)) Q := by
  have b13 : v 388 13 = nI e.1 := hs.1
  have hk0 : ¬ nI e.1 = 0 := nI_ne0 hs.2.1 (by have := hs.2.2.1; omega)
  have hk1 : ¬ nI e.1 ≤ 0 := nI_nle hs.2.1 (by have := hs.2.2.1; omega)
  refine go_at (blk := b_Model_tellLaw_12) rfl ?_
  simp (disch := omega) only [b_Model_tellLaw_12, be_6, be_33, be_50_1, kc_388, List.getD_cons_zero, List.getD_cons_succ, List.set_cons_zero, List.set_cons_succ, List.length_cons, List.length_nil, pk_I, pk_A, pr_A, pi_I, st_s, st_n, if_true, if_false, eq_self, d_if, d_ju, d_re, d_ca, cat0, cat1, cat2, cat3, fr_z, fr_s, cc_I, cc_A, cc_N, Nat.reduceAdd, Nat.reduceLT, Nat.reduceLeDiff, Nat.reduceEqDiff, not_true, not_false_iff, z1_0, z1_1, Bool.and_self, Bool.true_and, Bool.and_true, nI_add, pk_mul, nI_clamp, decide_true, Nat.le_refl, bI_eq, bI_z1, nI_ltI, nI_leI, am_u_at, am_u_ne, upd_at, upd_ne, b13, hk0, hk1, h33]
  exact lawM129 hJ hE hs h33 hb0 hbr hQ
theorem lawM120 {d : Nat} {v : Nat → Nat → Int32} {w : Nat → Nat → Int64} {Q : Option Value → am_H → Prop} {E : ENV} {l p B b0 br K0 J0 : Nat} (hJ : J0 ≤ 130) {e : Nat × Nat} {k f0 i0 : Int32} (hE : ME E v w) (hs : MS' E v (.inl e, l, p)) (h33 : v 388 33 = nI br) (hb0 : b0 ≤ br) (hbr : br + 1 ≤ J0 + 130) (hQ : ∀ v', GB K0 J0 B b0 v v' → MS' E v' (.inl e, l, p) → Q none (428, 26053, KD, RF, v', w)) : am_Go am_X0 (d + 5) k_Model_tellLaw 120 ([.ref 388, .int k, .int f0, .int i0], [], (428, 26053, KD, RF, v, w)) Q := by
  have b13 : v 388 13 = nI e.1 := hs.1
  have hk0 : ¬ nI e.1 = 0 := nI_ne0 hs.2.1 (by have := hs.2.2.1; omega)
  have hk1 : ¬ nI e.1 ≤ 0 := nI_nle hs.2.1 (by have := hs.2.2.1; omega)
  refine go_at (blk := b_Model_tellLaw_120) rfl ?_
  simp (disch := omega) only [b_Model_tellLaw_120, be_6, be_1, be_57_1, kc_388, List.getD_cons_zero, List.getD_cons_succ, List.set_cons_zero, List.set_cons_succ, List.length_cons, List.length_nil, pk_I, pk_A, pr_A, pi_I, st_s, st_n, if_true, if_false, eq_self, d_if, d_ju, d_re, d_ca, cat0, cat1, cat2, cat3, fr_z, fr_s, cc_I, cc_A, cc_N, Nat.reduceAdd, Nat.reduceLT, Nat.reduceLeDiff, Nat.reduceEqDiff, not_true, not_false_iff, z1_0, z1_1, Bool.and_self, Bool.true_and, Bool.and_true, nI_add, pk_mul, nI_clamp, decide_true, Nat.le_refl, bI_eq, bI_z1, nI_ltI, nI_leI, am_u_at, am_u_ne, upd_at, upd_ne, b13, hk0, hk1, h33]
  refine r_must (j := 28) hE hs (by omega) (by omega) (by omega) ?_
  intro v1 f1 s1
  have s1 : MS' E v1 (.inl e, l, p) := s1
  have e33 : v1 388 33 = nI br := by rw [f1.2 33 (by omega) (by omega) (by omega) (by omega) (by omega)]; exact h33
  refine go_at (blk := b_Model_tellLaw_126) rfl ?_
  simp (disch := omega) only [b_Model_tellLaw_126, be_51, List.getD_cons_zero, List.getD_cons_succ, List.set_cons_zero, List.set_cons_succ, List.length_cons, List.length_nil, pk_I, pk_A, pr_A, pi_I, st_s, st_n, if_true, if_false, eq_self, d_if, d_ju, d_re, d_ca, cat0, cat1, cat2, cat3, fr_z, fr_s, cc_I, cc_A, cc_N, Nat.reduceAdd, Nat.reduceLT, Nat.reduceLeDiff, Nat.reduceEqDiff, not_true, not_false_iff, z1_0, z1_1, Bool.and_self, Bool.true_and, Bool.and_true, nI_add, pk_mul, nI_clamp, decide_true, Nat.le_refl, bI_eq, bI_z1, nI_ltI, nI_leI, am_u_at, am_u_ne, upd_at, upd_ne, b13, hk0, hk1, h33]
  exact lawM12 hJ (ME_8 hE f1) s1 e33 hb0 (by omega) (fun v9 f9 s9 => hQ v9 (GB_t (GB_8 f1) f9) s9)
theorem lawM116 {d : Nat} {v : Nat → Nat → Int32} {w : Nat → Nat → Int64} {Q : Option Value → am_H → Prop} {E : ENV} {l p B b0 br K0 J0 : Nat} (hJ : J0 ≤ 130) {e : Nat × Nat} {k f0 i0 : Int32} (hE : ME E v w) (hs : MS' E v (.inl e, l, p)) (h33 : v 388 33 = nI br) (hb0 : b0 ≤ br) (hbr : br + 2 ≤ J0 + 130) (hQ : ∀ v', GB K0 J0 B b0 v v' → MS' E v' (.inl e, l, p) → Q none (428, 26053, KD, RF, v', w)) : am_Go am_X0 (d + 5) k_Model_tellLaw 116 ([.ref 388, .int k, .int f0, .int i0], [], (428, 26053, KD, RF, v, w)) Q := by
  have b13 : v 388 13 = nI e.1 := hs.1
  have hk0 : ¬ nI e.1 = 0 := nI_ne0 hs.2.1 (by have := hs.2.2.1; omega)
  have hk1 : ¬ nI e.1 ≤ 0 := nI_nle hs.2.1 (by have := hs.2.2.1; omega)
  refine go_at (blk := b_Model_tellLaw_116) rfl ?_
  simp (disch := omega) only [b_Model_tellLaw_116, be_6, be_57_0, kc_388, List.getD_cons_zero, List.getD_cons_succ, List.set_cons_zero, List.set_cons_succ, List.length_cons, List.length_nil, pk_I, pk_A, pr_A, pi_I, st_s, st_n, if_true, if_false, eq_self, d_if, d_ju, d_re, d_ca, cat0, cat1, cat2, cat3, fr_z, fr_s, cc_I, cc_A, cc_N, Nat.reduceAdd, Nat.reduceLT, Nat.reduceLeDiff, Nat.reduceEqDiff, not_true, not_false_iff, z1_0, z1_1, Bool.and_self, Bool.true_and, Bool.and_true, nI_add, pk_mul, nI_clamp, decide_true, Nat.le_refl, bI_eq, bI_z1, nI_ltI, nI_leI, am_u_at, am_u_ne, upd_at, upd_ne, b13, hk0, hk1, h33]
  refine r_termB (B := B) (K0 := K0) (J0 := J0) hE hs h33 (by omega) hJ ?_
  intro v1 f1 s1 e33
  exact lawM120 hJ (ME_B hE f1) s1 e33 (by omega) (by omega) (fun v9 f9 s9 => hQ v9 (GB_t (GB_m f1 hb0) f9) s9)
theorem lawM110 {d : Nat} {v : Nat → Nat → Int32} {w : Nat → Nat → Int64} {Q : Option Value → am_H → Prop} {E : ENV} {l p B b0 br K0 J0 : Nat} (hJ : J0 ≤ 130) {e : Nat × Nat} {k f0 i0 : Int32} (hE : ME E v w) (hs : MS' E v (.inl e, l, p)) (h33 : v 388 33 = nI br) (hb0 : b0 ≤ br) (hbr : br + 2 ≤ J0 + 130) (hQ : ∀ v', GB K0 J0 B b0 v v' → MS' E v' (.inl e, l, p) → Q none (428, 26053, KD, RF, v', w)) : am_Go am_X0 (d + 5) k_Model_tellLaw 110 ([.ref 388, .int k, .int f0, .int i0], [], (428, 26053, KD, RF, v, w)) Q := by
  have b13 : v 388 13 = nI e.1 := hs.1
  have hk0 : ¬ nI e.1 = 0 := nI_ne0 hs.2.1 (by have := hs.2.2.1; omega)
  have hk1 : ¬ nI e.1 ≤ 0 := nI_nle hs.2.1 (by have := hs.2.2.1; omega)
  refine go_at (blk := b_Model_tellLaw_110) rfl ?_
  simp (disch := omega) only [b_Model_tellLaw_110, be_6, be_1, be_57_1, kc_388, List.getD_cons_zero, List.getD_cons_succ, List.set_cons_zero, List.set_cons_succ, List.length_cons, List.length_nil, pk_I, pk_A, pr_A, pi_I, st_s, st_n, if_true, if_false, eq_self, d_if, d_ju, d_re, d_ca, cat0, cat1, cat2, cat3, fr_z, fr_s, cc_I, cc_A, cc_N, Nat.reduceAdd, Nat.reduceLT, Nat.reduceLeDiff, Nat.reduceEqDiff, not_true, not_false_iff, z1_0, z1_1, Bool.and_self, Bool.true_and, Bool.and_true, nI_add, pk_mul, nI_clamp, decide_true, Nat.le_refl, bI_eq, bI_z1, nI_ltI, nI_leI, am_u_at, am_u_ne, upd_at, upd_ne, b13, hk0, hk1, h33]
  refine r_must (j := 27) hE hs (by omega) (by omega) (by omega) ?_
  intro v1 f1 s1
  have s1 : MS' E v1 (.inl e, l, p) := s1
  have e33 : v1 388 33 = nI br := by rw [f1.2 33 (by omega) (by omega) (by omega) (by omega) (by omega)]; exact h33
  exact lawM116 hJ (ME_8 hE f1) s1 e33 hb0 (by omega) (fun v9 f9 s9 => hQ v9 (GB_t (GB_8 f1) f9) s9)
theorem lawM86 {d : Nat} {v : Nat → Nat → Int32} {w : Nat → Nat → Int64} {Q : Option Value → am_H → Prop} {E : ENV} {l p B b0 br K0 J0 : Nat} (hJ : J0 ≤ 130) {e : Nat × Nat} {k f0 i0 : Int32} (hE : ME E v w) (hs : MS' E v (.inl e, l, p)) (h33 : v 388 33 = nI br) (hb0 : b0 ≤ br) (hbr : br + 2 ≤ J0 + 130) (hQ : ∀ v', GB K0 J0 B b0 v v' → MS' E v' (.inl e, l, p) → Q none (428, 26053, KD, RF, v', w)) : am_Go am_X0 (d + 5) k_Model_tellLaw 86 ([.ref 388, .int k, .int f0, .int i0], [], (428, 26053, KD, RF, v, w)) Q := by
  have b13 : v 388 13 = nI e.1 := hs.1
  have hk0 : ¬ nI e.1 = 0 := nI_ne0 hs.2.1 (by have := hs.2.2.1; omega)
  have hk1 : ¬ nI e.1 ≤ 0 := nI_nle hs.2.1 (by have := hs.2.2.1; omega)
  refine go_at (blk := b_Model_tellLaw_86) rfl ?_
  simp (disch := omega) only [b_Model_tellLaw_86, be_6, be_34, be_33, be_43, be_50_1, kc_388, rf_388_36, ka_410, List.getD_cons_zero, List.getD_cons_succ, List.set_cons_zero, List.set_cons_succ, List.length_cons, List.length_nil, pk_I, pk_A, pr_A, pi_I, st_s, st_n, if_true, if_false, eq_self, d_if, d_ju, d_re, d_ca, cat0, cat1, cat2, cat3, fr_z, fr_s, cc_I, cc_A, cc_N, Nat.reduceAdd, Nat.reduceLT, Nat.reduceLeDiff, Nat.reduceEqDiff, not_true, not_false_iff, z1_0, z1_1, Bool.and_self, Bool.true_and, Bool.and_true, nI_add, pk_mul, nI_clamp, decide_true, Nat.le_refl, bI_eq, bI_z1, nI_ltI, nI_leI, am_u_at, am_u_ne, upd_at, upd_ne, b13, hk0, hk1, h33]
  exact lawM110 hJ (v := (am_u v 410 br (v 388 39))) (ME_w hE (by rw [am_u_ne (by omega)]) (by rw [am_u_ne (by omega)]) (by rw [am_u_ne (by omega)])) (MS_w hs (fun k hk => by rw [am_u_ne (by omega)])) (by rw [am_u_ne (by omega)]; exact h33) hb0 hbr (fun v9 f9 s9 => hQ v9 (GB_t (GB_a (by omega) hb0 (by omega)) f9) s9)
theorem lawM80 {d : Nat} {v : Nat → Nat → Int32} {w : Nat → Nat → Int64} {Q : Option Value → am_H → Prop} {E : ENV} {l p B b0 br K0 J0 : Nat} (hJ : J0 ≤ 130) {e : Nat × Nat} {k f0 i0 : Int32} (hE : ME E v w) (hs : MS' E v (.inl e, l, p)) (h33 : v 388 33 = nI br) (hb0 : b0 ≤ br) (hbr : br + 2 ≤ J0 + 130) (hQ : ∀ v', GB K0 J0 B b0 v v' → MS' E v' (.inl e, l, p) → Q none (428, 26053, KD, RF, v', w)) : am_Go am_X0 (d + 5) k_Model_tellLaw 80 ([.ref 388, .int k, .int f0, .int i0], [], (428, 26053, KD, RF, v, w)) Q := by
  have b13 : v 388 13 = nI e.1 := hs.1
  have hk0 : ¬ nI e.1 = 0 := nI_ne0 hs.2.1 (by have := hs.2.2.1; omega)
  have hk1 : ¬ nI e.1 ≤ 0 := nI_nle hs.2.1 (by have := hs.2.2.1; omega)
  refine go_at (blk := b_Model_tellLaw_80) rfl ?_
  simp (disch := omega) only [b_Model_tellLaw_80, be_6, be_1, be_57_1, kc_388, List.getD_cons_zero, List.getD_cons_succ, List.set_cons_zero, List.set_cons_succ, List.length_cons, List.length_nil, pk_I, pk_A, pr_A, pi_I, st_s, st_n, if_true, if_false, eq_self, d_if, d_ju, d_re, d_ca, cat0, cat1, cat2, cat3, fr_z, fr_s, cc_I, cc_A, cc_N, Nat.reduceAdd, Nat.reduceLT, Nat.reduceLeDiff, Nat.reduceEqDiff, not_true, not_false_iff, z1_0, z1_1, Bool.and_self, Bool.true_and, Bool.and_true, nI_add, pk_mul, nI_clamp, decide_true, Nat.le_refl, bI_eq, bI_z1, nI_ltI, nI_leI, am_u_at, am_u_ne, upd_at, upd_ne, b13, hk0, hk1, h33]
  refine r_must (j := 13) hE hs (by omega) (by omega) (by omega) ?_
  intro v1 f1 s1
  have s1 : MS' E v1 (.inl e, l, p) := s1
  have e33 : v1 388 33 = nI br := by rw [f1.2 33 (by omega) (by omega) (by omega) (by omega) (by omega)]; exact h33
  exact lawM86 hJ (ME_8 hE f1) s1 e33 hb0 (by omega) (fun v9 f9 s9 => hQ v9 (GB_t (GB_8 f1) f9) s9)
theorem lawM53 {d : Nat} {v : Nat → Nat → Int32} {w : Nat → Nat → Int64} {Q : Option Value → am_H → Prop} {E : ENV} {l p B b0 br K0 J0 : Nat} (hJ : J0 ≤ 130) {e : Nat × Nat} {k f0 i0 : Int32} (hE : ME E v w) (hs : MS' E v (.inl e, l, p)) (h33 : v 388 33 = nI br) (hb0 : b0 ≤ br) (hbr : br + 2 ≤ J0 + 130) (hQ : ∀ v', GB K0 J0 B b0 v v' → MS' E v' (.inl e, l, p) → Q none (428, 26053, KD, RF, v', w)) : am_Go am_X0 (d + 5) k_Model_tellLaw 53 ([.ref 388, .int k, .int f0, .int i0], [], (428, 26053, KD, RF, v, w)) Q := by
  have b13 : v 388 13 = nI e.1 := hs.1
  have hk0 : ¬ nI e.1 = 0 := nI_ne0 hs.2.1 (by have := hs.2.2.1; omega)
  have hk1 : ¬ nI e.1 ≤ 0 := nI_nle hs.2.1 (by have := hs.2.2.1; omega)
  refine go_at (blk := b_Model_tellLaw_53) rfl ?_
  simp (disch := omega) only [b_Model_tellLaw_53, be_6, be_34, be_33, be_1, be_45, be_43, be_57_0, kc_388, rf_388_34, ka_408, rf_388_35, ka_409, List.getD_cons_zero, List.getD_cons_succ, List.set_cons_zero, List.set_cons_succ, List.length_cons, List.length_nil, pk_I, pk_A, pr_A, pi_I, st_s, st_n, if_true, if_false, eq_self, d_if, d_ju, d_re, d_ca, cat0, cat1, cat2, cat3, fr_z, fr_s, cc_I, cc_A, cc_N, Nat.reduceAdd, Nat.reduceLT, Nat.reduceLeDiff, Nat.reduceEqDiff, not_true, not_false_iff, z1_0, z1_1, Bool.and_self, Bool.true_and, Bool.and_true, nI_add, pk_mul, nI_clamp, decide_true, Nat.le_refl, bI_eq, bI_z1, nI_ltI, nI_leI, am_u_at, am_u_ne, upd_at, upd_ne, b13, hk0, hk1, h33, vb_1]
  have f0' : GB K0 J0 B b0 v (am_u (am_u v 408 br (nI 1)) 409 br (v 388 39)) := GB_t (GB_a (by omega) hb0 (by omega)) (GB_a (by omega) hb0 (by omega))
  refine r_exprB (B := B) (K0 := K0) (J0 := J0) (ME_B hE f0') (MS_w hs (fun k hk => by rw [am_u_ne (by omega), am_u_ne (by omega)])) ?_
  intro v1 f1 s1
  exact lawM80 hJ (ME_U (ME_B hE f0') f1) s1 (by rw [f1.2.1 33 (by omega) (by omega) (by omega) (by omega) (by omega) (by omega) (by omega) (by omega), am_u_ne (by omega), am_u_ne (by omega)]; exact h33) hb0 hbr (fun v9 f9 s9 => hQ v9 (GB_t f0' (GB_t (GB_U f1) f9)) s9)
