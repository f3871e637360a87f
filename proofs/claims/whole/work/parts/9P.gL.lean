/-! laid by wip/whole/gL.py: the reference: a LAW -/
def sgm (v : Nat → Nat → Int32) (a : Nat) (l : CL) : Prop := ∀ j, j < l.length → v 413 (a + j) = nI (l.getD j (0, 0)).1 ∧ v 414 (a + j) = (l.getD j (0, 0)).2
def bl (b : BRD) : Nat := b.1.length + b.2.1.length + b.2.2.length
def B1x (v : Nat → Nat → Int32) (br a : Nat) (b : BRD) : Prop := v 408 br = nI 1 ∧ v 409 br = nI a ∧ v 410 br = nI (a + b.1.length) ∧ v 411 br = nI (a + b.1.length + b.2.1.length) ∧ v 412 br = nI (a + b.1.length + b.2.1.length + b.2.2.length) ∧ sgm v a b.1 ∧ sgm v (a + b.1.length) b.2.1 ∧ sgm v (a + b.1.length + b.2.1.length) b.2.2
def BDx (v : Nat → Nat → Int32) (br a : Nat) (D : CL) : Prop := v 408 br = nI 0 ∧ v 411 br = nI a ∧ v 412 br = nI (a + D.length) ∧ sgm v a D
def LBX (v : Nat → Nat → Int32) : Nat → Nat → List BRD → CL → Prop
  | br, a, [], D => BDx v br a D
  | br, a, b :: bs, D => B1x v br a b ∧ LBX v (br + 1) (a + bl b) bs D
def lbl : List BRD → CL → Nat
  | [], D => D.length
  | b :: bs, D => bl b + lbl bs D
theorem sgm_w {v v' : Nat → Nat → Int32} {a B : Nat} {l : CL} (h : sgm v a l) (hB : a + l.length ≤ B) (e : ∀ k, k < B → v' 413 k = v 413 k ∧ v' 414 k = v 414 k) : sgm v' a l := by
  intro j hj
  rw [(e (a + j) (by omega)).1, (e (a + j) (by omega)).2]
  exact h j hj
theorem B1_w {v v' : Nat → Nat → Int32} {br a B b0 K0 J0 : Nat} {b : BRD} (h : B1x v br a b) (hB : a + bl b ≤ B) (hb : br < b0) (e : GB K0 J0 B b0 v v') : B1x v' br a b := by
  obtain ⟨h1, h2, h3, h4, h5, h6, h7, h8⟩ := h
  obtain ⟨e1, e2, e3, e4, e5⟩ := e.2.2.2 br (Or.inl hb)
  unfold bl at hB
  exact ⟨by rw [e1]; exact h1, by rw [e2]; exact h2, by rw [e3]; exact h3, by rw [e4]; exact h4, by rw [e5]; exact h5, sgm_w h6 (by omega) (fun k hk => e.2.2.1 k (Or.inl hk)), sgm_w h7 (by omega) (fun k hk => e.2.2.1 k (Or.inl hk)), sgm_w h8 (by omega) (fun k hk => e.2.2.1 k (Or.inl hk))⟩
theorem vb_00 : vp_nar FieldType.boolean 0 = 0 := vb_0
theorem GB_c {K0 J0 B n br : Nat} {v v' : Nat → Nat → Int32} (h : GB K0 J0 (B + n) br v v') : GB K0 J0 B br v v' := ⟨h.1, h.2.1, fun k hk => h.2.2.1 k (by omega), h.2.2.2⟩
set_option maxHeartbeats 4000000 in
theorem r_lawL {d : Nat} {w : Nat → Nat → Int64} {Q : Option Value → am_H → Prop} {E : ENV} {l p K0 J0 : Nat} (hJ : J0 ≤ 130) {k f0 : Int32} : ∀ (n i t br a : Nat) (v : Nat → Nat → Int32) (R : RL), i + n = 4 → ME E v w → MG E v t l p → v 388 12 = nI 0 → v 388 39 = nI a → v 388 33 = nI br → a ≤ K0 + t → K0 ≤ 420 → br + n + 2 ≤ J0 + 130 → LWR E n t R → (∀ v' t' bs D x, GB K0 J0 a br v v' → MG E v' t' l p → v' 388 12 = nI 0 → v' 388 39 = nI (a + lbl bs D) → v' 388 33 = nI (br + bs.length + 1) → LBX v' br a bs D → a + lbl bs D ≤ K0 + t' → R = .inr (t', bs, D) → am_Go am_X0 (d + 7) k_Model_tellLaw 143 ([.ref 388, .int k, .int f0, .int x], [], (428, 26053, KD, RF, v', w)) Q) → (∀ v' k' p', GB K0 J0 a br v v' → MB v' k' p' → R = .inl (k', p') → Q none (428, 26053, KD, RF, v', w)) → am_Go am_X0 (d + 7) k_Model_tellLaw 12 ([.ref 388, .int k, .int f0, .int (nI i)], [], (428, 26053, KD, RF, v, w)) Q := by
  intro n
  induction n with
  | zero =>
    intro i t br a v R hin hE hG h12 h39 h33 ha hK0 hbr hx q0 q1
    obtain rfl : i = 4 := by omega
    have n2n : ¬ nI 2 ≤ 0 := by decide
    obtain ⟨g11, gt, g13, g15, gl, g16⟩ := hG
    have hs : MS' E v (.inr t, l, p) := ⟨g11, gt, g13, g15, gl, g16⟩
    have gL := hE.1.1
    by_cases hIF : eK E t = 26
    · have hx : R = .inl (2, eP E t) := by unfold LWR at hx; rw [if_pos hIF] at hx; exact hx
      refine go_at (blk := b_Model_tellLaw_12) rfl ?_
      simp (disch := omega) only [b_Model_tellLaw_12, be_6, be_33, be_50_1, kc_388, List.getD_cons_zero, List.getD_cons_succ, List.set_cons_zero, List.set_cons_succ, List.length_cons, List.length_nil, pk_I, pk_A, pr_A, pi_I, st_s, st_n, if_true, if_false, eq_self, d_if, d_ju, d_re, d_ca, cat0, cat1, cat2, cat3, fr_z, fr_s, cc_I, cc_A, cc_N, Nat.reduceAdd, Nat.reduceLT, Nat.reduceLeDiff, Nat.reduceEqDiff, not_true, not_false_iff, z1_0, z1_1, Bool.and_self, Bool.true_and, Bool.and_true, nI_add, pk_mul, nI_clamp, decide_true, Nat.le_refl, bI_eq, bI_z1, nI_ltI, nI_leI, am_u_at, am_u_ne, upd_at, upd_ne, nI_eq, nI_z, z_le, z_lt, g13]
      refine go_at (blk := b_Model_tellLaw_19) rfl ?_
      simp (disch := omega) only [b_Model_tellLaw_19, be_6, be_1, be_57_1, kc_388, List.getD_cons_zero, List.getD_cons_succ, List.set_cons_zero, List.set_cons_succ, List.length_cons, List.length_nil, pk_I, pk_A, pr_A, pi_I, st_s, st_n, if_true, if_false, eq_self, d_if, d_ju, d_re, d_ca, cat0, cat1, cat2, cat3, fr_z, fr_s, cc_I, cc_A, cc_N, Nat.reduceAdd, Nat.reduceLT, Nat.reduceLeDiff, Nat.reduceEqDiff, not_true, not_false_iff, z1_0, z1_1, Bool.and_self, Bool.true_and, Bool.and_true, nI_add, pk_mul, nI_clamp, decide_true, Nat.le_refl, bI_eq, bI_z1, nI_ltI, nI_leI, am_u_at, am_u_ne, upd_at, upd_ne, nI_eq, nI_z, z_le, z_lt, g13]
      refine r_is (s := (.inr t, l, p)) hE hs (by omega) (by omega) ?_
      rw [show decide (kdR E (.inr t, l, p) = 26) = true from decide_eq_true hIF]
      refine go_at (blk := b_Model_tellLaw_25) rfl ?_
      simp (disch := omega) only [b_Model_tellLaw_25, be_50_0, List.getD_cons_zero, List.getD_cons_succ, List.set_cons_zero, List.set_cons_succ, List.length_cons, List.length_nil, pk_I, pk_A, pr_A, pi_I, st_s, st_n, if_true, if_false, eq_self, d_if, d_ju, d_re, d_ca, cat0, cat1, cat2, cat3, fr_z, fr_s, cc_I, cc_A, cc_N, Nat.reduceAdd, Nat.reduceLT, Nat.reduceLeDiff, Nat.reduceEqDiff, not_true, not_false_iff, z1_0, z1_1, Bool.and_self, Bool.true_and, Bool.and_true, nI_add, pk_mul, nI_clamp, decide_true, Nat.le_refl, bI_eq, bI_z1, nI_ltI, nI_leI, am_u_at, am_u_ne, upd_at, upd_ne, nI_eq, nI_z, z_le, z_lt, g13]
      refine go_at (blk := b_Model_tellLaw_28) rfl ?_
      simp (disch := omega) only [b_Model_tellLaw_28, be_4, be_1, be_49_1, List.getD_cons_zero, List.getD_cons_succ, List.set_cons_zero, List.set_cons_succ, List.length_cons, List.length_nil, pk_I, pk_A, pr_A, pi_I, st_s, st_n, if_true, if_false, eq_self, d_if, d_ju, d_re, d_ca, cat0, cat1, cat2, cat3, fr_z, fr_s, cc_I, cc_A, cc_N, Nat.reduceAdd, Nat.reduceLT, Nat.reduceLeDiff, Nat.reduceEqDiff, not_true, not_false_iff, z1_0, z1_1, Bool.and_self, Bool.true_and, Bool.and_true, nI_add, pk_mul, nI_clamp, decide_true, Nat.le_refl, bI_eq, bI_z1, nI_ltI, nI_leI, am_u_at, am_u_ne, upd_at, upd_ne, nI_eq, nI_z, z_le, z_lt, g13]
      refine go_at (blk := b_Model_tellLaw_33) rfl ?_
      simp (disch := omega) only [b_Model_tellLaw_33, be_6, be_1, be_57_1, kc_388, List.getD_cons_zero, List.getD_cons_succ, List.set_cons_zero, List.set_cons_succ, List.length_cons, List.length_nil, pk_I, pk_A, pr_A, pi_I, st_s, st_n, if_true, if_false, eq_self, d_if, d_ju, d_re, d_ca, cat0, cat1, cat2, cat3, fr_z, fr_s, cc_I, cc_A, cc_N, Nat.reduceAdd, Nat.reduceLT, Nat.reduceLeDiff, Nat.reduceEqDiff, not_true, not_false_iff, z1_0, z1_1, Bool.and_self, Bool.true_and, Bool.and_true, nI_add, pk_mul, nI_clamp, decide_true, Nat.le_refl, bI_eq, bI_z1, nI_ltI, nI_leI, am_u_at, am_u_ne, upd_at, upd_ne, nI_eq, nI_z, z_le, z_lt, g13]
      refine r_fail hE hs (by omega) (by omega) ?_
      intro v1 f1 s1
      have b13 : v1 388 13 = nI 2 := s1.1
      refine go_at (blk := b_Model_tellLaw_38) rfl ?_
      simp (disch := omega) only [b_Model_tellLaw_38, be_6, be_33, be_50_5, kc_388, List.getD_cons_zero, List.getD_cons_succ, List.set_cons_zero, List.set_cons_succ, List.length_cons, List.length_nil, pk_I, pk_A, pr_A, pi_I, st_s, st_n, if_true, if_false, eq_self, d_if, d_ju, d_re, d_ca, cat0, cat1, cat2, cat3, fr_z, fr_s, cc_I, cc_A, cc_N, Nat.reduceAdd, Nat.reduceLT, Nat.reduceLeDiff, Nat.reduceEqDiff, not_true, not_false_iff, z1_0, z1_1, Bool.and_self, Bool.true_and, Bool.and_true, nI_add, pk_mul, nI_clamp, decide_true, Nat.le_refl, bI_eq, bI_z1, nI_ltI, nI_leI, am_u_at, am_u_ne, upd_at, upd_ne, nI_eq, nI_z, z_le, z_lt, g13, b13, n2n]
      refine go_at (blk := b_Model_tellLaw_45) rfl ?_
      simp (disch := omega) only [b_Model_tellLaw_45, be_56, List.getD_cons_zero, List.getD_cons_succ, List.set_cons_zero, List.set_cons_succ, List.length_cons, List.length_nil, pk_I, pk_A, pr_A, pi_I, st_s, st_n, if_true, if_false, eq_self, d_if, d_ju, d_re, d_ca, cat0, cat1, cat2, cat3, fr_z, fr_s, cc_I, cc_A, cc_N, Nat.reduceAdd, Nat.reduceLT, Nat.reduceLeDiff, Nat.reduceEqDiff, not_true, not_false_iff, z1_0, z1_1, Bool.and_self, Bool.true_and, Bool.and_true, nI_add, pk_mul, nI_clamp, decide_true, Nat.le_refl, bI_eq, bI_z1, nI_ltI, nI_leI, am_u_at, am_u_ne, upd_at, upd_ne, nI_eq, nI_z, z_le, z_lt, g13, b13, n2n]
      exact q1 v1 _ _ (GB_8 f1) s1 hx
    · have hx : bX E t (fun t' D => R = .inr (t', [], D)) (fun f => R = .inl f) := by unfold LWR at hx; rw [if_neg hIF] at hx; exact hx
      refine go_at (blk := b_Model_tellLaw_12) rfl ?_
      simp (disch := omega) only [b_Model_tellLaw_12, be_6, be_33, be_50_1, kc_388, List.getD_cons_zero, List.getD_cons_succ, List.set_cons_zero, List.set_cons_succ, List.length_cons, List.length_nil, pk_I, pk_A, pr_A, pi_I, st_s, st_n, if_true, if_false, eq_self, d_if, d_ju, d_re, d_ca, cat0, cat1, cat2, cat3, fr_z, fr_s, cc_I, cc_A, cc_N, Nat.reduceAdd, Nat.reduceLT, Nat.reduceLeDiff, Nat.reduceEqDiff, not_true, not_false_iff, z1_0, z1_1, Bool.and_self, Bool.true_and, Bool.and_true, nI_add, pk_mul, nI_clamp, decide_true, Nat.le_refl, bI_eq, bI_z1, nI_ltI, nI_leI, am_u_at, am_u_ne, upd_at, upd_ne, nI_eq, nI_z, z_le, z_lt, g13, h33, vb_00]
      refine go_at (blk := b_Model_tellLaw_19) rfl ?_
      simp (disch := omega) only [b_Model_tellLaw_19, be_6, be_1, be_57_1, kc_388, List.getD_cons_zero, List.getD_cons_succ, List.set_cons_zero, List.set_cons_succ, List.length_cons, List.length_nil, pk_I, pk_A, pr_A, pi_I, st_s, st_n, if_true, if_false, eq_self, d_if, d_ju, d_re, d_ca, cat0, cat1, cat2, cat3, fr_z, fr_s, cc_I, cc_A, cc_N, Nat.reduceAdd, Nat.reduceLT, Nat.reduceLeDiff, Nat.reduceEqDiff, not_true, not_false_iff, z1_0, z1_1, Bool.and_self, Bool.true_and, Bool.and_true, nI_add, pk_mul, nI_clamp, decide_true, Nat.le_refl, bI_eq, bI_z1, nI_ltI, nI_leI, am_u_at, am_u_ne, upd_at, upd_ne, nI_eq, nI_z, z_le, z_lt, g13, h33, vb_00]
      refine r_is (s := (.inr t, l, p)) hE hs (by omega) (by omega) ?_
      rw [show decide (kdR E (.inr t, l, p) = 26) = false from decide_eq_false hIF]
      refine go_at (blk := b_Model_tellLaw_25) rfl ?_
      simp (disch := omega) only [b_Model_tellLaw_25, be_50_0, List.getD_cons_zero, List.getD_cons_succ, List.set_cons_zero, List.set_cons_succ, List.length_cons, List.length_nil, pk_I, pk_A, pr_A, pi_I, st_s, st_n, if_true, if_false, eq_self, d_if, d_ju, d_re, d_ca, cat0, cat1, cat2, cat3, fr_z, fr_s, cc_I, cc_A, cc_N, Nat.reduceAdd, Nat.reduceLT, Nat.reduceLeDiff, Nat.reduceEqDiff, not_true, not_false_iff, z1_0, z1_1, Bool.and_self, Bool.true_and, Bool.and_true, nI_add, pk_mul, nI_clamp, decide_true, Nat.le_refl, bI_eq, bI_z1, nI_ltI, nI_leI, am_u_at, am_u_ne, upd_at, upd_ne, nI_eq, nI_z, z_le, z_lt, g13, h33, vb_00]
      refine go_at (blk := b_Model_tellLaw_129) rfl ?_
      simp (disch := omega) only [b_Model_tellLaw_129, be_6, be_34, be_33, be_1, be_45, be_57_0, kc_388, rf_388_34, ka_408, List.getD_cons_zero, List.getD_cons_succ, List.set_cons_zero, List.set_cons_succ, List.length_cons, List.length_nil, pk_I, pk_A, pr_A, pi_I, st_s, st_n, if_true, if_false, eq_self, d_if, d_ju, d_re, d_ca, cat0, cat1, cat2, cat3, fr_z, fr_s, cc_I, cc_A, cc_N, Nat.reduceAdd, Nat.reduceLT, Nat.reduceLeDiff, Nat.reduceEqDiff, not_true, not_false_iff, z1_0, z1_1, Bool.and_self, Bool.true_and, Bool.and_true, nI_add, pk_mul, nI_clamp, decide_true, Nat.le_refl, bI_eq, bI_z1, nI_ltI, nI_leI, am_u_at, am_u_ne, upd_at, upd_ne, nI_eq, nI_z, z_le, z_lt, g13, h33, vb_00]
      have fr0 : GB K0 J0 a br v (am_u v 408 br (nI 0)) := GB_a (by omega) (Nat.le_refl _) (by omega)
      have hE1 := ME_B hE fr0
      have hG1 : MG E (am_u v 408 br (nI 0)) t l p := ⟨by rw [am_u_ne (by omega)]; exact g11, gt, by rw [am_u_ne (by omega)]; exact g13, by rw [am_u_ne (by omega)]; exact g15, gl, fun z => ⟨by rw [am_u_ne (by omega)]; exact (g16 z).1, (g16 z).2⟩⟩
      rcases hx with ⟨f, xD, rfl⟩ | ⟨t', D, xD, rfl⟩
      · refine r_term (K0 := K0) hE1 hG1 (by rw [am_u_ne (by omega)]; exact h12) (by rw [am_u_ne (by omega)]; exact h39) ha hK0 (by rw [am_u_ne (by omega)]; exact h33) (by omega) hJ xD ?_ ?_
        · intro v1 t1 C1 _ _ _ _ _ _ _ _ _ e1
          cases e1
        · intro v1 k1 p1 f1 s1 e33 e1
          cases e1
          exact lawM143 hJ (b0 := br) (e := (k1, p1)) (l := l) (p := p) (ME_B hE (GB_t fr0 f1)) s1 e33 (by omega) (by omega) (fun v9 f9 s9 => q1 v9 _ _ (GB_t (GB_t fr0 f1) f9) s9 rfl)
      · refine r_term (K0 := K0) hE1 hG1 (by rw [am_u_ne (by omega)]; exact h12) (by rw [am_u_ne (by omega)]; exact h39) ha hK0 (by rw [am_u_ne (by omega)]; exact h33) (by omega) hJ xD ?_ ?_
        · intro v1 t1 C1 f1 s1 c1 o1 e33 e411 e412 e408 bd e1
          cases e1
          exact q0 v1 t' [] D (nI 4) (GB_t fr0 f1) s1 o1 c1.1 e33 ⟨by rw [e408.1, am_u_at, upd_at]; rfl, e411, e412, c1.2⟩ bd rfl
        · intro v1 k1 p1 _ _ _ e1
          cases e1
  | succ n ih =>
    intro i t br a v R hin hE hG h12 h39 h33 ha hK0 hbr hx q0 q1
    have hi4 : ¬ i = 4 := by omega
    obtain ⟨g11, gt, g13, g15, gl, g16⟩ := hG
    have hs : MS' E v (.inr t, l, p) := ⟨g11, gt, g13, g15, gl, g16⟩
    have gL := hE.1.1
    by_cases hIF : eK E t = 26
    · have hx : BR1 E t (fun t' b => ∃ R', LWR E n t' R' ∧ R = addB b R') (fun f => R = .inl f) := by unfold LWR at hx; rw [if_pos hIF] at hx; exact hx
      refine go_at (blk := b_Model_tellLaw_12) rfl ?_
      simp (disch := omega) only [b_Model_tellLaw_12, be_6, be_33, be_50_1, kc_388, List.getD_cons_zero, List.getD_cons_succ, List.set_cons_zero, List.set_cons_succ, List.length_cons, List.length_nil, pk_I, pk_A, pr_A, pi_I, st_s, st_n, if_true, if_false, eq_self, d_if, d_ju, d_re, d_ca, cat0, cat1, cat2, cat3, fr_z, fr_s, cc_I, cc_A, cc_N, Nat.reduceAdd, Nat.reduceLT, Nat.reduceLeDiff, Nat.reduceEqDiff, not_true, not_false_iff, z1_0, z1_1, Bool.and_self, Bool.true_and, Bool.and_true, nI_add, pk_mul, nI_clamp, decide_true, Nat.le_refl, bI_eq, bI_z1, nI_ltI, nI_leI, am_u_at, am_u_ne, upd_at, upd_ne, nI_eq, nI_z, z_le, z_lt, g13, hi4]
      refine go_at (blk := b_Model_tellLaw_19) rfl ?_
      simp (disch := omega) only [b_Model_tellLaw_19, be_6, be_1, be_57_1, kc_388, List.getD_cons_zero, List.getD_cons_succ, List.set_cons_zero, List.set_cons_succ, List.length_cons, List.length_nil, pk_I, pk_A, pr_A, pi_I, st_s, st_n, if_true, if_false, eq_self, d_if, d_ju, d_re, d_ca, cat0, cat1, cat2, cat3, fr_z, fr_s, cc_I, cc_A, cc_N, Nat.reduceAdd, Nat.reduceLT, Nat.reduceLeDiff, Nat.reduceEqDiff, not_true, not_false_iff, z1_0, z1_1, Bool.and_self, Bool.true_and, Bool.and_true, nI_add, pk_mul, nI_clamp, decide_true, Nat.le_refl, bI_eq, bI_z1, nI_ltI, nI_leI, am_u_at, am_u_ne, upd_at, upd_ne, nI_eq, nI_z, z_le, z_lt, g13, hi4]
      refine r_is (s := (.inr t, l, p)) hE hs (by omega) (by omega) ?_
      rw [show decide (kdR E (.inr t, l, p) = 26) = true from decide_eq_true hIF]
      refine go_at (blk := b_Model_tellLaw_25) rfl ?_
      simp (disch := omega) only [b_Model_tellLaw_25, be_50_0, List.getD_cons_zero, List.getD_cons_succ, List.set_cons_zero, List.set_cons_succ, List.length_cons, List.length_nil, pk_I, pk_A, pr_A, pi_I, st_s, st_n, if_true, if_false, eq_self, d_if, d_ju, d_re, d_ca, cat0, cat1, cat2, cat3, fr_z, fr_s, cc_I, cc_A, cc_N, Nat.reduceAdd, Nat.reduceLT, Nat.reduceLeDiff, Nat.reduceEqDiff, not_true, not_false_iff, z1_0, z1_1, Bool.and_self, Bool.true_and, Bool.and_true, nI_add, pk_mul, nI_clamp, decide_true, Nat.le_refl, bI_eq, bI_z1, nI_ltI, nI_leI, am_u_at, am_u_ne, upd_at, upd_ne, nI_eq, nI_z, z_le, z_lt, g13, hi4]
      refine go_at (blk := b_Model_tellLaw_28) rfl ?_
      simp (disch := omega) only [b_Model_tellLaw_28, be_4, be_1, be_49_1, List.getD_cons_zero, List.getD_cons_succ, List.set_cons_zero, List.set_cons_succ, List.length_cons, List.length_nil, pk_I, pk_A, pr_A, pi_I, st_s, st_n, if_true, if_false, eq_self, d_if, d_ju, d_re, d_ca, cat0, cat1, cat2, cat3, fr_z, fr_s, cc_I, cc_A, cc_N, Nat.reduceAdd, Nat.reduceLT, Nat.reduceLeDiff, Nat.reduceEqDiff, not_true, not_false_iff, z1_0, z1_1, Bool.and_self, Bool.true_and, Bool.and_true, nI_add, pk_mul, nI_clamp, decide_true, Nat.le_refl, bI_eq, bI_z1, nI_ltI, nI_leI, am_u_at, am_u_ne, upd_at, upd_ne, nI_eq, nI_z, z_le, z_lt, g13, hi4]
      refine go_at (blk := b_Model_tellLaw_38) rfl ?_
      simp (disch := omega) only [b_Model_tellLaw_38, be_6, be_33, be_50_5, kc_388, List.getD_cons_zero, List.getD_cons_succ, List.set_cons_zero, List.set_cons_succ, List.length_cons, List.length_nil, pk_I, pk_A, pr_A, pi_I, st_s, st_n, if_true, if_false, eq_self, d_if, d_ju, d_re, d_ca, cat0, cat1, cat2, cat3, fr_z, fr_s, cc_I, cc_A, cc_N, Nat.reduceAdd, Nat.reduceLT, Nat.reduceLeDiff, Nat.reduceEqDiff, not_true, not_false_iff, z1_0, z1_1, Bool.and_self, Bool.true_and, Bool.and_true, nI_add, pk_mul, nI_clamp, decide_true, Nat.le_refl, bI_eq, bI_z1, nI_ltI, nI_leI, am_u_at, am_u_ne, upd_at, upd_ne, nI_eq, nI_z, z_le, z_lt, g13, hi4]
      refine go_at (blk := b_Model_tellLaw_46) rfl ?_
      simp (disch := omega) only [b_Model_tellLaw_46, be_10, be_6, be_57_0, kc_388, List.getD_cons_zero, List.getD_cons_succ, List.set_cons_zero, List.set_cons_succ, List.length_cons, List.length_nil, pk_I, pk_A, pr_A, pi_I, st_s, st_n, if_true, if_false, eq_self, d_if, d_ju, d_re, d_ca, cat0, cat1, cat2, cat3, fr_z, fr_s, cc_I, cc_A, cc_N, Nat.reduceAdd, Nat.reduceLT, Nat.reduceLeDiff, Nat.reduceEqDiff, not_true, not_false_iff, z1_0, z1_1, Bool.and_self, Bool.true_and, Bool.and_true, nI_add, pk_mul, nI_clamp, decide_true, Nat.le_refl, bI_eq, bI_z1, nI_ltI, nI_leI, am_u_at, am_u_ne, upd_at, upd_ne, nI_eq, nI_z, z_le, z_lt, g13, hi4]
      refine r_goesOn hE hs (fun t' ht => ?_) ?_
      · have e9 : t = t' := by simpa using ht
        subst e9
        exact ⟨by omega, by omega⟩
      intro v1 f1 s1
      rw [show takeS E (.inr t, l, p) = (tkR E t, l, p) from rfl] at s1
      have e33 : v1 388 33 = nI br := by rw [f1.2 33 (by omega) (by omega) (by omega) (by omega) (by omega)]; exact h33
      have e39 : v1 388 39 = nI a := by rw [f1.2 39 (by omega) (by omega) (by omega) (by omega) (by omega)]; exact h39
      have e12 : v1 388 12 = nI 0 := by rw [f1.2 12 (by omega) (by omega) (by omega) (by omega) (by omega)]; exact h12
      unfold BR1 at hx
      cases h0 : tkR E t with
      | inl f =>
        rw [h0] at s1 hx
        exact lawM53 hJ (b0 := br) (e := f) (l := l) (p := p) (ME_8 hE f1) s1 e33 (Nat.le_refl _) (by omega) (fun v9 f9 s9 => q1 v9 _ _ (GB_t (GB_8 f1) f9) s9 hx)
      | inr t1 =>
        rw [h0] at s1 hx
        obtain ⟨rfl, ht0⟩ := tk_lt h0
        refine go_at (blk := b_Model_tellLaw_53) rfl ?_
        simp (disch := omega) only [b_Model_tellLaw_53, be_6, be_34, be_33, be_1, be_45, be_43, be_57_0, kc_388, rf_388_34, ka_408, rf_388_35, ka_409, List.getD_cons_zero, List.getD_cons_succ, List.set_cons_zero, List.set_cons_succ, List.length_cons, List.length_nil, pk_I, pk_A, pr_A, pi_I, st_s, st_n, if_true, if_false, eq_self, d_if, d_ju, d_re, d_ca, cat0, cat1, cat2, cat3, fr_z, fr_s, cc_I, cc_A, cc_N, Nat.reduceAdd, Nat.reduceLT, Nat.reduceLeDiff, Nat.reduceEqDiff, not_true, not_false_iff, z1_0, z1_1, Bool.and_self, Bool.true_and, Bool.and_true, nI_add, pk_mul, nI_clamp, decide_true, Nat.le_refl, bI_eq, bI_z1, nI_ltI, nI_leI, am_u_at, am_u_ne, upd_at, upd_ne, nI_eq, nI_z, z_le, z_lt, e33, e39, vb_1]
        have fr1 : GB K0 J0 a br v (am_u (am_u v1 408 br (nI 1)) 409 br (nI a)) := GB_t (GB_8 f1) (GB_t (GB_a (by omega) (Nat.le_refl _) (by omega)) (GB_a (by omega) (Nat.le_refl _) (by omega)))
        have hE1 := ME_B hE fr1
        have hG1 : MG E (am_u (am_u v1 408 br (nI 1)) 409 br (nI a)) (t + 1) l p := MS_w (s := (.inr (t + 1), l, p)) s1 (fun k hk => by rw [am_u_ne (by omega), am_u_ne (by omega)])
        have o1 : (am_u (am_u v1 408 br (nI 1)) 409 br (nI a)) 388 12 = nI 0 := by rw [am_u_ne (by omega), am_u_ne (by omega)]; exact e12
        have c0 : (am_u (am_u v1 408 br (nI 1)) 409 br (nI a)) 388 39 = nI a := by rw [am_u_ne (by omega), am_u_ne (by omega)]; exact e39
        have b33 : (am_u (am_u v1 408 br (nI 1)) 409 br (nI a)) 388 33 = nI br := by rw [am_u_ne (by omega), am_u_ne (by omega)]; exact e33
        have w408 : (am_u (am_u v1 408 br (nI 1)) 409 br (nI a)) 408 br = nI 1 := by rw [am_u_ne (by omega), am_u_at, upd_at]
        have w409 : (am_u (am_u v1 408 br (nI 1)) 409 br (nI a)) 409 br = nI a := by rw [am_u_at, upd_at]
        rcases hx with ⟨f, xA, hx⟩ | ⟨tA, A, xA, hx⟩
        · refine r_expr (K0 := K0) hE1 hG1 o1 c0 (by omega) hK0 xA ?_ ?_
          · intro v2 t2 C2 _ _ _ _ _ e1
            cases e1
          · intro v2 k2 p2 f2 s2 e1
            cases e1
            exact lawM80 hJ (b0 := br) (e := (k2, p2)) (l := l) (p := p) (ME_U hE1 f2) s2 (by rw [f2.2.1 33 (by omega) (by omega) (by omega) (by omega) (by omega) (by omega) (by omega) (by omega)]; exact b33) (Nat.le_refl _) (by omega) (fun v9 f9 s9 => q1 v9 _ _ (GB_t (GB_t fr1 (GB_U f2)) f9) s9 hx)
        · refine r_expr (K0 := K0) hE1 hG1 o1 c0 (by omega) hK0 xA ?_ ?_
          · intro v2 t2 C2 f2 s2 c2 o2 d2 e1
            cases e1
            refine go_at (blk := b_Model_tellLaw_80) rfl ?_
            simp (disch := omega) only [b_Model_tellLaw_80, be_6, be_1, be_57_1, kc_388, List.getD_cons_zero, List.getD_cons_succ, List.set_cons_zero, List.set_cons_succ, List.length_cons, List.length_nil, pk_I, pk_A, pr_A, pi_I, st_s, st_n, if_true, if_false, eq_self, d_if, d_ju, d_re, d_ca, cat0, cat1, cat2, cat3, fr_z, fr_s, cc_I, cc_A, cc_N, Nat.reduceAdd, Nat.reduceLT, Nat.reduceLeDiff, Nat.reduceEqDiff, not_true, not_false_iff, z1_0, z1_1, Bool.and_self, Bool.true_and, Bool.and_true, nI_add, pk_mul, nI_clamp, decide_true, Nat.le_refl, bI_eq, bI_z1, nI_ltI, nI_leI, am_u_at, am_u_ne, upd_at, upd_ne, nI_eq, nI_z, z_le, z_lt]
            refine r_must (s := (.inr tA, l, p)) (j := 13) (ME_U hE1 f2) s2 (by omega) (by omega) (by omega) ?_
            intro v3 f3 s3
            rw [show wantS E 13 (.inr tA, l, p) = (wnt E 13 tA, l, p) from rfl] at s3
            have fr3 : GB K0 J0 a br v v3 := GB_t fr1 (GB_t (GB_U f2) (GB_8 f3))
            have g33 : v3 388 33 = nI br := by rw [f3.2 33 (by omega) (by omega) (by omega) (by omega) (by omega), f2.2.1 33 (by omega) (by omega) (by omega) (by omega) (by omega) (by omega) (by omega) (by omega)]; exact b33
            cases h1 : wnt E 13 tA with
            | inl f =>
              rw [h1] at s3 hx
              exact lawM86 hJ (b0 := br) (e := f) (l := l) (p := p) (ME_B hE fr3) s3 g33 (Nat.le_refl _) (by omega) (fun v9 f9 s9 => q1 v9 _ _ (GB_t fr3 f9) s9 hx)
            | inr t3 =>
              rw [h1] at s3 hx
              obtain ⟨rfl, h14, _⟩ := wn_lt h1
              have g39 : v3 388 39 = nI (a + A.length) := by rw [f3.2 39 (by omega) (by omega) (by omega) (by omega) (by omega)]; exact c2.1
              have g12 : v3 388 12 = nI 0 := by rw [f3.2 12 (by omega) (by omega) (by omega) (by omega) (by omega)]; exact o2
              have g13' : v3 388 13 = nI 0 := s3.2.2.1
              refine go_at (blk := b_Model_tellLaw_86) rfl ?_
              simp (disch := omega) only [b_Model_tellLaw_86, be_6, be_34, be_33, be_43, be_50_1, kc_388, rf_388_36, ka_410, List.getD_cons_zero, List.getD_cons_succ, List.set_cons_zero, List.set_cons_succ, List.length_cons, List.length_nil, pk_I, pk_A, pr_A, pi_I, st_s, st_n, if_true, if_false, eq_self, d_if, d_ju, d_re, d_ca, cat0, cat1, cat2, cat3, fr_z, fr_s, cc_I, cc_A, cc_N, Nat.reduceAdd, Nat.reduceLT, Nat.reduceLeDiff, Nat.reduceEqDiff, not_true, not_false_iff, z1_0, z1_1, Bool.and_self, Bool.true_and, Bool.and_true, nI_add, pk_mul, nI_clamp, decide_true, Nat.le_refl, bI_eq, bI_z1, nI_ltI, nI_leI, am_u_at, am_u_ne, upd_at, upd_ne, nI_eq, nI_z, z_le, z_lt, g13', g33, g39]
              refine go_at (blk := b_Model_tellLaw_106) rfl ?_
              simp (disch := omega) only [b_Model_tellLaw_106, be_6, be_57_0, kc_388, List.getD_cons_zero, List.getD_cons_succ, List.set_cons_zero, List.set_cons_succ, List.length_cons, List.length_nil, pk_I, pk_A, pr_A, pi_I, st_s, st_n, if_true, if_false, eq_self, d_if, d_ju, d_re, d_ca, cat0, cat1, cat2, cat3, fr_z, fr_s, cc_I, cc_A, cc_N, Nat.reduceAdd, Nat.reduceLT, Nat.reduceLeDiff, Nat.reduceEqDiff, not_true, not_false_iff, z1_0, z1_1, Bool.and_self, Bool.true_and, Bool.and_true, nI_add, pk_mul, nI_clamp, decide_true, Nat.le_refl, bI_eq, bI_z1, nI_ltI, nI_leI, am_u_at, am_u_ne, upd_at, upd_ne, nI_eq, nI_z, z_le, z_lt, g13', g33, g39]
              have fr4 : GB K0 J0 a br v (am_u v3 410 br (nI (a + A.length))) := GB_t fr3 (GB_a (by omega) (Nat.le_refl _) (by omega))
              have hE4 := ME_B hE fr4
              have hG4 : MG E (am_u v3 410 br (nI (a + A.length))) (tA + 1) l p := MS_w (s := (.inr (tA + 1), l, p)) s3 (fun k hk => by rw [am_u_ne (by omega)])
              have k12 : (am_u v3 410 br (nI (a + A.length))) 388 12 = nI 0 := by rw [am_u_ne (by omega)]; exact g12
              have k39 : (am_u v3 410 br (nI (a + A.length))) 388 39 = nI (a + A.length) := by rw [am_u_ne (by omega)]; exact g39
              have k33 : (am_u v3 410 br (nI (a + A.length))) 388 33 = nI br := by rw [am_u_ne (by omega)]; exact g33
              rcases hx with ⟨f, xB, hx⟩ | ⟨tB, B, xB, hx⟩
              · refine r_expr (K0 := K0) (B := a + A.length) hE4 hG4 k12 k39 (by omega) hK0 xB ?_ ?_
                · intro v5 t5 C5 _ _ _ _ _ e1
                  cases e1
                · intro v5 k5 p5 f5 s5 e1
                  cases e1
                  have fr5 : GB K0 J0 a br v v5 := GB_t fr4 (GB_c (GB_U f5))
                  exact lawM110 hJ (b0 := br) (e := (k5, p5)) (l := l) (p := p) (ME_B hE fr5) s5 (by rw [f5.2.1 33 (by omega) (by omega) (by omega) (by omega) (by omega) (by omega) (by omega) (by omega)]; exact k33) (Nat.le_refl _) (by omega) (fun v9 f9 s9 => q1 v9 _ _ (GB_t fr5 f9) s9 hx)
              · refine r_expr (K0 := K0) (B := a + A.length) hE4 hG4 k12 k39 (by omega) hK0 xB ?_ ?_
                · intro v5 t5 C5 f5 s5 c5 o5 d5 e1
                  cases e1
                  have fr5 : GB K0 J0 a br v v5 := GB_t fr4 (GB_c (GB_U f5))
                  refine go_at (blk := b_Model_tellLaw_110) rfl ?_
                  simp (disch := omega) only [b_Model_tellLaw_110, be_6, be_1, be_57_1, kc_388, List.getD_cons_zero, List.getD_cons_succ, List.set_cons_zero, List.set_cons_succ, List.length_cons, List.length_nil, pk_I, pk_A, pr_A, pi_I, st_s, st_n, if_true, if_false, eq_self, d_if, d_ju, d_re, d_ca, cat0, cat1, cat2, cat3, fr_z, fr_s, cc_I, cc_A, cc_N, Nat.reduceAdd, Nat.reduceLT, Nat.reduceLeDiff, Nat.reduceEqDiff, not_true, not_false_iff, z1_0, z1_1, Bool.and_self, Bool.true_and, Bool.and_true, nI_add, pk_mul, nI_clamp, decide_true, Nat.le_refl, bI_eq, bI_z1, nI_ltI, nI_leI, am_u_at, am_u_ne, upd_at, upd_ne, nI_eq, nI_z, z_le, z_lt]
                  refine r_must (s := (.inr tB, l, p)) (j := 27) (ME_B hE fr5) s5 (by omega) (by omega) (by omega) ?_
                  intro v6 f6 s6
                  rw [show wantS E 27 (.inr tB, l, p) = (wnt E 27 tB, l, p) from rfl] at s6
                  have fr6 : GB K0 J0 a br v v6 := GB_t fr5 (GB_8 f6)
                  have m33 : v6 388 33 = nI br := by rw [f6.2 33 (by omega) (by omega) (by omega) (by omega) (by omega), f5.2.1 33 (by omega) (by omega) (by omega) (by omega) (by omega) (by omega) (by omega) (by omega)]; exact k33
                  cases h2 : wnt E 27 tB with
                  | inl f =>
                    rw [h2] at s6 hx
                    exact lawM116 hJ (b0 := br) (e := f) (l := l) (p := p) (ME_B hE fr6) s6 m33 (Nat.le_refl _) (by omega) (fun v9 f9 s9 => q1 v9 _ _ (GB_t fr6 f9) s9 hx)
                  | inr t6 =>
                    rw [h2] at s6 hx
                    obtain ⟨rfl, h24, _⟩ := wn_lt h2
                    have m39 : v6 388 39 = nI (a + A.length + B.length) := by rw [f6.2 39 (by omega) (by omega) (by omega) (by omega) (by omega)]; exact c5.1
                    have m12 : v6 388 12 = nI 0 := by rw [f6.2 12 (by omega) (by omega) (by omega) (by omega) (by omega)]; exact o5
                    refine go_at (blk := b_Model_tellLaw_116) rfl ?_
                    simp (disch := omega) only [b_Model_tellLaw_116, be_6, be_57_0, kc_388, List.getD_cons_zero, List.getD_cons_succ, List.set_cons_zero, List.set_cons_succ, List.length_cons, List.length_nil, pk_I, pk_A, pr_A, pi_I, st_s, st_n, if_true, if_false, eq_self, d_if, d_ju, d_re, d_ca, cat0, cat1, cat2, cat3, fr_z, fr_s, cc_I, cc_A, cc_N, Nat.reduceAdd, Nat.reduceLT, Nat.reduceLeDiff, Nat.reduceEqDiff, not_true, not_false_iff, z1_0, z1_1, Bool.and_self, Bool.true_and, Bool.and_true, nI_add, pk_mul, nI_clamp, decide_true, Nat.le_refl, bI_eq, bI_z1, nI_ltI, nI_leI, am_u_at, am_u_ne, upd_at, upd_ne, nI_eq, nI_z, z_le, z_lt]
                    rcases hx with ⟨f, xC, hx⟩ | ⟨tC, C, xC, hx⟩
                    · refine r_term (K0 := K0) (B := a + A.length + B.length) (ME_B hE fr6) s6 m12 m39 (by omega) hK0 m33 (by omega) hJ xC ?_ ?_
                      · intro v7 t7 C7 _ _ _ _ _ _ _ _ _ e1
                        cases e1
                      · intro v7 k7 p7 f7 s7 n33 e1
                        cases e1
                        have fr7 : GB K0 J0 a br v v7 := GB_t fr6 (GB_c (GB_c f7))
                        exact lawM120 hJ (b0 := br) (e := (k7, p7)) (l := l) (p := p) (ME_B hE fr7) s7 n33 (by omega) (by omega) (fun v9 f9 s9 => q1 v9 _ _ (GB_t fr7 f9) s9 hx)
                    · refine r_term (K0 := K0) (B := a + A.length + B.length) (ME_B hE fr6) s6 m12 m39 (by omega) hK0 m33 (by omega) hJ xC ?_ ?_
                      · intro v7 t7 C7 f7 s7 c7 o7 n33 n411 n412 n408 d7 e1
                        cases e1
                        have fr7 : GB K0 J0 a br v v7 := GB_t fr6 (GB_c (GB_c f7))
                        refine go_at (blk := b_Model_tellLaw_120) rfl ?_
                        simp (disch := omega) only [b_Model_tellLaw_120, be_6, be_1, be_57_1, kc_388, List.getD_cons_zero, List.getD_cons_succ, List.set_cons_zero, List.set_cons_succ, List.length_cons, List.length_nil, pk_I, pk_A, pr_A, pi_I, st_s, st_n, if_true, if_false, eq_self, d_if, d_ju, d_re, d_ca, cat0, cat1, cat2, cat3, fr_z, fr_s, cc_I, cc_A, cc_N, Nat.reduceAdd, Nat.reduceLT, Nat.reduceLeDiff, Nat.reduceEqDiff, not_true, not_false_iff, z1_0, z1_1, Bool.and_self, Bool.true_and, Bool.and_true, nI_add, pk_mul, nI_clamp, decide_true, Nat.le_refl, bI_eq, bI_z1, nI_ltI, nI_leI, am_u_at, am_u_ne, upd_at, upd_ne, nI_eq, nI_z, z_le, z_lt]
                        refine r_must (s := (.inr tC, l, p)) (j := 28) (ME_B hE fr7) s7 (by omega) (by omega) (by omega) ?_
                        intro v8 f8 s8
                        rw [show wantS E 28 (.inr tC, l, p) = (wnt E 28 tC, l, p) from rfl] at s8
                        have fr8 : GB K0 J0 a br v v8 := GB_t fr7 (GB_8 f8)
                        have z33 : v8 388 33 = nI (br + 1) := by rw [f8.2 33 (by omega) (by omega) (by omega) (by omega) (by omega)]; exact n33
                        cases h3 : wnt E 28 tC with
                        | inl f =>
                          rw [h3] at s8 hx
                          refine go_at (blk := b_Model_tellLaw_126) rfl ?_
                          simp (disch := omega) only [b_Model_tellLaw_126, be_51, List.getD_cons_zero, List.getD_cons_succ, List.set_cons_zero, List.set_cons_succ, List.length_cons, List.length_nil, pk_I, pk_A, pr_A, pi_I, st_s, st_n, if_true, if_false, eq_self, d_if, d_ju, d_re, d_ca, cat0, cat1, cat2, cat3, fr_z, fr_s, cc_I, cc_A, cc_N, Nat.reduceAdd, Nat.reduceLT, Nat.reduceLeDiff, Nat.reduceEqDiff, not_true, not_false_iff, z1_0, z1_1, Bool.and_self, Bool.true_and, Bool.and_true, nI_add, pk_mul, nI_clamp, decide_true, Nat.le_refl, bI_eq, bI_z1, nI_ltI, nI_leI, am_u_at, am_u_ne, upd_at, upd_ne, nI_eq, nI_z, z_le, z_lt]
                          exact lawM12 hJ (b0 := br) (e := f) (l := l) (p := p) (ME_B hE fr8) s8 z33 (by omega) (by omega) (fun v9 f9 s9 => q1 v9 _ _ (GB_t fr8 f9) s9 hx)
                        | inr t8 =>
                          rw [h3] at s8 hx
                          obtain ⟨rfl, h34, _⟩ := wn_lt h3
                          obtain ⟨R', hx9, rfl⟩ := hx
                          refine go_at (blk := b_Model_tellLaw_126) rfl ?_
                          simp (disch := omega) only [b_Model_tellLaw_126, be_51, List.getD_cons_zero, List.getD_cons_succ, List.set_cons_zero, List.set_cons_succ, List.length_cons, List.length_nil, pk_I, pk_A, pr_A, pi_I, st_s, st_n, if_true, if_false, eq_self, d_if, d_ju, d_re, d_ca, cat0, cat1, cat2, cat3, fr_z, fr_s, cc_I, cc_A, cc_N, Nat.reduceAdd, Nat.reduceLT, Nat.reduceLeDiff, Nat.reduceEqDiff, not_true, not_false_iff, z1_0, z1_1, Bool.and_self, Bool.true_and, Bool.and_true, nI_add, pk_mul, nI_clamp, decide_true, Nat.le_refl, bI_eq, bI_z1, nI_ltI, nI_leI, am_u_at, am_u_ne, upd_at, upd_ne, nI_eq, nI_z, z_le, z_lt]
                          have z39 : v8 388 39 = nI (a + A.length + B.length + C.length) := by rw [f8.2 39 (by omega) (by omega) (by omega) (by omega) (by omega)]; exact c7.1
                          have z12 : v8 388 12 = nI 0 := by rw [f8.2 12 (by omega) (by omega) (by omega) (by omega) (by omega)]; exact o7
                          have hb1 : B1x v8 br a (A, B, C) := by
                            refine ⟨?_, ?_, ?_, ?_, ?_, ?_, ?_, ?_⟩
                            · rw [f8.1 408 (by omega), n408.1, f6.1 408 (by omega), f5.1 408 (by omega) (by omega) (by omega) (by omega), am_u_ne (by omega), f3.1 408 (by omega), f2.1 408 (by omega) (by omega) (by omega) (by omega)]
                              exact w408
                            · rw [f8.1 409 (by omega), n408.2.1, f6.1 409 (by omega), f5.1 409 (by omega) (by omega) (by omega) (by omega), am_u_ne (by omega), f3.1 409 (by omega), f2.1 409 (by omega) (by omega) (by omega) (by omega)]
                              exact w409
                            · rw [f8.1 410 (by omega), n408.2.2, f6.1 410 (by omega), f5.1 410 (by omega) (by omega) (by omega) (by omega), am_u_at, upd_at]
                            · rw [f8.1 411 (by omega)]
                              exact n411
                            · rw [f8.1 412 (by omega)]
                              exact n412
                            · have y1 : sgm v2 a A := c2.2
                              have y2 : sgm v3 a A := sgm_w (B := a + A.length) y1 (Nat.le_refl _) (fun k _ => ⟨by rw [f3.1 413 (by omega)], by rw [f3.1 414 (by omega)]⟩)
                              have y3 : sgm v5 a A := sgm_w (B := a + A.length) y2 (Nat.le_refl _) (fun k hk => ⟨by rw [(f5.2.2 k (Or.inl hk)).1, am_u_ne (by omega)], by rw [(f5.2.2 k (Or.inl hk)).2, am_u_ne (by omega)]⟩)
                              have y4 : sgm v6 a A := sgm_w (B := a + A.length) y3 (Nat.le_refl _) (fun k _ => ⟨by rw [f6.1 413 (by omega)], by rw [f6.1 414 (by omega)]⟩)
                              have y5 : sgm v7 a A := sgm_w (B := a + A.length) y4 (Nat.le_refl _) (fun k hk => f7.2.2.1 k (Or.inl (by omega)))
                              exact sgm_w (B := a + A.length) y5 (Nat.le_refl _) (fun k _ => ⟨by rw [f8.1 413 (by omega)], by rw [f8.1 414 (by omega)]⟩)
                            · have y3 : sgm v5 (a + A.length) B := c5.2
                              have y4 : sgm v6 (a + A.length) B := sgm_w (B := a + A.length + B.length) y3 (Nat.le_refl _) (fun k _ => ⟨by rw [f6.1 413 (by omega)], by rw [f6.1 414 (by omega)]⟩)
                              have y5 : sgm v7 (a + A.length) B := sgm_w (B := a + A.length + B.length) y4 (Nat.le_refl _) (fun k hk => f7.2.2.1 k (Or.inl hk))
                              exact sgm_w (B := a + A.length + B.length) y5 (Nat.le_refl _) (fun k _ => ⟨by rw [f8.1 413 (by omega)], by rw [f8.1 414 (by omega)]⟩)
                            · have y5 : sgm v7 (a + A.length + B.length) C := c7.2
                              exact sgm_w (B := a + A.length + B.length + C.length) y5 (Nat.le_refl _) (fun k _ => ⟨by rw [f8.1 413 (by omega)], by rw [f8.1 414 (by omega)]⟩)
                          have ebl : bl (A, B, C) = A.length + B.length + C.length := rfl
                          refine ih (i + 1) (tC + 1) (br + 1) (a + A.length + B.length + C.length) v8 R' (by omega) (ME_B hE fr8) s8 z12 z39 z33 (by omega) hK0 (by omega) hx9 ?_ ?_
                          · intro v9 t9 bs9 D9 x9 f9 s9 o9 a9 b9 l9 d9 e9
                            have el : lbl ((A, B, C) :: bs9) D9 = A.length + B.length + C.length + lbl bs9 D9 := rfl
                            refine q0 v9 t9 ((A, B, C) :: bs9) D9 x9 (GB_t fr8 (GB_c (GB_c (GB_c (GB_m f9 (by omega)))))) s9 o9 (by rw [el, a9]; exact nI_e (by omega)) (by rw [b9]; exact nI_e (by rw [List.length_cons]; omega)) ⟨B1_w hb1 (by omega) (by omega) f9, ?_⟩ (by omega) (by rw [e9]; rfl)
                            rw [show a + bl (A, B, C) = a + A.length + B.length + C.length by omega]
                            exact l9
                          · intro v9 k9 p9 f9 s9 e9
                            exact q1 v9 k9 p9 (GB_t fr8 (GB_c (GB_c (GB_c (GB_m f9 (by omega)))))) s9 (by rw [e9]; rfl)
                      · intro v7 k7 p7 _ _ _ e1
                        cases e1
                · intro v5 k5 p5 _ _ e1
                  cases e1
          · intro v2 k2 p2 _ _ e1
            cases e1
    · have hx : bX E t (fun t' D => R = .inr (t', [], D)) (fun f => R = .inl f) := by unfold LWR at hx; rw [if_neg hIF] at hx; exact hx
      refine go_at (blk := b_Model_tellLaw_12) rfl ?_
      simp (disch := omega) only [b_Model_tellLaw_12, be_6, be_33, be_50_1, kc_388, List.getD_cons_zero, List.getD_cons_succ, List.set_cons_zero, List.set_cons_succ, List.length_cons, List.length_nil, pk_I, pk_A, pr_A, pi_I, st_s, st_n, if_true, if_false, eq_self, d_if, d_ju, d_re, d_ca, cat0, cat1, cat2, cat3, fr_z, fr_s, cc_I, cc_A, cc_N, Nat.reduceAdd, Nat.reduceLT, Nat.reduceLeDiff, Nat.reduceEqDiff, not_true, not_false_iff, z1_0, z1_1, Bool.and_self, Bool.true_and, Bool.and_true, nI_add, pk_mul, nI_clamp, decide_true, Nat.le_refl, bI_eq, bI_z1, nI_ltI, nI_leI, am_u_at, am_u_ne, upd_at, upd_ne, nI_eq, nI_z, z_le, z_lt, g13, h33, vb_00]
      refine go_at (blk := b_Model_tellLaw_19) rfl ?_
      simp (disch := omega) only [b_Model_tellLaw_19, be_6, be_1, be_57_1, kc_388, List.getD_cons_zero, List.getD_cons_succ, List.set_cons_zero, List.set_cons_succ, List.length_cons, List.length_nil, pk_I, pk_A, pr_A, pi_I, st_s, st_n, if_true, if_false, eq_self, d_if, d_ju, d_re, d_ca, cat0, cat1, cat2, cat3, fr_z, fr_s, cc_I, cc_A, cc_N, Nat.reduceAdd, Nat.reduceLT, Nat.reduceLeDiff, Nat.reduceEqDiff, not_true, not_false_iff, z1_0, z1_1, Bool.and_self, Bool.true_and, Bool.and_true, nI_add, pk_mul, nI_clamp, decide_true, Nat.le_refl, bI_eq, bI_z1, nI_ltI, nI_leI, am_u_at, am_u_ne, upd_at, upd_ne, nI_eq, nI_z, z_le, z_lt, g13, h33, vb_00]
      refine r_is (s := (.inr t, l, p)) hE hs (by omega) (by omega) ?_
      rw [show decide (kdR E (.inr t, l, p) = 26) = false from decide_eq_false hIF]
      refine go_at (blk := b_Model_tellLaw_25) rfl ?_
      simp (disch := omega) only [b_Model_tellLaw_25, be_50_0, List.getD_cons_zero, List.getD_cons_succ, List.set_cons_zero, List.set_cons_succ, List.length_cons, List.length_nil, pk_I, pk_A, pr_A, pi_I, st_s, st_n, if_true, if_false, eq_self, d_if, d_ju, d_re, d_ca, cat0, cat1, cat2, cat3, fr_z, fr_s, cc_I, cc_A, cc_N, Nat.reduceAdd, Nat.reduceLT, Nat.reduceLeDiff, Nat.reduceEqDiff, not_true, not_false_iff, z1_0, z1_1, Bool.and_self, Bool.true_and, Bool.and_true, nI_add, pk_mul, nI_clamp, decide_true, Nat.le_refl, bI_eq, bI_z1, nI_ltI, nI_leI, am_u_at, am_u_ne, upd_at, upd_ne, nI_eq, nI_z, z_le, z_lt, g13, h33, vb_00]
      refine go_at (blk := b_Model_tellLaw_129) rfl ?_
      simp (disch := omega) only [b_Model_tellLaw_129, be_6, be_34, be_33, be_1, be_45, be_57_0, kc_388, rf_388_34, ka_408, List.getD_cons_zero, List.getD_cons_succ, List.set_cons_zero, List.set_cons_succ, List.length_cons, List.length_nil, pk_I, pk_A, pr_A, pi_I, st_s, st_n, if_true, if_false, eq_self, d_if, d_ju, d_re, d_ca, cat0, cat1, cat2, cat3, fr_z, fr_s, cc_I, cc_A, cc_N, Nat.reduceAdd, Nat.reduceLT, Nat.reduceLeDiff, Nat.reduceEqDiff, not_true, not_false_iff, z1_0, z1_1, Bool.and_self, Bool.true_and, Bool.and_true, nI_add, pk_mul, nI_clamp, decide_true, Nat.le_refl, bI_eq, bI_z1, nI_ltI, nI_leI, am_u_at, am_u_ne, upd_at, upd_ne, nI_eq, nI_z, z_le, z_lt, g13, h33, vb_00]
      have fr0 : GB K0 J0 a br v (am_u v 408 br (nI 0)) := GB_a (by omega) (Nat.le_refl _) (by omega)
      have hE1 := ME_B hE fr0
      have hG1 : MG E (am_u v 408 br (nI 0)) t l p := ⟨by rw [am_u_ne (by omega)]; exact g11, gt, by rw [am_u_ne (by omega)]; exact g13, by rw [am_u_ne (by omega)]; exact g15, gl, fun z => ⟨by rw [am_u_ne (by omega)]; exact (g16 z).1, (g16 z).2⟩⟩
      rcases hx with ⟨f, xD, rfl⟩ | ⟨t', D, xD, rfl⟩
      · refine r_term (K0 := K0) hE1 hG1 (by rw [am_u_ne (by omega)]; exact h12) (by rw [am_u_ne (by omega)]; exact h39) ha hK0 (by rw [am_u_ne (by omega)]; exact h33) (by omega) hJ xD ?_ ?_
        · intro v1 t1 C1 _ _ _ _ _ _ _ _ _ e1
          cases e1
        · intro v1 k1 p1 f1 s1 e33 e1
          cases e1
          exact lawM143 hJ (b0 := br) (e := (k1, p1)) (l := l) (p := p) (ME_B hE (GB_t fr0 f1)) s1 e33 (by omega) (by omega) (fun v9 f9 s9 => q1 v9 _ _ (GB_t (GB_t fr0 f1) f9) s9 rfl)
      · refine r_term (K0 := K0) hE1 hG1 (by rw [am_u_ne (by omega)]; exact h12) (by rw [am_u_ne (by omega)]; exact h39) ha hK0 (by rw [am_u_ne (by omega)]; exact h33) (by omega) hJ xD ?_ ?_
        · intro v1 t1 C1 f1 s1 c1 o1 e33 e411 e412 e408 bd e1
          cases e1
          exact q0 v1 t' [] D (nI i) (GB_t fr0 f1) s1 o1 c1.1 e33 ⟨by rw [e408.1, am_u_at, upd_at]; rfl, e411, e412, c1.2⟩ bd rfl
        · intro v1 k1 p1 _ _ _ e1
          cases e1
