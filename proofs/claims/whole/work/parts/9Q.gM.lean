/-! laid by wip/whole/gM.py: the reference: tellLaw -/
/-- as GB; and the places of one law -/
def GL (K0 J0 B br x : Nat) (v v' : Nat → Nat → Int32) : Prop := (∀ c, c ≠ 388 → (c < 406 ∨ 415 < c) → v' c = v c) ∧ (∀ k, k ≠ 11 → k ≠ 13 → k ≠ 14 → k ≠ 15 → k ≠ 16 → k ≠ 39 → k ≠ 43 → k ≠ 12 → k ≠ 33 → v' 388 k = v 388 k) ∧ (∀ k, (k < B ∨ K0 + 420 ≤ k) → v' 413 k = v 413 k ∧ v' 414 k = v 414 k) ∧ (∀ k, (k < br ∨ J0 + 130 ≤ k) → v' 408 k = v 408 k ∧ v' 409 k = v 409 k ∧ v' 410 k = v 410 k ∧ v' 411 k = v 411 k ∧ v' 412 k = v 412 k) ∧ ∀ k, k ≠ x → v' 406 k = v 406 k ∧ v' 407 k = v 407 k
theorem GL_B {K0 J0 B br x : Nat} {v v' : Nat → Nat → Int32} (h : GB K0 J0 B br v v') : GL K0 J0 B br x v v' := ⟨fun c a1 a2 => h.1 c a1 (by omega), h.2.1, h.2.2.1, h.2.2.2, fun k _ => ⟨by rw [h.1 406 (by omega) (by omega)], by rw [h.1 407 (by omega) (by omega)]⟩⟩
theorem LB_w {v v' : Nat → Nat → Int32} (e : ∀ c, 408 ≤ c → c ≤ 414 → v' c = v c) : ∀ (bs : List BRD) (D : CL) (br a : Nat), LBX v br a bs D → LBX v' br a bs D := by
  have hs : ∀ a l, sgm v a l → sgm v' a l := by
    intro a l h
    unfold sgm at *
    rw [e 413 (by omega) (by omega), e 414 (by omega) (by omega)]
    exact h
  intro bs
  induction bs with
  | nil =>
    intro D br a h
    obtain ⟨h1, h2, h3, h4⟩ := h
    exact ⟨by rw [e 408 (by omega) (by omega)]; exact h1, by rw [e 411 (by omega) (by omega)]; exact h2, by rw [e 412 (by omega) (by omega)]; exact h3, hs _ _ h4⟩
  | cons b bs ih =>
    intro D br a h
    obtain ⟨⟨h1, h2, h3, h4, h5, h6, h7, h8⟩, h9⟩ := h
    exact ⟨⟨by rw [e 408 (by omega) (by omega)]; exact h1, by rw [e 409 (by omega) (by omega)]; exact h2, by rw [e 410 (by omega) (by omega)]; exact h3, by rw [e 411 (by omega) (by omega)]; exact h4, by rw [e 412 (by omega) (by omega)]; exact h5, hs _ _ h6, hs _ _ h7, hs _ _ h8⟩, ih D (br + 1) (a + bl b) h9⟩
/-- how many branches a LAW has at most -/
theorem lw_n {E : ENV} : ∀ (n t : Nat) (R : RL), LWR E n t R → ∀ t' bs D, R = .inr (t', bs, D) → bs.length ≤ n := by
  intro n
  induction n with
  | zero =>
    intro t R h t' bs D e
    unfold LWR at h
    split at h
    · rw [h] at e; cases e
    · rcases h with ⟨f, _, h⟩ | ⟨t2, C, _, h⟩
      · rw [h] at e; cases e
      · rw [h] at e; cases e; exact Nat.le_refl _
  | succ n ih =>
    intro t R h t' bs D e
    unfold LWR at h
    split at h
    · have bTx : ∀ {r : RT} {k : Nat → Prop}, bT r k (fun f => R = .inl f) → ∃ t, k t := by
        intro r k hb
        cases r with
        | inl f =>
          have hb : R = .inl f := hb
          rw [hb] at e
          cases e
        | inr t => exact ⟨t, hb⟩
      have bXx : ∀ {t : Nat} {k : Nat → CL → Prop}, bX E t k (fun f => R = .inl f) → ∃ t' C, k t' C := by
        intro t k hb
        rcases hb with ⟨f, _, hb⟩ | ⟨t2, C, _, hb⟩
        · rw [hb] at e
          cases e
        · exact ⟨t2, C, hb⟩
      unfold BR1 at h
      obtain ⟨_, h⟩ := bTx h
      obtain ⟨_, _, h⟩ := bXx h
      obtain ⟨_, h⟩ := bTx h
      obtain ⟨_, _, h⟩ := bXx h
      obtain ⟨_, h⟩ := bTx h
      obtain ⟨_, _, h⟩ := bXx h
      obtain ⟨_, h⟩ := bTx h
      obtain ⟨R', h1, h2⟩ := h
      cases R' with
      | inl f =>
        rw [h2] at e
        cases e
      | inr x =>
        obtain ⟨t3, bs3, D3⟩ := x
        rw [h2] at e
        have h3 := ih _ _ h1 t3 bs3 D3 rfl
        cases e
        rw [List.length_cons]
        omega
    · rcases h with ⟨f, _, h⟩ | ⟨t2, C, _, h⟩
      · rw [h] at e; cases e
      · rw [h] at e; cases e; exact Nat.zero_le _
set_option maxHeartbeats 2000000 in
theorem r_tellLaw {d : Nat} {v : Nat → Nat → Int32} {w : Nat → Nat → Int64} {Q : Option Value → am_H → Prop} {E : ENV} {t l p a br K0 J0 sd kk : Nat} {R : RL} (hJ : J0 ≤ 130) (hE : ME E v w) (hG : MG E v t l p) (h12 : v 388 12 = nI 0) (h39 : v 388 39 = nI a) (h33 : v 388 33 = nI br) (h19 : v 388 19 = nI sd) (hsd : sd < 2) (hkk : kk < 2) (ha : a ≤ K0 + t) (hK0 : K0 ≤ 420) (hbr : br + 6 ≤ J0 + 130) (hx : LAWR E t R) (q0 : ∀ v' t' bs D, GL K0 J0 a br (2 * sd + kk) v v' → MG E v' t' l p → v' 388 12 = nI 0 → v' 388 39 = nI (a + lbl bs D) → v' 388 33 = nI (br + bs.length + 1) → LBX v' br a bs D → v' 406 (2 * sd + kk) = nI br → v' 407 (2 * sd + kk) = nI (br + bs.length + 1) → a + lbl bs D ≤ K0 + t' → (∃ t2, R = .inr (t2, bs, D) ∧ wnt E 4 t2 = .inr t') → Q none (428, 26053, KD, RF, v', w)) (q1 : ∀ v' k' p', GL K0 J0 a br (2 * sd + kk) v v' → MB v' k' p' → (R = .inl (k', p') ∨ ∃ t2 bs D, R = .inr (t2, bs, D) ∧ wnt E 4 t2 = .inl (k', p')) → Q none (428, 26053, KD, RF, v', w)) : am_Ca (d + 8) M_Model_tellLaw [.ref 388, .int (nI kk)] (428, 26053, KD, RF, v, w) Q := by
  refine ca_in (k := k_Model_tellLaw) (nL := 4) rfl (Nat.le_of_ble_eq_true rfl) ?_
  show am_Go am_X0 _ k_Model_tellLaw 0 ([.ref 388, .int (nI kk), .null, .null], [], _) _
  refine go_at (blk := b_Model_tellLaw_0) rfl ?_
  simp (disch := omega) only [b_Model_tellLaw_0, be_6, be_1, be_57_1, kc_388, List.getD_cons_zero, List.getD_cons_succ, List.set_cons_zero, List.set_cons_succ, List.length_cons, List.length_nil, pk_I, pk_A, pr_A, pi_I, st_s, st_n, if_true, if_false, eq_self, d_if, d_ju, d_re, d_ca, cat0, cat1, cat2, cat3, fr_z, fr_s, cc_I, cc_A, cc_N, Nat.reduceAdd, Nat.reduceLT, Nat.reduceLeDiff, Nat.reduceEqDiff, not_true, not_false_iff, z1_0, z1_1, Bool.and_self, Bool.true_and, Bool.and_true, nI_add, pk_mul, nI_clamp, decide_true, Nat.le_refl, bI_eq, bI_z1, nI_ltI, nI_leI, am_u_at, am_u_ne, upd_at, upd_ne, nI_eq, nI_z, z_le, z_lt]
  refine r_must (s := (.inr t, l, p)) (j := 5) hE hG (by omega) (by omega) (by omega) ?_
  intro v1 f1 s1
  rw [show wantS E 5 (.inr t, l, p) = (wnt E 5 t, l, p) from rfl] at s1
  have e33 : v1 388 33 = nI br := by rw [f1.2 33 (by omega) (by omega) (by omega) (by omega) (by omega)]; exact h33
  have e39 : v1 388 39 = nI a := by rw [f1.2 39 (by omega) (by omega) (by omega) (by omega) (by omega)]; exact h39
  have e12 : v1 388 12 = nI 0 := by rw [f1.2 12 (by omega) (by omega) (by omega) (by omega) (by omega)]; exact h12
  unfold LAWR at hx
  refine go_at (blk := b_Model_tellLaw_5) rfl ?_
  simp (disch := omega) only [b_Model_tellLaw_5, be_6, be_33, be_7, be_1, be_0, kc_388, List.getD_cons_zero, List.getD_cons_succ, List.set_cons_zero, List.set_cons_succ, List.length_cons, List.length_nil, pk_I, pk_A, pr_A, pi_I, st_s, st_n, if_true, if_false, eq_self, d_if, d_ju, d_re, d_ca, cat0, cat1, cat2, cat3, fr_z, fr_s, cc_I, cc_A, cc_N, Nat.reduceAdd, Nat.reduceLT, Nat.reduceLeDiff, Nat.reduceEqDiff, not_true, not_false_iff, z1_0, z1_1, Bool.and_self, Bool.true_and, Bool.and_true, nI_add, pk_mul, nI_clamp, decide_true, Nat.le_refl, bI_eq, bI_z1, nI_ltI, nI_leI, am_u_at, am_u_ne, upd_at, upd_ne, nI_eq, nI_z, z_le, z_lt, e33]
  cases h0 : wnt E 5 t with
  | inl f =>
    rw [h0] at s1 hx
    exact lawM12 hJ (B := a) (K0 := K0) (b0 := br) (e := f) (l := l) (p := p) (ME_8 hE f1) s1 e33 (Nat.le_refl _) (by omega) (fun v9 f9 s9 => q1 v9 _ _ (GL_B (GB_t (GB_8 f1) f9)) s9 (Or.inl hx))
  | inr t1 =>
    rw [h0] at s1 hx
    obtain ⟨rfl, ht0, _⟩ := wn_lt h0
    refine r_lawL hJ 4 0 (t + 1) br a v1 R (by omega) (ME_8 hE f1) s1 e12 e39 e33 (by omega) hK0 (by omega) hx ?_ (fun v9 k9 p9 f9 s9 e9 => q1 v9 k9 p9 (GL_B (GB_t (GB_8 f1) f9)) s9 (Or.inl e9))
    intro v2 t2 bs D x2 f2 s2 o2 a2 b2 l2 d2 e2
    have fr2 : GB K0 J0 a br v v2 := GB_t (GB_8 f1) f2
    refine go_at (blk := b_Model_tellLaw_143) rfl ?_
    simp (disch := omega) only [b_Model_tellLaw_143, be_6, be_1, be_57_1, kc_388, List.getD_cons_zero, List.getD_cons_succ, List.set_cons_zero, List.set_cons_succ, List.length_cons, List.length_nil, pk_I, pk_A, pr_A, pi_I, st_s, st_n, if_true, if_false, eq_self, d_if, d_ju, d_re, d_ca, cat0, cat1, cat2, cat3, fr_z, fr_s, cc_I, cc_A, cc_N, Nat.reduceAdd, Nat.reduceLT, Nat.reduceLeDiff, Nat.reduceEqDiff, not_true, not_false_iff, z1_0, z1_1, Bool.and_self, Bool.true_and, Bool.and_true, nI_add, pk_mul, nI_clamp, decide_true, Nat.le_refl, bI_eq, bI_z1, nI_ltI, nI_leI, am_u_at, am_u_ne, upd_at, upd_ne, nI_eq, nI_z, z_le, z_lt]
    refine r_must (s := (.inr t2, l, p)) (j := 4) (ME_B hE fr2) s2 (by omega) (by omega) (by omega) ?_
    intro v3 f3 s3
    rw [show wantS E 4 (.inr t2, l, p) = (wnt E 4 t2, l, p) from rfl] at s3
    have fr3 : GB K0 J0 a br v v3 := GB_t fr2 (GB_8 f3)
    cases h1 : wnt E 4 t2 with
    | inl f =>
      rw [h1] at s3
      have b13 : v3 388 13 = nI f.1 := s3.1
      have hk1 : ¬ nI f.1 ≤ 0 := nI_nle s3.2.1 (by have := s3.2.2.1; omega)
      refine go_at (blk := b_Model_tellLaw_148) rfl ?_
      simp (disch := omega) only [b_Model_tellLaw_148, be_6, be_33, be_50_5, kc_388, List.getD_cons_zero, List.getD_cons_succ, List.set_cons_zero, List.set_cons_succ, List.length_cons, List.length_nil, pk_I, pk_A, pr_A, pi_I, st_s, st_n, if_true, if_false, eq_self, d_if, d_ju, d_re, d_ca, cat0, cat1, cat2, cat3, fr_z, fr_s, cc_I, cc_A, cc_N, Nat.reduceAdd, Nat.reduceLT, Nat.reduceLeDiff, Nat.reduceEqDiff, not_true, not_false_iff, z1_0, z1_1, Bool.and_self, Bool.true_and, Bool.and_true, nI_add, pk_mul, nI_clamp, decide_true, Nat.le_refl, bI_eq, bI_z1, nI_ltI, nI_leI, am_u_at, am_u_ne, upd_at, upd_ne, nI_eq, nI_z, z_le, z_lt, b13, hk1]
      refine go_at (blk := b_Model_tellLaw_155) rfl ?_
      simp (disch := omega) only [b_Model_tellLaw_155, be_56, List.getD_cons_zero, List.getD_cons_succ, List.set_cons_zero, List.set_cons_succ, List.length_cons, List.length_nil, pk_I, pk_A, pr_A, pi_I, st_s, st_n, if_true, if_false, eq_self, d_if, d_ju, d_re, d_ca, cat0, cat1, cat2, cat3, fr_z, fr_s, cc_I, cc_A, cc_N, Nat.reduceAdd, Nat.reduceLT, Nat.reduceLeDiff, Nat.reduceEqDiff, not_true, not_false_iff, z1_0, z1_1, Bool.and_self, Bool.true_and, Bool.and_true, nI_add, pk_mul, nI_clamp, decide_true, Nat.le_refl, bI_eq, bI_z1, nI_ltI, nI_leI, am_u_at, am_u_ne, upd_at, upd_ne, nI_eq, nI_z, z_le, z_lt, b13, hk1]
      exact q1 v3 _ _ (GL_B fr3) s3 (Or.inr ⟨t2, bs, D, e2, h1⟩)
    | inr t3 =>
      rw [h1] at s3
      obtain ⟨rfl, h14, _⟩ := wn_lt h1
      have b13 : v3 388 13 = nI 0 := s3.2.2.1
      have c33 : v3 388 33 = nI (br + bs.length + 1) := by rw [f3.2 33 (by omega) (by omega) (by omega) (by omega) (by omega)]; exact b2
      have c19 : v3 388 19 = nI sd := by rw [fr3.2.1 19 (by omega) (by omega) (by omega) (by omega) (by omega) (by omega) (by omega) (by omega) (by omega)]; exact h19
      have hb9 : br + bs.length + 1 ≤ 1000000 := by
        have := lw_n 4 (t + 1) R hx
        rw [e2] at this
        have := this _ _ _ rfl
        omega
      refine go_at (blk := b_Model_tellLaw_148) rfl ?_
      simp (disch := omega) only [b_Model_tellLaw_148, be_6, be_33, be_50_5, kc_388, List.getD_cons_zero, List.getD_cons_succ, List.set_cons_zero, List.set_cons_succ, List.length_cons, List.length_nil, pk_I, pk_A, pr_A, pi_I, st_s, st_n, if_true, if_false, eq_self, d_if, d_ju, d_re, d_ca, cat0, cat1, cat2, cat3, fr_z, fr_s, cc_I, cc_A, cc_N, Nat.reduceAdd, Nat.reduceLT, Nat.reduceLeDiff, Nat.reduceEqDiff, not_true, not_false_iff, z1_0, z1_1, Bool.and_self, Bool.true_and, Bool.and_true, nI_add, pk_mul, nI_clamp, decide_true, Nat.le_refl, bI_eq, bI_z1, nI_ltI, nI_leI, am_u_at, am_u_ne, upd_at, upd_ne, nI_eq, nI_z, z_le, z_lt, b13, c33, c19]
      refine go_at (blk := b_Model_tellLaw_156) rfl ?_
      simp (disch := omega) only [b_Model_tellLaw_156, be_6, be_34, be_1, be_33, be_14, be_4, be_12, be_43, be_56, kc_388, rf_388_31, ka_406, rf_388_32, ka_407, List.getD_cons_zero, List.getD_cons_succ, List.set_cons_zero, List.set_cons_succ, List.length_cons, List.length_nil, pk_I, pk_A, pr_A, pi_I, st_s, st_n, if_true, if_false, eq_self, d_if, d_ju, d_re, d_ca, cat0, cat1, cat2, cat3, fr_z, fr_s, cc_I, cc_A, cc_N, Nat.reduceAdd, Nat.reduceLT, Nat.reduceLeDiff, Nat.reduceEqDiff, not_true, not_false_iff, z1_0, z1_1, Bool.and_self, Bool.true_and, Bool.and_true, nI_add, pk_mul, nI_clamp, decide_true, Nat.le_refl, bI_eq, bI_z1, nI_ltI, nI_leI, am_u_at, am_u_ne, upd_at, upd_ne, nI_eq, nI_z, z_le, z_lt, b13, c33, c19]
      refine q0 (am_u (am_u v3 406 (2 * sd + kk) (nI br)) 407 (2 * sd + kk) (nI (br + bs.length + 1))) (t2 + 1) bs D ⟨?_, ?_, ?_, ?_, ?_⟩ ?_ ?_ ?_ ?_ ?_ ?_ ?_ (by omega) ⟨t2, e2, h1⟩
      · intro c c1 c2
        rw [am_u_ne (by omega), am_u_ne (by omega)]
        exact fr3.1 c c1 (by omega)
      · intro k a1 a2 a3 a4 a5 a6 a7 a8 a9
        rw [am_u_ne (by omega), am_u_ne (by omega)]
        exact fr3.2.1 k a1 a2 a3 a4 a5 a6 a7 a8 a9
      · intro k hk
        rw [am_u_ne (by omega), am_u_ne (by omega), am_u_ne (by omega), am_u_ne (by omega)]
        exact fr3.2.2.1 k hk
      · intro k hk
        simp (disch := omega) only [am_u_ne]
        exact fr3.2.2.2 k hk
      · intro k hk
        rw [am_u_ne (by omega), am_u_at, upd_ne hk, am_u_at, upd_ne hk, am_u_ne (by omega), fr3.1 406 (by omega) (by omega), fr3.1 407 (by omega) (by omega)]
        exact ⟨rfl, rfl⟩
      · exact MS_w (s := (.inr (t2 + 1), l, p)) s3 (fun k hk => by rw [am_u_ne (by omega), am_u_ne (by omega)])
      · rw [am_u_ne (by omega), am_u_ne (by omega), f3.2 12 (by omega) (by omega) (by omega) (by omega) (by omega)]
        exact o2
      · rw [am_u_ne (by omega), am_u_ne (by omega), f3.2 39 (by omega) (by omega) (by omega) (by omega) (by omega)]
        exact a2
      · rw [am_u_ne (by omega), am_u_ne (by omega)]
        exact c33
      · exact LB_w (fun c c1 c2 => by rw [am_u_ne (by omega), am_u_ne (by omega), f3.1 c (by omega)]) bs D br a l2
      · rw [am_u_ne (by omega), am_u_at, upd_at]
      · rw [am_u_at, upd_at]
