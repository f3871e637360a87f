/-! laid by wip/whole/gW.py: the reference: read, up to what it read -/
theorem vp_by {x : Int32} (h : -128 ≤ x.toInt ∧ x.toInt ≤ 127) : vp_nar FieldType.byte x = x := by
  show x.toInt8.toInt32 = x
  apply Int32.toInt_inj.mp
  rw [Int8.toInt_toInt32, Int32.toInt_toInt8, Int.bmod_eq_of_le] <;> omega
theorem u_ne2 {v : Nat → Nat → Int32} {a i c k : Nat} {x : Int32} (h : c ≠ a ∨ k ≠ i) : am_u v a i x c k = v c k := by
  by_cases e : c = a
  · subst e
    rw [am_u_at, upd_ne (by omega)]
  · rw [am_u_ne e]
/-- what reading keeps -/
def KPT (sd c k : Nat) : Prop := (c ≠ 388 ∧ (c < 390 ∨ 415 < c)) ∨ (c = 388 ∧ k ≠ 2 ∧ k ≠ 4 ∧ k ≠ 10 ∧ k ≠ 11 ∧ k ≠ 12 ∧ k ≠ 13 ∧ k ≠ 14 ∧ k ≠ 15 ∧ k ≠ 16 ∧ k ≠ 17 ∧ k ≠ 19 ∧ k ≠ 20 ∧ k ≠ 33 ∧ k ≠ 39 ∧ k ≠ 43) ∨ ((c = 397 ∨ c = 398 ∨ c = 405) ∧ k ≠ sd) ∨ ((399 ≤ c ∧ c ≤ 404) ∧ (k < 8 * sd ∨ 8 * sd + 8 ≤ k)) ∨ ((c = 406 ∨ c = 407) ∧ k ≠ 2 * sd ∧ k ≠ 2 * sd + 1) ∨ ((408 ≤ c ∧ c ≤ 412) ∧ (k < 130 * sd ∨ 130 * sd + 130 ≤ k)) ∨ ((c = 413 ∨ c = 414) ∧ (k < 420 * sd ∨ 420 * sd + 420 ≤ k))
def GQ (sd : Nat) (v v' : Nat → Nat → Int32) : Prop := ∀ c k, KPT sd c k → v' c k = v c k
theorem GQ_r {sd : Nat} {v : Nat → Nat → Int32} : GQ sd v v := fun _ _ _ => rfl
theorem GQ_t {sd : Nat} {v v' v'' : Nat → Nat → Int32} (h : GQ sd v v') (h' : GQ sd v' v'') : GQ sd v v'' := fun c k z => (h' c k z).trans (h c k z)
theorem GQ_u {sd a i : Nat} {v : Nat → Nat → Int32} {x : Int32} (h : ¬ KPT sd a i) : GQ sd v (am_u v a i x) := by
  intro c k z
  refine u_ne2 ?_
  by_cases e : c = a
  · by_cases e2 : k = i
    · subst e
      subst e2
      exact absurd z h
    · exact Or.inr e2
  · exact Or.inl e
theorem GQ_S {sd : Nat} {v v' : Nat → Nat → Int32} (h : GS sd v v') : GQ sd v v' := by
  intro c k z
  obtain ⟨h1, h2, h3, h4, h5, h6, h7⟩ := h
  unfold KPT at z
  rcases z with z | ⟨rfl, z⟩ | ⟨z, zk⟩ | ⟨z, zk⟩ | ⟨z, zk⟩ | ⟨z, zk⟩ | ⟨z, zk⟩
  · rw [h1 c (by omega) (by omega)]
  · exact h2 k (by omega) (by omega) (by omega) (by omega) (by omega) (by omega) (by omega) (by omega) (by omega) (by omega)
  · rcases z with rfl | rfl | rfl
    · exact (h3 k zk).1
    · exact (h3 k zk).2.1
    · exact (h3 k zk).2.2
  · have := h4 (c - 398) (by omega) (by omega) k zk
    rw [show 398 + (c - 398) = c by omega] at this
    exact this
  · rcases z with rfl | rfl
    · exact (h5 k zk.1 zk.2).1
    · exact (h5 k zk.1 zk.2).2
  · rcases (show c = 408 ∨ c = 409 ∨ c = 410 ∨ c = 411 ∨ c = 412 by omega) with rfl | rfl | rfl | rfl | rfl
    · exact (h6 k zk).1
    · exact (h6 k zk).2.1
    · exact (h6 k zk).2.2.1
    · exact (h6 k zk).2.2.2.1
    · exact (h6 k zk).2.2.2.2
  · rcases z with rfl | rfl
    · exact (h7 k zk).1
    · exact (h7 k zk).2
theorem GQ_C {sd : Nat} {v v' : Nat → Nat → Int32} (h : CF v v') : GQ sd v v' := by
  intro c k z
  unfold KPT at z
  by_cases e : c = 388
  · subst e
    exact h.2 k (by omega)
  · rw [h.1 c (by omega) (by omega) (by omega) e]
theorem GQ_a {sd : Nat} {v v' : Nat → Nat → Int32} (h : ∀ c, c ≠ 390 → v' c = v c) : GQ sd v v' := by
  intro c k z
  unfold KPT at z
  rw [h c (by omega)]
set_option maxHeartbeats 2000000 in
theorem r_plain {d : Nat} {v : Nat → Nat → Int32} {w : Nat → Nat → Int64} {Q : Option Value → am_H → Prop} {sd : Nat} (hsd : sd < 2) (hQ : ∀ v', (∀ c k, (¬ ((c = 397 ∨ c = 398 ∨ c = 405) ∧ k = sd) ∧ ¬ ((c = 406 ∨ c = 407) ∧ (k = 2 * sd + 0 ∨ k = 2 * sd + 1))) → v' c k = v c k) → v' 397 sd = nI 20 → v' 398 sd = nI 0 → v' 405 sd = nI 0 → (v' 406 (2 * sd + 0) = nI 0 ∧ v' 407 (2 * sd + 0) = nI 0) → (v' 406 (2 * sd + 1) = nI 0 ∧ v' 407 (2 * sd + 1) = nI 0) → Q none (428, 26053, KD, RF, v', w)) : am_Ca (d + 1) M_Model_plain [.ref 388, .int (nI sd)] (428, 26053, KD, RF, v, w) Q := by
  refine ca_in (k := k_Model_plain) (nL := 3) rfl (Nat.le_of_ble_eq_true rfl) ?_
  show am_Go am_X0 _ k_Model_plain 0 ([.ref 388, .int (nI sd), .null], [], _) _
  refine go_at (blk := b_Model_plain_0) rfl ?_
  simp (disch := omega) only [b_Model_plain_0, be_6, be_34, be_4, be_1, be_43, be_7, be_0, kc_388, rf_388_22, ka_397, rf_388_23, ka_398, rf_388_30, ka_405, List.getD_cons_zero, List.getD_cons_succ, List.set_cons_zero, List.set_cons_succ, List.length_cons, List.length_nil, pk_I, pk_A, pr_A, pi_I, st_s, st_n, if_true, if_false, eq_self, d_if, d_ju, d_re, d_ca, cat0, cat1, cat2, cat3, fr_z, fr_s, cc_I, cc_A, cc_N, Nat.reduceAdd, Nat.reduceLT, Nat.reduceLeDiff, Nat.reduceEqDiff, not_true, not_false_iff, z1_0, z1_1, Bool.and_self, Bool.true_and, Bool.and_true, nI_add, pk_mul, nI_clamp, decide_true, Nat.le_refl, bI_eq, bI_z1, nI_ltI, nI_leI, am_u_at, am_u_ne, upd_at, upd_ne]
  refine go_at (blk := b_Model_plain_24) rfl ?_
  simp (disch := omega) only [b_Model_plain_24, be_4, be_1, be_49_3, List.getD_cons_zero, List.getD_cons_succ, List.set_cons_zero, List.set_cons_succ, List.length_cons, List.length_nil, pk_I, pk_A, pr_A, pi_I, st_s, st_n, if_true, if_false, eq_self, d_if, d_ju, d_re, d_ca, cat0, cat1, cat2, cat3, fr_z, fr_s, cc_I, cc_A, cc_N, Nat.reduceAdd, Nat.reduceLT, Nat.reduceLeDiff, Nat.reduceEqDiff, not_true, not_false_iff, z1_0, z1_1, Bool.and_self, Bool.true_and, Bool.and_true, nI_add, pk_mul, nI_clamp, decide_true, Nat.le_refl, bI_eq, bI_z1, nI_ltI, nI_leI, am_u_at, am_u_ne, upd_at, upd_ne]
  refine go_at (blk := b_Model_plain_29) rfl ?_
  simp (disch := omega) only [b_Model_plain_29, be_6, be_34, be_1, be_4, be_14, be_12, be_43, be_10, be_51, kc_388, rf_388_31, ka_406, rf_388_32, ka_407, List.getD_cons_zero, List.getD_cons_succ, List.set_cons_zero, List.set_cons_succ, List.length_cons, List.length_nil, pk_I, pk_A, pr_A, pi_I, st_s, st_n, if_true, if_false, eq_self, d_if, d_ju, d_re, d_ca, cat0, cat1, cat2, cat3, fr_z, fr_s, cc_I, cc_A, cc_N, Nat.reduceAdd, Nat.reduceLT, Nat.reduceLeDiff, Nat.reduceEqDiff, not_true, not_false_iff, z1_0, z1_1, Bool.and_self, Bool.true_and, Bool.and_true, nI_add, pk_mul, nI_clamp, decide_true, Nat.le_refl, bI_eq, bI_z1, nI_ltI, nI_leI, am_u_at, am_u_ne, upd_at, upd_ne]
  refine go_at (blk := b_Model_plain_24) rfl ?_
  simp (disch := omega) only [b_Model_plain_24, be_4, be_1, be_49_3, List.getD_cons_zero, List.getD_cons_succ, List.set_cons_zero, List.set_cons_succ, List.length_cons, List.length_nil, pk_I, pk_A, pr_A, pi_I, st_s, st_n, if_true, if_false, eq_self, d_if, d_ju, d_re, d_ca, cat0, cat1, cat2, cat3, fr_z, fr_s, cc_I, cc_A, cc_N, Nat.reduceAdd, Nat.reduceLT, Nat.reduceLeDiff, Nat.reduceEqDiff, not_true, not_false_iff, z1_0, z1_1, Bool.and_self, Bool.true_and, Bool.and_true, nI_add, pk_mul, nI_clamp, decide_true, Nat.le_refl, bI_eq, bI_z1, nI_ltI, nI_leI, am_u_at, am_u_ne, upd_at, upd_ne]
  refine go_at (blk := b_Model_plain_29) rfl ?_
  simp (disch := omega) only [b_Model_plain_29, be_6, be_34, be_1, be_4, be_14, be_12, be_43, be_10, be_51, kc_388, rf_388_31, ka_406, rf_388_32, ka_407, List.getD_cons_zero, List.getD_cons_succ, List.set_cons_zero, List.set_cons_succ, List.length_cons, List.length_nil, pk_I, pk_A, pr_A, pi_I, st_s, st_n, if_true, if_false, eq_self, d_if, d_ju, d_re, d_ca, cat0, cat1, cat2, cat3, fr_z, fr_s, cc_I, cc_A, cc_N, Nat.reduceAdd, Nat.reduceLT, Nat.reduceLeDiff, Nat.reduceEqDiff, not_true, not_false_iff, z1_0, z1_1, Bool.and_self, Bool.true_and, Bool.and_true, nI_add, pk_mul, nI_clamp, decide_true, Nat.le_refl, bI_eq, bI_z1, nI_ltI, nI_leI, am_u_at, am_u_ne, upd_at, upd_ne]
  refine go_at (blk := b_Model_plain_24) rfl ?_
  simp (disch := omega) only [b_Model_plain_24, be_4, be_1, be_49_3, List.getD_cons_zero, List.getD_cons_succ, List.set_cons_zero, List.set_cons_succ, List.length_cons, List.length_nil, pk_I, pk_A, pr_A, pi_I, st_s, st_n, if_true, if_false, eq_self, d_if, d_ju, d_re, d_ca, cat0, cat1, cat2, cat3, fr_z, fr_s, cc_I, cc_A, cc_N, Nat.reduceAdd, Nat.reduceLT, Nat.reduceLeDiff, Nat.reduceEqDiff, not_true, not_false_iff, z1_0, z1_1, Bool.and_self, Bool.true_and, Bool.and_true, nI_add, pk_mul, nI_clamp, decide_true, Nat.le_refl, bI_eq, bI_z1, nI_ltI, nI_leI, am_u_at, am_u_ne, upd_at, upd_ne]
  refine go_at (blk := b_Model_plain_57) rfl ?_
  simp (disch := omega) only [b_Model_plain_57, be_56, List.getD_cons_zero, List.getD_cons_succ, List.set_cons_zero, List.set_cons_succ, List.length_cons, List.length_nil, pk_I, pk_A, pr_A, pi_I, st_s, st_n, if_true, if_false, eq_self, d_if, d_ju, d_re, d_ca, cat0, cat1, cat2, cat3, fr_z, fr_s, cc_I, cc_A, cc_N, Nat.reduceAdd, Nat.reduceLT, Nat.reduceLeDiff, Nat.reduceEqDiff, not_true, not_false_iff, z1_0, z1_1, Bool.and_self, Bool.true_and, Bool.and_true, nI_add, pk_mul, nI_clamp, decide_true, Nat.le_refl, bI_eq, bI_z1, nI_ltI, nI_leI, am_u_at, am_u_ne, upd_at, upd_ne]
  refine hQ _ (fun c k h => ?_) ?_ ?_ ?_ ?_ ?_
  · rw [u_ne2 (by omega), u_ne2 (by omega), u_ne2 (by omega), u_ne2 (by omega), u_ne2 (by omega), u_ne2 (by omega), u_ne2 (by omega)]
  · rw [u_ne2 (by omega), u_ne2 (by omega), u_ne2 (by omega), u_ne2 (by omega), u_ne2 (by omega), u_ne2 (by omega), am_u_at, upd_at]
  · rw [u_ne2 (by omega), u_ne2 (by omega), u_ne2 (by omega), u_ne2 (by omega), u_ne2 (by omega), am_u_at, upd_at]
  · rw [u_ne2 (by omega), u_ne2 (by omega), u_ne2 (by omega), u_ne2 (by omega), am_u_at, upd_at]
  · refine ⟨?_, ?_⟩
    · rw [u_ne2 (by omega), u_ne2 (by omega), u_ne2 (by omega), am_u_at, upd_at]
    · rw [u_ne2 (by omega), u_ne2 (by omega), am_u_at, upd_at]
  · refine ⟨?_, ?_⟩
    · rw [u_ne2 (by omega), am_u_at, upd_at]
    · rw [am_u_at, upd_at]
set_option maxHeartbeats 2000000 in
theorem r_readL {d : Nat} {Q : Option Value → am_H → Prop} {E : ENV} {sd : Nat} {x1 : Value} {R : RZ} (hsd : sd < 2) : ∀ (n t l p : Nat) (D : DRF) (v : Nat → Nat → Int32) (w : Nat → Nat → Int64), FINn E n t l p D R → ME E v w → MG E v t l p → MDX sd v w D t → (∀ v' w' f, R = .inl f → GS sd v v' → (∀ c, c ≠ 396 → w' c = w c) → MB v' f.1 f.2 → am_Go am_X0 (d + 9) k_Model_read 134 ([.ref 388, x1], [], (428, 26053, KD, RF, v', w')) Q) → (∀ v' w' l p D t, R = .inr (l, p, D) → GS sd v v' → (∀ c, c ≠ 396 → w' c = w c) → MG E v' t l p → MDX sd v' w' D t → am_Go am_X0 (d + 9) k_Model_read 134 ([.ref 388, x1], [], (428, 26053, KD, RF, v', w')) Q) → am_Go am_X0 (d + 9) k_Model_read 112 ([.ref 388, x1], [], (428, 26053, KD, RF, v, w)) Q := by
  intro n
  induction n with
  | zero => intro t l p D v w h; cases h
  | succ n ih =>
    intro t l p D v w h hE hM hD hB hG
    have hs : MS' E v (.inr t, l, p) := hM
    have g13 : v 388 13 = nI 0 := hM.2.2.1
    unfold FINn at h
    by_cases hk : eK E t = 0
    · rw [if_pos hk] at h
      refine go_at (blk := b_Model_read_112) rfl ?_
      simp (disch := omega) only [b_Model_read_112, be_6, be_33, be_50_1, kc_388, List.getD_cons_zero, List.getD_cons_succ, List.set_cons_zero, List.set_cons_succ, List.length_cons, List.length_nil, pk_I, pk_A, pr_A, pi_I, st_s, st_n, if_true, if_false, eq_self, d_if, d_ju, d_re, d_ca, cat0, cat1, cat2, cat3, fr_z, fr_s, cc_I, cc_A, cc_N, Nat.reduceAdd, Nat.reduceLT, Nat.reduceLeDiff, Nat.reduceEqDiff, not_true, not_false_iff, z1_0, z1_1, Bool.and_self, Bool.true_and, Bool.and_true, nI_add, pk_mul, nI_clamp, decide_true, Nat.le_refl, bI_eq, bI_z1, nI_ltI, nI_leI, am_u_at, am_u_ne, upd_at, upd_ne, nI_z, z_le, z_lt, g13, bI_t, bI_f, z_10]
      refine go_at (blk := b_Model_read_119) rfl ?_
      simp (disch := omega) only [b_Model_read_119, be_6, be_1, be_57_1, kc_388, List.getD_cons_zero, List.getD_cons_succ, List.set_cons_zero, List.set_cons_succ, List.length_cons, List.length_nil, pk_I, pk_A, pr_A, pi_I, st_s, st_n, if_true, if_false, eq_self, d_if, d_ju, d_re, d_ca, cat0, cat1, cat2, cat3, fr_z, fr_s, cc_I, cc_A, cc_N, Nat.reduceAdd, Nat.reduceLT, Nat.reduceLeDiff, Nat.reduceEqDiff, not_true, not_false_iff, z1_0, z1_1, Bool.and_self, Bool.true_and, Bool.and_true, nI_add, pk_mul, nI_clamp, decide_true, Nat.le_refl, bI_eq, bI_z1, nI_ltI, nI_leI, am_u_at, am_u_ne, upd_at, upd_ne, nI_z, z_le, z_lt, g13, bI_t, bI_f, z_10]
      refine r_is (j := 0) (s := (.inr t, l, p)) hE hs (by omega) (by omega) ?_
      rw [show kdR E (.inr t, l, p) = eK E t from rfl, decide_eq_true hk]
      refine go_at (blk := b_Model_read_124) rfl ?_
      simp (disch := omega) only [b_Model_read_124, be_50_1, List.getD_cons_zero, List.getD_cons_succ, List.set_cons_zero, List.set_cons_succ, List.length_cons, List.length_nil, pk_I, pk_A, pr_A, pi_I, st_s, st_n, if_true, if_false, eq_self, d_if, d_ju, d_re, d_ca, cat0, cat1, cat2, cat3, fr_z, fr_s, cc_I, cc_A, cc_N, Nat.reduceAdd, Nat.reduceLT, Nat.reduceLeDiff, Nat.reduceEqDiff, not_true, not_false_iff, z1_0, z1_1, Bool.and_self, Bool.true_and, Bool.and_true, nI_add, pk_mul, nI_clamp, decide_true, Nat.le_refl, bI_eq, bI_z1, nI_ltI, nI_leI, am_u_at, am_u_ne, upd_at, upd_ne, nI_z, z_le, z_lt, g13, bI_t, bI_f, z_10]
      exact hG v w l p D t h GS_r (fun _ _ => rfl) hM hD
    · rw [if_neg hk] at h
      refine go_at (blk := b_Model_read_112) rfl ?_
      simp (disch := omega) only [b_Model_read_112, be_6, be_33, be_50_1, kc_388, List.getD_cons_zero, List.getD_cons_succ, List.set_cons_zero, List.set_cons_succ, List.length_cons, List.length_nil, pk_I, pk_A, pr_A, pi_I, st_s, st_n, if_true, if_false, eq_self, d_if, d_ju, d_re, d_ca, cat0, cat1, cat2, cat3, fr_z, fr_s, cc_I, cc_A, cc_N, Nat.reduceAdd, Nat.reduceLT, Nat.reduceLeDiff, Nat.reduceEqDiff, not_true, not_false_iff, z1_0, z1_1, Bool.and_self, Bool.true_and, Bool.and_true, nI_add, pk_mul, nI_clamp, decide_true, Nat.le_refl, bI_eq, bI_z1, nI_ltI, nI_leI, am_u_at, am_u_ne, upd_at, upd_ne, nI_z, z_le, z_lt, g13, bI_t, bI_f, z_10]
      refine go_at (blk := b_Model_read_119) rfl ?_
      simp (disch := omega) only [b_Model_read_119, be_6, be_1, be_57_1, kc_388, List.getD_cons_zero, List.getD_cons_succ, List.set_cons_zero, List.set_cons_succ, List.length_cons, List.length_nil, pk_I, pk_A, pr_A, pi_I, st_s, st_n, if_true, if_false, eq_self, d_if, d_ju, d_re, d_ca, cat0, cat1, cat2, cat3, fr_z, fr_s, cc_I, cc_A, cc_N, Nat.reduceAdd, Nat.reduceLT, Nat.reduceLeDiff, Nat.reduceEqDiff, not_true, not_false_iff, z1_0, z1_1, Bool.and_self, Bool.true_and, Bool.and_true, nI_add, pk_mul, nI_clamp, decide_true, Nat.le_refl, bI_eq, bI_z1, nI_ltI, nI_leI, am_u_at, am_u_ne, upd_at, upd_ne, nI_z, z_le, z_lt, g13, bI_t, bI_f, z_10]
      refine r_is (j := 0) (s := (.inr t, l, p)) hE hs (by omega) (by omega) ?_
      rw [show kdR E (.inr t, l, p) = eK E t from rfl, decide_eq_false hk]
      refine go_at (blk := b_Model_read_124) rfl ?_
      simp (disch := omega) only [b_Model_read_124, be_50_1, List.getD_cons_zero, List.getD_cons_succ, List.set_cons_zero, List.set_cons_succ, List.length_cons, List.length_nil, pk_I, pk_A, pr_A, pi_I, st_s, st_n, if_true, if_false, eq_self, d_if, d_ju, d_re, d_ca, cat0, cat1, cat2, cat3, fr_z, fr_s, cc_I, cc_A, cc_N, Nat.reduceAdd, Nat.reduceLT, Nat.reduceLeDiff, Nat.reduceEqDiff, not_true, not_false_iff, z1_0, z1_1, Bool.and_self, Bool.true_and, Bool.and_true, nI_add, pk_mul, nI_clamp, decide_true, Nat.le_refl, bI_eq, bI_z1, nI_ltI, nI_leI, am_u_at, am_u_ne, upd_at, upd_ne, nI_z, z_le, z_lt, g13, bI_t, bI_f, z_10]
      refine go_at (blk := b_Model_read_127) rfl ?_
      simp (disch := omega) only [b_Model_read_127, be_6, be_57_0, kc_388, List.getD_cons_zero, List.getD_cons_succ, List.set_cons_zero, List.set_cons_succ, List.length_cons, List.length_nil, pk_I, pk_A, pr_A, pi_I, st_s, st_n, if_true, if_false, eq_self, d_if, d_ju, d_re, d_ca, cat0, cat1, cat2, cat3, fr_z, fr_s, cc_I, cc_A, cc_N, Nat.reduceAdd, Nat.reduceLT, Nat.reduceLeDiff, Nat.reduceEqDiff, not_true, not_false_iff, z1_0, z1_1, Bool.and_self, Bool.true_and, Bool.and_true, nI_add, pk_mul, nI_clamp, decide_true, Nat.le_refl, bI_eq, bI_z1, nI_ltI, nI_leI, am_u_at, am_u_ne, upd_at, upd_ne, nI_z, z_le, z_lt, g13, bI_t, bI_f, z_10]
      obtain ⟨s', D', hT, h⟩ := h
      refine r_tell0 hE hM hD hsd hk hT ?_ ?_
      · intro v1 w1 f g1 e1 hr b1
        rcases h with ⟨f2, h2, h⟩ | ⟨t2, h2, h⟩
        · rw [hr] at h2
          cases h2
          have b13 : v1 388 13 = nI f.1 := b1.1
          have hk0 : ¬ nI f.1 = 0 := nI_ne0 b1.2.1 (by have := b1.2.2.1; omega)
          refine go_at (blk := b_Model_read_131) rfl ?_
          simp (disch := omega) only [b_Model_read_131, be_51, List.getD_cons_zero, List.getD_cons_succ, List.set_cons_zero, List.set_cons_succ, List.length_cons, List.length_nil, pk_I, pk_A, pr_A, pi_I, st_s, st_n, if_true, if_false, eq_self, d_if, d_ju, d_re, d_ca, cat0, cat1, cat2, cat3, fr_z, fr_s, cc_I, cc_A, cc_N, Nat.reduceAdd, Nat.reduceLT, Nat.reduceLeDiff, Nat.reduceEqDiff, not_true, not_false_iff, z1_0, z1_1, Bool.and_self, Bool.true_and, Bool.and_true, nI_add, pk_mul, nI_clamp, decide_true, Nat.le_refl, bI_eq, bI_z1, nI_ltI, nI_leI, am_u_at, am_u_ne, upd_at, upd_ne, nI_z, z_le, z_lt, b13, hk0]
          refine go_at (blk := b_Model_read_112) rfl ?_
          simp (disch := omega) only [b_Model_read_112, be_6, be_33, be_50_1, kc_388, List.getD_cons_zero, List.getD_cons_succ, List.set_cons_zero, List.set_cons_succ, List.length_cons, List.length_nil, pk_I, pk_A, pr_A, pi_I, st_s, st_n, if_true, if_false, eq_self, d_if, d_ju, d_re, d_ca, cat0, cat1, cat2, cat3, fr_z, fr_s, cc_I, cc_A, cc_N, Nat.reduceAdd, Nat.reduceLT, Nat.reduceLeDiff, Nat.reduceEqDiff, not_true, not_false_iff, z1_0, z1_1, Bool.and_self, Bool.true_and, Bool.and_true, nI_add, pk_mul, nI_clamp, decide_true, Nat.le_refl, bI_eq, bI_z1, nI_ltI, nI_leI, am_u_at, am_u_ne, upd_at, upd_ne, nI_z, z_le, z_lt, b13, hk0]
          exact hB v1 w1 f h g1 e1 b1
        · rw [hr] at h2
          cases h2
      · intro v1 w1 t1 g1 e1 hr hlt m1 d1
        rcases h with ⟨f2, h2, h⟩ | ⟨t2, h2, h⟩
        · rw [hr] at h2
          cases h2
        · rw [hr] at h2
          cases h2
          refine go_at (blk := b_Model_read_131) rfl ?_
          simp (disch := omega) only [b_Model_read_131, be_51, List.getD_cons_zero, List.getD_cons_succ, List.set_cons_zero, List.set_cons_succ, List.length_cons, List.length_nil, pk_I, pk_A, pr_A, pi_I, st_s, st_n, if_true, if_false, eq_self, d_if, d_ju, d_re, d_ca, cat0, cat1, cat2, cat3, fr_z, fr_s, cc_I, cc_A, cc_N, Nat.reduceAdd, Nat.reduceLT, Nat.reduceLeDiff, Nat.reduceEqDiff, not_true, not_false_iff, z1_0, z1_1, Bool.and_self, Bool.true_and, Bool.and_true, nI_add, pk_mul, nI_clamp, decide_true, Nat.le_refl, bI_eq, bI_z1, nI_ltI, nI_leI, am_u_at, am_u_ne, upd_at, upd_ne, nI_z, z_le, z_lt]
          exact ih _ _ _ _ _ _ h (ME_S hE g1 e1) m1 d1 (fun v2 w2 f hR g2 e2 b2 => hB v2 w2 f hR (GS_t g1 g2) (fun c hc => (e2 c hc).trans (e1 c hc)) b2) (fun v2 w2 l2 p2 D2 t2 hR g2 e2 m2 d2 => hG v2 w2 l2 p2 D2 t2 hR (GS_t g1 g2) (fun c hc => (e2 c hc).trans (e1 c hc)) m2 d2)
set_option maxHeartbeats 2000000 in
theorem r_textL {d : Nat} {v : Nat → Nat → Int32} {w : Nat → Nat → Int64} {Q : Option Value → am_H → Prop} {b : Nat → Int32} {len : Nat} (h4 : v 388 4 = nI len) (hb : v 389 = b) (hy : BY b len) (hl : len ≤ 2000) (hQ : ∀ v', (∀ c, c ≠ 390 → v' c = v c) → (∀ j, j < len → v' 390 j = b j) → am_Go am_X0 d k_Model_read 36 ([.ref 388, .int (nI len)], [], (428, 26053, KD, RF, v', w)) Q) : am_Go am_X0 d k_Model_read 10 ([.ref 388, .int (nI 0)], [], (428, 26053, KD, RF, v, w)) Q := by
  refine go_loopA (α := (Nat → Nat → Int32)) (fun i x => ([.ref 388, .int (nI i)], [], (428, 26053, KD, RF, x, w))) (fun i x => (∀ c, c ≠ 390 → x c = v c) ∧ ∀ j, j < i → x 390 j = b j) (len) ?_ ?_ v ⟨fun _ _ => rfl, fun j hj => absurd hj (Nat.not_lt_zero _)⟩
  · intro i x hi ⟨x1, x2⟩ ih
    try dsimp only at *
    have hni : ¬ len ≤ i := by omega
    have k4 : x 388 4 = nI len := by rw [x1 388 (by omega)]; exact h4
    have k9 : x 389 = b := by rw [x1 389 (by omega)]; exact hb
    have hv : vp_nar FieldType.byte (b i) = b i := vp_by (hy i hi)
    refine go_at (blk := b_Model_read_10) rfl ?_
    simp (disch := omega) only [b_Model_read_10, be_4, be_6, be_33, be_49_3, kc_388, List.getD_cons_zero, List.getD_cons_succ, List.set_cons_zero, List.set_cons_succ, List.length_cons, List.length_nil, pk_I, pk_A, pr_A, pi_I, st_s, st_n, if_true, if_false, eq_self, d_if, d_ju, d_re, d_ca, cat0, cat1, cat2, cat3, fr_z, fr_s, cc_I, cc_A, cc_N, Nat.reduceAdd, Nat.reduceLT, Nat.reduceLeDiff, Nat.reduceEqDiff, not_true, not_false_iff, z1_0, z1_1, Bool.and_self, Bool.true_and, Bool.and_true, nI_add, pk_mul, nI_clamp, decide_true, Nat.le_refl, bI_eq, bI_z1, nI_ltI, nI_leI, am_u_at, am_u_ne, upd_at, upd_ne, k4, hni, k9, hv]
    refine go_at (blk := b_Model_read_18) rfl ?_
    simp (disch := omega) only [b_Model_read_18, be_6, be_34, be_4, be_39, be_44, be_10, be_51, kc_388, rf_388_3, rf_388_1, ka_389, ka_390, List.getD_cons_zero, List.getD_cons_succ, List.set_cons_zero, List.set_cons_succ, List.length_cons, List.length_nil, pk_I, pk_A, pr_A, pi_I, st_s, st_n, if_true, if_false, eq_self, d_if, d_ju, d_re, d_ca, cat0, cat1, cat2, cat3, fr_z, fr_s, cc_I, cc_A, cc_N, Nat.reduceAdd, Nat.reduceLT, Nat.reduceLeDiff, Nat.reduceEqDiff, not_true, not_false_iff, z1_0, z1_1, Bool.and_self, Bool.true_and, Bool.and_true, nI_add, pk_mul, nI_clamp, decide_true, Nat.le_refl, bI_eq, bI_z1, nI_ltI, nI_leI, am_u_at, am_u_ne, upd_at, upd_ne, k4, hni, k9, hv]
    refine ih _ ⟨fun c hc => ?_, fun j hj => ?_⟩
    · rw [am_u_ne hc]
      exact x1 c hc
    · rw [am_u_at]
      by_cases e : j = i
      · rw [e, upd_at]
      · rw [upd_ne e]
        exact x2 j (by omega)
  · intro x ⟨x1, x2⟩
    try dsimp only at *
    have k4 : x 388 4 = nI len := by rw [x1 388 (by omega)]; exact h4
    refine go_at (blk := b_Model_read_10) rfl ?_
    simp (disch := omega) only [b_Model_read_10, be_4, be_6, be_33, be_49_3, kc_388, List.getD_cons_zero, List.getD_cons_succ, List.set_cons_zero, List.set_cons_succ, List.length_cons, List.length_nil, pk_I, pk_A, pr_A, pi_I, st_s, st_n, if_true, if_false, eq_self, d_if, d_ju, d_re, d_ca, cat0, cat1, cat2, cat3, fr_z, fr_s, cc_I, cc_A, cc_N, Nat.reduceAdd, Nat.reduceLT, Nat.reduceLeDiff, Nat.reduceEqDiff, not_true, not_false_iff, z1_0, z1_1, Bool.and_self, Bool.true_and, Bool.and_true, nI_add, pk_mul, nI_clamp, decide_true, Nat.le_refl, bI_eq, bI_z1, nI_ltI, nI_leI, am_u_at, am_u_ne, upd_at, upd_ne, k4]
    exact hQ x x1 x2
