/-! laid by wip/whole/m10.py: the reference: what would be, if others knelt -/
section
variable {v : Nat → Nat → Int32} {f : Nat → Int32} {no md x : Int32} {k : Nat}
theorem MF_49 : MF v (am_u v 388 49 x) := ⟨fun c _ _ _ h => am_u_ne h, fun k _ h _ => by rw [am_u_at, upd_ne h], fun j _ => by rw [am_u_ne (by omega)]⟩
theorem MF_50 : MF v (am_u v 388 50 x) := ⟨fun c _ _ _ h => am_u_ne h, fun k _ _ h => by rw [am_u_at, upd_ne h], fun j _ => by rw [am_u_ne (by omega)]⟩
theorem MR_49 (h : MR v f no md) : MR (am_u v 388 49 x) f x md := ⟨by rw [am_u_ne (by omega)]; exact h.1, by rw [am_u_at, upd_at], by rw [am_u_at, upd_ne (by omega)]; exact h.2.2⟩
theorem MR_50 (h : MR v f no md) : MR (am_u v 388 50 x) f no x := ⟨by rw [am_u_ne (by omega)]; exact h.1, by rw [am_u_at, upd_ne (by omega)]; exact h.2.1, by rw [am_u_at, upd_at]⟩
theorem MF_row (h : k < 50) : MF v (am_u v 419 k x) := ⟨fun c _ _ h _ => am_u_ne h, fun k _ _ _ => by rw [am_u_ne (by omega)], fun j _ => by rw [am_u_at, upd_ne (by omega)]⟩
theorem MR_row (h : MR v f no md) : MR (am_u v 419 k x) (upd f k x) no md := ⟨by rw [am_u_at, h.1], by rw [am_u_ne (by omega)]; exact h.2.1, by rw [am_u_ne (by omega)]; exact h.2.2⟩
end
set_option maxHeartbeats 1000000 in
theorem r_means {d : Nat} {v : Nat → Nat → Int32} {w : Nat → Nat → Int64} {Q : Option Value → am_H → Prop} {T : TXT} {lv : Nat} {f : Nat → Int32} {B : Int} (hM : MI B v T lv f) {y z x : Int32} (hQ : ∀ v', MF v v' → Q (some (.int (mnA T f y z x))) (428, 26053, KD, RF, v', w)) : am_Ca (d + 7) M_Model_means [.ref 388, .int y, .int z, .int x] (428, 26053, KD, RF, v, w) Q := by
  have h8 := hM.2.2.2.2.1.1
  refine ca_in (k := k_Model_means) (nL := 5) rfl (Nat.le_of_ble_eq_true rfl) ?_
  show am_Go am_X0 _ k_Model_means 0 ([.ref 388, .int y, .int z, .int x, .null], [], _) _
  refine go_at (blk := b_Model_means_0) rfl ?_
  simp (disch := omega) only [b_Model_means_0, be_6, be_4, be_57_1, kc_388, List.getD_cons_zero, List.getD_cons_succ, List.set_cons_zero, List.set_cons_succ, List.length_cons, List.length_nil, pk_I, pk_A, pr_A, pi_I, st_s, st_n, if_true, if_false, eq_self, d_if, d_ju, d_re, d_ca, cat0, cat1, cat2, cat3, fr_z, fr_s, cc_I, cc_A, cc_N, Nat.reduceAdd, Nat.reduceLT, Nat.reduceLeDiff, Nat.reduceEqDiff, not_true, not_false_iff, z1_0, z1_1, Bool.and_self, Bool.true_and, Bool.and_true, nI_add, pk_mul, nI_clamp, decide_true, Nat.le_refl, bI_eq, bI_z1]
  refine r_isPil hM.1 ?_
  refine go_at (blk := b_Model_means_5) rfl ?_
  simp (disch := omega) only [b_Model_means_5, be_50_0, List.getD_cons_zero, List.getD_cons_succ, List.set_cons_zero, List.set_cons_succ, List.length_cons, List.length_nil, pk_I, pk_A, pr_A, pi_I, st_s, st_n, if_true, if_false, eq_self, d_if, d_ju, d_re, d_ca, cat0, cat1, cat2, cat3, fr_z, fr_s, cc_I, cc_A, cc_N, Nat.reduceAdd, Nat.reduceLT, Nat.reduceLeDiff, Nat.reduceEqDiff, not_true, not_false_iff, z1_0, z1_1, Bool.and_self, Bool.true_and, Bool.and_true, nI_add, pk_mul, nI_clamp, decide_true, Nat.le_refl, bI_eq, bI_z1]
  split
  · rename_i h0
    have h0 : pilB (tN T) y = false := by simpa using h0
    refine go_at (blk := b_Model_means_32) rfl ?_
    simp (disch := omega) only [b_Model_means_32, be_2, be_54, List.getD_cons_zero, List.getD_cons_succ, List.set_cons_zero, List.set_cons_succ, List.length_cons, List.length_nil, pk_I, pk_A, pr_A, pi_I, st_s, st_n, if_true, if_false, eq_self, d_if, d_ju, d_re, d_ca, cat0, cat1, cat2, cat3, fr_z, fr_s, cc_I, cc_A, cc_N, Nat.reduceAdd, Nat.reduceLT, Nat.reduceLeDiff, Nat.reduceEqDiff, not_true, not_false_iff, z1_0, z1_1, Bool.and_self, Bool.true_and, Bool.and_true, nI_add, pk_mul, nI_clamp, decide_true, Nat.le_refl, bI_eq, bI_z1]
    unfold mnA at hQ
    rw [if_neg (by rw [h0]; simp)] at hQ
    exact hQ v MF_r
  · rename_i h0
    have h0 : pilB (tN T) y = true := by simpa using h0
    refine go_at (blk := b_Model_means_8) rfl ?_
    simp (disch := omega) only [b_Model_means_8, be_6, be_4, be_57_1, kc_388, List.getD_cons_zero, List.getD_cons_succ, List.set_cons_zero, List.set_cons_succ, List.length_cons, List.length_nil, pk_I, pk_A, pr_A, pi_I, st_s, st_n, if_true, if_false, eq_self, d_if, d_ju, d_re, d_ca, cat0, cat1, cat2, cat3, fr_z, fr_s, cc_I, cc_A, cc_N, Nat.reduceAdd, Nat.reduceLT, Nat.reduceLeDiff, Nat.reduceEqDiff, not_true, not_false_iff, z1_0, z1_1, Bool.and_self, Bool.true_and, Bool.and_true, nI_add, pk_mul, nI_clamp, decide_true, Nat.le_refl, bI_eq, bI_z1]
    refine r_isPil hM.1 ?_
    refine go_at (blk := b_Model_means_13) rfl ?_
    simp (disch := omega) only [b_Model_means_13, be_50_0, List.getD_cons_zero, List.getD_cons_succ, List.set_cons_zero, List.set_cons_succ, List.length_cons, List.length_nil, pk_I, pk_A, pr_A, pi_I, st_s, st_n, if_true, if_false, eq_self, d_if, d_ju, d_re, d_ca, cat0, cat1, cat2, cat3, fr_z, fr_s, cc_I, cc_A, cc_N, Nat.reduceAdd, Nat.reduceLT, Nat.reduceLeDiff, Nat.reduceEqDiff, not_true, not_false_iff, z1_0, z1_1, Bool.and_self, Bool.true_and, Bool.and_true, nI_add, pk_mul, nI_clamp, decide_true, Nat.le_refl, bI_eq, bI_z1]
    split
    · rename_i h1
      have h1 : pilB (tN T) z = false := by simpa using h1
      refine go_at (blk := b_Model_means_32) rfl ?_
      simp (disch := omega) only [b_Model_means_32, be_2, be_54, List.getD_cons_zero, List.getD_cons_succ, List.set_cons_zero, List.set_cons_succ, List.length_cons, List.length_nil, pk_I, pk_A, pr_A, pi_I, st_s, st_n, if_true, if_false, eq_self, d_if, d_ju, d_re, d_ca, cat0, cat1, cat2, cat3, fr_z, fr_s, cc_I, cc_A, cc_N, Nat.reduceAdd, Nat.reduceLT, Nat.reduceLeDiff, Nat.reduceEqDiff, not_true, not_false_iff, z1_0, z1_1, Bool.and_self, Bool.true_and, Bool.and_true, nI_add, pk_mul, nI_clamp, decide_true, Nat.le_refl, bI_eq, bI_z1]
      unfold mnA at hQ
      rw [if_neg (by rw [h1]; simp)] at hQ
      exact hQ v MF_r
    · rename_i h1
      have h1 : pilB (tN T) z = true := by simpa using h1
      refine go_at (blk := b_Model_means_16) rfl ?_
      simp (disch := omega) only [b_Model_means_16, be_4, be_49_0, List.getD_cons_zero, List.getD_cons_succ, List.set_cons_zero, List.set_cons_succ, List.length_cons, List.length_nil, pk_I, pk_A, pr_A, pi_I, st_s, st_n, if_true, if_false, eq_self, d_if, d_ju, d_re, d_ca, cat0, cat1, cat2, cat3, fr_z, fr_s, cc_I, cc_A, cc_N, Nat.reduceAdd, Nat.reduceLT, Nat.reduceLeDiff, Nat.reduceEqDiff, not_true, not_false_iff, z1_0, z1_1, Bool.and_self, Bool.true_and, Bool.and_true, nI_add, pk_mul, nI_clamp, decide_true, Nat.le_refl, bI_eq, bI_z1]
      split
      · rename_i h2
        have h2 : (!decide (y = z)) = false := by rw [decide_eq_true h2]; rfl
        refine go_at (blk := b_Model_means_32) rfl ?_
        simp (disch := omega) only [b_Model_means_32, be_2, be_54, List.getD_cons_zero, List.getD_cons_succ, List.set_cons_zero, List.set_cons_succ, List.length_cons, List.length_nil, pk_I, pk_A, pr_A, pi_I, st_s, st_n, if_true, if_false, eq_self, d_if, d_ju, d_re, d_ca, cat0, cat1, cat2, cat3, fr_z, fr_s, cc_I, cc_A, cc_N, Nat.reduceAdd, Nat.reduceLT, Nat.reduceLeDiff, Nat.reduceEqDiff, not_true, not_false_iff, z1_0, z1_1, Bool.and_self, Bool.true_and, Bool.and_true, nI_add, pk_mul, nI_clamp, decide_true, Nat.le_refl, bI_eq, bI_z1]
        unfold mnA at hQ
        rw [if_neg (by rw [h2]; simp)] at hQ
        exact hQ v MF_r
      · rename_i h2
        have h2 : (!decide (y = z)) = true := by rw [decide_eq_false h2]; rfl
        refine go_at (blk := b_Model_means_21) rfl ?_
        simp (disch := omega) only [b_Model_means_21, be_4, be_1, be_58_3, List.getD_cons_zero, List.getD_cons_succ, List.set_cons_zero, List.set_cons_succ, List.length_cons, List.length_nil, pk_I, pk_A, pr_A, pi_I, st_s, st_n, if_true, if_false, eq_self, d_if, d_ju, d_re, d_ca, cat0, cat1, cat2, cat3, fr_z, fr_s, cc_I, cc_A, cc_N, Nat.reduceAdd, Nat.reduceLT, Nat.reduceLeDiff, Nat.reduceEqDiff, not_true, not_false_iff, z1_0, z1_1, Bool.and_self, Bool.true_and, Bool.and_true, nI_add, pk_mul, nI_clamp, decide_true, Nat.le_refl, bI_eq, bI_z1]
        refine m_in ?_
        rw [show inB x (nI 1) (nI 300) = spnB x from rfl]
        refine go_at (blk := b_Model_means_29) rfl ?_
        simp (disch := omega) only [b_Model_means_29, be_50_1, List.getD_cons_zero, List.getD_cons_succ, List.set_cons_zero, List.set_cons_succ, List.length_cons, List.length_nil, pk_I, pk_A, pr_A, pi_I, st_s, st_n, if_true, if_false, eq_self, d_if, d_ju, d_re, d_ca, cat0, cat1, cat2, cat3, fr_z, fr_s, cc_I, cc_A, cc_N, Nat.reduceAdd, Nat.reduceLT, Nat.reduceLeDiff, Nat.reduceEqDiff, not_true, not_false_iff, z1_0, z1_1, Bool.and_self, Bool.true_and, Bool.and_true, nI_add, pk_mul, nI_clamp, decide_true, Nat.le_refl, bI_eq, bI_z1]
        split
        · rename_i h3
          have h3 : spnB x = true := by simpa using h3
          unfold mnA at hQ
          rw [if_pos (by rw [h0, h1, h2, h3]; rfl)] at hQ
          obtain ⟨p, hp, rfl, ep⟩ := pil_of h8 h0
          rw [ep] at hQ
          obtain ⟨q, hq, rfl, eq⟩ := pil_of h8 h1
          rw [eq] at hQ
          obtain ⟨n, _, hn, rfl, en⟩ := spn_of h3
          rw [en] at hQ
          refine go_at (blk := b_Model_means_36) rfl ?_
          simp (disch := omega) only [b_Model_means_36, be_6, be_57_0, kc_388, List.getD_cons_zero, List.getD_cons_succ, List.set_cons_zero, List.set_cons_succ, List.length_cons, List.length_nil, pk_I, pk_A, pr_A, pi_I, st_s, st_n, if_true, if_false, eq_self, d_if, d_ju, d_re, d_ca, cat0, cat1, cat2, cat3, fr_z, fr_s, cc_I, cc_A, cc_N, Nat.reduceAdd, Nat.reduceLT, Nat.reduceLeDiff, Nat.reduceEqDiff, not_true, not_false_iff, z1_0, z1_1, Bool.and_self, Bool.true_and, Bool.and_true, nI_add, pk_mul, nI_clamp, decide_true, Nat.le_refl, bI_eq, bI_z1]
          refine rm_copies hM ?_
          intro v1 q1 r1
          refine go_at (blk := b_Model_means_40) rfl ?_
          simp (disch := omega) only [b_Model_means_40, be_6, be_4, be_57_1, kc_388, List.getD_cons_zero, List.getD_cons_succ, List.set_cons_zero, List.set_cons_succ, List.length_cons, List.length_nil, pk_I, pk_A, pr_A, pi_I, st_s, st_n, if_true, if_false, eq_self, d_if, d_ju, d_re, d_ca, cat0, cat1, cat2, cat3, fr_z, fr_s, cc_I, cc_A, cc_N, Nat.reduceAdd, Nat.reduceLT, Nat.reduceLeDiff, Nat.reduceEqDiff, not_true, not_false_iff, z1_0, z1_1, Bool.and_self, Bool.true_and, Bool.and_true, nI_add, pk_mul, nI_clamp, decide_true, Nat.le_refl, bI_eq, bI_z1]
          refine r_goes (by omega) (MX_f hM.1 q1) r1 ?_
          intro v2 q2 r2
          have e2 : v2 419 = itT T (-1) 0 n f := r2.1
          have f2 := MF_t q1 q2
          refine go_at (blk := b_Model_means_45) rfl ?_
          simp (disch := omega) only [b_Model_means_45, be_6, be_34, be_4, be_38, be_7, be_57_0, kc_388, rf_388_48, ka_419, List.getD_cons_zero, List.getD_cons_succ, List.set_cons_zero, List.set_cons_succ, List.length_cons, List.length_nil, pk_I, pk_A, pr_A, pi_I, st_s, st_n, if_true, if_false, eq_self, d_if, d_ju, d_re, d_ca, cat0, cat1, cat2, cat3, fr_z, fr_s, cc_I, cc_A, cc_N, Nat.reduceAdd, Nat.reduceLT, Nat.reduceLeDiff, Nat.reduceEqDiff, not_true, not_false_iff, z1_0, z1_1, Bool.and_self, Bool.true_and, Bool.and_true, nI_add, pk_mul, nI_clamp, decide_true, Nat.le_refl, bI_eq, bI_z1, e2]
          refine rm_copies (MI_f hM f2) ?_
          intro v3 q3 r3
          have f3 := MF_t (MF_t f2 q3) (MF_49 (x := nI p))
          refine go_at (blk := b_Model_means_57) rfl ?_
          simp (disch := omega) only [b_Model_means_57, be_6, be_4, be_35, be_57_1, kc_388, List.getD_cons_zero, List.getD_cons_succ, List.set_cons_zero, List.set_cons_succ, List.length_cons, List.length_nil, pk_I, pk_A, pr_A, pi_I, st_s, st_n, if_true, if_false, eq_self, d_if, d_ju, d_re, d_ca, cat0, cat1, cat2, cat3, fr_z, fr_s, cc_I, cc_A, cc_N, Nat.reduceAdd, Nat.reduceLT, Nat.reduceLeDiff, Nat.reduceEqDiff, not_true, not_false_iff, z1_0, z1_1, Bool.and_self, Bool.true_and, Bool.and_true, nI_add, pk_mul, nI_clamp, decide_true, Nat.le_refl, bI_eq, bI_z1, e2]
          refine r_goes (by omega) (MX_f hM.1 f3) (MR_49 r3) ?_
          intro v5 q5 r5
          have e5 : v5 419 = itT T (nI p) 0 n f := r5.1
          refine go_at (blk := b_Model_means_67) rfl ?_
          simp (disch := omega) only [b_Model_means_67, be_4, be_6, be_34, be_38, be_13, be_54, kc_388, rf_388_48, ka_419, List.getD_cons_zero, List.getD_cons_succ, List.set_cons_zero, List.set_cons_succ, List.length_cons, List.length_nil, pk_I, pk_A, pr_A, pi_I, st_s, st_n, if_true, if_false, eq_self, d_if, d_ju, d_re, d_ca, cat0, cat1, cat2, cat3, fr_z, fr_s, cc_I, cc_A, cc_N, Nat.reduceAdd, Nat.reduceLT, Nat.reduceLeDiff, Nat.reduceEqDiff, not_true, not_false_iff, z1_0, z1_1, Bool.and_self, Bool.true_and, Bool.and_true, nI_add, pk_mul, nI_clamp, decide_true, Nat.le_refl, bI_eq, bI_z1, e2, e5]
          exact hQ v5 (MF_t f3 q5)
        · rename_i h3
          have h3 : spnB x = false := by simpa using h3
          refine go_at (blk := b_Model_means_32) rfl ?_
          simp (disch := omega) only [b_Model_means_32, be_2, be_54, List.getD_cons_zero, List.getD_cons_succ, List.set_cons_zero, List.set_cons_succ, List.length_cons, List.length_nil, pk_I, pk_A, pr_A, pi_I, st_s, st_n, if_true, if_false, eq_self, d_if, d_ju, d_re, d_ca, cat0, cat1, cat2, cat3, fr_z, fr_s, cc_I, cc_A, cc_N, Nat.reduceAdd, Nat.reduceLT, Nat.reduceLeDiff, Nat.reduceEqDiff, not_true, not_false_iff, z1_0, z1_1, Bool.and_self, Bool.true_and, Bool.and_true, nI_add, pk_mul, nI_clamp, decide_true, Nat.le_refl, bI_eq, bI_z1]
          unfold mnA at hQ
          rw [if_neg (by rw [h3]; simp)] at hQ
          exact hQ v MF_r
theorem nI_mt {i : Nat} (h : i ≤ 1000) : ¬ nI i = -2 := by
  intro z
  have := congrArg Int32.toInt z
  rw [nI_toInt (by omega), show (-2 : Int32).toInt = -2 from rfl] at this
  omega
set_option maxHeartbeats 1000000 in
theorem r_thereBy {d : Nat} {v : Nat → Nat → Int32} {w : Nat → Nat → Int64} {Q : Option Value → am_H → Prop} {T : TXT} {lv : Nat} {f : Nat → Int32} {B : Int} (hM : MI B v T lv f) {p n : Nat} {ox dx : Int32} (hp : p < tN T) (hn : n ≤ 300) (hQ : ∀ v', MF v v' → Q (some (.int (bI (!decide (arS T (-1) dx (upd f 40 (f 40 + ox)) p n = -2))))) (428, 26053, KD, RF, v', w)) : am_Ca (d + 6) M_Model_isThereBy [.ref 388, .int (nI p), .int ox, .int dx, .int (nI n)] (428, 26053, KD, RF, v, w) Q := by
  have h8 := hM.2.2.2.2.1.1
  refine ca_in (k := k_Model_isThereBy) (nL := 6) rfl (Nat.le_of_ble_eq_true rfl) ?_
  show am_Go am_X0 _ k_Model_isThereBy 0 ([.ref 388, .int (nI p), .int ox, .int dx, .int (nI n), .null], [], _) _
  refine go_at (blk := b_Model_isThereBy_0) rfl ?_
  simp (disch := omega) only [b_Model_isThereBy_0, be_6, be_57_0, kc_388, List.getD_cons_zero, List.getD_cons_succ, List.set_cons_zero, List.set_cons_succ, List.length_cons, List.length_nil, pk_I, pk_A, pr_A, pi_I, st_s, st_n, if_true, if_false, eq_self, d_if, d_ju, d_re, d_ca, cat0, cat1, cat2, cat3, fr_z, fr_s, cc_I, cc_A, cc_N, Nat.reduceAdd, Nat.reduceLT, Nat.reduceLeDiff, Nat.reduceEqDiff, not_true, not_false_iff, z1_0, z1_1, Bool.and_self, Bool.true_and, Bool.and_true, nI_add, pk_mul, nI_clamp, decide_true, Nat.le_refl, bI_eq, bI_z1]
  refine rm_copies hM ?_
  intro v1 q1 r1
  have e0 : v1 419 = f := r1.1
  have r3 : MR (am_u (am_u v1 419 40 (f 40 + ox)) 388 50 dx) (upd f 40 (f 40 + ox)) (-1) dx := MR_50 (MR_row r1)
  have q3 : MF v (am_u (am_u v1 419 40 (f 40 + ox)) 388 50 dx) := MF_t q1 (MF_t (MF_row (by omega)) MF_50)
  refine go_at (blk := b_Model_isThereBy_4) rfl ?_
  simp (disch := omega) only [b_Model_isThereBy_4, be_6, be_34, be_1, be_32, be_38, be_4, be_12, be_43, be_35, be_7, be_0, kc_388, rf_388_48, ka_419, List.getD_cons_zero, List.getD_cons_succ, List.set_cons_zero, List.set_cons_succ, List.length_cons, List.length_nil, pk_I, pk_A, pr_A, pi_I, st_s, st_n, if_true, if_false, eq_self, d_if, d_ju, d_re, d_ca, cat0, cat1, cat2, cat3, fr_z, fr_s, cc_I, cc_A, cc_N, Nat.reduceAdd, Nat.reduceLT, Nat.reduceLeDiff, Nat.reduceEqDiff, not_true, not_false_iff, z1_0, z1_1, Bool.and_self, Bool.true_and, Bool.and_true, nI_add, pk_mul, nI_clamp, decide_true, Nat.le_refl, bI_eq, bI_z1, e0]
  refine go_loopA (α := (Nat → Nat → Int32)) (fun i x => ([.ref 388, .int (nI p), .int ox, .int dx, .int (nI n), .int (nI i)], [], (428, 26053, KD, RF, x, w))) (fun i x => MF v x ∧ MR x (itT T (-1) dx i (upd f 40 (f 40 + ox))) (-1) dx ∧ arS T (-1) dx (upd f 40 (f 40 + ox)) p n = srS (fun k => !onB (itT T (-1) dx k (upd f 40 (f 40 + ox))) (-1) p) (n + 1 - i) i) (n) ?_ ?_ _ ⟨q3, r3, rfl⟩
  · intro i x hi ⟨i1, i2, i3⟩ ih
    try dsimp only at *
    have hni : ¬ n ≤ i := by omega
    have hMx : MI B x T lv f := MI_f hM i1
    obtain ⟨k18, hlv, k398, _⟩ := (MI_f hM i1).1.1
    have k418 : x 418 = f := (MI_f hM i1).2.1
    refine go_at (blk := b_Model_isThereBy_23) rfl ?_
    simp (disch := omega) only [b_Model_isThereBy_23, be_4, be_49_3, List.getD_cons_zero, List.getD_cons_succ, List.set_cons_zero, List.set_cons_succ, List.length_cons, List.length_nil, pk_I, pk_A, pr_A, pi_I, st_s, st_n, if_true, if_false, eq_self, d_if, d_ju, d_re, d_ca, cat0, cat1, cat2, cat3, fr_z, fr_s, cc_I, cc_A, cc_N, Nat.reduceAdd, Nat.reduceLT, Nat.reduceLeDiff, Nat.reduceEqDiff, not_true, not_false_iff, z1_0, z1_1, Bool.and_self, Bool.true_and, Bool.and_true, nI_add, pk_mul, nI_clamp, decide_true, Nat.le_refl, bI_eq, bI_z1, nI_ltI, nI_leI, hni]
    refine go_at (blk := b_Model_isThereBy_30) rfl ?_
    simp (disch := omega) only [b_Model_isThereBy_30, be_6, be_4, be_57_1, kc_388, List.getD_cons_zero, List.getD_cons_succ, List.set_cons_zero, List.set_cons_succ, List.length_cons, List.length_nil, pk_I, pk_A, pr_A, pi_I, st_s, st_n, if_true, if_false, eq_self, d_if, d_ju, d_re, d_ca, cat0, cat1, cat2, cat3, fr_z, fr_s, cc_I, cc_A, cc_N, Nat.reduceAdd, Nat.reduceLT, Nat.reduceLeDiff, Nat.reduceEqDiff, not_true, not_false_iff, z1_0, z1_1, Bool.and_self, Bool.true_and, Bool.and_true, nI_add, pk_mul, nI_clamp, decide_true, Nat.le_refl, bI_eq, bI_z1, nI_ltI, nI_leI, hni]
    refine r_isOn (by omega) i2 ?_
    refine go_at (blk := b_Model_isThereBy_35) rfl ?_
    simp (disch := omega) only [b_Model_isThereBy_35, be_50_0, List.getD_cons_zero, List.getD_cons_succ, List.set_cons_zero, List.set_cons_succ, List.length_cons, List.length_nil, pk_I, pk_A, pr_A, pi_I, st_s, st_n, if_true, if_false, eq_self, d_if, d_ju, d_re, d_ca, cat0, cat1, cat2, cat3, fr_z, fr_s, cc_I, cc_A, cc_N, Nat.reduceAdd, Nat.reduceLT, Nat.reduceLeDiff, Nat.reduceEqDiff, not_true, not_false_iff, z1_0, z1_1, Bool.and_self, Bool.true_and, Bool.and_true, nI_add, pk_mul, nI_clamp, decide_true, Nat.le_refl, bI_eq, bI_z1, nI_ltI, nI_leI, hni]
    split
    · rename_i hb
      have hb : onB (itT T (-1) dx i (upd f 40 (f 40 + ox))) (-1) p = false := by simpa using hb
      have hr : (!decide (arS T (-1) dx (upd f 40 (f 40 + ox)) p n = -2)) = true := by rw [i3, sr_t (by omega) (by simpa using hb), decide_eq_false (nI_mt (by omega))]; rfl
      rw [hr] at hQ
      refine go_at (blk := b_Model_isThereBy_48) rfl ?_
      simp (disch := omega) only [b_Model_isThereBy_48, be_6, be_4, be_57_1, kc_388, List.getD_cons_zero, List.getD_cons_succ, List.set_cons_zero, List.set_cons_succ, List.length_cons, List.length_nil, pk_I, pk_A, pr_A, pi_I, st_s, st_n, if_true, if_false, eq_self, d_if, d_ju, d_re, d_ca, cat0, cat1, cat2, cat3, fr_z, fr_s, cc_I, cc_A, cc_N, Nat.reduceAdd, Nat.reduceLT, Nat.reduceLeDiff, Nat.reduceEqDiff, not_true, not_false_iff, z1_0, z1_1, Bool.and_self, Bool.true_and, Bool.and_true, nI_add, pk_mul, nI_clamp, decide_true, Nat.le_refl, bI_eq, bI_z1, nI_ltI, nI_leI, hni]
      refine r_isOn (by omega) i2 ?_
      refine go_at (blk := b_Model_isThereBy_53) rfl ?_
      simp (disch := omega) only [b_Model_isThereBy_53, be_50_1, List.getD_cons_zero, List.getD_cons_succ, List.set_cons_zero, List.set_cons_succ, List.length_cons, List.length_nil, pk_I, pk_A, pr_A, pi_I, st_s, st_n, if_true, if_false, eq_self, d_if, d_ju, d_re, d_ca, cat0, cat1, cat2, cat3, fr_z, fr_s, cc_I, cc_A, cc_N, Nat.reduceAdd, Nat.reduceLT, Nat.reduceLeDiff, Nat.reduceEqDiff, not_true, not_false_iff, z1_0, z1_1, Bool.and_self, Bool.true_and, Bool.and_true, nI_add, pk_mul, nI_clamp, decide_true, Nat.le_refl, bI_eq, bI_z1, nI_ltI, nI_leI, hni, hb]
      refine go_at (blk := b_Model_isThereBy_56) rfl ?_
      simp (disch := omega) only [b_Model_isThereBy_56, be_1, be_51, List.getD_cons_zero, List.getD_cons_succ, List.set_cons_zero, List.set_cons_succ, List.length_cons, List.length_nil, pk_I, pk_A, pr_A, pi_I, st_s, st_n, if_true, if_false, eq_self, d_if, d_ju, d_re, d_ca, cat0, cat1, cat2, cat3, fr_z, fr_s, cc_I, cc_A, cc_N, Nat.reduceAdd, Nat.reduceLT, Nat.reduceLeDiff, Nat.reduceEqDiff, not_true, not_false_iff, z1_0, z1_1, Bool.and_self, Bool.true_and, Bool.and_true, nI_add, pk_mul, nI_clamp, decide_true, Nat.le_refl, bI_eq, bI_z1, nI_ltI, nI_leI, hni]
      refine go_at (blk := b_Model_isThereBy_61) rfl ?_
      simp (disch := omega) only [b_Model_isThereBy_61, be_73, List.getD_cons_zero, List.getD_cons_succ, List.set_cons_zero, List.set_cons_succ, List.length_cons, List.length_nil, pk_I, pk_A, pr_A, pi_I, st_s, st_n, if_true, if_false, eq_self, d_if, d_ju, d_re, d_ca, cat0, cat1, cat2, cat3, fr_z, fr_s, cc_I, cc_A, cc_N, Nat.reduceAdd, Nat.reduceLT, Nat.reduceLeDiff, Nat.reduceEqDiff, not_true, not_false_iff, z1_0, z1_1, Bool.and_self, Bool.true_and, Bool.and_true, nI_add, pk_mul, nI_clamp, decide_true, Nat.le_refl, bI_eq, bI_z1, nI_ltI, nI_leI, hni]
      exact hQ x i1
    · rename_i hb
      refine go_at (blk := b_Model_isThereBy_38) rfl ?_
      simp (disch := omega) only [b_Model_isThereBy_38, be_6, be_57_0, kc_388, List.getD_cons_zero, List.getD_cons_succ, List.set_cons_zero, List.set_cons_succ, List.length_cons, List.length_nil, pk_I, pk_A, pr_A, pi_I, st_s, st_n, if_true, if_false, eq_self, d_if, d_ju, d_re, d_ca, cat0, cat1, cat2, cat3, fr_z, fr_s, cc_I, cc_A, cc_N, Nat.reduceAdd, Nat.reduceLT, Nat.reduceLeDiff, Nat.reduceEqDiff, not_true, not_false_iff, z1_0, z1_1, Bool.and_self, Bool.true_and, Bool.and_true, nI_add, pk_mul, nI_clamp, decide_true, Nat.le_refl, bI_eq, bI_z1, nI_ltI, nI_leI, hni]
      refine r_min hMx.1 i2 ?_
      intro v2 q2 r2
      refine go_at (blk := b_Model_isThereBy_42) rfl ?_
      simp (disch := omega) only [b_Model_isThereBy_42, be_10, be_51, List.getD_cons_zero, List.getD_cons_succ, List.set_cons_zero, List.set_cons_succ, List.length_cons, List.length_nil, pk_I, pk_A, pr_A, pi_I, st_s, st_n, if_true, if_false, eq_self, d_if, d_ju, d_re, d_ca, cat0, cat1, cat2, cat3, fr_z, fr_s, cc_I, cc_A, cc_N, Nat.reduceAdd, Nat.reduceLT, Nat.reduceLeDiff, Nat.reduceEqDiff, not_true, not_false_iff, z1_0, z1_1, Bool.and_self, Bool.true_and, Bool.and_true, nI_add, pk_mul, nI_clamp, decide_true, Nat.le_refl, bI_eq, bI_z1, nI_ltI, nI_leI, hni]
      refine ih v2 ⟨MF_t i1 q2, r2, ?_⟩
      rw [i3, sr_f (by omega) (by simpa using hb)]
  · intro x ⟨i1, i2, i3⟩
    try dsimp only at *
    refine go_at (blk := b_Model_isThereBy_23) rfl ?_
    simp (disch := omega) only [b_Model_isThereBy_23, be_4, be_49_3, List.getD_cons_zero, List.getD_cons_succ, List.set_cons_zero, List.set_cons_succ, List.length_cons, List.length_nil, pk_I, pk_A, pr_A, pi_I, st_s, st_n, if_true, if_false, eq_self, d_if, d_ju, d_re, d_ca, cat0, cat1, cat2, cat3, fr_z, fr_s, cc_I, cc_A, cc_N, Nat.reduceAdd, Nat.reduceLT, Nat.reduceLeDiff, Nat.reduceEqDiff, not_true, not_false_iff, z1_0, z1_1, Bool.and_self, Bool.true_and, Bool.and_true, nI_add, pk_mul, nI_clamp, decide_true, Nat.le_refl, bI_eq, bI_z1, nI_ltI, nI_leI]
    refine go_at (blk := b_Model_isThereBy_48) rfl ?_
    simp (disch := omega) only [b_Model_isThereBy_48, be_6, be_4, be_57_1, kc_388, List.getD_cons_zero, List.getD_cons_succ, List.set_cons_zero, List.set_cons_succ, List.length_cons, List.length_nil, pk_I, pk_A, pr_A, pi_I, st_s, st_n, if_true, if_false, eq_self, d_if, d_ju, d_re, d_ca, cat0, cat1, cat2, cat3, fr_z, fr_s, cc_I, cc_A, cc_N, Nat.reduceAdd, Nat.reduceLT, Nat.reduceLeDiff, Nat.reduceEqDiff, not_true, not_false_iff, z1_0, z1_1, Bool.and_self, Bool.true_and, Bool.and_true, nI_add, pk_mul, nI_clamp, decide_true, Nat.le_refl, bI_eq, bI_z1, nI_ltI, nI_leI]
    refine r_isOn (by omega) i2 ?_
    refine go_at (blk := b_Model_isThereBy_53) rfl ?_
    simp (disch := omega) only [b_Model_isThereBy_53, be_50_1, List.getD_cons_zero, List.getD_cons_succ, List.set_cons_zero, List.set_cons_succ, List.length_cons, List.length_nil, pk_I, pk_A, pr_A, pi_I, st_s, st_n, if_true, if_false, eq_self, d_if, d_ju, d_re, d_ca, cat0, cat1, cat2, cat3, fr_z, fr_s, cc_I, cc_A, cc_N, Nat.reduceAdd, Nat.reduceLT, Nat.reduceLeDiff, Nat.reduceEqDiff, not_true, not_false_iff, z1_0, z1_1, Bool.and_self, Bool.true_and, Bool.and_true, nI_add, pk_mul, nI_clamp, decide_true, Nat.le_refl, bI_eq, bI_z1, nI_ltI, nI_leI]
    split
    · rename_i hb
      have hr : (!decide (arS T (-1) dx (upd f 40 (f 40 + ox)) p n = -2)) = false := by rw [i3, sr_f (by omega) (by simpa using hb), sr_e]; rfl
      rw [hr] at hQ
      refine go_at (blk := b_Model_isThereBy_60) rfl ?_
      simp (disch := omega) only [b_Model_isThereBy_60, be_1, be_0, List.getD_cons_zero, List.getD_cons_succ, List.set_cons_zero, List.set_cons_succ, List.length_cons, List.length_nil, pk_I, pk_A, pr_A, pi_I, st_s, st_n, if_true, if_false, eq_self, d_if, d_ju, d_re, d_ca, cat0, cat1, cat2, cat3, fr_z, fr_s, cc_I, cc_A, cc_N, Nat.reduceAdd, Nat.reduceLT, Nat.reduceLeDiff, Nat.reduceEqDiff, not_true, not_false_iff, z1_0, z1_1, Bool.and_self, Bool.true_and, Bool.and_true, nI_add, pk_mul, nI_clamp, decide_true, Nat.le_refl, bI_eq, bI_z1, nI_ltI, nI_leI]
      refine go_at (blk := b_Model_isThereBy_61) rfl ?_
      simp (disch := omega) only [b_Model_isThereBy_61, be_73, List.getD_cons_zero, List.getD_cons_succ, List.set_cons_zero, List.set_cons_succ, List.length_cons, List.length_nil, pk_I, pk_A, pr_A, pi_I, st_s, st_n, if_true, if_false, eq_self, d_if, d_ju, d_re, d_ca, cat0, cat1, cat2, cat3, fr_z, fr_s, cc_I, cc_A, cc_N, Nat.reduceAdd, Nat.reduceLT, Nat.reduceLeDiff, Nat.reduceEqDiff, not_true, not_false_iff, z1_0, z1_1, Bool.and_self, Bool.true_and, Bool.and_true, nI_add, pk_mul, nI_clamp, decide_true, Nat.le_refl, bI_eq, bI_z1, nI_ltI, nI_leI]
      exact hQ x i1
    · rename_i hb
      have hb : onB (itT T (-1) dx n (upd f 40 (f 40 + ox))) (-1) p = false := by simpa using hb
      have hr : (!decide (arS T (-1) dx (upd f 40 (f 40 + ox)) p n = -2)) = true := by rw [i3, sr_t (by omega) (by simpa using hb), decide_eq_false (nI_mt (by omega))]; rfl
      rw [hr] at hQ
      refine go_at (blk := b_Model_isThereBy_56) rfl ?_
      simp (disch := omega) only [b_Model_isThereBy_56, be_1, be_51, List.getD_cons_zero, List.getD_cons_succ, List.set_cons_zero, List.set_cons_succ, List.length_cons, List.length_nil, pk_I, pk_A, pr_A, pi_I, st_s, st_n, if_true, if_false, eq_self, d_if, d_ju, d_re, d_ca, cat0, cat1, cat2, cat3, fr_z, fr_s, cc_I, cc_A, cc_N, Nat.reduceAdd, Nat.reduceLT, Nat.reduceLeDiff, Nat.reduceEqDiff, not_true, not_false_iff, z1_0, z1_1, Bool.and_self, Bool.true_and, Bool.and_true, nI_add, pk_mul, nI_clamp, decide_true, Nat.le_refl, bI_eq, bI_z1, nI_ltI, nI_leI]
      refine go_at (blk := b_Model_isThereBy_61) rfl ?_
      simp (disch := omega) only [b_Model_isThereBy_61, be_73, List.getD_cons_zero, List.getD_cons_succ, List.set_cons_zero, List.set_cons_succ, List.length_cons, List.length_nil, pk_I, pk_A, pr_A, pi_I, st_s, st_n, if_true, if_false, eq_self, d_if, d_ju, d_re, d_ca, cat0, cat1, cat2, cat3, fr_z, fr_s, cc_I, cc_A, cc_N, Nat.reduceAdd, Nat.reduceLT, Nat.reduceLeDiff, Nat.reduceEqDiff, not_true, not_false_iff, z1_0, z1_1, Bool.and_self, Bool.true_and, Bool.and_true, nI_add, pk_mul, nI_clamp, decide_true, Nat.le_refl, bI_eq, bI_z1, nI_ltI, nI_leI]
      exact hQ x i1
set_option maxHeartbeats 1000000 in
theorem r_oiled {d : Nat} {v : Nat → Nat → Int32} {w : Nat → Nat → Int64} {Q : Option Value → am_H → Prop} {T : TXT} {lv : Nat} {f : Nat → Int32} {B : Int} (hM : MI B v T lv f) {y x : Int32} (hQ : ∀ v', MF v v' → Q (some (.int (olA T f y x))) (428, 26053, KD, RF, v', w)) : am_Ca (d + 7) M_Model_oiled [.ref 388, .int y, .int x] (428, 26053, KD, RF, v, w) Q := by
  have h8 := hM.2.2.2.2.1.1
  refine ca_in (k := k_Model_oiled) (nL := 4) rfl (Nat.le_of_ble_eq_true rfl) ?_
  show am_Go am_X0 _ k_Model_oiled 0 ([.ref 388, .int y, .int x, .null], [], _) _
  refine go_at (blk := b_Model_oiled_0) rfl ?_
  simp (disch := omega) only [b_Model_oiled_0, be_6, be_4, be_57_1, kc_388, List.getD_cons_zero, List.getD_cons_succ, List.set_cons_zero, List.set_cons_succ, List.length_cons, List.length_nil, pk_I, pk_A, pr_A, pi_I, st_s, st_n, if_true, if_false, eq_self, d_if, d_ju, d_re, d_ca, cat0, cat1, cat2, cat3, fr_z, fr_s, cc_I, cc_A, cc_N, Nat.reduceAdd, Nat.reduceLT, Nat.reduceLeDiff, Nat.reduceEqDiff, not_true, not_false_iff, z1_0, z1_1, Bool.and_self, Bool.true_and, Bool.and_true, nI_add, pk_mul, nI_clamp, decide_true, Nat.le_refl, bI_eq, bI_z1]
  refine r_isPil hM.1 ?_
  refine go_at (blk := b_Model_oiled_5) rfl ?_
  simp (disch := omega) only [b_Model_oiled_5, be_50_0, List.getD_cons_zero, List.getD_cons_succ, List.set_cons_zero, List.set_cons_succ, List.length_cons, List.length_nil, pk_I, pk_A, pr_A, pi_I, st_s, st_n, if_true, if_false, eq_self, d_if, d_ju, d_re, d_ca, cat0, cat1, cat2, cat3, fr_z, fr_s, cc_I, cc_A, cc_N, Nat.reduceAdd, Nat.reduceLT, Nat.reduceLeDiff, Nat.reduceEqDiff, not_true, not_false_iff, z1_0, z1_1, Bool.and_self, Bool.true_and, Bool.and_true, nI_add, pk_mul, nI_clamp, decide_true, Nat.le_refl, bI_eq, bI_z1]
  split
  · rename_i h0
    have h0 : pilB (tN T) y = false := by simpa using h0
    refine go_at (blk := b_Model_oiled_19) rfl ?_
    simp (disch := omega) only [b_Model_oiled_19, be_2, be_54, List.getD_cons_zero, List.getD_cons_succ, List.set_cons_zero, List.set_cons_succ, List.length_cons, List.length_nil, pk_I, pk_A, pr_A, pi_I, st_s, st_n, if_true, if_false, eq_self, d_if, d_ju, d_re, d_ca, cat0, cat1, cat2, cat3, fr_z, fr_s, cc_I, cc_A, cc_N, Nat.reduceAdd, Nat.reduceLT, Nat.reduceLeDiff, Nat.reduceEqDiff, not_true, not_false_iff, z1_0, z1_1, Bool.and_self, Bool.true_and, Bool.and_true, nI_add, pk_mul, nI_clamp, decide_true, Nat.le_refl, bI_eq, bI_z1]
    unfold olA at hQ
    rw [if_neg (by rw [h0]; simp)] at hQ
    exact hQ v MF_r
  · rename_i h0
    have h0 : pilB (tN T) y = true := by simpa using h0
    refine go_at (blk := b_Model_oiled_8) rfl ?_
    simp (disch := omega) only [b_Model_oiled_8, be_4, be_1, be_58_3, List.getD_cons_zero, List.getD_cons_succ, List.set_cons_zero, List.set_cons_succ, List.length_cons, List.length_nil, pk_I, pk_A, pr_A, pi_I, st_s, st_n, if_true, if_false, eq_self, d_if, d_ju, d_re, d_ca, cat0, cat1, cat2, cat3, fr_z, fr_s, cc_I, cc_A, cc_N, Nat.reduceAdd, Nat.reduceLT, Nat.reduceLeDiff, Nat.reduceEqDiff, not_true, not_false_iff, z1_0, z1_1, Bool.and_self, Bool.true_and, Bool.and_true, nI_add, pk_mul, nI_clamp, decide_true, Nat.le_refl, bI_eq, bI_z1]
    refine m_in ?_
    rw [show inB x (nI 1) (nI 300) = spnB x from rfl]
    refine go_at (blk := b_Model_oiled_16) rfl ?_
    simp (disch := omega) only [b_Model_oiled_16, be_50_1, List.getD_cons_zero, List.getD_cons_succ, List.set_cons_zero, List.set_cons_succ, List.length_cons, List.length_nil, pk_I, pk_A, pr_A, pi_I, st_s, st_n, if_true, if_false, eq_self, d_if, d_ju, d_re, d_ca, cat0, cat1, cat2, cat3, fr_z, fr_s, cc_I, cc_A, cc_N, Nat.reduceAdd, Nat.reduceLT, Nat.reduceLeDiff, Nat.reduceEqDiff, not_true, not_false_iff, z1_0, z1_1, Bool.and_self, Bool.true_and, Bool.and_true, nI_add, pk_mul, nI_clamp, decide_true, Nat.le_refl, bI_eq, bI_z1]
    split
    · rename_i h1
      have h1 : spnB x = true := by simpa using h1
      unfold olA at hQ
      rw [if_pos (by rw [h0, h1]; rfl)] at hQ
      obtain ⟨p, hp, rfl, ep⟩ := pil_of h8 h0
      rw [ep] at hQ
      obtain ⟨n, _, hn, rfl, en⟩ := spn_of h1
      rw [en] at hQ
      refine go_at (blk := b_Model_oiled_21) rfl ?_
      simp (disch := omega) only [b_Model_oiled_21, be_1, be_7, be_0, List.getD_cons_zero, List.getD_cons_succ, List.set_cons_zero, List.set_cons_succ, List.length_cons, List.length_nil, pk_I, pk_A, pr_A, pi_I, st_s, st_n, if_true, if_false, eq_self, d_if, d_ju, d_re, d_ca, cat0, cat1, cat2, cat3, fr_z, fr_s, cc_I, cc_A, cc_N, Nat.reduceAdd, Nat.reduceLT, Nat.reduceLeDiff, Nat.reduceEqDiff, not_true, not_false_iff, z1_0, z1_1, Bool.and_self, Bool.true_and, Bool.and_true, nI_add, pk_mul, nI_clamp, decide_true, Nat.le_refl, bI_eq, bI_z1]
      refine go_loopA (α := (Nat → Nat → Int32)) (fun i x => ([.ref 388, .int (nI p), .int (nI n), .int (nI i)], [], (428, 26053, KD, RF, x, w))) (fun i x => MF v x ∧ olS T f p n = srS (olP T f p n) (301 - i) i) (301) ?_ ?_ v ⟨MF_r, rfl⟩
      · intro i x hi ⟨i1, i2⟩ ih
        try dsimp only at *
        have hMx : MI B x T lv f := MI_f hM i1
        obtain ⟨k18, hlv, k398, _⟩ := (MI_f hM i1).1.1
        have k418 : x 418 = f := (MI_f hM i1).2.1
        have hni : ¬ 300 < i := by omega
        refine go_at (blk := b_Model_oiled_23) rfl ?_
        simp (disch := omega) only [b_Model_oiled_23, be_4, be_1, be_49_4, List.getD_cons_zero, List.getD_cons_succ, List.set_cons_zero, List.set_cons_succ, List.length_cons, List.length_nil, pk_I, pk_A, pr_A, pi_I, st_s, st_n, if_true, if_false, eq_self, d_if, d_ju, d_re, d_ca, cat0, cat1, cat2, cat3, fr_z, fr_s, cc_I, cc_A, cc_N, Nat.reduceAdd, Nat.reduceLT, Nat.reduceLeDiff, Nat.reduceEqDiff, not_true, not_false_iff, z1_0, z1_1, Bool.and_self, Bool.true_and, Bool.and_true, nI_add, pk_mul, nI_clamp, decide_true, Nat.le_refl, bI_eq, bI_z1, nI_ltI, nI_leI, hni]
        refine go_at (blk := b_Model_oiled_30) rfl ?_
        simp (disch := omega) only [b_Model_oiled_30, be_6, be_4, be_1, be_57_4, kc_388, List.getD_cons_zero, List.getD_cons_succ, List.set_cons_zero, List.set_cons_succ, List.length_cons, List.length_nil, pk_I, pk_A, pr_A, pi_I, st_s, st_n, if_true, if_false, eq_self, d_if, d_ju, d_re, d_ca, cat0, cat1, cat2, cat3, fr_z, fr_s, cc_I, cc_A, cc_N, Nat.reduceAdd, Nat.reduceLT, Nat.reduceLeDiff, Nat.reduceEqDiff, not_true, not_false_iff, z1_0, z1_1, Bool.and_self, Bool.true_and, Bool.and_true, nI_add, pk_mul, nI_clamp, decide_true, Nat.le_refl, bI_eq, bI_z1, nI_ltI, nI_leI, hni]
        refine r_thereBy hMx hp hn ?_
        intro v2 q2
        refine go_at (blk := b_Model_oiled_38) rfl ?_
        simp (disch := omega) only [b_Model_oiled_38, be_50_0, List.getD_cons_zero, List.getD_cons_succ, List.set_cons_zero, List.set_cons_succ, List.length_cons, List.length_nil, pk_I, pk_A, pr_A, pi_I, st_s, st_n, if_true, if_false, eq_self, d_if, d_ju, d_re, d_ca, cat0, cat1, cat2, cat3, fr_z, fr_s, cc_I, cc_A, cc_N, Nat.reduceAdd, Nat.reduceLT, Nat.reduceLeDiff, Nat.reduceEqDiff, not_true, not_false_iff, z1_0, z1_1, Bool.and_self, Bool.true_and, Bool.and_true, nI_add, pk_mul, nI_clamp, decide_true, Nat.le_refl, bI_eq, bI_z1, nI_ltI, nI_leI, hni]
        split
        · rename_i hb
          refine go_at (blk := b_Model_oiled_43) rfl ?_
          simp (disch := omega) only [b_Model_oiled_43, be_10, be_51, List.getD_cons_zero, List.getD_cons_succ, List.set_cons_zero, List.set_cons_succ, List.length_cons, List.length_nil, pk_I, pk_A, pr_A, pi_I, st_s, st_n, if_true, if_false, eq_self, d_if, d_ju, d_re, d_ca, cat0, cat1, cat2, cat3, fr_z, fr_s, cc_I, cc_A, cc_N, Nat.reduceAdd, Nat.reduceLT, Nat.reduceLeDiff, Nat.reduceEqDiff, not_true, not_false_iff, z1_0, z1_1, Bool.and_self, Bool.true_and, Bool.and_true, nI_add, pk_mul, nI_clamp, decide_true, Nat.le_refl, bI_eq, bI_z1, nI_ltI, nI_leI, hni]
          refine ih v2 ⟨MF_t i1 q2, ?_⟩
          rw [i2, sr_f (by omega) (show olP T f p n i = false by have h2 : (!decide (arS T (-1) (nI 0) (upd f 40 (f 40 + nI i)) p n = -2)) = false := (by simpa using hb); exact h2)]
        · rename_i hb
          refine go_at (blk := b_Model_oiled_41) rfl ?_
          simp (disch := omega) only [b_Model_oiled_41, be_4, be_54, List.getD_cons_zero, List.getD_cons_succ, List.set_cons_zero, List.set_cons_succ, List.length_cons, List.length_nil, pk_I, pk_A, pr_A, pi_I, st_s, st_n, if_true, if_false, eq_self, d_if, d_ju, d_re, d_ca, cat0, cat1, cat2, cat3, fr_z, fr_s, cc_I, cc_A, cc_N, Nat.reduceAdd, Nat.reduceLT, Nat.reduceLeDiff, Nat.reduceEqDiff, not_true, not_false_iff, z1_0, z1_1, Bool.and_self, Bool.true_and, Bool.and_true, nI_add, pk_mul, nI_clamp, decide_true, Nat.le_refl, bI_eq, bI_z1, nI_ltI, nI_leI, hni]
          rw [i2, sr_t (by omega) (show olP T f p n i = true by have h2 : (!decide (arS T (-1) (nI 0) (upd f 40 (f 40 + nI i)) p n = -2)) = true := (by simpa using hb); exact h2)] at hQ
          exact hQ v2 (MF_t i1 q2)
      · intro x ⟨i1, i2⟩
        try dsimp only at *
        refine go_at (blk := b_Model_oiled_23) rfl ?_
        simp (disch := omega) only [b_Model_oiled_23, be_4, be_1, be_49_4, List.getD_cons_zero, List.getD_cons_succ, List.set_cons_zero, List.set_cons_succ, List.length_cons, List.length_nil, pk_I, pk_A, pr_A, pi_I, st_s, st_n, if_true, if_false, eq_self, d_if, d_ju, d_re, d_ca, cat0, cat1, cat2, cat3, fr_z, fr_s, cc_I, cc_A, cc_N, Nat.reduceAdd, Nat.reduceLT, Nat.reduceLeDiff, Nat.reduceEqDiff, not_true, not_false_iff, z1_0, z1_1, Bool.and_self, Bool.true_and, Bool.and_true, nI_add, pk_mul, nI_clamp, decide_true, Nat.le_refl, bI_eq, bI_z1, nI_ltI, nI_leI]
        refine go_at (blk := b_Model_oiled_49) rfl ?_
        simp (disch := omega) only [b_Model_oiled_49, be_2, be_54, List.getD_cons_zero, List.getD_cons_succ, List.set_cons_zero, List.set_cons_succ, List.length_cons, List.length_nil, pk_I, pk_A, pr_A, pi_I, st_s, st_n, if_true, if_false, eq_self, d_if, d_ju, d_re, d_ca, cat0, cat1, cat2, cat3, fr_z, fr_s, cc_I, cc_A, cc_N, Nat.reduceAdd, Nat.reduceLT, Nat.reduceLeDiff, Nat.reduceEqDiff, not_true, not_false_iff, z1_0, z1_1, Bool.and_self, Bool.true_and, Bool.and_true, nI_add, pk_mul, nI_clamp, decide_true, Nat.le_refl, bI_eq, bI_z1, nI_ltI, nI_leI]
        rw [i2, sr_e] at hQ
        exact hQ x i1
    · rename_i h1
      have h1 : spnB x = false := by simpa using h1
      refine go_at (blk := b_Model_oiled_19) rfl ?_
      simp (disch := omega) only [b_Model_oiled_19, be_2, be_54, List.getD_cons_zero, List.getD_cons_succ, List.set_cons_zero, List.set_cons_succ, List.length_cons, List.length_nil, pk_I, pk_A, pr_A, pi_I, st_s, st_n, if_true, if_false, eq_self, d_if, d_ju, d_re, d_ca, cat0, cat1, cat2, cat3, fr_z, fr_s, cc_I, cc_A, cc_N, Nat.reduceAdd, Nat.reduceLT, Nat.reduceLeDiff, Nat.reduceEqDiff, not_true, not_false_iff, z1_0, z1_1, Bool.and_self, Bool.true_and, Bool.and_true, nI_add, pk_mul, nI_clamp, decide_true, Nat.le_refl, bI_eq, bI_z1]
      unfold olA at hQ
      rw [if_neg (by rw [h1]; simp)] at hQ
      exact hQ v MF_r
theorem nn_lt {i : Nat} (h : i ≤ 1000) : ¬ nI i < 0 := by
  rw [Int32.lt_iff_toInt_lt, nI_toInt (by omega), show (0 : Int32).toInt = 0 from rfl]
  omega
set_option maxHeartbeats 1000000 in
theorem r_doubted {d : Nat} {v : Nat → Nat → Int32} {w : Nat → Nat → Int64} {Q : Option Value → am_H → Prop} {T : TXT} {lv : Nat} {f : Nat → Int32} {B : Int} (hM : MI B v T lv f) {y x : Int32} (hQ : ∀ v', MF v v' → Q (some (.int (dbA T f y x))) (428, 26053, KD, RF, v', w)) : am_Ca (d + 7) M_Model_doubted [.ref 388, .int y, .int x] (428, 26053, KD, RF, v, w) Q := by
  have h8 := hM.2.2.2.2.1.1
  refine ca_in (k := k_Model_doubted) (nL := 4) rfl (Nat.le_of_ble_eq_true rfl) ?_
  show am_Go am_X0 _ k_Model_doubted 0 ([.ref 388, .int y, .int x, .null], [], _) _
  refine go_at (blk := b_Model_doubted_0) rfl ?_
  simp (disch := omega) only [b_Model_doubted_0, be_6, be_4, be_57_1, kc_388, List.getD_cons_zero, List.getD_cons_succ, List.set_cons_zero, List.set_cons_succ, List.length_cons, List.length_nil, pk_I, pk_A, pr_A, pi_I, st_s, st_n, if_true, if_false, eq_self, d_if, d_ju, d_re, d_ca, cat0, cat1, cat2, cat3, fr_z, fr_s, cc_I, cc_A, cc_N, Nat.reduceAdd, Nat.reduceLT, Nat.reduceLeDiff, Nat.reduceEqDiff, not_true, not_false_iff, z1_0, z1_1, Bool.and_self, Bool.true_and, Bool.and_true, nI_add, pk_mul, nI_clamp, decide_true, Nat.le_refl, bI_eq, bI_z1]
  refine r_isPil hM.1 ?_
  refine go_at (blk := b_Model_doubted_5) rfl ?_
  simp (disch := omega) only [b_Model_doubted_5, be_50_0, List.getD_cons_zero, List.getD_cons_succ, List.set_cons_zero, List.set_cons_succ, List.length_cons, List.length_nil, pk_I, pk_A, pr_A, pi_I, st_s, st_n, if_true, if_false, eq_self, d_if, d_ju, d_re, d_ca, cat0, cat1, cat2, cat3, fr_z, fr_s, cc_I, cc_A, cc_N, Nat.reduceAdd, Nat.reduceLT, Nat.reduceLeDiff, Nat.reduceEqDiff, not_true, not_false_iff, z1_0, z1_1, Bool.and_self, Bool.true_and, Bool.and_true, nI_add, pk_mul, nI_clamp, decide_true, Nat.le_refl, bI_eq, bI_z1]
  split
  · rename_i h0
    have h0 : pilB (tN T) y = false := by simpa using h0
    refine go_at (blk := b_Model_doubted_19) rfl ?_
    simp (disch := omega) only [b_Model_doubted_19, be_2, be_54, List.getD_cons_zero, List.getD_cons_succ, List.set_cons_zero, List.set_cons_succ, List.length_cons, List.length_nil, pk_I, pk_A, pr_A, pi_I, st_s, st_n, if_true, if_false, eq_self, d_if, d_ju, d_re, d_ca, cat0, cat1, cat2, cat3, fr_z, fr_s, cc_I, cc_A, cc_N, Nat.reduceAdd, Nat.reduceLT, Nat.reduceLeDiff, Nat.reduceEqDiff, not_true, not_false_iff, z1_0, z1_1, Bool.and_self, Bool.true_and, Bool.and_true, nI_add, pk_mul, nI_clamp, decide_true, Nat.le_refl, bI_eq, bI_z1]
    unfold dbA at hQ
    rw [if_neg (by rw [h0]; simp)] at hQ
    exact hQ v MF_r
  · rename_i h0
    have h0 : pilB (tN T) y = true := by simpa using h0
    refine go_at (blk := b_Model_doubted_8) rfl ?_
    simp (disch := omega) only [b_Model_doubted_8, be_4, be_1, be_58_3, List.getD_cons_zero, List.getD_cons_succ, List.set_cons_zero, List.set_cons_succ, List.length_cons, List.length_nil, pk_I, pk_A, pr_A, pi_I, st_s, st_n, if_true, if_false, eq_self, d_if, d_ju, d_re, d_ca, cat0, cat1, cat2, cat3, fr_z, fr_s, cc_I, cc_A, cc_N, Nat.reduceAdd, Nat.reduceLT, Nat.reduceLeDiff, Nat.reduceEqDiff, not_true, not_false_iff, z1_0, z1_1, Bool.and_self, Bool.true_and, Bool.and_true, nI_add, pk_mul, nI_clamp, decide_true, Nat.le_refl, bI_eq, bI_z1]
    refine m_in ?_
    rw [show inB x (nI 1) (nI 300) = spnB x from rfl]
    refine go_at (blk := b_Model_doubted_16) rfl ?_
    simp (disch := omega) only [b_Model_doubted_16, be_50_1, List.getD_cons_zero, List.getD_cons_succ, List.set_cons_zero, List.set_cons_succ, List.length_cons, List.length_nil, pk_I, pk_A, pr_A, pi_I, st_s, st_n, if_true, if_false, eq_self, d_if, d_ju, d_re, d_ca, cat0, cat1, cat2, cat3, fr_z, fr_s, cc_I, cc_A, cc_N, Nat.reduceAdd, Nat.reduceLT, Nat.reduceLeDiff, Nat.reduceEqDiff, not_true, not_false_iff, z1_0, z1_1, Bool.and_self, Bool.true_and, Bool.and_true, nI_add, pk_mul, nI_clamp, decide_true, Nat.le_refl, bI_eq, bI_z1]
    split
    · rename_i h1
      have h1 : spnB x = true := by simpa using h1
      unfold dbA at hQ
      rw [if_pos (by rw [h0, h1]; rfl)] at hQ
      obtain ⟨p, hp, rfl, ep⟩ := pil_of h8 h0
      rw [ep] at hQ
      obtain ⟨n, _, hn, rfl, en⟩ := spn_of h1
      rw [en] at hQ
      refine go_at (blk := b_Model_doubted_21) rfl ?_
      simp (disch := omega) only [b_Model_doubted_21, be_1, be_7, be_0, List.getD_cons_zero, List.getD_cons_succ, List.set_cons_zero, List.set_cons_succ, List.length_cons, List.length_nil, pk_I, pk_A, pr_A, pi_I, st_s, st_n, if_true, if_false, eq_self, d_if, d_ju, d_re, d_ca, cat0, cat1, cat2, cat3, fr_z, fr_s, cc_I, cc_A, cc_N, Nat.reduceAdd, Nat.reduceLT, Nat.reduceLeDiff, Nat.reduceEqDiff, not_true, not_false_iff, z1_0, z1_1, Bool.and_self, Bool.true_and, Bool.and_true, nI_add, pk_mul, nI_clamp, decide_true, Nat.le_refl, bI_eq, bI_z1]
      show am_Go am_X0 _ k_Model_doubted 25 ([.ref 388, .int (nI p), .int (nI n), .int (nI (301 - 0) + (-1))], [], _) _
      refine go_loopA (α := (Nat → Nat → Int32)) (fun i x => ([.ref 388, .int (nI p), .int (nI n), .int (nI (301 - i) + (-1))], [], (428, 26053, KD, RF, x, w))) (fun i x => MF v x ∧ dbS T f p n = sdS (dbP T f p n) (301 - i)) (301) ?_ ?_ v ⟨MF_r, rfl⟩
      · intro i x hi ⟨i1, i2⟩ ih
        try dsimp only at *
        have hMx : MI B x T lv f := MI_f hM i1
        obtain ⟨k18, hlv, k398, _⟩ := (MI_f hM i1).1.1
        have k418 : x 418 = f := (MI_f hM i1).2.1
        have hv := n300 (i := i) (by omega)
        have hve : nI (301 - (i + 1)) = nI (300 - i) := by rw [show 301 - (i + 1) = 300 - i by omega]
        rw [hve] at ih
        have hge := nn_lt (i := 300 - i) (by omega)
        refine go_at (blk := b_Model_doubted_25) rfl ?_
        simp (disch := omega) only [b_Model_doubted_25, be_4, be_50_2, List.getD_cons_zero, List.getD_cons_succ, List.set_cons_zero, List.set_cons_succ, List.length_cons, List.length_nil, pk_I, pk_A, pr_A, pi_I, st_s, st_n, if_true, if_false, eq_self, d_if, d_ju, d_re, d_ca, cat0, cat1, cat2, cat3, fr_z, fr_s, cc_I, cc_A, cc_N, Nat.reduceAdd, Nat.reduceLT, Nat.reduceLeDiff, Nat.reduceEqDiff, not_true, not_false_iff, z1_0, z1_1, Bool.and_self, Bool.true_and, Bool.and_true, nI_add, pk_mul, nI_clamp, decide_true, Nat.le_refl, bI_eq, bI_z1, nI_ltI, nI_leI, hv, hge]
        refine go_at (blk := b_Model_doubted_29) rfl ?_
        simp (disch := omega) only [b_Model_doubted_29, be_6, be_4, be_1, be_57_4, kc_388, List.getD_cons_zero, List.getD_cons_succ, List.set_cons_zero, List.set_cons_succ, List.length_cons, List.length_nil, pk_I, pk_A, pr_A, pi_I, st_s, st_n, if_true, if_false, eq_self, d_if, d_ju, d_re, d_ca, cat0, cat1, cat2, cat3, fr_z, fr_s, cc_I, cc_A, cc_N, Nat.reduceAdd, Nat.reduceLT, Nat.reduceLeDiff, Nat.reduceEqDiff, not_true, not_false_iff, z1_0, z1_1, Bool.and_self, Bool.true_and, Bool.and_true, nI_add, pk_mul, nI_clamp, decide_true, Nat.le_refl, bI_eq, bI_z1, nI_ltI, nI_leI, hv, hge]
        refine r_thereBy hMx hp hn ?_
        intro v2 q2
        rw [f40_0]
        refine go_at (blk := b_Model_doubted_37) rfl ?_
        simp (disch := omega) only [b_Model_doubted_37, be_50_0, List.getD_cons_zero, List.getD_cons_succ, List.set_cons_zero, List.set_cons_succ, List.length_cons, List.length_nil, pk_I, pk_A, pr_A, pi_I, st_s, st_n, if_true, if_false, eq_self, d_if, d_ju, d_re, d_ca, cat0, cat1, cat2, cat3, fr_z, fr_s, cc_I, cc_A, cc_N, Nat.reduceAdd, Nat.reduceLT, Nat.reduceLeDiff, Nat.reduceEqDiff, not_true, not_false_iff, z1_0, z1_1, Bool.and_self, Bool.true_and, Bool.and_true, nI_add, pk_mul, nI_clamp, decide_true, Nat.le_refl, bI_eq, bI_z1, nI_ltI, nI_leI, hv, hge]
        split
        · rename_i hb
          refine go_at (blk := b_Model_doubted_42) rfl ?_
          simp (disch := omega) only [b_Model_doubted_42, be_11, be_51, List.getD_cons_zero, List.getD_cons_succ, List.set_cons_zero, List.set_cons_succ, List.length_cons, List.length_nil, pk_I, pk_A, pr_A, pi_I, st_s, st_n, if_true, if_false, eq_self, d_if, d_ju, d_re, d_ca, cat0, cat1, cat2, cat3, fr_z, fr_s, cc_I, cc_A, cc_N, Nat.reduceAdd, Nat.reduceLT, Nat.reduceLeDiff, Nat.reduceEqDiff, not_true, not_false_iff, z1_0, z1_1, Bool.and_self, Bool.true_and, Bool.and_true, nI_add, pk_mul, nI_clamp, decide_true, Nat.le_refl, bI_eq, bI_z1, nI_ltI, nI_leI, hv, hge]
          refine ih v2 ⟨MF_t i1 q2, ?_⟩
          rw [i2, sd_n (by omega) (show dbP T f p n (300 - i) = false by have h2 : (!decide (arS T (-1) (nI (300 - i)) f p n = -2)) = false := (by simpa using hb); exact h2)]
        · rename_i hb
          refine go_at (blk := b_Model_doubted_40) rfl ?_
          simp (disch := omega) only [b_Model_doubted_40, be_4, be_54, List.getD_cons_zero, List.getD_cons_succ, List.set_cons_zero, List.set_cons_succ, List.length_cons, List.length_nil, pk_I, pk_A, pr_A, pi_I, st_s, st_n, if_true, if_false, eq_self, d_if, d_ju, d_re, d_ca, cat0, cat1, cat2, cat3, fr_z, fr_s, cc_I, cc_A, cc_N, Nat.reduceAdd, Nat.reduceLT, Nat.reduceLeDiff, Nat.reduceEqDiff, not_true, not_false_iff, z1_0, z1_1, Bool.and_self, Bool.true_and, Bool.and_true, nI_add, pk_mul, nI_clamp, decide_true, Nat.le_refl, bI_eq, bI_z1, nI_ltI, nI_leI, hv, hge]
          rw [i2, sd_t (by omega) (show dbP T f p n (300 - i) = true by have h2 : (!decide (arS T (-1) (nI (300 - i)) f p n = -2)) = true := (by simpa using hb); exact h2)] at hQ
          exact hQ v2 (MF_t i1 q2)
      · intro x ⟨i1, i2⟩
        try dsimp only at *
        have hve : (nI (301 - 301) + (-1) < 0) ↔ True := by decide
        refine go_at (blk := b_Model_doubted_25) rfl ?_
        simp (disch := omega) only [b_Model_doubted_25, be_4, be_50_2, List.getD_cons_zero, List.getD_cons_succ, List.set_cons_zero, List.set_cons_succ, List.length_cons, List.length_nil, pk_I, pk_A, pr_A, pi_I, st_s, st_n, if_true, if_false, eq_self, d_if, d_ju, d_re, d_ca, cat0, cat1, cat2, cat3, fr_z, fr_s, cc_I, cc_A, cc_N, Nat.reduceAdd, Nat.reduceLT, Nat.reduceLeDiff, Nat.reduceEqDiff, not_true, not_false_iff, z1_0, z1_1, Bool.and_self, Bool.true_and, Bool.and_true, nI_add, pk_mul, nI_clamp, decide_true, Nat.le_refl, bI_eq, bI_z1, nI_ltI, nI_leI, hve]
        refine go_at (blk := b_Model_doubted_48) rfl ?_
        simp (disch := omega) only [b_Model_doubted_48, be_2, be_54, List.getD_cons_zero, List.getD_cons_succ, List.set_cons_zero, List.set_cons_succ, List.length_cons, List.length_nil, pk_I, pk_A, pr_A, pi_I, st_s, st_n, if_true, if_false, eq_self, d_if, d_ju, d_re, d_ca, cat0, cat1, cat2, cat3, fr_z, fr_s, cc_I, cc_A, cc_N, Nat.reduceAdd, Nat.reduceLT, Nat.reduceLeDiff, Nat.reduceEqDiff, not_true, not_false_iff, z1_0, z1_1, Bool.and_self, Bool.true_and, Bool.and_true, nI_add, pk_mul, nI_clamp, decide_true, Nat.le_refl, bI_eq, bI_z1, nI_ltI, nI_leI, hve]
        rw [i2] at hQ
        exact hQ x i1
    · rename_i h1
      have h1 : spnB x = false := by simpa using h1
      refine go_at (blk := b_Model_doubted_19) rfl ?_
      simp (disch := omega) only [b_Model_doubted_19, be_2, be_54, List.getD_cons_zero, List.getD_cons_succ, List.set_cons_zero, List.set_cons_succ, List.length_cons, List.length_nil, pk_I, pk_A, pr_A, pi_I, st_s, st_n, if_true, if_false, eq_self, d_if, d_ju, d_re, d_ca, cat0, cat1, cat2, cat3, fr_z, fr_s, cc_I, cc_A, cc_N, Nat.reduceAdd, Nat.reduceLT, Nat.reduceLeDiff, Nat.reduceEqDiff, not_true, not_false_iff, z1_0, z1_1, Bool.and_self, Bool.true_and, Bool.and_true, nI_add, pk_mul, nI_clamp, decide_true, Nat.le_refl, bI_eq, bI_z1]
      unfold dbA at hQ
      rw [if_neg (by rw [h1]; simp)] at hQ
      exact hQ v MF_r
theorem mn_kn0 {T : TXT} {no md : Int32} {p : Nat} {f : Nat → Int32} (hp : p < 8) (h : f (8 + p) = 0) : mnT T no md f (8 + p) = 0 := by
  unfold mnT
  rw [minR_lt (by omega)]
  have h1 : mix (tN T) (g1 (tT T) (mvT T no md f) (tK T) f) f no (8 + p) = 0 := by
    unfold mix
    split
    · rw [g1_1 hp]
      split
      · exact h
      · rfl
    · exact h
  generalize mix (tN T) (g1 (tT T) (mvT T no md f) (tK T) f) f no = f1 at h1 ⊢
  unfold mix
  split
  · unfold g2
    rw [if_neg (by omega), if_pos (by omega), if_pos h1]
    exact h1
  · exact h1
theorem it_kn0 {T : TXT} {p : Nat} {f : Nat → Int32} (i : Nat) (hp : p < 8) : itT T (-1) 0 i (upd f (8 + p) 0) (8 + p) = 0 := by
  induction i with
  | zero => exact upd_at
  | succ i ih => exact mn_kn0 hp ih
set_option maxHeartbeats 1000000 in
theorem r_bestStart {d : Nat} {v : Nat → Nat → Int32} {w : Nat → Nat → Int64} {Q : Option Value → am_H → Prop} {T : TXT} {lv : Nat} {f : Nat → Int32} {B : Int} (hM : MI B v T lv f) {y x z : Int32} (hQ : ∀ v', MF v v' → Q (some (.int (bsA T f y x z))) (428, 26053, KD, RF, v', w)) : am_Ca (d + 7) M_Model_bestStart [.ref 388, .int y, .int x, .int z] (428, 26053, KD, RF, v, w) Q := by
  have h8 := hM.2.2.2.2.1.1
  have k418 : v 418 = f := hM.2.1
  refine ca_in (k := k_Model_bestStart) (nL := 7) rfl (Nat.le_of_ble_eq_true rfl) ?_
  show am_Go am_X0 _ k_Model_bestStart 0 ([.ref 388, .int y, .int x, .int z, .null, .null, .null], [], _) _
  refine go_at (blk := b_Model_bestStart_0) rfl ?_
  simp (disch := omega) only [b_Model_bestStart_0, be_6, be_4, be_57_1, kc_388, List.getD_cons_zero, List.getD_cons_succ, List.set_cons_zero, List.set_cons_succ, List.length_cons, List.length_nil, pk_I, pk_A, pr_A, pi_I, st_s, st_n, if_true, if_false, eq_self, d_if, d_ju, d_re, d_ca, cat0, cat1, cat2, cat3, fr_z, fr_s, cc_I, cc_A, cc_N, Nat.reduceAdd, Nat.reduceLT, Nat.reduceLeDiff, Nat.reduceEqDiff, not_true, not_false_iff, z1_0, z1_1, Bool.and_self, Bool.true_and, Bool.and_true, nI_add, pk_mul, nI_clamp, decide_true, Nat.le_refl, bI_eq, bI_z1, k418]
  refine r_isPil hM.1 ?_
  refine go_at (blk := b_Model_bestStart_5) rfl ?_
  simp (disch := omega) only [b_Model_bestStart_5, be_50_0, List.getD_cons_zero, List.getD_cons_succ, List.set_cons_zero, List.set_cons_succ, List.length_cons, List.length_nil, pk_I, pk_A, pr_A, pi_I, st_s, st_n, if_true, if_false, eq_self, d_if, d_ju, d_re, d_ca, cat0, cat1, cat2, cat3, fr_z, fr_s, cc_I, cc_A, cc_N, Nat.reduceAdd, Nat.reduceLT, Nat.reduceLeDiff, Nat.reduceEqDiff, not_true, not_false_iff, z1_0, z1_1, Bool.and_self, Bool.true_and, Bool.and_true, nI_add, pk_mul, nI_clamp, decide_true, Nat.le_refl, bI_eq, bI_z1, k418]
  split
  · rename_i h0
    have h0 : pilB (tN T) y = false := by simpa using h0
    refine go_at (blk := b_Model_bestStart_41) rfl ?_
    simp (disch := omega) only [b_Model_bestStart_41, be_2, be_54, List.getD_cons_zero, List.getD_cons_succ, List.set_cons_zero, List.set_cons_succ, List.length_cons, List.length_nil, pk_I, pk_A, pr_A, pi_I, st_s, st_n, if_true, if_false, eq_self, d_if, d_ju, d_re, d_ca, cat0, cat1, cat2, cat3, fr_z, fr_s, cc_I, cc_A, cc_N, Nat.reduceAdd, Nat.reduceLT, Nat.reduceLeDiff, Nat.reduceEqDiff, not_true, not_false_iff, z1_0, z1_1, Bool.and_self, Bool.true_and, Bool.and_true, nI_add, pk_mul, nI_clamp, decide_true, Nat.le_refl, bI_eq, bI_z1, k418]
    unfold bsA at hQ
    rw [if_neg (by rw [h0]; simp)] at hQ
    exact hQ v MF_r
  · rename_i h0
    have h0 : pilB (tN T) y = true := by simpa using h0
    obtain ⟨p, hp, rfl, ep⟩ := pil_of h8 h0
    refine go_at (blk := b_Model_bestStart_8) rfl ?_
    simp (disch := omega) only [b_Model_bestStart_8, be_6, be_34, be_1, be_4, be_12, be_38, be_2, be_49_1, kc_388, rf_388_47, ka_418, List.getD_cons_zero, List.getD_cons_succ, List.set_cons_zero, List.set_cons_succ, List.length_cons, List.length_nil, pk_I, pk_A, pr_A, pi_I, st_s, st_n, if_true, if_false, eq_self, d_if, d_ju, d_re, d_ca, cat0, cat1, cat2, cat3, fr_z, fr_s, cc_I, cc_A, cc_N, Nat.reduceAdd, Nat.reduceLT, Nat.reduceLeDiff, Nat.reduceEqDiff, not_true, not_false_iff, z1_0, z1_1, Bool.and_self, Bool.true_and, Bool.and_true, nI_add, pk_mul, nI_clamp, decide_true, Nat.le_refl, bI_eq, bI_z1, k418]
    split
    · rename_i h3
      have h3 : onB f (-1) (cN (nI p)) = false := by rw [ep]; unfold onB; rw [decide_eq_false h3, Bool.false_and]
      refine go_at (blk := b_Model_bestStart_41) rfl ?_
      simp (disch := omega) only [b_Model_bestStart_41, be_2, be_54, List.getD_cons_zero, List.getD_cons_succ, List.set_cons_zero, List.set_cons_succ, List.length_cons, List.length_nil, pk_I, pk_A, pr_A, pi_I, st_s, st_n, if_true, if_false, eq_self, d_if, d_ju, d_re, d_ca, cat0, cat1, cat2, cat3, fr_z, fr_s, cc_I, cc_A, cc_N, Nat.reduceAdd, Nat.reduceLT, Nat.reduceLeDiff, Nat.reduceEqDiff, not_true, not_false_iff, z1_0, z1_1, Bool.and_self, Bool.true_and, Bool.and_true, nI_add, pk_mul, nI_clamp, decide_true, Nat.le_refl, bI_eq, bI_z1, k418]
      unfold bsA at hQ
      rw [if_neg (by rw [h3]; simp)] at hQ
      exact hQ v MF_r
    · rename_i h3
      have h3 : onB f (-1) (cN (nI p)) = true := by rw [ep]; exact on_m1 (by omega) (Decidable.not_not.mp h3)
      refine go_at (blk := b_Model_bestStart_21) rfl ?_
      simp (disch := omega) only [b_Model_bestStart_21, be_4, be_1, be_58_3, List.getD_cons_zero, List.getD_cons_succ, List.set_cons_zero, List.set_cons_succ, List.length_cons, List.length_nil, pk_I, pk_A, pr_A, pi_I, st_s, st_n, if_true, if_false, eq_self, d_if, d_ju, d_re, d_ca, cat0, cat1, cat2, cat3, fr_z, fr_s, cc_I, cc_A, cc_N, Nat.reduceAdd, Nat.reduceLT, Nat.reduceLeDiff, Nat.reduceEqDiff, not_true, not_false_iff, z1_0, z1_1, Bool.and_self, Bool.true_and, Bool.and_true, nI_add, pk_mul, nI_clamp, decide_true, Nat.le_refl, bI_eq, bI_z1, k418]
      refine m_in ?_
      rw [show inB x (nI 1) (nI 300) = spnB x from rfl]
      refine go_at (blk := b_Model_bestStart_29) rfl ?_
      simp (disch := omega) only [b_Model_bestStart_29, be_50_0, List.getD_cons_zero, List.getD_cons_succ, List.set_cons_zero, List.set_cons_succ, List.length_cons, List.length_nil, pk_I, pk_A, pr_A, pi_I, st_s, st_n, if_true, if_false, eq_self, d_if, d_ju, d_re, d_ca, cat0, cat1, cat2, cat3, fr_z, fr_s, cc_I, cc_A, cc_N, Nat.reduceAdd, Nat.reduceLT, Nat.reduceLeDiff, Nat.reduceEqDiff, not_true, not_false_iff, z1_0, z1_1, Bool.and_self, Bool.true_and, Bool.and_true, nI_add, pk_mul, nI_clamp, decide_true, Nat.le_refl, bI_eq, bI_z1, k418]
      split
      · rename_i h1
        have h1 : spnB x = false := by simpa using h1
        refine go_at (blk := b_Model_bestStart_41) rfl ?_
        simp (disch := omega) only [b_Model_bestStart_41, be_2, be_54, List.getD_cons_zero, List.getD_cons_succ, List.set_cons_zero, List.set_cons_succ, List.length_cons, List.length_nil, pk_I, pk_A, pr_A, pi_I, st_s, st_n, if_true, if_false, eq_self, d_if, d_ju, d_re, d_ca, cat0, cat1, cat2, cat3, fr_z, fr_s, cc_I, cc_A, cc_N, Nat.reduceAdd, Nat.reduceLT, Nat.reduceLeDiff, Nat.reduceEqDiff, not_true, not_false_iff, z1_0, z1_1, Bool.and_self, Bool.true_and, Bool.and_true, nI_add, pk_mul, nI_clamp, decide_true, Nat.le_refl, bI_eq, bI_z1, k418]
        unfold bsA at hQ
        rw [if_neg (by rw [h1]; simp)] at hQ
        exact hQ v MF_r
      · rename_i h1
        have h1 : spnB x = true := by simpa using h1
        refine go_at (blk := b_Model_bestStart_32) rfl ?_
        simp (disch := omega) only [b_Model_bestStart_32, be_4, be_1, be_58_3, List.getD_cons_zero, List.getD_cons_succ, List.set_cons_zero, List.set_cons_succ, List.length_cons, List.length_nil, pk_I, pk_A, pr_A, pi_I, st_s, st_n, if_true, if_false, eq_self, d_if, d_ju, d_re, d_ca, cat0, cat1, cat2, cat3, fr_z, fr_s, cc_I, cc_A, cc_N, Nat.reduceAdd, Nat.reduceLT, Nat.reduceLeDiff, Nat.reduceEqDiff, not_true, not_false_iff, z1_0, z1_1, Bool.and_self, Bool.true_and, Bool.and_true, nI_add, pk_mul, nI_clamp, decide_true, Nat.le_refl, bI_eq, bI_z1, k418]
        refine m_in ?_
        rw [in_two]
        refine go_at (blk := b_Model_bestStart_38) rfl ?_
        simp (disch := omega) only [b_Model_bestStart_38, be_50_1, List.getD_cons_zero, List.getD_cons_succ, List.set_cons_zero, List.set_cons_succ, List.length_cons, List.length_nil, pk_I, pk_A, pr_A, pi_I, st_s, st_n, if_true, if_false, eq_self, d_if, d_ju, d_re, d_ca, cat0, cat1, cat2, cat3, fr_z, fr_s, cc_I, cc_A, cc_N, Nat.reduceAdd, Nat.reduceLT, Nat.reduceLeDiff, Nat.reduceEqDiff, not_true, not_false_iff, z1_0, z1_1, Bool.and_self, Bool.true_and, Bool.and_true, nI_add, pk_mul, nI_clamp, decide_true, Nat.le_refl, bI_eq, bI_z1, k418]
        split
        · rename_i h2
          have h2 : twoB z = true := by simpa using h2
          unfold bsA at hQ
          rw [if_pos (by rw [h0, h1, h2, h3]; rfl)] at hQ
          obtain ⟨n, _, hn, rfl, en⟩ := spn_of h1
          rw [ep, en] at hQ
          refine go_at (blk := b_Model_bestStart_43) rfl ?_
          simp (disch := omega) only [b_Model_bestStart_43, be_1, be_7, be_2, be_0, List.getD_cons_zero, List.getD_cons_succ, List.set_cons_zero, List.set_cons_succ, List.length_cons, List.length_nil, pk_I, pk_A, pr_A, pi_I, st_s, st_n, if_true, if_false, eq_self, d_if, d_ju, d_re, d_ca, cat0, cat1, cat2, cat3, fr_z, fr_s, cc_I, cc_A, cc_N, Nat.reduceAdd, Nat.reduceLT, Nat.reduceLeDiff, Nat.reduceEqDiff, not_true, not_false_iff, z1_0, z1_1, Bool.and_self, Bool.true_and, Bool.and_true, nI_add, pk_mul, nI_clamp, decide_true, Nat.le_refl, bI_eq, bI_z1, k418]
          refine go_loopA (α := (Nat → Nat → Int32)) (fun i x => ([.ref 388, .int (nI p), .int (nI n), .int z, .int (bsS T f p n i).1, .int (bsS T f p n i).2, .int (nI i)], [], (428, 26053, KD, RF, x, w))) (fun i x => MF v x) (n) ?_ ?_ v MF_r
          · intro i x hi i1 ih
            try dsimp only at *
            have hni : ¬ n ≤ i := by omega
            have hMx : MI B x T lv f := MI_f hM i1
            obtain ⟨k18, hlv, k398, _⟩ := (MI_f hM i1).1.1
            have k418 : x 418 = f := (MI_f hM i1).2.1
            refine go_at (blk := b_Model_bestStart_52) rfl ?_
            simp (disch := omega) only [b_Model_bestStart_52, be_4, be_49_3, List.getD_cons_zero, List.getD_cons_succ, List.set_cons_zero, List.set_cons_succ, List.length_cons, List.length_nil, pk_I, pk_A, pr_A, pi_I, st_s, st_n, if_true, if_false, eq_self, d_if, d_ju, d_re, d_ca, cat0, cat1, cat2, cat3, fr_z, fr_s, cc_I, cc_A, cc_N, Nat.reduceAdd, Nat.reduceLT, Nat.reduceLeDiff, Nat.reduceEqDiff, not_true, not_false_iff, z1_0, z1_1, Bool.and_self, Bool.true_and, Bool.and_true, nI_add, pk_mul, nI_clamp, decide_true, Nat.le_refl, bI_eq, bI_z1, nI_ltI, nI_leI, pk_sub, hni]
            refine go_at (blk := b_Model_bestStart_58) rfl ?_
            simp (disch := omega) only [b_Model_bestStart_58, be_6, be_57_0, kc_388, List.getD_cons_zero, List.getD_cons_succ, List.set_cons_zero, List.set_cons_succ, List.length_cons, List.length_nil, pk_I, pk_A, pr_A, pi_I, st_s, st_n, if_true, if_false, eq_self, d_if, d_ju, d_re, d_ca, cat0, cat1, cat2, cat3, fr_z, fr_s, cc_I, cc_A, cc_N, Nat.reduceAdd, Nat.reduceLT, Nat.reduceLeDiff, Nat.reduceEqDiff, not_true, not_false_iff, z1_0, z1_1, Bool.and_self, Bool.true_and, Bool.and_true, nI_add, pk_mul, nI_clamp, decide_true, Nat.le_refl, bI_eq, bI_z1, nI_ltI, nI_leI, pk_sub, hni]
            refine rm_copies hMx ?_
            intro v1 q1 r1
            have f1 := MF_t i1 (MF_t q1 (MF_row (k := 8 + p) (x := nI 0) (by omega)))
            have r2 : MR (am_u v1 419 (8 + p) (nI 0)) (upd f (8 + p) 0) (-1) 0 := MR_row r1
            refine go_at (blk := b_Model_bestStart_62) rfl ?_
            simp (disch := omega) only [b_Model_bestStart_62, be_6, be_34, be_1, be_4, be_12, be_43, be_57_1, kc_388, rf_388_48, ka_419, List.getD_cons_zero, List.getD_cons_succ, List.set_cons_zero, List.set_cons_succ, List.length_cons, List.length_nil, pk_I, pk_A, pr_A, pi_I, st_s, st_n, if_true, if_false, eq_self, d_if, d_ju, d_re, d_ca, cat0, cat1, cat2, cat3, fr_z, fr_s, cc_I, cc_A, cc_N, Nat.reduceAdd, Nat.reduceLT, Nat.reduceLeDiff, Nat.reduceEqDiff, not_true, not_false_iff, z1_0, z1_1, Bool.and_self, Bool.true_and, Bool.and_true, nI_add, pk_mul, nI_clamp, decide_true, Nat.le_refl, bI_eq, bI_z1, nI_ltI, nI_leI, pk_sub, hni]
            refine r_goes (k := i) (by omega) (MX_f hM.1 f1) r2 ?_
            intro v3 q3 r3
            have f3 := MF_t f1 q3
            refine go_at (blk := b_Model_bestStart_78) rfl ?_
            simp (disch := omega) only [b_Model_bestStart_78, be_6, be_4, be_57_1, kc_388, List.getD_cons_zero, List.getD_cons_succ, List.set_cons_zero, List.set_cons_succ, List.length_cons, List.length_nil, pk_I, pk_A, pr_A, pi_I, st_s, st_n, if_true, if_false, eq_self, d_if, d_ju, d_re, d_ca, cat0, cat1, cat2, cat3, fr_z, fr_s, cc_I, cc_A, cc_N, Nat.reduceAdd, Nat.reduceLT, Nat.reduceLeDiff, Nat.reduceEqDiff, not_true, not_false_iff, z1_0, z1_1, Bool.and_self, Bool.true_and, Bool.and_true, nI_add, pk_mul, nI_clamp, decide_true, Nat.le_refl, bI_eq, bI_z1, nI_ltI, nI_leI, pk_sub, hni]
            refine r_may (by omega) (MX_f hM.1 f3) r3 ?_
            refine go_at (blk := b_Model_bestStart_83) rfl ?_
            simp (disch := omega) only [b_Model_bestStart_83, be_50_0, List.getD_cons_zero, List.getD_cons_succ, List.set_cons_zero, List.set_cons_succ, List.length_cons, List.length_nil, pk_I, pk_A, pr_A, pi_I, st_s, st_n, if_true, if_false, eq_self, d_if, d_ju, d_re, d_ca, cat0, cat1, cat2, cat3, fr_z, fr_s, cc_I, cc_A, cc_N, Nat.reduceAdd, Nat.reduceLT, Nat.reduceLeDiff, Nat.reduceEqDiff, not_true, not_false_iff, z1_0, z1_1, Bool.and_self, Bool.true_and, Bool.and_true, nI_add, pk_mul, nI_clamp, decide_true, Nat.le_refl, bI_eq, bI_z1, nI_ltI, nI_leI, pk_sub, hni]
            split
            · rename_i hb
              have hb : mayB (itT T (-1) 0 i (upd f (8 + p) 0)) (-1) (tS T) p = false := by simpa using hb
              refine go_at (blk := b_Model_bestStart_96) rfl ?_
              simp (disch := omega) only [b_Model_bestStart_96, be_6, be_4, be_13, be_57_1, kc_388, List.getD_cons_zero, List.getD_cons_succ, List.set_cons_zero, List.set_cons_succ, List.length_cons, List.length_nil, pk_I, pk_A, pr_A, pi_I, st_s, st_n, if_true, if_false, eq_self, d_if, d_ju, d_re, d_ca, cat0, cat1, cat2, cat3, fr_z, fr_s, cc_I, cc_A, cc_N, Nat.reduceAdd, Nat.reduceLT, Nat.reduceLeDiff, Nat.reduceEqDiff, not_true, not_false_iff, z1_0, z1_1, Bool.and_self, Bool.true_and, Bool.and_true, nI_add, pk_mul, nI_clamp, decide_true, Nat.le_refl, bI_eq, bI_z1, nI_ltI, nI_leI, pk_sub, hni]
              refine r_goes (k := n - i) (by omega) (MX_f hM.1 f3) r3 ?_
              intro v5 q5 r5
              have e6 : (itT T (-1) 0 i (upd f (8 + p) 0)) (8 + p) = 0 := it_kn0 i (by omega)
              have e5 : v5 419 p = skS T f p i n := by rw [r5.1]; unfold skS; rw [hb, show bI false = (itT T (-1) 0 i (upd f (8 + p) 0)) (8 + p) from e6.symm, upd_self]
              have f5 := MF_t f3 q5
              refine go_at (blk := b_Model_bestStart_104) rfl ?_
              simp (disch := omega) only [b_Model_bestStart_104, be_6, be_34, be_4, be_38, be_49_4, kc_388, rf_388_48, ka_419, List.getD_cons_zero, List.getD_cons_succ, List.set_cons_zero, List.set_cons_succ, List.length_cons, List.length_nil, pk_I, pk_A, pr_A, pi_I, st_s, st_n, if_true, if_false, eq_self, d_if, d_ju, d_re, d_ca, cat0, cat1, cat2, cat3, fr_z, fr_s, cc_I, cc_A, cc_N, Nat.reduceAdd, Nat.reduceLT, Nat.reduceLeDiff, Nat.reduceEqDiff, not_true, not_false_iff, z1_0, z1_1, Bool.and_self, Bool.true_and, Bool.and_true, nI_add, pk_mul, nI_clamp, decide_true, Nat.le_refl, bI_eq, bI_z1, nI_ltI, nI_leI, pk_sub, hni, e5]
              split
              · rename_i hc
                have hc : (bsS T f p n i).2 < skS T f p i n := hc
                simp only [bs_t hc] at ih
                refine go_at (blk := b_Model_bestStart_118) rfl ?_
                simp (disch := omega) only [b_Model_bestStart_118, be_4, be_7, be_6, be_34, be_38, be_0, kc_388, rf_388_48, ka_419, List.getD_cons_zero, List.getD_cons_succ, List.set_cons_zero, List.set_cons_succ, List.length_cons, List.length_nil, pk_I, pk_A, pr_A, pi_I, st_s, st_n, if_true, if_false, eq_self, d_if, d_ju, d_re, d_ca, cat0, cat1, cat2, cat3, fr_z, fr_s, cc_I, cc_A, cc_N, Nat.reduceAdd, Nat.reduceLT, Nat.reduceLeDiff, Nat.reduceEqDiff, not_true, not_false_iff, z1_0, z1_1, Bool.and_self, Bool.true_and, Bool.and_true, nI_add, pk_mul, nI_clamp, decide_true, Nat.le_refl, bI_eq, bI_z1, nI_ltI, nI_leI, pk_sub, hni, e5]
                refine go_at (blk := b_Model_bestStart_130) rfl ?_
                simp (disch := omega) only [b_Model_bestStart_130, be_10, be_51, List.getD_cons_zero, List.getD_cons_succ, List.set_cons_zero, List.set_cons_succ, List.length_cons, List.length_nil, pk_I, pk_A, pr_A, pi_I, st_s, st_n, if_true, if_false, eq_self, d_if, d_ju, d_re, d_ca, cat0, cat1, cat2, cat3, fr_z, fr_s, cc_I, cc_A, cc_N, Nat.reduceAdd, Nat.reduceLT, Nat.reduceLeDiff, Nat.reduceEqDiff, not_true, not_false_iff, z1_0, z1_1, Bool.and_self, Bool.true_and, Bool.and_true, nI_add, pk_mul, nI_clamp, decide_true, Nat.le_refl, bI_eq, bI_z1, nI_ltI, nI_leI, pk_sub, hni, e5]
                exact ih v5 f5
              · rename_i hc
                have hc : ¬ (bsS T f p n i).2 < skS T f p i n := hc
                simp only [bs_f hc] at ih
                refine go_at (blk := b_Model_bestStart_115) rfl ?_
                simp (disch := omega) only [b_Model_bestStart_115, be_51, List.getD_cons_zero, List.getD_cons_succ, List.set_cons_zero, List.set_cons_succ, List.length_cons, List.length_nil, pk_I, pk_A, pr_A, pi_I, st_s, st_n, if_true, if_false, eq_self, d_if, d_ju, d_re, d_ca, cat0, cat1, cat2, cat3, fr_z, fr_s, cc_I, cc_A, cc_N, Nat.reduceAdd, Nat.reduceLT, Nat.reduceLeDiff, Nat.reduceEqDiff, not_true, not_false_iff, z1_0, z1_1, Bool.and_self, Bool.true_and, Bool.and_true, nI_add, pk_mul, nI_clamp, decide_true, Nat.le_refl, bI_eq, bI_z1, nI_ltI, nI_leI, pk_sub, hni, e5]
                refine go_at (blk := b_Model_bestStart_130) rfl ?_
                simp (disch := omega) only [b_Model_bestStart_130, be_10, be_51, List.getD_cons_zero, List.getD_cons_succ, List.set_cons_zero, List.set_cons_succ, List.length_cons, List.length_nil, pk_I, pk_A, pr_A, pi_I, st_s, st_n, if_true, if_false, eq_self, d_if, d_ju, d_re, d_ca, cat0, cat1, cat2, cat3, fr_z, fr_s, cc_I, cc_A, cc_N, Nat.reduceAdd, Nat.reduceLT, Nat.reduceLeDiff, Nat.reduceEqDiff, not_true, not_false_iff, z1_0, z1_1, Bool.and_self, Bool.true_and, Bool.and_true, nI_add, pk_mul, nI_clamp, decide_true, Nat.le_refl, bI_eq, bI_z1, nI_ltI, nI_leI, pk_sub, hni, e5]
                exact ih v5 f5
            · rename_i hb
              have hb : mayB (itT T (-1) 0 i (upd f (8 + p) 0)) (-1) (tS T) p = true := by simpa using hb
              have r4 : MR (am_u v3 419 (8 + p) (nI 1)) (upd (itT T (-1) 0 i (upd f (8 + p) 0)) (8 + p) (nI 1)) (-1) 0 := MR_row r3
              have f4 := MF_t f3 (MF_row (k := 8 + p) (x := nI 1) (by omega))
              refine go_at (blk := b_Model_bestStart_86) rfl ?_
              simp (disch := omega) only [b_Model_bestStart_86, be_6, be_34, be_1, be_4, be_12, be_43, be_0, kc_388, rf_388_48, ka_419, List.getD_cons_zero, List.getD_cons_succ, List.set_cons_zero, List.set_cons_succ, List.length_cons, List.length_nil, pk_I, pk_A, pr_A, pi_I, st_s, st_n, if_true, if_false, eq_self, d_if, d_ju, d_re, d_ca, cat0, cat1, cat2, cat3, fr_z, fr_s, cc_I, cc_A, cc_N, Nat.reduceAdd, Nat.reduceLT, Nat.reduceLeDiff, Nat.reduceEqDiff, not_true, not_false_iff, z1_0, z1_1, Bool.and_self, Bool.true_and, Bool.and_true, nI_add, pk_mul, nI_clamp, decide_true, Nat.le_refl, bI_eq, bI_z1, nI_ltI, nI_leI, pk_sub, hni]
              refine go_at (blk := b_Model_bestStart_96) rfl ?_
              simp (disch := omega) only [b_Model_bestStart_96, be_6, be_4, be_13, be_57_1, kc_388, List.getD_cons_zero, List.getD_cons_succ, List.set_cons_zero, List.set_cons_succ, List.length_cons, List.length_nil, pk_I, pk_A, pr_A, pi_I, st_s, st_n, if_true, if_false, eq_self, d_if, d_ju, d_re, d_ca, cat0, cat1, cat2, cat3, fr_z, fr_s, cc_I, cc_A, cc_N, Nat.reduceAdd, Nat.reduceLT, Nat.reduceLeDiff, Nat.reduceEqDiff, not_true, not_false_iff, z1_0, z1_1, Bool.and_self, Bool.true_and, Bool.and_true, nI_add, pk_mul, nI_clamp, decide_true, Nat.le_refl, bI_eq, bI_z1, nI_ltI, nI_leI, pk_sub, hni]
              refine r_goes (k := n - i) (by omega) (MX_f hM.1 f4) r4 ?_
              intro v5 q5 r5
              have e5 : v5 419 p = skS T f p i n := by rw [r5.1]; unfold skS; rw [hb]; rfl
              have f5 := MF_t f4 q5
              refine go_at (blk := b_Model_bestStart_104) rfl ?_
              simp (disch := omega) only [b_Model_bestStart_104, be_6, be_34, be_4, be_38, be_49_4, kc_388, rf_388_48, ka_419, List.getD_cons_zero, List.getD_cons_succ, List.set_cons_zero, List.set_cons_succ, List.length_cons, List.length_nil, pk_I, pk_A, pr_A, pi_I, st_s, st_n, if_true, if_false, eq_self, d_if, d_ju, d_re, d_ca, cat0, cat1, cat2, cat3, fr_z, fr_s, cc_I, cc_A, cc_N, Nat.reduceAdd, Nat.reduceLT, Nat.reduceLeDiff, Nat.reduceEqDiff, not_true, not_false_iff, z1_0, z1_1, Bool.and_self, Bool.true_and, Bool.and_true, nI_add, pk_mul, nI_clamp, decide_true, Nat.le_refl, bI_eq, bI_z1, nI_ltI, nI_leI, pk_sub, hni, e5]
              split
              · rename_i hc
                have hc : (bsS T f p n i).2 < skS T f p i n := hc
                simp only [bs_t hc] at ih
                refine go_at (blk := b_Model_bestStart_118) rfl ?_
                simp (disch := omega) only [b_Model_bestStart_118, be_4, be_7, be_6, be_34, be_38, be_0, kc_388, rf_388_48, ka_419, List.getD_cons_zero, List.getD_cons_succ, List.set_cons_zero, List.set_cons_succ, List.length_cons, List.length_nil, pk_I, pk_A, pr_A, pi_I, st_s, st_n, if_true, if_false, eq_self, d_if, d_ju, d_re, d_ca, cat0, cat1, cat2, cat3, fr_z, fr_s, cc_I, cc_A, cc_N, Nat.reduceAdd, Nat.reduceLT, Nat.reduceLeDiff, Nat.reduceEqDiff, not_true, not_false_iff, z1_0, z1_1, Bool.and_self, Bool.true_and, Bool.and_true, nI_add, pk_mul, nI_clamp, decide_true, Nat.le_refl, bI_eq, bI_z1, nI_ltI, nI_leI, pk_sub, hni, e5]
                refine go_at (blk := b_Model_bestStart_130) rfl ?_
                simp (disch := omega) only [b_Model_bestStart_130, be_10, be_51, List.getD_cons_zero, List.getD_cons_succ, List.set_cons_zero, List.set_cons_succ, List.length_cons, List.length_nil, pk_I, pk_A, pr_A, pi_I, st_s, st_n, if_true, if_false, eq_self, d_if, d_ju, d_re, d_ca, cat0, cat1, cat2, cat3, fr_z, fr_s, cc_I, cc_A, cc_N, Nat.reduceAdd, Nat.reduceLT, Nat.reduceLeDiff, Nat.reduceEqDiff, not_true, not_false_iff, z1_0, z1_1, Bool.and_self, Bool.true_and, Bool.and_true, nI_add, pk_mul, nI_clamp, decide_true, Nat.le_refl, bI_eq, bI_z1, nI_ltI, nI_leI, pk_sub, hni, e5]
                exact ih v5 f5
              · rename_i hc
                have hc : ¬ (bsS T f p n i).2 < skS T f p i n := hc
                simp only [bs_f hc] at ih
                refine go_at (blk := b_Model_bestStart_115) rfl ?_
                simp (disch := omega) only [b_Model_bestStart_115, be_51, List.getD_cons_zero, List.getD_cons_succ, List.set_cons_zero, List.set_cons_succ, List.length_cons, List.length_nil, pk_I, pk_A, pr_A, pi_I, st_s, st_n, if_true, if_false, eq_self, d_if, d_ju, d_re, d_ca, cat0, cat1, cat2, cat3, fr_z, fr_s, cc_I, cc_A, cc_N, Nat.reduceAdd, Nat.reduceLT, Nat.reduceLeDiff, Nat.reduceEqDiff, not_true, not_false_iff, z1_0, z1_1, Bool.and_self, Bool.true_and, Bool.and_true, nI_add, pk_mul, nI_clamp, decide_true, Nat.le_refl, bI_eq, bI_z1, nI_ltI, nI_leI, pk_sub, hni, e5]
                refine go_at (blk := b_Model_bestStart_130) rfl ?_
                simp (disch := omega) only [b_Model_bestStart_130, be_10, be_51, List.getD_cons_zero, List.getD_cons_succ, List.set_cons_zero, List.set_cons_succ, List.length_cons, List.length_nil, pk_I, pk_A, pr_A, pi_I, st_s, st_n, if_true, if_false, eq_self, d_if, d_ju, d_re, d_ca, cat0, cat1, cat2, cat3, fr_z, fr_s, cc_I, cc_A, cc_N, Nat.reduceAdd, Nat.reduceLT, Nat.reduceLeDiff, Nat.reduceEqDiff, not_true, not_false_iff, z1_0, z1_1, Bool.and_self, Bool.true_and, Bool.and_true, nI_add, pk_mul, nI_clamp, decide_true, Nat.le_refl, bI_eq, bI_z1, nI_ltI, nI_leI, pk_sub, hni, e5]
                exact ih v5 f5
          · intro x i1
            try dsimp only at *
            refine go_at (blk := b_Model_bestStart_52) rfl ?_
            simp (disch := omega) only [b_Model_bestStart_52, be_4, be_49_3, List.getD_cons_zero, List.getD_cons_succ, List.set_cons_zero, List.set_cons_succ, List.length_cons, List.length_nil, pk_I, pk_A, pr_A, pi_I, st_s, st_n, if_true, if_false, eq_self, d_if, d_ju, d_re, d_ca, cat0, cat1, cat2, cat3, fr_z, fr_s, cc_I, cc_A, cc_N, Nat.reduceAdd, Nat.reduceLT, Nat.reduceLeDiff, Nat.reduceEqDiff, not_true, not_false_iff, z1_0, z1_1, Bool.and_self, Bool.true_and, Bool.and_true, nI_add, pk_mul, nI_clamp, decide_true, Nat.le_refl, bI_eq, bI_z1, nI_ltI, nI_leI, pk_sub]
            refine go_at (blk := b_Model_bestStart_136) rfl ?_
            simp (disch := omega) only [b_Model_bestStart_136, be_4, be_50_1, List.getD_cons_zero, List.getD_cons_succ, List.set_cons_zero, List.set_cons_succ, List.length_cons, List.length_nil, pk_I, pk_A, pr_A, pi_I, st_s, st_n, if_true, if_false, eq_self, d_if, d_ju, d_re, d_ca, cat0, cat1, cat2, cat3, fr_z, fr_s, cc_I, cc_A, cc_N, Nat.reduceAdd, Nat.reduceLT, Nat.reduceLeDiff, Nat.reduceEqDiff, not_true, not_false_iff, z1_0, z1_1, Bool.and_self, Bool.true_and, Bool.and_true, nI_add, pk_mul, nI_clamp, decide_true, Nat.le_refl, bI_eq, bI_z1, nI_ltI, nI_leI, pk_sub]
            split
            · rename_i hw
              rw [if_neg hw] at hQ
              refine go_at (blk := b_Model_bestStart_145) rfl ?_
              simp (disch := omega) only [b_Model_bestStart_145, be_4, be_0, List.getD_cons_zero, List.getD_cons_succ, List.set_cons_zero, List.set_cons_succ, List.length_cons, List.length_nil, pk_I, pk_A, pr_A, pi_I, st_s, st_n, if_true, if_false, eq_self, d_if, d_ju, d_re, d_ca, cat0, cat1, cat2, cat3, fr_z, fr_s, cc_I, cc_A, cc_N, Nat.reduceAdd, Nat.reduceLT, Nat.reduceLeDiff, Nat.reduceEqDiff, not_true, not_false_iff, z1_0, z1_1, Bool.and_self, Bool.true_and, Bool.and_true, nI_add, pk_mul, nI_clamp, decide_true, Nat.le_refl, bI_eq, bI_z1, nI_ltI, nI_leI, pk_sub]
              refine go_at (blk := b_Model_bestStart_147) rfl ?_
              simp (disch := omega) only [b_Model_bestStart_147, be_54, List.getD_cons_zero, List.getD_cons_succ, List.set_cons_zero, List.set_cons_succ, List.length_cons, List.length_nil, pk_I, pk_A, pr_A, pi_I, st_s, st_n, if_true, if_false, eq_self, d_if, d_ju, d_re, d_ca, cat0, cat1, cat2, cat3, fr_z, fr_s, cc_I, cc_A, cc_N, Nat.reduceAdd, Nat.reduceLT, Nat.reduceLeDiff, Nat.reduceEqDiff, not_true, not_false_iff, z1_0, z1_1, Bool.and_self, Bool.true_and, Bool.and_true, nI_add, pk_mul, nI_clamp, decide_true, Nat.le_refl, bI_eq, bI_z1, nI_ltI, nI_leI, pk_sub]
              exact hQ x i1
            · rename_i hw
              rw [if_pos (Decidable.not_not.mp hw)] at hQ
              refine go_at (blk := b_Model_bestStart_140) rfl ?_
              simp (disch := omega) only [b_Model_bestStart_140, be_4, be_51, List.getD_cons_zero, List.getD_cons_succ, List.set_cons_zero, List.set_cons_succ, List.length_cons, List.length_nil, pk_I, pk_A, pr_A, pi_I, st_s, st_n, if_true, if_false, eq_self, d_if, d_ju, d_re, d_ca, cat0, cat1, cat2, cat3, fr_z, fr_s, cc_I, cc_A, cc_N, Nat.reduceAdd, Nat.reduceLT, Nat.reduceLeDiff, Nat.reduceEqDiff, not_true, not_false_iff, z1_0, z1_1, Bool.and_self, Bool.true_and, Bool.and_true, nI_add, pk_mul, nI_clamp, decide_true, Nat.le_refl, bI_eq, bI_z1, nI_ltI, nI_leI, pk_sub]
              refine go_at (blk := b_Model_bestStart_147) rfl ?_
              simp (disch := omega) only [b_Model_bestStart_147, be_54, List.getD_cons_zero, List.getD_cons_succ, List.set_cons_zero, List.set_cons_succ, List.length_cons, List.length_nil, pk_I, pk_A, pr_A, pi_I, st_s, st_n, if_true, if_false, eq_self, d_if, d_ju, d_re, d_ca, cat0, cat1, cat2, cat3, fr_z, fr_s, cc_I, cc_A, cc_N, Nat.reduceAdd, Nat.reduceLT, Nat.reduceLeDiff, Nat.reduceEqDiff, not_true, not_false_iff, z1_0, z1_1, Bool.and_self, Bool.true_and, Bool.and_true, nI_add, pk_mul, nI_clamp, decide_true, Nat.le_refl, bI_eq, bI_z1, nI_ltI, nI_leI, pk_sub]
              exact hQ x i1
        · rename_i h2
          have h2 : twoB z = false := by simpa using h2
          refine go_at (blk := b_Model_bestStart_41) rfl ?_
          simp (disch := omega) only [b_Model_bestStart_41, be_2, be_54, List.getD_cons_zero, List.getD_cons_succ, List.set_cons_zero, List.set_cons_succ, List.length_cons, List.length_nil, pk_I, pk_A, pr_A, pi_I, st_s, st_n, if_true, if_false, eq_self, d_if, d_ju, d_re, d_ca, cat0, cat1, cat2, cat3, fr_z, fr_s, cc_I, cc_A, cc_N, Nat.reduceAdd, Nat.reduceLT, Nat.reduceLeDiff, Nat.reduceEqDiff, not_true, not_false_iff, z1_0, z1_1, Bool.and_self, Bool.true_and, Bool.and_true, nI_add, pk_mul, nI_clamp, decide_true, Nat.le_refl, bI_eq, bI_z1, k418]
          unfold bsA at hQ
          rw [if_neg (by rw [h2]; simp)] at hQ
          exact hQ v MF_r
