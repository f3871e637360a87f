/-! laid by wip/whole/k22.py: the class: pilgrim, rank -/
theorem swp_0 : am_swt 0 147 [60, 70, 88, 98, 108, 118, 127, 137] (nI 0) = 60 := by decide
theorem swp_1 : am_swt 0 147 [60, 70, 88, 98, 108, 118, 127, 137] (nI 1) = 70 := by decide
theorem swp_2 : am_swt 0 147 [60, 70, 88, 98, 108, 118, 127, 137] (nI 2) = 88 := by decide
theorem swp_3 : am_swt 0 147 [60, 70, 88, 98, 108, 118, 127, 137] (nI 3) = 98 := by decide
theorem swp_4 : am_swt 0 147 [60, 70, 88, 98, 108, 118, 127, 137] (nI 4) = 108 := by decide
theorem swp_5 : am_swt 0 147 [60, 70, 88, 98, 108, 118, 127, 137] (nI 5) = 118 := by decide
theorem swp_6 : am_swt 0 147 [60, 70, 88, 98, 108, 118, 127, 137] (nI 6) = 127 := by decide
theorem swp_7 : am_swt 0 147 [60, 70, 88, 98, 108, 118, 127, 137] (nI 7) = 137 := by decide
theorem swp_d {z : Int32} (h : ¬ (0 ≤ z.toInt ∧ z.toInt < 8)) : am_swt 0 147 [60, 70, 88, 98, 108, 118, 127, 137] z = 147 := by
  unfold am_swt
  rw [if_pos ?_]
  simp
  omega
theorem sw_of {z : Int32} {m : Nat} (hm : m ≤ 1000) (h : 0 ≤ z.toInt ∧ z.toInt < m) : ∃ k, k < m ∧ z = nI k := by
  have h0 : ¬ z < 0 := by
    rw [Int32.lt_iff_toInt_lt, show (0 : Int32).toInt = 0 from rfl]
    omega
  obtain ⟨j, hj, rfl⟩ := nI_of h0
  rw [nI_toInt hj] at h
  exact ⟨j, by omega, rfl⟩
/-- what is asked of one -/
def plS (T : TXT) (f : Nat → Int32) (p : Nat) (z : Int32) : Int32 := if z = nI 0 then f p else if z = nI 1 then f (8 + p) else if z = nI 2 then f (16 + p) else if z = nI 3 then f (24 + p) else if z = nI 4 then (if f (32 + p) = -1 then -2 else f (32 + p)) else if z = nI 5 then hsT T (-1) 0 f p else if z = nI 6 then tK T p else if z = nI 7 then tW T p else -10000
def plA (T : TXT) (f : Nat → Int32) (y z : Int32) : Int32 := if pilB (tN T) y = true then plS T f (cN y) z else -10000
theorem pl_d {T : TXT} {f : Nat → Int32} {p : Nat} {z : Int32} (h : ¬ (0 ≤ z.toInt ∧ z.toInt < 8)) : plS T f p z = -10000 := by
  have hz : ∀ k, k < 8 → ¬ z = nI k := by
    intro k hk e
    rw [e, nI_toInt (by omega)] at h
    omega
  unfold plS
  rw [if_neg (hz 0 (by omega)), if_neg (hz 1 (by omega)), if_neg (hz 2 (by omega)), if_neg (hz 3 (by omega)), if_neg (hz 4 (by omega)), if_neg (hz 5 (by omega)), if_neg (hz 6 (by omega)), if_neg (hz 7 (by omega))]
set_option maxHeartbeats 1000000 in
theorem p_pilgrim {d : Nat} {v : Nat → Nat → Int32} {w : Nat → Nat → Int64} {Q : Option Value → am_H → Prop} {T : TXT} {f : Nat → Int32} {B : Int} (hK : KI B v T f) {y z : Int32} (hQ : ∀ v', QF v v' → Q (some (.int (plA T f y z))) (428, 26053, KD, RF, v', w)) : am_Ca (d + 4) M_KneeStair_pilgrim [.ref 0, .int y, .int z] (428, 26053, KD, RF, v, w) Q := by
  have h8 := hK.1.1
  have k1 := hK.1.2.1
  refine ca_in (k := k_KneeStair_pilgrim) (nL := 3) rfl (Nat.le_of_ble_eq_true rfl) ?_
  show am_Go am_X0 _ k_KneeStair_pilgrim 0 ([.ref 0, .int y, .int z], [], _) _
  refine go_at (blk := b_KneeStair_pilgrim_0) rfl ?_
  simp (disch := omega) only [b_KneeStair_pilgrim_0, be_6, be_4, be_57_1, kc_0, List.getD_cons_zero, List.getD_cons_succ, List.set_cons_zero, List.set_cons_succ, List.length_cons, List.length_nil, pk_I, pk_A, pr_A, pi_I, st_s, st_n, if_true, if_false, eq_self, d_if, d_ju, d_re, d_ca, cat0, cat1, cat2, cat3, fr_z, fr_s, cc_I, cc_A, cc_N, Nat.reduceAdd, Nat.reduceLT, Nat.reduceLeDiff, Nat.reduceEqDiff, not_true, not_false_iff, z1_0, z1_1, Bool.and_self, Bool.true_and, Bool.and_true, nI_add, pk_mul, nI_clamp, decide_true, Nat.le_refl, bI_eq, bI_z1]
  refine k_isPil hK ?_
  refine go_at (blk := b_KneeStair_pilgrim_5) rfl ?_
  simp (disch := omega) only [b_KneeStair_pilgrim_5, be_50_1, List.getD_cons_zero, List.getD_cons_succ, List.set_cons_zero, List.set_cons_succ, List.length_cons, List.length_nil, pk_I, pk_A, pr_A, pi_I, st_s, st_n, if_true, if_false, eq_self, d_if, d_ju, d_re, d_ca, cat0, cat1, cat2, cat3, fr_z, fr_s, cc_I, cc_A, cc_N, Nat.reduceAdd, Nat.reduceLT, Nat.reduceLeDiff, Nat.reduceEqDiff, not_true, not_false_iff, z1_0, z1_1, Bool.and_self, Bool.true_and, Bool.and_true, nI_add, pk_mul, nI_clamp, decide_true, Nat.le_refl, bI_eq, bI_z1]
  split
  · rename_i hb
    have hb : pilB (tN T) y = true := by simpa using hb
    unfold plA at hQ
    rw [if_pos hb] at hQ
    obtain ⟨p, hp, rfl, e⟩ := pil_of h8 hb
    rw [e] at hQ
    obtain ⟨e1, e2, e3, e4, e5⟩ := (hK.2.1.1 p hp).1 (nI_m (by omega))
    have b1 : v 43 p = f p := e1
    have b2 : v 44 p = f (8 + p) := e2
    have b3 : v 45 p = f (16 + p) := e3
    have b4 : v 46 p = f (24 + p) := e4
    have b5 : v 47 p = (if f (32 + p) = -1 then -2 else f (32 + p)) := e5
    obtain ⟨_, t2, _, _, t5, _⟩ := hK.1.2.2.2.2.1 p hp
    have g01 := (hK.2.2.1.1 p hp).1
    by_cases hz : 0 ≤ z.toInt ∧ z.toInt < 8
    · obtain ⟨k, hk, rfl⟩ := sw_of (m := 8) (by omega) hz
      rcases (show k = 0 ∨ k = 1 ∨ k = 2 ∨ k = 3 ∨ k = 4 ∨ k = 5 ∨ k = 6 ∨ k = 7 by omega) with rfl | rfl | rfl | rfl | rfl | rfl | rfl | rfl
      · show am_Go am_X0 _ k_KneeStair_pilgrim 12 _ _
        refine go_at (blk := b_KneeStair_pilgrim_12) rfl ?_
        simp (disch := omega) only [b_KneeStair_pilgrim_12, be_4, be_52, List.getD_cons_zero, List.getD_cons_succ, List.set_cons_zero, List.set_cons_succ, List.length_cons, List.length_nil, pk_I, pk_A, pr_A, pi_I, st_s, st_n, if_true, if_false, eq_self, d_if, d_ju, d_re, d_ca, cat0, cat1, cat2, cat3, fr_z, fr_s, cc_I, cc_A, cc_N, Nat.reduceAdd, Nat.reduceLT, Nat.reduceLeDiff, Nat.reduceEqDiff, not_true, not_false_iff, z1_0, z1_1, Bool.and_self, Bool.true_and, Bool.and_true, nI_add, pk_mul, nI_clamp, decide_true, Nat.le_refl, bI_eq, bI_z1, b1, swp_0]
        refine go_at (blk := b_KneeStair_pilgrim_60) rfl ?_
        simp (disch := omega) only [b_KneeStair_pilgrim_60, be_6, be_34, be_4, be_38, be_54, kc_0, rf_0_5, kc_42, rf_42_1, ka_43, List.getD_cons_zero, List.getD_cons_succ, List.set_cons_zero, List.set_cons_succ, List.length_cons, List.length_nil, pk_I, pk_A, pr_A, pi_I, st_s, st_n, if_true, if_false, eq_self, d_if, d_ju, d_re, d_ca, cat0, cat1, cat2, cat3, fr_z, fr_s, cc_I, cc_A, cc_N, Nat.reduceAdd, Nat.reduceLT, Nat.reduceLeDiff, Nat.reduceEqDiff, not_true, not_false_iff, z1_0, z1_1, Bool.and_self, Bool.true_and, Bool.and_true, nI_add, pk_mul, nI_clamp, decide_true, Nat.le_refl, bI_eq, bI_z1, b1, swp_0]
        exact hQ v QF_r
      · show am_Go am_X0 _ k_KneeStair_pilgrim 12 _ _
        refine go_at (blk := b_KneeStair_pilgrim_12) rfl ?_
        simp (disch := omega) only [b_KneeStair_pilgrim_12, be_4, be_52, List.getD_cons_zero, List.getD_cons_succ, List.set_cons_zero, List.set_cons_succ, List.length_cons, List.length_nil, pk_I, pk_A, pr_A, pi_I, st_s, st_n, if_true, if_false, eq_self, d_if, d_ju, d_re, d_ca, cat0, cat1, cat2, cat3, fr_z, fr_s, cc_I, cc_A, cc_N, Nat.reduceAdd, Nat.reduceLT, Nat.reduceLeDiff, Nat.reduceEqDiff, not_true, not_false_iff, z1_0, z1_1, Bool.and_self, Bool.true_and, Bool.and_true, nI_add, pk_mul, nI_clamp, decide_true, Nat.le_refl, bI_eq, bI_z1, b2, swp_1]
        refine go_at (blk := b_KneeStair_pilgrim_70) rfl ?_
        simp (disch := omega) only [b_KneeStair_pilgrim_70, be_6, be_34, be_4, be_40, be_50_0, kc_0, rf_0_5, kc_42, rf_42_2, ka_44, List.getD_cons_zero, List.getD_cons_succ, List.set_cons_zero, List.set_cons_succ, List.length_cons, List.length_nil, pk_I, pk_A, pr_A, pi_I, st_s, st_n, if_true, if_false, eq_self, d_if, d_ju, d_re, d_ca, cat0, cat1, cat2, cat3, fr_z, fr_s, cc_I, cc_A, cc_N, Nat.reduceAdd, Nat.reduceLT, Nat.reduceLeDiff, Nat.reduceEqDiff, not_true, not_false_iff, z1_0, z1_1, Bool.and_self, Bool.true_and, Bool.and_true, nI_add, pk_mul, nI_clamp, decide_true, Nat.le_refl, bI_eq, bI_z1, b2, swp_1]
        split
        · rename_i hc
          refine go_at (blk := b_KneeStair_pilgrim_86) rfl ?_
          simp (disch := omega) only [b_KneeStair_pilgrim_86, be_1, be_0, List.getD_cons_zero, List.getD_cons_succ, List.set_cons_zero, List.set_cons_succ, List.length_cons, List.length_nil, pk_I, pk_A, pr_A, pi_I, st_s, st_n, if_true, if_false, eq_self, d_if, d_ju, d_re, d_ca, cat0, cat1, cat2, cat3, fr_z, fr_s, cc_I, cc_A, cc_N, Nat.reduceAdd, Nat.reduceLT, Nat.reduceLeDiff, Nat.reduceEqDiff, not_true, not_false_iff, z1_0, z1_1, Bool.and_self, Bool.true_and, Bool.and_true, nI_add, pk_mul, nI_clamp, decide_true, Nat.le_refl, bI_eq, bI_z1, b2, swp_1]
          refine go_at (blk := b_KneeStair_pilgrim_87) rfl ?_
          simp (disch := omega) only [b_KneeStair_pilgrim_87, be_54, List.getD_cons_zero, List.getD_cons_succ, List.set_cons_zero, List.set_cons_succ, List.length_cons, List.length_nil, pk_I, pk_A, pr_A, pi_I, st_s, st_n, if_true, if_false, eq_self, d_if, d_ju, d_re, d_ca, cat0, cat1, cat2, cat3, fr_z, fr_s, cc_I, cc_A, cc_N, Nat.reduceAdd, Nat.reduceLT, Nat.reduceLeDiff, Nat.reduceEqDiff, not_true, not_false_iff, z1_0, z1_1, Bool.and_self, Bool.true_and, Bool.and_true, nI_add, pk_mul, nI_clamp, decide_true, Nat.le_refl, bI_eq, bI_z1, b2, swp_1]
          have hr : plS T f p (nI 1) = nI 0 := hc
          rw [hr] at hQ
          exact hQ v QF_r
        · rename_i hc
          refine go_at (blk := b_KneeStair_pilgrim_82) rfl ?_
          simp (disch := omega) only [b_KneeStair_pilgrim_82, be_1, be_51, List.getD_cons_zero, List.getD_cons_succ, List.set_cons_zero, List.set_cons_succ, List.length_cons, List.length_nil, pk_I, pk_A, pr_A, pi_I, st_s, st_n, if_true, if_false, eq_self, d_if, d_ju, d_re, d_ca, cat0, cat1, cat2, cat3, fr_z, fr_s, cc_I, cc_A, cc_N, Nat.reduceAdd, Nat.reduceLT, Nat.reduceLeDiff, Nat.reduceEqDiff, not_true, not_false_iff, z1_0, z1_1, Bool.and_self, Bool.true_and, Bool.and_true, nI_add, pk_mul, nI_clamp, decide_true, Nat.le_refl, bI_eq, bI_z1, b2, swp_1]
          refine go_at (blk := b_KneeStair_pilgrim_87) rfl ?_
          simp (disch := omega) only [b_KneeStair_pilgrim_87, be_54, List.getD_cons_zero, List.getD_cons_succ, List.set_cons_zero, List.set_cons_succ, List.length_cons, List.length_nil, pk_I, pk_A, pr_A, pi_I, st_s, st_n, if_true, if_false, eq_self, d_if, d_ju, d_re, d_ca, cat0, cat1, cat2, cat3, fr_z, fr_s, cc_I, cc_A, cc_N, Nat.reduceAdd, Nat.reduceLT, Nat.reduceLeDiff, Nat.reduceEqDiff, not_true, not_false_iff, z1_0, z1_1, Bool.and_self, Bool.true_and, Bool.and_true, nI_add, pk_mul, nI_clamp, decide_true, Nat.le_refl, bI_eq, bI_z1, b2, swp_1]
          have hr : plS T f p (nI 1) = nI 1 := g01.resolve_left hc
          rw [hr] at hQ
          exact hQ v QF_r
      · show am_Go am_X0 _ k_KneeStair_pilgrim 12 _ _
        refine go_at (blk := b_KneeStair_pilgrim_12) rfl ?_
        simp (disch := omega) only [b_KneeStair_pilgrim_12, be_4, be_52, List.getD_cons_zero, List.getD_cons_succ, List.set_cons_zero, List.set_cons_succ, List.length_cons, List.length_nil, pk_I, pk_A, pr_A, pi_I, st_s, st_n, if_true, if_false, eq_self, d_if, d_ju, d_re, d_ca, cat0, cat1, cat2, cat3, fr_z, fr_s, cc_I, cc_A, cc_N, Nat.reduceAdd, Nat.reduceLT, Nat.reduceLeDiff, Nat.reduceEqDiff, not_true, not_false_iff, z1_0, z1_1, Bool.and_self, Bool.true_and, Bool.and_true, nI_add, pk_mul, nI_clamp, decide_true, Nat.le_refl, bI_eq, bI_z1, b3, swp_2]
        refine go_at (blk := b_KneeStair_pilgrim_88) rfl ?_
        simp (disch := omega) only [b_KneeStair_pilgrim_88, be_6, be_34, be_4, be_38, be_54, kc_0, rf_0_5, kc_42, rf_42_3, ka_45, List.getD_cons_zero, List.getD_cons_succ, List.set_cons_zero, List.set_cons_succ, List.length_cons, List.length_nil, pk_I, pk_A, pr_A, pi_I, st_s, st_n, if_true, if_false, eq_self, d_if, d_ju, d_re, d_ca, cat0, cat1, cat2, cat3, fr_z, fr_s, cc_I, cc_A, cc_N, Nat.reduceAdd, Nat.reduceLT, Nat.reduceLeDiff, Nat.reduceEqDiff, not_true, not_false_iff, z1_0, z1_1, Bool.and_self, Bool.true_and, Bool.and_true, nI_add, pk_mul, nI_clamp, decide_true, Nat.le_refl, bI_eq, bI_z1, b3, swp_2]
        exact hQ v QF_r
      · show am_Go am_X0 _ k_KneeStair_pilgrim 12 _ _
        refine go_at (blk := b_KneeStair_pilgrim_12) rfl ?_
        simp (disch := omega) only [b_KneeStair_pilgrim_12, be_4, be_52, List.getD_cons_zero, List.getD_cons_succ, List.set_cons_zero, List.set_cons_succ, List.length_cons, List.length_nil, pk_I, pk_A, pr_A, pi_I, st_s, st_n, if_true, if_false, eq_self, d_if, d_ju, d_re, d_ca, cat0, cat1, cat2, cat3, fr_z, fr_s, cc_I, cc_A, cc_N, Nat.reduceAdd, Nat.reduceLT, Nat.reduceLeDiff, Nat.reduceEqDiff, not_true, not_false_iff, z1_0, z1_1, Bool.and_self, Bool.true_and, Bool.and_true, nI_add, pk_mul, nI_clamp, decide_true, Nat.le_refl, bI_eq, bI_z1, b4, swp_3]
        refine go_at (blk := b_KneeStair_pilgrim_98) rfl ?_
        simp (disch := omega) only [b_KneeStair_pilgrim_98, be_6, be_34, be_4, be_38, be_54, kc_0, rf_0_5, kc_42, rf_42_4, ka_46, List.getD_cons_zero, List.getD_cons_succ, List.set_cons_zero, List.set_cons_succ, List.length_cons, List.length_nil, pk_I, pk_A, pr_A, pi_I, st_s, st_n, if_true, if_false, eq_self, d_if, d_ju, d_re, d_ca, cat0, cat1, cat2, cat3, fr_z, fr_s, cc_I, cc_A, cc_N, Nat.reduceAdd, Nat.reduceLT, Nat.reduceLeDiff, Nat.reduceEqDiff, not_true, not_false_iff, z1_0, z1_1, Bool.and_self, Bool.true_and, Bool.and_true, nI_add, pk_mul, nI_clamp, decide_true, Nat.le_refl, bI_eq, bI_z1, b4, swp_3]
        exact hQ v QF_r
      · show am_Go am_X0 _ k_KneeStair_pilgrim 12 _ _
        refine go_at (blk := b_KneeStair_pilgrim_12) rfl ?_
        simp (disch := omega) only [b_KneeStair_pilgrim_12, be_4, be_52, List.getD_cons_zero, List.getD_cons_succ, List.set_cons_zero, List.set_cons_succ, List.length_cons, List.length_nil, pk_I, pk_A, pr_A, pi_I, st_s, st_n, if_true, if_false, eq_self, d_if, d_ju, d_re, d_ca, cat0, cat1, cat2, cat3, fr_z, fr_s, cc_I, cc_A, cc_N, Nat.reduceAdd, Nat.reduceLT, Nat.reduceLeDiff, Nat.reduceEqDiff, not_true, not_false_iff, z1_0, z1_1, Bool.and_self, Bool.true_and, Bool.and_true, nI_add, pk_mul, nI_clamp, decide_true, Nat.le_refl, bI_eq, bI_z1, b5, swp_4]
        refine go_at (blk := b_KneeStair_pilgrim_108) rfl ?_
        simp (disch := omega) only [b_KneeStair_pilgrim_108, be_6, be_34, be_4, be_38, be_54, kc_0, rf_0_5, kc_42, rf_42_5, ka_47, List.getD_cons_zero, List.getD_cons_succ, List.set_cons_zero, List.set_cons_succ, List.length_cons, List.length_nil, pk_I, pk_A, pr_A, pi_I, st_s, st_n, if_true, if_false, eq_self, d_if, d_ju, d_re, d_ca, cat0, cat1, cat2, cat3, fr_z, fr_s, cc_I, cc_A, cc_N, Nat.reduceAdd, Nat.reduceLT, Nat.reduceLeDiff, Nat.reduceEqDiff, not_true, not_false_iff, z1_0, z1_1, Bool.and_self, Bool.true_and, Bool.and_true, nI_add, pk_mul, nI_clamp, decide_true, Nat.le_refl, bI_eq, bI_z1, b5, swp_4]
        exact hQ v QF_r
      · show am_Go am_X0 _ k_KneeStair_pilgrim 12 _ _
        refine go_at (blk := b_KneeStair_pilgrim_12) rfl ?_
        simp (disch := omega) only [b_KneeStair_pilgrim_12, be_4, be_52, List.getD_cons_zero, List.getD_cons_succ, List.set_cons_zero, List.set_cons_succ, List.length_cons, List.length_nil, pk_I, pk_A, pr_A, pi_I, st_s, st_n, if_true, if_false, eq_self, d_if, d_ju, d_re, d_ca, cat0, cat1, cat2, cat3, fr_z, fr_s, cc_I, cc_A, cc_N, Nat.reduceAdd, Nat.reduceLT, Nat.reduceLeDiff, Nat.reduceEqDiff, not_true, not_false_iff, z1_0, z1_1, Bool.and_self, Bool.true_and, Bool.and_true, nI_add, pk_mul, nI_clamp, decide_true, Nat.le_refl, bI_eq, bI_z1, swp_5]
        refine go_at (blk := b_KneeStair_pilgrim_118) rfl ?_
        simp (disch := omega) only [b_KneeStair_pilgrim_118, be_6, be_34, be_4, be_57_1, kc_0, rf_0_5, kc_42, List.getD_cons_zero, List.getD_cons_succ, List.set_cons_zero, List.set_cons_succ, List.length_cons, List.length_nil, pk_I, pk_A, pr_A, pi_I, st_s, st_n, if_true, if_false, eq_self, d_if, d_ju, d_re, d_ca, cat0, cat1, cat2, cat3, fr_z, fr_s, cc_I, cc_A, cc_N, Nat.reduceAdd, Nat.reduceLT, Nat.reduceLeDiff, Nat.reduceEqDiff, not_true, not_false_iff, z1_0, z1_1, Bool.and_self, Bool.true_and, Bool.and_true, nI_add, pk_mul, nI_clamp, decide_true, Nat.le_refl, bI_eq, bI_z1, swp_5]
        refine k_hasNow st_42 hK.1 hK.2.1 hK.2.2.1 hp (nI_m (by omega)) ?_
        intro v2 q2
        refine go_at (blk := b_KneeStair_pilgrim_126) rfl ?_
        simp (disch := omega) only [b_KneeStair_pilgrim_126, be_54, List.getD_cons_zero, List.getD_cons_succ, List.set_cons_zero, List.set_cons_succ, List.length_cons, List.length_nil, pk_I, pk_A, pr_A, pi_I, st_s, st_n, if_true, if_false, eq_self, d_if, d_ju, d_re, d_ca, cat0, cat1, cat2, cat3, fr_z, fr_s, cc_I, cc_A, cc_N, Nat.reduceAdd, Nat.reduceLT, Nat.reduceLeDiff, Nat.reduceEqDiff, not_true, not_false_iff, z1_0, z1_1, Bool.and_self, Bool.true_and, Bool.and_true, nI_add, pk_mul, nI_clamp, decide_true, Nat.le_refl, bI_eq, bI_z1, swp_5]
        exact hQ v2 (QF_h q2)
      · show am_Go am_X0 _ k_KneeStair_pilgrim 12 _ _
        refine go_at (blk := b_KneeStair_pilgrim_12) rfl ?_
        simp (disch := omega) only [b_KneeStair_pilgrim_12, be_4, be_52, List.getD_cons_zero, List.getD_cons_succ, List.set_cons_zero, List.set_cons_succ, List.length_cons, List.length_nil, pk_I, pk_A, pr_A, pi_I, st_s, st_n, if_true, if_false, eq_self, d_if, d_ju, d_re, d_ca, cat0, cat1, cat2, cat3, fr_z, fr_s, cc_I, cc_A, cc_N, Nat.reduceAdd, Nat.reduceLT, Nat.reduceLeDiff, Nat.reduceEqDiff, not_true, not_false_iff, z1_0, z1_1, Bool.and_self, Bool.true_and, Bool.and_true, nI_add, pk_mul, nI_clamp, decide_true, Nat.le_refl, bI_eq, bI_z1, t2, swp_6]
        refine go_at (blk := b_KneeStair_pilgrim_127) rfl ?_
        simp (disch := omega) only [b_KneeStair_pilgrim_127, be_6, be_34, be_4, be_38, be_54, kc_0, rf_0_4, kc_25, rf_25_4, ka_27, List.getD_cons_zero, List.getD_cons_succ, List.set_cons_zero, List.set_cons_succ, List.length_cons, List.length_nil, pk_I, pk_A, pr_A, pi_I, st_s, st_n, if_true, if_false, eq_self, d_if, d_ju, d_re, d_ca, cat0, cat1, cat2, cat3, fr_z, fr_s, cc_I, cc_A, cc_N, Nat.reduceAdd, Nat.reduceLT, Nat.reduceLeDiff, Nat.reduceEqDiff, not_true, not_false_iff, z1_0, z1_1, Bool.and_self, Bool.true_and, Bool.and_true, nI_add, pk_mul, nI_clamp, decide_true, Nat.le_refl, bI_eq, bI_z1, t2, swp_6]
        exact hQ v QF_r
      · show am_Go am_X0 _ k_KneeStair_pilgrim 12 _ _
        refine go_at (blk := b_KneeStair_pilgrim_12) rfl ?_
        simp (disch := omega) only [b_KneeStair_pilgrim_12, be_4, be_52, List.getD_cons_zero, List.getD_cons_succ, List.set_cons_zero, List.set_cons_succ, List.length_cons, List.length_nil, pk_I, pk_A, pr_A, pi_I, st_s, st_n, if_true, if_false, eq_self, d_if, d_ju, d_re, d_ca, cat0, cat1, cat2, cat3, fr_z, fr_s, cc_I, cc_A, cc_N, Nat.reduceAdd, Nat.reduceLT, Nat.reduceLeDiff, Nat.reduceEqDiff, not_true, not_false_iff, z1_0, z1_1, Bool.and_self, Bool.true_and, Bool.and_true, nI_add, pk_mul, nI_clamp, decide_true, Nat.le_refl, bI_eq, bI_z1, t5, swp_7]
        refine go_at (blk := b_KneeStair_pilgrim_137) rfl ?_
        simp (disch := omega) only [b_KneeStair_pilgrim_137, be_6, be_34, be_4, be_38, be_54, kc_0, rf_0_4, kc_25, rf_25_7, ka_30, List.getD_cons_zero, List.getD_cons_succ, List.set_cons_zero, List.set_cons_succ, List.length_cons, List.length_nil, pk_I, pk_A, pr_A, pi_I, st_s, st_n, if_true, if_false, eq_self, d_if, d_ju, d_re, d_ca, cat0, cat1, cat2, cat3, fr_z, fr_s, cc_I, cc_A, cc_N, Nat.reduceAdd, Nat.reduceLT, Nat.reduceLeDiff, Nat.reduceEqDiff, not_true, not_false_iff, z1_0, z1_1, Bool.and_self, Bool.true_and, Bool.and_true, nI_add, pk_mul, nI_clamp, decide_true, Nat.le_refl, bI_eq, bI_z1, t5, swp_7]
        exact hQ v QF_r
    · have hsw := swp_d hz
      refine go_at (blk := b_KneeStair_pilgrim_12) rfl ?_
      simp (disch := omega) only [b_KneeStair_pilgrim_12, be_4, be_52, List.getD_cons_zero, List.getD_cons_succ, List.set_cons_zero, List.set_cons_succ, List.length_cons, List.length_nil, pk_I, pk_A, pr_A, pi_I, st_s, st_n, if_true, if_false, eq_self, d_if, d_ju, d_re, d_ca, cat0, cat1, cat2, cat3, fr_z, fr_s, cc_I, cc_A, cc_N, Nat.reduceAdd, Nat.reduceLT, Nat.reduceLeDiff, Nat.reduceEqDiff, not_true, not_false_iff, z1_0, z1_1, Bool.and_self, Bool.true_and, Bool.and_true, nI_add, pk_mul, nI_clamp, decide_true, Nat.le_refl, bI_eq, bI_z1, hsw]
      refine go_at (blk := b_KneeStair_pilgrim_147) rfl ?_
      simp (disch := omega) only [b_KneeStair_pilgrim_147, be_2, be_54, List.getD_cons_zero, List.getD_cons_succ, List.set_cons_zero, List.set_cons_succ, List.length_cons, List.length_nil, pk_I, pk_A, pr_A, pi_I, st_s, st_n, if_true, if_false, eq_self, d_if, d_ju, d_re, d_ca, cat0, cat1, cat2, cat3, fr_z, fr_s, cc_I, cc_A, cc_N, Nat.reduceAdd, Nat.reduceLT, Nat.reduceLeDiff, Nat.reduceEqDiff, not_true, not_false_iff, z1_0, z1_1, Bool.and_self, Bool.true_and, Bool.and_true, nI_add, pk_mul, nI_clamp, decide_true, Nat.le_refl, bI_eq, bI_z1, hsw]
      rw [pl_d hz] at hQ
      exact hQ v QF_r
  · rename_i hb
    refine go_at (blk := b_KneeStair_pilgrim_8) rfl ?_
    simp (disch := omega) only [b_KneeStair_pilgrim_8, be_2, be_54, List.getD_cons_zero, List.getD_cons_succ, List.set_cons_zero, List.set_cons_succ, List.length_cons, List.length_nil, pk_I, pk_A, pr_A, pi_I, st_s, st_n, if_true, if_false, eq_self, d_if, d_ju, d_re, d_ca, cat0, cat1, cat2, cat3, fr_z, fr_s, cc_I, cc_A, cc_N, Nat.reduceAdd, Nat.reduceLT, Nat.reduceLeDiff, Nat.reduceEqDiff, not_true, not_false_iff, z1_0, z1_1, Bool.and_self, Bool.true_and, Bool.and_true, nI_add, pk_mul, nI_clamp, decide_true, Nat.le_refl, bI_eq, bI_z1]
    unfold plA at hQ
    rw [if_neg (by have hb := hb; rw [show pilB (tN T) y = false by simpa using hb]; decide)] at hQ
    exact hQ v QF_r
