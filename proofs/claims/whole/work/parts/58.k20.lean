/-! laid by wip/whole/k20.py: the class: its methods: what would be, the rest -/
theorem lim1_of {y : Int32} {m : Nat} (hm : m ≤ 1000) (h0 : ¬ y < nI 1) (h1 : ¬ nI m < y) : ∃ k, 1 ≤ k ∧ k ≤ m ∧ y = nI k ∧ cN y = k := by
  have h2 : ¬ y < 0 := by
    rw [Int32.lt_iff_toInt_lt, show (0 : Int32).toInt = 0 from rfl]
    rw [Int32.lt_iff_toInt_lt, show (nI 1).toInt = 1 from rfl] at h0
    omega
  obtain ⟨j, hj, rfl⟩ := nI_of h2
  refine ⟨j, ?_, ?_, rfl, nI_clamp hj⟩
  · exact Nat.not_lt.mp (fun z => h0 ((nI_ltI hj (by omega)).mpr z))
  · exact Nat.not_lt.mp (fun z => h1 ((nI_ltI (by omega) hj).mpr z))
theorem nd_f {p : Prop} [Decidable p] (h : (!decide p) = true) : ¬ p := by simpa using h
def loA (T : TXT) (f : Nat → Int32) (x : Int32) : Int32 := if (!decide (x < 0) && !decide (nI 300 < x)) = true then loS T f (cN x + 1) else -1
set_option maxHeartbeats 1000000 in
theorem p_lowest {d : Nat} {v : Nat → Nat → Int32} {w : Nat → Nat → Int64} {Q : Option Value → am_H → Prop} {T : TXT} {f : Nat → Int32} {B : Int} (hK : KI B v T f) {x : Int32} (hQ : ∀ v', QF v v' → Q (some (.int (loA T f x))) (428, 26053, KD, RF, v', w)) : am_Ca (d + 6) M_KneeStair_lowest [.ref 0, .int x] (428, 26053, KD, RF, v, w) Q := by
  have h8 := hK.1.1
  refine ca_in (k := k_KneeStair_lowest) (nL := 2) rfl (Nat.le_of_ble_eq_true rfl) ?_
  show am_Go am_X0 _ k_KneeStair_lowest 0 ([.ref 0, .int x], [], _) _
  refine go_at (blk := b_KneeStair_lowest_0) rfl ?_
  simp (disch := omega) only [b_KneeStair_lowest_0, be_4, be_50_2, List.getD_cons_zero, List.getD_cons_succ, List.set_cons_zero, List.set_cons_succ, List.length_cons, List.length_nil, pk_I, pk_A, pr_A, pi_I, st_s, st_n, if_true, if_false, eq_self, d_if, d_ju, d_re, d_ca, cat0, cat1, cat2, cat3, fr_z, fr_s, cc_I, cc_A, cc_N, Nat.reduceAdd, Nat.reduceLT, Nat.reduceLeDiff, Nat.reduceEqDiff, not_true, not_false_iff, z1_0, z1_1, Bool.and_self, Bool.true_and, Bool.and_true, nI_add, pk_mul, nI_clamp, decide_true, Nat.le_refl, bI_eq, bI_z1]
  split
  · rename_i h0
    have h0 : (!decide (x < 0)) = false := by rw [decide_eq_true h0]; rfl
    refine go_at (blk := b_KneeStair_lowest_11) rfl ?_
    simp (disch := omega) only [b_KneeStair_lowest_11, be_2, be_51, List.getD_cons_zero, List.getD_cons_succ, List.set_cons_zero, List.set_cons_succ, List.length_cons, List.length_nil, pk_I, pk_A, pr_A, pi_I, st_s, st_n, if_true, if_false, eq_self, d_if, d_ju, d_re, d_ca, cat0, cat1, cat2, cat3, fr_z, fr_s, cc_I, cc_A, cc_N, Nat.reduceAdd, Nat.reduceLT, Nat.reduceLeDiff, Nat.reduceEqDiff, not_true, not_false_iff, z1_0, z1_1, Bool.and_self, Bool.true_and, Bool.and_true, nI_add, pk_mul, nI_clamp, decide_true, Nat.le_refl, bI_eq, bI_z1]
    refine go_at (blk := b_KneeStair_lowest_23) rfl ?_
    simp (disch := omega) only [b_KneeStair_lowest_23, be_54, List.getD_cons_zero, List.getD_cons_succ, List.set_cons_zero, List.set_cons_succ, List.length_cons, List.length_nil, pk_I, pk_A, pr_A, pi_I, st_s, st_n, if_true, if_false, eq_self, d_if, d_ju, d_re, d_ca, cat0, cat1, cat2, cat3, fr_z, fr_s, cc_I, cc_A, cc_N, Nat.reduceAdd, Nat.reduceLT, Nat.reduceLeDiff, Nat.reduceEqDiff, not_true, not_false_iff, z1_0, z1_1, Bool.and_self, Bool.true_and, Bool.and_true, nI_add, pk_mul, nI_clamp, decide_true, Nat.le_refl, bI_eq, bI_z1]
    unfold loA at hQ
    rw [if_neg (by rw [h0]; simp)] at hQ
    exact hQ v QF_r
  · rename_i h0
    have h0 : (!decide (x < 0)) = true := by rw [decide_eq_false h0]; rfl
    refine go_at (blk := b_KneeStair_lowest_4) rfl ?_
    simp (disch := omega) only [b_KneeStair_lowest_4, be_4, be_1, be_49_5, List.getD_cons_zero, List.getD_cons_succ, List.set_cons_zero, List.set_cons_succ, List.length_cons, List.length_nil, pk_I, pk_A, pr_A, pi_I, st_s, st_n, if_true, if_false, eq_self, d_if, d_ju, d_re, d_ca, cat0, cat1, cat2, cat3, fr_z, fr_s, cc_I, cc_A, cc_N, Nat.reduceAdd, Nat.reduceLT, Nat.reduceLeDiff, Nat.reduceEqDiff, not_true, not_false_iff, z1_0, z1_1, Bool.and_self, Bool.true_and, Bool.and_true, nI_add, pk_mul, nI_clamp, decide_true, Nat.le_refl, bI_eq, bI_z1]
    split
    · rename_i h1
      have h1 : (!decide (nI 300 < x)) = true := by rw [decide_eq_false (Int32.not_lt.mpr h1)]; rfl
      unfold loA at hQ
      rw [if_pos (by rw [h0, h1]; rfl)] at hQ
      obtain ⟨n, hn, rfl, e⟩ := lim_of (m := 300) (by omega) (nd_f h0) (Int32.not_lt.mp (nd_f h1))
      rw [e] at hQ
      refine go_at (blk := b_KneeStair_lowest_15) rfl ?_
      simp (disch := omega) only [b_KneeStair_lowest_15, be_6, be_34, be_4, be_57_1, kc_0, rf_0_7, kc_350, List.getD_cons_zero, List.getD_cons_succ, List.set_cons_zero, List.set_cons_succ, List.length_cons, List.length_nil, pk_I, pk_A, pr_A, pi_I, st_s, st_n, if_true, if_false, eq_self, d_if, d_ju, d_re, d_ca, cat0, cat1, cat2, cat3, fr_z, fr_s, cc_I, cc_A, cc_N, Nat.reduceAdd, Nat.reduceLT, Nat.reduceLeDiff, Nat.reduceEqDiff, not_true, not_false_iff, z1_0, z1_1, Bool.and_self, Bool.true_and, Bool.and_true, nI_add, pk_mul, nI_clamp, decide_true, Nat.le_refl, bI_eq, bI_z1]
      refine k_lowest hK hn ?_
      intro v2 q2
      refine go_at (blk := b_KneeStair_lowest_23) rfl ?_
      simp (disch := omega) only [b_KneeStair_lowest_23, be_54, List.getD_cons_zero, List.getD_cons_succ, List.set_cons_zero, List.set_cons_succ, List.length_cons, List.length_nil, pk_I, pk_A, pr_A, pi_I, st_s, st_n, if_true, if_false, eq_self, d_if, d_ju, d_re, d_ca, cat0, cat1, cat2, cat3, fr_z, fr_s, cc_I, cc_A, cc_N, Nat.reduceAdd, Nat.reduceLT, Nat.reduceLeDiff, Nat.reduceEqDiff, not_true, not_false_iff, z1_0, z1_1, Bool.and_self, Bool.true_and, Bool.and_true, nI_add, pk_mul, nI_clamp, decide_true, Nat.le_refl, bI_eq, bI_z1]
      exact hQ v2 q2
    · rename_i h1
      have h1 : (!decide (nI 300 < x)) = false := by rw [decide_eq_true (Int32.not_le.mp h1)]; rfl
      refine go_at (blk := b_KneeStair_lowest_11) rfl ?_
      simp (disch := omega) only [b_KneeStair_lowest_11, be_2, be_51, List.getD_cons_zero, List.getD_cons_succ, List.set_cons_zero, List.set_cons_succ, List.length_cons, List.length_nil, pk_I, pk_A, pr_A, pi_I, st_s, st_n, if_true, if_false, eq_self, d_if, d_ju, d_re, d_ca, cat0, cat1, cat2, cat3, fr_z, fr_s, cc_I, cc_A, cc_N, Nat.reduceAdd, Nat.reduceLT, Nat.reduceLeDiff, Nat.reduceEqDiff, not_true, not_false_iff, z1_0, z1_1, Bool.and_self, Bool.true_and, Bool.and_true, nI_add, pk_mul, nI_clamp, decide_true, Nat.le_refl, bI_eq, bI_z1]
      refine go_at (blk := b_KneeStair_lowest_23) rfl ?_
      simp (disch := omega) only [b_KneeStair_lowest_23, be_54, List.getD_cons_zero, List.getD_cons_succ, List.set_cons_zero, List.set_cons_succ, List.length_cons, List.length_nil, pk_I, pk_A, pr_A, pi_I, st_s, st_n, if_true, if_false, eq_self, d_if, d_ju, d_re, d_ca, cat0, cat1, cat2, cat3, fr_z, fr_s, cc_I, cc_A, cc_N, Nat.reduceAdd, Nat.reduceLT, Nat.reduceLeDiff, Nat.reduceEqDiff, not_true, not_false_iff, z1_0, z1_1, Bool.and_self, Bool.true_and, Bool.and_true, nI_add, pk_mul, nI_clamp, decide_true, Nat.le_refl, bI_eq, bI_z1]
      unfold loA at hQ
      rw [if_neg (by rw [h1]; simp)] at hQ
      exact hQ v QF_r
def ckA (T : TXT) (f : Nat → Int32) (y x z : Int32) : Int32 := if (!decide (y < nI 1) && !decide (nI 8 < y) && spnB x && twoB z) = true then (match ckS T f (cN y) (cN x) 256 with | none => -2 | some b => if z = 0 then suS (tW T) b (tN T) else nI b) else -1
set_option maxHeartbeats 1000000 in
theorem p_kneelers {d : Nat} {v : Nat → Nat → Int32} {w : Nat → Nat → Int64} {Q : Option Value → am_H → Prop} {T : TXT} {f : Nat → Int32} {B : Int} (hK : KI B v T f) {y x z : Int32} (hQ : ∀ v', QF v v' → Q (some (.int (ckA T f y x z))) (428, 26053, KD, RF, v', w)) : am_Ca (d + 7) M_KneeStair_kneelers [.ref 0, .int y, .int x, .int z] (428, 26053, KD, RF, v, w) Q := by
  have h8 := hK.1.1
  refine ca_in (k := k_KneeStair_kneelers) (nL := 4) rfl (Nat.le_of_ble_eq_true rfl) ?_
  show am_Go am_X0 _ k_KneeStair_kneelers 0 ([.ref 0, .int y, .int x, .int z], [], _) _
  refine go_at (blk := b_KneeStair_kneelers_0) rfl ?_
  simp (disch := omega) only [b_KneeStair_kneelers_0, be_4, be_1, be_49_2, List.getD_cons_zero, List.getD_cons_succ, List.set_cons_zero, List.set_cons_succ, List.length_cons, List.length_nil, pk_I, pk_A, pr_A, pi_I, st_s, st_n, if_true, if_false, eq_self, d_if, d_ju, d_re, d_ca, cat0, cat1, cat2, cat3, fr_z, fr_s, cc_I, cc_A, cc_N, Nat.reduceAdd, Nat.reduceLT, Nat.reduceLeDiff, Nat.reduceEqDiff, not_true, not_false_iff, z1_0, z1_1, Bool.and_self, Bool.true_and, Bool.and_true, nI_add, pk_mul, nI_clamp, decide_true, Nat.le_refl, bI_eq, bI_z1]
  split
  · rename_i h0
    have h0 : (!decide (y < nI 1)) = false := by rw [decide_eq_true h0]; rfl
    refine go_at (blk := b_KneeStair_kneelers_25) rfl ?_
    simp (disch := omega) only [b_KneeStair_kneelers_25, be_2, be_54, List.getD_cons_zero, List.getD_cons_succ, List.set_cons_zero, List.set_cons_succ, List.length_cons, List.length_nil, pk_I, pk_A, pr_A, pi_I, st_s, st_n, if_true, if_false, eq_self, d_if, d_ju, d_re, d_ca, cat0, cat1, cat2, cat3, fr_z, fr_s, cc_I, cc_A, cc_N, Nat.reduceAdd, Nat.reduceLT, Nat.reduceLeDiff, Nat.reduceEqDiff, not_true, not_false_iff, z1_0, z1_1, Bool.and_self, Bool.true_and, Bool.and_true, nI_add, pk_mul, nI_clamp, decide_true, Nat.le_refl, bI_eq, bI_z1]
    unfold ckA at hQ
    rw [if_neg (by rw [h0]; simp)] at hQ
    exact hQ v QF_r
  · rename_i h0
    have h0 : (!decide (y < nI 1)) = true := by rw [decide_eq_false h0]; rfl
    refine go_at (blk := b_KneeStair_kneelers_5) rfl ?_
    simp (disch := omega) only [b_KneeStair_kneelers_5, be_4, be_1, be_49_4, List.getD_cons_zero, List.getD_cons_succ, List.set_cons_zero, List.set_cons_succ, List.length_cons, List.length_nil, pk_I, pk_A, pr_A, pi_I, st_s, st_n, if_true, if_false, eq_self, d_if, d_ju, d_re, d_ca, cat0, cat1, cat2, cat3, fr_z, fr_s, cc_I, cc_A, cc_N, Nat.reduceAdd, Nat.reduceLT, Nat.reduceLeDiff, Nat.reduceEqDiff, not_true, not_false_iff, z1_0, z1_1, Bool.and_self, Bool.true_and, Bool.and_true, nI_add, pk_mul, nI_clamp, decide_true, Nat.le_refl, bI_eq, bI_z1]
    split
    · rename_i h1
      have h1 : (!decide (nI 8 < y)) = false := by rw [decide_eq_true h1]; rfl
      refine go_at (blk := b_KneeStair_kneelers_25) rfl ?_
      simp (disch := omega) only [b_KneeStair_kneelers_25, be_2, be_54, List.getD_cons_zero, List.getD_cons_succ, List.set_cons_zero, List.set_cons_succ, List.length_cons, List.length_nil, pk_I, pk_A, pr_A, pi_I, st_s, st_n, if_true, if_false, eq_self, d_if, d_ju, d_re, d_ca, cat0, cat1, cat2, cat3, fr_z, fr_s, cc_I, cc_A, cc_N, Nat.reduceAdd, Nat.reduceLT, Nat.reduceLeDiff, Nat.reduceEqDiff, not_true, not_false_iff, z1_0, z1_1, Bool.and_self, Bool.true_and, Bool.and_true, nI_add, pk_mul, nI_clamp, decide_true, Nat.le_refl, bI_eq, bI_z1]
      unfold ckA at hQ
      rw [if_neg (by rw [h1]; simp)] at hQ
      exact hQ v QF_r
    · rename_i h1
      have h1 : (!decide (nI 8 < y)) = true := by rw [decide_eq_false h1]; rfl
      refine go_at (blk := b_KneeStair_kneelers_11) rfl ?_
      simp (disch := omega) only [b_KneeStair_kneelers_11, be_4, be_58_1, List.getD_cons_zero, List.getD_cons_succ, List.set_cons_zero, List.set_cons_succ, List.length_cons, List.length_nil, pk_I, pk_A, pr_A, pi_I, st_s, st_n, if_true, if_false, eq_self, d_if, d_ju, d_re, d_ca, cat0, cat1, cat2, cat3, fr_z, fr_s, cc_I, cc_A, cc_N, Nat.reduceAdd, Nat.reduceLT, Nat.reduceLeDiff, Nat.reduceEqDiff, not_true, not_false_iff, z1_0, z1_1, Bool.and_self, Bool.true_and, Bool.and_true, nI_add, pk_mul, nI_clamp, decide_true, Nat.le_refl, bI_eq, bI_z1]
      refine k_isSpan ?_
      refine go_at (blk := b_KneeStair_kneelers_15) rfl ?_
      simp (disch := omega) only [b_KneeStair_kneelers_15, be_50_0, List.getD_cons_zero, List.getD_cons_succ, List.set_cons_zero, List.set_cons_succ, List.length_cons, List.length_nil, pk_I, pk_A, pr_A, pi_I, st_s, st_n, if_true, if_false, eq_self, d_if, d_ju, d_re, d_ca, cat0, cat1, cat2, cat3, fr_z, fr_s, cc_I, cc_A, cc_N, Nat.reduceAdd, Nat.reduceLT, Nat.reduceLeDiff, Nat.reduceEqDiff, not_true, not_false_iff, z1_0, z1_1, Bool.and_self, Bool.true_and, Bool.and_true, nI_add, pk_mul, nI_clamp, decide_true, Nat.le_refl, bI_eq, bI_z1]
      split
      · rename_i h2
        have h2 : spnB x = false := by simpa using h2
        refine go_at (blk := b_KneeStair_kneelers_25) rfl ?_
        simp (disch := omega) only [b_KneeStair_kneelers_25, be_2, be_54, List.getD_cons_zero, List.getD_cons_succ, List.set_cons_zero, List.set_cons_succ, List.length_cons, List.length_nil, pk_I, pk_A, pr_A, pi_I, st_s, st_n, if_true, if_false, eq_self, d_if, d_ju, d_re, d_ca, cat0, cat1, cat2, cat3, fr_z, fr_s, cc_I, cc_A, cc_N, Nat.reduceAdd, Nat.reduceLT, Nat.reduceLeDiff, Nat.reduceEqDiff, not_true, not_false_iff, z1_0, z1_1, Bool.and_self, Bool.true_and, Bool.and_true, nI_add, pk_mul, nI_clamp, decide_true, Nat.le_refl, bI_eq, bI_z1]
        unfold ckA at hQ
        rw [if_neg (by rw [h2]; simp)] at hQ
        exact hQ v QF_r
      · rename_i h2
        have h2 : spnB x = true := by simpa using h2
        refine go_at (blk := b_KneeStair_kneelers_18) rfl ?_
        simp (disch := omega) only [b_KneeStair_kneelers_18, be_4, be_58_1, List.getD_cons_zero, List.getD_cons_succ, List.set_cons_zero, List.set_cons_succ, List.length_cons, List.length_nil, pk_I, pk_A, pr_A, pi_I, st_s, st_n, if_true, if_false, eq_self, d_if, d_ju, d_re, d_ca, cat0, cat1, cat2, cat3, fr_z, fr_s, cc_I, cc_A, cc_N, Nat.reduceAdd, Nat.reduceLT, Nat.reduceLeDiff, Nat.reduceEqDiff, not_true, not_false_iff, z1_0, z1_1, Bool.and_self, Bool.true_and, Bool.and_true, nI_add, pk_mul, nI_clamp, decide_true, Nat.le_refl, bI_eq, bI_z1]
        refine k_isTwo ?_
        refine go_at (blk := b_KneeStair_kneelers_22) rfl ?_
        simp (disch := omega) only [b_KneeStair_kneelers_22, be_50_1, List.getD_cons_zero, List.getD_cons_succ, List.set_cons_zero, List.set_cons_succ, List.length_cons, List.length_nil, pk_I, pk_A, pr_A, pi_I, st_s, st_n, if_true, if_false, eq_self, d_if, d_ju, d_re, d_ca, cat0, cat1, cat2, cat3, fr_z, fr_s, cc_I, cc_A, cc_N, Nat.reduceAdd, Nat.reduceLT, Nat.reduceLeDiff, Nat.reduceEqDiff, not_true, not_false_iff, z1_0, z1_1, Bool.and_self, Bool.true_and, Bool.and_true, nI_add, pk_mul, nI_clamp, decide_true, Nat.le_refl, bI_eq, bI_z1]
        split
        · rename_i h3
          have h3 : twoB z = true := by simpa using h3
          unfold ckA at hQ
          rw [if_pos (by rw [h0, h1, h2, h3]; rfl)] at hQ
          obtain ⟨k, _, hk, rfl, e⟩ := lim1_of (m := 8) (by omega) (nd_f h0) (nd_f h1)
          rw [e] at hQ
          obtain ⟨n, _, hn, rfl, en⟩ := spn_of h2
          rw [en] at hQ
          refine go_at (blk := b_KneeStair_kneelers_27) rfl ?_
          simp (disch := omega) only [b_KneeStair_kneelers_27, be_6, be_34, be_4, be_57_3, kc_0, rf_0_7, kc_350, List.getD_cons_zero, List.getD_cons_succ, List.set_cons_zero, List.set_cons_succ, List.length_cons, List.length_nil, pk_I, pk_A, pr_A, pi_I, st_s, st_n, if_true, if_false, eq_self, d_if, d_ju, d_re, d_ca, cat0, cat1, cat2, cat3, fr_z, fr_s, cc_I, cc_A, cc_N, Nat.reduceAdd, Nat.reduceLT, Nat.reduceLeDiff, Nat.reduceEqDiff, not_true, not_false_iff, z1_0, z1_1, Bool.and_self, Bool.true_and, Bool.and_true, nI_add, pk_mul, nI_clamp, decide_true, Nat.le_refl, bI_eq, bI_z1]
          refine k_cheapest hK hk hn ?_
          intro v2 q2
          refine go_at (blk := b_KneeStair_kneelers_37) rfl ?_
          simp (disch := omega) only [b_KneeStair_kneelers_37, be_54, List.getD_cons_zero, List.getD_cons_succ, List.set_cons_zero, List.set_cons_succ, List.length_cons, List.length_nil, pk_I, pk_A, pr_A, pi_I, st_s, st_n, if_true, if_false, eq_self, d_if, d_ju, d_re, d_ca, cat0, cat1, cat2, cat3, fr_z, fr_s, cc_I, cc_A, cc_N, Nat.reduceAdd, Nat.reduceLT, Nat.reduceLeDiff, Nat.reduceEqDiff, not_true, not_false_iff, z1_0, z1_1, Bool.and_self, Bool.true_and, Bool.and_true, nI_add, pk_mul, nI_clamp, decide_true, Nat.le_refl, bI_eq, bI_z1]
          exact hQ v2 q2
        · rename_i h3
          have h3 : twoB z = false := by simpa using h3
          refine go_at (blk := b_KneeStair_kneelers_25) rfl ?_
          simp (disch := omega) only [b_KneeStair_kneelers_25, be_2, be_54, List.getD_cons_zero, List.getD_cons_succ, List.set_cons_zero, List.set_cons_succ, List.length_cons, List.length_nil, pk_I, pk_A, pr_A, pi_I, st_s, st_n, if_true, if_false, eq_self, d_if, d_ju, d_re, d_ca, cat0, cat1, cat2, cat3, fr_z, fr_s, cc_I, cc_A, cc_N, Nat.reduceAdd, Nat.reduceLT, Nat.reduceLeDiff, Nat.reduceEqDiff, not_true, not_false_iff, z1_0, z1_1, Bool.and_self, Bool.true_and, Bool.and_true, nI_add, pk_mul, nI_clamp, decide_true, Nat.le_refl, bI_eq, bI_z1]
          unfold ckA at hQ
          rw [if_neg (by rw [h3]; simp)] at hQ
          exact hQ v QF_r
def rtA (T : TXT) (f : Nat → Int32) (x z : Int32) : Int32 := if (!decide (x < nI 1) && !decide (nI 100 < x) && !decide (z < -1)) = true then rtS T f (cN x) z 256 0 0 else -1
set_option maxHeartbeats 1000000 in
theorem p_rests {d : Nat} {v : Nat → Nat → Int32} {w : Nat → Nat → Int64} {Q : Option Value → am_H → Prop} {T : TXT} {f : Nat → Int32} {B : Int} (hK : KI B v T f) {x z : Int32} (hQ : ∀ v', QW v v' → Q (some (.int (rtA T f x z))) (428, 26053, KD, RF, v', w)) : am_Ca (d + 7) M_KneeStair_rests [.ref 0, .int x, .int z] (428, 26053, KD, RF, v, w) Q := by
  have h8 := hK.1.1
  refine ca_in (k := k_KneeStair_rests) (nL := 3) rfl (Nat.le_of_ble_eq_true rfl) ?_
  show am_Go am_X0 _ k_KneeStair_rests 0 ([.ref 0, .int x, .int z], [], _) _
  refine go_at (blk := b_KneeStair_rests_0) rfl ?_
  simp (disch := omega) only [b_KneeStair_rests_0, be_4, be_1, be_49_2, List.getD_cons_zero, List.getD_cons_succ, List.set_cons_zero, List.set_cons_succ, List.length_cons, List.length_nil, pk_I, pk_A, pr_A, pi_I, st_s, st_n, if_true, if_false, eq_self, d_if, d_ju, d_re, d_ca, cat0, cat1, cat2, cat3, fr_z, fr_s, cc_I, cc_A, cc_N, Nat.reduceAdd, Nat.reduceLT, Nat.reduceLeDiff, Nat.reduceEqDiff, not_true, not_false_iff, z1_0, z1_1, Bool.and_self, Bool.true_and, Bool.and_true, nI_add, pk_mul, nI_clamp, decide_true, Nat.le_refl, bI_eq, bI_z1]
  split
  · rename_i h0
    have h0 : (!decide (x < nI 1)) = false := by rw [decide_eq_true h0]; rfl
    refine go_at (blk := b_KneeStair_rests_16) rfl ?_
    simp (disch := omega) only [b_KneeStair_rests_16, be_2, be_51, List.getD_cons_zero, List.getD_cons_succ, List.set_cons_zero, List.set_cons_succ, List.length_cons, List.length_nil, pk_I, pk_A, pr_A, pi_I, st_s, st_n, if_true, if_false, eq_self, d_if, d_ju, d_re, d_ca, cat0, cat1, cat2, cat3, fr_z, fr_s, cc_I, cc_A, cc_N, Nat.reduceAdd, Nat.reduceLT, Nat.reduceLeDiff, Nat.reduceEqDiff, not_true, not_false_iff, z1_0, z1_1, Bool.and_self, Bool.true_and, Bool.and_true, nI_add, pk_mul, nI_clamp, decide_true, Nat.le_refl, bI_eq, bI_z1]
    refine go_at (blk := b_KneeStair_rests_29) rfl ?_
    simp (disch := omega) only [b_KneeStair_rests_29, be_54, List.getD_cons_zero, List.getD_cons_succ, List.set_cons_zero, List.set_cons_succ, List.length_cons, List.length_nil, pk_I, pk_A, pr_A, pi_I, st_s, st_n, if_true, if_false, eq_self, d_if, d_ju, d_re, d_ca, cat0, cat1, cat2, cat3, fr_z, fr_s, cc_I, cc_A, cc_N, Nat.reduceAdd, Nat.reduceLT, Nat.reduceLeDiff, Nat.reduceEqDiff, not_true, not_false_iff, z1_0, z1_1, Bool.and_self, Bool.true_and, Bool.and_true, nI_add, pk_mul, nI_clamp, decide_true, Nat.le_refl, bI_eq, bI_z1]
    unfold rtA at hQ
    rw [if_neg (by rw [h0]; simp)] at hQ
    exact hQ v (QW_q QF_r)
  · rename_i h0
    have h0 : (!decide (x < nI 1)) = true := by rw [decide_eq_false h0]; rfl
    refine go_at (blk := b_KneeStair_rests_5) rfl ?_
    simp (disch := omega) only [b_KneeStair_rests_5, be_4, be_1, be_49_4, List.getD_cons_zero, List.getD_cons_succ, List.set_cons_zero, List.set_cons_succ, List.length_cons, List.length_nil, pk_I, pk_A, pr_A, pi_I, st_s, st_n, if_true, if_false, eq_self, d_if, d_ju, d_re, d_ca, cat0, cat1, cat2, cat3, fr_z, fr_s, cc_I, cc_A, cc_N, Nat.reduceAdd, Nat.reduceLT, Nat.reduceLeDiff, Nat.reduceEqDiff, not_true, not_false_iff, z1_0, z1_1, Bool.and_self, Bool.true_and, Bool.and_true, nI_add, pk_mul, nI_clamp, decide_true, Nat.le_refl, bI_eq, bI_z1]
    split
    · rename_i h1
      have h1 : (!decide (nI 100 < x)) = false := by rw [decide_eq_true h1]; rfl
      refine go_at (blk := b_KneeStair_rests_16) rfl ?_
      simp (disch := omega) only [b_KneeStair_rests_16, be_2, be_51, List.getD_cons_zero, List.getD_cons_succ, List.set_cons_zero, List.set_cons_succ, List.length_cons, List.length_nil, pk_I, pk_A, pr_A, pi_I, st_s, st_n, if_true, if_false, eq_self, d_if, d_ju, d_re, d_ca, cat0, cat1, cat2, cat3, fr_z, fr_s, cc_I, cc_A, cc_N, Nat.reduceAdd, Nat.reduceLT, Nat.reduceLeDiff, Nat.reduceEqDiff, not_true, not_false_iff, z1_0, z1_1, Bool.and_self, Bool.true_and, Bool.and_true, nI_add, pk_mul, nI_clamp, decide_true, Nat.le_refl, bI_eq, bI_z1]
      refine go_at (blk := b_KneeStair_rests_29) rfl ?_
      simp (disch := omega) only [b_KneeStair_rests_29, be_54, List.getD_cons_zero, List.getD_cons_succ, List.set_cons_zero, List.set_cons_succ, List.length_cons, List.length_nil, pk_I, pk_A, pr_A, pi_I, st_s, st_n, if_true, if_false, eq_self, d_if, d_ju, d_re, d_ca, cat0, cat1, cat2, cat3, fr_z, fr_s, cc_I, cc_A, cc_N, Nat.reduceAdd, Nat.reduceLT, Nat.reduceLeDiff, Nat.reduceEqDiff, not_true, not_false_iff, z1_0, z1_1, Bool.and_self, Bool.true_and, Bool.and_true, nI_add, pk_mul, nI_clamp, decide_true, Nat.le_refl, bI_eq, bI_z1]
      unfold rtA at hQ
      rw [if_neg (by rw [h1]; simp)] at hQ
      exact hQ v (QW_q QF_r)
    · rename_i h1
      have h1 : (!decide (nI 100 < x)) = true := by rw [decide_eq_false h1]; rfl
      refine go_at (blk := b_KneeStair_rests_11) rfl ?_
      simp (disch := omega) only [b_KneeStair_rests_11, be_4, be_2, be_49_3, List.getD_cons_zero, List.getD_cons_succ, List.set_cons_zero, List.set_cons_succ, List.length_cons, List.length_nil, pk_I, pk_A, pr_A, pi_I, st_s, st_n, if_true, if_false, eq_self, d_if, d_ju, d_re, d_ca, cat0, cat1, cat2, cat3, fr_z, fr_s, cc_I, cc_A, cc_N, Nat.reduceAdd, Nat.reduceLT, Nat.reduceLeDiff, Nat.reduceEqDiff, not_true, not_false_iff, z1_0, z1_1, Bool.and_self, Bool.true_and, Bool.and_true, nI_add, pk_mul, nI_clamp, decide_true, Nat.le_refl, bI_eq, bI_z1]
      split
      · rename_i h2
        have h2 : (!decide (z < -1)) = true := by rw [decide_eq_false (Int32.not_lt.mpr h2)]; rfl
        unfold rtA at hQ
        rw [if_pos (by rw [h0, h1, h2]; rfl)] at hQ
        obtain ⟨n, _, hn, rfl, e⟩ := lim1_of (m := 100) (by omega) (nd_f h0) (nd_f h1)
        rw [e] at hQ
        refine go_at (blk := b_KneeStair_rests_20) rfl ?_
        simp (disch := omega) only [b_KneeStair_rests_20, be_6, be_34, be_4, be_57_2, kc_0, rf_0_7, kc_350, List.getD_cons_zero, List.getD_cons_succ, List.set_cons_zero, List.set_cons_succ, List.length_cons, List.length_nil, pk_I, pk_A, pr_A, pi_I, st_s, st_n, if_true, if_false, eq_self, d_if, d_ju, d_re, d_ca, cat0, cat1, cat2, cat3, fr_z, fr_s, cc_I, cc_A, cc_N, Nat.reduceAdd, Nat.reduceLT, Nat.reduceLeDiff, Nat.reduceEqDiff, not_true, not_false_iff, z1_0, z1_1, Bool.and_self, Bool.true_and, Bool.and_true, nI_add, pk_mul, nI_clamp, decide_true, Nat.le_refl, bI_eq, bI_z1]
        refine k_resting hK (by omega) ?_
        intro v2 q2
        refine go_at (blk := b_KneeStair_rests_29) rfl ?_
        simp (disch := omega) only [b_KneeStair_rests_29, be_54, List.getD_cons_zero, List.getD_cons_succ, List.set_cons_zero, List.set_cons_succ, List.length_cons, List.length_nil, pk_I, pk_A, pr_A, pi_I, st_s, st_n, if_true, if_false, eq_self, d_if, d_ju, d_re, d_ca, cat0, cat1, cat2, cat3, fr_z, fr_s, cc_I, cc_A, cc_N, Nat.reduceAdd, Nat.reduceLT, Nat.reduceLeDiff, Nat.reduceEqDiff, not_true, not_false_iff, z1_0, z1_1, Bool.and_self, Bool.true_and, Bool.and_true, nI_add, pk_mul, nI_clamp, decide_true, Nat.le_refl, bI_eq, bI_z1]
        exact hQ v2 q2
      · rename_i h2
        have h2 : (!decide (z < -1)) = false := by rw [decide_eq_true (Int32.not_le.mp h2)]; rfl
        refine go_at (blk := b_KneeStair_rests_16) rfl ?_
        simp (disch := omega) only [b_KneeStair_rests_16, be_2, be_51, List.getD_cons_zero, List.getD_cons_succ, List.set_cons_zero, List.set_cons_succ, List.length_cons, List.length_nil, pk_I, pk_A, pr_A, pi_I, st_s, st_n, if_true, if_false, eq_self, d_if, d_ju, d_re, d_ca, cat0, cat1, cat2, cat3, fr_z, fr_s, cc_I, cc_A, cc_N, Nat.reduceAdd, Nat.reduceLT, Nat.reduceLeDiff, Nat.reduceEqDiff, not_true, not_false_iff, z1_0, z1_1, Bool.and_self, Bool.true_and, Bool.and_true, nI_add, pk_mul, nI_clamp, decide_true, Nat.le_refl, bI_eq, bI_z1]
        refine go_at (blk := b_KneeStair_rests_29) rfl ?_
        simp (disch := omega) only [b_KneeStair_rests_29, be_54, List.getD_cons_zero, List.getD_cons_succ, List.set_cons_zero, List.set_cons_succ, List.length_cons, List.length_nil, pk_I, pk_A, pr_A, pi_I, st_s, st_n, if_true, if_false, eq_self, d_if, d_ju, d_re, d_ca, cat0, cat1, cat2, cat3, fr_z, fr_s, cc_I, cc_A, cc_N, Nat.reduceAdd, Nat.reduceLT, Nat.reduceLeDiff, Nat.reduceEqDiff, not_true, not_false_iff, z1_0, z1_1, Bool.and_self, Bool.true_and, Bool.and_true, nI_add, pk_mul, nI_clamp, decide_true, Nat.le_refl, bI_eq, bI_z1]
        unfold rtA at hQ
        rw [if_neg (by rw [h2]; simp)] at hQ
        exact hQ v (QW_q QF_r)
def bsA (T : TXT) (f : Nat → Int32) (y x z : Int32) : Int32 := if (pilB (tN T) y && spnB x && twoB z && onB f (-1) (cN y)) = true then (if z = 0 then (bsS T f (cN y) (cN x) (cN x)).1 else (bsS T f (cN y) (cN x) (cN x)).2) else -1
set_option maxHeartbeats 1000000 in
theorem p_bestStart {d : Nat} {v : Nat → Nat → Int32} {w : Nat → Nat → Int64} {Q : Option Value → am_H → Prop} {T : TXT} {f : Nat → Int32} {B : Int} (hK : KI B v T f) {y x z : Int32} (hQ : ∀ v', QF v v' → Q (some (.int (bsA T f y x z))) (428, 26053, KD, RF, v', w)) : am_Ca (d + 7) M_KneeStair_bestStart [.ref 0, .int y, .int x, .int z] (428, 26053, KD, RF, v, w) Q := by
  have h8 := hK.1.1
  refine ca_in (k := k_KneeStair_bestStart) (nL := 4) rfl (Nat.le_of_ble_eq_true rfl) ?_
  show am_Go am_X0 _ k_KneeStair_bestStart 0 ([.ref 0, .int y, .int x, .int z], [], _) _
  refine go_at (blk := b_KneeStair_bestStart_0) rfl ?_
  simp (disch := omega) only [b_KneeStair_bestStart_0, be_6, be_4, be_57_1, kc_0, List.getD_cons_zero, List.getD_cons_succ, List.set_cons_zero, List.set_cons_succ, List.length_cons, List.length_nil, pk_I, pk_A, pr_A, pi_I, st_s, st_n, if_true, if_false, eq_self, d_if, d_ju, d_re, d_ca, cat0, cat1, cat2, cat3, fr_z, fr_s, cc_I, cc_A, cc_N, Nat.reduceAdd, Nat.reduceLT, Nat.reduceLeDiff, Nat.reduceEqDiff, not_true, not_false_iff, z1_0, z1_1, Bool.and_self, Bool.true_and, Bool.and_true, nI_add, pk_mul, nI_clamp, decide_true, Nat.le_refl, bI_eq, bI_z1]
  refine k_isPil hK ?_
  refine go_at (blk := b_KneeStair_bestStart_5) rfl ?_
  simp (disch := omega) only [b_KneeStair_bestStart_5, be_50_0, List.getD_cons_zero, List.getD_cons_succ, List.set_cons_zero, List.set_cons_succ, List.length_cons, List.length_nil, pk_I, pk_A, pr_A, pi_I, st_s, st_n, if_true, if_false, eq_self, d_if, d_ju, d_re, d_ca, cat0, cat1, cat2, cat3, fr_z, fr_s, cc_I, cc_A, cc_N, Nat.reduceAdd, Nat.reduceLT, Nat.reduceLeDiff, Nat.reduceEqDiff, not_true, not_false_iff, z1_0, z1_1, Bool.and_self, Bool.true_and, Bool.and_true, nI_add, pk_mul, nI_clamp, decide_true, Nat.le_refl, bI_eq, bI_z1]
  split
  · rename_i h0
    refine go_at (blk := b_KneeStair_bestStart_33) rfl ?_
    simp (disch := omega) only [b_KneeStair_bestStart_33, be_2, be_54, List.getD_cons_zero, List.getD_cons_succ, List.set_cons_zero, List.set_cons_succ, List.length_cons, List.length_nil, pk_I, pk_A, pr_A, pi_I, st_s, st_n, if_true, if_false, eq_self, d_if, d_ju, d_re, d_ca, cat0, cat1, cat2, cat3, fr_z, fr_s, cc_I, cc_A, cc_N, Nat.reduceAdd, Nat.reduceLT, Nat.reduceLeDiff, Nat.reduceEqDiff, not_true, not_false_iff, z1_0, z1_1, Bool.and_self, Bool.true_and, Bool.and_true, nI_add, pk_mul, nI_clamp, decide_true, Nat.le_refl, bI_eq, bI_z1]
    unfold bsA at hQ
    rw [if_neg (by rw [h0]; simp)] at hQ
    exact hQ v QF_r
  · rename_i h0
    have h0 : pilB (tN T) y = true := by simpa using h0
    refine go_at (blk := b_KneeStair_bestStart_8) rfl ?_
    simp (disch := omega) only [b_KneeStair_bestStart_8, be_4, be_58_1, List.getD_cons_zero, List.getD_cons_succ, List.set_cons_zero, List.set_cons_succ, List.length_cons, List.length_nil, pk_I, pk_A, pr_A, pi_I, st_s, st_n, if_true, if_false, eq_self, d_if, d_ju, d_re, d_ca, cat0, cat1, cat2, cat3, fr_z, fr_s, cc_I, cc_A, cc_N, Nat.reduceAdd, Nat.reduceLT, Nat.reduceLeDiff, Nat.reduceEqDiff, not_true, not_false_iff, z1_0, z1_1, Bool.and_self, Bool.true_and, Bool.and_true, nI_add, pk_mul, nI_clamp, decide_true, Nat.le_refl, bI_eq, bI_z1]
    refine k_isSpan ?_
    refine go_at (blk := b_KneeStair_bestStart_12) rfl ?_
    simp (disch := omega) only [b_KneeStair_bestStart_12, be_50_0, List.getD_cons_zero, List.getD_cons_succ, List.set_cons_zero, List.set_cons_succ, List.length_cons, List.length_nil, pk_I, pk_A, pr_A, pi_I, st_s, st_n, if_true, if_false, eq_self, d_if, d_ju, d_re, d_ca, cat0, cat1, cat2, cat3, fr_z, fr_s, cc_I, cc_A, cc_N, Nat.reduceAdd, Nat.reduceLT, Nat.reduceLeDiff, Nat.reduceEqDiff, not_true, not_false_iff, z1_0, z1_1, Bool.and_self, Bool.true_and, Bool.and_true, nI_add, pk_mul, nI_clamp, decide_true, Nat.le_refl, bI_eq, bI_z1]
    split
    · rename_i h1
      refine go_at (blk := b_KneeStair_bestStart_33) rfl ?_
      simp (disch := omega) only [b_KneeStair_bestStart_33, be_2, be_54, List.getD_cons_zero, List.getD_cons_succ, List.set_cons_zero, List.set_cons_succ, List.length_cons, List.length_nil, pk_I, pk_A, pr_A, pi_I, st_s, st_n, if_true, if_false, eq_self, d_if, d_ju, d_re, d_ca, cat0, cat1, cat2, cat3, fr_z, fr_s, cc_I, cc_A, cc_N, Nat.reduceAdd, Nat.reduceLT, Nat.reduceLeDiff, Nat.reduceEqDiff, not_true, not_false_iff, z1_0, z1_1, Bool.and_self, Bool.true_and, Bool.and_true, nI_add, pk_mul, nI_clamp, decide_true, Nat.le_refl, bI_eq, bI_z1]
      unfold bsA at hQ
      rw [if_neg (by rw [h1]; simp)] at hQ
      exact hQ v QF_r
    · rename_i h1
      have h1 : spnB x = true := by simpa using h1
      refine go_at (blk := b_KneeStair_bestStart_15) rfl ?_
      simp (disch := omega) only [b_KneeStair_bestStart_15, be_4, be_58_1, List.getD_cons_zero, List.getD_cons_succ, List.set_cons_zero, List.set_cons_succ, List.length_cons, List.length_nil, pk_I, pk_A, pr_A, pi_I, st_s, st_n, if_true, if_false, eq_self, d_if, d_ju, d_re, d_ca, cat0, cat1, cat2, cat3, fr_z, fr_s, cc_I, cc_A, cc_N, Nat.reduceAdd, Nat.reduceLT, Nat.reduceLeDiff, Nat.reduceEqDiff, not_true, not_false_iff, z1_0, z1_1, Bool.and_self, Bool.true_and, Bool.and_true, nI_add, pk_mul, nI_clamp, decide_true, Nat.le_refl, bI_eq, bI_z1]
      refine k_isTwo ?_
      refine go_at (blk := b_KneeStair_bestStart_19) rfl ?_
      simp (disch := omega) only [b_KneeStair_bestStart_19, be_50_0, List.getD_cons_zero, List.getD_cons_succ, List.set_cons_zero, List.set_cons_succ, List.length_cons, List.length_nil, pk_I, pk_A, pr_A, pi_I, st_s, st_n, if_true, if_false, eq_self, d_if, d_ju, d_re, d_ca, cat0, cat1, cat2, cat3, fr_z, fr_s, cc_I, cc_A, cc_N, Nat.reduceAdd, Nat.reduceLT, Nat.reduceLeDiff, Nat.reduceEqDiff, not_true, not_false_iff, z1_0, z1_1, Bool.and_self, Bool.true_and, Bool.and_true, nI_add, pk_mul, nI_clamp, decide_true, Nat.le_refl, bI_eq, bI_z1]
      split
      · rename_i h2
        refine go_at (blk := b_KneeStair_bestStart_33) rfl ?_
        simp (disch := omega) only [b_KneeStair_bestStart_33, be_2, be_54, List.getD_cons_zero, List.getD_cons_succ, List.set_cons_zero, List.set_cons_succ, List.length_cons, List.length_nil, pk_I, pk_A, pr_A, pi_I, st_s, st_n, if_true, if_false, eq_self, d_if, d_ju, d_re, d_ca, cat0, cat1, cat2, cat3, fr_z, fr_s, cc_I, cc_A, cc_N, Nat.reduceAdd, Nat.reduceLT, Nat.reduceLeDiff, Nat.reduceEqDiff, not_true, not_false_iff, z1_0, z1_1, Bool.and_self, Bool.true_and, Bool.and_true, nI_add, pk_mul, nI_clamp, decide_true, Nat.le_refl, bI_eq, bI_z1]
        unfold bsA at hQ
        rw [if_neg (by rw [h2]; simp)] at hQ
        exact hQ v QF_r
      · rename_i h2
        have h2 : twoB z = true := by simpa using h2
        obtain ⟨p, hp, rfl, ep⟩ := pil_of h8 h0
        refine go_at (blk := b_KneeStair_bestStart_22) rfl ?_
        simp (disch := omega) only [b_KneeStair_bestStart_22, be_6, be_34, be_4, be_57_1, kc_0, rf_0_5, kc_42, List.getD_cons_zero, List.getD_cons_succ, List.set_cons_zero, List.set_cons_succ, List.length_cons, List.length_nil, pk_I, pk_A, pr_A, pi_I, st_s, st_n, if_true, if_false, eq_self, d_if, d_ju, d_re, d_ca, cat0, cat1, cat2, cat3, fr_z, fr_s, cc_I, cc_A, cc_N, Nat.reduceAdd, Nat.reduceLT, Nat.reduceLeDiff, Nat.reduceEqDiff, not_true, not_false_iff, z1_0, z1_1, Bool.and_self, Bool.true_and, Bool.and_true, nI_add, pk_mul, nI_clamp, decide_true, Nat.le_refl, bI_eq, bI_z1]
        refine kf_nowOn hK hp ?_
        refine go_at (blk := b_KneeStair_bestStart_30) rfl ?_
        simp (disch := omega) only [b_KneeStair_bestStart_30, be_50_1, List.getD_cons_zero, List.getD_cons_succ, List.set_cons_zero, List.set_cons_succ, List.length_cons, List.length_nil, pk_I, pk_A, pr_A, pi_I, st_s, st_n, if_true, if_false, eq_self, d_if, d_ju, d_re, d_ca, cat0, cat1, cat2, cat3, fr_z, fr_s, cc_I, cc_A, cc_N, Nat.reduceAdd, Nat.reduceLT, Nat.reduceLeDiff, Nat.reduceEqDiff, not_true, not_false_iff, z1_0, z1_1, Bool.and_self, Bool.true_and, Bool.and_true, nI_add, pk_mul, nI_clamp, decide_true, Nat.le_refl, bI_eq, bI_z1]
        split
        · rename_i h3
          have h3 : onB f (-1) (cN (nI p)) = true := by rw [ep]; simpa using h3
          unfold bsA at hQ
          rw [if_pos (by rw [h0, h1, h2, h3]; rfl)] at hQ
          obtain ⟨n, _, hn, rfl, en⟩ := spn_of h1
          rw [ep, en] at hQ
          refine go_at (blk := b_KneeStair_bestStart_35) rfl ?_
          simp (disch := omega) only [b_KneeStair_bestStart_35, be_6, be_34, be_4, be_57_3, kc_0, rf_0_7, kc_350, List.getD_cons_zero, List.getD_cons_succ, List.set_cons_zero, List.set_cons_succ, List.length_cons, List.length_nil, pk_I, pk_A, pr_A, pi_I, st_s, st_n, if_true, if_false, eq_self, d_if, d_ju, d_re, d_ca, cat0, cat1, cat2, cat3, fr_z, fr_s, cc_I, cc_A, cc_N, Nat.reduceAdd, Nat.reduceLT, Nat.reduceLeDiff, Nat.reduceEqDiff, not_true, not_false_iff, z1_0, z1_1, Bool.and_self, Bool.true_and, Bool.and_true, nI_add, pk_mul, nI_clamp, decide_true, Nat.le_refl, bI_eq, bI_z1]
          refine k_bestStart hK hp hn ?_
          intro v2 q2
          refine go_at (blk := b_KneeStair_bestStart_45) rfl ?_
          simp (disch := omega) only [b_KneeStair_bestStart_45, be_54, List.getD_cons_zero, List.getD_cons_succ, List.set_cons_zero, List.set_cons_succ, List.length_cons, List.length_nil, pk_I, pk_A, pr_A, pi_I, st_s, st_n, if_true, if_false, eq_self, d_if, d_ju, d_re, d_ca, cat0, cat1, cat2, cat3, fr_z, fr_s, cc_I, cc_A, cc_N, Nat.reduceAdd, Nat.reduceLT, Nat.reduceLeDiff, Nat.reduceEqDiff, not_true, not_false_iff, z1_0, z1_1, Bool.and_self, Bool.true_and, Bool.and_true, nI_add, pk_mul, nI_clamp, decide_true, Nat.le_refl, bI_eq, bI_z1]
          exact hQ v2 q2
        · rename_i h3
          have h3 : onB f (-1) (cN (nI p)) = false := by rw [ep]; simpa using h3
          refine go_at (blk := b_KneeStair_bestStart_33) rfl ?_
          simp (disch := omega) only [b_KneeStair_bestStart_33, be_2, be_54, List.getD_cons_zero, List.getD_cons_succ, List.set_cons_zero, List.set_cons_succ, List.length_cons, List.length_nil, pk_I, pk_A, pr_A, pi_I, st_s, st_n, if_true, if_false, eq_self, d_if, d_ju, d_re, d_ca, cat0, cat1, cat2, cat3, fr_z, fr_s, cc_I, cc_A, cc_N, Nat.reduceAdd, Nat.reduceLT, Nat.reduceLeDiff, Nat.reduceEqDiff, not_true, not_false_iff, z1_0, z1_1, Bool.and_self, Bool.true_and, Bool.and_true, nI_add, pk_mul, nI_clamp, decide_true, Nat.le_refl, bI_eq, bI_z1]
          unfold bsA at hQ
          rw [if_neg (by rw [h3]; simp)] at hQ
          exact hQ v QF_r
