/-! laid by wip/whole/k18.py: the class: its methods: what would be -/
def pilB (n : Nat) (y : Int32) : Bool := !decide (y < 0) && decide (y < nI n)
def spnB (y : Int32) : Bool := !decide (y < nI 1) && !decide (nI 300 < y)
def twoB (y : Int32) : Bool := decide (y = 0) || decide (y = nI 1)
def cN (y : Int32) : Nat := y.toNatClampNeg
theorem pil_of {n : Nat} {y : Int32} (hn : n ≤ 8) (h : pilB n y = true) : ∃ p, p < n ∧ y = nI p ∧ cN y = p := by
  unfold pilB at h
  simp at h
  obtain ⟨j, hj, rfl⟩ := nI_of (by rw [Int32.not_lt]; exact h.1)
  refine ⟨j, (nI_ltI hj (by omega)).mp h.2, rfl, nI_clamp hj⟩
theorem spn_of {y : Int32} (h : spnB y = true) : ∃ k, 1 ≤ k ∧ k ≤ 300 ∧ y = nI k ∧ cN y = k := by
  unfold spnB at h
  simp at h
  have h0 : ¬ y < 0 := by
    rw [Int32.lt_iff_toInt_lt, show (0 : Int32).toInt = 0 from rfl]
    have := h.1
    rw [Int32.le_iff_toInt_le, show (nI 1).toInt = 1 from rfl] at this
    omega
  obtain ⟨j, hj, rfl⟩ := nI_of h0
  exact ⟨j, (nI_leI (by omega) hj).mp h.1, (nI_leI hj (by omega)).mp h.2, rfl, nI_clamp hj⟩
theorem lim_of {y : Int32} {m : Nat} (hm : m ≤ 1000) (h0 : ¬ y < 0) (h1 : y ≤ nI m) : ∃ k, k ≤ m ∧ y = nI k ∧ cN y = k := by
  obtain ⟨j, hj, rfl⟩ := nI_of h0
  exact ⟨j, (nI_leI hj (by omega)).mp h1, rfl, nI_clamp hj⟩
set_option maxHeartbeats 1000000 in
theorem k_isPil {d : Nat} {v : Nat → Nat → Int32} {w : Nat → Nat → Int64} {Q : Option Value → am_H → Prop} {T : TXT} {f : Nat → Int32} {B : Int} (hK : KI B v T f) {y : Int32} (hQ : Q (some (.int (bI (pilB (tN T) y)))) (428, 26053, KD, RF, v, w)) : am_Ca (d + 1) M_KneeStair_isPilgrim [.ref 0, .int y] (428, 26053, KD, RF, v, w) Q := by
  have k1 := hK.1.2.1
  refine ca_in (k := k_KneeStair_isPilgrim) (nL := 2) rfl (Nat.le_of_ble_eq_true rfl) ?_
  show am_Go am_X0 _ k_KneeStair_isPilgrim 0 ([.ref 0, .int y], [], _) _
  refine go_at (blk := b_KneeStair_isPilgrim_0) rfl ?_
  simp (disch := omega) only [b_KneeStair_isPilgrim_0, be_4, be_50_2, List.getD_cons_zero, List.getD_cons_succ, List.set_cons_zero, List.set_cons_succ, List.length_cons, List.length_nil, pk_I, pk_A, pr_A, pi_I, st_s, st_n, if_true, if_false, eq_self, d_if, d_ju, d_re, d_ca, cat0, cat1, cat2, cat3, fr_z, fr_s, cc_I, cc_A, cc_N, Nat.reduceAdd, Nat.reduceLT, Nat.reduceLeDiff, Nat.reduceEqDiff, not_true, not_false_iff, z1_0, z1_1, Bool.and_self, Bool.true_and, Bool.and_true, nI_add, pk_mul, nI_clamp, decide_true, Nat.le_refl, bI_eq, bI_z1, k1]
  split
  · rename_i h0
    refine go_at (blk := b_KneeStair_isPilgrim_19) rfl ?_
    simp (disch := omega) only [b_KneeStair_isPilgrim_19, be_1, be_0, List.getD_cons_zero, List.getD_cons_succ, List.set_cons_zero, List.set_cons_succ, List.length_cons, List.length_nil, pk_I, pk_A, pr_A, pi_I, st_s, st_n, if_true, if_false, eq_self, d_if, d_ju, d_re, d_ca, cat0, cat1, cat2, cat3, fr_z, fr_s, cc_I, cc_A, cc_N, Nat.reduceAdd, Nat.reduceLT, Nat.reduceLeDiff, Nat.reduceEqDiff, not_true, not_false_iff, z1_0, z1_1, Bool.and_self, Bool.true_and, Bool.and_true, nI_add, pk_mul, nI_clamp, decide_true, Nat.le_refl, bI_eq, bI_z1, k1]
    refine go_at (blk := b_KneeStair_isPilgrim_20) rfl ?_
    simp (disch := omega) only [b_KneeStair_isPilgrim_20, be_73, List.getD_cons_zero, List.getD_cons_succ, List.set_cons_zero, List.set_cons_succ, List.length_cons, List.length_nil, pk_I, pk_A, pr_A, pi_I, st_s, st_n, if_true, if_false, eq_self, d_if, d_ju, d_re, d_ca, cat0, cat1, cat2, cat3, fr_z, fr_s, cc_I, cc_A, cc_N, Nat.reduceAdd, Nat.reduceLT, Nat.reduceLeDiff, Nat.reduceEqDiff, not_true, not_false_iff, z1_0, z1_1, Bool.and_self, Bool.true_and, Bool.and_true, nI_add, pk_mul, nI_clamp, decide_true, Nat.le_refl, bI_eq, bI_z1, k1]
    rw [show pilB (tN T) y = false by unfold pilB; rw [decide_eq_true h0]; rfl] at hQ
    exact hQ
  · rename_i h0
    refine go_at (blk := b_KneeStair_isPilgrim_4) rfl ?_
    simp (disch := omega) only [b_KneeStair_isPilgrim_4, be_4, be_6, be_34, be_33, be_49_3, kc_0, rf_0_4, kc_25, List.getD_cons_zero, List.getD_cons_succ, List.set_cons_zero, List.set_cons_succ, List.length_cons, List.length_nil, pk_I, pk_A, pr_A, pi_I, st_s, st_n, if_true, if_false, eq_self, d_if, d_ju, d_re, d_ca, cat0, cat1, cat2, cat3, fr_z, fr_s, cc_I, cc_A, cc_N, Nat.reduceAdd, Nat.reduceLT, Nat.reduceLeDiff, Nat.reduceEqDiff, not_true, not_false_iff, z1_0, z1_1, Bool.and_self, Bool.true_and, Bool.and_true, nI_add, pk_mul, nI_clamp, decide_true, Nat.le_refl, bI_eq, bI_z1, k1]
    split
    · rename_i h1
      refine go_at (blk := b_KneeStair_isPilgrim_19) rfl ?_
      simp (disch := omega) only [b_KneeStair_isPilgrim_19, be_1, be_0, List.getD_cons_zero, List.getD_cons_succ, List.set_cons_zero, List.set_cons_succ, List.length_cons, List.length_nil, pk_I, pk_A, pr_A, pi_I, st_s, st_n, if_true, if_false, eq_self, d_if, d_ju, d_re, d_ca, cat0, cat1, cat2, cat3, fr_z, fr_s, cc_I, cc_A, cc_N, Nat.reduceAdd, Nat.reduceLT, Nat.reduceLeDiff, Nat.reduceEqDiff, not_true, not_false_iff, z1_0, z1_1, Bool.and_self, Bool.true_and, Bool.and_true, nI_add, pk_mul, nI_clamp, decide_true, Nat.le_refl, bI_eq, bI_z1, k1]
      refine go_at (blk := b_KneeStair_isPilgrim_20) rfl ?_
      simp (disch := omega) only [b_KneeStair_isPilgrim_20, be_73, List.getD_cons_zero, List.getD_cons_succ, List.set_cons_zero, List.set_cons_succ, List.length_cons, List.length_nil, pk_I, pk_A, pr_A, pi_I, st_s, st_n, if_true, if_false, eq_self, d_if, d_ju, d_re, d_ca, cat0, cat1, cat2, cat3, fr_z, fr_s, cc_I, cc_A, cc_N, Nat.reduceAdd, Nat.reduceLT, Nat.reduceLeDiff, Nat.reduceEqDiff, not_true, not_false_iff, z1_0, z1_1, Bool.and_self, Bool.true_and, Bool.and_true, nI_add, pk_mul, nI_clamp, decide_true, Nat.le_refl, bI_eq, bI_z1, k1]
      rw [show pilB (tN T) y = false by unfold pilB; rw [decide_eq_false (p := y < nI (tN T)) (Int32.not_lt.mpr h1)]; simp] at hQ
      exact hQ
    · rename_i h1
      refine go_at (blk := b_KneeStair_isPilgrim_15) rfl ?_
      simp (disch := omega) only [b_KneeStair_isPilgrim_15, be_1, be_51, List.getD_cons_zero, List.getD_cons_succ, List.set_cons_zero, List.set_cons_succ, List.length_cons, List.length_nil, pk_I, pk_A, pr_A, pi_I, st_s, st_n, if_true, if_false, eq_self, d_if, d_ju, d_re, d_ca, cat0, cat1, cat2, cat3, fr_z, fr_s, cc_I, cc_A, cc_N, Nat.reduceAdd, Nat.reduceLT, Nat.reduceLeDiff, Nat.reduceEqDiff, not_true, not_false_iff, z1_0, z1_1, Bool.and_self, Bool.true_and, Bool.and_true, nI_add, pk_mul, nI_clamp, decide_true, Nat.le_refl, bI_eq, bI_z1, k1]
      refine go_at (blk := b_KneeStair_isPilgrim_20) rfl ?_
      simp (disch := omega) only [b_KneeStair_isPilgrim_20, be_73, List.getD_cons_zero, List.getD_cons_succ, List.set_cons_zero, List.set_cons_succ, List.length_cons, List.length_nil, pk_I, pk_A, pr_A, pi_I, st_s, st_n, if_true, if_false, eq_self, d_if, d_ju, d_re, d_ca, cat0, cat1, cat2, cat3, fr_z, fr_s, cc_I, cc_A, cc_N, Nat.reduceAdd, Nat.reduceLT, Nat.reduceLeDiff, Nat.reduceEqDiff, not_true, not_false_iff, z1_0, z1_1, Bool.and_self, Bool.true_and, Bool.and_true, nI_add, pk_mul, nI_clamp, decide_true, Nat.le_refl, bI_eq, bI_z1, k1]
      rw [show pilB (tN T) y = true by unfold pilB; rw [decide_eq_false h0, decide_eq_true (p := y < nI (tN T)) (Int32.not_le.mp h1)]; rfl] at hQ
      exact hQ
theorem k_isSpan {d : Nat} {y : Int32} {h : am_H} {Q : Option Value → am_H → Prop} (hQ : Q (some (.int (bI (spnB y)))) h) : am_Ca (d + 1) M_KneeStair_isSpan [.int y] h Q := by
  refine ca_in (k := k_KneeStair_isSpan) (nL := 1) rfl (Nat.le_of_ble_eq_true rfl) ?_
  show am_Go am_X0 _ k_KneeStair_isSpan 0 ([.int y], [], _) _
  refine go_at (blk := b_KneeStair_isSpan_0) rfl ?_
  simp (disch := omega) only [b_KneeStair_isSpan_0, be_4, be_1, be_49_2, List.getD_cons_zero, List.getD_cons_succ, List.set_cons_zero, List.set_cons_succ, List.length_cons, List.length_nil, pk_I, pk_A, pr_A, pi_I, st_s, st_n, if_true, if_false, eq_self, d_if, d_ju, d_re, d_ca, cat0, cat1, cat2, cat3, fr_z, fr_s, cc_I, cc_A, cc_N, Nat.reduceAdd, Nat.reduceLT, Nat.reduceLeDiff, Nat.reduceEqDiff, not_true, not_false_iff, z1_0, z1_1, Bool.and_self, Bool.true_and, Bool.and_true, nI_add, pk_mul, nI_clamp, decide_true, Nat.le_refl, bI_eq, bI_z1]
  split
  · rename_i h0
    refine go_at (blk := b_KneeStair_isSpan_16) rfl ?_
    simp (disch := omega) only [b_KneeStair_isSpan_16, be_1, be_0, List.getD_cons_zero, List.getD_cons_succ, List.set_cons_zero, List.set_cons_succ, List.length_cons, List.length_nil, pk_I, pk_A, pr_A, pi_I, st_s, st_n, if_true, if_false, eq_self, d_if, d_ju, d_re, d_ca, cat0, cat1, cat2, cat3, fr_z, fr_s, cc_I, cc_A, cc_N, Nat.reduceAdd, Nat.reduceLT, Nat.reduceLeDiff, Nat.reduceEqDiff, not_true, not_false_iff, z1_0, z1_1, Bool.and_self, Bool.true_and, Bool.and_true, nI_add, pk_mul, nI_clamp, decide_true, Nat.le_refl, bI_eq, bI_z1]
    refine go_at (blk := b_KneeStair_isSpan_17) rfl ?_
    simp (disch := omega) only [b_KneeStair_isSpan_17, be_73, List.getD_cons_zero, List.getD_cons_succ, List.set_cons_zero, List.set_cons_succ, List.length_cons, List.length_nil, pk_I, pk_A, pr_A, pi_I, st_s, st_n, if_true, if_false, eq_self, d_if, d_ju, d_re, d_ca, cat0, cat1, cat2, cat3, fr_z, fr_s, cc_I, cc_A, cc_N, Nat.reduceAdd, Nat.reduceLT, Nat.reduceLeDiff, Nat.reduceEqDiff, not_true, not_false_iff, z1_0, z1_1, Bool.and_self, Bool.true_and, Bool.and_true, nI_add, pk_mul, nI_clamp, decide_true, Nat.le_refl, bI_eq, bI_z1]
    rw [show spnB y = false by unfold spnB; rw [decide_eq_true h0]; rfl] at hQ
    exact hQ
  · rename_i h0
    refine go_at (blk := b_KneeStair_isSpan_5) rfl ?_
    simp (disch := omega) only [b_KneeStair_isSpan_5, be_4, be_1, be_49_4, List.getD_cons_zero, List.getD_cons_succ, List.set_cons_zero, List.set_cons_succ, List.length_cons, List.length_nil, pk_I, pk_A, pr_A, pi_I, st_s, st_n, if_true, if_false, eq_self, d_if, d_ju, d_re, d_ca, cat0, cat1, cat2, cat3, fr_z, fr_s, cc_I, cc_A, cc_N, Nat.reduceAdd, Nat.reduceLT, Nat.reduceLeDiff, Nat.reduceEqDiff, not_true, not_false_iff, z1_0, z1_1, Bool.and_self, Bool.true_and, Bool.and_true, nI_add, pk_mul, nI_clamp, decide_true, Nat.le_refl, bI_eq, bI_z1]
    split
    · rename_i h1
      refine go_at (blk := b_KneeStair_isSpan_16) rfl ?_
      simp (disch := omega) only [b_KneeStair_isSpan_16, be_1, be_0, List.getD_cons_zero, List.getD_cons_succ, List.set_cons_zero, List.set_cons_succ, List.length_cons, List.length_nil, pk_I, pk_A, pr_A, pi_I, st_s, st_n, if_true, if_false, eq_self, d_if, d_ju, d_re, d_ca, cat0, cat1, cat2, cat3, fr_z, fr_s, cc_I, cc_A, cc_N, Nat.reduceAdd, Nat.reduceLT, Nat.reduceLeDiff, Nat.reduceEqDiff, not_true, not_false_iff, z1_0, z1_1, Bool.and_self, Bool.true_and, Bool.and_true, nI_add, pk_mul, nI_clamp, decide_true, Nat.le_refl, bI_eq, bI_z1]
      refine go_at (blk := b_KneeStair_isSpan_17) rfl ?_
      simp (disch := omega) only [b_KneeStair_isSpan_17, be_73, List.getD_cons_zero, List.getD_cons_succ, List.set_cons_zero, List.set_cons_succ, List.length_cons, List.length_nil, pk_I, pk_A, pr_A, pi_I, st_s, st_n, if_true, if_false, eq_self, d_if, d_ju, d_re, d_ca, cat0, cat1, cat2, cat3, fr_z, fr_s, cc_I, cc_A, cc_N, Nat.reduceAdd, Nat.reduceLT, Nat.reduceLeDiff, Nat.reduceEqDiff, not_true, not_false_iff, z1_0, z1_1, Bool.and_self, Bool.true_and, Bool.and_true, nI_add, pk_mul, nI_clamp, decide_true, Nat.le_refl, bI_eq, bI_z1]
      rw [show spnB y = false by unfold spnB; rw [decide_eq_true h1]; simp] at hQ
      exact hQ
    · rename_i h1
      refine go_at (blk := b_KneeStair_isSpan_12) rfl ?_
      simp (disch := omega) only [b_KneeStair_isSpan_12, be_1, be_51, List.getD_cons_zero, List.getD_cons_succ, List.set_cons_zero, List.set_cons_succ, List.length_cons, List.length_nil, pk_I, pk_A, pr_A, pi_I, st_s, st_n, if_true, if_false, eq_self, d_if, d_ju, d_re, d_ca, cat0, cat1, cat2, cat3, fr_z, fr_s, cc_I, cc_A, cc_N, Nat.reduceAdd, Nat.reduceLT, Nat.reduceLeDiff, Nat.reduceEqDiff, not_true, not_false_iff, z1_0, z1_1, Bool.and_self, Bool.true_and, Bool.and_true, nI_add, pk_mul, nI_clamp, decide_true, Nat.le_refl, bI_eq, bI_z1]
      refine go_at (blk := b_KneeStair_isSpan_17) rfl ?_
      simp (disch := omega) only [b_KneeStair_isSpan_17, be_73, List.getD_cons_zero, List.getD_cons_succ, List.set_cons_zero, List.set_cons_succ, List.length_cons, List.length_nil, pk_I, pk_A, pr_A, pi_I, st_s, st_n, if_true, if_false, eq_self, d_if, d_ju, d_re, d_ca, cat0, cat1, cat2, cat3, fr_z, fr_s, cc_I, cc_A, cc_N, Nat.reduceAdd, Nat.reduceLT, Nat.reduceLeDiff, Nat.reduceEqDiff, not_true, not_false_iff, z1_0, z1_1, Bool.and_self, Bool.true_and, Bool.and_true, nI_add, pk_mul, nI_clamp, decide_true, Nat.le_refl, bI_eq, bI_z1]
      rw [show spnB y = true by unfold spnB; rw [decide_eq_false h0, decide_eq_false h1]; rfl] at hQ
      exact hQ
theorem k_isTwo {d : Nat} {y : Int32} {h : am_H} {Q : Option Value → am_H → Prop} (hQ : Q (some (.int (bI (twoB y)))) h) : am_Ca (d + 1) M_KneeStair_isOneOfTwo [.int y] h Q := by
  refine ca_in (k := k_KneeStair_isOneOfTwo) (nL := 1) rfl (Nat.le_of_ble_eq_true rfl) ?_
  show am_Go am_X0 _ k_KneeStair_isOneOfTwo 0 ([.int y], [], _) _
  refine go_at (blk := b_KneeStair_isOneOfTwo_0) rfl ?_
  simp (disch := omega) only [b_KneeStair_isOneOfTwo_0, be_4, be_50_0, List.getD_cons_zero, List.getD_cons_succ, List.set_cons_zero, List.set_cons_succ, List.length_cons, List.length_nil, pk_I, pk_A, pr_A, pi_I, st_s, st_n, if_true, if_false, eq_self, d_if, d_ju, d_re, d_ca, cat0, cat1, cat2, cat3, fr_z, fr_s, cc_I, cc_A, cc_N, Nat.reduceAdd, Nat.reduceLT, Nat.reduceLeDiff, Nat.reduceEqDiff, not_true, not_false_iff, z1_0, z1_1, Bool.and_self, Bool.true_and, Bool.and_true, nI_add, pk_mul, nI_clamp, decide_true, Nat.le_refl, bI_eq, bI_z1]
  split
  · rename_i h0
    refine go_at (blk := b_KneeStair_isOneOfTwo_9) rfl ?_
    simp (disch := omega) only [b_KneeStair_isOneOfTwo_9, be_1, be_51, List.getD_cons_zero, List.getD_cons_succ, List.set_cons_zero, List.set_cons_succ, List.length_cons, List.length_nil, pk_I, pk_A, pr_A, pi_I, st_s, st_n, if_true, if_false, eq_self, d_if, d_ju, d_re, d_ca, cat0, cat1, cat2, cat3, fr_z, fr_s, cc_I, cc_A, cc_N, Nat.reduceAdd, Nat.reduceLT, Nat.reduceLeDiff, Nat.reduceEqDiff, not_true, not_false_iff, z1_0, z1_1, Bool.and_self, Bool.true_and, Bool.and_true, nI_add, pk_mul, nI_clamp, decide_true, Nat.le_refl, bI_eq, bI_z1]
    refine go_at (blk := b_KneeStair_isOneOfTwo_14) rfl ?_
    simp (disch := omega) only [b_KneeStair_isOneOfTwo_14, be_73, List.getD_cons_zero, List.getD_cons_succ, List.set_cons_zero, List.set_cons_succ, List.length_cons, List.length_nil, pk_I, pk_A, pr_A, pi_I, st_s, st_n, if_true, if_false, eq_self, d_if, d_ju, d_re, d_ca, cat0, cat1, cat2, cat3, fr_z, fr_s, cc_I, cc_A, cc_N, Nat.reduceAdd, Nat.reduceLT, Nat.reduceLeDiff, Nat.reduceEqDiff, not_true, not_false_iff, z1_0, z1_1, Bool.and_self, Bool.true_and, Bool.and_true, nI_add, pk_mul, nI_clamp, decide_true, Nat.le_refl, bI_eq, bI_z1]
    rw [show twoB y = true by unfold twoB; rw [decide_eq_true h0]; rfl] at hQ
    exact hQ
  · rename_i h0
    refine go_at (blk := b_KneeStair_isOneOfTwo_4) rfl ?_
    simp (disch := omega) only [b_KneeStair_isOneOfTwo_4, be_4, be_1, be_49_1, List.getD_cons_zero, List.getD_cons_succ, List.set_cons_zero, List.set_cons_succ, List.length_cons, List.length_nil, pk_I, pk_A, pr_A, pi_I, st_s, st_n, if_true, if_false, eq_self, d_if, d_ju, d_re, d_ca, cat0, cat1, cat2, cat3, fr_z, fr_s, cc_I, cc_A, cc_N, Nat.reduceAdd, Nat.reduceLT, Nat.reduceLeDiff, Nat.reduceEqDiff, not_true, not_false_iff, z1_0, z1_1, Bool.and_self, Bool.true_and, Bool.and_true, nI_add, pk_mul, nI_clamp, decide_true, Nat.le_refl, bI_eq, bI_z1]
    split
    · rename_i h1
      refine go_at (blk := b_KneeStair_isOneOfTwo_13) rfl ?_
      simp (disch := omega) only [b_KneeStair_isOneOfTwo_13, be_1, be_0, List.getD_cons_zero, List.getD_cons_succ, List.set_cons_zero, List.set_cons_succ, List.length_cons, List.length_nil, pk_I, pk_A, pr_A, pi_I, st_s, st_n, if_true, if_false, eq_self, d_if, d_ju, d_re, d_ca, cat0, cat1, cat2, cat3, fr_z, fr_s, cc_I, cc_A, cc_N, Nat.reduceAdd, Nat.reduceLT, Nat.reduceLeDiff, Nat.reduceEqDiff, not_true, not_false_iff, z1_0, z1_1, Bool.and_self, Bool.true_and, Bool.and_true, nI_add, pk_mul, nI_clamp, decide_true, Nat.le_refl, bI_eq, bI_z1]
      refine go_at (blk := b_KneeStair_isOneOfTwo_14) rfl ?_
      simp (disch := omega) only [b_KneeStair_isOneOfTwo_14, be_73, List.getD_cons_zero, List.getD_cons_succ, List.set_cons_zero, List.set_cons_succ, List.length_cons, List.length_nil, pk_I, pk_A, pr_A, pi_I, st_s, st_n, if_true, if_false, eq_self, d_if, d_ju, d_re, d_ca, cat0, cat1, cat2, cat3, fr_z, fr_s, cc_I, cc_A, cc_N, Nat.reduceAdd, Nat.reduceLT, Nat.reduceLeDiff, Nat.reduceEqDiff, not_true, not_false_iff, z1_0, z1_1, Bool.and_self, Bool.true_and, Bool.and_true, nI_add, pk_mul, nI_clamp, decide_true, Nat.le_refl, bI_eq, bI_z1]
      rw [show twoB y = false by unfold twoB; rw [decide_eq_false h0, decide_eq_false h1]; rfl] at hQ
      exact hQ
    · rename_i h1
      refine go_at (blk := b_KneeStair_isOneOfTwo_9) rfl ?_
      simp (disch := omega) only [b_KneeStair_isOneOfTwo_9, be_1, be_51, List.getD_cons_zero, List.getD_cons_succ, List.set_cons_zero, List.set_cons_succ, List.length_cons, List.length_nil, pk_I, pk_A, pr_A, pi_I, st_s, st_n, if_true, if_false, eq_self, d_if, d_ju, d_re, d_ca, cat0, cat1, cat2, cat3, fr_z, fr_s, cc_I, cc_A, cc_N, Nat.reduceAdd, Nat.reduceLT, Nat.reduceLeDiff, Nat.reduceEqDiff, not_true, not_false_iff, z1_0, z1_1, Bool.and_self, Bool.true_and, Bool.and_true, nI_add, pk_mul, nI_clamp, decide_true, Nat.le_refl, bI_eq, bI_z1]
      refine go_at (blk := b_KneeStair_isOneOfTwo_14) rfl ?_
      simp (disch := omega) only [b_KneeStair_isOneOfTwo_14, be_73, List.getD_cons_zero, List.getD_cons_succ, List.set_cons_zero, List.set_cons_succ, List.length_cons, List.length_nil, pk_I, pk_A, pr_A, pi_I, st_s, st_n, if_true, if_false, eq_self, d_if, d_ju, d_re, d_ca, cat0, cat1, cat2, cat3, fr_z, fr_s, cc_I, cc_A, cc_N, Nat.reduceAdd, Nat.reduceLT, Nat.reduceLeDiff, Nat.reduceEqDiff, not_true, not_false_iff, z1_0, z1_1, Bool.and_self, Bool.true_and, Bool.and_true, nI_add, pk_mul, nI_clamp, decide_true, Nat.le_refl, bI_eq, bI_z1]
      rw [show twoB y = true by unfold twoB; rw [decide_eq_true (Decidable.not_not.mp h1)]; simp] at hQ
      exact hQ
def arA (T : TXT) (f : Nat → Int32) (y : Int32) : Int32 := if pilB (tN T) y = true then arS T (-1) 0 f (cN y) 300 else -1
set_option maxHeartbeats 1000000 in
theorem p_arrives {d : Nat} {v : Nat → Nat → Int32} {w : Nat → Nat → Int64} {Q : Option Value → am_H → Prop} {T : TXT} {f : Nat → Int32} {B : Int} (hK : KI B v T f) {y : Int32} (hQ : ∀ v', QF v v' → Q (some (.int (arA T f y))) (428, 26053, KD, RF, v', w)) : am_Ca (d + 7) M_KneeStair_arrives [.ref 0, .int y] (428, 26053, KD, RF, v, w) Q := by
  have h8 := hK.1.1
  refine ca_in (k := k_KneeStair_arrives) (nL := 2) rfl (Nat.le_of_ble_eq_true rfl) ?_
  show am_Go am_X0 _ k_KneeStair_arrives 0 ([.ref 0, .int y], [], _) _
  refine go_at (blk := b_KneeStair_arrives_0) rfl ?_
  simp (disch := omega) only [b_KneeStair_arrives_0, be_6, be_4, be_57_1, kc_0, List.getD_cons_zero, List.getD_cons_succ, List.set_cons_zero, List.set_cons_succ, List.length_cons, List.length_nil, pk_I, pk_A, pr_A, pi_I, st_s, st_n, if_true, if_false, eq_self, d_if, d_ju, d_re, d_ca, cat0, cat1, cat2, cat3, fr_z, fr_s, cc_I, cc_A, cc_N, Nat.reduceAdd, Nat.reduceLT, Nat.reduceLeDiff, Nat.reduceEqDiff, not_true, not_false_iff, z1_0, z1_1, Bool.and_self, Bool.true_and, Bool.and_true, nI_add, pk_mul, nI_clamp, decide_true, Nat.le_refl, bI_eq, bI_z1]
  refine k_isPil hK ?_
  refine go_at (blk := b_KneeStair_arrives_5) rfl ?_
  simp (disch := omega) only [b_KneeStair_arrives_5, be_50_0, List.getD_cons_zero, List.getD_cons_succ, List.set_cons_zero, List.set_cons_succ, List.length_cons, List.length_nil, pk_I, pk_A, pr_A, pi_I, st_s, st_n, if_true, if_false, eq_self, d_if, d_ju, d_re, d_ca, cat0, cat1, cat2, cat3, fr_z, fr_s, cc_I, cc_A, cc_N, Nat.reduceAdd, Nat.reduceLT, Nat.reduceLeDiff, Nat.reduceEqDiff, not_true, not_false_iff, z1_0, z1_1, Bool.and_self, Bool.true_and, Bool.and_true, nI_add, pk_mul, nI_clamp, decide_true, Nat.le_refl, bI_eq, bI_z1]
  split
  · rename_i hb
    refine go_at (blk := b_KneeStair_arrives_19) rfl ?_
    simp (disch := omega) only [b_KneeStair_arrives_19, be_2, be_0, List.getD_cons_zero, List.getD_cons_succ, List.set_cons_zero, List.set_cons_succ, List.length_cons, List.length_nil, pk_I, pk_A, pr_A, pi_I, st_s, st_n, if_true, if_false, eq_self, d_if, d_ju, d_re, d_ca, cat0, cat1, cat2, cat3, fr_z, fr_s, cc_I, cc_A, cc_N, Nat.reduceAdd, Nat.reduceLT, Nat.reduceLeDiff, Nat.reduceEqDiff, not_true, not_false_iff, z1_0, z1_1, Bool.and_self, Bool.true_and, Bool.and_true, nI_add, pk_mul, nI_clamp, decide_true, Nat.le_refl, bI_eq, bI_z1]
    refine go_at (blk := b_KneeStair_arrives_20) rfl ?_
    simp (disch := omega) only [b_KneeStair_arrives_20, be_54, List.getD_cons_zero, List.getD_cons_succ, List.set_cons_zero, List.set_cons_succ, List.length_cons, List.length_nil, pk_I, pk_A, pr_A, pi_I, st_s, st_n, if_true, if_false, eq_self, d_if, d_ju, d_re, d_ca, cat0, cat1, cat2, cat3, fr_z, fr_s, cc_I, cc_A, cc_N, Nat.reduceAdd, Nat.reduceLT, Nat.reduceLeDiff, Nat.reduceEqDiff, not_true, not_false_iff, z1_0, z1_1, Bool.and_self, Bool.true_and, Bool.and_true, nI_add, pk_mul, nI_clamp, decide_true, Nat.le_refl, bI_eq, bI_z1]
    unfold arA at hQ
    rw [if_neg (by rw [hb]; decide)] at hQ
    exact hQ v QF_r
  · rename_i hb
    have hb : pilB (tN T) y = true := by simpa using hb
    unfold arA at hQ
    rw [if_pos hb] at hQ
    obtain ⟨p, hp, rfl, e⟩ := pil_of h8 hb
    rw [e] at hQ
    refine go_at (blk := b_KneeStair_arrives_8) rfl ?_
    simp (disch := omega) only [b_KneeStair_arrives_8, be_6, be_34, be_4, be_57_1, kc_0, rf_0_7, kc_350, List.getD_cons_zero, List.getD_cons_succ, List.set_cons_zero, List.set_cons_succ, List.length_cons, List.length_nil, pk_I, pk_A, pr_A, pi_I, st_s, st_n, if_true, if_false, eq_self, d_if, d_ju, d_re, d_ca, cat0, cat1, cat2, cat3, fr_z, fr_s, cc_I, cc_A, cc_N, Nat.reduceAdd, Nat.reduceLT, Nat.reduceLeDiff, Nat.reduceEqDiff, not_true, not_false_iff, z1_0, z1_1, Bool.and_self, Bool.true_and, Bool.and_true, nI_add, pk_mul, nI_clamp, decide_true, Nat.le_refl, bI_eq, bI_z1]
    refine k_arrives hK hp ?_
    intro v2 q2
    refine go_at (blk := b_KneeStair_arrives_16) rfl ?_
    simp (disch := omega) only [b_KneeStair_arrives_16, be_51, List.getD_cons_zero, List.getD_cons_succ, List.set_cons_zero, List.set_cons_succ, List.length_cons, List.length_nil, pk_I, pk_A, pr_A, pi_I, st_s, st_n, if_true, if_false, eq_self, d_if, d_ju, d_re, d_ca, cat0, cat1, cat2, cat3, fr_z, fr_s, cc_I, cc_A, cc_N, Nat.reduceAdd, Nat.reduceLT, Nat.reduceLeDiff, Nat.reduceEqDiff, not_true, not_false_iff, z1_0, z1_1, Bool.and_self, Bool.true_and, Bool.and_true, nI_add, pk_mul, nI_clamp, decide_true, Nat.le_refl, bI_eq, bI_z1]
    refine go_at (blk := b_KneeStair_arrives_20) rfl ?_
    simp (disch := omega) only [b_KneeStair_arrives_20, be_54, List.getD_cons_zero, List.getD_cons_succ, List.set_cons_zero, List.set_cons_succ, List.length_cons, List.length_nil, pk_I, pk_A, pr_A, pi_I, st_s, st_n, if_true, if_false, eq_self, d_if, d_ju, d_re, d_ca, cat0, cat1, cat2, cat3, fr_z, fr_s, cc_I, cc_A, cc_N, Nat.reduceAdd, Nat.reduceLT, Nat.reduceLeDiff, Nat.reduceEqDiff, not_true, not_false_iff, z1_0, z1_1, Bool.and_self, Bool.true_and, Bool.and_true, nI_add, pk_mul, nI_clamp, decide_true, Nat.le_refl, bI_eq, bI_z1]
    exact hQ v2 q2
set_option maxHeartbeats 1000000 in
theorem p_still {d : Nat} {v : Nat → Nat → Int32} {w : Nat → Nat → Int64} {Q : Option Value → am_H → Prop} {T : TXT} {f : Nat → Int32} {B : Int} (hK : KI B v T f) (hQ : ∀ v', QF v v' → Q (some (.int (stS T f))) (428, 26053, KD, RF, v', w)) : am_Ca (d + 6) M_KneeStair_still [.ref 0] (428, 26053, KD, RF, v, w) Q := by
  have h8 := hK.1.1
  refine ca_in (k := k_KneeStair_still) (nL := 1) rfl (Nat.le_of_ble_eq_true rfl) ?_
  show am_Go am_X0 _ k_KneeStair_still 0 ([.ref 0], [], _) _
  refine go_at (blk := b_KneeStair_still_0) rfl ?_
  simp (disch := omega) only [b_KneeStair_still_0, be_6, be_34, be_57_0, kc_0, rf_0_7, kc_350, List.getD_cons_zero, List.getD_cons_succ, List.set_cons_zero, List.set_cons_succ, List.length_cons, List.length_nil, pk_I, pk_A, pr_A, pi_I, st_s, st_n, if_true, if_false, eq_self, d_if, d_ju, d_re, d_ca, cat0, cat1, cat2, cat3, fr_z, fr_s, cc_I, cc_A, cc_N, Nat.reduceAdd, Nat.reduceLT, Nat.reduceLeDiff, Nat.reduceEqDiff, not_true, not_false_iff, z1_0, z1_1, Bool.and_self, Bool.true_and, Bool.and_true, nI_add, pk_mul, nI_clamp, decide_true, Nat.le_refl, bI_eq, bI_z1]
  refine k_still hK ?_
  intro v2 q2
  refine go_at (blk := b_KneeStair_still_7) rfl ?_
  simp (disch := omega) only [b_KneeStair_still_7, be_54, List.getD_cons_zero, List.getD_cons_succ, List.set_cons_zero, List.set_cons_succ, List.length_cons, List.length_nil, pk_I, pk_A, pr_A, pi_I, st_s, st_n, if_true, if_false, eq_self, d_if, d_ju, d_re, d_ca, cat0, cat1, cat2, cat3, fr_z, fr_s, cc_I, cc_A, cc_N, Nat.reduceAdd, Nat.reduceLT, Nat.reduceLeDiff, Nat.reduceEqDiff, not_true, not_false_iff, z1_0, z1_1, Bool.and_self, Bool.true_and, Bool.and_true, nI_add, pk_mul, nI_clamp, decide_true, Nat.le_refl, bI_eq, bI_z1]
  exact hQ v2 q2
def hiA (T : TXT) (f : Nat → Int32) (y z : Int32) : Int32 := if (pilB (tN T) y && (!decide (z < 0) && !decide (nI 300 < z))) = true then hiS T f (cN y) (cN z) else -1
set_option maxHeartbeats 1000000 in
theorem p_highest {d : Nat} {v : Nat → Nat → Int32} {w : Nat → Nat → Int64} {Q : Option Value → am_H → Prop} {T : TXT} {f : Nat → Int32} {B : Int} (hK : KI B v T f) {y z : Int32} (hQ : ∀ v', QF v v' → Q (some (.int (hiA T f y z))) (428, 26053, KD, RF, v', w)) : am_Ca (d + 7) M_KneeStair_highest [.ref 0, .int y, .int z] (428, 26053, KD, RF, v, w) Q := by
  have h8 := hK.1.1
  refine ca_in (k := k_KneeStair_highest) (nL := 3) rfl (Nat.le_of_ble_eq_true rfl) ?_
  show am_Go am_X0 _ k_KneeStair_highest 0 ([.ref 0, .int y, .int z], [], _) _
  refine go_at (blk := b_KneeStair_highest_0) rfl ?_
  simp (disch := omega) only [b_KneeStair_highest_0, be_6, be_4, be_57_1, kc_0, List.getD_cons_zero, List.getD_cons_succ, List.set_cons_zero, List.set_cons_succ, List.length_cons, List.length_nil, pk_I, pk_A, pr_A, pi_I, st_s, st_n, if_true, if_false, eq_self, d_if, d_ju, d_re, d_ca, cat0, cat1, cat2, cat3, fr_z, fr_s, cc_I, cc_A, cc_N, Nat.reduceAdd, Nat.reduceLT, Nat.reduceLeDiff, Nat.reduceEqDiff, not_true, not_false_iff, z1_0, z1_1, Bool.and_self, Bool.true_and, Bool.and_true, nI_add, pk_mul, nI_clamp, decide_true, Nat.le_refl, bI_eq, bI_z1]
  refine k_isPil hK ?_
  refine go_at (blk := b_KneeStair_highest_5) rfl ?_
  simp (disch := omega) only [b_KneeStair_highest_5, be_50_0, List.getD_cons_zero, List.getD_cons_succ, List.set_cons_zero, List.set_cons_succ, List.length_cons, List.length_nil, pk_I, pk_A, pr_A, pi_I, st_s, st_n, if_true, if_false, eq_self, d_if, d_ju, d_re, d_ca, cat0, cat1, cat2, cat3, fr_z, fr_s, cc_I, cc_A, cc_N, Nat.reduceAdd, Nat.reduceLT, Nat.reduceLeDiff, Nat.reduceEqDiff, not_true, not_false_iff, z1_0, z1_1, Bool.and_self, Bool.true_and, Bool.and_true, nI_add, pk_mul, nI_clamp, decide_true, Nat.le_refl, bI_eq, bI_z1]
  split
  · rename_i hb
    refine go_at (blk := b_KneeStair_highest_19) rfl ?_
    simp (disch := omega) only [b_KneeStair_highest_19, be_2, be_54, List.getD_cons_zero, List.getD_cons_succ, List.set_cons_zero, List.set_cons_succ, List.length_cons, List.length_nil, pk_I, pk_A, pr_A, pi_I, st_s, st_n, if_true, if_false, eq_self, d_if, d_ju, d_re, d_ca, cat0, cat1, cat2, cat3, fr_z, fr_s, cc_I, cc_A, cc_N, Nat.reduceAdd, Nat.reduceLT, Nat.reduceLeDiff, Nat.reduceEqDiff, not_true, not_false_iff, z1_0, z1_1, Bool.and_self, Bool.true_and, Bool.and_true, nI_add, pk_mul, nI_clamp, decide_true, Nat.le_refl, bI_eq, bI_z1]
    unfold hiA at hQ
    rw [if_neg (by rw [hb]; simp)] at hQ
    exact hQ v QF_r
  · rename_i hb
    have hb : pilB (tN T) y = true := by simpa using hb
    refine go_at (blk := b_KneeStair_highest_8) rfl ?_
    simp (disch := omega) only [b_KneeStair_highest_8, be_4, be_50_2, List.getD_cons_zero, List.getD_cons_succ, List.set_cons_zero, List.set_cons_succ, List.length_cons, List.length_nil, pk_I, pk_A, pr_A, pi_I, st_s, st_n, if_true, if_false, eq_self, d_if, d_ju, d_re, d_ca, cat0, cat1, cat2, cat3, fr_z, fr_s, cc_I, cc_A, cc_N, Nat.reduceAdd, Nat.reduceLT, Nat.reduceLeDiff, Nat.reduceEqDiff, not_true, not_false_iff, z1_0, z1_1, Bool.and_self, Bool.true_and, Bool.and_true, nI_add, pk_mul, nI_clamp, decide_true, Nat.le_refl, bI_eq, bI_z1]
    split
    · rename_i hc
      refine go_at (blk := b_KneeStair_highest_19) rfl ?_
      simp (disch := omega) only [b_KneeStair_highest_19, be_2, be_54, List.getD_cons_zero, List.getD_cons_succ, List.set_cons_zero, List.set_cons_succ, List.length_cons, List.length_nil, pk_I, pk_A, pr_A, pi_I, st_s, st_n, if_true, if_false, eq_self, d_if, d_ju, d_re, d_ca, cat0, cat1, cat2, cat3, fr_z, fr_s, cc_I, cc_A, cc_N, Nat.reduceAdd, Nat.reduceLT, Nat.reduceLeDiff, Nat.reduceEqDiff, not_true, not_false_iff, z1_0, z1_1, Bool.and_self, Bool.true_and, Bool.and_true, nI_add, pk_mul, nI_clamp, decide_true, Nat.le_refl, bI_eq, bI_z1]
      unfold hiA at hQ
      rw [if_neg (by rw [decide_eq_true hc]; simp)] at hQ
      exact hQ v QF_r
    · rename_i hc
      refine go_at (blk := b_KneeStair_highest_12) rfl ?_
      simp (disch := omega) only [b_KneeStair_highest_12, be_4, be_1, be_49_5, List.getD_cons_zero, List.getD_cons_succ, List.set_cons_zero, List.set_cons_succ, List.length_cons, List.length_nil, pk_I, pk_A, pr_A, pi_I, st_s, st_n, if_true, if_false, eq_self, d_if, d_ju, d_re, d_ca, cat0, cat1, cat2, cat3, fr_z, fr_s, cc_I, cc_A, cc_N, Nat.reduceAdd, Nat.reduceLT, Nat.reduceLeDiff, Nat.reduceEqDiff, not_true, not_false_iff, z1_0, z1_1, Bool.and_self, Bool.true_and, Bool.and_true, nI_add, pk_mul, nI_clamp, decide_true, Nat.le_refl, bI_eq, bI_z1]
      split
      · rename_i hd
        unfold hiA at hQ
        rw [if_pos (by rw [hb, decide_eq_false hc, decide_eq_false (p := nI 300 < z) (Int32.not_lt.mpr hd)]; rfl)] at hQ
        obtain ⟨p, hp, rfl, e⟩ := pil_of h8 hb
        obtain ⟨n, hn, rfl, e2⟩ := lim_of (by omega) hc hd
        rw [e, e2] at hQ
        refine go_at (blk := b_KneeStair_highest_21) rfl ?_
        simp (disch := omega) only [b_KneeStair_highest_21, be_6, be_34, be_4, be_57_2, kc_0, rf_0_7, kc_350, List.getD_cons_zero, List.getD_cons_succ, List.set_cons_zero, List.set_cons_succ, List.length_cons, List.length_nil, pk_I, pk_A, pr_A, pi_I, st_s, st_n, if_true, if_false, eq_self, d_if, d_ju, d_re, d_ca, cat0, cat1, cat2, cat3, fr_z, fr_s, cc_I, cc_A, cc_N, Nat.reduceAdd, Nat.reduceLT, Nat.reduceLeDiff, Nat.reduceEqDiff, not_true, not_false_iff, z1_0, z1_1, Bool.and_self, Bool.true_and, Bool.and_true, nI_add, pk_mul, nI_clamp, decide_true, Nat.le_refl, bI_eq, bI_z1]
        refine k_highest hK hp hn ?_
        intro v2 q2
        refine go_at (blk := b_KneeStair_highest_30) rfl ?_
        simp (disch := omega) only [b_KneeStair_highest_30, be_54, List.getD_cons_zero, List.getD_cons_succ, List.set_cons_zero, List.set_cons_succ, List.length_cons, List.length_nil, pk_I, pk_A, pr_A, pi_I, st_s, st_n, if_true, if_false, eq_self, d_if, d_ju, d_re, d_ca, cat0, cat1, cat2, cat3, fr_z, fr_s, cc_I, cc_A, cc_N, Nat.reduceAdd, Nat.reduceLT, Nat.reduceLeDiff, Nat.reduceEqDiff, not_true, not_false_iff, z1_0, z1_1, Bool.and_self, Bool.true_and, Bool.and_true, nI_add, pk_mul, nI_clamp, decide_true, Nat.le_refl, bI_eq, bI_z1]
        exact hQ v2 q2
      · rename_i hd
        refine go_at (blk := b_KneeStair_highest_19) rfl ?_
        simp (disch := omega) only [b_KneeStair_highest_19, be_2, be_54, List.getD_cons_zero, List.getD_cons_succ, List.set_cons_zero, List.set_cons_succ, List.length_cons, List.length_nil, pk_I, pk_A, pr_A, pi_I, st_s, st_n, if_true, if_false, eq_self, d_if, d_ju, d_re, d_ca, cat0, cat1, cat2, cat3, fr_z, fr_s, cc_I, cc_A, cc_N, Nat.reduceAdd, Nat.reduceLT, Nat.reduceLeDiff, Nat.reduceEqDiff, not_true, not_false_iff, z1_0, z1_1, Bool.and_self, Bool.true_and, Bool.and_true, nI_add, pk_mul, nI_clamp, decide_true, Nat.le_refl, bI_eq, bI_z1]
        unfold hiA at hQ
        rw [if_neg (by rw [decide_eq_true (p := nI 300 < z) (Int32.not_le.mp hd)]; simp)] at hQ
        exact hQ v QF_r
def fiA (T : TXT) (f : Nat → Int32) (y : Int32) : Int32 := if twoB y = true then fiS T f y 300 1 else -1
set_option maxHeartbeats 1000000 in
theorem p_first {d : Nat} {v : Nat → Nat → Int32} {w : Nat → Nat → Int64} {Q : Option Value → am_H → Prop} {T : TXT} {f : Nat → Int32} {B : Int} (hK : KI B v T f) {y : Int32} (hQ : ∀ v', QF v v' → Q (some (.int (fiA T f y))) (428, 26053, KD, RF, v', w)) : am_Ca (d + 7) M_KneeStair_first [.ref 0, .int y] (428, 26053, KD, RF, v, w) Q := by
  have h8 := hK.1.1
  refine ca_in (k := k_KneeStair_first) (nL := 2) rfl (Nat.le_of_ble_eq_true rfl) ?_
  show am_Go am_X0 _ k_KneeStair_first 0 ([.ref 0, .int y], [], _) _
  refine go_at (blk := b_KneeStair_first_0) rfl ?_
  simp (disch := omega) only [b_KneeStair_first_0, be_4, be_58_1, List.getD_cons_zero, List.getD_cons_succ, List.set_cons_zero, List.set_cons_succ, List.length_cons, List.length_nil, pk_I, pk_A, pr_A, pi_I, st_s, st_n, if_true, if_false, eq_self, d_if, d_ju, d_re, d_ca, cat0, cat1, cat2, cat3, fr_z, fr_s, cc_I, cc_A, cc_N, Nat.reduceAdd, Nat.reduceLT, Nat.reduceLeDiff, Nat.reduceEqDiff, not_true, not_false_iff, z1_0, z1_1, Bool.and_self, Bool.true_and, Bool.and_true, nI_add, pk_mul, nI_clamp, decide_true, Nat.le_refl, bI_eq, bI_z1]
  refine k_isTwo ?_
  refine go_at (blk := b_KneeStair_first_4) rfl ?_
  simp (disch := omega) only [b_KneeStair_first_4, be_50_0, List.getD_cons_zero, List.getD_cons_succ, List.set_cons_zero, List.set_cons_succ, List.length_cons, List.length_nil, pk_I, pk_A, pr_A, pi_I, st_s, st_n, if_true, if_false, eq_self, d_if, d_ju, d_re, d_ca, cat0, cat1, cat2, cat3, fr_z, fr_s, cc_I, cc_A, cc_N, Nat.reduceAdd, Nat.reduceLT, Nat.reduceLeDiff, Nat.reduceEqDiff, not_true, not_false_iff, z1_0, z1_1, Bool.and_self, Bool.true_and, Bool.and_true, nI_add, pk_mul, nI_clamp, decide_true, Nat.le_refl, bI_eq, bI_z1]
  split
  · rename_i hb
    refine go_at (blk := b_KneeStair_first_18) rfl ?_
    simp (disch := omega) only [b_KneeStair_first_18, be_2, be_0, List.getD_cons_zero, List.getD_cons_succ, List.set_cons_zero, List.set_cons_succ, List.length_cons, List.length_nil, pk_I, pk_A, pr_A, pi_I, st_s, st_n, if_true, if_false, eq_self, d_if, d_ju, d_re, d_ca, cat0, cat1, cat2, cat3, fr_z, fr_s, cc_I, cc_A, cc_N, Nat.reduceAdd, Nat.reduceLT, Nat.reduceLeDiff, Nat.reduceEqDiff, not_true, not_false_iff, z1_0, z1_1, Bool.and_self, Bool.true_and, Bool.and_true, nI_add, pk_mul, nI_clamp, decide_true, Nat.le_refl, bI_eq, bI_z1]
    refine go_at (blk := b_KneeStair_first_19) rfl ?_
    simp (disch := omega) only [b_KneeStair_first_19, be_54, List.getD_cons_zero, List.getD_cons_succ, List.set_cons_zero, List.set_cons_succ, List.length_cons, List.length_nil, pk_I, pk_A, pr_A, pi_I, st_s, st_n, if_true, if_false, eq_self, d_if, d_ju, d_re, d_ca, cat0, cat1, cat2, cat3, fr_z, fr_s, cc_I, cc_A, cc_N, Nat.reduceAdd, Nat.reduceLT, Nat.reduceLeDiff, Nat.reduceEqDiff, not_true, not_false_iff, z1_0, z1_1, Bool.and_self, Bool.true_and, Bool.and_true, nI_add, pk_mul, nI_clamp, decide_true, Nat.le_refl, bI_eq, bI_z1]
    unfold fiA at hQ
    rw [if_neg (by rw [hb]; decide)] at hQ
    exact hQ v QF_r
  · rename_i hb
    have hb : twoB y = true := by simpa using hb
    unfold fiA at hQ
    rw [if_pos hb] at hQ
    refine go_at (blk := b_KneeStair_first_7) rfl ?_
    simp (disch := omega) only [b_KneeStair_first_7, be_6, be_34, be_4, be_57_1, kc_0, rf_0_7, kc_350, List.getD_cons_zero, List.getD_cons_succ, List.set_cons_zero, List.set_cons_succ, List.length_cons, List.length_nil, pk_I, pk_A, pr_A, pi_I, st_s, st_n, if_true, if_false, eq_self, d_if, d_ju, d_re, d_ca, cat0, cat1, cat2, cat3, fr_z, fr_s, cc_I, cc_A, cc_N, Nat.reduceAdd, Nat.reduceLT, Nat.reduceLeDiff, Nat.reduceEqDiff, not_true, not_false_iff, z1_0, z1_1, Bool.and_self, Bool.true_and, Bool.and_true, nI_add, pk_mul, nI_clamp, decide_true, Nat.le_refl, bI_eq, bI_z1]
    refine k_first hK ?_
    intro v2 q2
    refine go_at (blk := b_KneeStair_first_15) rfl ?_
    simp (disch := omega) only [b_KneeStair_first_15, be_51, List.getD_cons_zero, List.getD_cons_succ, List.set_cons_zero, List.set_cons_succ, List.length_cons, List.length_nil, pk_I, pk_A, pr_A, pi_I, st_s, st_n, if_true, if_false, eq_self, d_if, d_ju, d_re, d_ca, cat0, cat1, cat2, cat3, fr_z, fr_s, cc_I, cc_A, cc_N, Nat.reduceAdd, Nat.reduceLT, Nat.reduceLeDiff, Nat.reduceEqDiff, not_true, not_false_iff, z1_0, z1_1, Bool.and_self, Bool.true_and, Bool.and_true, nI_add, pk_mul, nI_clamp, decide_true, Nat.le_refl, bI_eq, bI_z1]
    refine go_at (blk := b_KneeStair_first_19) rfl ?_
    simp (disch := omega) only [b_KneeStair_first_19, be_54, List.getD_cons_zero, List.getD_cons_succ, List.set_cons_zero, List.set_cons_succ, List.length_cons, List.length_nil, pk_I, pk_A, pr_A, pi_I, st_s, st_n, if_true, if_false, eq_self, d_if, d_ju, d_re, d_ca, cat0, cat1, cat2, cat3, fr_z, fr_s, cc_I, cc_A, cc_N, Nat.reduceAdd, Nat.reduceLT, Nat.reduceLeDiff, Nat.reduceEqDiff, not_true, not_false_iff, z1_0, z1_1, Bool.and_self, Bool.true_and, Bool.and_true, nI_add, pk_mul, nI_clamp, decide_true, Nat.le_refl, bI_eq, bI_z1]
    exact hQ v2 q2
