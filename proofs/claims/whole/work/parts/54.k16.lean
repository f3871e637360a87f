/-! laid by wip/whole/k16.py: the class: ways to rise -/
def wrI (T : TXT) (tp tm : Nat → Nat) (ts : Nat → Int32) (k : Nat) (ii : Int32) (p : Nat) : Nat → Nat → Nat → Int32 ⊕ Nat
  | 0, _, c => .inr c
  | m + 1, w, c => if asB T tp tm ts k p w = true then (if nI c = ii then .inl (nI (100 * p + w)) else wrI T tp tm ts k ii p m (w + 1) (c + 1)) else wrI T tp tm ts k ii p m (w + 1) c
def wrO (T : TXT) (tp tm : Nat → Nat) (ts : Nat → Int32) (k : Nat) (ii : Int32) : Nat → Nat → Nat → Int32
  | 0, _, c => if ii = -1 then nI c else -1
  | m + 1, p, c => if bgT T (8 + p) = 0 then wrO T tp tm ts k ii m (p + 1) c else match wrI T tp tm ts k ii p (lmN tm k) 0 c with
    | .inl r => r
    | .inr c' => wrO T tp tm ts k ii m (p + 1) c'
section
variable {T : TXT} {tp tm : Nat → Nat} {ts : Nat → Int32} {k p N j c : Nat} {ii : Int32}
theorem wi_0 (h : j < N) (ha : asB T tp tm ts k p j = false) : wrI T tp tm ts k ii p (N - j) j c = wrI T tp tm ts k ii p (N - (j + 1)) (j + 1) c := by
  rw [show N - j = (N - (j + 1)) + 1 by omega]
  exact if_neg (by rw [ha]; decide)
theorem wi_1 (h : j < N) (ha : asB T tp tm ts k p j = true) (hc : ¬ nI c = ii) : wrI T tp tm ts k ii p (N - j) j c = wrI T tp tm ts k ii p (N - (j + 1)) (j + 1) (c + 1) := by
  rw [show N - j = (N - (j + 1)) + 1 by omega]
  exact (if_pos ha).trans (if_neg hc)
theorem wi_2 (h : j < N) (ha : asB T tp tm ts k p j = true) (hc : nI c = ii) : wrI T tp tm ts k ii p (N - j) j c = .inl (nI (100 * p + j)) := by
  rw [show N - j = (N - (j + 1)) + 1 by omega]
  exact (if_pos ha).trans (if_pos hc)
theorem wi_e : wrI T tp tm ts k ii p (N - N) N c = .inr c := by
  rw [Nat.sub_self]
  rfl
theorem wo_0 (h : p < N) (hb : bgT T (8 + p) = 0) : wrO T tp tm ts k ii (N - p) p c = wrO T tp tm ts k ii (N - (p + 1)) (p + 1) c := by
  rw [show N - p = (N - (p + 1)) + 1 by omega]
  exact if_pos hb
theorem wo_1 {r : Int32} (h : p < N) (hb : ¬ bgT T (8 + p) = 0) (hi : wrI T tp tm ts k ii p (lmN tm k) 0 c = .inl r) : wrO T tp tm ts k ii (N - p) p c = r := by
  rw [show N - p = (N - (p + 1)) + 1 by omega]
  refine (if_neg hb).trans ?_
  rw [hi]
theorem wo_2 {c' : Nat} (h : p < N) (hb : ¬ bgT T (8 + p) = 0) (hi : wrI T tp tm ts k ii p (lmN tm k) 0 c = .inr c') : wrO T tp tm ts k ii (N - p) p c = wrO T tp tm ts k ii (N - (p + 1)) (p + 1) c' := by
  rw [show N - p = (N - (p + 1)) + 1 by omega]
  refine (if_neg hb).trans ?_
  rw [hi]
end
set_option maxHeartbeats 1000000 in
theorem k_ways {d : Nat} {v : Nat → Nat → Int32} {w : Nat → Nat → Int64} {Q : Option Value → am_H → Prop} {T : TXT} {f : Nat → Int32} {B : Int} (hK : KI B v T f) {m : Nat} {tp tm : Nat → Nat} {ts : Nat → Int32} (hW : WX v (tN T) m tp tm ts) {k : Nat} (hk : k ≤ m) {ii : Int32} (hQ : ∀ v', QF v v' → Q (some (.int (wrO T tp tm ts k ii (tN T) 0 0))) (428, 26053, KD, RF, v', w)) : am_Ca (d + 6) M_Witness_waysToRise [.ref 358, .int (nI k), .int ii] (428, 26053, KD, RF, v, w) Q := by
  have h8 := hK.1.1
  have hBB := hK.2.2.2.2.2
  have hm20 := hW.2.1
  have hM : lmN tm k ≤ 100 := lm_le k (fun j hj => (hW.2.2 j (by omega)).2.2.2.1)
  refine ca_in (k := k_Witness_waysToRise) (nL := 8) rfl (Nat.le_of_ble_eq_true rfl) ?_
  show am_Go am_X0 _ k_Witness_waysToRise 0 ([.ref 358, .int (nI k), .int ii, .null, .null, .null, .null, .null], [], _) _
  refine go_at (blk := b_Witness_waysToRise_0) rfl ?_
  simp (disch := omega) only [b_Witness_waysToRise_0, be_6, be_4, be_57_1, kc_358, List.getD_cons_zero, List.getD_cons_succ, List.set_cons_zero, List.set_cons_succ, List.length_cons, List.length_nil, pk_I, pk_A, pr_A, pi_I, st_s, st_n, if_true, if_false, eq_self, d_if, d_ju, d_re, d_ca, cat0, cat1, cat2, cat3, fr_z, fr_s, cc_I, cc_A, cc_N, Nat.reduceAdd, Nat.reduceLT, Nat.reduceLeDiff, Nat.reduceEqDiff, not_true, not_false_iff, z1_0, z1_1, Bool.and_self, Bool.true_and, Bool.and_true, nI_add, pk_mul, nI_clamp, decide_true, Nat.le_refl, bI_eq, bI_z1]
  refine k_last hK hW hk ?_
  refine go_at (blk := b_Witness_waysToRise_5) rfl ?_
  simp (disch := omega) only [b_Witness_waysToRise_5, be_7, be_1, be_0, List.getD_cons_zero, List.getD_cons_succ, List.set_cons_zero, List.set_cons_succ, List.length_cons, List.length_nil, pk_I, pk_A, pr_A, pi_I, st_s, st_n, if_true, if_false, eq_self, d_if, d_ju, d_re, d_ca, cat0, cat1, cat2, cat3, fr_z, fr_s, cc_I, cc_A, cc_N, Nat.reduceAdd, Nat.reduceLT, Nat.reduceLeDiff, Nat.reduceEqDiff, not_true, not_false_iff, z1_0, z1_1, Bool.and_self, Bool.true_and, Bool.and_true, nI_add, pk_mul, nI_clamp, decide_true, Nat.le_refl, bI_eq, bI_z1]
  refine go_loopA (α := (Nat → Nat → Int32) × Nat × Value × Value) (fun i x => ([.ref 358, .int (nI k), .int ii, .int (nI (lmN tm k) + (-1)), .int (nI x.2.1), .int (nI i), x.2.2.1, x.2.2.2], [], (428, 26053, KD, RF, x.1, w))) (fun i x => QF v x.1 ∧ wrO T tp tm ts k ii (tN T) 0 0 = wrO T tp tm ts k ii (tN T - i) i x.2.1 ∧ am_cc x.2.2.1 = true ∧ am_cc x.2.2.2 = true) (tN T) ?_ ?_ (v, 0, .null, .null) ⟨QF_r, rfl, rfl, rfl⟩
  · intro i x hi ⟨x1, x2, x3, x4⟩ ih
    try dsimp only at *
    have hni : ¬ tN T ≤ i := by omega
    have hKx : KI B x.1 T f := KI_q hK x1
    have k1 := hKx.1.2.1
    refine go_at (blk := b_Witness_waysToRise_12) rfl ?_
    simp (disch := omega) only [b_Witness_waysToRise_12, be_4, be_6, be_34, be_33, be_49_3, kc_358, rf_358_0, kc_25, List.getD_cons_zero, List.getD_cons_succ, List.set_cons_zero, List.set_cons_succ, List.length_cons, List.length_nil, pk_I, pk_A, pr_A, pi_I, st_s, st_n, if_true, if_false, eq_self, d_if, d_ju, d_re, d_ca, cat0, cat1, cat2, cat3, fr_z, fr_s, cc_I, cc_A, cc_N, Nat.reduceAdd, Nat.reduceLT, Nat.reduceLeDiff, Nat.reduceEqDiff, not_true, not_false_iff, z1_0, z1_1, Bool.and_self, Bool.true_and, Bool.and_true, nI_add, pk_mul, nI_clamp, decide_true, Nat.le_refl, bI_eq, bI_z1, nI_ltI, nI_leI, hni, k1, x3, x4]
    refine go_at (blk := b_Witness_waysToRise_24) rfl ?_
    simp (disch := omega) only [b_Witness_waysToRise_24, be_6, be_34, be_57_0, kc_358, rf_358_1, kc_362, List.getD_cons_zero, List.getD_cons_succ, List.set_cons_zero, List.set_cons_succ, List.length_cons, List.length_nil, pk_I, pk_A, pr_A, pi_I, st_s, st_n, if_true, if_false, eq_self, d_if, d_ju, d_re, d_ca, cat0, cat1, cat2, cat3, fr_z, fr_s, cc_I, cc_A, cc_N, Nat.reduceAdd, Nat.reduceLT, Nat.reduceLeDiff, Nat.reduceEqDiff, not_true, not_false_iff, z1_0, z1_1, Bool.and_self, Bool.true_and, Bool.and_true, nI_add, pk_mul, nI_clamp, decide_true, Nat.le_refl, bI_eq, bI_z1, nI_ltI, nI_leI, hni, k1, x3, x4]
    refine kw_begin hKx ?_
    intro v2 q2 r2
    have e2 : v2 364 i = bgT T (8 + i) := RX_k r2 hi (nI_m (by omega))
    refine go_at (blk := b_Witness_waysToRise_31) rfl ?_
    simp (disch := omega) only [b_Witness_waysToRise_31, be_6, be_34, be_4, be_40, be_7, be_1, be_0, kc_358, rf_358_1, kc_362, rf_362_2, ka_364, List.getD_cons_zero, List.getD_cons_succ, List.set_cons_zero, List.set_cons_succ, List.length_cons, List.length_nil, pk_I, pk_A, pr_A, pi_I, st_s, st_n, if_true, if_false, eq_self, d_if, d_ju, d_re, d_ca, cat0, cat1, cat2, cat3, fr_z, fr_s, cc_I, cc_A, cc_N, Nat.reduceAdd, Nat.reduceLT, Nat.reduceLeDiff, Nat.reduceEqDiff, not_true, not_false_iff, z1_0, z1_1, Bool.and_self, Bool.true_and, Bool.and_true, nI_add, pk_mul, nI_clamp, decide_true, Nat.le_refl, bI_eq, bI_z1, nI_ltI, nI_leI, hni, k1, x3, x4, e2]
    by_cases hb : bgT T (8 + i) = 0
    · show am_Go am_X0 _ k_Witness_waysToRise 46 _ _
      refine go_at (blk := b_Witness_waysToRise_46) rfl ?_
      simp (disch := omega) only [b_Witness_waysToRise_46, be_4, be_50_0, List.getD_cons_zero, List.getD_cons_succ, List.set_cons_zero, List.set_cons_succ, List.length_cons, List.length_nil, pk_I, pk_A, pr_A, pi_I, st_s, st_n, if_true, if_false, eq_self, d_if, d_ju, d_re, d_ca, cat0, cat1, cat2, cat3, fr_z, fr_s, cc_I, cc_A, cc_N, Nat.reduceAdd, Nat.reduceLT, Nat.reduceLeDiff, Nat.reduceEqDiff, not_true, not_false_iff, z1_0, z1_1, Bool.and_self, Bool.true_and, Bool.and_true, nI_add, pk_mul, nI_clamp, decide_true, Nat.le_refl, bI_eq, bI_z1, nI_ltI, nI_leI, hb]
      refine go_at (blk := b_Witness_waysToRise_94) rfl ?_
      simp (disch := omega) only [b_Witness_waysToRise_94, be_10, be_51, List.getD_cons_zero, List.getD_cons_succ, List.set_cons_zero, List.set_cons_succ, List.length_cons, List.length_nil, pk_I, pk_A, pr_A, pi_I, st_s, st_n, if_true, if_false, eq_self, d_if, d_ju, d_re, d_ca, cat0, cat1, cat2, cat3, fr_z, fr_s, cc_I, cc_A, cc_N, Nat.reduceAdd, Nat.reduceLT, Nat.reduceLeDiff, Nat.reduceEqDiff, not_true, not_false_iff, z1_0, z1_1, Bool.and_self, Bool.true_and, Bool.and_true, nI_add, pk_mul, nI_clamp, decide_true, Nat.le_refl, bI_eq, bI_z1, nI_ltI, nI_leI, hb]
      exact ih (v2, x.2.1, .int _, .int _) ⟨QF_t x1 q2, by rw [x2, wo_0 hi hb], rfl, rfl⟩
    refine go_loopA (α := (Nat → Nat → Int32) × Nat) (fun j y => ([.ref 358, .int (nI k), .int ii, .int (nI (lmN tm k) + (-1)), .int (nI y.2), .int (nI i), .int (bgT T (8 + i)), .int (nI j)], [], (428, 26053, KD, RF, y.1, w))) (fun j y => QF v2 y.1 ∧ wrI T tp tm ts k ii i (lmN tm k) 0 x.2.1 = wrI T tp tm ts k ii i (lmN tm k - j) j y.2) (lmN tm k) ?_ ?_ (v2, x.2.1) ⟨QF_r, rfl⟩
    · intro j y hj ⟨y1, y2⟩ jh
      try dsimp only at *
      have hKy : KI B y.1 T f := KI_q (KI_q hKx q2) y1
      have hnj : (nI (lmN tm k) + (-1) < nI j) ↔ False := by rw [lm_lt hM (by omega)]; exact ⟨fun z => absurd z (by omega), False.elim⟩
      refine go_at (blk := b_Witness_waysToRise_46) rfl ?_
      simp (disch := omega) only [b_Witness_waysToRise_46, be_4, be_50_0, List.getD_cons_zero, List.getD_cons_succ, List.set_cons_zero, List.set_cons_succ, List.length_cons, List.length_nil, pk_I, pk_A, pr_A, pi_I, st_s, st_n, if_true, if_false, eq_self, d_if, d_ju, d_re, d_ca, cat0, cat1, cat2, cat3, fr_z, fr_s, cc_I, cc_A, cc_N, Nat.reduceAdd, Nat.reduceLT, Nat.reduceLeDiff, Nat.reduceEqDiff, not_true, not_false_iff, z1_0, z1_1, Bool.and_self, Bool.true_and, Bool.and_true, nI_add, pk_mul, nI_clamp, decide_true, Nat.le_refl, bI_eq, bI_z1, nI_ltI, nI_leI, hnj, hb]
      refine go_at (blk := b_Witness_waysToRise_51) rfl ?_
      simp (disch := omega) only [b_Witness_waysToRise_51, be_4, be_49_4, List.getD_cons_zero, List.getD_cons_succ, List.set_cons_zero, List.set_cons_succ, List.length_cons, List.length_nil, pk_I, pk_A, pr_A, pi_I, st_s, st_n, if_true, if_false, eq_self, d_if, d_ju, d_re, d_ca, cat0, cat1, cat2, cat3, fr_z, fr_s, cc_I, cc_A, cc_N, Nat.reduceAdd, Nat.reduceLT, Nat.reduceLeDiff, Nat.reduceEqDiff, not_true, not_false_iff, z1_0, z1_1, Bool.and_self, Bool.true_and, Bool.and_true, nI_add, pk_mul, nI_clamp, decide_true, Nat.le_refl, bI_eq, bI_z1, nI_ltI, nI_leI, hnj, hb]
      refine go_at (blk := b_Witness_waysToRise_57) rfl ?_
      simp (disch := omega) only [b_Witness_waysToRise_57, be_6, be_4, be_57_4, kc_358, List.getD_cons_zero, List.getD_cons_succ, List.set_cons_zero, List.set_cons_succ, List.length_cons, List.length_nil, pk_I, pk_A, pr_A, pi_I, st_s, st_n, if_true, if_false, eq_self, d_if, d_ju, d_re, d_ca, cat0, cat1, cat2, cat3, fr_z, fr_s, cc_I, cc_A, cc_N, Nat.reduceAdd, Nat.reduceLT, Nat.reduceLeDiff, Nat.reduceEqDiff, not_true, not_false_iff, z1_0, z1_1, Bool.and_self, Bool.true_and, Bool.and_true, nI_add, pk_mul, nI_clamp, decide_true, Nat.le_refl, bI_eq, bI_z1, nI_ltI, nI_leI, hnj, hb]
      refine k_allSo hKy (WX_q (WX_q (WX_q hW x1) q2) y1) hk hi (by omega) ?_
      intro v3 q3
      refine go_at (blk := b_Witness_waysToRise_67) rfl ?_
      simp (disch := omega) only [b_Witness_waysToRise_67, be_50_0, List.getD_cons_zero, List.getD_cons_succ, List.set_cons_zero, List.set_cons_succ, List.length_cons, List.length_nil, pk_I, pk_A, pr_A, pi_I, st_s, st_n, if_true, if_false, eq_self, d_if, d_ju, d_re, d_ca, cat0, cat1, cat2, cat3, fr_z, fr_s, cc_I, cc_A, cc_N, Nat.reduceAdd, Nat.reduceLT, Nat.reduceLeDiff, Nat.reduceEqDiff, not_true, not_false_iff, z1_0, z1_1, Bool.and_self, Bool.true_and, Bool.and_true, nI_add, pk_mul, nI_clamp, decide_true, Nat.le_refl, bI_eq, bI_z1, nI_ltI, nI_leI, hnj, hb]
      split
      · rename_i ha
        refine go_at (blk := b_Witness_waysToRise_88) rfl ?_
        simp (disch := omega) only [b_Witness_waysToRise_88, be_10, be_51, List.getD_cons_zero, List.getD_cons_succ, List.set_cons_zero, List.set_cons_succ, List.length_cons, List.length_nil, pk_I, pk_A, pr_A, pi_I, st_s, st_n, if_true, if_false, eq_self, d_if, d_ju, d_re, d_ca, cat0, cat1, cat2, cat3, fr_z, fr_s, cc_I, cc_A, cc_N, Nat.reduceAdd, Nat.reduceLT, Nat.reduceLeDiff, Nat.reduceEqDiff, not_true, not_false_iff, z1_0, z1_1, Bool.and_self, Bool.true_and, Bool.and_true, nI_add, pk_mul, nI_clamp, decide_true, Nat.le_refl, bI_eq, bI_z1, nI_ltI, nI_leI, hnj, hb]
        exact jh (v3, y.2) ⟨QF_t y1 q3, by rw [y2, wi_0 hj ha]⟩
      · rename_i ha
        have ha : asB T tp tm ts k i j = true := by simpa using ha
        refine go_at (blk := b_Witness_waysToRise_70) rfl ?_
        simp (disch := omega) only [b_Witness_waysToRise_70, be_4, be_49_1, List.getD_cons_zero, List.getD_cons_succ, List.set_cons_zero, List.set_cons_succ, List.length_cons, List.length_nil, pk_I, pk_A, pr_A, pi_I, st_s, st_n, if_true, if_false, eq_self, d_if, d_ju, d_re, d_ca, cat0, cat1, cat2, cat3, fr_z, fr_s, cc_I, cc_A, cc_N, Nat.reduceAdd, Nat.reduceLT, Nat.reduceLeDiff, Nat.reduceEqDiff, not_true, not_false_iff, z1_0, z1_1, Bool.and_self, Bool.true_and, Bool.and_true, nI_add, pk_mul, nI_clamp, decide_true, Nat.le_refl, bI_eq, bI_z1, nI_ltI, nI_leI, hnj, hb]
        split
        · rename_i hc
          refine go_at (blk := b_Witness_waysToRise_85) rfl ?_
          simp (disch := omega) only [b_Witness_waysToRise_85, be_10, be_0, List.getD_cons_zero, List.getD_cons_succ, List.set_cons_zero, List.set_cons_succ, List.length_cons, List.length_nil, pk_I, pk_A, pr_A, pi_I, st_s, st_n, if_true, if_false, eq_self, d_if, d_ju, d_re, d_ca, cat0, cat1, cat2, cat3, fr_z, fr_s, cc_I, cc_A, cc_N, Nat.reduceAdd, Nat.reduceLT, Nat.reduceLeDiff, Nat.reduceEqDiff, not_true, not_false_iff, z1_0, z1_1, Bool.and_self, Bool.true_and, Bool.and_true, nI_add, pk_mul, nI_clamp, decide_true, Nat.le_refl, bI_eq, bI_z1, nI_ltI, nI_leI, hnj, hb]
          refine go_at (blk := b_Witness_waysToRise_88) rfl ?_
          simp (disch := omega) only [b_Witness_waysToRise_88, be_10, be_51, List.getD_cons_zero, List.getD_cons_succ, List.set_cons_zero, List.set_cons_succ, List.length_cons, List.length_nil, pk_I, pk_A, pr_A, pi_I, st_s, st_n, if_true, if_false, eq_self, d_if, d_ju, d_re, d_ca, cat0, cat1, cat2, cat3, fr_z, fr_s, cc_I, cc_A, cc_N, Nat.reduceAdd, Nat.reduceLT, Nat.reduceLeDiff, Nat.reduceEqDiff, not_true, not_false_iff, z1_0, z1_1, Bool.and_self, Bool.true_and, Bool.and_true, nI_add, pk_mul, nI_clamp, decide_true, Nat.le_refl, bI_eq, bI_z1, nI_ltI, nI_leI, hnj, hb]
          exact jh (v3, y.2 + 1) ⟨QF_t y1 q3, by rw [y2, wi_1 hj ha hc]⟩
        · rename_i hc
          refine go_at (blk := b_Witness_waysToRise_76) rfl ?_
          simp (disch := omega) only [b_Witness_waysToRise_76, be_1, be_4, be_14, be_12, be_54, List.getD_cons_zero, List.getD_cons_succ, List.set_cons_zero, List.set_cons_succ, List.length_cons, List.length_nil, pk_I, pk_A, pr_A, pi_I, st_s, st_n, if_true, if_false, eq_self, d_if, d_ju, d_re, d_ca, cat0, cat1, cat2, cat3, fr_z, fr_s, cc_I, cc_A, cc_N, Nat.reduceAdd, Nat.reduceLT, Nat.reduceLeDiff, Nat.reduceEqDiff, not_true, not_false_iff, z1_0, z1_1, Bool.and_self, Bool.true_and, Bool.and_true, nI_add, pk_mul, nI_clamp, decide_true, Nat.le_refl, bI_eq, bI_z1, nI_ltI, nI_leI, hnj, hb]
          rw [x2, wo_1 hi hb (show wrI T tp tm ts k ii i (lmN tm k) 0 x.2.1 = .inl (nI (100 * i + j)) by rw [y2, wi_2 hj ha (Decidable.not_not.mp hc)])] at hQ
          exact hQ v3 (QF_t x1 (QF_t q2 (QF_t y1 q3)))
    · intro y ⟨y1, y2⟩
      try dsimp only at *
      have hne : (nI (lmN tm k) + (-1) < nI (lmN tm k)) ↔ True := by rw [lm_lt hM (by omega)]; exact ⟨fun _ => trivial, fun _ => Nat.le_refl _⟩
      refine go_at (blk := b_Witness_waysToRise_46) rfl ?_
      simp (disch := omega) only [b_Witness_waysToRise_46, be_4, be_50_0, List.getD_cons_zero, List.getD_cons_succ, List.set_cons_zero, List.set_cons_succ, List.length_cons, List.length_nil, pk_I, pk_A, pr_A, pi_I, st_s, st_n, if_true, if_false, eq_self, d_if, d_ju, d_re, d_ca, cat0, cat1, cat2, cat3, fr_z, fr_s, cc_I, cc_A, cc_N, Nat.reduceAdd, Nat.reduceLT, Nat.reduceLeDiff, Nat.reduceEqDiff, not_true, not_false_iff, z1_0, z1_1, Bool.and_self, Bool.true_and, Bool.and_true, nI_add, pk_mul, nI_clamp, decide_true, Nat.le_refl, bI_eq, bI_z1, nI_ltI, nI_leI, hne, hb]
      refine go_at (blk := b_Witness_waysToRise_51) rfl ?_
      simp (disch := omega) only [b_Witness_waysToRise_51, be_4, be_49_4, List.getD_cons_zero, List.getD_cons_succ, List.set_cons_zero, List.set_cons_succ, List.length_cons, List.length_nil, pk_I, pk_A, pr_A, pi_I, st_s, st_n, if_true, if_false, eq_self, d_if, d_ju, d_re, d_ca, cat0, cat1, cat2, cat3, fr_z, fr_s, cc_I, cc_A, cc_N, Nat.reduceAdd, Nat.reduceLT, Nat.reduceLeDiff, Nat.reduceEqDiff, not_true, not_false_iff, z1_0, z1_1, Bool.and_self, Bool.true_and, Bool.and_true, nI_add, pk_mul, nI_clamp, decide_true, Nat.le_refl, bI_eq, bI_z1, nI_ltI, nI_leI, hne, hb]
      refine go_at (blk := b_Witness_waysToRise_94) rfl ?_
      simp (disch := omega) only [b_Witness_waysToRise_94, be_10, be_51, List.getD_cons_zero, List.getD_cons_succ, List.set_cons_zero, List.set_cons_succ, List.length_cons, List.length_nil, pk_I, pk_A, pr_A, pi_I, st_s, st_n, if_true, if_false, eq_self, d_if, d_ju, d_re, d_ca, cat0, cat1, cat2, cat3, fr_z, fr_s, cc_I, cc_A, cc_N, Nat.reduceAdd, Nat.reduceLT, Nat.reduceLeDiff, Nat.reduceEqDiff, not_true, not_false_iff, z1_0, z1_1, Bool.and_self, Bool.true_and, Bool.and_true, nI_add, pk_mul, nI_clamp, decide_true, Nat.le_refl, bI_eq, bI_z1, nI_ltI, nI_leI, hne, hb]
      exact ih (y.1, y.2, .int _, .int _) ⟨QF_t x1 (QF_t q2 y1), by rw [x2, wo_2 hi hb (show wrI T tp tm ts k ii i (lmN tm k) 0 x.2.1 = .inr y.2 by rw [y2, wi_e])], rfl, rfl⟩
  · intro x ⟨x1, x2, x3, x4⟩
    try dsimp only at *
    have hKx : KI B x.1 T f := KI_q hK x1
    have k1 := hKx.1.2.1
    refine go_at (blk := b_Witness_waysToRise_12) rfl ?_
    simp (disch := omega) only [b_Witness_waysToRise_12, be_4, be_6, be_34, be_33, be_49_3, kc_358, rf_358_0, kc_25, List.getD_cons_zero, List.getD_cons_succ, List.set_cons_zero, List.set_cons_succ, List.length_cons, List.length_nil, pk_I, pk_A, pr_A, pi_I, st_s, st_n, if_true, if_false, eq_self, d_if, d_ju, d_re, d_ca, cat0, cat1, cat2, cat3, fr_z, fr_s, cc_I, cc_A, cc_N, Nat.reduceAdd, Nat.reduceLT, Nat.reduceLeDiff, Nat.reduceEqDiff, not_true, not_false_iff, z1_0, z1_1, Bool.and_self, Bool.true_and, Bool.and_true, nI_add, pk_mul, nI_clamp, decide_true, Nat.le_refl, bI_eq, bI_z1, nI_ltI, nI_leI, k1]
    refine go_at (blk := b_Witness_waysToRise_100) rfl ?_
    simp (disch := omega) only [b_Witness_waysToRise_100, be_4, be_2, be_49_1, List.getD_cons_zero, List.getD_cons_succ, List.set_cons_zero, List.set_cons_succ, List.length_cons, List.length_nil, pk_I, pk_A, pr_A, pi_I, st_s, st_n, if_true, if_false, eq_self, d_if, d_ju, d_re, d_ca, cat0, cat1, cat2, cat3, fr_z, fr_s, cc_I, cc_A, cc_N, Nat.reduceAdd, Nat.reduceLT, Nat.reduceLeDiff, Nat.reduceEqDiff, not_true, not_false_iff, z1_0, z1_1, Bool.and_self, Bool.true_and, Bool.and_true, nI_add, pk_mul, nI_clamp, decide_true, Nat.le_refl, bI_eq, bI_z1, nI_ltI, nI_leI, k1]
    split
    · rename_i hc
      refine go_at (blk := b_Witness_waysToRise_110) rfl ?_
      simp (disch := omega) only [b_Witness_waysToRise_110, be_2, be_0, List.getD_cons_zero, List.getD_cons_succ, List.set_cons_zero, List.set_cons_succ, List.length_cons, List.length_nil, pk_I, pk_A, pr_A, pi_I, st_s, st_n, if_true, if_false, eq_self, d_if, d_ju, d_re, d_ca, cat0, cat1, cat2, cat3, fr_z, fr_s, cc_I, cc_A, cc_N, Nat.reduceAdd, Nat.reduceLT, Nat.reduceLeDiff, Nat.reduceEqDiff, not_true, not_false_iff, z1_0, z1_1, Bool.and_self, Bool.true_and, Bool.and_true, nI_add, pk_mul, nI_clamp, decide_true, Nat.le_refl, bI_eq, bI_z1, nI_ltI, nI_leI, k1]
      refine go_at (blk := b_Witness_waysToRise_111) rfl ?_
      simp (disch := omega) only [b_Witness_waysToRise_111, be_54, List.getD_cons_zero, List.getD_cons_succ, List.set_cons_zero, List.set_cons_succ, List.length_cons, List.length_nil, pk_I, pk_A, pr_A, pi_I, st_s, st_n, if_true, if_false, eq_self, d_if, d_ju, d_re, d_ca, cat0, cat1, cat2, cat3, fr_z, fr_s, cc_I, cc_A, cc_N, Nat.reduceAdd, Nat.reduceLT, Nat.reduceLeDiff, Nat.reduceEqDiff, not_true, not_false_iff, z1_0, z1_1, Bool.and_self, Bool.true_and, Bool.and_true, nI_add, pk_mul, nI_clamp, decide_true, Nat.le_refl, bI_eq, bI_z1, nI_ltI, nI_leI, k1]
      rw [x2, Nat.sub_self, show wrO T tp tm ts k ii 0 (tN T) x.2.1 = -1 from if_neg hc] at hQ
      exact hQ x.1 x1
    · rename_i hc
      refine go_at (blk := b_Witness_waysToRise_105) rfl ?_
      simp (disch := omega) only [b_Witness_waysToRise_105, be_4, be_51, List.getD_cons_zero, List.getD_cons_succ, List.set_cons_zero, List.set_cons_succ, List.length_cons, List.length_nil, pk_I, pk_A, pr_A, pi_I, st_s, st_n, if_true, if_false, eq_self, d_if, d_ju, d_re, d_ca, cat0, cat1, cat2, cat3, fr_z, fr_s, cc_I, cc_A, cc_N, Nat.reduceAdd, Nat.reduceLT, Nat.reduceLeDiff, Nat.reduceEqDiff, not_true, not_false_iff, z1_0, z1_1, Bool.and_self, Bool.true_and, Bool.and_true, nI_add, pk_mul, nI_clamp, decide_true, Nat.le_refl, bI_eq, bI_z1, nI_ltI, nI_leI, k1]
      refine go_at (blk := b_Witness_waysToRise_111) rfl ?_
      simp (disch := omega) only [b_Witness_waysToRise_111, be_54, List.getD_cons_zero, List.getD_cons_succ, List.set_cons_zero, List.set_cons_succ, List.length_cons, List.length_nil, pk_I, pk_A, pr_A, pi_I, st_s, st_n, if_true, if_false, eq_self, d_if, d_ju, d_re, d_ca, cat0, cat1, cat2, cat3, fr_z, fr_s, cc_I, cc_A, cc_N, Nat.reduceAdd, Nat.reduceLT, Nat.reduceLeDiff, Nat.reduceEqDiff, not_true, not_false_iff, z1_0, z1_1, Bool.and_self, Bool.true_and, Bool.and_true, nI_add, pk_mul, nI_clamp, decide_true, Nat.le_refl, bI_eq, bI_z1, nI_ltI, nI_leI, k1]
      rw [x2, Nat.sub_self, show wrO T tp tm ts k ii 0 (tN T) x.2.1 = nI x.2.1 from if_pos (Decidable.not_not.mp hc)] at hQ
      exact hQ x.1 x1
