/-! laid by wip/whole/k8.py: the class: lowest, sets of kneelers, pairs, exchanges -/
def liS (g : Nat → Int32) (l : Int32) : Nat → Int32
  | 0 => l
  | j + 1 => if (onB g (-1) j && (decide (liS g l j = -2) || decide (g j < liS g l j))) = true then g j else liS g l j
theorem li_t {g : Nat → Int32} {l : Int32} {j : Nat} (h : (onB g (-1) j && (decide (liS g l j = -2) || decide (g j < liS g l j))) = true) : liS g l (j + 1) = g j := if_pos h
theorem li_f {g : Nat → Int32} {l : Int32} {j : Nat} (h : (onB g (-1) j && (decide (liS g l j = -2) || decide (g j < liS g l j))) = false) : liS g l (j + 1) = liS g l j := if_neg (by rw [h]; decide)
def loS (T : TXT) (f : Nat → Int32) : Nat → Int32
  | 0 => -2
  | k + 1 => liS (itT T (-1) 0 k f) (loS T f k) (tN T)
set_option maxHeartbeats 1000000 in
theorem k_lowest {d : Nat} {v : Nat → Nat → Int32} {w : Nat → Nat → Int64} {Q : Option Value → am_H → Prop} {T : TXT} {f : Nat → Int32} {B : Int} (hK : KI B v T f) {n : Nat} (hn : n ≤ 300) (hQ : ∀ v', QF v v' → Q (some (.int (loS T f (n + 1)))) (428, 26053, KD, RF, v', w)) : am_Ca (d + 5) M_Forecast_lowestIn [.ref 350, .int (nI n)] (428, 26053, KD, RF, v, w) Q := by
  have h8 := hK.1.1
  have hBB := hK.2.2.2.2.2
  refine ca_in (k := k_Forecast_lowestIn) (nL := 5) rfl (Nat.le_of_ble_eq_true rfl) ?_
  show am_Go am_X0 _ k_Forecast_lowestIn 0 ([.ref 350, .int (nI n), .null, .null, .null], [], _) _
  refine go_at (blk := b_Forecast_lowestIn_0) rfl ?_
  simp (disch := omega) only [b_Forecast_lowestIn_0, be_6, be_34, be_57_1, kc_350, rf_350_2, rf_350_1, kc_352, List.getD_cons_zero, List.getD_cons_succ, List.set_cons_zero, List.set_cons_succ, List.length_cons, List.length_nil, pk_I, pk_A, pr_A, pi_I, st_s, st_n, if_true, if_false, eq_self, d_if, d_ju, d_re, d_ca, cat0, cat1, cat2, cat3, fr_z, fr_s, cc_I, cc_A, cc_N, Nat.reduceAdd, Nat.reduceLT, Nat.reduceLeDiff, Nat.reduceEqDiff, not_true, not_false_iff, z1_0, z1_1, Bool.and_self, Bool.true_and, Bool.and_true, nI_add, pk_mul, nI_clamp, decide_true, Nat.le_refl, bI_eq, bI_z1]
  refine kf_copy hK ?_
  intro v1 q1 r1
  refine go_at (blk := b_Forecast_lowestIn_11) rfl ?_
  simp (disch := omega) only [b_Forecast_lowestIn_11, be_2, be_7, be_1, be_0, List.getD_cons_zero, List.getD_cons_succ, List.set_cons_zero, List.set_cons_succ, List.length_cons, List.length_nil, pk_I, pk_A, pr_A, pi_I, st_s, st_n, if_true, if_false, eq_self, d_if, d_ju, d_re, d_ca, cat0, cat1, cat2, cat3, fr_z, fr_s, cc_I, cc_A, cc_N, Nat.reduceAdd, Nat.reduceLT, Nat.reduceLeDiff, Nat.reduceEqDiff, not_true, not_false_iff, z1_0, z1_1, Bool.and_self, Bool.true_and, Bool.and_true, nI_add, pk_mul, nI_clamp, decide_true, Nat.le_refl, bI_eq, bI_z1]
  refine go_loopA (α := (Nat → Nat → Int32) × Value) (fun i x => ([.ref 350, .int (nI n), .int (loS T f i), .int (nI i), x.2], [], (428, 26053, KD, RF, x.1, w))) (fun i x => QF v x.1 ∧ RX x.1 352 (tN T) (-1) 0 (itT T (-1) 0 i f) ∧ GR (B + i) (tN T) (itT T (-1) 0 i f) ∧ am_cc x.2 = true) (n + 1) ?_ ?_ (v1, .null) ⟨q1, r1, by rw [show B + ((0 : Nat) : Int) = B by omega]; exact hK.2.2.1, rfl⟩
  · intro i x hi ⟨x1, x2, x3, x5⟩ ih
    try dsimp only at *
    have hKx : KI B x.1 T f := KI_q hK x1
    have k1 := hKx.1.2.1
    have hni : ¬ n < i := by omega
    refine go_at (blk := b_Forecast_lowestIn_16) rfl ?_
    simp (disch := omega) only [b_Forecast_lowestIn_16, be_4, be_49_4, List.getD_cons_zero, List.getD_cons_succ, List.set_cons_zero, List.set_cons_succ, List.length_cons, List.length_nil, pk_I, pk_A, pr_A, pi_I, st_s, st_n, if_true, if_false, eq_self, d_if, d_ju, d_re, d_ca, cat0, cat1, cat2, cat3, fr_z, fr_s, cc_I, cc_A, cc_N, Nat.reduceAdd, Nat.reduceLT, Nat.reduceLeDiff, Nat.reduceEqDiff, not_true, not_false_iff, z1_0, z1_1, Bool.and_self, Bool.true_and, Bool.and_true, nI_add, pk_mul, nI_clamp, decide_true, Nat.le_refl, bI_eq, bI_z1, nI_ltI, nI_leI, hni, x5]
    refine go_at (blk := b_Forecast_lowestIn_21) rfl ?_
    simp (disch := omega) only [b_Forecast_lowestIn_21, be_1, be_7, be_0, List.getD_cons_zero, List.getD_cons_succ, List.set_cons_zero, List.set_cons_succ, List.length_cons, List.length_nil, pk_I, pk_A, pr_A, pi_I, st_s, st_n, if_true, if_false, eq_self, d_if, d_ju, d_re, d_ca, cat0, cat1, cat2, cat3, fr_z, fr_s, cc_I, cc_A, cc_N, Nat.reduceAdd, Nat.reduceLT, Nat.reduceLeDiff, Nat.reduceEqDiff, not_true, not_false_iff, z1_0, z1_1, Bool.and_self, Bool.true_and, Bool.and_true, nI_add, pk_mul, nI_clamp, decide_true, Nat.le_refl, bI_eq, bI_z1, nI_ltI, nI_leI, hni, x5]
    refine go_loopA (α := Unit) (fun j z => ([.ref 350, .int (nI n), .int (liS (itT T (-1) 0 i f) (loS T f i) j), .int (nI i), .int (nI j)], [], (428, 26053, KD, RF, x.1, w))) (fun j z => True) (tN T) ?_ ?_ () trivial
    · intro j _ hj _ jh
      try dsimp only at *
      have hnj : ¬ tN T ≤ j := by omega
      refine go_at (blk := b_Forecast_lowestIn_24) rfl ?_
      simp (disch := omega) only [b_Forecast_lowestIn_24, be_4, be_6, be_34, be_33, be_49_3, kc_350, rf_350_0, kc_25, List.getD_cons_zero, List.getD_cons_succ, List.set_cons_zero, List.set_cons_succ, List.length_cons, List.length_nil, pk_I, pk_A, pr_A, pi_I, st_s, st_n, if_true, if_false, eq_self, d_if, d_ju, d_re, d_ca, cat0, cat1, cat2, cat3, fr_z, fr_s, cc_I, cc_A, cc_N, Nat.reduceAdd, Nat.reduceLT, Nat.reduceLeDiff, Nat.reduceEqDiff, not_true, not_false_iff, z1_0, z1_1, Bool.and_self, Bool.true_and, Bool.and_true, nI_add, pk_mul, nI_clamp, decide_true, Nat.le_refl, bI_eq, bI_z1, nI_ltI, nI_leI, hni, k1, hnj]
      refine go_at (blk := b_Forecast_lowestIn_36) rfl ?_
      simp (disch := omega) only [b_Forecast_lowestIn_36, be_6, be_34, be_4, be_57_1, kc_350, rf_350_2, kc_352, List.getD_cons_zero, List.getD_cons_succ, List.set_cons_zero, List.set_cons_succ, List.length_cons, List.length_nil, pk_I, pk_A, pr_A, pi_I, st_s, st_n, if_true, if_false, eq_self, d_if, d_ju, d_re, d_ca, cat0, cat1, cat2, cat3, fr_z, fr_s, cc_I, cc_A, cc_N, Nat.reduceAdd, Nat.reduceLT, Nat.reduceLeDiff, Nat.reduceEqDiff, not_true, not_false_iff, z1_0, z1_1, Bool.and_self, Bool.true_and, Bool.and_true, nI_add, pk_mul, nI_clamp, decide_true, Nat.le_refl, bI_eq, bI_z1, nI_ltI, nI_leI, hni, k1, hnj]
      refine kf_isOn hKx x2 x3 hj ?_
      refine go_at (blk := b_Forecast_lowestIn_45) rfl ?_
      simp (disch := omega) only [b_Forecast_lowestIn_45, be_50_0, List.getD_cons_zero, List.getD_cons_succ, List.set_cons_zero, List.set_cons_succ, List.length_cons, List.length_nil, pk_I, pk_A, pr_A, pi_I, st_s, st_n, if_true, if_false, eq_self, d_if, d_ju, d_re, d_ca, cat0, cat1, cat2, cat3, fr_z, fr_s, cc_I, cc_A, cc_N, Nat.reduceAdd, Nat.reduceLT, Nat.reduceLeDiff, Nat.reduceEqDiff, not_true, not_false_iff, z1_0, z1_1, Bool.and_self, Bool.true_and, Bool.and_true, nI_add, pk_mul, nI_clamp, decide_true, Nat.le_refl, bI_eq, bI_z1, nI_ltI, nI_leI, hni, k1, hnj]
      split
      · rename_i ha
        refine go_at (blk := b_Forecast_lowestIn_79) rfl ?_
        simp (disch := omega) only [b_Forecast_lowestIn_79, be_10, be_51, List.getD_cons_zero, List.getD_cons_succ, List.set_cons_zero, List.set_cons_succ, List.length_cons, List.length_nil, pk_I, pk_A, pr_A, pi_I, st_s, st_n, if_true, if_false, eq_self, d_if, d_ju, d_re, d_ca, cat0, cat1, cat2, cat3, fr_z, fr_s, cc_I, cc_A, cc_N, Nat.reduceAdd, Nat.reduceLT, Nat.reduceLeDiff, Nat.reduceEqDiff, not_true, not_false_iff, z1_0, z1_1, Bool.and_self, Bool.true_and, Bool.and_true, nI_add, pk_mul, nI_clamp, decide_true, Nat.le_refl, bI_eq, bI_z1, nI_ltI, nI_leI, hni, k1, hnj]
        have ha : onB (itT T (-1) 0 i f) (-1) j = false := ha
        simp only [li_f (show (onB (itT T (-1) 0 i f) (-1) j && (decide ((liS (itT T (-1) 0 i f) (loS T f i) j) = -2) || decide ((itT T (-1) 0 i f) j < (liS (itT T (-1) 0 i f) (loS T f i) j)))) = false by rw [ha]; rfl)] at jh
        exact jh () trivial
      · rename_i ha
        have ha : onB (itT T (-1) 0 i f) (-1) j = true := by simpa using ha
        have e1 : x.1 353 j = (itT T (-1) 0 i f) j := RX_st x2 hj (nI_m (by omega))
        refine go_at (blk := b_Forecast_lowestIn_48) rfl ?_
        simp (disch := omega) only [b_Forecast_lowestIn_48, be_4, be_2, be_49_0, List.getD_cons_zero, List.getD_cons_succ, List.set_cons_zero, List.set_cons_succ, List.length_cons, List.length_nil, pk_I, pk_A, pr_A, pi_I, st_s, st_n, if_true, if_false, eq_self, d_if, d_ju, d_re, d_ca, cat0, cat1, cat2, cat3, fr_z, fr_s, cc_I, cc_A, cc_N, Nat.reduceAdd, Nat.reduceLT, Nat.reduceLeDiff, Nat.reduceEqDiff, not_true, not_false_iff, z1_0, z1_1, Bool.and_self, Bool.true_and, Bool.and_true, nI_add, pk_mul, nI_clamp, decide_true, Nat.le_refl, bI_eq, bI_z1, nI_ltI, nI_leI, hni, k1, hnj, e1]
        split
        · rename_i hb
          refine go_at (blk := b_Forecast_lowestIn_68) rfl ?_
          simp (disch := omega) only [b_Forecast_lowestIn_68, be_6, be_34, be_4, be_38, be_7, be_0, kc_350, rf_350_2, kc_352, rf_352_1, ka_353, List.getD_cons_zero, List.getD_cons_succ, List.set_cons_zero, List.set_cons_succ, List.length_cons, List.length_nil, pk_I, pk_A, pr_A, pi_I, st_s, st_n, if_true, if_false, eq_self, d_if, d_ju, d_re, d_ca, cat0, cat1, cat2, cat3, fr_z, fr_s, cc_I, cc_A, cc_N, Nat.reduceAdd, Nat.reduceLT, Nat.reduceLeDiff, Nat.reduceEqDiff, not_true, not_false_iff, z1_0, z1_1, Bool.and_self, Bool.true_and, Bool.and_true, nI_add, pk_mul, nI_clamp, decide_true, Nat.le_refl, bI_eq, bI_z1, nI_ltI, nI_leI, hni, k1, hnj, e1]
          refine go_at (blk := b_Forecast_lowestIn_79) rfl ?_
          simp (disch := omega) only [b_Forecast_lowestIn_79, be_10, be_51, List.getD_cons_zero, List.getD_cons_succ, List.set_cons_zero, List.set_cons_succ, List.length_cons, List.length_nil, pk_I, pk_A, pr_A, pi_I, st_s, st_n, if_true, if_false, eq_self, d_if, d_ju, d_re, d_ca, cat0, cat1, cat2, cat3, fr_z, fr_s, cc_I, cc_A, cc_N, Nat.reduceAdd, Nat.reduceLT, Nat.reduceLeDiff, Nat.reduceEqDiff, not_true, not_false_iff, z1_0, z1_1, Bool.and_self, Bool.true_and, Bool.and_true, nI_add, pk_mul, nI_clamp, decide_true, Nat.le_refl, bI_eq, bI_z1, nI_ltI, nI_leI, hni, k1, hnj, e1]
          simp only [li_t (show (onB (itT T (-1) 0 i f) (-1) j && (decide ((liS (itT T (-1) 0 i f) (loS T f i) j) = -2) || decide ((itT T (-1) 0 i f) j < (liS (itT T (-1) 0 i f) (loS T f i) j)))) = true by rw [ha, hb]; simp)] at jh
          exact jh () trivial
        · rename_i hb
          refine go_at (blk := b_Forecast_lowestIn_54) rfl ?_
          simp (disch := omega) only [b_Forecast_lowestIn_54, be_6, be_34, be_4, be_38, be_49_3, kc_350, rf_350_2, kc_352, rf_352_1, ka_353, List.getD_cons_zero, List.getD_cons_succ, List.set_cons_zero, List.set_cons_succ, List.length_cons, List.length_nil, pk_I, pk_A, pr_A, pi_I, st_s, st_n, if_true, if_false, eq_self, d_if, d_ju, d_re, d_ca, cat0, cat1, cat2, cat3, fr_z, fr_s, cc_I, cc_A, cc_N, Nat.reduceAdd, Nat.reduceLT, Nat.reduceLeDiff, Nat.reduceEqDiff, not_true, not_false_iff, z1_0, z1_1, Bool.and_self, Bool.true_and, Bool.and_true, nI_add, pk_mul, nI_clamp, decide_true, Nat.le_refl, bI_eq, bI_z1, nI_ltI, nI_leI, hni, k1, hnj, e1]
          split
          · rename_i hc
            refine go_at (blk := b_Forecast_lowestIn_79) rfl ?_
            simp (disch := omega) only [b_Forecast_lowestIn_79, be_10, be_51, List.getD_cons_zero, List.getD_cons_succ, List.set_cons_zero, List.set_cons_succ, List.length_cons, List.length_nil, pk_I, pk_A, pr_A, pi_I, st_s, st_n, if_true, if_false, eq_self, d_if, d_ju, d_re, d_ca, cat0, cat1, cat2, cat3, fr_z, fr_s, cc_I, cc_A, cc_N, Nat.reduceAdd, Nat.reduceLT, Nat.reduceLeDiff, Nat.reduceEqDiff, not_true, not_false_iff, z1_0, z1_1, Bool.and_self, Bool.true_and, Bool.and_true, nI_add, pk_mul, nI_clamp, decide_true, Nat.le_refl, bI_eq, bI_z1, nI_ltI, nI_leI, hni, k1, hnj, e1]
            simp only [li_f (show (onB (itT T (-1) 0 i f) (-1) j && (decide ((liS (itT T (-1) 0 i f) (loS T f i) j) = -2) || decide ((itT T (-1) 0 i f) j < (liS (itT T (-1) 0 i f) (loS T f i) j)))) = false by rw [ha, decide_eq_false hb, decide_eq_false (Int32.not_lt.mpr hc)]; rfl)] at jh
            exact jh () trivial
          · rename_i hc
            refine go_at (blk := b_Forecast_lowestIn_68) rfl ?_
            simp (disch := omega) only [b_Forecast_lowestIn_68, be_6, be_34, be_4, be_38, be_7, be_0, kc_350, rf_350_2, kc_352, rf_352_1, ka_353, List.getD_cons_zero, List.getD_cons_succ, List.set_cons_zero, List.set_cons_succ, List.length_cons, List.length_nil, pk_I, pk_A, pr_A, pi_I, st_s, st_n, if_true, if_false, eq_self, d_if, d_ju, d_re, d_ca, cat0, cat1, cat2, cat3, fr_z, fr_s, cc_I, cc_A, cc_N, Nat.reduceAdd, Nat.reduceLT, Nat.reduceLeDiff, Nat.reduceEqDiff, not_true, not_false_iff, z1_0, z1_1, Bool.and_self, Bool.true_and, Bool.and_true, nI_add, pk_mul, nI_clamp, decide_true, Nat.le_refl, bI_eq, bI_z1, nI_ltI, nI_leI, hni, k1, hnj, e1]
            refine go_at (blk := b_Forecast_lowestIn_79) rfl ?_
            simp (disch := omega) only [b_Forecast_lowestIn_79, be_10, be_51, List.getD_cons_zero, List.getD_cons_succ, List.set_cons_zero, List.set_cons_succ, List.length_cons, List.length_nil, pk_I, pk_A, pr_A, pi_I, st_s, st_n, if_true, if_false, eq_self, d_if, d_ju, d_re, d_ca, cat0, cat1, cat2, cat3, fr_z, fr_s, cc_I, cc_A, cc_N, Nat.reduceAdd, Nat.reduceLT, Nat.reduceLeDiff, Nat.reduceEqDiff, not_true, not_false_iff, z1_0, z1_1, Bool.and_self, Bool.true_and, Bool.and_true, nI_add, pk_mul, nI_clamp, decide_true, Nat.le_refl, bI_eq, bI_z1, nI_ltI, nI_leI, hni, k1, hnj, e1]
            simp only [li_t (show (onB (itT T (-1) 0 i f) (-1) j && (decide ((liS (itT T (-1) 0 i f) (loS T f i) j) = -2) || decide ((itT T (-1) 0 i f) j < (liS (itT T (-1) 0 i f) (loS T f i) j)))) = true by rw [ha, decide_eq_true (Int32.not_le.mp hc)]; simp)] at jh
            exact jh () trivial
    · intro _ _
      try dsimp only at *
      refine go_at (blk := b_Forecast_lowestIn_24) rfl ?_
      simp (disch := omega) only [b_Forecast_lowestIn_24, be_4, be_6, be_34, be_33, be_49_3, kc_350, rf_350_0, kc_25, List.getD_cons_zero, List.getD_cons_succ, List.set_cons_zero, List.set_cons_succ, List.length_cons, List.length_nil, pk_I, pk_A, pr_A, pi_I, st_s, st_n, if_true, if_false, eq_self, d_if, d_ju, d_re, d_ca, cat0, cat1, cat2, cat3, fr_z, fr_s, cc_I, cc_A, cc_N, Nat.reduceAdd, Nat.reduceLT, Nat.reduceLeDiff, Nat.reduceEqDiff, not_true, not_false_iff, z1_0, z1_1, Bool.and_self, Bool.true_and, Bool.and_true, nI_add, pk_mul, nI_clamp, decide_true, Nat.le_refl, bI_eq, bI_z1, nI_ltI, nI_leI, k1]
      refine go_at (blk := b_Forecast_lowestIn_85) rfl ?_
      simp (disch := omega) only [b_Forecast_lowestIn_85, be_6, be_34, be_1, be_57_1, kc_350, rf_350_2, kc_352, List.getD_cons_zero, List.getD_cons_succ, List.set_cons_zero, List.set_cons_succ, List.length_cons, List.length_nil, pk_I, pk_A, pr_A, pi_I, st_s, st_n, if_true, if_false, eq_self, d_if, d_ju, d_re, d_ca, cat0, cat1, cat2, cat3, fr_z, fr_s, cc_I, cc_A, cc_N, Nat.reduceAdd, Nat.reduceLT, Nat.reduceLeDiff, Nat.reduceEqDiff, not_true, not_false_iff, z1_0, z1_1, Bool.and_self, Bool.true_and, Bool.and_true, nI_add, pk_mul, nI_clamp, decide_true, Nat.le_refl, bI_eq, bI_z1, nI_ltI, nI_leI, k1]
      refine kf_pass (k := 1) hKx x2 x3 (by omega) (by omega) ?_
      intro v2 q2 r2 g2
      refine go_at (blk := b_Forecast_lowestIn_93) rfl ?_
      simp (disch := omega) only [b_Forecast_lowestIn_93, be_10, be_51, List.getD_cons_zero, List.getD_cons_succ, List.set_cons_zero, List.set_cons_succ, List.length_cons, List.length_nil, pk_I, pk_A, pr_A, pi_I, st_s, st_n, if_true, if_false, eq_self, d_if, d_ju, d_re, d_ca, cat0, cat1, cat2, cat3, fr_z, fr_s, cc_I, cc_A, cc_N, Nat.reduceAdd, Nat.reduceLT, Nat.reduceLeDiff, Nat.reduceEqDiff, not_true, not_false_iff, z1_0, z1_1, Bool.and_self, Bool.true_and, Bool.and_true, nI_add, pk_mul, nI_clamp, decide_true, Nat.le_refl, bI_eq, bI_z1, nI_ltI, nI_leI, k1]
      exact ih (v2, .int _) ⟨QF_t x1 q2, r2, GR_s g2, rfl⟩
  · intro x ⟨x1, x2, x3, x5⟩
    try dsimp only at *
    refine go_at (blk := b_Forecast_lowestIn_16) rfl ?_
    simp (disch := omega) only [b_Forecast_lowestIn_16, be_4, be_49_4, List.getD_cons_zero, List.getD_cons_succ, List.set_cons_zero, List.set_cons_succ, List.length_cons, List.length_nil, pk_I, pk_A, pr_A, pi_I, st_s, st_n, if_true, if_false, eq_self, d_if, d_ju, d_re, d_ca, cat0, cat1, cat2, cat3, fr_z, fr_s, cc_I, cc_A, cc_N, Nat.reduceAdd, Nat.reduceLT, Nat.reduceLeDiff, Nat.reduceEqDiff, not_true, not_false_iff, z1_0, z1_1, Bool.and_self, Bool.true_and, Bool.and_true, nI_add, pk_mul, nI_clamp, decide_true, Nat.le_refl, bI_eq, bI_z1, nI_ltI, nI_leI, Nat.lt_add_one]
    refine go_at (blk := b_Forecast_lowestIn_99) rfl ?_
    simp (disch := omega) only [b_Forecast_lowestIn_99, be_4, be_54, List.getD_cons_zero, List.getD_cons_succ, List.set_cons_zero, List.set_cons_succ, List.length_cons, List.length_nil, pk_I, pk_A, pr_A, pi_I, st_s, st_n, if_true, if_false, eq_self, d_if, d_ju, d_re, d_ca, cat0, cat1, cat2, cat3, fr_z, fr_s, cc_I, cc_A, cc_N, Nat.reduceAdd, Nat.reduceLT, Nat.reduceLeDiff, Nat.reduceEqDiff, not_true, not_false_iff, z1_0, z1_1, Bool.and_self, Bool.true_and, Bool.and_true, nI_add, pk_mul, nI_clamp, decide_true, Nat.le_refl, bI_eq, bI_z1, nI_ltI, nI_leI, Nat.lt_add_one]
    exact hQ _ x1
set_option maxHeartbeats 1000000 in
theorem k_try {d : Nat} {v : Nat → Nat → Int32} {w : Nat → Nat → Int64} {Q : Option Value → am_H → Prop} {T : TXT} {f : Nat → Int32} {B : Int} (hK : KI B v T f) {s n : Nat} (hs : s < 256) (hn : n ≤ 300) (hQ : ∀ v', QF v v' → RX v' 352 (tN T) (-1) 0 (itT T (-1) 0 n (knS s f)) → GR (B + n) (tN T) (itT T (-1) 0 n (knS s f)) → Q none (428, 26053, KD, RF, v', w)) : am_Ca (d + 5) M_Forecast_tryKneelers [.ref 350, .int (nI s), .int (nI n)] (428, 26053, KD, RF, v, w) Q := by
  have h8 := hK.1.1
  have hBB := hK.2.2.2.2.2
  refine ca_in (k := k_Forecast_tryKneelers) (nL := 3) rfl (Nat.le_of_ble_eq_true rfl) ?_
  show am_Go am_X0 _ k_Forecast_tryKneelers 0 ([.ref 350, .int (nI s), .int (nI n)], [], _) _
  refine go_at (blk := b_Forecast_tryKneelers_0) rfl ?_
  simp (disch := omega) only [b_Forecast_tryKneelers_0, be_6, be_34, be_57_1, kc_350, rf_350_2, rf_350_1, kc_352, List.getD_cons_zero, List.getD_cons_succ, List.set_cons_zero, List.set_cons_succ, List.length_cons, List.length_nil, pk_I, pk_A, pr_A, pi_I, st_s, st_n, if_true, if_false, eq_self, d_if, d_ju, d_re, d_ca, cat0, cat1, cat2, cat3, fr_z, fr_s, cc_I, cc_A, cc_N, Nat.reduceAdd, Nat.reduceLT, Nat.reduceLeDiff, Nat.reduceEqDiff, not_true, not_false_iff, z1_0, z1_1, Bool.and_self, Bool.true_and, Bool.and_true, nI_add, pk_mul, nI_clamp, decide_true, Nat.le_refl, bI_eq, bI_z1]
  refine kf_copy hK ?_
  intro v1 q1 r1
  refine go_at (blk := b_Forecast_tryKneelers_11) rfl ?_
  simp (disch := omega) only [b_Forecast_tryKneelers_11, be_6, be_34, be_4, be_57_1, kc_350, rf_350_2, kc_352, List.getD_cons_zero, List.getD_cons_succ, List.set_cons_zero, List.set_cons_succ, List.length_cons, List.length_nil, pk_I, pk_A, pr_A, pi_I, st_s, st_n, if_true, if_false, eq_self, d_if, d_ju, d_re, d_ca, cat0, cat1, cat2, cat3, fr_z, fr_s, cc_I, cc_A, cc_N, Nat.reduceAdd, Nat.reduceLT, Nat.reduceLeDiff, Nat.reduceEqDiff, not_true, not_false_iff, z1_0, z1_1, Bool.and_self, Bool.true_and, Bool.and_true, nI_add, pk_mul, nI_clamp, decide_true, Nat.le_refl, bI_eq, bI_z1]
  refine k_letKneelJust st_352 (KI_q hK q1).1 r1 hs ?_
  intro v2 c2 r2
  have q2 := QF_c c2
  refine go_at (blk := b_Forecast_tryKneelers_19) rfl ?_
  simp (disch := omega) only [b_Forecast_tryKneelers_19, be_6, be_34, be_4, be_57_1, kc_350, rf_350_2, kc_352, List.getD_cons_zero, List.getD_cons_succ, List.set_cons_zero, List.set_cons_succ, List.length_cons, List.length_nil, pk_I, pk_A, pr_A, pi_I, st_s, st_n, if_true, if_false, eq_self, d_if, d_ju, d_re, d_ca, cat0, cat1, cat2, cat3, fr_z, fr_s, cc_I, cc_A, cc_N, Nat.reduceAdd, Nat.reduceLT, Nat.reduceLeDiff, Nat.reduceEqDiff, not_true, not_false_iff, z1_0, z1_1, Bool.and_self, Bool.true_and, Bool.and_true, nI_add, pk_mul, nI_clamp, decide_true, Nat.le_refl, bI_eq, bI_z1]
  refine kf_pass (k := n) (KI_q hK (QF_t q1 q2)) r2 (GR_kn h8 hK.2.2.1) (by omega) (by omega) ?_
  intro v3 q3 r3 g3
  refine go_at (blk := b_Forecast_tryKneelers_27) rfl ?_
  simp (disch := omega) only [b_Forecast_tryKneelers_27, be_56, List.getD_cons_zero, List.getD_cons_succ, List.set_cons_zero, List.set_cons_succ, List.length_cons, List.length_nil, pk_I, pk_A, pr_A, pi_I, st_s, st_n, if_true, if_false, eq_self, d_if, d_ju, d_re, d_ca, cat0, cat1, cat2, cat3, fr_z, fr_s, cc_I, cc_A, cc_N, Nat.reduceAdd, Nat.reduceLT, Nat.reduceLeDiff, Nat.reduceEqDiff, not_true, not_false_iff, z1_0, z1_1, Bool.and_self, Bool.true_and, Bool.and_true, nI_add, pk_mul, nI_clamp, decide_true, Nat.le_refl, bI_eq, bI_z1]
  exact hQ v3 (QF_t q1 (QF_t q2 q3)) r3 g3
set_option maxHeartbeats 1000000 in
theorem k_allSteps {d : Nat} {v : Nat → Nat → Int32} {w : Nat → Nat → Int64} {Q : Option Value → am_H → Prop} {T : TXT} {f : Nat → Int32} {B : Int} (hK : KI B v T f) {g : Nat → Int32} (hr : RX v 352 (tN T) (-1) 0 g) (hQ : Q (some (.int (smI 0 g (tN T)))) (428, 26053, KD, RF, v, w)) : am_Ca (d + 1) M_Forecast_allSteps [.ref 350] (428, 26053, KD, RF, v, w) Q := by
  have h8 := hK.1.1
  have hBB := hK.2.2.2.2.2
  have k1 := hK.1.2.1
  refine ca_in (k := k_Forecast_allSteps) (nL := 3) rfl (Nat.le_of_ble_eq_true rfl) ?_
  show am_Go am_X0 _ k_Forecast_allSteps 0 ([.ref 350, .null, .null], [], _) _
  refine go_at (blk := b_Forecast_allSteps_0) rfl ?_
  simp (disch := omega) only [b_Forecast_allSteps_0, be_1, be_7, be_0, List.getD_cons_zero, List.getD_cons_succ, List.set_cons_zero, List.set_cons_succ, List.length_cons, List.length_nil, pk_I, pk_A, pr_A, pi_I, st_s, st_n, if_true, if_false, eq_self, d_if, d_ju, d_re, d_ca, cat0, cat1, cat2, cat3, fr_z, fr_s, cc_I, cc_A, cc_N, Nat.reduceAdd, Nat.reduceLT, Nat.reduceLeDiff, Nat.reduceEqDiff, not_true, not_false_iff, z1_0, z1_1, Bool.and_self, Bool.true_and, Bool.and_true, nI_add, pk_mul, nI_clamp, decide_true, Nat.le_refl, bI_eq, bI_z1]
  refine go_loop (fun i => ([.ref 350, .int (smI 0 g i), .int (nI i)], [], (428, 26053, KD, RF, v, w))) (tN T) ?_ ?_
  · intro i hi ih
    have hni : ¬ tN T ≤ i := by omega
    have e1 : v 353 i = g i := RX_st hr hi (nI_m (by omega))
    try dsimp only at ih ⊢
    refine go_at (blk := b_Forecast_allSteps_4) rfl ?_
    simp (disch := omega) only [b_Forecast_allSteps_4, be_4, be_6, be_34, be_33, be_49_3, kc_350, rf_350_0, kc_25, List.getD_cons_zero, List.getD_cons_succ, List.set_cons_zero, List.set_cons_succ, List.length_cons, List.length_nil, pk_I, pk_A, pr_A, pi_I, st_s, st_n, if_true, if_false, eq_self, d_if, d_ju, d_re, d_ca, cat0, cat1, cat2, cat3, fr_z, fr_s, cc_I, cc_A, cc_N, Nat.reduceAdd, Nat.reduceLT, Nat.reduceLeDiff, Nat.reduceEqDiff, not_true, not_false_iff, z1_0, z1_1, Bool.and_self, Bool.true_and, Bool.and_true, nI_add, pk_mul, nI_clamp, decide_true, Nat.le_refl, bI_eq, bI_z1, nI_ltI, nI_leI, k1, e1, hni]
    refine go_at (blk := b_Forecast_allSteps_15) rfl ?_
    simp (disch := omega) only [b_Forecast_allSteps_15, be_4, be_6, be_34, be_38, be_12, be_7, be_10, be_51, kc_350, rf_350_2, kc_352, rf_352_1, ka_353, List.getD_cons_zero, List.getD_cons_succ, List.set_cons_zero, List.set_cons_succ, List.length_cons, List.length_nil, pk_I, pk_A, pr_A, pi_I, st_s, st_n, if_true, if_false, eq_self, d_if, d_ju, d_re, d_ca, cat0, cat1, cat2, cat3, fr_z, fr_s, cc_I, cc_A, cc_N, Nat.reduceAdd, Nat.reduceLT, Nat.reduceLeDiff, Nat.reduceEqDiff, not_true, not_false_iff, z1_0, z1_1, Bool.and_self, Bool.true_and, Bool.and_true, nI_add, pk_mul, nI_clamp, decide_true, Nat.le_refl, bI_eq, bI_z1, nI_ltI, nI_leI, k1, e1, hni]
    exact ih
  · have e1 : (1 : Nat) = 1 := rfl
    try dsimp only
    refine go_at (blk := b_Forecast_allSteps_4) rfl ?_
    simp (disch := omega) only [b_Forecast_allSteps_4, be_4, be_6, be_34, be_33, be_49_3, kc_350, rf_350_0, kc_25, List.getD_cons_zero, List.getD_cons_succ, List.set_cons_zero, List.set_cons_succ, List.length_cons, List.length_nil, pk_I, pk_A, pr_A, pi_I, st_s, st_n, if_true, if_false, eq_self, d_if, d_ju, d_re, d_ca, cat0, cat1, cat2, cat3, fr_z, fr_s, cc_I, cc_A, cc_N, Nat.reduceAdd, Nat.reduceLT, Nat.reduceLeDiff, Nat.reduceEqDiff, not_true, not_false_iff, z1_0, z1_1, Bool.and_self, Bool.true_and, Bool.and_true, nI_add, pk_mul, nI_clamp, decide_true, Nat.le_refl, bI_eq, bI_z1, nI_ltI, nI_leI, k1, e1]
    refine go_at (blk := b_Forecast_allSteps_33) rfl ?_
    simp (disch := omega) only [b_Forecast_allSteps_33, be_4, be_54, List.getD_cons_zero, List.getD_cons_succ, List.set_cons_zero, List.set_cons_succ, List.length_cons, List.length_nil, pk_I, pk_A, pr_A, pi_I, st_s, st_n, if_true, if_false, eq_self, d_if, d_ju, d_re, d_ca, cat0, cat1, cat2, cat3, fr_z, fr_s, cc_I, cc_A, cc_N, Nat.reduceAdd, Nat.reduceLT, Nat.reduceLeDiff, Nat.reduceEqDiff, not_true, not_false_iff, z1_0, z1_1, Bool.and_self, Bool.true_and, Bool.and_true, nI_add, pk_mul, nI_clamp, decide_true, Nat.le_refl, bI_eq, bI_z1, nI_ltI, nI_leI, k1, e1]
    exact hQ
theorem bt_2 : ∀ j, j < 8 → ∀ i, i < j → (nI 1 <<< (nI i &&& 31)) ||| (nI 1 <<< (nI j &&& 31)) = nI (2 ^ i + 2 ^ j) ∧ 2 ^ i + 2 ^ j < 256 := by decide +kernel
def b2P (T : TXT) (f : Nat → Int32) (n i j : Nat) (a : Int32 × Int32) : Int32 × Int32 := if (mayB f (-1) (tS T) i && mayB f (-1) (tS T) j) = true then (if a.2 < smI 0 (itT T (-1) 0 n (knS (2 ^ i + 2 ^ j) f)) (tN T) then (nI (10 * i + j), smI 0 (itT T (-1) 0 n (knS (2 ^ i + 2 ^ j) f)) (tN T)) else a) else a
def b2I (T : TXT) (f : Nat → Int32) (n i : Nat) (a : Int32 × Int32) : Nat → Int32 × Int32
  | 0 => a
  | m + 1 => b2P T f n i (i + 1 + m) (b2I T f n i a m)
def b2S (T : TXT) (f : Nat → Int32) (n : Nat) : Nat → Int32 × Int32
  | 0 => (-2, -2)
  | i + 1 => b2I T f n i (b2S T f n i) (tN T - (i + 1))
theorem b2_0 {T : TXT} {f : Nat → Int32} {n i j : Nat} {a : Int32 × Int32} (h : (mayB f (-1) (tS T) i && mayB f (-1) (tS T) j) = false) : b2P T f n i j a = a := if_neg (by rw [h]; decide)
theorem b2_1 {T : TXT} {f : Nat → Int32} {n i j : Nat} {a : Int32 × Int32} (h : (mayB f (-1) (tS T) i && mayB f (-1) (tS T) j) = true) (h2 : ¬ a.2 < smI 0 (itT T (-1) 0 n (knS (2 ^ i + 2 ^ j) f)) (tN T)) : b2P T f n i j a = a := by
  unfold b2P
  rw [if_pos h, if_neg h2]
theorem b2_2 {T : TXT} {f : Nat → Int32} {n i j : Nat} {a : Int32 × Int32} (h : (mayB f (-1) (tS T) i && mayB f (-1) (tS T) j) = true) (h2 : a.2 < smI 0 (itT T (-1) 0 n (knS (2 ^ i + 2 ^ j) f)) (tN T)) : b2P T f n i j a = (nI (10 * i + j), smI 0 (itT T (-1) 0 n (knS (2 ^ i + 2 ^ j) f)) (tN T)) := by
  unfold b2P
  rw [if_pos h, if_pos h2]
theorem b2_i {T : TXT} {f : Nat → Int32} {n i m : Nat} {a b : Int32 × Int32} (h : b2P T f n i (i + 1 + m) (b2I T f n i a m) = b) : b2I T f n i a (m + 1) = b := h
set_option maxHeartbeats 1000000 in
theorem k_bestPair {d : Nat} {v : Nat → Nat → Int32} {w : Nat → Nat → Int64} {Q : Option Value → am_H → Prop} {T : TXT} {f : Nat → Int32} {B : Int} (hK : KI B v T f) {n : Nat} {wh : Int32} (hn : n ≤ 300) (hQ : ∀ v', QF v v' → Q (some (.int (if wh = 0 then (b2S T f n (tN T)).2 else (b2S T f n (tN T)).1))) (428, 26053, KD, RF, v', w)) : am_Ca (d + 6) M_Forecast_bestPair [.ref 350, .int (nI n), .int wh] (428, 26053, KD, RF, v, w) Q := by
  have h8 := hK.1.1
  have hBB := hK.2.2.2.2.2
  refine ca_in (k := k_Forecast_bestPair) (nL := 8) rfl (Nat.le_of_ble_eq_true rfl) ?_
  show am_Go am_X0 _ k_Forecast_bestPair 0 ([.ref 350, .int (nI n), .int wh, .null, .null, .null, .null, .null], [], _) _
  refine go_at (blk := b_Forecast_bestPair_0) rfl ?_
  simp (disch := omega) only [b_Forecast_bestPair_0, be_2, be_7, be_1, be_0, List.getD_cons_zero, List.getD_cons_succ, List.set_cons_zero, List.set_cons_succ, List.length_cons, List.length_nil, pk_I, pk_A, pr_A, pi_I, st_s, st_n, if_true, if_false, eq_self, d_if, d_ju, d_re, d_ca, cat0, cat1, cat2, cat3, fr_z, fr_s, cc_I, cc_A, cc_N, Nat.reduceAdd, Nat.reduceLT, Nat.reduceLeDiff, Nat.reduceEqDiff, not_true, not_false_iff, z1_0, z1_1, Bool.and_self, Bool.true_and, Bool.and_true, nI_add, pk_mul, nI_clamp, decide_true, Nat.le_refl, bI_eq, bI_z1]
  refine go_loopA (α := (Nat → Nat → Int32) × Value × Value) (fun i x => ([.ref 350, .int (nI n), .int wh, .int (b2S T f n i).1, .int (b2S T f n i).2, .int (nI i), x.2.1, x.2.2], [], (428, 26053, KD, RF, x.1, w))) (fun i x => QF v x.1 ∧ am_cc x.2.1 = true ∧ am_cc x.2.2 = true) (tN T) ?_ ?_ (v, .null, .null) ⟨QF_r, rfl, rfl⟩
  · intro i x hi ⟨x1, x3, x4⟩ ih
    try dsimp only at *
    have hni : ¬ tN T ≤ i := by omega
    have hKx : KI B x.1 T f := KI_q hK x1
    have k1 := hKx.1.2.1
    refine go_at (blk := b_Forecast_bestPair_10) rfl ?_
    simp (disch := omega) only [b_Forecast_bestPair_10, be_4, be_6, be_34, be_33, be_49_3, kc_350, rf_350_0, kc_25, List.getD_cons_zero, List.getD_cons_succ, List.set_cons_zero, List.set_cons_succ, List.length_cons, List.length_nil, pk_I, pk_A, pr_A, pi_I, st_s, st_n, if_true, if_false, eq_self, d_if, d_ju, d_re, d_ca, cat0, cat1, cat2, cat3, fr_z, fr_s, cc_I, cc_A, cc_N, Nat.reduceAdd, Nat.reduceLT, Nat.reduceLeDiff, Nat.reduceEqDiff, not_true, not_false_iff, z1_0, z1_1, Bool.and_self, Bool.true_and, Bool.and_true, nI_add, pk_mul, nI_clamp, decide_true, Nat.le_refl, bI_eq, bI_z1, nI_ltI, nI_leI, hni, x3, x4, k1]
    refine go_at (blk := b_Forecast_bestPair_22) rfl ?_
    simp (disch := omega) only [b_Forecast_bestPair_22, be_4, be_1, be_12, be_7, be_0, List.getD_cons_zero, List.getD_cons_succ, List.set_cons_zero, List.set_cons_succ, List.length_cons, List.length_nil, pk_I, pk_A, pr_A, pi_I, st_s, st_n, if_true, if_false, eq_self, d_if, d_ju, d_re, d_ca, cat0, cat1, cat2, cat3, fr_z, fr_s, cc_I, cc_A, cc_N, Nat.reduceAdd, Nat.reduceLT, Nat.reduceLeDiff, Nat.reduceEqDiff, not_true, not_false_iff, z1_0, z1_1, Bool.and_self, Bool.true_and, Bool.and_true, nI_add, pk_mul, nI_clamp, decide_true, Nat.le_refl, bI_eq, bI_z1, nI_ltI, nI_leI, hni, x3, x4, k1]
    refine go_loopA (α := (Nat → Nat → Int32) × Value) (fun j y => ([.ref 350, .int (nI n), .int wh, .int (b2I T f n i (b2S T f n i) j).1, .int (b2I T f n i (b2S T f n i) j).2, .int (nI i), .int (nI (i + 1 + j)), y.2], [], (428, 26053, KD, RF, y.1, w))) (fun j y => QF x.1 y.1 ∧ am_cc y.2 = true) (tN T - (i + 1)) ?_ ?_ (x.1, x.2.2) ⟨QF_r, x4⟩
    · intro j y hj ⟨y1, y2⟩ jh
      try dsimp only at *
      have hKy : KI B y.1 T f := KI_q hKx y1
      have k1 := hKy.1.2.1
      have hnj : ¬ tN T ≤ i + 1 + j := by omega
      obtain ⟨hbt, hb2⟩ := bt_2 (i + 1 + j) (by omega) i (by omega)
      refine go_at (blk := b_Forecast_bestPair_28) rfl ?_
      simp (disch := omega) only [b_Forecast_bestPair_28, be_4, be_6, be_34, be_33, be_49_3, kc_350, rf_350_0, kc_25, List.getD_cons_zero, List.getD_cons_succ, List.set_cons_zero, List.set_cons_succ, List.length_cons, List.length_nil, pk_I, pk_A, pr_A, pi_I, st_s, st_n, if_true, if_false, eq_self, d_if, d_ju, d_re, d_ca, cat0, cat1, cat2, cat3, fr_z, fr_s, cc_I, cc_A, cc_N, Nat.reduceAdd, Nat.reduceLT, Nat.reduceLeDiff, Nat.reduceEqDiff, not_true, not_false_iff, z1_0, z1_1, Bool.and_self, Bool.true_and, Bool.and_true, nI_add, pk_mul, nI_clamp, decide_true, Nat.le_refl, bI_eq, bI_z1, nI_ltI, nI_leI, k1, hnj, hbt, y2]
      refine go_at (blk := b_Forecast_bestPair_40) rfl ?_
      simp (disch := omega) only [b_Forecast_bestPair_40, be_6, be_34, be_4, be_57_1, kc_350, rf_350_1, kc_42, List.getD_cons_zero, List.getD_cons_succ, List.set_cons_zero, List.set_cons_succ, List.length_cons, List.length_nil, pk_I, pk_A, pr_A, pi_I, st_s, st_n, if_true, if_false, eq_self, d_if, d_ju, d_re, d_ca, cat0, cat1, cat2, cat3, fr_z, fr_s, cc_I, cc_A, cc_N, Nat.reduceAdd, Nat.reduceLT, Nat.reduceLeDiff, Nat.reduceEqDiff, not_true, not_false_iff, z1_0, z1_1, Bool.and_self, Bool.true_and, Bool.and_true, nI_add, pk_mul, nI_clamp, decide_true, Nat.le_refl, bI_eq, bI_z1, nI_ltI, nI_leI, k1, hnj, hbt, y2]
      refine kf_nowMay hKy hi ?_
      refine go_at (blk := b_Forecast_bestPair_49) rfl ?_
      simp (disch := omega) only [b_Forecast_bestPair_49, be_50_0, List.getD_cons_zero, List.getD_cons_succ, List.set_cons_zero, List.set_cons_succ, List.length_cons, List.length_nil, pk_I, pk_A, pr_A, pi_I, st_s, st_n, if_true, if_false, eq_self, d_if, d_ju, d_re, d_ca, cat0, cat1, cat2, cat3, fr_z, fr_s, cc_I, cc_A, cc_N, Nat.reduceAdd, Nat.reduceLT, Nat.reduceLeDiff, Nat.reduceEqDiff, not_true, not_false_iff, z1_0, z1_1, Bool.and_self, Bool.true_and, Bool.and_true, nI_add, pk_mul, nI_clamp, decide_true, Nat.le_refl, bI_eq, bI_z1, nI_ltI, nI_leI, k1, hnj, hbt, y2]
      split
      · rename_i ha
        refine go_at (blk := b_Forecast_bestPair_107) rfl ?_
        simp (disch := omega) only [b_Forecast_bestPair_107, be_10, be_51, List.getD_cons_zero, List.getD_cons_succ, List.set_cons_zero, List.set_cons_succ, List.length_cons, List.length_nil, pk_I, pk_A, pr_A, pi_I, st_s, st_n, if_true, if_false, eq_self, d_if, d_ju, d_re, d_ca, cat0, cat1, cat2, cat3, fr_z, fr_s, cc_I, cc_A, cc_N, Nat.reduceAdd, Nat.reduceLT, Nat.reduceLeDiff, Nat.reduceEqDiff, not_true, not_false_iff, z1_0, z1_1, Bool.and_self, Bool.true_and, Bool.and_true, nI_add, pk_mul, nI_clamp, decide_true, Nat.le_refl, bI_eq, bI_z1, nI_ltI, nI_leI, k1, hnj, hbt, y2]
        simp only [b2_i (b2_0 (show (mayB f (-1) (tS T) i && mayB f (-1) (tS T) (i + 1 + j)) = false by rw [ha]; rfl))] at jh
        exact jh (y.1, y.2) ⟨QF_t y1 QF_r, y2⟩
      · rename_i ha
        have ha : mayB f (-1) (tS T) i = true := by simpa using ha
        refine go_at (blk := b_Forecast_bestPair_52) rfl ?_
        simp (disch := omega) only [b_Forecast_bestPair_52, be_6, be_34, be_4, be_57_1, kc_350, rf_350_1, kc_42, List.getD_cons_zero, List.getD_cons_succ, List.set_cons_zero, List.set_cons_succ, List.length_cons, List.length_nil, pk_I, pk_A, pr_A, pi_I, st_s, st_n, if_true, if_false, eq_self, d_if, d_ju, d_re, d_ca, cat0, cat1, cat2, cat3, fr_z, fr_s, cc_I, cc_A, cc_N, Nat.reduceAdd, Nat.reduceLT, Nat.reduceLeDiff, Nat.reduceEqDiff, not_true, not_false_iff, z1_0, z1_1, Bool.and_self, Bool.true_and, Bool.and_true, nI_add, pk_mul, nI_clamp, decide_true, Nat.le_refl, bI_eq, bI_z1, nI_ltI, nI_leI, k1, hnj, hbt, y2]
        refine kf_nowMay hKy (p := i + 1 + j) (by omega) ?_
        refine go_at (blk := b_Forecast_bestPair_61) rfl ?_
        simp (disch := omega) only [b_Forecast_bestPair_61, be_50_1, List.getD_cons_zero, List.getD_cons_succ, List.set_cons_zero, List.set_cons_succ, List.length_cons, List.length_nil, pk_I, pk_A, pr_A, pi_I, st_s, st_n, if_true, if_false, eq_self, d_if, d_ju, d_re, d_ca, cat0, cat1, cat2, cat3, fr_z, fr_s, cc_I, cc_A, cc_N, Nat.reduceAdd, Nat.reduceLT, Nat.reduceLeDiff, Nat.reduceEqDiff, not_true, not_false_iff, z1_0, z1_1, Bool.and_self, Bool.true_and, Bool.and_true, nI_add, pk_mul, nI_clamp, decide_true, Nat.le_refl, bI_eq, bI_z1, nI_ltI, nI_leI, k1, hnj, hbt, y2]
        split
        · rename_i hb
          have hb : mayB f (-1) (tS T) (i + 1 + j) = true := by simpa using hb
          refine go_at (blk := b_Forecast_bestPair_67) rfl ?_
          simp (disch := omega) only [b_Forecast_bestPair_67, be_6, be_1, be_4, be_21, be_19, be_57_2, kc_350, List.getD_cons_zero, List.getD_cons_succ, List.set_cons_zero, List.set_cons_succ, List.length_cons, List.length_nil, pk_I, pk_A, pr_A, pi_I, st_s, st_n, if_true, if_false, eq_self, d_if, d_ju, d_re, d_ca, cat0, cat1, cat2, cat3, fr_z, fr_s, cc_I, cc_A, cc_N, Nat.reduceAdd, Nat.reduceLT, Nat.reduceLeDiff, Nat.reduceEqDiff, not_true, not_false_iff, z1_0, z1_1, Bool.and_self, Bool.true_and, Bool.and_true, nI_add, pk_mul, nI_clamp, decide_true, Nat.le_refl, bI_eq, bI_z1, nI_ltI, nI_leI, k1, hnj, hbt, y2]
          refine k_try (s := 2 ^ i + 2 ^ (i + 1 + j)) hKy hb2 hn ?_
          intro v2 q2 r2 g2
          refine go_at (blk := b_Forecast_bestPair_81) rfl ?_
          simp (disch := omega) only [b_Forecast_bestPair_81, be_6, be_57_0, kc_350, List.getD_cons_zero, List.getD_cons_succ, List.set_cons_zero, List.set_cons_succ, List.length_cons, List.length_nil, pk_I, pk_A, pr_A, pi_I, st_s, st_n, if_true, if_false, eq_self, d_if, d_ju, d_re, d_ca, cat0, cat1, cat2, cat3, fr_z, fr_s, cc_I, cc_A, cc_N, Nat.reduceAdd, Nat.reduceLT, Nat.reduceLeDiff, Nat.reduceEqDiff, not_true, not_false_iff, z1_0, z1_1, Bool.and_self, Bool.true_and, Bool.and_true, nI_add, pk_mul, nI_clamp, decide_true, Nat.le_refl, bI_eq, bI_z1, nI_ltI, nI_leI, k1, hnj, hbt, y2]
          refine k_allSteps (KI_q hKy q2) r2 ?_
          refine go_at (blk := b_Forecast_bestPair_85) rfl ?_
          simp (disch := omega) only [b_Forecast_bestPair_85, be_7, be_4, be_49_5, List.getD_cons_zero, List.getD_cons_succ, List.set_cons_zero, List.set_cons_succ, List.length_cons, List.length_nil, pk_I, pk_A, pr_A, pi_I, st_s, st_n, if_true, if_false, eq_self, d_if, d_ju, d_re, d_ca, cat0, cat1, cat2, cat3, fr_z, fr_s, cc_I, cc_A, cc_N, Nat.reduceAdd, Nat.reduceLT, Nat.reduceLeDiff, Nat.reduceEqDiff, not_true, not_false_iff, z1_0, z1_1, Bool.and_self, Bool.true_and, Bool.and_true, nI_add, pk_mul, nI_clamp, decide_true, Nat.le_refl, bI_eq, bI_z1, nI_ltI, nI_leI, k1, hnj, hbt, y2]
          split
          · rename_i hc
            refine go_at (blk := b_Forecast_bestPair_107) rfl ?_
            simp (disch := omega) only [b_Forecast_bestPair_107, be_10, be_51, List.getD_cons_zero, List.getD_cons_succ, List.set_cons_zero, List.set_cons_succ, List.length_cons, List.length_nil, pk_I, pk_A, pr_A, pi_I, st_s, st_n, if_true, if_false, eq_self, d_if, d_ju, d_re, d_ca, cat0, cat1, cat2, cat3, fr_z, fr_s, cc_I, cc_A, cc_N, Nat.reduceAdd, Nat.reduceLT, Nat.reduceLeDiff, Nat.reduceEqDiff, not_true, not_false_iff, z1_0, z1_1, Bool.and_self, Bool.true_and, Bool.and_true, nI_add, pk_mul, nI_clamp, decide_true, Nat.le_refl, bI_eq, bI_z1, nI_ltI, nI_leI, k1, hnj, hbt, y2]
            simp only [b2_i (b2_1 (by rw [ha, hb]; rfl) (Int32.not_lt.mpr hc))] at jh
            exact jh (v2, .int _) ⟨QF_t y1 q2, rfl⟩
          · rename_i hc
            refine go_at (blk := b_Forecast_bestPair_94) rfl ?_
            simp (disch := omega) only [b_Forecast_bestPair_94, be_1, be_4, be_14, be_12, be_7, be_0, List.getD_cons_zero, List.getD_cons_succ, List.set_cons_zero, List.set_cons_succ, List.length_cons, List.length_nil, pk_I, pk_A, pr_A, pi_I, st_s, st_n, if_true, if_false, eq_self, d_if, d_ju, d_re, d_ca, cat0, cat1, cat2, cat3, fr_z, fr_s, cc_I, cc_A, cc_N, Nat.reduceAdd, Nat.reduceLT, Nat.reduceLeDiff, Nat.reduceEqDiff, not_true, not_false_iff, z1_0, z1_1, Bool.and_self, Bool.true_and, Bool.and_true, nI_add, pk_mul, nI_clamp, decide_true, Nat.le_refl, bI_eq, bI_z1, nI_ltI, nI_leI, k1, hnj, hbt, y2]
            refine go_at (blk := b_Forecast_bestPair_107) rfl ?_
            simp (disch := omega) only [b_Forecast_bestPair_107, be_10, be_51, List.getD_cons_zero, List.getD_cons_succ, List.set_cons_zero, List.set_cons_succ, List.length_cons, List.length_nil, pk_I, pk_A, pr_A, pi_I, st_s, st_n, if_true, if_false, eq_self, d_if, d_ju, d_re, d_ca, cat0, cat1, cat2, cat3, fr_z, fr_s, cc_I, cc_A, cc_N, Nat.reduceAdd, Nat.reduceLT, Nat.reduceLeDiff, Nat.reduceEqDiff, not_true, not_false_iff, z1_0, z1_1, Bool.and_self, Bool.true_and, Bool.and_true, nI_add, pk_mul, nI_clamp, decide_true, Nat.le_refl, bI_eq, bI_z1, nI_ltI, nI_leI, k1, hnj, hbt, y2]
            simp only [b2_i (b2_2 (by rw [ha, hb]; rfl) (Int32.not_le.mp hc))] at jh
            exact jh (v2, .int _) ⟨QF_t y1 q2, rfl⟩
        · rename_i hb
          have hb : mayB f (-1) (tS T) (i + 1 + j) = false := by simpa using hb
          refine go_at (blk := b_Forecast_bestPair_64) rfl ?_
          simp (disch := omega) only [b_Forecast_bestPair_64, be_51, List.getD_cons_zero, List.getD_cons_succ, List.set_cons_zero, List.set_cons_succ, List.length_cons, List.length_nil, pk_I, pk_A, pr_A, pi_I, st_s, st_n, if_true, if_false, eq_self, d_if, d_ju, d_re, d_ca, cat0, cat1, cat2, cat3, fr_z, fr_s, cc_I, cc_A, cc_N, Nat.reduceAdd, Nat.reduceLT, Nat.reduceLeDiff, Nat.reduceEqDiff, not_true, not_false_iff, z1_0, z1_1, Bool.and_self, Bool.true_and, Bool.and_true, nI_add, pk_mul, nI_clamp, decide_true, Nat.le_refl, bI_eq, bI_z1, nI_ltI, nI_leI, k1, hnj, hbt, y2]
          refine go_at (blk := b_Forecast_bestPair_107) rfl ?_
          simp (disch := omega) only [b_Forecast_bestPair_107, be_10, be_51, List.getD_cons_zero, List.getD_cons_succ, List.set_cons_zero, List.set_cons_succ, List.length_cons, List.length_nil, pk_I, pk_A, pr_A, pi_I, st_s, st_n, if_true, if_false, eq_self, d_if, d_ju, d_re, d_ca, cat0, cat1, cat2, cat3, fr_z, fr_s, cc_I, cc_A, cc_N, Nat.reduceAdd, Nat.reduceLT, Nat.reduceLeDiff, Nat.reduceEqDiff, not_true, not_false_iff, z1_0, z1_1, Bool.and_self, Bool.true_and, Bool.and_true, nI_add, pk_mul, nI_clamp, decide_true, Nat.le_refl, bI_eq, bI_z1, nI_ltI, nI_leI, k1, hnj, hbt, y2]
          simp only [b2_i (b2_0 (show (mayB f (-1) (tS T) i && mayB f (-1) (tS T) (i + 1 + j)) = false by rw [hb]; simp))] at jh
          exact jh (y.1, y.2) ⟨QF_t y1 QF_r, y2⟩
    · intro y ⟨y1, y2⟩
      try dsimp only at *
      have hKy : KI B y.1 T f := KI_q hKx y1
      have k1 := hKy.1.2.1
      have hje : i + 1 + (tN T - (i + 1)) = tN T := by omega
      refine go_at (blk := b_Forecast_bestPair_28) rfl ?_
      simp (disch := omega) only [b_Forecast_bestPair_28, be_4, be_6, be_34, be_33, be_49_3, kc_350, rf_350_0, kc_25, List.getD_cons_zero, List.getD_cons_succ, List.set_cons_zero, List.set_cons_succ, List.length_cons, List.length_nil, pk_I, pk_A, pr_A, pi_I, st_s, st_n, if_true, if_false, eq_self, d_if, d_ju, d_re, d_ca, cat0, cat1, cat2, cat3, fr_z, fr_s, cc_I, cc_A, cc_N, Nat.reduceAdd, Nat.reduceLT, Nat.reduceLeDiff, Nat.reduceEqDiff, not_true, not_false_iff, z1_0, z1_1, Bool.and_self, Bool.true_and, Bool.and_true, nI_add, pk_mul, nI_clamp, decide_true, Nat.le_refl, bI_eq, bI_z1, nI_ltI, nI_leI, k1, hje]
      refine go_at (blk := b_Forecast_bestPair_113) rfl ?_
      simp (disch := omega) only [b_Forecast_bestPair_113, be_10, be_51, List.getD_cons_zero, List.getD_cons_succ, List.set_cons_zero, List.set_cons_succ, List.length_cons, List.length_nil, pk_I, pk_A, pr_A, pi_I, st_s, st_n, if_true, if_false, eq_self, d_if, d_ju, d_re, d_ca, cat0, cat1, cat2, cat3, fr_z, fr_s, cc_I, cc_A, cc_N, Nat.reduceAdd, Nat.reduceLT, Nat.reduceLeDiff, Nat.reduceEqDiff, not_true, not_false_iff, z1_0, z1_1, Bool.and_self, Bool.true_and, Bool.and_true, nI_add, pk_mul, nI_clamp, decide_true, Nat.le_refl, bI_eq, bI_z1, nI_ltI, nI_leI, k1, hje]
      exact ih (y.1, _, y.2) ⟨QF_t x1 y1, rfl, y2⟩
  · intro x ⟨x1, x3, x4⟩
    try dsimp only at *
    have hKx : KI B x.1 T f := KI_q hK x1
    have k1 := hKx.1.2.1
    refine go_at (blk := b_Forecast_bestPair_10) rfl ?_
    simp (disch := omega) only [b_Forecast_bestPair_10, be_4, be_6, be_34, be_33, be_49_3, kc_350, rf_350_0, kc_25, List.getD_cons_zero, List.getD_cons_succ, List.set_cons_zero, List.set_cons_succ, List.length_cons, List.length_nil, pk_I, pk_A, pr_A, pi_I, st_s, st_n, if_true, if_false, eq_self, d_if, d_ju, d_re, d_ca, cat0, cat1, cat2, cat3, fr_z, fr_s, cc_I, cc_A, cc_N, Nat.reduceAdd, Nat.reduceLT, Nat.reduceLeDiff, Nat.reduceEqDiff, not_true, not_false_iff, z1_0, z1_1, Bool.and_self, Bool.true_and, Bool.and_true, nI_add, pk_mul, nI_clamp, decide_true, Nat.le_refl, bI_eq, bI_z1, nI_ltI, nI_leI, k1]
    refine go_at (blk := b_Forecast_bestPair_119) rfl ?_
    simp (disch := omega) only [b_Forecast_bestPair_119, be_4, be_50_1, List.getD_cons_zero, List.getD_cons_succ, List.set_cons_zero, List.set_cons_succ, List.length_cons, List.length_nil, pk_I, pk_A, pr_A, pi_I, st_s, st_n, if_true, if_false, eq_self, d_if, d_ju, d_re, d_ca, cat0, cat1, cat2, cat3, fr_z, fr_s, cc_I, cc_A, cc_N, Nat.reduceAdd, Nat.reduceLT, Nat.reduceLeDiff, Nat.reduceEqDiff, not_true, not_false_iff, z1_0, z1_1, Bool.and_self, Bool.true_and, Bool.and_true, nI_add, pk_mul, nI_clamp, decide_true, Nat.le_refl, bI_eq, bI_z1, nI_ltI, nI_leI, k1]
    split
    · rename_i hw
      refine go_at (blk := b_Forecast_bestPair_128) rfl ?_
      simp (disch := omega) only [b_Forecast_bestPair_128, be_4, be_0, List.getD_cons_zero, List.getD_cons_succ, List.set_cons_zero, List.set_cons_succ, List.length_cons, List.length_nil, pk_I, pk_A, pr_A, pi_I, st_s, st_n, if_true, if_false, eq_self, d_if, d_ju, d_re, d_ca, cat0, cat1, cat2, cat3, fr_z, fr_s, cc_I, cc_A, cc_N, Nat.reduceAdd, Nat.reduceLT, Nat.reduceLeDiff, Nat.reduceEqDiff, not_true, not_false_iff, z1_0, z1_1, Bool.and_self, Bool.true_and, Bool.and_true, nI_add, pk_mul, nI_clamp, decide_true, Nat.le_refl, bI_eq, bI_z1, nI_ltI, nI_leI, k1]
      refine go_at (blk := b_Forecast_bestPair_129) rfl ?_
      simp (disch := omega) only [b_Forecast_bestPair_129, be_54, List.getD_cons_zero, List.getD_cons_succ, List.set_cons_zero, List.set_cons_succ, List.length_cons, List.length_nil, pk_I, pk_A, pr_A, pi_I, st_s, st_n, if_true, if_false, eq_self, d_if, d_ju, d_re, d_ca, cat0, cat1, cat2, cat3, fr_z, fr_s, cc_I, cc_A, cc_N, Nat.reduceAdd, Nat.reduceLT, Nat.reduceLeDiff, Nat.reduceEqDiff, not_true, not_false_iff, z1_0, z1_1, Bool.and_self, Bool.true_and, Bool.and_true, nI_add, pk_mul, nI_clamp, decide_true, Nat.le_refl, bI_eq, bI_z1, nI_ltI, nI_leI, k1]
      rw [if_neg hw] at hQ
      exact hQ x.1 x1
    · rename_i hw
      refine go_at (blk := b_Forecast_bestPair_123) rfl ?_
      simp (disch := omega) only [b_Forecast_bestPair_123, be_4, be_51, List.getD_cons_zero, List.getD_cons_succ, List.set_cons_zero, List.set_cons_succ, List.length_cons, List.length_nil, pk_I, pk_A, pr_A, pi_I, st_s, st_n, if_true, if_false, eq_self, d_if, d_ju, d_re, d_ca, cat0, cat1, cat2, cat3, fr_z, fr_s, cc_I, cc_A, cc_N, Nat.reduceAdd, Nat.reduceLT, Nat.reduceLeDiff, Nat.reduceEqDiff, not_true, not_false_iff, z1_0, z1_1, Bool.and_self, Bool.true_and, Bool.and_true, nI_add, pk_mul, nI_clamp, decide_true, Nat.le_refl, bI_eq, bI_z1, nI_ltI, nI_leI, k1]
      refine go_at (blk := b_Forecast_bestPair_129) rfl ?_
      simp (disch := omega) only [b_Forecast_bestPair_129, be_54, List.getD_cons_zero, List.getD_cons_succ, List.set_cons_zero, List.set_cons_succ, List.length_cons, List.length_nil, pk_I, pk_A, pr_A, pi_I, st_s, st_n, if_true, if_false, eq_self, d_if, d_ju, d_re, d_ca, cat0, cat1, cat2, cat3, fr_z, fr_s, cc_I, cc_A, cc_N, Nat.reduceAdd, Nat.reduceLT, Nat.reduceLeDiff, Nat.reduceEqDiff, not_true, not_false_iff, z1_0, z1_1, Bool.and_self, Bool.true_and, Bool.and_true, nI_add, pk_mul, nI_clamp, decide_true, Nat.le_refl, bI_eq, bI_z1, nI_ltI, nI_leI, k1]
      rw [if_pos (Decidable.not_not.mp hw)] at hQ
      exact hQ x.1 x1
