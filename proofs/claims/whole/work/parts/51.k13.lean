/-! laid by wip/whole/k13.py: the class: how much doubt; arrives -/
theorem f40_0 {f : Nat → Int32} : upd f 40 (f 40 + nI 0) = f := by
  rw [nI_z, Int32.add_zero, upd_self]
theorem sd_t {P : Nat → Bool} {i : Nat} (h : i ≤ 300) (hp : P (300 - i) = true) : sdS P (301 - i) = nI (300 - i) := by
  rw [show 301 - i = (300 - i) + 1 by omega]
  exact if_pos hp
theorem sd_n {P : Nat → Bool} {i : Nat} (h : i ≤ 300) (hp : P (300 - i) = false) : sdS P (301 - i) = sdS P (301 - (i + 1)) := by
  rw [show 301 - i = (300 - i) + 1 by omega, show 301 - (i + 1) = 300 - i by omega]
  exact if_neg (by rw [hp]; decide)
theorem n300 {i : Nat} (h : i ≤ 300) : nI (301 - i) + (-1) = nI (300 - i) := by
  rw [show 301 - i = (300 - i) + 1 by omega]
  exact pk_m1 _
set_option maxHeartbeats 1000000 in
theorem k_arrives {d : Nat} {v : Nat → Nat → Int32} {w : Nat → Nat → Int64} {Q : Option Value → am_H → Prop} {T : TXT} {f : Nat → Int32} {B : Int} (hK : KI B v T f) {p : Nat} (hp : p < tN T) (hQ : ∀ v', QF v v' → Q (some (.int (arS T (-1) 0 f p 300))) (428, 26053, KD, RF, v', w)) : am_Ca (d + 6) M_Forecast_arrivesBehind [.ref 350, .int (nI p)] (428, 26053, KD, RF, v, w) Q := by
  have h8 := hK.1.1
  have hBB := hK.2.2.2.2.2
  refine ca_in (k := k_Forecast_arrivesBehind) (nL := 2) rfl (Nat.le_of_ble_eq_true rfl) ?_
  show am_Go am_X0 _ k_Forecast_arrivesBehind 0 ([.ref 350, .int (nI p)], [], _) _
  refine go_at (blk := b_Forecast_arrivesBehind_0) rfl ?_
  simp (disch := omega) only [b_Forecast_arrivesBehind_0, be_6, be_4, be_1, be_57_4, kc_350, List.getD_cons_zero, List.getD_cons_succ, List.set_cons_zero, List.set_cons_succ, List.length_cons, List.length_nil, pk_I, pk_A, pr_A, pi_I, st_s, st_n, if_true, if_false, eq_self, d_if, d_ju, d_re, d_ca, cat0, cat1, cat2, cat3, fr_z, fr_s, cc_I, cc_A, cc_N, Nat.reduceAdd, Nat.reduceLT, Nat.reduceLeDiff, Nat.reduceEqDiff, not_true, not_false_iff, z1_0, z1_1, Bool.and_self, Bool.true_and, Bool.and_true, nI_add, pk_mul, nI_clamp, decide_true, Nat.le_refl, bI_eq, bI_z1]
  refine k_arrival hK hp (by omega) (oil_ok hK (by omega)) ?_
  intro v2 q2
  rw [f40_0]
  refine go_at (blk := b_Forecast_arrivesBehind_10) rfl ?_
  simp (disch := omega) only [b_Forecast_arrivesBehind_10, be_54, List.getD_cons_zero, List.getD_cons_succ, List.set_cons_zero, List.set_cons_succ, List.length_cons, List.length_nil, pk_I, pk_A, pr_A, pi_I, st_s, st_n, if_true, if_false, eq_self, d_if, d_ju, d_re, d_ca, cat0, cat1, cat2, cat3, fr_z, fr_s, cc_I, cc_A, cc_N, Nat.reduceAdd, Nat.reduceLT, Nat.reduceLeDiff, Nat.reduceEqDiff, not_true, not_false_iff, z1_0, z1_1, Bool.and_self, Bool.true_and, Bool.and_true, nI_add, pk_mul, nI_clamp, decide_true, Nat.le_refl, bI_eq, bI_z1]
  exact hQ v2 q2
theorem k_doubt_loop {d : Nat} {v : Nat → Nat → Int32} {w : Nat → Nat → Int64} {Q : Option Value → am_H → Prop} {T : TXT} {f : Nat → Int32} {B : Int} (hK : KI B v T f) {p n : Nat} (hp : p < tN T) (hn : n ≤ 300) (hQ : ∀ v', QF v v' → Q (some (.int (dbS T f p n))) (428, 26053, KD, RF, v', w)) : am_Go am_X0 (d + 5) k_Forecast_greatestDoubt 27 ([.ref 350, .int (nI p), .int (nI n), .int (nI 0), .int (nI (301 - 0) + (-1))], [], (428, 26053, KD, RF, v, w)) Q := by
  refine go_loopA (α := (Nat → Nat → Int32)) (fun i x => ([.ref 350, .int (nI p), .int (nI n), .int (nI 0), .int (nI (301 - i) + (-1))], [], (428, 26053, KD, RF, x, w))) (fun i x => QF v x ∧ dbS T f p n = sdS (dbP T f p n) (301 - i)) (301) ?_ ?_ v ⟨QF_r, rfl⟩
  · intro i x hi ⟨i1, i2⟩ ih
    try dsimp only at *
    have hv := n300 (i := i) (by omega)
    have hve : nI (301 - (i + 1)) = nI (300 - i) := by rw [show 301 - (i + 1) = 300 - i by omega]
    rw [hve] at ih
    have hge : ¬ 300 - i < 0 := by omega
    refine go_at (blk := b_Forecast_greatestDoubt_27) rfl ?_
    simp (disch := omega) only [b_Forecast_greatestDoubt_27, be_4, be_49_2, List.getD_cons_zero, List.getD_cons_succ, List.set_cons_zero, List.set_cons_succ, List.length_cons, List.length_nil, pk_I, pk_A, pr_A, pi_I, st_s, st_n, if_true, if_false, eq_self, d_if, d_ju, d_re, d_ca, cat0, cat1, cat2, cat3, fr_z, fr_s, cc_I, cc_A, cc_N, Nat.reduceAdd, Nat.reduceLT, Nat.reduceLeDiff, Nat.reduceEqDiff, not_true, not_false_iff, z1_0, z1_1, Bool.and_self, Bool.true_and, Bool.and_true, nI_add, pk_mul, nI_clamp, decide_true, Nat.le_refl, bI_eq, bI_z1, nI_ltI, nI_leI, hv, hge]
    refine go_at (blk := b_Forecast_greatestDoubt_33) rfl ?_
    simp (disch := omega) only [b_Forecast_greatestDoubt_33, be_6, be_4, be_1, be_57_4, kc_350, List.getD_cons_zero, List.getD_cons_succ, List.set_cons_zero, List.set_cons_succ, List.length_cons, List.length_nil, pk_I, pk_A, pr_A, pi_I, st_s, st_n, if_true, if_false, eq_self, d_if, d_ju, d_re, d_ca, cat0, cat1, cat2, cat3, fr_z, fr_s, cc_I, cc_A, cc_N, Nat.reduceAdd, Nat.reduceLT, Nat.reduceLeDiff, Nat.reduceEqDiff, not_true, not_false_iff, z1_0, z1_1, Bool.and_self, Bool.true_and, Bool.and_true, nI_add, pk_mul, nI_clamp, decide_true, Nat.le_refl, bI_eq, bI_z1, nI_ltI, nI_leI, hv, hge]
    refine k_arrival (KI_q hK i1) hp hn (oil_ok hK (by omega)) ?_
    intro v2 q2
    rw [f40_0]
    refine go_at (blk := b_Forecast_greatestDoubt_42) rfl ?_
    simp (disch := omega) only [b_Forecast_greatestDoubt_42, be_2, be_49_0, List.getD_cons_zero, List.getD_cons_succ, List.set_cons_zero, List.set_cons_succ, List.length_cons, List.length_nil, pk_I, pk_A, pr_A, pi_I, st_s, st_n, if_true, if_false, eq_self, d_if, d_ju, d_re, d_ca, cat0, cat1, cat2, cat3, fr_z, fr_s, cc_I, cc_A, cc_N, Nat.reduceAdd, Nat.reduceLT, Nat.reduceLeDiff, Nat.reduceEqDiff, not_true, not_false_iff, z1_0, z1_1, Bool.and_self, Bool.true_and, Bool.and_true, nI_add, pk_mul, nI_clamp, decide_true, Nat.le_refl, bI_eq, bI_z1, nI_ltI, nI_leI, hv, hge]
    split
    · rename_i hb
      refine go_at (blk := b_Forecast_greatestDoubt_50) rfl ?_
      simp (disch := omega) only [b_Forecast_greatestDoubt_50, be_11, be_51, List.getD_cons_zero, List.getD_cons_succ, List.set_cons_zero, List.set_cons_succ, List.length_cons, List.length_nil, pk_I, pk_A, pr_A, pi_I, st_s, st_n, if_true, if_false, eq_self, d_if, d_ju, d_re, d_ca, cat0, cat1, cat2, cat3, fr_z, fr_s, cc_I, cc_A, cc_N, Nat.reduceAdd, Nat.reduceLT, Nat.reduceLeDiff, Nat.reduceEqDiff, not_true, not_false_iff, z1_0, z1_1, Bool.and_self, Bool.true_and, Bool.and_true, nI_add, pk_mul, nI_clamp, decide_true, Nat.le_refl, bI_eq, bI_z1, nI_ltI, nI_leI, hv, hge]
      refine ih v2 ⟨QF_t i1 q2, ?_⟩
      rw [i2, sd_n (by omega) (show dbP T f p n (300 - i) = false by unfold dbP; rw [hb]; rfl)]
    · rename_i hb
      refine go_at (blk := b_Forecast_greatestDoubt_47) rfl ?_
      simp (disch := omega) only [b_Forecast_greatestDoubt_47, be_4, be_54, List.getD_cons_zero, List.getD_cons_succ, List.set_cons_zero, List.set_cons_succ, List.length_cons, List.length_nil, pk_I, pk_A, pr_A, pi_I, st_s, st_n, if_true, if_false, eq_self, d_if, d_ju, d_re, d_ca, cat0, cat1, cat2, cat3, fr_z, fr_s, cc_I, cc_A, cc_N, Nat.reduceAdd, Nat.reduceLT, Nat.reduceLeDiff, Nat.reduceEqDiff, not_true, not_false_iff, z1_0, z1_1, Bool.and_self, Bool.true_and, Bool.and_true, nI_add, pk_mul, nI_clamp, decide_true, Nat.le_refl, bI_eq, bI_z1, nI_ltI, nI_leI, hv, hge]
      rw [i2, sd_t (by omega) (show dbP T f p n (300 - i) = true by unfold dbP; rw [decide_eq_false hb]; rfl)] at hQ
      exact hQ v2 (QF_t i1 q2)
  · intro x ⟨i1, i2⟩
    try dsimp only at *
    have hve : (nI (301 - 301) + (-1) < nI 0) ↔ True := by decide
    refine go_at (blk := b_Forecast_greatestDoubt_27) rfl ?_
    simp (disch := omega) only [b_Forecast_greatestDoubt_27, be_4, be_49_2, List.getD_cons_zero, List.getD_cons_succ, List.set_cons_zero, List.set_cons_succ, List.length_cons, List.length_nil, pk_I, pk_A, pr_A, pi_I, st_s, st_n, if_true, if_false, eq_self, d_if, d_ju, d_re, d_ca, cat0, cat1, cat2, cat3, fr_z, fr_s, cc_I, cc_A, cc_N, Nat.reduceAdd, Nat.reduceLT, Nat.reduceLeDiff, Nat.reduceEqDiff, not_true, not_false_iff, z1_0, z1_1, Bool.and_self, Bool.true_and, Bool.and_true, nI_add, pk_mul, nI_clamp, decide_true, Nat.le_refl, bI_eq, bI_z1, nI_ltI, nI_leI, hve]
    refine go_at (blk := b_Forecast_greatestDoubt_56) rfl ?_
    simp (disch := omega) only [b_Forecast_greatestDoubt_56, be_2, be_54, List.getD_cons_zero, List.getD_cons_succ, List.set_cons_zero, List.set_cons_succ, List.length_cons, List.length_nil, pk_I, pk_A, pr_A, pi_I, st_s, st_n, if_true, if_false, eq_self, d_if, d_ju, d_re, d_ca, cat0, cat1, cat2, cat3, fr_z, fr_s, cc_I, cc_A, cc_N, Nat.reduceAdd, Nat.reduceLT, Nat.reduceLeDiff, Nat.reduceEqDiff, not_true, not_false_iff, z1_0, z1_1, Bool.and_self, Bool.true_and, Bool.and_true, nI_add, pk_mul, nI_clamp, decide_true, Nat.le_refl, bI_eq, bI_z1, nI_ltI, nI_leI, hve]
    rw [i2] at hQ
    exact hQ x i1
theorem n299 : nI 300 + (-1) = nI 299 := by decide
set_option maxHeartbeats 1000000 in
theorem k_doubt {d : Nat} {v : Nat → Nat → Int32} {w : Nat → Nat → Int64} {Q : Option Value → am_H → Prop} {T : TXT} {f : Nat → Int32} {B : Int} (hK : KI B v T f) {p n : Nat} (hp : p < tN T) (hn : n ≤ 300) (hQ : ∀ v', QF v v' → Q (some (.int (dbS T f p n))) (428, 26053, KD, RF, v', w)) : am_Ca (d + 6) M_Forecast_greatestDoubt [.ref 350, .int (nI p), .int (nI n)] (428, 26053, KD, RF, v, w) Q := by
  have h8 := hK.1.1
  have hBB := hK.2.2.2.2.2
  obtain ⟨l, hl, hl2, _⟩ := hK.1.2.2.2.2.2.1
  have hl4 := hl2.1
  refine ca_in (k := k_Forecast_greatestDoubt) (nL := 5) rfl (Nat.le_of_ble_eq_true rfl) ?_
  show am_Go am_X0 _ k_Forecast_greatestDoubt 0 ([.ref 350, .int (nI p), .int (nI n), .null, .null], [], _) _
  refine go_at (blk := b_Forecast_greatestDoubt_0) rfl ?_
  simp (disch := omega) only [b_Forecast_greatestDoubt_0, be_6, be_34, be_1, be_57_1, kc_350, rf_350_0, kc_25, rf_25_9, kc_32, List.getD_cons_zero, List.getD_cons_succ, List.set_cons_zero, List.set_cons_succ, List.length_cons, List.length_nil, pk_I, pk_A, pr_A, pi_I, st_s, st_n, if_true, if_false, eq_self, d_if, d_ju, d_re, d_ca, cat0, cat1, cat2, cat3, fr_z, fr_s, cc_I, cc_A, cc_N, Nat.reduceAdd, Nat.reduceLT, Nat.reduceLeDiff, Nat.reduceEqDiff, not_true, not_false_iff, z1_0, z1_1, Bool.and_self, Bool.true_and, Bool.and_true, nI_add, pk_mul, nI_clamp, decide_true, Nat.le_refl, bI_eq, bI_z1]
  refine k_looksAt hl hl4 ?_
  refine go_at (blk := b_Forecast_greatestDoubt_11) rfl ?_
  simp (disch := omega) only [b_Forecast_greatestDoubt_11, be_50_0, List.getD_cons_zero, List.getD_cons_succ, List.set_cons_zero, List.set_cons_succ, List.length_cons, List.length_nil, pk_I, pk_A, pr_A, pi_I, st_s, st_n, if_true, if_false, eq_self, d_if, d_ju, d_re, d_ca, cat0, cat1, cat2, cat3, fr_z, fr_s, cc_I, cc_A, cc_N, Nat.reduceAdd, Nat.reduceLT, Nat.reduceLeDiff, Nat.reduceEqDiff, not_true, not_false_iff, z1_0, z1_1, Bool.and_self, Bool.true_and, Bool.and_true, nI_add, pk_mul, nI_clamp, decide_true, Nat.le_refl, bI_eq, bI_z1]
  split
  · rename_i hc
    refine go_at (blk := b_Forecast_greatestDoubt_18) rfl ?_
    simp (disch := omega) only [b_Forecast_greatestDoubt_18, be_1, be_0, List.getD_cons_zero, List.getD_cons_succ, List.set_cons_zero, List.set_cons_succ, List.length_cons, List.length_nil, pk_I, pk_A, pr_A, pi_I, st_s, st_n, if_true, if_false, eq_self, d_if, d_ju, d_re, d_ca, cat0, cat1, cat2, cat3, fr_z, fr_s, cc_I, cc_A, cc_N, Nat.reduceAdd, Nat.reduceLT, Nat.reduceLeDiff, Nat.reduceEqDiff, not_true, not_false_iff, z1_0, z1_1, Bool.and_self, Bool.true_and, Bool.and_true, nI_add, pk_mul, nI_clamp, decide_true, Nat.le_refl, bI_eq, bI_z1]
    refine go_at (blk := b_Forecast_greatestDoubt_21) rfl ?_
    simp (disch := omega) only [b_Forecast_greatestDoubt_21, be_7, be_1, be_0, List.getD_cons_zero, List.getD_cons_succ, List.set_cons_zero, List.set_cons_succ, List.length_cons, List.length_nil, pk_I, pk_A, pr_A, pi_I, st_s, st_n, if_true, if_false, eq_self, d_if, d_ju, d_re, d_ca, cat0, cat1, cat2, cat3, fr_z, fr_s, cc_I, cc_A, cc_N, Nat.reduceAdd, Nat.reduceLT, Nat.reduceLeDiff, Nat.reduceEqDiff, not_true, not_false_iff, z1_0, z1_1, Bool.and_self, Bool.true_and, Bool.and_true, nI_add, pk_mul, nI_clamp, decide_true, Nat.le_refl, bI_eq, bI_z1]
    have hnl : noL T 1 := KX_no (by omega) hK.1 hl hl4 (by simpa using hc)
    refine go_at (blk := b_Forecast_greatestDoubt_27) rfl ?_
    simp (disch := omega) only [b_Forecast_greatestDoubt_27, be_4, be_49_2, List.getD_cons_zero, List.getD_cons_succ, List.set_cons_zero, List.set_cons_succ, List.length_cons, List.length_nil, pk_I, pk_A, pr_A, pi_I, st_s, st_n, if_true, if_false, eq_self, d_if, d_ju, d_re, d_ca, cat0, cat1, cat2, cat3, fr_z, fr_s, cc_I, cc_A, cc_N, Nat.reduceAdd, Nat.reduceLT, Nat.reduceLeDiff, Nat.reduceEqDiff, not_true, not_false_iff, z1_0, z1_1, Bool.and_self, Bool.true_and, Bool.and_true, nI_add, pk_mul, nI_clamp, decide_true, Nat.le_refl, bI_eq, bI_z1, nI_ltI, nI_leI, n299]
    refine go_at (blk := b_Forecast_greatestDoubt_33) rfl ?_
    simp (disch := omega) only [b_Forecast_greatestDoubt_33, be_6, be_4, be_1, be_57_4, kc_350, List.getD_cons_zero, List.getD_cons_succ, List.set_cons_zero, List.set_cons_succ, List.length_cons, List.length_nil, pk_I, pk_A, pr_A, pi_I, st_s, st_n, if_true, if_false, eq_self, d_if, d_ju, d_re, d_ca, cat0, cat1, cat2, cat3, fr_z, fr_s, cc_I, cc_A, cc_N, Nat.reduceAdd, Nat.reduceLT, Nat.reduceLeDiff, Nat.reduceEqDiff, not_true, not_false_iff, z1_0, z1_1, Bool.and_self, Bool.true_and, Bool.and_true, nI_add, pk_mul, nI_clamp, decide_true, Nat.le_refl, bI_eq, bI_z1, nI_ltI, nI_leI, n299]
    refine k_arrival hK hp hn (oil_ok hK (by omega)) ?_
    intro v2 q2
    rw [f40_0]
    refine go_at (blk := b_Forecast_greatestDoubt_42) rfl ?_
    simp (disch := omega) only [b_Forecast_greatestDoubt_42, be_2, be_49_0, List.getD_cons_zero, List.getD_cons_succ, List.set_cons_zero, List.set_cons_succ, List.length_cons, List.length_nil, pk_I, pk_A, pr_A, pi_I, st_s, st_n, if_true, if_false, eq_self, d_if, d_ju, d_re, d_ca, cat0, cat1, cat2, cat3, fr_z, fr_s, cc_I, cc_A, cc_N, Nat.reduceAdd, Nat.reduceLT, Nat.reduceLeDiff, Nat.reduceEqDiff, not_true, not_false_iff, z1_0, z1_1, Bool.and_self, Bool.true_and, Bool.and_true, nI_add, pk_mul, nI_clamp, decide_true, Nat.le_refl, bI_eq, bI_z1, nI_ltI, nI_leI, n299]
    split
    · rename_i hb
      refine go_at (blk := b_Forecast_greatestDoubt_50) rfl ?_
      simp (disch := omega) only [b_Forecast_greatestDoubt_50, be_11, be_51, List.getD_cons_zero, List.getD_cons_succ, List.set_cons_zero, List.set_cons_succ, List.length_cons, List.length_nil, pk_I, pk_A, pr_A, pi_I, st_s, st_n, if_true, if_false, eq_self, d_if, d_ju, d_re, d_ca, cat0, cat1, cat2, cat3, fr_z, fr_s, cc_I, cc_A, cc_N, Nat.reduceAdd, Nat.reduceLT, Nat.reduceLeDiff, Nat.reduceEqDiff, not_true, not_false_iff, z1_0, z1_1, Bool.and_self, Bool.true_and, Bool.and_true, nI_add, pk_mul, nI_clamp, decide_true, Nat.le_refl, bI_eq, bI_z1, nI_ltI, nI_leI, n299]
      refine go_at (blk := b_Forecast_greatestDoubt_27) rfl ?_
      simp (disch := omega) only [b_Forecast_greatestDoubt_27, be_4, be_49_2, List.getD_cons_zero, List.getD_cons_succ, List.set_cons_zero, List.set_cons_succ, List.length_cons, List.length_nil, pk_I, pk_A, pr_A, pi_I, st_s, st_n, if_true, if_false, eq_self, d_if, d_ju, d_re, d_ca, cat0, cat1, cat2, cat3, fr_z, fr_s, cc_I, cc_A, cc_N, Nat.reduceAdd, Nat.reduceLT, Nat.reduceLeDiff, Nat.reduceEqDiff, not_true, not_false_iff, z1_0, z1_1, Bool.and_self, Bool.true_and, Bool.and_true, nI_add, pk_mul, nI_clamp, decide_true, Nat.le_refl, bI_eq, bI_z1, nI_ltI, nI_leI, n299]
      refine go_at (blk := b_Forecast_greatestDoubt_56) rfl ?_
      simp (disch := omega) only [b_Forecast_greatestDoubt_56, be_2, be_54, List.getD_cons_zero, List.getD_cons_succ, List.set_cons_zero, List.set_cons_succ, List.length_cons, List.length_nil, pk_I, pk_A, pr_A, pi_I, st_s, st_n, if_true, if_false, eq_self, d_if, d_ju, d_re, d_ca, cat0, cat1, cat2, cat3, fr_z, fr_s, cc_I, cc_A, cc_N, Nat.reduceAdd, Nat.reduceLT, Nat.reduceLeDiff, Nat.reduceEqDiff, not_true, not_false_iff, z1_0, z1_1, Bool.and_self, Bool.true_and, Bool.and_true, nI_add, pk_mul, nI_clamp, decide_true, Nat.le_refl, bI_eq, bI_z1, nI_ltI, nI_leI, n299]
      rw [db_no hnl, if_neg (by unfold dbP; rw [hb]; decide)] at hQ
      exact hQ v2 q2
    · rename_i hb
      refine go_at (blk := b_Forecast_greatestDoubt_47) rfl ?_
      simp (disch := omega) only [b_Forecast_greatestDoubt_47, be_4, be_54, List.getD_cons_zero, List.getD_cons_succ, List.set_cons_zero, List.set_cons_succ, List.length_cons, List.length_nil, pk_I, pk_A, pr_A, pi_I, st_s, st_n, if_true, if_false, eq_self, d_if, d_ju, d_re, d_ca, cat0, cat1, cat2, cat3, fr_z, fr_s, cc_I, cc_A, cc_N, Nat.reduceAdd, Nat.reduceLT, Nat.reduceLeDiff, Nat.reduceEqDiff, not_true, not_false_iff, z1_0, z1_1, Bool.and_self, Bool.true_and, Bool.and_true, nI_add, pk_mul, nI_clamp, decide_true, Nat.le_refl, bI_eq, bI_z1, nI_ltI, nI_leI, n299]
      rw [db_no hnl, if_pos (by unfold dbP; rw [decide_eq_false hb]; rfl)] at hQ
      exact hQ v2 q2
  · rename_i hc
    refine go_at (blk := b_Forecast_greatestDoubt_14) rfl ?_
    simp (disch := omega) only [b_Forecast_greatestDoubt_14, be_1, be_51, List.getD_cons_zero, List.getD_cons_succ, List.set_cons_zero, List.set_cons_succ, List.length_cons, List.length_nil, pk_I, pk_A, pr_A, pi_I, st_s, st_n, if_true, if_false, eq_self, d_if, d_ju, d_re, d_ca, cat0, cat1, cat2, cat3, fr_z, fr_s, cc_I, cc_A, cc_N, Nat.reduceAdd, Nat.reduceLT, Nat.reduceLeDiff, Nat.reduceEqDiff, not_true, not_false_iff, z1_0, z1_1, Bool.and_self, Bool.true_and, Bool.and_true, nI_add, pk_mul, nI_clamp, decide_true, Nat.le_refl, bI_eq, bI_z1]
    refine go_at (blk := b_Forecast_greatestDoubt_21) rfl ?_
    simp (disch := omega) only [b_Forecast_greatestDoubt_21, be_7, be_1, be_0, List.getD_cons_zero, List.getD_cons_succ, List.set_cons_zero, List.set_cons_succ, List.length_cons, List.length_nil, pk_I, pk_A, pr_A, pi_I, st_s, st_n, if_true, if_false, eq_self, d_if, d_ju, d_re, d_ca, cat0, cat1, cat2, cat3, fr_z, fr_s, cc_I, cc_A, cc_N, Nat.reduceAdd, Nat.reduceLT, Nat.reduceLeDiff, Nat.reduceEqDiff, not_true, not_false_iff, z1_0, z1_1, Bool.and_self, Bool.true_and, Bool.and_true, nI_add, pk_mul, nI_clamp, decide_true, Nat.le_refl, bI_eq, bI_z1]
    exact k_doubt_loop hK hp hn hQ
