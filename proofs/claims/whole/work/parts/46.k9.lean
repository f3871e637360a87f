/-! laid by wip/whole/k9.py: the class: exchanges, counts -/
def swS (T : TXT) (f : Nat → Int32) (p a b n : Nat) : Int32 := itT T (-1) 0 n (upd (upd f (8 + a) 0) (8 + b) 1) p
def xcP (T : TXT) (f : Nat → Int32) (p n i j : Nat) (a : Int32 × Int32) : Int32 × Int32 := if (!decide (f (8 + i) = 0) && decide (f (8 + j) = 0) && mayB f (-1) (tS T) j) = true then (if a.2 < swS T f p i j n then (nI (10 * i + j), swS T f p i j n) else a) else a
def xcI (T : TXT) (f : Nat → Int32) (p n i : Nat) (a : Int32 × Int32) : Nat → Int32 × Int32
  | 0 => a
  | j + 1 => xcP T f p n i j (xcI T f p n i a j)
def xcS (T : TXT) (f : Nat → Int32) (p n : Nat) : Nat → Int32 × Int32
  | 0 => (-2, itT T (-1) 0 n f p)
  | i + 1 => xcI T f p n i (xcS T f p n i) (tN T)
theorem xc_0 {T : TXT} {f : Nat → Int32} {p n i j : Nat} {a : Int32 × Int32} (h : (!decide (f (8 + i) = 0) && decide (f (8 + j) = 0) && mayB f (-1) (tS T) j) = false) : xcP T f p n i j a = a := if_neg (by rw [h]; decide)
theorem xc_1 {T : TXT} {f : Nat → Int32} {p n i j : Nat} {a : Int32 × Int32} (h : (!decide (f (8 + i) = 0) && decide (f (8 + j) = 0) && mayB f (-1) (tS T) j) = true) (h2 : ¬ a.2 < swS T f p i j n) : xcP T f p n i j a = a := by
  unfold xcP
  rw [if_pos h, if_neg h2]
theorem xc_2 {T : TXT} {f : Nat → Int32} {p n i j : Nat} {a : Int32 × Int32} (h : (!decide (f (8 + i) = 0) && decide (f (8 + j) = 0) && mayB f (-1) (tS T) j) = true) (h2 : a.2 < swS T f p i j n) : xcP T f p n i j a = (nI (10 * i + j), swS T f p i j n) := by
  unfold xcP
  rw [if_pos h, if_pos h2]
theorem xc_i {T : TXT} {f : Nat → Int32} {p n i j : Nat} {a b : Int32 × Int32} (h : xcP T f p n i j (xcI T f p n i a j) = b) : xcI T f p n i a (j + 1) = b := h
theorem RX_k {v : Nat → Nat → Int32} {a n p : Nat} {no md : Int32} {g : Nat → Int32} (h : RX v a n no md g) (hp : p < n) (hn : nI p ≠ no) : v (a + 2) p = g (8 + p) := ((h.1 p hp).1 hn).2.1
set_option maxHeartbeats 1000000 in
theorem k_stepWith {d : Nat} {v : Nat → Nat → Int32} {w : Nat → Nat → Int64} {Q : Option Value → am_H → Prop} {T : TXT} {f : Nat → Int32} {B : Int} (hK : KI B v T f) {p a b n : Nat} (hp : p < tN T) (ha : a < tN T) (hb : b < tN T) (hn : n ≤ 300) (hQ : ∀ v', QF v v' → Q (some (.int (swS T f p a b n))) (428, 26053, KD, RF, v', w)) : am_Ca (d + 5) M_Forecast_stepWithExchange [.ref 350, .int (nI p), .int (nI a), .int (nI b), .int (nI n)] (428, 26053, KD, RF, v, w) Q := by
  have h8 := hK.1.1
  have hBB := hK.2.2.2.2.2
  refine ca_in (k := k_Forecast_stepWithExchange) (nL := 5) rfl (Nat.le_of_ble_eq_true rfl) ?_
  show am_Go am_X0 _ k_Forecast_stepWithExchange 0 ([.ref 350, .int (nI p), .int (nI a), .int (nI b), .int (nI n)], [], _) _
  refine go_at (blk := b_Forecast_stepWithExchange_0) rfl ?_
  simp (disch := omega) only [b_Forecast_stepWithExchange_0, be_6, be_34, be_57_1, kc_350, rf_350_2, rf_350_1, kc_352, List.getD_cons_zero, List.getD_cons_succ, List.set_cons_zero, List.set_cons_succ, List.length_cons, List.length_nil, pk_I, pk_A, pr_A, pi_I, st_s, st_n, if_true, if_false, eq_self, d_if, d_ju, d_re, d_ca, cat0, cat1, cat2, cat3, fr_z, fr_s, cc_I, cc_A, cc_N, Nat.reduceAdd, Nat.reduceLT, Nat.reduceLeDiff, Nat.reduceEqDiff, not_true, not_false_iff, z1_0, z1_1, Bool.and_self, Bool.true_and, Bool.and_true, nI_add, pk_mul, nI_clamp, decide_true, Nat.le_refl, bI_eq, bI_z1, vb_0, vb_1]
  refine kf_copy hK ?_
  intro v1 q1 r1
  refine go_at (blk := b_Forecast_stepWithExchange_11) rfl ?_
  simp (disch := omega) only [b_Forecast_stepWithExchange_11, be_6, be_34, be_4, be_1, be_45, be_57_1, kc_350, rf_350_2, kc_352, rf_352_2, ka_354, List.getD_cons_zero, List.getD_cons_succ, List.set_cons_zero, List.set_cons_succ, List.length_cons, List.length_nil, pk_I, pk_A, pr_A, pi_I, st_s, st_n, if_true, if_false, eq_self, d_if, d_ju, d_re, d_ca, cat0, cat1, cat2, cat3, fr_z, fr_s, cc_I, cc_A, cc_N, Nat.reduceAdd, Nat.reduceLT, Nat.reduceLeDiff, Nat.reduceEqDiff, not_true, not_false_iff, z1_0, z1_1, Bool.and_self, Bool.true_and, Bool.and_true, nI_add, pk_mul, nI_clamp, decide_true, Nat.le_refl, bI_eq, bI_z1, vb_0, vb_1]
  have r2 : RX (am_u (am_u v1 354 a (nI 0)) 354 b (nI 1)) 352 (tN T) (-1) 0 (upd (upd f (8 + a) 0) (8 + b) 1) := RX_kn h8 (by omega) (RX_kn h8 (by omega) r1)
  have g2 : GR B (tN T) (upd (upd f (8 + a) 0) (8 + b) 1) := GR_k1 h8 (by omega) (GR_k1 h8 (by omega) hK.2.2.1 (Or.inl rfl)) (Or.inr rfl)
  have q2 : QF v (am_u (am_u v1 354 a (nI 0)) 354 b (nI 1)) := QF_t q1 (QF_t (QF_a (by omega)) (QF_a (by omega)))
  refine kf_pass (k := n) (KI_q hK q2) r2 g2 (by omega) (by omega) ?_
  intro v3 q3 r3 g3
  have e3 : v3 353 p = swS T f p a b n := RX_st r3 hp (nI_m (by omega))
  refine go_at (blk := b_Forecast_stepWithExchange_40) rfl ?_
  simp (disch := omega) only [b_Forecast_stepWithExchange_40, be_6, be_34, be_4, be_38, be_54, kc_350, rf_350_2, kc_352, rf_352_1, ka_353, List.getD_cons_zero, List.getD_cons_succ, List.set_cons_zero, List.set_cons_succ, List.length_cons, List.length_nil, pk_I, pk_A, pr_A, pi_I, st_s, st_n, if_true, if_false, eq_self, d_if, d_ju, d_re, d_ca, cat0, cat1, cat2, cat3, fr_z, fr_s, cc_I, cc_A, cc_N, Nat.reduceAdd, Nat.reduceLT, Nat.reduceLeDiff, Nat.reduceEqDiff, not_true, not_false_iff, z1_0, z1_1, Bool.and_self, Bool.true_and, Bool.and_true, nI_add, pk_mul, nI_clamp, decide_true, Nat.le_refl, bI_eq, bI_z1, vb_0, vb_1, e3]
  exact hQ v3 (QF_t q2 q3)
set_option maxHeartbeats 1000000 in
theorem k_exchange {d : Nat} {v : Nat → Nat → Int32} {w : Nat → Nat → Int64} {Q : Option Value → am_H → Prop} {T : TXT} {f : Nat → Int32} {B : Int} (hK : KI B v T f) {p n : Nat} {wh : Int32} (hp : p < tN T) (hn : n ≤ 300) (hQ : ∀ v', QF v v' → Q (some (.int (if (xcS T f p n (tN T)).1 = -2 ∨ wh = 0 then (xcS T f p n (tN T)).1 else (xcS T f p n (tN T)).2))) (428, 26053, KD, RF, v', w)) : am_Ca (d + 6) M_Forecast_bestExchange [.ref 350, .int (nI p), .int (nI n), .int wh] (428, 26053, KD, RF, v, w) Q := by
  have h8 := hK.1.1
  have hBB := hK.2.2.2.2.2
  refine ca_in (k := k_Forecast_bestExchange) (nL := 9) rfl (Nat.le_of_ble_eq_true rfl) ?_
  show am_Go am_X0 _ k_Forecast_bestExchange 0 ([.ref 350, .int (nI p), .int (nI n), .int wh, .null, .null, .null, .null, .null], [], _) _
  refine go_at (blk := b_Forecast_bestExchange_0) rfl ?_
  simp (disch := omega) only [b_Forecast_bestExchange_0, be_6, be_34, be_57_1, kc_350, rf_350_2, rf_350_1, kc_352, List.getD_cons_zero, List.getD_cons_succ, List.set_cons_zero, List.set_cons_succ, List.length_cons, List.length_nil, pk_I, pk_A, pr_A, pi_I, st_s, st_n, if_true, if_false, eq_self, d_if, d_ju, d_re, d_ca, cat0, cat1, cat2, cat3, fr_z, fr_s, cc_I, cc_A, cc_N, Nat.reduceAdd, Nat.reduceLT, Nat.reduceLeDiff, Nat.reduceEqDiff, not_true, not_false_iff, z1_0, z1_1, Bool.and_self, Bool.true_and, Bool.and_true, nI_add, pk_mul, nI_clamp, decide_true, Nat.le_refl, bI_eq, bI_z1]
  refine kf_copy hK ?_
  intro v1 q1 r1
  refine go_at (blk := b_Forecast_bestExchange_11) rfl ?_
  simp (disch := omega) only [b_Forecast_bestExchange_11, be_6, be_34, be_4, be_57_1, kc_350, rf_350_2, kc_352, List.getD_cons_zero, List.getD_cons_succ, List.set_cons_zero, List.set_cons_succ, List.length_cons, List.length_nil, pk_I, pk_A, pr_A, pi_I, st_s, st_n, if_true, if_false, eq_self, d_if, d_ju, d_re, d_ca, cat0, cat1, cat2, cat3, fr_z, fr_s, cc_I, cc_A, cc_N, Nat.reduceAdd, Nat.reduceLT, Nat.reduceLeDiff, Nat.reduceEqDiff, not_true, not_false_iff, z1_0, z1_1, Bool.and_self, Bool.true_and, Bool.and_true, nI_add, pk_mul, nI_clamp, decide_true, Nat.le_refl, bI_eq, bI_z1]
  refine kf_pass (k := n) (KI_q hK q1) r1 hK.2.2.1 (by omega) (by omega) ?_
  intro v2 q2 r2 g2
  have e2 : v2 353 p = itT T (-1) 0 n f p := RX_st r2 hp (nI_m (by omega))
  refine go_at (blk := b_Forecast_bestExchange_19) rfl ?_
  simp (disch := omega) only [b_Forecast_bestExchange_19, be_2, be_7, be_6, be_34, be_4, be_38, be_1, be_0, kc_350, rf_350_2, kc_352, rf_352_1, ka_353, List.getD_cons_zero, List.getD_cons_succ, List.set_cons_zero, List.set_cons_succ, List.length_cons, List.length_nil, pk_I, pk_A, pr_A, pi_I, st_s, st_n, if_true, if_false, eq_self, d_if, d_ju, d_re, d_ca, cat0, cat1, cat2, cat3, fr_z, fr_s, cc_I, cc_A, cc_N, Nat.reduceAdd, Nat.reduceLT, Nat.reduceLeDiff, Nat.reduceEqDiff, not_true, not_false_iff, z1_0, z1_1, Bool.and_self, Bool.true_and, Bool.and_true, nI_add, pk_mul, nI_clamp, decide_true, Nat.le_refl, bI_eq, bI_z1, e2]
  refine go_loopA (α := (Nat → Nat → Int32) × Value × Value) (fun i x => ([.ref 350, .int (nI p), .int (nI n), .int wh, .int (xcS T f p n i).1, .int (xcS T f p n i).2, .int (nI i), x.2.1, x.2.2], [], (428, 26053, KD, RF, x.1, w))) (fun i x => QF v x.1 ∧ am_cc x.2.1 = true ∧ am_cc x.2.2 = true) (tN T) ?_ ?_ (v2, .null, .null) ⟨QF_t q1 q2, rfl, rfl⟩
  · intro i x hi ⟨x1, x3, x4⟩ ih
    try dsimp only at *
    have hni : ¬ tN T ≤ i := by omega
    have hKx : KI B x.1 T f := KI_q hK x1
    have k1 := hKx.1.2.1
    refine go_at (blk := b_Forecast_bestExchange_37) rfl ?_
    simp (disch := omega) only [b_Forecast_bestExchange_37, be_4, be_6, be_34, be_33, be_49_3, kc_350, rf_350_0, kc_25, List.getD_cons_zero, List.getD_cons_succ, List.set_cons_zero, List.set_cons_succ, List.length_cons, List.length_nil, pk_I, pk_A, pr_A, pi_I, st_s, st_n, if_true, if_false, eq_self, d_if, d_ju, d_re, d_ca, cat0, cat1, cat2, cat3, fr_z, fr_s, cc_I, cc_A, cc_N, Nat.reduceAdd, Nat.reduceLT, Nat.reduceLeDiff, Nat.reduceEqDiff, not_true, not_false_iff, z1_0, z1_1, Bool.and_self, Bool.true_and, Bool.and_true, nI_add, pk_mul, nI_clamp, decide_true, Nat.le_refl, bI_eq, bI_z1, nI_ltI, nI_leI, hni, x3, x4, k1]
    refine go_at (blk := b_Forecast_bestExchange_49) rfl ?_
    simp (disch := omega) only [b_Forecast_bestExchange_49, be_1, be_7, be_0, List.getD_cons_zero, List.getD_cons_succ, List.set_cons_zero, List.set_cons_succ, List.length_cons, List.length_nil, pk_I, pk_A, pr_A, pi_I, st_s, st_n, if_true, if_false, eq_self, d_if, d_ju, d_re, d_ca, cat0, cat1, cat2, cat3, fr_z, fr_s, cc_I, cc_A, cc_N, Nat.reduceAdd, Nat.reduceLT, Nat.reduceLeDiff, Nat.reduceEqDiff, not_true, not_false_iff, z1_0, z1_1, Bool.and_self, Bool.true_and, Bool.and_true, nI_add, pk_mul, nI_clamp, decide_true, Nat.le_refl, bI_eq, bI_z1, nI_ltI, nI_leI, hni, x3, x4, k1]
    refine go_loopA (α := (Nat → Nat → Int32) × Value) (fun j y => ([.ref 350, .int (nI p), .int (nI n), .int wh, .int (xcI T f p n i (xcS T f p n i) j).1, .int (xcI T f p n i (xcS T f p n i) j).2, .int (nI i), .int (nI j), y.2], [], (428, 26053, KD, RF, y.1, w))) (fun j y => QF x.1 y.1 ∧ am_cc y.2 = true) (tN T) ?_ ?_ (x.1, x.2.2) ⟨QF_r, x4⟩
    · intro j y hj ⟨y1, y2⟩ jh
      try dsimp only at *
      have hnj : ¬ tN T ≤ j := by omega
      have hKy : KI B y.1 T f := KI_q hKx y1
      have k1 := hKy.1.2.1
      have ei : y.1 44 i = f (8 + i) := RX_k hKy.2.1 hi (nI_m (by omega))
      have ej : y.1 44 j = f (8 + j) := RX_k hKy.2.1 hj (nI_m (by omega))
      refine go_at (blk := b_Forecast_bestExchange_52) rfl ?_
      simp (disch := omega) only [b_Forecast_bestExchange_52, be_4, be_6, be_34, be_33, be_49_3, kc_350, rf_350_0, kc_25, List.getD_cons_zero, List.getD_cons_succ, List.set_cons_zero, List.set_cons_succ, List.length_cons, List.length_nil, pk_I, pk_A, pr_A, pi_I, st_s, st_n, if_true, if_false, eq_self, d_if, d_ju, d_re, d_ca, cat0, cat1, cat2, cat3, fr_z, fr_s, cc_I, cc_A, cc_N, Nat.reduceAdd, Nat.reduceLT, Nat.reduceLeDiff, Nat.reduceEqDiff, not_true, not_false_iff, z1_0, z1_1, Bool.and_self, Bool.true_and, Bool.and_true, nI_add, pk_mul, nI_clamp, decide_true, Nat.le_refl, bI_eq, bI_z1, nI_ltI, nI_leI, k1, hnj, y2, ei, ej]
      refine go_at (blk := b_Forecast_bestExchange_64) rfl ?_
      simp (disch := omega) only [b_Forecast_bestExchange_64, be_6, be_34, be_4, be_40, be_50_0, kc_350, rf_350_1, kc_42, rf_42_2, ka_44, List.getD_cons_zero, List.getD_cons_succ, List.set_cons_zero, List.set_cons_succ, List.length_cons, List.length_nil, pk_I, pk_A, pr_A, pi_I, st_s, st_n, if_true, if_false, eq_self, d_if, d_ju, d_re, d_ca, cat0, cat1, cat2, cat3, fr_z, fr_s, cc_I, cc_A, cc_N, Nat.reduceAdd, Nat.reduceLT, Nat.reduceLeDiff, Nat.reduceEqDiff, not_true, not_false_iff, z1_0, z1_1, Bool.and_self, Bool.true_and, Bool.and_true, nI_add, pk_mul, nI_clamp, decide_true, Nat.le_refl, bI_eq, bI_z1, nI_ltI, nI_leI, k1, hnj, y2, ei, ej]
      split
      · rename_i ha
        refine go_at (blk := b_Forecast_bestExchange_138) rfl ?_
        simp (disch := omega) only [b_Forecast_bestExchange_138, be_10, be_51, List.getD_cons_zero, List.getD_cons_succ, List.set_cons_zero, List.set_cons_succ, List.length_cons, List.length_nil, pk_I, pk_A, pr_A, pi_I, st_s, st_n, if_true, if_false, eq_self, d_if, d_ju, d_re, d_ca, cat0, cat1, cat2, cat3, fr_z, fr_s, cc_I, cc_A, cc_N, Nat.reduceAdd, Nat.reduceLT, Nat.reduceLeDiff, Nat.reduceEqDiff, not_true, not_false_iff, z1_0, z1_1, Bool.and_self, Bool.true_and, Bool.and_true, nI_add, pk_mul, nI_clamp, decide_true, Nat.le_refl, bI_eq, bI_z1, nI_ltI, nI_leI, k1, hnj, y2, ei, ej]
        simp only [xc_i (xc_0 (show (!decide (f (8 + i) = 0) && decide (f (8 + j) = 0) && mayB f (-1) (tS T) j) = false by rw [ha]; rfl))] at jh
        exact jh (y.1, y.2) ⟨QF_t y1 QF_r, y2⟩
      · rename_i ha
        refine go_at (blk := b_Forecast_bestExchange_77) rfl ?_
        simp (disch := omega) only [b_Forecast_bestExchange_77, be_6, be_34, be_4, be_40, be_50_1, kc_350, rf_350_1, kc_42, rf_42_2, ka_44, List.getD_cons_zero, List.getD_cons_succ, List.set_cons_zero, List.set_cons_succ, List.length_cons, List.length_nil, pk_I, pk_A, pr_A, pi_I, st_s, st_n, if_true, if_false, eq_self, d_if, d_ju, d_re, d_ca, cat0, cat1, cat2, cat3, fr_z, fr_s, cc_I, cc_A, cc_N, Nat.reduceAdd, Nat.reduceLT, Nat.reduceLeDiff, Nat.reduceEqDiff, not_true, not_false_iff, z1_0, z1_1, Bool.and_self, Bool.true_and, Bool.and_true, nI_add, pk_mul, nI_clamp, decide_true, Nat.le_refl, bI_eq, bI_z1, nI_ltI, nI_leI, k1, hnj, y2, ei, ej]
        split
        · rename_i hb
          refine go_at (blk := b_Forecast_bestExchange_138) rfl ?_
          simp (disch := omega) only [b_Forecast_bestExchange_138, be_10, be_51, List.getD_cons_zero, List.getD_cons_succ, List.set_cons_zero, List.set_cons_succ, List.length_cons, List.length_nil, pk_I, pk_A, pr_A, pi_I, st_s, st_n, if_true, if_false, eq_self, d_if, d_ju, d_re, d_ca, cat0, cat1, cat2, cat3, fr_z, fr_s, cc_I, cc_A, cc_N, Nat.reduceAdd, Nat.reduceLT, Nat.reduceLeDiff, Nat.reduceEqDiff, not_true, not_false_iff, z1_0, z1_1, Bool.and_self, Bool.true_and, Bool.and_true, nI_add, pk_mul, nI_clamp, decide_true, Nat.le_refl, bI_eq, bI_z1, nI_ltI, nI_leI, k1, hnj, y2, ei, ej]
          simp only [xc_i (xc_0 (show (!decide (f (8 + i) = 0) && decide (f (8 + j) = 0) && mayB f (-1) (tS T) j) = false by rw [decide_eq_false hb]; simp))] at jh
          exact jh (y.1, y.2) ⟨QF_t y1 QF_r, y2⟩
        · rename_i hb
          have hb := Decidable.not_not.mp hb
          refine go_at (blk := b_Forecast_bestExchange_90) rfl ?_
          simp (disch := omega) only [b_Forecast_bestExchange_90, be_6, be_34, be_4, be_57_1, kc_350, rf_350_1, kc_42, List.getD_cons_zero, List.getD_cons_succ, List.set_cons_zero, List.set_cons_succ, List.length_cons, List.length_nil, pk_I, pk_A, pr_A, pi_I, st_s, st_n, if_true, if_false, eq_self, d_if, d_ju, d_re, d_ca, cat0, cat1, cat2, cat3, fr_z, fr_s, cc_I, cc_A, cc_N, Nat.reduceAdd, Nat.reduceLT, Nat.reduceLeDiff, Nat.reduceEqDiff, not_true, not_false_iff, z1_0, z1_1, Bool.and_self, Bool.true_and, Bool.and_true, nI_add, pk_mul, nI_clamp, decide_true, Nat.le_refl, bI_eq, bI_z1, nI_ltI, nI_leI, k1, hnj, y2, ei, ej]
          refine kf_nowMay hKy hj ?_
          refine go_at (blk := b_Forecast_bestExchange_99) rfl ?_
          simp (disch := omega) only [b_Forecast_bestExchange_99, be_50_1, List.getD_cons_zero, List.getD_cons_succ, List.set_cons_zero, List.set_cons_succ, List.length_cons, List.length_nil, pk_I, pk_A, pr_A, pi_I, st_s, st_n, if_true, if_false, eq_self, d_if, d_ju, d_re, d_ca, cat0, cat1, cat2, cat3, fr_z, fr_s, cc_I, cc_A, cc_N, Nat.reduceAdd, Nat.reduceLT, Nat.reduceLeDiff, Nat.reduceEqDiff, not_true, not_false_iff, z1_0, z1_1, Bool.and_self, Bool.true_and, Bool.and_true, nI_add, pk_mul, nI_clamp, decide_true, Nat.le_refl, bI_eq, bI_z1, nI_ltI, nI_leI, k1, hnj, y2, ei, ej]
          split
          · rename_i hc
            have hc : mayB f (-1) (tS T) j = true := by simpa using hc
            have ok : (!decide (f (8 + i) = 0) && decide (f (8 + j) = 0) && mayB f (-1) (tS T) j) = true := by rw [decide_eq_false ha, decide_eq_true hb, hc]; rfl
            refine go_at (blk := b_Forecast_bestExchange_105) rfl ?_
            simp (disch := omega) only [b_Forecast_bestExchange_105, be_6, be_4, be_57_4, kc_350, List.getD_cons_zero, List.getD_cons_succ, List.set_cons_zero, List.set_cons_succ, List.length_cons, List.length_nil, pk_I, pk_A, pr_A, pi_I, st_s, st_n, if_true, if_false, eq_self, d_if, d_ju, d_re, d_ca, cat0, cat1, cat2, cat3, fr_z, fr_s, cc_I, cc_A, cc_N, Nat.reduceAdd, Nat.reduceLT, Nat.reduceLeDiff, Nat.reduceEqDiff, not_true, not_false_iff, z1_0, z1_1, Bool.and_self, Bool.true_and, Bool.and_true, nI_add, pk_mul, nI_clamp, decide_true, Nat.le_refl, bI_eq, bI_z1, nI_ltI, nI_leI, k1, hnj, y2, ei, ej]
            refine k_stepWith hKy hp hi hj hn ?_
            intro v2 q2
            refine go_at (blk := b_Forecast_bestExchange_115) rfl ?_
            simp (disch := omega) only [b_Forecast_bestExchange_115, be_7, be_4, be_49_5, List.getD_cons_zero, List.getD_cons_succ, List.set_cons_zero, List.set_cons_succ, List.length_cons, List.length_nil, pk_I, pk_A, pr_A, pi_I, st_s, st_n, if_true, if_false, eq_self, d_if, d_ju, d_re, d_ca, cat0, cat1, cat2, cat3, fr_z, fr_s, cc_I, cc_A, cc_N, Nat.reduceAdd, Nat.reduceLT, Nat.reduceLeDiff, Nat.reduceEqDiff, not_true, not_false_iff, z1_0, z1_1, Bool.and_self, Bool.true_and, Bool.and_true, nI_add, pk_mul, nI_clamp, decide_true, Nat.le_refl, bI_eq, bI_z1, nI_ltI, nI_leI, k1, hnj, y2, ei, ej]
            split
            · rename_i hd
              refine go_at (blk := b_Forecast_bestExchange_138) rfl ?_
              simp (disch := omega) only [b_Forecast_bestExchange_138, be_10, be_51, List.getD_cons_zero, List.getD_cons_succ, List.set_cons_zero, List.set_cons_succ, List.length_cons, List.length_nil, pk_I, pk_A, pr_A, pi_I, st_s, st_n, if_true, if_false, eq_self, d_if, d_ju, d_re, d_ca, cat0, cat1, cat2, cat3, fr_z, fr_s, cc_I, cc_A, cc_N, Nat.reduceAdd, Nat.reduceLT, Nat.reduceLeDiff, Nat.reduceEqDiff, not_true, not_false_iff, z1_0, z1_1, Bool.and_self, Bool.true_and, Bool.and_true, nI_add, pk_mul, nI_clamp, decide_true, Nat.le_refl, bI_eq, bI_z1, nI_ltI, nI_leI, k1, hnj, y2, ei, ej]
              simp only [xc_i (xc_1 ok (Int32.not_lt.mpr hd))] at jh
              exact jh (v2, .int _) ⟨QF_t y1 q2, rfl⟩
            · rename_i hd
              refine go_at (blk := b_Forecast_bestExchange_124) rfl ?_
              simp (disch := omega) only [b_Forecast_bestExchange_124, be_1, be_4, be_14, be_12, be_7, be_0, List.getD_cons_zero, List.getD_cons_succ, List.set_cons_zero, List.set_cons_succ, List.length_cons, List.length_nil, pk_I, pk_A, pr_A, pi_I, st_s, st_n, if_true, if_false, eq_self, d_if, d_ju, d_re, d_ca, cat0, cat1, cat2, cat3, fr_z, fr_s, cc_I, cc_A, cc_N, Nat.reduceAdd, Nat.reduceLT, Nat.reduceLeDiff, Nat.reduceEqDiff, not_true, not_false_iff, z1_0, z1_1, Bool.and_self, Bool.true_and, Bool.and_true, nI_add, pk_mul, nI_clamp, decide_true, Nat.le_refl, bI_eq, bI_z1, nI_ltI, nI_leI, k1, hnj, y2, ei, ej]
              refine go_at (blk := b_Forecast_bestExchange_138) rfl ?_
              simp (disch := omega) only [b_Forecast_bestExchange_138, be_10, be_51, List.getD_cons_zero, List.getD_cons_succ, List.set_cons_zero, List.set_cons_succ, List.length_cons, List.length_nil, pk_I, pk_A, pr_A, pi_I, st_s, st_n, if_true, if_false, eq_self, d_if, d_ju, d_re, d_ca, cat0, cat1, cat2, cat3, fr_z, fr_s, cc_I, cc_A, cc_N, Nat.reduceAdd, Nat.reduceLT, Nat.reduceLeDiff, Nat.reduceEqDiff, not_true, not_false_iff, z1_0, z1_1, Bool.and_self, Bool.true_and, Bool.and_true, nI_add, pk_mul, nI_clamp, decide_true, Nat.le_refl, bI_eq, bI_z1, nI_ltI, nI_leI, k1, hnj, y2, ei, ej]
              simp only [xc_i (xc_2 ok (Int32.not_le.mp hd))] at jh
              exact jh (v2, .int _) ⟨QF_t y1 q2, rfl⟩
          · rename_i hc
            have hc : mayB f (-1) (tS T) j = false := by simpa using hc
            refine go_at (blk := b_Forecast_bestExchange_102) rfl ?_
            simp (disch := omega) only [b_Forecast_bestExchange_102, be_51, List.getD_cons_zero, List.getD_cons_succ, List.set_cons_zero, List.set_cons_succ, List.length_cons, List.length_nil, pk_I, pk_A, pr_A, pi_I, st_s, st_n, if_true, if_false, eq_self, d_if, d_ju, d_re, d_ca, cat0, cat1, cat2, cat3, fr_z, fr_s, cc_I, cc_A, cc_N, Nat.reduceAdd, Nat.reduceLT, Nat.reduceLeDiff, Nat.reduceEqDiff, not_true, not_false_iff, z1_0, z1_1, Bool.and_self, Bool.true_and, Bool.and_true, nI_add, pk_mul, nI_clamp, decide_true, Nat.le_refl, bI_eq, bI_z1, nI_ltI, nI_leI, k1, hnj, y2, ei, ej]
            refine go_at (blk := b_Forecast_bestExchange_138) rfl ?_
            simp (disch := omega) only [b_Forecast_bestExchange_138, be_10, be_51, List.getD_cons_zero, List.getD_cons_succ, List.set_cons_zero, List.set_cons_succ, List.length_cons, List.length_nil, pk_I, pk_A, pr_A, pi_I, st_s, st_n, if_true, if_false, eq_self, d_if, d_ju, d_re, d_ca, cat0, cat1, cat2, cat3, fr_z, fr_s, cc_I, cc_A, cc_N, Nat.reduceAdd, Nat.reduceLT, Nat.reduceLeDiff, Nat.reduceEqDiff, not_true, not_false_iff, z1_0, z1_1, Bool.and_self, Bool.true_and, Bool.and_true, nI_add, pk_mul, nI_clamp, decide_true, Nat.le_refl, bI_eq, bI_z1, nI_ltI, nI_leI, k1, hnj, y2, ei, ej]
            simp only [xc_i (xc_0 (show (!decide (f (8 + i) = 0) && decide (f (8 + j) = 0) && mayB f (-1) (tS T) j) = false by rw [hc]; simp))] at jh
            exact jh (y.1, y.2) ⟨QF_t y1 QF_r, y2⟩
    · intro y ⟨y1, y2⟩
      try dsimp only at *
      have hKy : KI B y.1 T f := KI_q hKx y1
      have k1 := hKy.1.2.1
      refine go_at (blk := b_Forecast_bestExchange_52) rfl ?_
      simp (disch := omega) only [b_Forecast_bestExchange_52, be_4, be_6, be_34, be_33, be_49_3, kc_350, rf_350_0, kc_25, List.getD_cons_zero, List.getD_cons_succ, List.set_cons_zero, List.set_cons_succ, List.length_cons, List.length_nil, pk_I, pk_A, pr_A, pi_I, st_s, st_n, if_true, if_false, eq_self, d_if, d_ju, d_re, d_ca, cat0, cat1, cat2, cat3, fr_z, fr_s, cc_I, cc_A, cc_N, Nat.reduceAdd, Nat.reduceLT, Nat.reduceLeDiff, Nat.reduceEqDiff, not_true, not_false_iff, z1_0, z1_1, Bool.and_self, Bool.true_and, Bool.and_true, nI_add, pk_mul, nI_clamp, decide_true, Nat.le_refl, bI_eq, bI_z1, nI_ltI, nI_leI, k1]
      refine go_at (blk := b_Forecast_bestExchange_144) rfl ?_
      simp (disch := omega) only [b_Forecast_bestExchange_144, be_10, be_51, List.getD_cons_zero, List.getD_cons_succ, List.set_cons_zero, List.set_cons_succ, List.length_cons, List.length_nil, pk_I, pk_A, pr_A, pi_I, st_s, st_n, if_true, if_false, eq_self, d_if, d_ju, d_re, d_ca, cat0, cat1, cat2, cat3, fr_z, fr_s, cc_I, cc_A, cc_N, Nat.reduceAdd, Nat.reduceLT, Nat.reduceLeDiff, Nat.reduceEqDiff, not_true, not_false_iff, z1_0, z1_1, Bool.and_self, Bool.true_and, Bool.and_true, nI_add, pk_mul, nI_clamp, decide_true, Nat.le_refl, bI_eq, bI_z1, nI_ltI, nI_leI, k1]
      exact ih (y.1, .int _, y.2) ⟨QF_t x1 y1, rfl, y2⟩
  · intro x ⟨x1, x3, x4⟩
    try dsimp only at *
    have hKx : KI B x.1 T f := KI_q hK x1
    have k1 := hKx.1.2.1
    refine go_at (blk := b_Forecast_bestExchange_37) rfl ?_
    simp (disch := omega) only [b_Forecast_bestExchange_37, be_4, be_6, be_34, be_33, be_49_3, kc_350, rf_350_0, kc_25, List.getD_cons_zero, List.getD_cons_succ, List.set_cons_zero, List.set_cons_succ, List.length_cons, List.length_nil, pk_I, pk_A, pr_A, pi_I, st_s, st_n, if_true, if_false, eq_self, d_if, d_ju, d_re, d_ca, cat0, cat1, cat2, cat3, fr_z, fr_s, cc_I, cc_A, cc_N, Nat.reduceAdd, Nat.reduceLT, Nat.reduceLeDiff, Nat.reduceEqDiff, not_true, not_false_iff, z1_0, z1_1, Bool.and_self, Bool.true_and, Bool.and_true, nI_add, pk_mul, nI_clamp, decide_true, Nat.le_refl, bI_eq, bI_z1, nI_ltI, nI_leI, k1]
    refine go_at (blk := b_Forecast_bestExchange_150) rfl ?_
    simp (disch := omega) only [b_Forecast_bestExchange_150, be_4, be_2, be_49_0, List.getD_cons_zero, List.getD_cons_succ, List.set_cons_zero, List.set_cons_succ, List.length_cons, List.length_nil, pk_I, pk_A, pr_A, pi_I, st_s, st_n, if_true, if_false, eq_self, d_if, d_ju, d_re, d_ca, cat0, cat1, cat2, cat3, fr_z, fr_s, cc_I, cc_A, cc_N, Nat.reduceAdd, Nat.reduceLT, Nat.reduceLeDiff, Nat.reduceEqDiff, not_true, not_false_iff, z1_0, z1_1, Bool.and_self, Bool.true_and, Bool.and_true, nI_add, pk_mul, nI_clamp, decide_true, Nat.le_refl, bI_eq, bI_z1, nI_ltI, nI_leI, k1]
    split
    · rename_i hv
      refine go_at (blk := b_Forecast_bestExchange_161) rfl ?_
      simp (disch := omega) only [b_Forecast_bestExchange_161, be_4, be_51, List.getD_cons_zero, List.getD_cons_succ, List.set_cons_zero, List.set_cons_succ, List.length_cons, List.length_nil, pk_I, pk_A, pr_A, pi_I, st_s, st_n, if_true, if_false, eq_self, d_if, d_ju, d_re, d_ca, cat0, cat1, cat2, cat3, fr_z, fr_s, cc_I, cc_A, cc_N, Nat.reduceAdd, Nat.reduceLT, Nat.reduceLeDiff, Nat.reduceEqDiff, not_true, not_false_iff, z1_0, z1_1, Bool.and_self, Bool.true_and, Bool.and_true, nI_add, pk_mul, nI_clamp, decide_true, Nat.le_refl, bI_eq, bI_z1, nI_ltI, nI_leI, k1]
      refine go_at (blk := b_Forecast_bestExchange_168) rfl ?_
      simp (disch := omega) only [b_Forecast_bestExchange_168, be_54, List.getD_cons_zero, List.getD_cons_succ, List.set_cons_zero, List.set_cons_succ, List.length_cons, List.length_nil, pk_I, pk_A, pr_A, pi_I, st_s, st_n, if_true, if_false, eq_self, d_if, d_ju, d_re, d_ca, cat0, cat1, cat2, cat3, fr_z, fr_s, cc_I, cc_A, cc_N, Nat.reduceAdd, Nat.reduceLT, Nat.reduceLeDiff, Nat.reduceEqDiff, not_true, not_false_iff, z1_0, z1_1, Bool.and_self, Bool.true_and, Bool.and_true, nI_add, pk_mul, nI_clamp, decide_true, Nat.le_refl, bI_eq, bI_z1, nI_ltI, nI_leI, k1]
      rw [if_pos (Or.inl hv)] at hQ
      exact hQ x.1 x1
    · rename_i hv
      refine go_at (blk := b_Forecast_bestExchange_157) rfl ?_
      simp (disch := omega) only [b_Forecast_bestExchange_157, be_4, be_50_1, List.getD_cons_zero, List.getD_cons_succ, List.set_cons_zero, List.set_cons_succ, List.length_cons, List.length_nil, pk_I, pk_A, pr_A, pi_I, st_s, st_n, if_true, if_false, eq_self, d_if, d_ju, d_re, d_ca, cat0, cat1, cat2, cat3, fr_z, fr_s, cc_I, cc_A, cc_N, Nat.reduceAdd, Nat.reduceLT, Nat.reduceLeDiff, Nat.reduceEqDiff, not_true, not_false_iff, z1_0, z1_1, Bool.and_self, Bool.true_and, Bool.and_true, nI_add, pk_mul, nI_clamp, decide_true, Nat.le_refl, bI_eq, bI_z1, nI_ltI, nI_leI, k1]
      split
      · rename_i hw
        refine go_at (blk := b_Forecast_bestExchange_166) rfl ?_
        simp (disch := omega) only [b_Forecast_bestExchange_166, be_4, be_0, List.getD_cons_zero, List.getD_cons_succ, List.set_cons_zero, List.set_cons_succ, List.length_cons, List.length_nil, pk_I, pk_A, pr_A, pi_I, st_s, st_n, if_true, if_false, eq_self, d_if, d_ju, d_re, d_ca, cat0, cat1, cat2, cat3, fr_z, fr_s, cc_I, cc_A, cc_N, Nat.reduceAdd, Nat.reduceLT, Nat.reduceLeDiff, Nat.reduceEqDiff, not_true, not_false_iff, z1_0, z1_1, Bool.and_self, Bool.true_and, Bool.and_true, nI_add, pk_mul, nI_clamp, decide_true, Nat.le_refl, bI_eq, bI_z1, nI_ltI, nI_leI, k1]
        refine go_at (blk := b_Forecast_bestExchange_168) rfl ?_
        simp (disch := omega) only [b_Forecast_bestExchange_168, be_54, List.getD_cons_zero, List.getD_cons_succ, List.set_cons_zero, List.set_cons_succ, List.length_cons, List.length_nil, pk_I, pk_A, pr_A, pi_I, st_s, st_n, if_true, if_false, eq_self, d_if, d_ju, d_re, d_ca, cat0, cat1, cat2, cat3, fr_z, fr_s, cc_I, cc_A, cc_N, Nat.reduceAdd, Nat.reduceLT, Nat.reduceLeDiff, Nat.reduceEqDiff, not_true, not_false_iff, z1_0, z1_1, Bool.and_self, Bool.true_and, Bool.and_true, nI_add, pk_mul, nI_clamp, decide_true, Nat.le_refl, bI_eq, bI_z1, nI_ltI, nI_leI, k1]
        rw [if_neg (fun z => z.elim hv hw)] at hQ
        exact hQ x.1 x1
      · rename_i hw
        refine go_at (blk := b_Forecast_bestExchange_161) rfl ?_
        simp (disch := omega) only [b_Forecast_bestExchange_161, be_4, be_51, List.getD_cons_zero, List.getD_cons_succ, List.set_cons_zero, List.set_cons_succ, List.length_cons, List.length_nil, pk_I, pk_A, pr_A, pi_I, st_s, st_n, if_true, if_false, eq_self, d_if, d_ju, d_re, d_ca, cat0, cat1, cat2, cat3, fr_z, fr_s, cc_I, cc_A, cc_N, Nat.reduceAdd, Nat.reduceLT, Nat.reduceLeDiff, Nat.reduceEqDiff, not_true, not_false_iff, z1_0, z1_1, Bool.and_self, Bool.true_and, Bool.and_true, nI_add, pk_mul, nI_clamp, decide_true, Nat.le_refl, bI_eq, bI_z1, nI_ltI, nI_leI, k1]
        refine go_at (blk := b_Forecast_bestExchange_168) rfl ?_
        simp (disch := omega) only [b_Forecast_bestExchange_168, be_54, List.getD_cons_zero, List.getD_cons_succ, List.set_cons_zero, List.set_cons_succ, List.length_cons, List.length_nil, pk_I, pk_A, pr_A, pi_I, st_s, st_n, if_true, if_false, eq_self, d_if, d_ju, d_re, d_ca, cat0, cat1, cat2, cat3, fr_z, fr_s, cc_I, cc_A, cc_N, Nat.reduceAdd, Nat.reduceLT, Nat.reduceLeDiff, Nat.reduceEqDiff, not_true, not_false_iff, z1_0, z1_1, Bool.and_self, Bool.true_and, Bool.and_true, nI_add, pk_mul, nI_clamp, decide_true, Nat.le_refl, bI_eq, bI_z1, nI_ltI, nI_leI, k1]
        rw [if_pos (Or.inr (Decidable.not_not.mp hw))] at hQ
        exact hQ x.1 x1
/-- a set, by who is of it -/
def wbN (g : Nat → Bool) : Nat → Nat
  | 0 => 0
  | i + 1 => wbN g i + (if g i = true then 2 ^ i else 0)
theorem wb_lt {g : Nat → Bool} (i : Nat) : wbN g i < 2 ^ i := by
  induction i with
  | zero => exact Nat.one_pos
  | succ i ih =>
    unfold wbN
    have : 2 ^ (i + 1) = 2 ^ i + 2 ^ i := by rw [Nat.pow_succ]; omega
    split <;> omega
theorem wb_t {g : Nat → Bool} {i : Nat} (h : g i = true) : wbN g (i + 1) = wbN g i + 2 ^ i := by
  show wbN g i + (if g i = true then 2 ^ i else 0) = _
  rw [if_pos h]
theorem wb_f {g : Nat → Bool} {i : Nat} (h : g i = false) : wbN g (i + 1) = wbN g i := by
  show wbN g i + (if g i = true then 2 ^ i else 0) = _
  rw [if_neg (by rw [h]; decide)]
  rfl
theorem cnt_t {g : Nat → Bool} {i : Nat} (h : g i = true) : cnt g (i + 1) = cnt g i + 1 := by
  show cnt g i + (if g i = true then 1 else 0) = _
  rw [if_pos h]
theorem cnt_f {g : Nat → Bool} {i : Nat} (h : g i = false) : cnt g (i + 1) = cnt g i := by
  show cnt g i + (if g i = true then 1 else 0) = _
  rw [if_neg (by rw [h]; decide)]
  rfl
theorem k_who {d : Nat} {v : Nat → Nat → Int32} {w : Nat → Nat → Int64} {Q : Option Value → am_H → Prop} {a : Nat} (ha : ST a) {T : TXT} {no md : Int32} {f : Nat → Int32} {B : Int} (hk : KX v T) (hr : RX v a (tN T) no md f) (hg : GR B (tN T) f) (hQ : Q (some (.int (nI (wbN (mayB f no (tS T)) (tN T))))) (428, 26053, KD, RF, v, w)) : am_Ca (d + 3) M_Stair_whoMayKneel [.ref a] (428, 26053, KD, RF, v, w) Q := by
  obtain ⟨hlo, hhi⟩ := st_lo ha
  have h8 := hk.1
  have k1 := hk.2.1
  refine ca_in (k := k_Stair_whoMayKneel) (nL := 3) rfl (Nat.le_of_ble_eq_true rfl) ?_
  show am_Go am_X0 _ k_Stair_whoMayKneel 0 ([.ref a, .null, .null], [], _) _
  refine go_at (blk := b_Stair_whoMayKneel_0) rfl ?_
  simp (disch := omega) only [b_Stair_whoMayKneel_0, be_1, be_7, be_0, List.getD_cons_zero, List.getD_cons_succ, List.set_cons_zero, List.set_cons_succ, List.length_cons, List.length_nil, pk_I, pk_A, pr_A, pi_I, st_s, st_n, if_true, if_false, eq_self, d_if, d_ju, d_re, d_ca, cat0, cat1, cat2, cat3, fr_z, fr_s, cc_I, cc_A, cc_N, Nat.reduceAdd, Nat.reduceLT, Nat.reduceLeDiff, Nat.reduceEqDiff, not_true, not_false_iff, z1_0, z1_1, Bool.and_self, Bool.true_and, Bool.and_true, nI_add, pk_mul, nI_clamp, decide_true, Nat.le_refl, bI_eq, bI_z1]
  refine go_loop (fun i => ([.ref a, .int (nI (wbN (mayB f no (tS T)) i)), .int (nI i)], [], (428, 26053, KD, RF, v, w))) (tN T) ?_ ?_
  · intro i hi ih
    have hni : ¬ tN T ≤ i := by omega
    have hor := bt_or i (by omega) (wbN (mayB f no (tS T)) i) (wb_lt i)
    try dsimp only at ih ⊢
    refine go_at (blk := b_Stair_whoMayKneel_4) rfl ?_
    simp (disch := omega) only [b_Stair_whoMayKneel_4, be_4, be_6, be_34, be_33, be_49_3, kc_st ha, st_r0 ha, kc_25, List.getD_cons_zero, List.getD_cons_succ, List.set_cons_zero, List.set_cons_succ, List.length_cons, List.length_nil, pk_I, pk_A, pr_A, pi_I, st_s, st_n, if_true, if_false, eq_self, d_if, d_ju, d_re, d_ca, cat0, cat1, cat2, cat3, fr_z, fr_s, cc_I, cc_A, cc_N, Nat.reduceAdd, Nat.reduceLT, Nat.reduceLeDiff, Nat.reduceEqDiff, not_true, not_false_iff, z1_0, z1_1, Bool.and_self, Bool.true_and, Bool.and_true, nI_add, pk_mul, nI_clamp, decide_true, Nat.le_refl, bI_eq, bI_z1, nI_ltI, nI_leI, k1, hor, hni]
    refine go_at (blk := b_Stair_whoMayKneel_15) rfl ?_
    simp (disch := omega) only [b_Stair_whoMayKneel_15, be_6, be_4, be_57_1, kc_st ha, List.getD_cons_zero, List.getD_cons_succ, List.set_cons_zero, List.set_cons_succ, List.length_cons, List.length_nil, pk_I, pk_A, pr_A, pi_I, st_s, st_n, if_true, if_false, eq_self, d_if, d_ju, d_re, d_ca, cat0, cat1, cat2, cat3, fr_z, fr_s, cc_I, cc_A, cc_N, Nat.reduceAdd, Nat.reduceLT, Nat.reduceLeDiff, Nat.reduceEqDiff, not_true, not_false_iff, z1_0, z1_1, Bool.and_self, Bool.true_and, Bool.and_true, nI_add, pk_mul, nI_clamp, decide_true, Nat.le_refl, bI_eq, bI_z1, nI_ltI, nI_leI, k1, hor, hni]
    refine k_mayKneel ha (by omega) ?_
    rw [RX_may hk hr hg hi]
    refine go_at (blk := b_Stair_whoMayKneel_20) rfl ?_
    simp (disch := omega) only [b_Stair_whoMayKneel_20, be_50_0, List.getD_cons_zero, List.getD_cons_succ, List.set_cons_zero, List.set_cons_succ, List.length_cons, List.length_nil, pk_I, pk_A, pr_A, pi_I, st_s, st_n, if_true, if_false, eq_self, d_if, d_ju, d_re, d_ca, cat0, cat1, cat2, cat3, fr_z, fr_s, cc_I, cc_A, cc_N, Nat.reduceAdd, Nat.reduceLT, Nat.reduceLeDiff, Nat.reduceEqDiff, not_true, not_false_iff, z1_0, z1_1, Bool.and_self, Bool.true_and, Bool.and_true, nI_add, pk_mul, nI_clamp, decide_true, Nat.le_refl, bI_eq, bI_z1, nI_ltI, nI_leI, k1, hor, hni]
    split
    · rename_i hb
      refine go_at (blk := b_Stair_whoMayKneel_29) rfl ?_
      simp (disch := omega) only [b_Stair_whoMayKneel_29, be_10, be_51, List.getD_cons_zero, List.getD_cons_succ, List.set_cons_zero, List.set_cons_succ, List.length_cons, List.length_nil, pk_I, pk_A, pr_A, pi_I, st_s, st_n, if_true, if_false, eq_self, d_if, d_ju, d_re, d_ca, cat0, cat1, cat2, cat3, fr_z, fr_s, cc_I, cc_A, cc_N, Nat.reduceAdd, Nat.reduceLT, Nat.reduceLeDiff, Nat.reduceEqDiff, not_true, not_false_iff, z1_0, z1_1, Bool.and_self, Bool.true_and, Bool.and_true, nI_add, pk_mul, nI_clamp, decide_true, Nat.le_refl, bI_eq, bI_z1, nI_ltI, nI_leI, k1, hor, hni]
      rw [wb_f hb] at ih
      exact ih
    · rename_i hb
      refine go_at (blk := b_Stair_whoMayKneel_23) rfl ?_
      simp (disch := omega) only [b_Stair_whoMayKneel_23, be_4, be_1, be_21, be_19, be_7, be_0, List.getD_cons_zero, List.getD_cons_succ, List.set_cons_zero, List.set_cons_succ, List.length_cons, List.length_nil, pk_I, pk_A, pr_A, pi_I, st_s, st_n, if_true, if_false, eq_self, d_if, d_ju, d_re, d_ca, cat0, cat1, cat2, cat3, fr_z, fr_s, cc_I, cc_A, cc_N, Nat.reduceAdd, Nat.reduceLT, Nat.reduceLeDiff, Nat.reduceEqDiff, not_true, not_false_iff, z1_0, z1_1, Bool.and_self, Bool.true_and, Bool.and_true, nI_add, pk_mul, nI_clamp, decide_true, Nat.le_refl, bI_eq, bI_z1, nI_ltI, nI_leI, k1, hor, hni]
      refine go_at (blk := b_Stair_whoMayKneel_29) rfl ?_
      simp (disch := omega) only [b_Stair_whoMayKneel_29, be_10, be_51, List.getD_cons_zero, List.getD_cons_succ, List.set_cons_zero, List.set_cons_succ, List.length_cons, List.length_nil, pk_I, pk_A, pr_A, pi_I, st_s, st_n, if_true, if_false, eq_self, d_if, d_ju, d_re, d_ca, cat0, cat1, cat2, cat3, fr_z, fr_s, cc_I, cc_A, cc_N, Nat.reduceAdd, Nat.reduceLT, Nat.reduceLeDiff, Nat.reduceEqDiff, not_true, not_false_iff, z1_0, z1_1, Bool.and_self, Bool.true_and, Bool.and_true, nI_add, pk_mul, nI_clamp, decide_true, Nat.le_refl, bI_eq, bI_z1, nI_ltI, nI_leI, k1, hor, hni]
      rw [wb_t (by simpa using hb)] at ih
      exact ih
  · have hor : (1 : Nat) = 1 := rfl
    try dsimp only
    refine go_at (blk := b_Stair_whoMayKneel_4) rfl ?_
    simp (disch := omega) only [b_Stair_whoMayKneel_4, be_4, be_6, be_34, be_33, be_49_3, kc_st ha, st_r0 ha, kc_25, List.getD_cons_zero, List.getD_cons_succ, List.set_cons_zero, List.set_cons_succ, List.length_cons, List.length_nil, pk_I, pk_A, pr_A, pi_I, st_s, st_n, if_true, if_false, eq_self, d_if, d_ju, d_re, d_ca, cat0, cat1, cat2, cat3, fr_z, fr_s, cc_I, cc_A, cc_N, Nat.reduceAdd, Nat.reduceLT, Nat.reduceLeDiff, Nat.reduceEqDiff, not_true, not_false_iff, z1_0, z1_1, Bool.and_self, Bool.true_and, Bool.and_true, nI_add, pk_mul, nI_clamp, decide_true, Nat.le_refl, bI_eq, bI_z1, nI_ltI, nI_leI, k1, hor]
    refine go_at (blk := b_Stair_whoMayKneel_35) rfl ?_
    simp (disch := omega) only [b_Stair_whoMayKneel_35, be_4, be_54, List.getD_cons_zero, List.getD_cons_succ, List.set_cons_zero, List.set_cons_succ, List.length_cons, List.length_nil, pk_I, pk_A, pr_A, pi_I, st_s, st_n, if_true, if_false, eq_self, d_if, d_ju, d_re, d_ca, cat0, cat1, cat2, cat3, fr_z, fr_s, cc_I, cc_A, cc_N, Nat.reduceAdd, Nat.reduceLT, Nat.reduceLeDiff, Nat.reduceEqDiff, not_true, not_false_iff, z1_0, z1_1, Bool.and_self, Bool.true_and, Bool.and_true, nI_add, pk_mul, nI_clamp, decide_true, Nat.le_refl, bI_eq, bI_z1, nI_ltI, nI_leI, k1, hor]
    exact hQ
theorem k_arrived {d : Nat} {v : Nat → Nat → Int32} {w : Nat → Nat → Int64} {Q : Option Value → am_H → Prop} {a : Nat} (ha : ST a) {T : TXT} {no md : Int32} {f : Nat → Int32} {B : Int} (hk : KX v T) (hr : RX v a (tN T) no md f) (hg : GR B (tN T) f) (hQ : Q (some (.int (nI (cnt (fun p => !onB f no p) (tN T))))) (428, 26053, KD, RF, v, w)) : am_Ca (d + 2) M_Stair_howManyArrived [.ref a] (428, 26053, KD, RF, v, w) Q := by
  obtain ⟨hlo, hhi⟩ := st_lo ha
  have h8 := hk.1
  have k1 := hk.2.1
  refine ca_in (k := k_Stair_howManyArrived) (nL := 3) rfl (Nat.le_of_ble_eq_true rfl) ?_
  show am_Go am_X0 _ k_Stair_howManyArrived 0 ([.ref a, .null, .null], [], _) _
  refine go_at (blk := b_Stair_howManyArrived_0) rfl ?_
  simp (disch := omega) only [b_Stair_howManyArrived_0, be_1, be_7, be_0, List.getD_cons_zero, List.getD_cons_succ, List.set_cons_zero, List.set_cons_succ, List.length_cons, List.length_nil, pk_I, pk_A, pr_A, pi_I, st_s, st_n, if_true, if_false, eq_self, d_if, d_ju, d_re, d_ca, cat0, cat1, cat2, cat3, fr_z, fr_s, cc_I, cc_A, cc_N, Nat.reduceAdd, Nat.reduceLT, Nat.reduceLeDiff, Nat.reduceEqDiff, not_true, not_false_iff, z1_0, z1_1, Bool.and_self, Bool.true_and, Bool.and_true, nI_add, pk_mul, nI_clamp, decide_true, Nat.le_refl, bI_eq, bI_z1]
  refine go_loop (fun i => ([.ref a, .int (nI (cnt (fun p => !onB f no p) i)), .int (nI i)], [], (428, 26053, KD, RF, v, w))) (tN T) ?_ ?_
  · intro i hi ih
    have hni : ¬ tN T ≤ i := by omega
    have hcl := cnt_le (fun p => !onB f no p) i
    try dsimp only at ih ⊢
    refine go_at (blk := b_Stair_howManyArrived_4) rfl ?_
    simp (disch := omega) only [b_Stair_howManyArrived_4, be_4, be_6, be_34, be_33, be_49_3, kc_st ha, st_r0 ha, kc_25, List.getD_cons_zero, List.getD_cons_succ, List.set_cons_zero, List.set_cons_succ, List.length_cons, List.length_nil, pk_I, pk_A, pr_A, pi_I, st_s, st_n, if_true, if_false, eq_self, d_if, d_ju, d_re, d_ca, cat0, cat1, cat2, cat3, fr_z, fr_s, cc_I, cc_A, cc_N, Nat.reduceAdd, Nat.reduceLT, Nat.reduceLeDiff, Nat.reduceEqDiff, not_true, not_false_iff, z1_0, z1_1, Bool.and_self, Bool.true_and, Bool.and_true, nI_add, pk_mul, nI_clamp, decide_true, Nat.le_refl, bI_eq, bI_z1, nI_ltI, nI_leI, k1, hni]
    refine go_at (blk := b_Stair_howManyArrived_15) rfl ?_
    simp (disch := omega) only [b_Stair_howManyArrived_15, be_6, be_4, be_57_1, kc_st ha, List.getD_cons_zero, List.getD_cons_succ, List.set_cons_zero, List.set_cons_succ, List.length_cons, List.length_nil, pk_I, pk_A, pr_A, pi_I, st_s, st_n, if_true, if_false, eq_self, d_if, d_ju, d_re, d_ca, cat0, cat1, cat2, cat3, fr_z, fr_s, cc_I, cc_A, cc_N, Nat.reduceAdd, Nat.reduceLT, Nat.reduceLeDiff, Nat.reduceEqDiff, not_true, not_false_iff, z1_0, z1_1, Bool.and_self, Bool.true_and, Bool.and_true, nI_add, pk_mul, nI_clamp, decide_true, Nat.le_refl, bI_eq, bI_z1, nI_ltI, nI_leI, k1, hni]
    refine k_isOn ha (by omega) ?_
    rw [RX_on hr hg hi]
    refine go_at (blk := b_Stair_howManyArrived_20) rfl ?_
    simp (disch := omega) only [b_Stair_howManyArrived_20, be_50_1, List.getD_cons_zero, List.getD_cons_succ, List.set_cons_zero, List.set_cons_succ, List.length_cons, List.length_nil, pk_I, pk_A, pr_A, pi_I, st_s, st_n, if_true, if_false, eq_self, d_if, d_ju, d_re, d_ca, cat0, cat1, cat2, cat3, fr_z, fr_s, cc_I, cc_A, cc_N, Nat.reduceAdd, Nat.reduceLT, Nat.reduceLeDiff, Nat.reduceEqDiff, not_true, not_false_iff, z1_0, z1_1, Bool.and_self, Bool.true_and, Bool.and_true, nI_add, pk_mul, nI_clamp, decide_true, Nat.le_refl, bI_eq, bI_z1, nI_ltI, nI_leI, k1, hni]
    split
    · rename_i hb
      refine go_at (blk := b_Stair_howManyArrived_26) rfl ?_
      simp (disch := omega) only [b_Stair_howManyArrived_26, be_10, be_51, List.getD_cons_zero, List.getD_cons_succ, List.set_cons_zero, List.set_cons_succ, List.length_cons, List.length_nil, pk_I, pk_A, pr_A, pi_I, st_s, st_n, if_true, if_false, eq_self, d_if, d_ju, d_re, d_ca, cat0, cat1, cat2, cat3, fr_z, fr_s, cc_I, cc_A, cc_N, Nat.reduceAdd, Nat.reduceLT, Nat.reduceLeDiff, Nat.reduceEqDiff, not_true, not_false_iff, z1_0, z1_1, Bool.and_self, Bool.true_and, Bool.and_true, nI_add, pk_mul, nI_clamp, decide_true, Nat.le_refl, bI_eq, bI_z1, nI_ltI, nI_leI, k1, hni]
      rw [cnt_f (g := (fun p => !onB f no p)) (show (!onB f no i) = false by rw [show onB f no i = true by simpa using hb]; rfl)] at ih
      exact ih
    · rename_i hb
      refine go_at (blk := b_Stair_howManyArrived_23) rfl ?_
      simp (disch := omega) only [b_Stair_howManyArrived_23, be_10, be_0, List.getD_cons_zero, List.getD_cons_succ, List.set_cons_zero, List.set_cons_succ, List.length_cons, List.length_nil, pk_I, pk_A, pr_A, pi_I, st_s, st_n, if_true, if_false, eq_self, d_if, d_ju, d_re, d_ca, cat0, cat1, cat2, cat3, fr_z, fr_s, cc_I, cc_A, cc_N, Nat.reduceAdd, Nat.reduceLT, Nat.reduceLeDiff, Nat.reduceEqDiff, not_true, not_false_iff, z1_0, z1_1, Bool.and_self, Bool.true_and, Bool.and_true, nI_add, pk_mul, nI_clamp, decide_true, Nat.le_refl, bI_eq, bI_z1, nI_ltI, nI_leI, k1, hni]
      refine go_at (blk := b_Stair_howManyArrived_26) rfl ?_
      simp (disch := omega) only [b_Stair_howManyArrived_26, be_10, be_51, List.getD_cons_zero, List.getD_cons_succ, List.set_cons_zero, List.set_cons_succ, List.length_cons, List.length_nil, pk_I, pk_A, pr_A, pi_I, st_s, st_n, if_true, if_false, eq_self, d_if, d_ju, d_re, d_ca, cat0, cat1, cat2, cat3, fr_z, fr_s, cc_I, cc_A, cc_N, Nat.reduceAdd, Nat.reduceLT, Nat.reduceLeDiff, Nat.reduceEqDiff, not_true, not_false_iff, z1_0, z1_1, Bool.and_self, Bool.true_and, Bool.and_true, nI_add, pk_mul, nI_clamp, decide_true, Nat.le_refl, bI_eq, bI_z1, nI_ltI, nI_leI, k1, hni]
      rw [cnt_t (g := (fun p => !onB f no p)) (show (!onB f no i) = true by have hb := hb; rw [show onB f no i = false by simpa using hb]; rfl)] at ih
      exact ih
  · try dsimp only
    refine go_at (blk := b_Stair_howManyArrived_4) rfl ?_
    simp (disch := omega) only [b_Stair_howManyArrived_4, be_4, be_6, be_34, be_33, be_49_3, kc_st ha, st_r0 ha, kc_25, List.getD_cons_zero, List.getD_cons_succ, List.set_cons_zero, List.set_cons_succ, List.length_cons, List.length_nil, pk_I, pk_A, pr_A, pi_I, st_s, st_n, if_true, if_false, eq_self, d_if, d_ju, d_re, d_ca, cat0, cat1, cat2, cat3, fr_z, fr_s, cc_I, cc_A, cc_N, Nat.reduceAdd, Nat.reduceLT, Nat.reduceLeDiff, Nat.reduceEqDiff, not_true, not_false_iff, z1_0, z1_1, Bool.and_self, Bool.true_and, Bool.and_true, nI_add, pk_mul, nI_clamp, decide_true, Nat.le_refl, bI_eq, bI_z1, nI_ltI, nI_leI, k1]
    refine go_at (blk := b_Stair_howManyArrived_32) rfl ?_
    simp (disch := omega) only [b_Stair_howManyArrived_32, be_4, be_54, List.getD_cons_zero, List.getD_cons_succ, List.set_cons_zero, List.set_cons_succ, List.length_cons, List.length_nil, pk_I, pk_A, pr_A, pi_I, st_s, st_n, if_true, if_false, eq_self, d_if, d_ju, d_re, d_ca, cat0, cat1, cat2, cat3, fr_z, fr_s, cc_I, cc_A, cc_N, Nat.reduceAdd, Nat.reduceLT, Nat.reduceLeDiff, Nat.reduceEqDiff, not_true, not_false_iff, z1_0, z1_1, Bool.and_self, Bool.true_and, Bool.and_true, nI_add, pk_mul, nI_clamp, decide_true, Nat.le_refl, bI_eq, bI_z1, nI_ltI, nI_leI, k1]
    exact hQ
theorem k_kneel {d : Nat} {v : Nat → Nat → Int32} {w : Nat → Nat → Int64} {Q : Option Value → am_H → Prop} {a : Nat} (ha : ST a) {T : TXT} {md : Int32} {f : Nat → Int32} {B : Int} (hk : KX v T) (hr : RX v a (tN T) (-1) md f) (hg : GR B (tN T) f) (hQ : Q (some (.int (nI (cnt (fun p => !decide (f (8 + p) = 0)) (tN T))))) (428, 26053, KD, RF, v, w)) : am_Ca (d + 1) M_Stair_howManyKneel [.ref a] (428, 26053, KD, RF, v, w) Q := by
  obtain ⟨hlo, hhi⟩ := st_lo ha
  have h8 := hk.1
  have k1 := hk.2.1
  refine ca_in (k := k_Stair_howManyKneel) (nL := 3) rfl (Nat.le_of_ble_eq_true rfl) ?_
  show am_Go am_X0 _ k_Stair_howManyKneel 0 ([.ref a, .null, .null], [], _) _
  refine go_at (blk := b_Stair_howManyKneel_0) rfl ?_
  simp (disch := omega) only [b_Stair_howManyKneel_0, be_1, be_7, be_0, List.getD_cons_zero, List.getD_cons_succ, List.set_cons_zero, List.set_cons_succ, List.length_cons, List.length_nil, pk_I, pk_A, pr_A, pi_I, st_s, st_n, if_true, if_false, eq_self, d_if, d_ju, d_re, d_ca, cat0, cat1, cat2, cat3, fr_z, fr_s, cc_I, cc_A, cc_N, Nat.reduceAdd, Nat.reduceLT, Nat.reduceLeDiff, Nat.reduceEqDiff, not_true, not_false_iff, z1_0, z1_1, Bool.and_self, Bool.true_and, Bool.and_true, nI_add, pk_mul, nI_clamp, decide_true, Nat.le_refl, bI_eq, bI_z1]
  refine go_loop (fun i => ([.ref a, .int (nI (cnt (fun p => !decide (f (8 + p) = 0)) i)), .int (nI i)], [], (428, 26053, KD, RF, v, w))) (tN T) ?_ ?_
  · intro i hi ih
    have hni : ¬ tN T ≤ i := by omega
    have hcl := cnt_le (fun p => !decide (f (8 + p) = 0)) i
    have e2 := RX_k hr hi (nI_m (by omega))
    try dsimp only at ih ⊢
    refine go_at (blk := b_Stair_howManyKneel_4) rfl ?_
    simp (disch := omega) only [b_Stair_howManyKneel_4, be_4, be_6, be_34, be_33, be_49_3, kc_st ha, st_r0 ha, kc_25, List.getD_cons_zero, List.getD_cons_succ, List.set_cons_zero, List.set_cons_succ, List.length_cons, List.length_nil, pk_I, pk_A, pr_A, pi_I, st_s, st_n, if_true, if_false, eq_self, d_if, d_ju, d_re, d_ca, cat0, cat1, cat2, cat3, fr_z, fr_s, cc_I, cc_A, cc_N, Nat.reduceAdd, Nat.reduceLT, Nat.reduceLeDiff, Nat.reduceEqDiff, not_true, not_false_iff, z1_0, z1_1, Bool.and_self, Bool.true_and, Bool.and_true, nI_add, pk_mul, nI_clamp, decide_true, Nat.le_refl, bI_eq, bI_z1, nI_ltI, nI_leI, k1, e2, hni]
    refine go_at (blk := b_Stair_howManyKneel_15) rfl ?_
    simp (disch := omega) only [b_Stair_howManyKneel_15, be_6, be_34, be_4, be_40, be_50_0, kc_st ha, st_r2 ha, ka_st2 ha, List.getD_cons_zero, List.getD_cons_succ, List.set_cons_zero, List.set_cons_succ, List.length_cons, List.length_nil, pk_I, pk_A, pr_A, pi_I, st_s, st_n, if_true, if_false, eq_self, d_if, d_ju, d_re, d_ca, cat0, cat1, cat2, cat3, fr_z, fr_s, cc_I, cc_A, cc_N, Nat.reduceAdd, Nat.reduceLT, Nat.reduceLeDiff, Nat.reduceEqDiff, not_true, not_false_iff, z1_0, z1_1, Bool.and_self, Bool.true_and, Bool.and_true, nI_add, pk_mul, nI_clamp, decide_true, Nat.le_refl, bI_eq, bI_z1, nI_ltI, nI_leI, k1, e2, hni]
    split
    · rename_i hb
      refine go_at (blk := b_Stair_howManyKneel_27) rfl ?_
      simp (disch := omega) only [b_Stair_howManyKneel_27, be_10, be_51, List.getD_cons_zero, List.getD_cons_succ, List.set_cons_zero, List.set_cons_succ, List.length_cons, List.length_nil, pk_I, pk_A, pr_A, pi_I, st_s, st_n, if_true, if_false, eq_self, d_if, d_ju, d_re, d_ca, cat0, cat1, cat2, cat3, fr_z, fr_s, cc_I, cc_A, cc_N, Nat.reduceAdd, Nat.reduceLT, Nat.reduceLeDiff, Nat.reduceEqDiff, not_true, not_false_iff, z1_0, z1_1, Bool.and_self, Bool.true_and, Bool.and_true, nI_add, pk_mul, nI_clamp, decide_true, Nat.le_refl, bI_eq, bI_z1, nI_ltI, nI_leI, k1, e2, hni]
      rw [cnt_f (g := (fun p => !decide (f (8 + p) = 0))) (show (!decide (f (8 + i) = 0)) = false by rw [decide_eq_true hb]; rfl)] at ih
      exact ih
    · rename_i hb
      refine go_at (blk := b_Stair_howManyKneel_24) rfl ?_
      simp (disch := omega) only [b_Stair_howManyKneel_24, be_10, be_0, List.getD_cons_zero, List.getD_cons_succ, List.set_cons_zero, List.set_cons_succ, List.length_cons, List.length_nil, pk_I, pk_A, pr_A, pi_I, st_s, st_n, if_true, if_false, eq_self, d_if, d_ju, d_re, d_ca, cat0, cat1, cat2, cat3, fr_z, fr_s, cc_I, cc_A, cc_N, Nat.reduceAdd, Nat.reduceLT, Nat.reduceLeDiff, Nat.reduceEqDiff, not_true, not_false_iff, z1_0, z1_1, Bool.and_self, Bool.true_and, Bool.and_true, nI_add, pk_mul, nI_clamp, decide_true, Nat.le_refl, bI_eq, bI_z1, nI_ltI, nI_leI, k1, e2, hni]
      refine go_at (blk := b_Stair_howManyKneel_27) rfl ?_
      simp (disch := omega) only [b_Stair_howManyKneel_27, be_10, be_51, List.getD_cons_zero, List.getD_cons_succ, List.set_cons_zero, List.set_cons_succ, List.length_cons, List.length_nil, pk_I, pk_A, pr_A, pi_I, st_s, st_n, if_true, if_false, eq_self, d_if, d_ju, d_re, d_ca, cat0, cat1, cat2, cat3, fr_z, fr_s, cc_I, cc_A, cc_N, Nat.reduceAdd, Nat.reduceLT, Nat.reduceLeDiff, Nat.reduceEqDiff, not_true, not_false_iff, z1_0, z1_1, Bool.and_self, Bool.true_and, Bool.and_true, nI_add, pk_mul, nI_clamp, decide_true, Nat.le_refl, bI_eq, bI_z1, nI_ltI, nI_leI, k1, e2, hni]
      rw [cnt_t (g := (fun p => !decide (f (8 + p) = 0))) (show (!decide (f (8 + i) = 0)) = true by rw [decide_eq_false hb]; rfl)] at ih
      exact ih
  · have e2 : (1 : Nat) = 1 := rfl
    try dsimp only
    refine go_at (blk := b_Stair_howManyKneel_4) rfl ?_
    simp (disch := omega) only [b_Stair_howManyKneel_4, be_4, be_6, be_34, be_33, be_49_3, kc_st ha, st_r0 ha, kc_25, List.getD_cons_zero, List.getD_cons_succ, List.set_cons_zero, List.set_cons_succ, List.length_cons, List.length_nil, pk_I, pk_A, pr_A, pi_I, st_s, st_n, if_true, if_false, eq_self, d_if, d_ju, d_re, d_ca, cat0, cat1, cat2, cat3, fr_z, fr_s, cc_I, cc_A, cc_N, Nat.reduceAdd, Nat.reduceLT, Nat.reduceLeDiff, Nat.reduceEqDiff, not_true, not_false_iff, z1_0, z1_1, Bool.and_self, Bool.true_and, Bool.and_true, nI_add, pk_mul, nI_clamp, decide_true, Nat.le_refl, bI_eq, bI_z1, nI_ltI, nI_leI, k1, e2]
    refine go_at (blk := b_Stair_howManyKneel_33) rfl ?_
    simp (disch := omega) only [b_Stair_howManyKneel_33, be_4, be_54, List.getD_cons_zero, List.getD_cons_succ, List.set_cons_zero, List.set_cons_succ, List.length_cons, List.length_nil, pk_I, pk_A, pr_A, pi_I, st_s, st_n, if_true, if_false, eq_self, d_if, d_ju, d_re, d_ca, cat0, cat1, cat2, cat3, fr_z, fr_s, cc_I, cc_A, cc_N, Nat.reduceAdd, Nat.reduceLT, Nat.reduceLeDiff, Nat.reduceEqDiff, not_true, not_false_iff, z1_0, z1_1, Bool.and_self, Bool.true_and, Bool.and_true, nI_add, pk_mul, nI_clamp, decide_true, Nat.le_refl, bI_eq, bI_z1, nI_ltI, nI_leI, k1, e2]
    exact hQ
