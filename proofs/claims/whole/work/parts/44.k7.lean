/-! laid by wip/whole/k7.py: the class: what would be, if others knelt -/
theorem RX_kn {v : Nat → Nat → Int32} {a n p : Nat} {no md x : Int32} {f : Nat → Int32} (hn : n ≤ 8) (hp : p < 8) (h : RX v a n no md f) : RX (am_u v (a + 2) p x) a n no md (upd f (8 + p) x) := by
  refine ⟨fun q hq => ?_, ?_⟩
  · obtain ⟨h1, h2⟩ := h.1 q hq
    refine ⟨fun z => ?_, fun z => ?_⟩
    · obtain ⟨e1, e2, e3, e4, e5⟩ := h1 z
      by_cases e : q = p
      · subst e
        refine ⟨?_, ?_, ?_, ?_, ?_⟩ <;> simp (disch := omega) only [am_u_at, am_u_ne, upd_at, upd_ne, e1, e3, e4, e5]
      · refine ⟨?_, ?_, ?_, ?_, ?_⟩ <;> simp (disch := omega) only [am_u_at, am_u_ne, upd_at, upd_ne, e1, e2, e3, e4, e5]
    · rw [am_u_ne (by omega)]
      exact h2 z
  · rw [am_u_ne (by omega), upd_ne (by omega), upd_ne (by omega), upd_ne (by omega)]
    exact h.2
theorem GR_k1 {B : Int} {n p : Nat} {f : Nat → Int32} {x : Int32} (hn : n ≤ 8) (hp : p < 8) (g : GR B n f) (hx : x = 0 ∨ x = 1) : GR B n (upd f (8 + p) x) := by
  obtain ⟨g0, g1⟩ := g
  refine ⟨?_, by rw [upd_ne (by omega), upd_ne (by omega)]; exact g1⟩
  intro q hq
  rw [upd_ne (k := 8 + p) (j := 16 + q) (by omega), upd_ne (k := 8 + p) (j := 32 + q) (by omega), upd_ne (k := 8 + p) (j := 24 + q) (by omega), upd_ne (k := 8 + p) (j := q) (by omega), upd_ne (k := 8 + p) (j := 41) (by omega)]
  refine ⟨?_, (g0 q hq).2⟩
  by_cases e : q = p
  · subst e; rw [upd_at]; exact hx
  · rw [upd_ne (by omega)]; exact (g0 q hq).1
theorem RX_may {v : Nat → Nat → Int32} {a p : Nat} {no md : Int32} {B : Int} {T : TXT} {f : Nat → Int32} (hk : KX v T) (h : RX v a (tN T) no md f) (g : GR B (tN T) f) (hp : p < tN T) : (decide (v (a + 5) p = -2) && decide (v (a + 3) p < v 29 p)) = mayB f no (tS T) p := by
  unfold mayB
  rw [RX_on h g hp]
  cases ho : onB f no p with
  | false => rw [Bool.false_and, Bool.false_and]
  | true =>
    obtain ⟨_, _, e3, _, _⟩ := (h.1 p hp).1 (onB_no ho).1
    rw [e3, (hk.2.2.2.2.1 p hp).2.2.2.1]
theorem vb_b {b : Bool} : vp_nar FieldType.boolean (bI b) = bI b := by cases b <;> rfl
theorem bI_01 {b : Bool} : bI b = 0 ∨ bI b = 1 := by cases b <;> decide
theorem QF_a {v : Nat → Nat → Int32} {c k : Nat} {x : Int32} (h : 352 ≤ c ∧ c ≤ 357) : QF v (am_u v c k x) := fun b _ _ _ _ b5 _ => am_u_ne (by omega)
theorem RX_away0 {v : Nat → Nat → Int32} {a n p : Nat} {md : Int32} {f : Nat → Int32} (hn : n ≤ 8) (hp : p < 8) (h : RX v a n (-1) md f) (ho : v (a + 5) p ≠ -2) : RX v a n (nI p) md f := by
  refine ⟨fun q hq => ⟨fun z => (h.1 q hq).1 (nI_m (by omega)), fun z => ?_⟩, h.2⟩
  rw [nI_inj (by omega) hp z]
  exact ho
theorem RX_away1 {v : Nat → Nat → Int32} {a n p : Nat} {md x y z : Int32} {f : Nat → Int32} (hn : n ≤ 8) (hp : p < 8) (h : RX v a n (-1) md f) (hy : y ≠ -2) : RX (am_u (am_u (am_u v (a + 1) p x) (a + 5) p y) (a + 2) p z) a n (nI p) md f := by
  refine ⟨fun q hq => ⟨fun e => ?_, fun e => ?_⟩, ?_⟩
  · have hqp : q ≠ p := by intro c; exact e (by rw [c])
    obtain ⟨e1, e2, e3, e4, e5⟩ := (h.1 q hq).1 (nI_m (by omega))
    refine ⟨?_, ?_, ?_, ?_, ?_⟩ <;> simp (disch := omega) only [am_u_at, am_u_ne, upd_at, upd_ne, e1, e2, e3, e4, e5]
  · have := nI_inj (by omega) hp e
    subst this
    simp (disch := omega) only [am_u_at, am_u_ne, upd_at, upd_ne]
    exact hy
  · simp (disch := omega) only [am_u_ne]
    exact h.2
theorem kf_may {d : Nat} {v : Nat → Nat → Int32} {w : Nat → Nat → Int64} {Q : Option Value → am_H → Prop} {T : TXT} {f : Nat → Int32} {B : Int} (hK : KI B v T f) {no md : Int32} {g : Nat → Int32} {C : Int} (hr : RX v 352 (tN T) no md g) (hg : GR C (tN T) g) {p : Nat} (hp : p < tN T) (hQ : Q (some (.int (bI (mayB g no (tS T) p)))) (428, 26053, KD, RF, v, w)) : am_Ca (d + 2) M_Stair_mayKneel [.ref 352, .int (nI p)] (428, 26053, KD, RF, v, w) Q := by
  refine k_mayKneel st_352 (by have := hK.1.1; omega) ?_
  rw [RX_may hK.1 hr hg hp]
  exact hQ
theorem kf_nowMay {d : Nat} {v : Nat → Nat → Int32} {w : Nat → Nat → Int64} {Q : Option Value → am_H → Prop} {T : TXT} {f : Nat → Int32} {B : Int} (hK : KI B v T f) {p : Nat} (hp : p < tN T) (hQ : Q (some (.int (bI (mayB f (-1) (tS T) p)))) (428, 26053, KD, RF, v, w)) : am_Ca (d + 2) M_Stair_mayKneel [.ref 42, .int (nI p)] (428, 26053, KD, RF, v, w) Q := by
  refine k_mayKneel st_42 (by have := hK.1.1; omega) ?_
  rw [RX_may hK.1 hK.2.1 hK.2.2.1 hp]
  exact hQ
set_option maxHeartbeats 1000000 in
theorem k_means {d : Nat} {v : Nat → Nat → Int32} {w : Nat → Nat → Int64} {Q : Option Value → am_H → Prop} {T : TXT} {f : Nat → Int32} {B : Int} (hK : KI B v T f) {p q n : Nat} (hp : p < tN T) (hq : q < tN T) (hpq : p ≠ q) (hn : n ≤ 300) (hQ : ∀ v', QF v v' → Q (some (.int (mnS T f p q n))) (428, 26053, KD, RF, v', w)) : am_Ca (d + 6) M_Forecast_meansOf [.ref 350, .int (nI p), .int (nI q), .int (nI n)] (428, 26053, KD, RF, v, w) Q := by
  have h8 := hK.1.1
  have hBB := hK.2.2.2.2.2
  refine ca_in (k := k_Forecast_meansOf) (nL := 5) rfl (Nat.le_of_ble_eq_true rfl) ?_
  show am_Go am_X0 _ k_Forecast_meansOf 0 ([.ref 350, .int (nI p), .int (nI q), .int (nI n), .null], [], _) _
  refine go_at (blk := b_Forecast_meansOf_0) rfl ?_
  simp (disch := omega) only [b_Forecast_meansOf_0, be_6, be_34, be_57_1, kc_350, rf_350_2, rf_350_1, kc_352, List.getD_cons_zero, List.getD_cons_succ, List.set_cons_zero, List.set_cons_succ, List.length_cons, List.length_nil, pk_I, pk_A, pr_A, pi_I, st_s, st_n, if_true, if_false, eq_self, d_if, d_ju, d_re, d_ca, cat0, cat1, cat2, cat3, fr_z, fr_s, cc_I, cc_A, cc_N, Nat.reduceAdd, Nat.reduceLT, Nat.reduceLeDiff, Nat.reduceEqDiff, not_true, not_false_iff, z1_0, z1_1, Bool.and_self, Bool.true_and, Bool.and_true, nI_add, pk_mul, nI_clamp, decide_true, Nat.le_refl, bI_eq, bI_z1]
  refine kf_copy hK ?_
  intro v1 q1 r1
  refine go_at (blk := b_Forecast_meansOf_11) rfl ?_
  simp (disch := omega) only [b_Forecast_meansOf_11, be_6, be_34, be_4, be_57_1, kc_350, rf_350_2, kc_352, List.getD_cons_zero, List.getD_cons_succ, List.set_cons_zero, List.set_cons_succ, List.length_cons, List.length_nil, pk_I, pk_A, pr_A, pi_I, st_s, st_n, if_true, if_false, eq_self, d_if, d_ju, d_re, d_ca, cat0, cat1, cat2, cat3, fr_z, fr_s, cc_I, cc_A, cc_N, Nat.reduceAdd, Nat.reduceLT, Nat.reduceLeDiff, Nat.reduceEqDiff, not_true, not_false_iff, z1_0, z1_1, Bool.and_self, Bool.true_and, Bool.and_true, nI_add, pk_mul, nI_clamp, decide_true, Nat.le_refl, bI_eq, bI_z1]
  refine kf_pass (k := n) (KI_q hK q1) r1 hK.2.2.1 (by omega) (by omega) ?_
  intro v2 q2 r2 g2
  have e2 : v2 353 q = itT T (-1) 0 n f q := RX_st r2 hq (nI_m (by omega))
  have hK2 := KI_q (KI_q hK q1) q2
  refine go_at (blk := b_Forecast_meansOf_19) rfl ?_
  simp (disch := omega) only [b_Forecast_meansOf_19, be_6, be_34, be_4, be_38, be_7, be_57_1, kc_350, rf_350_2, kc_352, rf_352_1, ka_353, rf_350_1, List.getD_cons_zero, List.getD_cons_succ, List.set_cons_zero, List.set_cons_succ, List.length_cons, List.length_nil, pk_I, pk_A, pr_A, pi_I, st_s, st_n, if_true, if_false, eq_self, d_if, d_ju, d_re, d_ca, cat0, cat1, cat2, cat3, fr_z, fr_s, cc_I, cc_A, cc_N, Nat.reduceAdd, Nat.reduceLT, Nat.reduceLeDiff, Nat.reduceEqDiff, not_true, not_false_iff, z1_0, z1_1, Bool.and_self, Bool.true_and, Bool.and_true, nI_add, pk_mul, nI_clamp, decide_true, Nat.le_refl, bI_eq, bI_z1, e2]
  refine kf_copy hK2 ?_
  intro v3 q3 r3
  have hK3 := KI_q hK2 q3
  refine go_at (blk := b_Forecast_meansOf_41) rfl ?_
  simp (disch := omega) only [b_Forecast_meansOf_41, be_6, be_34, be_4, be_57_1, kc_350, rf_350_2, kc_352, List.getD_cons_zero, List.getD_cons_succ, List.set_cons_zero, List.set_cons_succ, List.length_cons, List.length_nil, pk_I, pk_A, pr_A, pi_I, st_s, st_n, if_true, if_false, eq_self, d_if, d_ju, d_re, d_ca, cat0, cat1, cat2, cat3, fr_z, fr_s, cc_I, cc_A, cc_N, Nat.reduceAdd, Nat.reduceLT, Nat.reduceLeDiff, Nat.reduceEqDiff, not_true, not_false_iff, z1_0, z1_1, Bool.and_self, Bool.true_and, Bool.and_true, nI_add, pk_mul, nI_clamp, decide_true, Nat.le_refl, bI_eq, bI_z1, e2]
  have nx : ∀ v4, QF v3 v4 → RX v4 352 (tN T) (nI p) 0 f → am_Go am_X0 (d + 5) k_Forecast_meansOf 49 ([.ref 350, .int (nI p), .int (nI q), .int (nI n), .int (itT T (-1) 0 n f q)], [], (428, 26053, KD, RF, v4, w)) Q := by
    intro v4 q4 r4
    refine go_at (blk := b_Forecast_meansOf_49) rfl ?_
    simp (disch := omega) only [b_Forecast_meansOf_49, be_6, be_34, be_4, be_57_1, kc_350, rf_350_2, kc_352, List.getD_cons_zero, List.getD_cons_succ, List.set_cons_zero, List.set_cons_succ, List.length_cons, List.length_nil, pk_I, pk_A, pr_A, pi_I, st_s, st_n, if_true, if_false, eq_self, d_if, d_ju, d_re, d_ca, cat0, cat1, cat2, cat3, fr_z, fr_s, cc_I, cc_A, cc_N, Nat.reduceAdd, Nat.reduceLT, Nat.reduceLeDiff, Nat.reduceEqDiff, not_true, not_false_iff, z1_0, z1_1, Bool.and_self, Bool.true_and, Bool.and_true, nI_add, pk_mul, nI_clamp, decide_true, Nat.le_refl, bI_eq, bI_z1]
    refine kf_pass (k := n) (KI_q hK3 q4) r4 hK.2.2.1 (by omega) (by omega) ?_
    intro v5 q5 r5 g5
    have e5 : v5 353 q = itT T (nI p) 0 n f q := RX_st r5 hq (fun e => hpq (nI_inj (by omega) (by omega) e).symm)
    refine go_at (blk := b_Forecast_meansOf_57) rfl ?_
    simp (disch := omega) only [b_Forecast_meansOf_57, be_4, be_6, be_34, be_38, be_13, be_54, kc_350, rf_350_2, kc_352, rf_352_1, ka_353, List.getD_cons_zero, List.getD_cons_succ, List.set_cons_zero, List.set_cons_succ, List.length_cons, List.length_nil, pk_I, pk_A, pr_A, pi_I, st_s, st_n, if_true, if_false, eq_self, d_if, d_ju, d_re, d_ca, cat0, cat1, cat2, cat3, fr_z, fr_s, cc_I, cc_A, cc_N, Nat.reduceAdd, Nat.reduceLT, Nat.reduceLeDiff, Nat.reduceEqDiff, not_true, not_false_iff, z1_0, z1_1, Bool.and_self, Bool.true_and, Bool.and_true, nI_add, pk_mul, nI_clamp, decide_true, Nat.le_refl, bI_eq, bI_z1, e5]
    exact hQ v5 (QF_t q1 (QF_t q2 (QF_t q3 (QF_t q4 q5))))
  refine k_takeAway st_352 (by omega) (fun h0 => ?_) (fun h1 => ?_)
  · exact nx v3 QF_r (RX_away0 h8 (by omega) r3 (by simpa using h0))
  · refine nx _ (QF_t (QF_a (by omega)) (QF_t (QF_a (by omega)) (QF_a (by omega)))) (RX_away1 h8 (by omega) r3 ?_)
    rw [r3.2.2.1]
    intro z
    have := hK.2.2.1.2.2.1
    rw [z] at this
    exact absurd this (by decide)
/-- where one is who kneels from a minute on, if he may -/
def skS (T : TXT) (f : Nat → Int32) (p s n : Nat) : Int32 := itT T (-1) 0 (n - s) (upd (itT T (-1) 0 s (upd f (8 + p) 0)) (8 + p) (bI (mayB (itT T (-1) 0 s (upd f (8 + p) 0)) (-1) (tS T) p))) p
def bsS (T : TXT) (f : Nat → Int32) (p n : Nat) : Nat → Int32 × Int32
  | 0 => (nI 0, -1)
  | k + 1 => if (bsS T f p n k).2 < skS T f p k n then (nI k, skS T f p k n) else bsS T f p n k
theorem bs_t {T : TXT} {f : Nat → Int32} {p n k : Nat} (h : (bsS T f p n k).2 < skS T f p k n) : bsS T f p n (k + 1) = (nI k, skS T f p k n) := if_pos h
theorem bs_f {T : TXT} {f : Nat → Int32} {p n k : Nat} (h : ¬ (bsS T f p n k).2 < skS T f p k n) : bsS T f p n (k + 1) = bsS T f p n k := if_neg h
set_option maxHeartbeats 1000000 in
theorem k_stepFrom {d : Nat} {v : Nat → Nat → Int32} {w : Nat → Nat → Int64} {Q : Option Value → am_H → Prop} {T : TXT} {f : Nat → Int32} {B : Int} (hK : KI B v T f) {p s n : Nat} (hp : p < tN T) (hs : s ≤ n) (hn : n ≤ 300) (hQ : ∀ v', QF v v' → Q (some (.int (skS T f p s n))) (428, 26053, KD, RF, v', w)) : am_Ca (d + 5) M_Forecast_stepKneelingFrom [.ref 350, .int (nI p), .int (nI s), .int (nI n)] (428, 26053, KD, RF, v, w) Q := by
  have h8 := hK.1.1
  have hBB := hK.2.2.2.2.2
  refine ca_in (k := k_Forecast_stepKneelingFrom) (nL := 4) rfl (Nat.le_of_ble_eq_true rfl) ?_
  show am_Go am_X0 _ k_Forecast_stepKneelingFrom 0 ([.ref 350, .int (nI p), .int (nI s), .int (nI n)], [], _) _
  refine go_at (blk := b_Forecast_stepKneelingFrom_0) rfl ?_
  simp (disch := omega) only [b_Forecast_stepKneelingFrom_0, be_6, be_34, be_57_1, kc_350, rf_350_2, rf_350_1, kc_352, List.getD_cons_zero, List.getD_cons_succ, List.set_cons_zero, List.set_cons_succ, List.length_cons, List.length_nil, pk_I, pk_A, pr_A, pi_I, st_s, st_n, if_true, if_false, eq_self, d_if, d_ju, d_re, d_ca, cat0, cat1, cat2, cat3, fr_z, fr_s, cc_I, cc_A, cc_N, Nat.reduceAdd, Nat.reduceLT, Nat.reduceLeDiff, Nat.reduceEqDiff, not_true, not_false_iff, z1_0, z1_1, Bool.and_self, Bool.true_and, Bool.and_true, nI_add, pk_mul, nI_clamp, decide_true, Nat.le_refl, bI_eq, bI_z1, vb_0, vb_b, pk_sub]
  refine kf_copy hK ?_
  intro v1 q1 r1
  refine go_at (blk := b_Forecast_stepKneelingFrom_11) rfl ?_
  simp (disch := omega) only [b_Forecast_stepKneelingFrom_11, be_6, be_34, be_4, be_1, be_45, be_57_1, kc_350, rf_350_2, kc_352, rf_352_2, ka_354, List.getD_cons_zero, List.getD_cons_succ, List.set_cons_zero, List.set_cons_succ, List.length_cons, List.length_nil, pk_I, pk_A, pr_A, pi_I, st_s, st_n, if_true, if_false, eq_self, d_if, d_ju, d_re, d_ca, cat0, cat1, cat2, cat3, fr_z, fr_s, cc_I, cc_A, cc_N, Nat.reduceAdd, Nat.reduceLT, Nat.reduceLeDiff, Nat.reduceEqDiff, not_true, not_false_iff, z1_0, z1_1, Bool.and_self, Bool.true_and, Bool.and_true, nI_add, pk_mul, nI_clamp, decide_true, Nat.le_refl, bI_eq, bI_z1, vb_0, vb_b, pk_sub]
  have r2 : RX (am_u v1 354 p (nI 0)) 352 (tN T) (-1) 0 (upd f (8 + p) 0) := RX_kn h8 (by omega) r1
  have g2 : GR B (tN T) (upd f (8 + p) 0) := GR_k1 h8 (by omega) hK.2.2.1 (Or.inl rfl)
  have q2 : QF v (am_u v1 354 p (nI 0)) := QF_t q1 (QF_a (by omega))
  refine kf_pass (k := s) (KI_q hK q2) r2 g2 (by omega) (by omega) ?_
  intro v3 q3 r3 g3
  have hK3 := KI_q (KI_q hK q2) q3
  refine go_at (blk := b_Forecast_stepKneelingFrom_29) rfl ?_
  simp (disch := omega) only [b_Forecast_stepKneelingFrom_29, be_6, be_34, be_4, be_57_1, kc_350, rf_350_2, kc_352, rf_352_2, List.getD_cons_zero, List.getD_cons_succ, List.set_cons_zero, List.set_cons_succ, List.length_cons, List.length_nil, pk_I, pk_A, pr_A, pi_I, st_s, st_n, if_true, if_false, eq_self, d_if, d_ju, d_re, d_ca, cat0, cat1, cat2, cat3, fr_z, fr_s, cc_I, cc_A, cc_N, Nat.reduceAdd, Nat.reduceLT, Nat.reduceLeDiff, Nat.reduceEqDiff, not_true, not_false_iff, z1_0, z1_1, Bool.and_self, Bool.true_and, Bool.and_true, nI_add, pk_mul, nI_clamp, decide_true, Nat.le_refl, bI_eq, bI_z1, vb_0, vb_b, pk_sub]
  refine kf_may hK3 r3 g3 hp ?_
  refine go_at (blk := b_Forecast_stepKneelingFrom_45) rfl ?_
  simp (disch := omega) only [b_Forecast_stepKneelingFrom_45, be_45, be_6, be_34, be_4, be_13, be_57_1, ka_354, kc_350, rf_350_2, kc_352, List.getD_cons_zero, List.getD_cons_succ, List.set_cons_zero, List.set_cons_succ, List.length_cons, List.length_nil, pk_I, pk_A, pr_A, pi_I, st_s, st_n, if_true, if_false, eq_self, d_if, d_ju, d_re, d_ca, cat0, cat1, cat2, cat3, fr_z, fr_s, cc_I, cc_A, cc_N, Nat.reduceAdd, Nat.reduceLT, Nat.reduceLeDiff, Nat.reduceEqDiff, not_true, not_false_iff, z1_0, z1_1, Bool.and_self, Bool.true_and, Bool.and_true, nI_add, pk_mul, nI_clamp, decide_true, Nat.le_refl, bI_eq, bI_z1, vb_0, vb_b, pk_sub]
  have r4 : RX (am_u v3 354 p (bI (mayB (itT T (-1) 0 s (upd f (8 + p) 0)) (-1) (tS T) p))) 352 (tN T) (-1) 0 (upd (itT T (-1) 0 s (upd f (8 + p) 0)) (8 + p) (bI (mayB (itT T (-1) 0 s (upd f (8 + p) 0)) (-1) (tS T) p))) := RX_kn h8 (by omega) r3
  have q4 : QF v3 (am_u v3 354 p (bI (mayB (itT T (-1) 0 s (upd f (8 + p) 0)) (-1) (tS T) p))) := QF_a (by omega)
  refine kf_pass (k := n - s) (KI_q hK3 q4) r4 (GR_k1 h8 (by omega) g3 bI_01) (by omega) (by omega) ?_
  intro v5 q5 r5 g5
  have e5 := RX_st r5 hp (nI_m (by omega))
  have e6 : v5 353 p = skS T f p s n := e5
  refine go_at (blk := b_Forecast_stepKneelingFrom_56) rfl ?_
  simp (disch := omega) only [b_Forecast_stepKneelingFrom_56, be_6, be_34, be_4, be_38, be_54, kc_350, rf_350_2, kc_352, rf_352_1, ka_353, List.getD_cons_zero, List.getD_cons_succ, List.set_cons_zero, List.set_cons_succ, List.length_cons, List.length_nil, pk_I, pk_A, pr_A, pi_I, st_s, st_n, if_true, if_false, eq_self, d_if, d_ju, d_re, d_ca, cat0, cat1, cat2, cat3, fr_z, fr_s, cc_I, cc_A, cc_N, Nat.reduceAdd, Nat.reduceLT, Nat.reduceLeDiff, Nat.reduceEqDiff, not_true, not_false_iff, z1_0, z1_1, Bool.and_self, Bool.true_and, Bool.and_true, nI_add, pk_mul, nI_clamp, decide_true, Nat.le_refl, bI_eq, bI_z1, vb_0, vb_b, pk_sub, e6]
  exact hQ v5 (QF_t q2 (QF_t q3 (QF_t q4 q5)))
set_option maxHeartbeats 1000000 in
theorem k_bestStart {d : Nat} {v : Nat → Nat → Int32} {w : Nat → Nat → Int64} {Q : Option Value → am_H → Prop} {T : TXT} {f : Nat → Int32} {B : Int} (hK : KI B v T f) {p n : Nat} {wh : Int32} (hp : p < tN T) (hn : n ≤ 300) (hQ : ∀ v', QF v v' → Q (some (.int (if wh = 0 then (bsS T f p n n).1 else (bsS T f p n n).2))) (428, 26053, KD, RF, v', w)) : am_Ca (d + 6) M_Forecast_bestStartOf [.ref 350, .int (nI p), .int (nI n), .int wh] (428, 26053, KD, RF, v, w) Q := by
  have h8 := hK.1.1
  have hBB := hK.2.2.2.2.2
  refine ca_in (k := k_Forecast_bestStartOf) (nL := 8) rfl (Nat.le_of_ble_eq_true rfl) ?_
  show am_Go am_X0 _ k_Forecast_bestStartOf 0 ([.ref 350, .int (nI p), .int (nI n), .int wh, .null, .null, .null, .null], [], _) _
  refine go_at (blk := b_Forecast_bestStartOf_0) rfl ?_
  simp (disch := omega) only [b_Forecast_bestStartOf_0, be_1, be_7, be_2, be_0, List.getD_cons_zero, List.getD_cons_succ, List.set_cons_zero, List.set_cons_succ, List.length_cons, List.length_nil, pk_I, pk_A, pr_A, pi_I, st_s, st_n, if_true, if_false, eq_self, d_if, d_ju, d_re, d_ca, cat0, cat1, cat2, cat3, fr_z, fr_s, cc_I, cc_A, cc_N, Nat.reduceAdd, Nat.reduceLT, Nat.reduceLeDiff, Nat.reduceEqDiff, not_true, not_false_iff, z1_0, z1_1, Bool.and_self, Bool.true_and, Bool.and_true, nI_add, pk_mul, nI_clamp, decide_true, Nat.le_refl, bI_eq, bI_z1]
  refine go_loopA (α := (Nat → Nat → Int32) × Value) (fun i x => ([.ref 350, .int (nI p), .int (nI n), .int wh, .int (bsS T f p n i).1, .int (bsS T f p n i).2, .int (nI i), x.2], [], (428, 26053, KD, RF, x.1, w))) (fun i x => QF v x.1 ∧ am_cc x.2 = true) (n) ?_ ?_ (v, .null) ⟨QF_r, rfl⟩
  · intro i x hi ⟨i1, i2⟩ ih
    try dsimp only at *
    have hni : ¬ n ≤ i := by omega
    refine go_at (blk := b_Forecast_bestStartOf_9) rfl ?_
    simp (disch := omega) only [b_Forecast_bestStartOf_9, be_4, be_49_3, List.getD_cons_zero, List.getD_cons_succ, List.set_cons_zero, List.set_cons_succ, List.length_cons, List.length_nil, pk_I, pk_A, pr_A, pi_I, st_s, st_n, if_true, if_false, eq_self, d_if, d_ju, d_re, d_ca, cat0, cat1, cat2, cat3, fr_z, fr_s, cc_I, cc_A, cc_N, Nat.reduceAdd, Nat.reduceLT, Nat.reduceLeDiff, Nat.reduceEqDiff, not_true, not_false_iff, z1_0, z1_1, Bool.and_self, Bool.true_and, Bool.and_true, nI_add, pk_mul, nI_clamp, decide_true, Nat.le_refl, bI_eq, bI_z1, nI_leI, nI_ltI, hni, i2]
    refine go_at (blk := b_Forecast_bestStartOf_15) rfl ?_
    simp (disch := omega) only [b_Forecast_bestStartOf_15, be_6, be_4, be_57_3, kc_350, List.getD_cons_zero, List.getD_cons_succ, List.set_cons_zero, List.set_cons_succ, List.length_cons, List.length_nil, pk_I, pk_A, pr_A, pi_I, st_s, st_n, if_true, if_false, eq_self, d_if, d_ju, d_re, d_ca, cat0, cat1, cat2, cat3, fr_z, fr_s, cc_I, cc_A, cc_N, Nat.reduceAdd, Nat.reduceLT, Nat.reduceLeDiff, Nat.reduceEqDiff, not_true, not_false_iff, z1_0, z1_1, Bool.and_self, Bool.true_and, Bool.and_true, nI_add, pk_mul, nI_clamp, decide_true, Nat.le_refl, bI_eq, bI_z1, nI_leI, nI_ltI, hni, i2]
    refine k_stepFrom (KI_q hK i1) hp (by omega) hn ?_
    intro v2 q2
    refine go_at (blk := b_Forecast_bestStartOf_23) rfl ?_
    simp (disch := omega) only [b_Forecast_bestStartOf_23, be_7, be_4, be_49_5, List.getD_cons_zero, List.getD_cons_succ, List.set_cons_zero, List.set_cons_succ, List.length_cons, List.length_nil, pk_I, pk_A, pr_A, pi_I, st_s, st_n, if_true, if_false, eq_self, d_if, d_ju, d_re, d_ca, cat0, cat1, cat2, cat3, fr_z, fr_s, cc_I, cc_A, cc_N, Nat.reduceAdd, Nat.reduceLT, Nat.reduceLeDiff, Nat.reduceEqDiff, not_true, not_false_iff, z1_0, z1_1, Bool.and_self, Bool.true_and, Bool.and_true, nI_add, pk_mul, nI_clamp, decide_true, Nat.le_refl, bI_eq, bI_z1, nI_leI, nI_ltI, hni, i2]
    split
    · rename_i hc
      refine go_at (blk := b_Forecast_bestStartOf_40) rfl ?_
      simp (disch := omega) only [b_Forecast_bestStartOf_40, be_10, be_51, List.getD_cons_zero, List.getD_cons_succ, List.set_cons_zero, List.set_cons_succ, List.length_cons, List.length_nil, pk_I, pk_A, pr_A, pi_I, st_s, st_n, if_true, if_false, eq_self, d_if, d_ju, d_re, d_ca, cat0, cat1, cat2, cat3, fr_z, fr_s, cc_I, cc_A, cc_N, Nat.reduceAdd, Nat.reduceLT, Nat.reduceLeDiff, Nat.reduceEqDiff, not_true, not_false_iff, z1_0, z1_1, Bool.and_self, Bool.true_and, Bool.and_true, nI_add, pk_mul, nI_clamp, decide_true, Nat.le_refl, bI_eq, bI_z1, nI_leI, nI_ltI, hni, i2]
      have hc : ¬ (bsS T f p n i).2 < skS T f p i n := Int32.not_lt.mpr hc
      simp only [bs_f hc] at ih
      exact ih (v2, .int _) ⟨QF_t i1 q2, rfl⟩
    · rename_i hc
      refine go_at (blk := b_Forecast_bestStartOf_32) rfl ?_
      simp (disch := omega) only [b_Forecast_bestStartOf_32, be_4, be_7, be_0, List.getD_cons_zero, List.getD_cons_succ, List.set_cons_zero, List.set_cons_succ, List.length_cons, List.length_nil, pk_I, pk_A, pr_A, pi_I, st_s, st_n, if_true, if_false, eq_self, d_if, d_ju, d_re, d_ca, cat0, cat1, cat2, cat3, fr_z, fr_s, cc_I, cc_A, cc_N, Nat.reduceAdd, Nat.reduceLT, Nat.reduceLeDiff, Nat.reduceEqDiff, not_true, not_false_iff, z1_0, z1_1, Bool.and_self, Bool.true_and, Bool.and_true, nI_add, pk_mul, nI_clamp, decide_true, Nat.le_refl, bI_eq, bI_z1, nI_leI, nI_ltI, hni, i2]
      refine go_at (blk := b_Forecast_bestStartOf_40) rfl ?_
      simp (disch := omega) only [b_Forecast_bestStartOf_40, be_10, be_51, List.getD_cons_zero, List.getD_cons_succ, List.set_cons_zero, List.set_cons_succ, List.length_cons, List.length_nil, pk_I, pk_A, pr_A, pi_I, st_s, st_n, if_true, if_false, eq_self, d_if, d_ju, d_re, d_ca, cat0, cat1, cat2, cat3, fr_z, fr_s, cc_I, cc_A, cc_N, Nat.reduceAdd, Nat.reduceLT, Nat.reduceLeDiff, Nat.reduceEqDiff, not_true, not_false_iff, z1_0, z1_1, Bool.and_self, Bool.true_and, Bool.and_true, nI_add, pk_mul, nI_clamp, decide_true, Nat.le_refl, bI_eq, bI_z1, nI_leI, nI_ltI, hni, i2]
      have hc : (bsS T f p n i).2 < skS T f p i n := Int32.not_le.mp hc
      simp only [bs_t hc] at ih
      exact ih (v2, .int _) ⟨QF_t i1 q2, rfl⟩
  · intro x ⟨i1, i2⟩
    try dsimp only at *
    refine go_at (blk := b_Forecast_bestStartOf_9) rfl ?_
    simp (disch := omega) only [b_Forecast_bestStartOf_9, be_4, be_49_3, List.getD_cons_zero, List.getD_cons_succ, List.set_cons_zero, List.set_cons_succ, List.length_cons, List.length_nil, pk_I, pk_A, pr_A, pi_I, st_s, st_n, if_true, if_false, eq_self, d_if, d_ju, d_re, d_ca, cat0, cat1, cat2, cat3, fr_z, fr_s, cc_I, cc_A, cc_N, Nat.reduceAdd, Nat.reduceLT, Nat.reduceLeDiff, Nat.reduceEqDiff, not_true, not_false_iff, z1_0, z1_1, Bool.and_self, Bool.true_and, Bool.and_true, nI_add, pk_mul, nI_clamp, decide_true, Nat.le_refl, bI_eq, bI_z1, nI_leI, nI_ltI]
    refine go_at (blk := b_Forecast_bestStartOf_46) rfl ?_
    simp (disch := omega) only [b_Forecast_bestStartOf_46, be_4, be_50_1, List.getD_cons_zero, List.getD_cons_succ, List.set_cons_zero, List.set_cons_succ, List.length_cons, List.length_nil, pk_I, pk_A, pr_A, pi_I, st_s, st_n, if_true, if_false, eq_self, d_if, d_ju, d_re, d_ca, cat0, cat1, cat2, cat3, fr_z, fr_s, cc_I, cc_A, cc_N, Nat.reduceAdd, Nat.reduceLT, Nat.reduceLeDiff, Nat.reduceEqDiff, not_true, not_false_iff, z1_0, z1_1, Bool.and_self, Bool.true_and, Bool.and_true, nI_add, pk_mul, nI_clamp, decide_true, Nat.le_refl, bI_eq, bI_z1, nI_leI, nI_ltI]
    split
    · rename_i hw
      refine go_at (blk := b_Forecast_bestStartOf_55) rfl ?_
      simp (disch := omega) only [b_Forecast_bestStartOf_55, be_4, be_0, List.getD_cons_zero, List.getD_cons_succ, List.set_cons_zero, List.set_cons_succ, List.length_cons, List.length_nil, pk_I, pk_A, pr_A, pi_I, st_s, st_n, if_true, if_false, eq_self, d_if, d_ju, d_re, d_ca, cat0, cat1, cat2, cat3, fr_z, fr_s, cc_I, cc_A, cc_N, Nat.reduceAdd, Nat.reduceLT, Nat.reduceLeDiff, Nat.reduceEqDiff, not_true, not_false_iff, z1_0, z1_1, Bool.and_self, Bool.true_and, Bool.and_true, nI_add, pk_mul, nI_clamp, decide_true, Nat.le_refl, bI_eq, bI_z1, nI_leI, nI_ltI]
      refine go_at (blk := b_Forecast_bestStartOf_57) rfl ?_
      simp (disch := omega) only [b_Forecast_bestStartOf_57, be_54, List.getD_cons_zero, List.getD_cons_succ, List.set_cons_zero, List.set_cons_succ, List.length_cons, List.length_nil, pk_I, pk_A, pr_A, pi_I, st_s, st_n, if_true, if_false, eq_self, d_if, d_ju, d_re, d_ca, cat0, cat1, cat2, cat3, fr_z, fr_s, cc_I, cc_A, cc_N, Nat.reduceAdd, Nat.reduceLT, Nat.reduceLeDiff, Nat.reduceEqDiff, not_true, not_false_iff, z1_0, z1_1, Bool.and_self, Bool.true_and, Bool.and_true, nI_add, pk_mul, nI_clamp, decide_true, Nat.le_refl, bI_eq, bI_z1, nI_leI, nI_ltI]
      rw [if_neg hw] at hQ
      exact hQ x.1 i1
    · rename_i hw
      refine go_at (blk := b_Forecast_bestStartOf_50) rfl ?_
      simp (disch := omega) only [b_Forecast_bestStartOf_50, be_4, be_51, List.getD_cons_zero, List.getD_cons_succ, List.set_cons_zero, List.set_cons_succ, List.length_cons, List.length_nil, pk_I, pk_A, pr_A, pi_I, st_s, st_n, if_true, if_false, eq_self, d_if, d_ju, d_re, d_ca, cat0, cat1, cat2, cat3, fr_z, fr_s, cc_I, cc_A, cc_N, Nat.reduceAdd, Nat.reduceLT, Nat.reduceLeDiff, Nat.reduceEqDiff, not_true, not_false_iff, z1_0, z1_1, Bool.and_self, Bool.true_and, Bool.and_true, nI_add, pk_mul, nI_clamp, decide_true, Nat.le_refl, bI_eq, bI_z1, nI_leI, nI_ltI]
      refine go_at (blk := b_Forecast_bestStartOf_57) rfl ?_
      simp (disch := omega) only [b_Forecast_bestStartOf_57, be_54, List.getD_cons_zero, List.getD_cons_succ, List.set_cons_zero, List.set_cons_succ, List.length_cons, List.length_nil, pk_I, pk_A, pr_A, pi_I, st_s, st_n, if_true, if_false, eq_self, d_if, d_ju, d_re, d_ca, cat0, cat1, cat2, cat3, fr_z, fr_s, cc_I, cc_A, cc_N, Nat.reduceAdd, Nat.reduceLT, Nat.reduceLeDiff, Nat.reduceEqDiff, not_true, not_false_iff, z1_0, z1_1, Bool.and_self, Bool.true_and, Bool.and_true, nI_add, pk_mul, nI_clamp, decide_true, Nat.le_refl, bI_eq, bI_z1, nI_leI, nI_ltI]
      rw [if_pos (Decidable.not_not.mp hw)] at hQ
      exact hQ x.1 i1
