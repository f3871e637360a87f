/-! laid by wip/whole/k25.py: the class: board, oil, run -/
/-- who is not on the stair does not kneel -/
def ON (n : Nat) (f : Nat → Int32) : Prop := ∀ p, p < n → f (32 + p) ≠ -1 → f (8 + p) = 0
def boO (T : TXT) (f : Nat → Int32) (y : Int32) : Option (Nat → Int32) := if (pilB (tN T) y && !onB f (-1) (cN y)) = true then some (upd (upd (upd f (cN y) 0) (8 + cN y) 0) (32 + cN y) (-1)) else none
theorem RX_bo {v : Nat → Nat → Int32} {a n p : Nat} {md : Int32} {f : Nat → Int32} (hn : n ≤ 8) (hp : p < n) (h : RX v a n (-1) md f) (h0 : f (8 + p) = 0) : RX (am_u (am_u v (a + 5) p (-2)) (a + 1) p (nI 0)) a n (-1) md (upd (upd (upd f p 0) (8 + p) 0) (32 + p) (-1)) := by
  refine ⟨fun q hq => ⟨fun z => ?_, fun z => absurd z (nI_m (by omega))⟩, ?_⟩
  · obtain ⟨e1, e2, e3, e4, e5⟩ := (h.1 q hq).1 z
    by_cases e : q = p
    · subst e
      refine ⟨?_, ?_, ?_, ?_, ?_⟩ <;> simp (disch := omega) only [am_u_at, am_u_ne, upd_at, upd_ne, e1, e2, e3, e4, e5, if_true, nI_z]
      exact h0
    · refine ⟨?_, ?_, ?_, ?_, ?_⟩ <;> simp (disch := omega) only [am_u_at, am_u_ne, upd_at, upd_ne, e1, e2, e3, e4, e5]
  · simp (disch := omega) only [am_u_ne, upd_ne]
    exact h.2
def oiO (f : Nat → Int32) (x : Int32) : Option (Nat → Int32) := if (!decide (x < nI 1) && !decide (nI 99 < x) && !decide (nI 999 < f 40 + x)) = true then some (upd f 40 (f 40 + x)) else none
theorem RX_oil {v : Nat → Nat → Int32} {a n : Nat} {no md x : Int32} {f : Nat → Int32} (hn : n ≤ 8) (h : RX v a n no md f) : RX (am_u v a 6 x) a n no md (upd f 40 x) := by
  refine ⟨fun q hq => ?_, ?_⟩
  · have := PX_w (v' := am_u v a 6 x) (h.1 q hq) (fun k _ _ => by rw [am_u_ne (by omega)])
    unfold PX at *
    rw [upd_ne (by omega), upd_ne (by omega), upd_ne (by omega), upd_ne (by omega), upd_ne (by omega)]
    exact this
  · simp (disch := omega) only [am_u_at, upd_at, upd_ne]
    exact ⟨trivial, h.2.2⟩
set_option maxHeartbeats 1000000 in
theorem p_board {d : Nat} {v : Nat → Nat → Int32} {w : Nat → Nat → Int64} {Q : Option Value → am_H → Prop} {T : TXT} {f : Nat → Int32} {B : Int} (hK : KI B v T f) {nx sz : Nat} {h : Nat → Nat → Int32} (hP : PI v (tN T) nx sz h) (hO : ON (tN T) f) {y : Int32} (q0 : boO T f y = none → Q (some (.int (nI 0))) (428, 26053, KD, RF, v, w)) (q1 : ∀ f' v', boO T f y = some f' → FM v v' → RX v' 42 (tN T) (-1) 0 f' → PI v' (tN T) ((nx + 1) % 50) (if sz < 50 then sz + 1 else 50) (coH f h) → Q (some (.int (nI 1))) (428, 26053, KD, RF, v', w)) : am_Ca (d + 3) M_KneeStair_board [.ref 0, .int y] (428, 26053, KD, RF, v, w) Q := by
  have h8 := hK.1.1
  have k1 := hK.1.2.1
  refine ca_in (k := k_KneeStair_board) (nL := 2) rfl (Nat.le_of_ble_eq_true rfl) ?_
  show am_Go am_X0 _ k_KneeStair_board 0 ([.ref 0, .int y], [], _) _
  refine go_at (blk := b_KneeStair_board_0) rfl ?_
  simp (disch := omega) only [b_KneeStair_board_0, be_6, be_4, be_57_1, kc_0, List.getD_cons_zero, List.getD_cons_succ, List.set_cons_zero, List.set_cons_succ, List.length_cons, List.length_nil, pk_I, pk_A, pr_A, pi_I, st_s, st_n, if_true, if_false, eq_self, d_if, d_ju, d_re, d_ca, cat0, cat1, cat2, cat3, fr_z, fr_s, cc_I, cc_A, cc_N, Nat.reduceAdd, Nat.reduceLT, Nat.reduceLeDiff, Nat.reduceEqDiff, not_true, not_false_iff, z1_0, z1_1, Bool.and_self, Bool.true_and, Bool.and_true, nI_add, pk_mul, nI_clamp, decide_true, Nat.le_refl, bI_eq, bI_z1]
  refine k_isPil hK ?_
  refine go_at (blk := b_KneeStair_board_5) rfl ?_
  simp (disch := omega) only [b_KneeStair_board_5, be_50_0, List.getD_cons_zero, List.getD_cons_succ, List.set_cons_zero, List.set_cons_succ, List.length_cons, List.length_nil, pk_I, pk_A, pr_A, pi_I, st_s, st_n, if_true, if_false, eq_self, d_if, d_ju, d_re, d_ca, cat0, cat1, cat2, cat3, fr_z, fr_s, cc_I, cc_A, cc_N, Nat.reduceAdd, Nat.reduceLT, Nat.reduceLeDiff, Nat.reduceEqDiff, not_true, not_false_iff, z1_0, z1_1, Bool.and_self, Bool.true_and, Bool.and_true, nI_add, pk_mul, nI_clamp, decide_true, Nat.le_refl, bI_eq, bI_z1]
  split
  · rename_i hb
    refine go_at (blk := b_KneeStair_board_19) rfl ?_
    simp (disch := omega) only [b_KneeStair_board_19, be_1, be_73, List.getD_cons_zero, List.getD_cons_succ, List.set_cons_zero, List.set_cons_succ, List.length_cons, List.length_nil, pk_I, pk_A, pr_A, pi_I, st_s, st_n, if_true, if_false, eq_self, d_if, d_ju, d_re, d_ca, cat0, cat1, cat2, cat3, fr_z, fr_s, cc_I, cc_A, cc_N, Nat.reduceAdd, Nat.reduceLT, Nat.reduceLeDiff, Nat.reduceEqDiff, not_true, not_false_iff, z1_0, z1_1, Bool.and_self, Bool.true_and, Bool.and_true, nI_add, pk_mul, nI_clamp, decide_true, Nat.le_refl, bI_eq, bI_z1]
    exact q0 (by unfold boO; rw [if_neg (by rw [hb]; simp)])
  · rename_i hb
    have hb : pilB (tN T) y = true := by simpa using hb
    obtain ⟨p, hp, rfl, e⟩ := pil_of h8 hb
    refine go_at (blk := b_KneeStair_board_8) rfl ?_
    simp (disch := omega) only [b_KneeStair_board_8, be_6, be_34, be_4, be_57_1, kc_0, rf_0_5, kc_42, List.getD_cons_zero, List.getD_cons_succ, List.set_cons_zero, List.set_cons_succ, List.length_cons, List.length_nil, pk_I, pk_A, pr_A, pi_I, st_s, st_n, if_true, if_false, eq_self, d_if, d_ju, d_re, d_ca, cat0, cat1, cat2, cat3, fr_z, fr_s, cc_I, cc_A, cc_N, Nat.reduceAdd, Nat.reduceLT, Nat.reduceLeDiff, Nat.reduceEqDiff, not_true, not_false_iff, z1_0, z1_1, Bool.and_self, Bool.true_and, Bool.and_true, nI_add, pk_mul, nI_clamp, decide_true, Nat.le_refl, bI_eq, bI_z1]
    refine kf_nowOn hK hp ?_
    refine go_at (blk := b_KneeStair_board_16) rfl ?_
    simp (disch := omega) only [b_KneeStair_board_16, be_50_0, List.getD_cons_zero, List.getD_cons_succ, List.set_cons_zero, List.set_cons_succ, List.length_cons, List.length_nil, pk_I, pk_A, pr_A, pi_I, st_s, st_n, if_true, if_false, eq_self, d_if, d_ju, d_re, d_ca, cat0, cat1, cat2, cat3, fr_z, fr_s, cc_I, cc_A, cc_N, Nat.reduceAdd, Nat.reduceLT, Nat.reduceLeDiff, Nat.reduceEqDiff, not_true, not_false_iff, z1_0, z1_1, Bool.and_self, Bool.true_and, Bool.and_true, nI_add, pk_mul, nI_clamp, decide_true, Nat.le_refl, bI_eq, bI_z1]
    split
    · rename_i hc
      refine go_at (blk := b_KneeStair_board_21) rfl ?_
      simp (disch := omega) only [b_KneeStair_board_21, be_6, be_34, be_57_1, kc_0, rf_0_6, rf_0_5, kc_48, List.getD_cons_zero, List.getD_cons_succ, List.set_cons_zero, List.set_cons_succ, List.length_cons, List.length_nil, pk_I, pk_A, pr_A, pi_I, st_s, st_n, if_true, if_false, eq_self, d_if, d_ju, d_re, d_ca, cat0, cat1, cat2, cat3, fr_z, fr_s, cc_I, cc_A, cc_N, Nat.reduceAdd, Nat.reduceLT, Nat.reduceLeDiff, Nat.reduceEqDiff, not_true, not_false_iff, z1_0, z1_1, Bool.and_self, Bool.true_and, Bool.and_true, nI_add, pk_mul, nI_clamp, decide_true, Nat.le_refl, bI_eq, bI_z1]
      refine k_keep hK hP ?_
      intro v1 c1 p1
      refine go_at (blk := b_KneeStair_board_32) rfl ?_
      simp (disch := omega) only [b_KneeStair_board_32, be_6, be_34, be_4, be_2, be_43, be_1, be_73, kc_0, rf_0_5, kc_42, rf_42_5, ka_47, rf_42_1, ka_43, List.getD_cons_zero, List.getD_cons_succ, List.set_cons_zero, List.set_cons_succ, List.length_cons, List.length_nil, pk_I, pk_A, pr_A, pi_I, st_s, st_n, if_true, if_false, eq_self, d_if, d_ju, d_re, d_ca, cat0, cat1, cat2, cat3, fr_z, fr_s, cc_I, cc_A, cc_N, Nat.reduceAdd, Nat.reduceLT, Nat.reduceLeDiff, Nat.reduceEqDiff, not_true, not_false_iff, z1_0, z1_1, Bool.and_self, Bool.true_and, Bool.and_true, nI_add, pk_mul, nI_clamp, decide_true, Nat.le_refl, bI_eq, bI_z1]
      have h0 : f (8 + p) = 0 := hO p hp (by intro z; unfold onB at hc; rw [decide_eq_true z, decide_eq_false (nI_m (p := p) (by omega))] at hc; exact absurd hc (by decide))
      refine q1 (upd (upd (upd f p 0) (8 + p) 0) (32 + p) (-1)) _ ?_ ?_ (RX_bo h8 hp (KI_p hK c1).2.1 h0) (PI_w p1 (fun c _ _ => by simp (disch := omega) only [am_u_ne]))
      · unfold boO
        rw [e, if_pos (by rw [hb, hc]; rfl)]
      · intro c d1 d2 d3 d4 d5 d6
        simp (disch := omega) only [am_u_ne]
        exact c1 c (by omega) d6
    · rename_i hc
      refine go_at (blk := b_KneeStair_board_19) rfl ?_
      simp (disch := omega) only [b_KneeStair_board_19, be_1, be_73, List.getD_cons_zero, List.getD_cons_succ, List.set_cons_zero, List.set_cons_succ, List.length_cons, List.length_nil, pk_I, pk_A, pr_A, pi_I, st_s, st_n, if_true, if_false, eq_self, d_if, d_ju, d_re, d_ca, cat0, cat1, cat2, cat3, fr_z, fr_s, cc_I, cc_A, cc_N, Nat.reduceAdd, Nat.reduceLT, Nat.reduceLeDiff, Nat.reduceEqDiff, not_true, not_false_iff, z1_0, z1_1, Bool.and_self, Bool.true_and, Bool.and_true, nI_add, pk_mul, nI_clamp, decide_true, Nat.le_refl, bI_eq, bI_z1]
      have hc : onB f (-1) p = true := by simpa using hc
      exact q0 (by unfold boO; rw [if_neg (by rw [e, hc]; simp)])
set_option maxHeartbeats 1000000 in
theorem p_oil {d : Nat} {v : Nat → Nat → Int32} {w : Nat → Nat → Int64} {Q : Option Value → am_H → Prop} {T : TXT} {f : Nat → Int32} {B : Int} (hK : KI B v T f) {nx sz : Nat} {h : Nat → Nat → Int32} (hP : PI v (tN T) nx sz h) {x : Int32} (q0 : oiO f x = none → Q (some (.int (-1))) (428, 26053, KD, RF, v, w)) (q1 : ∀ f' v', oiO f x = some f' → FM v v' → RX v' 42 (tN T) (-1) 0 f' → PI v' (tN T) ((nx + 1) % 50) (if sz < 50 then sz + 1 else 50) (coH f h) → Q (some (.int (f 40 + x))) (428, 26053, KD, RF, v', w)) : am_Ca (d + 3) M_KneeStair_oil [.ref 0, .int x] (428, 26053, KD, RF, v, w) Q := by
  have h8 := hK.1.1
  have k1 := hK.1.2.1
  have a6 : v 42 6 = f 40 := hK.2.1.2.1
  refine ca_in (k := k_KneeStair_oil) (nL := 2) rfl (Nat.le_of_ble_eq_true rfl) ?_
  show am_Go am_X0 _ k_KneeStair_oil 0 ([.ref 0, .int x], [], _) _
  refine go_at (blk := b_KneeStair_oil_0) rfl ?_
  simp (disch := omega) only [b_KneeStair_oil_0, be_4, be_1, be_49_2, List.getD_cons_zero, List.getD_cons_succ, List.set_cons_zero, List.set_cons_succ, List.length_cons, List.length_nil, pk_I, pk_A, pr_A, pi_I, st_s, st_n, if_true, if_false, eq_self, d_if, d_ju, d_re, d_ca, cat0, cat1, cat2, cat3, fr_z, fr_s, cc_I, cc_A, cc_N, Nat.reduceAdd, Nat.reduceLT, Nat.reduceLeDiff, Nat.reduceEqDiff, not_true, not_false_iff, z1_0, z1_1, Bool.and_self, Bool.true_and, Bool.and_true, nI_add, pk_mul, nI_clamp, decide_true, Nat.le_refl, bI_eq, bI_z1, a6, am_u_at, upd_at]
  split
  · rename_i h0
    refine go_at (blk := b_KneeStair_oil_26) rfl ?_
    simp (disch := omega) only [b_KneeStair_oil_26, be_2, be_54, List.getD_cons_zero, List.getD_cons_succ, List.set_cons_zero, List.set_cons_succ, List.length_cons, List.length_nil, pk_I, pk_A, pr_A, pi_I, st_s, st_n, if_true, if_false, eq_self, d_if, d_ju, d_re, d_ca, cat0, cat1, cat2, cat3, fr_z, fr_s, cc_I, cc_A, cc_N, Nat.reduceAdd, Nat.reduceLT, Nat.reduceLeDiff, Nat.reduceEqDiff, not_true, not_false_iff, z1_0, z1_1, Bool.and_self, Bool.true_and, Bool.and_true, nI_add, pk_mul, nI_clamp, decide_true, Nat.le_refl, bI_eq, bI_z1, a6, am_u_at, upd_at]
    exact q0 (by unfold oiO; rw [if_neg (by rw [decide_eq_true h0]; simp)])
  · rename_i h0
    refine go_at (blk := b_KneeStair_oil_5) rfl ?_
    simp (disch := omega) only [b_KneeStair_oil_5, be_4, be_1, be_49_4, List.getD_cons_zero, List.getD_cons_succ, List.set_cons_zero, List.set_cons_succ, List.length_cons, List.length_nil, pk_I, pk_A, pr_A, pi_I, st_s, st_n, if_true, if_false, eq_self, d_if, d_ju, d_re, d_ca, cat0, cat1, cat2, cat3, fr_z, fr_s, cc_I, cc_A, cc_N, Nat.reduceAdd, Nat.reduceLT, Nat.reduceLeDiff, Nat.reduceEqDiff, not_true, not_false_iff, z1_0, z1_1, Bool.and_self, Bool.true_and, Bool.and_true, nI_add, pk_mul, nI_clamp, decide_true, Nat.le_refl, bI_eq, bI_z1, a6, am_u_at, upd_at]
    split
    · rename_i h1
      refine go_at (blk := b_KneeStair_oil_26) rfl ?_
      simp (disch := omega) only [b_KneeStair_oil_26, be_2, be_54, List.getD_cons_zero, List.getD_cons_succ, List.set_cons_zero, List.set_cons_succ, List.length_cons, List.length_nil, pk_I, pk_A, pr_A, pi_I, st_s, st_n, if_true, if_false, eq_self, d_if, d_ju, d_re, d_ca, cat0, cat1, cat2, cat3, fr_z, fr_s, cc_I, cc_A, cc_N, Nat.reduceAdd, Nat.reduceLT, Nat.reduceLeDiff, Nat.reduceEqDiff, not_true, not_false_iff, z1_0, z1_1, Bool.and_self, Bool.true_and, Bool.and_true, nI_add, pk_mul, nI_clamp, decide_true, Nat.le_refl, bI_eq, bI_z1, a6, am_u_at, upd_at]
      exact q0 (by unfold oiO; rw [if_neg (by rw [decide_eq_true h1]; simp)])
    · rename_i h1
      refine go_at (blk := b_KneeStair_oil_11) rfl ?_
      simp (disch := omega) only [b_KneeStair_oil_11, be_6, be_34, be_33, be_4, be_12, be_1, be_49_5, kc_0, rf_0_5, kc_42, List.getD_cons_zero, List.getD_cons_succ, List.set_cons_zero, List.set_cons_succ, List.length_cons, List.length_nil, pk_I, pk_A, pr_A, pi_I, st_s, st_n, if_true, if_false, eq_self, d_if, d_ju, d_re, d_ca, cat0, cat1, cat2, cat3, fr_z, fr_s, cc_I, cc_A, cc_N, Nat.reduceAdd, Nat.reduceLT, Nat.reduceLeDiff, Nat.reduceEqDiff, not_true, not_false_iff, z1_0, z1_1, Bool.and_self, Bool.true_and, Bool.and_true, nI_add, pk_mul, nI_clamp, decide_true, Nat.le_refl, bI_eq, bI_z1, a6, am_u_at, upd_at]
      split
      · rename_i h2
        refine go_at (blk := b_KneeStair_oil_28) rfl ?_
        simp (disch := omega) only [b_KneeStair_oil_28, be_6, be_34, be_57_1, kc_0, rf_0_6, rf_0_5, kc_48, List.getD_cons_zero, List.getD_cons_succ, List.set_cons_zero, List.set_cons_succ, List.length_cons, List.length_nil, pk_I, pk_A, pr_A, pi_I, st_s, st_n, if_true, if_false, eq_self, d_if, d_ju, d_re, d_ca, cat0, cat1, cat2, cat3, fr_z, fr_s, cc_I, cc_A, cc_N, Nat.reduceAdd, Nat.reduceLT, Nat.reduceLeDiff, Nat.reduceEqDiff, not_true, not_false_iff, z1_0, z1_1, Bool.and_self, Bool.true_and, Bool.and_true, nI_add, pk_mul, nI_clamp, decide_true, Nat.le_refl, bI_eq, bI_z1, a6, am_u_at, upd_at]
        refine k_keep hK hP ?_
        intro v1 c1 p1
        have b6 : v1 42 6 = f 40 := (KI_p hK c1).2.1.2.1
        refine go_at (blk := b_KneeStair_oil_39) rfl ?_
        simp (disch := omega) only [b_KneeStair_oil_39, be_6, be_34, be_30I, be_30A, be_33, be_4, be_12, be_35, be_54, kc_0, rf_0_5, kc_42, List.getD_cons_zero, List.getD_cons_succ, List.set_cons_zero, List.set_cons_succ, List.length_cons, List.length_nil, pk_I, pk_A, pr_A, pi_I, st_s, st_n, if_true, if_false, eq_self, d_if, d_ju, d_re, d_ca, cat0, cat1, cat2, cat3, fr_z, fr_s, cc_I, cc_A, cc_N, Nat.reduceAdd, Nat.reduceLT, Nat.reduceLeDiff, Nat.reduceEqDiff, not_true, not_false_iff, z1_0, z1_1, Bool.and_self, Bool.true_and, Bool.and_true, nI_add, pk_mul, nI_clamp, decide_true, Nat.le_refl, bI_eq, bI_z1, a6, am_u_at, upd_at, b6]
        refine q1 (upd f 40 (f 40 + x)) _ ?_ ?_ (RX_oil h8 (KI_p hK c1).2.1) (PI_w p1 (fun c _ _ => am_u_ne (by omega)))
        · unfold oiO
          rw [if_pos (by rw [decide_eq_false h0, decide_eq_false h1, decide_eq_false (p := nI 999 < f 40 + x) (Int32.not_lt.mpr h2)]; rfl)]
        · intro c d1 d2 d3 d4 d5 d6
          rw [am_u_ne (by omega)]
          exact c1 c (by omega) d6
      · rename_i h2
        refine go_at (blk := b_KneeStair_oil_26) rfl ?_
        simp (disch := omega) only [b_KneeStair_oil_26, be_2, be_54, List.getD_cons_zero, List.getD_cons_succ, List.set_cons_zero, List.set_cons_succ, List.length_cons, List.length_nil, pk_I, pk_A, pr_A, pi_I, st_s, st_n, if_true, if_false, eq_self, d_if, d_ju, d_re, d_ca, cat0, cat1, cat2, cat3, fr_z, fr_s, cc_I, cc_A, cc_N, Nat.reduceAdd, Nat.reduceLT, Nat.reduceLeDiff, Nat.reduceEqDiff, not_true, not_false_iff, z1_0, z1_1, Bool.and_self, Bool.true_and, Bool.and_true, nI_add, pk_mul, nI_clamp, decide_true, Nat.le_refl, bI_eq, bI_z1, a6, am_u_at, upd_at]
        exact q0 (by unfold oiO; rw [if_neg (by rw [decide_eq_true (p := nI 999 < f 40 + x) (Int32.not_le.mp h2)]; simp)])
