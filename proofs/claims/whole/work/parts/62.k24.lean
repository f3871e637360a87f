/-! laid by wip/whole/k24.py: the class: what is done -/
/-- what is done changes these alone -/
def FM (v v' : Nat → Nat → Int32) : Prop := ∀ c, c ≠ 35 → c ≠ 36 → c ≠ 40 → c ≠ 41 → (c < 42 ∨ 48 < c) → (c < 50 ∨ 349 < c) → v' c = v c
theorem FM_p {v v' : Nat → Nat → Int32} (h : FP v v') : FM v v' := fun c _ _ _ _ c5 c6 => h c (by omega) c6
theorem KI_p {B : Int} {v v' : Nat → Nat → Int32} {T : TXT} {f : Nat → Int32} (h : KI B v T f) (e : FP v v') : KI B v' T f := by
  obtain ⟨h1, h2, h3⟩ := h
  exact ⟨KX_w h1 (fun c _ _ _ _ => e c (by omega) (by omega)), RX_w h2 (fun c c1 c2 => e c (by omega) (by omega)), h3⟩
theorem PI_w {v v' : Nat → Nat → Int32} {n nx sz : Nat} {h : Nat → Nat → Int32} (hp : PI v n nx sz h) (e : ∀ c, 48 ≤ c → c ≤ 349 → v' c = v c) : PI v' n nx sz h := by
  obtain ⟨p1, p2, p3, p4, p5⟩ := hp
  refine ⟨by rw [e 48 (by omega) (by omega)]; exact p1, p2, by rw [e 48 (by omega) (by omega)]; exact p3, p4, fun j hj => RX_w (p5 j hj) (fun c c1 c2 => e c (by omega) (by omega))⟩
def knO (T : TXT) (f : Nat → Int32) (y : Int32) : Option (Nat → Int32) := if (pilB (tN T) y && decide (f (8 + cN y) = 0) && mayB f (-1) (tS T) (cN y)) = true then some (upd f (8 + cN y) 1) else none
def riO (T : TXT) (f : Nat → Int32) (y : Int32) : Option (Nat → Int32) := if (pilB (tN T) y && !decide (f (8 + cN y) = 0)) = true then some (upd f (8 + cN y) 0) else none
set_option maxHeartbeats 1000000 in
theorem p_kneel {d : Nat} {v : Nat → Nat → Int32} {w : Nat → Nat → Int64} {Q : Option Value → am_H → Prop} {T : TXT} {f : Nat → Int32} {B : Int} (hK : KI B v T f) {nx sz : Nat} {h : Nat → Nat → Int32} (hP : PI v (tN T) nx sz h) {y : Int32} (q0 : knO T f y = none → Q (some (.int (nI 0))) (428, 26053, KD, RF, v, w)) (q1 : ∀ f' v', knO T f y = some f' → FM v v' → RX v' 42 (tN T) (-1) 0 f' → PI v' (tN T) ((nx + 1) % 50) (if sz < 50 then sz + 1 else 50) (coH f h) → Q (some (.int (nI 1))) (428, 26053, KD, RF, v', w)) : am_Ca (d + 3) M_KneeStair_kneel [.ref 0, .int y] (428, 26053, KD, RF, v, w) Q := by
  have h8 := hK.1.1
  have k1 := hK.1.2.1
  refine ca_in (k := k_KneeStair_kneel) (nL := 2) rfl (Nat.le_of_ble_eq_true rfl) ?_
  show am_Go am_X0 _ k_KneeStair_kneel 0 ([.ref 0, .int y], [], _) _
  refine go_at (blk := b_KneeStair_kneel_0) rfl ?_
  simp (disch := omega) only [b_KneeStair_kneel_0, be_6, be_4, be_57_1, kc_0, List.getD_cons_zero, List.getD_cons_succ, List.set_cons_zero, List.set_cons_succ, List.length_cons, List.length_nil, pk_I, pk_A, pr_A, pi_I, st_s, st_n, if_true, if_false, eq_self, d_if, d_ju, d_re, d_ca, cat0, cat1, cat2, cat3, fr_z, fr_s, cc_I, cc_A, cc_N, Nat.reduceAdd, Nat.reduceLT, Nat.reduceLeDiff, Nat.reduceEqDiff, not_true, not_false_iff, z1_0, z1_1, Bool.and_self, Bool.true_and, Bool.and_true, nI_add, pk_mul, nI_clamp, decide_true, Nat.le_refl, bI_eq, bI_z1, vb_0, vb_1]
  refine k_isPil hK ?_
  refine go_at (blk := b_KneeStair_kneel_5) rfl ?_
  simp (disch := omega) only [b_KneeStair_kneel_5, be_50_0, List.getD_cons_zero, List.getD_cons_succ, List.set_cons_zero, List.set_cons_succ, List.length_cons, List.length_nil, pk_I, pk_A, pr_A, pi_I, st_s, st_n, if_true, if_false, eq_self, d_if, d_ju, d_re, d_ca, cat0, cat1, cat2, cat3, fr_z, fr_s, cc_I, cc_A, cc_N, Nat.reduceAdd, Nat.reduceLT, Nat.reduceLeDiff, Nat.reduceEqDiff, not_true, not_false_iff, z1_0, z1_1, Bool.and_self, Bool.true_and, Bool.and_true, nI_add, pk_mul, nI_clamp, decide_true, Nat.le_refl, bI_eq, bI_z1, vb_0, vb_1]
  split
  · rename_i hb
    refine go_at (blk := b_KneeStair_kneel_31) rfl ?_
    simp (disch := omega) only [b_KneeStair_kneel_31, be_1, be_73, List.getD_cons_zero, List.getD_cons_succ, List.set_cons_zero, List.set_cons_succ, List.length_cons, List.length_nil, pk_I, pk_A, pr_A, pi_I, st_s, st_n, if_true, if_false, eq_self, d_if, d_ju, d_re, d_ca, cat0, cat1, cat2, cat3, fr_z, fr_s, cc_I, cc_A, cc_N, Nat.reduceAdd, Nat.reduceLT, Nat.reduceLeDiff, Nat.reduceEqDiff, not_true, not_false_iff, z1_0, z1_1, Bool.and_self, Bool.true_and, Bool.and_true, nI_add, pk_mul, nI_clamp, decide_true, Nat.le_refl, bI_eq, bI_z1, vb_0, vb_1]
    exact q0 (by unfold knO; rw [if_neg (by rw [hb]; simp)])
  · rename_i hb
    have hb : pilB (tN T) y = true := by simpa using hb
    obtain ⟨p, hp, rfl, e⟩ := pil_of h8 hb
    have ek : v 44 p = f (8 + p) := RX_k hK.2.1 hp (nI_m (by omega))
    refine go_at (blk := b_KneeStair_kneel_8) rfl ?_
    simp (disch := omega) only [b_KneeStair_kneel_8, be_6, be_34, be_4, be_40, be_50_1, kc_0, rf_0_5, kc_42, rf_42_2, ka_44, List.getD_cons_zero, List.getD_cons_succ, List.set_cons_zero, List.set_cons_succ, List.length_cons, List.length_nil, pk_I, pk_A, pr_A, pi_I, st_s, st_n, if_true, if_false, eq_self, d_if, d_ju, d_re, d_ca, cat0, cat1, cat2, cat3, fr_z, fr_s, cc_I, cc_A, cc_N, Nat.reduceAdd, Nat.reduceLT, Nat.reduceLeDiff, Nat.reduceEqDiff, not_true, not_false_iff, z1_0, z1_1, Bool.and_self, Bool.true_and, Bool.and_true, nI_add, pk_mul, nI_clamp, decide_true, Nat.le_refl, bI_eq, bI_z1, vb_0, vb_1, ek]
    split
    · rename_i hc
      refine go_at (blk := b_KneeStair_kneel_31) rfl ?_
      simp (disch := omega) only [b_KneeStair_kneel_31, be_1, be_73, List.getD_cons_zero, List.getD_cons_succ, List.set_cons_zero, List.set_cons_succ, List.length_cons, List.length_nil, pk_I, pk_A, pr_A, pi_I, st_s, st_n, if_true, if_false, eq_self, d_if, d_ju, d_re, d_ca, cat0, cat1, cat2, cat3, fr_z, fr_s, cc_I, cc_A, cc_N, Nat.reduceAdd, Nat.reduceLT, Nat.reduceLeDiff, Nat.reduceEqDiff, not_true, not_false_iff, z1_0, z1_1, Bool.and_self, Bool.true_and, Bool.and_true, nI_add, pk_mul, nI_clamp, decide_true, Nat.le_refl, bI_eq, bI_z1, vb_0, vb_1]
      exact q0 (by unfold knO; rw [if_neg (by rw [e, decide_eq_false hc]; simp)])
    · rename_i hc
      have hc := Decidable.not_not.mp hc
      refine go_at (blk := b_KneeStair_kneel_20) rfl ?_
      simp (disch := omega) only [b_KneeStair_kneel_20, be_6, be_34, be_4, be_57_1, kc_0, rf_0_5, kc_42, List.getD_cons_zero, List.getD_cons_succ, List.set_cons_zero, List.set_cons_succ, List.length_cons, List.length_nil, pk_I, pk_A, pr_A, pi_I, st_s, st_n, if_true, if_false, eq_self, d_if, d_ju, d_re, d_ca, cat0, cat1, cat2, cat3, fr_z, fr_s, cc_I, cc_A, cc_N, Nat.reduceAdd, Nat.reduceLT, Nat.reduceLeDiff, Nat.reduceEqDiff, not_true, not_false_iff, z1_0, z1_1, Bool.and_self, Bool.true_and, Bool.and_true, nI_add, pk_mul, nI_clamp, decide_true, Nat.le_refl, bI_eq, bI_z1, vb_0, vb_1]
      refine kf_nowMay hK hp ?_
      refine go_at (blk := b_KneeStair_kneel_28) rfl ?_
      simp (disch := omega) only [b_KneeStair_kneel_28, be_50_1, List.getD_cons_zero, List.getD_cons_succ, List.set_cons_zero, List.set_cons_succ, List.length_cons, List.length_nil, pk_I, pk_A, pr_A, pi_I, st_s, st_n, if_true, if_false, eq_self, d_if, d_ju, d_re, d_ca, cat0, cat1, cat2, cat3, fr_z, fr_s, cc_I, cc_A, cc_N, Nat.reduceAdd, Nat.reduceLT, Nat.reduceLeDiff, Nat.reduceEqDiff, not_true, not_false_iff, z1_0, z1_1, Bool.and_self, Bool.true_and, Bool.and_true, nI_add, pk_mul, nI_clamp, decide_true, Nat.le_refl, bI_eq, bI_z1, vb_0, vb_1]
      split
      · rename_i hd
        have hd : mayB f (-1) (tS T) p = true := by simpa using hd
        refine go_at (blk := b_KneeStair_kneel_33) rfl ?_
        simp (disch := omega) only [b_KneeStair_kneel_33, be_6, be_34, be_57_1, kc_0, rf_0_6, rf_0_5, kc_48, List.getD_cons_zero, List.getD_cons_succ, List.set_cons_zero, List.set_cons_succ, List.length_cons, List.length_nil, pk_I, pk_A, pr_A, pi_I, st_s, st_n, if_true, if_false, eq_self, d_if, d_ju, d_re, d_ca, cat0, cat1, cat2, cat3, fr_z, fr_s, cc_I, cc_A, cc_N, Nat.reduceAdd, Nat.reduceLT, Nat.reduceLeDiff, Nat.reduceEqDiff, not_true, not_false_iff, z1_0, z1_1, Bool.and_self, Bool.true_and, Bool.and_true, nI_add, pk_mul, nI_clamp, decide_true, Nat.le_refl, bI_eq, bI_z1, vb_0, vb_1]
        refine k_keep hK hP ?_
        intro v1 c1 p1
        refine go_at (blk := b_KneeStair_kneel_44) rfl ?_
        simp (disch := omega) only [b_KneeStair_kneel_44, be_6, be_34, be_4, be_1, be_45, be_73, kc_0, rf_0_5, kc_42, rf_42_2, ka_44, List.getD_cons_zero, List.getD_cons_succ, List.set_cons_zero, List.set_cons_succ, List.length_cons, List.length_nil, pk_I, pk_A, pr_A, pi_I, st_s, st_n, if_true, if_false, eq_self, d_if, d_ju, d_re, d_ca, cat0, cat1, cat2, cat3, fr_z, fr_s, cc_I, cc_A, cc_N, Nat.reduceAdd, Nat.reduceLT, Nat.reduceLeDiff, Nat.reduceEqDiff, not_true, not_false_iff, z1_0, z1_1, Bool.and_self, Bool.true_and, Bool.and_true, nI_add, pk_mul, nI_clamp, decide_true, Nat.le_refl, bI_eq, bI_z1, vb_0, vb_1]
        refine q1 (upd f (8 + p) 1) _ ?_ ?_ (RX_kn (x := 1) h8 (by omega) (KI_p hK c1).2.1) (PI_w p1 (fun c _ _ => am_u_ne (by omega)))
        · unfold knO
          rw [e, if_pos (by rw [hb, decide_eq_true hc, hd]; rfl)]
        · intro c d1 d2 d3 d4 d5 d6
          rw [am_u_ne (by omega)]
          exact c1 c (by omega) d6
      · rename_i hd
        refine go_at (blk := b_KneeStair_kneel_31) rfl ?_
        simp (disch := omega) only [b_KneeStair_kneel_31, be_1, be_73, List.getD_cons_zero, List.getD_cons_succ, List.set_cons_zero, List.set_cons_succ, List.length_cons, List.length_nil, pk_I, pk_A, pr_A, pi_I, st_s, st_n, if_true, if_false, eq_self, d_if, d_ju, d_re, d_ca, cat0, cat1, cat2, cat3, fr_z, fr_s, cc_I, cc_A, cc_N, Nat.reduceAdd, Nat.reduceLT, Nat.reduceLeDiff, Nat.reduceEqDiff, not_true, not_false_iff, z1_0, z1_1, Bool.and_self, Bool.true_and, Bool.and_true, nI_add, pk_mul, nI_clamp, decide_true, Nat.le_refl, bI_eq, bI_z1, vb_0, vb_1]
        have hd : mayB f (-1) (tS T) p = false := by simpa using hd
        exact q0 (by unfold knO; rw [if_neg (by rw [e, hd]; simp)])
set_option maxHeartbeats 1000000 in
theorem p_rise {d : Nat} {v : Nat → Nat → Int32} {w : Nat → Nat → Int64} {Q : Option Value → am_H → Prop} {T : TXT} {f : Nat → Int32} {B : Int} (hK : KI B v T f) {nx sz : Nat} {h : Nat → Nat → Int32} (hP : PI v (tN T) nx sz h) {y : Int32} (q0 : riO T f y = none → Q (some (.int (nI 0))) (428, 26053, KD, RF, v, w)) (q1 : ∀ f' v', riO T f y = some f' → FM v v' → RX v' 42 (tN T) (-1) 0 f' → PI v' (tN T) ((nx + 1) % 50) (if sz < 50 then sz + 1 else 50) (coH f h) → Q (some (.int (nI 1))) (428, 26053, KD, RF, v', w)) : am_Ca (d + 3) M_KneeStair_rise [.ref 0, .int y] (428, 26053, KD, RF, v, w) Q := by
  have h8 := hK.1.1
  have k1 := hK.1.2.1
  refine ca_in (k := k_KneeStair_rise) (nL := 2) rfl (Nat.le_of_ble_eq_true rfl) ?_
  show am_Go am_X0 _ k_KneeStair_rise 0 ([.ref 0, .int y], [], _) _
  refine go_at (blk := b_KneeStair_rise_0) rfl ?_
  simp (disch := omega) only [b_KneeStair_rise_0, be_6, be_4, be_57_1, kc_0, List.getD_cons_zero, List.getD_cons_succ, List.set_cons_zero, List.set_cons_succ, List.length_cons, List.length_nil, pk_I, pk_A, pr_A, pi_I, st_s, st_n, if_true, if_false, eq_self, d_if, d_ju, d_re, d_ca, cat0, cat1, cat2, cat3, fr_z, fr_s, cc_I, cc_A, cc_N, Nat.reduceAdd, Nat.reduceLT, Nat.reduceLeDiff, Nat.reduceEqDiff, not_true, not_false_iff, z1_0, z1_1, Bool.and_self, Bool.true_and, Bool.and_true, nI_add, pk_mul, nI_clamp, decide_true, Nat.le_refl, bI_eq, bI_z1, vb_0, vb_1]
  refine k_isPil hK ?_
  refine go_at (blk := b_KneeStair_rise_5) rfl ?_
  simp (disch := omega) only [b_KneeStair_rise_5, be_50_0, List.getD_cons_zero, List.getD_cons_succ, List.set_cons_zero, List.set_cons_succ, List.length_cons, List.length_nil, pk_I, pk_A, pr_A, pi_I, st_s, st_n, if_true, if_false, eq_self, d_if, d_ju, d_re, d_ca, cat0, cat1, cat2, cat3, fr_z, fr_s, cc_I, cc_A, cc_N, Nat.reduceAdd, Nat.reduceLT, Nat.reduceLeDiff, Nat.reduceEqDiff, not_true, not_false_iff, z1_0, z1_1, Bool.and_self, Bool.true_and, Bool.and_true, nI_add, pk_mul, nI_clamp, decide_true, Nat.le_refl, bI_eq, bI_z1, vb_0, vb_1]
  split
  · rename_i hb
    refine go_at (blk := b_KneeStair_rise_20) rfl ?_
    simp (disch := omega) only [b_KneeStair_rise_20, be_1, be_73, List.getD_cons_zero, List.getD_cons_succ, List.set_cons_zero, List.set_cons_succ, List.length_cons, List.length_nil, pk_I, pk_A, pr_A, pi_I, st_s, st_n, if_true, if_false, eq_self, d_if, d_ju, d_re, d_ca, cat0, cat1, cat2, cat3, fr_z, fr_s, cc_I, cc_A, cc_N, Nat.reduceAdd, Nat.reduceLT, Nat.reduceLeDiff, Nat.reduceEqDiff, not_true, not_false_iff, z1_0, z1_1, Bool.and_self, Bool.true_and, Bool.and_true, nI_add, pk_mul, nI_clamp, decide_true, Nat.le_refl, bI_eq, bI_z1, vb_0, vb_1]
    exact q0 (by unfold riO; rw [if_neg (by rw [hb]; simp)])
  · rename_i hb
    have hb : pilB (tN T) y = true := by simpa using hb
    obtain ⟨p, hp, rfl, e⟩ := pil_of h8 hb
    have ek : v 44 p = f (8 + p) := RX_k hK.2.1 hp (nI_m (by omega))
    refine go_at (blk := b_KneeStair_rise_8) rfl ?_
    simp (disch := omega) only [b_KneeStair_rise_8, be_6, be_34, be_4, be_40, be_50_1, kc_0, rf_0_5, kc_42, rf_42_2, ka_44, List.getD_cons_zero, List.getD_cons_succ, List.set_cons_zero, List.set_cons_succ, List.length_cons, List.length_nil, pk_I, pk_A, pr_A, pi_I, st_s, st_n, if_true, if_false, eq_self, d_if, d_ju, d_re, d_ca, cat0, cat1, cat2, cat3, fr_z, fr_s, cc_I, cc_A, cc_N, Nat.reduceAdd, Nat.reduceLT, Nat.reduceLeDiff, Nat.reduceEqDiff, not_true, not_false_iff, z1_0, z1_1, Bool.and_self, Bool.true_and, Bool.and_true, nI_add, pk_mul, nI_clamp, decide_true, Nat.le_refl, bI_eq, bI_z1, vb_0, vb_1, ek]
    split
    · rename_i hc
      refine go_at (blk := b_KneeStair_rise_22) rfl ?_
      simp (disch := omega) only [b_KneeStair_rise_22, be_6, be_34, be_57_1, kc_0, rf_0_6, rf_0_5, kc_48, List.getD_cons_zero, List.getD_cons_succ, List.set_cons_zero, List.set_cons_succ, List.length_cons, List.length_nil, pk_I, pk_A, pr_A, pi_I, st_s, st_n, if_true, if_false, eq_self, d_if, d_ju, d_re, d_ca, cat0, cat1, cat2, cat3, fr_z, fr_s, cc_I, cc_A, cc_N, Nat.reduceAdd, Nat.reduceLT, Nat.reduceLeDiff, Nat.reduceEqDiff, not_true, not_false_iff, z1_0, z1_1, Bool.and_self, Bool.true_and, Bool.and_true, nI_add, pk_mul, nI_clamp, decide_true, Nat.le_refl, bI_eq, bI_z1, vb_0, vb_1]
      refine k_keep hK hP ?_
      intro v1 c1 p1
      refine go_at (blk := b_KneeStair_rise_33) rfl ?_
      simp (disch := omega) only [b_KneeStair_rise_33, be_6, be_34, be_4, be_1, be_45, be_73, kc_0, rf_0_5, kc_42, rf_42_2, ka_44, List.getD_cons_zero, List.getD_cons_succ, List.set_cons_zero, List.set_cons_succ, List.length_cons, List.length_nil, pk_I, pk_A, pr_A, pi_I, st_s, st_n, if_true, if_false, eq_self, d_if, d_ju, d_re, d_ca, cat0, cat1, cat2, cat3, fr_z, fr_s, cc_I, cc_A, cc_N, Nat.reduceAdd, Nat.reduceLT, Nat.reduceLeDiff, Nat.reduceEqDiff, not_true, not_false_iff, z1_0, z1_1, Bool.and_self, Bool.true_and, Bool.and_true, nI_add, pk_mul, nI_clamp, decide_true, Nat.le_refl, bI_eq, bI_z1, vb_0, vb_1]
      refine q1 (upd f (8 + p) 0) _ ?_ ?_ (RX_kn (x := 0) h8 (by omega) (KI_p hK c1).2.1) (PI_w p1 (fun c _ _ => am_u_ne (by omega)))
      · unfold riO
        rw [e, if_pos (by rw [hb, decide_eq_false hc]; rfl)]
      · intro c d1 d2 d3 d4 d5 d6
        rw [am_u_ne (by omega)]
        exact c1 c (by omega) d6
    · rename_i hc
      refine go_at (blk := b_KneeStair_rise_20) rfl ?_
      simp (disch := omega) only [b_KneeStair_rise_20, be_1, be_73, List.getD_cons_zero, List.getD_cons_succ, List.set_cons_zero, List.set_cons_succ, List.length_cons, List.length_nil, pk_I, pk_A, pr_A, pi_I, st_s, st_n, if_true, if_false, eq_self, d_if, d_ju, d_re, d_ca, cat0, cat1, cat2, cat3, fr_z, fr_s, cc_I, cc_A, cc_N, Nat.reduceAdd, Nat.reduceLT, Nat.reduceLeDiff, Nat.reduceEqDiff, not_true, not_false_iff, z1_0, z1_1, Bool.and_self, Bool.true_and, Bool.and_true, nI_add, pk_mul, nI_clamp, decide_true, Nat.le_refl, bI_eq, bI_z1, vb_0, vb_1]
      have hc := Decidable.not_not.mp hc
      exact q0 (by unfold riO; rw [if_neg (by rw [e, decide_eq_true hc]; simp)])
