/-! laid by wip/whole/gO.py: the reference: a pilgrim's name -/
def ltP (E : ENV) (t l p : Nat) (b : Bool) : Nat × Nat := if b = true then (if l = 0 then (3, eP E t) else (l, p)) else (l, p)
theorem ltP_l {E : ENV} {t l p : Nat} : (lateS E 3 (.inr t, l, p)).2 = ltP E t l p true := by
  unfold lateS ltP
  dsimp only
  rw [if_pos rfl]
  split <;> rfl
set_option maxHeartbeats 2000000 in
theorem r_names {d : Nat} {v : Nat → Nat → Int32} {w : Nat → Nat → Int64} {Q : Option Value → am_H → Prop} {E : ENV} {t1 l p n kx : Nat} {nm : Nat → Nat} (hE : ME E v w) (hG : MG E v (t1 + 1) l p) (ht1 : t1 + 1 ≤ eL E) (hp : l ≠ 0 → p < eP E t1) (h20' : v 388 20 = nI n) (hn : n ≤ 8) (hnm : ∀ i, i < n → w 396 i = lN (nm i) ∧ nm i < 2 ^ 63) (hk1 : eK E t1 = 1) (hQ : ∀ v', G8 v v' → MG E v' (t1 + 1) (ltP E t1 l p (toldB nm n (eM E t1))).1 (ltP E t1 l p (toldB nm n (eM E t1))).2 → am_Go am_X0 (d + 3) k_Model_tellPilgrim 77 ([.ref 388, .int (nI kx), .int (nI t1), .int (nI n)], [], (428, 26053, KD, RF, v', w)) Q) : am_Go am_X0 (d + 3) k_Model_tellPilgrim 34 ([.ref 388, .int (nI kx), .int (nI t1), .int (nI 0)], [], (428, 26053, KD, RF, v, w)) Q := by
  have hw4 : w 394 t1 = lN (eM E t1) := (hE.2 t1 (by omega)).2.2.2 hk1
  have gL := hE.1.1
  refine go_loopA (α := (Nat → Nat → Int32)) (fun i x => ([.ref 388, .int (nI kx), .int (nI t1), .int (nI i)], [], (428, 26053, KD, RF, x, w))) (fun i x => G8 v x ∧ x 388 11 = nI (t1 + 1) ∧ x 388 13 = nI 0 ∧ x 388 15 = nI (ltP E t1 l p (toldB nm i (eM E t1))).1 ∧ (ltP E t1 l p (toldB nm i (eM E t1))).1 ≤ 5 ∧ ((ltP E t1 l p (toldB nm i (eM E t1))).1 ≠ 0 → x 388 16 = nI (ltP E t1 l p (toldB nm i (eM E t1))).2)) (n) ?_ ?_ v ⟨G8_r, hG.1, hG.2.2.1, hG.2.2.2.1, hG.2.2.2.2.1, fun z => (hG.2.2.2.2.2 z).1⟩
  · intro i x hi ⟨x1, x2, x3, x4, x5, x6⟩ ih
    try dsimp only at *
    have hni : ¬ n ≤ i := by omega
    have hEx : ME E x w := ME_8 hE x1
    have h20 : x 388 20 = nI n := by rw [x1.2 20 (by omega) (by omega) (by omega) (by omega) (by omega)]; exact h20'
    obtain ⟨hw6, hlt6⟩ := hnm i hi
    have hle9 : (lN (nm i) = lN (eM E t1)) ↔ nm i = (eM E t1) := pk_lEQ hlt6 ((hE.1.2.2.2.2.1 t1 (by omega)).2.2 hk1)
    by_cases hk : nm i = (eM E t1)
    · have hb1 : toldB nm (i + 1) (eM E t1) = true := by rw [told_s, decide_eq_true hk, Bool.or_true]
      rw [hb1] at ih
      refine go_at (blk := b_Model_tellPilgrim_34) rfl ?_
      simp (disch := omega) only [b_Model_tellPilgrim_34, be_4, be_6, be_33, be_49_3, kc_388, List.getD_cons_zero, List.getD_cons_succ, List.set_cons_zero, List.set_cons_succ, List.length_cons, List.length_nil, pk_I, pk_A, pr_A, pi_I, st_s, st_n, if_true, if_false, eq_self, d_if, d_ju, d_re, d_ca, cat0, cat1, cat2, cat3, fr_z, fr_s, cc_I, cc_A, cc_N, Nat.reduceAdd, Nat.reduceLT, Nat.reduceLeDiff, Nat.reduceEqDiff, not_true, not_false_iff, z1_0, z1_1, Bool.and_self, Bool.true_and, Bool.and_true, nI_add, pk_mul, nI_clamp, decide_true, Nat.le_refl, bI_eq, bI_z1, nI_ltI, nI_leI, am_u_at, am_u_ne, upd_at, upd_ne, pk_L, cc_L, nI_z, z_le, z_lt, h20, x3, hw6, hw4, lg_cmp_eq, hle9, hni, hk]
      refine go_at (blk := b_Model_tellPilgrim_42) rfl ?_
      simp (disch := omega) only [b_Model_tellPilgrim_42, be_6, be_33, be_50_1, kc_388, List.getD_cons_zero, List.getD_cons_succ, List.set_cons_zero, List.set_cons_succ, List.length_cons, List.length_nil, pk_I, pk_A, pr_A, pi_I, st_s, st_n, if_true, if_false, eq_self, d_if, d_ju, d_re, d_ca, cat0, cat1, cat2, cat3, fr_z, fr_s, cc_I, cc_A, cc_N, Nat.reduceAdd, Nat.reduceLT, Nat.reduceLeDiff, Nat.reduceEqDiff, not_true, not_false_iff, z1_0, z1_1, Bool.and_self, Bool.true_and, Bool.and_true, nI_add, pk_mul, nI_clamp, decide_true, Nat.le_refl, bI_eq, bI_z1, nI_ltI, nI_leI, am_u_at, am_u_ne, upd_at, upd_ne, pk_L, cc_L, nI_z, z_le, z_lt, h20, x3, hw6, hw4, lg_cmp_eq, hle9, hni, hk]
      refine go_at (blk := b_Model_tellPilgrim_49) rfl ?_
      simp (disch := omega) only [b_Model_tellPilgrim_49, be_6, be_34, be_4, be_41, be_25, be_50_1, kc_388, rf_388_21, ka_396, rf_388_8, ka_394, List.getD_cons_zero, List.getD_cons_succ, List.set_cons_zero, List.set_cons_succ, List.length_cons, List.length_nil, pk_I, pk_A, pr_A, pi_I, st_s, st_n, if_true, if_false, eq_self, d_if, d_ju, d_re, d_ca, cat0, cat1, cat2, cat3, fr_z, fr_s, cc_I, cc_A, cc_N, Nat.reduceAdd, Nat.reduceLT, Nat.reduceLeDiff, Nat.reduceEqDiff, not_true, not_false_iff, z1_0, z1_1, Bool.and_self, Bool.true_and, Bool.and_true, nI_add, pk_mul, nI_clamp, decide_true, Nat.le_refl, bI_eq, bI_z1, nI_ltI, nI_leI, am_u_at, am_u_ne, upd_at, upd_ne, pk_L, cc_L, nI_z, z_le, z_lt, h20, x3, hw6, hw4, lg_cmp_eq, hle9, hni, hk]
      refine go_at (blk := b_Model_tellPilgrim_65) rfl ?_
      simp (disch := omega) only [b_Model_tellPilgrim_65, be_6, be_1, be_4, be_57_2, kc_388, List.getD_cons_zero, List.getD_cons_succ, List.set_cons_zero, List.set_cons_succ, List.length_cons, List.length_nil, pk_I, pk_A, pr_A, pi_I, st_s, st_n, if_true, if_false, eq_self, d_if, d_ju, d_re, d_ca, cat0, cat1, cat2, cat3, fr_z, fr_s, cc_I, cc_A, cc_N, Nat.reduceAdd, Nat.reduceLT, Nat.reduceLeDiff, Nat.reduceEqDiff, not_true, not_false_iff, z1_0, z1_1, Bool.and_self, Bool.true_and, Bool.and_true, nI_add, pk_mul, nI_clamp, decide_true, Nat.le_refl, bI_eq, bI_z1, nI_ltI, nI_leI, am_u_at, am_u_ne, upd_at, upd_ne, pk_L, cc_L, nI_z, z_le, z_lt, h20, x3, hw6, hw4, lg_cmp_eq, hle9, hni, hk]
      have nx : ∀ y, G8 x y → y 388 11 = nI (t1 + 1) → y 388 13 = nI 0 → y 388 15 = nI (ltP E t1 l p true).1 → (ltP E t1 l p true).1 ≤ 5 → ((ltP E t1 l p true).1 ≠ 0 → y 388 16 = nI (ltP E t1 l p true).2) → am_Go am_X0 (d + 3) k_Model_tellPilgrim 71 ([.ref 388, .int (nI kx), .int (nI t1), .int (nI i)], [], (428, 26053, KD, RF, y, w)) Q := by
        intro y y1 y2 y3 y4 y5 y6
        refine go_at (blk := b_Model_tellPilgrim_71) rfl ?_
        simp (disch := omega) only [b_Model_tellPilgrim_71, be_10, be_51, List.getD_cons_zero, List.getD_cons_succ, List.set_cons_zero, List.set_cons_succ, List.length_cons, List.length_nil, pk_I, pk_A, pr_A, pi_I, st_s, st_n, if_true, if_false, eq_self, d_if, d_ju, d_re, d_ca, cat0, cat1, cat2, cat3, fr_z, fr_s, cc_I, cc_A, cc_N, Nat.reduceAdd, Nat.reduceLT, Nat.reduceLeDiff, Nat.reduceEqDiff, not_true, not_false_iff, z1_0, z1_1, Bool.and_self, Bool.true_and, Bool.and_true, nI_add, pk_mul, nI_clamp, decide_true, Nat.le_refl, bI_eq, bI_z1, nI_ltI, nI_leI, am_u_at, am_u_ne, upd_at, upd_ne, pk_L, cc_L, nI_z, z_le, z_lt]
        exact ih y ⟨G8_t x1 y1, y2, y3, y4, y5, y6⟩
      by_cases hl0 : l = 0
      · have e9 : ltP E t1 l p true = (3, eP E t1) := by unfold ltP; rw [if_pos rfl, if_pos hl0]
        rw [e9] at nx
        cases hb : toldB nm i (eM E t1) with
        | true =>
          rw [hb, e9] at x4 x6
          refine r_wrong2 (j := t1) hEx (by omega) x3 x4 (x6 (by show 3 ≠ 0; omega)) ?_
          exact nx x G8_r x2 x3 x4 (by show 3 ≤ 5; omega) (fun _ => x6 (by show 3 ≠ 0; omega))
        | false =>
          have e8 : ltP E t1 l p false = (l, p) := if_neg (by decide)
          rw [hb, e8] at x4 x6
          refine r_wrong (j := t1) (l := l) (p := p) hEx (by omega) x2 x3 x4 (by omega) (fun z => absurd hl0 z) (by omega) ?_
          intro v2 f2 g2
          rw [if_pos hl0] at g2
          exact nx v2 f2 g2.1 g2.2.1 g2.2.2.1 (by show 3 ≤ 5; omega) (fun _ => g2.2.2.2.2)
      · have e9 : ∀ b, ltP E t1 l p b = (l, p) := by
          intro b
          unfold ltP
          rw [if_neg hl0]
          split <;> rfl
        rw [e9] at nx x4 x5 x6
        refine r_wrong (j := t1) (l := l) (p := p) hEx (by omega) x2 x3 x4 x5 (fun z => ⟨x6 z, hp z⟩) (by omega) ?_
        intro v2 f2 g2
        rw [if_neg hl0] at g2
        exact nx v2 f2 g2.1 g2.2.1 g2.2.2.1 g2.2.2.2.1 (fun _ => g2.2.2.2.2)
    · refine go_at (blk := b_Model_tellPilgrim_34) rfl ?_
      simp (disch := omega) only [b_Model_tellPilgrim_34, be_4, be_6, be_33, be_49_3, kc_388, List.getD_cons_zero, List.getD_cons_succ, List.set_cons_zero, List.set_cons_succ, List.length_cons, List.length_nil, pk_I, pk_A, pr_A, pi_I, st_s, st_n, if_true, if_false, eq_self, d_if, d_ju, d_re, d_ca, cat0, cat1, cat2, cat3, fr_z, fr_s, cc_I, cc_A, cc_N, Nat.reduceAdd, Nat.reduceLT, Nat.reduceLeDiff, Nat.reduceEqDiff, not_true, not_false_iff, z1_0, z1_1, Bool.and_self, Bool.true_and, Bool.and_true, nI_add, pk_mul, nI_clamp, decide_true, Nat.le_refl, bI_eq, bI_z1, nI_ltI, nI_leI, am_u_at, am_u_ne, upd_at, upd_ne, pk_L, cc_L, nI_z, z_le, z_lt, h20, x3, hw6, hw4, lg_cmp_eq, hle9, hni, hk]
      refine go_at (blk := b_Model_tellPilgrim_42) rfl ?_
      simp (disch := omega) only [b_Model_tellPilgrim_42, be_6, be_33, be_50_1, kc_388, List.getD_cons_zero, List.getD_cons_succ, List.set_cons_zero, List.set_cons_succ, List.length_cons, List.length_nil, pk_I, pk_A, pr_A, pi_I, st_s, st_n, if_true, if_false, eq_self, d_if, d_ju, d_re, d_ca, cat0, cat1, cat2, cat3, fr_z, fr_s, cc_I, cc_A, cc_N, Nat.reduceAdd, Nat.reduceLT, Nat.reduceLeDiff, Nat.reduceEqDiff, not_true, not_false_iff, z1_0, z1_1, Bool.and_self, Bool.true_and, Bool.and_true, nI_add, pk_mul, nI_clamp, decide_true, Nat.le_refl, bI_eq, bI_z1, nI_ltI, nI_leI, am_u_at, am_u_ne, upd_at, upd_ne, pk_L, cc_L, nI_z, z_le, z_lt, h20, x3, hw6, hw4, lg_cmp_eq, hle9, hni, hk]
      refine go_at (blk := b_Model_tellPilgrim_49) rfl ?_
      simp (disch := omega) only [b_Model_tellPilgrim_49, be_6, be_34, be_4, be_41, be_25, be_50_1, kc_388, rf_388_21, ka_396, rf_388_8, ka_394, List.getD_cons_zero, List.getD_cons_succ, List.set_cons_zero, List.set_cons_succ, List.length_cons, List.length_nil, pk_I, pk_A, pr_A, pi_I, st_s, st_n, if_true, if_false, eq_self, d_if, d_ju, d_re, d_ca, cat0, cat1, cat2, cat3, fr_z, fr_s, cc_I, cc_A, cc_N, Nat.reduceAdd, Nat.reduceLT, Nat.reduceLeDiff, Nat.reduceEqDiff, not_true, not_false_iff, z1_0, z1_1, Bool.and_self, Bool.true_and, Bool.and_true, nI_add, pk_mul, nI_clamp, decide_true, Nat.le_refl, bI_eq, bI_z1, nI_ltI, nI_leI, am_u_at, am_u_ne, upd_at, upd_ne, pk_L, cc_L, nI_z, z_le, z_lt, h20, x3, hw6, hw4, lg_cmp_eq, hle9, hni, hk]
      refine go_at (blk := b_Model_tellPilgrim_71) rfl ?_
      simp (disch := omega) only [b_Model_tellPilgrim_71, be_10, be_51, List.getD_cons_zero, List.getD_cons_succ, List.set_cons_zero, List.set_cons_succ, List.length_cons, List.length_nil, pk_I, pk_A, pr_A, pi_I, st_s, st_n, if_true, if_false, eq_self, d_if, d_ju, d_re, d_ca, cat0, cat1, cat2, cat3, fr_z, fr_s, cc_I, cc_A, cc_N, Nat.reduceAdd, Nat.reduceLT, Nat.reduceLeDiff, Nat.reduceEqDiff, not_true, not_false_iff, z1_0, z1_1, Bool.and_self, Bool.true_and, Bool.and_true, nI_add, pk_mul, nI_clamp, decide_true, Nat.le_refl, bI_eq, bI_z1, nI_ltI, nI_leI, am_u_at, am_u_ne, upd_at, upd_ne, pk_L, cc_L, nI_z, z_le, z_lt, h20, x3, hw6, hw4, lg_cmp_eq, hle9, hni, hk]
      exact ih x (by rw [show toldB nm (i + 1) (eM E t1) = toldB nm i (eM E t1) by rw [told_s, decide_eq_false hk, Bool.or_false]]; exact ⟨x1, x2, x3, x4, x5, x6⟩)
  · intro x ⟨x1, x2, x3, x4, x5, x6⟩
    try dsimp only at *
    have hEx : ME E x w := ME_8 hE x1
    have h20 : x 388 20 = nI n := by rw [x1.2 20 (by omega) (by omega) (by omega) (by omega) (by omega)]; exact h20'
    refine go_at (blk := b_Model_tellPilgrim_34) rfl ?_
    simp (disch := omega) only [b_Model_tellPilgrim_34, be_4, be_6, be_33, be_49_3, kc_388, List.getD_cons_zero, List.getD_cons_succ, List.set_cons_zero, List.set_cons_succ, List.length_cons, List.length_nil, pk_I, pk_A, pr_A, pi_I, st_s, st_n, if_true, if_false, eq_self, d_if, d_ju, d_re, d_ca, cat0, cat1, cat2, cat3, fr_z, fr_s, cc_I, cc_A, cc_N, Nat.reduceAdd, Nat.reduceLT, Nat.reduceLeDiff, Nat.reduceEqDiff, not_true, not_false_iff, z1_0, z1_1, Bool.and_self, Bool.true_and, Bool.and_true, nI_add, pk_mul, nI_clamp, decide_true, Nat.le_refl, bI_eq, bI_z1, nI_ltI, nI_leI, am_u_at, am_u_ne, upd_at, upd_ne, pk_L, cc_L, nI_z, z_le, z_lt, h20]
    refine hQ x x1 ⟨x2, ht1, x3, x4, x5, fun z => ⟨x6 z, ?_⟩⟩
    have hlt := hE.1.2.2.2.2.2 t1 (t1 + 1) (by omega) ht1
    unfold ltP at z ⊢
    split
    · split
      · exact hlt
      · rename_i h1 h2
        exact Nat.lt_trans (hp h2) hlt
    · rename_i h1
      rw [if_neg h1] at z
      exact Nat.lt_trans (hp z) hlt
