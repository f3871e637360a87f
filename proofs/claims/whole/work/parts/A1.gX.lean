/-! laid by wip/whole/gX.py: the reference: read -/
theorem LWO_Q {v v' : Nat → Nat → Int32} {lv k : Nat} {o : Option LAWD} (hlv : lv < 2) (hk : k < 2) (h : LWO v lv k o) (e : GQ (1 - lv) v v') : LWO v' lv k o := by
  refine ⟨LWX_f h.1 ⟨e _ _ ?_, e _ _ ?_⟩ (fun j j1 j2 => ⟨e _ _ ?_, e _ _ ?_⟩) (fun j j1 j2 => ⟨e _ _ ?_, e _ _ ?_, e _ _ ?_, e _ _ ?_, e _ _ ?_⟩) (Nat.le_refl _) (Nat.le_refl _), h.2⟩ <;> (unfold KPT; omega)
theorem MX_Q {v v' : Nat → Nat → Int32} {T : TXT} {lv : Nat} {o0 o1 : Option LAWD} (hX : MX v T lv) (h0 : LWO v lv 0 o0) (h1 : LWO v lv 1 o1) (e : GQ (1 - lv) v v') : MX v' T lv := by
  obtain ⟨⟨a1, hlv, a3, a4⟩, b1, b2, c1, c2, c3, c4, c5, c6, d1, d2, d3, d4⟩ := hX
  have h0' := LWO_Q hlv (by omega) h0 e
  have h1' := LWO_Q hlv (by omega) h1 e
  refine ⟨⟨?_, hlv, ?_, a4⟩, ?_, ?_, fun p hp => ?_, fun p hp => ?_, fun p hp => ?_, fun p hp => ?_, fun p hp => ?_, fun p hp => ?_, lw_W hlv h0', lw_W hlv h1', fun x => ?_, fun x => ?_⟩
  · rw [e 388 18 (by unfold KPT; omega)]; exact a1
  · rw [e 398 lv (by unfold KPT; omega)]; exact a3
  · rw [e 397 lv (by unfold KPT; omega)]; exact b1
  · rw [e 405 lv (by unfold KPT; omega)]; exact b2
  · rw [e 399 _ (by unfold KPT; omega)]; exact c1 p hp
  · rw [e 400 _ (by unfold KPT; omega)]; exact c2 p hp
  · rw [e 401 _ (by unfold KPT; omega)]; exact c3 p hp
  · rw [e 402 _ (by unfold KPT; omega)]; exact c4 p hp
  · rw [e 403 _ (by unfold KPT; omega)]; exact c5 p hp
  · rw [e 404 _ (by unfold KPT; omega)]; exact c6 p hp
  · rw [← d3 x]
    exact (tl_W (pl := plM) hlv h0' x).trans (tl_W (pl := plM) hlv h0 x).symm
  · rw [← d4 x]
    exact (tl_W (pl := plH) hlv h1' x).trans (tl_W (pl := plH) hlv h1 x).symm
set_option maxHeartbeats 2000000 in
theorem r_readT {d : Nat} {v : Nat → Nat → Int32} {w : Nat → Nat → Int64} {Q : Option Value → am_H → Prop} {g : Nat → Int32} {x1 : Value} (h419 : v 419 = g) (hz : ∀ j, 50 ≤ j → v 418 j = g j) (hQ : ∀ v', (∀ c k, (c ≠ 418 ∧ ¬ (c = 426 ∧ k < 3) ∧ ¬ (c = 388 ∧ (k = 51 ∨ k = 55))) → v' c k = v c k) → v' 418 = g → v' 388 51 = nI 0 → v' 388 55 = nI 0 → (∀ s, s < 3 → v' 426 s = 0) → Q (some (.int (nI 0))) (428, 26053, KD, RF, v', w)) : am_Go am_X0 d k_Model_read 203 ([.ref 388, x1], [], (428, 26053, KD, RF, v, w)) Q := by
  refine go_at (blk := b_Model_read_203) rfl ?_
  simp (disch := omega) only [b_Model_read_203, be_1, be_7, be_0, List.getD_cons_zero, List.getD_cons_succ, List.set_cons_zero, List.set_cons_succ, List.length_cons, List.length_nil, pk_I, pk_A, pr_A, pi_I, st_s, st_n, if_true, if_false, eq_self, d_if, d_ju, d_re, d_ca, cat0, cat1, cat2, cat3, fr_z, fr_s, cc_I, cc_A, cc_N, Nat.reduceAdd, Nat.reduceLT, Nat.reduceLeDiff, Nat.reduceEqDiff, not_true, not_false_iff, z1_0, z1_1, Bool.and_self, Bool.true_and, Bool.and_true, nI_add, pk_mul, nI_clamp, decide_true, Nat.le_refl, bI_eq, bI_z1, nI_ltI, nI_leI, am_u_at, am_u_ne, upd_at, upd_ne]
  refine go_loopA (α := (Nat → Nat → Int32)) (fun i x => ([.ref 388, .int (nI i)], [], (428, 26053, KD, RF, x, w))) (fun i x => (∀ c, c ≠ 418 → x c = v c) ∧ (∀ j, j < i → x 418 j = g j) ∧ ∀ j, 50 ≤ j → x 418 j = v 418 j) (50) ?_ ?_ v ⟨fun _ _ => rfl, fun j hj => absurd hj (Nat.not_lt_zero _), fun _ _ => rfl⟩
  · intro i x hi ⟨y1, y2, y3⟩ ih
    try dsimp only at *
    have hni : ¬ 50 ≤ i := by omega
    have k419 : x 419 = g := by rw [y1 419 (by omega)]; exact h419
    refine go_at (blk := b_Model_read_205) rfl ?_
    simp (disch := omega) only [b_Model_read_205, be_4, be_1, be_49_3, List.getD_cons_zero, List.getD_cons_succ, List.set_cons_zero, List.set_cons_succ, List.length_cons, List.length_nil, pk_I, pk_A, pr_A, pi_I, st_s, st_n, if_true, if_false, eq_self, d_if, d_ju, d_re, d_ca, cat0, cat1, cat2, cat3, fr_z, fr_s, cc_I, cc_A, cc_N, Nat.reduceAdd, Nat.reduceLT, Nat.reduceLeDiff, Nat.reduceEqDiff, not_true, not_false_iff, z1_0, z1_1, Bool.and_self, Bool.true_and, Bool.and_true, nI_add, pk_mul, nI_clamp, decide_true, Nat.le_refl, bI_eq, bI_z1, nI_ltI, nI_leI, am_u_at, am_u_ne, upd_at, upd_ne, hni, k419]
    refine go_at (blk := b_Model_read_211) rfl ?_
    simp (disch := omega) only [b_Model_read_211, be_6, be_34, be_4, be_38, be_43, be_10, be_51, kc_388, rf_388_47, rf_388_48, ka_419, ka_418, List.getD_cons_zero, List.getD_cons_succ, List.set_cons_zero, List.set_cons_succ, List.length_cons, List.length_nil, pk_I, pk_A, pr_A, pi_I, st_s, st_n, if_true, if_false, eq_self, d_if, d_ju, d_re, d_ca, cat0, cat1, cat2, cat3, fr_z, fr_s, cc_I, cc_A, cc_N, Nat.reduceAdd, Nat.reduceLT, Nat.reduceLeDiff, Nat.reduceEqDiff, not_true, not_false_iff, z1_0, z1_1, Bool.and_self, Bool.true_and, Bool.and_true, nI_add, pk_mul, nI_clamp, decide_true, Nat.le_refl, bI_eq, bI_z1, nI_ltI, nI_leI, am_u_at, am_u_ne, upd_at, upd_ne, hni, k419]
    refine ih _ ⟨fun c hc => ?_, fun j hj => ?_, fun j hj => ?_⟩
    · rw [am_u_ne hc]
      exact y1 c hc
    · rw [am_u_at]
      by_cases e : j = i
      · rw [e, upd_at]
      · rw [upd_ne e]
        exact y2 j (by omega)
    · rw [am_u_at, upd_ne (by omega)]
      exact y3 j hj
  · intro x ⟨y1, y2, y3⟩
    try dsimp only at *
    refine go_at (blk := b_Model_read_205) rfl ?_
    simp (disch := omega) only [b_Model_read_205, be_4, be_1, be_49_3, List.getD_cons_zero, List.getD_cons_succ, List.set_cons_zero, List.set_cons_succ, List.length_cons, List.length_nil, pk_I, pk_A, pr_A, pi_I, st_s, st_n, if_true, if_false, eq_self, d_if, d_ju, d_re, d_ca, cat0, cat1, cat2, cat3, fr_z, fr_s, cc_I, cc_A, cc_N, Nat.reduceAdd, Nat.reduceLT, Nat.reduceLeDiff, Nat.reduceEqDiff, not_true, not_false_iff, z1_0, z1_1, Bool.and_self, Bool.true_and, Bool.and_true, nI_add, pk_mul, nI_clamp, decide_true, Nat.le_refl, bI_eq, bI_z1, nI_ltI, nI_leI, am_u_at, am_u_ne, upd_at, upd_ne, vb_0]
    refine go_at (blk := b_Model_read_229) rfl ?_
    simp (disch := omega) only [b_Model_read_229, be_6, be_1, be_35, be_7, be_0, kc_388, List.getD_cons_zero, List.getD_cons_succ, List.set_cons_zero, List.set_cons_succ, List.length_cons, List.length_nil, pk_I, pk_A, pr_A, pi_I, st_s, st_n, if_true, if_false, eq_self, d_if, d_ju, d_re, d_ca, cat0, cat1, cat2, cat3, fr_z, fr_s, cc_I, cc_A, cc_N, Nat.reduceAdd, Nat.reduceLT, Nat.reduceLeDiff, Nat.reduceEqDiff, not_true, not_false_iff, z1_0, z1_1, Bool.and_self, Bool.true_and, Bool.and_true, nI_add, pk_mul, nI_clamp, decide_true, Nat.le_refl, bI_eq, bI_z1, nI_ltI, nI_leI, am_u_at, am_u_ne, upd_at, upd_ne, vb_0]
    refine go_at (blk := b_Model_read_241) rfl ?_
    simp (disch := omega) only [b_Model_read_241, be_4, be_1, be_49_3, List.getD_cons_zero, List.getD_cons_succ, List.set_cons_zero, List.set_cons_succ, List.length_cons, List.length_nil, pk_I, pk_A, pr_A, pi_I, st_s, st_n, if_true, if_false, eq_self, d_if, d_ju, d_re, d_ca, cat0, cat1, cat2, cat3, fr_z, fr_s, cc_I, cc_A, cc_N, Nat.reduceAdd, Nat.reduceLT, Nat.reduceLeDiff, Nat.reduceEqDiff, not_true, not_false_iff, z1_0, z1_1, Bool.and_self, Bool.true_and, Bool.and_true, nI_add, pk_mul, nI_clamp, decide_true, Nat.le_refl, bI_eq, bI_z1, nI_ltI, nI_leI, am_u_at, am_u_ne, upd_at, upd_ne, vb_0]
    refine go_at (blk := b_Model_read_246) rfl ?_
    simp (disch := omega) only [b_Model_read_246, be_6, be_34, be_4, be_1, be_45, be_10, be_51, kc_388, rf_388_59, ka_426, List.getD_cons_zero, List.getD_cons_succ, List.set_cons_zero, List.set_cons_succ, List.length_cons, List.length_nil, pk_I, pk_A, pr_A, pi_I, st_s, st_n, if_true, if_false, eq_self, d_if, d_ju, d_re, d_ca, cat0, cat1, cat2, cat3, fr_z, fr_s, cc_I, cc_A, cc_N, Nat.reduceAdd, Nat.reduceLT, Nat.reduceLeDiff, Nat.reduceEqDiff, not_true, not_false_iff, z1_0, z1_1, Bool.and_self, Bool.true_and, Bool.and_true, nI_add, pk_mul, nI_clamp, decide_true, Nat.le_refl, bI_eq, bI_z1, nI_ltI, nI_leI, am_u_at, am_u_ne, upd_at, upd_ne, vb_0]
    refine go_at (blk := b_Model_read_241) rfl ?_
    simp (disch := omega) only [b_Model_read_241, be_4, be_1, be_49_3, List.getD_cons_zero, List.getD_cons_succ, List.set_cons_zero, List.set_cons_succ, List.length_cons, List.length_nil, pk_I, pk_A, pr_A, pi_I, st_s, st_n, if_true, if_false, eq_self, d_if, d_ju, d_re, d_ca, cat0, cat1, cat2, cat3, fr_z, fr_s, cc_I, cc_A, cc_N, Nat.reduceAdd, Nat.reduceLT, Nat.reduceLeDiff, Nat.reduceEqDiff, not_true, not_false_iff, z1_0, z1_1, Bool.and_self, Bool.true_and, Bool.and_true, nI_add, pk_mul, nI_clamp, decide_true, Nat.le_refl, bI_eq, bI_z1, nI_ltI, nI_leI, am_u_at, am_u_ne, upd_at, upd_ne, vb_0]
    refine go_at (blk := b_Model_read_246) rfl ?_
    simp (disch := omega) only [b_Model_read_246, be_6, be_34, be_4, be_1, be_45, be_10, be_51, kc_388, rf_388_59, ka_426, List.getD_cons_zero, List.getD_cons_succ, List.set_cons_zero, List.set_cons_succ, List.length_cons, List.length_nil, pk_I, pk_A, pr_A, pi_I, st_s, st_n, if_true, if_false, eq_self, d_if, d_ju, d_re, d_ca, cat0, cat1, cat2, cat3, fr_z, fr_s, cc_I, cc_A, cc_N, Nat.reduceAdd, Nat.reduceLT, Nat.reduceLeDiff, Nat.reduceEqDiff, not_true, not_false_iff, z1_0, z1_1, Bool.and_self, Bool.true_and, Bool.and_true, nI_add, pk_mul, nI_clamp, decide_true, Nat.le_refl, bI_eq, bI_z1, nI_ltI, nI_leI, am_u_at, am_u_ne, upd_at, upd_ne, vb_0]
    refine go_at (blk := b_Model_read_241) rfl ?_
    simp (disch := omega) only [b_Model_read_241, be_4, be_1, be_49_3, List.getD_cons_zero, List.getD_cons_succ, List.set_cons_zero, List.set_cons_succ, List.length_cons, List.length_nil, pk_I, pk_A, pr_A, pi_I, st_s, st_n, if_true, if_false, eq_self, d_if, d_ju, d_re, d_ca, cat0, cat1, cat2, cat3, fr_z, fr_s, cc_I, cc_A, cc_N, Nat.reduceAdd, Nat.reduceLT, Nat.reduceLeDiff, Nat.reduceEqDiff, not_true, not_false_iff, z1_0, z1_1, Bool.and_self, Bool.true_and, Bool.and_true, nI_add, pk_mul, nI_clamp, decide_true, Nat.le_refl, bI_eq, bI_z1, nI_ltI, nI_leI, am_u_at, am_u_ne, upd_at, upd_ne, vb_0]
    refine go_at (blk := b_Model_read_246) rfl ?_
    simp (disch := omega) only [b_Model_read_246, be_6, be_34, be_4, be_1, be_45, be_10, be_51, kc_388, rf_388_59, ka_426, List.getD_cons_zero, List.getD_cons_succ, List.set_cons_zero, List.set_cons_succ, List.length_cons, List.length_nil, pk_I, pk_A, pr_A, pi_I, st_s, st_n, if_true, if_false, eq_self, d_if, d_ju, d_re, d_ca, cat0, cat1, cat2, cat3, fr_z, fr_s, cc_I, cc_A, cc_N, Nat.reduceAdd, Nat.reduceLT, Nat.reduceLeDiff, Nat.reduceEqDiff, not_true, not_false_iff, z1_0, z1_1, Bool.and_self, Bool.true_and, Bool.and_true, nI_add, pk_mul, nI_clamp, decide_true, Nat.le_refl, bI_eq, bI_z1, nI_ltI, nI_leI, am_u_at, am_u_ne, upd_at, upd_ne, vb_0]
    refine go_at (blk := b_Model_read_241) rfl ?_
    simp (disch := omega) only [b_Model_read_241, be_4, be_1, be_49_3, List.getD_cons_zero, List.getD_cons_succ, List.set_cons_zero, List.set_cons_succ, List.length_cons, List.length_nil, pk_I, pk_A, pr_A, pi_I, st_s, st_n, if_true, if_false, eq_self, d_if, d_ju, d_re, d_ca, cat0, cat1, cat2, cat3, fr_z, fr_s, cc_I, cc_A, cc_N, Nat.reduceAdd, Nat.reduceLT, Nat.reduceLeDiff, Nat.reduceEqDiff, not_true, not_false_iff, z1_0, z1_1, Bool.and_self, Bool.true_and, Bool.and_true, nI_add, pk_mul, nI_clamp, decide_true, Nat.le_refl, bI_eq, bI_z1, nI_ltI, nI_leI, am_u_at, am_u_ne, upd_at, upd_ne, vb_0]
    refine go_at (blk := b_Model_read_259) rfl ?_
    simp (disch := omega) only [b_Model_read_259, be_1, be_54, List.getD_cons_zero, List.getD_cons_succ, List.set_cons_zero, List.set_cons_succ, List.length_cons, List.length_nil, pk_I, pk_A, pr_A, pi_I, st_s, st_n, if_true, if_false, eq_self, d_if, d_ju, d_re, d_ca, cat0, cat1, cat2, cat3, fr_z, fr_s, cc_I, cc_A, cc_N, Nat.reduceAdd, Nat.reduceLT, Nat.reduceLeDiff, Nat.reduceEqDiff, not_true, not_false_iff, z1_0, z1_1, Bool.and_self, Bool.true_and, Bool.and_true, nI_add, pk_mul, nI_clamp, decide_true, Nat.le_refl, bI_eq, bI_z1, nI_ltI, nI_leI, am_u_at, am_u_ne, upd_at, upd_ne, vb_0]
    exact hQ _ (by
      intro c k hc
      rw [u_ne2 (by omega), u_ne2 (by omega), u_ne2 (by omega), u_ne2 (by omega), u_ne2 (by omega), y1 c (by omega)]) (by
      funext k
      rw [u_ne2 (by omega), u_ne2 (by omega), u_ne2 (by omega), u_ne2 (by omega), u_ne2 (by omega)]
      by_cases h50 : k < 50
      · exact y2 k h50
      · rw [y3 k (by omega)]
        exact hz k (by omega)) (by
      rw [u_ne2 (by omega), u_ne2 (by omega), u_ne2 (by omega), u_ne2 (by omega), am_u_at, upd_at]) (by
      rw [u_ne2 (by omega), u_ne2 (by omega), u_ne2 (by omega), am_u_at, upd_at]) (by
      intro s hs
      rcases (show s = 0 ∨ s = 1 ∨ s = 2 by omega) with rfl | rfl | rfl
      · rw [u_ne2 (by omega), u_ne2 (by omega), am_u_at, upd_at]; rfl
      · rw [u_ne2 (by omega), am_u_at, upd_at]; rfl
      · rw [am_u_at, upd_at]; rfl)
set_option maxHeartbeats 4000000 in
theorem r_read {d : Nat} {v : Nat → Nat → Int32} {w : Nat → Nat → Int64} {Q : Option Value → am_H → Prop} {b : Nat → Int32} {len lv sd L : Nat} {R : RZ} (h2 : v 388 2 = nI len) (hl : len ≤ 2000) (hb : v 389 = b) (hy : BY b len) (h18 : v 388 18 = nI lv) (hs1 : nI 1 - nI lv = nI sd) (hsd : sd < 2) (hkey : ∀ k, k < 17 → w 395 k = lN (keyN k)) (hz9 : ∀ j, 50 ≤ j → v 419 j = 0) (hz8 : ∀ j, 50 ≤ j → v 418 j = 0) (hLX : LX b len L) (hF : FIN (mkE b len L) 0 0 0 D0 R) (q1 : ∀ v' w' f, R = .inl f → GQ sd v v' → (∀ c, c ≠ 394 → c ≠ 396 → w' c = w c) → v' 388 17 = nI f.2 → v' 388 2 = nI 0 → Q (some (.int (nI f.1))) (428, 26053, KD, RF, v', w')) (q2 : ∀ v' w' l p D, R = .inr (l, p, D) → l ≠ 0 → GQ sd v v' → (∀ c, c ≠ 394 → c ≠ 396 → w' c = w c) → v' 388 17 = nI p → v' 388 2 = nI 0 → Q (some (.int (nI l))) (428, 26053, KD, RF, v', w')) (q3 : ∀ v' w' p D T, R = .inr (0, p, D) → (∀ c, c < 388 → v' c = v c) → (∀ c, c ≠ 394 → c ≠ 396 → w' c = w c) → v' 389 = v 389 → v' 388 17 = -1 → v' 388 2 = nI 0 → v' 388 51 = nI 0 → v' 388 55 = nI 0 → (∀ s, s < 3 → v' 426 s = 0) → MX v' T sd → TD T D → GT T → v' 418 = bgT T → v' 419 = bgT T → LWO v' sd 0 D.2.2.2.2.1 → LWO v' sd 1 D.2.2.2.2.2 → Q (some (.int (nI 0))) (428, 26053, KD, RF, v', w')) : am_Ca (d + 10) M_Model_read [.ref 388] (428, 26053, KD, RF, v, w) Q := by
  refine ca_in (k := k_Model_read) (nL := 2) rfl (Nat.le_of_ble_eq_true rfl) ?_
  show am_Go am_X0 _ k_Model_read 0 ([.ref 388, .null], [], _) _
  refine go_at (blk := b_Model_read_0) rfl ?_
  simp (disch := omega) only [b_Model_read_0, be_6, be_33, be_35, be_1, be_7, be_0, kc_388, List.getD_cons_zero, List.getD_cons_succ, List.set_cons_zero, List.set_cons_succ, List.length_cons, List.length_nil, pk_I, pk_A, pr_A, pi_I, st_s, st_n, if_true, if_false, eq_self, d_if, d_ju, d_re, d_ca, cat0, cat1, cat2, cat3, fr_z, fr_s, cc_I, cc_A, cc_N, Nat.reduceAdd, Nat.reduceLT, Nat.reduceLeDiff, Nat.reduceEqDiff, not_true, not_false_iff, z1_0, z1_1, Bool.and_self, Bool.true_and, Bool.and_true, nI_add, pk_mul, nI_clamp, decide_true, Nat.le_refl, bI_eq, bI_z1, nI_ltI, nI_leI, am_u_at, am_u_ne, upd_at, upd_ne, h2]
  refine r_textL (b := b) (len := len) (by rw [am_u_at, upd_at]) (by rw [am_u_ne (by omega)]; exact hb) hy hl ?_
  intro v2 a2 b2
  have g2 : GQ sd v v2 := GQ_t (GQ_u (by unfold KPT; omega)) (GQ_a a2)
  have k4 : v2 388 4 = nI len := by rw [a2 388 (by omega), am_u_at, upd_at]
  refine go_at (blk := b_Model_read_36) rfl ?_
  simp (disch := omega) only [b_Model_read_36, be_6, be_1, be_35, be_57_0, kc_388, List.getD_cons_zero, List.getD_cons_succ, List.set_cons_zero, List.set_cons_succ, List.length_cons, List.length_nil, pk_I, pk_A, pr_A, pi_I, st_s, st_n, if_true, if_false, eq_self, d_if, d_ju, d_re, d_ca, cat0, cat1, cat2, cat3, fr_z, fr_s, cc_I, cc_A, cc_N, Nat.reduceAdd, Nat.reduceLT, Nat.reduceLeDiff, Nat.reduceEqDiff, not_true, not_false_iff, z1_0, z1_1, Bool.and_self, Bool.true_and, Bool.and_true, nI_add, pk_mul, nI_clamp, decide_true, Nat.le_refl, bI_eq, bI_z1, nI_ltI, nI_leI, am_u_at, am_u_ne, upd_at, upd_ne]
  refine m_cut (b := b) (len := len) hy hl ⟨by rw [am_u_at, upd_ne (by omega)]; exact k4, fun j hj => by rw [am_u_ne (by omega)]; exact b2 j hj⟩ hkey ?_
  intro v3 w3 c3 e3 M3
  have g3 : GQ sd v v3 := GQ_t g2 (GQ_t (GQ_u (by unfold KPT; omega)) (GQ_C c3))
  have k18 : v3 388 18 = nI lv := by rw [g3 388 18 (by unfold KPT; omega)]; exact h18
  have k2 : v3 388 2 = nI 0 := by rw [c3.2 2 (by omega), am_u_at, upd_at]
  refine go_at (blk := b_Model_read_45) rfl ?_
  simp (disch := omega) only [b_Model_read_45, be_6, be_1, be_35, be_33, be_13, be_57_1, kc_388, List.getD_cons_zero, List.getD_cons_succ, List.set_cons_zero, List.set_cons_succ, List.length_cons, List.length_nil, pk_I, pk_A, pr_A, pi_I, st_s, st_n, if_true, if_false, eq_self, d_if, d_ju, d_re, d_ca, cat0, cat1, cat2, cat3, fr_z, fr_s, cc_I, cc_A, cc_N, Nat.reduceAdd, Nat.reduceLT, Nat.reduceLeDiff, Nat.reduceEqDiff, not_true, not_false_iff, z1_0, z1_1, Bool.and_self, Bool.true_and, Bool.and_true, nI_add, pk_mul, nI_clamp, decide_true, Nat.le_refl, bI_eq, bI_z1, nI_ltI, nI_leI, am_u_at, am_u_ne, upd_at, upd_ne, k18, hs1]
  refine r_plain hsd ?_
  intro v5 p0 p1 p2 p3 p4 p5
  have g5 : GQ sd v v5 := by
    intro c k z
    rw [p0 c k (by unfold KPT at z; omega)]
    unfold KPT at z
    rw [u_ne2 (by omega), u_ne2 (by omega), u_ne2 (by omega), u_ne2 (by omega), u_ne2 (by omega), u_ne2 (by omega)]
    exact g3 c k (by unfold KPT; exact z)
  have s11 : v5 388 11 = nI 0 := by rw [p0 388 11 (by omega)]; simp (disch := omega) only [am_u_at, upd_at, upd_ne]
  have s12 : v5 388 12 = nI 0 := by rw [p0 388 12 (by omega)]; simp (disch := omega) only [am_u_at, upd_at, upd_ne]
  have s13 : v5 388 13 = nI 0 := by rw [p0 388 13 (by omega)]; simp (disch := omega) only [am_u_at, upd_at, upd_ne]
  have s15 : v5 388 15 = nI 0 := by rw [p0 388 15 (by omega)]; simp (disch := omega) only [am_u_at, upd_at, upd_ne]
  have s19 : v5 388 19 = nI sd := by rw [p0 388 19 (by omega)]; simp (disch := omega) only [am_u_at, upd_at, upd_ne]
  have s20 : v5 388 20 = nI 0 := by rw [p0 388 20 (by omega)]; simp (disch := omega) only [am_u_at, upd_at, upd_ne]
  have s2 : v5 388 2 = nI 0 := by rw [p0 388 2 (by omega)]; simp (disch := omega) only [am_u_at, upd_at, upd_ne]; exact k2
  have s391 : ∀ c, (c = 391 ∨ c = 392 ∨ c = 393) → v5 c = v3 c := by
    intro c hc
    funext k
    rw [p0 c k (by omega), u_ne2 (by omega), u_ne2 (by omega), u_ne2 (by omega), u_ne2 (by omega), u_ne2 (by omega), u_ne2 (by omega)]
  refine go_at (blk := b_Model_read_88) rfl ?_
  simp (disch := omega) only [b_Model_read_88, be_6, be_1, be_33, be_14, be_35, be_0, kc_388, List.getD_cons_zero, List.getD_cons_succ, List.set_cons_zero, List.set_cons_succ, List.length_cons, List.length_nil, pk_I, pk_A, pr_A, pi_I, st_s, st_n, if_true, if_false, eq_self, d_if, d_ju, d_re, d_ca, cat0, cat1, cat2, cat3, fr_z, fr_s, cc_I, cc_A, cc_N, Nat.reduceAdd, Nat.reduceLT, Nat.reduceLeDiff, Nat.reduceEqDiff, not_true, not_false_iff, z1_0, z1_1, Bool.and_self, Bool.true_and, Bool.and_true, nI_add, pk_mul, nI_clamp, decide_true, Nat.le_refl, bI_eq, bI_z1, nI_ltI, nI_leI, am_u_at, am_u_ne, upd_at, upd_ne, k18, hs1, s19]
  obtain ⟨n, hn⟩ := hF
  have hEV := mkE_ok hl hLX
  have g6 : GQ sd v (am_u (am_u v5 388 33 (nI (130 * sd))) 388 39 (nI (420 * sd))) := GQ_t g5 (GQ_t (GQ_u (by unfold KPT; omega)) (GQ_u (by unfold KPT; omega)))
  have z2 : (am_u (am_u v5 388 33 (nI (130 * sd))) 388 39 (nI (420 * sd))) 388 2 = nI 0 := by rw [u_ne2 (by omega), u_ne2 (by omega)]; exact s2
  refine r_readL (E := mkE b len L) hsd n 0 0 0 D0 (am_u (am_u v5 388 33 (nI (130 * sd))) 388 39 (nI (420 * sd))) w3 hn ⟨hEV, fun j hj => ?_⟩ ⟨?_, Nat.zero_le _, ?_, ?_, Nat.zero_le _, fun z => absurd rfl z⟩ ?_ ?_ ?_
  · rw [am_u_ne (by omega), am_u_ne (by omega), am_u_ne (by omega), am_u_ne (by omega), am_u_ne (by omega), am_u_ne (by omega), s391 391 (by omega), s391 392 (by omega), s391 393 (by omega)]
    exact M3 L hLX j hj
  · rw [u_ne2 (by omega), u_ne2 (by omega)]; exact s11
  · rw [u_ne2 (by omega), u_ne2 (by omega)]; exact s13
  · rw [u_ne2 (by omega), u_ne2 (by omega)]; exact s15
  · refine ⟨⟨?_, ?_, ?_, by show 0 ≤ 8; omega, fun k _ _ p hp => absurd hp (Nat.not_lt_zero _)⟩, ?_, ?_, ?_, fun i hi => absurd hi (Nat.not_lt_zero _), 420 * sd, 130 * sd, ?_, ?_, Nat.le_refl _, Nat.le_refl _, Nat.le_refl _, Nat.le_refl _, ⟨?_, ?_⟩, ⟨?_, ?_⟩⟩
    · rw [u_ne2 (by omega), u_ne2 (by omega)]; exact p1
    · rw [u_ne2 (by omega), u_ne2 (by omega)]; exact p3
    · rw [u_ne2 (by omega), u_ne2 (by omega)]; exact p2
    · rw [u_ne2 (by omega), u_ne2 (by omega)]; exact s12
    · rw [u_ne2 (by omega), u_ne2 (by omega)]; exact s19
    · rw [u_ne2 (by omega), u_ne2 (by omega)]; exact s20
    · rw [am_u_at, upd_at]
    · rw [u_ne2 (by omega), am_u_at, upd_at]
    · rw [u_ne2 (by omega), u_ne2 (by omega)]; exact p4.1
    · rw [u_ne2 (by omega), u_ne2 (by omega)]; exact p4.2
    · rw [u_ne2 (by omega), u_ne2 (by omega)]; exact p5.1
    · rw [u_ne2 (by omega), u_ne2 (by omega)]; exact p5.2
  · intro v7 w7 f hR g7 e7 b7
    have b13 : v7 388 13 = nI f.1 := b7.1
    have b14 : v7 388 14 = nI f.2 := b7.2.2.2.1
    have hk1 : ¬ nI f.1 ≤ 0 := nI_nle b7.2.1 (by have := b7.2.2.1; omega)
    refine go_at (blk := b_Model_read_134) rfl ?_
    simp (disch := omega) only [b_Model_read_134, be_6, be_33, be_50_5, kc_388, List.getD_cons_zero, List.getD_cons_succ, List.set_cons_zero, List.set_cons_succ, List.length_cons, List.length_nil, pk_I, pk_A, pr_A, pi_I, st_s, st_n, if_true, if_false, eq_self, d_if, d_ju, d_re, d_ca, cat0, cat1, cat2, cat3, fr_z, fr_s, cc_I, cc_A, cc_N, Nat.reduceAdd, Nat.reduceLT, Nat.reduceLeDiff, Nat.reduceEqDiff, not_true, not_false_iff, z1_0, z1_1, Bool.and_self, Bool.true_and, Bool.and_true, nI_add, pk_mul, nI_clamp, decide_true, Nat.le_refl, bI_eq, bI_z1, nI_ltI, nI_leI, am_u_at, am_u_ne, upd_at, upd_ne, nI_z, z_le, z_lt, b13, b14, hk1]
    refine go_at (blk := b_Model_read_142) rfl ?_
    simp (disch := omega) only [b_Model_read_142, be_6, be_33, be_51, kc_388, List.getD_cons_zero, List.getD_cons_succ, List.set_cons_zero, List.set_cons_succ, List.length_cons, List.length_nil, pk_I, pk_A, pr_A, pi_I, st_s, st_n, if_true, if_false, eq_self, d_if, d_ju, d_re, d_ca, cat0, cat1, cat2, cat3, fr_z, fr_s, cc_I, cc_A, cc_N, Nat.reduceAdd, Nat.reduceLT, Nat.reduceLeDiff, Nat.reduceEqDiff, not_true, not_false_iff, z1_0, z1_1, Bool.and_self, Bool.true_and, Bool.and_true, nI_add, pk_mul, nI_clamp, decide_true, Nat.le_refl, bI_eq, bI_z1, nI_ltI, nI_leI, am_u_at, am_u_ne, upd_at, upd_ne, nI_z, z_le, z_lt, b13, b14, hk1]
    refine go_at (blk := b_Model_read_164) rfl ?_
    simp (disch := omega) only [b_Model_read_164, be_35, be_6, be_33, be_50_5, kc_388, List.getD_cons_zero, List.getD_cons_succ, List.set_cons_zero, List.set_cons_succ, List.length_cons, List.length_nil, pk_I, pk_A, pr_A, pi_I, st_s, st_n, if_true, if_false, eq_self, d_if, d_ju, d_re, d_ca, cat0, cat1, cat2, cat3, fr_z, fr_s, cc_I, cc_A, cc_N, Nat.reduceAdd, Nat.reduceLT, Nat.reduceLeDiff, Nat.reduceEqDiff, not_true, not_false_iff, z1_0, z1_1, Bool.and_self, Bool.true_and, Bool.and_true, nI_add, pk_mul, nI_clamp, decide_true, Nat.le_refl, bI_eq, bI_z1, nI_ltI, nI_leI, am_u_at, am_u_ne, upd_at, upd_ne, nI_z, z_le, z_lt, b13, b14, hk1]
    refine go_at (blk := b_Model_read_174) rfl ?_
    simp (disch := omega) only [b_Model_read_174, be_6, be_33, be_54, kc_388, List.getD_cons_zero, List.getD_cons_succ, List.set_cons_zero, List.set_cons_succ, List.length_cons, List.length_nil, pk_I, pk_A, pr_A, pi_I, st_s, st_n, if_true, if_false, eq_self, d_if, d_ju, d_re, d_ca, cat0, cat1, cat2, cat3, fr_z, fr_s, cc_I, cc_A, cc_N, Nat.reduceAdd, Nat.reduceLT, Nat.reduceLeDiff, Nat.reduceEqDiff, not_true, not_false_iff, z1_0, z1_1, Bool.and_self, Bool.true_and, Bool.and_true, nI_add, pk_mul, nI_clamp, decide_true, Nat.le_refl, bI_eq, bI_z1, nI_ltI, nI_leI, am_u_at, am_u_ne, upd_at, upd_ne, nI_z, z_le, z_lt, b13, b14, hk1]
    exact q1 _ w7 f hR (GQ_t g6 (GQ_t (GQ_S g7) (GQ_u (by unfold KPT; omega)))) (fun c c1 c2 => (e7 c c2).trans (e3 c c1)) (by rw [am_u_at, upd_at]) (by rw [am_u_at, upd_ne (by omega), g7.2.1 2 (by omega) (by omega) (by omega) (by omega) (by omega) (by omega) (by omega) (by omega) (by omega) (by omega)]; exact z2)
  · intro v7 w7 l p D t hR g7 e7 m7 d7
    have b13 : v7 388 13 = nI 0 := m7.2.2.1
    have b15 : v7 388 15 = nI l := m7.2.2.2.1
    have hl5 : l ≤ 5 := m7.2.2.2.2.1
    have y2 : v7 388 2 = nI 0 := by rw [g7.2.1 2 (by omega) (by omega) (by omega) (by omega) (by omega) (by omega) (by omega) (by omega) (by omega) (by omega)]; exact z2
    by_cases hl0 : l = 0
    · subst hl0
      have k19 : v7 388 19 = nI sd := d7.2.2.1
      refine go_at (blk := b_Model_read_134) rfl ?_
      simp (disch := omega) only [b_Model_read_134, be_6, be_33, be_50_5, kc_388, List.getD_cons_zero, List.getD_cons_succ, List.set_cons_zero, List.set_cons_succ, List.length_cons, List.length_nil, pk_I, pk_A, pr_A, pi_I, st_s, st_n, if_true, if_false, eq_self, d_if, d_ju, d_re, d_ca, cat0, cat1, cat2, cat3, fr_z, fr_s, cc_I, cc_A, cc_N, Nat.reduceAdd, Nat.reduceLT, Nat.reduceLeDiff, Nat.reduceEqDiff, not_true, not_false_iff, z1_0, z1_1, Bool.and_self, Bool.true_and, Bool.and_true, nI_add, pk_mul, nI_clamp, decide_true, Nat.le_refl, bI_eq, bI_z1, nI_ltI, nI_leI, am_u_at, am_u_ne, upd_at, upd_ne, nI_z, z_le, z_lt, b13, b15, k19]
      refine go_at (blk := b_Model_read_149) rfl ?_
      simp (disch := omega) only [b_Model_read_149, be_6, be_33, be_50_5, kc_388, List.getD_cons_zero, List.getD_cons_succ, List.set_cons_zero, List.set_cons_succ, List.length_cons, List.length_nil, pk_I, pk_A, pr_A, pi_I, st_s, st_n, if_true, if_false, eq_self, d_if, d_ju, d_re, d_ca, cat0, cat1, cat2, cat3, fr_z, fr_s, cc_I, cc_A, cc_N, Nat.reduceAdd, Nat.reduceLT, Nat.reduceLeDiff, Nat.reduceEqDiff, not_true, not_false_iff, z1_0, z1_1, Bool.and_self, Bool.true_and, Bool.and_true, nI_add, pk_mul, nI_clamp, decide_true, Nat.le_refl, bI_eq, bI_z1, nI_ltI, nI_leI, am_u_at, am_u_ne, upd_at, upd_ne, nI_z, z_le, z_lt, b13, b15, k19]
      refine go_at (blk := b_Model_read_163) rfl ?_
      simp (disch := omega) only [b_Model_read_163, be_2, be_0, List.getD_cons_zero, List.getD_cons_succ, List.set_cons_zero, List.set_cons_succ, List.length_cons, List.length_nil, pk_I, pk_A, pr_A, pi_I, st_s, st_n, if_true, if_false, eq_self, d_if, d_ju, d_re, d_ca, cat0, cat1, cat2, cat3, fr_z, fr_s, cc_I, cc_A, cc_N, Nat.reduceAdd, Nat.reduceLT, Nat.reduceLeDiff, Nat.reduceEqDiff, not_true, not_false_iff, z1_0, z1_1, Bool.and_self, Bool.true_and, Bool.and_true, nI_add, pk_mul, nI_clamp, decide_true, Nat.le_refl, bI_eq, bI_z1, nI_ltI, nI_leI, am_u_at, am_u_ne, upd_at, upd_ne, nI_z, z_le, z_lt, b13, b15, k19]
      refine go_at (blk := b_Model_read_164) rfl ?_
      simp (disch := omega) only [b_Model_read_164, be_35, be_6, be_33, be_50_5, kc_388, List.getD_cons_zero, List.getD_cons_succ, List.set_cons_zero, List.set_cons_succ, List.length_cons, List.length_nil, pk_I, pk_A, pr_A, pi_I, st_s, st_n, if_true, if_false, eq_self, d_if, d_ju, d_re, d_ca, cat0, cat1, cat2, cat3, fr_z, fr_s, cc_I, cc_A, cc_N, Nat.reduceAdd, Nat.reduceLT, Nat.reduceLeDiff, Nat.reduceEqDiff, not_true, not_false_iff, z1_0, z1_1, Bool.and_self, Bool.true_and, Bool.and_true, nI_add, pk_mul, nI_clamp, decide_true, Nat.le_refl, bI_eq, bI_z1, nI_ltI, nI_leI, am_u_at, am_u_ne, upd_at, upd_ne, nI_z, z_le, z_lt, b13, b15, k19]
      refine go_at (blk := b_Model_read_179) rfl ?_
      simp (disch := omega) only [b_Model_read_179, be_6, be_33, be_50_5, kc_388, List.getD_cons_zero, List.getD_cons_succ, List.set_cons_zero, List.set_cons_succ, List.length_cons, List.length_nil, pk_I, pk_A, pr_A, pi_I, st_s, st_n, if_true, if_false, eq_self, d_if, d_ju, d_re, d_ca, cat0, cat1, cat2, cat3, fr_z, fr_s, cc_I, cc_A, cc_N, Nat.reduceAdd, Nat.reduceLT, Nat.reduceLeDiff, Nat.reduceEqDiff, not_true, not_false_iff, z1_0, z1_1, Bool.and_self, Bool.true_and, Bool.and_true, nI_add, pk_mul, nI_clamp, decide_true, Nat.le_refl, bI_eq, bI_z1, nI_ltI, nI_leI, am_u_at, am_u_ne, upd_at, upd_ne, nI_z, z_le, z_lt, b13, b15, k19]
      refine go_at (blk := b_Model_read_191) rfl ?_
      simp (disch := omega) only [b_Model_read_191, be_6, be_33, be_35, be_57_0, kc_388, List.getD_cons_zero, List.getD_cons_succ, List.set_cons_zero, List.set_cons_succ, List.length_cons, List.length_nil, pk_I, pk_A, pr_A, pi_I, st_s, st_n, if_true, if_false, eq_self, d_if, d_ju, d_re, d_ca, cat0, cat1, cat2, cat3, fr_z, fr_s, cc_I, cc_A, cc_N, Nat.reduceAdd, Nat.reduceLT, Nat.reduceLeDiff, Nat.reduceEqDiff, not_true, not_false_iff, z1_0, z1_1, Bool.and_self, Bool.true_and, Bool.and_true, nI_add, pk_mul, nI_clamp, decide_true, Nat.le_refl, bI_eq, bI_z1, nI_ltI, nI_leI, am_u_at, am_u_ne, upd_at, upd_ne, nI_z, z_le, z_lt, b13, b15, k19]
      have g8 : GQ sd v v7 := GQ_t g6 (GQ_S g7)
      obtain ⟨o0, o1, r0⟩ := fin_0 hEV (l' := 0) (p' := p) (D' := D) (by rw [← hR]; exact ⟨n, hn⟩)
      obtain ⟨dP, d12, d19, d20, dn, a, br, d39, d33, dk, da, dj, db, dl0, dl1⟩ := d7
      have ht4 : t ≤ 400 := Nat.le_trans m7.2.1 hEV.1
      have hPw : PDX (am_u (am_u v7 388 17 (-1)) 388 18 (nI sd)) sd D := PDX_w dP (fun c c1 c2 => by rw [am_u_ne (by omega), am_u_ne (by omega)])
      have hL0 : LWO (am_u (am_u v7 388 17 (-1)) 388 18 (nI sd)) sd 0 D.2.2.2.2.1 := ⟨LWX_f dl0 ⟨by rw [am_u_ne (by omega), am_u_ne (by omega)], by rw [am_u_ne (by omega), am_u_ne (by omega)]⟩ (fun k _ _ => ⟨by rw [am_u_ne (by omega), am_u_ne (by omega)], by rw [am_u_ne (by omega), am_u_ne (by omega)]⟩) (fun k _ _ => ⟨by rw [am_u_ne (by omega), am_u_ne (by omega)], by rw [am_u_ne (by omega), am_u_ne (by omega)], by rw [am_u_ne (by omega), am_u_ne (by omega)], by rw [am_u_ne (by omega), am_u_ne (by omega)], by rw [am_u_ne (by omega), am_u_ne (by omega)]⟩) (by omega) (by omega), o0⟩
      have hL1 : LWO (am_u (am_u v7 388 17 (-1)) 388 18 (nI sd)) sd 1 D.2.2.2.2.2 := ⟨LWX_f dl1 ⟨by rw [am_u_ne (by omega), am_u_ne (by omega)], by rw [am_u_ne (by omega), am_u_ne (by omega)]⟩ (fun k _ _ => ⟨by rw [am_u_ne (by omega), am_u_ne (by omega)], by rw [am_u_ne (by omega), am_u_ne (by omega)]⟩) (fun k _ _ => ⟨by rw [am_u_ne (by omega), am_u_ne (by omega)], by rw [am_u_ne (by omega), am_u_ne (by omega)], by rw [am_u_ne (by omega), am_u_ne (by omega)], by rw [am_u_ne (by omega), am_u_ne (by omega)], by rw [am_u_ne (by omega), am_u_ne (by omega)]⟩) (by omega) (by omega), o1⟩
      have hTD : TD (mkT (am_u (am_u v7 388 17 (-1)) 388 18 (nI sd)) sd D) D := mkT_TD hPw
      have hGT : GT (mkT (am_u (am_u v7 388 17 (-1)) 388 18 (nI sd)) sd D) := mk_GT hTD (r0 rfl)
      have hMX : MX (am_u (am_u v7 388 17 (-1)) 388 18 (nI sd)) (mkT (am_u (am_u v7 388 17 (-1)) 388 18 (nI sd)) sd D) sd := mk_MX (by rw [am_u_at, upd_at]) hsd hPw hL0 hL1 hTD (fun p _ => ⟨rfl, rfl, rfl, rfl, rfl, rfl⟩)
      refine r_begins hMX hGT (fun j hj => ?_) ?_
      · rw [u_ne2 (by omega), u_ne2 (by omega), g8 419 j (by unfold KPT; omega), hz9 j hj]
        rfl
      intro v9 f9 r9
      have hz8' : ∀ j, 50 ≤ j → v9 418 j = bgT (mkT (am_u (am_u v7 388 17 (-1)) 388 18 (nI sd)) sd D) j := by
        intro j hj
        rw [f9.1 418 (by omega) (by omega) (by omega) (by omega), u_ne2 (by omega), u_ne2 (by omega), g8 418 j (by unfold KPT; omega), hz8 j hj]
        unfold bgT
        rw [if_neg (by omega), if_neg (by omega), if_neg (by omega), if_neg (by omega), if_neg (by omega)]
      refine r_readT r9.1 hz8' ?_
      intro v10 h10 i418 i51 i55 i426
      have fr : ∀ c k, (c ≠ 416 ∧ c ≠ 417 ∧ c ≠ 418 ∧ c ≠ 419 ∧ c ≠ 426 ∧ ¬ (c = 388 ∧ (k = 46 ∨ k = 49 ∨ k = 50 ∨ k = 51 ∨ k = 55))) → v10 c k = (am_u (am_u v7 388 17 (-1)) 388 18 (nI sd)) c k := by
        intro c k hc
        rw [h10 c k (by omega)]
        by_cases e : c = 388
        · subst e
          exact f9.2.1 k (by omega) (by omega) (by omega)
        · rw [f9.1 c (by omega) (by omega) (by omega) e]
      have frc : ∀ c, 397 ≤ c → c ≤ 414 → v10 c = (am_u (am_u v7 388 17 (-1)) 388 18 (nI sd)) c := fun c c1 c2 => funext (fun k => fr c k (by omega))
      refine q3 v10 w7 p D _ hR ?_ (fun c c1 c2 => (e7 c c2).trans (e3 c c1)) ?_ ?_ ?_ i51 i55 i426 (MX_w hMX frc (fr 388 18 (by omega))) hTD hGT i418 ?_ ?_ ?_
      · intro c hc
        funext k
        rw [fr c k (by omega), u_ne2 (by omega), u_ne2 (by omega)]
        exact g8 c k (by unfold KPT; omega)
      · funext k
        rw [fr 389 k (by omega), u_ne2 (by omega), u_ne2 (by omega)]
        exact g8 389 k (by unfold KPT; omega)
      · rw [fr 388 17 (by omega), u_ne2 (by omega), am_u_at, upd_at]
      · rw [fr 388 2 (by omega), u_ne2 (by omega), u_ne2 (by omega)]
        exact y2
      · rw [← r9.1]
        funext k
        exact h10 419 k (by omega)
      · exact ⟨LWX_f hL0.1 ⟨by rw [frc 406 (by omega) (by omega)], by rw [frc 407 (by omega) (by omega)]⟩ (fun k _ _ => ⟨by rw [frc 413 (by omega) (by omega)], by rw [frc 414 (by omega) (by omega)]⟩) (fun k _ _ => ⟨by rw [frc 408 (by omega) (by omega)], by rw [frc 409 (by omega) (by omega)], by rw [frc 410 (by omega) (by omega)], by rw [frc 411 (by omega) (by omega)], by rw [frc 412 (by omega) (by omega)]⟩) (Nat.le_refl _) (Nat.le_refl _), hL0.2⟩
      · exact ⟨LWX_f hL1.1 ⟨by rw [frc 406 (by omega) (by omega)], by rw [frc 407 (by omega) (by omega)]⟩ (fun k _ _ => ⟨by rw [frc 413 (by omega) (by omega)], by rw [frc 414 (by omega) (by omega)]⟩) (fun k _ _ => ⟨by rw [frc 408 (by omega) (by omega)], by rw [frc 409 (by omega) (by omega)], by rw [frc 410 (by omega) (by omega)], by rw [frc 411 (by omega) (by omega)], by rw [frc 412 (by omega) (by omega)]⟩) (Nat.le_refl _) (Nat.le_refl _), hL1.2⟩
    · have b16 : v7 388 16 = nI p := (m7.2.2.2.2.2 hl0).1
      have hk1 : ¬ nI l ≤ 0 := nI_nle (by omega) (by omega)
      refine go_at (blk := b_Model_read_134) rfl ?_
      simp (disch := omega) only [b_Model_read_134, be_6, be_33, be_50_5, kc_388, List.getD_cons_zero, List.getD_cons_succ, List.set_cons_zero, List.set_cons_succ, List.length_cons, List.length_nil, pk_I, pk_A, pr_A, pi_I, st_s, st_n, if_true, if_false, eq_self, d_if, d_ju, d_re, d_ca, cat0, cat1, cat2, cat3, fr_z, fr_s, cc_I, cc_A, cc_N, Nat.reduceAdd, Nat.reduceLT, Nat.reduceLeDiff, Nat.reduceEqDiff, not_true, not_false_iff, z1_0, z1_1, Bool.and_self, Bool.true_and, Bool.and_true, nI_add, pk_mul, nI_clamp, decide_true, Nat.le_refl, bI_eq, bI_z1, nI_ltI, nI_leI, am_u_at, am_u_ne, upd_at, upd_ne, nI_z, z_le, z_lt, b13, b15, b16, hk1]
      refine go_at (blk := b_Model_read_149) rfl ?_
      simp (disch := omega) only [b_Model_read_149, be_6, be_33, be_50_5, kc_388, List.getD_cons_zero, List.getD_cons_succ, List.set_cons_zero, List.set_cons_succ, List.length_cons, List.length_nil, pk_I, pk_A, pr_A, pi_I, st_s, st_n, if_true, if_false, eq_self, d_if, d_ju, d_re, d_ca, cat0, cat1, cat2, cat3, fr_z, fr_s, cc_I, cc_A, cc_N, Nat.reduceAdd, Nat.reduceLT, Nat.reduceLeDiff, Nat.reduceEqDiff, not_true, not_false_iff, z1_0, z1_1, Bool.and_self, Bool.true_and, Bool.and_true, nI_add, pk_mul, nI_clamp, decide_true, Nat.le_refl, bI_eq, bI_z1, nI_ltI, nI_leI, am_u_at, am_u_ne, upd_at, upd_ne, nI_z, z_le, z_lt, b13, b15, b16, hk1]
      refine go_at (blk := b_Model_read_156) rfl ?_
      simp (disch := omega) only [b_Model_read_156, be_6, be_33, be_51, kc_388, List.getD_cons_zero, List.getD_cons_succ, List.set_cons_zero, List.set_cons_succ, List.length_cons, List.length_nil, pk_I, pk_A, pr_A, pi_I, st_s, st_n, if_true, if_false, eq_self, d_if, d_ju, d_re, d_ca, cat0, cat1, cat2, cat3, fr_z, fr_s, cc_I, cc_A, cc_N, Nat.reduceAdd, Nat.reduceLT, Nat.reduceLeDiff, Nat.reduceEqDiff, not_true, not_false_iff, z1_0, z1_1, Bool.and_self, Bool.true_and, Bool.and_true, nI_add, pk_mul, nI_clamp, decide_true, Nat.le_refl, bI_eq, bI_z1, nI_ltI, nI_leI, am_u_at, am_u_ne, upd_at, upd_ne, nI_z, z_le, z_lt, b13, b15, b16, hk1]
      refine go_at (blk := b_Model_read_164) rfl ?_
      simp (disch := omega) only [b_Model_read_164, be_35, be_6, be_33, be_50_5, kc_388, List.getD_cons_zero, List.getD_cons_succ, List.set_cons_zero, List.set_cons_succ, List.length_cons, List.length_nil, pk_I, pk_A, pr_A, pi_I, st_s, st_n, if_true, if_false, eq_self, d_if, d_ju, d_re, d_ca, cat0, cat1, cat2, cat3, fr_z, fr_s, cc_I, cc_A, cc_N, Nat.reduceAdd, Nat.reduceLT, Nat.reduceLeDiff, Nat.reduceEqDiff, not_true, not_false_iff, z1_0, z1_1, Bool.and_self, Bool.true_and, Bool.and_true, nI_add, pk_mul, nI_clamp, decide_true, Nat.le_refl, bI_eq, bI_z1, nI_ltI, nI_leI, am_u_at, am_u_ne, upd_at, upd_ne, nI_z, z_le, z_lt, b13, b15, b16, hk1]
      refine go_at (blk := b_Model_read_179) rfl ?_
      simp (disch := omega) only [b_Model_read_179, be_6, be_33, be_50_5, kc_388, List.getD_cons_zero, List.getD_cons_succ, List.set_cons_zero, List.set_cons_succ, List.length_cons, List.length_nil, pk_I, pk_A, pr_A, pi_I, st_s, st_n, if_true, if_false, eq_self, d_if, d_ju, d_re, d_ca, cat0, cat1, cat2, cat3, fr_z, fr_s, cc_I, cc_A, cc_N, Nat.reduceAdd, Nat.reduceLT, Nat.reduceLeDiff, Nat.reduceEqDiff, not_true, not_false_iff, z1_0, z1_1, Bool.and_self, Bool.true_and, Bool.and_true, nI_add, pk_mul, nI_clamp, decide_true, Nat.le_refl, bI_eq, bI_z1, nI_ltI, nI_leI, am_u_at, am_u_ne, upd_at, upd_ne, nI_z, z_le, z_lt, b13, b15, b16, hk1]
      refine go_at (blk := b_Model_read_186) rfl ?_
      simp (disch := omega) only [b_Model_read_186, be_6, be_33, be_54, kc_388, List.getD_cons_zero, List.getD_cons_succ, List.set_cons_zero, List.set_cons_succ, List.length_cons, List.length_nil, pk_I, pk_A, pr_A, pi_I, st_s, st_n, if_true, if_false, eq_self, d_if, d_ju, d_re, d_ca, cat0, cat1, cat2, cat3, fr_z, fr_s, cc_I, cc_A, cc_N, Nat.reduceAdd, Nat.reduceLT, Nat.reduceLeDiff, Nat.reduceEqDiff, not_true, not_false_iff, z1_0, z1_1, Bool.and_self, Bool.true_and, Bool.and_true, nI_add, pk_mul, nI_clamp, decide_true, Nat.le_refl, bI_eq, bI_z1, nI_ltI, nI_leI, am_u_at, am_u_ne, upd_at, upd_ne, nI_z, z_le, z_lt, b13, b15, b16, hk1]
      exact q2 _ w7 l p D hR hl0 (GQ_t g6 (GQ_t (GQ_S g7) (GQ_u (by unfold KPT; omega)))) (fun c c1 c2 => (e7 c c2).trans (e3 c c1)) (by rw [am_u_at, upd_at]) (by rw [am_u_at, upd_ne (by omega)]; exact y2)
