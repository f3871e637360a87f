/-! laid by wip/whole/gB.py: a text, by itself; the class: readTape -/
abbrev RZ : Type := (Nat × Nat) ⊕ (Nat × Nat × DRF)
def FINn (E : ENV) : Nat → Nat → Nat → Nat → DRF → RZ → Prop
  | 0, _, _, _, _, _ => False
  | n + 1, t, l, p, D, R => if eK E t = 0 then R = .inr (l, p, D) else ∃ s' D', TLR E t l p D s' D' ∧ ((∃ f, s'.1 = .inl f ∧ R = .inl f) ∨ ∃ t', s'.1 = .inr t' ∧ FINn E n t' s'.2.1 s'.2.2 D' R)
def FIN (E : ENV) (t l p : Nat) (D : DRF) (R : RZ) : Prop := ∃ n, FINn E n t l p D R
theorem fin_e {E : ENV} {t l p : Nat} {D : DRF} (h : eK E t = 0) : FIN E t l p D (.inr (l, p, D)) := by
  refine ⟨1, ?_⟩
  unfold FINn
  rw [if_pos h]
theorem fin_b {E : ENV} {t l p : Nat} {D D' : DRF} {s' : SG} {f : Nat × Nat} (h : eK E t ≠ 0) (hT : TLR E t l p D s' D') (hs : s'.1 = .inl f) : FIN E t l p D (.inl f) := by
  refine ⟨1, ?_⟩
  unfold FINn
  rw [if_neg h]
  exact ⟨s', D', hT, Or.inl ⟨f, hs, rfl⟩⟩
theorem fin_s {E : ENV} {t l p t' : Nat} {D D' : DRF} {s' : SG} {R : RZ} (h : eK E t ≠ 0) (hT : TLR E t l p D s' D') (hs : s'.1 = .inr t') (hR : FIN E t' s'.2.1 s'.2.2 D' R) : FIN E t l p D R := by
  obtain ⟨n, hn⟩ := hR
  refine ⟨n + 1, ?_⟩
  unfold FINn
  rw [if_neg h]
  exact ⟨s', D', hT, Or.inr ⟨t', hs, hn⟩⟩
def D0 : DRF := (20, 0, 0, fun _ _ => 0, none, none)
/-- the TOKENS of a tape -/
def mkE (b : Nat → Int32) (len L : Nat) : ENV := (kkN b len, tsN b len, fun j => tkV b len (tsN b len j), fun j => tkN b len (tsN b len j), L)
theorem ts_lt {b : Nat → Int32} {len L : Nat} (h : LX b len L) : ∀ j, j ≤ L → tsN b len j ≤ len ∧ (j < L → tsN b len j < len) := by
  intro j
  have hlt : ∀ j, j < L → tsN b len j < len := fun j hj => Nat.lt_of_not_le (fun z => (h.2.1 j hj).1 (tk_e z))
  intro hj
  refine ⟨?_, hlt j⟩
  cases j with
  | zero => exact (bk_le (Nat.zero_le _)).2
  | succ j => exact (bk_le (tx_gt (hlt j (by omega))).2).2
theorem mkE_ok {b : Nat → Int32} {len L : Nat} (hl : len ≤ 2000) (h : LX b len L) : EV (mkE b len L) := by
  refine ⟨h.1, h.2.1, h.2.2, fun j => tk_ok, fun j hj => ⟨Nat.le_trans (ts_lt h j hj).1 hl, fun h2 => ?_, fun h1 => ?_⟩, ?_⟩
  · have h2 : tkK b len (tsN b len j) = 2 := h2
    have hlt : tsN b len j < len := Nat.lt_of_not_le (fun z => by rw [tk_e z] at h2; omega)
    show tkV b len (tsN b len j) ≤ 9999
    cases hL : leB (b (tsN b len j)) with
    | true =>
      rw [(tk_le hlt hL).1] at h2
      have := kl_r (N := vlN b (tsN b len j) (rl leB b len (tsN b len j))) 17
      unfold wkN at h2
      split at h2 <;> omega
    | false =>
      cases hD : diB (b (tsN b len j)) with
      | false =>
        rw [(tk_sg hlt hL hD).1] at h2
        have := sg_r (x := b (tsN b len j))
        omega
      | true =>
        rw [(tk_di hlt hL hD).1] at h2
        have h4 : rl diB b len (tsN b len j) ≤ 4 := by
          split at h2
          · omega
          · omega
        have h5 := dg_lt (b := b) (i := tsN b len j) (rl diB b len (tsN b len j)) (fun q hq => rl_in hq)
        have h6 : 10 ^ (rl diB b len (tsN b len j)) ≤ 10 ^ 4 := Nat.pow_le_pow_right (by omega) h4
        unfold tkV
        omega
  · have h1 : tkK b len (tsN b len j) = 1 := h1
    have hlt : tsN b len j < len := Nat.lt_of_not_le (fun z => by rw [tk_e z] at h1; omega)
    show tkN b len (tsN b len j) < 2 ^ 63
    cases hL : leB (b (tsN b len j)) with
    | true =>
      rw [(tk_le hlt hL).1] at h1
      refine vN_lt ?_ (Nat.le_refl _)
      split at h1
      · omega
      · omega
    | false =>
      cases hD : diB (b (tsN b len j)) with
      | false =>
        rw [(tk_sg hlt hL hD).1] at h1
        have := sg_r (x := b (tsN b len j))
        omega
      | true =>
        rw [(tk_di hlt hL hD).1] at h1
        split at h1 <;> omega
  · intro i j hij hj
    show tsN b len i < tsN b len j
    have hj : j ≤ L := hj
    induction j with
    | zero => omega
    | succ j ih =>
      have h1 : tsN b len j < tsN b len (j + 1) := by
        have h2 := tx_gt (b := b) ((ts_lt h j (by omega)).2 (by omega))
        have h3 := bk_le (b := b) h2.2
        show tsN b len j < bk b len (tkX b len (tsN b len j))
        omega
      by_cases e : i = j
      · rw [e]; exact h1
      · exact Nat.lt_trans (ih (by omega) (by omega) (by omega)) h1
set_option maxHeartbeats 2000000 in
theorem k_tclear {d : Nat} {v : Nat → Nat → Int32} {w : Nat → Nat → Int64} {Q : Option Value → am_H → Prop} (hQ : ∀ v', (∀ c, c ≠ 3 → (c < 3 ∨ 19 < c) → v' c = v c) → DX v' w D0 → Q none (428, 26053, KD, RF, v', w)) : am_Ca (d + 2) M_Text_clear [.ref 3] (428, 26053, KD, RF, v, w) Q := by
  refine ca_in (k := k_Text_clear) (nL := 1) rfl (Nat.le_of_ble_eq_true rfl) ?_
  show am_Go am_X0 _ k_Text_clear 0 ([.ref 3], [], _) _
  refine go_at (blk := b_Text_clear_0) rfl ?_
  simp (disch := omega) only [b_Text_clear_0, be_6, be_1, be_35, be_34, be_57_0, kc_3, rf_3_9, kc_10, List.getD_cons_zero, List.getD_cons_succ, List.set_cons_zero, List.set_cons_succ, List.length_cons, List.length_nil, pk_I, pk_A, pr_A, pi_I, st_s, st_n, if_true, if_false, eq_self, d_if, d_ju, d_re, d_ca, cat0, cat1, cat2, cat3, fr_z, fr_s, cc_I, cc_A, cc_N, Nat.reduceAdd, Nat.reduceLT, Nat.reduceLeDiff, Nat.reduceEqDiff, not_true, not_false_iff, z1_0, z1_1, Bool.and_self, Bool.true_and, Bool.and_true, nI_add, pk_mul, nI_clamp, decide_true, Nat.le_refl, bI_eq, bI_z1, am_u_at, am_u_ne, upd_at, upd_ne]
  refine k_lclear (show LD 10 from Or.inl rfl) ?_
  intro v1 f1 c1
  refine go_at (blk := b_Text_clear_23) rfl ?_
  simp (disch := omega) only [b_Text_clear_23, be_6, be_34, be_1, be_57_2, kc_3, rf_3_9, kc_10, List.getD_cons_zero, List.getD_cons_succ, List.set_cons_zero, List.set_cons_succ, List.length_cons, List.length_nil, pk_I, pk_A, pr_A, pi_I, st_s, st_n, if_true, if_false, eq_self, d_if, d_ju, d_re, d_ca, cat0, cat1, cat2, cat3, fr_z, fr_s, cc_I, cc_A, cc_N, Nat.reduceAdd, Nat.reduceLT, Nat.reduceLeDiff, Nat.reduceEqDiff, not_true, not_false_iff, z1_0, z1_1, Bool.and_self, Bool.true_and, Bool.and_true, nI_add, pk_mul, nI_clamp, decide_true, Nat.le_refl, bI_eq, bI_z1, am_u_at, am_u_ne, upd_at, upd_ne]
  refine k_put (show LD 10 from Or.inl rfl) c1 (by show 0 < 400; omega) ?_
  intro v2 f2 c2
  refine go_at (blk := b_Text_clear_32) rfl ?_
  simp (disch := omega) only [b_Text_clear_32, be_31I, be_6, be_34, be_1, be_57_2, kc_3, rf_3_9, kc_10, List.getD_cons_zero, List.getD_cons_succ, List.set_cons_zero, List.set_cons_succ, List.length_cons, List.length_nil, pk_I, pk_A, pr_A, pi_I, st_s, st_n, if_true, if_false, eq_self, d_if, d_ju, d_re, d_ca, cat0, cat1, cat2, cat3, fr_z, fr_s, cc_I, cc_A, cc_N, Nat.reduceAdd, Nat.reduceLT, Nat.reduceLeDiff, Nat.reduceEqDiff, not_true, not_false_iff, z1_0, z1_1, Bool.and_self, Bool.true_and, Bool.and_true, nI_add, pk_mul, nI_clamp, decide_true, Nat.le_refl, bI_eq, bI_z1, am_u_at, am_u_ne, upd_at, upd_ne]
  refine k_put (show LD 10 from Or.inl rfl) c2 (by show 1 < 400; omega) ?_
  intro v3 f3 c3
  refine go_at (blk := b_Text_clear_42) rfl ?_
  simp (disch := omega) only [b_Text_clear_42, be_31I, be_6, be_34, be_1, be_57_2, kc_3, rf_3_9, kc_10, List.getD_cons_zero, List.getD_cons_succ, List.set_cons_zero, List.set_cons_succ, List.length_cons, List.length_nil, pk_I, pk_A, pr_A, pi_I, st_s, st_n, if_true, if_false, eq_self, d_if, d_ju, d_re, d_ca, cat0, cat1, cat2, cat3, fr_z, fr_s, cc_I, cc_A, cc_N, Nat.reduceAdd, Nat.reduceLT, Nat.reduceLeDiff, Nat.reduceEqDiff, not_true, not_false_iff, z1_0, z1_1, Bool.and_self, Bool.true_and, Bool.and_true, nI_add, pk_mul, nI_clamp, decide_true, Nat.le_refl, bI_eq, bI_z1, am_u_at, am_u_ne, upd_at, upd_ne]
  refine k_put (show LD 10 from Or.inl rfl) c3 (by show 2 < 400; omega) ?_
  intro v4 f4 c4
  refine go_at (blk := b_Text_clear_52) rfl ?_
  simp (disch := omega) only [b_Text_clear_52, be_31I, be_6, be_34, be_57_0, kc_3, rf_3_10, kc_15, List.getD_cons_zero, List.getD_cons_succ, List.set_cons_zero, List.set_cons_succ, List.length_cons, List.length_nil, pk_I, pk_A, pr_A, pi_I, st_s, st_n, if_true, if_false, eq_self, d_if, d_ju, d_re, d_ca, cat0, cat1, cat2, cat3, fr_z, fr_s, cc_I, cc_A, cc_N, Nat.reduceAdd, Nat.reduceLT, Nat.reduceLeDiff, Nat.reduceEqDiff, not_true, not_false_iff, z1_0, z1_1, Bool.and_self, Bool.true_and, Bool.and_true, nI_add, pk_mul, nI_clamp, decide_true, Nat.le_refl, bI_eq, bI_z1, am_u_at, am_u_ne, upd_at, upd_ne]
  refine k_lclear (show LD 15 from Or.inr rfl) ?_
  intro v5 f5 c5
  refine go_at (blk := b_Text_clear_60) rfl ?_
  simp (disch := omega) only [b_Text_clear_60, be_6, be_34, be_1, be_57_2, kc_3, rf_3_10, kc_15, List.getD_cons_zero, List.getD_cons_succ, List.set_cons_zero, List.set_cons_succ, List.length_cons, List.length_nil, pk_I, pk_A, pr_A, pi_I, st_s, st_n, if_true, if_false, eq_self, d_if, d_ju, d_re, d_ca, cat0, cat1, cat2, cat3, fr_z, fr_s, cc_I, cc_A, cc_N, Nat.reduceAdd, Nat.reduceLT, Nat.reduceLeDiff, Nat.reduceEqDiff, not_true, not_false_iff, z1_0, z1_1, Bool.and_self, Bool.true_and, Bool.and_true, nI_add, pk_mul, nI_clamp, decide_true, Nat.le_refl, bI_eq, bI_z1, am_u_at, am_u_ne, upd_at, upd_ne]
  refine k_put (show LD 15 from Or.inr rfl) c5 (by show 0 < 400; omega) ?_
  intro v6 f6 c6
  refine go_at (blk := b_Text_clear_69) rfl ?_
  simp (disch := omega) only [b_Text_clear_69, be_31I, be_56, List.getD_cons_zero, List.getD_cons_succ, List.set_cons_zero, List.set_cons_succ, List.length_cons, List.length_nil, pk_I, pk_A, pr_A, pi_I, st_s, st_n, if_true, if_false, eq_self, d_if, d_ju, d_re, d_ca, cat0, cat1, cat2, cat3, fr_z, fr_s, cc_I, cc_A, cc_N, Nat.reduceAdd, Nat.reduceLT, Nat.reduceLeDiff, Nat.reduceEqDiff, not_true, not_false_iff, z1_0, z1_1, Bool.and_self, Bool.true_and, Bool.and_true, nI_add, pk_mul, nI_clamp, decide_true, Nat.le_refl, bI_eq, bI_z1, am_u_at, am_u_ne, upd_at, upd_ne]
  have hg : ∀ c, c ≠ 3 → (c < 10 ∨ 17 < c) → v6 c = v c := fun c c1 c2 => by
    rw [f6 c (by omega) (by omega) (by omega), f5 c (by omega) (by omega) (by omega), f4 c (by omega) (by omega) (by omega), f3 c (by omega) (by omega) (by omega), f2 c (by omega) (by omega) (by omega), f1 c (by omega) (by omega) (by omega), am_u_ne c1, am_u_ne c1, am_u_ne c1]
  have h3 : v6 3 = am_u (am_u (am_u v 3 0 (nI 20)) 3 1 (nI 0)) 3 2 (nI 0) 3 := by
    rw [f6 3 (by omega) (by omega) (by omega), f5 3 (by omega) (by omega) (by omega), f4 3 (by omega) (by omega) (by omega), f3 3 (by omega) (by omega) (by omega), f2 3 (by omega) (by omega) (by omega), f1 3 (by omega) (by omega) (by omega)]
  have h10 : LC v6 10 dM := by
    unfold LC at c4 ⊢
    rw [f6 10 (by omega) (by omega) (by omega), f5 10 (by omega) (by omega) (by omega), f6 11 (by omega) (by omega) (by omega), f5 11 (by omega) (by omega) (by omega), f6 12 (by omega) (by omega) (by omega), f5 12 (by omega) (by omega) (by omega)]
    exact c4
  refine hQ v6 (fun c c1 c2 => hg c c1 (by omega)) ⟨?_, ?_, ⟨?_, by show 0 ≤ 8; omega, fun i hi => absurd hi (Nat.not_lt_zero _)⟩, fun p hp => absurd hp (Nat.not_lt_zero _), h10, by show 3 ≤ 400; omega, c6, by show 1 ≤ 400; omega⟩
  · rw [h3, am_u_at, upd_ne (by omega), am_u_at, upd_ne (by omega), am_u_at, upd_at]
    rfl
  · rw [h3, am_u_at, upd_ne (by omega), am_u_at, upd_at]
    rfl
  · rw [h3, am_u_at, upd_at]
    rfl
/-- what a read tape leaves -/
def ZR (E : ENV) (v : Nat → Nat → Int32) (w : Nat → Nat → Int64) (r : Int32) (R : RZ) : Prop := match R with
  | .inl f => r = nI f.1 ∧ 1 ≤ f.1 ∧ f.1 ≤ 5 ∧ v 2 1 = nI f.2
  | .inr x => if x.1 = 0 then r = nI 0 ∧ v 2 1 = -1 ∧ DX v w x.2.2 else r = nI x.1 ∧ x.1 ≤ 5 ∧ v 2 1 = nI x.2.1
set_option maxHeartbeats 4000000 in
theorem k_readTape {d : Nat} {v : Nat → Nat → Int32} {w : Nat → Nat → Int64} {Q : Option Value → am_H → Prop} {b : Nat → Int32} {len : Nat} (hb : v 1 = b) (hy : BY b len) (hl : len ≤ 2000) (hQ0 : ∀ v' w' L r R, LX b len L → (∀ c, c ≠ 2 → (c < 3 ∨ 22 < c) → v' c = v c) → (∀ c, c ≠ 24 → c ≠ 23 → w' c = w c) → FIN (mkE b len L) 0 0 0 D0 R → ZR (mkE b len L) v' w' r R → Q (some (.int r)) (428, 26053, KD, RF, v', w')) : am_Ca (d + 28) M_Reader_readTape [.ref 2, .ref 1, .int (nI len)] (428, 26053, KD, RF, v, w) Q := by
  refine ca_in (k := k_Reader_readTape) (nL := 4) rfl (Nat.le_of_ble_eq_true rfl) ?_
  show am_Go am_X0 _ k_Reader_readTape 0 ([.ref 2, .ref 1, .int (nI len), .null], [], _) _
  refine go_at (blk := b_Reader_readTape_0) rfl ?_
  simp (disch := omega) only [b_Reader_readTape_0, be_6, be_1, be_35, be_2, be_34, be_57_0, kc_2, rf_2_0, kc_3, List.getD_cons_zero, List.getD_cons_succ, List.set_cons_zero, List.set_cons_succ, List.length_cons, List.length_nil, pk_I, pk_A, pr_A, pi_I, st_s, st_n, if_true, if_false, eq_self, d_if, d_ju, d_re, d_ca, cat0, cat1, cat2, cat3, fr_z, fr_s, cc_I, cc_A, cc_N, Nat.reduceAdd, Nat.reduceLT, Nat.reduceLeDiff, Nat.reduceEqDiff, not_true, not_false_iff, z1_0, z1_1, Bool.and_self, Bool.true_and, Bool.and_true, nI_add, pk_mul, nI_clamp, decide_true, Nat.le_refl, bI_eq, bI_z1, am_u_at, am_u_ne, upd_at, upd_ne]
  refine k_tclear ?_
  intro v1 f1 d1
  refine go_at (blk := b_Reader_readTape_32) rfl ?_
  simp (disch := omega) only [b_Reader_readTape_32, be_6, be_34, be_4, be_57_2, kc_2, rf_2_2, kc_20, List.getD_cons_zero, List.getD_cons_succ, List.set_cons_zero, List.set_cons_succ, List.length_cons, List.length_nil, pk_I, pk_A, pr_A, pi_I, st_s, st_n, if_true, if_false, eq_self, d_if, d_ju, d_re, d_ca, cat0, cat1, cat2, cat3, fr_z, fr_s, cc_I, cc_A, cc_N, Nat.reduceAdd, Nat.reduceLT, Nat.reduceLeDiff, Nat.reduceEqDiff, not_true, not_false_iff, z1_0, z1_1, Bool.and_self, Bool.true_and, Bool.and_true, nI_add, pk_mul, nI_clamp, decide_true, Nat.le_refl, bI_eq, bI_z1, am_u_at, am_u_ne, upd_at, upd_ne]
  have hb1 : v1 1 = b := by rw [f1 1 (by omega) (by omega)]; simp (disch := omega) only [am_u_ne]; exact hb
  refine k_scan hb1 hy hl ?_
  intro v2 w2 L f2 g2 lx c2
  have hE : CE (mkE b len L) v2 w2 := ⟨mkE_ok hl lx, fun j hj => c2 j hj⟩
  have h2 : v2 2 = (am_u (am_u (am_u (am_u (am_u v 2 4 (nI 0)) 2 5 (nI 0)) 2 1 (-1)) 2 6 (nI 0)) 2 7 (-1)) 2 := by rw [f2 2 (by omega) (by omega), f1 2 (by omega) (by omega)]
  have hG : CG (mkE b len L) v2 0 0 0 := by
    unfold CG
    rw [h2]
    refine ⟨?_, ?_, Nat.zero_le _, ?_, ?_, by omega, fun z => absurd rfl z⟩ <;> simp (disch := omega) only [am_u_at, upd_at, upd_ne]
  have hD : DX v2 w2 D0 := by
    obtain ⟨e1, e2, e3, e4, e5, e6, e7, e8⟩ := d1
    exact ⟨by rw [f2 3 (by omega) (by omega)]; exact e1, by rw [f2 3 (by omega) (by omega)]; exact e2, ⟨by rw [f2 3 (by omega) (by omega)]; exact e3.1, e3.2.1, fun i hi => absurd hi (Nat.not_lt_zero _)⟩, fun p hp => absurd hp (Nat.not_lt_zero _), ⟨by rw [f2 10 (by omega) (by omega)]; exact e5.1, fun j hj => by rw [f2 11 (by omega) (by omega), f2 12 (by omega) (by omega)]; exact e5.2 j hj⟩, e6, ⟨by rw [f2 15 (by omega) (by omega)]; exact e7.1, fun j hj => by rw [f2 16 (by omega) (by omega), f2 17 (by omega) (by omega)]; exact e7.2 j hj⟩, e8⟩
  have hF : ∀ c, c ≠ 2 → (c < 3 ∨ 22 < c) → v2 c = v c := fun c c1 c3 => by
    rw [f2 c (by omega) (by omega), f1 c (by omega) (by omega)]
    simp (disch := omega) only [am_u_ne]
  refine go_at (blk := b_Reader_readTape_41) rfl ?_
  simp (disch := omega) only [b_Reader_readTape_41, be_1, be_7, be_0, List.getD_cons_zero, List.getD_cons_succ, List.set_cons_zero, List.set_cons_succ, List.length_cons, List.length_nil, pk_I, pk_A, pr_A, pi_I, st_s, st_n, if_true, if_false, eq_self, d_if, d_ju, d_re, d_ca, cat0, cat1, cat2, cat3, fr_z, fr_s, cc_I, cc_A, cc_N, Nat.reduceAdd, Nat.reduceLT, Nat.reduceLeDiff, Nat.reduceEqDiff, not_true, not_false_iff, z1_0, z1_1, Bool.and_self, Bool.true_and, Bool.and_true, nI_add, pk_mul, nI_clamp, decide_true, Nat.le_refl, bI_eq, bI_z1, am_u_at, am_u_ne, upd_at, upd_ne]
  have hQ : ∀ v' w' L r R, LX b len L → (∀ c, c ≠ 2 → (c < 3 ∨ 19 < c) → v' c = v2 c) → (∀ c, c ≠ 24 → w' c = w2 c) → FIN (mkE b len L) 0 0 0 D0 R → ZR (mkE b len L) v' w' r R → Q (some (.int r)) (428, 26053, KD, RF, v', w') := fun v' w' L' r R lx' h1 h3 h4 h5 => hQ0 v' w' L' r R lx' (fun c c1 c3 => (h1 c c1 (by omega)).trans (hF c c1 c3)) (fun c c1 c3 => (h3 c c1).trans (g2 c c3)) h4 h5
  refine go_loopA (α := (Nat → Nat → Int32) × (Nat → Nat → Int64) × Nat × Nat × Nat × DRF) (fun i x => ([.ref 2, .ref 1, .int (nI len), .int (nI i)], [], (428, 26053, KD, RF, x.1, x.2.1))) (fun i x => (∀ c, c ≠ 2 → (c < 3 ∨ 19 < c) → x.1 c = v2 c) ∧ (∀ c, c ≠ 24 → x.2.1 c = w2 c) ∧ CG (mkE b len L) x.1 x.2.2.1 x.2.2.2.1 x.2.2.2.2.1 ∧ DX x.1 x.2.1 x.2.2.2.2.2 ∧ i ≤ x.2.2.1 ∧ (∀ R, FIN (mkE b len L) x.2.2.1 x.2.2.2.1 x.2.2.2.2.1 x.2.2.2.2.2 R → FIN (mkE b len L) 0 0 0 D0 R)) (401) ?_ ?_ (v2, w2, 0, 0, 0, D0) ⟨fun _ _ _ => rfl, fun _ _ => rfl, hG, hD, Nat.le_refl _, fun R hR => hR⟩
  · intro i x hi ⟨x1, x2, x3, x4, x5, x6⟩ ih
    try dsimp only at *
    obtain ⟨g1, g4, gt, g5, g6, gl, g7⟩ := x3
    have hEx : CE (mkE b len L) x.1 x.2.1 := ⟨hE.1, fun j hj => by rw [x1 21 (by omega) (by omega), x1 22 (by omega) (by omega), x2 23 (by omega)]; exact hE.2 j hj⟩
    have hsx : CS (mkE b len L) x.1 (.inr x.2.2.1, x.2.2.2.1, x.2.2.2.2.1) := ⟨g1, g4, gt, g5, g6, gl, g7⟩
    have hni : ¬ 400 < i := by omega
    by_cases hend : eK (mkE b len L) x.2.2.1 = 0
    · refine go_at (blk := b_Reader_readTape_43) rfl ?_
      simp (disch := omega) only [b_Reader_readTape_43, be_4, be_1, be_49_4, List.getD_cons_zero, List.getD_cons_succ, List.set_cons_zero, List.set_cons_succ, List.length_cons, List.length_nil, pk_I, pk_A, pr_A, pi_I, st_s, st_n, if_true, if_false, eq_self, d_if, d_ju, d_re, d_ca, cat0, cat1, cat2, cat3, fr_z, fr_s, cc_I, cc_A, cc_N, Nat.reduceAdd, Nat.reduceLT, Nat.reduceLeDiff, Nat.reduceEqDiff, not_true, not_false_iff, z1_0, z1_1, Bool.and_self, Bool.true_and, Bool.and_true, nI_add, pk_mul, nI_clamp, decide_true, Nat.le_refl, bI_eq, bI_z1, nI_ltI, nI_leI, am_u_at, am_u_ne, upd_at, upd_ne, g5, hni, nI_z]
      refine go_at (blk := b_Reader_readTape_50) rfl ?_
      simp (disch := omega) only [b_Reader_readTape_50, be_6, be_33, be_50_1, kc_2, List.getD_cons_zero, List.getD_cons_succ, List.set_cons_zero, List.set_cons_succ, List.length_cons, List.length_nil, pk_I, pk_A, pr_A, pi_I, st_s, st_n, if_true, if_false, eq_self, d_if, d_ju, d_re, d_ca, cat0, cat1, cat2, cat3, fr_z, fr_s, cc_I, cc_A, cc_N, Nat.reduceAdd, Nat.reduceLT, Nat.reduceLeDiff, Nat.reduceEqDiff, not_true, not_false_iff, z1_0, z1_1, Bool.and_self, Bool.true_and, Bool.and_true, nI_add, pk_mul, nI_clamp, decide_true, Nat.le_refl, bI_eq, bI_z1, nI_ltI, nI_leI, am_u_at, am_u_ne, upd_at, upd_ne, g5, hni, nI_z]
      refine go_at (blk := b_Reader_readTape_57) rfl ?_
      simp (disch := omega) only [b_Reader_readTape_57, be_6, be_57_0, kc_2, List.getD_cons_zero, List.getD_cons_succ, List.set_cons_zero, List.set_cons_succ, List.length_cons, List.length_nil, pk_I, pk_A, pr_A, pi_I, st_s, st_n, if_true, if_false, eq_self, d_if, d_ju, d_re, d_ca, cat0, cat1, cat2, cat3, fr_z, fr_s, cc_I, cc_A, cc_N, Nat.reduceAdd, Nat.reduceLT, Nat.reduceLeDiff, Nat.reduceEqDiff, not_true, not_false_iff, z1_0, z1_1, Bool.and_self, Bool.true_and, Bool.and_true, nI_add, pk_mul, nI_clamp, decide_true, Nat.le_refl, bI_eq, bI_z1, nI_ltI, nI_leI, am_u_at, am_u_ne, upd_at, upd_ne, g5, hni, nI_z]
      refine k_kind hEx hsx ?_
      rw [show kdR (mkE b len L) (.inr x.2.2.1, x.2.2.2.1, x.2.2.2.2.1) = eK (mkE b len L) x.2.2.1 from rfl, hend, show cK 0 = 302 from rfl]
      refine go_at (blk := b_Reader_readTape_61) rfl ?_
      simp (disch := omega) only [b_Reader_readTape_61, be_1, be_49_0, List.getD_cons_zero, List.getD_cons_succ, List.set_cons_zero, List.set_cons_succ, List.length_cons, List.length_nil, pk_I, pk_A, pr_A, pi_I, st_s, st_n, if_true, if_false, eq_self, d_if, d_ju, d_re, d_ca, cat0, cat1, cat2, cat3, fr_z, fr_s, cc_I, cc_A, cc_N, Nat.reduceAdd, Nat.reduceLT, Nat.reduceLeDiff, Nat.reduceEqDiff, not_true, not_false_iff, z1_0, z1_1, Bool.and_self, Bool.true_and, Bool.and_true, nI_add, pk_mul, nI_clamp, decide_true, Nat.le_refl, bI_eq, bI_z1, nI_ltI, nI_leI, am_u_at, am_u_ne, upd_at, upd_ne, g5, hni, nI_z]
      by_cases hl0 : x.2.2.2.1 = 0
      · rw [hl0] at g6
        refine go_at (blk := b_Reader_readTape_77) rfl ?_
        simp (disch := omega) only [b_Reader_readTape_77, be_6, be_33, be_50_1, kc_2, List.getD_cons_zero, List.getD_cons_succ, List.set_cons_zero, List.set_cons_succ, List.length_cons, List.length_nil, pk_I, pk_A, pr_A, pi_I, st_s, st_n, if_true, if_false, eq_self, d_if, d_ju, d_re, d_ca, cat0, cat1, cat2, cat3, fr_z, fr_s, cc_I, cc_A, cc_N, Nat.reduceAdd, Nat.reduceLT, Nat.reduceLeDiff, Nat.reduceEqDiff, not_true, not_false_iff, z1_0, z1_1, Bool.and_self, Bool.true_and, Bool.and_true, nI_add, pk_mul, nI_clamp, decide_true, Nat.le_refl, bI_eq, bI_z1, nI_ltI, nI_leI, am_u_at, am_u_ne, upd_at, upd_ne, g5, g6, nI_z]
        refine go_at (blk := b_Reader_readTape_84) rfl ?_
        simp (disch := omega) only [b_Reader_readTape_84, be_6, be_33, be_50_0, kc_2, List.getD_cons_zero, List.getD_cons_succ, List.set_cons_zero, List.set_cons_succ, List.length_cons, List.length_nil, pk_I, pk_A, pr_A, pi_I, st_s, st_n, if_true, if_false, eq_self, d_if, d_ju, d_re, d_ca, cat0, cat1, cat2, cat3, fr_z, fr_s, cc_I, cc_A, cc_N, Nat.reduceAdd, Nat.reduceLT, Nat.reduceLeDiff, Nat.reduceEqDiff, not_true, not_false_iff, z1_0, z1_1, Bool.and_self, Bool.true_and, Bool.and_true, nI_add, pk_mul, nI_clamp, decide_true, Nat.le_refl, bI_eq, bI_z1, nI_ltI, nI_leI, am_u_at, am_u_ne, upd_at, upd_ne, g5, g6, nI_z]
        refine go_at (blk := b_Reader_readTape_107) rfl ?_
        simp (disch := omega) only [b_Reader_readTape_107, be_6, be_33, be_54, kc_2, List.getD_cons_zero, List.getD_cons_succ, List.set_cons_zero, List.set_cons_succ, List.length_cons, List.length_nil, pk_I, pk_A, pr_A, pi_I, st_s, st_n, if_true, if_false, eq_self, d_if, d_ju, d_re, d_ca, cat0, cat1, cat2, cat3, fr_z, fr_s, cc_I, cc_A, cc_N, Nat.reduceAdd, Nat.reduceLT, Nat.reduceLeDiff, Nat.reduceEqDiff, not_true, not_false_iff, z1_0, z1_1, Bool.and_self, Bool.true_and, Bool.and_true, nI_add, pk_mul, nI_clamp, decide_true, Nat.le_refl, bI_eq, bI_z1, nI_ltI, nI_leI, am_u_at, am_u_ne, upd_at, upd_ne, g5, g6, nI_z]
        refine hQ x.1 x.2.1 L _ (.inr (0, x.2.2.2.2.1, x.2.2.2.2.2)) lx x1 x2 (x6 _ (by rw [← hl0]; exact fin_e hend)) ?_
        exact ⟨rfl, g1, x4⟩
      · have hl1 : ¬ nI x.2.2.2.1 = 0 := nI_ne0 (by omega) (by omega)
        obtain ⟨g77, _⟩ := g7 hl0
        refine go_at (blk := b_Reader_readTape_77) rfl ?_
        simp (disch := omega) only [b_Reader_readTape_77, be_6, be_33, be_50_1, kc_2, List.getD_cons_zero, List.getD_cons_succ, List.set_cons_zero, List.set_cons_succ, List.length_cons, List.length_nil, pk_I, pk_A, pr_A, pi_I, st_s, st_n, if_true, if_false, eq_self, d_if, d_ju, d_re, d_ca, cat0, cat1, cat2, cat3, fr_z, fr_s, cc_I, cc_A, cc_N, Nat.reduceAdd, Nat.reduceLT, Nat.reduceLeDiff, Nat.reduceEqDiff, not_true, not_false_iff, z1_0, z1_1, Bool.and_self, Bool.true_and, Bool.and_true, nI_add, pk_mul, nI_clamp, decide_true, Nat.le_refl, bI_eq, bI_z1, nI_ltI, nI_leI, am_u_at, am_u_ne, upd_at, upd_ne, g5, g6, g77, nI_z, hl1]
        refine go_at (blk := b_Reader_readTape_84) rfl ?_
        simp (disch := omega) only [b_Reader_readTape_84, be_6, be_33, be_50_0, kc_2, List.getD_cons_zero, List.getD_cons_succ, List.set_cons_zero, List.set_cons_succ, List.length_cons, List.length_nil, pk_I, pk_A, pr_A, pi_I, st_s, st_n, if_true, if_false, eq_self, d_if, d_ju, d_re, d_ca, cat0, cat1, cat2, cat3, fr_z, fr_s, cc_I, cc_A, cc_N, Nat.reduceAdd, Nat.reduceLT, Nat.reduceLeDiff, Nat.reduceEqDiff, not_true, not_false_iff, z1_0, z1_1, Bool.and_self, Bool.true_and, Bool.and_true, nI_add, pk_mul, nI_clamp, decide_true, Nat.le_refl, bI_eq, bI_z1, nI_ltI, nI_leI, am_u_at, am_u_ne, upd_at, upd_ne, g5, g6, g77, nI_z, hl1]
        refine go_at (blk := b_Reader_readTape_91) rfl ?_
        simp (disch := omega) only [b_Reader_readTape_91, be_6, be_33, be_35, be_0, kc_2, List.getD_cons_zero, List.getD_cons_succ, List.set_cons_zero, List.set_cons_succ, List.length_cons, List.length_nil, pk_I, pk_A, pr_A, pi_I, st_s, st_n, if_true, if_false, eq_self, d_if, d_ju, d_re, d_ca, cat0, cat1, cat2, cat3, fr_z, fr_s, cc_I, cc_A, cc_N, Nat.reduceAdd, Nat.reduceLT, Nat.reduceLeDiff, Nat.reduceEqDiff, not_true, not_false_iff, z1_0, z1_1, Bool.and_self, Bool.true_and, Bool.and_true, nI_add, pk_mul, nI_clamp, decide_true, Nat.le_refl, bI_eq, bI_z1, nI_ltI, nI_leI, am_u_at, am_u_ne, upd_at, upd_ne, g5, g6, g77, nI_z, hl1]
        refine go_at (blk := b_Reader_readTape_107) rfl ?_
        simp (disch := omega) only [b_Reader_readTape_107, be_6, be_33, be_54, kc_2, List.getD_cons_zero, List.getD_cons_succ, List.set_cons_zero, List.set_cons_succ, List.length_cons, List.length_nil, pk_I, pk_A, pr_A, pi_I, st_s, st_n, if_true, if_false, eq_self, d_if, d_ju, d_re, d_ca, cat0, cat1, cat2, cat3, fr_z, fr_s, cc_I, cc_A, cc_N, Nat.reduceAdd, Nat.reduceLT, Nat.reduceLeDiff, Nat.reduceEqDiff, not_true, not_false_iff, z1_0, z1_1, Bool.and_self, Bool.true_and, Bool.and_true, nI_add, pk_mul, nI_clamp, decide_true, Nat.le_refl, bI_eq, bI_z1, nI_ltI, nI_leI, am_u_at, am_u_ne, upd_at, upd_ne, g5, g6, g77, nI_z, hl1]
        refine hQ _ x.2.1 L _ (.inr (x.2.2.2.1, x.2.2.2.2.1, x.2.2.2.2.2)) lx (fun c c1 c2 => by rw [am_u_ne c1, am_u_ne c1]; exact x1 c c1 c2) x2 (x6 _ (fin_e hend)) ?_
        unfold ZR
        dsimp only
        rw [if_neg hl0]
        exact ⟨rfl, gl, by rw [am_u_at, upd_at]⟩
    · have hc9 := ck_lt9 _ (hE.1.2.2.2.1 x.2.2.1).1
      have hcn' : cK (eK (mkE b len L) x.2.2.1) ≠ 302 := ck_ne hE.1 (j := 0) (by omega) rfl hend
      obtain ⟨c9, hcc⟩ : ∃ c9, c9 = cK (eK (mkE b len L) x.2.2.1) := ⟨_, rfl⟩
      rw [← hcc] at hcn' hc9
      have hcn : ¬ c9 = 302 := hcn'
      refine go_at (blk := b_Reader_readTape_43) rfl ?_
      simp (disch := omega) only [b_Reader_readTape_43, be_4, be_1, be_49_4, List.getD_cons_zero, List.getD_cons_succ, List.set_cons_zero, List.set_cons_succ, List.length_cons, List.length_nil, pk_I, pk_A, pr_A, pi_I, st_s, st_n, if_true, if_false, eq_self, d_if, d_ju, d_re, d_ca, cat0, cat1, cat2, cat3, fr_z, fr_s, cc_I, cc_A, cc_N, Nat.reduceAdd, Nat.reduceLT, Nat.reduceLeDiff, Nat.reduceEqDiff, not_true, not_false_iff, z1_0, z1_1, Bool.and_self, Bool.true_and, Bool.and_true, nI_add, pk_mul, nI_clamp, decide_true, Nat.le_refl, bI_eq, bI_z1, nI_ltI, nI_leI, g5, hni, nI_z, nI_eq, hcn]
      refine go_at (blk := b_Reader_readTape_50) rfl ?_
      simp (disch := omega) only [b_Reader_readTape_50, be_6, be_33, be_50_1, kc_2, List.getD_cons_zero, List.getD_cons_succ, List.set_cons_zero, List.set_cons_succ, List.length_cons, List.length_nil, pk_I, pk_A, pr_A, pi_I, st_s, st_n, if_true, if_false, eq_self, d_if, d_ju, d_re, d_ca, cat0, cat1, cat2, cat3, fr_z, fr_s, cc_I, cc_A, cc_N, Nat.reduceAdd, Nat.reduceLT, Nat.reduceLeDiff, Nat.reduceEqDiff, not_true, not_false_iff, z1_0, z1_1, Bool.and_self, Bool.true_and, Bool.and_true, nI_add, pk_mul, nI_clamp, decide_true, Nat.le_refl, bI_eq, bI_z1, nI_ltI, nI_leI, g5, hni, nI_z, nI_eq, hcn]
      refine go_at (blk := b_Reader_readTape_57) rfl ?_
      simp (disch := omega) only [b_Reader_readTape_57, be_6, be_57_0, kc_2, List.getD_cons_zero, List.getD_cons_succ, List.set_cons_zero, List.set_cons_succ, List.length_cons, List.length_nil, pk_I, pk_A, pr_A, pi_I, st_s, st_n, if_true, if_false, eq_self, d_if, d_ju, d_re, d_ca, cat0, cat1, cat2, cat3, fr_z, fr_s, cc_I, cc_A, cc_N, Nat.reduceAdd, Nat.reduceLT, Nat.reduceLeDiff, Nat.reduceEqDiff, not_true, not_false_iff, z1_0, z1_1, Bool.and_self, Bool.true_and, Bool.and_true, nI_add, pk_mul, nI_clamp, decide_true, Nat.le_refl, bI_eq, bI_z1, nI_ltI, nI_leI, g5, hni, nI_z, nI_eq, hcn]
      refine k_kind hEx hsx ?_
      rw [show kdR (mkE b len L) (.inr x.2.2.1, x.2.2.2.1, x.2.2.2.2.1) = eK (mkE b len L) x.2.2.1 from rfl, ← hcc]
      refine go_at (blk := b_Reader_readTape_61) rfl ?_
      simp (disch := omega) only [b_Reader_readTape_61, be_1, be_49_0, List.getD_cons_zero, List.getD_cons_succ, List.set_cons_zero, List.set_cons_succ, List.length_cons, List.length_nil, pk_I, pk_A, pr_A, pi_I, st_s, st_n, if_true, if_false, eq_self, d_if, d_ju, d_re, d_ca, cat0, cat1, cat2, cat3, fr_z, fr_s, cc_I, cc_A, cc_N, Nat.reduceAdd, Nat.reduceLT, Nat.reduceLeDiff, Nat.reduceEqDiff, not_true, not_false_iff, z1_0, z1_1, Bool.and_self, Bool.true_and, Bool.and_true, nI_add, pk_mul, nI_clamp, decide_true, Nat.le_refl, bI_eq, bI_z1, nI_ltI, nI_leI, g5, hni, nI_z, nI_eq, hcn]
      refine go_at (blk := b_Reader_readTape_67) rfl ?_
      simp (disch := omega) only [b_Reader_readTape_67, be_6, be_57_0, kc_2, List.getD_cons_zero, List.getD_cons_succ, List.set_cons_zero, List.set_cons_succ, List.length_cons, List.length_nil, pk_I, pk_A, pr_A, pi_I, st_s, st_n, if_true, if_false, eq_self, d_if, d_ju, d_re, d_ca, cat0, cat1, cat2, cat3, fr_z, fr_s, cc_I, cc_A, cc_N, Nat.reduceAdd, Nat.reduceLT, Nat.reduceLeDiff, Nat.reduceEqDiff, not_true, not_false_iff, z1_0, z1_1, Bool.and_self, Bool.true_and, Bool.and_true, nI_add, pk_mul, nI_clamp, decide_true, Nat.le_refl, bI_eq, bI_z1, nI_ltI, nI_leI, g5, hni, nI_z, nI_eq, hcn]
      refine k_tell hEx ⟨g1, g4, gt, g5, g6, gl, g7⟩ x4 hend ?_
      intro v3 w3 s3 D3 tl f3 c3 n3
      refine go_at (blk := b_Reader_readTape_71) rfl ?_
      simp (disch := omega) only [b_Reader_readTape_71, be_10, be_51, List.getD_cons_zero, List.getD_cons_succ, List.set_cons_zero, List.set_cons_succ, List.length_cons, List.length_nil, pk_I, pk_A, pr_A, pi_I, st_s, st_n, if_true, if_false, eq_self, d_if, d_ju, d_re, d_ca, cat0, cat1, cat2, cat3, fr_z, fr_s, cc_I, cc_A, cc_N, Nat.reduceAdd, Nat.reduceLT, Nat.reduceLeDiff, Nat.reduceEqDiff, not_true, not_false_iff, z1_0, z1_1, Bool.and_self, Bool.true_and, Bool.and_true, nI_add, pk_mul, nI_clamp, decide_true, Nat.le_refl, bI_eq, bI_z1, nI_ltI, nI_leI, g5, hni, nI_z, nI_eq, hcn]
      obtain ⟨r3, l3, p3⟩ := s3
      have hfr : ∀ c, c ≠ 2 → (c < 3 ∨ 19 < c) → v3 c = v2 c := fun c c1 c2 => (f3.1 c c1 c2).trans (x1 c c1 c2)
      have hfw : ∀ c, c ≠ 24 → w3 c = w2 c := fun c hc => (f3.2 c hc).trans (x2 c hc)
      cases r3 with
      | inl f =>
        obtain ⟨k, p'⟩ := f
        obtain ⟨b5, bk1, bk5, b1, bp, t9, bt, b4⟩ := c3
        have hk0 : ¬ nI k = 0 := nI_ne0 (by omega) (by omega)
        refine go_at (blk := b_Reader_readTape_43) rfl ?_
        simp (disch := omega) only [b_Reader_readTape_43, be_4, be_1, be_49_4, List.getD_cons_zero, List.getD_cons_succ, List.set_cons_zero, List.set_cons_succ, List.length_cons, List.length_nil, pk_I, pk_A, pr_A, pi_I, st_s, st_n, if_true, if_false, eq_self, d_if, d_ju, d_re, d_ca, cat0, cat1, cat2, cat3, fr_z, fr_s, cc_I, cc_A, cc_N, Nat.reduceAdd, Nat.reduceLT, Nat.reduceLeDiff, Nat.reduceEqDiff, not_true, not_false_iff, z1_0, z1_1, Bool.and_self, Bool.true_and, Bool.and_true, nI_add, pk_mul, nI_clamp, decide_true, Nat.le_refl, bI_eq, bI_z1, nI_ltI, nI_leI, b5, hk0]
        split
        · rename_i h9
          refine go_at (blk := b_Reader_readTape_77) rfl ?_
          simp (disch := omega) only [b_Reader_readTape_77, be_6, be_33, be_50_1, kc_2, List.getD_cons_zero, List.getD_cons_succ, List.set_cons_zero, List.set_cons_succ, List.length_cons, List.length_nil, pk_I, pk_A, pr_A, pi_I, st_s, st_n, if_true, if_false, eq_self, d_if, d_ju, d_re, d_ca, cat0, cat1, cat2, cat3, fr_z, fr_s, cc_I, cc_A, cc_N, Nat.reduceAdd, Nat.reduceLT, Nat.reduceLeDiff, Nat.reduceEqDiff, not_true, not_false_iff, z1_0, z1_1, Bool.and_self, Bool.true_and, Bool.and_true, nI_add, pk_mul, nI_clamp, decide_true, Nat.le_refl, bI_eq, bI_z1, nI_ltI, nI_leI, b5, hk0]
          refine go_at (blk := b_Reader_readTape_107) rfl ?_
          simp (disch := omega) only [b_Reader_readTape_107, be_6, be_33, be_54, kc_2, List.getD_cons_zero, List.getD_cons_succ, List.set_cons_zero, List.set_cons_succ, List.length_cons, List.length_nil, pk_I, pk_A, pr_A, pi_I, st_s, st_n, if_true, if_false, eq_self, d_if, d_ju, d_re, d_ca, cat0, cat1, cat2, cat3, fr_z, fr_s, cc_I, cc_A, cc_N, Nat.reduceAdd, Nat.reduceLT, Nat.reduceLeDiff, Nat.reduceEqDiff, not_true, not_false_iff, z1_0, z1_1, Bool.and_self, Bool.true_and, Bool.and_true, nI_add, pk_mul, nI_clamp, decide_true, Nat.le_refl, bI_eq, bI_z1, nI_ltI, nI_leI, b5, hk0]
          exact hQ v3 w3 L _ (.inl (k, p')) lx hfr hfw (x6 _ (fin_b hend tl rfl)) ⟨rfl, bk1, bk5, b1⟩
        · rename_i h9
          refine go_at (blk := b_Reader_readTape_50) rfl ?_
          simp (disch := omega) only [b_Reader_readTape_50, be_6, be_33, be_50_1, kc_2, List.getD_cons_zero, List.getD_cons_succ, List.set_cons_zero, List.set_cons_succ, List.length_cons, List.length_nil, pk_I, pk_A, pr_A, pi_I, st_s, st_n, if_true, if_false, eq_self, d_if, d_ju, d_re, d_ca, cat0, cat1, cat2, cat3, fr_z, fr_s, cc_I, cc_A, cc_N, Nat.reduceAdd, Nat.reduceLT, Nat.reduceLeDiff, Nat.reduceEqDiff, not_true, not_false_iff, z1_0, z1_1, Bool.and_self, Bool.true_and, Bool.and_true, nI_add, pk_mul, nI_clamp, decide_true, Nat.le_refl, bI_eq, bI_z1, nI_ltI, nI_leI, b5, hk0]
          refine go_at (blk := b_Reader_readTape_77) rfl ?_
          simp (disch := omega) only [b_Reader_readTape_77, be_6, be_33, be_50_1, kc_2, List.getD_cons_zero, List.getD_cons_succ, List.set_cons_zero, List.set_cons_succ, List.length_cons, List.length_nil, pk_I, pk_A, pr_A, pi_I, st_s, st_n, if_true, if_false, eq_self, d_if, d_ju, d_re, d_ca, cat0, cat1, cat2, cat3, fr_z, fr_s, cc_I, cc_A, cc_N, Nat.reduceAdd, Nat.reduceLT, Nat.reduceLeDiff, Nat.reduceEqDiff, not_true, not_false_iff, z1_0, z1_1, Bool.and_self, Bool.true_and, Bool.and_true, nI_add, pk_mul, nI_clamp, decide_true, Nat.le_refl, bI_eq, bI_z1, nI_ltI, nI_leI, b5, hk0]
          refine go_at (blk := b_Reader_readTape_107) rfl ?_
          simp (disch := omega) only [b_Reader_readTape_107, be_6, be_33, be_54, kc_2, List.getD_cons_zero, List.getD_cons_succ, List.set_cons_zero, List.set_cons_succ, List.length_cons, List.length_nil, pk_I, pk_A, pr_A, pi_I, st_s, st_n, if_true, if_false, eq_self, d_if, d_ju, d_re, d_ca, cat0, cat1, cat2, cat3, fr_z, fr_s, cc_I, cc_A, cc_N, Nat.reduceAdd, Nat.reduceLT, Nat.reduceLeDiff, Nat.reduceEqDiff, not_true, not_false_iff, z1_0, z1_1, Bool.and_self, Bool.true_and, Bool.and_true, nI_add, pk_mul, nI_clamp, decide_true, Nat.le_refl, bI_eq, bI_z1, nI_ltI, nI_leI, b5, hk0]
          exact hQ v3 w3 L _ (.inl (k, p')) lx hfr hfw (x6 _ (fin_b hend tl rfl)) ⟨rfl, bk1, bk5, b1⟩
      | inr t3 =>
        obtain ⟨tt3, dx3⟩ := n3 t3 rfl
        exact ih (v3, w3, t3, l3, p3, D3) ⟨hfr, hfw, c3, dx3, by dsimp only; omega, fun R hR => x6 R (fin_s hend tl rfl hR)⟩
  · intro x ⟨x1, x2, x3, x4, x5, x6⟩
    try dsimp only at *
    exfalso
    have h9 := x3.2.2.1
    have h8 := hE.1.1
    omega
