/-! laid by wip/whole/gC.py: the class: a text taken over; read -/
theorem cp_11 {X : am_X} {i m sl : Nat} {c : Int32} {is : List am_I} {ls : List Value} {r : Nat → Nat → Option Nat} {v : Nat → Nat → Int32} {w : Nat → Nat → Int64} (hm : m ≤ 400) : am_b X ((66, [i], c) :: is) (ls, [.int (nI m), .int (nI 0), .ref 33, .int (nI 0), .ref 11], (428, sl, KD, r, v, w)) = am_b X is (ls, [], (428, sl, KD, r, am_cpf v 11 33 0 0 m, w)) := by
  have h := be_66 (X := X) (i := i) (c := c) (is := is) (ls := ls) (st := []) (n := 428) (sl := sl) (kd := KD) (r := r) (v := v) (w := w) (a := 11) (b := 33) (na := 400) (nb := 400) (k := nI m) (dp := nI 0) (sp := nI 0) (by decide) (by decide) rfl rfl (by decide) (nI_pos (by omega)) (by decide) (by decide) (by rw [nI_clamp (n := m) (by omega)]; show 0 + m ≤ 400; omega) (by rw [nI_clamp (n := m) (by omega)]; show 0 + m ≤ 400; omega)
  rw [nI_clamp (show m < 2 ^ 31 by omega)] at h
  exact h
theorem cp_12 {X : am_X} {i m sl : Nat} {c : Int32} {is : List am_I} {ls : List Value} {r : Nat → Nat → Option Nat} {v : Nat → Nat → Int32} {w : Nat → Nat → Int64} (hm : m ≤ 400) : am_b X ((66, [i], c) :: is) (ls, [.int (nI m), .int (nI 0), .ref 34, .int (nI 0), .ref 12], (428, sl, KD, r, v, w)) = am_b X is (ls, [], (428, sl, KD, r, am_cpf v 12 34 0 0 m, w)) := by
  have h := be_66 (X := X) (i := i) (c := c) (is := is) (ls := ls) (st := []) (n := 428) (sl := sl) (kd := KD) (r := r) (v := v) (w := w) (a := 12) (b := 34) (na := 400) (nb := 400) (k := nI m) (dp := nI 0) (sp := nI 0) (by decide) (by decide) rfl rfl (by decide) (nI_pos (by omega)) (by decide) (by decide) (by rw [nI_clamp (n := m) (by omega)]; show 0 + m ≤ 400; omega) (by rw [nI_clamp (n := m) (by omega)]; show 0 + m ≤ 400; omega)
  rw [nI_clamp (show m < 2 ^ 31 by omega)] at h
  exact h
theorem cp_16 {X : am_X} {i m sl : Nat} {c : Int32} {is : List am_I} {ls : List Value} {r : Nat → Nat → Option Nat} {v : Nat → Nat → Int32} {w : Nat → Nat → Int64} (hm : m ≤ 400) : am_b X ((66, [i], c) :: is) (ls, [.int (nI m), .int (nI 0), .ref 38, .int (nI 0), .ref 16], (428, sl, KD, r, v, w)) = am_b X is (ls, [], (428, sl, KD, r, am_cpf v 16 38 0 0 m, w)) := by
  have h := be_66 (X := X) (i := i) (c := c) (is := is) (ls := ls) (st := []) (n := 428) (sl := sl) (kd := KD) (r := r) (v := v) (w := w) (a := 16) (b := 38) (na := 400) (nb := 400) (k := nI m) (dp := nI 0) (sp := nI 0) (by decide) (by decide) rfl rfl (by decide) (nI_pos (by omega)) (by decide) (by decide) (by rw [nI_clamp (n := m) (by omega)]; show 0 + m ≤ 400; omega) (by rw [nI_clamp (n := m) (by omega)]; show 0 + m ≤ 400; omega)
  rw [nI_clamp (show m < 2 ^ 31 by omega)] at h
  exact h
theorem cp_17 {X : am_X} {i m sl : Nat} {c : Int32} {is : List am_I} {ls : List Value} {r : Nat → Nat → Option Nat} {v : Nat → Nat → Int32} {w : Nat → Nat → Int64} (hm : m ≤ 400) : am_b X ((66, [i], c) :: is) (ls, [.int (nI m), .int (nI 0), .ref 39, .int (nI 0), .ref 17], (428, sl, KD, r, v, w)) = am_b X is (ls, [], (428, sl, KD, r, am_cpf v 17 39 0 0 m, w)) := by
  have h := be_66 (X := X) (i := i) (c := c) (is := is) (ls := ls) (st := []) (n := 428) (sl := sl) (kd := KD) (r := r) (v := v) (w := w) (a := 17) (b := 39) (na := 400) (nb := 400) (k := nI m) (dp := nI 0) (sp := nI 0) (by decide) (by decide) rfl rfl (by decide) (nI_pos (by omega)) (by decide) (by decide) (by rw [nI_clamp (n := m) (by omega)]; show 0 + m ≤ 400; omega) (by rw [nI_clamp (n := m) (by omega)]; show 0 + m ≤ 400; omega)
  rw [nI_clamp (show m < 2 ^ 31 by omega)] at h
  exact h
theorem cpf_at {v : Nat → Nat → Int32} {a b m j : Nat} (h : j < m) : am_cpf v a b 0 0 m b j = v a j := by
  unfold am_cpf
  rw [if_pos rfl, pk_cpy_in (Nat.zero_le _) (by omega), Nat.zero_add, Nat.sub_zero]
theorem cpf_ne {v : Nat → Nat → Int32} {a b m c : Nat} (h : c ≠ b) : am_cpf v a b 0 0 m c = v c := if_neg h
theorem k_lcopy10 {d : Nat} {v : Nat → Nat → Int32} {w : Nat → Nat → Int64} {Q : Option Value → am_H → Prop} {l : CL} (hC : LC v 10 l) (hl : l.length ≤ 400) (hQ : ∀ v', (∀ c, c ≠ 32 → c ≠ 33 → c ≠ 34 → v' c = v c) → LC v' 32 l → Q none (428, 26053, KD, RF, v', w)) : am_Ca (d + 1) M_Law_copyFrom [.ref 32, .ref 10] (428, 26053, KD, RF, v, w) Q := by
  have hlen := hC.1
  refine ca_in (k := k_Law_copyFrom) (nL := 2) rfl (Nat.le_of_ble_eq_true rfl) ?_
  show am_Go am_X0 _ k_Law_copyFrom 0 ([.ref 32, .ref 10], [], _) _
  refine go_at (blk := b_Law_copyFrom_0) rfl ?_
  simp (disch := omega) only [b_Law_copyFrom_0, be_6, be_34, be_1, be_33, be_35, be_56, kc_10, rf_10_0, kc_32, rf_32_0, rf_10_1, rf_32_1, List.getD_cons_zero, List.getD_cons_succ, List.set_cons_zero, List.set_cons_succ, List.length_cons, List.length_nil, pk_I, pk_A, pr_A, pi_I, st_s, st_n, if_true, if_false, eq_self, d_if, d_ju, d_re, d_ca, cat0, cat1, cat2, cat3, fr_z, fr_s, cc_I, cc_A, cc_N, Nat.reduceAdd, Nat.reduceLT, Nat.reduceLeDiff, Nat.reduceEqDiff, not_true, not_false_iff, z1_0, z1_1, Bool.and_self, Bool.true_and, Bool.and_true, nI_add, pk_mul, nI_clamp, decide_true, Nat.le_refl, bI_eq, bI_z1, am_u_at, am_u_ne, upd_at, upd_ne, cp_11, cp_12, hlen, cpf_ne]
  refine hQ _ (fun c c1 c2 c3 => by rw [am_u_ne c1, cpf_ne c3, cpf_ne c2]) ⟨by rw [am_u_at, upd_at], fun j hj => ?_⟩
  rw [am_u_ne (by omega), am_u_ne (by omega), cpf_ne (by omega), cpf_at (by omega), cpf_at (by omega), cpf_ne (by omega)]
  exact hC.2 j hj
theorem k_lcopy15 {d : Nat} {v : Nat → Nat → Int32} {w : Nat → Nat → Int64} {Q : Option Value → am_H → Prop} {l : CL} (hC : LC v 15 l) (hl : l.length ≤ 400) (hQ : ∀ v', (∀ c, c ≠ 37 → c ≠ 38 → c ≠ 39 → v' c = v c) → LC v' 37 l → Q none (428, 26053, KD, RF, v', w)) : am_Ca (d + 1) M_Law_copyFrom [.ref 37, .ref 15] (428, 26053, KD, RF, v, w) Q := by
  have hlen := hC.1
  refine ca_in (k := k_Law_copyFrom) (nL := 2) rfl (Nat.le_of_ble_eq_true rfl) ?_
  show am_Go am_X0 _ k_Law_copyFrom 0 ([.ref 37, .ref 15], [], _) _
  refine go_at (blk := b_Law_copyFrom_0) rfl ?_
  simp (disch := omega) only [b_Law_copyFrom_0, be_6, be_34, be_1, be_33, be_35, be_56, kc_15, rf_15_0, kc_37, rf_37_0, rf_15_1, rf_37_1, List.getD_cons_zero, List.getD_cons_succ, List.set_cons_zero, List.set_cons_succ, List.length_cons, List.length_nil, pk_I, pk_A, pr_A, pi_I, st_s, st_n, if_true, if_false, eq_self, d_if, d_ju, d_re, d_ca, cat0, cat1, cat2, cat3, fr_z, fr_s, cc_I, cc_A, cc_N, Nat.reduceAdd, Nat.reduceLT, Nat.reduceLeDiff, Nat.reduceEqDiff, not_true, not_false_iff, z1_0, z1_1, Bool.and_self, Bool.true_and, Bool.and_true, nI_add, pk_mul, nI_clamp, decide_true, Nat.le_refl, bI_eq, bI_z1, am_u_at, am_u_ne, upd_at, upd_ne, cp_16, cp_17, hlen, cpf_ne]
  refine hQ _ (fun c c1 c2 c3 => by rw [am_u_ne c1, cpf_ne c3, cpf_ne c2]) ⟨by rw [am_u_at, upd_at], fun j hj => ?_⟩
  rw [am_u_ne (by omega), am_u_ne (by omega), cpf_ne (by omega), cpf_at (by omega), cpf_at (by omega), cpf_ne (by omega)]
  exact hC.2 j hj
/-- the class's text is that of a draft -/
def TXD (v : Nat → Nat → Int32) (D : DRF) : Prop := v 25 0 = nI D.1 ∧ v 25 1 = nI D.2.1 ∧ v 25 2 = nI D.2.2.1 ∧ (∀ p, p < D.2.2.1 → v 26 p = nI (D.2.2.2.1 1 p) ∧ v 27 p = nI (D.2.2.2.1 2 p) ∧ v 28 p = nI (D.2.2.2.1 3 p) ∧ v 29 p = nI (D.2.2.2.1 4 p) ∧ v 30 p = nI (D.2.2.2.1 5 p) ∧ v 31 p = nI (D.2.2.2.1 6 p)) ∧ LC v 32 (lwc dM D.2.2.2.2.1) ∧ LC v 37 (lwc dH D.2.2.2.2.2)
theorem vb_n {k : Nat} (h : k ≤ 1) : vp_nar FieldType.boolean (nI k) = nI k := by
  rcases (show k = 0 ∨ k = 1 by omega) with rfl | rfl
  · exact vb_0
  · exact vb_1
def b_Text_copyFrom_34_c6 : List am_I := (10, [2, 1], 0) :: (51, [26], 0) :: []
def b_Text_copyFrom_34_c5 : List am_I := (6, [0], 0) :: (34, [37, 5, 8], 0) :: (4, [2], 0) :: (6, [1], 0) :: (34, [37, 5, 8], 0) :: (4, [2], 0) :: (40, [], 0) :: (45, [], 0) :: b_Text_copyFrom_34_c6
def b_Text_copyFrom_34_c4 : List am_I := (6, [0], 0) :: (34, [34, 5, 7], 0) :: (4, [2], 0) :: (6, [1], 0) :: (34, [34, 5, 7], 0) :: (4, [2], 0) :: (38, [], 0) :: (43, [], 0) :: b_Text_copyFrom_34_c5
def b_Text_copyFrom_34_c3 : List am_I := (6, [0], 0) :: (34, [31, 5, 6], 0) :: (4, [2], 0) :: (6, [1], 0) :: (34, [31, 5, 6], 0) :: (4, [2], 0) :: (38, [], 0) :: (43, [], 0) :: b_Text_copyFrom_34_c4
def b_Text_copyFrom_34_c2 : List am_I := (6, [0], 0) :: (34, [28, 5, 5], 0) :: (4, [2], 0) :: (6, [1], 0) :: (34, [28, 5, 5], 0) :: (4, [2], 0) :: (38, [], 0) :: (43, [], 0) :: b_Text_copyFrom_34_c3
def b_Text_copyFrom_34_c1 : List am_I := (6, [0], 0) :: (34, [25, 5, 4], 0) :: (4, [2], 0) :: (6, [1], 0) :: (34, [25, 5, 4], 0) :: (4, [2], 0) :: (38, [], 0) :: (43, [], 0) :: b_Text_copyFrom_34_c2
theorem b_Text_copyFrom_34_c0 : b_Text_copyFrom_34 = (6, [0], 0) :: (34, [21, 5, 3], 0) :: (4, [2], 0) :: (6, [1], 0) :: (34, [21, 5, 3], 0) :: (4, [2], 0) :: (38, [], 0) :: (43, [], 0) :: b_Text_copyFrom_34_c1 := rfl
set_option maxHeartbeats 2000000 in
theorem k_tcopy {d : Nat} {v : Nat → Nat → Int32} {w : Nat → Nat → Int64} {Q : Option Value → am_H → Prop} {D : DRF} (hD : DX v w D) (h6 : ∀ p, p < D.2.2.1 → D.2.2.2.1 6 p ≤ 1) (hQ : ∀ v', (∀ c, (c < 25 ∨ 39 < c) → v' c = v c) → TXD v' D → Q none (428, 26053, KD, RF, v', w)) : am_Ca (d + 2) M_Text_copyFrom [.ref 25, .ref 3] (428, 26053, KD, RF, v, w) Q := by
  obtain ⟨d1, d2, ⟨d31, d32, d33⟩, d4, d5, d6, d7, d8⟩ := hD
  refine ca_in (k := k_Text_copyFrom) (nL := 3) rfl (Nat.le_of_ble_eq_true rfl) ?_
  show am_Go am_X0 _ k_Text_copyFrom 0 ([.ref 25, .ref 3, .null], [], _) _
  refine go_at (blk := b_Text_copyFrom_0) rfl ?_
  simp (disch := omega) only [b_Text_copyFrom_0, be_6, be_33, be_35, be_1, be_7, be_0, kc_3, kc_25, List.getD_cons_zero, List.getD_cons_succ, List.set_cons_zero, List.set_cons_succ, List.length_cons, List.length_nil, pk_I, pk_A, pr_A, pi_I, st_s, st_n, if_true, if_false, eq_self, d_if, d_ju, d_re, d_ca, cat0, cat1, cat2, cat3, fr_z, fr_s, cc_I, cc_A, cc_N, Nat.reduceAdd, Nat.reduceLT, Nat.reduceLeDiff, Nat.reduceEqDiff, not_true, not_false_iff, z1_0, z1_1, Bool.and_self, Bool.true_and, Bool.and_true, nI_add, pk_mul, nI_clamp, decide_true, Nat.le_refl, bI_eq, bI_z1, am_u_at, am_u_ne, upd_at, upd_ne, d1, d2, d31]
  refine go_loopA (α := (Nat → Nat → Int32)) (fun i x => ([.ref 25, .ref 3, .int (nI i)], [], (428, 26053, KD, RF, x, w))) (fun i x => (∀ c, (c < 25 ∨ 31 < c) → x c = v c) ∧ x 25 = (am_u (am_u (am_u v 25 0 (nI D.1)) 25 1 (nI D.2.1)) 25 2 (nI D.2.2.1)) 25 ∧ ∀ p, p < i → x 26 p = nI (D.2.2.2.1 1 p) ∧ x 27 p = nI (D.2.2.2.1 2 p) ∧ x 28 p = nI (D.2.2.2.1 3 p) ∧ x 29 p = nI (D.2.2.2.1 4 p) ∧ x 30 p = nI (D.2.2.2.1 5 p) ∧ x 31 p = nI (D.2.2.2.1 6 p)) (D.2.2.1) ?_ ?_ (am_u (am_u (am_u v 25 0 (nI D.1)) 25 1 (nI D.2.1)) 25 2 (nI D.2.2.1)) ⟨fun c hc => by simp (disch := omega) only [am_u_ne], rfl, fun p hp => absurd hp (Nat.not_lt_zero _)⟩
  · intro i x hi ⟨x1, x2, x3⟩ ih
    try dsimp only at *
    have hni : ¬ D.2.2.1 ≤ i := by omega
    have k2 : x 25 2 = nI D.2.2.1 := by rw [x2, am_u_at, upd_at]
    obtain ⟨a1, a2, a3, a4, a5, a6⟩ := d4 i hi
    have e4 : x 4 i = nI (D.2.2.2.1 1 i) := by rw [x1 4 (by omega)]; exact a1
    have e5 : x 5 i = nI (D.2.2.2.1 2 i) := by rw [x1 5 (by omega)]; exact a2
    have e6 : x 6 i = nI (D.2.2.2.1 3 i) := by rw [x1 6 (by omega)]; exact a3
    have e7 : x 7 i = nI (D.2.2.2.1 4 i) := by rw [x1 7 (by omega)]; exact a4
    have e8 : x 8 i = nI (D.2.2.2.1 5 i) := by rw [x1 8 (by omega)]; exact a5
    have e9 : x 9 i = nI (D.2.2.2.1 6 i) := by rw [x1 9 (by omega)]; exact a6
    have vb9 := vb_n (h6 i hi)
    refine go_at (blk := b_Text_copyFrom_26) rfl ?_
    simp (disch := omega) only [b_Text_copyFrom_26, be_4, be_6, be_33, be_49_3, kc_25, List.getD_cons_zero, List.getD_cons_succ, List.set_cons_zero, List.set_cons_succ, List.length_cons, List.length_nil, pk_I, pk_A, pr_A, pi_I, st_s, st_n, if_true, if_false, eq_self, d_if, d_ju, d_re, d_ca, cat0, cat1, cat2, cat3, fr_z, fr_s, cc_I, cc_A, cc_N, Nat.reduceAdd, Nat.reduceLT, Nat.reduceLeDiff, Nat.reduceEqDiff, not_true, not_false_iff, z1_0, z1_1, Bool.and_self, Bool.true_and, Bool.and_true, nI_add, pk_mul, nI_clamp, decide_true, Nat.le_refl, bI_eq, bI_z1, nI_ltI, nI_leI, am_u_ne, hni, k2, e4, e5, e6, e7, e8, e9, vb9]
    refine go_at (blk := b_Text_copyFrom_34) rfl ?_
    simp (disch := omega) only [b_Text_copyFrom_34_c0, be_6, be_34, be_4, be_38, be_43, be_40, be_45, be_10, be_51, kc_25, rf_25_3, kc_3, rf_3_3, ka_4, ka_26, rf_25_4, rf_3_4, ka_5, ka_27, rf_25_5, rf_3_5, ka_6, ka_28, rf_25_6, rf_3_6, ka_7, ka_29, rf_25_7, rf_3_7, ka_8, ka_30, rf_25_8, rf_3_8, ka_9, ka_31, List.getD_cons_zero, List.getD_cons_succ, List.set_cons_zero, List.set_cons_succ, List.length_cons, List.length_nil, pk_I, pk_A, pr_A, pi_I, st_s, st_n, if_true, if_false, eq_self, d_if, d_ju, d_re, d_ca, cat0, cat1, cat2, cat3, fr_z, fr_s, cc_I, cc_A, cc_N, Nat.reduceAdd, Nat.reduceLT, Nat.reduceLeDiff, Nat.reduceEqDiff, not_true, not_false_iff, z1_0, z1_1, Bool.and_self, Bool.true_and, Bool.and_true, nI_add, pk_mul, nI_clamp, decide_true, Nat.le_refl, bI_eq, bI_z1, nI_ltI, nI_leI, am_u_ne, hni, k2, e4, e5, e6, e7, e8, e9, vb9]
    simp (disch := omega) only [b_Text_copyFrom_34_c1, be_6, be_34, be_4, be_38, be_43, be_40, be_45, be_10, be_51, kc_25, rf_25_3, kc_3, rf_3_3, ka_4, ka_26, rf_25_4, rf_3_4, ka_5, ka_27, rf_25_5, rf_3_5, ka_6, ka_28, rf_25_6, rf_3_6, ka_7, ka_29, rf_25_7, rf_3_7, ka_8, ka_30, rf_25_8, rf_3_8, ka_9, ka_31, List.getD_cons_zero, List.getD_cons_succ, List.set_cons_zero, List.set_cons_succ, List.length_cons, List.length_nil, pk_I, pk_A, pr_A, pi_I, st_s, st_n, if_true, if_false, eq_self, d_if, d_ju, d_re, d_ca, cat0, cat1, cat2, cat3, fr_z, fr_s, cc_I, cc_A, cc_N, Nat.reduceAdd, Nat.reduceLT, Nat.reduceLeDiff, Nat.reduceEqDiff, not_true, not_false_iff, z1_0, z1_1, Bool.and_self, Bool.true_and, Bool.and_true, nI_add, pk_mul, nI_clamp, decide_true, Nat.le_refl, bI_eq, bI_z1, nI_ltI, nI_leI, am_u_ne, hni, k2, e4, e5, e6, e7, e8, e9, vb9]
    simp (disch := omega) only [b_Text_copyFrom_34_c2, be_6, be_34, be_4, be_38, be_43, be_40, be_45, be_10, be_51, kc_25, rf_25_3, kc_3, rf_3_3, ka_4, ka_26, rf_25_4, rf_3_4, ka_5, ka_27, rf_25_5, rf_3_5, ka_6, ka_28, rf_25_6, rf_3_6, ka_7, ka_29, rf_25_7, rf_3_7, ka_8, ka_30, rf_25_8, rf_3_8, ka_9, ka_31, List.getD_cons_zero, List.getD_cons_succ, List.set_cons_zero, List.set_cons_succ, List.length_cons, List.length_nil, pk_I, pk_A, pr_A, pi_I, st_s, st_n, if_true, if_false, eq_self, d_if, d_ju, d_re, d_ca, cat0, cat1, cat2, cat3, fr_z, fr_s, cc_I, cc_A, cc_N, Nat.reduceAdd, Nat.reduceLT, Nat.reduceLeDiff, Nat.reduceEqDiff, not_true, not_false_iff, z1_0, z1_1, Bool.and_self, Bool.true_and, Bool.and_true, nI_add, pk_mul, nI_clamp, decide_true, Nat.le_refl, bI_eq, bI_z1, nI_ltI, nI_leI, am_u_ne, hni, k2, e4, e5, e6, e7, e8, e9, vb9]
    simp (disch := omega) only [b_Text_copyFrom_34_c3, be_6, be_34, be_4, be_38, be_43, be_40, be_45, be_10, be_51, kc_25, rf_25_3, kc_3, rf_3_3, ka_4, ka_26, rf_25_4, rf_3_4, ka_5, ka_27, rf_25_5, rf_3_5, ka_6, ka_28, rf_25_6, rf_3_6, ka_7, ka_29, rf_25_7, rf_3_7, ka_8, ka_30, rf_25_8, rf_3_8, ka_9, ka_31, List.getD_cons_zero, List.getD_cons_succ, List.set_cons_zero, List.set_cons_succ, List.length_cons, List.length_nil, pk_I, pk_A, pr_A, pi_I, st_s, st_n, if_true, if_false, eq_self, d_if, d_ju, d_re, d_ca, cat0, cat1, cat2, cat3, fr_z, fr_s, cc_I, cc_A, cc_N, Nat.reduceAdd, Nat.reduceLT, Nat.reduceLeDiff, Nat.reduceEqDiff, not_true, not_false_iff, z1_0, z1_1, Bool.and_self, Bool.true_and, Bool.and_true, nI_add, pk_mul, nI_clamp, decide_true, Nat.le_refl, bI_eq, bI_z1, nI_ltI, nI_leI, am_u_ne, hni, k2, e4, e5, e6, e7, e8, e9, vb9]
    simp (disch := omega) only [b_Text_copyFrom_34_c4, be_6, be_34, be_4, be_38, be_43, be_40, be_45, be_10, be_51, kc_25, rf_25_3, kc_3, rf_3_3, ka_4, ka_26, rf_25_4, rf_3_4, ka_5, ka_27, rf_25_5, rf_3_5, ka_6, ka_28, rf_25_6, rf_3_6, ka_7, ka_29, rf_25_7, rf_3_7, ka_8, ka_30, rf_25_8, rf_3_8, ka_9, ka_31, List.getD_cons_zero, List.getD_cons_succ, List.set_cons_zero, List.set_cons_succ, List.length_cons, List.length_nil, pk_I, pk_A, pr_A, pi_I, st_s, st_n, if_true, if_false, eq_self, d_if, d_ju, d_re, d_ca, cat0, cat1, cat2, cat3, fr_z, fr_s, cc_I, cc_A, cc_N, Nat.reduceAdd, Nat.reduceLT, Nat.reduceLeDiff, Nat.reduceEqDiff, not_true, not_false_iff, z1_0, z1_1, Bool.and_self, Bool.true_and, Bool.and_true, nI_add, pk_mul, nI_clamp, decide_true, Nat.le_refl, bI_eq, bI_z1, nI_ltI, nI_leI, am_u_ne, hni, k2, e4, e5, e6, e7, e8, e9, vb9]
    simp (disch := omega) only [b_Text_copyFrom_34_c5, be_6, be_34, be_4, be_38, be_43, be_40, be_45, be_10, be_51, kc_25, rf_25_3, kc_3, rf_3_3, ka_4, ka_26, rf_25_4, rf_3_4, ka_5, ka_27, rf_25_5, rf_3_5, ka_6, ka_28, rf_25_6, rf_3_6, ka_7, ka_29, rf_25_7, rf_3_7, ka_8, ka_30, rf_25_8, rf_3_8, ka_9, ka_31, List.getD_cons_zero, List.getD_cons_succ, List.set_cons_zero, List.set_cons_succ, List.length_cons, List.length_nil, pk_I, pk_A, pr_A, pi_I, st_s, st_n, if_true, if_false, eq_self, d_if, d_ju, d_re, d_ca, cat0, cat1, cat2, cat3, fr_z, fr_s, cc_I, cc_A, cc_N, Nat.reduceAdd, Nat.reduceLT, Nat.reduceLeDiff, Nat.reduceEqDiff, not_true, not_false_iff, z1_0, z1_1, Bool.and_self, Bool.true_and, Bool.and_true, nI_add, pk_mul, nI_clamp, decide_true, Nat.le_refl, bI_eq, bI_z1, nI_ltI, nI_leI, am_u_ne, hni, k2, e4, e5, e6, e7, e8, e9, vb9]
    simp (disch := omega) only [b_Text_copyFrom_34_c6, be_6, be_34, be_4, be_38, be_43, be_40, be_45, be_10, be_51, kc_25, rf_25_3, kc_3, rf_3_3, ka_4, ka_26, rf_25_4, rf_3_4, ka_5, ka_27, rf_25_5, rf_3_5, ka_6, ka_28, rf_25_6, rf_3_6, ka_7, ka_29, rf_25_7, rf_3_7, ka_8, ka_30, rf_25_8, rf_3_8, ka_9, ka_31, List.getD_cons_zero, List.getD_cons_succ, List.set_cons_zero, List.set_cons_succ, List.length_cons, List.length_nil, pk_I, pk_A, pr_A, pi_I, st_s, st_n, if_true, if_false, eq_self, d_if, d_ju, d_re, d_ca, cat0, cat1, cat2, cat3, fr_z, fr_s, cc_I, cc_A, cc_N, Nat.reduceAdd, Nat.reduceLT, Nat.reduceLeDiff, Nat.reduceEqDiff, not_true, not_false_iff, z1_0, z1_1, Bool.and_self, Bool.true_and, Bool.and_true, nI_add, pk_mul, nI_clamp, decide_true, Nat.le_refl, bI_eq, bI_z1, nI_ltI, nI_leI, am_u_ne, hni, k2, e4, e5, e6, e7, e8, e9, vb9]
    refine ih _ ⟨?_, ?_, ?_⟩
    · intro c c1
      simp (disch := omega) only [am_u_ne]
      exact x1 c c1
    · simp (disch := omega) only [am_u_ne]
      exact x2
    · intro p hp
      by_cases e : p = i
      · subst e
        simp (disch := omega) only [am_u_ne, am_u_at, upd_at]
        first | exact ⟨trivial, trivial, trivial, trivial, trivial, trivial⟩ | trivial | exact ⟨rfl, rfl, rfl, rfl, rfl, rfl⟩ | skip
      · simp (disch := omega) only [am_u_ne, am_u_at, upd_ne]
        exact x3 p (by omega)
  · intro x ⟨x1, x2, x3⟩
    try dsimp only at *
    have k2 : x 25 2 = nI D.2.2.1 := by rw [x2, am_u_at, upd_at]
    refine go_at (blk := b_Text_copyFrom_26) rfl ?_
    simp (disch := omega) only [b_Text_copyFrom_26, be_4, be_6, be_33, be_49_3, kc_25, List.getD_cons_zero, List.getD_cons_succ, List.set_cons_zero, List.set_cons_succ, List.length_cons, List.length_nil, pk_I, pk_A, pr_A, pi_I, st_s, st_n, if_true, if_false, eq_self, d_if, d_ju, d_re, d_ca, cat0, cat1, cat2, cat3, fr_z, fr_s, cc_I, cc_A, cc_N, Nat.reduceAdd, Nat.reduceLT, Nat.reduceLeDiff, Nat.reduceEqDiff, not_true, not_false_iff, z1_0, z1_1, Bool.and_self, Bool.true_and, Bool.and_true, nI_add, pk_mul, nI_clamp, decide_true, Nat.le_refl, bI_eq, bI_z1, nI_ltI, nI_leI, k2]
    refine go_at (blk := b_Text_copyFrom_112) rfl ?_
    simp (disch := omega) only [b_Text_copyFrom_112, be_6, be_34, be_57_1, kc_25, rf_25_9, kc_3, rf_3_9, kc_32, List.getD_cons_zero, List.getD_cons_succ, List.set_cons_zero, List.set_cons_succ, List.length_cons, List.length_nil, pk_I, pk_A, pr_A, pi_I, st_s, st_n, if_true, if_false, eq_self, d_if, d_ju, d_re, d_ca, cat0, cat1, cat2, cat3, fr_z, fr_s, cc_I, cc_A, cc_N, Nat.reduceAdd, Nat.reduceLT, Nat.reduceLeDiff, Nat.reduceEqDiff, not_true, not_false_iff, z1_0, z1_1, Bool.and_self, Bool.true_and, Bool.and_true, nI_add, pk_mul, nI_clamp, decide_true, Nat.le_refl, bI_eq, bI_z1, nI_ltI, nI_leI, k2]
    refine k_lcopy10 (l := lwc dM D.2.2.2.2.1) ⟨by rw [x1 10 (by omega)]; exact d5.1, fun j hj => by rw [x1 11 (by omega), x1 12 (by omega)]; exact d5.2 j hj⟩ d6 ?_
    intro v2 f2 c2
    refine go_at (blk := b_Text_copyFrom_123) rfl ?_
    simp (disch := omega) only [b_Text_copyFrom_123, be_6, be_34, be_57_1, kc_25, rf_25_10, kc_3, rf_3_10, kc_37, List.getD_cons_zero, List.getD_cons_succ, List.set_cons_zero, List.set_cons_succ, List.length_cons, List.length_nil, pk_I, pk_A, pr_A, pi_I, st_s, st_n, if_true, if_false, eq_self, d_if, d_ju, d_re, d_ca, cat0, cat1, cat2, cat3, fr_z, fr_s, cc_I, cc_A, cc_N, Nat.reduceAdd, Nat.reduceLT, Nat.reduceLeDiff, Nat.reduceEqDiff, not_true, not_false_iff, z1_0, z1_1, Bool.and_self, Bool.true_and, Bool.and_true, nI_add, pk_mul, nI_clamp, decide_true, Nat.le_refl, bI_eq, bI_z1, nI_ltI, nI_leI, k2]
    refine k_lcopy15 (l := lwc dH D.2.2.2.2.2) ⟨by rw [f2 15 (by omega) (by omega) (by omega), x1 15 (by omega)]; exact d7.1, fun j hj => by rw [f2 16 (by omega) (by omega) (by omega), f2 17 (by omega) (by omega) (by omega), x1 16 (by omega), x1 17 (by omega)]; exact d7.2 j hj⟩ d8 ?_
    intro v3 f3 c3
    refine go_at (blk := b_Text_copyFrom_134) rfl ?_
    simp (disch := omega) only [b_Text_copyFrom_134, be_56, List.getD_cons_zero, List.getD_cons_succ, List.set_cons_zero, List.set_cons_succ, List.length_cons, List.length_nil, pk_I, pk_A, pr_A, pi_I, st_s, st_n, if_true, if_false, eq_self, d_if, d_ju, d_re, d_ca, cat0, cat1, cat2, cat3, fr_z, fr_s, cc_I, cc_A, cc_N, Nat.reduceAdd, Nat.reduceLT, Nat.reduceLeDiff, Nat.reduceEqDiff, not_true, not_false_iff, z1_0, z1_1, Bool.and_self, Bool.true_and, Bool.and_true, nI_add, pk_mul, nI_clamp, decide_true, Nat.le_refl, bI_eq, bI_z1, nI_ltI, nI_leI, k2]
    have hg : ∀ c, (c < 32 ∨ 39 < c) → v3 c = x c := fun c hc => (f3 c (by omega) (by omega) (by omega)).trans (f2 c (by omega) (by omega) (by omega))
    refine hQ v3 (fun c hc => (hg c (by omega)).trans (x1 c (by omega))) ⟨?_, ?_, ?_, ?_, ?_, c3⟩
    · rw [hg 25 (by omega), x2, am_u_at, upd_ne (by omega), am_u_at, upd_ne (by omega), am_u_at, upd_at]
    · rw [hg 25 (by omega), x2, am_u_at, upd_ne (by omega), am_u_at, upd_at]
    · rw [hg 25 (by omega), x2, am_u_at, upd_at]
    · intro p hp
      rw [hg 26 (by omega), hg 27 (by omega), hg 28 (by omega), hg 29 (by omega), hg 30 (by omega), hg 31 (by omega)]
      exact x3 p hp
    · exact ⟨by rw [f3 32 (by omega) (by omega) (by omega)]; exact c2.1, fun j hj => by rw [f3 33 (by omega) (by omega) (by omega), f3 34 (by omega) (by omega) (by omega)]; exact c2.2 j hj⟩
theorem k_empty {d : Nat} {v : Nat → Nat → Int32} {w : Nat → Nat → Int64} {Q : Option Value → am_H → Prop} (hQ : ∀ v', (∀ c, c ≠ 369 → v' c = v c) → (∀ s, s < 3 → v' 369 s = 0) → Q none (428, 26053, KD, RF, v', w)) : am_Ca (d + 1) M_KneeStair_emptySlots [.ref 0] (428, 26053, KD, RF, v, w) Q := by
  refine ca_in (k := k_KneeStair_emptySlots) (nL := 2) rfl (Nat.le_of_ble_eq_true rfl) ?_
  show am_Go am_X0 _ k_KneeStair_emptySlots 0 ([.ref 0, .null], [], _) _
  refine go_at (blk := b_KneeStair_emptySlots_0) rfl ?_
  simp (disch := omega) only [b_KneeStair_emptySlots_0, be_1, be_7, be_0, List.getD_cons_zero, List.getD_cons_succ, List.set_cons_zero, List.set_cons_succ, List.length_cons, List.length_nil, pk_I, pk_A, pr_A, pi_I, st_s, st_n, if_true, if_false, eq_self, d_if, d_ju, d_re, d_ca, cat0, cat1, cat2, cat3, fr_z, fr_s, cc_I, cc_A, cc_N, Nat.reduceAdd, Nat.reduceLT, Nat.reduceLeDiff, Nat.reduceEqDiff, not_true, not_false_iff, z1_0, z1_1, Bool.and_self, Bool.true_and, Bool.and_true, nI_add, pk_mul, nI_clamp, decide_true, Nat.le_refl, bI_eq, bI_z1]
  refine go_loopA (α := (Nat → Nat → Int32)) (fun i x => ([.ref 0, .int (nI i)], [], (428, 26053, KD, RF, x, w))) (fun i x => (∀ c, c ≠ 369 → x c = v c) ∧ ∀ s, s < i → x 369 s = 0) (3) ?_ ?_ v ⟨fun _ _ => rfl, fun s hs => absurd hs (Nat.not_lt_zero _)⟩
  · intro i x hi ⟨x1, x2⟩ ih
    try dsimp only at *
    have hni : ¬ 3 ≤ i := by omega
    refine go_at (blk := b_KneeStair_emptySlots_2) rfl ?_
    simp (disch := omega) only [b_KneeStair_emptySlots_2, be_4, be_1, be_49_3, List.getD_cons_zero, List.getD_cons_succ, List.set_cons_zero, List.set_cons_succ, List.length_cons, List.length_nil, pk_I, pk_A, pr_A, pi_I, st_s, st_n, if_true, if_false, eq_self, d_if, d_ju, d_re, d_ca, cat0, cat1, cat2, cat3, fr_z, fr_s, cc_I, cc_A, cc_N, Nat.reduceAdd, Nat.reduceLT, Nat.reduceLeDiff, Nat.reduceEqDiff, not_true, not_false_iff, z1_0, z1_1, Bool.and_self, Bool.true_and, Bool.and_true, nI_add, pk_mul, nI_clamp, decide_true, Nat.le_refl, bI_eq, bI_z1, nI_ltI, nI_leI, vb_0, hni]
    refine go_at (blk := b_KneeStair_emptySlots_7) rfl ?_
    simp (disch := omega) only [b_KneeStair_emptySlots_7, be_6, be_34, be_4, be_1, be_45, be_10, be_51, kc_0, rf_0_10, ka_369, List.getD_cons_zero, List.getD_cons_succ, List.set_cons_zero, List.set_cons_succ, List.length_cons, List.length_nil, pk_I, pk_A, pr_A, pi_I, st_s, st_n, if_true, if_false, eq_self, d_if, d_ju, d_re, d_ca, cat0, cat1, cat2, cat3, fr_z, fr_s, cc_I, cc_A, cc_N, Nat.reduceAdd, Nat.reduceLT, Nat.reduceLeDiff, Nat.reduceEqDiff, not_true, not_false_iff, z1_0, z1_1, Bool.and_self, Bool.true_and, Bool.and_true, nI_add, pk_mul, nI_clamp, decide_true, Nat.le_refl, bI_eq, bI_z1, nI_ltI, nI_leI, vb_0, hni]
    refine ih _ ⟨fun c hc => by rw [am_u_ne hc]; exact x1 c hc, fun s hs => ?_⟩
    rw [am_u_at]
    by_cases e : s = i
    · rw [e, upd_at]
      rfl
    · rw [upd_ne e]
      exact x2 s (by omega)
  · intro x ⟨x1, x2⟩
    try dsimp only at *
    refine go_at (blk := b_KneeStair_emptySlots_2) rfl ?_
    simp (disch := omega) only [b_KneeStair_emptySlots_2, be_4, be_1, be_49_3, List.getD_cons_zero, List.getD_cons_succ, List.set_cons_zero, List.set_cons_succ, List.length_cons, List.length_nil, pk_I, pk_A, pr_A, pi_I, st_s, st_n, if_true, if_false, eq_self, d_if, d_ju, d_re, d_ca, cat0, cat1, cat2, cat3, fr_z, fr_s, cc_I, cc_A, cc_N, Nat.reduceAdd, Nat.reduceLT, Nat.reduceLeDiff, Nat.reduceEqDiff, not_true, not_false_iff, z1_0, z1_1, Bool.and_self, Bool.true_and, Bool.and_true, nI_add, pk_mul, nI_clamp, decide_true, Nat.le_refl, bI_eq, bI_z1, nI_ltI, nI_leI]
    refine go_at (blk := b_KneeStair_emptySlots_20) rfl ?_
    simp (disch := omega) only [b_KneeStair_emptySlots_20, be_56, List.getD_cons_zero, List.getD_cons_succ, List.set_cons_zero, List.set_cons_succ, List.length_cons, List.length_nil, pk_I, pk_A, pr_A, pi_I, st_s, st_n, if_true, if_false, eq_self, d_if, d_ju, d_re, d_ca, cat0, cat1, cat2, cat3, fr_z, fr_s, cc_I, cc_A, cc_N, Nat.reduceAdd, Nat.reduceLT, Nat.reduceLeDiff, Nat.reduceEqDiff, not_true, not_false_iff, z1_0, z1_1, Bool.and_self, Bool.true_and, Bool.and_true, nI_add, pk_mul, nI_clamp, decide_true, Nat.le_refl, bI_eq, bI_z1, nI_ltI, nI_leI]
    exact hQ x x1 x2
