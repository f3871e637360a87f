/-! laid by wip/whole/gD.py: the reference: what it does with a TOKEN -/
def MT (E : ENV) (v : Nat → Nat → Int32) (w : Nat → Nat → Int64) : Prop := ∀ j, j ≤ eL E → v 391 j = nI (eK E j) ∧ v 392 j = nI (eP E j) ∧ (eK E j = 2 → v 393 j = nI (eV E j)) ∧ (eK E j = 1 → w 394 j = lN (eM E j))
def MG (E : ENV) (v : Nat → Nat → Int32) (t l p : Nat) : Prop := v 388 11 = nI t ∧ t ≤ eL E ∧ v 388 13 = nI 0 ∧ v 388 15 = nI l ∧ l ≤ 5 ∧ (l ≠ 0 → v 388 16 = nI p ∧ p < eP E t)
def MB (v : Nat → Nat → Int32) (k p : Nat) : Prop := v 388 13 = nI k ∧ 1 ≤ k ∧ k ≤ 5 ∧ v 388 14 = nI p ∧ p ≤ 2000 ∧ ∃ t, t ≤ 400 ∧ v 388 11 = nI t
def MS' (E : ENV) (v : Nat → Nat → Int32) (s : SG) : Prop := match s.1 with
  | .inl e => MB v e.1 e.2
  | .inr t => MG E v t s.2.1 s.2.2
def ME (E : ENV) (v : Nat → Nat → Int32) (w : Nat → Nat → Int64) : Prop := EV E ∧ MT E v w
def G8 (v v' : Nat → Nat → Int32) : Prop := (∀ c, c ≠ 388 → v' c = v c) ∧ ∀ k, k ≠ 11 → k ≠ 13 → k ≠ 14 → k ≠ 15 → k ≠ 16 → v' 388 k = v 388 k
theorem G8_r {v : Nat → Nat → Int32} : G8 v v := ⟨fun _ _ => rfl, fun _ _ _ _ _ _ => rfl⟩
theorem G8_t {v v' v'' : Nat → Nat → Int32} (h : G8 v v') (h' : G8 v' v'') : G8 v v'' := ⟨fun c a => (h'.1 c a).trans (h.1 c a), fun k a1 a2 a3 a4 a5 => (h'.2 k a1 a2 a3 a4 a5).trans (h.2 k a1 a2 a3 a4 a5)⟩
theorem ME_w {E : ENV} {v v' : Nat → Nat → Int32} {w : Nat → Nat → Int64} (h : ME E v w) (e1 : v' 391 = v 391) (e2 : v' 392 = v 392) (e3 : v' 393 = v 393) : ME E v' w := by
  unfold ME MT at *
  rw [e1, e2, e3]
  exact h
theorem ME_8 {E : ENV} {v v' : Nat → Nat → Int32} {w : Nat → Nat → Int64} (h : ME E v w) (e : G8 v v') : ME E v' w := ME_w h (e.1 391 (by omega)) (e.1 392 (by omega)) (e.1 393 (by omega))
theorem MS_w {E : ENV} {v v' : Nat → Nat → Int32} {s : SG} (h : MS' E v s) (e : ∀ k, (k = 11 ∨ k = 13 ∨ k = 14 ∨ k = 15 ∨ k = 16) → v' 388 k = v 388 k) : MS' E v' s := by
  unfold MS' MG MB at *
  rw [e 11 (by omega), e 13 (by omega), e 14 (by omega), e 15 (by omega), e 16 (by omega)]
  exact h
theorem z_le : ((0 : Int32) ≤ 0) ↔ True := by decide
theorem z_lt : ((0 : Int32) < 0) ↔ False := by decide
theorem r_is {d : Nat} {v : Nat → Nat → Int32} {w : Nat → Nat → Int64} {Q : Option Value → am_H → Prop} {E : ENV} {s : SG} (hE : ME E v w) (hs : MS' E v s) {j : Nat} (hj : j < 37) (hj3 : j ≠ 3) (hQ : Q (some (.int (bI (decide (kdR E s = j))))) (428, 26053, KD, RF, v, w)) : am_Ca (d + 1) M_Model_is [.ref 388, .int (nI j)] (428, 26053, KD, RF, v, w) Q := by
  obtain ⟨r, l, p⟩ := s
  cases r with
  | inl e =>
    obtain ⟨k, p'⟩ := e
    obtain ⟨b13, bk1, bk5, b14, bp, t, bt, b11⟩ := hs
    have hk0 : ¬ nI k = 0 := nI_ne0 (by omega) (by omega)
    have hk1 : ¬ nI k ≤ 0 := nI_nle (by omega) (by omega)
    have hk2 : 0 < nI k := Int32.not_le.mp hk1
    refine ca_in (k := k_Model_is) (nL := 2) rfl (Nat.le_of_ble_eq_true rfl) ?_
    show am_Go am_X0 _ k_Model_is 0 ([.ref 388, .int (nI j)], [], _) _
    refine go_at (blk := b_Model_is_0) rfl ?_
    simp (disch := omega) only [b_Model_is_0, be_6, be_33, be_50_1, kc_388, List.getD_cons_zero, List.getD_cons_succ, List.set_cons_zero, List.set_cons_succ, List.length_cons, List.length_nil, pk_I, pk_A, pr_A, pi_I, st_s, st_n, if_true, if_false, eq_self, d_if, d_ju, d_re, d_ca, cat0, cat1, cat2, cat3, fr_z, fr_s, cc_I, cc_A, cc_N, Nat.reduceAdd, Nat.reduceLT, Nat.reduceLeDiff, Nat.reduceEqDiff, not_true, not_false_iff, z1_0, z1_1, Bool.and_self, Bool.true_and, Bool.and_true, nI_add, pk_mul, nI_clamp, decide_true, Nat.le_refl, bI_eq, bI_z1, b13, hk0]
    refine go_at (blk := b_Model_is_24) rfl ?_
    simp (disch := omega) only [b_Model_is_24, be_1, be_0, List.getD_cons_zero, List.getD_cons_succ, List.set_cons_zero, List.set_cons_succ, List.length_cons, List.length_nil, pk_I, pk_A, pr_A, pi_I, st_s, st_n, if_true, if_false, eq_self, d_if, d_ju, d_re, d_ca, cat0, cat1, cat2, cat3, fr_z, fr_s, cc_I, cc_A, cc_N, Nat.reduceAdd, Nat.reduceLT, Nat.reduceLeDiff, Nat.reduceEqDiff, not_true, not_false_iff, z1_0, z1_1, Bool.and_self, Bool.true_and, Bool.and_true, nI_add, pk_mul, nI_clamp, decide_true, Nat.le_refl, bI_eq, bI_z1, b13, hk0]
    refine go_at (blk := b_Model_is_25) rfl ?_
    simp (disch := omega) only [b_Model_is_25, be_73, List.getD_cons_zero, List.getD_cons_succ, List.set_cons_zero, List.set_cons_succ, List.length_cons, List.length_nil, pk_I, pk_A, pr_A, pi_I, st_s, st_n, if_true, if_false, eq_self, d_if, d_ju, d_re, d_ca, cat0, cat1, cat2, cat3, fr_z, fr_s, cc_I, cc_A, cc_N, Nat.reduceAdd, Nat.reduceLT, Nat.reduceLeDiff, Nat.reduceEqDiff, not_true, not_false_iff, z1_0, z1_1, Bool.and_self, Bool.true_and, Bool.and_true, nI_add, pk_mul, nI_clamp, decide_true, Nat.le_refl, bI_eq, bI_z1, b13, hk0]
    rw [show kdR E (.inl (k, p'), l, p) = 3 from rfl, decide_eq_false (by omega)] at hQ
    exact hQ
  | inr t =>
    obtain ⟨g11, gt, g13, g15, gl, g16⟩ := hs
    obtain ⟨gk, gp, gv, gn⟩ := hE.2 t gt
    have gL := hE.1.1
    refine ca_in (k := k_Model_is) (nL := 2) rfl (Nat.le_of_ble_eq_true rfl) ?_
    show am_Go am_X0 _ k_Model_is 0 ([.ref 388, .int (nI j)], [], _) _
    have h37 := (hE.1.2.2.2.1 t).1
    refine go_at (blk := b_Model_is_0) rfl ?_
    simp (disch := omega) only [b_Model_is_0, be_6, be_33, be_50_1, kc_388, List.getD_cons_zero, List.getD_cons_succ, List.set_cons_zero, List.set_cons_succ, List.length_cons, List.length_nil, pk_I, pk_A, pr_A, pi_I, st_s, st_n, if_true, if_false, eq_self, d_if, d_ju, d_re, d_ca, cat0, cat1, cat2, cat3, fr_z, fr_s, cc_I, cc_A, cc_N, Nat.reduceAdd, Nat.reduceLT, Nat.reduceLeDiff, Nat.reduceEqDiff, not_true, not_false_iff, z1_0, z1_1, Bool.and_self, Bool.true_and, Bool.and_true, nI_add, pk_mul, nI_clamp, decide_true, Nat.le_refl, bI_eq, bI_z1, g13, g11, gk, nI_eq, nI_z, z_le, z_lt]
    refine go_at (blk := b_Model_is_7) rfl ?_
    simp (disch := omega) only [b_Model_is_7, be_6, be_34, be_33, be_38, be_4, be_49_1, kc_388, rf_388_5, ka_391, List.getD_cons_zero, List.getD_cons_succ, List.set_cons_zero, List.set_cons_succ, List.length_cons, List.length_nil, pk_I, pk_A, pr_A, pi_I, st_s, st_n, if_true, if_false, eq_self, d_if, d_ju, d_re, d_ca, cat0, cat1, cat2, cat3, fr_z, fr_s, cc_I, cc_A, cc_N, Nat.reduceAdd, Nat.reduceLT, Nat.reduceLeDiff, Nat.reduceEqDiff, not_true, not_false_iff, z1_0, z1_1, Bool.and_self, Bool.true_and, Bool.and_true, nI_add, pk_mul, nI_clamp, decide_true, Nat.le_refl, bI_eq, bI_z1, g13, g11, gk, nI_eq, nI_z, z_le, z_lt]
    split
    · rename_i hc
      refine go_at (blk := b_Model_is_24) rfl ?_
      simp (disch := omega) only [b_Model_is_24, be_1, be_0, List.getD_cons_zero, List.getD_cons_succ, List.set_cons_zero, List.set_cons_succ, List.length_cons, List.length_nil, pk_I, pk_A, pr_A, pi_I, st_s, st_n, if_true, if_false, eq_self, d_if, d_ju, d_re, d_ca, cat0, cat1, cat2, cat3, fr_z, fr_s, cc_I, cc_A, cc_N, Nat.reduceAdd, Nat.reduceLT, Nat.reduceLeDiff, Nat.reduceEqDiff, not_true, not_false_iff, z1_0, z1_1, Bool.and_self, Bool.true_and, Bool.and_true, nI_add, pk_mul, nI_clamp, decide_true, Nat.le_refl, bI_eq, bI_z1, g13, g11, gk, nI_eq, nI_z, z_le, z_lt]
      refine go_at (blk := b_Model_is_25) rfl ?_
      simp (disch := omega) only [b_Model_is_25, be_73, List.getD_cons_zero, List.getD_cons_succ, List.set_cons_zero, List.set_cons_succ, List.length_cons, List.length_nil, pk_I, pk_A, pr_A, pi_I, st_s, st_n, if_true, if_false, eq_self, d_if, d_ju, d_re, d_ca, cat0, cat1, cat2, cat3, fr_z, fr_s, cc_I, cc_A, cc_N, Nat.reduceAdd, Nat.reduceLT, Nat.reduceLeDiff, Nat.reduceEqDiff, not_true, not_false_iff, z1_0, z1_1, Bool.and_self, Bool.true_and, Bool.and_true, nI_add, pk_mul, nI_clamp, decide_true, Nat.le_refl, bI_eq, bI_z1, g13, g11, gk, nI_eq, nI_z, z_le, z_lt]
      rw [show kdR E (.inr t, l, p) = eK E t from rfl, decide_eq_false hc] at hQ
      exact hQ
    · rename_i hc
      refine go_at (blk := b_Model_is_20) rfl ?_
      simp (disch := omega) only [b_Model_is_20, be_1, be_51, List.getD_cons_zero, List.getD_cons_succ, List.set_cons_zero, List.set_cons_succ, List.length_cons, List.length_nil, pk_I, pk_A, pr_A, pi_I, st_s, st_n, if_true, if_false, eq_self, d_if, d_ju, d_re, d_ca, cat0, cat1, cat2, cat3, fr_z, fr_s, cc_I, cc_A, cc_N, Nat.reduceAdd, Nat.reduceLT, Nat.reduceLeDiff, Nat.reduceEqDiff, not_true, not_false_iff, z1_0, z1_1, Bool.and_self, Bool.true_and, Bool.and_true, nI_add, pk_mul, nI_clamp, decide_true, Nat.le_refl, bI_eq, bI_z1, g13, g11, gk, nI_eq, nI_z, z_le, z_lt]
      refine go_at (blk := b_Model_is_25) rfl ?_
      simp (disch := omega) only [b_Model_is_25, be_73, List.getD_cons_zero, List.getD_cons_succ, List.set_cons_zero, List.set_cons_succ, List.length_cons, List.length_nil, pk_I, pk_A, pr_A, pi_I, st_s, st_n, if_true, if_false, eq_self, d_if, d_ju, d_re, d_ca, cat0, cat1, cat2, cat3, fr_z, fr_s, cc_I, cc_A, cc_N, Nat.reduceAdd, Nat.reduceLT, Nat.reduceLeDiff, Nat.reduceEqDiff, not_true, not_false_iff, z1_0, z1_1, Bool.and_self, Bool.true_and, Bool.and_true, nI_add, pk_mul, nI_clamp, decide_true, Nat.le_refl, bI_eq, bI_z1, g13, g11, gk, nI_eq, nI_z, z_le, z_lt]
      rw [show kdR E (.inr t, l, p) = eK E t from rfl, decide_eq_true (Decidable.not_not.mp hc)] at hQ
      exact hQ
theorem r_fail {d : Nat} {v : Nat → Nat → Int32} {w : Nat → Nat → Int64} {Q : Option Value → am_H → Prop} {E : ENV} {s : SG} (hE : ME E v w) (hs : MS' E v s) {j : Nat} (h1 : 1 ≤ j) (h5 : j ≤ 5) (hQ : ∀ v', G8 v v' → MS' E v' (failS E j s) → Q none (428, 26053, KD, RF, v', w)) : am_Ca (d + 1) M_Model_fail [.ref 388, .int (nI j)] (428, 26053, KD, RF, v, w) Q := by
  obtain ⟨r, l, p⟩ := s
  cases r with
  | inl e =>
    obtain ⟨k, p'⟩ := e
    obtain ⟨b13, bk1, bk5, b14, bp, t, bt, b11⟩ := hs
    have hk0 : ¬ nI k = 0 := nI_ne0 (by omega) (by omega)
    have hk1 : ¬ nI k ≤ 0 := nI_nle (by omega) (by omega)
    have hk2 : 0 < nI k := Int32.not_le.mp hk1
    refine ca_in (k := k_Model_fail) (nL := 2) rfl (Nat.le_of_ble_eq_true rfl) ?_
    show am_Go am_X0 _ k_Model_fail 0 ([.ref 388, .int (nI j)], [], _) _
    refine go_at (blk := b_Model_fail_0) rfl ?_
    simp (disch := omega) only [b_Model_fail_0, be_6, be_33, be_50_5, kc_388, List.getD_cons_zero, List.getD_cons_succ, List.set_cons_zero, List.set_cons_succ, List.length_cons, List.length_nil, pk_I, pk_A, pr_A, pi_I, st_s, st_n, if_true, if_false, eq_self, d_if, d_ju, d_re, d_ca, cat0, cat1, cat2, cat3, fr_z, fr_s, cc_I, cc_A, cc_N, Nat.reduceAdd, Nat.reduceLT, Nat.reduceLeDiff, Nat.reduceEqDiff, not_true, not_false_iff, z1_0, z1_1, Bool.and_self, Bool.true_and, Bool.and_true, nI_add, pk_mul, nI_clamp, decide_true, Nat.le_refl, bI_eq, bI_z1, b13, hk1]
    refine go_at (blk := b_Model_fail_7) rfl ?_
    simp (disch := omega) only [b_Model_fail_7, be_56, List.getD_cons_zero, List.getD_cons_succ, List.set_cons_zero, List.set_cons_succ, List.length_cons, List.length_nil, pk_I, pk_A, pr_A, pi_I, st_s, st_n, if_true, if_false, eq_self, d_if, d_ju, d_re, d_ca, cat0, cat1, cat2, cat3, fr_z, fr_s, cc_I, cc_A, cc_N, Nat.reduceAdd, Nat.reduceLT, Nat.reduceLeDiff, Nat.reduceEqDiff, not_true, not_false_iff, z1_0, z1_1, Bool.and_self, Bool.true_and, Bool.and_true, nI_add, pk_mul, nI_clamp, decide_true, Nat.le_refl, bI_eq, bI_z1, b13, hk1]
    exact hQ v G8_r ⟨b13, bk1, bk5, b14, bp, t, bt, b11⟩
  | inr t =>
    obtain ⟨g11, gt, g13, g15, gl, g16⟩ := hs
    obtain ⟨gk, gp, gv, gn⟩ := hE.2 t gt
    have gL := hE.1.1
    refine ca_in (k := k_Model_fail) (nL := 2) rfl (Nat.le_of_ble_eq_true rfl) ?_
    show am_Go am_X0 _ k_Model_fail 0 ([.ref 388, .int (nI j)], [], _) _
    refine go_at (blk := b_Model_fail_0) rfl ?_
    simp (disch := omega) only [b_Model_fail_0, be_6, be_33, be_50_5, kc_388, List.getD_cons_zero, List.getD_cons_succ, List.set_cons_zero, List.set_cons_succ, List.length_cons, List.length_nil, pk_I, pk_A, pr_A, pi_I, st_s, st_n, if_true, if_false, eq_self, d_if, d_ju, d_re, d_ca, cat0, cat1, cat2, cat3, fr_z, fr_s, cc_I, cc_A, cc_N, Nat.reduceAdd, Nat.reduceLT, Nat.reduceLeDiff, Nat.reduceEqDiff, not_true, not_false_iff, z1_0, z1_1, Bool.and_self, Bool.true_and, Bool.and_true, nI_add, pk_mul, nI_clamp, decide_true, Nat.le_refl, bI_eq, bI_z1, am_u_at, am_u_ne, upd_at, upd_ne, g13, g11, gp, nI_z, z_le, z_lt]
    refine go_at (blk := b_Model_fail_8) rfl ?_
    simp (disch := omega) only [b_Model_fail_8, be_6, be_4, be_35, be_34, be_33, be_38, be_56, kc_388, rf_388_6, ka_392, List.getD_cons_zero, List.getD_cons_succ, List.set_cons_zero, List.set_cons_succ, List.length_cons, List.length_nil, pk_I, pk_A, pr_A, pi_I, st_s, st_n, if_true, if_false, eq_self, d_if, d_ju, d_re, d_ca, cat0, cat1, cat2, cat3, fr_z, fr_s, cc_I, cc_A, cc_N, Nat.reduceAdd, Nat.reduceLT, Nat.reduceLeDiff, Nat.reduceEqDiff, not_true, not_false_iff, z1_0, z1_1, Bool.and_self, Bool.true_and, Bool.and_true, nI_add, pk_mul, nI_clamp, decide_true, Nat.le_refl, bI_eq, bI_z1, am_u_at, am_u_ne, upd_at, upd_ne, g13, g11, gp, nI_z, z_le, z_lt]
    refine hQ _ ⟨fun c hc => by rw [am_u_ne hc, am_u_ne hc], fun k k1 k2 k3 _ _ => by rw [am_u_at, upd_ne k3, am_u_at, upd_ne k2]⟩ ⟨?_, h1, h5, ?_, (hE.1.2.2.2.2.1 t gt).1, t, by omega, ?_⟩
    · rw [am_u_at, upd_ne (by omega), am_u_at, upd_at]
    · rw [am_u_at, upd_at]
    · rw [am_u_at, upd_ne (by omega), am_u_at, upd_ne (by omega)]
      exact g11
theorem r_wrong {d : Nat} {v : Nat → Nat → Int32} {w : Nat → Nat → Int64} {Q : Option Value → am_H → Prop} {E : ENV} {j l p : Nat} {t : Int32} (hE : ME E v w) (hj : j ≤ eL E) (g11 : v 388 11 = t) (g13 : v 388 13 = nI 0) (g15 : v 388 15 = nI l) (gl : l ≤ 5) (g16 : l ≠ 0 → v 388 16 = nI p ∧ p < eP E j) {k : Nat} (h5 : k ≤ 5) (hQ : ∀ v', G8 v v' → (if l = 0 then v' 388 11 = t ∧ v' 388 13 = nI 0 ∧ v' 388 15 = nI k ∧ k ≤ 5 ∧ v' 388 16 = nI (eP E j) else v' 388 11 = t ∧ v' 388 13 = nI 0 ∧ v' 388 15 = nI l ∧ l ≤ 5 ∧ v' 388 16 = nI p) → Q none (428, 26053, KD, RF, v', w)) : am_Ca (d + 1) M_Model_wrong [.ref 388, .int (nI k), .int (nI j)] (428, 26053, KD, RF, v, w) Q := by
  obtain ⟨gk, gp, gv, gn⟩ := hE.2 j hj
  have gL := hE.1.1
  have gp9 := (hE.1.2.2.2.2.1 j hj).1
  refine ca_in (k := k_Model_wrong) (nL := 4) rfl (Nat.le_of_ble_eq_true rfl) ?_
  show am_Go am_X0 _ k_Model_wrong 0 ([.ref 388, .int (nI k), .int (nI j), .null], [], _) _
  by_cases hl0 : l = 0
  · rw [hl0] at g15
    refine go_at (blk := b_Model_wrong_0) rfl ?_
    simp (disch := omega) only [b_Model_wrong_0, be_6, be_34, be_4, be_38, be_7, be_33, be_50_4, kc_388, rf_388_6, ka_392, List.getD_cons_zero, List.getD_cons_succ, List.set_cons_zero, List.set_cons_succ, List.length_cons, List.length_nil, pk_I, pk_A, pr_A, pi_I, st_s, st_n, if_true, if_false, eq_self, d_if, d_ju, d_re, d_ca, cat0, cat1, cat2, cat3, fr_z, fr_s, cc_I, cc_A, cc_N, Nat.reduceAdd, Nat.reduceLT, Nat.reduceLeDiff, Nat.reduceEqDiff, not_true, not_false_iff, z1_0, z1_1, Bool.and_self, Bool.true_and, Bool.and_true, nI_add, pk_mul, nI_clamp, decide_true, Nat.le_refl, bI_eq, bI_z1, am_u_at, am_u_ne, upd_at, upd_ne, nI_ltI, nI_leI, gp, g13, g15, nI_z, z_le, z_lt]
    refine go_at (blk := b_Model_wrong_14) rfl ?_
    simp (disch := omega) only [b_Model_wrong_14, be_6, be_33, be_50_0, kc_388, List.getD_cons_zero, List.getD_cons_succ, List.set_cons_zero, List.set_cons_succ, List.length_cons, List.length_nil, pk_I, pk_A, pr_A, pi_I, st_s, st_n, if_true, if_false, eq_self, d_if, d_ju, d_re, d_ca, cat0, cat1, cat2, cat3, fr_z, fr_s, cc_I, cc_A, cc_N, Nat.reduceAdd, Nat.reduceLT, Nat.reduceLeDiff, Nat.reduceEqDiff, not_true, not_false_iff, z1_0, z1_1, Bool.and_self, Bool.true_and, Bool.and_true, nI_add, pk_mul, nI_clamp, decide_true, Nat.le_refl, bI_eq, bI_z1, am_u_at, am_u_ne, upd_at, upd_ne, nI_ltI, nI_leI, gp, g13, g15, nI_z, z_le, z_lt]
    refine go_at (blk := b_Model_wrong_46) rfl ?_
    simp (disch := omega) only [b_Model_wrong_46, be_6, be_4, be_35, be_56, kc_388, List.getD_cons_zero, List.getD_cons_succ, List.set_cons_zero, List.set_cons_succ, List.length_cons, List.length_nil, pk_I, pk_A, pr_A, pi_I, st_s, st_n, if_true, if_false, eq_self, d_if, d_ju, d_re, d_ca, cat0, cat1, cat2, cat3, fr_z, fr_s, cc_I, cc_A, cc_N, Nat.reduceAdd, Nat.reduceLT, Nat.reduceLeDiff, Nat.reduceEqDiff, not_true, not_false_iff, z1_0, z1_1, Bool.and_self, Bool.true_and, Bool.and_true, nI_add, pk_mul, nI_clamp, decide_true, Nat.le_refl, bI_eq, bI_z1, am_u_at, am_u_ne, upd_at, upd_ne, nI_ltI, nI_leI, gp, g13, g15, nI_z, z_le, z_lt]
    refine hQ _ ⟨fun c hc => by rw [am_u_ne hc, am_u_ne hc], fun k _ _ _ k3 k4 => by rw [am_u_at, upd_ne k4, am_u_at, upd_ne k3]⟩ ?_
    rw [if_pos hl0]
    refine ⟨?_, ?_, ?_, ?_, ?_⟩
    · rw [am_u_at, upd_ne (by omega), am_u_at, upd_ne (by omega)]; exact g11
    · rw [am_u_at, upd_ne (by omega), am_u_at, upd_ne (by omega)]; exact g13
    · rw [am_u_at, upd_ne (by omega), am_u_at, upd_at]
    · exact h5
    · rw [am_u_at, upd_at]
  · have hl1 : ¬ nI l = 0 := nI_ne0 (by omega) (by omega)
    obtain ⟨g160, g161⟩ := g16 hl0
    have hlt : p < eP E j := g161
    refine go_at (blk := b_Model_wrong_0) rfl ?_
    simp (disch := omega) only [b_Model_wrong_0, be_6, be_34, be_4, be_38, be_7, be_33, be_50_4, kc_388, rf_388_6, ka_392, List.getD_cons_zero, List.getD_cons_succ, List.set_cons_zero, List.set_cons_succ, List.length_cons, List.length_nil, pk_I, pk_A, pr_A, pi_I, st_s, st_n, if_true, if_false, eq_self, d_if, d_ju, d_re, d_ca, cat0, cat1, cat2, cat3, fr_z, fr_s, cc_I, cc_A, cc_N, Nat.reduceAdd, Nat.reduceLT, Nat.reduceLeDiff, Nat.reduceEqDiff, not_true, not_false_iff, z1_0, z1_1, Bool.and_self, Bool.true_and, Bool.and_true, nI_add, pk_mul, nI_clamp, decide_true, Nat.le_refl, bI_eq, bI_z1, nI_ltI, nI_leI, gp, g13, g15, g160, hl1, hlt, nI_z, z_le, z_lt]
    refine go_at (blk := b_Model_wrong_14) rfl ?_
    simp (disch := omega) only [b_Model_wrong_14, be_6, be_33, be_50_0, kc_388, List.getD_cons_zero, List.getD_cons_succ, List.set_cons_zero, List.set_cons_succ, List.length_cons, List.length_nil, pk_I, pk_A, pr_A, pi_I, st_s, st_n, if_true, if_false, eq_self, d_if, d_ju, d_re, d_ca, cat0, cat1, cat2, cat3, fr_z, fr_s, cc_I, cc_A, cc_N, Nat.reduceAdd, Nat.reduceLT, Nat.reduceLeDiff, Nat.reduceEqDiff, not_true, not_false_iff, z1_0, z1_1, Bool.and_self, Bool.true_and, Bool.and_true, nI_add, pk_mul, nI_clamp, decide_true, Nat.le_refl, bI_eq, bI_z1, nI_ltI, nI_leI, gp, g13, g15, g160, hl1, hlt, nI_z, z_le, z_lt]
    refine go_at (blk := b_Model_wrong_21) rfl ?_
    simp (disch := omega) only [b_Model_wrong_21, be_4, be_6, be_33, be_49_4, kc_388, List.getD_cons_zero, List.getD_cons_succ, List.set_cons_zero, List.set_cons_succ, List.length_cons, List.length_nil, pk_I, pk_A, pr_A, pi_I, st_s, st_n, if_true, if_false, eq_self, d_if, d_ju, d_re, d_ca, cat0, cat1, cat2, cat3, fr_z, fr_s, cc_I, cc_A, cc_N, Nat.reduceAdd, Nat.reduceLT, Nat.reduceLeDiff, Nat.reduceEqDiff, not_true, not_false_iff, z1_0, z1_1, Bool.and_self, Bool.true_and, Bool.and_true, nI_add, pk_mul, nI_clamp, decide_true, Nat.le_refl, bI_eq, bI_z1, nI_ltI, nI_leI, gp, g13, g15, g160, hl1, hlt, nI_z, z_le, z_lt]
    refine go_at (blk := b_Model_wrong_45) rfl ?_
    simp (disch := omega) only [b_Model_wrong_45, be_56, List.getD_cons_zero, List.getD_cons_succ, List.set_cons_zero, List.set_cons_succ, List.length_cons, List.length_nil, pk_I, pk_A, pr_A, pi_I, st_s, st_n, if_true, if_false, eq_self, d_if, d_ju, d_re, d_ca, cat0, cat1, cat2, cat3, fr_z, fr_s, cc_I, cc_A, cc_N, Nat.reduceAdd, Nat.reduceLT, Nat.reduceLeDiff, Nat.reduceEqDiff, not_true, not_false_iff, z1_0, z1_1, Bool.and_self, Bool.true_and, Bool.and_true, nI_add, pk_mul, nI_clamp, decide_true, Nat.le_refl, bI_eq, bI_z1, nI_ltI, nI_leI, gp, g13, g15, g160, hl1, hlt, nI_z, z_le, z_lt]
    refine hQ v G8_r ?_
    rw [if_neg hl0]
    exact ⟨g11, g13, g15, gl, g160⟩
theorem r_goesOn {d : Nat} {v : Nat → Nat → Int32} {w : Nat → Nat → Int64} {Q : Option Value → am_H → Prop} {E : ENV} {s : SG} (hE : ME E v w) (hs : MS' E v s) (hk : ∀ t, s.1 = .inr t → eK E t ≠ 0 ∧ eK E t ≠ 3) (hQ : ∀ v', G8 v v' → MS' E v' (takeS E s) → Q none (428, 26053, KD, RF, v', w)) : am_Ca (d + 2) M_Model_goesOn [.ref 388] (428, 26053, KD, RF, v, w) Q := by
  obtain ⟨r, l, p⟩ := s
  cases r with
  | inl e =>
    obtain ⟨k, p'⟩ := e
    obtain ⟨b13, bk1, bk5, b14, bp, t, bt, b11⟩ := hs
    have hk0 : ¬ nI k = 0 := nI_ne0 (by omega) (by omega)
    have hk1 : ¬ nI k ≤ 0 := nI_nle (by omega) (by omega)
    have hk2 : 0 < nI k := Int32.not_le.mp hk1
    refine ca_in (k := k_Model_goesOn) (nL := 1) rfl (Nat.le_of_ble_eq_true rfl) ?_
    show am_Go am_X0 _ k_Model_goesOn 0 ([.ref 388], [], _) _
    by_cases ht : t < 400
    · have h4 : ¬ t = 400 := by omega
      refine go_at (blk := b_Model_goesOn_0) rfl ?_
      simp (disch := omega) only [b_Model_goesOn_0, be_6, be_33, be_1, be_49_1, kc_388, List.getD_cons_zero, List.getD_cons_succ, List.set_cons_zero, List.set_cons_succ, List.length_cons, List.length_nil, pk_I, pk_A, pr_A, pi_I, st_s, st_n, if_true, if_false, eq_self, d_if, d_ju, d_re, d_ca, cat0, cat1, cat2, cat3, fr_z, fr_s, cc_I, cc_A, cc_N, Nat.reduceAdd, Nat.reduceLT, Nat.reduceLeDiff, Nat.reduceEqDiff, not_true, not_false_iff, z1_0, z1_1, Bool.and_self, Bool.true_and, Bool.and_true, nI_add, pk_mul, nI_clamp, decide_true, Nat.le_refl, bI_eq, bI_z1, nI_ltI, nI_leI, am_u_at, am_u_ne, upd_at, upd_ne, b11, h4, nI_eq]
      refine go_at (blk := b_Model_goesOn_18) rfl ?_
      simp (disch := omega) only [b_Model_goesOn_18, be_6, be_30I, be_30A, be_33, be_1, be_12, be_35, be_0, kc_388, List.getD_cons_zero, List.getD_cons_succ, List.set_cons_zero, List.set_cons_succ, List.length_cons, List.length_nil, pk_I, pk_A, pr_A, pi_I, st_s, st_n, if_true, if_false, eq_self, d_if, d_ju, d_re, d_ca, cat0, cat1, cat2, cat3, fr_z, fr_s, cc_I, cc_A, cc_N, Nat.reduceAdd, Nat.reduceLT, Nat.reduceLeDiff, Nat.reduceEqDiff, not_true, not_false_iff, z1_0, z1_1, Bool.and_self, Bool.true_and, Bool.and_true, nI_add, pk_mul, nI_clamp, decide_true, Nat.le_refl, bI_eq, bI_z1, nI_ltI, nI_leI, am_u_at, am_u_ne, upd_at, upd_ne, b11, h4, nI_eq]
      refine go_at (blk := b_Model_goesOn_28) rfl ?_
      simp (disch := omega) only [b_Model_goesOn_28, be_56, List.getD_cons_zero, List.getD_cons_succ, List.set_cons_zero, List.set_cons_succ, List.length_cons, List.length_nil, pk_I, pk_A, pr_A, pi_I, st_s, st_n, if_true, if_false, eq_self, d_if, d_ju, d_re, d_ca, cat0, cat1, cat2, cat3, fr_z, fr_s, cc_I, cc_A, cc_N, Nat.reduceAdd, Nat.reduceLT, Nat.reduceLeDiff, Nat.reduceEqDiff, not_true, not_false_iff, z1_0, z1_1, Bool.and_self, Bool.true_and, Bool.and_true, nI_add, pk_mul, nI_clamp, decide_true, Nat.le_refl, bI_eq, bI_z1, nI_ltI, nI_leI, am_u_at, am_u_ne, upd_at, upd_ne, b11, h4, nI_eq]
      refine hQ _ ⟨fun c hc => by rw [am_u_ne hc], fun k k1 _ _ _ _ => by rw [am_u_at, upd_ne k1]⟩ ⟨?_, bk1, bk5, ?_, bp, t + 1, by omega, ?_⟩
      · rw [am_u_at, upd_ne (by omega)]; exact b13
      · rw [am_u_at, upd_ne (by omega)]; exact b14
      · rw [am_u_at, upd_at]
    · have h4 : t = 400 := by omega
      refine go_at (blk := b_Model_goesOn_0) rfl ?_
      simp (disch := omega) only [b_Model_goesOn_0, be_6, be_33, be_1, be_49_1, kc_388, List.getD_cons_zero, List.getD_cons_succ, List.set_cons_zero, List.set_cons_succ, List.length_cons, List.length_nil, pk_I, pk_A, pr_A, pi_I, st_s, st_n, if_true, if_false, eq_self, d_if, d_ju, d_re, d_ca, cat0, cat1, cat2, cat3, fr_z, fr_s, cc_I, cc_A, cc_N, Nat.reduceAdd, Nat.reduceLT, Nat.reduceLeDiff, Nat.reduceEqDiff, not_true, not_false_iff, z1_0, z1_1, Bool.and_self, Bool.true_and, Bool.and_true, nI_add, pk_mul, nI_clamp, decide_true, Nat.le_refl, bI_eq, bI_z1, nI_ltI, nI_leI, b11, h4, nI_eq]
      refine go_at (blk := b_Model_goesOn_10) rfl ?_
      simp (disch := omega) only [b_Model_goesOn_10, be_6, be_1, be_57_1, kc_388, List.getD_cons_zero, List.getD_cons_succ, List.set_cons_zero, List.set_cons_succ, List.length_cons, List.length_nil, pk_I, pk_A, pr_A, pi_I, st_s, st_n, if_true, if_false, eq_self, d_if, d_ju, d_re, d_ca, cat0, cat1, cat2, cat3, fr_z, fr_s, cc_I, cc_A, cc_N, Nat.reduceAdd, Nat.reduceLT, Nat.reduceLeDiff, Nat.reduceEqDiff, not_true, not_false_iff, z1_0, z1_1, Bool.and_self, Bool.true_and, Bool.and_true, nI_add, pk_mul, nI_clamp, decide_true, Nat.le_refl, bI_eq, bI_z1, nI_ltI, nI_leI, b11, h4, nI_eq]
      refine r_fail (s := (.inl (k, p'), l, p)) hE ⟨b13, bk1, bk5, b14, bp, t, bt, b11⟩ (by omega) (by omega) ?_
      intro v' f1 f2
      refine go_at (blk := b_Model_goesOn_15) rfl ?_
      simp (disch := omega) only [b_Model_goesOn_15, be_51, List.getD_cons_zero, List.getD_cons_succ, List.set_cons_zero, List.set_cons_succ, List.length_cons, List.length_nil, pk_I, pk_A, pr_A, pi_I, st_s, st_n, if_true, if_false, eq_self, d_if, d_ju, d_re, d_ca, cat0, cat1, cat2, cat3, fr_z, fr_s, cc_I, cc_A, cc_N, Nat.reduceAdd, Nat.reduceLT, Nat.reduceLeDiff, Nat.reduceEqDiff, not_true, not_false_iff, z1_0, z1_1, Bool.and_self, Bool.true_and, Bool.and_true, nI_add, pk_mul, nI_clamp, decide_true, Nat.le_refl, bI_eq, bI_z1, nI_ltI, nI_leI, b11, h4, nI_eq]
      refine go_at (blk := b_Model_goesOn_28) rfl ?_
      simp (disch := omega) only [b_Model_goesOn_28, be_56, List.getD_cons_zero, List.getD_cons_succ, List.set_cons_zero, List.set_cons_succ, List.length_cons, List.length_nil, pk_I, pk_A, pr_A, pi_I, st_s, st_n, if_true, if_false, eq_self, d_if, d_ju, d_re, d_ca, cat0, cat1, cat2, cat3, fr_z, fr_s, cc_I, cc_A, cc_N, Nat.reduceAdd, Nat.reduceLT, Nat.reduceLeDiff, Nat.reduceEqDiff, not_true, not_false_iff, z1_0, z1_1, Bool.and_self, Bool.true_and, Bool.and_true, nI_add, pk_mul, nI_clamp, decide_true, Nat.le_refl, bI_eq, bI_z1, nI_ltI, nI_leI, b11, h4, nI_eq]
      exact hQ v' f1 f2
  | inr t =>
    obtain ⟨g11, gt, g13, g15, gl, g16⟩ := hs
    obtain ⟨gk, gp, gv, gn⟩ := hE.2 t gt
    have gL := hE.1.1
    refine ca_in (k := k_Model_goesOn) (nL := 1) rfl (Nat.le_of_ble_eq_true rfl) ?_
    show am_Go am_X0 _ k_Model_goesOn 0 ([.ref 388], [], _) _
    obtain ⟨h0, h3⟩ := hk t rfl
    by_cases ht : t < 400
    · have h4 : ¬ t = 400 := by omega
      refine go_at (blk := b_Model_goesOn_0) rfl ?_
      simp (disch := omega) only [b_Model_goesOn_0, be_6, be_33, be_1, be_49_1, kc_388, List.getD_cons_zero, List.getD_cons_succ, List.set_cons_zero, List.set_cons_succ, List.length_cons, List.length_nil, pk_I, pk_A, pr_A, pi_I, st_s, st_n, if_true, if_false, eq_self, d_if, d_ju, d_re, d_ca, cat0, cat1, cat2, cat3, fr_z, fr_s, cc_I, cc_A, cc_N, Nat.reduceAdd, Nat.reduceLT, Nat.reduceLeDiff, Nat.reduceEqDiff, not_true, not_false_iff, z1_0, z1_1, Bool.and_self, Bool.true_and, Bool.and_true, nI_add, pk_mul, nI_clamp, decide_true, Nat.le_refl, bI_eq, bI_z1, nI_ltI, nI_leI, am_u_at, am_u_ne, upd_at, upd_ne, g11, h4, nI_eq]
      refine go_at (blk := b_Model_goesOn_18) rfl ?_
      simp (disch := omega) only [b_Model_goesOn_18, be_6, be_30I, be_30A, be_33, be_1, be_12, be_35, be_0, kc_388, List.getD_cons_zero, List.getD_cons_succ, List.set_cons_zero, List.set_cons_succ, List.length_cons, List.length_nil, pk_I, pk_A, pr_A, pi_I, st_s, st_n, if_true, if_false, eq_self, d_if, d_ju, d_re, d_ca, cat0, cat1, cat2, cat3, fr_z, fr_s, cc_I, cc_A, cc_N, Nat.reduceAdd, Nat.reduceLT, Nat.reduceLeDiff, Nat.reduceEqDiff, not_true, not_false_iff, z1_0, z1_1, Bool.and_self, Bool.true_and, Bool.and_true, nI_add, pk_mul, nI_clamp, decide_true, Nat.le_refl, bI_eq, bI_z1, nI_ltI, nI_leI, am_u_at, am_u_ne, upd_at, upd_ne, g11, h4, nI_eq]
      refine go_at (blk := b_Model_goesOn_28) rfl ?_
      simp (disch := omega) only [b_Model_goesOn_28, be_56, List.getD_cons_zero, List.getD_cons_succ, List.set_cons_zero, List.set_cons_succ, List.length_cons, List.length_nil, pk_I, pk_A, pr_A, pi_I, st_s, st_n, if_true, if_false, eq_self, d_if, d_ju, d_re, d_ca, cat0, cat1, cat2, cat3, fr_z, fr_s, cc_I, cc_A, cc_N, Nat.reduceAdd, Nat.reduceLT, Nat.reduceLeDiff, Nat.reduceEqDiff, not_true, not_false_iff, z1_0, z1_1, Bool.and_self, Bool.true_and, Bool.and_true, nI_add, pk_mul, nI_clamp, decide_true, Nat.le_refl, bI_eq, bI_z1, nI_ltI, nI_leI, am_u_at, am_u_ne, upd_at, upd_ne, g11, h4, nI_eq]
      refine hQ _ ⟨fun c hc => by rw [am_u_ne hc], fun k k1 _ _ _ _ => by rw [am_u_at, upd_ne k1]⟩ ?_
      rw [tk_1 ht]
      have hs1 := ev_s hE.1 gt h0 h3 ht
      refine ⟨?_, hs1, ?_, ?_, gl, fun z => ⟨?_, ?_⟩⟩
      · rw [am_u_at, upd_at]
      · rw [am_u_at, upd_ne (by omega)]; exact g13
      · rw [am_u_at, upd_ne (by omega)]; exact g15
      · rw [am_u_at, upd_ne (by omega)]; exact (g16 z).1
      · exact Nat.lt_trans (g16 z).2 (hE.1.2.2.2.2.2 t (t + 1) (by omega) hs1)
    · have h4 : t = 400 := by omega
      refine go_at (blk := b_Model_goesOn_0) rfl ?_
      simp (disch := omega) only [b_Model_goesOn_0, be_6, be_33, be_1, be_49_1, kc_388, List.getD_cons_zero, List.getD_cons_succ, List.set_cons_zero, List.set_cons_succ, List.length_cons, List.length_nil, pk_I, pk_A, pr_A, pi_I, st_s, st_n, if_true, if_false, eq_self, d_if, d_ju, d_re, d_ca, cat0, cat1, cat2, cat3, fr_z, fr_s, cc_I, cc_A, cc_N, Nat.reduceAdd, Nat.reduceLT, Nat.reduceLeDiff, Nat.reduceEqDiff, not_true, not_false_iff, z1_0, z1_1, Bool.and_self, Bool.true_and, Bool.and_true, nI_add, pk_mul, nI_clamp, decide_true, Nat.le_refl, bI_eq, bI_z1, nI_ltI, nI_leI, g11, h4, nI_eq]
      refine go_at (blk := b_Model_goesOn_10) rfl ?_
      simp (disch := omega) only [b_Model_goesOn_10, be_6, be_1, be_57_1, kc_388, List.getD_cons_zero, List.getD_cons_succ, List.set_cons_zero, List.set_cons_succ, List.length_cons, List.length_nil, pk_I, pk_A, pr_A, pi_I, st_s, st_n, if_true, if_false, eq_self, d_if, d_ju, d_re, d_ca, cat0, cat1, cat2, cat3, fr_z, fr_s, cc_I, cc_A, cc_N, Nat.reduceAdd, Nat.reduceLT, Nat.reduceLeDiff, Nat.reduceEqDiff, not_true, not_false_iff, z1_0, z1_1, Bool.and_self, Bool.true_and, Bool.and_true, nI_add, pk_mul, nI_clamp, decide_true, Nat.le_refl, bI_eq, bI_z1, nI_ltI, nI_leI, g11, h4, nI_eq]
      refine r_fail (s := (.inr t, l, p)) hE ⟨g11, gt, g13, g15, gl, g16⟩ (by omega) (by omega) ?_
      intro v' f1 f2
      refine go_at (blk := b_Model_goesOn_15) rfl ?_
      simp (disch := omega) only [b_Model_goesOn_15, be_51, List.getD_cons_zero, List.getD_cons_succ, List.set_cons_zero, List.set_cons_succ, List.length_cons, List.length_nil, pk_I, pk_A, pr_A, pi_I, st_s, st_n, if_true, if_false, eq_self, d_if, d_ju, d_re, d_ca, cat0, cat1, cat2, cat3, fr_z, fr_s, cc_I, cc_A, cc_N, Nat.reduceAdd, Nat.reduceLT, Nat.reduceLeDiff, Nat.reduceEqDiff, not_true, not_false_iff, z1_0, z1_1, Bool.and_self, Bool.true_and, Bool.and_true, nI_add, pk_mul, nI_clamp, decide_true, Nat.le_refl, bI_eq, bI_z1, nI_ltI, nI_leI, g11, h4, nI_eq]
      refine go_at (blk := b_Model_goesOn_28) rfl ?_
      simp (disch := omega) only [b_Model_goesOn_28, be_56, List.getD_cons_zero, List.getD_cons_succ, List.set_cons_zero, List.set_cons_succ, List.length_cons, List.length_nil, pk_I, pk_A, pr_A, pi_I, st_s, st_n, if_true, if_false, eq_self, d_if, d_ju, d_re, d_ca, cat0, cat1, cat2, cat3, fr_z, fr_s, cc_I, cc_A, cc_N, Nat.reduceAdd, Nat.reduceLT, Nat.reduceLeDiff, Nat.reduceEqDiff, not_true, not_false_iff, z1_0, z1_1, Bool.and_self, Bool.true_and, Bool.and_true, nI_add, pk_mul, nI_clamp, decide_true, Nat.le_refl, bI_eq, bI_z1, nI_ltI, nI_leI, g11, h4, nI_eq]
      refine hQ v' f1 ?_
      rw [tk_2 ht]
      exact f2
theorem r_must {d : Nat} {v : Nat → Nat → Int32} {w : Nat → Nat → Int64} {Q : Option Value → am_H → Prop} {E : ENV} {s : SG} (hE : ME E v w) (hs : MS' E v s) {j : Nat} (hj : j < 37) (hj0 : j ≠ 0) (hj3 : j ≠ 3) (hQ : ∀ v', G8 v v' → MS' E v' (wantS E j s) → Q none (428, 26053, KD, RF, v', w)) : am_Ca (d + 3) M_Model_must [.ref 388, .int (nI j)] (428, 26053, KD, RF, v, w) Q := by
  refine ca_in (k := k_Model_must) (nL := 2) rfl (Nat.le_of_ble_eq_true rfl) ?_
  show am_Go am_X0 _ k_Model_must 0 ([.ref 388, .int (nI j)], [], _) _
  refine go_at (blk := b_Model_must_0) rfl ?_
  simp (disch := omega) only [b_Model_must_0, be_6, be_4, be_57_1, kc_388, List.getD_cons_zero, List.getD_cons_succ, List.set_cons_zero, List.set_cons_succ, List.length_cons, List.length_nil, pk_I, pk_A, pr_A, pi_I, st_s, st_n, if_true, if_false, eq_self, d_if, d_ju, d_re, d_ca, cat0, cat1, cat2, cat3, fr_z, fr_s, cc_I, cc_A, cc_N, Nat.reduceAdd, Nat.reduceLT, Nat.reduceLeDiff, Nat.reduceEqDiff, not_true, not_false_iff, z1_0, z1_1, Bool.and_self, Bool.true_and, Bool.and_true, nI_add, pk_mul, nI_clamp, decide_true, Nat.le_refl, bI_eq, bI_z1]
  refine r_is hE hs hj hj3 ?_
  refine go_at (blk := b_Model_must_5) rfl ?_
  simp (disch := omega) only [b_Model_must_5, be_50_0, List.getD_cons_zero, List.getD_cons_succ, List.set_cons_zero, List.set_cons_succ, List.length_cons, List.length_nil, pk_I, pk_A, pr_A, pi_I, st_s, st_n, if_true, if_false, eq_self, d_if, d_ju, d_re, d_ca, cat0, cat1, cat2, cat3, fr_z, fr_s, cc_I, cc_A, cc_N, Nat.reduceAdd, Nat.reduceLT, Nat.reduceLeDiff, Nat.reduceEqDiff, not_true, not_false_iff, z1_0, z1_1, Bool.and_self, Bool.true_and, Bool.and_true, nI_add, pk_mul, nI_clamp, decide_true, Nat.le_refl, bI_eq, bI_z1]
  split
  · rename_i hc
    have hc : ¬ kdR E s = j := by simpa using hc
    refine go_at (blk := b_Model_must_15) rfl ?_
    simp (disch := omega) only [b_Model_must_15, be_6, be_1, be_57_1, kc_388, List.getD_cons_zero, List.getD_cons_succ, List.set_cons_zero, List.set_cons_succ, List.length_cons, List.length_nil, pk_I, pk_A, pr_A, pi_I, st_s, st_n, if_true, if_false, eq_self, d_if, d_ju, d_re, d_ca, cat0, cat1, cat2, cat3, fr_z, fr_s, cc_I, cc_A, cc_N, Nat.reduceAdd, Nat.reduceLT, Nat.reduceLeDiff, Nat.reduceEqDiff, not_true, not_false_iff, z1_0, z1_1, Bool.and_self, Bool.true_and, Bool.and_true, nI_add, pk_mul, nI_clamp, decide_true, Nat.le_refl, bI_eq, bI_z1]
    refine r_fail hE hs (by omega) (by omega) ?_
    intro v' f1 f2
    refine go_at (blk := b_Model_must_20) rfl ?_
    simp (disch := omega) only [b_Model_must_20, be_56, List.getD_cons_zero, List.getD_cons_succ, List.set_cons_zero, List.set_cons_succ, List.length_cons, List.length_nil, pk_I, pk_A, pr_A, pi_I, st_s, st_n, if_true, if_false, eq_self, d_if, d_ju, d_re, d_ca, cat0, cat1, cat2, cat3, fr_z, fr_s, cc_I, cc_A, cc_N, Nat.reduceAdd, Nat.reduceLT, Nat.reduceLeDiff, Nat.reduceEqDiff, not_true, not_false_iff, z1_0, z1_1, Bool.and_self, Bool.true_and, Bool.and_true, nI_add, pk_mul, nI_clamp, decide_true, Nat.le_refl, bI_eq, bI_z1]
    refine hQ v' f1 ?_
    rw [show wantS E j s = failS E 1 s by
      obtain ⟨r, l, p⟩ := s
      cases r with
      | inl e => rfl
      | inr t =>
        have hc : ¬ eK E t = j := hc
        unfold wantS failS bR wnt
        dsimp only
        rw [if_neg hc]]
    exact f2
  · rename_i hc
    have hc : kdR E s = j := by simpa using hc
    refine go_at (blk := b_Model_must_8) rfl ?_
    simp (disch := omega) only [b_Model_must_8, be_6, be_57_0, kc_388, List.getD_cons_zero, List.getD_cons_succ, List.set_cons_zero, List.set_cons_succ, List.length_cons, List.length_nil, pk_I, pk_A, pr_A, pi_I, st_s, st_n, if_true, if_false, eq_self, d_if, d_ju, d_re, d_ca, cat0, cat1, cat2, cat3, fr_z, fr_s, cc_I, cc_A, cc_N, Nat.reduceAdd, Nat.reduceLT, Nat.reduceLeDiff, Nat.reduceEqDiff, not_true, not_false_iff, z1_0, z1_1, Bool.and_self, Bool.true_and, Bool.and_true, nI_add, pk_mul, nI_clamp, decide_true, Nat.le_refl, bI_eq, bI_z1]
    refine r_goesOn hE hs (fun t ht => ?_) ?_
    · obtain ⟨r, q⟩ := s
      dsimp only at ht
      subst ht
      have hc : eK E t = j := hc
      rw [hc]
      exact ⟨hj0, hj3⟩
    intro v' f1 f2
    refine go_at (blk := b_Model_must_12) rfl ?_
    simp (disch := omega) only [b_Model_must_12, be_51, List.getD_cons_zero, List.getD_cons_succ, List.set_cons_zero, List.set_cons_succ, List.length_cons, List.length_nil, pk_I, pk_A, pr_A, pi_I, st_s, st_n, if_true, if_false, eq_self, d_if, d_ju, d_re, d_ca, cat0, cat1, cat2, cat3, fr_z, fr_s, cc_I, cc_A, cc_N, Nat.reduceAdd, Nat.reduceLT, Nat.reduceLeDiff, Nat.reduceEqDiff, not_true, not_false_iff, z1_0, z1_1, Bool.and_self, Bool.true_and, Bool.and_true, nI_add, pk_mul, nI_clamp, decide_true, Nat.le_refl, bI_eq, bI_z1]
    refine go_at (blk := b_Model_must_20) rfl ?_
    simp (disch := omega) only [b_Model_must_20, be_56, List.getD_cons_zero, List.getD_cons_succ, List.set_cons_zero, List.set_cons_succ, List.length_cons, List.length_nil, pk_I, pk_A, pr_A, pi_I, st_s, st_n, if_true, if_false, eq_self, d_if, d_ju, d_re, d_ca, cat0, cat1, cat2, cat3, fr_z, fr_s, cc_I, cc_A, cc_N, Nat.reduceAdd, Nat.reduceLT, Nat.reduceLeDiff, Nat.reduceEqDiff, not_true, not_false_iff, z1_0, z1_1, Bool.and_self, Bool.true_and, Bool.and_true, nI_add, pk_mul, nI_clamp, decide_true, Nat.le_refl, bI_eq, bI_z1]
    refine hQ v' f1 ?_
    rw [show wantS E j s = takeS E s by
      obtain ⟨r, l, p⟩ := s
      cases r with
      | inl e => rfl
      | inr t =>
        have hc : eK E t = j := hc
        unfold wantS takeS bR wnt
        dsimp only
        rw [if_pos hc]]
    exact f2
