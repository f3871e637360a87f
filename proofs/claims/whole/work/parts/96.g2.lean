/-! laid by wip/whole/g2.py: the class: what its reader does with a TOKEN -/
abbrev RT : Type := (Nat × Nat) ⊕ Nat
abbrev SG : Type := RT × Nat × Nat
def bR (r : RT) (f : Nat → RT) : RT := match r with
  | .inl e => .inl e
  | .inr t => f t
def tkR (E : ENV) (t : Nat) : RT := if t < 400 then .inr (t + 1) else .inl (2, eP E t)
def wnt (E : ENV) (j t : Nat) : RT := if eK E t = j then tkR E t else .inl (1, eP E t)
def takeS (E : ENV) (s : SG) : SG := (bR s.1 (tkR E), s.2)
def wantS (E : ENV) (j : Nat) (s : SG) : SG := (bR s.1 (wnt E j), s.2)
def failS (E : ENV) (k : Nat) (s : SG) : SG := (bR s.1 (fun t => .inl (k, eP E t)), s.2)
def lateS (E : ENV) (k : Nat) (s : SG) : SG := match s.1 with
  | .inl _ => s
  | .inr t => if s.2.1 = 0 then (s.1, k, eP E t) else s
def numV (E : ENV) (lo : Nat) (s : SG) : Nat := match s.1 with
  | .inl _ => lo
  | .inr t => if eK E t = 2 then eV E t else lo
def numS (E : ENV) (lo hi : Nat) (s : SG) : SG := match s.1 with
  | .inl _ => s
  | .inr t => if eK E t = 2 then takeS E (if eV E t < lo ∨ hi < eV E t then lateS E 5 s else s) else failS E 1 s
def kdR (E : ENV) (s : SG) : Nat := match s.1 with
  | .inl _ => 3
  | .inr t => eK E t
def TC (E : ENV) (v : Nat → Nat → Int32) (w : Nat → Nat → Int64) : Prop := ∀ j, j ≤ eL E → v 21 j = nI (cK (eK E j)) ∧ v 22 j = nI (eP E j) ∧ (eK E j = 1 → w 23 j = lN (eM E j)) ∧ (eK E j = 2 → w 23 j = lN (eV E j))
def CG (E : ENV) (v : Nat → Nat → Int32) (t l p : Nat) : Prop := v 2 1 = -1 ∧ v 2 4 = nI t ∧ t ≤ eL E ∧ v 2 5 = nI 0 ∧ v 2 6 = nI l ∧ l ≤ 5 ∧ (l ≠ 0 → v 2 7 = nI p ∧ p ≤ 2000)
def CB (v : Nat → Nat → Int32) (k p : Nat) : Prop := v 2 5 = nI k ∧ 1 ≤ k ∧ k ≤ 5 ∧ v 2 1 = nI p ∧ p ≤ 2000 ∧ ∃ t, t ≤ 400 ∧ v 2 4 = nI t
def CS (E : ENV) (v : Nat → Nat → Int32) (s : SG) : Prop := match s.1 with
  | .inl e => CB v e.1 e.2
  | .inr t => CG E v t s.2.1 s.2.2
def CE (E : ENV) (v : Nat → Nat → Int32) (w : Nat → Nat → Int64) : Prop := EV E ∧ TC E v w
theorem CE_w {E : ENV} {v v' : Nat → Nat → Int32} {w : Nat → Nat → Int64} (h : CE E v w) (e1 : v' 21 = v 21) (e2 : v' 22 = v 22) : CE E v' w := by
  unfold CE TC at *
  rw [e1, e2]
  exact h
def F2 (v v' : Nat → Nat → Int32) : Prop := ∀ c, c ≠ 2 → v' c = v c
theorem F2_r {v : Nat → Nat → Int32} : F2 v v := fun _ _ => rfl
theorem F2_t {v v' v'' : Nat → Nat → Int32} (h : F2 v v') (h' : F2 v' v'') : F2 v v'' := fun c a => (h' c a).trans (h c a)
theorem CE_2 {E : ENV} {v v' : Nat → Nat → Int32} {w : Nat → Nat → Int64} (h : CE E v w) (e : F2 v v') : CE E v' w := CE_w h (e 21 (by omega)) (e 22 (by omega))
theorem CS_w {E : ENV} {v v' : Nat → Nat → Int32} {s : SG} (h : CS E v s) (e : v' 2 = v 2) : CS E v' s := by
  unfold CS CG CB at *
  rw [e]
  exact h
theorem ck3 : cK 3 = 303 := rfl
theorem ck_303 {k : Nat} (h : k < 37) (ho : okK k = true) : (nI (cK k) = nI 303) ↔ k = 3 := by
  have h1 := ck_lt9 k h
  rw [nI_eq (by omega) (by omega)]
  exact ⟨fun z => ck_inj k h ho 3 (by omega) rfl z, fun z => by rw [z]; rfl⟩
theorem ck_eq {k j : Nat} (h : k < 37) (ho : okK k = true) (hj : j < 37) (hoj : okK j = true) : (nI (cK k) = nI (cK j)) ↔ k = j := by
  have h1 := ck_lt9 k h
  have h2 := ck_lt9 j hj
  rw [nI_eq (by omega) (by omega)]
  exact ⟨fun z => ck_inj k h ho j hj hoj z, fun z => by rw [z]⟩
theorem kd_ok {E : ENV} (h : EV E) (s : SG) : kdR E s < 37 ∧ okK (kdR E s) = true := by
  obtain ⟨r, q⟩ := s
  cases r with
  | inl e => exact ⟨by show 3 < 37; omega, rfl⟩
  | inr t => exact h.2.2.2.1 t
theorem k_kind {d : Nat} {v : Nat → Nat → Int32} {w : Nat → Nat → Int64} {Q : Option Value → am_H → Prop} {E : ENV} {s : SG} (hE : CE E v w) (hs : CS E v s) (hQ : Q (some (.int (nI (cK (kdR E s))))) (428, 26053, KD, RF, v, w)) : am_Ca (d + 1) M_Reader_kind [.ref 2] (428, 26053, KD, RF, v, w) Q := by
  obtain ⟨r, l, p⟩ := s
  cases r with
  | inl e =>
    obtain ⟨k, p'⟩ := e
    obtain ⟨b5, bk1, bk5, b1, bp, t, bt, b4⟩ := hs
    have hk0 : ¬ nI k = 0 := nI_ne0 (by omega) (by omega)
    refine ca_in (k := k_Reader_kind) (nL := 1) rfl (Nat.le_of_ble_eq_true rfl) ?_
    show am_Go am_X0 _ k_Reader_kind 0 ([.ref 2], [], _) _
    refine go_at (blk := b_Reader_kind_0) rfl ?_
    simp (disch := omega) only [b_Reader_kind_0, be_6, be_33, be_50_1, kc_2, List.getD_cons_zero, List.getD_cons_succ, List.set_cons_zero, List.set_cons_succ, List.length_cons, List.length_nil, pk_I, pk_A, pr_A, pi_I, st_s, st_n, if_true, if_false, eq_self, d_if, d_ju, d_re, d_ca, cat0, cat1, cat2, cat3, fr_z, fr_s, cc_I, cc_A, cc_N, Nat.reduceAdd, Nat.reduceLT, Nat.reduceLeDiff, Nat.reduceEqDiff, not_true, not_false_iff, z1_0, z1_1, Bool.and_self, Bool.true_and, Bool.and_true, nI_add, pk_mul, nI_clamp, decide_true, Nat.le_refl, bI_eq, bI_z1, b5, hk0]
    refine go_at (blk := b_Reader_kind_22) rfl ?_
    simp (disch := omega) only [b_Reader_kind_22, be_1, be_0, List.getD_cons_zero, List.getD_cons_succ, List.set_cons_zero, List.set_cons_succ, List.length_cons, List.length_nil, pk_I, pk_A, pr_A, pi_I, st_s, st_n, if_true, if_false, eq_self, d_if, d_ju, d_re, d_ca, cat0, cat1, cat2, cat3, fr_z, fr_s, cc_I, cc_A, cc_N, Nat.reduceAdd, Nat.reduceLT, Nat.reduceLeDiff, Nat.reduceEqDiff, not_true, not_false_iff, z1_0, z1_1, Bool.and_self, Bool.true_and, Bool.and_true, nI_add, pk_mul, nI_clamp, decide_true, Nat.le_refl, bI_eq, bI_z1, b5, hk0]
    refine go_at (blk := b_Reader_kind_25) rfl ?_
    simp (disch := omega) only [b_Reader_kind_25, be_54, List.getD_cons_zero, List.getD_cons_succ, List.set_cons_zero, List.set_cons_succ, List.length_cons, List.length_nil, pk_I, pk_A, pr_A, pi_I, st_s, st_n, if_true, if_false, eq_self, d_if, d_ju, d_re, d_ca, cat0, cat1, cat2, cat3, fr_z, fr_s, cc_I, cc_A, cc_N, Nat.reduceAdd, Nat.reduceLT, Nat.reduceLeDiff, Nat.reduceEqDiff, not_true, not_false_iff, z1_0, z1_1, Bool.and_self, Bool.true_and, Bool.and_true, nI_add, pk_mul, nI_clamp, decide_true, Nat.le_refl, bI_eq, bI_z1, b5, hk0]
    exact hQ
  | inr t =>
    obtain ⟨g1, g4, gt, g5, g6, gl, g7⟩ := hs
    obtain ⟨gk, gp, gn, gv⟩ := hE.2 t gt
    have gL := hE.1.1
    refine ca_in (k := k_Reader_kind) (nL := 1) rfl (Nat.le_of_ble_eq_true rfl) ?_
    show am_Go am_X0 _ k_Reader_kind 0 ([.ref 2], [], _) _
    refine go_at (blk := b_Reader_kind_0) rfl ?_
    simp (disch := omega) only [b_Reader_kind_0, be_6, be_33, be_50_1, kc_2, List.getD_cons_zero, List.getD_cons_succ, List.set_cons_zero, List.set_cons_succ, List.length_cons, List.length_nil, pk_I, pk_A, pr_A, pi_I, st_s, st_n, if_true, if_false, eq_self, d_if, d_ju, d_re, d_ca, cat0, cat1, cat2, cat3, fr_z, fr_s, cc_I, cc_A, cc_N, Nat.reduceAdd, Nat.reduceLT, Nat.reduceLeDiff, Nat.reduceEqDiff, not_true, not_false_iff, z1_0, z1_1, Bool.and_self, Bool.true_and, Bool.and_true, nI_add, pk_mul, nI_clamp, decide_true, Nat.le_refl, bI_eq, bI_z1, g5, g4, gk, nI_z]
    refine go_at (blk := b_Reader_kind_7) rfl ?_
    simp (disch := omega) only [b_Reader_kind_7, be_6, be_34, be_33, be_38, be_51, kc_2, rf_2_2, kc_20, rf_20_0, ka_21, List.getD_cons_zero, List.getD_cons_succ, List.set_cons_zero, List.set_cons_succ, List.length_cons, List.length_nil, pk_I, pk_A, pr_A, pi_I, st_s, st_n, if_true, if_false, eq_self, d_if, d_ju, d_re, d_ca, cat0, cat1, cat2, cat3, fr_z, fr_s, cc_I, cc_A, cc_N, Nat.reduceAdd, Nat.reduceLT, Nat.reduceLeDiff, Nat.reduceEqDiff, not_true, not_false_iff, z1_0, z1_1, Bool.and_self, Bool.true_and, Bool.and_true, nI_add, pk_mul, nI_clamp, decide_true, Nat.le_refl, bI_eq, bI_z1, g5, g4, gk, nI_z]
    refine go_at (blk := b_Reader_kind_25) rfl ?_
    simp (disch := omega) only [b_Reader_kind_25, be_54, List.getD_cons_zero, List.getD_cons_succ, List.set_cons_zero, List.set_cons_succ, List.length_cons, List.length_nil, pk_I, pk_A, pr_A, pi_I, st_s, st_n, if_true, if_false, eq_self, d_if, d_ju, d_re, d_ca, cat0, cat1, cat2, cat3, fr_z, fr_s, cc_I, cc_A, cc_N, Nat.reduceAdd, Nat.reduceLT, Nat.reduceLeDiff, Nat.reduceEqDiff, not_true, not_false_iff, z1_0, z1_1, Bool.and_self, Bool.true_and, Bool.and_true, nI_add, pk_mul, nI_clamp, decide_true, Nat.le_refl, bI_eq, bI_z1, g5, g4, gk, nI_z]
    exact hQ
theorem k_fail {d : Nat} {v : Nat → Nat → Int32} {w : Nat → Nat → Int64} {Q : Option Value → am_H → Prop} {E : ENV} {s : SG} (hE : CE E v w) (hs : CS E v s) {j : Nat} (h1 : 1 ≤ j) (h5 : j ≤ 5) (hQ : ∀ v', F2 v v' → CS E v' (failS E j s) → Q none (428, 26053, KD, RF, v', w)) : am_Ca (d + 1) M_Reader_fail [.ref 2, .int (nI j)] (428, 26053, KD, RF, v, w) Q := by
  obtain ⟨r, l, p⟩ := s
  cases r with
  | inl e =>
    obtain ⟨k, p'⟩ := e
    obtain ⟨b5, bk1, bk5, b1, bp, t, bt, b4⟩ := hs
    have hk0 : ¬ nI k = 0 := nI_ne0 (by omega) (by omega)
    refine ca_in (k := k_Reader_fail) (nL := 2) rfl (Nat.le_of_ble_eq_true rfl) ?_
    show am_Go am_X0 _ k_Reader_fail 0 ([.ref 2, .int (nI j)], [], _) _
    refine go_at (blk := b_Reader_fail_0) rfl ?_
    simp (disch := omega) only [b_Reader_fail_0, be_6, be_33, be_50_1, kc_2, List.getD_cons_zero, List.getD_cons_succ, List.set_cons_zero, List.set_cons_succ, List.length_cons, List.length_nil, pk_I, pk_A, pr_A, pi_I, st_s, st_n, if_true, if_false, eq_self, d_if, d_ju, d_re, d_ca, cat0, cat1, cat2, cat3, fr_z, fr_s, cc_I, cc_A, cc_N, Nat.reduceAdd, Nat.reduceLT, Nat.reduceLeDiff, Nat.reduceEqDiff, not_true, not_false_iff, z1_0, z1_1, Bool.and_self, Bool.true_and, Bool.and_true, nI_add, pk_mul, nI_clamp, decide_true, Nat.le_refl, bI_eq, bI_z1, b5, hk0]
    refine go_at (blk := b_Reader_fail_28) rfl ?_
    simp (disch := omega) only [b_Reader_fail_28, be_56, List.getD_cons_zero, List.getD_cons_succ, List.set_cons_zero, List.set_cons_succ, List.length_cons, List.length_nil, pk_I, pk_A, pr_A, pi_I, st_s, st_n, if_true, if_false, eq_self, d_if, d_ju, d_re, d_ca, cat0, cat1, cat2, cat3, fr_z, fr_s, cc_I, cc_A, cc_N, Nat.reduceAdd, Nat.reduceLT, Nat.reduceLeDiff, Nat.reduceEqDiff, not_true, not_false_iff, z1_0, z1_1, Bool.and_self, Bool.true_and, Bool.and_true, nI_add, pk_mul, nI_clamp, decide_true, Nat.le_refl, bI_eq, bI_z1, b5, hk0]
    exact hQ v F2_r ⟨b5, bk1, bk5, b1, bp, t, bt, b4⟩
  | inr t =>
    obtain ⟨g1, g4, gt, g5, g6, gl, g7⟩ := hs
    obtain ⟨gk, gp, gn, gv⟩ := hE.2 t gt
    have gL := hE.1.1
    refine ca_in (k := k_Reader_fail) (nL := 2) rfl (Nat.le_of_ble_eq_true rfl) ?_
    show am_Go am_X0 _ k_Reader_fail 0 ([.ref 2, .int (nI j)], [], _) _
    refine go_at (blk := b_Reader_fail_0) rfl ?_
    simp (disch := omega) only [b_Reader_fail_0, be_6, be_33, be_50_1, kc_2, List.getD_cons_zero, List.getD_cons_succ, List.set_cons_zero, List.set_cons_succ, List.length_cons, List.length_nil, pk_I, pk_A, pr_A, pi_I, st_s, st_n, if_true, if_false, eq_self, d_if, d_ju, d_re, d_ca, cat0, cat1, cat2, cat3, fr_z, fr_s, cc_I, cc_A, cc_N, Nat.reduceAdd, Nat.reduceLT, Nat.reduceLeDiff, Nat.reduceEqDiff, not_true, not_false_iff, z1_0, z1_1, Bool.and_self, Bool.true_and, Bool.and_true, nI_add, pk_mul, nI_clamp, decide_true, Nat.le_refl, bI_eq, bI_z1, am_u_at, am_u_ne, upd_at, upd_ne, g5, g4, gp, nI_z]
    refine go_at (blk := b_Reader_fail_7) rfl ?_
    simp (disch := omega) only [b_Reader_fail_7, be_6, be_4, be_35, be_34, be_33, be_38, be_0, kc_2, rf_2_2, kc_20, rf_20_1, ka_22, List.getD_cons_zero, List.getD_cons_succ, List.set_cons_zero, List.set_cons_succ, List.length_cons, List.length_nil, pk_I, pk_A, pr_A, pi_I, st_s, st_n, if_true, if_false, eq_self, d_if, d_ju, d_re, d_ca, cat0, cat1, cat2, cat3, fr_z, fr_s, cc_I, cc_A, cc_N, Nat.reduceAdd, Nat.reduceLT, Nat.reduceLeDiff, Nat.reduceEqDiff, not_true, not_false_iff, z1_0, z1_1, Bool.and_self, Bool.true_and, Bool.and_true, nI_add, pk_mul, nI_clamp, decide_true, Nat.le_refl, bI_eq, bI_z1, am_u_at, am_u_ne, upd_at, upd_ne, g5, g4, gp, nI_z]
    refine go_at (blk := b_Reader_fail_28) rfl ?_
    simp (disch := omega) only [b_Reader_fail_28, be_56, List.getD_cons_zero, List.getD_cons_succ, List.set_cons_zero, List.set_cons_succ, List.length_cons, List.length_nil, pk_I, pk_A, pr_A, pi_I, st_s, st_n, if_true, if_false, eq_self, d_if, d_ju, d_re, d_ca, cat0, cat1, cat2, cat3, fr_z, fr_s, cc_I, cc_A, cc_N, Nat.reduceAdd, Nat.reduceLT, Nat.reduceLeDiff, Nat.reduceEqDiff, not_true, not_false_iff, z1_0, z1_1, Bool.and_self, Bool.true_and, Bool.and_true, nI_add, pk_mul, nI_clamp, decide_true, Nat.le_refl, bI_eq, bI_z1, am_u_at, am_u_ne, upd_at, upd_ne, g5, g4, gp, nI_z]
    refine hQ _ (fun c hc => by rw [am_u_ne hc, am_u_ne hc]) ⟨?_, h1, h5, ?_, (hE.1.2.2.2.2.1 t gt).1, t, by omega, ?_⟩
    · rw [am_u_at, upd_ne (by omega), am_u_at, upd_at]
    · rw [am_u_at, upd_at]
    · rw [am_u_at, upd_ne (by omega), am_u_at, upd_ne (by omega)]
      exact g4
theorem k_late {d : Nat} {v : Nat → Nat → Int32} {w : Nat → Nat → Int64} {Q : Option Value → am_H → Prop} {E : ENV} {t l p : Nat} (hE : CE E v w) (hs : CG E v t l p) {j : Nat} (h5 : j ≤ 5) (hQ : ∀ v', F2 v v' → CS E v' (lateS E j (.inr t, l, p)) → Q none (428, 26053, KD, RF, v', w)) : am_Ca (d + 1) M_Reader_failLate [.ref 2, .int (nI j)] (428, 26053, KD, RF, v, w) Q := by
  obtain ⟨g1, g4, gt, g5, g6, gl, g7⟩ := hs
  obtain ⟨gk, gp, gn, gv⟩ := hE.2 t gt
  have gL := hE.1.1
  refine ca_in (k := k_Reader_failLate) (nL := 2) rfl (Nat.le_of_ble_eq_true rfl) ?_
  show am_Go am_X0 _ k_Reader_failLate 0 ([.ref 2, .int (nI j)], [], _) _
  by_cases hl0 : l = 0
  · rw [hl0] at g6
    refine go_at (blk := b_Reader_failLate_0) rfl ?_
    simp (disch := omega) only [b_Reader_failLate_0, be_6, be_33, be_50_1, kc_2, List.getD_cons_zero, List.getD_cons_succ, List.set_cons_zero, List.set_cons_succ, List.length_cons, List.length_nil, pk_I, pk_A, pr_A, pi_I, st_s, st_n, if_true, if_false, eq_self, d_if, d_ju, d_re, d_ca, cat0, cat1, cat2, cat3, fr_z, fr_s, cc_I, cc_A, cc_N, Nat.reduceAdd, Nat.reduceLT, Nat.reduceLeDiff, Nat.reduceEqDiff, not_true, not_false_iff, z1_0, z1_1, Bool.and_self, Bool.true_and, Bool.and_true, nI_add, pk_mul, nI_clamp, decide_true, Nat.le_refl, bI_eq, bI_z1, am_u_at, am_u_ne, upd_at, upd_ne, g6, g4, gp, nI_z]
    refine go_at (blk := b_Reader_failLate_7) rfl ?_
    simp (disch := omega) only [b_Reader_failLate_7, be_6, be_4, be_35, be_34, be_33, be_38, be_0, kc_2, rf_2_2, kc_20, rf_20_1, ka_22, List.getD_cons_zero, List.getD_cons_succ, List.set_cons_zero, List.set_cons_succ, List.length_cons, List.length_nil, pk_I, pk_A, pr_A, pi_I, st_s, st_n, if_true, if_false, eq_self, d_if, d_ju, d_re, d_ca, cat0, cat1, cat2, cat3, fr_z, fr_s, cc_I, cc_A, cc_N, Nat.reduceAdd, Nat.reduceLT, Nat.reduceLeDiff, Nat.reduceEqDiff, not_true, not_false_iff, z1_0, z1_1, Bool.and_self, Bool.true_and, Bool.and_true, nI_add, pk_mul, nI_clamp, decide_true, Nat.le_refl, bI_eq, bI_z1, am_u_at, am_u_ne, upd_at, upd_ne, g6, g4, gp, nI_z]
    refine go_at (blk := b_Reader_failLate_28) rfl ?_
    simp (disch := omega) only [b_Reader_failLate_28, be_56, List.getD_cons_zero, List.getD_cons_succ, List.set_cons_zero, List.set_cons_succ, List.length_cons, List.length_nil, pk_I, pk_A, pr_A, pi_I, st_s, st_n, if_true, if_false, eq_self, d_if, d_ju, d_re, d_ca, cat0, cat1, cat2, cat3, fr_z, fr_s, cc_I, cc_A, cc_N, Nat.reduceAdd, Nat.reduceLT, Nat.reduceLeDiff, Nat.reduceEqDiff, not_true, not_false_iff, z1_0, z1_1, Bool.and_self, Bool.true_and, Bool.and_true, nI_add, pk_mul, nI_clamp, decide_true, Nat.le_refl, bI_eq, bI_z1, am_u_at, am_u_ne, upd_at, upd_ne, g6, g4, gp, nI_z]
    refine hQ _ (fun c hc => by rw [am_u_ne hc, am_u_ne hc]) ?_
    unfold lateS
    dsimp only
    rw [if_pos hl0]
    refine ⟨?_, ?_, gt, ?_, ?_, h5, fun _ => ⟨?_, (hE.1.2.2.2.2.1 t gt).1⟩⟩
    · rw [am_u_at, upd_ne (by omega), am_u_at, upd_ne (by omega)]; exact g1
    · rw [am_u_at, upd_ne (by omega), am_u_at, upd_ne (by omega)]; exact g4
    · rw [am_u_at, upd_ne (by omega), am_u_at, upd_ne (by omega)]; exact g5
    · rw [am_u_at, upd_ne (by omega), am_u_at, upd_at]
    · rw [am_u_at, upd_at]
  · have hl1 : ¬ nI l = 0 := nI_ne0 (by omega) (by omega)
    refine go_at (blk := b_Reader_failLate_0) rfl ?_
    simp (disch := omega) only [b_Reader_failLate_0, be_6, be_33, be_50_1, kc_2, List.getD_cons_zero, List.getD_cons_succ, List.set_cons_zero, List.set_cons_succ, List.length_cons, List.length_nil, pk_I, pk_A, pr_A, pi_I, st_s, st_n, if_true, if_false, eq_self, d_if, d_ju, d_re, d_ca, cat0, cat1, cat2, cat3, fr_z, fr_s, cc_I, cc_A, cc_N, Nat.reduceAdd, Nat.reduceLT, Nat.reduceLeDiff, Nat.reduceEqDiff, not_true, not_false_iff, z1_0, z1_1, Bool.and_self, Bool.true_and, Bool.and_true, nI_add, pk_mul, nI_clamp, decide_true, Nat.le_refl, bI_eq, bI_z1, g6, hl1]
    refine go_at (blk := b_Reader_failLate_28) rfl ?_
    simp (disch := omega) only [b_Reader_failLate_28, be_56, List.getD_cons_zero, List.getD_cons_succ, List.set_cons_zero, List.set_cons_succ, List.length_cons, List.length_nil, pk_I, pk_A, pr_A, pi_I, st_s, st_n, if_true, if_false, eq_self, d_if, d_ju, d_re, d_ca, cat0, cat1, cat2, cat3, fr_z, fr_s, cc_I, cc_A, cc_N, Nat.reduceAdd, Nat.reduceLT, Nat.reduceLeDiff, Nat.reduceEqDiff, not_true, not_false_iff, z1_0, z1_1, Bool.and_self, Bool.true_and, Bool.and_true, nI_add, pk_mul, nI_clamp, decide_true, Nat.le_refl, bI_eq, bI_z1, g6, hl1]
    refine hQ v F2_r ?_
    unfold lateS
    dsimp only
    rw [if_neg hl0]
    exact ⟨g1, g4, gt, g5, g6, gl, g7⟩
theorem k_take {d : Nat} {v : Nat → Nat → Int32} {w : Nat → Nat → Int64} {Q : Option Value → am_H → Prop} {E : ENV} {s : SG} (hE : CE E v w) (hs : CS E v s) (hk : ∀ t, s.1 = .inr t → eK E t ≠ 0 ∧ eK E t ≠ 3) (hQ : ∀ v', F2 v v' → CS E v' (takeS E s) → Q none (428, 26053, KD, RF, v', w)) : am_Ca (d + 2) M_Reader_take [.ref 2] (428, 26053, KD, RF, v, w) Q := by
  obtain ⟨r, l, p⟩ := s
  cases r with
  | inl e =>
    obtain ⟨k, p'⟩ := e
    obtain ⟨b5, bk1, bk5, b1, bp, t, bt, b4⟩ := hs
    have hk0 : ¬ nI k = 0 := nI_ne0 (by omega) (by omega)
    refine ca_in (k := k_Reader_take) (nL := 1) rfl (Nat.le_of_ble_eq_true rfl) ?_
    show am_Go am_X0 _ k_Reader_take 0 ([.ref 2], [], _) _
    by_cases ht : t < 400
    · have h4 : ¬ 400 ≤ t := by omega
      refine go_at (blk := b_Reader_take_0) rfl ?_
      simp (disch := omega) only [b_Reader_take_0, be_6, be_33, be_1, be_49_3, kc_2, List.getD_cons_zero, List.getD_cons_succ, List.set_cons_zero, List.set_cons_succ, List.length_cons, List.length_nil, pk_I, pk_A, pr_A, pi_I, st_s, st_n, if_true, if_false, eq_self, d_if, d_ju, d_re, d_ca, cat0, cat1, cat2, cat3, fr_z, fr_s, cc_I, cc_A, cc_N, Nat.reduceAdd, Nat.reduceLT, Nat.reduceLeDiff, Nat.reduceEqDiff, not_true, not_false_iff, z1_0, z1_1, Bool.and_self, Bool.true_and, Bool.and_true, nI_add, pk_mul, nI_clamp, decide_true, Nat.le_refl, bI_eq, bI_z1, nI_ltI, nI_leI, am_u_at, am_u_ne, upd_at, upd_ne, b4, h4]
      refine go_at (blk := b_Reader_take_10) rfl ?_
      simp (disch := omega) only [b_Reader_take_10, be_6, be_30I, be_30A, be_33, be_1, be_12, be_35, be_51, kc_2, List.getD_cons_zero, List.getD_cons_succ, List.set_cons_zero, List.set_cons_succ, List.length_cons, List.length_nil, pk_I, pk_A, pr_A, pi_I, st_s, st_n, if_true, if_false, eq_self, d_if, d_ju, d_re, d_ca, cat0, cat1, cat2, cat3, fr_z, fr_s, cc_I, cc_A, cc_N, Nat.reduceAdd, Nat.reduceLT, Nat.reduceLeDiff, Nat.reduceEqDiff, not_true, not_false_iff, z1_0, z1_1, Bool.and_self, Bool.true_and, Bool.and_true, nI_add, pk_mul, nI_clamp, decide_true, Nat.le_refl, bI_eq, bI_z1, nI_ltI, nI_leI, am_u_at, am_u_ne, upd_at, upd_ne, b4, h4]
      refine go_at (blk := b_Reader_take_28) rfl ?_
      simp (disch := omega) only [b_Reader_take_28, be_56, List.getD_cons_zero, List.getD_cons_succ, List.set_cons_zero, List.set_cons_succ, List.length_cons, List.length_nil, pk_I, pk_A, pr_A, pi_I, st_s, st_n, if_true, if_false, eq_self, d_if, d_ju, d_re, d_ca, cat0, cat1, cat2, cat3, fr_z, fr_s, cc_I, cc_A, cc_N, Nat.reduceAdd, Nat.reduceLT, Nat.reduceLeDiff, Nat.reduceEqDiff, not_true, not_false_iff, z1_0, z1_1, Bool.and_self, Bool.true_and, Bool.and_true, nI_add, pk_mul, nI_clamp, decide_true, Nat.le_refl, bI_eq, bI_z1, nI_ltI, nI_leI, am_u_at, am_u_ne, upd_at, upd_ne, b4, h4]
      refine hQ _ (fun c hc => by rw [am_u_ne hc]) ⟨?_, bk1, bk5, ?_, bp, t + 1, by omega, ?_⟩
      · rw [am_u_at, upd_ne (by omega)]; exact b5
      · rw [am_u_at, upd_ne (by omega)]; exact b1
      · rw [am_u_at, upd_at]
    · have h4 : 400 ≤ t := by omega
      refine go_at (blk := b_Reader_take_0) rfl ?_
      simp (disch := omega) only [b_Reader_take_0, be_6, be_33, be_1, be_49_3, kc_2, List.getD_cons_zero, List.getD_cons_succ, List.set_cons_zero, List.set_cons_succ, List.length_cons, List.length_nil, pk_I, pk_A, pr_A, pi_I, st_s, st_n, if_true, if_false, eq_self, d_if, d_ju, d_re, d_ca, cat0, cat1, cat2, cat3, fr_z, fr_s, cc_I, cc_A, cc_N, Nat.reduceAdd, Nat.reduceLT, Nat.reduceLeDiff, Nat.reduceEqDiff, not_true, not_false_iff, z1_0, z1_1, Bool.and_self, Bool.true_and, Bool.and_true, nI_add, pk_mul, nI_clamp, decide_true, Nat.le_refl, bI_eq, bI_z1, nI_ltI, nI_leI, b4, h4]
      refine go_at (blk := b_Reader_take_23) rfl ?_
      simp (disch := omega) only [b_Reader_take_23, be_6, be_1, be_57_1, kc_2, List.getD_cons_zero, List.getD_cons_succ, List.set_cons_zero, List.set_cons_succ, List.length_cons, List.length_nil, pk_I, pk_A, pr_A, pi_I, st_s, st_n, if_true, if_false, eq_self, d_if, d_ju, d_re, d_ca, cat0, cat1, cat2, cat3, fr_z, fr_s, cc_I, cc_A, cc_N, Nat.reduceAdd, Nat.reduceLT, Nat.reduceLeDiff, Nat.reduceEqDiff, not_true, not_false_iff, z1_0, z1_1, Bool.and_self, Bool.true_and, Bool.and_true, nI_add, pk_mul, nI_clamp, decide_true, Nat.le_refl, bI_eq, bI_z1, nI_ltI, nI_leI, b4, h4]
      refine k_fail (s := (.inl (k, p'), l, p)) hE ⟨b5, bk1, bk5, b1, bp, t, bt, b4⟩ (by omega) (by omega) ?_
      intro v' f1 f2
      refine go_at (blk := b_Reader_take_28) rfl ?_
      simp (disch := omega) only [b_Reader_take_28, be_56, List.getD_cons_zero, List.getD_cons_succ, List.set_cons_zero, List.set_cons_succ, List.length_cons, List.length_nil, pk_I, pk_A, pr_A, pi_I, st_s, st_n, if_true, if_false, eq_self, d_if, d_ju, d_re, d_ca, cat0, cat1, cat2, cat3, fr_z, fr_s, cc_I, cc_A, cc_N, Nat.reduceAdd, Nat.reduceLT, Nat.reduceLeDiff, Nat.reduceEqDiff, not_true, not_false_iff, z1_0, z1_1, Bool.and_self, Bool.true_and, Bool.and_true, nI_add, pk_mul, nI_clamp, decide_true, Nat.le_refl, bI_eq, bI_z1, nI_ltI, nI_leI, b4, h4]
      exact hQ v' f1 f2
  | inr t =>
    obtain ⟨g1, g4, gt, g5, g6, gl, g7⟩ := hs
    obtain ⟨gk, gp, gn, gv⟩ := hE.2 t gt
    have gL := hE.1.1
    refine ca_in (k := k_Reader_take) (nL := 1) rfl (Nat.le_of_ble_eq_true rfl) ?_
    show am_Go am_X0 _ k_Reader_take 0 ([.ref 2], [], _) _
    obtain ⟨h0, h3⟩ := hk t rfl
    by_cases ht : t < 400
    · have h4 : ¬ 400 ≤ t := by omega
      refine go_at (blk := b_Reader_take_0) rfl ?_
      simp (disch := omega) only [b_Reader_take_0, be_6, be_33, be_1, be_49_3, kc_2, List.getD_cons_zero, List.getD_cons_succ, List.set_cons_zero, List.set_cons_succ, List.length_cons, List.length_nil, pk_I, pk_A, pr_A, pi_I, st_s, st_n, if_true, if_false, eq_self, d_if, d_ju, d_re, d_ca, cat0, cat1, cat2, cat3, fr_z, fr_s, cc_I, cc_A, cc_N, Nat.reduceAdd, Nat.reduceLT, Nat.reduceLeDiff, Nat.reduceEqDiff, not_true, not_false_iff, z1_0, z1_1, Bool.and_self, Bool.true_and, Bool.and_true, nI_add, pk_mul, nI_clamp, decide_true, Nat.le_refl, bI_eq, bI_z1, nI_ltI, nI_leI, am_u_at, am_u_ne, upd_at, upd_ne, g4, h4]
      refine go_at (blk := b_Reader_take_10) rfl ?_
      simp (disch := omega) only [b_Reader_take_10, be_6, be_30I, be_30A, be_33, be_1, be_12, be_35, be_51, kc_2, List.getD_cons_zero, List.getD_cons_succ, List.set_cons_zero, List.set_cons_succ, List.length_cons, List.length_nil, pk_I, pk_A, pr_A, pi_I, st_s, st_n, if_true, if_false, eq_self, d_if, d_ju, d_re, d_ca, cat0, cat1, cat2, cat3, fr_z, fr_s, cc_I, cc_A, cc_N, Nat.reduceAdd, Nat.reduceLT, Nat.reduceLeDiff, Nat.reduceEqDiff, not_true, not_false_iff, z1_0, z1_1, Bool.and_self, Bool.true_and, Bool.and_true, nI_add, pk_mul, nI_clamp, decide_true, Nat.le_refl, bI_eq, bI_z1, nI_ltI, nI_leI, am_u_at, am_u_ne, upd_at, upd_ne, g4, h4]
      refine go_at (blk := b_Reader_take_28) rfl ?_
      simp (disch := omega) only [b_Reader_take_28, be_56, List.getD_cons_zero, List.getD_cons_succ, List.set_cons_zero, List.set_cons_succ, List.length_cons, List.length_nil, pk_I, pk_A, pr_A, pi_I, st_s, st_n, if_true, if_false, eq_self, d_if, d_ju, d_re, d_ca, cat0, cat1, cat2, cat3, fr_z, fr_s, cc_I, cc_A, cc_N, Nat.reduceAdd, Nat.reduceLT, Nat.reduceLeDiff, Nat.reduceEqDiff, not_true, not_false_iff, z1_0, z1_1, Bool.and_self, Bool.true_and, Bool.and_true, nI_add, pk_mul, nI_clamp, decide_true, Nat.le_refl, bI_eq, bI_z1, nI_ltI, nI_leI, am_u_at, am_u_ne, upd_at, upd_ne, g4, h4]
      refine hQ _ (fun c hc => by rw [am_u_ne hc]) ?_
      unfold takeS bR tkR
      dsimp only
      rw [if_pos ht]
      refine ⟨?_, ?_, ev_s hE.1 gt h0 h3 ht, ?_, ?_, gl, fun z => ?_⟩
      · rw [am_u_at, upd_ne (by omega)]; exact g1
      · rw [am_u_at, upd_at]
      · rw [am_u_at, upd_ne (by omega)]; exact g5
      · rw [am_u_at, upd_ne (by omega)]; exact g6
      · rw [am_u_at, upd_ne (by omega)]; exact g7 z
    · have h4 : 400 ≤ t := by omega
      refine go_at (blk := b_Reader_take_0) rfl ?_
      simp (disch := omega) only [b_Reader_take_0, be_6, be_33, be_1, be_49_3, kc_2, List.getD_cons_zero, List.getD_cons_succ, List.set_cons_zero, List.set_cons_succ, List.length_cons, List.length_nil, pk_I, pk_A, pr_A, pi_I, st_s, st_n, if_true, if_false, eq_self, d_if, d_ju, d_re, d_ca, cat0, cat1, cat2, cat3, fr_z, fr_s, cc_I, cc_A, cc_N, Nat.reduceAdd, Nat.reduceLT, Nat.reduceLeDiff, Nat.reduceEqDiff, not_true, not_false_iff, z1_0, z1_1, Bool.and_self, Bool.true_and, Bool.and_true, nI_add, pk_mul, nI_clamp, decide_true, Nat.le_refl, bI_eq, bI_z1, nI_ltI, nI_leI, g4, h4]
      refine go_at (blk := b_Reader_take_23) rfl ?_
      simp (disch := omega) only [b_Reader_take_23, be_6, be_1, be_57_1, kc_2, List.getD_cons_zero, List.getD_cons_succ, List.set_cons_zero, List.set_cons_succ, List.length_cons, List.length_nil, pk_I, pk_A, pr_A, pi_I, st_s, st_n, if_true, if_false, eq_self, d_if, d_ju, d_re, d_ca, cat0, cat1, cat2, cat3, fr_z, fr_s, cc_I, cc_A, cc_N, Nat.reduceAdd, Nat.reduceLT, Nat.reduceLeDiff, Nat.reduceEqDiff, not_true, not_false_iff, z1_0, z1_1, Bool.and_self, Bool.true_and, Bool.and_true, nI_add, pk_mul, nI_clamp, decide_true, Nat.le_refl, bI_eq, bI_z1, nI_ltI, nI_leI, g4, h4]
      refine k_fail (s := (.inr t, l, p)) hE ⟨g1, g4, gt, g5, g6, gl, g7⟩ (by omega) (by omega) ?_
      intro v' f1 f2
      refine go_at (blk := b_Reader_take_28) rfl ?_
      simp (disch := omega) only [b_Reader_take_28, be_56, List.getD_cons_zero, List.getD_cons_succ, List.set_cons_zero, List.set_cons_succ, List.length_cons, List.length_nil, pk_I, pk_A, pr_A, pi_I, st_s, st_n, if_true, if_false, eq_self, d_if, d_ju, d_re, d_ca, cat0, cat1, cat2, cat3, fr_z, fr_s, cc_I, cc_A, cc_N, Nat.reduceAdd, Nat.reduceLT, Nat.reduceLeDiff, Nat.reduceEqDiff, not_true, not_false_iff, z1_0, z1_1, Bool.and_self, Bool.true_and, Bool.and_true, nI_add, pk_mul, nI_clamp, decide_true, Nat.le_refl, bI_eq, bI_z1, nI_ltI, nI_leI, g4, h4]
      refine hQ v' f1 ?_
      unfold takeS bR tkR
      dsimp only
      rw [if_neg ht]
      exact f2
theorem k_want {d : Nat} {v : Nat → Nat → Int32} {w : Nat → Nat → Int64} {Q : Option Value → am_H → Prop} {E : ENV} {s : SG} (hE : CE E v w) (hs : CS E v s) {j : Nat} (hj : j < 37) (hoj : okK j = true) (hj0 : j ≠ 0) (hj3 : j ≠ 3) (hQ : ∀ v', F2 v v' → CS E v' (wantS E j s) → Q none (428, 26053, KD, RF, v', w)) : am_Ca (d + 3) M_Reader_want [.ref 2, .int (nI (cK j))] (428, 26053, KD, RF, v, w) Q := by
  have hceq := ck_eq (kd_ok hE.1 s).1 (kd_ok hE.1 s).2 hj hoj
  refine ca_in (k := k_Reader_want) (nL := 2) rfl (Nat.le_of_ble_eq_true rfl) ?_
  show am_Go am_X0 _ k_Reader_want 0 ([.ref 2, .int (nI (cK j))], [], _) _
  refine go_at (blk := b_Reader_want_0) rfl ?_
  simp (disch := omega) only [b_Reader_want_0, be_6, be_57_0, kc_2, List.getD_cons_zero, List.getD_cons_succ, List.set_cons_zero, List.set_cons_succ, List.length_cons, List.length_nil, pk_I, pk_A, pr_A, pi_I, st_s, st_n, if_true, if_false, eq_self, d_if, d_ju, d_re, d_ca, cat0, cat1, cat2, cat3, fr_z, fr_s, cc_I, cc_A, cc_N, Nat.reduceAdd, Nat.reduceLT, Nat.reduceLeDiff, Nat.reduceEqDiff, not_true, not_false_iff, z1_0, z1_1, Bool.and_self, Bool.true_and, Bool.and_true, nI_add, pk_mul, nI_clamp, decide_true, Nat.le_refl, bI_eq, bI_z1, hceq]
  refine k_kind hE hs ?_
  refine go_at (blk := b_Reader_want_4) rfl ?_
  simp (disch := omega) only [b_Reader_want_4, be_4, be_49_1, List.getD_cons_zero, List.getD_cons_succ, List.set_cons_zero, List.set_cons_succ, List.length_cons, List.length_nil, pk_I, pk_A, pr_A, pi_I, st_s, st_n, if_true, if_false, eq_self, d_if, d_ju, d_re, d_ca, cat0, cat1, cat2, cat3, fr_z, fr_s, cc_I, cc_A, cc_N, Nat.reduceAdd, Nat.reduceLT, Nat.reduceLeDiff, Nat.reduceEqDiff, not_true, not_false_iff, z1_0, z1_1, Bool.and_self, Bool.true_and, Bool.and_true, nI_add, pk_mul, nI_clamp, decide_true, Nat.le_refl, bI_eq, bI_z1, hceq]
  split
  · rename_i hc
    refine go_at (blk := b_Reader_want_15) rfl ?_
    simp (disch := omega) only [b_Reader_want_15, be_6, be_1, be_57_1, kc_2, List.getD_cons_zero, List.getD_cons_succ, List.set_cons_zero, List.set_cons_succ, List.length_cons, List.length_nil, pk_I, pk_A, pr_A, pi_I, st_s, st_n, if_true, if_false, eq_self, d_if, d_ju, d_re, d_ca, cat0, cat1, cat2, cat3, fr_z, fr_s, cc_I, cc_A, cc_N, Nat.reduceAdd, Nat.reduceLT, Nat.reduceLeDiff, Nat.reduceEqDiff, not_true, not_false_iff, z1_0, z1_1, Bool.and_self, Bool.true_and, Bool.and_true, nI_add, pk_mul, nI_clamp, decide_true, Nat.le_refl, bI_eq, bI_z1, hceq]
    refine k_fail hE hs (by omega) (by omega) ?_
    intro v' f1 f2
    refine go_at (blk := b_Reader_want_20) rfl ?_
    simp (disch := omega) only [b_Reader_want_20, be_56, List.getD_cons_zero, List.getD_cons_succ, List.set_cons_zero, List.set_cons_succ, List.length_cons, List.length_nil, pk_I, pk_A, pr_A, pi_I, st_s, st_n, if_true, if_false, eq_self, d_if, d_ju, d_re, d_ca, cat0, cat1, cat2, cat3, fr_z, fr_s, cc_I, cc_A, cc_N, Nat.reduceAdd, Nat.reduceLT, Nat.reduceLeDiff, Nat.reduceEqDiff, not_true, not_false_iff, z1_0, z1_1, Bool.and_self, Bool.true_and, Bool.and_true, nI_add, pk_mul, nI_clamp, decide_true, Nat.le_refl, bI_eq, bI_z1, hceq]
    refine hQ v' f1 ?_
    rw [show wantS E j s = failS E 1 s by
      obtain ⟨r, l, p⟩ := s
      cases r with
      | inl e => rfl
      | inr t =>
        have hc : ¬ eK E t = j := hc
        unfold wantS failS bR wnt
        dsimp only
        rw [if_neg hc]]
    exact f2
  · rename_i hc
    have hc : kdR E s = j := Decidable.not_not.mp hc
    refine go_at (blk := b_Reader_want_8) rfl ?_
    simp (disch := omega) only [b_Reader_want_8, be_6, be_57_0, kc_2, List.getD_cons_zero, List.getD_cons_succ, List.set_cons_zero, List.set_cons_succ, List.length_cons, List.length_nil, pk_I, pk_A, pr_A, pi_I, st_s, st_n, if_true, if_false, eq_self, d_if, d_ju, d_re, d_ca, cat0, cat1, cat2, cat3, fr_z, fr_s, cc_I, cc_A, cc_N, Nat.reduceAdd, Nat.reduceLT, Nat.reduceLeDiff, Nat.reduceEqDiff, not_true, not_false_iff, z1_0, z1_1, Bool.and_self, Bool.true_and, Bool.and_true, nI_add, pk_mul, nI_clamp, decide_true, Nat.le_refl, bI_eq, bI_z1, hceq]
    refine k_take hE hs (fun t ht => ?_) ?_
    · obtain ⟨r, q⟩ := s
      dsimp only at ht
      subst ht
      have hc : eK E t = j := hc
      rw [hc]
      exact ⟨hj0, hj3⟩
    intro v' f1 f2
    refine go_at (blk := b_Reader_want_12) rfl ?_
    simp (disch := omega) only [b_Reader_want_12, be_51, List.getD_cons_zero, List.getD_cons_succ, List.set_cons_zero, List.set_cons_succ, List.length_cons, List.length_nil, pk_I, pk_A, pr_A, pi_I, st_s, st_n, if_true, if_false, eq_self, d_if, d_ju, d_re, d_ca, cat0, cat1, cat2, cat3, fr_z, fr_s, cc_I, cc_A, cc_N, Nat.reduceAdd, Nat.reduceLT, Nat.reduceLeDiff, Nat.reduceEqDiff, not_true, not_false_iff, z1_0, z1_1, Bool.and_self, Bool.true_and, Bool.and_true, nI_add, pk_mul, nI_clamp, decide_true, Nat.le_refl, bI_eq, bI_z1, hceq]
    refine go_at (blk := b_Reader_want_20) rfl ?_
    simp (disch := omega) only [b_Reader_want_20, be_56, List.getD_cons_zero, List.getD_cons_succ, List.set_cons_zero, List.set_cons_succ, List.length_cons, List.length_nil, pk_I, pk_A, pr_A, pi_I, st_s, st_n, if_true, if_false, eq_self, d_if, d_ju, d_re, d_ca, cat0, cat1, cat2, cat3, fr_z, fr_s, cc_I, cc_A, cc_N, Nat.reduceAdd, Nat.reduceLT, Nat.reduceLeDiff, Nat.reduceEqDiff, not_true, not_false_iff, z1_0, z1_1, Bool.and_self, Bool.true_and, Bool.and_true, nI_add, pk_mul, nI_clamp, decide_true, Nat.le_refl, bI_eq, bI_z1, hceq]
    refine hQ v' f1 ?_
    rw [show wantS E j s = takeS E s by
      obtain ⟨r, l, p⟩ := s
      cases r with
      | inl e => rfl
      | inr t =>
        have hc : eK E t = j := hc
        unfold wantS takeS bR wnt
        dsimp only
        rw [if_pos hc]]
    exact f2
theorem ck2 : nI 301 = nI (cK 2) := rfl
theorem k_num {d : Nat} {v : Nat → Nat → Int32} {w : Nat → Nat → Int64} {Q : Option Value → am_H → Prop} {E : ENV} {s : SG} (hE : CE E v w) (hs : CS E v s) {lo hi : Nat} (hlo9 : lo ≤ 1000) (hhi9 : hi ≤ 1000) (hQ : ∀ v', F2 v v' → CS E v' (numS E lo hi s) → Q (some (.int (nI (numV E lo s)))) (428, 26053, KD, RF, v', w)) : am_Ca (d + 3) M_Reader_wantNumber [.ref 2, .int (nI lo), .int (nI hi)] (428, 26053, KD, RF, v, w) Q := by
  obtain ⟨r, l, p⟩ := s
  cases r with
  | inl e =>
    have hceq : ¬ nI (cK (kdR E (.inl e, l, p))) = nI (cK 2) := fun z => absurd ((ck_eq (by show 3 < 37; omega) rfl (by omega) rfl).mp z) (by show ¬ 3 = 2; omega)
    refine ca_in (k := k_Reader_wantNumber) (nL := 4) rfl (Nat.le_of_ble_eq_true rfl) ?_
    show am_Go am_X0 _ k_Reader_wantNumber 0 ([.ref 2, .int (nI lo), .int (nI hi), .null], [], _) _
    refine go_at (blk := b_Reader_wantNumber_0) rfl ?_
    simp (disch := omega) only [b_Reader_wantNumber_0, be_6, be_57_0, kc_2, List.getD_cons_zero, List.getD_cons_succ, List.set_cons_zero, List.set_cons_succ, List.length_cons, List.length_nil, pk_I, pk_A, pr_A, pi_I, st_s, st_n, if_true, if_false, eq_self, d_if, d_ju, d_re, d_ca, cat0, cat1, cat2, cat3, fr_z, fr_s, cc_I, cc_A, cc_N, Nat.reduceAdd, Nat.reduceLT, Nat.reduceLeDiff, Nat.reduceEqDiff, not_true, not_false_iff, z1_0, z1_1, Bool.and_self, Bool.true_and, Bool.and_true, nI_add, pk_mul, nI_clamp, decide_true, Nat.le_refl, bI_eq, bI_z1, ck2, hceq, nI_eq]
    refine k_kind hE hs ?_
    refine go_at (blk := b_Reader_wantNumber_4) rfl ?_
    simp (disch := omega) only [b_Reader_wantNumber_4, be_1, be_49_0, List.getD_cons_zero, List.getD_cons_succ, List.set_cons_zero, List.set_cons_succ, List.length_cons, List.length_nil, pk_I, pk_A, pr_A, pi_I, st_s, st_n, if_true, if_false, eq_self, d_if, d_ju, d_re, d_ca, cat0, cat1, cat2, cat3, fr_z, fr_s, cc_I, cc_A, cc_N, Nat.reduceAdd, Nat.reduceLT, Nat.reduceLeDiff, Nat.reduceEqDiff, not_true, not_false_iff, z1_0, z1_1, Bool.and_self, Bool.true_and, Bool.and_true, nI_add, pk_mul, nI_clamp, decide_true, Nat.le_refl, bI_eq, bI_z1, ck2, hceq, nI_eq]
    refine go_at (blk := b_Reader_wantNumber_10) rfl ?_
    simp (disch := omega) only [b_Reader_wantNumber_10, be_6, be_1, be_57_1, kc_2, List.getD_cons_zero, List.getD_cons_succ, List.set_cons_zero, List.set_cons_succ, List.length_cons, List.length_nil, pk_I, pk_A, pr_A, pi_I, st_s, st_n, if_true, if_false, eq_self, d_if, d_ju, d_re, d_ca, cat0, cat1, cat2, cat3, fr_z, fr_s, cc_I, cc_A, cc_N, Nat.reduceAdd, Nat.reduceLT, Nat.reduceLeDiff, Nat.reduceEqDiff, not_true, not_false_iff, z1_0, z1_1, Bool.and_self, Bool.true_and, Bool.and_true, nI_add, pk_mul, nI_clamp, decide_true, Nat.le_refl, bI_eq, bI_z1, ck2, hceq, nI_eq]
    refine k_fail hE hs (by omega) (by omega) ?_
    intro v2 f2 g2
    refine go_at (blk := b_Reader_wantNumber_15) rfl ?_
    simp (disch := omega) only [b_Reader_wantNumber_15, be_4, be_54, List.getD_cons_zero, List.getD_cons_succ, List.set_cons_zero, List.set_cons_succ, List.length_cons, List.length_nil, pk_I, pk_A, pr_A, pi_I, st_s, st_n, if_true, if_false, eq_self, d_if, d_ju, d_re, d_ca, cat0, cat1, cat2, cat3, fr_z, fr_s, cc_I, cc_A, cc_N, Nat.reduceAdd, Nat.reduceLT, Nat.reduceLeDiff, Nat.reduceEqDiff, not_true, not_false_iff, z1_0, z1_1, Bool.and_self, Bool.true_and, Bool.and_true, nI_add, pk_mul, nI_clamp, decide_true, Nat.le_refl, bI_eq, bI_z1, ck2, hceq, nI_eq]
    exact hQ v2 f2 g2
  | inr t =>
    have hs0' := hs
    have hs0 : CG E v t l p := hs
    have hceq : (nI (cK (kdR E (.inr t, l, p))) = nI (cK 2)) ↔ eK E t = 2 := ck_eq (hE.1.2.2.2.1 t).1 (hE.1.2.2.2.1 t).2 (by omega) rfl
    obtain ⟨g1, g4, gt, g5, g6, gl, g7⟩ := hs
    obtain ⟨gk, gp, gn, gv⟩ := hE.2 t gt
    have gL := hE.1.1
    refine ca_in (k := k_Reader_wantNumber) (nL := 4) rfl (Nat.le_of_ble_eq_true rfl) ?_
    show am_Go am_X0 _ k_Reader_wantNumber 0 ([.ref 2, .int (nI lo), .int (nI hi), .null], [], _) _
    refine go_at (blk := b_Reader_wantNumber_0) rfl ?_
    simp (disch := omega) only [b_Reader_wantNumber_0, be_6, be_57_0, kc_2, List.getD_cons_zero, List.getD_cons_succ, List.set_cons_zero, List.set_cons_succ, List.length_cons, List.length_nil, pk_I, pk_A, pr_A, pi_I, st_s, st_n, if_true, if_false, eq_self, d_if, d_ju, d_re, d_ca, cat0, cat1, cat2, cat3, fr_z, fr_s, cc_I, cc_A, cc_N, Nat.reduceAdd, Nat.reduceLT, Nat.reduceLeDiff, Nat.reduceEqDiff, not_true, not_false_iff, z1_0, z1_1, Bool.and_self, Bool.true_and, Bool.and_true, nI_add, pk_mul, nI_clamp, decide_true, Nat.le_refl, bI_eq, bI_z1, nI_ltI, nI_leI, g5, g4, ck2, hceq, lN_i, nI_eq, pk_L]
    refine k_kind hE hs0' ?_
    refine go_at (blk := b_Reader_wantNumber_4) rfl ?_
    simp (disch := omega) only [b_Reader_wantNumber_4, be_1, be_49_0, List.getD_cons_zero, List.getD_cons_succ, List.set_cons_zero, List.set_cons_succ, List.length_cons, List.length_nil, pk_I, pk_A, pr_A, pi_I, st_s, st_n, if_true, if_false, eq_self, d_if, d_ju, d_re, d_ca, cat0, cat1, cat2, cat3, fr_z, fr_s, cc_I, cc_A, cc_N, Nat.reduceAdd, Nat.reduceLT, Nat.reduceLeDiff, Nat.reduceEqDiff, not_true, not_false_iff, z1_0, z1_1, Bool.and_self, Bool.true_and, Bool.and_true, nI_add, pk_mul, nI_clamp, decide_true, Nat.le_refl, bI_eq, bI_z1, nI_ltI, nI_leI, g5, g4, ck2, hceq, lN_i, nI_eq, pk_L]
    split
    · rename_i hc
      have hc : eK E t = 2 := hc
      have gv2 := gv hc
      have gv9 := (hE.1.2.2.2.2.1 t gt).2.1 hc
      have hE2 : ∀ v2, F2 v v2 → CE E v2 w := fun v2 f => CE_2 hE f
      refine go_at (blk := b_Reader_wantNumber_17) rfl ?_
      simp (disch := omega) only [b_Reader_wantNumber_17, be_6, be_34, be_33, be_41, be_27, be_7, be_4, be_49_2, kc_2, rf_2_2, kc_20, rf_20_2, ka_23, List.getD_cons_zero, List.getD_cons_succ, List.set_cons_zero, List.set_cons_succ, List.length_cons, List.length_nil, pk_I, pk_A, pr_A, pi_I, st_s, st_n, if_true, if_false, eq_self, d_if, d_ju, d_re, d_ca, cat0, cat1, cat2, cat3, fr_z, fr_s, cc_I, cc_A, cc_N, Nat.reduceAdd, Nat.reduceLT, Nat.reduceLeDiff, Nat.reduceEqDiff, not_true, not_false_iff, z1_0, z1_1, Bool.and_self, Bool.true_and, Bool.and_true, nI_add, pk_mul, nI_clamp, decide_true, Nat.le_refl, bI_eq, bI_z1, nI_ltI, nI_leI, g5, g4, ck2, hceq, lN_i, nI_eq, pk_L, gv2]
      split
      · rename_i hlo
        refine go_at (blk := b_Reader_wantNumber_41) rfl ?_
        simp (disch := omega) only [b_Reader_wantNumber_41, be_6, be_1, be_57_1, kc_2, List.getD_cons_zero, List.getD_cons_succ, List.set_cons_zero, List.set_cons_succ, List.length_cons, List.length_nil, pk_I, pk_A, pr_A, pi_I, st_s, st_n, if_true, if_false, eq_self, d_if, d_ju, d_re, d_ca, cat0, cat1, cat2, cat3, fr_z, fr_s, cc_I, cc_A, cc_N, Nat.reduceAdd, Nat.reduceLT, Nat.reduceLeDiff, Nat.reduceEqDiff, not_true, not_false_iff, z1_0, z1_1, Bool.and_self, Bool.true_and, Bool.and_true, nI_add, pk_mul, nI_clamp, decide_true, Nat.le_refl, bI_eq, bI_z1, nI_ltI, nI_leI, g5, g4, ck2, hceq, lN_i, nI_eq, pk_L, gv2]
        refine k_late hE hs0 (by omega) ?_
        intro v2 f2 g2
        refine go_at (blk := b_Reader_wantNumber_46) rfl ?_
        simp (disch := omega) only [b_Reader_wantNumber_46, be_6, be_57_0, kc_2, List.getD_cons_zero, List.getD_cons_succ, List.set_cons_zero, List.set_cons_succ, List.length_cons, List.length_nil, pk_I, pk_A, pr_A, pi_I, st_s, st_n, if_true, if_false, eq_self, d_if, d_ju, d_re, d_ca, cat0, cat1, cat2, cat3, fr_z, fr_s, cc_I, cc_A, cc_N, Nat.reduceAdd, Nat.reduceLT, Nat.reduceLeDiff, Nat.reduceEqDiff, not_true, not_false_iff, z1_0, z1_1, Bool.and_self, Bool.true_and, Bool.and_true, nI_add, pk_mul, nI_clamp, decide_true, Nat.le_refl, bI_eq, bI_z1, nI_ltI, nI_leI, g5, g4, ck2, hceq, lN_i, nI_eq, pk_L, gv2]
        refine k_take (hE2 v2 f2) (s := (lateS E 5 (.inr t, l, p))) g2 (fun t' ht => ?_) ?_
        · have : t' = t := by unfold lateS at ht; dsimp only at ht; split at ht <;> (dsimp only at ht; cases ht; rfl)
          subst this
          rw [hc]
          exact ⟨by omega, by omega⟩
        intro v3 f3 g3
        refine go_at (blk := b_Reader_wantNumber_50) rfl ?_
        simp (disch := omega) only [b_Reader_wantNumber_50, be_4, be_54, List.getD_cons_zero, List.getD_cons_succ, List.set_cons_zero, List.set_cons_succ, List.length_cons, List.length_nil, pk_I, pk_A, pr_A, pi_I, st_s, st_n, if_true, if_false, eq_self, d_if, d_ju, d_re, d_ca, cat0, cat1, cat2, cat3, fr_z, fr_s, cc_I, cc_A, cc_N, Nat.reduceAdd, Nat.reduceLT, Nat.reduceLeDiff, Nat.reduceEqDiff, not_true, not_false_iff, z1_0, z1_1, Bool.and_self, Bool.true_and, Bool.and_true, nI_add, pk_mul, nI_clamp, decide_true, Nat.le_refl, bI_eq, bI_z1, nI_ltI, nI_leI, g5, g4, ck2, hceq, lN_i, nI_eq, pk_L, gv2]
        rw [show numV E lo (.inr t, l, p) = eV E t from if_pos hc, show numS E lo hi (.inr t, l, p) = takeS E (lateS E 5 (.inr t, l, p)) from (if_pos hc).trans (by rw [if_pos (Or.inl hlo)])] at hQ
        exact hQ v3 (F2_t f2 f3) g3
      · rename_i hlo
        refine go_at (blk := b_Reader_wantNumber_36) rfl ?_
        simp (disch := omega) only [b_Reader_wantNumber_36, be_4, be_49_5, List.getD_cons_zero, List.getD_cons_succ, List.set_cons_zero, List.set_cons_succ, List.length_cons, List.length_nil, pk_I, pk_A, pr_A, pi_I, st_s, st_n, if_true, if_false, eq_self, d_if, d_ju, d_re, d_ca, cat0, cat1, cat2, cat3, fr_z, fr_s, cc_I, cc_A, cc_N, Nat.reduceAdd, Nat.reduceLT, Nat.reduceLeDiff, Nat.reduceEqDiff, not_true, not_false_iff, z1_0, z1_1, Bool.and_self, Bool.true_and, Bool.and_true, nI_add, pk_mul, nI_clamp, decide_true, Nat.le_refl, bI_eq, bI_z1, nI_ltI, nI_leI, g5, g4, ck2, hceq, lN_i, nI_eq, pk_L, gv2]
        split
        · rename_i hhi
          refine go_at (blk := b_Reader_wantNumber_46) rfl ?_
          simp (disch := omega) only [b_Reader_wantNumber_46, be_6, be_57_0, kc_2, List.getD_cons_zero, List.getD_cons_succ, List.set_cons_zero, List.set_cons_succ, List.length_cons, List.length_nil, pk_I, pk_A, pr_A, pi_I, st_s, st_n, if_true, if_false, eq_self, d_if, d_ju, d_re, d_ca, cat0, cat1, cat2, cat3, fr_z, fr_s, cc_I, cc_A, cc_N, Nat.reduceAdd, Nat.reduceLT, Nat.reduceLeDiff, Nat.reduceEqDiff, not_true, not_false_iff, z1_0, z1_1, Bool.and_self, Bool.true_and, Bool.and_true, nI_add, pk_mul, nI_clamp, decide_true, Nat.le_refl, bI_eq, bI_z1, nI_ltI, nI_leI, g5, g4, ck2, hceq, lN_i, nI_eq, pk_L, gv2]
          refine k_take hE (s := (.inr t, l, p)) hs0' (fun t' ht => ?_) ?_
          · have : t' = t := by dsimp only at ht; cases ht; rfl
            subst this
            rw [hc]
            exact ⟨by omega, by omega⟩
          intro v3 f3 g3
          refine go_at (blk := b_Reader_wantNumber_50) rfl ?_
          simp (disch := omega) only [b_Reader_wantNumber_50, be_4, be_54, List.getD_cons_zero, List.getD_cons_succ, List.set_cons_zero, List.set_cons_succ, List.length_cons, List.length_nil, pk_I, pk_A, pr_A, pi_I, st_s, st_n, if_true, if_false, eq_self, d_if, d_ju, d_re, d_ca, cat0, cat1, cat2, cat3, fr_z, fr_s, cc_I, cc_A, cc_N, Nat.reduceAdd, Nat.reduceLT, Nat.reduceLeDiff, Nat.reduceEqDiff, not_true, not_false_iff, z1_0, z1_1, Bool.and_self, Bool.true_and, Bool.and_true, nI_add, pk_mul, nI_clamp, decide_true, Nat.le_refl, bI_eq, bI_z1, nI_ltI, nI_leI, g5, g4, ck2, hceq, lN_i, nI_eq, pk_L, gv2]
          rw [show numV E lo (.inr t, l, p) = eV E t from if_pos hc, show numS E lo hi (.inr t, l, p) = takeS E (.inr t, l, p) from (if_pos hc).trans (by rw [if_neg (by omega)])] at hQ
          exact hQ v3 f3 g3
        · rename_i hhi
          refine go_at (blk := b_Reader_wantNumber_41) rfl ?_
          simp (disch := omega) only [b_Reader_wantNumber_41, be_6, be_1, be_57_1, kc_2, List.getD_cons_zero, List.getD_cons_succ, List.set_cons_zero, List.set_cons_succ, List.length_cons, List.length_nil, pk_I, pk_A, pr_A, pi_I, st_s, st_n, if_true, if_false, eq_self, d_if, d_ju, d_re, d_ca, cat0, cat1, cat2, cat3, fr_z, fr_s, cc_I, cc_A, cc_N, Nat.reduceAdd, Nat.reduceLT, Nat.reduceLeDiff, Nat.reduceEqDiff, not_true, not_false_iff, z1_0, z1_1, Bool.and_self, Bool.true_and, Bool.and_true, nI_add, pk_mul, nI_clamp, decide_true, Nat.le_refl, bI_eq, bI_z1, nI_ltI, nI_leI, g5, g4, ck2, hceq, lN_i, nI_eq, pk_L, gv2]
          refine k_late hE hs0 (by omega) ?_
          intro v2 f2 g2
          refine go_at (blk := b_Reader_wantNumber_46) rfl ?_
          simp (disch := omega) only [b_Reader_wantNumber_46, be_6, be_57_0, kc_2, List.getD_cons_zero, List.getD_cons_succ, List.set_cons_zero, List.set_cons_succ, List.length_cons, List.length_nil, pk_I, pk_A, pr_A, pi_I, st_s, st_n, if_true, if_false, eq_self, d_if, d_ju, d_re, d_ca, cat0, cat1, cat2, cat3, fr_z, fr_s, cc_I, cc_A, cc_N, Nat.reduceAdd, Nat.reduceLT, Nat.reduceLeDiff, Nat.reduceEqDiff, not_true, not_false_iff, z1_0, z1_1, Bool.and_self, Bool.true_and, Bool.and_true, nI_add, pk_mul, nI_clamp, decide_true, Nat.le_refl, bI_eq, bI_z1, nI_ltI, nI_leI, g5, g4, ck2, hceq, lN_i, nI_eq, pk_L, gv2]
          refine k_take (hE2 v2 f2) (s := (lateS E 5 (.inr t, l, p))) g2 (fun t' ht => ?_) ?_
          · have : t' = t := by unfold lateS at ht; dsimp only at ht; split at ht <;> (dsimp only at ht; cases ht; rfl)
            subst this
            rw [hc]
            exact ⟨by omega, by omega⟩
          intro v3 f3 g3
          refine go_at (blk := b_Reader_wantNumber_50) rfl ?_
          simp (disch := omega) only [b_Reader_wantNumber_50, be_4, be_54, List.getD_cons_zero, List.getD_cons_succ, List.set_cons_zero, List.set_cons_succ, List.length_cons, List.length_nil, pk_I, pk_A, pr_A, pi_I, st_s, st_n, if_true, if_false, eq_self, d_if, d_ju, d_re, d_ca, cat0, cat1, cat2, cat3, fr_z, fr_s, cc_I, cc_A, cc_N, Nat.reduceAdd, Nat.reduceLT, Nat.reduceLeDiff, Nat.reduceEqDiff, not_true, not_false_iff, z1_0, z1_1, Bool.and_self, Bool.true_and, Bool.and_true, nI_add, pk_mul, nI_clamp, decide_true, Nat.le_refl, bI_eq, bI_z1, nI_ltI, nI_leI, g5, g4, ck2, hceq, lN_i, nI_eq, pk_L, gv2]
          rw [show numV E lo (.inr t, l, p) = eV E t from if_pos hc, show numS E lo hi (.inr t, l, p) = takeS E (lateS E 5 (.inr t, l, p)) from (if_pos hc).trans (by rw [if_pos (Or.inr (by omega))])] at hQ
          exact hQ v3 (F2_t f2 f3) g3
    · rename_i hc
      have hc : ¬ eK E t = 2 := hc
      refine go_at (blk := b_Reader_wantNumber_10) rfl ?_
      simp (disch := omega) only [b_Reader_wantNumber_10, be_6, be_1, be_57_1, kc_2, List.getD_cons_zero, List.getD_cons_succ, List.set_cons_zero, List.set_cons_succ, List.length_cons, List.length_nil, pk_I, pk_A, pr_A, pi_I, st_s, st_n, if_true, if_false, eq_self, d_if, d_ju, d_re, d_ca, cat0, cat1, cat2, cat3, fr_z, fr_s, cc_I, cc_A, cc_N, Nat.reduceAdd, Nat.reduceLT, Nat.reduceLeDiff, Nat.reduceEqDiff, not_true, not_false_iff, z1_0, z1_1, Bool.and_self, Bool.true_and, Bool.and_true, nI_add, pk_mul, nI_clamp, decide_true, Nat.le_refl, bI_eq, bI_z1, nI_ltI, nI_leI, g5, g4, ck2, hceq, lN_i, nI_eq, pk_L]
      refine k_fail hE hs0' (by omega) (by omega) ?_
      intro v2 f2 g2
      refine go_at (blk := b_Reader_wantNumber_15) rfl ?_
      simp (disch := omega) only [b_Reader_wantNumber_15, be_4, be_54, List.getD_cons_zero, List.getD_cons_succ, List.set_cons_zero, List.set_cons_succ, List.length_cons, List.length_nil, pk_I, pk_A, pr_A, pi_I, st_s, st_n, if_true, if_false, eq_self, d_if, d_ju, d_re, d_ca, cat0, cat1, cat2, cat3, fr_z, fr_s, cc_I, cc_A, cc_N, Nat.reduceAdd, Nat.reduceLT, Nat.reduceLeDiff, Nat.reduceEqDiff, not_true, not_false_iff, z1_0, z1_1, Bool.and_self, Bool.true_and, Bool.and_true, nI_add, pk_mul, nI_clamp, decide_true, Nat.le_refl, bI_eq, bI_z1, nI_ltI, nI_leI, g5, g4, ck2, hceq, lN_i, nI_eq, pk_L]
      rw [show numV E lo (.inr t, l, p) = lo from if_neg hc, show numS E lo hi (.inr t, l, p) = failS E 1 (.inr t, l, p) from if_neg hc] at hQ
      exact hQ v2 f2 g2
