/-! laid by wip/whole/k17.py: the class: what was done, and how all was ahead of it -/
/-- the last things done, newest first -/
def PI (v : Nat → Nat → Int32) (n nx sz : Nat) (h : Nat → Nat → Int32) : Prop := v 48 1 = nI nx ∧ nx < 50 ∧ v 48 2 = nI sz ∧ sz ≤ 50 ∧ ∀ j, j < sz → RX v (50 + 6 * ((nx + 49 - j) % 50)) n (-1) 0 (h j)
def FP (v v' : Nat → Nat → Int32) : Prop := ∀ c, c ≠ 48 → (c < 50 ∨ 349 < c) → v' c = v c
def coH (f : Nat → Int32) (h : Nat → Nat → Int32) : Nat → Nat → Int32
  | 0 => f
  | j + 1 => h j
theorem md_50 : ∀ a, a < 200 → nI a - nI a / nI 50 * nI 50 = nI (a % 50) := by decide +kernel
theorem n50 : (nI 50 = 0) ↔ False := by decide
theorem st_k {i : Nat} (h : i < 50) : ST (50 + 6 * i) := by
  unfold ST
  exact Or.inr (Or.inr (Or.inr (Or.inr (Or.inr (Or.inr ⟨i, h, rfl⟩)))))
theorem mn_50 {s : Nat} (h : s ≤ 50) : (if s + 1 < 50 then nI (s + 1) else nI 50) = nI (if s < 50 then s + 1 else 50) := by
  by_cases h1 : s + 1 < 50
  · rw [if_pos h1, if_pos (by omega)]
  · rw [if_neg h1]
    by_cases h2 : s < 50
    · rw [if_pos h2, show s + 1 = 50 by omega]
    · rw [if_neg h2]
set_option maxHeartbeats 1000000 in
theorem k_keep {d : Nat} {v : Nat → Nat → Int32} {w : Nat → Nat → Int64} {Q : Option Value → am_H → Prop} {T : TXT} {f : Nat → Int32} {B : Int} (hK : KI B v T f) {nx sz : Nat} {h : Nat → Nat → Int32} (hP : PI v (tN T) nx sz h) (hQ : ∀ v', FP v v' → PI v' (tN T) ((nx + 1) % 50) (if sz < 50 then sz + 1 else 50) (coH f h) → Q none (428, 26053, KD, RF, v', w)) : am_Ca (d + 2) M_Past_keep [.ref 48, .ref 42] (428, 26053, KD, RF, v, w) Q := by
  obtain ⟨p1, p2, p3, p4, p5⟩ := hP
  have hs := st_k p2
  have hmd := md_50 (nx + 1) (by omega)
  have hmn := mn_50 p4
  refine ca_in (k := k_Past_keep) (nL := 2) rfl (Nat.le_of_ble_eq_true rfl) ?_
  show am_Go am_X0 _ k_Past_keep 0 ([.ref 48, .ref 42], [], _) _
  refine go_at (blk := b_Past_keep_0) rfl ?_
  simp (disch := omega) only [b_Past_keep_0, be_6, be_34, be_33, be_42, be_57_1, kc_48, rf_48_0, ka_49, List.getD_cons_zero, List.getD_cons_succ, List.set_cons_zero, List.set_cons_succ, List.length_cons, List.length_nil, pk_I, pk_A, pr_A, pi_I, st_s, st_n, if_true, if_false, eq_self, d_if, d_ju, d_re, d_ca, cat0, cat1, cat2, cat3, fr_z, fr_s, cc_I, cc_A, cc_N, Nat.reduceAdd, Nat.reduceLT, Nat.reduceLeDiff, Nat.reduceEqDiff, not_true, not_false_iff, z1_0, z1_1, Bool.and_self, Bool.true_and, Bool.and_true, nI_add, pk_mul, nI_clamp, decide_true, Nat.le_refl, bI_eq, bI_z1, nI_ltI, nI_leI, p1, p3, rf_49, kc_st hs, n50, hmd, hmn, am_u_at, am_u_ne, upd_at, upd_ne]
  refine k_copyFrom hs st_42 (by omega) hK.1 hK.2.1 hK.2.2.1 ?_
  intro v1 c1 r1
  have a1 : v1 48 1 = nI nx := by rw [c1 48 (by omega)]; exact p1
  have a3 : v1 48 2 = nI sz := by rw [c1 48 (by omega)]; exact p3
  refine go_at (blk := b_Past_keep_13) rfl ?_
  simp (disch := omega) only [b_Past_keep_13, be_6, be_33, be_1, be_12, be_16, be_35, be_65, be_56, kc_48, List.getD_cons_zero, List.getD_cons_succ, List.set_cons_zero, List.set_cons_succ, List.length_cons, List.length_nil, pk_I, pk_A, pr_A, pi_I, st_s, st_n, if_true, if_false, eq_self, d_if, d_ju, d_re, d_ca, cat0, cat1, cat2, cat3, fr_z, fr_s, cc_I, cc_A, cc_N, Nat.reduceAdd, Nat.reduceLT, Nat.reduceLeDiff, Nat.reduceEqDiff, not_true, not_false_iff, z1_0, z1_1, Bool.and_self, Bool.true_and, Bool.and_true, nI_add, pk_mul, nI_clamp, decide_true, Nat.le_refl, bI_eq, bI_z1, nI_ltI, nI_leI, p1, p3, rf_49, kc_st hs, n50, hmd, hmn, am_u_at, am_u_ne, upd_at, upd_ne, a1, a3]
  refine hQ _ ?_ ⟨?_, Nat.mod_lt _ (by omega), ?_, ?_, ?_⟩
  · intro c h1 h2
    simp (disch := omega) only [am_u_ne]
    exact c1 c (by omega)
  · simp (disch := omega) only [am_u_at, am_u_ne, upd_at, upd_ne]
  · simp (disch := omega) only [am_u_at, am_u_ne, upd_at, upd_ne]
  · split <;> omega
  · intro j hj
    have hj2 : j < 50 := by split at hj <;> omega
    cases j with
    | zero =>
      rw [show ((nx + 1) % 50 + 49 - 0) % 50 = nx by omega]
      exact RX_w r1 (fun c _ _ => by simp (disch := omega) only [am_u_ne])
    | succ j =>
      have hjs : j < sz := by split at hj <;> omega
      rw [show ((nx + 1) % 50 + 49 - (j + 1)) % 50 = (nx + 49 - j) % 50 by omega]
      exact RX_w (p5 j hjs) (fun c h1 h2 => by
        simp (disch := omega) only [am_u_ne]
        exact c1 c (by omega))
set_option maxHeartbeats 1000000 in
theorem k_giveBack0 {d : Nat} {v : Nat → Nat → Int32} {w : Nat → Nat → Int64} {Q : Option Value → am_H → Prop} {T : TXT} {f : Nat → Int32} {B : Int} (hK : KI B v T f) {nx : Nat} {h : Nat → Nat → Int32} (hP : PI v (tN T) nx 0 h) (hQ : Q (some (.int (nI 0))) (428, 26053, KD, RF, v, w)) : am_Ca (d + 2) M_Past_giveBack [.ref 48, .ref 42] (428, 26053, KD, RF, v, w) Q := by
  obtain ⟨p1, p2, p3, p4, p5⟩ := hP
  have hz : nI 0 = 0 := rfl
  refine ca_in (k := k_Past_giveBack) (nL := 2) rfl (Nat.le_of_ble_eq_true rfl) ?_
  show am_Go am_X0 _ k_Past_giveBack 0 ([.ref 48, .ref 42], [], _) _
  refine go_at (blk := b_Past_giveBack_0) rfl ?_
  simp (disch := omega) only [b_Past_giveBack_0, be_6, be_33, be_50_1, kc_48, List.getD_cons_zero, List.getD_cons_succ, List.set_cons_zero, List.set_cons_succ, List.length_cons, List.length_nil, pk_I, pk_A, pr_A, pi_I, st_s, st_n, if_true, if_false, eq_self, d_if, d_ju, d_re, d_ca, cat0, cat1, cat2, cat3, fr_z, fr_s, cc_I, cc_A, cc_N, Nat.reduceAdd, Nat.reduceLT, Nat.reduceLeDiff, Nat.reduceEqDiff, not_true, not_false_iff, z1_0, z1_1, Bool.and_self, Bool.true_and, Bool.and_true, nI_add, pk_mul, nI_clamp, decide_true, Nat.le_refl, bI_eq, bI_z1, nI_ltI, nI_leI, p1, p3, hz]
  refine go_at (blk := b_Past_giveBack_7) rfl ?_
  simp (disch := omega) only [b_Past_giveBack_7, be_1, be_73, List.getD_cons_zero, List.getD_cons_succ, List.set_cons_zero, List.set_cons_succ, List.length_cons, List.length_nil, pk_I, pk_A, pr_A, pi_I, st_s, st_n, if_true, if_false, eq_self, d_if, d_ju, d_re, d_ca, cat0, cat1, cat2, cat3, fr_z, fr_s, cc_I, cc_A, cc_N, Nat.reduceAdd, Nat.reduceLT, Nat.reduceLeDiff, Nat.reduceEqDiff, not_true, not_false_iff, z1_0, z1_1, Bool.and_self, Bool.true_and, Bool.and_true, nI_add, pk_mul, nI_clamp, decide_true, Nat.le_refl, bI_eq, bI_z1, nI_ltI, nI_leI, p1, p3, hz]
  exact hQ
set_option maxHeartbeats 1000000 in
theorem k_giveBack1 {d : Nat} {v : Nat → Nat → Int32} {w : Nat → Nat → Int64} {Q : Option Value → am_H → Prop} {T : TXT} {f : Nat → Int32} {B : Int} (hK : KI B v T f) {nx sz : Nat} {h : Nat → Nat → Int32} {C : Int} (hP : PI v (tN T) nx (sz + 1) h) (hg : GR C (tN T) (h 0)) (hQ : ∀ v', (∀ c, c ≠ 48 → (c < 42 ∨ 47 < c) → v' c = v c) → PI v' (tN T) ((nx + 49) % 50) sz (fun j => h (j + 1)) → RX v' 42 (tN T) (-1) 0 (h 0) → Q (some (.int (nI 1))) (428, 26053, KD, RF, v', w)) : am_Ca (d + 2) M_Past_giveBack [.ref 48, .ref 42] (428, 26053, KD, RF, v, w) Q := by
  obtain ⟨p1, p2, p3, p4, p5⟩ := hP
  have hz : (nI (sz + 1) = 0) ↔ False := by rw [nI_e0 (by omega)]; exact ⟨fun z => absurd z (by omega), False.elim⟩
  have hs := st_k (i := (nx + 49) % 50) (Nat.mod_lt _ (by omega))
  have hn2 : (nx + 49) % 50 < 50 := Nat.mod_lt _ (by omega)
  have hmd : nI (nx + 50 - 1) - nI (nx + 50 - 1) / nI 50 * nI 50 = nI ((nx + 49) % 50) := by rw [md_50 _ (by omega), show nx + 50 - 1 = nx + 49 by omega]
  have hms : nI (sz + 1) - nI 1 = nI sz := nI_s1
  refine ca_in (k := k_Past_giveBack) (nL := 2) rfl (Nat.le_of_ble_eq_true rfl) ?_
  show am_Go am_X0 _ k_Past_giveBack 0 ([.ref 48, .ref 42], [], _) _
  refine go_at (blk := b_Past_giveBack_0) rfl ?_
  simp (disch := omega) only [b_Past_giveBack_0, be_6, be_33, be_50_1, kc_48, List.getD_cons_zero, List.getD_cons_succ, List.set_cons_zero, List.set_cons_succ, List.length_cons, List.length_nil, pk_I, pk_A, pr_A, pi_I, st_s, st_n, if_true, if_false, eq_self, d_if, d_ju, d_re, d_ca, cat0, cat1, cat2, cat3, fr_z, fr_s, cc_I, cc_A, cc_N, Nat.reduceAdd, Nat.reduceLT, Nat.reduceLeDiff, Nat.reduceEqDiff, not_true, not_false_iff, z1_0, z1_1, Bool.and_self, Bool.true_and, Bool.and_true, nI_add, pk_mul, nI_clamp, decide_true, Nat.le_refl, bI_eq, bI_z1, nI_ltI, nI_leI, p1, p3, hz, rf_49, n50, hmd, hms, pk_sub, am_u_at, am_u_ne, upd_at, upd_ne]
  refine go_at (blk := b_Past_giveBack_9) rfl ?_
  simp (disch := omega) only [b_Past_giveBack_9, be_6, be_33, be_1, be_12, be_13, be_16, be_35, be_30I, be_30A, be_34, be_42, be_57_1, kc_48, rf_48_0, ka_49, kc_42, List.getD_cons_zero, List.getD_cons_succ, List.set_cons_zero, List.set_cons_succ, List.length_cons, List.length_nil, pk_I, pk_A, pr_A, pi_I, st_s, st_n, if_true, if_false, eq_self, d_if, d_ju, d_re, d_ca, cat0, cat1, cat2, cat3, fr_z, fr_s, cc_I, cc_A, cc_N, Nat.reduceAdd, Nat.reduceLT, Nat.reduceLeDiff, Nat.reduceEqDiff, not_true, not_false_iff, z1_0, z1_1, Bool.and_self, Bool.true_and, Bool.and_true, nI_add, pk_mul, nI_clamp, decide_true, Nat.le_refl, bI_eq, bI_z1, nI_ltI, nI_leI, p1, p3, hz, rf_49, n50, hmd, hms, pk_sub, am_u_at, am_u_ne, upd_at, upd_ne]
  have kx : KX (am_u (am_u v 48 1 (nI ((nx + 49) % 50))) 48 2 (nI sz)) T := KX_w hK.1 (fun c _ _ _ _ => by simp (disch := omega) only [am_u_ne])
  have rx : RX (am_u (am_u v 48 1 (nI ((nx + 49) % 50))) 48 2 (nI sz)) (50 + 6 * ((nx + 49) % 50)) (tN T) (-1) 0 (h 0) := RX_w (p5 0 (by omega)) (fun c _ _ => by simp (disch := omega) only [am_u_ne])
  refine k_copyFrom st_42 hs (by omega) kx rx hg ?_
  intro v1 c1 r1
  refine go_at (blk := b_Past_giveBack_48) rfl ?_
  simp (disch := omega) only [b_Past_giveBack_48, be_1, be_73, List.getD_cons_zero, List.getD_cons_succ, List.set_cons_zero, List.set_cons_succ, List.length_cons, List.length_nil, pk_I, pk_A, pr_A, pi_I, st_s, st_n, if_true, if_false, eq_self, d_if, d_ju, d_re, d_ca, cat0, cat1, cat2, cat3, fr_z, fr_s, cc_I, cc_A, cc_N, Nat.reduceAdd, Nat.reduceLT, Nat.reduceLeDiff, Nat.reduceEqDiff, not_true, not_false_iff, z1_0, z1_1, Bool.and_self, Bool.true_and, Bool.and_true, nI_add, pk_mul, nI_clamp, decide_true, Nat.le_refl, bI_eq, bI_z1, nI_ltI, nI_leI, p1, p3, hz, rf_49, n50, hmd, hms, pk_sub, am_u_at, am_u_ne, upd_at, upd_ne]
  refine hQ _ ?_ ⟨?_, Nat.mod_lt _ (by omega), ?_, ?_, ?_⟩ r1
  · intro c h1 h2
    rw [c1 c (by omega)]
    simp (disch := omega) only [am_u_ne]
  · rw [c1 48 (by omega)]
    simp (disch := omega) only [am_u_at, am_u_ne, upd_at, upd_ne]
  · rw [c1 48 (by omega)]
    simp (disch := omega) only [am_u_at, am_u_ne, upd_at, upd_ne]
  · omega
  · intro j hj
    rw [show ((nx + 49) % 50 + 49 - j) % 50 = (nx + 49 - (j + 1)) % 50 by omega]
    exact RX_w (p5 (j + 1) (by omega)) (fun c h1 h2 => by
      rw [c1 c (by omega)]
      simp (disch := omega) only [am_u_ne])
theorem k_pastClear {d : Nat} {v : Nat → Nat → Int32} {w : Nat → Nat → Int64} {Q : Option Value → am_H → Prop} (hQ : Q none (428, 26053, KD, RF, am_u v 48 2 (nI 0), w)) : am_Ca (d + 1) M_Past_clear [.ref 48] (428, 26053, KD, RF, v, w) Q := by
  refine ca_in (k := k_Past_clear) (nL := 1) rfl (Nat.le_of_ble_eq_true rfl) ?_
  show am_Go am_X0 _ k_Past_clear 0 ([.ref 48], [], _) _
  refine go_at (blk := b_Past_clear_0) rfl ?_
  simp (disch := omega) only [b_Past_clear_0, be_6, be_1, be_35, be_56, kc_48, List.getD_cons_zero, List.getD_cons_succ, List.set_cons_zero, List.set_cons_succ, List.length_cons, List.length_nil, pk_I, pk_A, pr_A, pi_I, st_s, st_n, if_true, if_false, eq_self, d_if, d_ju, d_re, d_ca, cat0, cat1, cat2, cat3, fr_z, fr_s, cc_I, cc_A, cc_N, Nat.reduceAdd, Nat.reduceLT, Nat.reduceLeDiff, Nat.reduceEqDiff, not_true, not_false_iff, z1_0, z1_1, Bool.and_self, Bool.true_and, Bool.and_true, nI_add, pk_mul, nI_clamp, decide_true, Nat.le_refl, bI_eq, bI_z1]
  exact hQ
theorem k_witClear {d : Nat} {v : Nat → Nat → Int32} {w : Nat → Nat → Int64} {Q : Option Value → am_H → Prop} (hQ : Q none (428, 26053, KD, RF, am_u v 358 5 (nI 0), w)) : am_Ca (d + 1) M_Witness_clear [.ref 358] (428, 26053, KD, RF, v, w) Q := by
  refine ca_in (k := k_Witness_clear) (nL := 1) rfl (Nat.le_of_ble_eq_true rfl) ?_
  show am_Go am_X0 _ k_Witness_clear 0 ([.ref 358], [], _) _
  refine go_at (blk := b_Witness_clear_0) rfl ?_
  simp (disch := omega) only [b_Witness_clear_0, be_6, be_1, be_35, be_56, kc_358, List.getD_cons_zero, List.getD_cons_succ, List.set_cons_zero, List.set_cons_succ, List.length_cons, List.length_nil, pk_I, pk_A, pr_A, pi_I, st_s, st_n, if_true, if_false, eq_self, d_if, d_ju, d_re, d_ca, cat0, cat1, cat2, cat3, fr_z, fr_s, cc_I, cc_A, cc_N, Nat.reduceAdd, Nat.reduceLT, Nat.reduceLeDiff, Nat.reduceEqDiff, not_true, not_false_iff, z1_0, z1_1, Bool.and_self, Bool.true_and, Bool.and_true, nI_add, pk_mul, nI_clamp, decide_true, Nat.le_refl, bI_eq, bI_z1]
  exact hQ
