/-! laid by wip/whole/m3.py: the reference: MOVES, HAS, a minute -/
theorem m_movesNow {d : Nat} {v : Nat → Nat → Int32} {f x g : Nat → Int32} {b : Int32} {w : Nat → Nat → Int64} {Q : Option Value → am_H → Prop} {lv n : Nat} (ht : TW v lv n) (hl : lwW v lv 0) (hq : ∀ x' g' b', Q (some (.int (mvS v lv n f))) (428, 26053, KD, RF, mS v f (x') (g') (b'), w)) : am_Ca (d + 4) M_Model_movesNow [.ref 388] (428, 26053, KD, RF, mS v f x g b, w) Q := by
  obtain ⟨h18, hlv, h398, hn⟩ := ht
  refine ca_in (k := k_Model_movesNow) (nL := 1) rfl (Nat.le_of_ble_eq_true rfl) ?_
  show am_Go am_X0 _ k_Model_movesNow 0 ([.ref 388], [], _) _
  refine go_at (blk := b_Model_movesNow_0) rfl ?_
  simp (disch := omega) only [b_Model_movesNow_0, be_6, be_1, be_57_3, kc_388, List.getD_cons_zero, List.getD_cons_succ, List.set_cons_zero, List.set_cons_succ, List.length_cons, List.length_nil, pk_I, pk_A, pr_A, pi_I, st_s, st_n, if_true, if_false, eq_self, d_if, d_ju, d_re, d_ca, cat0, cat1, cat2, cat3, fr_z, fr_s, cc_I, cc_A, cc_N, Nat.reduceAdd, Nat.reduceLT, Nat.reduceLeDiff, Nat.reduceEqDiff, not_true, not_false_iff, z1_0, z1_1, Bool.and_self, Bool.true_and, Bool.and_true, nI_add, pk_mul, nI_clamp, decide_true, Nat.le_refl, bI_eq, bI_z1, mS_419, mS_416, mS_417, mS_46, mS_388, mS_o, mS_u419, mS_u416, mS_u417, mS_u46, mS_u388, mS_uo, h18, h398]
  refine m_setsOf ⟨h18, hlv, h398, hn⟩ (fun x' hx => ?_)
  refine go_at (blk := b_Model_movesNow_7) rfl ?_
  simp (disch := omega) only [b_Model_movesNow_7, be_6, be_1, be_34, be_38, be_13, be_2, be_57_4, kc_388, rf_388_44, ka_416, List.getD_cons_zero, List.getD_cons_succ, List.set_cons_zero, List.set_cons_succ, List.length_cons, List.length_nil, pk_I, pk_A, pr_A, pi_I, st_s, st_n, if_true, if_false, eq_self, d_if, d_ju, d_re, d_ca, cat0, cat1, cat2, cat3, fr_z, fr_s, cc_I, cc_A, cc_N, Nat.reduceAdd, Nat.reduceLT, Nat.reduceLeDiff, Nat.reduceEqDiff, not_true, not_false_iff, z1_0, z1_1, Bool.and_self, Bool.true_and, Bool.and_true, nI_add, pk_mul, nI_clamp, decide_true, Nat.le_refl, bI_eq, bI_z1, mS_419, mS_416, mS_417, mS_46, mS_388, mS_o, mS_u419, mS_u416, mS_u417, mS_u46, mS_u388, mS_uo, h18, h398]
  refine m_tells ⟨h18, hlv, h398, hn⟩ (by omega) hl (fun g' b' => ?_)
  refine go_at (blk := b_Model_movesNow_29) rfl ?_
  simp (disch := omega) only [b_Model_movesNow_29, be_54, List.getD_cons_zero, List.getD_cons_succ, List.set_cons_zero, List.set_cons_succ, List.length_cons, List.length_nil, pk_I, pk_A, pr_A, pi_I, st_s, st_n, if_true, if_false, eq_self, d_if, d_ju, d_re, d_ca, cat0, cat1, cat2, cat3, fr_z, fr_s, cc_I, cc_A, cc_N, Nat.reduceAdd, Nat.reduceLT, Nat.reduceLeDiff, Nat.reduceEqDiff, not_true, not_false_iff, z1_0, z1_1, Bool.and_self, Bool.true_and, Bool.and_true, nI_add, pk_mul, nI_clamp, decide_true, Nat.le_refl, bI_eq, bI_z1, mS_419, mS_416, mS_417, mS_46, mS_388, mS_o, mS_u419, mS_u416, mS_u417, mS_u46, mS_u388, mS_uo, h18, h398]
  rw [hx 0 (by omega), hx 1 (by omega), tlS_cong hx hl]
  exact hq _ _ _
theorem m_hasOf {d : Nat} {p : Nat} (hp : p < 8) {v : Nat → Nat → Int32} {f x g : Nat → Int32} {b : Int32} {w : Nat → Nat → Int64} {Q : Option Value → am_H → Prop} {lv n : Nat} (ht : TW v lv n) (hl : lwW v lv 1) (hq : ∀ x' g' b', Q (some (.int (hsS v lv n f p))) (428, 26053, KD, RF, mS v f (x') (g') (b'), w)) : am_Ca (d + 4) M_Model_hasOf [.ref 388, .int (nI p)] (428, 26053, KD, RF, mS v f x g b, w) Q := by
  obtain ⟨h18, hlv, h398, hn⟩ := ht
  refine ca_in (k := k_Model_hasOf) (nL := 2) rfl (Nat.le_of_ble_eq_true rfl) ?_
  show am_Go am_X0 _ k_Model_hasOf 0 ([.ref 388, .int (nI p)], [], _) _
  refine go_at (blk := b_Model_hasOf_0) rfl ?_
  simp (disch := omega) only [b_Model_hasOf_0, be_6, be_34, be_4, be_38, be_1, be_12, be_57_3, kc_388, rf_388_48, ka_419, List.getD_cons_zero, List.getD_cons_succ, List.set_cons_zero, List.set_cons_succ, List.length_cons, List.length_nil, pk_I, pk_A, pr_A, pi_I, st_s, st_n, if_true, if_false, eq_self, d_if, d_ju, d_re, d_ca, cat0, cat1, cat2, cat3, fr_z, fr_s, cc_I, cc_A, cc_N, Nat.reduceAdd, Nat.reduceLT, Nat.reduceLeDiff, Nat.reduceEqDiff, not_true, not_false_iff, z1_0, z1_1, Bool.and_self, Bool.true_and, Bool.and_true, nI_add, pk_mul, nI_clamp, decide_true, Nat.le_refl, bI_eq, bI_z1, mS_419, mS_416, mS_417, mS_46, mS_388, mS_o, mS_u419, mS_u416, mS_u417, mS_u46, mS_u388, mS_uo, h18, h398]
  refine m_setsOf ⟨h18, hlv, h398, hn⟩ (fun x' hx => ?_)
  refine go_at (blk := b_Model_hasOf_28) rfl ?_
  simp (disch := omega) only [b_Model_hasOf_28, be_6, be_1, be_34, be_4, be_38, be_2, be_57_4, kc_388, rf_388_48, ka_419, List.getD_cons_zero, List.getD_cons_succ, List.set_cons_zero, List.set_cons_succ, List.length_cons, List.length_nil, pk_I, pk_A, pr_A, pi_I, st_s, st_n, if_true, if_false, eq_self, d_if, d_ju, d_re, d_ca, cat0, cat1, cat2, cat3, fr_z, fr_s, cc_I, cc_A, cc_N, Nat.reduceAdd, Nat.reduceLT, Nat.reduceLeDiff, Nat.reduceEqDiff, not_true, not_false_iff, z1_0, z1_1, Bool.and_self, Bool.true_and, Bool.and_true, nI_add, pk_mul, nI_clamp, decide_true, Nat.le_refl, bI_eq, bI_z1, mS_419, mS_416, mS_417, mS_46, mS_388, mS_o, mS_u419, mS_u416, mS_u417, mS_u46, mS_u388, mS_uo, h18, h398]
  refine m_tells ⟨h18, hlv, h398, hn⟩ (by omega) hl (fun g' b' => ?_)
  refine go_at (blk := b_Model_hasOf_45) rfl ?_
  simp (disch := omega) only [b_Model_hasOf_45, be_54, List.getD_cons_zero, List.getD_cons_succ, List.set_cons_zero, List.set_cons_succ, List.length_cons, List.length_nil, pk_I, pk_A, pr_A, pi_I, st_s, st_n, if_true, if_false, eq_self, d_if, d_ju, d_re, d_ca, cat0, cat1, cat2, cat3, fr_z, fr_s, cc_I, cc_A, cc_N, Nat.reduceAdd, Nat.reduceLT, Nat.reduceLeDiff, Nat.reduceEqDiff, not_true, not_false_iff, z1_0, z1_1, Bool.and_self, Bool.true_and, Bool.and_true, nI_add, pk_mul, nI_clamp, decide_true, Nat.le_refl, bI_eq, bI_z1, mS_419, mS_416, mS_417, mS_46, mS_388, mS_o, mS_u419, mS_u416, mS_u417, mS_u46, mS_u388, mS_uo, h18, h398]
  rw [tlS_cong hx hl]
  exact hq _ _ _
theorem m_soresOf {d : Nat} {p : Nat} (hp : p < 8) {v : Nat → Nat → Int32} {f x g : Nat → Int32} {b : Int32} {w : Nat → Nat → Int64} {Q : Option Value → am_H → Prop} {lv n : Nat} (ht : TW v lv n) (hq : ∀ f' : Nat → Int32, f' (8 + p) = (g2 (fun p => v 402 (8 * lv + p)) f) (8 + p) → f' (16 + p) = (g2 (fun p => v 402 (8 * lv + p)) f) (16 + p) → (∀ j, j ≠ 8 + p → j ≠ 16 + p → f' j = f j) → Q none (428, 26053, KD, RF, mS v (f') x g b, w)) : am_Ca (d + 1) M_Model_soresOf [.ref 388, .int (nI p)] (428, 26053, KD, RF, mS v f x g b, w) Q := by
  obtain ⟨h18, hlv, h398, hn⟩ := ht
  refine ca_in (k := k_Model_soresOf) (nL := 2) rfl (Nat.le_of_ble_eq_true rfl) ?_
  show am_Go am_X0 _ k_Model_soresOf 0 ([.ref 388, .int (nI p)], [], _) _
  refine go_at (blk := b_Model_soresOf_0) rfl ?_
  simp (disch := omega) only [b_Model_soresOf_0, be_6, be_34, be_1, be_4, be_12, be_38, be_50_1, kc_388, rf_388_48, ka_419, List.getD_cons_zero, List.getD_cons_succ, List.set_cons_zero, List.set_cons_succ, List.length_cons, List.length_nil, pk_I, pk_A, pr_A, pi_I, st_s, st_n, if_true, if_false, eq_self, d_if, d_ju, d_re, d_ca, cat0, cat1, cat2, cat3, fr_z, fr_s, cc_I, cc_A, cc_N, Nat.reduceAdd, Nat.reduceLT, Nat.reduceLeDiff, Nat.reduceEqDiff, not_true, not_false_iff, z1_0, z1_1, Bool.and_self, Bool.true_and, Bool.and_true, nI_add, pk_mul, nI_clamp, decide_true, Nat.le_refl, bI_eq, bI_z1, mS_419, mS_416, mS_417, mS_46, mS_388, mS_o, mS_u419, mS_u416, mS_u417, mS_u46, mS_u388, mS_uo, h18, h398, upd_at, upd_ne, upd_01, upd_11]
  split
  · rename_i hc
    refine go_at (blk := b_Model_soresOf_38) rfl ?_
    simp (disch := omega) only [b_Model_soresOf_38, be_6, be_34, be_1, be_4, be_12, be_32, be_38, be_43, be_33, be_14, be_49_2, kc_388, rf_388_48, ka_419, rf_388_27, ka_402, List.getD_cons_zero, List.getD_cons_succ, List.set_cons_zero, List.set_cons_succ, List.length_cons, List.length_nil, pk_I, pk_A, pr_A, pi_I, st_s, st_n, if_true, if_false, eq_self, d_if, d_ju, d_re, d_ca, cat0, cat1, cat2, cat3, fr_z, fr_s, cc_I, cc_A, cc_N, Nat.reduceAdd, Nat.reduceLT, Nat.reduceLeDiff, Nat.reduceEqDiff, not_true, not_false_iff, z1_0, z1_1, Bool.and_self, Bool.true_and, Bool.and_true, nI_add, pk_mul, nI_clamp, decide_true, Nat.le_refl, bI_eq, bI_z1, mS_419, mS_416, mS_417, mS_46, mS_388, mS_o, mS_u419, mS_u416, mS_u417, mS_u46, mS_u388, mS_uo, h18, h398, upd_at, upd_ne, upd_01, upd_11]
    split
    · rename_i hc2
      refine go_at (blk := b_Model_soresOf_87) rfl ?_
      simp (disch := omega) only [b_Model_soresOf_87, be_56, List.getD_cons_zero, List.getD_cons_succ, List.set_cons_zero, List.set_cons_succ, List.length_cons, List.length_nil, pk_I, pk_A, pr_A, pi_I, st_s, st_n, if_true, if_false, eq_self, d_if, d_ju, d_re, d_ca, cat0, cat1, cat2, cat3, fr_z, fr_s, cc_I, cc_A, cc_N, Nat.reduceAdd, Nat.reduceLT, Nat.reduceLeDiff, Nat.reduceEqDiff, not_true, not_false_iff, z1_0, z1_1, Bool.and_self, Bool.true_and, Bool.and_true, nI_add, pk_mul, nI_clamp, decide_true, Nat.le_refl, bI_eq, bI_z1, mS_419, mS_416, mS_417, mS_46, mS_388, mS_o, mS_u419, mS_u416, mS_u417, mS_u46, mS_u388, mS_uo, h18, h398, upd_at, upd_ne, upd_01, upd_11]
      try simp only [nI_o, nI_z] at *
      refine hq _ ?_ ?_ ?_
      · simp [g2_1 hp, upd, hc, hc2]
      · simp [g2_2 hp, upd, hc, hc2]
      · intro j h1 h2; simp [upd, h1, h2]
    · rename_i hc2
      refine go_at (blk := b_Model_soresOf_77) rfl ?_
      simp (disch := omega) only [b_Model_soresOf_77, be_6, be_34, be_1, be_4, be_12, be_43, be_0, kc_388, rf_388_48, ka_419, List.getD_cons_zero, List.getD_cons_succ, List.set_cons_zero, List.set_cons_succ, List.length_cons, List.length_nil, pk_I, pk_A, pr_A, pi_I, st_s, st_n, if_true, if_false, eq_self, d_if, d_ju, d_re, d_ca, cat0, cat1, cat2, cat3, fr_z, fr_s, cc_I, cc_A, cc_N, Nat.reduceAdd, Nat.reduceLT, Nat.reduceLeDiff, Nat.reduceEqDiff, not_true, not_false_iff, z1_0, z1_1, Bool.and_self, Bool.true_and, Bool.and_true, nI_add, pk_mul, nI_clamp, decide_true, Nat.le_refl, bI_eq, bI_z1, mS_419, mS_416, mS_417, mS_46, mS_388, mS_o, mS_u419, mS_u416, mS_u417, mS_u46, mS_u388, mS_uo, h18, h398, upd_at, upd_ne, upd_01, upd_11]
      refine go_at (blk := b_Model_soresOf_87) rfl ?_
      simp (disch := omega) only [b_Model_soresOf_87, be_56, List.getD_cons_zero, List.getD_cons_succ, List.set_cons_zero, List.set_cons_succ, List.length_cons, List.length_nil, pk_I, pk_A, pr_A, pi_I, st_s, st_n, if_true, if_false, eq_self, d_if, d_ju, d_re, d_ca, cat0, cat1, cat2, cat3, fr_z, fr_s, cc_I, cc_A, cc_N, Nat.reduceAdd, Nat.reduceLT, Nat.reduceLeDiff, Nat.reduceEqDiff, not_true, not_false_iff, z1_0, z1_1, Bool.and_self, Bool.true_and, Bool.and_true, nI_add, pk_mul, nI_clamp, decide_true, Nat.le_refl, bI_eq, bI_z1, mS_419, mS_416, mS_417, mS_46, mS_388, mS_o, mS_u419, mS_u416, mS_u417, mS_u46, mS_u388, mS_uo, h18, h398, upd_at, upd_ne, upd_01, upd_11]
      try simp only [nI_o, nI_z] at *
      refine hq _ ?_ ?_ ?_
      · simp [g2_1 hp, upd, hc, hc2]
      · simp [g2_2 hp, upd, hc, hc2]
      · intro j h1 h2; simp [upd, h1, h2]
  · rename_i hc
    refine go_at (blk := b_Model_soresOf_12) rfl ?_
    simp (disch := omega) only [b_Model_soresOf_12, be_6, be_34, be_1, be_4, be_12, be_38, be_50_5, kc_388, rf_388_48, ka_419, List.getD_cons_zero, List.getD_cons_succ, List.set_cons_zero, List.set_cons_succ, List.length_cons, List.length_nil, pk_I, pk_A, pr_A, pi_I, st_s, st_n, if_true, if_false, eq_self, d_if, d_ju, d_re, d_ca, cat0, cat1, cat2, cat3, fr_z, fr_s, cc_I, cc_A, cc_N, Nat.reduceAdd, Nat.reduceLT, Nat.reduceLeDiff, Nat.reduceEqDiff, not_true, not_false_iff, z1_0, z1_1, Bool.and_self, Bool.true_and, Bool.and_true, nI_add, pk_mul, nI_clamp, decide_true, Nat.le_refl, bI_eq, bI_z1, mS_419, mS_416, mS_417, mS_46, mS_388, mS_o, mS_u419, mS_u416, mS_u417, mS_u46, mS_u388, mS_uo, h18, h398, upd_at, upd_ne, upd_01, upd_11]
    split
    · rename_i hc2
      refine go_at (blk := b_Model_soresOf_37) rfl ?_
      simp (disch := omega) only [b_Model_soresOf_37, be_56, List.getD_cons_zero, List.getD_cons_succ, List.set_cons_zero, List.set_cons_succ, List.length_cons, List.length_nil, pk_I, pk_A, pr_A, pi_I, st_s, st_n, if_true, if_false, eq_self, d_if, d_ju, d_re, d_ca, cat0, cat1, cat2, cat3, fr_z, fr_s, cc_I, cc_A, cc_N, Nat.reduceAdd, Nat.reduceLT, Nat.reduceLeDiff, Nat.reduceEqDiff, not_true, not_false_iff, z1_0, z1_1, Bool.and_self, Bool.true_and, Bool.and_true, nI_add, pk_mul, nI_clamp, decide_true, Nat.le_refl, bI_eq, bI_z1, mS_419, mS_416, mS_417, mS_46, mS_388, mS_o, mS_u419, mS_u416, mS_u417, mS_u46, mS_u388, mS_uo, h18, h398, upd_at, upd_ne, upd_01, upd_11]
      try simp only [nI_o, nI_z] at *
      refine hq _ ?_ ?_ ?_
      · simp [g2_1 hp, upd, Decidable.not_not.mp hc, Int32.not_lt.mpr hc2]
      · simp [g2_2 hp, upd, Decidable.not_not.mp hc, Int32.not_lt.mpr hc2]
      · intro j h1 h2; simp [upd, h1, h2]
    · rename_i hc2
      refine go_at (blk := b_Model_soresOf_24) rfl ?_
      simp (disch := omega) only [b_Model_soresOf_24, be_6, be_34, be_1, be_4, be_12, be_32, be_38, be_13, be_43, be_0, kc_388, rf_388_48, ka_419, List.getD_cons_zero, List.getD_cons_succ, List.set_cons_zero, List.set_cons_succ, List.length_cons, List.length_nil, pk_I, pk_A, pr_A, pi_I, st_s, st_n, if_true, if_false, eq_self, d_if, d_ju, d_re, d_ca, cat0, cat1, cat2, cat3, fr_z, fr_s, cc_I, cc_A, cc_N, Nat.reduceAdd, Nat.reduceLT, Nat.reduceLeDiff, Nat.reduceEqDiff, not_true, not_false_iff, z1_0, z1_1, Bool.and_self, Bool.true_and, Bool.and_true, nI_add, pk_mul, nI_clamp, decide_true, Nat.le_refl, bI_eq, bI_z1, mS_419, mS_416, mS_417, mS_46, mS_388, mS_o, mS_u419, mS_u416, mS_u417, mS_u46, mS_u388, mS_uo, h18, h398, upd_at, upd_ne, upd_01, upd_11]
      refine go_at (blk := b_Model_soresOf_37) rfl ?_
      simp (disch := omega) only [b_Model_soresOf_37, be_56, List.getD_cons_zero, List.getD_cons_succ, List.set_cons_zero, List.set_cons_succ, List.length_cons, List.length_nil, pk_I, pk_A, pr_A, pi_I, st_s, st_n, if_true, if_false, eq_self, d_if, d_ju, d_re, d_ca, cat0, cat1, cat2, cat3, fr_z, fr_s, cc_I, cc_A, cc_N, Nat.reduceAdd, Nat.reduceLT, Nat.reduceLeDiff, Nat.reduceEqDiff, not_true, not_false_iff, z1_0, z1_1, Bool.and_self, Bool.true_and, Bool.and_true, nI_add, pk_mul, nI_clamp, decide_true, Nat.le_refl, bI_eq, bI_z1, mS_419, mS_416, mS_417, mS_46, mS_388, mS_o, mS_u419, mS_u416, mS_u417, mS_u46, mS_u388, mS_uo, h18, h398, upd_at, upd_ne, upd_01, upd_11]
      try simp only [nI_o, nI_z] at *
      refine hq _ ?_ ?_ ?_
      · simp [g2_1 hp, upd, Decidable.not_not.mp hc, Int32.not_le.mp hc2]
      · simp [g2_2 hp, upd, Decidable.not_not.mp hc, Int32.not_le.mp hc2]
      · intro j h1 h2; simp [upd, h1, h2]
