/-! laid by wip/whole/m4.py: the reference: a minute -/
set_option maxHeartbeats 2000000 in
theorem m_minuteGoes {d : Nat} {v : Nat → Nat → Int32} {f x g : Nat → Int32} {b : Int32} {w : Nat → Nat → Int64} {Q : Option Value → am_H → Prop} {lv n : Nat} (ht : TW v lv n) (hl : lwW v lv 0) (hq : ∀ x' g' b', Q none (428, 26053, KD, RF, mS v (minR n (v 397 lv) (mvS v lv n f) (v 388 49) (fun p => v 400 (8 * lv + p)) (fun p => v 402 (8 * lv + p)) f) (x') (g') (b'), w)) : am_Ca (d + 5) M_Model_minuteGoes [.ref 388] (428, 26053, KD, RF, mS v f x g b, w) Q := by
  obtain ⟨h18, hlv, h398, hn⟩ := ht
  refine ca_in (k := k_Model_minuteGoes) (nL := 3) rfl (Nat.le_of_ble_eq_true rfl) ?_
  show am_Go am_X0 _ k_Model_minuteGoes 0 ([.ref 388, .null, .null], [], _) _
  refine go_at (blk := b_Model_minuteGoes_0) rfl ?_
  simp (disch := omega) only [b_Model_minuteGoes_0, be_6, be_57_0, kc_388, List.getD_cons_zero, List.getD_cons_succ, List.set_cons_zero, List.set_cons_succ, List.length_cons, List.length_nil, pk_I, pk_A, pr_A, pi_I, st_s, st_n, if_true, if_false, eq_self, d_if, d_ju, d_re, d_ca, cat0, cat1, cat2, cat3, fr_z, fr_s, cc_I, cc_A, cc_N, Nat.reduceAdd, Nat.reduceLT, Nat.reduceLeDiff, Nat.reduceEqDiff, not_true, not_false_iff, z1_0, z1_1, Bool.and_self, Bool.true_and, Bool.and_true, nI_add, pk_mul, nI_clamp, decide_true, Nat.le_refl, bI_eq, bI_z1, mS_419, mS_416, mS_417, mS_46, mS_388, mS_o, mS_u419, mS_u416, mS_u417, mS_u46, mS_u388, mS_uo, h18, h398, upd_at, upd_ne, upd_01, upd_11, nI_leI]
  refine m_movesNow ⟨h18, hlv, h398, hn⟩ hl (fun x' g' b' => ?_)
  generalize hby : mvS v lv n f = by_ at hq ⊢
  refine go_at (blk := b_Model_minuteGoes_4) rfl ?_
  simp (disch := omega) only [b_Model_minuteGoes_4, be_7, be_1, be_0, List.getD_cons_zero, List.getD_cons_succ, List.set_cons_zero, List.set_cons_succ, List.length_cons, List.length_nil, pk_I, pk_A, pr_A, pi_I, st_s, st_n, if_true, if_false, eq_self, d_if, d_ju, d_re, d_ca, cat0, cat1, cat2, cat3, fr_z, fr_s, cc_I, cc_A, cc_N, Nat.reduceAdd, Nat.reduceLT, Nat.reduceLeDiff, Nat.reduceEqDiff, not_true, not_false_iff, z1_0, z1_1, Bool.and_self, Bool.true_and, Bool.and_true, nI_add, pk_mul, nI_clamp, decide_true, Nat.le_refl, bI_eq, bI_z1, mS_419, mS_416, mS_417, mS_46, mS_388, mS_o, mS_u419, mS_u416, mS_u417, mS_u46, mS_u388, mS_uo, h18, h398, upd_at, upd_ne, upd_01, upd_11, nI_leI]
  refine go_mS (h' := mix 0 (g1 (v 397 lv) by_ (fun p => v 400 (8 * lv + p)) f) f (v 388 49)) mix_0.symm ?_
  refine go_loop (fun i => ([.ref 388, .int by_, .int (nI i)], [], (428, 26053, KD, RF, mS v (mix i (g1 (v 397 lv) by_ (fun p => v 400 (8 * lv + p)) f) f (v 388 49)) (x') (g') (b'), w))) (n) ?_ ?_
  · intro i hi ih
    have hni : ¬ n ≤ i := by omega
    have h8 : i < 8 := by omega
    have m0 : i ≤ i % 8 ∨ 40 ≤ i := by omega
    have m1 : i ≤ (8 + i) % 8 ∨ 40 ≤ 8 + i := by omega
    have m2 : i ≤ (16 + i) % 8 ∨ 40 ≤ 16 + i := by omega
    have m3 : i ≤ (24 + i) % 8 ∨ 40 ≤ 24 + i := by omega
    have m4 : i ≤ (32 + i) % 8 ∨ 40 ≤ 32 + i := by omega
    try dsimp only at ih ⊢
    refine go_at (blk := b_Model_minuteGoes_7) rfl ?_
    simp (disch := omega) only [b_Model_minuteGoes_7, be_4, be_6, be_34, be_33, be_38, be_49_3, kc_388, rf_388_23, ka_398, List.getD_cons_zero, List.getD_cons_succ, List.set_cons_zero, List.set_cons_succ, List.length_cons, List.length_nil, pk_I, pk_A, pr_A, pi_I, st_s, st_n, if_true, if_false, eq_self, d_if, d_ju, d_re, d_ca, cat0, cat1, cat2, cat3, fr_z, fr_s, cc_I, cc_A, cc_N, Nat.reduceAdd, Nat.reduceLT, Nat.reduceLeDiff, Nat.reduceEqDiff, not_true, not_false_iff, z1_0, z1_1, Bool.and_self, Bool.true_and, Bool.and_true, nI_add, pk_mul, nI_clamp, decide_true, Nat.le_refl, bI_eq, bI_z1, mS_419, mS_416, mS_417, mS_46, mS_388, mS_o, mS_u419, mS_u416, mS_u417, mS_u46, mS_u388, mS_uo, h18, h398, upd_at, upd_ne, upd_01, upd_11, nI_leI, hni, mix_ge]
    refine go_at (blk := b_Model_minuteGoes_20) rfl ?_
    simp (disch := omega) only [b_Model_minuteGoes_20, be_6, be_4, be_57_1, kc_388, List.getD_cons_zero, List.getD_cons_succ, List.set_cons_zero, List.set_cons_succ, List.length_cons, List.length_nil, pk_I, pk_A, pr_A, pi_I, st_s, st_n, if_true, if_false, eq_self, d_if, d_ju, d_re, d_ca, cat0, cat1, cat2, cat3, fr_z, fr_s, cc_I, cc_A, cc_N, Nat.reduceAdd, Nat.reduceLT, Nat.reduceLeDiff, Nat.reduceEqDiff, not_true, not_false_iff, z1_0, z1_1, Bool.and_self, Bool.true_and, Bool.and_true, nI_add, pk_mul, nI_clamp, decide_true, Nat.le_refl, bI_eq, bI_z1, mS_419, mS_416, mS_417, mS_46, mS_388, mS_o, mS_u419, mS_u416, mS_u417, mS_u46, mS_u388, mS_uo, h18, h398, upd_at, upd_ne, upd_01, upd_11, nI_leI, hni, mix_ge]
    refine m_isOn (by omega) ?_
    refine go_at (blk := b_Model_minuteGoes_25) rfl ?_
    simp (disch := omega) only [b_Model_minuteGoes_25, be_50_1, List.getD_cons_zero, List.getD_cons_succ, List.set_cons_zero, List.set_cons_succ, List.length_cons, List.length_nil, pk_I, pk_A, pr_A, pi_I, st_s, st_n, if_true, if_false, eq_self, d_if, d_ju, d_re, d_ca, cat0, cat1, cat2, cat3, fr_z, fr_s, cc_I, cc_A, cc_N, Nat.reduceAdd, Nat.reduceLT, Nat.reduceLeDiff, Nat.reduceEqDiff, not_true, not_false_iff, z1_0, z1_1, Bool.and_self, Bool.true_and, Bool.and_true, nI_add, pk_mul, nI_clamp, decide_true, Nat.le_refl, bI_eq, bI_z1, mS_419, mS_416, mS_417, mS_46, mS_388, mS_o, mS_u419, mS_u416, mS_u417, mS_u46, mS_u388, mS_uo, h18, h398, upd_at, upd_ne, upd_01, upd_11, nI_leI, hni, mix_ge]
    split
    · rename_i hc
      have ho : onB f (v 388 49) i = true := by rw [onB_mix h8] at hc; simpa using hc
      refine go_at (blk := b_Model_minuteGoes_31) rfl ?_
      simp (disch := omega) only [b_Model_minuteGoes_31, be_6, be_34, be_1, be_4, be_12, be_38, be_49_1, kc_388, rf_388_48, ka_419, List.getD_cons_zero, List.getD_cons_succ, List.set_cons_zero, List.set_cons_succ, List.length_cons, List.length_nil, pk_I, pk_A, pr_A, pi_I, st_s, st_n, if_true, if_false, eq_self, d_if, d_ju, d_re, d_ca, cat0, cat1, cat2, cat3, fr_z, fr_s, cc_I, cc_A, cc_N, Nat.reduceAdd, Nat.reduceLT, Nat.reduceLeDiff, Nat.reduceEqDiff, not_true, not_false_iff, z1_0, z1_1, Bool.and_self, Bool.true_and, Bool.and_true, nI_add, pk_mul, nI_clamp, decide_true, Nat.le_refl, bI_eq, bI_z1, mS_419, mS_416, mS_417, mS_46, mS_388, mS_o, mS_u419, mS_u416, mS_u417, mS_u46, mS_u388, mS_uo, h18, h398, upd_at, upd_ne, upd_01, upd_11, nI_leI, hni, mix_ge]
      split
      · rename_i hk
        have hk0 : ¬ f (8 + i) = 1 := hk
        refine go_at (blk := b_Model_minuteGoes_76) rfl ?_
        simp (disch := omega) only [b_Model_minuteGoes_76, be_6, be_34, be_4, be_38, be_12, be_50_3, kc_388, rf_388_48, ka_419, List.getD_cons_zero, List.getD_cons_succ, List.set_cons_zero, List.set_cons_succ, List.length_cons, List.length_nil, pk_I, pk_A, pr_A, pi_I, st_s, st_n, if_true, if_false, eq_self, d_if, d_ju, d_re, d_ca, cat0, cat1, cat2, cat3, fr_z, fr_s, cc_I, cc_A, cc_N, Nat.reduceAdd, Nat.reduceLT, Nat.reduceLeDiff, Nat.reduceEqDiff, not_true, not_false_iff, z1_0, z1_1, Bool.and_self, Bool.true_and, Bool.and_true, nI_add, pk_mul, nI_clamp, decide_true, Nat.le_refl, bI_eq, bI_z1, mS_419, mS_416, mS_417, mS_46, mS_388, mS_o, mS_u419, mS_u416, mS_u417, mS_u46, mS_u388, mS_uo, h18, h398, upd_at, upd_ne, upd_01, upd_11, nI_leI, hni, mix_ge]
        split
        · rename_i hs
          have hs0 : ¬ f i + by_ < 0 := Int32.not_lt.mpr hs
          refine go_at (blk := b_Model_minuteGoes_96) rfl ?_
          simp (disch := omega) only [b_Model_minuteGoes_96, be_6, be_34, be_4, be_38, be_12, be_0, kc_388, rf_388_48, ka_419, List.getD_cons_zero, List.getD_cons_succ, List.set_cons_zero, List.set_cons_succ, List.length_cons, List.length_nil, pk_I, pk_A, pr_A, pi_I, st_s, st_n, if_true, if_false, eq_self, d_if, d_ju, d_re, d_ca, cat0, cat1, cat2, cat3, fr_z, fr_s, cc_I, cc_A, cc_N, Nat.reduceAdd, Nat.reduceLT, Nat.reduceLeDiff, Nat.reduceEqDiff, not_true, not_false_iff, z1_0, z1_1, Bool.and_self, Bool.true_and, Bool.and_true, nI_add, pk_mul, nI_clamp, decide_true, Nat.le_refl, bI_eq, bI_z1, mS_419, mS_416, mS_417, mS_46, mS_388, mS_o, mS_u419, mS_u416, mS_u417, mS_u46, mS_u388, mS_uo, h18, h398, upd_at, upd_ne, upd_01, upd_11, nI_leI, hni, mix_ge]
          refine go_at (blk := b_Model_minuteGoes_104) rfl ?_
          simp (disch := omega) only [b_Model_minuteGoes_104, be_43, be_6, be_34, be_4, be_38, be_33, be_49_3, ka_419, kc_388, rf_388_48, rf_388_22, ka_397, List.getD_cons_zero, List.getD_cons_succ, List.set_cons_zero, List.set_cons_succ, List.length_cons, List.length_nil, pk_I, pk_A, pr_A, pi_I, st_s, st_n, if_true, if_false, eq_self, d_if, d_ju, d_re, d_ca, cat0, cat1, cat2, cat3, fr_z, fr_s, cc_I, cc_A, cc_N, Nat.reduceAdd, Nat.reduceLT, Nat.reduceLeDiff, Nat.reduceEqDiff, not_true, not_false_iff, z1_0, z1_1, Bool.and_self, Bool.true_and, Bool.and_true, nI_add, pk_mul, nI_clamp, decide_true, Nat.le_refl, bI_eq, bI_z1, mS_419, mS_416, mS_417, mS_46, mS_388, mS_o, mS_u419, mS_u416, mS_u417, mS_u46, mS_u388, mS_uo, h18, h398, upd_at, upd_ne, upd_01, upd_11, nI_leI, hni, mix_ge]
          split
          · rename_i ha
            have ha0 : ¬ (f i + by_) < v 397 lv := Int32.not_lt.mpr ha
            refine go_at (blk := b_Model_minuteGoes_126) rfl ?_
            simp (disch := omega) only [b_Model_minuteGoes_126, be_6, be_34, be_4, be_33, be_38, be_43, be_1, be_12, be_0, kc_388, rf_388_48, rf_388_22, ka_397, ka_419, List.getD_cons_zero, List.getD_cons_succ, List.set_cons_zero, List.set_cons_succ, List.length_cons, List.length_nil, pk_I, pk_A, pr_A, pi_I, st_s, st_n, if_true, if_false, eq_self, d_if, d_ju, d_re, d_ca, cat0, cat1, cat2, cat3, fr_z, fr_s, cc_I, cc_A, cc_N, Nat.reduceAdd, Nat.reduceLT, Nat.reduceLeDiff, Nat.reduceEqDiff, not_true, not_false_iff, z1_0, z1_1, Bool.and_self, Bool.true_and, Bool.and_true, nI_add, pk_mul, nI_clamp, decide_true, Nat.le_refl, bI_eq, bI_z1, mS_419, mS_416, mS_417, mS_46, mS_388, mS_o, mS_u419, mS_u416, mS_u417, mS_u46, mS_u388, mS_uo, h18, h398, upd_at, upd_ne, upd_01, upd_11, nI_leI, hni, mix_ge]
            refine go_at (blk := b_Model_minuteGoes_167) rfl ?_
            simp (disch := omega) only [b_Model_minuteGoes_167, be_10, be_51, List.getD_cons_zero, List.getD_cons_succ, List.set_cons_zero, List.set_cons_succ, List.length_cons, List.length_nil, pk_I, pk_A, pr_A, pi_I, st_s, st_n, if_true, if_false, eq_self, d_if, d_ju, d_re, d_ca, cat0, cat1, cat2, cat3, fr_z, fr_s, cc_I, cc_A, cc_N, Nat.reduceAdd, Nat.reduceLT, Nat.reduceLeDiff, Nat.reduceEqDiff, not_true, not_false_iff, z1_0, z1_1, Bool.and_self, Bool.true_and, Bool.and_true, nI_add, pk_mul, nI_clamp, decide_true, Nat.le_refl, bI_eq, bI_z1, mS_419, mS_416, mS_417, mS_46, mS_388, mS_o, mS_u419, mS_u416, mS_u417, mS_u46, mS_u388, mS_uo, h18, h398, upd_at, upd_ne, upd_01, upd_11, nI_leI, hni, mix_ge]
            try simp only [nI_o, nI_z] at *
            refine go_mS ?_ ih
            refine (mix_step h8 ho ?_ ?_ ?_ ?_ ?_ ?_).symm
            · simp [g1_0 h8, g1_1 h8, g1_2 h8, g1_3 h8, g1_4 h8, spS, mix_ge m0, mix_ge m1, mix_ge m2, mix_ge m3, mix_ge m4, upd, hk0, hs0, ha0]
            · simp [g1_0 h8, g1_1 h8, g1_2 h8, g1_3 h8, g1_4 h8, spS, mix_ge m0, mix_ge m1, mix_ge m2, mix_ge m3, mix_ge m4, upd, hk0, hs0, ha0]
            · simp [g1_0 h8, g1_1 h8, g1_2 h8, g1_3 h8, g1_4 h8, spS, mix_ge m0, mix_ge m1, mix_ge m2, mix_ge m3, mix_ge m4, upd, hk0, hs0, ha0]
            · simp [g1_0 h8, g1_1 h8, g1_2 h8, g1_3 h8, g1_4 h8, spS, mix_ge m0, mix_ge m1, mix_ge m2, mix_ge m3, mix_ge m4, upd, hk0, hs0, ha0]
            · simp [g1_0 h8, g1_1 h8, g1_2 h8, g1_3 h8, g1_4 h8, spS, mix_ge m0, mix_ge m1, mix_ge m2, mix_ge m3, mix_ge m4, upd, hk0, hs0, ha0]
            · intro j j0 j1 j2 j3 j4
              simp [upd, j0, j1, j2, j3, j4]
          · rename_i ha
            have ha0 : (f i + by_) < v 397 lv := Int32.not_le.mp ha
            refine go_at (blk := b_Model_minuteGoes_123) rfl ?_
            simp (disch := omega) only [b_Model_minuteGoes_123, be_51, List.getD_cons_zero, List.getD_cons_succ, List.set_cons_zero, List.set_cons_succ, List.length_cons, List.length_nil, pk_I, pk_A, pr_A, pi_I, st_s, st_n, if_true, if_false, eq_self, d_if, d_ju, d_re, d_ca, cat0, cat1, cat2, cat3, fr_z, fr_s, cc_I, cc_A, cc_N, Nat.reduceAdd, Nat.reduceLT, Nat.reduceLeDiff, Nat.reduceEqDiff, not_true, not_false_iff, z1_0, z1_1, Bool.and_self, Bool.true_and, Bool.and_true, nI_add, pk_mul, nI_clamp, decide_true, Nat.le_refl, bI_eq, bI_z1, mS_419, mS_416, mS_417, mS_46, mS_388, mS_o, mS_u419, mS_u416, mS_u417, mS_u46, mS_u388, mS_uo, h18, h398, upd_at, upd_ne, upd_01, upd_11, nI_leI, hni, mix_ge]
            refine go_at (blk := b_Model_minuteGoes_167) rfl ?_
            simp (disch := omega) only [b_Model_minuteGoes_167, be_10, be_51, List.getD_cons_zero, List.getD_cons_succ, List.set_cons_zero, List.set_cons_succ, List.length_cons, List.length_nil, pk_I, pk_A, pr_A, pi_I, st_s, st_n, if_true, if_false, eq_self, d_if, d_ju, d_re, d_ca, cat0, cat1, cat2, cat3, fr_z, fr_s, cc_I, cc_A, cc_N, Nat.reduceAdd, Nat.reduceLT, Nat.reduceLeDiff, Nat.reduceEqDiff, not_true, not_false_iff, z1_0, z1_1, Bool.and_self, Bool.true_and, Bool.and_true, nI_add, pk_mul, nI_clamp, decide_true, Nat.le_refl, bI_eq, bI_z1, mS_419, mS_416, mS_417, mS_46, mS_388, mS_o, mS_u419, mS_u416, mS_u417, mS_u46, mS_u388, mS_uo, h18, h398, upd_at, upd_ne, upd_01, upd_11, nI_leI, hni, mix_ge]
            try simp only [nI_o, nI_z] at *
            refine go_mS ?_ ih
            refine (mix_step h8 ho ?_ ?_ ?_ ?_ ?_ ?_).symm
            · simp [g1_0 h8, g1_1 h8, g1_2 h8, g1_3 h8, g1_4 h8, spS, mix_ge m0, mix_ge m1, mix_ge m2, mix_ge m3, mix_ge m4, upd, hk0, hs0, ha0]
            · simp [g1_0 h8, g1_1 h8, g1_2 h8, g1_3 h8, g1_4 h8, spS, mix_ge m0, mix_ge m1, mix_ge m2, mix_ge m3, mix_ge m4, upd, hk0, hs0, ha0]
            · simp [g1_0 h8, g1_1 h8, g1_2 h8, g1_3 h8, g1_4 h8, spS, mix_ge m0, mix_ge m1, mix_ge m2, mix_ge m3, mix_ge m4, upd, hk0, hs0, ha0]
            · simp [g1_0 h8, g1_1 h8, g1_2 h8, g1_3 h8, g1_4 h8, spS, mix_ge m0, mix_ge m1, mix_ge m2, mix_ge m3, mix_ge m4, upd, hk0, hs0, ha0]
            · simp [g1_0 h8, g1_1 h8, g1_2 h8, g1_3 h8, g1_4 h8, spS, mix_ge m0, mix_ge m1, mix_ge m2, mix_ge m3, mix_ge m4, upd, hk0, hs0, ha0]
            · intro j j0 j1 j2 j3 j4
              simp [upd, j0, j1, j2, j3, j4]
        · rename_i hs
          have hs0 : f i + by_ < 0 := Int32.not_le.mp hs
          refine go_at (blk := b_Model_minuteGoes_92) rfl ?_
          simp (disch := omega) only [b_Model_minuteGoes_92, be_1, be_51, List.getD_cons_zero, List.getD_cons_succ, List.set_cons_zero, List.set_cons_succ, List.length_cons, List.length_nil, pk_I, pk_A, pr_A, pi_I, st_s, st_n, if_true, if_false, eq_self, d_if, d_ju, d_re, d_ca, cat0, cat1, cat2, cat3, fr_z, fr_s, cc_I, cc_A, cc_N, Nat.reduceAdd, Nat.reduceLT, Nat.reduceLeDiff, Nat.reduceEqDiff, not_true, not_false_iff, z1_0, z1_1, Bool.and_self, Bool.true_and, Bool.and_true, nI_add, pk_mul, nI_clamp, decide_true, Nat.le_refl, bI_eq, bI_z1, mS_419, mS_416, mS_417, mS_46, mS_388, mS_o, mS_u419, mS_u416, mS_u417, mS_u46, mS_u388, mS_uo, h18, h398, upd_at, upd_ne, upd_01, upd_11, nI_leI, hni, mix_ge]
          refine go_at (blk := b_Model_minuteGoes_104) rfl ?_
          simp (disch := omega) only [b_Model_minuteGoes_104, be_43, be_6, be_34, be_4, be_38, be_33, be_49_3, ka_419, kc_388, rf_388_48, rf_388_22, ka_397, List.getD_cons_zero, List.getD_cons_succ, List.set_cons_zero, List.set_cons_succ, List.length_cons, List.length_nil, pk_I, pk_A, pr_A, pi_I, st_s, st_n, if_true, if_false, eq_self, d_if, d_ju, d_re, d_ca, cat0, cat1, cat2, cat3, fr_z, fr_s, cc_I, cc_A, cc_N, Nat.reduceAdd, Nat.reduceLT, Nat.reduceLeDiff, Nat.reduceEqDiff, not_true, not_false_iff, z1_0, z1_1, Bool.and_self, Bool.true_and, Bool.and_true, nI_add, pk_mul, nI_clamp, decide_true, Nat.le_refl, bI_eq, bI_z1, mS_419, mS_416, mS_417, mS_46, mS_388, mS_o, mS_u419, mS_u416, mS_u417, mS_u46, mS_u388, mS_uo, h18, h398, upd_at, upd_ne, upd_01, upd_11, nI_leI, hni, mix_ge]
          split
          · rename_i ha
            have ha0 : ¬ nI 0 < v 397 lv := Int32.not_lt.mpr ha
            refine go_at (blk := b_Model_minuteGoes_126) rfl ?_
            simp (disch := omega) only [b_Model_minuteGoes_126, be_6, be_34, be_4, be_33, be_38, be_43, be_1, be_12, be_0, kc_388, rf_388_48, rf_388_22, ka_397, ka_419, List.getD_cons_zero, List.getD_cons_succ, List.set_cons_zero, List.set_cons_succ, List.length_cons, List.length_nil, pk_I, pk_A, pr_A, pi_I, st_s, st_n, if_true, if_false, eq_self, d_if, d_ju, d_re, d_ca, cat0, cat1, cat2, cat3, fr_z, fr_s, cc_I, cc_A, cc_N, Nat.reduceAdd, Nat.reduceLT, Nat.reduceLeDiff, Nat.reduceEqDiff, not_true, not_false_iff, z1_0, z1_1, Bool.and_self, Bool.true_and, Bool.and_true, nI_add, pk_mul, nI_clamp, decide_true, Nat.le_refl, bI_eq, bI_z1, mS_419, mS_416, mS_417, mS_46, mS_388, mS_o, mS_u419, mS_u416, mS_u417, mS_u46, mS_u388, mS_uo, h18, h398, upd_at, upd_ne, upd_01, upd_11, nI_leI, hni, mix_ge]
            refine go_at (blk := b_Model_minuteGoes_167) rfl ?_
            simp (disch := omega) only [b_Model_minuteGoes_167, be_10, be_51, List.getD_cons_zero, List.getD_cons_succ, List.set_cons_zero, List.set_cons_succ, List.length_cons, List.length_nil, pk_I, pk_A, pr_A, pi_I, st_s, st_n, if_true, if_false, eq_self, d_if, d_ju, d_re, d_ca, cat0, cat1, cat2, cat3, fr_z, fr_s, cc_I, cc_A, cc_N, Nat.reduceAdd, Nat.reduceLT, Nat.reduceLeDiff, Nat.reduceEqDiff, not_true, not_false_iff, z1_0, z1_1, Bool.and_self, Bool.true_and, Bool.and_true, nI_add, pk_mul, nI_clamp, decide_true, Nat.le_refl, bI_eq, bI_z1, mS_419, mS_416, mS_417, mS_46, mS_388, mS_o, mS_u419, mS_u416, mS_u417, mS_u46, mS_u388, mS_uo, h18, h398, upd_at, upd_ne, upd_01, upd_11, nI_leI, hni, mix_ge]
            try simp only [nI_o, nI_z] at *
            refine go_mS ?_ ih
            refine (mix_step h8 ho ?_ ?_ ?_ ?_ ?_ ?_).symm
            · simp [g1_0 h8, g1_1 h8, g1_2 h8, g1_3 h8, g1_4 h8, spS, mix_ge m0, mix_ge m1, mix_ge m2, mix_ge m3, mix_ge m4, upd, hk0, hs0, ha0]
            · simp [g1_0 h8, g1_1 h8, g1_2 h8, g1_3 h8, g1_4 h8, spS, mix_ge m0, mix_ge m1, mix_ge m2, mix_ge m3, mix_ge m4, upd, hk0, hs0, ha0]
            · simp [g1_0 h8, g1_1 h8, g1_2 h8, g1_3 h8, g1_4 h8, spS, mix_ge m0, mix_ge m1, mix_ge m2, mix_ge m3, mix_ge m4, upd, hk0, hs0, ha0]
            · simp [g1_0 h8, g1_1 h8, g1_2 h8, g1_3 h8, g1_4 h8, spS, mix_ge m0, mix_ge m1, mix_ge m2, mix_ge m3, mix_ge m4, upd, hk0, hs0, ha0]
            · simp [g1_0 h8, g1_1 h8, g1_2 h8, g1_3 h8, g1_4 h8, spS, mix_ge m0, mix_ge m1, mix_ge m2, mix_ge m3, mix_ge m4, upd, hk0, hs0, ha0]
            · intro j j0 j1 j2 j3 j4
              simp [upd, j0, j1, j2, j3, j4]
          · rename_i ha
            have ha0 : nI 0 < v 397 lv := Int32.not_le.mp ha
            refine go_at (blk := b_Model_minuteGoes_123) rfl ?_
            simp (disch := omega) only [b_Model_minuteGoes_123, be_51, List.getD_cons_zero, List.getD_cons_succ, List.set_cons_zero, List.set_cons_succ, List.length_cons, List.length_nil, pk_I, pk_A, pr_A, pi_I, st_s, st_n, if_true, if_false, eq_self, d_if, d_ju, d_re, d_ca, cat0, cat1, cat2, cat3, fr_z, fr_s, cc_I, cc_A, cc_N, Nat.reduceAdd, Nat.reduceLT, Nat.reduceLeDiff, Nat.reduceEqDiff, not_true, not_false_iff, z1_0, z1_1, Bool.and_self, Bool.true_and, Bool.and_true, nI_add, pk_mul, nI_clamp, decide_true, Nat.le_refl, bI_eq, bI_z1, mS_419, mS_416, mS_417, mS_46, mS_388, mS_o, mS_u419, mS_u416, mS_u417, mS_u46, mS_u388, mS_uo, h18, h398, upd_at, upd_ne, upd_01, upd_11, nI_leI, hni, mix_ge]
            refine go_at (blk := b_Model_minuteGoes_167) rfl ?_
            simp (disch := omega) only [b_Model_minuteGoes_167, be_10, be_51, List.getD_cons_zero, List.getD_cons_succ, List.set_cons_zero, List.set_cons_succ, List.length_cons, List.length_nil, pk_I, pk_A, pr_A, pi_I, st_s, st_n, if_true, if_false, eq_self, d_if, d_ju, d_re, d_ca, cat0, cat1, cat2, cat3, fr_z, fr_s, cc_I, cc_A, cc_N, Nat.reduceAdd, Nat.reduceLT, Nat.reduceLeDiff, Nat.reduceEqDiff, not_true, not_false_iff, z1_0, z1_1, Bool.and_self, Bool.true_and, Bool.and_true, nI_add, pk_mul, nI_clamp, decide_true, Nat.le_refl, bI_eq, bI_z1, mS_419, mS_416, mS_417, mS_46, mS_388, mS_o, mS_u419, mS_u416, mS_u417, mS_u46, mS_u388, mS_uo, h18, h398, upd_at, upd_ne, upd_01, upd_11, nI_leI, hni, mix_ge]
            try simp only [nI_o, nI_z] at *
            refine go_mS ?_ ih
            refine (mix_step h8 ho ?_ ?_ ?_ ?_ ?_ ?_).symm
            · simp [g1_0 h8, g1_1 h8, g1_2 h8, g1_3 h8, g1_4 h8, spS, mix_ge m0, mix_ge m1, mix_ge m2, mix_ge m3, mix_ge m4, upd, hk0, hs0, ha0]
            · simp [g1_0 h8, g1_1 h8, g1_2 h8, g1_3 h8, g1_4 h8, spS, mix_ge m0, mix_ge m1, mix_ge m2, mix_ge m3, mix_ge m4, upd, hk0, hs0, ha0]
            · simp [g1_0 h8, g1_1 h8, g1_2 h8, g1_3 h8, g1_4 h8, spS, mix_ge m0, mix_ge m1, mix_ge m2, mix_ge m3, mix_ge m4, upd, hk0, hs0, ha0]
            · simp [g1_0 h8, g1_1 h8, g1_2 h8, g1_3 h8, g1_4 h8, spS, mix_ge m0, mix_ge m1, mix_ge m2, mix_ge m3, mix_ge m4, upd, hk0, hs0, ha0]
            · simp [g1_0 h8, g1_1 h8, g1_2 h8, g1_3 h8, g1_4 h8, spS, mix_ge m0, mix_ge m1, mix_ge m2, mix_ge m3, mix_ge m4, upd, hk0, hs0, ha0]
            · intro j j0 j1 j2 j3 j4
              simp [upd, j0, j1, j2, j3, j4]
      · rename_i hk
        refine go_at (blk := b_Model_minuteGoes_44) rfl ?_
        simp (disch := omega) only [b_Model_minuteGoes_44, be_4, be_50_5, List.getD_cons_zero, List.getD_cons_succ, List.set_cons_zero, List.set_cons_succ, List.length_cons, List.length_nil, pk_I, pk_A, pr_A, pi_I, st_s, st_n, if_true, if_false, eq_self, d_if, d_ju, d_re, d_ca, cat0, cat1, cat2, cat3, fr_z, fr_s, cc_I, cc_A, cc_N, Nat.reduceAdd, Nat.reduceLT, Nat.reduceLeDiff, Nat.reduceEqDiff, not_true, not_false_iff, z1_0, z1_1, Bool.and_self, Bool.true_and, Bool.and_true, nI_add, pk_mul, nI_clamp, decide_true, Nat.le_refl, bI_eq, bI_z1, mS_419, mS_416, mS_417, mS_46, mS_388, mS_o, mS_u419, mS_u416, mS_u417, mS_u46, mS_u388, mS_uo, h18, h398, upd_at, upd_ne, upd_01, upd_11, nI_leI, hni, mix_ge]
        split
        · rename_i hb
          have hk0 : f (8 + i) = 1 := Decidable.not_not.mp hk
          have hb0 : ¬ 0 < by_ := Int32.not_lt.mpr hb
          refine go_at (blk := b_Model_minuteGoes_76) rfl ?_
          simp (disch := omega) only [b_Model_minuteGoes_76, be_6, be_34, be_4, be_38, be_12, be_50_3, kc_388, rf_388_48, ka_419, List.getD_cons_zero, List.getD_cons_succ, List.set_cons_zero, List.set_cons_succ, List.length_cons, List.length_nil, pk_I, pk_A, pr_A, pi_I, st_s, st_n, if_true, if_false, eq_self, d_if, d_ju, d_re, d_ca, cat0, cat1, cat2, cat3, fr_z, fr_s, cc_I, cc_A, cc_N, Nat.reduceAdd, Nat.reduceLT, Nat.reduceLeDiff, Nat.reduceEqDiff, not_true, not_false_iff, z1_0, z1_1, Bool.and_self, Bool.true_and, Bool.and_true, nI_add, pk_mul, nI_clamp, decide_true, Nat.le_refl, bI_eq, bI_z1, mS_419, mS_416, mS_417, mS_46, mS_388, mS_o, mS_u419, mS_u416, mS_u417, mS_u46, mS_u388, mS_uo, h18, h398, upd_at, upd_ne, upd_01, upd_11, nI_leI, hni, mix_ge]
          split
          · rename_i hs
            have hs0 : ¬ f i + by_ < 0 := Int32.not_lt.mpr hs
            refine go_at (blk := b_Model_minuteGoes_96) rfl ?_
            simp (disch := omega) only [b_Model_minuteGoes_96, be_6, be_34, be_4, be_38, be_12, be_0, kc_388, rf_388_48, ka_419, List.getD_cons_zero, List.getD_cons_succ, List.set_cons_zero, List.set_cons_succ, List.length_cons, List.length_nil, pk_I, pk_A, pr_A, pi_I, st_s, st_n, if_true, if_false, eq_self, d_if, d_ju, d_re, d_ca, cat0, cat1, cat2, cat3, fr_z, fr_s, cc_I, cc_A, cc_N, Nat.reduceAdd, Nat.reduceLT, Nat.reduceLeDiff, Nat.reduceEqDiff, not_true, not_false_iff, z1_0, z1_1, Bool.and_self, Bool.true_and, Bool.and_true, nI_add, pk_mul, nI_clamp, decide_true, Nat.le_refl, bI_eq, bI_z1, mS_419, mS_416, mS_417, mS_46, mS_388, mS_o, mS_u419, mS_u416, mS_u417, mS_u46, mS_u388, mS_uo, h18, h398, upd_at, upd_ne, upd_01, upd_11, nI_leI, hni, mix_ge]
            refine go_at (blk := b_Model_minuteGoes_104) rfl ?_
            simp (disch := omega) only [b_Model_minuteGoes_104, be_43, be_6, be_34, be_4, be_38, be_33, be_49_3, ka_419, kc_388, rf_388_48, rf_388_22, ka_397, List.getD_cons_zero, List.getD_cons_succ, List.set_cons_zero, List.set_cons_succ, List.length_cons, List.length_nil, pk_I, pk_A, pr_A, pi_I, st_s, st_n, if_true, if_false, eq_self, d_if, d_ju, d_re, d_ca, cat0, cat1, cat2, cat3, fr_z, fr_s, cc_I, cc_A, cc_N, Nat.reduceAdd, Nat.reduceLT, Nat.reduceLeDiff, Nat.reduceEqDiff, not_true, not_false_iff, z1_0, z1_1, Bool.and_self, Bool.true_and, Bool.and_true, nI_add, pk_mul, nI_clamp, decide_true, Nat.le_refl, bI_eq, bI_z1, mS_419, mS_416, mS_417, mS_46, mS_388, mS_o, mS_u419, mS_u416, mS_u417, mS_u46, mS_u388, mS_uo, h18, h398, upd_at, upd_ne, upd_01, upd_11, nI_leI, hni, mix_ge]
            split
            · rename_i ha
              have ha0 : ¬ (f i + by_) < v 397 lv := Int32.not_lt.mpr ha
              refine go_at (blk := b_Model_minuteGoes_126) rfl ?_
              simp (disch := omega) only [b_Model_minuteGoes_126, be_6, be_34, be_4, be_33, be_38, be_43, be_1, be_12, be_0, kc_388, rf_388_48, rf_388_22, ka_397, ka_419, List.getD_cons_zero, List.getD_cons_succ, List.set_cons_zero, List.set_cons_succ, List.length_cons, List.length_nil, pk_I, pk_A, pr_A, pi_I, st_s, st_n, if_true, if_false, eq_self, d_if, d_ju, d_re, d_ca, cat0, cat1, cat2, cat3, fr_z, fr_s, cc_I, cc_A, cc_N, Nat.reduceAdd, Nat.reduceLT, Nat.reduceLeDiff, Nat.reduceEqDiff, not_true, not_false_iff, z1_0, z1_1, Bool.and_self, Bool.true_and, Bool.and_true, nI_add, pk_mul, nI_clamp, decide_true, Nat.le_refl, bI_eq, bI_z1, mS_419, mS_416, mS_417, mS_46, mS_388, mS_o, mS_u419, mS_u416, mS_u417, mS_u46, mS_u388, mS_uo, h18, h398, upd_at, upd_ne, upd_01, upd_11, nI_leI, hni, mix_ge]
              refine go_at (blk := b_Model_minuteGoes_167) rfl ?_
              simp (disch := omega) only [b_Model_minuteGoes_167, be_10, be_51, List.getD_cons_zero, List.getD_cons_succ, List.set_cons_zero, List.set_cons_succ, List.length_cons, List.length_nil, pk_I, pk_A, pr_A, pi_I, st_s, st_n, if_true, if_false, eq_self, d_if, d_ju, d_re, d_ca, cat0, cat1, cat2, cat3, fr_z, fr_s, cc_I, cc_A, cc_N, Nat.reduceAdd, Nat.reduceLT, Nat.reduceLeDiff, Nat.reduceEqDiff, not_true, not_false_iff, z1_0, z1_1, Bool.and_self, Bool.true_and, Bool.and_true, nI_add, pk_mul, nI_clamp, decide_true, Nat.le_refl, bI_eq, bI_z1, mS_419, mS_416, mS_417, mS_46, mS_388, mS_o, mS_u419, mS_u416, mS_u417, mS_u46, mS_u388, mS_uo, h18, h398, upd_at, upd_ne, upd_01, upd_11, nI_leI, hni, mix_ge]
              try simp only [nI_o, nI_z] at *
              refine go_mS ?_ ih
              refine (mix_step h8 ho ?_ ?_ ?_ ?_ ?_ ?_).symm
              · simp [g1_0 h8, g1_1 h8, g1_2 h8, g1_3 h8, g1_4 h8, spS, mix_ge m0, mix_ge m1, mix_ge m2, mix_ge m3, mix_ge m4, upd, hk0, hb0, hs0, ha0]
              · simp [g1_0 h8, g1_1 h8, g1_2 h8, g1_3 h8, g1_4 h8, spS, mix_ge m0, mix_ge m1, mix_ge m2, mix_ge m3, mix_ge m4, upd, hk0, hb0, hs0, ha0]
              · simp [g1_0 h8, g1_1 h8, g1_2 h8, g1_3 h8, g1_4 h8, spS, mix_ge m0, mix_ge m1, mix_ge m2, mix_ge m3, mix_ge m4, upd, hk0, hb0, hs0, ha0]
              · simp [g1_0 h8, g1_1 h8, g1_2 h8, g1_3 h8, g1_4 h8, spS, mix_ge m0, mix_ge m1, mix_ge m2, mix_ge m3, mix_ge m4, upd, hk0, hb0, hs0, ha0]
              · simp [g1_0 h8, g1_1 h8, g1_2 h8, g1_3 h8, g1_4 h8, spS, mix_ge m0, mix_ge m1, mix_ge m2, mix_ge m3, mix_ge m4, upd, hk0, hb0, hs0, ha0]
              · intro j j0 j1 j2 j3 j4
                simp [upd, j0, j1, j2, j3, j4]
            · rename_i ha
              have ha0 : (f i + by_) < v 397 lv := Int32.not_le.mp ha
              refine go_at (blk := b_Model_minuteGoes_123) rfl ?_
              simp (disch := omega) only [b_Model_minuteGoes_123, be_51, List.getD_cons_zero, List.getD_cons_succ, List.set_cons_zero, List.set_cons_succ, List.length_cons, List.length_nil, pk_I, pk_A, pr_A, pi_I, st_s, st_n, if_true, if_false, eq_self, d_if, d_ju, d_re, d_ca, cat0, cat1, cat2, cat3, fr_z, fr_s, cc_I, cc_A, cc_N, Nat.reduceAdd, Nat.reduceLT, Nat.reduceLeDiff, Nat.reduceEqDiff, not_true, not_false_iff, z1_0, z1_1, Bool.and_self, Bool.true_and, Bool.and_true, nI_add, pk_mul, nI_clamp, decide_true, Nat.le_refl, bI_eq, bI_z1, mS_419, mS_416, mS_417, mS_46, mS_388, mS_o, mS_u419, mS_u416, mS_u417, mS_u46, mS_u388, mS_uo, h18, h398, upd_at, upd_ne, upd_01, upd_11, nI_leI, hni, mix_ge]
              refine go_at (blk := b_Model_minuteGoes_167) rfl ?_
              simp (disch := omega) only [b_Model_minuteGoes_167, be_10, be_51, List.getD_cons_zero, List.getD_cons_succ, List.set_cons_zero, List.set_cons_succ, List.length_cons, List.length_nil, pk_I, pk_A, pr_A, pi_I, st_s, st_n, if_true, if_false, eq_self, d_if, d_ju, d_re, d_ca, cat0, cat1, cat2, cat3, fr_z, fr_s, cc_I, cc_A, cc_N, Nat.reduceAdd, Nat.reduceLT, Nat.reduceLeDiff, Nat.reduceEqDiff, not_true, not_false_iff, z1_0, z1_1, Bool.and_self, Bool.true_and, Bool.and_true, nI_add, pk_mul, nI_clamp, decide_true, Nat.le_refl, bI_eq, bI_z1, mS_419, mS_416, mS_417, mS_46, mS_388, mS_o, mS_u419, mS_u416, mS_u417, mS_u46, mS_u388, mS_uo, h18, h398, upd_at, upd_ne, upd_01, upd_11, nI_leI, hni, mix_ge]
              try simp only [nI_o, nI_z] at *
              refine go_mS ?_ ih
              refine (mix_step h8 ho ?_ ?_ ?_ ?_ ?_ ?_).symm
              · simp [g1_0 h8, g1_1 h8, g1_2 h8, g1_3 h8, g1_4 h8, spS, mix_ge m0, mix_ge m1, mix_ge m2, mix_ge m3, mix_ge m4, upd, hk0, hb0, hs0, ha0]
              · simp [g1_0 h8, g1_1 h8, g1_2 h8, g1_3 h8, g1_4 h8, spS, mix_ge m0, mix_ge m1, mix_ge m2, mix_ge m3, mix_ge m4, upd, hk0, hb0, hs0, ha0]
              · simp [g1_0 h8, g1_1 h8, g1_2 h8, g1_3 h8, g1_4 h8, spS, mix_ge m0, mix_ge m1, mix_ge m2, mix_ge m3, mix_ge m4, upd, hk0, hb0, hs0, ha0]
              · simp [g1_0 h8, g1_1 h8, g1_2 h8, g1_3 h8, g1_4 h8, spS, mix_ge m0, mix_ge m1, mix_ge m2, mix_ge m3, mix_ge m4, upd, hk0, hb0, hs0, ha0]
              · simp [g1_0 h8, g1_1 h8, g1_2 h8, g1_3 h8, g1_4 h8, spS, mix_ge m0, mix_ge m1, mix_ge m2, mix_ge m3, mix_ge m4, upd, hk0, hb0, hs0, ha0]
              · intro j j0 j1 j2 j3 j4
                simp [upd, j0, j1, j2, j3, j4]
          · rename_i hs
            have hs0 : f i + by_ < 0 := Int32.not_le.mp hs
            refine go_at (blk := b_Model_minuteGoes_92) rfl ?_
            simp (disch := omega) only [b_Model_minuteGoes_92, be_1, be_51, List.getD_cons_zero, List.getD_cons_succ, List.set_cons_zero, List.set_cons_succ, List.length_cons, List.length_nil, pk_I, pk_A, pr_A, pi_I, st_s, st_n, if_true, if_false, eq_self, d_if, d_ju, d_re, d_ca, cat0, cat1, cat2, cat3, fr_z, fr_s, cc_I, cc_A, cc_N, Nat.reduceAdd, Nat.reduceLT, Nat.reduceLeDiff, Nat.reduceEqDiff, not_true, not_false_iff, z1_0, z1_1, Bool.and_self, Bool.true_and, Bool.and_true, nI_add, pk_mul, nI_clamp, decide_true, Nat.le_refl, bI_eq, bI_z1, mS_419, mS_416, mS_417, mS_46, mS_388, mS_o, mS_u419, mS_u416, mS_u417, mS_u46, mS_u388, mS_uo, h18, h398, upd_at, upd_ne, upd_01, upd_11, nI_leI, hni, mix_ge]
            refine go_at (blk := b_Model_minuteGoes_104) rfl ?_
            simp (disch := omega) only [b_Model_minuteGoes_104, be_43, be_6, be_34, be_4, be_38, be_33, be_49_3, ka_419, kc_388, rf_388_48, rf_388_22, ka_397, List.getD_cons_zero, List.getD_cons_succ, List.set_cons_zero, List.set_cons_succ, List.length_cons, List.length_nil, pk_I, pk_A, pr_A, pi_I, st_s, st_n, if_true, if_false, eq_self, d_if, d_ju, d_re, d_ca, cat0, cat1, cat2, cat3, fr_z, fr_s, cc_I, cc_A, cc_N, Nat.reduceAdd, Nat.reduceLT, Nat.reduceLeDiff, Nat.reduceEqDiff, not_true, not_false_iff, z1_0, z1_1, Bool.and_self, Bool.true_and, Bool.and_true, nI_add, pk_mul, nI_clamp, decide_true, Nat.le_refl, bI_eq, bI_z1, mS_419, mS_416, mS_417, mS_46, mS_388, mS_o, mS_u419, mS_u416, mS_u417, mS_u46, mS_u388, mS_uo, h18, h398, upd_at, upd_ne, upd_01, upd_11, nI_leI, hni, mix_ge]
            split
            · rename_i ha
              have ha0 : ¬ nI 0 < v 397 lv := Int32.not_lt.mpr ha
              refine go_at (blk := b_Model_minuteGoes_126) rfl ?_
              simp (disch := omega) only [b_Model_minuteGoes_126, be_6, be_34, be_4, be_33, be_38, be_43, be_1, be_12, be_0, kc_388, rf_388_48, rf_388_22, ka_397, ka_419, List.getD_cons_zero, List.getD_cons_succ, List.set_cons_zero, List.set_cons_succ, List.length_cons, List.length_nil, pk_I, pk_A, pr_A, pi_I, st_s, st_n, if_true, if_false, eq_self, d_if, d_ju, d_re, d_ca, cat0, cat1, cat2, cat3, fr_z, fr_s, cc_I, cc_A, cc_N, Nat.reduceAdd, Nat.reduceLT, Nat.reduceLeDiff, Nat.reduceEqDiff, not_true, not_false_iff, z1_0, z1_1, Bool.and_self, Bool.true_and, Bool.and_true, nI_add, pk_mul, nI_clamp, decide_true, Nat.le_refl, bI_eq, bI_z1, mS_419, mS_416, mS_417, mS_46, mS_388, mS_o, mS_u419, mS_u416, mS_u417, mS_u46, mS_u388, mS_uo, h18, h398, upd_at, upd_ne, upd_01, upd_11, nI_leI, hni, mix_ge]
              refine go_at (blk := b_Model_minuteGoes_167) rfl ?_
              simp (disch := omega) only [b_Model_minuteGoes_167, be_10, be_51, List.getD_cons_zero, List.getD_cons_succ, List.set_cons_zero, List.set_cons_succ, List.length_cons, List.length_nil, pk_I, pk_A, pr_A, pi_I, st_s, st_n, if_true, if_false, eq_self, d_if, d_ju, d_re, d_ca, cat0, cat1, cat2, cat3, fr_z, fr_s, cc_I, cc_A, cc_N, Nat.reduceAdd, Nat.reduceLT, Nat.reduceLeDiff, Nat.reduceEqDiff, not_true, not_false_iff, z1_0, z1_1, Bool.and_self, Bool.true_and, Bool.and_true, nI_add, pk_mul, nI_clamp, decide_true, Nat.le_refl, bI_eq, bI_z1, mS_419, mS_416, mS_417, mS_46, mS_388, mS_o, mS_u419, mS_u416, mS_u417, mS_u46, mS_u388, mS_uo, h18, h398, upd_at, upd_ne, upd_01, upd_11, nI_leI, hni, mix_ge]
              try simp only [nI_o, nI_z] at *
              refine go_mS ?_ ih
              refine (mix_step h8 ho ?_ ?_ ?_ ?_ ?_ ?_).symm
              · simp [g1_0 h8, g1_1 h8, g1_2 h8, g1_3 h8, g1_4 h8, spS, mix_ge m0, mix_ge m1, mix_ge m2, mix_ge m3, mix_ge m4, upd, hk0, hb0, hs0, ha0]
              · simp [g1_0 h8, g1_1 h8, g1_2 h8, g1_3 h8, g1_4 h8, spS, mix_ge m0, mix_ge m1, mix_ge m2, mix_ge m3, mix_ge m4, upd, hk0, hb0, hs0, ha0]
              · simp [g1_0 h8, g1_1 h8, g1_2 h8, g1_3 h8, g1_4 h8, spS, mix_ge m0, mix_ge m1, mix_ge m2, mix_ge m3, mix_ge m4, upd, hk0, hb0, hs0, ha0]
              · simp [g1_0 h8, g1_1 h8, g1_2 h8, g1_3 h8, g1_4 h8, spS, mix_ge m0, mix_ge m1, mix_ge m2, mix_ge m3, mix_ge m4, upd, hk0, hb0, hs0, ha0]
              · simp [g1_0 h8, g1_1 h8, g1_2 h8, g1_3 h8, g1_4 h8, spS, mix_ge m0, mix_ge m1, mix_ge m2, mix_ge m3, mix_ge m4, upd, hk0, hb0, hs0, ha0]
              · intro j j0 j1 j2 j3 j4
                simp [upd, j0, j1, j2, j3, j4]
            · rename_i ha
              have ha0 : nI 0 < v 397 lv := Int32.not_le.mp ha
              refine go_at (blk := b_Model_minuteGoes_123) rfl ?_
              simp (disch := omega) only [b_Model_minuteGoes_123, be_51, List.getD_cons_zero, List.getD_cons_succ, List.set_cons_zero, List.set_cons_succ, List.length_cons, List.length_nil, pk_I, pk_A, pr_A, pi_I, st_s, st_n, if_true, if_false, eq_self, d_if, d_ju, d_re, d_ca, cat0, cat1, cat2, cat3, fr_z, fr_s, cc_I, cc_A, cc_N, Nat.reduceAdd, Nat.reduceLT, Nat.reduceLeDiff, Nat.reduceEqDiff, not_true, not_false_iff, z1_0, z1_1, Bool.and_self, Bool.true_and, Bool.and_true, nI_add, pk_mul, nI_clamp, decide_true, Nat.le_refl, bI_eq, bI_z1, mS_419, mS_416, mS_417, mS_46, mS_388, mS_o, mS_u419, mS_u416, mS_u417, mS_u46, mS_u388, mS_uo, h18, h398, upd_at, upd_ne, upd_01, upd_11, nI_leI, hni, mix_ge]
              refine go_at (blk := b_Model_minuteGoes_167) rfl ?_
              simp (disch := omega) only [b_Model_minuteGoes_167, be_10, be_51, List.getD_cons_zero, List.getD_cons_succ, List.set_cons_zero, List.set_cons_succ, List.length_cons, List.length_nil, pk_I, pk_A, pr_A, pi_I, st_s, st_n, if_true, if_false, eq_self, d_if, d_ju, d_re, d_ca, cat0, cat1, cat2, cat3, fr_z, fr_s, cc_I, cc_A, cc_N, Nat.reduceAdd, Nat.reduceLT, Nat.reduceLeDiff, Nat.reduceEqDiff, not_true, not_false_iff, z1_0, z1_1, Bool.and_self, Bool.true_and, Bool.and_true, nI_add, pk_mul, nI_clamp, decide_true, Nat.le_refl, bI_eq, bI_z1, mS_419, mS_416, mS_417, mS_46, mS_388, mS_o, mS_u419, mS_u416, mS_u417, mS_u46, mS_u388, mS_uo, h18, h398, upd_at, upd_ne, upd_01, upd_11, nI_leI, hni, mix_ge]
              try simp only [nI_o, nI_z] at *
              refine go_mS ?_ ih
              refine (mix_step h8 ho ?_ ?_ ?_ ?_ ?_ ?_).symm
              · simp [g1_0 h8, g1_1 h8, g1_2 h8, g1_3 h8, g1_4 h8, spS, mix_ge m0, mix_ge m1, mix_ge m2, mix_ge m3, mix_ge m4, upd, hk0, hb0, hs0, ha0]
              · simp [g1_0 h8, g1_1 h8, g1_2 h8, g1_3 h8, g1_4 h8, spS, mix_ge m0, mix_ge m1, mix_ge m2, mix_ge m3, mix_ge m4, upd, hk0, hb0, hs0, ha0]
              · simp [g1_0 h8, g1_1 h8, g1_2 h8, g1_3 h8, g1_4 h8, spS, mix_ge m0, mix_ge m1, mix_ge m2, mix_ge m3, mix_ge m4, upd, hk0, hb0, hs0, ha0]
              · simp [g1_0 h8, g1_1 h8, g1_2 h8, g1_3 h8, g1_4 h8, spS, mix_ge m0, mix_ge m1, mix_ge m2, mix_ge m3, mix_ge m4, upd, hk0, hb0, hs0, ha0]
              · simp [g1_0 h8, g1_1 h8, g1_2 h8, g1_3 h8, g1_4 h8, spS, mix_ge m0, mix_ge m1, mix_ge m2, mix_ge m3, mix_ge m4, upd, hk0, hb0, hs0, ha0]
              · intro j j0 j1 j2 j3 j4
                simp [upd, j0, j1, j2, j3, j4]
        · rename_i hb
          have hk0 : f (8 + i) = 1 := Decidable.not_not.mp hk
          have hb0 : 0 < by_ := Int32.not_le.mp hb
          refine go_at (blk := b_Model_minuteGoes_48) rfl ?_
          simp (disch := omega) only [b_Model_minuteGoes_48, be_6, be_34, be_1, be_4, be_12, be_32, be_38, be_33, be_14, be_43, be_0, kc_388, rf_388_48, ka_419, rf_388_25, ka_400, List.getD_cons_zero, List.getD_cons_succ, List.set_cons_zero, List.set_cons_succ, List.length_cons, List.length_nil, pk_I, pk_A, pr_A, pi_I, st_s, st_n, if_true, if_false, eq_self, d_if, d_ju, d_re, d_ca, cat0, cat1, cat2, cat3, fr_z, fr_s, cc_I, cc_A, cc_N, Nat.reduceAdd, Nat.reduceLT, Nat.reduceLeDiff, Nat.reduceEqDiff, not_true, not_false_iff, z1_0, z1_1, Bool.and_self, Bool.true_and, Bool.and_true, nI_add, pk_mul, nI_clamp, decide_true, Nat.le_refl, bI_eq, bI_z1, mS_419, mS_416, mS_417, mS_46, mS_388, mS_o, mS_u419, mS_u416, mS_u417, mS_u46, mS_u388, mS_uo, h18, h398, upd_at, upd_ne, upd_01, upd_11, nI_leI, hni, mix_ge]
          refine go_at (blk := b_Model_minuteGoes_76) rfl ?_
          simp (disch := omega) only [b_Model_minuteGoes_76, be_6, be_34, be_4, be_38, be_12, be_50_3, kc_388, rf_388_48, ka_419, List.getD_cons_zero, List.getD_cons_succ, List.set_cons_zero, List.set_cons_succ, List.length_cons, List.length_nil, pk_I, pk_A, pr_A, pi_I, st_s, st_n, if_true, if_false, eq_self, d_if, d_ju, d_re, d_ca, cat0, cat1, cat2, cat3, fr_z, fr_s, cc_I, cc_A, cc_N, Nat.reduceAdd, Nat.reduceLT, Nat.reduceLeDiff, Nat.reduceEqDiff, not_true, not_false_iff, z1_0, z1_1, Bool.and_self, Bool.true_and, Bool.and_true, nI_add, pk_mul, nI_clamp, decide_true, Nat.le_refl, bI_eq, bI_z1, mS_419, mS_416, mS_417, mS_46, mS_388, mS_o, mS_u419, mS_u416, mS_u417, mS_u46, mS_u388, mS_uo, h18, h398, upd_at, upd_ne, upd_01, upd_11, nI_leI, hni, mix_ge]
          split
          · rename_i hs
            have hs0 : ¬ f i + by_ < 0 := Int32.not_lt.mpr hs
            refine go_at (blk := b_Model_minuteGoes_96) rfl ?_
            simp (disch := omega) only [b_Model_minuteGoes_96, be_6, be_34, be_4, be_38, be_12, be_0, kc_388, rf_388_48, ka_419, List.getD_cons_zero, List.getD_cons_succ, List.set_cons_zero, List.set_cons_succ, List.length_cons, List.length_nil, pk_I, pk_A, pr_A, pi_I, st_s, st_n, if_true, if_false, eq_self, d_if, d_ju, d_re, d_ca, cat0, cat1, cat2, cat3, fr_z, fr_s, cc_I, cc_A, cc_N, Nat.reduceAdd, Nat.reduceLT, Nat.reduceLeDiff, Nat.reduceEqDiff, not_true, not_false_iff, z1_0, z1_1, Bool.and_self, Bool.true_and, Bool.and_true, nI_add, pk_mul, nI_clamp, decide_true, Nat.le_refl, bI_eq, bI_z1, mS_419, mS_416, mS_417, mS_46, mS_388, mS_o, mS_u419, mS_u416, mS_u417, mS_u46, mS_u388, mS_uo, h18, h398, upd_at, upd_ne, upd_01, upd_11, nI_leI, hni, mix_ge]
            refine go_at (blk := b_Model_minuteGoes_104) rfl ?_
            simp (disch := omega) only [b_Model_minuteGoes_104, be_43, be_6, be_34, be_4, be_38, be_33, be_49_3, ka_419, kc_388, rf_388_48, rf_388_22, ka_397, List.getD_cons_zero, List.getD_cons_succ, List.set_cons_zero, List.set_cons_succ, List.length_cons, List.length_nil, pk_I, pk_A, pr_A, pi_I, st_s, st_n, if_true, if_false, eq_self, d_if, d_ju, d_re, d_ca, cat0, cat1, cat2, cat3, fr_z, fr_s, cc_I, cc_A, cc_N, Nat.reduceAdd, Nat.reduceLT, Nat.reduceLeDiff, Nat.reduceEqDiff, not_true, not_false_iff, z1_0, z1_1, Bool.and_self, Bool.true_and, Bool.and_true, nI_add, pk_mul, nI_clamp, decide_true, Nat.le_refl, bI_eq, bI_z1, mS_419, mS_416, mS_417, mS_46, mS_388, mS_o, mS_u419, mS_u416, mS_u417, mS_u46, mS_u388, mS_uo, h18, h398, upd_at, upd_ne, upd_01, upd_11, nI_leI, hni, mix_ge]
            split
            · rename_i ha
              have ha0 : ¬ (f i + by_) < v 397 lv := Int32.not_lt.mpr ha
              refine go_at (blk := b_Model_minuteGoes_126) rfl ?_
              simp (disch := omega) only [b_Model_minuteGoes_126, be_6, be_34, be_4, be_33, be_38, be_43, be_1, be_12, be_0, kc_388, rf_388_48, rf_388_22, ka_397, ka_419, List.getD_cons_zero, List.getD_cons_succ, List.set_cons_zero, List.set_cons_succ, List.length_cons, List.length_nil, pk_I, pk_A, pr_A, pi_I, st_s, st_n, if_true, if_false, eq_self, d_if, d_ju, d_re, d_ca, cat0, cat1, cat2, cat3, fr_z, fr_s, cc_I, cc_A, cc_N, Nat.reduceAdd, Nat.reduceLT, Nat.reduceLeDiff, Nat.reduceEqDiff, not_true, not_false_iff, z1_0, z1_1, Bool.and_self, Bool.true_and, Bool.and_true, nI_add, pk_mul, nI_clamp, decide_true, Nat.le_refl, bI_eq, bI_z1, mS_419, mS_416, mS_417, mS_46, mS_388, mS_o, mS_u419, mS_u416, mS_u417, mS_u46, mS_u388, mS_uo, h18, h398, upd_at, upd_ne, upd_01, upd_11, nI_leI, hni, mix_ge]
              refine go_at (blk := b_Model_minuteGoes_167) rfl ?_
              simp (disch := omega) only [b_Model_minuteGoes_167, be_10, be_51, List.getD_cons_zero, List.getD_cons_succ, List.set_cons_zero, List.set_cons_succ, List.length_cons, List.length_nil, pk_I, pk_A, pr_A, pi_I, st_s, st_n, if_true, if_false, eq_self, d_if, d_ju, d_re, d_ca, cat0, cat1, cat2, cat3, fr_z, fr_s, cc_I, cc_A, cc_N, Nat.reduceAdd, Nat.reduceLT, Nat.reduceLeDiff, Nat.reduceEqDiff, not_true, not_false_iff, z1_0, z1_1, Bool.and_self, Bool.true_and, Bool.and_true, nI_add, pk_mul, nI_clamp, decide_true, Nat.le_refl, bI_eq, bI_z1, mS_419, mS_416, mS_417, mS_46, mS_388, mS_o, mS_u419, mS_u416, mS_u417, mS_u46, mS_u388, mS_uo, h18, h398, upd_at, upd_ne, upd_01, upd_11, nI_leI, hni, mix_ge]
              try simp only [nI_o, nI_z] at *
              refine go_mS ?_ ih
              refine (mix_step h8 ho ?_ ?_ ?_ ?_ ?_ ?_).symm
              · simp [g1_0 h8, g1_1 h8, g1_2 h8, g1_3 h8, g1_4 h8, spS, mix_ge m0, mix_ge m1, mix_ge m2, mix_ge m3, mix_ge m4, upd, hk0, hb0, hs0, ha0]
              · simp [g1_0 h8, g1_1 h8, g1_2 h8, g1_3 h8, g1_4 h8, spS, mix_ge m0, mix_ge m1, mix_ge m2, mix_ge m3, mix_ge m4, upd, hk0, hb0, hs0, ha0]
              · simp [g1_0 h8, g1_1 h8, g1_2 h8, g1_3 h8, g1_4 h8, spS, mix_ge m0, mix_ge m1, mix_ge m2, mix_ge m3, mix_ge m4, upd, hk0, hb0, hs0, ha0]
              · simp [g1_0 h8, g1_1 h8, g1_2 h8, g1_3 h8, g1_4 h8, spS, mix_ge m0, mix_ge m1, mix_ge m2, mix_ge m3, mix_ge m4, upd, hk0, hb0, hs0, ha0]
              · simp [g1_0 h8, g1_1 h8, g1_2 h8, g1_3 h8, g1_4 h8, spS, mix_ge m0, mix_ge m1, mix_ge m2, mix_ge m3, mix_ge m4, upd, hk0, hb0, hs0, ha0]
              · intro j j0 j1 j2 j3 j4
                simp [upd, j0, j1, j2, j3, j4]
            · rename_i ha
              have ha0 : (f i + by_) < v 397 lv := Int32.not_le.mp ha
              refine go_at (blk := b_Model_minuteGoes_123) rfl ?_
              simp (disch := omega) only [b_Model_minuteGoes_123, be_51, List.getD_cons_zero, List.getD_cons_succ, List.set_cons_zero, List.set_cons_succ, List.length_cons, List.length_nil, pk_I, pk_A, pr_A, pi_I, st_s, st_n, if_true, if_false, eq_self, d_if, d_ju, d_re, d_ca, cat0, cat1, cat2, cat3, fr_z, fr_s, cc_I, cc_A, cc_N, Nat.reduceAdd, Nat.reduceLT, Nat.reduceLeDiff, Nat.reduceEqDiff, not_true, not_false_iff, z1_0, z1_1, Bool.and_self, Bool.true_and, Bool.and_true, nI_add, pk_mul, nI_clamp, decide_true, Nat.le_refl, bI_eq, bI_z1, mS_419, mS_416, mS_417, mS_46, mS_388, mS_o, mS_u419, mS_u416, mS_u417, mS_u46, mS_u388, mS_uo, h18, h398, upd_at, upd_ne, upd_01, upd_11, nI_leI, hni, mix_ge]
              refine go_at (blk := b_Model_minuteGoes_167) rfl ?_
              simp (disch := omega) only [b_Model_minuteGoes_167, be_10, be_51, List.getD_cons_zero, List.getD_cons_succ, List.set_cons_zero, List.set_cons_succ, List.length_cons, List.length_nil, pk_I, pk_A, pr_A, pi_I, st_s, st_n, if_true, if_false, eq_self, d_if, d_ju, d_re, d_ca, cat0, cat1, cat2, cat3, fr_z, fr_s, cc_I, cc_A, cc_N, Nat.reduceAdd, Nat.reduceLT, Nat.reduceLeDiff, Nat.reduceEqDiff, not_true, not_false_iff, z1_0, z1_1, Bool.and_self, Bool.true_and, Bool.and_true, nI_add, pk_mul, nI_clamp, decide_true, Nat.le_refl, bI_eq, bI_z1, mS_419, mS_416, mS_417, mS_46, mS_388, mS_o, mS_u419, mS_u416, mS_u417, mS_u46, mS_u388, mS_uo, h18, h398, upd_at, upd_ne, upd_01, upd_11, nI_leI, hni, mix_ge]
              try simp only [nI_o, nI_z] at *
              refine go_mS ?_ ih
              refine (mix_step h8 ho ?_ ?_ ?_ ?_ ?_ ?_).symm
              · simp [g1_0 h8, g1_1 h8, g1_2 h8, g1_3 h8, g1_4 h8, spS, mix_ge m0, mix_ge m1, mix_ge m2, mix_ge m3, mix_ge m4, upd, hk0, hb0, hs0, ha0]
              · simp [g1_0 h8, g1_1 h8, g1_2 h8, g1_3 h8, g1_4 h8, spS, mix_ge m0, mix_ge m1, mix_ge m2, mix_ge m3, mix_ge m4, upd, hk0, hb0, hs0, ha0]
              · simp [g1_0 h8, g1_1 h8, g1_2 h8, g1_3 h8, g1_4 h8, spS, mix_ge m0, mix_ge m1, mix_ge m2, mix_ge m3, mix_ge m4, upd, hk0, hb0, hs0, ha0]
              · simp [g1_0 h8, g1_1 h8, g1_2 h8, g1_3 h8, g1_4 h8, spS, mix_ge m0, mix_ge m1, mix_ge m2, mix_ge m3, mix_ge m4, upd, hk0, hb0, hs0, ha0]
              · simp [g1_0 h8, g1_1 h8, g1_2 h8, g1_3 h8, g1_4 h8, spS, mix_ge m0, mix_ge m1, mix_ge m2, mix_ge m3, mix_ge m4, upd, hk0, hb0, hs0, ha0]
              · intro j j0 j1 j2 j3 j4
                simp [upd, j0, j1, j2, j3, j4]
          · rename_i hs
            have hs0 : f i + by_ < 0 := Int32.not_le.mp hs
            refine go_at (blk := b_Model_minuteGoes_92) rfl ?_
            simp (disch := omega) only [b_Model_minuteGoes_92, be_1, be_51, List.getD_cons_zero, List.getD_cons_succ, List.set_cons_zero, List.set_cons_succ, List.length_cons, List.length_nil, pk_I, pk_A, pr_A, pi_I, st_s, st_n, if_true, if_false, eq_self, d_if, d_ju, d_re, d_ca, cat0, cat1, cat2, cat3, fr_z, fr_s, cc_I, cc_A, cc_N, Nat.reduceAdd, Nat.reduceLT, Nat.reduceLeDiff, Nat.reduceEqDiff, not_true, not_false_iff, z1_0, z1_1, Bool.and_self, Bool.true_and, Bool.and_true, nI_add, pk_mul, nI_clamp, decide_true, Nat.le_refl, bI_eq, bI_z1, mS_419, mS_416, mS_417, mS_46, mS_388, mS_o, mS_u419, mS_u416, mS_u417, mS_u46, mS_u388, mS_uo, h18, h398, upd_at, upd_ne, upd_01, upd_11, nI_leI, hni, mix_ge]
            refine go_at (blk := b_Model_minuteGoes_104) rfl ?_
            simp (disch := omega) only [b_Model_minuteGoes_104, be_43, be_6, be_34, be_4, be_38, be_33, be_49_3, ka_419, kc_388, rf_388_48, rf_388_22, ka_397, List.getD_cons_zero, List.getD_cons_succ, List.set_cons_zero, List.set_cons_succ, List.length_cons, List.length_nil, pk_I, pk_A, pr_A, pi_I, st_s, st_n, if_true, if_false, eq_self, d_if, d_ju, d_re, d_ca, cat0, cat1, cat2, cat3, fr_z, fr_s, cc_I, cc_A, cc_N, Nat.reduceAdd, Nat.reduceLT, Nat.reduceLeDiff, Nat.reduceEqDiff, not_true, not_false_iff, z1_0, z1_1, Bool.and_self, Bool.true_and, Bool.and_true, nI_add, pk_mul, nI_clamp, decide_true, Nat.le_refl, bI_eq, bI_z1, mS_419, mS_416, mS_417, mS_46, mS_388, mS_o, mS_u419, mS_u416, mS_u417, mS_u46, mS_u388, mS_uo, h18, h398, upd_at, upd_ne, upd_01, upd_11, nI_leI, hni, mix_ge]
            split
            · rename_i ha
              have ha0 : ¬ nI 0 < v 397 lv := Int32.not_lt.mpr ha
              refine go_at (blk := b_Model_minuteGoes_126) rfl ?_
              simp (disch := omega) only [b_Model_minuteGoes_126, be_6, be_34, be_4, be_33, be_38, be_43, be_1, be_12, be_0, kc_388, rf_388_48, rf_388_22, ka_397, ka_419, List.getD_cons_zero, List.getD_cons_succ, List.set_cons_zero, List.set_cons_succ, List.length_cons, List.length_nil, pk_I, pk_A, pr_A, pi_I, st_s, st_n, if_true, if_false, eq_self, d_if, d_ju, d_re, d_ca, cat0, cat1, cat2, cat3, fr_z, fr_s, cc_I, cc_A, cc_N, Nat.reduceAdd, Nat.reduceLT, Nat.reduceLeDiff, Nat.reduceEqDiff, not_true, not_false_iff, z1_0, z1_1, Bool.and_self, Bool.true_and, Bool.and_true, nI_add, pk_mul, nI_clamp, decide_true, Nat.le_refl, bI_eq, bI_z1, mS_419, mS_416, mS_417, mS_46, mS_388, mS_o, mS_u419, mS_u416, mS_u417, mS_u46, mS_u388, mS_uo, h18, h398, upd_at, upd_ne, upd_01, upd_11, nI_leI, hni, mix_ge]
              refine go_at (blk := b_Model_minuteGoes_167) rfl ?_
              simp (disch := omega) only [b_Model_minuteGoes_167, be_10, be_51, List.getD_cons_zero, List.getD_cons_succ, List.set_cons_zero, List.set_cons_succ, List.length_cons, List.length_nil, pk_I, pk_A, pr_A, pi_I, st_s, st_n, if_true, if_false, eq_self, d_if, d_ju, d_re, d_ca, cat0, cat1, cat2, cat3, fr_z, fr_s, cc_I, cc_A, cc_N, Nat.reduceAdd, Nat.reduceLT, Nat.reduceLeDiff, Nat.reduceEqDiff, not_true, not_false_iff, z1_0, z1_1, Bool.and_self, Bool.true_and, Bool.and_true, nI_add, pk_mul, nI_clamp, decide_true, Nat.le_refl, bI_eq, bI_z1, mS_419, mS_416, mS_417, mS_46, mS_388, mS_o, mS_u419, mS_u416, mS_u417, mS_u46, mS_u388, mS_uo, h18, h398, upd_at, upd_ne, upd_01, upd_11, nI_leI, hni, mix_ge]
              try simp only [nI_o, nI_z] at *
              refine go_mS ?_ ih
              refine (mix_step h8 ho ?_ ?_ ?_ ?_ ?_ ?_).symm
              · simp [g1_0 h8, g1_1 h8, g1_2 h8, g1_3 h8, g1_4 h8, spS, mix_ge m0, mix_ge m1, mix_ge m2, mix_ge m3, mix_ge m4, upd, hk0, hb0, hs0, ha0]
              · simp [g1_0 h8, g1_1 h8, g1_2 h8, g1_3 h8, g1_4 h8, spS, mix_ge m0, mix_ge m1, mix_ge m2, mix_ge m3, mix_ge m4, upd, hk0, hb0, hs0, ha0]
              · simp [g1_0 h8, g1_1 h8, g1_2 h8, g1_3 h8, g1_4 h8, spS, mix_ge m0, mix_ge m1, mix_ge m2, mix_ge m3, mix_ge m4, upd, hk0, hb0, hs0, ha0]
              · simp [g1_0 h8, g1_1 h8, g1_2 h8, g1_3 h8, g1_4 h8, spS, mix_ge m0, mix_ge m1, mix_ge m2, mix_ge m3, mix_ge m4, upd, hk0, hb0, hs0, ha0]
              · simp [g1_0 h8, g1_1 h8, g1_2 h8, g1_3 h8, g1_4 h8, spS, mix_ge m0, mix_ge m1, mix_ge m2, mix_ge m3, mix_ge m4, upd, hk0, hb0, hs0, ha0]
              · intro j j0 j1 j2 j3 j4
                simp [upd, j0, j1, j2, j3, j4]
            · rename_i ha
              have ha0 : nI 0 < v 397 lv := Int32.not_le.mp ha
              refine go_at (blk := b_Model_minuteGoes_123) rfl ?_
              simp (disch := omega) only [b_Model_minuteGoes_123, be_51, List.getD_cons_zero, List.getD_cons_succ, List.set_cons_zero, List.set_cons_succ, List.length_cons, List.length_nil, pk_I, pk_A, pr_A, pi_I, st_s, st_n, if_true, if_false, eq_self, d_if, d_ju, d_re, d_ca, cat0, cat1, cat2, cat3, fr_z, fr_s, cc_I, cc_A, cc_N, Nat.reduceAdd, Nat.reduceLT, Nat.reduceLeDiff, Nat.reduceEqDiff, not_true, not_false_iff, z1_0, z1_1, Bool.and_self, Bool.true_and, Bool.and_true, nI_add, pk_mul, nI_clamp, decide_true, Nat.le_refl, bI_eq, bI_z1, mS_419, mS_416, mS_417, mS_46, mS_388, mS_o, mS_u419, mS_u416, mS_u417, mS_u46, mS_u388, mS_uo, h18, h398, upd_at, upd_ne, upd_01, upd_11, nI_leI, hni, mix_ge]
              refine go_at (blk := b_Model_minuteGoes_167) rfl ?_
              simp (disch := omega) only [b_Model_minuteGoes_167, be_10, be_51, List.getD_cons_zero, List.getD_cons_succ, List.set_cons_zero, List.set_cons_succ, List.length_cons, List.length_nil, pk_I, pk_A, pr_A, pi_I, st_s, st_n, if_true, if_false, eq_self, d_if, d_ju, d_re, d_ca, cat0, cat1, cat2, cat3, fr_z, fr_s, cc_I, cc_A, cc_N, Nat.reduceAdd, Nat.reduceLT, Nat.reduceLeDiff, Nat.reduceEqDiff, not_true, not_false_iff, z1_0, z1_1, Bool.and_self, Bool.true_and, Bool.and_true, nI_add, pk_mul, nI_clamp, decide_true, Nat.le_refl, bI_eq, bI_z1, mS_419, mS_416, mS_417, mS_46, mS_388, mS_o, mS_u419, mS_u416, mS_u417, mS_u46, mS_u388, mS_uo, h18, h398, upd_at, upd_ne, upd_01, upd_11, nI_leI, hni, mix_ge]
              try simp only [nI_o, nI_z] at *
              refine go_mS ?_ ih
              refine (mix_step h8 ho ?_ ?_ ?_ ?_ ?_ ?_).symm
              · simp [g1_0 h8, g1_1 h8, g1_2 h8, g1_3 h8, g1_4 h8, spS, mix_ge m0, mix_ge m1, mix_ge m2, mix_ge m3, mix_ge m4, upd, hk0, hb0, hs0, ha0]
              · simp [g1_0 h8, g1_1 h8, g1_2 h8, g1_3 h8, g1_4 h8, spS, mix_ge m0, mix_ge m1, mix_ge m2, mix_ge m3, mix_ge m4, upd, hk0, hb0, hs0, ha0]
              · simp [g1_0 h8, g1_1 h8, g1_2 h8, g1_3 h8, g1_4 h8, spS, mix_ge m0, mix_ge m1, mix_ge m2, mix_ge m3, mix_ge m4, upd, hk0, hb0, hs0, ha0]
              · simp [g1_0 h8, g1_1 h8, g1_2 h8, g1_3 h8, g1_4 h8, spS, mix_ge m0, mix_ge m1, mix_ge m2, mix_ge m3, mix_ge m4, upd, hk0, hb0, hs0, ha0]
              · simp [g1_0 h8, g1_1 h8, g1_2 h8, g1_3 h8, g1_4 h8, spS, mix_ge m0, mix_ge m1, mix_ge m2, mix_ge m3, mix_ge m4, upd, hk0, hb0, hs0, ha0]
              · intro j j0 j1 j2 j3 j4
                simp [upd, j0, j1, j2, j3, j4]
    · rename_i hc
      have ho : onB f (v 388 49) i = false := by rw [onB_mix h8] at hc; simpa using hc
      refine go_at (blk := b_Model_minuteGoes_28) rfl ?_
      simp (disch := omega) only [b_Model_minuteGoes_28, be_51, List.getD_cons_zero, List.getD_cons_succ, List.set_cons_zero, List.set_cons_succ, List.length_cons, List.length_nil, pk_I, pk_A, pr_A, pi_I, st_s, st_n, if_true, if_false, eq_self, d_if, d_ju, d_re, d_ca, cat0, cat1, cat2, cat3, fr_z, fr_s, cc_I, cc_A, cc_N, Nat.reduceAdd, Nat.reduceLT, Nat.reduceLeDiff, Nat.reduceEqDiff, not_true, not_false_iff, z1_0, z1_1, Bool.and_self, Bool.true_and, Bool.and_true, nI_add, pk_mul, nI_clamp, decide_true, Nat.le_refl, bI_eq, bI_z1, mS_419, mS_416, mS_417, mS_46, mS_388, mS_o, mS_u419, mS_u416, mS_u417, mS_u46, mS_u388, mS_uo, h18, h398, upd_at, upd_ne, upd_01, upd_11, nI_leI, hni, mix_ge]
      refine go_at (blk := b_Model_minuteGoes_167) rfl ?_
      simp (disch := omega) only [b_Model_minuteGoes_167, be_10, be_51, List.getD_cons_zero, List.getD_cons_succ, List.set_cons_zero, List.set_cons_succ, List.length_cons, List.length_nil, pk_I, pk_A, pr_A, pi_I, st_s, st_n, if_true, if_false, eq_self, d_if, d_ju, d_re, d_ca, cat0, cat1, cat2, cat3, fr_z, fr_s, cc_I, cc_A, cc_N, Nat.reduceAdd, Nat.reduceLT, Nat.reduceLeDiff, Nat.reduceEqDiff, not_true, not_false_iff, z1_0, z1_1, Bool.and_self, Bool.true_and, Bool.and_true, nI_add, pk_mul, nI_clamp, decide_true, Nat.le_refl, bI_eq, bI_z1, mS_419, mS_416, mS_417, mS_46, mS_388, mS_o, mS_u419, mS_u416, mS_u417, mS_u46, mS_u388, mS_uo, h18, h398, upd_at, upd_ne, upd_01, upd_11, nI_leI, hni, mix_ge]
      rw [mix_off ho] at ih
      exact ih
  · try dsimp only
    refine go_at (blk := b_Model_minuteGoes_7) rfl ?_
    simp (disch := omega) only [b_Model_minuteGoes_7, be_4, be_6, be_34, be_33, be_38, be_49_3, kc_388, rf_388_23, ka_398, List.getD_cons_zero, List.getD_cons_succ, List.set_cons_zero, List.set_cons_succ, List.length_cons, List.length_nil, pk_I, pk_A, pr_A, pi_I, st_s, st_n, if_true, if_false, eq_self, d_if, d_ju, d_re, d_ca, cat0, cat1, cat2, cat3, fr_z, fr_s, cc_I, cc_A, cc_N, Nat.reduceAdd, Nat.reduceLT, Nat.reduceLeDiff, Nat.reduceEqDiff, not_true, not_false_iff, z1_0, z1_1, Bool.and_self, Bool.true_and, Bool.and_true, nI_add, pk_mul, nI_clamp, decide_true, Nat.le_refl, bI_eq, bI_z1, mS_419, mS_416, mS_417, mS_46, mS_388, mS_o, mS_u419, mS_u416, mS_u417, mS_u46, mS_u388, mS_uo, h18, h398, upd_at, upd_ne, upd_01, upd_11, nI_leI]
    refine go_at (blk := b_Model_minuteGoes_173) rfl ?_
    simp (disch := omega) only [b_Model_minuteGoes_173, be_1, be_7, be_0, List.getD_cons_zero, List.getD_cons_succ, List.set_cons_zero, List.set_cons_succ, List.length_cons, List.length_nil, pk_I, pk_A, pr_A, pi_I, st_s, st_n, if_true, if_false, eq_self, d_if, d_ju, d_re, d_ca, cat0, cat1, cat2, cat3, fr_z, fr_s, cc_I, cc_A, cc_N, Nat.reduceAdd, Nat.reduceLT, Nat.reduceLeDiff, Nat.reduceEqDiff, not_true, not_false_iff, z1_0, z1_1, Bool.and_self, Bool.true_and, Bool.and_true, nI_add, pk_mul, nI_clamp, decide_true, Nat.le_refl, bI_eq, bI_z1, mS_419, mS_416, mS_417, mS_46, mS_388, mS_o, mS_u419, mS_u416, mS_u417, mS_u46, mS_u388, mS_uo, h18, h398, upd_at, upd_ne, upd_01, upd_11, nI_leI]
    have hx0 : mix 0 (g2 (fun p => v 402 (8 * lv + p)) (mix n (g1 (v 397 lv) by_ (fun p => v 400 (8 * lv + p)) f) f (v 388 49))) (mix n (g1 (v 397 lv) by_ (fun p => v 400 (8 * lv + p)) f) f (v 388 49)) (v 388 49) = (mix n (g1 (v 397 lv) by_ (fun p => v 400 (8 * lv + p)) f) f (v 388 49)) := mix_0
    refine go_mS hx0.symm ?_
    refine go_loop (fun i => ([.ref 388, .int by_, .int (nI i)], [], (428, 26053, KD, RF, mS v (mix i (g2 (fun p => v 402 (8 * lv + p)) (mix n (g1 (v 397 lv) by_ (fun p => v 400 (8 * lv + p)) f) f (v 388 49))) (mix n (g1 (v 397 lv) by_ (fun p => v 400 (8 * lv + p)) f) f (v 388 49)) (v 388 49)) (x') (g') (b'), w))) (n) ?_ ?_
    · intro i hi ih
      have hni : ¬ n ≤ i := by omega
      have h8 : i < 8 := by omega
      have m0 : i ≤ i % 8 ∨ 40 ≤ i := by omega
      have m1 : i ≤ (8 + i) % 8 ∨ 40 ≤ 8 + i := by omega
      have m2 : i ≤ (16 + i) % 8 ∨ 40 ≤ 16 + i := by omega
      have m3 : i ≤ (24 + i) % 8 ∨ 40 ≤ 24 + i := by omega
      have m4 : i ≤ (32 + i) % 8 ∨ 40 ≤ 32 + i := by omega
      try dsimp only at ih ⊢
      refine go_at (blk := b_Model_minuteGoes_175) rfl ?_
      simp (disch := omega) only [b_Model_minuteGoes_175, be_4, be_6, be_34, be_33, be_38, be_49_3, kc_388, rf_388_23, ka_398, List.getD_cons_zero, List.getD_cons_succ, List.set_cons_zero, List.set_cons_succ, List.length_cons, List.length_nil, pk_I, pk_A, pr_A, pi_I, st_s, st_n, if_true, if_false, eq_self, d_if, d_ju, d_re, d_ca, cat0, cat1, cat2, cat3, fr_z, fr_s, cc_I, cc_A, cc_N, Nat.reduceAdd, Nat.reduceLT, Nat.reduceLeDiff, Nat.reduceEqDiff, not_true, not_false_iff, z1_0, z1_1, Bool.and_self, Bool.true_and, Bool.and_true, nI_add, pk_mul, nI_clamp, decide_true, Nat.le_refl, bI_eq, bI_z1, mS_419, mS_416, mS_417, mS_46, mS_388, mS_o, mS_u419, mS_u416, mS_u417, mS_u46, mS_u388, mS_uo, h18, h398, upd_at, upd_ne, upd_01, upd_11, nI_leI, hni]
      refine go_at (blk := b_Model_minuteGoes_188) rfl ?_
      simp (disch := omega) only [b_Model_minuteGoes_188, be_6, be_4, be_57_1, kc_388, List.getD_cons_zero, List.getD_cons_succ, List.set_cons_zero, List.set_cons_succ, List.length_cons, List.length_nil, pk_I, pk_A, pr_A, pi_I, st_s, st_n, if_true, if_false, eq_self, d_if, d_ju, d_re, d_ca, cat0, cat1, cat2, cat3, fr_z, fr_s, cc_I, cc_A, cc_N, Nat.reduceAdd, Nat.reduceLT, Nat.reduceLeDiff, Nat.reduceEqDiff, not_true, not_false_iff, z1_0, z1_1, Bool.and_self, Bool.true_and, Bool.and_true, nI_add, pk_mul, nI_clamp, decide_true, Nat.le_refl, bI_eq, bI_z1, mS_419, mS_416, mS_417, mS_46, mS_388, mS_o, mS_u419, mS_u416, mS_u417, mS_u46, mS_u388, mS_uo, h18, h398, upd_at, upd_ne, upd_01, upd_11, nI_leI, hni]
      refine m_isOn (by omega) ?_
      refine go_at (blk := b_Model_minuteGoes_193) rfl ?_
      simp (disch := omega) only [b_Model_minuteGoes_193, be_50_0, List.getD_cons_zero, List.getD_cons_succ, List.set_cons_zero, List.set_cons_succ, List.length_cons, List.length_nil, pk_I, pk_A, pr_A, pi_I, st_s, st_n, if_true, if_false, eq_self, d_if, d_ju, d_re, d_ca, cat0, cat1, cat2, cat3, fr_z, fr_s, cc_I, cc_A, cc_N, Nat.reduceAdd, Nat.reduceLT, Nat.reduceLeDiff, Nat.reduceEqDiff, not_true, not_false_iff, z1_0, z1_1, Bool.and_self, Bool.true_and, Bool.and_true, nI_add, pk_mul, nI_clamp, decide_true, Nat.le_refl, bI_eq, bI_z1, mS_419, mS_416, mS_417, mS_46, mS_388, mS_o, mS_u419, mS_u416, mS_u417, mS_u46, mS_u388, mS_uo, h18, h398, upd_at, upd_ne, upd_01, upd_11, nI_leI, hni]
      split
      · rename_i hc
        have ho : onB (mix n (g1 (v 397 lv) by_ (fun p => v 400 (8 * lv + p)) f) f (v 388 49)) (v 388 49) i = false := by rw [onB_mix h8] at hc; exact hc
        refine go_at (blk := b_Model_minuteGoes_201) rfl ?_
        simp (disch := omega) only [b_Model_minuteGoes_201, be_10, be_51, List.getD_cons_zero, List.getD_cons_succ, List.set_cons_zero, List.set_cons_succ, List.length_cons, List.length_nil, pk_I, pk_A, pr_A, pi_I, st_s, st_n, if_true, if_false, eq_self, d_if, d_ju, d_re, d_ca, cat0, cat1, cat2, cat3, fr_z, fr_s, cc_I, cc_A, cc_N, Nat.reduceAdd, Nat.reduceLT, Nat.reduceLeDiff, Nat.reduceEqDiff, not_true, not_false_iff, z1_0, z1_1, Bool.and_self, Bool.true_and, Bool.and_true, nI_add, pk_mul, nI_clamp, decide_true, Nat.le_refl, bI_eq, bI_z1, mS_419, mS_416, mS_417, mS_46, mS_388, mS_o, mS_u419, mS_u416, mS_u417, mS_u46, mS_u388, mS_uo, h18, h398, upd_at, upd_ne, upd_01, upd_11, nI_leI, hni]
        rw [mix_off ho] at ih
        exact ih
      · rename_i hc
        have ho : onB (mix n (g1 (v 397 lv) by_ (fun p => v 400 (8 * lv + p)) f) f (v 388 49)) (v 388 49) i = true := by rw [onB_mix h8] at hc; simpa using hc
        refine go_at (blk := b_Model_minuteGoes_196) rfl ?_
        simp (disch := omega) only [b_Model_minuteGoes_196, be_6, be_4, be_57_1, kc_388, List.getD_cons_zero, List.getD_cons_succ, List.set_cons_zero, List.set_cons_succ, List.length_cons, List.length_nil, pk_I, pk_A, pr_A, pi_I, st_s, st_n, if_true, if_false, eq_self, d_if, d_ju, d_re, d_ca, cat0, cat1, cat2, cat3, fr_z, fr_s, cc_I, cc_A, cc_N, Nat.reduceAdd, Nat.reduceLT, Nat.reduceLeDiff, Nat.reduceEqDiff, not_true, not_false_iff, z1_0, z1_1, Bool.and_self, Bool.true_and, Bool.and_true, nI_add, pk_mul, nI_clamp, decide_true, Nat.le_refl, bI_eq, bI_z1, mS_419, mS_416, mS_417, mS_46, mS_388, mS_o, mS_u419, mS_u416, mS_u417, mS_u46, mS_u388, mS_uo, h18, h398, upd_at, upd_ne, upd_01, upd_11, nI_leI, hni]
        refine m_soresOf h8 ⟨h18, hlv, h398, hn⟩ (fun f' e1 e2 e3 => ?_)
        refine go_at (blk := b_Model_minuteGoes_201) rfl ?_
        simp (disch := omega) only [b_Model_minuteGoes_201, be_10, be_51, List.getD_cons_zero, List.getD_cons_succ, List.set_cons_zero, List.set_cons_succ, List.length_cons, List.length_nil, pk_I, pk_A, pr_A, pi_I, st_s, st_n, if_true, if_false, eq_self, d_if, d_ju, d_re, d_ca, cat0, cat1, cat2, cat3, fr_z, fr_s, cc_I, cc_A, cc_N, Nat.reduceAdd, Nat.reduceLT, Nat.reduceLeDiff, Nat.reduceEqDiff, not_true, not_false_iff, z1_0, z1_1, Bool.and_self, Bool.true_and, Bool.and_true, nI_add, pk_mul, nI_clamp, decide_true, Nat.le_refl, bI_eq, bI_z1, mS_419, mS_416, mS_417, mS_46, mS_388, mS_o, mS_u419, mS_u416, mS_u417, mS_u46, mS_u388, mS_uo, h18, h398, upd_at, upd_ne, upd_01, upd_11, nI_leI, hni]
        refine go_mS ?_ ih
        refine (mix_step h8 ho ?_ ?_ ?_ ?_ ?_ ?_).symm
        · rw [e3 _ (by omega) (by omega), mix_ge m0, g2_0 h8]
        · rw [e1, g2_1 h8, g2_1 h8, mix_ge m1, mix_ge m2]
        · rw [e2, g2_2 h8, g2_2 h8, mix_ge m1, mix_ge m2]
        · rw [e3 _ (by omega) (by omega), mix_ge m3, g2_3 h8]
        · rw [e3 _ (by omega) (by omega), mix_ge m4, g2_4 h8]
        · intro j _ j1 j2 _ _
          exact e3 j j1 j2
    · try dsimp only
      refine go_at (blk := b_Model_minuteGoes_175) rfl ?_
      simp (disch := omega) only [b_Model_minuteGoes_175, be_4, be_6, be_34, be_33, be_38, be_49_3, kc_388, rf_388_23, ka_398, List.getD_cons_zero, List.getD_cons_succ, List.set_cons_zero, List.set_cons_succ, List.length_cons, List.length_nil, pk_I, pk_A, pr_A, pi_I, st_s, st_n, if_true, if_false, eq_self, d_if, d_ju, d_re, d_ca, cat0, cat1, cat2, cat3, fr_z, fr_s, cc_I, cc_A, cc_N, Nat.reduceAdd, Nat.reduceLT, Nat.reduceLeDiff, Nat.reduceEqDiff, not_true, not_false_iff, z1_0, z1_1, Bool.and_self, Bool.true_and, Bool.and_true, nI_add, pk_mul, nI_clamp, decide_true, Nat.le_refl, bI_eq, bI_z1, mS_419, mS_416, mS_417, mS_46, mS_388, mS_o, mS_u419, mS_u416, mS_u417, mS_u46, mS_u388, mS_uo, h18, h398, upd_at, upd_ne, upd_01, upd_11, nI_leI]
      refine go_at (blk := b_Model_minuteGoes_207) rfl ?_
      simp (disch := omega) only [b_Model_minuteGoes_207, be_6, be_34, be_1, be_38, be_50_5, kc_388, rf_388_48, ka_419, List.getD_cons_zero, List.getD_cons_succ, List.set_cons_zero, List.set_cons_succ, List.length_cons, List.length_nil, pk_I, pk_A, pr_A, pi_I, st_s, st_n, if_true, if_false, eq_self, d_if, d_ju, d_re, d_ca, cat0, cat1, cat2, cat3, fr_z, fr_s, cc_I, cc_A, cc_N, Nat.reduceAdd, Nat.reduceLT, Nat.reduceLeDiff, Nat.reduceEqDiff, not_true, not_false_iff, z1_0, z1_1, Bool.and_self, Bool.true_and, Bool.and_true, nI_add, pk_mul, nI_clamp, decide_true, Nat.le_refl, bI_eq, bI_z1, mS_419, mS_416, mS_417, mS_46, mS_388, mS_o, mS_u419, mS_u416, mS_u417, mS_u46, mS_u388, mS_uo, h18, h398, upd_at, upd_ne, upd_01, upd_11, nI_leI]
      split
      · rename_i hz
        have hz0 : ¬ 0 < (mix n (g2 (fun p => v 402 (8 * lv + p)) (mix n (g1 (v 397 lv) by_ (fun p => v 400 (8 * lv + p)) f) f (v 388 49))) (mix n (g1 (v 397 lv) by_ (fun p => v 400 (8 * lv + p)) f) f (v 388 49)) (v 388 49)) 40 := Int32.not_lt.mpr hz
        refine go_at (blk := b_Model_minuteGoes_228) rfl ?_
        simp (disch := omega) only [b_Model_minuteGoes_228, be_6, be_34, be_1, be_32, be_38, be_12, be_43, be_4, be_56, kc_388, rf_388_48, ka_419, List.getD_cons_zero, List.getD_cons_succ, List.set_cons_zero, List.set_cons_succ, List.length_cons, List.length_nil, pk_I, pk_A, pr_A, pi_I, st_s, st_n, if_true, if_false, eq_self, d_if, d_ju, d_re, d_ca, cat0, cat1, cat2, cat3, fr_z, fr_s, cc_I, cc_A, cc_N, Nat.reduceAdd, Nat.reduceLT, Nat.reduceLeDiff, Nat.reduceEqDiff, not_true, not_false_iff, z1_0, z1_1, Bool.and_self, Bool.true_and, Bool.and_true, nI_add, pk_mul, nI_clamp, decide_true, Nat.le_refl, bI_eq, bI_z1, mS_419, mS_416, mS_417, mS_46, mS_388, mS_o, mS_u419, mS_u416, mS_u417, mS_u46, mS_u388, mS_uo, h18, h398, upd_at, upd_ne, upd_01, upd_11, nI_leI]
        try simp only [nI_o, nI_z] at *
        refine q_mS ?_ (hq _ _ _)
        funext j
        unfold minR minT upd
        try dsimp only
        by_cases j40 : j = 40
        · subst j40; simp [hz0]
        · by_cases j41 : j = 41
          · subst j41; simp
          · by_cases j42 : j = 42
            · subst j42; simp
            · simp [j40, j41, j42]
      · rename_i hz
        have hz0 : 0 < (mix n (g2 (fun p => v 402 (8 * lv + p)) (mix n (g1 (v 397 lv) by_ (fun p => v 400 (8 * lv + p)) f) f (v 388 49))) (mix n (g1 (v 397 lv) by_ (fun p => v 400 (8 * lv + p)) f) f (v 388 49)) (v 388 49)) 40 := Int32.not_le.mp hz
        refine go_at (blk := b_Model_minuteGoes_217) rfl ?_
        simp (disch := omega) only [b_Model_minuteGoes_217, be_6, be_34, be_1, be_32, be_38, be_13, be_43, be_0, kc_388, rf_388_48, ka_419, List.getD_cons_zero, List.getD_cons_succ, List.set_cons_zero, List.set_cons_succ, List.length_cons, List.length_nil, pk_I, pk_A, pr_A, pi_I, st_s, st_n, if_true, if_false, eq_self, d_if, d_ju, d_re, d_ca, cat0, cat1, cat2, cat3, fr_z, fr_s, cc_I, cc_A, cc_N, Nat.reduceAdd, Nat.reduceLT, Nat.reduceLeDiff, Nat.reduceEqDiff, not_true, not_false_iff, z1_0, z1_1, Bool.and_self, Bool.true_and, Bool.and_true, nI_add, pk_mul, nI_clamp, decide_true, Nat.le_refl, bI_eq, bI_z1, mS_419, mS_416, mS_417, mS_46, mS_388, mS_o, mS_u419, mS_u416, mS_u417, mS_u46, mS_u388, mS_uo, h18, h398, upd_at, upd_ne, upd_01, upd_11, nI_leI]
        refine go_at (blk := b_Model_minuteGoes_228) rfl ?_
        simp (disch := omega) only [b_Model_minuteGoes_228, be_6, be_34, be_1, be_32, be_38, be_12, be_43, be_4, be_56, kc_388, rf_388_48, ka_419, List.getD_cons_zero, List.getD_cons_succ, List.set_cons_zero, List.set_cons_succ, List.length_cons, List.length_nil, pk_I, pk_A, pr_A, pi_I, st_s, st_n, if_true, if_false, eq_self, d_if, d_ju, d_re, d_ca, cat0, cat1, cat2, cat3, fr_z, fr_s, cc_I, cc_A, cc_N, Nat.reduceAdd, Nat.reduceLT, Nat.reduceLeDiff, Nat.reduceEqDiff, not_true, not_false_iff, z1_0, z1_1, Bool.and_self, Bool.true_and, Bool.and_true, nI_add, pk_mul, nI_clamp, decide_true, Nat.le_refl, bI_eq, bI_z1, mS_419, mS_416, mS_417, mS_46, mS_388, mS_o, mS_u419, mS_u416, mS_u417, mS_u46, mS_u388, mS_uo, h18, h398, upd_at, upd_ne, upd_01, upd_11, nI_leI]
        try simp only [nI_o, nI_z] at *
        refine q_mS ?_ (hq _ _ _)
        funext j
        unfold minR minT upd
        try dsimp only
        by_cases j40 : j = 40
        · subst j40; simp [hz0]
        · by_cases j41 : j = 41
          · subst j41; simp
          · by_cases j42 : j = 42
            · subst j42; simp
            · simp [j40, j41, j42]
