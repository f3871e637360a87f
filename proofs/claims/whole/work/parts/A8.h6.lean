/-! laid by wip/whole/h6.py: the law: its loop -/
theorem sw_law : ∀ k, k < 64 → am_swt 0 1233 [196, 259, 282, 295, 308, 341, 354, 377, 400, 423, 446, 469, 482, 505, 518, 551, 574, 617, 650, 683, 726, 759, 782, 805, 838, 881, 904, 953, 976, 1019, 1052, 1095, 1108, 1141, 1164, 1187, 1210] (nI k) = (if k < 37 then [196, 259, 282, 295, 308, 341, 354, 377, 400, 423, 446, 469, 482, 505, 518, 551, 574, 617, 650, 683, 726, 759, 782, 805, 838, 881, 904, 953, 976, 1019, 1052, 1095, 1108, 1141, 1164, 1187, 1210].getD k 1233 else 1233) := by decide +kernel
theorem and63 (x : Int32) : ∃ k, k < 64 ∧ x &&& nI 63 = nI k := by
  refine ⟨(x.toBitVec &&& 63#32).toNat, ?_, ?_⟩
  · rw [BitVec.toNat_and]
    have := @Nat.and_le_right x.toBitVec.toNat (63#32).toNat
    have h63 : (63#32).toNat = 63 := rfl
    omega
  · apply Int32.toBitVec_inj.mp
    show x.toBitVec &&& 63#32 = BitVec.ofNat 32 (x.toBitVec &&& 63#32).toNat
    rw [BitVec.ofNat_toNat, BitVec.setWidth_eq]
theorem lt6 : ∀ n, n < 6 → nI n - nI 6 < nI 0 := by decide
theorem law_end {n : Nat} (hn : n ≤ 3072) : nI n - nI 6 < nI (6 * (n / 6)) := by
  by_cases h : n < 6
  · rw [show 6 * (n / 6) = 0 by omega]
    exact lt6 n h
  · rw [pk_sub (by omega), nI_ltI (by omega) (by omega)]
    omega
set_option maxHeartbeats 4000000 in
theorem law_loop {d : Nat} {X : am_X} {u : UInt32} {v : Nat → Nat → Int32} {w : Nat → Nat → Int64} {Q : Option Value → am_H → Prop} (hX : X.1 ≤ 3072) (hL : LI 0 v w) (hQ : ∀ v' w', Q (some (.int (nI 1))) (428, 26053, KD, RF, v', w')) : am_Go X (d + 29) k_law 18 ([.float u, .ref 0, .ref 388, .int (nI 0)], [], (428, 26053, KD, RF, v, w)) Q := by
  refine go_loopA (α := ((Nat → Nat → Int32) × (Nat → Nat → Int64))) (fun j x => ([.float u, .ref 0, .ref 388, .int (nI (6 * j))], [], (428, 26053, KD, RF, x.1, x.2))) (fun j x => LI ((300 * j : Nat) : Int) x.1 x.2) (X.1 / 6) ?_ ?_ (v, w) hL
  · intro j x hj0 i1 ih
    try dsimp only at *
    have hj : 6 * j + 6 ≤ X.1 := by omega
    have esub : nI X.1 - nI 6 = nI (X.1 - 6) := pk_sub (by omega)
    have hlt : ¬ X.1 - 6 < 6 * j := by omega
    have hB : ((300 * j : Nat) : Int) + 300 ≤ 200000 := by omega
    have hn : ∀ v' w', LI (((300 * j : Nat) : Int) + 300) v' w' → am_Go X (d + 29) k_law 1233 ([.float u, .ref 0, .ref 388, .int (nI (6 * j))], [], (428, 26053, KD, RF, v', w')) Q := by
      intro v' w' hl'
      refine go_at (blk := b_law_1233) rfl ?_
      simp (disch := omega) only [b_law_1233, be_10, be_51, List.getD_cons_zero, List.getD_cons_succ, List.set_cons_zero, List.set_cons_succ, List.length_cons, List.length_nil, pk_I, pk_A, pr_A, pi_I, st_s, st_n, if_true, if_false, eq_self, d_if, d_ju, d_re, d_ca, cat0, cat1, cat2, cat3, fr_z, fr_s, cc_I, cc_A, cc_N, Nat.reduceAdd, Nat.reduceLT, Nat.reduceLeDiff, Nat.reduceEqDiff, not_true, not_false_iff, z1_0, z1_1, Bool.and_self, Bool.true_and, Bool.and_true, nI_add, pk_mul, nI_clamp, decide_true, Nat.le_refl, bI_eq, bI_z1, in_nI, pk_F, nI_ltI, nI_leI]
      rw [show 6 * j + 6 = 6 * (j + 1) by omega]
      exact ih (v', w') (by rw [show ((300 * (j + 1) : Nat) : Int) = ((300 * j : Nat) : Int) + 300 by omega]; exact hl')
    refine go_at (blk := b_law_18) rfl ?_
    simp (disch := omega) only [b_law_18, be_4, be_6, be_72, be_1, be_13, be_49_4, List.getD_cons_zero, List.getD_cons_succ, List.set_cons_zero, List.set_cons_succ, List.length_cons, List.length_nil, pk_I, pk_A, pr_A, pi_I, st_s, st_n, if_true, if_false, eq_self, d_if, d_ju, d_re, d_ca, cat0, cat1, cat2, cat3, fr_z, fr_s, cc_I, cc_A, cc_N, Nat.reduceAdd, Nat.reduceLT, Nat.reduceLeDiff, Nat.reduceEqDiff, not_true, not_false_iff, z1_0, z1_1, Bool.and_self, Bool.true_and, Bool.and_true, nI_add, pk_mul, nI_clamp, decide_true, Nat.le_refl, bI_eq, bI_z1, in_nI, pk_F, nI_ltI, nI_leI, esub, hlt]
    obtain ⟨k, hk, hand⟩ := and63 (X.2 (6 * j))
    have hsw := sw_law k hk
    refine go_at (blk := b_law_27) rfl ?_
    simp (disch := omega) only [b_law_27, be_6, be_4, be_71, be_1, be_18, be_52, List.getD_cons_zero, List.getD_cons_succ, List.set_cons_zero, List.set_cons_succ, List.length_cons, List.length_nil, pk_I, pk_A, pr_A, pi_I, st_s, st_n, if_true, if_false, eq_self, d_if, d_ju, d_re, d_ca, cat0, cat1, cat2, cat3, fr_z, fr_s, cc_I, cc_A, cc_N, Nat.reduceAdd, Nat.reduceLT, Nat.reduceLeDiff, Nat.reduceEqDiff, not_true, not_false_iff, z1_0, z1_1, Bool.and_self, Bool.true_and, Bool.and_true, nI_add, pk_mul, nI_clamp, decide_true, Nat.le_refl, bI_eq, bI_z1, in_nI, pk_F, nI_ltI, nI_leI, hand, hsw]
    by_cases h0 : k = 0
    · subst h0
      exact s_feed (i := 6 * j) hX (by omega) i1 hB hn
    by_cases h1 : k = 1
    · subst h1
      exact s_back (i := 6 * j) hX (by omega) i1 hB hn
    by_cases h2 : k = 2
    · subst h2
      exact s_read (i := 6 * j) hX (by omega) i1 hB hn
    by_cases h3 : k = 3
    · subst h3
      exact s_place (i := 6 * j) hX (by omega) i1 hB hn
    by_cases h4 : k = 4
    · subst h4
      exact s_pilgrim (i := 6 * j) hX (by omega) i1 hB hn
    by_cases h5 : k = 5
    · subst h5
      exact s_moves (i := 6 * j) hX (by omega) i1 hB hn
    by_cases h6 : k = 6
    · subst h6
      exact s_kneel (i := 6 * j) hX (by omega) i1 hB hn
    by_cases h7 : k = 7
    · subst h7
      exact s_rise (i := 6 * j) hX (by omega) i1 hB hn
    by_cases h8 : k = 8
    · subst h8
      exact s_board (i := 6 * j) hX (by omega) i1 hB hn
    by_cases h9 : k = 9
    · subst h9
      exact s_oil (i := 6 * j) hX (by omega) i1 hB hn
    by_cases h10 : k = 10
    · subst h10
      exact s_run (i := 6 * j) hX (by omega) i1 hB hn
    by_cases h11 : k = 11
    · subst h11
      exact s_undo (i := 6 * j) hX (by omega) i1 hB hn
    by_cases h12 : k = 12
    · subst h12
      exact s_arrives (i := 6 * j) hX (by omega) i1 hB hn
    by_cases h13 : k = 13
    · subst h13
      exact s_still (i := 6 * j) hX (by omega) i1 hB hn
    by_cases h14 : k = 14
    · subst h14
      exact s_highest (i := 6 * j) hX (by omega) i1 hB hn
    by_cases h15 : k = 15
    · subst h15
      exact s_first (i := 6 * j) hX (by omega) i1 hB hn
    by_cases h16 : k = 16
    · subst h16
      exact s_means (i := 6 * j) hX (by omega) i1 hB hn
    by_cases h17 : k = 17
    · subst h17
      exact s_oiled (i := 6 * j) hX (by omega) i1 hB hn
    by_cases h18 : k = 18
    · subst h18
      exact s_doubted (i := 6 * j) hX (by omega) i1 hB hn
    by_cases h19 : k = 19
    · subst h19
      exact s_bestStart (i := 6 * j) hX (by omega) i1 hB hn
    by_cases h20 : k = 20
    · subst h20
      exact s_meet (i := 6 * j) hX (by omega) i1 hB hn
    by_cases h21 : k = 21
    · subst h21
      exact s_most (i := 6 * j) hX (by omega) i1 hB hn
    by_cases h22 : k = 22
    · subst h22
      exact s_lowest (i := 6 * j) hX (by omega) i1 hB hn
    by_cases h23 : k = 23
    · subst h23
      exact s_bestTwo (i := 6 * j) hX (by omega) i1 hB hn
    by_cases h24 : k = 24
    · subst h24
      exact s_exchange (i := 6 * j) hX (by omega) i1 hB hn
    by_cases h25 : k = 25
    · subst h25
      exact s_rank (i := 6 * j) hX (by omega) i1 hB hn
    by_cases h26 : k = 26
    · subst h26
      exact s_share (i := 6 * j) hX (by omega) i1 hB hn
    by_cases h27 : k = 27
    · subst h27
      exact s_there (i := 6 * j) hX (by omega) i1 hB hn
    by_cases h28 : k = 28
    · subst h28
      exact s_kneelers (i := 6 * j) hX (by omega) i1 hB hn
    by_cases h29 : k = 29
    · subst h29
      exact s_rests (i := 6 * j) hX (by omega) i1 hB hn
    by_cases h30 : k = 30
    · subst h30
      exact s_tell (i := 6 * j) hX (by omega) i1 hB hn
    by_cases h31 : k = 31
    · subst h31
      exact s_forget (i := 6 * j) hX (by omega) i1 hB hn
    by_cases h32 : k = 32
    · subst h32
      exact s_secret (i := 6 * j) hX (by omega) i1 hB hn
    by_cases h33 : k = 33
    · subst h33
      exact s_off (i := 6 * j) hX (by omega) i1 hB hn
    by_cases h34 : k = 34
    · subst h34
      exact s_hold (i := 6 * j) hX (by omega) i1 hB hn
    by_cases h35 : k = 35
    · subst h35
      exact s_restore (i := 6 * j) hX (by omega) i1 hB hn
    by_cases h36 : k = 36
    · subst h36
      exact s_count (i := 6 * j) hX (by omega) i1 hB hn
    rw [if_neg (by omega)]
    exact hn x.1 x.2 (LI_le i1 (by omega) hB)
  · intro x i1
    try dsimp only at *
    have hend := law_end hX
    refine go_at (blk := b_law_18) rfl ?_
    simp (disch := omega) only [b_law_18, be_4, be_6, be_72, be_1, be_13, be_49_4, List.getD_cons_zero, List.getD_cons_succ, List.set_cons_zero, List.set_cons_succ, List.length_cons, List.length_nil, pk_I, pk_A, pr_A, pi_I, st_s, st_n, if_true, if_false, eq_self, d_if, d_ju, d_re, d_ca, cat0, cat1, cat2, cat3, fr_z, fr_s, cc_I, cc_A, cc_N, Nat.reduceAdd, Nat.reduceLT, Nat.reduceLeDiff, Nat.reduceEqDiff, not_true, not_false_iff, z1_0, z1_1, Bool.and_self, Bool.true_and, Bool.and_true, nI_add, pk_mul, nI_clamp, decide_true, Nat.le_refl, bI_eq, bI_z1, in_nI, pk_F, nI_ltI, nI_leI, hend]
    refine go_at (blk := b_law_1239) rfl ?_
    simp (disch := omega) only [b_law_1239, be_1, be_73, List.getD_cons_zero, List.getD_cons_succ, List.set_cons_zero, List.set_cons_succ, List.length_cons, List.length_nil, pk_I, pk_A, pr_A, pi_I, st_s, st_n, if_true, if_false, eq_self, d_if, d_ju, d_re, d_ca, cat0, cat1, cat2, cat3, fr_z, fr_s, cc_I, cc_A, cc_N, Nat.reduceAdd, Nat.reduceLT, Nat.reduceLeDiff, Nat.reduceEqDiff, not_true, not_false_iff, z1_0, z1_1, Bool.and_self, Bool.true_and, Bool.and_true, nI_add, pk_mul, nI_clamp, decide_true, Nat.le_refl, bI_eq, bI_z1, in_nI, pk_F, nI_ltI, nI_leI, hend]
    exact hQ _ _
