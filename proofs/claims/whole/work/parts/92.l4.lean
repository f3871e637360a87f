/-! laid by wip/whole/l4.py: the class: scan -/
def okK (k : Nat) : Bool := decide (k ≤ 10) || decide (k = 13) || decide (k = 15) || (decide (20 ≤ k) && decide (k ≤ 36))
theorem ck_inj : ∀ k, k < 37 → okK k = true → ∀ j, j < 37 → okK j = true → cK k = cK j → k = j := by decide +kernel
theorem kl_r {N : Nat} : ∀ j, klp N j = 1 ∨ (20 ≤ klp N j ∧ klp N j < 20 + j) := by
  intro j
  induction j with
  | zero => exact Or.inl rfl
  | succ j ih =>
    show (if keyN j = N then 20 + j else klp N j) = 1 ∨ (20 ≤ (if keyN j = N then 20 + j else klp N j) ∧ (if keyN j = N then 20 + j else klp N j) < 20 + (j + 1))
    split
    · omega
    · omega
theorem sg_r {x : Int32} : 3 ≤ sgK x ∧ (sgK x ≤ 10 ∨ sgK x = 13 ∨ sgK x = 15) := by
  unfold sgK
  repeat' split
  all_goals decide
theorem tk_ok {b : Nat → Int32} {len i : Nat} : tkK b len i < 37 ∧ okK (tkK b len i) = true := by
  have key : ∀ k, (k ≤ 10 ∨ k = 13 ∨ k = 15 ∨ (20 ≤ k ∧ k ≤ 36)) → k < 37 ∧ okK k = true := by
    intro k h
    refine ⟨by omega, ?_⟩
    unfold okK
    simp
    omega
  apply key
  unfold tkK
  split
  · omega
  · split
    · split
      · omega
      · have := kl_r (N := vlN b i (rl leB b len i)) 17
        unfold wkN
        omega
    · split
      · split <;> omega
      · have := sg_r (x := b i)
        omega
theorem tk_e {b : Nat → Int32} {len i : Nat} (h : len ≤ i) : tkK b len i = 0 := if_pos h
theorem tk_le {b : Nat → Int32} {len i : Nat} (h : i < len) (hp : leB (b i) = true) : tkK b len i = (if 8 < rl leB b len i then 3 else wkN (vlN b i (rl leB b len i))) ∧ tkX b len i = i + rl leB b len i := by
  unfold tkK tkX
  rw [if_neg (by omega), if_pos hp, if_pos hp]
  exact ⟨rfl, rfl⟩
theorem tk_di {b : Nat → Int32} {len i : Nat} (h : i < len) (hq : leB (b i) = false) (hp : diB (b i) = true) : tkK b len i = (if 4 < rl diB b len i then 3 else 2) ∧ tkX b len i = i + rl diB b len i := by
  unfold tkK tkX
  have hq' : ¬ leB (b i) = true := by rw [hq]; decide
  rw [if_neg (by omega), if_neg hq', if_neg hq', if_pos hp, if_pos hp]
  exact ⟨rfl, rfl⟩
theorem tk_sg {b : Nat → Int32} {len i : Nat} (h : i < len) (hq : leB (b i) = false) (hp : diB (b i) = false) : tkK b len i = sgK (b i) ∧ tkX b len i = i + 1 := by
  unfold tkK tkX
  have hq' : ¬ leB (b i) = true := by rw [hq]; decide
  have hp' : ¬ diB (b i) = true := by rw [hp]; decide
  rw [if_neg (by omega), if_neg hq', if_neg hq', if_neg hp', if_neg hp']
  exact ⟨rfl, rfl⟩
theorem tk_n0 {b : Nat → Int32} {len i : Nat} (h : i < len) : tkK b len i ≠ 0 := by
  cases hl : leB (b i) with
  | true =>
    rw [(tk_le h hl).1]
    have := kl_r (N := vlN b i (rl leB b len i)) 17
    unfold wkN
    split <;> omega
  | false =>
    cases hd : diB (b i) with
    | true =>
      rw [(tk_di h hl hd).1]
      split <;> omega
    | false =>
      rw [(tk_sg h hl hd).1]
      have := sg_r (x := b i)
      omega
theorem sg_all : ∀ n, n < 256 → (nI n - nI 128 ≤ 0 → cK (sgK (nI n - nI 128)) = 303) ∧ (¬ nI n - nI 128 ≤ 0 → am_ix (((nI n - nI 128).toUInt32 % 65536).toInt32) (am_tx 0) 0 < 0 → cK (sgK (nI n - nI 128)) = 303) ∧ (¬ nI n - nI 128 ≤ 0 → ¬ am_ix (((nI n - nI 128).toUInt32 % 65536).toInt32) (am_tx 0) 0 < 0 → nI n - nI 128 = nI (cK (sgK (nI n - nI 128)))) := by decide +kernel
set_option maxHeartbeats 1000000 in
theorem k_token {d : Nat} {v : Nat → Nat → Int32} {w : Nat → Nat → Int64} {Q : Option Value → am_H → Prop} {b : Nat → Int32} {len i t : Nat} (hb : v 1 = b) (hy : BY b len) (hl : len ≤ 2000) (hi : i < len) (ht : t ≤ 400) (hQ : ∀ w', WF w w' t → (tkK b len i = 1 → w' 23 t = lN (tkN b len i)) → (tkK b len i = 2 → w' 23 t = lN (tkV b len i)) → Q (some (.int (nI (tkX b len i)))) (428, 26053, KD, RF, am_u v 21 t (nI (cK (tkK b len i))), w')) : am_Ca (d + 4) M_Tokens_scanToken [.ref 20, .int (nI t), .ref 1, .int (nI i), .int (nI len)] (428, 26053, KD, RF, v, w) Q := by
  refine ca_in (k := k_Tokens_scanToken) (nL := 7) rfl (Nat.le_of_ble_eq_true rfl) ?_
  show am_Go am_X0 _ k_Tokens_scanToken 0 ([.ref 20, .int (nI t), .ref 1, .int (nI i), .int (nI len), .null, .null], [], _) _
  refine go_at (blk := b_Tokens_scanToken_0) rfl ?_
  simp (disch := omega) only [b_Tokens_scanToken_0, be_6, be_4, be_39, be_7, be_58_1, ka_1, List.getD_cons_zero, List.getD_cons_succ, List.set_cons_zero, List.set_cons_succ, List.length_cons, List.length_nil, pk_I, pk_A, pr_A, pi_I, st_s, st_n, if_true, if_false, eq_self, d_if, d_ju, d_re, d_ca, cat0, cat1, cat2, cat3, fr_z, fr_s, cc_I, cc_A, cc_N, Nat.reduceAdd, Nat.reduceLT, Nat.reduceLeDiff, Nat.reduceEqDiff, not_true, not_false_iff, z1_0, z1_1, Bool.and_self, Bool.true_and, Bool.and_true, nI_add, pk_mul, nI_clamp, decide_true, Nat.le_refl, bI_eq, bI_z1, nI_ltI, nI_leI, pk_L, cc_L, hb, nI_z, z_10]
  refine k_isLetter ?_
  refine go_at (blk := b_Tokens_scanToken_10) rfl ?_
  simp (disch := omega) only [b_Tokens_scanToken_10, be_50_0, List.getD_cons_zero, List.getD_cons_succ, List.set_cons_zero, List.set_cons_succ, List.length_cons, List.length_nil, pk_I, pk_A, pr_A, pi_I, st_s, st_n, if_true, if_false, eq_self, d_if, d_ju, d_re, d_ca, cat0, cat1, cat2, cat3, fr_z, fr_s, cc_I, cc_A, cc_N, Nat.reduceAdd, Nat.reduceLT, Nat.reduceLeDiff, Nat.reduceEqDiff, not_true, not_false_iff, z1_0, z1_1, Bool.and_self, Bool.true_and, Bool.and_true, nI_add, pk_mul, nI_clamp, decide_true, Nat.le_refl, bI_eq, bI_z1, nI_ltI, nI_leI, pk_L, cc_L, hb, nI_z, z_10]
  split
  · rename_i h1
    have h1 : leB (b i) = false := by simpa using h1
    refine go_at (blk := b_Tokens_scanToken_23) rfl ?_
    simp (disch := omega) only [b_Tokens_scanToken_23, be_4, be_58_1, List.getD_cons_zero, List.getD_cons_succ, List.set_cons_zero, List.set_cons_succ, List.length_cons, List.length_nil, pk_I, pk_A, pr_A, pi_I, st_s, st_n, if_true, if_false, eq_self, d_if, d_ju, d_re, d_ca, cat0, cat1, cat2, cat3, fr_z, fr_s, cc_I, cc_A, cc_N, Nat.reduceAdd, Nat.reduceLT, Nat.reduceLeDiff, Nat.reduceEqDiff, not_true, not_false_iff, z1_0, z1_1, Bool.and_self, Bool.true_and, Bool.and_true, nI_add, pk_mul, nI_clamp, decide_true, Nat.le_refl, bI_eq, bI_z1, nI_ltI, nI_leI, pk_L, cc_L, hb, nI_z, z_10]
    refine k_isDigit ?_
    refine go_at (blk := b_Tokens_scanToken_28) rfl ?_
    simp (disch := omega) only [b_Tokens_scanToken_28, be_50_0, List.getD_cons_zero, List.getD_cons_succ, List.set_cons_zero, List.set_cons_succ, List.length_cons, List.length_nil, pk_I, pk_A, pr_A, pi_I, st_s, st_n, if_true, if_false, eq_self, d_if, d_ju, d_re, d_ca, cat0, cat1, cat2, cat3, fr_z, fr_s, cc_I, cc_A, cc_N, Nat.reduceAdd, Nat.reduceLT, Nat.reduceLeDiff, Nat.reduceEqDiff, not_true, not_false_iff, z1_0, z1_1, Bool.and_self, Bool.true_and, Bool.and_true, nI_add, pk_mul, nI_clamp, decide_true, Nat.le_refl, bI_eq, bI_z1, nI_ltI, nI_leI, pk_L, cc_L, hb, nI_z, z_10]
    split
    · rename_i h2
      have h2 : diB (b i) = false := by simpa using h2
      obtain ⟨s1, s2⟩ := tk_sg hi h1 h2
      have s3 := sg_r (x := b i)
      obtain ⟨n, hn, en⟩ := by_n (hy i hi)
      obtain ⟨a1, a2, a3⟩ := sg_all n hn
      rw [← en] at a1 a2 a3
      refine go_at (blk := b_Tokens_scanToken_41) rfl ?_
      simp (disch := omega) only [b_Tokens_scanToken_41, be_4, be_50_5, List.getD_cons_zero, List.getD_cons_succ, List.set_cons_zero, List.set_cons_succ, List.length_cons, List.length_nil, pk_I, pk_A, pr_A, pi_I, st_s, st_n, if_true, if_false, eq_self, d_if, d_ju, d_re, d_ca, cat0, cat1, cat2, cat3, fr_z, fr_s, cc_I, cc_A, cc_N, Nat.reduceAdd, Nat.reduceLT, Nat.reduceLeDiff, Nat.reduceEqDiff, not_true, not_false_iff, z1_0, z1_1, Bool.and_self, Bool.true_and, Bool.and_true, nI_add, pk_mul, nI_clamp, decide_true, Nat.le_refl, bI_eq, bI_z1, nI_ltI, nI_leI, pk_L, cc_L, hb, nI_z, z_10]
      split
      · rename_i h3
        refine go_at (blk := b_Tokens_scanToken_61) rfl ?_
        simp (disch := omega) only [b_Tokens_scanToken_61, be_1, be_0, List.getD_cons_zero, List.getD_cons_succ, List.set_cons_zero, List.set_cons_succ, List.length_cons, List.length_nil, pk_I, pk_A, pr_A, pi_I, st_s, st_n, if_true, if_false, eq_self, d_if, d_ju, d_re, d_ca, cat0, cat1, cat2, cat3, fr_z, fr_s, cc_I, cc_A, cc_N, Nat.reduceAdd, Nat.reduceLT, Nat.reduceLeDiff, Nat.reduceEqDiff, not_true, not_false_iff, z1_0, z1_1, Bool.and_self, Bool.true_and, Bool.and_true, nI_add, pk_mul, nI_clamp, decide_true, Nat.le_refl, bI_eq, bI_z1, nI_ltI, nI_leI, pk_L, cc_L, hb, nI_z, z_10]
        refine go_at (blk := b_Tokens_scanToken_62) rfl ?_
        simp (disch := omega) only [b_Tokens_scanToken_62, be_7, be_6, be_34, be_4, be_50_0, kc_20, rf_20_0, List.getD_cons_zero, List.getD_cons_succ, List.set_cons_zero, List.set_cons_succ, List.length_cons, List.length_nil, pk_I, pk_A, pr_A, pi_I, st_s, st_n, if_true, if_false, eq_self, d_if, d_ju, d_re, d_ca, cat0, cat1, cat2, cat3, fr_z, fr_s, cc_I, cc_A, cc_N, Nat.reduceAdd, Nat.reduceLT, Nat.reduceLeDiff, Nat.reduceEqDiff, not_true, not_false_iff, z1_0, z1_1, Bool.and_self, Bool.true_and, Bool.and_true, nI_add, pk_mul, nI_clamp, decide_true, Nat.le_refl, bI_eq, bI_z1, nI_ltI, nI_leI, pk_L, cc_L, hb, nI_z, z_10]
        refine go_at (blk := b_Tokens_scanToken_79) rfl ?_
        simp (disch := omega) only [b_Tokens_scanToken_79, be_1, be_0, List.getD_cons_zero, List.getD_cons_succ, List.set_cons_zero, List.set_cons_succ, List.length_cons, List.length_nil, pk_I, pk_A, pr_A, pi_I, st_s, st_n, if_true, if_false, eq_self, d_if, d_ju, d_re, d_ca, cat0, cat1, cat2, cat3, fr_z, fr_s, cc_I, cc_A, cc_N, Nat.reduceAdd, Nat.reduceLT, Nat.reduceLeDiff, Nat.reduceEqDiff, not_true, not_false_iff, z1_0, z1_1, Bool.and_self, Bool.true_and, Bool.and_true, nI_add, pk_mul, nI_clamp, decide_true, Nat.le_refl, bI_eq, bI_z1, nI_ltI, nI_leI, pk_L, cc_L, hb, nI_z, z_10]
        refine go_at (blk := b_Tokens_scanToken_82) rfl ?_
        simp (disch := omega) only [b_Tokens_scanToken_82, be_43, be_4, be_1, be_12, be_54, ka_21, List.getD_cons_zero, List.getD_cons_succ, List.set_cons_zero, List.set_cons_succ, List.length_cons, List.length_nil, pk_I, pk_A, pr_A, pi_I, st_s, st_n, if_true, if_false, eq_self, d_if, d_ju, d_re, d_ca, cat0, cat1, cat2, cat3, fr_z, fr_s, cc_I, cc_A, cc_N, Nat.reduceAdd, Nat.reduceLT, Nat.reduceLeDiff, Nat.reduceEqDiff, not_true, not_false_iff, z1_0, z1_1, Bool.and_self, Bool.true_and, Bool.and_true, nI_add, pk_mul, nI_clamp, decide_true, Nat.le_refl, bI_eq, bI_z1, nI_ltI, nI_leI, pk_L, cc_L, hb, nI_z, z_10]
        rw [s1, s2, a1 h3] at hQ
        exact hQ w WF_r (fun z => absurd z (by omega)) (fun z => absurd z (by omega))
      · rename_i h3
        refine go_at (blk := b_Tokens_scanToken_46) rfl ?_
        simp (disch := omega) only [b_Tokens_scanToken_46, be_67, be_4, be_29, be_70, be_50_2, List.getD_cons_zero, List.getD_cons_succ, List.set_cons_zero, List.set_cons_succ, List.length_cons, List.length_nil, pk_I, pk_A, pr_A, pi_I, st_s, st_n, if_true, if_false, eq_self, d_if, d_ju, d_re, d_ca, cat0, cat1, cat2, cat3, fr_z, fr_s, cc_I, cc_A, cc_N, Nat.reduceAdd, Nat.reduceLT, Nat.reduceLeDiff, Nat.reduceEqDiff, not_true, not_false_iff, z1_0, z1_1, Bool.and_self, Bool.true_and, Bool.and_true, nI_add, pk_mul, nI_clamp, decide_true, Nat.le_refl, bI_eq, bI_z1, nI_ltI, nI_leI, pk_L, cc_L, hb, nI_z, z_10]
        split
        · rename_i h4
          refine go_at (blk := b_Tokens_scanToken_61) rfl ?_
          simp (disch := omega) only [b_Tokens_scanToken_61, be_1, be_0, List.getD_cons_zero, List.getD_cons_succ, List.set_cons_zero, List.set_cons_succ, List.length_cons, List.length_nil, pk_I, pk_A, pr_A, pi_I, st_s, st_n, if_true, if_false, eq_self, d_if, d_ju, d_re, d_ca, cat0, cat1, cat2, cat3, fr_z, fr_s, cc_I, cc_A, cc_N, Nat.reduceAdd, Nat.reduceLT, Nat.reduceLeDiff, Nat.reduceEqDiff, not_true, not_false_iff, z1_0, z1_1, Bool.and_self, Bool.true_and, Bool.and_true, nI_add, pk_mul, nI_clamp, decide_true, Nat.le_refl, bI_eq, bI_z1, nI_ltI, nI_leI, pk_L, cc_L, hb, nI_z, z_10]
          refine go_at (blk := b_Tokens_scanToken_62) rfl ?_
          simp (disch := omega) only [b_Tokens_scanToken_62, be_7, be_6, be_34, be_4, be_50_0, kc_20, rf_20_0, List.getD_cons_zero, List.getD_cons_succ, List.set_cons_zero, List.set_cons_succ, List.length_cons, List.length_nil, pk_I, pk_A, pr_A, pi_I, st_s, st_n, if_true, if_false, eq_self, d_if, d_ju, d_re, d_ca, cat0, cat1, cat2, cat3, fr_z, fr_s, cc_I, cc_A, cc_N, Nat.reduceAdd, Nat.reduceLT, Nat.reduceLeDiff, Nat.reduceEqDiff, not_true, not_false_iff, z1_0, z1_1, Bool.and_self, Bool.true_and, Bool.and_true, nI_add, pk_mul, nI_clamp, decide_true, Nat.le_refl, bI_eq, bI_z1, nI_ltI, nI_leI, pk_L, cc_L, hb, nI_z, z_10]
          refine go_at (blk := b_Tokens_scanToken_79) rfl ?_
          simp (disch := omega) only [b_Tokens_scanToken_79, be_1, be_0, List.getD_cons_zero, List.getD_cons_succ, List.set_cons_zero, List.set_cons_succ, List.length_cons, List.length_nil, pk_I, pk_A, pr_A, pi_I, st_s, st_n, if_true, if_false, eq_self, d_if, d_ju, d_re, d_ca, cat0, cat1, cat2, cat3, fr_z, fr_s, cc_I, cc_A, cc_N, Nat.reduceAdd, Nat.reduceLT, Nat.reduceLeDiff, Nat.reduceEqDiff, not_true, not_false_iff, z1_0, z1_1, Bool.and_self, Bool.true_and, Bool.and_true, nI_add, pk_mul, nI_clamp, decide_true, Nat.le_refl, bI_eq, bI_z1, nI_ltI, nI_leI, pk_L, cc_L, hb, nI_z, z_10]
          refine go_at (blk := b_Tokens_scanToken_82) rfl ?_
          simp (disch := omega) only [b_Tokens_scanToken_82, be_43, be_4, be_1, be_12, be_54, ka_21, List.getD_cons_zero, List.getD_cons_succ, List.set_cons_zero, List.set_cons_succ, List.length_cons, List.length_nil, pk_I, pk_A, pr_A, pi_I, st_s, st_n, if_true, if_false, eq_self, d_if, d_ju, d_re, d_ca, cat0, cat1, cat2, cat3, fr_z, fr_s, cc_I, cc_A, cc_N, Nat.reduceAdd, Nat.reduceLT, Nat.reduceLeDiff, Nat.reduceEqDiff, not_true, not_false_iff, z1_0, z1_1, Bool.and_self, Bool.true_and, Bool.and_true, nI_add, pk_mul, nI_clamp, decide_true, Nat.le_refl, bI_eq, bI_z1, nI_ltI, nI_leI, pk_L, cc_L, hb, nI_z, z_10]
          rw [s1, s2, a2 h3 h4] at hQ
          exact hQ w WF_r (fun z => absurd z (by omega)) (fun z => absurd z (by omega))
        · rename_i h4
          refine go_at (blk := b_Tokens_scanToken_57) rfl ?_
          simp (disch := omega) only [b_Tokens_scanToken_57, be_1, be_51, List.getD_cons_zero, List.getD_cons_succ, List.set_cons_zero, List.set_cons_succ, List.length_cons, List.length_nil, pk_I, pk_A, pr_A, pi_I, st_s, st_n, if_true, if_false, eq_self, d_if, d_ju, d_re, d_ca, cat0, cat1, cat2, cat3, fr_z, fr_s, cc_I, cc_A, cc_N, Nat.reduceAdd, Nat.reduceLT, Nat.reduceLeDiff, Nat.reduceEqDiff, not_true, not_false_iff, z1_0, z1_1, Bool.and_self, Bool.true_and, Bool.and_true, nI_add, pk_mul, nI_clamp, decide_true, Nat.le_refl, bI_eq, bI_z1, nI_ltI, nI_leI, pk_L, cc_L, hb, nI_z, z_10]
          refine go_at (blk := b_Tokens_scanToken_62) rfl ?_
          simp (disch := omega) only [b_Tokens_scanToken_62, be_7, be_6, be_34, be_4, be_50_0, kc_20, rf_20_0, List.getD_cons_zero, List.getD_cons_succ, List.set_cons_zero, List.set_cons_succ, List.length_cons, List.length_nil, pk_I, pk_A, pr_A, pi_I, st_s, st_n, if_true, if_false, eq_self, d_if, d_ju, d_re, d_ca, cat0, cat1, cat2, cat3, fr_z, fr_s, cc_I, cc_A, cc_N, Nat.reduceAdd, Nat.reduceLT, Nat.reduceLeDiff, Nat.reduceEqDiff, not_true, not_false_iff, z1_0, z1_1, Bool.and_self, Bool.true_and, Bool.and_true, nI_add, pk_mul, nI_clamp, decide_true, Nat.le_refl, bI_eq, bI_z1, nI_ltI, nI_leI, pk_L, cc_L, hb, nI_z, z_10]
          refine go_at (blk := b_Tokens_scanToken_74) rfl ?_
          simp (disch := omega) only [b_Tokens_scanToken_74, be_4, be_51, List.getD_cons_zero, List.getD_cons_succ, List.set_cons_zero, List.set_cons_succ, List.length_cons, List.length_nil, pk_I, pk_A, pr_A, pi_I, st_s, st_n, if_true, if_false, eq_self, d_if, d_ju, d_re, d_ca, cat0, cat1, cat2, cat3, fr_z, fr_s, cc_I, cc_A, cc_N, Nat.reduceAdd, Nat.reduceLT, Nat.reduceLeDiff, Nat.reduceEqDiff, not_true, not_false_iff, z1_0, z1_1, Bool.and_self, Bool.true_and, Bool.and_true, nI_add, pk_mul, nI_clamp, decide_true, Nat.le_refl, bI_eq, bI_z1, nI_ltI, nI_leI, pk_L, cc_L, hb, nI_z, z_10]
          refine go_at (blk := b_Tokens_scanToken_82) rfl ?_
          simp (disch := omega) only [b_Tokens_scanToken_82, be_43, be_4, be_1, be_12, be_54, ka_21, List.getD_cons_zero, List.getD_cons_succ, List.set_cons_zero, List.set_cons_succ, List.length_cons, List.length_nil, pk_I, pk_A, pr_A, pi_I, st_s, st_n, if_true, if_false, eq_self, d_if, d_ju, d_re, d_ca, cat0, cat1, cat2, cat3, fr_z, fr_s, cc_I, cc_A, cc_N, Nat.reduceAdd, Nat.reduceLT, Nat.reduceLeDiff, Nat.reduceEqDiff, not_true, not_false_iff, z1_0, z1_1, Bool.and_self, Bool.true_and, Bool.and_true, nI_add, pk_mul, nI_clamp, decide_true, Nat.le_refl, bI_eq, bI_z1, nI_ltI, nI_leI, pk_L, cc_L, hb, nI_z, z_10]
          rw [s1, s2, ← a3 h3 h4] at hQ
          exact hQ w WF_r (fun z => absurd z (by omega)) (fun z => absurd z (by omega))
    · rename_i h2
      have h2 : diB (b i) = true := by simpa using h2
      obtain ⟨s1, s2⟩ := tk_di hi h1 h2
      refine go_at (blk := b_Tokens_scanToken_31) rfl ?_
      simp (disch := omega) only [b_Tokens_scanToken_31, be_6, be_4, be_57_4, kc_20, List.getD_cons_zero, List.getD_cons_succ, List.set_cons_zero, List.set_cons_succ, List.length_cons, List.length_nil, pk_I, pk_A, pr_A, pi_I, st_s, st_n, if_true, if_false, eq_self, d_if, d_ju, d_re, d_ca, cat0, cat1, cat2, cat3, fr_z, fr_s, cc_I, cc_A, cc_N, Nat.reduceAdd, Nat.reduceLT, Nat.reduceLeDiff, Nat.reduceEqDiff, not_true, not_false_iff, z1_0, z1_1, Bool.and_self, Bool.true_and, Bool.and_true, nI_add, pk_mul, nI_clamp, decide_true, Nat.le_refl, bI_eq, bI_z1, nI_ltI, nI_leI, pk_L, cc_L, hb, nI_z, z_10]
      refine k_digits hb hl hi ht ?_
      intro k w' e1 e2 e3
      refine go_at (blk := b_Tokens_scanToken_40) rfl ?_
      simp (disch := omega) only [b_Tokens_scanToken_40, be_54, List.getD_cons_zero, List.getD_cons_succ, List.set_cons_zero, List.set_cons_succ, List.length_cons, List.length_nil, pk_I, pk_A, pr_A, pi_I, st_s, st_n, if_true, if_false, eq_self, d_if, d_ju, d_re, d_ca, cat0, cat1, cat2, cat3, fr_z, fr_s, cc_I, cc_A, cc_N, Nat.reduceAdd, Nat.reduceLT, Nat.reduceLeDiff, Nat.reduceEqDiff, not_true, not_false_iff, z1_0, z1_1, Bool.and_self, Bool.true_and, Bool.and_true, nI_add, pk_mul, nI_clamp, decide_true, Nat.le_refl, bI_eq, bI_z1, nI_ltI, nI_leI, pk_L, cc_L, hb, nI_z, z_10]
      rw [e1]
      rw [s2] at hQ
      have ek : (if 4 < rl diB b len i then 303 else 301) = cK (tkK b len i) := by rw [s1]; split <;> rfl
      rw [ek]
      exact hQ w' e2 (fun z => by rw [s1] at z; split at z <;> omega) (fun _ => e3)
  · rename_i h1
    have h1 : leB (b i) = true := by simpa using h1
    obtain ⟨s1, s2⟩ := tk_le hi h1
    refine go_at (blk := b_Tokens_scanToken_13) rfl ?_
    simp (disch := omega) only [b_Tokens_scanToken_13, be_6, be_4, be_57_4, kc_20, List.getD_cons_zero, List.getD_cons_succ, List.set_cons_zero, List.set_cons_succ, List.length_cons, List.length_nil, pk_I, pk_A, pr_A, pi_I, st_s, st_n, if_true, if_false, eq_self, d_if, d_ju, d_re, d_ca, cat0, cat1, cat2, cat3, fr_z, fr_s, cc_I, cc_A, cc_N, Nat.reduceAdd, Nat.reduceLT, Nat.reduceLeDiff, Nat.reduceEqDiff, not_true, not_false_iff, z1_0, z1_1, Bool.and_self, Bool.true_and, Bool.and_true, nI_add, pk_mul, nI_clamp, decide_true, Nat.le_refl, bI_eq, bI_z1, nI_ltI, nI_leI, pk_L, cc_L, hb, nI_z, z_10]
    refine k_letters hb hl hi ht ?_
    intro k w' e1 e2 e3
    refine go_at (blk := b_Tokens_scanToken_22) rfl ?_
    simp (disch := omega) only [b_Tokens_scanToken_22, be_54, List.getD_cons_zero, List.getD_cons_succ, List.set_cons_zero, List.set_cons_succ, List.length_cons, List.length_nil, pk_I, pk_A, pr_A, pi_I, st_s, st_n, if_true, if_false, eq_self, d_if, d_ju, d_re, d_ca, cat0, cat1, cat2, cat3, fr_z, fr_s, cc_I, cc_A, cc_N, Nat.reduceAdd, Nat.reduceLT, Nat.reduceLeDiff, Nat.reduceEqDiff, not_true, not_false_iff, z1_0, z1_1, Bool.and_self, Bool.true_and, Bool.and_true, nI_add, pk_mul, nI_clamp, decide_true, Nat.le_refl, bI_eq, bI_z1, nI_ltI, nI_leI, pk_L, cc_L, hb, nI_z, z_10]
    rw [e1]
    rw [s2] at hQ
    have ek : (if 8 < rl leB b len i then 303 else cK (wkN (vlN b i (rl leB b len i)))) = cK (tkK b len i) := by rw [s1]; split <;> rfl
    rw [ek]
    exact hQ w' e2 (fun _ => e3) (fun z => by
      have := kl_r (N := vlN b i (rl leB b len i)) 17
      rw [s1] at z
      unfold wkN at z
      split at z <;> omega)
/-- the kind of the j-th TOKEN, and where it begins -/
def kkN (b : Nat → Int32) (len j : Nat) : Nat := tkK b len (tsN b len j)
def LX (b : Nat → Int32) (len L : Nat) : Prop := L ≤ 400 ∧ (∀ j, j < L → kkN b len j ≠ 0 ∧ kkN b len j ≠ 3) ∧ (L = 400 ∨ kkN b len L = 0 ∨ kkN b len L = 3)
def C1 (v : Nat → Nat → Int32) (w : Nat → Nat → Int64) (b : Nat → Int32) (len j : Nat) : Prop := v 21 j = nI (cK (kkN b len j)) ∧ v 22 j = nI (tsN b len j) ∧ (kkN b len j = 1 → w 23 j = lN (tkN b len (tsN b len j))) ∧ (kkN b len j = 2 → w 23 j = lN (tkV b len (tsN b len j)))
theorem lN_0 : (0 : Int64) = lN 0 := rfl
theorem ck_lt9 : ∀ k, k < 37 → cK k < 304 := by decide +kernel
set_option maxHeartbeats 1000000 in
theorem k_scan {d : Nat} {v : Nat → Nat → Int32} {w : Nat → Nat → Int64} {Q : Option Value → am_H → Prop} {b : Nat → Int32} {len : Nat} (hb : v 1 = b) (hy : BY b len) (hl : len ≤ 2000) (hQ : ∀ v' w' L, (∀ c, c ≠ 21 → c ≠ 22 → v' c = v c) → (∀ c, c ≠ 23 → w' c = w c) → LX b len L → (∀ j, j ≤ L → C1 v' w' b len j) → Q none (428, 26053, KD, RF, v', w')) : am_Ca (d + 5) M_Tokens_scan [.ref 20, .ref 1, .int (nI len)] (428, 26053, KD, RF, v, w) Q := by
  refine ca_in (k := k_Tokens_scan) (nL := 5) rfl (Nat.le_of_ble_eq_true rfl) ?_
  show am_Go am_X0 _ k_Tokens_scan 0 ([.ref 20, .ref 1, .int (nI len), .null, .null], [], _) _
  refine go_at (blk := b_Tokens_scan_0) rfl ?_
  simp (disch := omega) only [b_Tokens_scan_0, be_1, be_7, be_0, List.getD_cons_zero, List.getD_cons_succ, List.set_cons_zero, List.set_cons_succ, List.length_cons, List.length_nil, pk_I, pk_A, pr_A, pi_I, st_s, st_n, if_true, if_false, eq_self, d_if, d_ju, d_re, d_ca, cat0, cat1, cat2, cat3, fr_z, fr_s, cc_I, cc_A, cc_N, Nat.reduceAdd, Nat.reduceLT, Nat.reduceLeDiff, Nat.reduceEqDiff, not_true, not_false_iff, z1_0, z1_1, Bool.and_self, Bool.true_and, Bool.and_true, nI_add, pk_mul, nI_clamp, decide_true, Nat.le_refl, bI_eq, bI_z1]
  refine go_loopA (α := (Nat → Nat → Int32) × (Nat → Nat → Int64) × Nat) (fun i x => ([.ref 20, .ref 1, .int (nI len), .int (nI x.2.2), .int (nI i)], [], (428, 26053, KD, RF, x.1, x.2.1))) (fun i x => (∀ c, c ≠ 21 → c ≠ 22 → x.1 c = v c) ∧ (∀ c, c ≠ 23 → x.2.1 c = w c) ∧ x.2.2 ≤ len ∧ bk b len x.2.2 = tsN b len i ∧ ∀ j, j < i → C1 x.1 x.2.1 b len j ∧ kkN b len j ≠ 0 ∧ kkN b len j ≠ 3) (401) ?_ ?_ (v, w, 0) ⟨fun _ _ _ => rfl, fun _ _ => rfl, Nat.zero_le _, rfl, fun j hj => absurd hj (Nat.not_lt_zero _)⟩
  · intro i x hi ⟨x1, x2, x3, x4, x5⟩ ih
    try dsimp only at *
    have hni : ¬ 400 < i := by omega
    have hts : tsN b len i ≤ len := by rw [← x4]; exact (bk_le x3).2
    have hbx : x.1 1 = b := (x1 1 (by omega) (by omega)).trans hb
    refine go_at (blk := b_Tokens_scan_5) rfl ?_
    simp (disch := omega) only [b_Tokens_scan_5, be_4, be_1, be_49_4, List.getD_cons_zero, List.getD_cons_succ, List.set_cons_zero, List.set_cons_succ, List.length_cons, List.length_nil, pk_I, pk_A, pr_A, pi_I, st_s, st_n, if_true, if_false, eq_self, d_if, d_ju, d_re, d_ca, cat0, cat1, cat2, cat3, fr_z, fr_s, cc_I, cc_A, cc_N, Nat.reduceAdd, Nat.reduceLT, Nat.reduceLeDiff, Nat.reduceEqDiff, not_true, not_false_iff, z1_0, z1_1, Bool.and_self, Bool.true_and, Bool.and_true, nI_add, pk_mul, nI_clamp, decide_true, Nat.le_refl, bI_eq, bI_z1, nI_ltI, nI_leI, pk_L, cc_L, hb, hni, hbx, lN_0]
    refine go_at (blk := b_Tokens_scan_13) rfl ?_
    simp (disch := omega) only [b_Tokens_scan_13, be_6, be_4, be_58_3, List.getD_cons_zero, List.getD_cons_succ, List.set_cons_zero, List.set_cons_succ, List.length_cons, List.length_nil, pk_I, pk_A, pr_A, pi_I, st_s, st_n, if_true, if_false, eq_self, d_if, d_ju, d_re, d_ca, cat0, cat1, cat2, cat3, fr_z, fr_s, cc_I, cc_A, cc_N, Nat.reduceAdd, Nat.reduceLT, Nat.reduceLeDiff, Nat.reduceEqDiff, not_true, not_false_iff, z1_0, z1_1, Bool.and_self, Bool.true_and, Bool.and_true, nI_add, pk_mul, nI_clamp, decide_true, Nat.le_refl, bI_eq, bI_z1, nI_ltI, nI_leI, pk_L, cc_L, hb, hni, hbx, lN_0]
    refine k_behind hbx hl x3 ?_
    rw [x4]
    refine go_at (blk := b_Tokens_scan_19) rfl ?_
    simp (disch := omega) only [b_Tokens_scan_19, be_7, be_6, be_34, be_4, be_43, be_3, be_46, be_49_2, kc_20, rf_20_1, ka_22, rf_20_2, ka_23, List.getD_cons_zero, List.getD_cons_succ, List.set_cons_zero, List.set_cons_succ, List.length_cons, List.length_nil, pk_I, pk_A, pr_A, pi_I, st_s, st_n, if_true, if_false, eq_self, d_if, d_ju, d_re, d_ca, cat0, cat1, cat2, cat3, fr_z, fr_s, cc_I, cc_A, cc_N, Nat.reduceAdd, Nat.reduceLT, Nat.reduceLeDiff, Nat.reduceEqDiff, not_true, not_false_iff, z1_0, z1_1, Bool.and_self, Bool.true_and, Bool.and_true, nI_add, pk_mul, nI_clamp, decide_true, Nat.le_refl, bI_eq, bI_z1, nI_ltI, nI_leI, pk_L, cc_L, hb, hni, hbx, lN_0]
    split
    · rename_i hc
      refine go_at (blk := b_Tokens_scan_52) rfl ?_
      simp (disch := omega) only [b_Tokens_scan_52, be_6, be_4, be_57_4, kc_20, List.getD_cons_zero, List.getD_cons_succ, List.set_cons_zero, List.set_cons_succ, List.length_cons, List.length_nil, pk_I, pk_A, pr_A, pi_I, st_s, st_n, if_true, if_false, eq_self, d_if, d_ju, d_re, d_ca, cat0, cat1, cat2, cat3, fr_z, fr_s, cc_I, cc_A, cc_N, Nat.reduceAdd, Nat.reduceLT, Nat.reduceLeDiff, Nat.reduceEqDiff, not_true, not_false_iff, z1_0, z1_1, Bool.and_self, Bool.true_and, Bool.and_true, nI_add, pk_mul, nI_clamp, decide_true, Nat.le_refl, bI_eq, bI_z1, nI_ltI, nI_leI, pk_L, cc_L, hb, hni, hbx, lN_0]
      have hK : tkK b len (tsN b len i) ≠ 0 := tk_n0 hc
      refine k_token (v := (am_u x.1 22 i (nI (tsN b len i)))) (w := (am_uL x.2.1 23 i (lN 0))) (by rw [am_u_ne (by omega)]; exact hbx) hy hl hc (by omega) ?_
      intro w' e1 e2 e3
      refine go_at (blk := b_Tokens_scan_61) rfl ?_
      simp (disch := omega) only [b_Tokens_scan_61, be_7, be_6, be_34, be_4, be_38, be_1, be_49_1, kc_20, rf_20_0, ka_21, List.getD_cons_zero, List.getD_cons_succ, List.set_cons_zero, List.set_cons_succ, List.length_cons, List.length_nil, pk_I, pk_A, pr_A, pi_I, st_s, st_n, if_true, if_false, eq_self, d_if, d_ju, d_re, d_ca, cat0, cat1, cat2, cat3, fr_z, fr_s, cc_I, cc_A, cc_N, Nat.reduceAdd, Nat.reduceLT, Nat.reduceLeDiff, Nat.reduceEqDiff, not_true, not_false_iff, z1_0, z1_1, Bool.and_self, Bool.true_and, Bool.and_true, nI_add, pk_mul, nI_clamp, decide_true, Nat.le_refl, bI_eq, bI_z1, nI_ltI, nI_leI, pk_L, cc_L, hb, hni, hbx, lN_0, am_u_at, upd_at]
      split
      · rename_i hd
        have hd : kkN b len i ≠ 3 := fun z => hd (by unfold kkN at z; rw [z]; rfl)
        refine go_at (blk := b_Tokens_scan_76) rfl ?_
        simp (disch := omega) only [b_Tokens_scan_76, be_10, be_51, List.getD_cons_zero, List.getD_cons_succ, List.set_cons_zero, List.set_cons_succ, List.length_cons, List.length_nil, pk_I, pk_A, pr_A, pi_I, st_s, st_n, if_true, if_false, eq_self, d_if, d_ju, d_re, d_ca, cat0, cat1, cat2, cat3, fr_z, fr_s, cc_I, cc_A, cc_N, Nat.reduceAdd, Nat.reduceLT, Nat.reduceLeDiff, Nat.reduceEqDiff, not_true, not_false_iff, z1_0, z1_1, Bool.and_self, Bool.true_and, Bool.and_true, nI_add, pk_mul, nI_clamp, decide_true, Nat.le_refl, bI_eq, bI_z1, nI_ltI, nI_leI, pk_L, cc_L, hb, hni, hbx, lN_0]
        refine ih (am_u (am_u x.1 22 i (nI (tsN b len i))) 21 i (nI (cK (tkK b len (tsN b len i)))), w', tkX b len (tsN b len i)) ⟨?_, ?_, (tx_gt hc).2, rfl, ?_⟩
        · intro c c1 c2
          dsimp only
          rw [am_u_ne c1, am_u_ne c2]
          exact x1 c c1 c2
        · intro c cw
          dsimp only
          rw [e1.1 c cw, uL_ne cw]
          exact x2 c cw
        · intro j hj
          dsimp only
          by_cases hji : j = i
          · subst hji
            exact ⟨⟨by rw [am_u_at, upd_at]; rfl, by rw [am_u_ne (by omega), am_u_at, upd_at], e2, e3⟩, hK, hd⟩
          · obtain ⟨⟨c1, c2, c3, c4⟩, c5⟩ := x5 j (by omega)
            refine ⟨⟨by rw [am_u_at, upd_ne hji, am_u_ne (by omega)]; exact c1, by rw [am_u_ne (by omega), am_u_at, upd_ne hji]; exact c2, fun z => by rw [e1.2 j hji, uL_at, pk_uLn hji]; exact c3 z, fun z => by rw [e1.2 j hji, uL_at, pk_uLn hji]; exact c4 z⟩, c5⟩
      · rename_i hd
        refine go_at (blk := b_Tokens_scan_75) rfl ?_
        simp (disch := omega) only [b_Tokens_scan_75, be_56, List.getD_cons_zero, List.getD_cons_succ, List.set_cons_zero, List.set_cons_succ, List.length_cons, List.length_nil, pk_I, pk_A, pr_A, pi_I, st_s, st_n, if_true, if_false, eq_self, d_if, d_ju, d_re, d_ca, cat0, cat1, cat2, cat3, fr_z, fr_s, cc_I, cc_A, cc_N, Nat.reduceAdd, Nat.reduceLT, Nat.reduceLeDiff, Nat.reduceEqDiff, not_true, not_false_iff, z1_0, z1_1, Bool.and_self, Bool.true_and, Bool.and_true, nI_add, pk_mul, nI_clamp, decide_true, Nat.le_refl, bI_eq, bI_z1, nI_ltI, nI_leI, pk_L, cc_L, hb, hni, hbx, lN_0]
        have hd : kkN b len i = 3 := by
          have h1 := Decidable.not_not.mp hd
          have ho := tk_ok (b := b) (len := len) (i := tsN b len i)
          refine ck_inj _ ho.1 ho.2 3 (by omega) rfl ?_
          have := (nI_eq (by have := ck_lt9 _ ho.1; omega) (by omega)).mp h1
          rw [this]
          rfl
        refine hQ _ w' i ?_ ?_ ⟨by omega, fun j hj => (x5 j hj).2, Or.inr (Or.inr hd)⟩ ?_
        · intro c c1 c2
          rw [am_u_ne c1, am_u_ne c2]
          exact x1 c c1 c2
        · intro c cw
          rw [e1.1 c cw, uL_ne cw]
          exact x2 c cw
        · intro j hj
          by_cases hji : j = i
          · subst hji
            exact ⟨by rw [am_u_at, upd_at]; rfl, by rw [am_u_ne (by omega), am_u_at, upd_at], e2, e3⟩
          · obtain ⟨⟨c1, c2, c3, c4⟩, c5⟩ := x5 j (by omega)
            exact ⟨by rw [am_u_at, upd_ne hji, am_u_ne (by omega)]; exact c1, by rw [am_u_ne (by omega), am_u_at, upd_ne hji]; exact c2, fun z => by rw [e1.2 j hji, uL_at, pk_uLn hji]; exact c3 z, fun z => by rw [e1.2 j hji, uL_at, pk_uLn hji]; exact c4 z⟩
    · rename_i hc
      refine go_at (blk := b_Tokens_scan_41) rfl ?_
      simp (disch := omega) only [b_Tokens_scan_41, be_6, be_34, be_4, be_1, be_43, be_56, kc_20, rf_20_0, ka_21, List.getD_cons_zero, List.getD_cons_succ, List.set_cons_zero, List.set_cons_succ, List.length_cons, List.length_nil, pk_I, pk_A, pr_A, pi_I, st_s, st_n, if_true, if_false, eq_self, d_if, d_ju, d_re, d_ca, cat0, cat1, cat2, cat3, fr_z, fr_s, cc_I, cc_A, cc_N, Nat.reduceAdd, Nat.reduceLT, Nat.reduceLeDiff, Nat.reduceEqDiff, not_true, not_false_iff, z1_0, z1_1, Bool.and_self, Bool.true_and, Bool.and_true, nI_add, pk_mul, nI_clamp, decide_true, Nat.le_refl, bI_eq, bI_z1, nI_ltI, nI_leI, pk_L, cc_L, hb, hni, hbx, lN_0]
      have hK : kkN b len i = 0 := tk_e (by omega)
      refine hQ _ (am_uL x.2.1 23 i (lN 0)) i ?_ ?_ ⟨by omega, fun j hj => (x5 j hj).2, Or.inr (Or.inl hK)⟩ ?_
      · intro c c1 c2
        rw [am_u_ne c1, am_u_ne c2]
        exact x1 c c1 c2
      · intro c cw
        rw [uL_ne cw]
        exact x2 c cw
      · intro j hj
        by_cases hji : j = i
        · subst hji
          exact ⟨by rw [am_u_at, upd_at, hK]; rfl, by rw [am_u_ne (by omega), am_u_at, upd_at], fun z => by rw [hK] at z; omega, fun z => by rw [hK] at z; omega⟩
        · obtain ⟨⟨c1, c2, c3, c4⟩, c5⟩ := x5 j (by omega)
          exact ⟨by rw [am_u_at, upd_ne hji, am_u_ne (by omega)]; exact c1, by rw [am_u_ne (by omega), am_u_at, upd_ne hji]; exact c2, fun z => by rw [uL_at, pk_uLn hji]; exact c3 z, fun z => by rw [uL_at, pk_uLn hji]; exact c4 z⟩
  · intro x ⟨x1, x2, x3, x4, x5⟩
    try dsimp only at *
    refine go_at (blk := b_Tokens_scan_5) rfl ?_
    simp (disch := omega) only [b_Tokens_scan_5, be_4, be_1, be_49_4, List.getD_cons_zero, List.getD_cons_succ, List.set_cons_zero, List.set_cons_succ, List.length_cons, List.length_nil, pk_I, pk_A, pr_A, pi_I, st_s, st_n, if_true, if_false, eq_self, d_if, d_ju, d_re, d_ca, cat0, cat1, cat2, cat3, fr_z, fr_s, cc_I, cc_A, cc_N, Nat.reduceAdd, Nat.reduceLT, Nat.reduceLeDiff, Nat.reduceEqDiff, not_true, not_false_iff, z1_0, z1_1, Bool.and_self, Bool.true_and, Bool.and_true, nI_add, pk_mul, nI_clamp, decide_true, Nat.le_refl, bI_eq, bI_z1, nI_ltI, nI_leI]
    refine go_at (blk := b_Tokens_scan_82) rfl ?_
    simp (disch := omega) only [b_Tokens_scan_82, be_56, List.getD_cons_zero, List.getD_cons_succ, List.set_cons_zero, List.set_cons_succ, List.length_cons, List.length_nil, pk_I, pk_A, pr_A, pi_I, st_s, st_n, if_true, if_false, eq_self, d_if, d_ju, d_re, d_ca, cat0, cat1, cat2, cat3, fr_z, fr_s, cc_I, cc_A, cc_N, Nat.reduceAdd, Nat.reduceLT, Nat.reduceLeDiff, Nat.reduceEqDiff, not_true, not_false_iff, z1_0, z1_1, Bool.and_self, Bool.true_and, Bool.and_true, nI_add, pk_mul, nI_clamp, decide_true, Nat.le_refl, bI_eq, bI_z1, nI_ltI, nI_leI]
    exact hQ x.1 x.2.1 400 x1 x2 ⟨by omega, fun j hj => (x5 j (by omega)).2, Or.inl rfl⟩ (fun j hj => (x5 j (by omega)).1)
