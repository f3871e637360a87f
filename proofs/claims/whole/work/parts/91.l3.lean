/-! laid by wip/whole/l3.py: the class: TOKENS of a tape -/
theorem cc_L {x : Int64} : am_cc (.long x) = false := rfl
theorem uL_at {w : Nat → Nat → Int64} {a k : Nat} {x : Int64} : am_uL w a k x a = vp_updL (w a) k x := if_pos rfl
theorem uL_ne {w : Nat → Nat → Int64} {a b k : Nat} {x : Int64} (h : b ≠ a) : am_uL w a k x b = w b := if_neg h
/-- but for the number of one TOKEN nothing has changed -/
def WF (w w' : Nat → Nat → Int64) (t : Nat) : Prop := (∀ c, c ≠ 23 → w' c = w c) ∧ ∀ j, j ≠ t → w' 23 j = w 23 j
theorem WF_u {w : Nat → Nat → Int64} {t : Nat} {x : Int64} : WF w (am_uL w 23 t x) t := ⟨fun c hc => uL_ne hc, fun j hj => by rw [uL_at, pk_uLn hj]⟩
theorem WF_r {w : Nat → Nat → Int64} {t : Nat} : WF w w t := ⟨fun _ _ => rfl, fun _ _ => rfl⟩
theorem fr_L {ls : List Value} {x : Int64} {k : Nat} : am_fr (.long x :: ls) (k + 2) = am_fr ls (k + 1) := rfl
theorem ru_nb {P : Int32 → Bool} {b : Nat → Int32} : ∀ k i, ru P b k i < k → P (b (i + ru P b k i)) = false := by
  intro k
  induction k with
  | zero => intro i h; exact absurd h (Nat.not_lt_zero _)
  | succ k ih =>
    intro i h
    by_cases hp : P (b i) = true
    · rw [show ru P b (k + 1) i = ru P b k (i + 1) + 1 from if_pos hp] at h ⊢
      have := ih (i + 1) (by omega)
      rw [show i + 1 + ru P b k (i + 1) = i + (ru P b k (i + 1) + 1) by omega] at this
      exact this
    · rw [show ru P b (k + 1) i = 0 from if_neg hp]
      simpa using hp
theorem rl_nb {P : Int32 → Bool} {b : Nat → Int32} {len i : Nat} (h : i + rl P b len i < len) : P (b (i + rl P b len i)) = false := ru_nb _ _ (by unfold rl at h; omega)
set_option maxHeartbeats 1000000 in
theorem k_letters {d : Nat} {v : Nat → Nat → Int32} {w : Nat → Nat → Int64} {Q : Option Value → am_H → Prop} {b : Nat → Int32} {len i t : Nat} (hb : v 1 = b) (hl : len ≤ 2000) (hi : i < len) (ht : t ≤ 400) (hQ' : ∀ k w', nI k = nI (if 8 < rl leB b len i then 303 else cK (wkN (vlN b i (rl leB b len i)))) → WF w w' t → w' 23 t = lN (vlN b i (rl leB b len i)) → Q (some (.int (nI (i + rl leB b len i)))) (428, 26053, KD, RF, am_u v 21 t (nI k), w')) : am_Ca (d + 3) M_Tokens_scanLetters [.ref 20, .int (nI t), .ref 1, .int (nI i), .int (nI len)] (428, 26053, KD, RF, v, w) Q := by
  refine ca_in (k := k_Tokens_scanLetters) (nL := 8) rfl (Nat.le_of_ble_eq_true rfl) ?_
  show am_Go am_X0 _ k_Tokens_scanLetters 0 ([.ref 20, .int (nI t), .ref 1, .int (nI i), .int (nI len), .null, .null, .null], [], _) _
  refine go_at (blk := b_Tokens_scanLetters_0) rfl ?_
  simp (disch := omega) only [b_Tokens_scanLetters_0, be_4, be_7, be_3, be_8, be_0, List.getD_cons_zero, List.getD_cons_succ, List.set_cons_zero, List.set_cons_succ, List.length_cons, List.length_nil, pk_I, pk_A, pr_A, pi_I, st_s, st_n, if_true, if_false, eq_self, d_if, d_ju, d_re, d_ca, cat0, cat1, cat2, cat3, fr_z, fr_s, cc_I, cc_A, cc_N, Nat.reduceAdd, Nat.reduceLT, Nat.reduceLeDiff, Nat.reduceEqDiff, not_true, not_false_iff, z1_0, z1_1, Bool.and_self, Bool.true_and, Bool.and_true, nI_add, pk_mul, nI_clamp, decide_true, Nat.le_refl, bI_eq, bI_z1, pk_L]
  refine go_loopA (α := Unit) (fun n u => ([.ref 20, .int (nI t), .ref 1, .int (nI i), .int (nI len), .int (nI (i + n)), .long (lN (vlN b i n)), .null], [], (428, 26053, KD, RF, v, w))) (fun n u => True) (rl leB b len i) ?_ ?_ () trivial
  · intro n _ hn _ ih
    try dsimp only at *
    have hle := rl_le (P := leB) (b := b) (Nat.le_of_lt hi)
    have hn1 : ¬ len ≤ i + n := by omega
    obtain ⟨d', d1, d2, e1⟩ := le_of (rl_in hn)
    have e2 : vlN b i (n + 1) = vlN b i n * 27 + (96 + d' - 97 + 1) := by rw [vl_s, e1, eN_n d2]; omega
    refine go_at (blk := b_Tokens_scanLetters_6) rfl ?_
    simp (disch := omega) only [b_Tokens_scanLetters_6, be_4, be_49_3, List.getD_cons_zero, List.getD_cons_succ, List.set_cons_zero, List.set_cons_succ, List.length_cons, List.length_nil, pk_I, pk_A, pr_A, pi_I, st_s, st_n, if_true, if_false, eq_self, d_if, d_ju, d_re, d_ca, cat0, cat1, cat2, cat3, fr_z, fr_s, cc_I, cc_A, cc_N, Nat.reduceAdd, Nat.reduceLT, Nat.reduceLeDiff, Nat.reduceEqDiff, not_true, not_false_iff, z1_0, z1_1, Bool.and_self, Bool.true_and, Bool.and_true, nI_add, pk_mul, nI_clamp, decide_true, Nat.le_refl, bI_eq, bI_z1, nI_ltI, nI_leI, pk_L, cc_L, lN_add, lN_mul, nI_l, hb, hn1, e1, pk_sub]
    refine go_at (blk := b_Tokens_scanLetters_13) rfl ?_
    simp (disch := omega) only [b_Tokens_scanLetters_13, be_6, be_4, be_39, be_58_1, ka_1, List.getD_cons_zero, List.getD_cons_succ, List.set_cons_zero, List.set_cons_succ, List.length_cons, List.length_nil, pk_I, pk_A, pr_A, pi_I, st_s, st_n, if_true, if_false, eq_self, d_if, d_ju, d_re, d_ca, cat0, cat1, cat2, cat3, fr_z, fr_s, cc_I, cc_A, cc_N, Nat.reduceAdd, Nat.reduceLT, Nat.reduceLeDiff, Nat.reduceEqDiff, not_true, not_false_iff, z1_0, z1_1, Bool.and_self, Bool.true_and, Bool.and_true, nI_add, pk_mul, nI_clamp, decide_true, Nat.le_refl, bI_eq, bI_z1, nI_ltI, nI_leI, pk_L, cc_L, lN_add, lN_mul, nI_l, hb, hn1, e1, pk_sub]
    refine k_isLetter ?_
    rw [← e1, rl_in hn]
    refine go_at (blk := b_Tokens_scanLetters_20) rfl ?_
    simp (disch := omega) only [b_Tokens_scanLetters_20, be_50_0, List.getD_cons_zero, List.getD_cons_succ, List.set_cons_zero, List.set_cons_succ, List.length_cons, List.length_nil, pk_I, pk_A, pr_A, pi_I, st_s, st_n, if_true, if_false, eq_self, d_if, d_ju, d_re, d_ca, cat0, cat1, cat2, cat3, fr_z, fr_s, cc_I, cc_A, cc_N, Nat.reduceAdd, Nat.reduceLT, Nat.reduceLeDiff, Nat.reduceEqDiff, not_true, not_false_iff, z1_0, z1_1, Bool.and_self, Bool.true_and, Bool.and_true, nI_add, pk_mul, nI_clamp, decide_true, Nat.le_refl, bI_eq, bI_z1, nI_ltI, nI_leI, pk_L, cc_L, lN_add, lN_mul, nI_l, hb, hn1, e1, pk_sub]
    refine go_at (blk := b_Tokens_scanLetters_23) rfl ?_
    simp (disch := omega) only [b_Tokens_scanLetters_23, be_5, be_53, be_24, be_6, be_4, be_39, be_1, be_13, be_12, be_26, be_23, be_8, be_10, be_51, ka_1, List.getD_cons_zero, List.getD_cons_succ, List.set_cons_zero, List.set_cons_succ, List.length_cons, List.length_nil, pk_I, pk_A, pr_A, pi_I, st_s, st_n, if_true, if_false, eq_self, d_if, d_ju, d_re, d_ca, cat0, cat1, cat2, cat3, fr_z, fr_s, cc_I, cc_A, cc_N, Nat.reduceAdd, Nat.reduceLT, Nat.reduceLeDiff, Nat.reduceEqDiff, not_true, not_false_iff, z1_0, z1_1, Bool.and_self, Bool.true_and, Bool.and_true, nI_add, pk_mul, nI_clamp, decide_true, Nat.le_refl, bI_eq, bI_z1, nI_ltI, nI_leI, pk_L, cc_L, lN_add, lN_mul, nI_l, hb, hn1, e1, pk_sub]
    rw [e2] at ih
    exact ih () trivial
  · intro _ _
    try dsimp only at *
    have hle := rl_le (P := leB) (b := b) (Nat.le_of_lt hi)
    have hsub : i + rl leB b len i - i = rl leB b len i := by omega
    by_cases hcl : len ≤ i + rl leB b len i
    · refine go_at (blk := b_Tokens_scanLetters_6) rfl ?_
      simp (disch := omega) only [b_Tokens_scanLetters_6, be_4, be_49_3, List.getD_cons_zero, List.getD_cons_succ, List.set_cons_zero, List.set_cons_succ, List.length_cons, List.length_nil, pk_I, pk_A, pr_A, pi_I, st_s, st_n, if_true, if_false, eq_self, d_if, d_ju, d_re, d_ca, cat0, cat1, cat2, cat3, fr_z, fr_s, cc_I, cc_A, cc_N, Nat.reduceAdd, Nat.reduceLT, Nat.reduceLeDiff, Nat.reduceEqDiff, not_true, not_false_iff, z1_0, z1_1, Bool.and_self, Bool.true_and, Bool.and_true, nI_add, pk_mul, nI_clamp, decide_true, Nat.le_refl, bI_eq, bI_z1, nI_ltI, nI_leI, pk_L, cc_L, lN_add, lN_mul, nI_l, hb, hcl, pk_sub, hsub]
      refine go_at (blk := b_Tokens_scanLetters_48) rfl ?_
      simp (disch := omega) only [b_Tokens_scanLetters_48, be_6, be_34, be_4, be_5, be_46, be_13, be_1, be_49_5, kc_20, rf_20_2, ka_23, rf_20_0, List.getD_cons_zero, List.getD_cons_succ, List.set_cons_zero, List.set_cons_succ, List.length_cons, List.length_nil, pk_I, pk_A, pr_A, pi_I, st_s, st_n, if_true, if_false, eq_self, d_if, d_ju, d_re, d_ca, cat0, cat1, cat2, cat3, fr_z, fr_s, cc_I, cc_A, cc_N, Nat.reduceAdd, Nat.reduceLT, Nat.reduceLeDiff, Nat.reduceEqDiff, not_true, not_false_iff, z1_0, z1_1, Bool.and_self, Bool.true_and, Bool.and_true, nI_add, pk_mul, nI_clamp, decide_true, Nat.le_refl, bI_eq, bI_z1, nI_ltI, nI_leI, pk_L, cc_L, lN_add, lN_mul, nI_l, hb, hcl, pk_sub, hsub]
      split
      · rename_i hk
        refine go_at (blk := b_Tokens_scanLetters_76) rfl ?_
        simp (disch := omega) only [b_Tokens_scanLetters_76, be_6, be_4, be_58_3, List.getD_cons_zero, List.getD_cons_succ, List.set_cons_zero, List.set_cons_succ, List.length_cons, List.length_nil, pk_I, pk_A, pr_A, pi_I, st_s, st_n, if_true, if_false, eq_self, d_if, d_ju, d_re, d_ca, cat0, cat1, cat2, cat3, fr_z, fr_s, cc_I, cc_A, cc_N, Nat.reduceAdd, Nat.reduceLT, Nat.reduceLeDiff, Nat.reduceEqDiff, not_true, not_false_iff, z1_0, z1_1, Bool.and_self, Bool.true_and, Bool.and_true, nI_add, pk_mul, nI_clamp, decide_true, Nat.le_refl, bI_eq, bI_z1, nI_ltI, nI_leI, pk_L, cc_L, lN_add, lN_mul, nI_l, hb, hcl, pk_sub, hsub]
        refine k_wordKind (len := len) hb hl (by omega) (fun j hj => rl_in hj) (by omega) ?_
        refine go_at (blk := b_Tokens_scanLetters_83) rfl ?_
        simp (disch := omega) only [b_Tokens_scanLetters_83, be_43, be_4, be_54, ka_21, List.getD_cons_zero, List.getD_cons_succ, List.set_cons_zero, List.set_cons_succ, List.length_cons, List.length_nil, pk_I, pk_A, pr_A, pi_I, st_s, st_n, if_true, if_false, eq_self, d_if, d_ju, d_re, d_ca, cat0, cat1, cat2, cat3, fr_z, fr_s, cc_I, cc_A, cc_N, Nat.reduceAdd, Nat.reduceLT, Nat.reduceLeDiff, Nat.reduceEqDiff, not_true, not_false_iff, z1_0, z1_1, Bool.and_self, Bool.true_and, Bool.and_true, nI_add, pk_mul, nI_clamp, decide_true, Nat.le_refl, bI_eq, bI_z1, nI_ltI, nI_leI, pk_L, cc_L, lN_add, lN_mul, nI_l, hb, hcl, pk_sub, hsub]
        exact hQ' (cK (wkN (vlN b i (rl leB b len i)))) (am_uL w 23 t (lN (vlN b i (rl leB b len i)))) (by rw [if_neg (by omega)]) WF_u (by rw [uL_at, pk_uLs])
      · rename_i hk
        have hk : 8 < rl leB b len i := by omega
        refine go_at (blk := b_Tokens_scanLetters_70) rfl ?_
        simp (disch := omega) only [b_Tokens_scanLetters_70, be_1, be_51, List.getD_cons_zero, List.getD_cons_succ, List.set_cons_zero, List.set_cons_succ, List.length_cons, List.length_nil, pk_I, pk_A, pr_A, pi_I, st_s, st_n, if_true, if_false, eq_self, d_if, d_ju, d_re, d_ca, cat0, cat1, cat2, cat3, fr_z, fr_s, cc_I, cc_A, cc_N, Nat.reduceAdd, Nat.reduceLT, Nat.reduceLeDiff, Nat.reduceEqDiff, not_true, not_false_iff, z1_0, z1_1, Bool.and_self, Bool.true_and, Bool.and_true, nI_add, pk_mul, nI_clamp, decide_true, Nat.le_refl, bI_eq, bI_z1, nI_ltI, nI_leI, pk_L, cc_L, lN_add, lN_mul, nI_l, hb, hcl, pk_sub, hsub]
        refine go_at (blk := b_Tokens_scanLetters_83) rfl ?_
        simp (disch := omega) only [b_Tokens_scanLetters_83, be_43, be_4, be_54, ka_21, List.getD_cons_zero, List.getD_cons_succ, List.set_cons_zero, List.set_cons_succ, List.length_cons, List.length_nil, pk_I, pk_A, pr_A, pi_I, st_s, st_n, if_true, if_false, eq_self, d_if, d_ju, d_re, d_ca, cat0, cat1, cat2, cat3, fr_z, fr_s, cc_I, cc_A, cc_N, Nat.reduceAdd, Nat.reduceLT, Nat.reduceLeDiff, Nat.reduceEqDiff, not_true, not_false_iff, z1_0, z1_1, Bool.and_self, Bool.true_and, Bool.and_true, nI_add, pk_mul, nI_clamp, decide_true, Nat.le_refl, bI_eq, bI_z1, nI_ltI, nI_leI, pk_L, cc_L, lN_add, lN_mul, nI_l, hb, hcl, pk_sub, hsub]
        exact hQ' 303 (am_uL w 23 t (lN (vlN b i (rl leB b len i)))) (by rw [if_pos hk]) WF_u (by rw [uL_at, pk_uLs])
    · have hnb : leB (b (i + rl leB b len i)) = false := rl_nb (by omega)
      refine go_at (blk := b_Tokens_scanLetters_6) rfl ?_
      simp (disch := omega) only [b_Tokens_scanLetters_6, be_4, be_49_3, List.getD_cons_zero, List.getD_cons_succ, List.set_cons_zero, List.set_cons_succ, List.length_cons, List.length_nil, pk_I, pk_A, pr_A, pi_I, st_s, st_n, if_true, if_false, eq_self, d_if, d_ju, d_re, d_ca, cat0, cat1, cat2, cat3, fr_z, fr_s, cc_I, cc_A, cc_N, Nat.reduceAdd, Nat.reduceLT, Nat.reduceLeDiff, Nat.reduceEqDiff, not_true, not_false_iff, z1_0, z1_1, Bool.and_self, Bool.true_and, Bool.and_true, nI_add, pk_mul, nI_clamp, decide_true, Nat.le_refl, bI_eq, bI_z1, nI_ltI, nI_leI, pk_L, cc_L, lN_add, lN_mul, nI_l, hb, hcl, pk_sub, hsub]
      refine go_at (blk := b_Tokens_scanLetters_13) rfl ?_
      simp (disch := omega) only [b_Tokens_scanLetters_13, be_6, be_4, be_39, be_58_1, ka_1, List.getD_cons_zero, List.getD_cons_succ, List.set_cons_zero, List.set_cons_succ, List.length_cons, List.length_nil, pk_I, pk_A, pr_A, pi_I, st_s, st_n, if_true, if_false, eq_self, d_if, d_ju, d_re, d_ca, cat0, cat1, cat2, cat3, fr_z, fr_s, cc_I, cc_A, cc_N, Nat.reduceAdd, Nat.reduceLT, Nat.reduceLeDiff, Nat.reduceEqDiff, not_true, not_false_iff, z1_0, z1_1, Bool.and_self, Bool.true_and, Bool.and_true, nI_add, pk_mul, nI_clamp, decide_true, Nat.le_refl, bI_eq, bI_z1, nI_ltI, nI_leI, pk_L, cc_L, lN_add, lN_mul, nI_l, hb, hcl, pk_sub, hsub]
      refine k_isLetter ?_
      rw [hnb]
      refine go_at (blk := b_Tokens_scanLetters_20) rfl ?_
      simp (disch := omega) only [b_Tokens_scanLetters_20, be_50_0, List.getD_cons_zero, List.getD_cons_succ, List.set_cons_zero, List.set_cons_succ, List.length_cons, List.length_nil, pk_I, pk_A, pr_A, pi_I, st_s, st_n, if_true, if_false, eq_self, d_if, d_ju, d_re, d_ca, cat0, cat1, cat2, cat3, fr_z, fr_s, cc_I, cc_A, cc_N, Nat.reduceAdd, Nat.reduceLT, Nat.reduceLeDiff, Nat.reduceEqDiff, not_true, not_false_iff, z1_0, z1_1, Bool.and_self, Bool.true_and, Bool.and_true, nI_add, pk_mul, nI_clamp, decide_true, Nat.le_refl, bI_eq, bI_z1, nI_ltI, nI_leI, pk_L, cc_L, lN_add, lN_mul, nI_l, hb, hcl, pk_sub, hsub]
      refine go_at (blk := b_Tokens_scanLetters_48) rfl ?_
      simp (disch := omega) only [b_Tokens_scanLetters_48, be_6, be_34, be_4, be_5, be_46, be_13, be_1, be_49_5, kc_20, rf_20_2, ka_23, rf_20_0, List.getD_cons_zero, List.getD_cons_succ, List.set_cons_zero, List.set_cons_succ, List.length_cons, List.length_nil, pk_I, pk_A, pr_A, pi_I, st_s, st_n, if_true, if_false, eq_self, d_if, d_ju, d_re, d_ca, cat0, cat1, cat2, cat3, fr_z, fr_s, cc_I, cc_A, cc_N, Nat.reduceAdd, Nat.reduceLT, Nat.reduceLeDiff, Nat.reduceEqDiff, not_true, not_false_iff, z1_0, z1_1, Bool.and_self, Bool.true_and, Bool.and_true, nI_add, pk_mul, nI_clamp, decide_true, Nat.le_refl, bI_eq, bI_z1, nI_ltI, nI_leI, pk_L, cc_L, lN_add, lN_mul, nI_l, hb, hcl, pk_sub, hsub]
      split
      · rename_i hk
        refine go_at (blk := b_Tokens_scanLetters_76) rfl ?_
        simp (disch := omega) only [b_Tokens_scanLetters_76, be_6, be_4, be_58_3, List.getD_cons_zero, List.getD_cons_succ, List.set_cons_zero, List.set_cons_succ, List.length_cons, List.length_nil, pk_I, pk_A, pr_A, pi_I, st_s, st_n, if_true, if_false, eq_self, d_if, d_ju, d_re, d_ca, cat0, cat1, cat2, cat3, fr_z, fr_s, cc_I, cc_A, cc_N, Nat.reduceAdd, Nat.reduceLT, Nat.reduceLeDiff, Nat.reduceEqDiff, not_true, not_false_iff, z1_0, z1_1, Bool.and_self, Bool.true_and, Bool.and_true, nI_add, pk_mul, nI_clamp, decide_true, Nat.le_refl, bI_eq, bI_z1, nI_ltI, nI_leI, pk_L, cc_L, lN_add, lN_mul, nI_l, hb, hcl, pk_sub, hsub]
        refine k_wordKind (len := len) hb hl (by omega) (fun j hj => rl_in hj) (by omega) ?_
        refine go_at (blk := b_Tokens_scanLetters_83) rfl ?_
        simp (disch := omega) only [b_Tokens_scanLetters_83, be_43, be_4, be_54, ka_21, List.getD_cons_zero, List.getD_cons_succ, List.set_cons_zero, List.set_cons_succ, List.length_cons, List.length_nil, pk_I, pk_A, pr_A, pi_I, st_s, st_n, if_true, if_false, eq_self, d_if, d_ju, d_re, d_ca, cat0, cat1, cat2, cat3, fr_z, fr_s, cc_I, cc_A, cc_N, Nat.reduceAdd, Nat.reduceLT, Nat.reduceLeDiff, Nat.reduceEqDiff, not_true, not_false_iff, z1_0, z1_1, Bool.and_self, Bool.true_and, Bool.and_true, nI_add, pk_mul, nI_clamp, decide_true, Nat.le_refl, bI_eq, bI_z1, nI_ltI, nI_leI, pk_L, cc_L, lN_add, lN_mul, nI_l, hb, hcl, pk_sub, hsub]
        exact hQ' (cK (wkN (vlN b i (rl leB b len i)))) (am_uL w 23 t (lN (vlN b i (rl leB b len i)))) (by rw [if_neg (by omega)]) WF_u (by rw [uL_at, pk_uLs])
      · rename_i hk
        have hk : 8 < rl leB b len i := by omega
        refine go_at (blk := b_Tokens_scanLetters_70) rfl ?_
        simp (disch := omega) only [b_Tokens_scanLetters_70, be_1, be_51, List.getD_cons_zero, List.getD_cons_succ, List.set_cons_zero, List.set_cons_succ, List.length_cons, List.length_nil, pk_I, pk_A, pr_A, pi_I, st_s, st_n, if_true, if_false, eq_self, d_if, d_ju, d_re, d_ca, cat0, cat1, cat2, cat3, fr_z, fr_s, cc_I, cc_A, cc_N, Nat.reduceAdd, Nat.reduceLT, Nat.reduceLeDiff, Nat.reduceEqDiff, not_true, not_false_iff, z1_0, z1_1, Bool.and_self, Bool.true_and, Bool.and_true, nI_add, pk_mul, nI_clamp, decide_true, Nat.le_refl, bI_eq, bI_z1, nI_ltI, nI_leI, pk_L, cc_L, lN_add, lN_mul, nI_l, hb, hcl, pk_sub, hsub]
        refine go_at (blk := b_Tokens_scanLetters_83) rfl ?_
        simp (disch := omega) only [b_Tokens_scanLetters_83, be_43, be_4, be_54, ka_21, List.getD_cons_zero, List.getD_cons_succ, List.set_cons_zero, List.set_cons_succ, List.length_cons, List.length_nil, pk_I, pk_A, pr_A, pi_I, st_s, st_n, if_true, if_false, eq_self, d_if, d_ju, d_re, d_ca, cat0, cat1, cat2, cat3, fr_z, fr_s, cc_I, cc_A, cc_N, Nat.reduceAdd, Nat.reduceLT, Nat.reduceLeDiff, Nat.reduceEqDiff, not_true, not_false_iff, z1_0, z1_1, Bool.and_self, Bool.true_and, Bool.and_true, nI_add, pk_mul, nI_clamp, decide_true, Nat.le_refl, bI_eq, bI_z1, nI_ltI, nI_leI, pk_L, cc_L, lN_add, lN_mul, nI_l, hb, hcl, pk_sub, hsub]
        exact hQ' 303 (am_uL w 23 t (lN (vlN b i (rl leB b len i)))) (by rw [if_pos hk]) WF_u (by rw [uL_at, pk_uLs])
set_option maxHeartbeats 1000000 in
theorem k_digits {d : Nat} {v : Nat → Nat → Int32} {w : Nat → Nat → Int64} {Q : Option Value → am_H → Prop} {b : Nat → Int32} {len i t : Nat} (hb : v 1 = b) (hl : len ≤ 2000) (hi : i < len) (ht : t ≤ 400) (hQ' : ∀ k w', nI k = nI (if 4 < rl diB b len i then 303 else 301) → WF w w' t → w' 23 t = lN (dgV b i (rl diB b len i)) → Q (some (.int (nI (i + rl diB b len i)))) (428, 26053, KD, RF, am_u v 21 t (nI k), w')) : am_Ca (d + 3) M_Tokens_scanDigits [.ref 20, .int (nI t), .ref 1, .int (nI i), .int (nI len)] (428, 26053, KD, RF, v, w) Q := by
  refine ca_in (k := k_Tokens_scanDigits) (nL := 8) rfl (Nat.le_of_ble_eq_true rfl) ?_
  show am_Go am_X0 _ k_Tokens_scanDigits 0 ([.ref 20, .int (nI t), .ref 1, .int (nI i), .int (nI len), .null, .null, .null], [], _) _
  refine go_at (blk := b_Tokens_scanDigits_0) rfl ?_
  simp (disch := omega) only [b_Tokens_scanDigits_0, be_4, be_7, be_3, be_8, be_0, List.getD_cons_zero, List.getD_cons_succ, List.set_cons_zero, List.set_cons_succ, List.length_cons, List.length_nil, pk_I, pk_A, pr_A, pi_I, st_s, st_n, if_true, if_false, eq_self, d_if, d_ju, d_re, d_ca, cat0, cat1, cat2, cat3, fr_z, fr_s, cc_I, cc_A, cc_N, Nat.reduceAdd, Nat.reduceLT, Nat.reduceLeDiff, Nat.reduceEqDiff, not_true, not_false_iff, z1_0, z1_1, Bool.and_self, Bool.true_and, Bool.and_true, nI_add, pk_mul, nI_clamp, decide_true, Nat.le_refl, bI_eq, bI_z1, pk_L]
  refine go_loopA (α := Unit) (fun n u => ([.ref 20, .int (nI t), .ref 1, .int (nI i), .int (nI len), .int (nI (i + n)), .long (lN (dgV b i n)), .null], [], (428, 26053, KD, RF, v, w))) (fun n u => True) (rl diB b len i) ?_ ?_ () trivial
  · intro n _ hn _ ih
    try dsimp only at *
    have hle := rl_le (P := diB) (b := b) (Nat.le_of_lt hi)
    have hn1 : ¬ len ≤ i + n := by omega
    obtain ⟨d', d2, e1⟩ := di_of (rl_in hn)
    have e2 : dgV b i (n + 1) = dgV b i n * 10 + (48 + d' - 48) := by show dgV b i n * 10 + dN (b (i + n)) = _; rw [e1, dN_n d2]; omega
    refine go_at (blk := b_Tokens_scanDigits_6) rfl ?_
    simp (disch := omega) only [b_Tokens_scanDigits_6, be_4, be_49_3, List.getD_cons_zero, List.getD_cons_succ, List.set_cons_zero, List.set_cons_succ, List.length_cons, List.length_nil, pk_I, pk_A, pr_A, pi_I, st_s, st_n, if_true, if_false, eq_self, d_if, d_ju, d_re, d_ca, cat0, cat1, cat2, cat3, fr_z, fr_s, cc_I, cc_A, cc_N, Nat.reduceAdd, Nat.reduceLT, Nat.reduceLeDiff, Nat.reduceEqDiff, not_true, not_false_iff, z1_0, z1_1, Bool.and_self, Bool.true_and, Bool.and_true, nI_add, pk_mul, nI_clamp, decide_true, Nat.le_refl, bI_eq, bI_z1, nI_ltI, nI_leI, pk_L, cc_L, lN_add, lN_mul, nI_l, hb, hn1, e1, pk_sub]
    refine go_at (blk := b_Tokens_scanDigits_13) rfl ?_
    simp (disch := omega) only [b_Tokens_scanDigits_13, be_6, be_4, be_39, be_58_1, ka_1, List.getD_cons_zero, List.getD_cons_succ, List.set_cons_zero, List.set_cons_succ, List.length_cons, List.length_nil, pk_I, pk_A, pr_A, pi_I, st_s, st_n, if_true, if_false, eq_self, d_if, d_ju, d_re, d_ca, cat0, cat1, cat2, cat3, fr_z, fr_s, cc_I, cc_A, cc_N, Nat.reduceAdd, Nat.reduceLT, Nat.reduceLeDiff, Nat.reduceEqDiff, not_true, not_false_iff, z1_0, z1_1, Bool.and_self, Bool.true_and, Bool.and_true, nI_add, pk_mul, nI_clamp, decide_true, Nat.le_refl, bI_eq, bI_z1, nI_ltI, nI_leI, pk_L, cc_L, lN_add, lN_mul, nI_l, hb, hn1, e1, pk_sub]
    refine k_isDigit ?_
    rw [← e1, rl_in hn]
    refine go_at (blk := b_Tokens_scanDigits_20) rfl ?_
    simp (disch := omega) only [b_Tokens_scanDigits_20, be_50_0, List.getD_cons_zero, List.getD_cons_succ, List.set_cons_zero, List.set_cons_succ, List.length_cons, List.length_nil, pk_I, pk_A, pr_A, pi_I, st_s, st_n, if_true, if_false, eq_self, d_if, d_ju, d_re, d_ca, cat0, cat1, cat2, cat3, fr_z, fr_s, cc_I, cc_A, cc_N, Nat.reduceAdd, Nat.reduceLT, Nat.reduceLeDiff, Nat.reduceEqDiff, not_true, not_false_iff, z1_0, z1_1, Bool.and_self, Bool.true_and, Bool.and_true, nI_add, pk_mul, nI_clamp, decide_true, Nat.le_refl, bI_eq, bI_z1, nI_ltI, nI_leI, pk_L, cc_L, lN_add, lN_mul, nI_l, hb, hn1, e1, pk_sub]
    refine go_at (blk := b_Tokens_scanDigits_23) rfl ?_
    simp (disch := omega) only [b_Tokens_scanDigits_23, be_5, be_53, be_24, be_6, be_4, be_39, be_1, be_13, be_26, be_23, be_8, be_10, be_51, ka_1, List.getD_cons_zero, List.getD_cons_succ, List.set_cons_zero, List.set_cons_succ, List.length_cons, List.length_nil, pk_I, pk_A, pr_A, pi_I, st_s, st_n, if_true, if_false, eq_self, d_if, d_ju, d_re, d_ca, cat0, cat1, cat2, cat3, fr_z, fr_s, cc_I, cc_A, cc_N, Nat.reduceAdd, Nat.reduceLT, Nat.reduceLeDiff, Nat.reduceEqDiff, not_true, not_false_iff, z1_0, z1_1, Bool.and_self, Bool.true_and, Bool.and_true, nI_add, pk_mul, nI_clamp, decide_true, Nat.le_refl, bI_eq, bI_z1, nI_ltI, nI_leI, pk_L, cc_L, lN_add, lN_mul, nI_l, hb, hn1, e1, pk_sub]
    rw [e2] at ih
    exact ih () trivial
  · intro _ _
    try dsimp only at *
    have hle := rl_le (P := diB) (b := b) (Nat.le_of_lt hi)
    have hsub : i + rl diB b len i - i = rl diB b len i := by omega
    by_cases hcl : len ≤ i + rl diB b len i
    · refine go_at (blk := b_Tokens_scanDigits_6) rfl ?_
      simp (disch := omega) only [b_Tokens_scanDigits_6, be_4, be_49_3, List.getD_cons_zero, List.getD_cons_succ, List.set_cons_zero, List.set_cons_succ, List.length_cons, List.length_nil, pk_I, pk_A, pr_A, pi_I, st_s, st_n, if_true, if_false, eq_self, d_if, d_ju, d_re, d_ca, cat0, cat1, cat2, cat3, fr_z, fr_s, cc_I, cc_A, cc_N, Nat.reduceAdd, Nat.reduceLT, Nat.reduceLeDiff, Nat.reduceEqDiff, not_true, not_false_iff, z1_0, z1_1, Bool.and_self, Bool.true_and, Bool.and_true, nI_add, pk_mul, nI_clamp, decide_true, Nat.le_refl, bI_eq, bI_z1, nI_ltI, nI_leI, pk_L, cc_L, lN_add, lN_mul, nI_l, hb, hcl, pk_sub, hsub]
      refine go_at (blk := b_Tokens_scanDigits_46) rfl ?_
      simp (disch := omega) only [b_Tokens_scanDigits_46, be_6, be_34, be_4, be_5, be_46, be_13, be_1, be_49_5, kc_20, rf_20_2, ka_23, rf_20_0, List.getD_cons_zero, List.getD_cons_succ, List.set_cons_zero, List.set_cons_succ, List.length_cons, List.length_nil, pk_I, pk_A, pr_A, pi_I, st_s, st_n, if_true, if_false, eq_self, d_if, d_ju, d_re, d_ca, cat0, cat1, cat2, cat3, fr_z, fr_s, cc_I, cc_A, cc_N, Nat.reduceAdd, Nat.reduceLT, Nat.reduceLeDiff, Nat.reduceEqDiff, not_true, not_false_iff, z1_0, z1_1, Bool.and_self, Bool.true_and, Bool.and_true, nI_add, pk_mul, nI_clamp, decide_true, Nat.le_refl, bI_eq, bI_z1, nI_ltI, nI_leI, pk_L, cc_L, lN_add, lN_mul, nI_l, hb, hcl, pk_sub, hsub]
      split
      · rename_i hk
        refine go_at (blk := b_Tokens_scanDigits_73) rfl ?_
        simp (disch := omega) only [b_Tokens_scanDigits_73, be_1, be_0, List.getD_cons_zero, List.getD_cons_succ, List.set_cons_zero, List.set_cons_succ, List.length_cons, List.length_nil, pk_I, pk_A, pr_A, pi_I, st_s, st_n, if_true, if_false, eq_self, d_if, d_ju, d_re, d_ca, cat0, cat1, cat2, cat3, fr_z, fr_s, cc_I, cc_A, cc_N, Nat.reduceAdd, Nat.reduceLT, Nat.reduceLeDiff, Nat.reduceEqDiff, not_true, not_false_iff, z1_0, z1_1, Bool.and_self, Bool.true_and, Bool.and_true, nI_add, pk_mul, nI_clamp, decide_true, Nat.le_refl, bI_eq, bI_z1, nI_ltI, nI_leI, pk_L, cc_L, lN_add, lN_mul, nI_l, hb, hcl, pk_sub, hsub]
        refine go_at (blk := b_Tokens_scanDigits_76) rfl ?_
        simp (disch := omega) only [b_Tokens_scanDigits_76, be_43, be_4, be_54, ka_21, List.getD_cons_zero, List.getD_cons_succ, List.set_cons_zero, List.set_cons_succ, List.length_cons, List.length_nil, pk_I, pk_A, pr_A, pi_I, st_s, st_n, if_true, if_false, eq_self, d_if, d_ju, d_re, d_ca, cat0, cat1, cat2, cat3, fr_z, fr_s, cc_I, cc_A, cc_N, Nat.reduceAdd, Nat.reduceLT, Nat.reduceLeDiff, Nat.reduceEqDiff, not_true, not_false_iff, z1_0, z1_1, Bool.and_self, Bool.true_and, Bool.and_true, nI_add, pk_mul, nI_clamp, decide_true, Nat.le_refl, bI_eq, bI_z1, nI_ltI, nI_leI, pk_L, cc_L, lN_add, lN_mul, nI_l, hb, hcl, pk_sub, hsub]
        exact hQ' 301 (am_uL w 23 t (lN (dgV b i (rl diB b len i)))) (by rw [if_neg (by omega)]) WF_u (by rw [uL_at, pk_uLs])
      · rename_i hk
        have hk : 4 < rl diB b len i := by omega
        refine go_at (blk := b_Tokens_scanDigits_67) rfl ?_
        simp (disch := omega) only [b_Tokens_scanDigits_67, be_1, be_51, List.getD_cons_zero, List.getD_cons_succ, List.set_cons_zero, List.set_cons_succ, List.length_cons, List.length_nil, pk_I, pk_A, pr_A, pi_I, st_s, st_n, if_true, if_false, eq_self, d_if, d_ju, d_re, d_ca, cat0, cat1, cat2, cat3, fr_z, fr_s, cc_I, cc_A, cc_N, Nat.reduceAdd, Nat.reduceLT, Nat.reduceLeDiff, Nat.reduceEqDiff, not_true, not_false_iff, z1_0, z1_1, Bool.and_self, Bool.true_and, Bool.and_true, nI_add, pk_mul, nI_clamp, decide_true, Nat.le_refl, bI_eq, bI_z1, nI_ltI, nI_leI, pk_L, cc_L, lN_add, lN_mul, nI_l, hb, hcl, pk_sub, hsub]
        refine go_at (blk := b_Tokens_scanDigits_76) rfl ?_
        simp (disch := omega) only [b_Tokens_scanDigits_76, be_43, be_4, be_54, ka_21, List.getD_cons_zero, List.getD_cons_succ, List.set_cons_zero, List.set_cons_succ, List.length_cons, List.length_nil, pk_I, pk_A, pr_A, pi_I, st_s, st_n, if_true, if_false, eq_self, d_if, d_ju, d_re, d_ca, cat0, cat1, cat2, cat3, fr_z, fr_s, cc_I, cc_A, cc_N, Nat.reduceAdd, Nat.reduceLT, Nat.reduceLeDiff, Nat.reduceEqDiff, not_true, not_false_iff, z1_0, z1_1, Bool.and_self, Bool.true_and, Bool.and_true, nI_add, pk_mul, nI_clamp, decide_true, Nat.le_refl, bI_eq, bI_z1, nI_ltI, nI_leI, pk_L, cc_L, lN_add, lN_mul, nI_l, hb, hcl, pk_sub, hsub]
        exact hQ' 303 (am_uL w 23 t (lN (dgV b i (rl diB b len i)))) (by rw [if_pos hk]) WF_u (by rw [uL_at, pk_uLs])
    · have hnb : diB (b (i + rl diB b len i)) = false := rl_nb (by omega)
      refine go_at (blk := b_Tokens_scanDigits_6) rfl ?_
      simp (disch := omega) only [b_Tokens_scanDigits_6, be_4, be_49_3, List.getD_cons_zero, List.getD_cons_succ, List.set_cons_zero, List.set_cons_succ, List.length_cons, List.length_nil, pk_I, pk_A, pr_A, pi_I, st_s, st_n, if_true, if_false, eq_self, d_if, d_ju, d_re, d_ca, cat0, cat1, cat2, cat3, fr_z, fr_s, cc_I, cc_A, cc_N, Nat.reduceAdd, Nat.reduceLT, Nat.reduceLeDiff, Nat.reduceEqDiff, not_true, not_false_iff, z1_0, z1_1, Bool.and_self, Bool.true_and, Bool.and_true, nI_add, pk_mul, nI_clamp, decide_true, Nat.le_refl, bI_eq, bI_z1, nI_ltI, nI_leI, pk_L, cc_L, lN_add, lN_mul, nI_l, hb, hcl, pk_sub, hsub]
      refine go_at (blk := b_Tokens_scanDigits_13) rfl ?_
      simp (disch := omega) only [b_Tokens_scanDigits_13, be_6, be_4, be_39, be_58_1, ka_1, List.getD_cons_zero, List.getD_cons_succ, List.set_cons_zero, List.set_cons_succ, List.length_cons, List.length_nil, pk_I, pk_A, pr_A, pi_I, st_s, st_n, if_true, if_false, eq_self, d_if, d_ju, d_re, d_ca, cat0, cat1, cat2, cat3, fr_z, fr_s, cc_I, cc_A, cc_N, Nat.reduceAdd, Nat.reduceLT, Nat.reduceLeDiff, Nat.reduceEqDiff, not_true, not_false_iff, z1_0, z1_1, Bool.and_self, Bool.true_and, Bool.and_true, nI_add, pk_mul, nI_clamp, decide_true, Nat.le_refl, bI_eq, bI_z1, nI_ltI, nI_leI, pk_L, cc_L, lN_add, lN_mul, nI_l, hb, hcl, pk_sub, hsub]
      refine k_isDigit ?_
      rw [hnb]
      refine go_at (blk := b_Tokens_scanDigits_20) rfl ?_
      simp (disch := omega) only [b_Tokens_scanDigits_20, be_50_0, List.getD_cons_zero, List.getD_cons_succ, List.set_cons_zero, List.set_cons_succ, List.length_cons, List.length_nil, pk_I, pk_A, pr_A, pi_I, st_s, st_n, if_true, if_false, eq_self, d_if, d_ju, d_re, d_ca, cat0, cat1, cat2, cat3, fr_z, fr_s, cc_I, cc_A, cc_N, Nat.reduceAdd, Nat.reduceLT, Nat.reduceLeDiff, Nat.reduceEqDiff, not_true, not_false_iff, z1_0, z1_1, Bool.and_self, Bool.true_and, Bool.and_true, nI_add, pk_mul, nI_clamp, decide_true, Nat.le_refl, bI_eq, bI_z1, nI_ltI, nI_leI, pk_L, cc_L, lN_add, lN_mul, nI_l, hb, hcl, pk_sub, hsub]
      refine go_at (blk := b_Tokens_scanDigits_46) rfl ?_
      simp (disch := omega) only [b_Tokens_scanDigits_46, be_6, be_34, be_4, be_5, be_46, be_13, be_1, be_49_5, kc_20, rf_20_2, ka_23, rf_20_0, List.getD_cons_zero, List.getD_cons_succ, List.set_cons_zero, List.set_cons_succ, List.length_cons, List.length_nil, pk_I, pk_A, pr_A, pi_I, st_s, st_n, if_true, if_false, eq_self, d_if, d_ju, d_re, d_ca, cat0, cat1, cat2, cat3, fr_z, fr_s, cc_I, cc_A, cc_N, Nat.reduceAdd, Nat.reduceLT, Nat.reduceLeDiff, Nat.reduceEqDiff, not_true, not_false_iff, z1_0, z1_1, Bool.and_self, Bool.true_and, Bool.and_true, nI_add, pk_mul, nI_clamp, decide_true, Nat.le_refl, bI_eq, bI_z1, nI_ltI, nI_leI, pk_L, cc_L, lN_add, lN_mul, nI_l, hb, hcl, pk_sub, hsub]
      split
      · rename_i hk
        refine go_at (blk := b_Tokens_scanDigits_73) rfl ?_
        simp (disch := omega) only [b_Tokens_scanDigits_73, be_1, be_0, List.getD_cons_zero, List.getD_cons_succ, List.set_cons_zero, List.set_cons_succ, List.length_cons, List.length_nil, pk_I, pk_A, pr_A, pi_I, st_s, st_n, if_true, if_false, eq_self, d_if, d_ju, d_re, d_ca, cat0, cat1, cat2, cat3, fr_z, fr_s, cc_I, cc_A, cc_N, Nat.reduceAdd, Nat.reduceLT, Nat.reduceLeDiff, Nat.reduceEqDiff, not_true, not_false_iff, z1_0, z1_1, Bool.and_self, Bool.true_and, Bool.and_true, nI_add, pk_mul, nI_clamp, decide_true, Nat.le_refl, bI_eq, bI_z1, nI_ltI, nI_leI, pk_L, cc_L, lN_add, lN_mul, nI_l, hb, hcl, pk_sub, hsub]
        refine go_at (blk := b_Tokens_scanDigits_76) rfl ?_
        simp (disch := omega) only [b_Tokens_scanDigits_76, be_43, be_4, be_54, ka_21, List.getD_cons_zero, List.getD_cons_succ, List.set_cons_zero, List.set_cons_succ, List.length_cons, List.length_nil, pk_I, pk_A, pr_A, pi_I, st_s, st_n, if_true, if_false, eq_self, d_if, d_ju, d_re, d_ca, cat0, cat1, cat2, cat3, fr_z, fr_s, cc_I, cc_A, cc_N, Nat.reduceAdd, Nat.reduceLT, Nat.reduceLeDiff, Nat.reduceEqDiff, not_true, not_false_iff, z1_0, z1_1, Bool.and_self, Bool.true_and, Bool.and_true, nI_add, pk_mul, nI_clamp, decide_true, Nat.le_refl, bI_eq, bI_z1, nI_ltI, nI_leI, pk_L, cc_L, lN_add, lN_mul, nI_l, hb, hcl, pk_sub, hsub]
        exact hQ' 301 (am_uL w 23 t (lN (dgV b i (rl diB b len i)))) (by rw [if_neg (by omega)]) WF_u (by rw [uL_at, pk_uLs])
      · rename_i hk
        have hk : 4 < rl diB b len i := by omega
        refine go_at (blk := b_Tokens_scanDigits_67) rfl ?_
        simp (disch := omega) only [b_Tokens_scanDigits_67, be_1, be_51, List.getD_cons_zero, List.getD_cons_succ, List.set_cons_zero, List.set_cons_succ, List.length_cons, List.length_nil, pk_I, pk_A, pr_A, pi_I, st_s, st_n, if_true, if_false, eq_self, d_if, d_ju, d_re, d_ca, cat0, cat1, cat2, cat3, fr_z, fr_s, cc_I, cc_A, cc_N, Nat.reduceAdd, Nat.reduceLT, Nat.reduceLeDiff, Nat.reduceEqDiff, not_true, not_false_iff, z1_0, z1_1, Bool.and_self, Bool.true_and, Bool.and_true, nI_add, pk_mul, nI_clamp, decide_true, Nat.le_refl, bI_eq, bI_z1, nI_ltI, nI_leI, pk_L, cc_L, lN_add, lN_mul, nI_l, hb, hcl, pk_sub, hsub]
        refine go_at (blk := b_Tokens_scanDigits_76) rfl ?_
        simp (disch := omega) only [b_Tokens_scanDigits_76, be_43, be_4, be_54, ka_21, List.getD_cons_zero, List.getD_cons_succ, List.set_cons_zero, List.set_cons_succ, List.length_cons, List.length_nil, pk_I, pk_A, pr_A, pi_I, st_s, st_n, if_true, if_false, eq_self, d_if, d_ju, d_re, d_ca, cat0, cat1, cat2, cat3, fr_z, fr_s, cc_I, cc_A, cc_N, Nat.reduceAdd, Nat.reduceLT, Nat.reduceLeDiff, Nat.reduceEqDiff, not_true, not_false_iff, z1_0, z1_1, Bool.and_self, Bool.true_and, Bool.and_true, nI_add, pk_mul, nI_clamp, decide_true, Nat.le_refl, bI_eq, bI_z1, nI_ltI, nI_leI, pk_L, cc_L, lN_add, lN_mul, nI_l, hb, hcl, pk_sub, hsub]
        exact hQ' 303 (am_uL w 23 t (lN (dgV b i (rl diB b len i)))) (by rw [if_pos hk]) WF_u (by rw [uL_at, pk_uLs])
